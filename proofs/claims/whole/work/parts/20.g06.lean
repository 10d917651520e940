-- X3_undo
def F_X3_undo (x1 : Int32) (σ : fsS) : Option (Int32 × fsS) := if x1 < 0 then some ((-1 : Int32), σ) else if x1 ≤ (σ 3 3) then (F_X0_replay x1 σ).bind (fun q3 => some (((σ 3 3) - x1), q3)) else some ((-1 : Int32), σ)
set_option maxRecDepth 20000 in
set_option maxHeartbeats 40000000 in
theorem m_X3_undo (x1 : Int32)  (σ : fsS) (μ : fsL) (out : Int32 × fsS) (h : F_X3_undo x1 σ = some out) : fs_Met yX3_undo cX3_undo 3 (some .int) { frames := 5, cells := 0, slots := 0, locals := 116 } [.ref 0, .int x1] σ μ (some (.int out.1)) out.2 μ := by
  unfold F_X3_undo at h
  refine fs_intro (by decide +kernel) (Nat.le_of_ble_eq_true rfl) (fun X hX hR => ?_)
  show fs_PW X 0 [some (.ref 0), some (.int x1), none] [] σ μ
  refine s_iload_n hX dX3_undo_0 rfl ?_
  refine s_if_lt hX 15 dX3_undo_1 (by decide) (fun c1 => ?_) (fun c1 => ?_)
  · have h := (if_pos c1).symm.trans h
    refine s_ic hX (-1 : Int32) dX3_undo_15 (by decide) ?_
    cases h
    exact s_iret hX hR dX3_undo_16
  · have h := (if_neg c1).symm.trans h
    refine s_iload_n hX dX3_undo_4 rfl ?_
    refine s_aload_n hX dX3_undo_5 rfl ?_
    refine s_getr hX dX3_undo_6 f_X3_24 rfl ?_
    refine s_geti hX dX3_undo_9 f_X3_179 rfl ?_
    refine s_ic_le hX 17 dX3_undo_12 (by decide) (fun c2 => ?_) (fun c2 => ?_)
    · have h := (if_pos c2).symm.trans h
      refine s_aload_n hX dX3_undo_17 rfl ?_
      refine s_getr hX dX3_undo_18 f_X3_24 rfl ?_
      refine s_geti hX dX3_undo_21 f_X3_179 rfl ?_
      refine s_iload_n hX dX3_undo_24 rfl ?_
      refine s_isub hX dX3_undo_25 ?_
      refine s_istore_n hX dX3_undo_26 (Nat.le_of_ble_eq_true rfl) ?_
      refine s_aload_n hX dX3_undo_27 rfl ?_
      refine s_getr hX dX3_undo_28 f_X3_24 rfl ?_
      refine s_iload_n hX dX3_undo_31 rfl ?_
      obtain ⟨q3, e3, h⟩ := fs_bind h
      refine s_cV hX [.int x1] dX3_undo_32 k_X3_182 v_X0_replay (m_X0_replay x1 σ μ q3 e3) ⟨_, rfl⟩ fs_c0 ⟨rfl, rfl⟩ ⟨(Nat.le_of_ble_eq_true rfl), (Nat.le_of_ble_eq_true rfl)⟩ rfl rfl (Nat.le_of_ble_eq_true rfl) ?_
      refine s_iload_n hX dX3_undo_35 rfl ?_
      cases h
      exact s_iret hX hR dX3_undo_36
    · have h := (if_neg c2).symm.trans h
      refine s_ic hX (-1 : Int32) dX3_undo_15 (by decide) ?_
      cases h
      exact s_iret hX hR dX3_undo_16

-- X3_isKept
def F_X3_isKept (x0 : Int32) : Int32 := if x0 < 0 then (0 : Int32) else if (3 : Int32) ≤ x0 then (0 : Int32) else (1 : Int32)
theorem z_X3_isKept (x0 : Int32) : F_X3_isKept x0 = 0 ∨ F_X3_isKept x0 = 1 := by
  unfold F_X3_isKept
  (repeat' split) <;> first | exact Or.inl rfl | exact Or.inr rfl
set_option maxRecDepth 20000 in
set_option maxHeartbeats 40000000 in
theorem m_X3_isKept (x0 : Int32)  (σ : fsS) (μ : fsL) (out : Int32) (h : F_X3_isKept x0 = out) : fs_Met yX3_isKept cX3_isKept 1 (some .boolean) { frames := 0, cells := 0, slots := 0, locals := 0 } [.int x0] σ μ (some (.int out)) σ μ := by
  unfold F_X3_isKept at h
  refine fs_intro (by decide +kernel) (Nat.le_of_ble_eq_true rfl) (fun X hX hR => ?_)
  show fs_PW X 0 [some (.int x0)] [] σ μ
  refine s_iload_n hX dX3_isKept_0 rfl ?_
  refine s_if_lt hX 13 dX3_isKept_1 (by decide) (fun c1 => ?_) (fun c1 => ?_)
  · have h := (if_pos c1).symm.trans h
    refine s_ic hX (0 : Int32) dX3_isKept_13 (by decide) ?_
    subst h
    exact s_zret hX (Or.inl rfl) hR dX3_isKept_14
  · have h := (if_neg c1).symm.trans h
    refine s_iload_n hX dX3_isKept_4 rfl ?_
    refine s_ic hX (3 : Int32) dX3_isKept_5 (by decide) ?_
    refine s_ic_ge hX 13 dX3_isKept_6 (by decide) (fun c2 => ?_) (fun c2 => ?_)
    · have h := (if_pos c2).symm.trans h
      refine s_ic hX (0 : Int32) dX3_isKept_13 (by decide) ?_
      subst h
      exact s_zret hX (Or.inl rfl) hR dX3_isKept_14
    · have h := (if_neg c2).symm.trans h
      refine s_ic hX (1 : Int32) dX3_isKept_9 (by decide) ?_
      refine s_goto hX 14 dX3_isKept_10 (by decide) ?_
      subst h
      exact s_zret hX (Or.inr rfl) hR dX3_isKept_14

-- X3_keep
def F_X3_keep (x1 : Int32) (σ : fsS) : Option (Int32 × fsS) := if (F_X3_isKept x1) = 0 then some ((-1 : Int32), σ) else if (F_X3_noKin  σ) = 0 then (F_X0_store x1 σ).bind (fun q3 => some ((q3 3 3), q3)) else some ((-4 : Int32), σ)
set_option maxRecDepth 20000 in
set_option maxHeartbeats 40000000 in
theorem m_X3_keep (x1 : Int32)  (σ : fsS) (μ : fsL) (out : Int32 × fsS) (h : F_X3_keep x1 σ = some out) : fs_Met yX3_keep cX3_keep 2 (some .int) { frames := 2, cells := 0, slots := 0, locals := 47 } [.ref 0, .int x1] σ μ (some (.int out.1)) out.2 μ := by
  unfold F_X3_keep at h
  refine fs_intro (by decide +kernel) (Nat.le_of_ble_eq_true rfl) (fun X hX hR => ?_)
  show fs_PW X 0 [some (.ref 0), some (.int x1)] [] σ μ
  refine s_iload_n hX dX3_keep_0 rfl ?_
  refine s_callS hX (as := [.int x1]) dX3_keep_1 k_X3_185 v_X3_isKept (m_X3_isKept x1 σ μ _ rfl) ⟨rfl, rfl⟩ ⟨(Nat.le_of_ble_eq_true rfl), (Nat.le_of_ble_eq_true rfl)⟩ rfl rfl (Nat.le_of_ble_eq_true rfl) ?_
  refine s_if_ne hX 9 dX3_keep_4 (by decide) (fun c1 => ?_) (fun c1 => ?_)
  · have h := (if_neg c1).symm.trans h
    refine s_aload_n hX dX3_keep_9 rfl ?_
    refine s_cV hX [] dX3_keep_10 k_X3_150 v_X3_noKin (m_X3_noKin σ μ _ rfl) ⟨_, rfl⟩ fs_c3 ⟨rfl, rfl⟩ ⟨(Nat.le_of_ble_eq_true rfl), (Nat.le_of_ble_eq_true rfl)⟩ rfl rfl (Nat.le_of_ble_eq_true rfl) ?_
    refine s_if_eq hX 19 dX3_keep_13 (by decide) (fun c2 => ?_) (fun c2 => ?_)
    · have h := (if_pos c2).symm.trans h
      refine s_aload_n hX dX3_keep_19 rfl ?_
      refine s_getr hX dX3_keep_20 f_X3_24 rfl ?_
      refine s_iload_n hX dX3_keep_23 rfl ?_
      obtain ⟨q3, e3, h⟩ := fs_bind h
      refine s_cV hX [.int x1] dX3_keep_24 k_X3_188 v_X0_store (m_X0_store x1 σ μ q3 e3) ⟨_, rfl⟩ fs_c0 ⟨rfl, rfl⟩ ⟨(Nat.le_of_ble_eq_true rfl), (Nat.le_of_ble_eq_true rfl)⟩ rfl rfl (Nat.le_of_ble_eq_true rfl) ?_
      refine s_aload_n hX dX3_keep_27 rfl ?_
      refine s_getr hX dX3_keep_28 f_X3_24 rfl ?_
      refine s_geti hX dX3_keep_31 f_X3_179 rfl ?_
      cases h
      exact s_iret hX hR dX3_keep_34
    · have h := (if_neg c2).symm.trans h
      refine s_bi hX (-4 : Int32) dX3_keep_16 (by decide) ?_
      cases h
      exact s_iret hX hR dX3_keep_18
  · have h := (if_pos c1).symm.trans h
    refine s_ic hX (-1 : Int32) dX3_keep_7 (by decide) ?_
    cases h
    exact s_iret hX hR dX3_keep_8

-- X3_on
def F_X3_on (x1 : Int32) (σ : fsS) : Option (Int32 × fsS) := if (F_X3_isKept x1) = 0 then some ((-1 : Int32), σ) else fs_g (fs_in x1 3) (if (σ 13 x1.toNatClampNeg) = (-1 : Int32) then (F_X3_refuse (1 : Int32) σ).bind (fun q5 => some (q5.1, q5.2)) else (F_X0_restore x1 σ).bind (fun q4 => some ((q4 3 3), q4)))
set_option maxRecDepth 20000 in
set_option maxHeartbeats 40000000 in
theorem m_X3_on (x1 : Int32)  (σ : fsS) (μ : fsL) (out : Int32 × fsS) (h : F_X3_on x1 σ = some out) : fs_Met yX3_on cX3_on 2 (some .int) { frames := 6, cells := 0, slots := 0, locals := 137 } [.ref 0, .int x1] σ μ (some (.int out.1)) out.2 μ := by
  unfold F_X3_on at h
  refine fs_intro (by decide +kernel) (Nat.le_of_ble_eq_true rfl) (fun X hX hR => ?_)
  show fs_PW X 0 [some (.ref 0), some (.int x1)] [] σ μ
  refine s_iload_n hX dX3_on_0 rfl ?_
  refine s_callS hX (as := [.int x1]) dX3_on_1 k_X3_185 v_X3_isKept (m_X3_isKept x1 σ μ _ rfl) ⟨rfl, rfl⟩ ⟨(Nat.le_of_ble_eq_true rfl), (Nat.le_of_ble_eq_true rfl)⟩ rfl rfl (Nat.le_of_ble_eq_true rfl) ?_
  refine s_if_ne hX 9 dX3_on_4 (by decide) (fun c1 => ?_) (fun c1 => ?_)
  · have h := (if_neg c1).symm.trans h
    refine s_aload_n hX dX3_on_9 rfl ?_
    refine s_getr hX dX3_on_10 f_X3_24 rfl ?_
    refine s_getr hX dX3_on_13 f_X3_191 rfl ?_
    refine s_iload_n hX dX3_on_16 rfl ?_
    obtain ⟨g2, h⟩ := fs_gd h
    refine s_iald hX dX3_on_17 g2 ?_
    refine s_ic hX (-1 : Int32) dX3_on_18 (by decide) ?_
    refine s_ic_ne hX 28 dX3_on_19 (by decide) (fun c3 => ?_) (fun c3 => ?_)
    · have h := (if_neg c3).symm.trans h
      refine s_aload_n hX dX3_on_28 rfl ?_
      refine s_getr hX dX3_on_29 f_X3_24 rfl ?_
      refine s_iload_n hX dX3_on_32 rfl ?_
      obtain ⟨q4, e4, h⟩ := fs_bind h
      refine s_cV hX [.int x1] dX3_on_33 k_X3_194 v_X0_restore (m_X0_restore x1 σ μ q4 e4) ⟨_, rfl⟩ fs_c0 ⟨rfl, rfl⟩ ⟨(Nat.le_of_ble_eq_true rfl), (Nat.le_of_ble_eq_true rfl)⟩ rfl rfl (Nat.le_of_ble_eq_true rfl) ?_
      refine s_aload_n hX dX3_on_36 rfl ?_
      refine s_getr hX dX3_on_37 f_X3_24 rfl ?_
      refine s_geti hX dX3_on_40 f_X3_179 rfl ?_
      cases h
      exact s_iret hX hR dX3_on_43
    · have h := (if_pos c3).symm.trans h
      refine s_aload_n hX dX3_on_22 rfl ?_
      refine s_ic hX (1 : Int32) dX3_on_23 (by decide) ?_
      obtain ⟨q5, e5, h⟩ := fs_bind h
      refine s_cV hX [.int (1 : Int32)] dX3_on_24 k_X3_63 v_X3_refuse (m_X3_refuse (1 : Int32) σ μ q5 e5) ⟨_, rfl⟩ fs_c3 ⟨rfl, rfl⟩ ⟨(Nat.le_of_ble_eq_true rfl), (Nat.le_of_ble_eq_true rfl)⟩ rfl rfl (Nat.le_of_ble_eq_true rfl) ?_
      cases h
      exact s_iret hX hR dX3_on_27
  · have h := (if_pos c1).symm.trans h
    refine s_ic hX (-1 : Int32) dX3_on_7 (by decide) ?_
    cases h
    exact s_iret hX hR dX3_on_8

-- X3_box
def F_X3_box (σ : fsS) : Option (Int32 × fsS) := if (F_X3_noKin  σ) = 0 then (F_X1_weigh 5 σ).bind (fun q2 => some ((F_X3_tell (q2 5 8) (q2 5 9) q2).1, (F_X3_tell (q2 5 8) (q2 5 9) q2).2)) else some ((-4 : Int32), σ)
set_option maxRecDepth 20000 in
set_option maxHeartbeats 40000000 in
theorem m_X3_box   (σ : fsS) (μ : fsL) (out : Int32 × fsS) (h : F_X3_box  σ = some out) : fs_Met yX3_box cX3_box 1 (some .int) { frames := 2, cells := 0, slots := 0, locals := 47 } [.ref 0] σ μ (some (.int out.1)) out.2 μ := by
  unfold F_X3_box at h
  refine fs_intro (by decide +kernel) (Nat.le_of_ble_eq_true rfl) (fun X hX hR => ?_)
  show fs_PW X 0 [some (.ref 0)] [] σ μ
  refine s_aload_n hX dX3_box_0 rfl ?_
  refine s_cV hX [] dX3_box_1 k_X3_150 v_X3_noKin (m_X3_noKin σ μ _ rfl) ⟨_, rfl⟩ fs_c3 ⟨rfl, rfl⟩ ⟨(Nat.le_of_ble_eq_true rfl), (Nat.le_of_ble_eq_true rfl)⟩ rfl rfl (Nat.le_of_ble_eq_true rfl) ?_
  refine s_if_eq hX 10 dX3_box_4 (by decide) (fun c1 => ?_) (fun c1 => ?_)
  · have h := (if_pos c1).symm.trans h
    refine s_aload_n hX dX3_box_10 rfl ?_
    refine s_getr hX dX3_box_11 f_X3_24 rfl ?_
    refine s_getr hX dX3_box_14 f_X3_113 rfl ?_
    obtain ⟨q2, e2, h⟩ := fs_bind h
    refine s_cV hX [] dX3_box_17 k_X3_197 v_X1_weigh (m_X1_weigh 5 fs_K5 σ μ q2 e2) (fs_K_is fs_K5) fs_c1 ⟨rfl, rfl⟩ ⟨(Nat.le_of_ble_eq_true rfl), (Nat.le_of_ble_eq_true rfl)⟩ rfl rfl (Nat.le_of_ble_eq_true rfl) ?_
    refine s_aload_n hX dX3_box_20 rfl ?_
    refine s_aload_n hX dX3_box_21 rfl ?_
    refine s_getr hX dX3_box_22 f_X3_24 rfl ?_
    refine s_getr hX dX3_box_25 f_X3_113 rfl ?_
    refine s_geti hX dX3_box_28 f_X3_200 rfl ?_
    refine s_aload_n hX dX3_box_31 rfl ?_
    refine s_getr hX dX3_box_32 f_X3_24 rfl ?_
    refine s_getr hX dX3_box_35 f_X3_113 rfl ?_
    refine s_geti hX dX3_box_38 f_X3_167 rfl ?_
    refine s_cV hX [.int (q2 5 8), .int (q2 5 9)] dX3_box_41 k_X3_79 v_X3_tell (m_X3_tell (q2 5 8) (q2 5 9) q2 μ _ rfl) ⟨_, rfl⟩ fs_c3 ⟨rfl, rfl⟩ ⟨(Nat.le_of_ble_eq_true rfl), (Nat.le_of_ble_eq_true rfl)⟩ rfl rfl (Nat.le_of_ble_eq_true rfl) ?_
    cases h
    exact s_iret hX hR dX3_box_44
  · have h := (if_neg c1).symm.trans h
    refine s_bi hX (-4 : Int32) dX3_box_7 (by decide) ?_
    cases h
    exact s_iret hX hR dX3_box_9

-- X3_later
def L_X3_later_39  : Nat → Int32 → Int32 → Int32 → Int32 → fsS → Option (Int32 × fsS)
  | 0, _, _, _, _, _ => none
  | n0 + 1, y1, y2, y3, y4, σ => if y2 ≤ y4 then some (y3, σ) else (F_X1_pass 6 σ).bind (fun q6 => fs_g (fs_in y1 6) (L_X3_later_39  n0 y1 y2 (y3 + (q6.2 34 y1.toNatClampNeg)) (y4 + (1 : Int32)) q6.2))
def F_X3_later (x1 : Int32) (x2 : Int32) (σ : fsS) : Option (Int32 × fsS) := if (F_X3_isKin x1 σ) = 0 then some ((-1 : Int32), σ) else if x2 < 0 then some ((-1 : Int32), σ) else if x2 ≤ (60 : Int32) then (F_X1_take 6 5 σ).bind (fun q4 => (L_X3_later_39  fs_fu x1 x2 (0 : Int32) (0 : Int32) q4).bind (fun q8 => fs_g (fs_in x1 6) (some ((F_X3_tell q8.1 (q8.2 31 x1.toNatClampNeg) q8.2).1, (F_X3_tell q8.1 (q8.2 31 x1.toNatClampNeg) q8.2).2)))) else some ((-1 : Int32), σ)
set_option maxRecDepth 20000 in
set_option maxHeartbeats 40000000 in
theorem l_X3_later_39   {X : fsC} (hX : fs_ok cX3_later RX3 5 { frames := 3, cells := 0, slots := 0, locals := 70 } X) : ∀ (n : Nat) (y1 : Int32) (y2 : Int32) (y3 : Int32) (y4 : Int32) (σ : fsS) (μ : fsL) (out : Int32 × fsS) (_ : L_X3_later_39  n y1 y2 y3 y4 σ = some out) (k0 : fs_PW X 71 [some (.ref 0), some (.int y1), none, some (.int out.1), none] [] out.2 μ), fs_PW X 39 [some (.ref 0), some (.int y1), some (.int y2), some (.int y3), some (.int y4)] [] σ μ := by
  intro n
  induction n with
  | zero =>
    intro y1 y2 y3 y4 σ μ out h
    cases (show (none : Option (Int32 × fsS)) = some out from h)
  | succ n0 ih =>
    intro y1 y2 y3 y4 σ μ out h k0
    unfold L_X3_later_39 at h
    refine s_iload hX dX3_later_39 rfl ?_
    refine s_iload_n hX dX3_later_41 rfl ?_
    refine s_ic_ge hX 71 dX3_later_42 (by decide) (fun c5 => ?_) (fun c5 => ?_)
    · have h := (if_pos c5).symm.trans h
      cases h
      refine fs_ma [true, true, false, true, false] ?_
      exact k0
    · have h := (if_neg c5).symm.trans h
      refine s_aload_n hX dX3_later_45 rfl ?_
      refine s_getr hX dX3_later_46 f_X3_31 rfl ?_
      obtain ⟨q6, e6, h⟩ := fs_bind h
      refine s_cV hX [] dX3_later_49 k_X3_206 v_X1_pass (m_X1_pass 6 fs_K6 σ μ q6 e6) (fs_K_is fs_K6) fs_c1 ⟨rfl, rfl⟩ ⟨(Nat.le_of_ble_eq_true rfl), (Nat.le_of_ble_eq_true rfl)⟩ rfl rfl (Nat.le_of_ble_eq_true rfl) ?_
      refine s_pop hX dX3_later_52 rfl ?_
      refine s_iload_n hX dX3_later_53 rfl ?_
      refine s_aload_n hX dX3_later_54 rfl ?_
      refine s_getr hX dX3_later_55 f_X3_31 rfl ?_
      refine s_getr hX dX3_later_58 f_X3_209 rfl ?_
      refine s_iload_n hX dX3_later_61 rfl ?_
      obtain ⟨g7, h⟩ := fs_gd h
      refine s_iald hX dX3_later_62 g7 ?_
      refine s_iadd hX dX3_later_63 ?_
      refine s_istore_n hX dX3_later_64 (Nat.le_of_ble_eq_true rfl) ?_
      refine s_iinc hX (y4 + (1 : Int32)) dX3_later_65 rfl rfl (Nat.le_of_ble_eq_true rfl) ?_
      refine s_goto hX 39 dX3_later_68 (by decide) ?_
      refine fs_ma [true, true, true, true, true] ?_
      exact ih y1 y2 (y3 + (q6.2 34 y1.toNatClampNeg)) (y4 + (1 : Int32)) q6.2 μ out h k0
set_option maxRecDepth 20000 in
set_option maxHeartbeats 40000000 in
theorem m_X3_later (x1 : Int32) (x2 : Int32)  (σ : fsS) (μ : fsL) (out : Int32 × fsS) (h : F_X3_later x1 x2 σ = some out) : fs_Met yX3_later cX3_later 5 (some .int) { frames := 3, cells := 0, slots := 0, locals := 70 } [.ref 0, .int x1, .int x2] σ μ (some (.int out.1)) out.2 μ := by
  unfold F_X3_later at h
  refine fs_intro (by decide +kernel) (Nat.le_of_ble_eq_true rfl) (fun X hX hR => ?_)
  show fs_PW X 0 [some (.ref 0), some (.int x1), some (.int x2), none, none] [] σ μ
  refine s_aload_n hX dX3_later_0 rfl ?_
  refine s_iload_n hX dX3_later_1 rfl ?_
  refine s_cV hX [.int x1] dX3_later_2 k_X3_119 v_X3_isKin (m_X3_isKin x1 σ μ _ rfl) ⟨_, rfl⟩ fs_c3 ⟨rfl, rfl⟩ ⟨(Nat.le_of_ble_eq_true rfl), (Nat.le_of_ble_eq_true rfl)⟩ rfl rfl (Nat.le_of_ble_eq_true rfl) ?_
  refine s_if_eq hX 18 dX3_later_5 (by decide) (fun c1 => ?_) (fun c1 => ?_)
  · have h := (if_pos c1).symm.trans h
    refine s_ic hX (-1 : Int32) dX3_later_18 (by decide) ?_
    cases h
    exact s_iret hX hR dX3_later_19
  · have h := (if_neg c1).symm.trans h
    refine s_iload_n hX dX3_later_8 rfl ?_
    refine s_if_lt hX 18 dX3_later_9 (by decide) (fun c2 => ?_) (fun c2 => ?_)
    · have h := (if_pos c2).symm.trans h
      refine s_ic hX (-1 : Int32) dX3_later_18 (by decide) ?_
      cases h
      exact s_iret hX hR dX3_later_19
    · have h := (if_neg c2).symm.trans h
      refine s_iload_n hX dX3_later_12 rfl ?_
      refine s_bi hX (60 : Int32) dX3_later_13 (by decide) ?_
      refine s_ic_le hX 20 dX3_later_15 (by decide) (fun c3 => ?_) (fun c3 => ?_)
      · have h := (if_pos c3).symm.trans h
        refine s_aload_n hX dX3_later_20 rfl ?_
        refine s_getr hX dX3_later_21 f_X3_31 rfl ?_
        refine s_aload_n hX dX3_later_24 rfl ?_
        refine s_getr hX dX3_later_25 f_X3_24 rfl ?_
        refine s_getr hX dX3_later_28 f_X3_113 rfl ?_
        obtain ⟨q4, e4, h⟩ := fs_bind h
        refine s_cV hX [.ref 5] dX3_later_31 k_X3_203 v_X1_take (m_X1_take 6 5 fs_K6 fs_K5 σ μ q4 e4) (fs_K_is fs_K6) fs_c1 ⟨rfl, rfl⟩ ⟨(Nat.le_of_ble_eq_true rfl), (Nat.le_of_ble_eq_true rfl)⟩ rfl rfl (Nat.le_of_ble_eq_true rfl) ?_
        refine s_ic hX (0 : Int32) dX3_later_34 (by decide) ?_
        refine s_istore_n hX dX3_later_35 (Nat.le_of_ble_eq_true rfl) ?_
        refine s_ic hX (0 : Int32) dX3_later_36 (by decide) ?_
        refine s_istore hX dX3_later_37 (Nat.le_of_ble_eq_true rfl) ?_
        obtain ⟨q8, e8, h⟩ := fs_bind h
        refine fs_ma [true, true, true, true, true] ?_
        refine l_X3_later_39  hX fs_fu x1 x2 (0 : Int32) (0 : Int32) q4 μ q8 e8 ?_
        refine s_aload_n hX dX3_later_71 rfl ?_
        refine s_iload_n hX dX3_later_72 rfl ?_
        refine s_aload_n hX dX3_later_73 rfl ?_
        refine s_getr hX dX3_later_74 f_X3_31 rfl ?_
        refine s_getr hX dX3_later_77 f_X3_176 rfl ?_
        refine s_iload_n hX dX3_later_80 rfl ?_
        obtain ⟨g9, h⟩ := fs_gd h
        refine s_iald hX dX3_later_81 g9 ?_
        refine s_cV hX [.int q8.1, .int (q8.2 31 x1.toNatClampNeg)] dX3_later_82 k_X3_79 v_X3_tell (m_X3_tell q8.1 (q8.2 31 x1.toNatClampNeg) q8.2 μ _ rfl) ⟨_, rfl⟩ fs_c3 ⟨rfl, rfl⟩ ⟨(Nat.le_of_ble_eq_true rfl), (Nat.le_of_ble_eq_true rfl)⟩ rfl rfl (Nat.le_of_ble_eq_true rfl) ?_
        cases h
        exact s_iret hX hR dX3_later_85
      · have h := (if_neg c3).symm.trans h
        refine s_ic hX (-1 : Int32) dX3_later_18 (by decide) ?_
        cases h
        exact s_iret hX hR dX3_later_19

-- X3_settles
def L_X3_settles_26  : Nat → Int32 → fsS → Option (Nat × Int32 × fsS)
  | 0, _, _ => none
  | n0 + 1, y1, σ => if (60 : Int32) < y1 then some (1, (0 : Int32), σ) else (F_X1_pass 6 σ).bind (fun q4 => if q4.1 = 0 then some (0, y1, q4.2) else L_X3_settles_26  n0 (y1 + (1 : Int32)) q4.2)
def F_X3_settles (σ : fsS) : Option (Int32 × fsS) := if (F_X3_noKin  σ) = 0 then (F_X1_take 6 5 σ).bind (fun q2 => (L_X3_settles_26  fs_fu (0 : Int32) q2).bind (fun q6 => if q6.1 = 0 then some ((F_X3_tell (q6.2.2 6 9) q6.2.1 q6.2.2).1, (F_X3_tell (q6.2.2 6 9) q6.2.1 q6.2.2).2) else some ((-9 : Int32), q6.2.2))) else some ((-4 : Int32), σ)
set_option maxRecDepth 20000 in
set_option maxHeartbeats 40000000 in
theorem l_X3_settles_26   {X : fsC} (hX : fs_ok cX3_settles RX3 2 { frames := 3, cells := 0, slots := 0, locals := 70 } X) : ∀ (n : Nat) (y1 : Int32) (σ : fsS) (μ : fsL) (out : Nat × Int32 × fsS) (_ : L_X3_settles_26  n y1 σ = some out) (k0 : out.1 = 0 → fs_PW X 42 [some (.ref 0), some (.int out.2.1)] [] out.2.2 μ) (k1 : out.1 = 1 → fs_PW X 61 [none, none] [] out.2.2 μ), fs_PW X 26 [some (.ref 0), some (.int y1)] [] σ μ := by
  intro n
  induction n with
  | zero =>
    intro y1 σ μ out h
    cases (show (none : Option (Nat × Int32 × fsS)) = some out from h)
  | succ n0 ih =>
    intro y1 σ μ out h k0 k1
    unfold L_X3_settles_26 at h
    refine s_iload_n hX dX3_settles_26 rfl ?_
    refine s_bi hX (60 : Int32) dX3_settles_27 (by decide) ?_
    refine s_ic_gt hX 61 dX3_settles_29 (by decide) (fun c3 => ?_) (fun c3 => ?_)
    · have h := (if_pos c3).symm.trans h
      cases h
      refine fs_ma [false, false] ?_
      exact k1 rfl
    · have h := (if_neg c3).symm.trans h
      refine s_aload_n hX dX3_settles_32 rfl ?_
      refine s_getr hX dX3_settles_33 f_X3_31 rfl ?_
      obtain ⟨q4, e4, h⟩ := fs_bind h
      refine s_cV hX [] dX3_settles_36 k_X3_206 v_X1_pass (m_X1_pass 6 fs_K6 σ μ q4 e4) (fs_K_is fs_K6) fs_c1 ⟨rfl, rfl⟩ ⟨(Nat.le_of_ble_eq_true rfl), (Nat.le_of_ble_eq_true rfl)⟩ rfl rfl (Nat.le_of_ble_eq_true rfl) ?_
      refine s_if_ne hX 55 dX3_settles_39 (by decide) (fun c5 => ?_) (fun c5 => ?_)
      · have h := (if_neg c5).symm.trans h
        refine s_iinc hX (y1 + (1 : Int32)) dX3_settles_55 rfl rfl (Nat.le_of_ble_eq_true rfl) ?_
        refine s_goto hX 26 dX3_settles_58 (by decide) ?_
        refine fs_ma [true, true] ?_
        exact ih (y1 + (1 : Int32)) q4.2 μ out h k0 k1
      · have h := (if_pos c5).symm.trans h
        cases h
        refine fs_ma [true, true] ?_
        exact k0 rfl
set_option maxRecDepth 20000 in
set_option maxHeartbeats 40000000 in
theorem m_X3_settles   (σ : fsS) (μ : fsL) (out : Int32 × fsS) (h : F_X3_settles  σ = some out) : fs_Met yX3_settles cX3_settles 2 (some .int) { frames := 3, cells := 0, slots := 0, locals := 70 } [.ref 0] σ μ (some (.int out.1)) out.2 μ := by
  unfold F_X3_settles at h
  refine fs_intro (by decide +kernel) (Nat.le_of_ble_eq_true rfl) (fun X hX hR => ?_)
  show fs_PW X 0 [some (.ref 0), none] [] σ μ
  refine s_aload_n hX dX3_settles_0 rfl ?_
  refine s_cV hX [] dX3_settles_1 k_X3_150 v_X3_noKin (m_X3_noKin σ μ _ rfl) ⟨_, rfl⟩ fs_c3 ⟨rfl, rfl⟩ ⟨(Nat.le_of_ble_eq_true rfl), (Nat.le_of_ble_eq_true rfl)⟩ rfl rfl (Nat.le_of_ble_eq_true rfl) ?_
  refine s_if_eq hX 10 dX3_settles_4 (by decide) (fun c1 => ?_) (fun c1 => ?_)
  · have h := (if_pos c1).symm.trans h
    refine s_aload_n hX dX3_settles_10 rfl ?_
    refine s_getr hX dX3_settles_11 f_X3_31 rfl ?_
    refine s_aload_n hX dX3_settles_14 rfl ?_
    refine s_getr hX dX3_settles_15 f_X3_24 rfl ?_
    refine s_getr hX dX3_settles_18 f_X3_113 rfl ?_
    obtain ⟨q2, e2, h⟩ := fs_bind h
    refine s_cV hX [.ref 5] dX3_settles_21 k_X3_203 v_X1_take (m_X1_take 6 5 fs_K6 fs_K5 σ μ q2 e2) (fs_K_is fs_K6) fs_c1 ⟨rfl, rfl⟩ ⟨(Nat.le_of_ble_eq_true rfl), (Nat.le_of_ble_eq_true rfl)⟩ rfl rfl (Nat.le_of_ble_eq_true rfl) ?_
    refine s_ic hX (0 : Int32) dX3_settles_24 (by decide) ?_
    refine s_istore_n hX dX3_settles_25 (Nat.le_of_ble_eq_true rfl) ?_
    obtain ⟨q6, e6, h⟩ := fs_bind h
    refine fs_ma [true, true] ?_
    refine l_X3_settles_26  hX fs_fu (0 : Int32) q2 μ q6 e6 (fun c7 => ?_) (fun c7 => ?_)
    · have h := (if_pos c7).symm.trans h
      refine s_aload_n hX dX3_settles_42 rfl ?_
      refine s_aload_n hX dX3_settles_43 rfl ?_
      refine s_getr hX dX3_settles_44 f_X3_31 rfl ?_
      refine s_geti hX dX3_settles_47 f_X3_167 rfl ?_
      refine s_iload_n hX dX3_settles_50 rfl ?_
      refine s_cV hX [.int (q6.2.2 6 9), .int q6.2.1] dX3_settles_51 k_X3_79 v_X3_tell (m_X3_tell (q6.2.2 6 9) q6.2.1 q6.2.2 μ _ rfl) ⟨_, rfl⟩ fs_c3 ⟨rfl, rfl⟩ ⟨(Nat.le_of_ble_eq_true rfl), (Nat.le_of_ble_eq_true rfl)⟩ rfl rfl (Nat.le_of_ble_eq_true rfl) ?_
      cases h
      exact s_iret hX hR dX3_settles_54
    · have h := (if_neg (show ¬ q6.1 = 0 by rw [c7]; decide)).symm.trans h
      refine s_bi hX (-9 : Int32) dX3_settles_61 (by decide) ?_
      cases h
      exact s_iret hX hR dX3_settles_63
  · have h := (if_neg c1).symm.trans h
    refine s_bi hX (-4 : Int32) dX3_settles_7 (by decide) ?_
    cases h
    exact s_iret hX hR dX3_settles_9

-- X3_mill
def L_X3_mill_38  : Nat → Int32 → Int32 → fsS → Option (Nat × Int32 × Int32 × fsS)
  | 0, _, _, _ => none
  | n0 + 1, y1, y2, σ => if (60 : Int32) < y2 then some (1, (0 : Int32), (0 : Int32), σ) else (F_X1_firstWith 6 y1 σ).bind (fun q6 => if q6 = (-9 : Int32) then (F_X1_pass 6 σ).bind (fun q8 => L_X3_mill_38  n0 y1 (y2 + (1 : Int32)) q8.2) else some (0, y2, q6, σ))
def F_X3_mill (x1 : Int32) (σ : fsS) : Option (Int32 × fsS) := if x1 < 0 then some ((-1 : Int32), σ) else if x1 ≤ (99 : Int32) then if (F_X3_noKin  σ) = 0 then (F_X1_take 6 5 σ).bind (fun q4 => (L_X3_mill_38  fs_fu x1 (0 : Int32) q4).bind (fun q9 => if q9.1 = 0 then some ((F_X3_tell q9.2.1 q9.2.2.1 q9.2.2.2).1, (F_X3_tell q9.2.1 q9.2.2.1 q9.2.2.2).2) else some ((-9 : Int32), q9.2.2.2))) else some ((-4 : Int32), σ) else some ((-1 : Int32), σ)
set_option maxRecDepth 20000 in
set_option maxHeartbeats 40000000 in
theorem l_X3_mill_38   {X : fsC} (hX : fs_ok cX3_mill RX3 4 { frames := 3, cells := 0, slots := 0, locals := 70 } X) : ∀ (n : Nat) (y1 : Int32) (y2 : Int32) (σ : fsS) (μ : fsL) (out : Nat × Int32 × Int32 × fsS) (_ : L_X3_mill_38  n y1 y2 σ = some out) (k0 : out.1 = 0 → fs_PW X 59 [some (.ref 0), none, some (.int out.2.1), some (.int out.2.2.1)] [] out.2.2.2 μ) (k1 : out.1 = 1 → fs_PW X 80 [none, none, none, none] [] out.2.2.2 μ), fs_PW X 38 [some (.ref 0), some (.int y1), some (.int y2), none] [] σ μ := by
  intro n
  induction n with
  | zero =>
    intro y1 y2 σ μ out h
    cases (show (none : Option (Nat × Int32 × Int32 × fsS)) = some out from h)
  | succ n0 ih =>
    intro y1 y2 σ μ out h k0 k1
    unfold L_X3_mill_38 at h
    refine s_iload_n hX dX3_mill_38 rfl ?_
    refine s_bi hX (60 : Int32) dX3_mill_39 (by decide) ?_
    refine s_ic_gt hX 80 dX3_mill_41 (by decide) (fun c5 => ?_) (fun c5 => ?_)
    · have h := (if_pos c5).symm.trans h
      cases h
      refine fs_ma [false, false, false, false] ?_
      exact k1 rfl
    · have h := (if_neg c5).symm.trans h
      refine s_aload_n hX dX3_mill_44 rfl ?_
      refine s_getr hX dX3_mill_45 f_X3_31 rfl ?_
      refine s_iload_n hX dX3_mill_48 rfl ?_
      obtain ⟨q6, e6, h⟩ := fs_bind h
      refine s_cV hX [.int y1] dX3_mill_49 k_X3_212 v_X1_firstWith (m_X1_firstWith 6 y1 fs_K6 σ μ q6 e6) (fs_K_is fs_K6) fs_c1 ⟨rfl, rfl⟩ ⟨(Nat.le_of_ble_eq_true rfl), (Nat.le_of_ble_eq_true rfl)⟩ rfl rfl (Nat.le_of_ble_eq_true rfl) ?_
      refine s_istore_n hX dX3_mill_52 (Nat.le_of_ble_eq_true rfl) ?_
      refine s_iload_n hX dX3_mill_53 rfl ?_
      refine s_bi hX (-9 : Int32) dX3_mill_54 (by decide) ?_
      refine s_ic_eq hX 66 dX3_mill_56 (by decide) (fun c7 => ?_) (fun c7 => ?_)
      · have h := (if_pos c7).symm.trans h
        refine s_aload_n hX dX3_mill_66 rfl ?_
        refine s_getr hX dX3_mill_67 f_X3_31 rfl ?_
        obtain ⟨q8, e8, h⟩ := fs_bind h
        refine s_cV hX [] dX3_mill_70 k_X3_206 v_X1_pass (m_X1_pass 6 fs_K6 σ μ q8 e8) (fs_K_is fs_K6) fs_c1 ⟨rfl, rfl⟩ ⟨(Nat.le_of_ble_eq_true rfl), (Nat.le_of_ble_eq_true rfl)⟩ rfl rfl (Nat.le_of_ble_eq_true rfl) ?_
        refine s_pop hX dX3_mill_73 rfl ?_
        refine s_iinc hX (y2 + (1 : Int32)) dX3_mill_74 rfl rfl (Nat.le_of_ble_eq_true rfl) ?_
        refine s_goto hX 38 dX3_mill_77 (by decide) ?_
        refine fs_ma [true, true, true, false] ?_
        exact ih y1 (y2 + (1 : Int32)) q8.2 μ out h k0 k1
      · have h := (if_neg c7).symm.trans h
        cases h
        refine fs_ma [true, false, true, true] ?_
        exact k0 rfl
set_option maxRecDepth 20000 in
set_option maxHeartbeats 40000000 in
theorem m_X3_mill (x1 : Int32)  (σ : fsS) (μ : fsL) (out : Int32 × fsS) (h : F_X3_mill x1 σ = some out) : fs_Met yX3_mill cX3_mill 4 (some .int) { frames := 3, cells := 0, slots := 0, locals := 70 } [.ref 0, .int x1] σ μ (some (.int out.1)) out.2 μ := by
  unfold F_X3_mill at h
  refine fs_intro (by decide +kernel) (Nat.le_of_ble_eq_true rfl) (fun X hX hR => ?_)
  show fs_PW X 0 [some (.ref 0), some (.int x1), none, none] [] σ μ
  refine s_iload_n hX dX3_mill_0 rfl ?_
  refine s_if_lt hX 10 dX3_mill_1 (by decide) (fun c1 => ?_) (fun c1 => ?_)
  · have h := (if_pos c1).symm.trans h
    refine s_ic hX (-1 : Int32) dX3_mill_10 (by decide) ?_
    cases h
    exact s_iret hX hR dX3_mill_11
  · have h := (if_neg c1).symm.trans h
    refine s_iload_n hX dX3_mill_4 rfl ?_
    refine s_bi hX (99 : Int32) dX3_mill_5 (by decide) ?_
    refine s_ic_le hX 12 dX3_mill_7 (by decide) (fun c2 => ?_) (fun c2 => ?_)
    · have h := (if_pos c2).symm.trans h
      refine s_aload_n hX dX3_mill_12 rfl ?_
      refine s_cV hX [] dX3_mill_13 k_X3_150 v_X3_noKin (m_X3_noKin σ μ _ rfl) ⟨_, rfl⟩ fs_c3 ⟨rfl, rfl⟩ ⟨(Nat.le_of_ble_eq_true rfl), (Nat.le_of_ble_eq_true rfl)⟩ rfl rfl (Nat.le_of_ble_eq_true rfl) ?_
      refine s_if_eq hX 22 dX3_mill_16 (by decide) (fun c3 => ?_) (fun c3 => ?_)
      · have h := (if_pos c3).symm.trans h
        refine s_aload_n hX dX3_mill_22 rfl ?_
        refine s_getr hX dX3_mill_23 f_X3_31 rfl ?_
        refine s_aload_n hX dX3_mill_26 rfl ?_
        refine s_getr hX dX3_mill_27 f_X3_24 rfl ?_
        refine s_getr hX dX3_mill_30 f_X3_113 rfl ?_
        obtain ⟨q4, e4, h⟩ := fs_bind h
        refine s_cV hX [.ref 5] dX3_mill_33 k_X3_203 v_X1_take (m_X1_take 6 5 fs_K6 fs_K5 σ μ q4 e4) (fs_K_is fs_K6) fs_c1 ⟨rfl, rfl⟩ ⟨(Nat.le_of_ble_eq_true rfl), (Nat.le_of_ble_eq_true rfl)⟩ rfl rfl (Nat.le_of_ble_eq_true rfl) ?_
        refine s_ic hX (0 : Int32) dX3_mill_36 (by decide) ?_
        refine s_istore_n hX dX3_mill_37 (Nat.le_of_ble_eq_true rfl) ?_
        obtain ⟨q9, e9, h⟩ := fs_bind h
        refine fs_ma [true, true, true, false] ?_
        refine l_X3_mill_38  hX fs_fu x1 (0 : Int32) q4 μ q9 e9 (fun c10 => ?_) (fun c10 => ?_)
        · have h := (if_pos c10).symm.trans h
          refine s_aload_n hX dX3_mill_59 rfl ?_
          refine s_iload_n hX dX3_mill_60 rfl ?_
          refine s_iload_n hX dX3_mill_61 rfl ?_
          refine s_cV hX [.int q9.2.1, .int q9.2.2.1] dX3_mill_62 k_X3_79 v_X3_tell (m_X3_tell q9.2.1 q9.2.2.1 q9.2.2.2 μ _ rfl) ⟨_, rfl⟩ fs_c3 ⟨rfl, rfl⟩ ⟨(Nat.le_of_ble_eq_true rfl), (Nat.le_of_ble_eq_true rfl)⟩ rfl rfl (Nat.le_of_ble_eq_true rfl) ?_
          cases h
          exact s_iret hX hR dX3_mill_65
        · have h := (if_neg (show ¬ q9.1 = 0 by rw [c10]; decide)).symm.trans h
          refine s_bi hX (-9 : Int32) dX3_mill_80 (by decide) ?_
          cases h
          exact s_iret hX hR dX3_mill_82
      · have h := (if_neg c3).symm.trans h
        refine s_bi hX (-4 : Int32) dX3_mill_19 (by decide) ?_
        cases h
        exact s_iret hX hR dX3_mill_21
    · have h := (if_neg c2).symm.trans h
      refine s_ic hX (-1 : Int32) dX3_mill_10 (by decide) ?_
      cases h
      exact s_iret hX hR dX3_mill_11

-- X3_purseBehind
def F_X3_purseBehind (x1 : Int32) (x2 : Int32) (x3 : Int32) (σ : fsS) : Option (Int32 × fsS) := (F_X1_take 6 5 σ).bind (fun q1 => fs_g (fs_in x1 6) (fs_g (fs_in x1 6) ((F_X1_passAll 6 x3 (fs_u q1 32 x1.toNatClampNeg ((q1 32 x1.toNatClampNeg) + x2))).bind (fun q4 => fs_g (fs_in x1 6) (some ((q4.2 31 x1.toNatClampNeg), q4.2))))))
set_option maxRecDepth 20000 in
set_option maxHeartbeats 40000000 in
theorem m_X3_purseBehind (x1 : Int32) (x2 : Int32) (x3 : Int32)  (σ : fsS) (μ : fsL) (out : Int32 × fsS) (h : F_X3_purseBehind x1 x2 x3 σ = some out) : fs_Met yX3_purseBehind cX3_purseBehind 4 (some .int) { frames := 4, cells := 0, slots := 0, locals := 93 } [.ref 0, .int x1, .int x2, .int x3] σ μ (some (.int out.1)) out.2 μ := by
  unfold F_X3_purseBehind at h
  refine fs_intro (by decide +kernel) (Nat.le_of_ble_eq_true rfl) (fun X hX hR => ?_)
  show fs_PW X 0 [some (.ref 0), some (.int x1), some (.int x2), some (.int x3)] [] σ μ
  refine s_aload_n hX dX3_purseBehind_0 rfl ?_
  refine s_getr hX dX3_purseBehind_1 f_X3_31 rfl ?_
  refine s_aload_n hX dX3_purseBehind_4 rfl ?_
  refine s_getr hX dX3_purseBehind_5 f_X3_24 rfl ?_
  refine s_getr hX dX3_purseBehind_8 f_X3_113 rfl ?_
  obtain ⟨q1, e1, h⟩ := fs_bind h
  refine s_cV hX [.ref 5] dX3_purseBehind_11 k_X3_203 v_X1_take (m_X1_take 6 5 fs_K6 fs_K5 σ μ q1 e1) (fs_K_is fs_K6) fs_c1 ⟨rfl, rfl⟩ ⟨(Nat.le_of_ble_eq_true rfl), (Nat.le_of_ble_eq_true rfl)⟩ rfl rfl (Nat.le_of_ble_eq_true rfl) ?_
  refine s_aload_n hX dX3_purseBehind_14 rfl ?_
  refine s_getr hX dX3_purseBehind_15 f_X3_31 rfl ?_
  refine s_getr hX dX3_purseBehind_18 f_X3_170 rfl ?_
  refine s_iload_n hX dX3_purseBehind_21 rfl ?_
  refine s_dup2 hX dX3_purseBehind_22 rfl rfl ?_
  obtain ⟨g2, h⟩ := fs_gd h
  refine s_iald hX dX3_purseBehind_23 g2 ?_
  refine s_iload_n hX dX3_purseBehind_24 rfl ?_
  refine s_iadd hX dX3_purseBehind_25 ?_
  obtain ⟨g3, h⟩ := fs_gd h
  refine s_iast hX dX3_purseBehind_26 g3 ?_
  refine s_aload_n hX dX3_purseBehind_27 rfl ?_
  refine s_getr hX dX3_purseBehind_28 f_X3_31 rfl ?_
  refine s_iload_n hX dX3_purseBehind_31 rfl ?_
  obtain ⟨q4, e4, h⟩ := fs_bind h
  refine s_cV hX [.int x3] dX3_purseBehind_32 k_X3_320 v_X1_passAll (m_X1_passAll 6 x3 fs_K6 (fs_u q1 32 x1.toNatClampNeg ((q1 32 x1.toNatClampNeg) + x2)) μ q4 e4) (fs_K_is fs_K6) fs_c1 ⟨rfl, rfl⟩ ⟨(Nat.le_of_ble_eq_true rfl), (Nat.le_of_ble_eq_true rfl)⟩ rfl rfl (Nat.le_of_ble_eq_true rfl) ?_
  refine s_pop hX dX3_purseBehind_35 rfl ?_
  refine s_aload_n hX dX3_purseBehind_36 rfl ?_
  refine s_getr hX dX3_purseBehind_37 f_X3_31 rfl ?_
  refine s_getr hX dX3_purseBehind_40 f_X3_176 rfl ?_
  refine s_iload_n hX dX3_purseBehind_43 rfl ?_
  obtain ⟨g5, h⟩ := fs_gd h
  refine s_iald hX dX3_purseBehind_44 g5 ?_
  cases h
  exact s_iret hX hR dX3_purseBehind_45

-- X3_gains
def L_X3_gains_27  : Nat → Int32 → Int32 → Int32 → fsS → Option (Int32 × fsS)
  | 0, _, _, _, _ => none
  | n0 + 1, y1, y2, y3, σ => if (σ 5 0) ≤ y3 then some (y2, σ) else fs_g (fs_in y3 6) (if (3 : Int32) ≤ (σ 25 y3.toNatClampNeg) then L_X3_gains_27  n0 y1 y2 (y3 + (1 : Int32)) σ else (F_X3_purseBehind y3 (1 : Int32) y1 σ).bind (fun q7 => (F_X3_purseBehind y3 (0 : Int32) y1 q7.2).bind (fun q8 => if q7.1 ≤ q8.1 then L_X3_gains_27  n0 y1 y2 (y3 + (1 : Int32)) q8.2 else L_X3_gains_27  n0 y1 (y2 ||| ((1 : Int32) <<< (y3 &&& 31))) (y3 + (1 : Int32)) q8.2)))
def F_X3_gains (x1 : Int32) (σ : fsS) : Option (Int32 × fsS) := if x1 < (1 : Int32) then some ((-1 : Int32), σ) else if x1 ≤ (40 : Int32) then if (F_X3_noKin  σ) = 0 then (L_X3_gains_27  fs_fu x1 (0 : Int32) (0 : Int32) σ).bind (fun q10 => some (q10.1, q10.2)) else some ((-4 : Int32), σ) else some ((-1 : Int32), σ)
set_option maxRecDepth 20000 in
set_option maxHeartbeats 40000000 in
theorem l_X3_gains_27   {X : fsC} (hX : fs_ok cX3_gains RX3 4 { frames := 5, cells := 0, slots := 0, locals := 116 } X) : ∀ (n : Nat) (y1 : Int32) (y2 : Int32) (y3 : Int32) (σ : fsS) (μ : fsL) (out : Int32 × fsS) (_ : L_X3_gains_27  n y1 y2 y3 σ = some out) (k0 : fs_PW X 86 [none, none, some (.int out.1), none] [] out.2 μ), fs_PW X 27 [some (.ref 0), some (.int y1), some (.int y2), some (.int y3)] [] σ μ := by
  intro n
  induction n with
  | zero =>
    intro y1 y2 y3 σ μ out h
    cases (show (none : Option (Int32 × fsS)) = some out from h)
  | succ n0 ih =>
    intro y1 y2 y3 σ μ out h k0
    unfold L_X3_gains_27 at h
    refine s_iload_n hX dX3_gains_27 rfl ?_
    refine s_aload_n hX dX3_gains_28 rfl ?_
    refine s_getr hX dX3_gains_29 f_X3_24 rfl ?_
    refine s_getr hX dX3_gains_32 f_X3_113 rfl ?_
    refine s_geti hX dX3_gains_35 f_X3_116 rfl ?_
    refine s_ic_ge hX 86 dX3_gains_38 (by decide) (fun c4 => ?_) (fun c4 => ?_)
    · have h := (if_pos c4).symm.trans h
      cases h
      refine fs_ma [false, false, true, false] ?_
      exact k0
    · have h := (if_neg c4).symm.trans h
      refine s_aload_n hX dX3_gains_41 rfl ?_
      refine s_getr hX dX3_gains_42 f_X3_24 rfl ?_
      refine s_getr hX dX3_gains_45 f_X3_113 rfl ?_
      refine s_getr hX dX3_gains_48 f_X3_170 rfl ?_
      refine s_iload_n hX dX3_gains_51 rfl ?_
      obtain ⟨g5, h⟩ := fs_gd h
      refine s_iald hX dX3_gains_52 g5 ?_
      refine s_ic hX (3 : Int32) dX3_gains_53 (by decide) ?_
      refine s_ic_ge hX 80 dX3_gains_54 (by decide) (fun c6 => ?_) (fun c6 => ?_)
      · have h := (if_pos c6).symm.trans h
        refine s_iinc hX (y3 + (1 : Int32)) dX3_gains_80 rfl rfl (Nat.le_of_ble_eq_true rfl) ?_
        refine s_goto hX 27 dX3_gains_83 (by decide) ?_
        refine fs_ma [true, true, true, true] ?_
        exact ih y1 y2 (y3 + (1 : Int32)) σ μ out h k0
      · have h := (if_neg c6).symm.trans h
        refine s_aload_n hX dX3_gains_57 rfl ?_
        refine s_iload_n hX dX3_gains_58 rfl ?_
        refine s_ic hX (1 : Int32) dX3_gains_59 (by decide) ?_
        refine s_iload_n hX dX3_gains_60 rfl ?_
        obtain ⟨q7, e7, h⟩ := fs_bind h
        refine s_cV hX [.int y3, .int (1 : Int32), .int y1] dX3_gains_61 k_X3_215 v_X3_purseBehind (m_X3_purseBehind y3 (1 : Int32) y1 σ μ q7 e7) ⟨_, rfl⟩ fs_c3 ⟨rfl, rfl⟩ ⟨(Nat.le_of_ble_eq_true rfl), (Nat.le_of_ble_eq_true rfl)⟩ rfl rfl (Nat.le_of_ble_eq_true rfl) ?_
        refine s_aload_n hX dX3_gains_64 rfl ?_
        refine s_iload_n hX dX3_gains_65 rfl ?_
        refine s_ic hX (0 : Int32) dX3_gains_66 (by decide) ?_
        refine s_iload_n hX dX3_gains_67 rfl ?_
        obtain ⟨q8, e8, h⟩ := fs_bind h
        refine s_cV hX [.int y3, .int (0 : Int32), .int y1] dX3_gains_68 k_X3_215 v_X3_purseBehind (m_X3_purseBehind y3 (0 : Int32) y1 q7.2 μ q8 e8) ⟨_, rfl⟩ fs_c3 ⟨rfl, rfl⟩ ⟨(Nat.le_of_ble_eq_true rfl), (Nat.le_of_ble_eq_true rfl)⟩ rfl rfl (Nat.le_of_ble_eq_true rfl) ?_
        refine s_ic_le hX 80 dX3_gains_71 (by decide) (fun c9 => ?_) (fun c9 => ?_)
        · have h := (if_pos c9).symm.trans h
          refine s_iinc hX (y3 + (1 : Int32)) dX3_gains_80 rfl rfl (Nat.le_of_ble_eq_true rfl) ?_
          refine s_goto hX 27 dX3_gains_83 (by decide) ?_
          refine fs_ma [true, true, true, true] ?_
          exact ih y1 y2 (y3 + (1 : Int32)) q8.2 μ out h k0
        · have h := (if_neg c9).symm.trans h
          refine s_iload_n hX dX3_gains_74 rfl ?_
          refine s_ic hX (1 : Int32) dX3_gains_75 (by decide) ?_
          refine s_iload_n hX dX3_gains_76 rfl ?_
          refine s_ishl hX dX3_gains_77 ?_
          refine s_ior hX dX3_gains_78 ?_
          refine s_istore_n hX dX3_gains_79 (Nat.le_of_ble_eq_true rfl) ?_
          refine s_iinc hX (y3 + (1 : Int32)) dX3_gains_80 rfl rfl (Nat.le_of_ble_eq_true rfl) ?_
          refine s_goto hX 27 dX3_gains_83 (by decide) ?_
          refine fs_ma [true, true, true, true] ?_
          exact ih y1 (y2 ||| ((1 : Int32) <<< (y3 &&& 31))) (y3 + (1 : Int32)) q8.2 μ out h k0
set_option maxRecDepth 20000 in
set_option maxHeartbeats 40000000 in
theorem m_X3_gains (x1 : Int32)  (σ : fsS) (μ : fsL) (out : Int32 × fsS) (h : F_X3_gains x1 σ = some out) : fs_Met yX3_gains cX3_gains 4 (some .int) { frames := 5, cells := 0, slots := 0, locals := 116 } [.ref 0, .int x1] σ μ (some (.int out.1)) out.2 μ := by
  unfold F_X3_gains at h
  refine fs_intro (by decide +kernel) (Nat.le_of_ble_eq_true rfl) (fun X hX hR => ?_)
  show fs_PW X 0 [some (.ref 0), some (.int x1), none, none] [] σ μ
  refine s_iload_n hX dX3_gains_0 rfl ?_
  refine s_ic hX (1 : Int32) dX3_gains_1 (by decide) ?_
  refine s_ic_lt hX 11 dX3_gains_2 (by decide) (fun c1 => ?_) (fun c1 => ?_)
  · have h := (if_pos c1).symm.trans h
    refine s_ic hX (-1 : Int32) dX3_gains_11 (by decide) ?_
    cases h
    exact s_iret hX hR dX3_gains_12
  · have h := (if_neg c1).symm.trans h
    refine s_iload_n hX dX3_gains_5 rfl ?_
    refine s_bi hX (40 : Int32) dX3_gains_6 (by decide) ?_
    refine s_ic_le hX 13 dX3_gains_8 (by decide) (fun c2 => ?_) (fun c2 => ?_)
    · have h := (if_pos c2).symm.trans h
      refine s_aload_n hX dX3_gains_13 rfl ?_
      refine s_cV hX [] dX3_gains_14 k_X3_150 v_X3_noKin (m_X3_noKin σ μ _ rfl) ⟨_, rfl⟩ fs_c3 ⟨rfl, rfl⟩ ⟨(Nat.le_of_ble_eq_true rfl), (Nat.le_of_ble_eq_true rfl)⟩ rfl rfl (Nat.le_of_ble_eq_true rfl) ?_
      refine s_if_eq hX 23 dX3_gains_17 (by decide) (fun c3 => ?_) (fun c3 => ?_)
      · have h := (if_pos c3).symm.trans h
        refine s_ic hX (0 : Int32) dX3_gains_23 (by decide) ?_
        refine s_istore_n hX dX3_gains_24 (Nat.le_of_ble_eq_true rfl) ?_
        refine s_ic hX (0 : Int32) dX3_gains_25 (by decide) ?_
        refine s_istore_n hX dX3_gains_26 (Nat.le_of_ble_eq_true rfl) ?_
        obtain ⟨q10, e10, h⟩ := fs_bind h
        refine fs_ma [true, true, true, true] ?_
        refine l_X3_gains_27  hX fs_fu x1 (0 : Int32) (0 : Int32) σ μ q10 e10 ?_
        refine s_iload_n hX dX3_gains_86 rfl ?_
        cases h
        exact s_iret hX hR dX3_gains_87
      · have h := (if_neg c3).symm.trans h
        refine s_bi hX (-4 : Int32) dX3_gains_20 (by decide) ?_
        cases h
        exact s_iret hX hR dX3_gains_22
    · have h := (if_neg c2).symm.trans h
      refine s_ic hX (-1 : Int32) dX3_gains_11 (by decide) ?_
      cases h
      exact s_iret hX hR dX3_gains_12

-- X3_sootBy
def F_X3_sootBy (x1 : Int32) (x2 : Int32) (σ : fsS) : Int32 := ((x1 >>> (((2 : Int32) * (((σ 5 0) - (1 : Int32)) - x2)) &&& 31)) &&& (3 : Int32))
set_option maxRecDepth 20000 in
set_option maxHeartbeats 40000000 in
theorem m_X3_sootBy (x1 : Int32) (x2 : Int32)  (σ : fsS) (μ : fsL) (out : Int32) (h : F_X3_sootBy x1 x2 σ = out) : fs_Met yX3_sootBy cX3_sootBy 3 (some .int) { frames := 0, cells := 0, slots := 0, locals := 0 } [.ref 0, .int x1, .int x2] σ μ (some (.int out)) σ μ := by
  unfold F_X3_sootBy at h
  refine fs_intro (by decide +kernel) (Nat.le_of_ble_eq_true rfl) (fun X hX hR => ?_)
  show fs_PW X 0 [some (.ref 0), some (.int x1), some (.int x2)] [] σ μ
  refine s_iload_n hX dX3_sootBy_0 rfl ?_
  refine s_ic hX (2 : Int32) dX3_sootBy_1 (by decide) ?_
  refine s_aload_n hX dX3_sootBy_2 rfl ?_
  refine s_getr hX dX3_sootBy_3 f_X3_24 rfl ?_
  refine s_getr hX dX3_sootBy_6 f_X3_113 rfl ?_
  refine s_geti hX dX3_sootBy_9 f_X3_116 rfl ?_
  refine s_ic hX (1 : Int32) dX3_sootBy_12 (by decide) ?_
  refine s_isub hX dX3_sootBy_13 ?_
  refine s_iload_n hX dX3_sootBy_14 rfl ?_
  refine s_isub hX dX3_sootBy_15 ?_
  refine s_imul hX dX3_sootBy_16 ?_
  refine s_ishr hX dX3_sootBy_17 ?_
  refine s_ic hX (3 : Int32) dX3_sootBy_18 (by decide) ?_
  refine s_iand hX dX3_sootBy_19 ?_
  subst h
  exact s_iret hX hR dX3_sootBy_20

-- X3_changedBy
def L_X3_changedBy_4  : Nat → Int32 → Int32 → Int32 → fsS → Option (Int32)
  | 0, _, _, _, _ => none
  | n0 + 1, y1, y2, y3, σ => if (σ 5 0) ≤ y3 then some y2 else fs_g (fs_in y3 6) (if (F_X3_sootBy y1 y3 σ) = (σ 25 y3.toNatClampNeg) then L_X3_changedBy_4  n0 y1 y2 (y3 + (1 : Int32)) σ else L_X3_changedBy_4  n0 y1 (y2 + (1 : Int32)) (y3 + (1 : Int32)) σ)
def F_X3_changedBy (x1 : Int32) (σ : fsS) : Option (Int32) := (L_X3_changedBy_4  fs_fu x1 (0 : Int32) (0 : Int32) σ).bind (fun q4 => some q4)
set_option maxRecDepth 20000 in
set_option maxHeartbeats 40000000 in
theorem l_X3_changedBy_4   {X : fsC} (hX : fs_ok cX3_changedBy RX3 4 { frames := 1, cells := 0, slots := 0, locals := 22 } X) : ∀ (n : Nat) (y1 : Int32) (y2 : Int32) (y3 : Int32) (σ : fsS) (μ : fsL) (out : Int32) (_ : L_X3_changedBy_4  n y1 y2 y3 σ = some out) (k0 : fs_PW X 48 [none, none, some (.int out), none] [] σ μ), fs_PW X 4 [some (.ref 0), some (.int y1), some (.int y2), some (.int y3)] [] σ μ := by
  intro n
  induction n with
  | zero =>
    intro y1 y2 y3 σ μ out h
    cases (show (none : Option (Int32)) = some out from h)
  | succ n0 ih =>
    intro y1 y2 y3 σ μ out h k0
    unfold L_X3_changedBy_4 at h
    refine s_iload_n hX dX3_changedBy_4 rfl ?_
    refine s_aload_n hX dX3_changedBy_5 rfl ?_
    refine s_getr hX dX3_changedBy_6 f_X3_24 rfl ?_
    refine s_getr hX dX3_changedBy_9 f_X3_113 rfl ?_
    refine s_geti hX dX3_changedBy_12 f_X3_116 rfl ?_
    refine s_ic_ge hX 48 dX3_changedBy_15 (by decide) (fun c1 => ?_) (fun c1 => ?_)
    · have h := (if_pos c1).symm.trans h
      cases h
      refine fs_ma [false, false, true, false] ?_
      exact k0
    · have h := (if_neg c1).symm.trans h
      refine s_aload_n hX dX3_changedBy_18 rfl ?_
      refine s_iload_n hX dX3_changedBy_19 rfl ?_
      refine s_iload_n hX dX3_changedBy_20 rfl ?_
      refine s_cV hX [.int y1, .int y3] dX3_changedBy_21 k_X3_323 v_X3_sootBy (m_X3_sootBy y1 y3 σ μ _ rfl) ⟨_, rfl⟩ fs_c3 ⟨rfl, rfl⟩ ⟨(Nat.le_of_ble_eq_true rfl), (Nat.le_of_ble_eq_true rfl)⟩ rfl rfl (Nat.le_of_ble_eq_true rfl) ?_
      refine s_aload_n hX dX3_changedBy_24 rfl ?_
      refine s_getr hX dX3_changedBy_25 f_X3_24 rfl ?_
      refine s_getr hX dX3_changedBy_28 f_X3_113 rfl ?_
      refine s_getr hX dX3_changedBy_31 f_X3_170 rfl ?_
      refine s_iload_n hX dX3_changedBy_34 rfl ?_
      obtain ⟨g2, h⟩ := fs_gd h
      refine s_iald hX dX3_changedBy_35 g2 ?_
      refine s_ic_eq hX 42 dX3_changedBy_36 (by decide) (fun c3 => ?_) (fun c3 => ?_)
      · have h := (if_pos c3).symm.trans h
        refine s_iinc hX (y3 + (1 : Int32)) dX3_changedBy_42 rfl rfl (Nat.le_of_ble_eq_true rfl) ?_
        refine s_goto hX 4 dX3_changedBy_45 (by decide) ?_
        refine fs_ma [true, true, true, true] ?_
        exact ih y1 y2 (y3 + (1 : Int32)) σ μ out h k0
      · have h := (if_neg c3).symm.trans h
        refine s_iinc hX (y2 + (1 : Int32)) dX3_changedBy_39 rfl rfl (Nat.le_of_ble_eq_true rfl) ?_
        refine s_iinc hX (y3 + (1 : Int32)) dX3_changedBy_42 rfl rfl (Nat.le_of_ble_eq_true rfl) ?_
        refine s_goto hX 4 dX3_changedBy_45 (by decide) ?_
        refine fs_ma [true, true, true, true] ?_
        exact ih y1 (y2 + (1 : Int32)) (y3 + (1 : Int32)) σ μ out h k0
set_option maxRecDepth 20000 in
set_option maxHeartbeats 40000000 in
theorem m_X3_changedBy (x1 : Int32)  (σ : fsS) (μ : fsL) (out : Int32) (h : F_X3_changedBy x1 σ = some out) : fs_Met yX3_changedBy cX3_changedBy 4 (some .int) { frames := 1, cells := 0, slots := 0, locals := 22 } [.ref 0, .int x1] σ μ (some (.int out)) σ μ := by
  unfold F_X3_changedBy at h
  refine fs_intro (by decide +kernel) (Nat.le_of_ble_eq_true rfl) (fun X hX hR => ?_)
  show fs_PW X 0 [some (.ref 0), some (.int x1), none, none] [] σ μ
  refine s_ic hX (0 : Int32) dX3_changedBy_0 (by decide) ?_
  refine s_istore_n hX dX3_changedBy_1 (Nat.le_of_ble_eq_true rfl) ?_
  refine s_ic hX (0 : Int32) dX3_changedBy_2 (by decide) ?_
  refine s_istore_n hX dX3_changedBy_3 (Nat.le_of_ble_eq_true rfl) ?_
  obtain ⟨q4, e4, h⟩ := fs_bind h
  refine fs_ma [true, true, true, true] ?_
  refine l_X3_changedBy_4  hX fs_fu x1 (0 : Int32) (0 : Int32) σ μ q4 e4 ?_
  refine s_iload_n hX dX3_changedBy_48 rfl ?_
  cases h
  exact s_iret hX hR dX3_changedBy_49
