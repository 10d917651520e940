-- X1_read
def L_X1_read_7 (o : Nat) (a1 : Nat) : Nat → Int32 → Int32 → fsS → Option (Nat × Int32 × fsS)
  | 0, _, _, _ => none
  | n0 + 1, y2, y3, σ => if y2 ≤ y3 then some (1, (0 : Int32), σ) else fs_g (fs_in y3 (fs_len a1)) (if (σ a1 y3.toNatClampNeg) = (32 : Int32) then L_X1_read_7 o a1 n0 y2 (y3 + (1 : Int32)) σ else if (σ o 0) = (6 : Int32) then if y3 = (-9 : Int32) then L_X1_read_7 o a1 n0 y2 (y3 + (5 : Int32)) σ else some (0, y3, σ) else (F_X1_readItem o a1 y2 y3 σ).bind (fun q5 => if q5.1 = (-9 : Int32) then L_X1_read_7 o a1 n0 y2 (y3 + (5 : Int32)) q5.2 else some (0, q5.1, q5.2)))
def F_X1_read (o : Nat) (a1 : Nat) (x2 : Int32) (σ : fsS) : Option (Int32 × fsS) := (L_X1_read_7 o a1 fs_fu x2 (0 : Int32) (fs_u σ o 0 (0 : Int32))).bind (fun q8 => if q8.1 = 0 then some (q8.2.1, q8.2.2) else if (2 : Int32) ≤ (q8.2.2 o 0) then some ((-9 : Int32), q8.2.2) else some (x2, q8.2.2))
set_option maxRecDepth 20000 in
set_option maxHeartbeats 4000000 in
theorem l_X1_read_7 {o : Nat} {a1 : Nat} (ho : fs_K o) {X : fsC} (hX : fs_ok cX1_read RX1 5 { frames := 2, cells := 0, slots := 0, locals := 45 } X) : ∀ (n : Nat) (y2 : Int32) (y3 : Int32) (σ : fsS) (μ : fsL) (out : Nat × Int32 × fsS) (_ : L_X1_read_7 o a1 n y2 y3 σ = some out) (k0 : out.1 = 0 → fs_PW X 55 [none, none, none, none, some (.int out.2.1)] [] out.2.2 μ) (k1 : out.1 = 1 → fs_PW X 64 [some (.ref o), none, some (.int y2), none, none] [] out.2.2 μ), fs_PW X 7 [some (.ref o), some (.ref a1), some (.int y2), some (.int y3), none] [] σ μ := by
  intro n
  induction n with
  | zero =>
    intro y2 y3 σ μ out h
    cases (show (none : Option (Nat × Int32 × fsS)) = some out from h)
  | succ n0 ih =>
    intro y2 y3 σ μ out h k0 k1
    unfold L_X1_read_7 at h
    refine s_iload_n hX dX1_read_7 rfl ?_
    refine s_iload_n hX dX1_read_8 rfl ?_
    refine s_ic_ge hX 64 dX1_read_9 (by decide) (fun c1 => ?_) (fun c1 => ?_)
    · have h := (if_pos c1).symm.trans h
      cases h
      refine fs_ma [true, false, true, false, false] ?_
      exact k1 rfl
    · have h := (if_neg c1).symm.trans h
      refine s_aload_n hX dX1_read_12 rfl ?_
      refine s_iload_n hX dX1_read_13 rfl ?_
      obtain ⟨g2, h⟩ := fs_gd h
      refine s_iald hX dX1_read_14 g2 ?_
      refine s_bi hX (32 : Int32) dX1_read_15 (by decide) ?_
      refine s_ic_ne hX 26 dX1_read_17 (by decide) (fun c3 => ?_) (fun c3 => ?_)
      · have h := (if_neg c3).symm.trans h
        refine s_aload_n hX dX1_read_26 rfl ?_
        refine s_geti hX dX1_read_27 f_X1_9 (fs_kd0 ho) ?_
        refine s_bi hX (6 : Int32) dX1_read_30 (by decide) ?_
        refine s_ic_ne hX 39 dX1_read_32 (by decide) (fun c4 => ?_) (fun c4 => ?_)
        · have h := (if_neg c4).symm.trans h
          refine s_aload_n hX dX1_read_39 rfl ?_
          refine s_aload_n hX dX1_read_40 rfl ?_
          refine s_iload_n hX dX1_read_41 rfl ?_
          refine s_iload_n hX dX1_read_42 rfl ?_
          obtain ⟨q5, e5, h⟩ := fs_bind h
          refine s_cV hX [.ref a1, .int y2, .int y3] dX1_read_43 k_X1_49 v_X1_readItem (m_X1_readItem o a1 y2 y3 ho σ μ q5 e5) (fs_K_is ho) fs_c1 ⟨rfl, rfl⟩ ⟨(Nat.le_of_ble_eq_true rfl), (Nat.le_of_ble_eq_true rfl)⟩ rfl rfl (Nat.le_of_ble_eq_true rfl) ?_
          refine s_istore hX dX1_read_46 (Nat.le_of_ble_eq_true rfl) ?_
          refine s_iload hX dX1_read_48 rfl ?_
          refine s_bi hX (-9 : Int32) dX1_read_50 (by decide) ?_
          refine s_ic_eq hX 58 dX1_read_52 (by decide) (fun c6 => ?_) (fun c6 => ?_)
          · have h := (if_pos c6).symm.trans h
            refine s_iinc hX (y3 + (5 : Int32)) dX1_read_58 rfl rfl (Nat.le_of_ble_eq_true rfl) ?_
            refine s_goto hX 7 dX1_read_61 (by decide) ?_
            refine fs_ma [true, true, true, true, false] ?_
            exact ih y2 (y3 + (5 : Int32)) q5.2 μ out h k0 k1
          · have h := (if_neg c6).symm.trans h
            cases h
            refine fs_ma [false, false, false, false, true] ?_
            exact k0 rfl
        · have h := (if_pos c4).symm.trans h
          refine s_iload_n hX dX1_read_35 rfl ?_
          refine s_goto hX 46 dX1_read_36 (by decide) ?_
          refine s_istore hX dX1_read_46 (Nat.le_of_ble_eq_true rfl) ?_
          refine s_iload hX dX1_read_48 rfl ?_
          refine s_bi hX (-9 : Int32) dX1_read_50 (by decide) ?_
          refine s_ic_eq hX 58 dX1_read_52 (by decide) (fun c7 => ?_) (fun c7 => ?_)
          · have h := (if_pos c7).symm.trans h
            refine s_iinc hX (y3 + (5 : Int32)) dX1_read_58 rfl rfl (Nat.le_of_ble_eq_true rfl) ?_
            refine s_goto hX 7 dX1_read_61 (by decide) ?_
            refine fs_ma [true, true, true, true, false] ?_
            exact ih y2 (y3 + (5 : Int32)) σ μ out h k0 k1
          · have h := (if_neg c7).symm.trans h
            cases h
            refine fs_ma [false, false, false, false, true] ?_
            exact k0 rfl
      · have h := (if_pos c3).symm.trans h
        refine s_iinc hX (y3 + (1 : Int32)) dX1_read_20 rfl rfl (Nat.le_of_ble_eq_true rfl) ?_
        refine s_goto hX 7 dX1_read_23 (by decide) ?_
        refine fs_ma [true, true, true, true, false] ?_
        exact ih y2 (y3 + (1 : Int32)) σ μ out h k0 k1
set_option maxRecDepth 20000 in
set_option maxHeartbeats 4000000 in
theorem m_X1_read (o : Nat) (a1 : Nat) (x2 : Int32) (ho : fs_K o) (σ : fsS) (μ : fsL) (out : Int32 × fsS) (h : F_X1_read o a1 x2 σ = some out) : fs_Met yX1_read cX1_read 5 (some .int) { frames := 2, cells := 0, slots := 0, locals := 45 } [.ref o, .ref a1, .int x2] σ μ (some (.int out.1)) out.2 μ := by
  unfold F_X1_read at h
  refine fs_intro (by decide +kernel) (Nat.le_of_ble_eq_true rfl) (fun X hX hR => ?_)
  show fs_PW X 0 [some (.ref o), some (.ref a1), some (.int x2), none, none] [] σ μ
  refine s_aload_n hX dX1_read_0 rfl ?_
  refine s_ic hX (0 : Int32) dX1_read_1 (by decide) ?_
  refine s_puti hX dX1_read_2 p_X1_9 (fs_kd0 ho) ?_
  refine s_ic hX (0 : Int32) dX1_read_5 (by decide) ?_
  refine s_istore_n hX dX1_read_6 (Nat.le_of_ble_eq_true rfl) ?_
  obtain ⟨q8, e8, h⟩ := fs_bind h
  refine fs_ma [true, true, true, true, false] ?_
  refine l_X1_read_7 ho hX fs_fu x2 (0 : Int32) (fs_u σ o 0 (0 : Int32)) μ q8 e8 (fun c9 => ?_) (fun c9 => ?_)
  · have h := (if_pos c9).symm.trans h
    refine s_iload hX dX1_read_55 rfl ?_
    cases h
    exact s_iret hX hR dX1_read_57
  · have h := (if_neg (show ¬ q8.1 = 0 by rw [c9]; decide)).symm.trans h
    refine s_aload_n hX dX1_read_64 rfl ?_
    refine s_geti hX dX1_read_65 f_X1_9 (fs_kd0 ho) ?_
    refine s_ic hX (2 : Int32) dX1_read_68 (by decide) ?_
    refine s_ic_ge hX 76 dX1_read_69 (by decide) (fun c10 => ?_) (fun c10 => ?_)
    · have h := (if_pos c10).symm.trans h
      refine s_bi hX (-9 : Int32) dX1_read_76 (by decide) ?_
      cases h
      exact s_iret hX hR dX1_read_78
    · have h := (if_neg c10).symm.trans h
      refine s_iload_n hX dX1_read_72 rfl ?_
      refine s_goto hX 78 dX1_read_73 (by decide) ?_
      cases h
      exact s_iret hX hR dX1_read_78

-- X1_kindAbove
def F_X1_kindAbove (x0 : Int32) : Int32 := if x0 = (4 : Int32) then (1 : Int32) else if x0 = (5 : Int32) then (3 : Int32) else (0 : Int32)
set_option maxRecDepth 20000 in
set_option maxHeartbeats 4000000 in
theorem m_X1_kindAbove (x0 : Int32)  (σ : fsS) (μ : fsL) (out : Int32) (h : F_X1_kindAbove x0 = out) : fs_Met yX1_kindAbove cX1_kindAbove 1 (some .int) { frames := 0, cells := 0, slots := 0, locals := 0 } [.int x0] σ μ (some (.int out)) σ μ := by
  unfold F_X1_kindAbove at h
  refine fs_intro (by decide +kernel) (Nat.le_of_ble_eq_true rfl) (fun X hX hR => ?_)
  show fs_PW X 0 [some (.int x0)] [] σ μ
  refine s_iload_n hX dX1_kindAbove_0 rfl ?_
  by_cases c1 : x0 = (4 : Int32)
  · have h := (if_pos c1).symm.trans h
    refine s_lookK hX 28 (4 : Int32) c1 dX1_kindAbove_1 (by decide) rfl (by decide) ?_
    refine s_ic hX (1 : Int32) dX1_kindAbove_28 (by decide) ?_
    subst h
    exact s_iret hX hR dX1_kindAbove_29
  · have h := (if_neg c1).symm.trans h
    by_cases c2 : x0 = (5 : Int32)
    · have h := (if_pos c2).symm.trans h
      refine s_lookK hX 30 (5 : Int32) c2 dX1_kindAbove_1 (by decide) rfl (by decide) ?_
      refine s_ic hX (3 : Int32) dX1_kindAbove_30 (by decide) ?_
      subst h
      exact s_iret hX hR dX1_kindAbove_31
    · have h := (if_neg c2).symm.trans h
      refine s_look hX (off := 31) 32 dX1_kindAbove_1 (by decide) (by rw [lv_osw c1 (by decide)]; rw [lv_osw c2 (by decide)]; rfl) (by decide) ?_
      refine s_ic hX (0 : Int32) dX1_kindAbove_32 (by decide) ?_
      subst h
      exact s_iret hX hR dX1_kindAbove_33

-- X1_isOf
def F_X1_isOf (x0 : Int32) (x1 : Int32) : Int32 := if x0 = x1 then (1 : Int32) else if (F_X1_kindAbove x0) = x1 then (1 : Int32) else (0 : Int32)
theorem z_X1_isOf (x0 : Int32) (x1 : Int32) : F_X1_isOf x0 x1 = 0 ∨ F_X1_isOf x0 x1 = 1 := by
  unfold F_X1_isOf
  (repeat' split) <;> first | exact Or.inl rfl | exact Or.inr rfl
set_option maxRecDepth 20000 in
set_option maxHeartbeats 4000000 in
theorem m_X1_isOf (x0 : Int32) (x1 : Int32)  (σ : fsS) (μ : fsL) (out : Int32) (h : F_X1_isOf x0 x1 = out) : fs_Met yX1_isOf cX1_isOf 2 (some .boolean) { frames := 1, cells := 0, slots := 0, locals := 20 } [.int x0, .int x1] σ μ (some (.int out)) σ μ := by
  unfold F_X1_isOf at h
  refine fs_intro (by decide +kernel) (Nat.le_of_ble_eq_true rfl) (fun X hX hR => ?_)
  show fs_PW X 0 [some (.int x0), some (.int x1)] [] σ μ
  refine s_iload_n hX dX1_isOf_0 rfl ?_
  refine s_iload_n hX dX1_isOf_1 rfl ?_
  refine s_ic_eq hX 13 dX1_isOf_2 (by decide) (fun c1 => ?_) (fun c1 => ?_)
  · have h := (if_pos c1).symm.trans h
    refine s_ic hX (1 : Int32) dX1_isOf_13 (by decide) ?_
    refine s_goto hX 18 dX1_isOf_14 (by decide) ?_
    subst h
    exact s_zret hX (Or.inr rfl) hR dX1_isOf_18
  · have h := (if_neg c1).symm.trans h
    refine s_iload_n hX dX1_isOf_5 rfl ?_
    refine s_callS hX (as := [.int x0]) dX1_isOf_6 k_X1_57 v_X1_kindAbove (m_X1_kindAbove x0 σ μ _ rfl) ⟨rfl, rfl⟩ ⟨(Nat.le_of_ble_eq_true rfl), (Nat.le_of_ble_eq_true rfl)⟩ rfl rfl (Nat.le_of_ble_eq_true rfl) ?_
    refine s_iload_n hX dX1_isOf_9 rfl ?_
    refine s_ic_ne hX 17 dX1_isOf_10 (by decide) (fun c2 => ?_) (fun c2 => ?_)
    · have h := (if_neg c2).symm.trans h
      refine s_ic hX (0 : Int32) dX1_isOf_17 (by decide) ?_
      subst h
      exact s_zret hX (Or.inl rfl) hR dX1_isOf_18
    · have h := (if_pos c2).symm.trans h
      refine s_ic hX (1 : Int32) dX1_isOf_13 (by decide) ?_
      refine s_goto hX 18 dX1_isOf_14 (by decide) ?_
      subst h
      exact s_zret hX (Or.inr rfl) hR dX1_isOf_18

-- X1_regardAs
def F_X1_regardAs (o : Nat) (x1 : Int32) (x2 : Int32) (σ : fsS) : Option (Int32) := fs_g (fs_in x1 6) (fs_g (fs_in x1 6) (fs_g (fs_in x1 6) (some (F_X1_regardOf x2 (σ (7 * o - 14 + 1) x1.toNatClampNeg) (σ (7 * o - 14 + 4) x1.toNatClampNeg) (σ (7 * o - 14 + 3) x1.toNatClampNeg)))))
set_option maxRecDepth 20000 in
set_option maxHeartbeats 4000000 in
theorem m_X1_regardAs (o : Nat) (x1 : Int32) (x2 : Int32) (ho : fs_K o) (σ : fsS) (μ : fsL) (out : Int32) (h : F_X1_regardAs o x1 x2 σ = some out) : fs_Met yX1_regardAs cX1_regardAs 3 (some .int) { frames := 1, cells := 0, slots := 0, locals := 26 } [.ref o, .int x1, .int x2] σ μ (some (.int out)) σ μ := by
  unfold F_X1_regardAs at h
  refine fs_intro (by decide +kernel) (Nat.le_of_ble_eq_true rfl) (fun X hX hR => ?_)
  show fs_PW X 0 [some (.ref o), some (.int x1), some (.int x2)] [] σ μ
  refine s_iload_n hX dX1_regardAs_0 rfl ?_
  refine s_aload_n hX dX1_regardAs_1 rfl ?_
  refine s_getr hX dX1_regardAs_2 f_X1_19 (fs_kd2 ho) ?_
  refine s_iload_n hX dX1_regardAs_5 rfl ?_
  obtain ⟨g1, h⟩ := fs_gd h
  refine s_iald hX dX1_regardAs_6 (fs_ik1 ho g1) ?_
  refine s_aload_n hX dX1_regardAs_7 rfl ?_
  refine s_getr hX dX1_regardAs_8 f_X1_28 (fs_kd5 ho) ?_
  refine s_iload_n hX dX1_regardAs_11 rfl ?_
  obtain ⟨g2, h⟩ := fs_gd h
  refine s_iald hX dX1_regardAs_12 (fs_ik4 ho g2) ?_
  refine s_aload_n hX dX1_regardAs_13 rfl ?_
  refine s_getr hX dX1_regardAs_14 f_X1_25 (fs_kd4 ho) ?_
  refine s_iload_n hX dX1_regardAs_17 rfl ?_
  obtain ⟨g3, h⟩ := fs_gd h
  refine s_iald hX dX1_regardAs_18 (fs_ik3 ho g3) ?_
  refine s_callS hX (as := [.int x2, .int (σ (7 * o - 14 + 1) x1.toNatClampNeg), .int (σ (7 * o - 14 + 4) x1.toNatClampNeg), .int (σ (7 * o - 14 + 3) x1.toNatClampNeg)]) dX1_regardAs_19 k_X1_60 v_X1_regardOf (m_X1_regardOf x2 (σ (7 * o - 14 + 1) x1.toNatClampNeg) (σ (7 * o - 14 + 4) x1.toNatClampNeg) (σ (7 * o - 14 + 3) x1.toNatClampNeg) σ μ _ rfl) ⟨rfl, rfl⟩ ⟨(Nat.le_of_ble_eq_true rfl), (Nat.le_of_ble_eq_true rfl)⟩ rfl rfl (Nat.le_of_ble_eq_true rfl) ?_
  cases h
  exact s_iret hX hR dX1_regardAs_22

-- X1_passAll
def L_X1_passAll_4 (o : Nat) : Nat → Int32 → Int32 → Int32 → fsS → Option (Int32 × fsS)
  | 0, _, _, _, _ => none
  | n0 + 1, y1, y2, y3, σ => if y1 ≤ y3 then some (y2, σ) else (F_X1_pass o σ).bind (fun q2 => L_X1_passAll_4 o n0 y1 (y2 + (q2.2 o 9)) (y3 + (1 : Int32)) q2.2)
def F_X1_passAll (o : Nat) (x1 : Int32) (σ : fsS) : Option (Int32 × fsS) := (L_X1_passAll_4 o fs_fu x1 (0 : Int32) (0 : Int32) σ).bind (fun q3 => some (q3.1, q3.2))
set_option maxRecDepth 20000 in
set_option maxHeartbeats 4000000 in
theorem l_X1_passAll_4 {o : Nat} (ho : fs_K o) {X : fsC} (hX : fs_ok cX1_passAll RX1 4 { frames := 3, cells := 0, slots := 0, locals := 70 } X) : ∀ (n : Nat) (y1 : Int32) (y2 : Int32) (y3 : Int32) (σ : fsS) (μ : fsL) (out : Int32 × fsS) (_ : L_X1_passAll_4 o n y1 y2 y3 σ = some out) (k0 : fs_PW X 27 [none, none, some (.int out.1), none] [] out.2 μ), fs_PW X 4 [some (.ref o), some (.int y1), some (.int y2), some (.int y3)] [] σ μ := by
  intro n
  induction n with
  | zero =>
    intro y1 y2 y3 σ μ out h
    cases (show (none : Option (Int32 × fsS)) = some out from h)
  | succ n0 ih =>
    intro y1 y2 y3 σ μ out h k0
    unfold L_X1_passAll_4 at h
    refine s_iload_n hX dX1_passAll_4 rfl ?_
    refine s_iload_n hX dX1_passAll_5 rfl ?_
    refine s_ic_ge hX 27 dX1_passAll_6 (by decide) (fun c1 => ?_) (fun c1 => ?_)
    · have h := (if_pos c1).symm.trans h
      cases h
      refine fs_ma [false, false, true, false] ?_
      exact k0
    · have h := (if_neg c1).symm.trans h
      refine s_aload_n hX dX1_passAll_9 rfl ?_
      obtain ⟨q2, e2, h⟩ := fs_bind h
      refine s_cV hX [] dX1_passAll_10 k_X1_76 v_X1_pass (m_X1_pass o ho σ μ q2 e2) (fs_K_is ho) fs_c1 ⟨rfl, rfl⟩ ⟨(Nat.le_of_ble_eq_true rfl), (Nat.le_of_ble_eq_true rfl)⟩ rfl rfl (Nat.le_of_ble_eq_true rfl) ?_
      refine s_pop hX dX1_passAll_13 rfl ?_
      refine s_iload_n hX dX1_passAll_14 rfl ?_
      refine s_aload_n hX dX1_passAll_15 rfl ?_
      refine s_geti hX dX1_passAll_16 f_X1_40 (fs_kd9 ho) ?_
      refine s_iadd hX dX1_passAll_19 ?_
      refine s_istore_n hX dX1_passAll_20 (Nat.le_of_ble_eq_true rfl) ?_
      refine s_iinc hX (y3 + (1 : Int32)) dX1_passAll_21 rfl rfl (Nat.le_of_ble_eq_true rfl) ?_
      refine s_goto hX 4 dX1_passAll_24 (by decide) ?_
      refine fs_ma [true, true, true, true] ?_
      exact ih y1 (y2 + (q2.2 o 9)) (y3 + (1 : Int32)) q2.2 μ out h k0
set_option maxRecDepth 20000 in
set_option maxHeartbeats 4000000 in
theorem m_X1_passAll (o : Nat) (x1 : Int32) (ho : fs_K o) (σ : fsS) (μ : fsL) (out : Int32 × fsS) (h : F_X1_passAll o x1 σ = some out) : fs_Met yX1_passAll cX1_passAll 4 (some .int) { frames := 3, cells := 0, slots := 0, locals := 70 } [.ref o, .int x1] σ μ (some (.int out.1)) out.2 μ := by
  unfold F_X1_passAll at h
  refine fs_intro (by decide +kernel) (Nat.le_of_ble_eq_true rfl) (fun X hX hR => ?_)
  show fs_PW X 0 [some (.ref o), some (.int x1), none, none] [] σ μ
  refine s_ic hX (0 : Int32) dX1_passAll_0 (by decide) ?_
  refine s_istore_n hX dX1_passAll_1 (Nat.le_of_ble_eq_true rfl) ?_
  refine s_ic hX (0 : Int32) dX1_passAll_2 (by decide) ?_
  refine s_istore_n hX dX1_passAll_3 (Nat.le_of_ble_eq_true rfl) ?_
  obtain ⟨q3, e3, h⟩ := fs_bind h
  refine fs_ma [true, true, true, true] ?_
  refine l_X1_passAll_4 ho hX fs_fu x1 (0 : Int32) (0 : Int32) σ μ q3 e3 ?_
  refine s_iload_n hX dX1_passAll_27 rfl ?_
  cases h
  exact s_iret hX hR dX1_passAll_28

-- X1_regardedUnless
def F_X1_regardedUnless (o : Nat) (x1 : Int32) (x2 : Int32) (σ : fsS) : Option (Int32) := if ((x1 >>> (x2 &&& 31)) &&& (1 : Int32)) = 0 then fs_g (fs_in x2 6) (some (σ (7 * o - 14 + 5) x2.toNatClampNeg)) else some (0 : Int32)
set_option maxRecDepth 20000 in
set_option maxHeartbeats 4000000 in
theorem m_X1_regardedUnless (o : Nat) (x1 : Int32) (x2 : Int32) (ho : fs_K o) (σ : fsS) (μ : fsL) (out : Int32) (h : F_X1_regardedUnless o x1 x2 σ = some out) : fs_Met yX1_regardedUnless cX1_regardedUnless 3 (some .int) { frames := 0, cells := 0, slots := 0, locals := 0 } [.ref o, .int x1, .int x2] σ μ (some (.int out)) σ μ := by
  unfold F_X1_regardedUnless at h
  refine fs_intro (by decide +kernel) (Nat.le_of_ble_eq_true rfl) (fun X hX hR => ?_)
  show fs_PW X 0 [some (.ref o), some (.int x1), some (.int x2)] [] σ μ
  refine s_iload_n hX dX1_regardedUnless_0 rfl ?_
  refine s_iload_n hX dX1_regardedUnless_1 rfl ?_
  refine s_ishr hX dX1_regardedUnless_2 ?_
  refine s_ic hX (1 : Int32) dX1_regardedUnless_3 (by decide) ?_
  refine s_iand hX dX1_regardedUnless_4 ?_
  refine s_if_eq hX 12 dX1_regardedUnless_5 (by decide) (fun c1 => ?_) (fun c1 => ?_)
  · have h := (if_pos c1).symm.trans h
    refine s_aload_n hX dX1_regardedUnless_12 rfl ?_
    refine s_getr hX dX1_regardedUnless_13 f_X1_31 (fs_kd6 ho) ?_
    refine s_iload_n hX dX1_regardedUnless_16 rfl ?_
    obtain ⟨g2, h⟩ := fs_gd h
    refine s_iald hX dX1_regardedUnless_17 (fs_ik5 ho g2) ?_
    cases h
    exact s_iret hX hR dX1_regardedUnless_18
  · have h := (if_neg c1).symm.trans h
    refine s_ic hX (0 : Int32) dX1_regardedUnless_8 (by decide) ?_
    refine s_goto hX 18 dX1_regardedUnless_9 (by decide) ?_
    cases h
    exact s_iret hX hR dX1_regardedUnless_18

-- X1_paidUnless
def L_X1_paidUnless_5 (o : Nat) : Nat → Int32 → Int32 → Int32 → Int32 → fsS → Option (Int32)
  | 0, _, _, _, _, _ => none
  | n0 + 1, y1, y2, y3, y4, σ => if (σ o 0) ≤ y4 then some y3 else (F_X1_regardedUnless o y1 y4 σ).bind (fun q2 => L_X1_paidUnless_5 o n0 y1 y2 (if y3 < q2 then q2 else y3) (y4 + (1 : Int32)) σ)
def F_X1_paidUnless (o : Nat) (x1 : Int32) (x2 : Int32) (σ : fsS) : Option (Int32) := (L_X1_paidUnless_5 o fs_fu x1 x2 (0 : Int32) (0 : Int32) σ).bind (fun q3 => (F_X1_regardedUnless o x1 x2 σ).bind (fun q4 => some (q3 - q4)))
set_option maxRecDepth 20000 in
set_option maxHeartbeats 4000000 in
theorem l_X1_paidUnless_5 {o : Nat} (ho : fs_K o) {X : fsC} (hX : fs_ok cX1_paidUnless RX1 5 { frames := 1, cells := 0, slots := 0, locals := 22 } X) : ∀ (n : Nat) (y1 : Int32) (y2 : Int32) (y3 : Int32) (y4 : Int32) (σ : fsS) (μ : fsL) (out : Int32) (_ : L_X1_paidUnless_5 o n y1 y2 y3 y4 σ = some out) (k0 : fs_PW X 32 [some (.ref o), some (.int y1), some (.int y2), some (.int out), none] [] σ μ), fs_PW X 5 [some (.ref o), some (.int y1), some (.int y2), some (.int y3), some (.int y4)] [] σ μ := by
  intro n
  induction n with
  | zero =>
    intro y1 y2 y3 y4 σ μ out h
    cases (show (none : Option (Int32)) = some out from h)
  | succ n0 ih =>
    intro y1 y2 y3 y4 σ μ out h k0
    unfold L_X1_paidUnless_5 at h
    refine s_iload hX dX1_paidUnless_5 rfl ?_
    refine s_aload_n hX dX1_paidUnless_7 rfl ?_
    refine s_geti hX dX1_paidUnless_8 f_X1_9 (fs_kd0 ho) ?_
    refine s_ic_ge hX 32 dX1_paidUnless_11 (by decide) (fun c1 => ?_) (fun c1 => ?_)
    · have h := (if_pos c1).symm.trans h
      cases h
      refine fs_ma [true, true, true, true, false] ?_
      exact k0
    · have h := (if_neg c1).symm.trans h
      refine s_iload_n hX dX1_paidUnless_14 rfl ?_
      refine s_aload_n hX dX1_paidUnless_15 rfl ?_
      refine s_iload_n hX dX1_paidUnless_16 rfl ?_
      refine s_iload hX dX1_paidUnless_17 rfl ?_
      obtain ⟨q2, e2, h⟩ := fs_bind h
      refine s_cV hX [.int y1, .int y4] dX1_paidUnless_19 k_X1_80 v_X1_regardedUnless (m_X1_regardedUnless o y1 y4 ho σ μ q2 e2) (fs_K_is ho) fs_c1 ⟨rfl, rfl⟩ ⟨(Nat.le_of_ble_eq_true rfl), (Nat.le_of_ble_eq_true rfl)⟩ rfl rfl (Nat.le_of_ble_eq_true rfl) ?_
      refine s_mmax hX dX1_paidUnless_22 k_X1_73 rfl (Nat.le_of_ble_eq_true rfl) (Nat.le_of_ble_eq_true rfl) ?_
      refine s_istore_n hX dX1_paidUnless_25 (Nat.le_of_ble_eq_true rfl) ?_
      refine s_iinc hX (y4 + (1 : Int32)) dX1_paidUnless_26 rfl rfl (Nat.le_of_ble_eq_true rfl) ?_
      refine s_goto hX 5 dX1_paidUnless_29 (by decide) ?_
      refine fs_ma [true, true, true, true, true] ?_
      exact ih y1 y2 (if y3 < q2 then q2 else y3) (y4 + (1 : Int32)) σ μ out h k0
set_option maxRecDepth 20000 in
set_option maxHeartbeats 4000000 in
theorem m_X1_paidUnless (o : Nat) (x1 : Int32) (x2 : Int32) (ho : fs_K o) (σ : fsS) (μ : fsL) (out : Int32) (h : F_X1_paidUnless o x1 x2 σ = some out) : fs_Met yX1_paidUnless cX1_paidUnless 5 (some .int) { frames := 1, cells := 0, slots := 0, locals := 22 } [.ref o, .int x1, .int x2] σ μ (some (.int out)) σ μ := by
  unfold F_X1_paidUnless at h
  refine fs_intro (by decide +kernel) (Nat.le_of_ble_eq_true rfl) (fun X hX hR => ?_)
  show fs_PW X 0 [some (.ref o), some (.int x1), some (.int x2), none, none] [] σ μ
  refine s_ic hX (0 : Int32) dX1_paidUnless_0 (by decide) ?_
  refine s_istore_n hX dX1_paidUnless_1 (Nat.le_of_ble_eq_true rfl) ?_
  refine s_ic hX (0 : Int32) dX1_paidUnless_2 (by decide) ?_
  refine s_istore hX dX1_paidUnless_3 (Nat.le_of_ble_eq_true rfl) ?_
  obtain ⟨q3, e3, h⟩ := fs_bind h
  refine fs_ma [true, true, true, true, true] ?_
  refine l_X1_paidUnless_5 ho hX fs_fu x1 x2 (0 : Int32) (0 : Int32) σ μ q3 e3 ?_
  refine s_iload_n hX dX1_paidUnless_32 rfl ?_
  refine s_aload_n hX dX1_paidUnless_33 rfl ?_
  refine s_iload_n hX dX1_paidUnless_34 rfl ?_
  refine s_iload_n hX dX1_paidUnless_35 rfl ?_
  obtain ⟨q4, e4, h⟩ := fs_bind h
  refine s_cV hX [.int x1, .int x2] dX1_paidUnless_36 k_X1_80 v_X1_regardedUnless (m_X1_regardedUnless o x1 x2 ho σ μ q4 e4) (fs_K_is ho) fs_c1 ⟨rfl, rfl⟩ ⟨(Nat.le_of_ble_eq_true rfl), (Nat.le_of_ble_eq_true rfl)⟩ rfl rfl (Nat.le_of_ble_eq_true rfl) ?_
  refine s_isub hX dX1_paidUnless_39 ?_
  cases h
  exact s_iret hX hR dX1_paidUnless_40

-- X1_firstWith
def L_X1_firstWith_2 (o : Nat) : Nat → Int32 → Int32 → fsS → Option (Nat × Int32)
  | 0, _, _, _ => none
  | n0 + 1, y1, y2, σ => if (σ o 0) ≤ y2 then some (1, (0 : Int32)) else fs_g (fs_in y2 6) (if (σ (7 * o - 14 + 3) y2.toNatClampNeg) < y1 then L_X1_firstWith_2 o n0 y1 (y2 + (1 : Int32)) σ else some (0, y2))
def F_X1_firstWith (o : Nat) (x1 : Int32) (σ : fsS) : Option (Int32) := (L_X1_firstWith_2 o fs_fu x1 (0 : Int32) σ).bind (fun q4 => if q4.1 = 0 then some q4.2 else some (-9 : Int32))
set_option maxRecDepth 20000 in
set_option maxHeartbeats 4000000 in
theorem l_X1_firstWith_2 {o : Nat} (ho : fs_K o) {X : fsC} (hX : fs_ok cX1_firstWith RX1 3 { frames := 0, cells := 0, slots := 0, locals := 0 } X) : ∀ (n : Nat) (y1 : Int32) (y2 : Int32) (σ : fsS) (μ : fsL) (out : Nat × Int32) (_ : L_X1_firstWith_2 o n y1 y2 σ = some out) (k0 : out.1 = 0 → fs_PW X 20 [none, none, some (.int out.2)] [] σ μ) (k1 : out.1 = 1 → fs_PW X 28 [none, none, none] [] σ μ), fs_PW X 2 [some (.ref o), some (.int y1), some (.int y2)] [] σ μ := by
  intro n
  induction n with
  | zero =>
    intro y1 y2 σ μ out h
    cases (show (none : Option (Nat × Int32)) = some out from h)
  | succ n0 ih =>
    intro y1 y2 σ μ out h k0 k1
    unfold L_X1_firstWith_2 at h
    refine s_iload_n hX dX1_firstWith_2 rfl ?_
    refine s_aload_n hX dX1_firstWith_3 rfl ?_
    refine s_geti hX dX1_firstWith_4 f_X1_9 (fs_kd0 ho) ?_
    refine s_ic_ge hX 28 dX1_firstWith_7 (by decide) (fun c1 => ?_) (fun c1 => ?_)
    · have h := (if_pos c1).symm.trans h
      cases h
      refine fs_ma [false, false, false] ?_
      exact k1 rfl
    · have h := (if_neg c1).symm.trans h
      refine s_aload_n hX dX1_firstWith_10 rfl ?_
      refine s_getr hX dX1_firstWith_11 f_X1_25 (fs_kd4 ho) ?_
      refine s_iload_n hX dX1_firstWith_14 rfl ?_
      obtain ⟨g2, h⟩ := fs_gd h
      refine s_iald hX dX1_firstWith_15 (fs_ik3 ho g2) ?_
      refine s_iload_n hX dX1_firstWith_16 rfl ?_
      refine s_ic_lt hX 22 dX1_firstWith_17 (by decide) (fun c3 => ?_) (fun c3 => ?_)
      · have h := (if_pos c3).symm.trans h
        refine s_iinc hX (y2 + (1 : Int32)) dX1_firstWith_22 rfl rfl (Nat.le_of_ble_eq_true rfl) ?_
        refine s_goto hX 2 dX1_firstWith_25 (by decide) ?_
        refine fs_ma [true, true, true] ?_
        exact ih y1 (y2 + (1 : Int32)) σ μ out h k0 k1
      · have h := (if_neg c3).symm.trans h
        cases h
        refine fs_ma [false, false, true] ?_
        exact k0 rfl
set_option maxRecDepth 20000 in
set_option maxHeartbeats 4000000 in
theorem m_X1_firstWith (o : Nat) (x1 : Int32) (ho : fs_K o) (σ : fsS) (μ : fsL) (out : Int32) (h : F_X1_firstWith o x1 σ = some out) : fs_Met yX1_firstWith cX1_firstWith 3 (some .int) { frames := 0, cells := 0, slots := 0, locals := 0 } [.ref o, .int x1] σ μ (some (.int out)) σ μ := by
  unfold F_X1_firstWith at h
  refine fs_intro (by decide +kernel) (Nat.le_of_ble_eq_true rfl) (fun X hX hR => ?_)
  show fs_PW X 0 [some (.ref o), some (.int x1), none] [] σ μ
  refine s_ic hX (0 : Int32) dX1_firstWith_0 (by decide) ?_
  refine s_istore_n hX dX1_firstWith_1 (Nat.le_of_ble_eq_true rfl) ?_
  obtain ⟨q4, e4, h⟩ := fs_bind h
  refine fs_ma [true, true, true] ?_
  refine l_X1_firstWith_2 ho hX fs_fu x1 (0 : Int32) σ μ q4 e4 (fun c5 => ?_) (fun c5 => ?_)
  · have h := (if_pos c5).symm.trans h
    refine s_iload_n hX dX1_firstWith_20 rfl ?_
    cases h
    exact s_iret hX hR dX1_firstWith_21
  · have h := (if_neg (show ¬ q4.1 = 0 by rw [c5]; decide)).symm.trans h
    refine s_bi hX (-9 : Int32) dX1_firstWith_28 (by decide) ?_
    cases h
    exact s_iret hX hR dX1_firstWith_30

-- X1_highestRegard
def F_X1_highestRegard (o : Nat) (σ : fsS) : Option (Int32 × fsS) := (F_X1_weigh o σ).bind (fun q1 => if (q1 o 0) = 0 then some ((0 : Int32), q1) else fs_g (fs_in (q1 o 8) 6) (some ((q1 (7 * o - 14 + 5) (q1 o 8).toNatClampNeg), q1)))
set_option maxRecDepth 20000 in
set_option maxHeartbeats 4000000 in
theorem m_X1_highestRegard (o : Nat) (ho : fs_K o) (σ : fsS) (μ : fsL) (out : Int32 × fsS) (h : F_X1_highestRegard o σ = some out) : fs_Met yX1_highestRegard cX1_highestRegard 1 (some .int) { frames := 2, cells := 0, slots := 0, locals := 47 } [.ref o] σ μ (some (.int out.1)) out.2 μ := by
  unfold F_X1_highestRegard at h
  refine fs_intro (by decide +kernel) (Nat.le_of_ble_eq_true rfl) (fun X hX hR => ?_)
  show fs_PW X 0 [some (.ref o)] [] σ μ
  refine s_aload_n hX dX1_highestRegard_0 rfl ?_
  obtain ⟨q1, e1, h⟩ := fs_bind h
  refine s_cV hX [] dX1_highestRegard_1 k_X1_64 v_X1_weigh (m_X1_weigh o ho σ μ q1 e1) (fs_K_is ho) fs_c1 ⟨rfl, rfl⟩ ⟨(Nat.le_of_ble_eq_true rfl), (Nat.le_of_ble_eq_true rfl)⟩ rfl rfl (Nat.le_of_ble_eq_true rfl) ?_
  refine s_aload_n hX dX1_highestRegard_4 rfl ?_
  refine s_geti hX dX1_highestRegard_5 f_X1_9 (fs_kd0 ho) ?_
  refine s_if_ne hX 15 dX1_highestRegard_8 (by decide) (fun c2 => ?_) (fun c2 => ?_)
  · have h := (if_neg c2).symm.trans h
    refine s_aload_n hX dX1_highestRegard_15 rfl ?_
    refine s_getr hX dX1_highestRegard_16 f_X1_31 (fs_kd6 ho) ?_
    refine s_aload_n hX dX1_highestRegard_19 rfl ?_
    refine s_geti hX dX1_highestRegard_20 f_X1_37 (fs_kd8 ho) ?_
    obtain ⟨g3, h⟩ := fs_gd h
    refine s_iald hX dX1_highestRegard_23 (fs_ik5 ho g3) ?_
    cases h
    exact s_iret hX hR dX1_highestRegard_24
  · have h := (if_pos c2).symm.trans h
    refine s_ic hX (0 : Int32) dX1_highestRegard_11 (by decide) ?_
    refine s_goto hX 24 dX1_highestRegard_12 (by decide) ?_
    cases h
    exact s_iret hX hR dX1_highestRegard_24

-- X1_allPurses
def L_X1_allPurses_4 (o : Nat) : Nat → Int32 → Int32 → fsS → Option (Int32)
  | 0, _, _, _ => none
  | n0 + 1, y1, y2, σ => if (σ o 0) ≤ y2 then some y1 else fs_g (fs_in y2 6) (L_X1_allPurses_4 o n0 (y1 + (σ (7 * o - 14 + 3) y2.toNatClampNeg)) (y2 + (1 : Int32)) σ)
def F_X1_allPurses (o : Nat) (σ : fsS) : Option (Int32) := (L_X1_allPurses_4 o fs_fu (0 : Int32) (0 : Int32) σ).bind (fun q3 => some q3)
set_option maxRecDepth 20000 in
set_option maxHeartbeats 4000000 in
theorem l_X1_allPurses_4 {o : Nat} (ho : fs_K o) {X : fsC} (hX : fs_ok cX1_allPurses RX1 3 { frames := 0, cells := 0, slots := 0, locals := 0 } X) : ∀ (n : Nat) (y1 : Int32) (y2 : Int32) (σ : fsS) (μ : fsL) (out : Int32) (_ : L_X1_allPurses_4 o n y1 y2 σ = some out) (k0 : fs_PW X 27 [none, some (.int out), none] [] σ μ), fs_PW X 4 [some (.ref o), some (.int y1), some (.int y2)] [] σ μ := by
  intro n
  induction n with
  | zero =>
    intro y1 y2 σ μ out h
    cases (show (none : Option (Int32)) = some out from h)
  | succ n0 ih =>
    intro y1 y2 σ μ out h k0
    unfold L_X1_allPurses_4 at h
    refine s_iload_n hX dX1_allPurses_4 rfl ?_
    refine s_aload_n hX dX1_allPurses_5 rfl ?_
    refine s_geti hX dX1_allPurses_6 f_X1_9 (fs_kd0 ho) ?_
    refine s_ic_ge hX 27 dX1_allPurses_9 (by decide) (fun c1 => ?_) (fun c1 => ?_)
    · have h := (if_pos c1).symm.trans h
      cases h
      refine fs_ma [false, true, false] ?_
      exact k0
    · have h := (if_neg c1).symm.trans h
      refine s_iload_n hX dX1_allPurses_12 rfl ?_
      refine s_aload_n hX dX1_allPurses_13 rfl ?_
      refine s_getr hX dX1_allPurses_14 f_X1_25 (fs_kd4 ho) ?_
      refine s_iload_n hX dX1_allPurses_17 rfl ?_
      obtain ⟨g2, h⟩ := fs_gd h
      refine s_iald hX dX1_allPurses_18 (fs_ik3 ho g2) ?_
      refine s_iadd hX dX1_allPurses_19 ?_
      refine s_istore_n hX dX1_allPurses_20 (Nat.le_of_ble_eq_true rfl) ?_
      refine s_iinc hX (y2 + (1 : Int32)) dX1_allPurses_21 rfl rfl (Nat.le_of_ble_eq_true rfl) ?_
      refine s_goto hX 4 dX1_allPurses_24 (by decide) ?_
      refine fs_ma [true, true, true] ?_
      exact ih (y1 + (σ (7 * o - 14 + 3) y2.toNatClampNeg)) (y2 + (1 : Int32)) σ μ out h k0
set_option maxRecDepth 20000 in
set_option maxHeartbeats 4000000 in
theorem m_X1_allPurses (o : Nat) (ho : fs_K o) (σ : fsS) (μ : fsL) (out : Int32) (h : F_X1_allPurses o σ = some out) : fs_Met yX1_allPurses cX1_allPurses 3 (some .int) { frames := 0, cells := 0, slots := 0, locals := 0 } [.ref o] σ μ (some (.int out)) σ μ := by
  unfold F_X1_allPurses at h
  refine fs_intro (by decide +kernel) (Nat.le_of_ble_eq_true rfl) (fun X hX hR => ?_)
  show fs_PW X 0 [some (.ref o), none, none] [] σ μ
  refine s_ic hX (0 : Int32) dX1_allPurses_0 (by decide) ?_
  refine s_istore_n hX dX1_allPurses_1 (Nat.le_of_ble_eq_true rfl) ?_
  refine s_ic hX (0 : Int32) dX1_allPurses_2 (by decide) ?_
  refine s_istore_n hX dX1_allPurses_3 (Nat.le_of_ble_eq_true rfl) ?_
  obtain ⟨q3, e3, h⟩ := fs_bind h
  refine fs_ma [true, true, true] ?_
  refine l_X1_allPurses_4 ho hX fs_fu (0 : Int32) (0 : Int32) σ μ q3 e3 ?_
  refine s_iload_n hX dX1_allPurses_27 rfl ?_
  cases h
  exact s_iret hX hR dX1_allPurses_28

-- X1_allSooted
def L_X1_allSooted_4 (o : Nat) : Nat → Int32 → Int32 → fsS → Option (Int32)
  | 0, _, _, _ => none
  | n0 + 1, y1, y2, σ => if (σ o 0) ≤ y2 then some y1 else fs_g (fs_in y2 6) (if (σ (7 * o - 14 + 4) y2.toNatClampNeg) ≤ 0 then L_X1_allSooted_4 o n0 y1 (y2 + (1 : Int32)) σ else L_X1_allSooted_4 o n0 (y1 ||| ((1 : Int32) <<< (y2 &&& 31))) (y2 + (1 : Int32)) σ)
def F_X1_allSooted (o : Nat) (σ : fsS) : Option (Int32) := (L_X1_allSooted_4 o fs_fu (0 : Int32) (0 : Int32) σ).bind (fun q4 => some q4)
set_option maxRecDepth 20000 in
set_option maxHeartbeats 4000000 in
theorem l_X1_allSooted_4 {o : Nat} (ho : fs_K o) {X : fsC} (hX : fs_ok cX1_allSooted RX1 3 { frames := 0, cells := 0, slots := 0, locals := 0 } X) : ∀ (n : Nat) (y1 : Int32) (y2 : Int32) (σ : fsS) (μ : fsL) (out : Int32) (_ : L_X1_allSooted_4 o n y1 y2 σ = some out) (k0 : fs_PW X 33 [none, some (.int out), none] [] σ μ), fs_PW X 4 [some (.ref o), some (.int y1), some (.int y2)] [] σ μ := by
  intro n
  induction n with
  | zero =>
    intro y1 y2 σ μ out h
    cases (show (none : Option (Int32)) = some out from h)
  | succ n0 ih =>
    intro y1 y2 σ μ out h k0
    unfold L_X1_allSooted_4 at h
    refine s_iload_n hX dX1_allSooted_4 rfl ?_
    refine s_aload_n hX dX1_allSooted_5 rfl ?_
    refine s_geti hX dX1_allSooted_6 f_X1_9 (fs_kd0 ho) ?_
    refine s_ic_ge hX 33 dX1_allSooted_9 (by decide) (fun c1 => ?_) (fun c1 => ?_)
    · have h := (if_pos c1).symm.trans h
      cases h
      refine fs_ma [false, true, false] ?_
      exact k0
    · have h := (if_neg c1).symm.trans h
      refine s_aload_n hX dX1_allSooted_12 rfl ?_
      refine s_getr hX dX1_allSooted_13 f_X1_28 (fs_kd5 ho) ?_
      refine s_iload_n hX dX1_allSooted_16 rfl ?_
      obtain ⟨g2, h⟩ := fs_gd h
      refine s_iald hX dX1_allSooted_17 (fs_ik4 ho g2) ?_
      refine s_if_le hX 27 dX1_allSooted_18 (by decide) (fun c3 => ?_) (fun c3 => ?_)
      · have h := (if_pos c3).symm.trans h
        refine s_iinc hX (y2 + (1 : Int32)) dX1_allSooted_27 rfl rfl (Nat.le_of_ble_eq_true rfl) ?_
        refine s_goto hX 4 dX1_allSooted_30 (by decide) ?_
        refine fs_ma [true, true, true] ?_
        exact ih y1 (y2 + (1 : Int32)) σ μ out h k0
      · have h := (if_neg c3).symm.trans h
        refine s_iload_n hX dX1_allSooted_21 rfl ?_
        refine s_ic hX (1 : Int32) dX1_allSooted_22 (by decide) ?_
        refine s_iload_n hX dX1_allSooted_23 rfl ?_
        refine s_ishl hX dX1_allSooted_24 ?_
        refine s_ior hX dX1_allSooted_25 ?_
        refine s_istore_n hX dX1_allSooted_26 (Nat.le_of_ble_eq_true rfl) ?_
        refine s_iinc hX (y2 + (1 : Int32)) dX1_allSooted_27 rfl rfl (Nat.le_of_ble_eq_true rfl) ?_
        refine s_goto hX 4 dX1_allSooted_30 (by decide) ?_
        refine fs_ma [true, true, true] ?_
        exact ih (y1 ||| ((1 : Int32) <<< (y2 &&& 31))) (y2 + (1 : Int32)) σ μ out h k0
set_option maxRecDepth 20000 in
set_option maxHeartbeats 4000000 in
theorem m_X1_allSooted (o : Nat) (ho : fs_K o) (σ : fsS) (μ : fsL) (out : Int32) (h : F_X1_allSooted o σ = some out) : fs_Met yX1_allSooted cX1_allSooted 3 (some .int) { frames := 0, cells := 0, slots := 0, locals := 0 } [.ref o] σ μ (some (.int out)) σ μ := by
  unfold F_X1_allSooted at h
  refine fs_intro (by decide +kernel) (Nat.le_of_ble_eq_true rfl) (fun X hX hR => ?_)
  show fs_PW X 0 [some (.ref o), none, none] [] σ μ
  refine s_ic hX (0 : Int32) dX1_allSooted_0 (by decide) ?_
  refine s_istore_n hX dX1_allSooted_1 (Nat.le_of_ble_eq_true rfl) ?_
  refine s_ic hX (0 : Int32) dX1_allSooted_2 (by decide) ?_
  refine s_istore_n hX dX1_allSooted_3 (Nat.le_of_ble_eq_true rfl) ?_
  obtain ⟨q4, e4, h⟩ := fs_bind h
  refine fs_ma [true, true, true] ?_
  refine l_X1_allSooted_4 ho hX fs_fu (0 : Int32) (0 : Int32) σ μ q4 e4 ?_
  refine s_iload_n hX dX1_allSooted_33 rfl ?_
  cases h
  exact s_iret hX hR dX1_allSooted_34

-- X1_allOf
def L_X1_allOf_4 (o : Nat) : Nat → Int32 → Int32 → Int32 → fsS → Option (Int32)
  | 0, _, _, _, _ => none
  | n0 + 1, y1, y2, y3, σ => if (σ o 0) ≤ y3 then some y2 else fs_g (fs_in y3 6) (if (F_X1_isOf (σ (7 * o - 14 + 0) y3.toNatClampNeg) y1) = 0 then L_X1_allOf_4 o n0 y1 y2 (y3 + (1 : Int32)) σ else L_X1_allOf_4 o n0 y1 (y2 + (1 : Int32)) (y3 + (1 : Int32)) σ)
def F_X1_allOf (o : Nat) (x1 : Int32) (σ : fsS) : Option (Int32) := (L_X1_allOf_4 o fs_fu x1 (0 : Int32) (0 : Int32) σ).bind (fun q4 => some q4)
set_option maxRecDepth 20000 in
set_option maxHeartbeats 4000000 in
theorem l_X1_allOf_4 {o : Nat} (ho : fs_K o) {X : fsC} (hX : fs_ok cX1_allOf RX1 4 { frames := 2, cells := 0, slots := 0, locals := 41 } X) : ∀ (n : Nat) (y1 : Int32) (y2 : Int32) (y3 : Int32) (σ : fsS) (μ : fsL) (out : Int32) (_ : L_X1_allOf_4 o n y1 y2 y3 σ = some out) (k0 : fs_PW X 34 [none, none, some (.int out), none] [] σ μ), fs_PW X 4 [some (.ref o), some (.int y1), some (.int y2), some (.int y3)] [] σ μ := by
  intro n
  induction n with
  | zero =>
    intro y1 y2 y3 σ μ out h
    cases (show (none : Option (Int32)) = some out from h)
  | succ n0 ih =>
    intro y1 y2 y3 σ μ out h k0
    unfold L_X1_allOf_4 at h
    refine s_iload_n hX dX1_allOf_4 rfl ?_
    refine s_aload_n hX dX1_allOf_5 rfl ?_
    refine s_geti hX dX1_allOf_6 f_X1_9 (fs_kd0 ho) ?_
    refine s_ic_ge hX 34 dX1_allOf_9 (by decide) (fun c1 => ?_) (fun c1 => ?_)
    · have h := (if_pos c1).symm.trans h
      cases h
      refine fs_ma [false, false, true, false] ?_
      exact k0
    · have h := (if_neg c1).symm.trans h
      refine s_aload_n hX dX1_allOf_12 rfl ?_
      refine s_getr hX dX1_allOf_13 f_X1_15 (fs_kd1 ho) ?_
      refine s_iload_n hX dX1_allOf_16 rfl ?_
      obtain ⟨g2, h⟩ := fs_gd h
      refine s_iald hX dX1_allOf_17 (fs_ik0 ho g2) ?_
      refine s_iload_n hX dX1_allOf_18 rfl ?_
      refine s_callS hX (as := [.int (σ (7 * o - 14 + 0) y3.toNatClampNeg), .int y1]) dX1_allOf_19 k_X1_83 v_X1_isOf (m_X1_isOf (σ (7 * o - 14 + 0) y3.toNatClampNeg) y1 σ μ _ rfl) ⟨rfl, rfl⟩ ⟨(Nat.le_of_ble_eq_true rfl), (Nat.le_of_ble_eq_true rfl)⟩ rfl rfl (Nat.le_of_ble_eq_true rfl) ?_
      refine s_if_eq hX 28 dX1_allOf_22 (by decide) (fun c3 => ?_) (fun c3 => ?_)
      · have h := (if_pos c3).symm.trans h
        refine s_iinc hX (y3 + (1 : Int32)) dX1_allOf_28 rfl rfl (Nat.le_of_ble_eq_true rfl) ?_
        refine s_goto hX 4 dX1_allOf_31 (by decide) ?_
        refine fs_ma [true, true, true, true] ?_
        exact ih y1 y2 (y3 + (1 : Int32)) σ μ out h k0
      · have h := (if_neg c3).symm.trans h
        refine s_iinc hX (y2 + (1 : Int32)) dX1_allOf_25 rfl rfl (Nat.le_of_ble_eq_true rfl) ?_
        refine s_iinc hX (y3 + (1 : Int32)) dX1_allOf_28 rfl rfl (Nat.le_of_ble_eq_true rfl) ?_
        refine s_goto hX 4 dX1_allOf_31 (by decide) ?_
        refine fs_ma [true, true, true, true] ?_
        exact ih y1 (y2 + (1 : Int32)) (y3 + (1 : Int32)) σ μ out h k0
set_option maxRecDepth 20000 in
set_option maxHeartbeats 4000000 in
theorem m_X1_allOf (o : Nat) (x1 : Int32) (ho : fs_K o) (σ : fsS) (μ : fsL) (out : Int32) (h : F_X1_allOf o x1 σ = some out) : fs_Met yX1_allOf cX1_allOf 4 (some .int) { frames := 2, cells := 0, slots := 0, locals := 41 } [.ref o, .int x1] σ μ (some (.int out)) σ μ := by
  unfold F_X1_allOf at h
  refine fs_intro (by decide +kernel) (Nat.le_of_ble_eq_true rfl) (fun X hX hR => ?_)
  show fs_PW X 0 [some (.ref o), some (.int x1), none, none] [] σ μ
  refine s_ic hX (0 : Int32) dX1_allOf_0 (by decide) ?_
  refine s_istore_n hX dX1_allOf_1 (Nat.le_of_ble_eq_true rfl) ?_
  refine s_ic hX (0 : Int32) dX1_allOf_2 (by decide) ?_
  refine s_istore_n hX dX1_allOf_3 (Nat.le_of_ble_eq_true rfl) ?_
  obtain ⟨q4, e4, h⟩ := fs_bind h
  refine fs_ma [true, true, true, true] ?_
  refine l_X1_allOf_4 ho hX fs_fu x1 (0 : Int32) (0 : Int32) σ μ q4 e4 ?_
  refine s_iload_n hX dX1_allOf_34 rfl ?_
  cases h
  exact s_iret hX hR dX1_allOf_35

-- X2_lie
def L_X2_lie_9 (o : Nat) : Nat → Int32 → Int32 → Int32 → fsS → Option (fsS)
  | 0, _, _, _, _ => none
  | n0 + 1, y1, y2, y3, σ => if y2 ≤ y3 then some σ else fs_g (fs_in y1 (fs_rb (34 + o)).2) (fs_g (fs_in y3 (fs_len ((fs_rb (34 + o)).1 + y1.toNatClampNeg))) (L_X2_lie_9 o n0 y1 y2 (y3 + (1 : Int32)) (fs_u σ ((fs_rb (34 + o)).1 + y1.toNatClampNeg) y3.toNatClampNeg (σ o 2))))
def F_X2_lie (o : Nat) (x1 : Int32) (x2 : Int32) (σ : fsS) : Option (fsS) := fs_g (fs_in x1 (fs_len (9 + o))) ((L_X2_lie_9 o fs_fu x1 x2 (0 : Int32) (fs_u σ (9 + o) x1.toNatClampNeg x2)).bind (fun q5 => some q5))
set_option maxRecDepth 20000 in
set_option maxHeartbeats 4000000 in
theorem l_X2_lie_9 {o : Nat} (ho : fs_H o) {X : fsC} (hX : fs_ok cX2_lie RX2 4 { frames := 0, cells := 0, slots := 0, locals := 0 } X) : ∀ (n : Nat) (y1 : Int32) (y2 : Int32) (y3 : Int32) (σ : fsS) (μ : fsL) (out : fsS) (_ : L_X2_lie_9 o n y1 y2 y3 σ = some out) (k0 : fs_PW X 32 [none, none, none, none] [] out μ), fs_PW X 9 [some (.ref o), some (.int y1), some (.int y2), some (.int y3)] [] σ μ := by
  intro n
  induction n with
  | zero =>
    intro y1 y2 y3 σ μ out h
    cases (show (none : Option (fsS)) = some out from h)
  | succ n0 ih =>
    intro y1 y2 y3 σ μ out h k0
    unfold L_X2_lie_9 at h
    refine s_iload_n hX dX2_lie_9 rfl ?_
    refine s_iload_n hX dX2_lie_10 rfl ?_
    refine s_ic_ge hX 32 dX2_lie_11 (by decide) (fun c2 => ?_) (fun c2 => ?_)
    · have h := (if_pos c2).symm.trans h
      cases h
      refine fs_ma [false, false, false, false] ?_
      exact k0
    · have h := (if_neg c2).symm.trans h
      refine s_aload_n hX dX2_lie_14 rfl ?_
      refine s_getr hX dX2_lie_15 f_X2_17 (fs_hd0 ho) ?_
      refine s_iload_n hX dX2_lie_18 rfl ?_
      obtain ⟨g3, h⟩ := fs_gd h
      refine s_aald hX dX2_lie_19 g3 ?_
      refine s_iload_n hX dX2_lie_20 rfl ?_
      refine s_aload_n hX dX2_lie_21 rfl ?_
      refine s_geti hX dX2_lie_22 f_X2_26 (fs_hd2 ho) ?_
      obtain ⟨g4, h⟩ := fs_gd h
      refine s_iast hX dX2_lie_25 g4 ?_
      refine s_iinc hX (y3 + (1 : Int32)) dX2_lie_26 rfl rfl (Nat.le_of_ble_eq_true rfl) ?_
      refine s_goto hX 9 dX2_lie_29 (by decide) ?_
      refine fs_ma [true, true, true, true] ?_
      exact ih y1 y2 (y3 + (1 : Int32)) (fs_u σ ((fs_rb (34 + o)).1 + y1.toNatClampNeg) y3.toNatClampNeg (σ o 2)) μ out h k0
set_option maxRecDepth 20000 in
set_option maxHeartbeats 4000000 in
theorem m_X2_lie (o : Nat) (x1 : Int32) (x2 : Int32) (ho : fs_H o) (σ : fsS) (μ : fsL) (out : fsS) (h : F_X2_lie o x1 x2 σ = some out) : fs_Met yX2_lie cX2_lie 4 none { frames := 0, cells := 0, slots := 0, locals := 0 } [.ref o, .int x1, .int x2] σ μ none out μ := by
  unfold F_X2_lie at h
  refine fs_intro (by decide +kernel) (Nat.le_of_ble_eq_true rfl) (fun X hX hR => ?_)
  show fs_PW X 0 [some (.ref o), some (.int x1), some (.int x2), none] [] σ μ
  refine s_aload_n hX dX2_lie_0 rfl ?_
  refine s_getr hX dX2_lie_1 f_X2_22 (fs_hd1 ho) ?_
  refine s_iload_n hX dX2_lie_4 rfl ?_
  refine s_iload_n hX dX2_lie_5 rfl ?_
  obtain ⟨g1, h⟩ := fs_gd h
  refine s_iast hX dX2_lie_6 g1 ?_
  refine s_ic hX (0 : Int32) dX2_lie_7 (by decide) ?_
  refine s_istore_n hX dX2_lie_8 (Nat.le_of_ble_eq_true rfl) ?_
  obtain ⟨q5, e5, h⟩ := fs_bind h
  refine fs_ma [true, true, true, true] ?_
  refine l_X2_lie_9 ho hX fs_fu x1 x2 (0 : Int32) (fs_u σ (9 + o) x1.toNatClampNeg x2) μ q5 e5 ?_
  cases h
  exact s_vret hX hR dX2_lie_32

-- X2_has
def F_X2_has (o : Nat) (x1 : Int32) (σ : fsS) : Option (Int32) := fs_g (fs_in x1 (fs_len (9 + o))) (if (σ (9 + o) x1.toNatClampNeg) = (-1 : Int32) then some (0 : Int32) else some (1 : Int32))
set_option maxRecDepth 20000 in
set_option maxHeartbeats 4000000 in
theorem m_X2_has (o : Nat) (x1 : Int32) (ho : fs_H o) (σ : fsS) (μ : fsL) (out : Int32) (h : F_X2_has o x1 σ = some out) : fs_Met yX2_has cX2_has 2 (some .boolean) { frames := 0, cells := 0, slots := 0, locals := 0 } [.ref o, .int x1] σ μ (some (.int out)) σ μ := by
  unfold F_X2_has at h
  refine fs_intro (by decide +kernel) (Nat.le_of_ble_eq_true rfl) (fun X hX hR => ?_)
  show fs_PW X 0 [some (.ref o), some (.int x1)] [] σ μ
  refine s_aload_n hX dX2_has_0 rfl ?_
  refine s_getr hX dX2_has_1 f_X2_22 (fs_hd1 ho) ?_
  refine s_iload_n hX dX2_has_4 rfl ?_
  obtain ⟨g1, h⟩ := fs_gd h
  refine s_iald hX dX2_has_5 g1 ?_
  refine s_ic hX (-1 : Int32) dX2_has_6 (by decide) ?_
  refine s_ic_eq hX 14 dX2_has_7 (by decide) (fun c2 => ?_) (fun c2 => ?_)
  · have h := (if_pos c2).symm.trans h
    refine s_ic hX (0 : Int32) dX2_has_14 (by decide) ?_
    cases h
    exact s_zret hX (Or.inl rfl) hR dX2_has_15
  · have h := (if_neg c2).symm.trans h
    refine s_ic hX (1 : Int32) dX2_has_10 (by decide) ?_
    refine s_goto hX 15 dX2_has_11 (by decide) ?_
    cases h
    exact s_zret hX (Or.inr rfl) hR dX2_has_15

-- X2_reaches
def F_X2_reaches (o : Nat) (x1 : Int32) (x2 : Int32) (x3 : Int32) (σ : fsS) : Option (Int32) := if x2 < 0 then some (0 : Int32) else fs_g (fs_in x1 (fs_len (9 + o))) (if ((σ (9 + o) x1.toNatClampNeg) - x2) < x3 then some (0 : Int32) else some (1 : Int32))
set_option maxRecDepth 20000 in
set_option maxHeartbeats 4000000 in
theorem m_X2_reaches (o : Nat) (x1 : Int32) (x2 : Int32) (x3 : Int32) (ho : fs_H o) (σ : fsS) (μ : fsL) (out : Int32) (h : F_X2_reaches o x1 x2 x3 σ = some out) : fs_Met yX2_reaches cX2_reaches 4 (some .boolean) { frames := 0, cells := 0, slots := 0, locals := 0 } [.ref o, .int x1, .int x2, .int x3] σ μ (some (.int out)) σ μ := by
  unfold F_X2_reaches at h
  refine fs_intro (by decide +kernel) (Nat.le_of_ble_eq_true rfl) (fun X hX hR => ?_)
  show fs_PW X 0 [some (.ref o), some (.int x1), some (.int x2), some (.int x3)] [] σ μ
  refine s_iload_n hX dX2_reaches_0 rfl ?_
  refine s_if_lt hX 20 dX2_reaches_1 (by decide) (fun c1 => ?_) (fun c1 => ?_)
  · have h := (if_pos c1).symm.trans h
    refine s_ic hX (0 : Int32) dX2_reaches_20 (by decide) ?_
    cases h
    exact s_zret hX (Or.inl rfl) hR dX2_reaches_21
  · have h := (if_neg c1).symm.trans h
    refine s_iload_n hX dX2_reaches_4 rfl ?_
    refine s_aload_n hX dX2_reaches_5 rfl ?_
    refine s_getr hX dX2_reaches_6 f_X2_22 (fs_hd1 ho) ?_
    refine s_iload_n hX dX2_reaches_9 rfl ?_
    obtain ⟨g2, h⟩ := fs_gd h
    refine s_iald hX dX2_reaches_10 g2 ?_
    refine s_iload_n hX dX2_reaches_11 rfl ?_
    refine s_isub hX dX2_reaches_12 ?_
    refine s_ic_gt hX 20 dX2_reaches_13 (by decide) (fun c3 => ?_) (fun c3 => ?_)
    · have h := (if_pos c3).symm.trans h
      refine s_ic hX (0 : Int32) dX2_reaches_20 (by decide) ?_
      cases h
      exact s_zret hX (Or.inl rfl) hR dX2_reaches_21
    · have h := (if_neg c3).symm.trans h
      refine s_ic hX (1 : Int32) dX2_reaches_16 (by decide) ?_
      refine s_goto hX 21 dX2_reaches_17 (by decide) ?_
      cases h
      exact s_zret hX (Or.inr rfl) hR dX2_reaches_21
