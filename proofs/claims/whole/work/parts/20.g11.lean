-- X4_has
def F_X4_has (x0 : Int32) (x1 : Int32) : Int32 := if ((x0 >>> (x1 &&& 31)) &&& (1 : Int32)) = (1 : Int32) then (1 : Int32) else (0 : Int32)
theorem z_X4_has (x0 : Int32) (x1 : Int32) : F_X4_has x0 x1 = 0 ∨ F_X4_has x0 x1 = 1 := by
  unfold F_X4_has
  (repeat' split) <;> first | exact Or.inl rfl | exact Or.inr rfl
set_option maxRecDepth 20000 in
set_option maxHeartbeats 40000000 in
theorem m_X4_has (x0 : Int32) (x1 : Int32)  (σ : fsS) (μ : fsL) (out : Int32) (h : F_X4_has x0 x1 = out) : fs_Met yX4_has cX4_has 2 (some .boolean) { frames := 0, cells := 0, slots := 0, locals := 0 } [.int x0, .int x1] σ μ (some (.int out)) σ μ := by
  unfold F_X4_has at h
  refine fs_intro (by decide +kernel) (Nat.le_of_ble_eq_true rfl) (fun X hX hR => ?_)
  show fs_PW X 0 [some (.int x0), some (.int x1)] [] σ μ
  refine s_iload_n hX dX4_has_0 rfl ?_
  refine s_iload_n hX dX4_has_1 rfl ?_
  refine s_ishr hX dX4_has_2 ?_
  refine s_ic hX (1 : Int32) dX4_has_3 (by decide) ?_
  refine s_iand hX dX4_has_4 ?_
  refine s_ic hX (1 : Int32) dX4_has_5 (by decide) ?_
  refine s_ic_ne hX 13 dX4_has_6 (by decide) (fun c1 => ?_) (fun c1 => ?_)
  · have h := (if_neg c1).symm.trans h
    refine s_ic hX (0 : Int32) dX4_has_13 (by decide) ?_
    subst h
    exact s_zret hX (Or.inl rfl) hR dX4_has_14
  · have h := (if_pos c1).symm.trans h
    refine s_ic hX (1 : Int32) dX4_has_9 (by decide) ?_
    refine s_goto hX 14 dX4_has_10 (by decide) ?_
    subst h
    exact s_zret hX (Or.inr rfl) hR dX4_has_14

-- X4_found
def F_X4_found (x1 : Int32) (σ : fsS) : Option (Int32 × fsS) := fs_g (fs_in x1 6) (fs_g (fs_in x1 6) (some ((-3 : Int32), (fs_u (fs_u σ 51 7 x1) 56 x1.toNatClampNeg ((σ 56 x1.toNatClampNeg) + (1 : Int32))))))
set_option maxRecDepth 20000 in
set_option maxHeartbeats 40000000 in
theorem m_X4_found (x1 : Int32)  (σ : fsS) (μ : fsL) (out : Int32 × fsS) (h : F_X4_found x1 σ = some out) : fs_Met yX4_found cX4_found 2 (some .int) { frames := 0, cells := 0, slots := 0, locals := 0 } [.ref 51, .int x1] σ μ (some (.int out.1)) out.2 μ := by
  unfold F_X4_found at h
  refine fs_intro (by decide +kernel) (Nat.le_of_ble_eq_true rfl) (fun X hX hR => ?_)
  show fs_PW X 0 [some (.ref 51), some (.int x1)] [] σ μ
  refine s_aload_n hX dX4_found_0 rfl ?_
  refine s_iload_n hX dX4_found_1 rfl ?_
  refine s_puti hX dX4_found_2 p_X4_65 rfl ?_
  refine s_aload_n hX dX4_found_5 rfl ?_
  refine s_getr hX dX4_found_6 f_X4_26 rfl ?_
  refine s_iload_n hX dX4_found_9 rfl ?_
  refine s_dup2 hX dX4_found_10 rfl rfl ?_
  obtain ⟨g1, h⟩ := fs_gd h
  refine s_iald hX dX4_found_11 g1 ?_
  refine s_ic hX (1 : Int32) dX4_found_12 (by decide) ?_
  refine s_iadd hX dX4_found_13 ?_
  obtain ⟨g2, h⟩ := fs_gd h
  refine s_iast hX dX4_found_14 g2 ?_
  refine s_bi hX (-3 : Int32) dX4_found_15 (by decide) ?_
  cases h
  exact s_iret hX hR dX4_found_17

-- X4_tell
def F_X4_tell (x1 : Int32) (σ : fsS) : Int32 × fsS := ((1 : Int32), (fs_u σ 51 4 x1))
set_option maxRecDepth 20000 in
set_option maxHeartbeats 40000000 in
theorem m_X4_tell (x1 : Int32)  (σ : fsS) (μ : fsL) (out : Int32 × fsS) (h : F_X4_tell x1 σ = out) : fs_Met yX4_tell cX4_tell 2 (some .int) { frames := 0, cells := 0, slots := 0, locals := 0 } [.ref 51, .int x1] σ μ (some (.int out.1)) out.2 μ := by
  unfold F_X4_tell at h
  refine fs_intro (by decide +kernel) (Nat.le_of_ble_eq_true rfl) (fun X hX hR => ?_)
  show fs_PW X 0 [some (.ref 51), some (.int x1)] [] σ μ
  refine s_aload_n hX dX4_tell_0 rfl ?_
  refine s_iload_n hX dX4_tell_1 rfl ?_
  refine s_puti hX dX4_tell_2 p_X4_69 rfl ?_
  refine s_ic hX (1 : Int32) dX4_tell_5 (by decide) ?_
  subst h
  exact s_iret hX hR dX4_tell_6

-- X4_answer
def F_X4_answer (x1 : Int32) (x2 : Int32) (σ : fsS) : Int32 × fsS := (x1, (fs_u σ 51 4 x2))
set_option maxRecDepth 20000 in
set_option maxHeartbeats 40000000 in
theorem m_X4_answer (x1 : Int32) (x2 : Int32)  (σ : fsS) (μ : fsL) (out : Int32 × fsS) (h : F_X4_answer x1 x2 σ = out) : fs_Met yX4_answer cX4_answer 3 (some .int) { frames := 0, cells := 0, slots := 0, locals := 0 } [.ref 51, .int x1, .int x2] σ μ (some (.int out.1)) out.2 μ := by
  unfold F_X4_answer at h
  refine fs_intro (by decide +kernel) (Nat.le_of_ble_eq_true rfl) (fun X hX hR => ?_)
  show fs_PW X 0 [some (.ref 51), some (.int x1), some (.int x2)] [] σ μ
  refine s_aload_n hX dX4_answer_0 rfl ?_
  refine s_iload_n hX dX4_answer_1 rfl ?_
  refine s_puti hX dX4_answer_2 p_X4_69 rfl ?_
  refine s_iload_n hX dX4_answer_5 rfl ?_
  subst h
  exact s_iret hX hR dX4_answer_6

-- X4_isRow
def F_X4_isRow (x0 : Int32) : Int32 := (F_X4_in (x0.toInt64) (0 : Int64) (5 : Int64))
theorem z_X4_isRow (x0 : Int32) : F_X4_isRow x0 = 0 ∨ F_X4_isRow x0 = 1 := by
  unfold F_X4_isRow
  (repeat' split) <;> first | exact Or.inl rfl | exact Or.inr rfl | exact (z_X4_in _ _ _)
set_option maxRecDepth 20000 in
set_option maxHeartbeats 40000000 in
theorem m_X4_isRow (x0 : Int32)  (σ : fsS) (μ : fsL) (out : Int32) (h : F_X4_isRow x0 = out) : fs_Met yX4_isRow cX4_isRow 1 (some .boolean) { frames := 1, cells := 0, slots := 0, locals := 25 } [.int x0] σ μ (some (.int out)) σ μ := by
  unfold F_X4_isRow at h
  refine fs_intro (by decide +kernel) (Nat.le_of_ble_eq_true rfl) (fun X hX hR => ?_)
  show fs_PW X 0 [some (.int x0)] [] σ μ
  refine s_iload_n hX dX4_isRow_0 rfl ?_
  refine s_i2l hX dX4_isRow_1 ?_
  refine s_lc hX (0 : Int64) dX4_isRow_2 (by decide) ?_
  refine s_ldc2 hX (5 : Int64) dX4_isRow_3 q_X4_72 ?_
  refine s_callS hX (as := [.long (x0.toInt64), .long (0 : Int64), .long (5 : Int64)]) dX4_isRow_6 k_X4_74 v_X4_in (m_X4_in (x0.toInt64) (0 : Int64) (5 : Int64) σ μ _ rfl) ⟨rfl, rfl⟩ ⟨(Nat.le_of_ble_eq_true rfl), (Nat.le_of_ble_eq_true rfl)⟩ rfl rfl (Nat.le_of_ble_eq_true rfl) ?_
  subst h
  exact s_zret hX (z_X4_in _ _ _) hR dX4_isRow_9

-- X4_isText
def F_X4_isText (x0 : Int32) : Int32 := (F_X4_in (x0.toInt64) (0 : Int64) (3 : Int64))
theorem z_X4_isText (x0 : Int32) : F_X4_isText x0 = 0 ∨ F_X4_isText x0 = 1 := by
  unfold F_X4_isText
  (repeat' split) <;> first | exact Or.inl rfl | exact Or.inr rfl | exact (z_X4_in _ _ _)
set_option maxRecDepth 20000 in
set_option maxHeartbeats 40000000 in
theorem m_X4_isText (x0 : Int32)  (σ : fsS) (μ : fsL) (out : Int32) (h : F_X4_isText x0 = out) : fs_Met yX4_isText cX4_isText 1 (some .boolean) { frames := 1, cells := 0, slots := 0, locals := 25 } [.int x0] σ μ (some (.int out)) σ μ := by
  unfold F_X4_isText at h
  refine fs_intro (by decide +kernel) (Nat.le_of_ble_eq_true rfl) (fun X hX hR => ?_)
  show fs_PW X 0 [some (.int x0)] [] σ μ
  refine s_iload_n hX dX4_isText_0 rfl ?_
  refine s_i2l hX dX4_isText_1 ?_
  refine s_lc hX (0 : Int64) dX4_isText_2 (by decide) ?_
  refine s_ldc2 hX (3 : Int64) dX4_isText_3 q_X4_78 ?_
  refine s_callS hX (as := [.long (x0.toInt64), .long (0 : Int64), .long (3 : Int64)]) dX4_isText_6 k_X4_74 v_X4_in (m_X4_in (x0.toInt64) (0 : Int64) (3 : Int64) σ μ _ rfl) ⟨rfl, rfl⟩ ⟨(Nat.le_of_ble_eq_true rfl), (Nat.le_of_ble_eq_true rfl)⟩ rfl rfl (Nat.le_of_ble_eq_true rfl) ?_
  subst h
  exact s_zret hX (z_X4_in _ _ _) hR dX4_isText_9

-- X4_row
def L_X4_row_34  : Nat → Int32 → Int32 → Int32 → fsS → Option (fsS)
  | 0, _, _, _, _ => none
  | n0 + 1, y1, y2, y3, σ => if (40 : Int32) ≤ y3 then some σ else fs_g (fs_in (((40 : Int32) * y1) + y3) 240) (L_X4_row_34  n0 y1 y2 (y3 + (1 : Int32)) (fs_u σ 52 (((40 : Int32) * y1) + y3).toNatClampNeg (0 : Int32)))
def F_X4_row (x1 : Int32) (x2 : Int32) (σ : fsS) : Option (Int32 × fsS) := if (F_X4_isRow x1) = 0 then some ((-1 : Int32), σ) else if x2 ≤ (40 : Int32) then if 0 ≤ x2 then fs_g (fs_in x1 6) ((L_X4_row_34  fs_fu x1 x2 (0 : Int32) (fs_u σ 53 x1.toNatClampNeg x2)).bind (fun q7 => some (x2, q7))) else (F_X4_found (5 : Int32) σ).bind (fun q8 => some (q8.1, q8.2)) else some ((-1 : Int32), σ)
set_option maxRecDepth 20000 in
set_option maxHeartbeats 40000000 in
theorem l_X4_row_34   {X : fsC} (hX : fs_ok cX4_row RX4 4 { frames := 2, cells := 0, slots := 0, locals := 45 } X) : ∀ (n : Nat) (y1 : Int32) (y2 : Int32) (y3 : Int32) (σ : fsS) (μ : fsL) (out : fsS) (_ : L_X4_row_34  n y1 y2 y3 σ = some out) (k0 : fs_PW X 58 [none, none, some (.int y2), none] [] out μ), fs_PW X 34 [some (.ref 51), some (.int y1), some (.int y2), some (.int y3)] [] σ μ := by
  intro n
  induction n with
  | zero =>
    intro y1 y2 y3 σ μ out h
    cases (show (none : Option (fsS)) = some out from h)
  | succ n0 ih =>
    intro y1 y2 y3 σ μ out h k0
    unfold L_X4_row_34 at h
    refine s_iload_n hX dX4_row_34 rfl ?_
    refine s_bi hX (40 : Int32) dX4_row_35 (by decide) ?_
    refine s_ic_ge hX 58 dX4_row_37 (by decide) (fun c5 => ?_) (fun c5 => ?_)
    · have h := (if_pos c5).symm.trans h
      cases h
      refine fs_ma [false, false, true, false] ?_
      exact k0
    · have h := (if_neg c5).symm.trans h
      refine s_aload_n hX dX4_row_40 rfl ?_
      refine s_getr hX dX4_row_41 f_X4_7 rfl ?_
      refine s_bi hX (40 : Int32) dX4_row_44 (by decide) ?_
      refine s_iload_n hX dX4_row_46 rfl ?_
      refine s_imul hX dX4_row_47 ?_
      refine s_iload_n hX dX4_row_48 rfl ?_
      refine s_iadd hX dX4_row_49 ?_
      refine s_ic hX (0 : Int32) dX4_row_50 (by decide) ?_
      obtain ⟨g6, h⟩ := fs_gd h
      refine s_iast hX dX4_row_51 g6 ?_
      refine s_iinc hX (y3 + (1 : Int32)) dX4_row_52 rfl rfl (Nat.le_of_ble_eq_true rfl) ?_
      refine s_goto hX 34 dX4_row_55 (by decide) ?_
      refine fs_ma [true, true, true, true] ?_
      exact ih y1 y2 (y3 + (1 : Int32)) (fs_u σ 52 (((40 : Int32) * y1) + y3).toNatClampNeg (0 : Int32)) μ out h k0
set_option maxRecDepth 20000 in
set_option maxHeartbeats 40000000 in
theorem m_X4_row (x1 : Int32) (x2 : Int32)  (σ : fsS) (μ : fsL) (out : Int32 × fsS) (h : F_X4_row x1 x2 σ = some out) : fs_Met yX4_row cX4_row 4 (some .int) { frames := 2, cells := 0, slots := 0, locals := 45 } [.ref 51, .int x1, .int x2] σ μ (some (.int out.1)) out.2 μ := by
  unfold F_X4_row at h
  refine fs_intro (by decide +kernel) (Nat.le_of_ble_eq_true rfl) (fun X hX hR => ?_)
  show fs_PW X 0 [some (.ref 51), some (.int x1), some (.int x2), none] [] σ μ
  refine s_iload_n hX dX4_row_0 rfl ?_
  refine s_callS hX (as := [.int x1]) dX4_row_1 k_X4_80 v_X4_isRow (m_X4_isRow x1 σ μ _ rfl) ⟨rfl, rfl⟩ ⟨(Nat.le_of_ble_eq_true rfl), (Nat.le_of_ble_eq_true rfl)⟩ rfl rfl (Nat.le_of_ble_eq_true rfl) ?_
  refine s_if_eq hX 13 dX4_row_4 (by decide) (fun c1 => ?_) (fun c1 => ?_)
  · have h := (if_pos c1).symm.trans h
    refine s_ic hX (-1 : Int32) dX4_row_13 (by decide) ?_
    cases h
    exact s_iret hX hR dX4_row_14
  · have h := (if_neg c1).symm.trans h
    refine s_iload_n hX dX4_row_7 rfl ?_
    refine s_bi hX (40 : Int32) dX4_row_8 (by decide) ?_
    refine s_ic_le hX 15 dX4_row_10 (by decide) (fun c2 => ?_) (fun c2 => ?_)
    · have h := (if_pos c2).symm.trans h
      refine s_iload_n hX dX4_row_15 rfl ?_
      refine s_if_ge hX 25 dX4_row_16 (by decide) (fun c3 => ?_) (fun c3 => ?_)
      · have h := (if_pos c3).symm.trans h
        refine s_aload_n hX dX4_row_25 rfl ?_
        refine s_getr hX dX4_row_26 f_X4_13 rfl ?_
        refine s_iload_n hX dX4_row_29 rfl ?_
        refine s_iload_n hX dX4_row_30 rfl ?_
        obtain ⟨g4, h⟩ := fs_gd h
        refine s_iast hX dX4_row_31 g4 ?_
        refine s_ic hX (0 : Int32) dX4_row_32 (by decide) ?_
        refine s_istore_n hX dX4_row_33 (Nat.le_of_ble_eq_true rfl) ?_
        obtain ⟨q7, e7, h⟩ := fs_bind h
        refine fs_ma [true, true, true, true] ?_
        refine l_X4_row_34  hX fs_fu x1 x2 (0 : Int32) (fs_u σ 53 x1.toNatClampNeg x2) μ q7 e7 ?_
        refine s_iload_n hX dX4_row_58 rfl ?_
        cases h
        exact s_iret hX hR dX4_row_59
      · have h := (if_neg c3).symm.trans h
        refine s_aload_n hX dX4_row_19 rfl ?_
        refine s_ic hX (5 : Int32) dX4_row_20 (by decide) ?_
        obtain ⟨q8, e8, h⟩ := fs_bind h
        refine s_cV hX [.int (5 : Int32)] dX4_row_21 k_X4_84 v_X4_found (m_X4_found (5 : Int32) σ μ q8 e8) ⟨_, rfl⟩ fs_c4 ⟨rfl, rfl⟩ ⟨(Nat.le_of_ble_eq_true rfl), (Nat.le_of_ble_eq_true rfl)⟩ rfl rfl (Nat.le_of_ble_eq_true rfl) ?_
        cases h
        exact s_iret hX hR dX4_row_24
    · have h := (if_neg c2).symm.trans h
      refine s_ic hX (-1 : Int32) dX4_row_13 (by decide) ?_
      cases h
      exact s_iret hX hR dX4_row_14

-- X4_lay
def F_X4_lay (x1 : Int32) (x2 : Int32) (x3 : Int32) (σ : fsS) : Option (Int32 × fsS) := if (F_X4_isRow x1) = 0 then some ((-1 : Int32), σ) else fs_g (fs_in x1 6) (if 0 ≤ (σ 53 x1.toNatClampNeg) then fs_g (fs_in x1 6) (if (F_X4_in (x2.toInt64) (0 : Int64) (((σ 53 x1.toNatClampNeg) - (1 : Int32)).toInt64)) = 0 then (F_X4_found (2 : Int32) σ).bind (fun q8 => some (q8.1, q8.2)) else fs_g (fs_in (((40 : Int32) * x1) + x2) 240) (fs_g (fs_in (((40 : Int32) * x1) + x2) 240) (some ((F_X4_tell (σ 52 (((40 : Int32) * x1) + x2).toNatClampNeg) (fs_u σ 52 (((40 : Int32) * x1) + x2).toNatClampNeg x3)).1, (F_X4_tell (σ 52 (((40 : Int32) * x1) + x2).toNatClampNeg) (fs_u σ 52 (((40 : Int32) * x1) + x2).toNatClampNeg x3)).2)))) else (F_X4_found (1 : Int32) σ).bind (fun q9 => some (q9.1, q9.2)))
set_option maxRecDepth 20000 in
set_option maxHeartbeats 40000000 in
theorem m_X4_lay (x1 : Int32) (x2 : Int32) (x3 : Int32)  (σ : fsS) (μ : fsL) (out : Int32 × fsS) (h : F_X4_lay x1 x2 x3 σ = some out) : fs_Met yX4_lay cX4_lay 5 (some .int) { frames := 2, cells := 0, slots := 0, locals := 45 } [.ref 51, .int x1, .int x2, .int x3] σ μ (some (.int out.1)) out.2 μ := by
  unfold F_X4_lay at h
  refine fs_intro (by decide +kernel) (Nat.le_of_ble_eq_true rfl) (fun X hX hR => ?_)
  show fs_PW X 0 [some (.ref 51), some (.int x1), some (.int x2), some (.int x3), none] [] σ μ
  refine s_iload_n hX dX4_lay_0 rfl ?_
  refine s_callS hX (as := [.int x1]) dX4_lay_1 k_X4_80 v_X4_isRow (m_X4_isRow x1 σ μ _ rfl) ⟨rfl, rfl⟩ ⟨(Nat.le_of_ble_eq_true rfl), (Nat.le_of_ble_eq_true rfl)⟩ rfl rfl (Nat.le_of_ble_eq_true rfl) ?_
  refine s_if_ne hX 9 dX4_lay_4 (by decide) (fun c1 => ?_) (fun c1 => ?_)
  · have h := (if_neg c1).symm.trans h
    refine s_aload_n hX dX4_lay_9 rfl ?_
    refine s_getr hX dX4_lay_10 f_X4_13 rfl ?_
    refine s_iload_n hX dX4_lay_13 rfl ?_
    obtain ⟨g2, h⟩ := fs_gd h
    refine s_iald hX dX4_lay_14 g2 ?_
    refine s_if_ge hX 24 dX4_lay_15 (by decide) (fun c3 => ?_) (fun c3 => ?_)
    · have h := (if_pos c3).symm.trans h
      refine s_iload_n hX dX4_lay_24 rfl ?_
      refine s_i2l hX dX4_lay_25 ?_
      refine s_lc hX (0 : Int64) dX4_lay_26 (by decide) ?_
      refine s_aload_n hX dX4_lay_27 rfl ?_
      refine s_getr hX dX4_lay_28 f_X4_13 rfl ?_
      refine s_iload_n hX dX4_lay_31 rfl ?_
      obtain ⟨g4, h⟩ := fs_gd h
      refine s_iald hX dX4_lay_32 g4 ?_
      refine s_ic hX (1 : Int32) dX4_lay_33 (by decide) ?_
      refine s_isub hX dX4_lay_34 ?_
      refine s_i2l hX dX4_lay_35 ?_
      refine s_callS hX (as := [.long (x2.toInt64), .long (0 : Int64), .long (((σ 53 x1.toNatClampNeg) - (1 : Int32)).toInt64)]) dX4_lay_36 k_X4_74 v_X4_in (m_X4_in (x2.toInt64) (0 : Int64) (((σ 53 x1.toNatClampNeg) - (1 : Int32)).toInt64) σ μ _ rfl) ⟨rfl, rfl⟩ ⟨(Nat.le_of_ble_eq_true rfl), (Nat.le_of_ble_eq_true rfl)⟩ rfl rfl (Nat.le_of_ble_eq_true rfl) ?_
      refine s_if_ne hX 48 dX4_lay_39 (by decide) (fun c5 => ?_) (fun c5 => ?_)
      · have h := (if_neg c5).symm.trans h
        refine s_aload_n hX dX4_lay_48 rfl ?_
        refine s_getr hX dX4_lay_49 f_X4_7 rfl ?_
        refine s_bi hX (40 : Int32) dX4_lay_52 (by decide) ?_
        refine s_iload_n hX dX4_lay_54 rfl ?_
        refine s_imul hX dX4_lay_55 ?_
        refine s_iload_n hX dX4_lay_56 rfl ?_
        refine s_iadd hX dX4_lay_57 ?_
        obtain ⟨g6, h⟩ := fs_gd h
        refine s_iald hX dX4_lay_58 g6 ?_
        refine s_istore hX dX4_lay_59 (Nat.le_of_ble_eq_true rfl) ?_
        refine s_aload_n hX dX4_lay_61 rfl ?_
        refine s_getr hX dX4_lay_62 f_X4_7 rfl ?_
        refine s_bi hX (40 : Int32) dX4_lay_65 (by decide) ?_
        refine s_iload_n hX dX4_lay_67 rfl ?_
        refine s_imul hX dX4_lay_68 ?_
        refine s_iload_n hX dX4_lay_69 rfl ?_
        refine s_iadd hX dX4_lay_70 ?_
        refine s_iload_n hX dX4_lay_71 rfl ?_
        obtain ⟨g7, h⟩ := fs_gd h
        refine s_iast hX dX4_lay_72 g7 ?_
        refine s_aload_n hX dX4_lay_73 rfl ?_
        refine s_iload hX dX4_lay_74 rfl ?_
        refine s_cV hX [.int (σ 52 (((40 : Int32) * x1) + x2).toNatClampNeg)] dX4_lay_76 k_X4_88 v_X4_tell (m_X4_tell (σ 52 (((40 : Int32) * x1) + x2).toNatClampNeg) (fs_u σ 52 (((40 : Int32) * x1) + x2).toNatClampNeg x3) μ _ rfl) ⟨_, rfl⟩ fs_c4 ⟨rfl, rfl⟩ ⟨(Nat.le_of_ble_eq_true rfl), (Nat.le_of_ble_eq_true rfl)⟩ rfl rfl (Nat.le_of_ble_eq_true rfl) ?_
        cases h
        exact s_iret hX hR dX4_lay_79
      · have h := (if_pos c5).symm.trans h
        refine s_aload_n hX dX4_lay_42 rfl ?_
        refine s_ic hX (2 : Int32) dX4_lay_43 (by decide) ?_
        obtain ⟨q8, e8, h⟩ := fs_bind h
        refine s_cV hX [.int (2 : Int32)] dX4_lay_44 k_X4_84 v_X4_found (m_X4_found (2 : Int32) σ μ q8 e8) ⟨_, rfl⟩ fs_c4 ⟨rfl, rfl⟩ ⟨(Nat.le_of_ble_eq_true rfl), (Nat.le_of_ble_eq_true rfl)⟩ rfl rfl (Nat.le_of_ble_eq_true rfl) ?_
        cases h
        exact s_iret hX hR dX4_lay_47
    · have h := (if_neg c3).symm.trans h
      refine s_aload_n hX dX4_lay_18 rfl ?_
      refine s_ic hX (1 : Int32) dX4_lay_19 (by decide) ?_
      obtain ⟨q9, e9, h⟩ := fs_bind h
      refine s_cV hX [.int (1 : Int32)] dX4_lay_20 k_X4_84 v_X4_found (m_X4_found (1 : Int32) σ μ q9 e9) ⟨_, rfl⟩ fs_c4 ⟨rfl, rfl⟩ ⟨(Nat.le_of_ble_eq_true rfl), (Nat.le_of_ble_eq_true rfl)⟩ rfl rfl (Nat.le_of_ble_eq_true rfl) ?_
      cases h
      exact s_iret hX hR dX4_lay_23
  · have h := (if_pos c1).symm.trans h
    refine s_ic hX (-1 : Int32) dX4_lay_7 (by decide) ?_
    cases h
    exact s_iret hX hR dX4_lay_8

-- X4_at
def F_X4_at (x1 : Int32) (x2 : Int32) (σ : fsS) : Option (Int32 × fsS) := if (F_X4_isRow x1) = 0 then some ((-1 : Int32), σ) else fs_g (fs_in x1 6) (if 0 ≤ (σ 53 x1.toNatClampNeg) then fs_g (fs_in x1 6) (if (F_X4_in (x2.toInt64) (0 : Int64) (((σ 53 x1.toNatClampNeg) - (1 : Int32)).toInt64)) = 0 then (F_X4_found (2 : Int32) σ).bind (fun q6 => some (q6.1, q6.2)) else fs_g (fs_in (((40 : Int32) * x1) + x2) 240) (some ((F_X4_tell (σ 52 (((40 : Int32) * x1) + x2).toNatClampNeg) σ).1, (F_X4_tell (σ 52 (((40 : Int32) * x1) + x2).toNatClampNeg) σ).2))) else (F_X4_found (1 : Int32) σ).bind (fun q8 => some (q8.1, q8.2)))
set_option maxRecDepth 20000 in
set_option maxHeartbeats 40000000 in
theorem m_X4_at (x1 : Int32) (x2 : Int32)  (σ : fsS) (μ : fsL) (out : Int32 × fsS) (h : F_X4_at x1 x2 σ = some out) : fs_Met yX4_at cX4_at 3 (some .int) { frames := 2, cells := 0, slots := 0, locals := 45 } [.ref 51, .int x1, .int x2] σ μ (some (.int out.1)) out.2 μ := by
  unfold F_X4_at at h
  refine fs_intro (by decide +kernel) (Nat.le_of_ble_eq_true rfl) (fun X hX hR => ?_)
  show fs_PW X 0 [some (.ref 51), some (.int x1), some (.int x2)] [] σ μ
  refine s_iload_n hX dX4_at_0 rfl ?_
  refine s_callS hX (as := [.int x1]) dX4_at_1 k_X4_80 v_X4_isRow (m_X4_isRow x1 σ μ _ rfl) ⟨rfl, rfl⟩ ⟨(Nat.le_of_ble_eq_true rfl), (Nat.le_of_ble_eq_true rfl)⟩ rfl rfl (Nat.le_of_ble_eq_true rfl) ?_
  refine s_if_ne hX 9 dX4_at_4 (by decide) (fun c1 => ?_) (fun c1 => ?_)
  · have h := (if_neg c1).symm.trans h
    refine s_aload_n hX dX4_at_9 rfl ?_
    refine s_getr hX dX4_at_10 f_X4_13 rfl ?_
    refine s_iload_n hX dX4_at_13 rfl ?_
    obtain ⟨g2, h⟩ := fs_gd h
    refine s_iald hX dX4_at_14 g2 ?_
    refine s_if_ge hX 24 dX4_at_15 (by decide) (fun c3 => ?_) (fun c3 => ?_)
    · have h := (if_pos c3).symm.trans h
      refine s_iload_n hX dX4_at_24 rfl ?_
      refine s_i2l hX dX4_at_25 ?_
      refine s_lc hX (0 : Int64) dX4_at_26 (by decide) ?_
      refine s_aload_n hX dX4_at_27 rfl ?_
      refine s_getr hX dX4_at_28 f_X4_13 rfl ?_
      refine s_iload_n hX dX4_at_31 rfl ?_
      obtain ⟨g4, h⟩ := fs_gd h
      refine s_iald hX dX4_at_32 g4 ?_
      refine s_ic hX (1 : Int32) dX4_at_33 (by decide) ?_
      refine s_isub hX dX4_at_34 ?_
      refine s_i2l hX dX4_at_35 ?_
      refine s_callS hX (as := [.long (x2.toInt64), .long (0 : Int64), .long (((σ 53 x1.toNatClampNeg) - (1 : Int32)).toInt64)]) dX4_at_36 k_X4_74 v_X4_in (m_X4_in (x2.toInt64) (0 : Int64) (((σ 53 x1.toNatClampNeg) - (1 : Int32)).toInt64) σ μ _ rfl) ⟨rfl, rfl⟩ ⟨(Nat.le_of_ble_eq_true rfl), (Nat.le_of_ble_eq_true rfl)⟩ rfl rfl (Nat.le_of_ble_eq_true rfl) ?_
      refine s_if_eq hX 60 dX4_at_39 (by decide) (fun c5 => ?_) (fun c5 => ?_)
      · have h := (if_pos c5).symm.trans h
        refine s_aload_n hX dX4_at_60 rfl ?_
        refine s_ic hX (2 : Int32) dX4_at_61 (by decide) ?_
        obtain ⟨q6, e6, h⟩ := fs_bind h
        refine s_cV hX [.int (2 : Int32)] dX4_at_62 k_X4_84 v_X4_found (m_X4_found (2 : Int32) σ μ q6 e6) ⟨_, rfl⟩ fs_c4 ⟨rfl, rfl⟩ ⟨(Nat.le_of_ble_eq_true rfl), (Nat.le_of_ble_eq_true rfl)⟩ rfl rfl (Nat.le_of_ble_eq_true rfl) ?_
        cases h
        exact s_iret hX hR dX4_at_65
      · have h := (if_neg c5).symm.trans h
        refine s_aload_n hX dX4_at_42 rfl ?_
        refine s_aload_n hX dX4_at_43 rfl ?_
        refine s_getr hX dX4_at_44 f_X4_7 rfl ?_
        refine s_bi hX (40 : Int32) dX4_at_47 (by decide) ?_
        refine s_iload_n hX dX4_at_49 rfl ?_
        refine s_imul hX dX4_at_50 ?_
        refine s_iload_n hX dX4_at_51 rfl ?_
        refine s_iadd hX dX4_at_52 ?_
        obtain ⟨g7, h⟩ := fs_gd h
        refine s_iald hX dX4_at_53 g7 ?_
        refine s_cV hX [.int (σ 52 (((40 : Int32) * x1) + x2).toNatClampNeg)] dX4_at_54 k_X4_88 v_X4_tell (m_X4_tell (σ 52 (((40 : Int32) * x1) + x2).toNatClampNeg) σ μ _ rfl) ⟨_, rfl⟩ fs_c4 ⟨rfl, rfl⟩ ⟨(Nat.le_of_ble_eq_true rfl), (Nat.le_of_ble_eq_true rfl)⟩ rfl rfl (Nat.le_of_ble_eq_true rfl) ?_
        refine s_goto hX 65 dX4_at_57 (by decide) ?_
        cases h
        exact s_iret hX hR dX4_at_65
    · have h := (if_neg c3).symm.trans h
      refine s_aload_n hX dX4_at_18 rfl ?_
      refine s_ic hX (1 : Int32) dX4_at_19 (by decide) ?_
      obtain ⟨q8, e8, h⟩ := fs_bind h
      refine s_cV hX [.int (1 : Int32)] dX4_at_20 k_X4_84 v_X4_found (m_X4_found (1 : Int32) σ μ q8 e8) ⟨_, rfl⟩ fs_c4 ⟨rfl, rfl⟩ ⟨(Nat.le_of_ble_eq_true rfl), (Nat.le_of_ble_eq_true rfl)⟩ rfl rfl (Nat.le_of_ble_eq_true rfl) ?_
      cases h
      exact s_iret hX hR dX4_at_23
  · have h := (if_pos c1).symm.trans h
    refine s_ic hX (-1 : Int32) dX4_at_7 (by decide) ?_
    cases h
    exact s_iret hX hR dX4_at_8

-- X4_tear
def F_X4_tear (x1 : Int32) (σ : fsS) : Option (Int32 × fsS) := if (F_X4_isRow x1) = 0 then some ((-1 : Int32), σ) else fs_g (fs_in x1 6) (if 0 ≤ (σ 53 x1.toNatClampNeg) then fs_g (fs_in x1 6) (some ((1 : Int32), (fs_u σ 53 x1.toNatClampNeg (-1 : Int32)))) else (F_X4_found (1 : Int32) σ).bind (fun q5 => some (q5.1, q5.2)))
set_option maxRecDepth 20000 in
set_option maxHeartbeats 40000000 in
theorem m_X4_tear (x1 : Int32)  (σ : fsS) (μ : fsL) (out : Int32 × fsS) (h : F_X4_tear x1 σ = some out) : fs_Met yX4_tear cX4_tear 2 (some .int) { frames := 2, cells := 0, slots := 0, locals := 45 } [.ref 51, .int x1] σ μ (some (.int out.1)) out.2 μ := by
  unfold F_X4_tear at h
  refine fs_intro (by decide +kernel) (Nat.le_of_ble_eq_true rfl) (fun X hX hR => ?_)
  show fs_PW X 0 [some (.ref 51), some (.int x1)] [] σ μ
  refine s_iload_n hX dX4_tear_0 rfl ?_
  refine s_callS hX (as := [.int x1]) dX4_tear_1 k_X4_80 v_X4_isRow (m_X4_isRow x1 σ μ _ rfl) ⟨rfl, rfl⟩ ⟨(Nat.le_of_ble_eq_true rfl), (Nat.le_of_ble_eq_true rfl)⟩ rfl rfl (Nat.le_of_ble_eq_true rfl) ?_
  refine s_if_ne hX 9 dX4_tear_4 (by decide) (fun c1 => ?_) (fun c1 => ?_)
  · have h := (if_neg c1).symm.trans h
    refine s_aload_n hX dX4_tear_9 rfl ?_
    refine s_getr hX dX4_tear_10 f_X4_13 rfl ?_
    refine s_iload_n hX dX4_tear_13 rfl ?_
    obtain ⟨g2, h⟩ := fs_gd h
    refine s_iald hX dX4_tear_14 g2 ?_
    refine s_if_ge hX 24 dX4_tear_15 (by decide) (fun c3 => ?_) (fun c3 => ?_)
    · have h := (if_pos c3).symm.trans h
      refine s_aload_n hX dX4_tear_24 rfl ?_
      refine s_getr hX dX4_tear_25 f_X4_13 rfl ?_
      refine s_iload_n hX dX4_tear_28 rfl ?_
      refine s_ic hX (-1 : Int32) dX4_tear_29 (by decide) ?_
      obtain ⟨g4, h⟩ := fs_gd h
      refine s_iast hX dX4_tear_30 g4 ?_
      refine s_ic hX (1 : Int32) dX4_tear_31 (by decide) ?_
      cases h
      exact s_iret hX hR dX4_tear_32
    · have h := (if_neg c3).symm.trans h
      refine s_aload_n hX dX4_tear_18 rfl ?_
      refine s_ic hX (1 : Int32) dX4_tear_19 (by decide) ?_
      obtain ⟨q5, e5, h⟩ := fs_bind h
      refine s_cV hX [.int (1 : Int32)] dX4_tear_20 k_X4_84 v_X4_found (m_X4_found (1 : Int32) σ μ q5 e5) ⟨_, rfl⟩ fs_c4 ⟨rfl, rfl⟩ ⟨(Nat.le_of_ble_eq_true rfl), (Nat.le_of_ble_eq_true rfl)⟩ rfl rfl (Nat.le_of_ble_eq_true rfl) ?_
      cases h
      exact s_iret hX hR dX4_tear_23
  · have h := (if_pos c1).symm.trans h
    refine s_ic hX (-1 : Int32) dX4_tear_7 (by decide) ?_
    cases h
    exact s_iret hX hR dX4_tear_8

-- X4_copy
def L_X4_copy_104  : Nat → Int32 → Int32 → Int32 → Int32 → Int32 → Int32 → fsS → Option (fsS)
  | 0, _, _, _, _, _, _, _ => none
  | n0 + 1, y1, y2, y3, y4, y5, y6, σ => if y5 ≤ y6 then some σ else if y4 ≤ y2 then fs_g (fs_in ((((40 : Int32) * y1) + y2) + y6) 240) (fs_g (fs_in ((((40 : Int32) * y3) + y4) + y6) 240) (L_X4_copy_104  n0 y1 y2 y3 y4 y5 (y6 + (1 : Int32)) (fs_u σ 52 ((((40 : Int32) * y3) + y4) + y6).toNatClampNeg (σ 52 ((((40 : Int32) * y1) + y2) + y6).toNatClampNeg)))) else fs_g (fs_in ((((40 : Int32) * y1) + y2) + ((y5 - (1 : Int32)) - y6)) 240) (fs_g (fs_in ((((40 : Int32) * y3) + y4) + ((y5 - (1 : Int32)) - y6)) 240) (L_X4_copy_104  n0 y1 y2 y3 y4 y5 (y6 + (1 : Int32)) (fs_u σ 52 ((((40 : Int32) * y3) + y4) + ((y5 - (1 : Int32)) - y6)).toNatClampNeg (σ 52 ((((40 : Int32) * y1) + y2) + ((y5 - (1 : Int32)) - y6)).toNatClampNeg))))
def F_X4_copy (x1 : Int32) (x2 : Int32) (x3 : Int32) (x4 : Int32) (x5 : Int32) (σ : fsS) : Option (Int32 × fsS) := if (F_X4_isRow x1) = 0 then some ((-1 : Int32), σ) else if (F_X4_isRow x3) = 0 then some ((-1 : Int32), σ) else if 0 ≤ x5 then fs_g (fs_in x1 6) (if (σ 53 x1.toNatClampNeg) < 0 then (F_X4_found (1 : Int32) σ).bind (fun q6 => some (q6.1, q6.2)) else fs_g (fs_in x3 6) (if 0 ≤ (σ 53 x3.toNatClampNeg) then if x2 < 0 then (F_X4_found (2 : Int32) σ).bind (fun q10 => some (q10.1, q10.2)) else if x4 < 0 then (F_X4_found (2 : Int32) σ).bind (fun q12 => some (q12.1, q12.2)) else fs_g (fs_in x1 6) (if ((σ 53 x1.toNatClampNeg).toInt64) < ((x2.toInt64) + (x5.toInt64)) then (F_X4_found (2 : Int32) σ).bind (fun q15 => some (q15.1, q15.2)) else fs_g (fs_in x3 6) (if ((σ 53 x3.toNatClampNeg).toInt64) < ((x4.toInt64) + (x5.toInt64)) then (F_X4_found (2 : Int32) σ).bind (fun q25 => some (q25.1, q25.2)) else (L_X4_copy_104  fs_fu x1 x2 x3 x4 x5 (0 : Int32) σ).bind (fun q24 => some ((1 : Int32), q24)))) else (F_X4_found (1 : Int32) σ).bind (fun q26 => some (q26.1, q26.2)))) else (F_X4_found (5 : Int32) σ).bind (fun q27 => some (q27.1, q27.2))
set_option maxRecDepth 20000 in
set_option maxHeartbeats 40000000 in
theorem l_X4_copy_104   {X : fsC} (hX : fs_ok cX4_copy RX4 8 { frames := 2, cells := 0, slots := 0, locals := 45 } X) : ∀ (n : Nat) (y1 : Int32) (y2 : Int32) (y3 : Int32) (y4 : Int32) (y5 : Int32) (y6 : Int32) (σ : fsS) (μ : fsL) (out : fsS) (_ : L_X4_copy_104  n y1 y2 y3 y4 y5 y6 σ = some out) (k0 : fs_PW X 166 [none, none, none, none, none, none, none, none] [] out μ), fs_PW X 104 [some (.ref 51), some (.int y1), some (.int y2), some (.int y3), some (.int y4), some (.int y5), some (.int y6), none] [] σ μ := by
  intro n
  induction n with
  | zero =>
    intro y1 y2 y3 y4 y5 y6 σ μ out h
    cases (show (none : Option (fsS)) = some out from h)
  | succ n0 ih =>
    intro y1 y2 y3 y4 y5 y6 σ μ out h k0
    unfold L_X4_copy_104 at h
    refine s_iload hX dX4_copy_104 rfl ?_
    refine s_iload hX dX4_copy_106 rfl ?_
    refine s_ic_ge hX 166 dX4_copy_108 (by decide) (fun c18 => ?_) (fun c18 => ?_)
    · have h := (if_pos c18).symm.trans h
      cases h
      refine fs_ma [false, false, false, false, false, false, false, false] ?_
      exact k0
    · have h := (if_neg c18).symm.trans h
      refine s_iload hX dX4_copy_111 rfl ?_
      refine s_iload_n hX dX4_copy_113 rfl ?_
      refine s_ic_le hX 127 dX4_copy_114 (by decide) (fun c19 => ?_) (fun c19 => ?_)
      · have h := (if_pos c19).symm.trans h
        refine s_iload hX dX4_copy_127 rfl ?_
        refine s_istore hX dX4_copy_129 (Nat.le_of_ble_eq_true rfl) ?_
        refine s_aload_n hX dX4_copy_131 rfl ?_
        refine s_getr hX dX4_copy_132 f_X4_7 rfl ?_
        refine s_bi hX (40 : Int32) dX4_copy_135 (by decide) ?_
        refine s_iload_n hX dX4_copy_137 rfl ?_
        refine s_imul hX dX4_copy_138 ?_
        refine s_iload hX dX4_copy_139 rfl ?_
        refine s_iadd hX dX4_copy_141 ?_
        refine s_iload hX dX4_copy_142 rfl ?_
        refine s_iadd hX dX4_copy_144 ?_
        refine s_aload_n hX dX4_copy_145 rfl ?_
        refine s_getr hX dX4_copy_146 f_X4_7 rfl ?_
        refine s_bi hX (40 : Int32) dX4_copy_149 (by decide) ?_
        refine s_iload_n hX dX4_copy_151 rfl ?_
        refine s_imul hX dX4_copy_152 ?_
        refine s_iload_n hX dX4_copy_153 rfl ?_
        refine s_iadd hX dX4_copy_154 ?_
        refine s_iload hX dX4_copy_155 rfl ?_
        refine s_iadd hX dX4_copy_157 ?_
        obtain ⟨g20, h⟩ := fs_gd h
        refine s_iald hX dX4_copy_158 g20 ?_
        obtain ⟨g21, h⟩ := fs_gd h
        refine s_iast hX dX4_copy_159 g21 ?_
        refine s_iinc hX (y6 + (1 : Int32)) dX4_copy_160 rfl rfl (Nat.le_of_ble_eq_true rfl) ?_
        refine s_goto hX 104 dX4_copy_163 (by decide) ?_
        refine fs_ma [true, true, true, true, true, true, true, false] ?_
        exact ih y1 y2 y3 y4 y5 (y6 + (1 : Int32)) (fs_u σ 52 ((((40 : Int32) * y3) + y4) + y6).toNatClampNeg (σ 52 ((((40 : Int32) * y1) + y2) + y6).toNatClampNeg)) μ out h k0
      · have h := (if_neg c19).symm.trans h
        refine s_iload hX dX4_copy_117 rfl ?_
        refine s_ic hX (1 : Int32) dX4_copy_119 (by decide) ?_
        refine s_isub hX dX4_copy_120 ?_
        refine s_iload hX dX4_copy_121 rfl ?_
        refine s_isub hX dX4_copy_123 ?_
        refine s_goto hX 129 dX4_copy_124 (by decide) ?_
        refine s_istore hX dX4_copy_129 (Nat.le_of_ble_eq_true rfl) ?_
        refine s_aload_n hX dX4_copy_131 rfl ?_
        refine s_getr hX dX4_copy_132 f_X4_7 rfl ?_
        refine s_bi hX (40 : Int32) dX4_copy_135 (by decide) ?_
        refine s_iload_n hX dX4_copy_137 rfl ?_
        refine s_imul hX dX4_copy_138 ?_
        refine s_iload hX dX4_copy_139 rfl ?_
        refine s_iadd hX dX4_copy_141 ?_
        refine s_iload hX dX4_copy_142 rfl ?_
        refine s_iadd hX dX4_copy_144 ?_
        refine s_aload_n hX dX4_copy_145 rfl ?_
        refine s_getr hX dX4_copy_146 f_X4_7 rfl ?_
        refine s_bi hX (40 : Int32) dX4_copy_149 (by decide) ?_
        refine s_iload_n hX dX4_copy_151 rfl ?_
        refine s_imul hX dX4_copy_152 ?_
        refine s_iload_n hX dX4_copy_153 rfl ?_
        refine s_iadd hX dX4_copy_154 ?_
        refine s_iload hX dX4_copy_155 rfl ?_
        refine s_iadd hX dX4_copy_157 ?_
        obtain ⟨g22, h⟩ := fs_gd h
        refine s_iald hX dX4_copy_158 g22 ?_
        obtain ⟨g23, h⟩ := fs_gd h
        refine s_iast hX dX4_copy_159 g23 ?_
        refine s_iinc hX (y6 + (1 : Int32)) dX4_copy_160 rfl rfl (Nat.le_of_ble_eq_true rfl) ?_
        refine s_goto hX 104 dX4_copy_163 (by decide) ?_
        refine fs_ma [true, true, true, true, true, true, true, false] ?_
        exact ih y1 y2 y3 y4 y5 (y6 + (1 : Int32)) (fs_u σ 52 ((((40 : Int32) * y3) + y4) + ((y5 - (1 : Int32)) - y6)).toNatClampNeg (σ 52 ((((40 : Int32) * y1) + y2) + ((y5 - (1 : Int32)) - y6)).toNatClampNeg)) μ out h k0
set_option maxRecDepth 20000 in
set_option maxHeartbeats 40000000 in
theorem m_X4_copy (x1 : Int32) (x2 : Int32) (x3 : Int32) (x4 : Int32) (x5 : Int32)  (σ : fsS) (μ : fsL) (out : Int32 × fsS) (h : F_X4_copy x1 x2 x3 x4 x5 σ = some out) : fs_Met yX4_copy cX4_copy 8 (some .int) { frames := 2, cells := 0, slots := 0, locals := 45 } [.ref 51, .int x1, .int x2, .int x3, .int x4, .int x5] σ μ (some (.int out.1)) out.2 μ := by
  unfold F_X4_copy at h
  refine fs_intro (by decide +kernel) (Nat.le_of_ble_eq_true rfl) (fun X hX hR => ?_)
  show fs_PW X 0 [some (.ref 51), some (.int x1), some (.int x2), some (.int x3), some (.int x4), some (.int x5), none, none] [] σ μ
  refine s_iload_n hX dX4_copy_0 rfl ?_
  refine s_callS hX (as := [.int x1]) dX4_copy_1 k_X4_80 v_X4_isRow (m_X4_isRow x1 σ μ _ rfl) ⟨rfl, rfl⟩ ⟨(Nat.le_of_ble_eq_true rfl), (Nat.le_of_ble_eq_true rfl)⟩ rfl rfl (Nat.le_of_ble_eq_true rfl) ?_
  refine s_if_eq hX 14 dX4_copy_4 (by decide) (fun c1 => ?_) (fun c1 => ?_)
  · have h := (if_pos c1).symm.trans h
    refine s_ic hX (-1 : Int32) dX4_copy_14 (by decide) ?_
    cases h
    exact s_iret hX hR dX4_copy_15
  · have h := (if_neg c1).symm.trans h
    refine s_iload_n hX dX4_copy_7 rfl ?_
    refine s_callS hX (as := [.int x3]) dX4_copy_8 k_X4_80 v_X4_isRow (m_X4_isRow x3 σ μ _ rfl) ⟨rfl, rfl⟩ ⟨(Nat.le_of_ble_eq_true rfl), (Nat.le_of_ble_eq_true rfl)⟩ rfl rfl (Nat.le_of_ble_eq_true rfl) ?_
    refine s_if_ne hX 16 dX4_copy_11 (by decide) (fun c2 => ?_) (fun c2 => ?_)
    · have h := (if_neg c2).symm.trans h
      refine s_iload hX dX4_copy_16 rfl ?_
      refine s_if_ge hX 27 dX4_copy_18 (by decide) (fun c3 => ?_) (fun c3 => ?_)
      · have h := (if_pos c3).symm.trans h
        refine s_aload_n hX dX4_copy_27 rfl ?_
        refine s_getr hX dX4_copy_28 f_X4_13 rfl ?_
        refine s_iload_n hX dX4_copy_31 rfl ?_
        obtain ⟨g4, h⟩ := fs_gd h
        refine s_iald hX dX4_copy_32 g4 ?_
        refine s_if_lt hX 45 dX4_copy_33 (by decide) (fun c5 => ?_) (fun c5 => ?_)
        · have h := (if_pos c5).symm.trans h
          refine s_aload_n hX dX4_copy_45 rfl ?_
          refine s_ic hX (1 : Int32) dX4_copy_46 (by decide) ?_
          obtain ⟨q6, e6, h⟩ := fs_bind h
          refine s_cV hX [.int (1 : Int32)] dX4_copy_47 k_X4_84 v_X4_found (m_X4_found (1 : Int32) σ μ q6 e6) ⟨_, rfl⟩ fs_c4 ⟨rfl, rfl⟩ ⟨(Nat.le_of_ble_eq_true rfl), (Nat.le_of_ble_eq_true rfl)⟩ rfl rfl (Nat.le_of_ble_eq_true rfl) ?_
          cases h
          exact s_iret hX hR dX4_copy_50
        · have h := (if_neg c5).symm.trans h
          refine s_aload_n hX dX4_copy_36 rfl ?_
          refine s_getr hX dX4_copy_37 f_X4_13 rfl ?_
          refine s_iload_n hX dX4_copy_40 rfl ?_
          obtain ⟨g7, h⟩ := fs_gd h
          refine s_iald hX dX4_copy_41 g7 ?_
          refine s_if_ge hX 51 dX4_copy_42 (by decide) (fun c8 => ?_) (fun c8 => ?_)
          · have h := (if_pos c8).symm.trans h
            refine s_iload_n hX dX4_copy_51 rfl ?_
            refine s_if_lt hX 95 dX4_copy_52 (by decide) (fun c9 => ?_) (fun c9 => ?_)
            · have h := (if_pos c9).symm.trans h
              refine s_aload_n hX dX4_copy_95 rfl ?_
              refine s_ic hX (2 : Int32) dX4_copy_96 (by decide) ?_
              obtain ⟨q10, e10, h⟩ := fs_bind h
              refine s_cV hX [.int (2 : Int32)] dX4_copy_97 k_X4_84 v_X4_found (m_X4_found (2 : Int32) σ μ q10 e10) ⟨_, rfl⟩ fs_c4 ⟨rfl, rfl⟩ ⟨(Nat.le_of_ble_eq_true rfl), (Nat.le_of_ble_eq_true rfl)⟩ rfl rfl (Nat.le_of_ble_eq_true rfl) ?_
              cases h
              exact s_iret hX hR dX4_copy_100
            · have h := (if_neg c9).symm.trans h
              refine s_iload hX dX4_copy_55 rfl ?_
              refine s_if_lt hX 95 dX4_copy_57 (by decide) (fun c11 => ?_) (fun c11 => ?_)
              · have h := (if_pos c11).symm.trans h
                refine s_aload_n hX dX4_copy_95 rfl ?_
                refine s_ic hX (2 : Int32) dX4_copy_96 (by decide) ?_
                obtain ⟨q12, e12, h⟩ := fs_bind h
                refine s_cV hX [.int (2 : Int32)] dX4_copy_97 k_X4_84 v_X4_found (m_X4_found (2 : Int32) σ μ q12 e12) ⟨_, rfl⟩ fs_c4 ⟨rfl, rfl⟩ ⟨(Nat.le_of_ble_eq_true rfl), (Nat.le_of_ble_eq_true rfl)⟩ rfl rfl (Nat.le_of_ble_eq_true rfl) ?_
                cases h
                exact s_iret hX hR dX4_copy_100
              · have h := (if_neg c11).symm.trans h
                refine s_iload_n hX dX4_copy_60 rfl ?_
                refine s_i2l hX dX4_copy_61 ?_
                refine s_iload hX dX4_copy_62 rfl ?_
                refine s_i2l hX dX4_copy_64 ?_
                refine s_ladd hX dX4_copy_65 ?_
                refine s_aload_n hX dX4_copy_66 rfl ?_
                refine s_getr hX dX4_copy_67 f_X4_13 rfl ?_
                refine s_iload_n hX dX4_copy_70 rfl ?_
                obtain ⟨g13, h⟩ := fs_gd h
                refine s_iald hX dX4_copy_71 g13 ?_
                refine s_i2l hX dX4_copy_72 ?_
                refine s_lcmp hX dX4_copy_73 ?_
                refine s_if_gt hX 95 dX4_copy_74 (by decide) (fun c14 => ?_) (fun c14 => ?_)
                · have h := (if_pos (fs_cmp_gt.mp c14)).symm.trans h
                  refine s_aload_n hX dX4_copy_95 rfl ?_
                  refine s_ic hX (2 : Int32) dX4_copy_96 (by decide) ?_
                  obtain ⟨q15, e15, h⟩ := fs_bind h
                  refine s_cV hX [.int (2 : Int32)] dX4_copy_97 k_X4_84 v_X4_found (m_X4_found (2 : Int32) σ μ q15 e15) ⟨_, rfl⟩ fs_c4 ⟨rfl, rfl⟩ ⟨(Nat.le_of_ble_eq_true rfl), (Nat.le_of_ble_eq_true rfl)⟩ rfl rfl (Nat.le_of_ble_eq_true rfl) ?_
                  cases h
                  exact s_iret hX hR dX4_copy_100
                · have h := (if_neg (fun z => c14 (fs_cmp_gt.mpr z))).symm.trans h
                  refine s_iload hX dX4_copy_77 rfl ?_
                  refine s_i2l hX dX4_copy_79 ?_
                  refine s_iload hX dX4_copy_80 rfl ?_
                  refine s_i2l hX dX4_copy_82 ?_
                  refine s_ladd hX dX4_copy_83 ?_
                  refine s_aload_n hX dX4_copy_84 rfl ?_
                  refine s_getr hX dX4_copy_85 f_X4_13 rfl ?_
                  refine s_iload_n hX dX4_copy_88 rfl ?_
                  obtain ⟨g16, h⟩ := fs_gd h
                  refine s_iald hX dX4_copy_89 g16 ?_
                  refine s_i2l hX dX4_copy_90 ?_
                  refine s_lcmp hX dX4_copy_91 ?_
                  refine s_if_le hX 101 dX4_copy_92 (by decide) (fun c17 => ?_) (fun c17 => ?_)
                  · have h := (if_neg (fun z => Int32.not_lt.mpr c17 (fs_cmp_gt.mpr z))).symm.trans h
                    refine s_ic hX (0 : Int32) dX4_copy_101 (by decide) ?_
                    refine s_istore hX dX4_copy_102 (Nat.le_of_ble_eq_true rfl) ?_
                    obtain ⟨q24, e24, h⟩ := fs_bind h
                    refine fs_ma [true, true, true, true, true, true, true, false] ?_
                    refine l_X4_copy_104  hX fs_fu x1 x2 x3 x4 x5 (0 : Int32) σ μ q24 e24 ?_
                    refine s_ic hX (1 : Int32) dX4_copy_166 (by decide) ?_
                    cases h
                    exact s_iret hX hR dX4_copy_167
                  · have h := (if_pos (fs_cmp_gt.mp (Int32.not_le.mp c17))).symm.trans h
                    refine s_aload_n hX dX4_copy_95 rfl ?_
                    refine s_ic hX (2 : Int32) dX4_copy_96 (by decide) ?_
                    obtain ⟨q25, e25, h⟩ := fs_bind h
                    refine s_cV hX [.int (2 : Int32)] dX4_copy_97 k_X4_84 v_X4_found (m_X4_found (2 : Int32) σ μ q25 e25) ⟨_, rfl⟩ fs_c4 ⟨rfl, rfl⟩ ⟨(Nat.le_of_ble_eq_true rfl), (Nat.le_of_ble_eq_true rfl)⟩ rfl rfl (Nat.le_of_ble_eq_true rfl) ?_
                    cases h
                    exact s_iret hX hR dX4_copy_100
          · have h := (if_neg c8).symm.trans h
            refine s_aload_n hX dX4_copy_45 rfl ?_
            refine s_ic hX (1 : Int32) dX4_copy_46 (by decide) ?_
            obtain ⟨q26, e26, h⟩ := fs_bind h
            refine s_cV hX [.int (1 : Int32)] dX4_copy_47 k_X4_84 v_X4_found (m_X4_found (1 : Int32) σ μ q26 e26) ⟨_, rfl⟩ fs_c4 ⟨rfl, rfl⟩ ⟨(Nat.le_of_ble_eq_true rfl), (Nat.le_of_ble_eq_true rfl)⟩ rfl rfl (Nat.le_of_ble_eq_true rfl) ?_
            cases h
            exact s_iret hX hR dX4_copy_50
      · have h := (if_neg c3).symm.trans h
        refine s_aload_n hX dX4_copy_21 rfl ?_
        refine s_ic hX (5 : Int32) dX4_copy_22 (by decide) ?_
        obtain ⟨q27, e27, h⟩ := fs_bind h
        refine s_cV hX [.int (5 : Int32)] dX4_copy_23 k_X4_84 v_X4_found (m_X4_found (5 : Int32) σ μ q27 e27) ⟨_, rfl⟩ fs_c4 ⟨rfl, rfl⟩ ⟨(Nat.le_of_ble_eq_true rfl), (Nat.le_of_ble_eq_true rfl)⟩ rfl rfl (Nat.le_of_ble_eq_true rfl) ?_
        cases h
        exact s_iret hX hR dX4_copy_26
    · have h := (if_pos c2).symm.trans h
      refine s_ic hX (-1 : Int32) dX4_copy_14 (by decide) ?_
      cases h
      exact s_iret hX hR dX4_copy_15

-- X4_mean
def L_X4_mean_44  : Nat → Int32 → Int64 → Int32 → fsS → Option (Int64)
  | 0, _, _, _, _ => none
  | n0 + 1, y1, y2, y4, σ => fs_g (fs_in y1 6) (if (σ 53 y1.toNatClampNeg) ≤ y4 then some y2 else fs_g (fs_in (((40 : Int32) * y1) + y4) 240) (L_X4_mean_44  n0 y1 (y2 + ((σ 52 (((40 : Int32) * y1) + y4).toNatClampNeg).toInt64)) (y4 + (1 : Int32)) σ))
def F_X4_mean (x1 : Int32) (σ : fsS) : Option (Int32 × fsS) := if (F_X4_isRow x1) = 0 then some ((-1 : Int32), σ) else fs_g (fs_in x1 6) (if 0 ≤ (σ 53 x1.toNatClampNeg) then fs_g (fs_in x1 6) (if (σ 53 x1.toNatClampNeg) = 0 then (F_X4_found (4 : Int32) σ).bind (fun q12 => some (q12.1, q12.2)) else (L_X4_mean_44  fs_fu x1 (0 : Int64) (0 : Int32) σ).bind (fun q9 => fs_g (fs_in x1 6) (fs_g (¬ ((σ 53 x1.toNatClampNeg).toInt64) = 0) (some ((F_X4_tell ((q9 / ((σ 53 x1.toNatClampNeg).toInt64)).toInt32) σ).1, (F_X4_tell ((q9 / ((σ 53 x1.toNatClampNeg).toInt64)).toInt32) σ).2))))) else (F_X4_found (1 : Int32) σ).bind (fun q13 => some (q13.1, q13.2)))
set_option maxRecDepth 20000 in
set_option maxHeartbeats 40000000 in
theorem l_X4_mean_44   {X : fsC} (hX : fs_ok cX4_mean RX4 5 { frames := 2, cells := 0, slots := 0, locals := 45 } X) : ∀ (n : Nat) (y1 : Int32) (y2 : Int64) (y4 : Int32) (σ : fsS) (μ : fsL) (out : Int64) (_ : L_X4_mean_44  n y1 y2 y4 σ = some out) (k0 : fs_PW X 77 [some (.ref 51), some (.int y1), some (.long out), none, none] [] σ μ), fs_PW X 44 [some (.ref 51), some (.int y1), some (.long y2), none, some (.int y4)] [] σ μ := by
  intro n
  induction n with
  | zero =>
    intro y1 y2 y4 σ μ out h
    cases (show (none : Option (Int64)) = some out from h)
  | succ n0 ih =>
    intro y1 y2 y4 σ μ out h k0
    unfold L_X4_mean_44 at h
    refine s_iload hX dX4_mean_44 rfl ?_
    refine s_aload_n hX dX4_mean_46 rfl ?_
    refine s_getr hX dX4_mean_47 f_X4_13 rfl ?_
    refine s_iload_n hX dX4_mean_50 rfl ?_
    obtain ⟨g6, h⟩ := fs_gd h
    refine s_iald hX dX4_mean_51 g6 ?_
    refine s_ic_ge hX 77 dX4_mean_52 (by decide) (fun c7 => ?_) (fun c7 => ?_)
    · have h := (if_pos c7).symm.trans h
      cases h
      refine fs_ma [true, true, true, false, false] ?_
      exact k0
    · have h := (if_neg c7).symm.trans h
      refine s_lload_n hX dX4_mean_55 rfl ?_
      refine s_aload_n hX dX4_mean_56 rfl ?_
      refine s_getr hX dX4_mean_57 f_X4_7 rfl ?_
      refine s_bi hX (40 : Int32) dX4_mean_60 (by decide) ?_
      refine s_iload_n hX dX4_mean_62 rfl ?_
      refine s_imul hX dX4_mean_63 ?_
      refine s_iload hX dX4_mean_64 rfl ?_
      refine s_iadd hX dX4_mean_66 ?_
      obtain ⟨g8, h⟩ := fs_gd h
      refine s_iald hX dX4_mean_67 g8 ?_
      refine s_i2l hX dX4_mean_68 ?_
      refine s_ladd hX dX4_mean_69 ?_
      refine s_lstore_n hX dX4_mean_70 (Nat.le_of_ble_eq_true rfl) ?_
      refine s_iinc hX (y4 + (1 : Int32)) dX4_mean_71 rfl rfl (Nat.le_of_ble_eq_true rfl) ?_
      refine s_goto hX 44 dX4_mean_74 (by decide) ?_
      refine fs_ma [true, true, true, false, true] ?_
      exact ih y1 (y2 + ((σ 52 (((40 : Int32) * y1) + y4).toNatClampNeg).toInt64)) (y4 + (1 : Int32)) σ μ out h k0
set_option maxRecDepth 20000 in
set_option maxHeartbeats 40000000 in
theorem m_X4_mean (x1 : Int32)  (σ : fsS) (μ : fsL) (out : Int32 × fsS) (h : F_X4_mean x1 σ = some out) : fs_Met yX4_mean cX4_mean 5 (some .int) { frames := 2, cells := 0, slots := 0, locals := 45 } [.ref 51, .int x1] σ μ (some (.int out.1)) out.2 μ := by
  unfold F_X4_mean at h
  refine fs_intro (by decide +kernel) (Nat.le_of_ble_eq_true rfl) (fun X hX hR => ?_)
  show fs_PW X 0 [some (.ref 51), some (.int x1), none, none, none] [] σ μ
  refine s_iload_n hX dX4_mean_0 rfl ?_
  refine s_callS hX (as := [.int x1]) dX4_mean_1 k_X4_80 v_X4_isRow (m_X4_isRow x1 σ μ _ rfl) ⟨rfl, rfl⟩ ⟨(Nat.le_of_ble_eq_true rfl), (Nat.le_of_ble_eq_true rfl)⟩ rfl rfl (Nat.le_of_ble_eq_true rfl) ?_
  refine s_if_ne hX 9 dX4_mean_4 (by decide) (fun c1 => ?_) (fun c1 => ?_)
  · have h := (if_neg c1).symm.trans h
    refine s_aload_n hX dX4_mean_9 rfl ?_
    refine s_getr hX dX4_mean_10 f_X4_13 rfl ?_
    refine s_iload_n hX dX4_mean_13 rfl ?_
    obtain ⟨g2, h⟩ := fs_gd h
    refine s_iald hX dX4_mean_14 g2 ?_
    refine s_if_ge hX 24 dX4_mean_15 (by decide) (fun c3 => ?_) (fun c3 => ?_)
    · have h := (if_pos c3).symm.trans h
      refine s_aload_n hX dX4_mean_24 rfl ?_
      refine s_getr hX dX4_mean_25 f_X4_13 rfl ?_
      refine s_iload_n hX dX4_mean_28 rfl ?_
      obtain ⟨g4, h⟩ := fs_gd h
      refine s_iald hX dX4_mean_29 g4 ?_
      refine s_if_ne hX 39 dX4_mean_30 (by decide) (fun c5 => ?_) (fun c5 => ?_)
      · have h := (if_neg c5).symm.trans h
        refine s_lc hX (0 : Int64) dX4_mean_39 (by decide) ?_
        refine s_lstore_n hX dX4_mean_40 (Nat.le_of_ble_eq_true rfl) ?_
        refine s_ic hX (0 : Int32) dX4_mean_41 (by decide) ?_
        refine s_istore hX dX4_mean_42 (Nat.le_of_ble_eq_true rfl) ?_
        obtain ⟨q9, e9, h⟩ := fs_bind h
        refine fs_ma [true, true, true, false, true] ?_
        refine l_X4_mean_44  hX fs_fu x1 (0 : Int64) (0 : Int32) σ μ q9 e9 ?_
        refine s_aload_n hX dX4_mean_77 rfl ?_
        refine s_lload_n hX dX4_mean_78 rfl ?_
        refine s_aload_n hX dX4_mean_79 rfl ?_
        refine s_getr hX dX4_mean_80 f_X4_13 rfl ?_
        refine s_iload_n hX dX4_mean_83 rfl ?_
        obtain ⟨g10, h⟩ := fs_gd h
        refine s_iald hX dX4_mean_84 g10 ?_
        refine s_i2l hX dX4_mean_85 ?_
        obtain ⟨g11, h⟩ := fs_gd h
        refine s_ldiv hX dX4_mean_86 g11 ?_
        refine s_l2i hX dX4_mean_87 ?_
        refine s_cV hX [.int ((q9 / ((σ 53 x1.toNatClampNeg).toInt64)).toInt32)] dX4_mean_88 k_X4_88 v_X4_tell (m_X4_tell ((q9 / ((σ 53 x1.toNatClampNeg).toInt64)).toInt32) σ μ _ rfl) ⟨_, rfl⟩ fs_c4 ⟨rfl, rfl⟩ ⟨(Nat.le_of_ble_eq_true rfl), (Nat.le_of_ble_eq_true rfl)⟩ rfl rfl (Nat.le_of_ble_eq_true rfl) ?_
        cases h
        exact s_iret hX hR dX4_mean_91
      · have h := (if_pos c5).symm.trans h
        refine s_aload_n hX dX4_mean_33 rfl ?_
        refine s_ic hX (4 : Int32) dX4_mean_34 (by decide) ?_
        obtain ⟨q12, e12, h⟩ := fs_bind h
        refine s_cV hX [.int (4 : Int32)] dX4_mean_35 k_X4_84 v_X4_found (m_X4_found (4 : Int32) σ μ q12 e12) ⟨_, rfl⟩ fs_c4 ⟨rfl, rfl⟩ ⟨(Nat.le_of_ble_eq_true rfl), (Nat.le_of_ble_eq_true rfl)⟩ rfl rfl (Nat.le_of_ble_eq_true rfl) ?_
        cases h
        exact s_iret hX hR dX4_mean_38
    · have h := (if_neg c3).symm.trans h
      refine s_aload_n hX dX4_mean_18 rfl ?_
      refine s_ic hX (1 : Int32) dX4_mean_19 (by decide) ?_
      obtain ⟨q13, e13, h⟩ := fs_bind h
      refine s_cV hX [.int (1 : Int32)] dX4_mean_20 k_X4_84 v_X4_found (m_X4_found (1 : Int32) σ μ q13 e13) ⟨_, rfl⟩ fs_c4 ⟨rfl, rfl⟩ ⟨(Nat.le_of_ble_eq_true rfl), (Nat.le_of_ble_eq_true rfl)⟩ rfl rfl (Nat.le_of_ble_eq_true rfl) ?_
      cases h
      exact s_iret hX hR dX4_mean_23
  · have h := (if_pos c1).symm.trans h
    refine s_ic hX (-1 : Int32) dX4_mean_7 (by decide) ?_
    cases h
    exact s_iret hX hR dX4_mean_8
