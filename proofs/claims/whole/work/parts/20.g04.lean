-- X3_isRow
def F_X3_isRow (x0 : Int32) : Int32 := if x0 < 0 then (0 : Int32) else if (6 : Int32) ≤ x0 then (0 : Int32) else (1 : Int32)
theorem z_X3_isRow (x0 : Int32) : F_X3_isRow x0 = 0 ∨ F_X3_isRow x0 = 1 := by
  unfold F_X3_isRow
  (repeat' split) <;> first | exact Or.inl rfl | exact Or.inr rfl
set_option maxRecDepth 20000 in
set_option maxHeartbeats 40000000 in
theorem m_X3_isRow (x0 : Int32)  (σ : fsS) (μ : fsL) (out : Int32) (h : F_X3_isRow x0 = out) : fs_Met yX3_isRow cX3_isRow 1 (some .boolean) { frames := 0, cells := 0, slots := 0, locals := 0 } [.int x0] σ μ (some (.int out)) σ μ := by
  unfold F_X3_isRow at h
  refine fs_intro (by decide +kernel) (Nat.le_of_ble_eq_true rfl) (fun X hX hR => ?_)
  show fs_PW X 0 [some (.int x0)] [] σ μ
  refine s_iload_n hX dX3_isRow_0 rfl ?_
  refine s_if_lt hX 14 dX3_isRow_1 (by decide) (fun c1 => ?_) (fun c1 => ?_)
  · have h := (if_pos c1).symm.trans h
    refine s_ic hX (0 : Int32) dX3_isRow_14 (by decide) ?_
    subst h
    exact s_zret hX (Or.inl rfl) hR dX3_isRow_15
  · have h := (if_neg c1).symm.trans h
    refine s_iload_n hX dX3_isRow_4 rfl ?_
    refine s_bi hX (6 : Int32) dX3_isRow_5 (by decide) ?_
    refine s_ic_ge hX 14 dX3_isRow_7 (by decide) (fun c2 => ?_) (fun c2 => ?_)
    · have h := (if_pos c2).symm.trans h
      refine s_ic hX (0 : Int32) dX3_isRow_14 (by decide) ?_
      subst h
      exact s_zret hX (Or.inl rfl) hR dX3_isRow_15
    · have h := (if_neg c2).symm.trans h
      refine s_ic hX (1 : Int32) dX3_isRow_10 (by decide) ?_
      refine s_goto hX 15 dX3_isRow_11 (by decide) ?_
      subst h
      exact s_zret hX (Or.inr rfl) hR dX3_isRow_15

-- X3_refuse
def F_X3_refuse (x1 : Int32) (σ : fsS) : Option (Int32 × fsS) := fs_g (fs_in x1 6) (fs_g (fs_in x1 6) (some ((-3 : Int32), (fs_u (fs_u σ 0 7 x1) 9 x1.toNatClampNeg ((σ 9 x1.toNatClampNeg) + (1 : Int32))))))
set_option maxRecDepth 20000 in
set_option maxHeartbeats 40000000 in
theorem m_X3_refuse (x1 : Int32)  (σ : fsS) (μ : fsL) (out : Int32 × fsS) (h : F_X3_refuse x1 σ = some out) : fs_Met yX3_refuse cX3_refuse 2 (some .int) { frames := 0, cells := 0, slots := 0, locals := 0 } [.ref 0, .int x1] σ μ (some (.int out.1)) out.2 μ := by
  unfold F_X3_refuse at h
  refine fs_intro (by decide +kernel) (Nat.le_of_ble_eq_true rfl) (fun X hX hR => ?_)
  show fs_PW X 0 [some (.ref 0), some (.int x1)] [] σ μ
  refine s_aload_n hX dX3_refuse_0 rfl ?_
  refine s_iload_n hX dX3_refuse_1 rfl ?_
  refine s_puti hX dX3_refuse_2 p_X3_45 rfl ?_
  refine s_aload_n hX dX3_refuse_5 rfl ?_
  refine s_getr hX dX3_refuse_6 f_X3_42 rfl ?_
  refine s_iload_n hX dX3_refuse_9 rfl ?_
  refine s_dup2 hX dX3_refuse_10 rfl rfl ?_
  obtain ⟨g1, h⟩ := fs_gd h
  refine s_iald hX dX3_refuse_11 g1 ?_
  refine s_ic hX (1 : Int32) dX3_refuse_12 (by decide) ?_
  refine s_iadd hX dX3_refuse_13 ?_
  obtain ⟨g2, h⟩ := fs_gd h
  refine s_iast hX dX3_refuse_14 g2 ?_
  refine s_bi hX (-3 : Int32) dX3_refuse_15 (by decide) ?_
  cases h
  exact s_iret hX hR dX3_refuse_17

-- X3_row
def F_X3_row (x1 : Int32) (x2 : Int32) (σ : fsS) : Option (Int32 × fsS) := if (F_X3_isRow x1) = 0 then some ((-1 : Int32), σ) else if x2 ≤ (40 : Int32) then if 0 ≤ x2 then (F_X2_lie 1 x1 x2 σ).bind (fun q4 => some (x2, q4)) else (F_X3_refuse (5 : Int32) σ).bind (fun q5 => some (q5.1, q5.2)) else some ((-1 : Int32), σ)
set_option maxRecDepth 20000 in
set_option maxHeartbeats 40000000 in
theorem m_X3_row (x1 : Int32) (x2 : Int32)  (σ : fsS) (μ : fsL) (out : Int32 × fsS) (h : F_X3_row x1 x2 σ = some out) : fs_Met yX3_row cX3_row 3 (some .int) { frames := 1, cells := 0, slots := 0, locals := 23 } [.ref 0, .int x1, .int x2] σ μ (some (.int out.1)) out.2 μ := by
  unfold F_X3_row at h
  refine fs_intro (by decide +kernel) (Nat.le_of_ble_eq_true rfl) (fun X hX hR => ?_)
  show fs_PW X 0 [some (.ref 0), some (.int x1), some (.int x2)] [] σ μ
  refine s_iload_n hX dX3_row_0 rfl ?_
  refine s_callS hX (as := [.int x1]) dX3_row_1 k_X3_59 v_X3_isRow (m_X3_isRow x1 σ μ _ rfl) ⟨rfl, rfl⟩ ⟨(Nat.le_of_ble_eq_true rfl), (Nat.le_of_ble_eq_true rfl)⟩ rfl rfl (Nat.le_of_ble_eq_true rfl) ?_
  refine s_if_eq hX 13 dX3_row_4 (by decide) (fun c1 => ?_) (fun c1 => ?_)
  · have h := (if_pos c1).symm.trans h
    refine s_ic hX (-1 : Int32) dX3_row_13 (by decide) ?_
    cases h
    exact s_iret hX hR dX3_row_14
  · have h := (if_neg c1).symm.trans h
    refine s_iload_n hX dX3_row_7 rfl ?_
    refine s_bi hX (40 : Int32) dX3_row_8 (by decide) ?_
    refine s_ic_le hX 15 dX3_row_10 (by decide) (fun c2 => ?_) (fun c2 => ?_)
    · have h := (if_pos c2).symm.trans h
      refine s_iload_n hX dX3_row_15 rfl ?_
      refine s_if_ge hX 25 dX3_row_16 (by decide) (fun c3 => ?_) (fun c3 => ?_)
      · have h := (if_pos c3).symm.trans h
        refine s_aload_n hX dX3_row_25 rfl ?_
        refine s_getr hX dX3_row_26 f_X3_14 rfl ?_
        refine s_iload_n hX dX3_row_29 rfl ?_
        refine s_iload_n hX dX3_row_30 rfl ?_
        obtain ⟨q4, e4, h⟩ := fs_bind h
        refine s_cV hX [.int x1, .int x2] dX3_row_31 k_X3_67 v_X2_lie (m_X2_lie 1 x1 x2 fs_H1 σ μ q4 e4) (fs_H_is fs_H1) fs_c2 ⟨rfl, rfl⟩ ⟨(Nat.le_of_ble_eq_true rfl), (Nat.le_of_ble_eq_true rfl)⟩ rfl rfl (Nat.le_of_ble_eq_true rfl) ?_
        refine s_iload_n hX dX3_row_34 rfl ?_
        cases h
        exact s_iret hX hR dX3_row_35
      · have h := (if_neg c3).symm.trans h
        refine s_aload_n hX dX3_row_19 rfl ?_
        refine s_ic hX (5 : Int32) dX3_row_20 (by decide) ?_
        obtain ⟨q5, e5, h⟩ := fs_bind h
        refine s_cV hX [.int (5 : Int32)] dX3_row_21 k_X3_63 v_X3_refuse (m_X3_refuse (5 : Int32) σ μ q5 e5) ⟨_, rfl⟩ fs_c3 ⟨rfl, rfl⟩ ⟨(Nat.le_of_ble_eq_true rfl), (Nat.le_of_ble_eq_true rfl)⟩ rfl rfl (Nat.le_of_ble_eq_true rfl) ?_
        cases h
        exact s_iret hX hR dX3_row_24
    · have h := (if_neg c2).symm.trans h
      refine s_ic hX (-1 : Int32) dX3_row_13 (by decide) ?_
      cases h
      exact s_iret hX hR dX3_row_14

-- X3_refusePlace
def F_X3_refusePlace (x1 : Int32) (x2 : Int32) (σ : fsS) : Option (Int32 × fsS) := if (F_X3_isRow x1) = 0 then some ((-1 : Int32), σ) else (F_X2_has 1 x1 σ).bind (fun q2 => if q2 = 0 then (F_X3_refuse (1 : Int32) σ).bind (fun q7 => some (q7.1, q7.2)) else (F_X2_reaches 1 x1 x2 (1 : Int32) σ).bind (fun q4 => if q4 = 0 then (F_X3_refuse (2 : Int32) σ).bind (fun q6 => some (q6.1, q6.2)) else some ((0 : Int32), σ)))
set_option maxRecDepth 20000 in
set_option maxHeartbeats 40000000 in
theorem m_X3_refusePlace (x1 : Int32) (x2 : Int32)  (σ : fsS) (μ : fsL) (out : Int32 × fsS) (h : F_X3_refusePlace x1 x2 σ = some out) : fs_Met yX3_refusePlace cX3_refusePlace 3 (some .int) { frames := 1, cells := 0, slots := 0, locals := 23 } [.ref 0, .int x1, .int x2] σ μ (some (.int out.1)) out.2 μ := by
  unfold F_X3_refusePlace at h
  refine fs_intro (by decide +kernel) (Nat.le_of_ble_eq_true rfl) (fun X hX hR => ?_)
  show fs_PW X 0 [some (.ref 0), some (.int x1), some (.int x2)] [] σ μ
  refine s_iload_n hX dX3_refusePlace_0 rfl ?_
  refine s_callS hX (as := [.int x1]) dX3_refusePlace_1 k_X3_59 v_X3_isRow (m_X3_isRow x1 σ μ _ rfl) ⟨rfl, rfl⟩ ⟨(Nat.le_of_ble_eq_true rfl), (Nat.le_of_ble_eq_true rfl)⟩ rfl rfl (Nat.le_of_ble_eq_true rfl) ?_
  refine s_if_ne hX 9 dX3_refusePlace_4 (by decide) (fun c1 => ?_) (fun c1 => ?_)
  · have h := (if_neg c1).symm.trans h
    refine s_aload_n hX dX3_refusePlace_9 rfl ?_
    refine s_getr hX dX3_refusePlace_10 f_X3_14 rfl ?_
    refine s_iload_n hX dX3_refusePlace_13 rfl ?_
    obtain ⟨q2, e2, h⟩ := fs_bind h
    refine s_cV hX [.int x1] dX3_refusePlace_14 k_X3_82 v_X2_has (m_X2_has 1 x1 fs_H1 σ μ q2 e2) (fs_H_is fs_H1) fs_c2 ⟨rfl, rfl⟩ ⟨(Nat.le_of_ble_eq_true rfl), (Nat.le_of_ble_eq_true rfl)⟩ rfl rfl (Nat.le_of_ble_eq_true rfl) ?_
    refine s_if_ne hX 26 dX3_refusePlace_17 (by decide) (fun c3 => ?_) (fun c3 => ?_)
    · have h := (if_neg c3).symm.trans h
      refine s_aload_n hX dX3_refusePlace_26 rfl ?_
      refine s_getr hX dX3_refusePlace_27 f_X3_14 rfl ?_
      refine s_iload_n hX dX3_refusePlace_30 rfl ?_
      refine s_iload_n hX dX3_refusePlace_31 rfl ?_
      refine s_ic hX (1 : Int32) dX3_refusePlace_32 (by decide) ?_
      obtain ⟨q4, e4, h⟩ := fs_bind h
      refine s_cV hX [.int x1, .int x2, .int (1 : Int32)] dX3_refusePlace_33 k_X3_88 v_X2_reaches (m_X2_reaches 1 x1 x2 (1 : Int32) fs_H1 σ μ q4 e4) (fs_H_is fs_H1) fs_c2 ⟨rfl, rfl⟩ ⟨(Nat.le_of_ble_eq_true rfl), (Nat.le_of_ble_eq_true rfl)⟩ rfl rfl (Nat.le_of_ble_eq_true rfl) ?_
      refine s_if_eq hX 43 dX3_refusePlace_36 (by decide) (fun c5 => ?_) (fun c5 => ?_)
      · have h := (if_pos c5).symm.trans h
        refine s_aload_n hX dX3_refusePlace_43 rfl ?_
        refine s_ic hX (2 : Int32) dX3_refusePlace_44 (by decide) ?_
        obtain ⟨q6, e6, h⟩ := fs_bind h
        refine s_cV hX [.int (2 : Int32)] dX3_refusePlace_45 k_X3_63 v_X3_refuse (m_X3_refuse (2 : Int32) σ μ q6 e6) ⟨_, rfl⟩ fs_c3 ⟨rfl, rfl⟩ ⟨(Nat.le_of_ble_eq_true rfl), (Nat.le_of_ble_eq_true rfl)⟩ rfl rfl (Nat.le_of_ble_eq_true rfl) ?_
        cases h
        exact s_iret hX hR dX3_refusePlace_48
      · have h := (if_neg c5).symm.trans h
        refine s_ic hX (0 : Int32) dX3_refusePlace_39 (by decide) ?_
        refine s_goto hX 48 dX3_refusePlace_40 (by decide) ?_
        cases h
        exact s_iret hX hR dX3_refusePlace_48
    · have h := (if_pos c3).symm.trans h
      refine s_aload_n hX dX3_refusePlace_20 rfl ?_
      refine s_ic hX (1 : Int32) dX3_refusePlace_21 (by decide) ?_
      obtain ⟨q7, e7, h⟩ := fs_bind h
      refine s_cV hX [.int (1 : Int32)] dX3_refusePlace_22 k_X3_63 v_X3_refuse (m_X3_refuse (1 : Int32) σ μ q7 e7) ⟨_, rfl⟩ fs_c3 ⟨rfl, rfl⟩ ⟨(Nat.le_of_ble_eq_true rfl), (Nat.le_of_ble_eq_true rfl)⟩ rfl rfl (Nat.le_of_ble_eq_true rfl) ?_
      cases h
      exact s_iret hX hR dX3_refusePlace_25
  · have h := (if_pos c1).symm.trans h
    refine s_ic hX (-1 : Int32) dX3_refusePlace_7 (by decide) ?_
    cases h
    exact s_iret hX hR dX3_refusePlace_8

-- X3_lay
def F_X3_lay (x1 : Int32) (x2 : Int32) (x3 : Int32) (σ : fsS) : Option (Int32 × fsS) := (F_X3_refusePlace x1 x2 σ).bind (fun q1 => if q1.1 = 0 then fs_g (fs_in x1 6) (fs_g (fs_in x2 (fs_len (38 + x1.toNatClampNeg))) (fs_g (fs_in x1 6) (fs_g (fs_in x2 (fs_len (38 + x1.toNatClampNeg))) (some ((1 : Int32), (fs_u (fs_u q1.2 0 8 (q1.2 (38 + x1.toNatClampNeg) x2.toNatClampNeg)) (38 + x1.toNatClampNeg) x2.toNatClampNeg x3)))))) else some (q1.1, q1.2))
set_option maxRecDepth 20000 in
set_option maxHeartbeats 40000000 in
theorem m_X3_lay (x1 : Int32) (x2 : Int32) (x3 : Int32)  (σ : fsS) (μ : fsL) (out : Int32 × fsS) (h : F_X3_lay x1 x2 x3 σ = some out) : fs_Met yX3_lay cX3_lay 5 (some .int) { frames := 2, cells := 0, slots := 0, locals := 45 } [.ref 0, .int x1, .int x2, .int x3] σ μ (some (.int out.1)) out.2 μ := by
  unfold F_X3_lay at h
  refine fs_intro (by decide +kernel) (Nat.le_of_ble_eq_true rfl) (fun X hX hR => ?_)
  show fs_PW X 0 [some (.ref 0), some (.int x1), some (.int x2), some (.int x3), none] [] σ μ
  refine s_aload_n hX dX3_lay_0 rfl ?_
  refine s_iload_n hX dX3_lay_1 rfl ?_
  refine s_iload_n hX dX3_lay_2 rfl ?_
  obtain ⟨q1, e1, h⟩ := fs_bind h
  refine s_cV hX [.int x1, .int x2] dX3_lay_3 k_X3_71 v_X3_refusePlace (m_X3_refusePlace x1 x2 σ μ q1 e1) ⟨_, rfl⟩ fs_c3 ⟨rfl, rfl⟩ ⟨(Nat.le_of_ble_eq_true rfl), (Nat.le_of_ble_eq_true rfl)⟩ rfl rfl (Nat.le_of_ble_eq_true rfl) ?_
  refine s_istore hX dX3_lay_6 (Nat.le_of_ble_eq_true rfl) ?_
  refine s_iload hX dX3_lay_8 rfl ?_
  refine s_if_eq hX 16 dX3_lay_10 (by decide) (fun c2 => ?_) (fun c2 => ?_)
  · have h := (if_pos c2).symm.trans h
    refine s_aload_n hX dX3_lay_16 rfl ?_
    refine s_aload_n hX dX3_lay_17 rfl ?_
    refine s_getr hX dX3_lay_18 f_X3_14 rfl ?_
    refine s_getr hX dX3_lay_21 f_X3_75 rfl ?_
    refine s_iload_n hX dX3_lay_24 rfl ?_
    obtain ⟨g3, h⟩ := fs_gd h
    refine s_aald hX dX3_lay_25 g3 ?_
    refine s_iload_n hX dX3_lay_26 rfl ?_
    obtain ⟨g4, h⟩ := fs_gd h
    refine s_iald hX dX3_lay_27 g4 ?_
    refine s_puti hX dX3_lay_28 p_X3_49 rfl ?_
    refine s_aload_n hX dX3_lay_31 rfl ?_
    refine s_getr hX dX3_lay_32 f_X3_14 rfl ?_
    refine s_getr hX dX3_lay_35 f_X3_75 rfl ?_
    refine s_iload_n hX dX3_lay_38 rfl ?_
    obtain ⟨g5, h⟩ := fs_gd h
    refine s_aald hX dX3_lay_39 g5 ?_
    refine s_iload_n hX dX3_lay_40 rfl ?_
    refine s_iload_n hX dX3_lay_41 rfl ?_
    obtain ⟨g6, h⟩ := fs_gd h
    refine s_iast hX dX3_lay_42 g6 ?_
    refine s_ic hX (1 : Int32) dX3_lay_43 (by decide) ?_
    cases h
    exact s_iret hX hR dX3_lay_44
  · have h := (if_neg c2).symm.trans h
    refine s_iload hX dX3_lay_13 rfl ?_
    cases h
    exact s_iret hX hR dX3_lay_15

-- X3_tell
def F_X3_tell (x1 : Int32) (x2 : Int32) (σ : fsS) : Int32 × fsS := (x2, (fs_u σ 0 8 x1))
set_option maxRecDepth 20000 in
set_option maxHeartbeats 40000000 in
theorem m_X3_tell (x1 : Int32) (x2 : Int32)  (σ : fsS) (μ : fsL) (out : Int32 × fsS) (h : F_X3_tell x1 x2 σ = out) : fs_Met yX3_tell cX3_tell 3 (some .int) { frames := 0, cells := 0, slots := 0, locals := 0 } [.ref 0, .int x1, .int x2] σ μ (some (.int out.1)) out.2 μ := by
  unfold F_X3_tell at h
  refine fs_intro (by decide +kernel) (Nat.le_of_ble_eq_true rfl) (fun X hX hR => ?_)
  show fs_PW X 0 [some (.ref 0), some (.int x1), some (.int x2)] [] σ μ
  refine s_aload_n hX dX3_tell_0 rfl ?_
  refine s_iload_n hX dX3_tell_1 rfl ?_
  refine s_puti hX dX3_tell_2 p_X3_49 rfl ?_
  refine s_iload_n hX dX3_tell_5 rfl ?_
  subst h
  exact s_iret hX hR dX3_tell_6

-- X3_at
def F_X3_at (x1 : Int32) (x2 : Int32) (σ : fsS) : Option (Int32 × fsS) := (F_X3_refusePlace x1 x2 σ).bind (fun q1 => if q1.1 = 0 then fs_g (fs_in x1 6) (fs_g (fs_in x2 (fs_len (38 + x1.toNatClampNeg))) (some ((F_X3_tell (q1.2 (38 + x1.toNatClampNeg) x2.toNatClampNeg) (1 : Int32) q1.2).1, (F_X3_tell (q1.2 (38 + x1.toNatClampNeg) x2.toNatClampNeg) (1 : Int32) q1.2).2))) else some (q1.1, q1.2))
set_option maxRecDepth 20000 in
set_option maxHeartbeats 40000000 in
theorem m_X3_at (x1 : Int32) (x2 : Int32)  (σ : fsS) (μ : fsL) (out : Int32 × fsS) (h : F_X3_at x1 x2 σ = some out) : fs_Met yX3_at cX3_at 4 (some .int) { frames := 2, cells := 0, slots := 0, locals := 45 } [.ref 0, .int x1, .int x2] σ μ (some (.int out.1)) out.2 μ := by
  unfold F_X3_at at h
  refine fs_intro (by decide +kernel) (Nat.le_of_ble_eq_true rfl) (fun X hX hR => ?_)
  show fs_PW X 0 [some (.ref 0), some (.int x1), some (.int x2), none] [] σ μ
  refine s_aload_n hX dX3_at_0 rfl ?_
  refine s_iload_n hX dX3_at_1 rfl ?_
  refine s_iload_n hX dX3_at_2 rfl ?_
  obtain ⟨q1, e1, h⟩ := fs_bind h
  refine s_cV hX [.int x1, .int x2] dX3_at_3 k_X3_71 v_X3_refusePlace (m_X3_refusePlace x1 x2 σ μ q1 e1) ⟨_, rfl⟩ fs_c3 ⟨rfl, rfl⟩ ⟨(Nat.le_of_ble_eq_true rfl), (Nat.le_of_ble_eq_true rfl)⟩ rfl rfl (Nat.le_of_ble_eq_true rfl) ?_
  refine s_istore_n hX dX3_at_6 (Nat.le_of_ble_eq_true rfl) ?_
  refine s_iload_n hX dX3_at_7 rfl ?_
  refine s_if_eq hX 13 dX3_at_8 (by decide) (fun c2 => ?_) (fun c2 => ?_)
  · have h := (if_pos c2).symm.trans h
    refine s_aload_n hX dX3_at_13 rfl ?_
    refine s_aload_n hX dX3_at_14 rfl ?_
    refine s_getr hX dX3_at_15 f_X3_14 rfl ?_
    refine s_getr hX dX3_at_18 f_X3_75 rfl ?_
    refine s_iload_n hX dX3_at_21 rfl ?_
    obtain ⟨g3, h⟩ := fs_gd h
    refine s_aald hX dX3_at_22 g3 ?_
    refine s_iload_n hX dX3_at_23 rfl ?_
    obtain ⟨g4, h⟩ := fs_gd h
    refine s_iald hX dX3_at_24 g4 ?_
    refine s_ic hX (1 : Int32) dX3_at_25 (by decide) ?_
    refine s_cV hX [.int (q1.2 (38 + x1.toNatClampNeg) x2.toNatClampNeg), .int (1 : Int32)] dX3_at_26 k_X3_79 v_X3_tell (m_X3_tell (q1.2 (38 + x1.toNatClampNeg) x2.toNatClampNeg) (1 : Int32) q1.2 μ _ rfl) ⟨_, rfl⟩ fs_c3 ⟨rfl, rfl⟩ ⟨(Nat.le_of_ble_eq_true rfl), (Nat.le_of_ble_eq_true rfl)⟩ rfl rfl (Nat.le_of_ble_eq_true rfl) ?_
    cases h
    exact s_iret hX hR dX3_at_29
  · have h := (if_neg c2).symm.trans h
    refine s_iload_n hX dX3_at_11 rfl ?_
    cases h
    exact s_iret hX hR dX3_at_12

-- X3_tear
def F_X3_tear (x1 : Int32) (σ : fsS) : Option (Int32 × fsS) := if (F_X3_isRow x1) = 0 then some ((-1 : Int32), σ) else (F_X2_has 1 x1 σ).bind (fun q2 => if q2 = 0 then (F_X3_refuse (1 : Int32) σ).bind (fun q5 => some (q5.1, q5.2)) else fs_g (fs_in x1 6) (some ((1 : Int32), (fs_u σ 10 x1.toNatClampNeg (-1 : Int32)))))
set_option maxRecDepth 20000 in
set_option maxHeartbeats 40000000 in
theorem m_X3_tear (x1 : Int32)  (σ : fsS) (μ : fsL) (out : Int32 × fsS) (h : F_X3_tear x1 σ = some out) : fs_Met yX3_tear cX3_tear 2 (some .int) { frames := 1, cells := 0, slots := 0, locals := 21 } [.ref 0, .int x1] σ μ (some (.int out.1)) out.2 μ := by
  unfold F_X3_tear at h
  refine fs_intro (by decide +kernel) (Nat.le_of_ble_eq_true rfl) (fun X hX hR => ?_)
  show fs_PW X 0 [some (.ref 0), some (.int x1)] [] σ μ
  refine s_iload_n hX dX3_tear_0 rfl ?_
  refine s_callS hX (as := [.int x1]) dX3_tear_1 k_X3_59 v_X3_isRow (m_X3_isRow x1 σ μ _ rfl) ⟨rfl, rfl⟩ ⟨(Nat.le_of_ble_eq_true rfl), (Nat.le_of_ble_eq_true rfl)⟩ rfl rfl (Nat.le_of_ble_eq_true rfl) ?_
  refine s_if_ne hX 9 dX3_tear_4 (by decide) (fun c1 => ?_) (fun c1 => ?_)
  · have h := (if_neg c1).symm.trans h
    refine s_aload_n hX dX3_tear_9 rfl ?_
    refine s_getr hX dX3_tear_10 f_X3_14 rfl ?_
    refine s_iload_n hX dX3_tear_13 rfl ?_
    obtain ⟨q2, e2, h⟩ := fs_bind h
    refine s_cV hX [.int x1] dX3_tear_14 k_X3_82 v_X2_has (m_X2_has 1 x1 fs_H1 σ μ q2 e2) (fs_H_is fs_H1) fs_c2 ⟨rfl, rfl⟩ ⟨(Nat.le_of_ble_eq_true rfl), (Nat.le_of_ble_eq_true rfl)⟩ rfl rfl (Nat.le_of_ble_eq_true rfl) ?_
    refine s_if_ne hX 26 dX3_tear_17 (by decide) (fun c3 => ?_) (fun c3 => ?_)
    · have h := (if_neg c3).symm.trans h
      refine s_aload_n hX dX3_tear_26 rfl ?_
      refine s_getr hX dX3_tear_27 f_X3_14 rfl ?_
      refine s_getr hX dX3_tear_30 f_X3_85 rfl ?_
      refine s_iload_n hX dX3_tear_33 rfl ?_
      refine s_ic hX (-1 : Int32) dX3_tear_34 (by decide) ?_
      obtain ⟨g4, h⟩ := fs_gd h
      refine s_iast hX dX3_tear_35 g4 ?_
      refine s_ic hX (1 : Int32) dX3_tear_36 (by decide) ?_
      cases h
      exact s_iret hX hR dX3_tear_37
    · have h := (if_pos c3).symm.trans h
      refine s_aload_n hX dX3_tear_20 rfl ?_
      refine s_ic hX (1 : Int32) dX3_tear_21 (by decide) ?_
      obtain ⟨q5, e5, h⟩ := fs_bind h
      refine s_cV hX [.int (1 : Int32)] dX3_tear_22 k_X3_63 v_X3_refuse (m_X3_refuse (1 : Int32) σ μ q5 e5) ⟨_, rfl⟩ fs_c3 ⟨rfl, rfl⟩ ⟨(Nat.le_of_ble_eq_true rfl), (Nat.le_of_ble_eq_true rfl)⟩ rfl rfl (Nat.le_of_ble_eq_true rfl) ?_
      cases h
      exact s_iret hX hR dX3_tear_25
  · have h := (if_pos c1).symm.trans h
    refine s_ic hX (-1 : Int32) dX3_tear_7 (by decide) ?_
    cases h
    exact s_iret hX hR dX3_tear_8

-- X3_copy
def F_X3_copy (x1 : Int32) (x2 : Int32) (x3 : Int32) (x4 : Int32) (x5 : Int32) (σ : fsS) : Option (Int32 × fsS) := if (F_X3_isRow x1) = 0 then some ((-1 : Int32), σ) else if (F_X3_isRow x3) = 0 then some ((-1 : Int32), σ) else if 0 ≤ x5 then (F_X2_has 1 x1 σ).bind (fun q4 => if q4 = 0 then (F_X3_refuse (1 : Int32) σ).bind (fun q6 => some (q6.1, q6.2)) else (F_X2_has 1 x3 σ).bind (fun q7 => if q7 = 0 then (F_X3_refuse (1 : Int32) σ).bind (fun q18 => some (q18.1, q18.2)) else (F_X2_reaches 1 x1 x2 x5 σ).bind (fun q9 => if q9 = 0 then (F_X3_refuse (2 : Int32) σ).bind (fun q11 => some (q11.1, q11.2)) else (F_X2_reaches 1 x3 x4 x5 σ).bind (fun q12 => if q12 = 0 then (F_X3_refuse (2 : Int32) σ).bind (fun q17 => some (q17.1, q17.2)) else fs_g (fs_in x1 6) (fs_g (fs_in x3 6) (fs_g (fs_cp (38 + x1.toNatClampNeg) (38 + x3.toNatClampNeg) x2 x4 x5) (some ((1 : Int32), (fs_cy σ (38 + x1.toNatClampNeg) (38 + x3.toNatClampNeg) x2 x4 x5))))))))) else (F_X3_refuse (5 : Int32) σ).bind (fun q19 => some (q19.1, q19.2))
set_option maxRecDepth 20000 in
set_option maxHeartbeats 40000000 in
theorem m_X3_copy (x1 : Int32) (x2 : Int32) (x3 : Int32) (x4 : Int32) (x5 : Int32)  (σ : fsS) (μ : fsL) (out : Int32 × fsS) (h : F_X3_copy x1 x2 x3 x4 x5 σ = some out) : fs_Met yX3_copy cX3_copy 6 (some .int) { frames := 1, cells := 0, slots := 0, locals := 26 } [.ref 0, .int x1, .int x2, .int x3, .int x4, .int x5] σ μ (some (.int out.1)) out.2 μ := by
  unfold F_X3_copy at h
  refine fs_intro (by decide +kernel) (Nat.le_of_ble_eq_true rfl) (fun X hX hR => ?_)
  show fs_PW X 0 [some (.ref 0), some (.int x1), some (.int x2), some (.int x3), some (.int x4), some (.int x5)] [] σ μ
  refine s_iload_n hX dX3_copy_0 rfl ?_
  refine s_callS hX (as := [.int x1]) dX3_copy_1 k_X3_59 v_X3_isRow (m_X3_isRow x1 σ μ _ rfl) ⟨rfl, rfl⟩ ⟨(Nat.le_of_ble_eq_true rfl), (Nat.le_of_ble_eq_true rfl)⟩ rfl rfl (Nat.le_of_ble_eq_true rfl) ?_
  refine s_if_eq hX 14 dX3_copy_4 (by decide) (fun c1 => ?_) (fun c1 => ?_)
  · have h := (if_pos c1).symm.trans h
    refine s_ic hX (-1 : Int32) dX3_copy_14 (by decide) ?_
    cases h
    exact s_iret hX hR dX3_copy_15
  · have h := (if_neg c1).symm.trans h
    refine s_iload_n hX dX3_copy_7 rfl ?_
    refine s_callS hX (as := [.int x3]) dX3_copy_8 k_X3_59 v_X3_isRow (m_X3_isRow x3 σ μ _ rfl) ⟨rfl, rfl⟩ ⟨(Nat.le_of_ble_eq_true rfl), (Nat.le_of_ble_eq_true rfl)⟩ rfl rfl (Nat.le_of_ble_eq_true rfl) ?_
    refine s_if_ne hX 16 dX3_copy_11 (by decide) (fun c2 => ?_) (fun c2 => ?_)
    · have h := (if_neg c2).symm.trans h
      refine s_iload hX dX3_copy_16 rfl ?_
      refine s_if_ge hX 27 dX3_copy_18 (by decide) (fun c3 => ?_) (fun c3 => ?_)
      · have h := (if_pos c3).symm.trans h
        refine s_aload_n hX dX3_copy_27 rfl ?_
        refine s_getr hX dX3_copy_28 f_X3_14 rfl ?_
        refine s_iload_n hX dX3_copy_31 rfl ?_
        obtain ⟨q4, e4, h⟩ := fs_bind h
        refine s_cV hX [.int x1] dX3_copy_32 k_X3_82 v_X2_has (m_X2_has 1 x1 fs_H1 σ μ q4 e4) (fs_H_is fs_H1) fs_c2 ⟨rfl, rfl⟩ ⟨(Nat.le_of_ble_eq_true rfl), (Nat.le_of_ble_eq_true rfl)⟩ rfl rfl (Nat.le_of_ble_eq_true rfl) ?_
        refine s_if_eq hX 49 dX3_copy_35 (by decide) (fun c5 => ?_) (fun c5 => ?_)
        · have h := (if_pos c5).symm.trans h
          refine s_aload_n hX dX3_copy_49 rfl ?_
          refine s_ic hX (1 : Int32) dX3_copy_50 (by decide) ?_
          obtain ⟨q6, e6, h⟩ := fs_bind h
          refine s_cV hX [.int (1 : Int32)] dX3_copy_51 k_X3_63 v_X3_refuse (m_X3_refuse (1 : Int32) σ μ q6 e6) ⟨_, rfl⟩ fs_c3 ⟨rfl, rfl⟩ ⟨(Nat.le_of_ble_eq_true rfl), (Nat.le_of_ble_eq_true rfl)⟩ rfl rfl (Nat.le_of_ble_eq_true rfl) ?_
          cases h
          exact s_iret hX hR dX3_copy_54
        · have h := (if_neg c5).symm.trans h
          refine s_aload_n hX dX3_copy_38 rfl ?_
          refine s_getr hX dX3_copy_39 f_X3_14 rfl ?_
          refine s_iload_n hX dX3_copy_42 rfl ?_
          obtain ⟨q7, e7, h⟩ := fs_bind h
          refine s_cV hX [.int x3] dX3_copy_43 k_X3_82 v_X2_has (m_X2_has 1 x3 fs_H1 σ μ q7 e7) (fs_H_is fs_H1) fs_c2 ⟨rfl, rfl⟩ ⟨(Nat.le_of_ble_eq_true rfl), (Nat.le_of_ble_eq_true rfl)⟩ rfl rfl (Nat.le_of_ble_eq_true rfl) ?_
          refine s_if_ne hX 55 dX3_copy_46 (by decide) (fun c8 => ?_) (fun c8 => ?_)
          · have h := (if_neg c8).symm.trans h
            refine s_aload_n hX dX3_copy_55 rfl ?_
            refine s_getr hX dX3_copy_56 f_X3_14 rfl ?_
            refine s_iload_n hX dX3_copy_59 rfl ?_
            refine s_iload_n hX dX3_copy_60 rfl ?_
            refine s_iload hX dX3_copy_61 rfl ?_
            obtain ⟨q9, e9, h⟩ := fs_bind h
            refine s_cV hX [.int x1, .int x2, .int x5] dX3_copy_63 k_X3_88 v_X2_reaches (m_X2_reaches 1 x1 x2 x5 fs_H1 σ μ q9 e9) (fs_H_is fs_H1) fs_c2 ⟨rfl, rfl⟩ ⟨(Nat.le_of_ble_eq_true rfl), (Nat.le_of_ble_eq_true rfl)⟩ rfl rfl (Nat.le_of_ble_eq_true rfl) ?_
            refine s_if_eq hX 84 dX3_copy_66 (by decide) (fun c10 => ?_) (fun c10 => ?_)
            · have h := (if_pos c10).symm.trans h
              refine s_aload_n hX dX3_copy_84 rfl ?_
              refine s_ic hX (2 : Int32) dX3_copy_85 (by decide) ?_
              obtain ⟨q11, e11, h⟩ := fs_bind h
              refine s_cV hX [.int (2 : Int32)] dX3_copy_86 k_X3_63 v_X3_refuse (m_X3_refuse (2 : Int32) σ μ q11 e11) ⟨_, rfl⟩ fs_c3 ⟨rfl, rfl⟩ ⟨(Nat.le_of_ble_eq_true rfl), (Nat.le_of_ble_eq_true rfl)⟩ rfl rfl (Nat.le_of_ble_eq_true rfl) ?_
              cases h
              exact s_iret hX hR dX3_copy_89
            · have h := (if_neg c10).symm.trans h
              refine s_aload_n hX dX3_copy_69 rfl ?_
              refine s_getr hX dX3_copy_70 f_X3_14 rfl ?_
              refine s_iload_n hX dX3_copy_73 rfl ?_
              refine s_iload hX dX3_copy_74 rfl ?_
              refine s_iload hX dX3_copy_76 rfl ?_
              obtain ⟨q12, e12, h⟩ := fs_bind h
              refine s_cV hX [.int x3, .int x4, .int x5] dX3_copy_78 k_X3_88 v_X2_reaches (m_X2_reaches 1 x3 x4 x5 fs_H1 σ μ q12 e12) (fs_H_is fs_H1) fs_c2 ⟨rfl, rfl⟩ ⟨(Nat.le_of_ble_eq_true rfl), (Nat.le_of_ble_eq_true rfl)⟩ rfl rfl (Nat.le_of_ble_eq_true rfl) ?_
              refine s_if_ne hX 90 dX3_copy_81 (by decide) (fun c13 => ?_) (fun c13 => ?_)
              · have h := (if_neg c13).symm.trans h
                refine s_aload_n hX dX3_copy_90 rfl ?_
                refine s_getr hX dX3_copy_91 f_X3_14 rfl ?_
                refine s_getr hX dX3_copy_94 f_X3_75 rfl ?_
                refine s_iload_n hX dX3_copy_97 rfl ?_
                obtain ⟨g14, h⟩ := fs_gd h
                refine s_aald hX dX3_copy_98 g14 ?_
                refine s_iload_n hX dX3_copy_99 rfl ?_
                refine s_aload_n hX dX3_copy_100 rfl ?_
                refine s_getr hX dX3_copy_101 f_X3_14 rfl ?_
                refine s_getr hX dX3_copy_104 f_X3_75 rfl ?_
                refine s_iload_n hX dX3_copy_107 rfl ?_
                obtain ⟨g15, h⟩ := fs_gd h
                refine s_aald hX dX3_copy_108 g15 ?_
                refine s_iload hX dX3_copy_109 rfl ?_
                refine s_iload hX dX3_copy_111 rfl ?_
                obtain ⟨g16, h⟩ := fs_gd h
                refine s_ac hX dX3_copy_113 k_X3_92 g16 rfl (Nat.le_of_ble_eq_true rfl) (Nat.le_of_ble_eq_true rfl) ?_
                refine s_ic hX (1 : Int32) dX3_copy_116 (by decide) ?_
                cases h
                exact s_iret hX hR dX3_copy_117
              · have h := (if_pos c13).symm.trans h
                refine s_aload_n hX dX3_copy_84 rfl ?_
                refine s_ic hX (2 : Int32) dX3_copy_85 (by decide) ?_
                obtain ⟨q17, e17, h⟩ := fs_bind h
                refine s_cV hX [.int (2 : Int32)] dX3_copy_86 k_X3_63 v_X3_refuse (m_X3_refuse (2 : Int32) σ μ q17 e17) ⟨_, rfl⟩ fs_c3 ⟨rfl, rfl⟩ ⟨(Nat.le_of_ble_eq_true rfl), (Nat.le_of_ble_eq_true rfl)⟩ rfl rfl (Nat.le_of_ble_eq_true rfl) ?_
                cases h
                exact s_iret hX hR dX3_copy_89
          · have h := (if_pos c8).symm.trans h
            refine s_aload_n hX dX3_copy_49 rfl ?_
            refine s_ic hX (1 : Int32) dX3_copy_50 (by decide) ?_
            obtain ⟨q18, e18, h⟩ := fs_bind h
            refine s_cV hX [.int (1 : Int32)] dX3_copy_51 k_X3_63 v_X3_refuse (m_X3_refuse (1 : Int32) σ μ q18 e18) ⟨_, rfl⟩ fs_c3 ⟨rfl, rfl⟩ ⟨(Nat.le_of_ble_eq_true rfl), (Nat.le_of_ble_eq_true rfl)⟩ rfl rfl (Nat.le_of_ble_eq_true rfl) ?_
            cases h
            exact s_iret hX hR dX3_copy_54
      · have h := (if_neg c3).symm.trans h
        refine s_aload_n hX dX3_copy_21 rfl ?_
        refine s_ic hX (5 : Int32) dX3_copy_22 (by decide) ?_
        obtain ⟨q19, e19, h⟩ := fs_bind h
        refine s_cV hX [.int (5 : Int32)] dX3_copy_23 k_X3_63 v_X3_refuse (m_X3_refuse (5 : Int32) σ μ q19 e19) ⟨_, rfl⟩ fs_c3 ⟨rfl, rfl⟩ ⟨(Nat.le_of_ble_eq_true rfl), (Nat.le_of_ble_eq_true rfl)⟩ rfl rfl (Nat.le_of_ble_eq_true rfl) ?_
        cases h
        exact s_iret hX hR dX3_copy_26
    · have h := (if_pos c2).symm.trans h
      refine s_ic hX (-1 : Int32) dX3_copy_14 (by decide) ?_
      cases h
      exact s_iret hX hR dX3_copy_15

-- X3_mean
def F_X3_mean (x1 : Int32) (σ : fsS) : Option (Int32 × fsS) := if (F_X3_isRow x1) = 0 then some ((-1 : Int32), σ) else (F_X2_has 1 x1 σ).bind (fun q2 => if q2 = 0 then (F_X3_refuse (1 : Int32) σ).bind (fun q9 => some (q9.1, q9.2)) else fs_g (fs_in x1 6) (if 0 < (σ 10 x1.toNatClampNeg) then (F_X2_sum 1 x1 σ).bind (fun q6 => fs_g (¬ ((σ 10 x1.toNatClampNeg).toInt64) = 0) (some ((F_X3_tell ((q6 / ((σ 10 x1.toNatClampNeg).toInt64)).toInt32) (1 : Int32) σ).1, (F_X3_tell ((q6 / ((σ 10 x1.toNatClampNeg).toInt64)).toInt32) (1 : Int32) σ).2))) else (F_X3_refuse (4 : Int32) σ).bind (fun q8 => some (q8.1, q8.2))))
set_option maxRecDepth 20000 in
set_option maxHeartbeats 40000000 in
theorem m_X3_mean (x1 : Int32)  (σ : fsS) (μ : fsL) (out : Int32 × fsS) (h : F_X3_mean x1 σ = some out) : fs_Met yX3_mean cX3_mean 3 (some .int) { frames := 1, cells := 0, slots := 0, locals := 24 } [.ref 0, .int x1] σ μ (some (.int out.1)) out.2 μ := by
  unfold F_X3_mean at h
  refine fs_intro (by decide +kernel) (Nat.le_of_ble_eq_true rfl) (fun X hX hR => ?_)
  show fs_PW X 0 [some (.ref 0), some (.int x1), none] [] σ μ
  refine s_iload_n hX dX3_mean_0 rfl ?_
  refine s_callS hX (as := [.int x1]) dX3_mean_1 k_X3_59 v_X3_isRow (m_X3_isRow x1 σ μ _ rfl) ⟨rfl, rfl⟩ ⟨(Nat.le_of_ble_eq_true rfl), (Nat.le_of_ble_eq_true rfl)⟩ rfl rfl (Nat.le_of_ble_eq_true rfl) ?_
  refine s_if_ne hX 9 dX3_mean_4 (by decide) (fun c1 => ?_) (fun c1 => ?_)
  · have h := (if_neg c1).symm.trans h
    refine s_aload_n hX dX3_mean_9 rfl ?_
    refine s_getr hX dX3_mean_10 f_X3_14 rfl ?_
    refine s_iload_n hX dX3_mean_13 rfl ?_
    obtain ⟨q2, e2, h⟩ := fs_bind h
    refine s_cV hX [.int x1] dX3_mean_14 k_X3_82 v_X2_has (m_X2_has 1 x1 fs_H1 σ μ q2 e2) (fs_H_is fs_H1) fs_c2 ⟨rfl, rfl⟩ ⟨(Nat.le_of_ble_eq_true rfl), (Nat.le_of_ble_eq_true rfl)⟩ rfl rfl (Nat.le_of_ble_eq_true rfl) ?_
    refine s_if_ne hX 26 dX3_mean_17 (by decide) (fun c3 => ?_) (fun c3 => ?_)
    · have h := (if_neg c3).symm.trans h
      refine s_aload_n hX dX3_mean_26 rfl ?_
      refine s_getr hX dX3_mean_27 f_X3_14 rfl ?_
      refine s_getr hX dX3_mean_30 f_X3_85 rfl ?_
      refine s_iload_n hX dX3_mean_33 rfl ?_
      obtain ⟨g4, h⟩ := fs_gd h
      refine s_iald hX dX3_mean_34 g4 ?_
      refine s_istore_n hX dX3_mean_35 (Nat.le_of_ble_eq_true rfl) ?_
      refine s_iload_n hX dX3_mean_36 rfl ?_
      refine s_if_gt hX 46 dX3_mean_37 (by decide) (fun c5 => ?_) (fun c5 => ?_)
      · have h := (if_pos c5).symm.trans h
        refine s_aload_n hX dX3_mean_46 rfl ?_
        refine s_aload_n hX dX3_mean_47 rfl ?_
        refine s_getr hX dX3_mean_48 f_X3_14 rfl ?_
        refine s_iload_n hX dX3_mean_51 rfl ?_
        obtain ⟨q6, e6, h⟩ := fs_bind h
        refine s_cV hX [.int x1] dX3_mean_52 k_X3_98 v_X2_sum (m_X2_sum 1 x1 fs_H1 σ μ q6 e6) (fs_H_is fs_H1) fs_c2 ⟨rfl, rfl⟩ ⟨(Nat.le_of_ble_eq_true rfl), (Nat.le_of_ble_eq_true rfl)⟩ rfl rfl (Nat.le_of_ble_eq_true rfl) ?_
        refine s_iload_n hX dX3_mean_55 rfl ?_
        refine s_i2l hX dX3_mean_56 ?_
        obtain ⟨g7, h⟩ := fs_gd h
        refine s_ldiv hX dX3_mean_57 g7 ?_
        refine s_l2i hX dX3_mean_58 ?_
        refine s_ic hX (1 : Int32) dX3_mean_59 (by decide) ?_
        refine s_cV hX [.int ((q6 / ((σ 10 x1.toNatClampNeg).toInt64)).toInt32), .int (1 : Int32)] dX3_mean_60 k_X3_79 v_X3_tell (m_X3_tell ((q6 / ((σ 10 x1.toNatClampNeg).toInt64)).toInt32) (1 : Int32) σ μ _ rfl) ⟨_, rfl⟩ fs_c3 ⟨rfl, rfl⟩ ⟨(Nat.le_of_ble_eq_true rfl), (Nat.le_of_ble_eq_true rfl)⟩ rfl rfl (Nat.le_of_ble_eq_true rfl) ?_
        cases h
        exact s_iret hX hR dX3_mean_63
      · have h := (if_neg c5).symm.trans h
        refine s_aload_n hX dX3_mean_40 rfl ?_
        refine s_ic hX (4 : Int32) dX3_mean_41 (by decide) ?_
        obtain ⟨q8, e8, h⟩ := fs_bind h
        refine s_cV hX [.int (4 : Int32)] dX3_mean_42 k_X3_63 v_X3_refuse (m_X3_refuse (4 : Int32) σ μ q8 e8) ⟨_, rfl⟩ fs_c3 ⟨rfl, rfl⟩ ⟨(Nat.le_of_ble_eq_true rfl), (Nat.le_of_ble_eq_true rfl)⟩ rfl rfl (Nat.le_of_ble_eq_true rfl) ?_
        cases h
        exact s_iret hX hR dX3_mean_45
    · have h := (if_pos c3).symm.trans h
      refine s_aload_n hX dX3_mean_20 rfl ?_
      refine s_ic hX (1 : Int32) dX3_mean_21 (by decide) ?_
      obtain ⟨q9, e9, h⟩ := fs_bind h
      refine s_cV hX [.int (1 : Int32)] dX3_mean_22 k_X3_63 v_X3_refuse (m_X3_refuse (1 : Int32) σ μ q9 e9) ⟨_, rfl⟩ fs_c3 ⟨rfl, rfl⟩ ⟨(Nat.le_of_ble_eq_true rfl), (Nat.le_of_ble_eq_true rfl)⟩ rfl rfl (Nat.le_of_ble_eq_true rfl) ?_
      cases h
      exact s_iret hX hR dX3_mean_25
  · have h := (if_pos c1).symm.trans h
    refine s_ic hX (-1 : Int32) dX3_mean_7 (by decide) ?_
    cases h
    exact s_iret hX hR dX3_mean_8

-- X3_isText
def F_X3_isText (x0 : Int32) : Int32 := if x0 < 0 then (0 : Int32) else if (4 : Int32) ≤ x0 then (0 : Int32) else (1 : Int32)
theorem z_X3_isText (x0 : Int32) : F_X3_isText x0 = 0 ∨ F_X3_isText x0 = 1 := by
  unfold F_X3_isText
  (repeat' split) <;> first | exact Or.inl rfl | exact Or.inr rfl
set_option maxRecDepth 20000 in
set_option maxHeartbeats 40000000 in
theorem m_X3_isText (x0 : Int32)  (σ : fsS) (μ : fsL) (out : Int32) (h : F_X3_isText x0 = out) : fs_Met yX3_isText cX3_isText 1 (some .boolean) { frames := 0, cells := 0, slots := 0, locals := 0 } [.int x0] σ μ (some (.int out)) σ μ := by
  unfold F_X3_isText at h
  refine fs_intro (by decide +kernel) (Nat.le_of_ble_eq_true rfl) (fun X hX hR => ?_)
  show fs_PW X 0 [some (.int x0)] [] σ μ
  refine s_iload_n hX dX3_isText_0 rfl ?_
  refine s_if_lt hX 13 dX3_isText_1 (by decide) (fun c1 => ?_) (fun c1 => ?_)
  · have h := (if_pos c1).symm.trans h
    refine s_ic hX (0 : Int32) dX3_isText_13 (by decide) ?_
    subst h
    exact s_zret hX (Or.inl rfl) hR dX3_isText_14
  · have h := (if_neg c1).symm.trans h
    refine s_iload_n hX dX3_isText_4 rfl ?_
    refine s_ic hX (4 : Int32) dX3_isText_5 (by decide) ?_
    refine s_ic_ge hX 13 dX3_isText_6 (by decide) (fun c2 => ?_) (fun c2 => ?_)
    · have h := (if_pos c2).symm.trans h
      refine s_ic hX (0 : Int32) dX3_isText_13 (by decide) ?_
      subst h
      exact s_zret hX (Or.inl rfl) hR dX3_isText_14
    · have h := (if_neg c2).symm.trans h
      refine s_ic hX (1 : Int32) dX3_isText_9 (by decide) ?_
      refine s_goto hX 14 dX3_isText_10 (by decide) ?_
      subst h
      exact s_zret hX (Or.inr rfl) hR dX3_isText_14

-- X3_text
def F_X3_text (x1 : Int32) (x2 : Int32) (σ : fsS) : Option (Int32 × fsS) := if (F_X3_isText x1) = 0 then some ((-1 : Int32), σ) else if x2 ≤ (60 : Int32) then if 0 ≤ x2 then (F_X2_lie 2 x1 x2 σ).bind (fun q4 => some (x2, q4)) else (F_X3_refuse (5 : Int32) σ).bind (fun q5 => some (q5.1, q5.2)) else some ((-1 : Int32), σ)
set_option maxRecDepth 20000 in
set_option maxHeartbeats 40000000 in
theorem m_X3_text (x1 : Int32) (x2 : Int32)  (σ : fsS) (μ : fsL) (out : Int32 × fsS) (h : F_X3_text x1 x2 σ = some out) : fs_Met yX3_text cX3_text 3 (some .int) { frames := 1, cells := 0, slots := 0, locals := 23 } [.ref 0, .int x1, .int x2] σ μ (some (.int out.1)) out.2 μ := by
  unfold F_X3_text at h
  refine fs_intro (by decide +kernel) (Nat.le_of_ble_eq_true rfl) (fun X hX hR => ?_)
  show fs_PW X 0 [some (.ref 0), some (.int x1), some (.int x2)] [] σ μ
  refine s_iload_n hX dX3_text_0 rfl ?_
  refine s_callS hX (as := [.int x1]) dX3_text_1 k_X3_102 v_X3_isText (m_X3_isText x1 σ μ _ rfl) ⟨rfl, rfl⟩ ⟨(Nat.le_of_ble_eq_true rfl), (Nat.le_of_ble_eq_true rfl)⟩ rfl rfl (Nat.le_of_ble_eq_true rfl) ?_
  refine s_if_eq hX 13 dX3_text_4 (by decide) (fun c1 => ?_) (fun c1 => ?_)
  · have h := (if_pos c1).symm.trans h
    refine s_ic hX (-1 : Int32) dX3_text_13 (by decide) ?_
    cases h
    exact s_iret hX hR dX3_text_14
  · have h := (if_neg c1).symm.trans h
    refine s_iload_n hX dX3_text_7 rfl ?_
    refine s_bi hX (60 : Int32) dX3_text_8 (by decide) ?_
    refine s_ic_le hX 15 dX3_text_10 (by decide) (fun c2 => ?_) (fun c2 => ?_)
    · have h := (if_pos c2).symm.trans h
      refine s_iload_n hX dX3_text_15 rfl ?_
      refine s_if_ge hX 25 dX3_text_16 (by decide) (fun c3 => ?_) (fun c3 => ?_)
      · have h := (if_pos c3).symm.trans h
        refine s_aload_n hX dX3_text_25 rfl ?_
        refine s_getr hX dX3_text_26 f_X3_18 rfl ?_
        refine s_iload_n hX dX3_text_29 rfl ?_
        refine s_iload_n hX dX3_text_30 rfl ?_
        obtain ⟨q4, e4, h⟩ := fs_bind h
        refine s_cV hX [.int x1, .int x2] dX3_text_31 k_X3_67 v_X2_lie (m_X2_lie 2 x1 x2 fs_H2 σ μ q4 e4) (fs_H_is fs_H2) fs_c2 ⟨rfl, rfl⟩ ⟨(Nat.le_of_ble_eq_true rfl), (Nat.le_of_ble_eq_true rfl)⟩ rfl rfl (Nat.le_of_ble_eq_true rfl) ?_
        refine s_iload_n hX dX3_text_34 rfl ?_
        cases h
        exact s_iret hX hR dX3_text_35
      · have h := (if_neg c3).symm.trans h
        refine s_aload_n hX dX3_text_19 rfl ?_
        refine s_ic hX (5 : Int32) dX3_text_20 (by decide) ?_
        obtain ⟨q5, e5, h⟩ := fs_bind h
        refine s_cV hX [.int (5 : Int32)] dX3_text_21 k_X3_63 v_X3_refuse (m_X3_refuse (5 : Int32) σ μ q5 e5) ⟨_, rfl⟩ fs_c3 ⟨rfl, rfl⟩ ⟨(Nat.le_of_ble_eq_true rfl), (Nat.le_of_ble_eq_true rfl)⟩ rfl rfl (Nat.le_of_ble_eq_true rfl) ?_
        cases h
        exact s_iret hX hR dX3_text_24
    · have h := (if_neg c2).symm.trans h
      refine s_ic hX (-1 : Int32) dX3_text_13 (by decide) ?_
      cases h
      exact s_iret hX hR dX3_text_14

-- X3_put
def F_X3_put (x1 : Int32) (x2 : Int32) (x3 : Int32) (σ : fsS) : Option (Int32 × fsS) := if (F_X3_isText x1) = 0 then some ((-1 : Int32), σ) else (F_X2_has 2 x1 σ).bind (fun q2 => if q2 = 0 then (F_X3_refuse (1 : Int32) σ).bind (fun q11 => some (q11.1, q11.2)) else (F_X2_reaches 2 x1 x2 (1 : Int32) σ).bind (fun q4 => if q4 = 0 then (F_X3_refuse (2 : Int32) σ).bind (fun q10 => some (q10.1, q10.2)) else fs_g (fs_in x1 4) (fs_g (fs_in x2 (fs_len (44 + x1.toNatClampNeg))) (fs_g (fs_in x1 4) (fs_g (fs_in x2 (fs_len (44 + x1.toNatClampNeg))) (some (((σ (44 + x1.toNatClampNeg) x2.toNatClampNeg) + (1000 : Int32)), (fs_u σ (44 + x1.toNatClampNeg) x2.toNatClampNeg (x3.toInt8.toInt32)))))))))
set_option maxRecDepth 20000 in
set_option maxHeartbeats 40000000 in
theorem m_X3_put (x1 : Int32) (x2 : Int32) (x3 : Int32)  (σ : fsS) (μ : fsL) (out : Int32 × fsS) (h : F_X3_put x1 x2 x3 σ = some out) : fs_Met yX3_put cX3_put 5 (some .int) { frames := 1, cells := 0, slots := 0, locals := 23 } [.ref 0, .int x1, .int x2, .int x3] σ μ (some (.int out.1)) out.2 μ := by
  unfold F_X3_put at h
  refine fs_intro (by decide +kernel) (Nat.le_of_ble_eq_true rfl) (fun X hX hR => ?_)
  show fs_PW X 0 [some (.ref 0), some (.int x1), some (.int x2), some (.int x3), none] [] σ μ
  refine s_iload_n hX dX3_put_0 rfl ?_
  refine s_callS hX (as := [.int x1]) dX3_put_1 k_X3_102 v_X3_isText (m_X3_isText x1 σ μ _ rfl) ⟨rfl, rfl⟩ ⟨(Nat.le_of_ble_eq_true rfl), (Nat.le_of_ble_eq_true rfl)⟩ rfl rfl (Nat.le_of_ble_eq_true rfl) ?_
  refine s_if_ne hX 9 dX3_put_4 (by decide) (fun c1 => ?_) (fun c1 => ?_)
  · have h := (if_neg c1).symm.trans h
    refine s_aload_n hX dX3_put_9 rfl ?_
    refine s_getr hX dX3_put_10 f_X3_18 rfl ?_
    refine s_iload_n hX dX3_put_13 rfl ?_
    obtain ⟨q2, e2, h⟩ := fs_bind h
    refine s_cV hX [.int x1] dX3_put_14 k_X3_82 v_X2_has (m_X2_has 2 x1 fs_H2 σ μ q2 e2) (fs_H_is fs_H2) fs_c2 ⟨rfl, rfl⟩ ⟨(Nat.le_of_ble_eq_true rfl), (Nat.le_of_ble_eq_true rfl)⟩ rfl rfl (Nat.le_of_ble_eq_true rfl) ?_
    refine s_if_ne hX 26 dX3_put_17 (by decide) (fun c3 => ?_) (fun c3 => ?_)
    · have h := (if_neg c3).symm.trans h
      refine s_aload_n hX dX3_put_26 rfl ?_
      refine s_getr hX dX3_put_27 f_X3_18 rfl ?_
      refine s_iload_n hX dX3_put_30 rfl ?_
      refine s_iload_n hX dX3_put_31 rfl ?_
      refine s_ic hX (1 : Int32) dX3_put_32 (by decide) ?_
      obtain ⟨q4, e4, h⟩ := fs_bind h
      refine s_cV hX [.int x1, .int x2, .int (1 : Int32)] dX3_put_33 k_X3_88 v_X2_reaches (m_X2_reaches 2 x1 x2 (1 : Int32) fs_H2 σ μ q4 e4) (fs_H_is fs_H2) fs_c2 ⟨rfl, rfl⟩ ⟨(Nat.le_of_ble_eq_true rfl), (Nat.le_of_ble_eq_true rfl)⟩ rfl rfl (Nat.le_of_ble_eq_true rfl) ?_
      refine s_if_ne hX 45 dX3_put_36 (by decide) (fun c5 => ?_) (fun c5 => ?_)
      · have h := (if_neg c5).symm.trans h
        refine s_aload_n hX dX3_put_45 rfl ?_
        refine s_getr hX dX3_put_46 f_X3_18 rfl ?_
        refine s_getr hX dX3_put_49 f_X3_75 rfl ?_
        refine s_iload_n hX dX3_put_52 rfl ?_
        obtain ⟨g6, h⟩ := fs_gd h
        refine s_aald hX dX3_put_53 g6 ?_
        refine s_iload_n hX dX3_put_54 rfl ?_
        obtain ⟨g7, h⟩ := fs_gd h
        refine s_iald hX dX3_put_55 g7 ?_
        refine s_istore hX dX3_put_56 (Nat.le_of_ble_eq_true rfl) ?_
        refine s_aload_n hX dX3_put_58 rfl ?_
        refine s_getr hX dX3_put_59 f_X3_18 rfl ?_
        refine s_getr hX dX3_put_62 f_X3_75 rfl ?_
        refine s_iload_n hX dX3_put_65 rfl ?_
        obtain ⟨g8, h⟩ := fs_gd h
        refine s_aald hX dX3_put_66 g8 ?_
        refine s_iload_n hX dX3_put_67 rfl ?_
        refine s_iload_n hX dX3_put_68 rfl ?_
        refine s_i2b hX dX3_put_69 ?_
        obtain ⟨g9, h⟩ := fs_gd h
        refine s_iast hX dX3_put_70 g9 ?_
        refine s_iload hX dX3_put_71 rfl ?_
        refine s_si hX (1000 : Int32) dX3_put_73 (by decide) ?_
        refine s_iadd hX dX3_put_76 ?_
        cases h
        exact s_iret hX hR dX3_put_77
      · have h := (if_pos c5).symm.trans h
        refine s_aload_n hX dX3_put_39 rfl ?_
        refine s_ic hX (2 : Int32) dX3_put_40 (by decide) ?_
        obtain ⟨q10, e10, h⟩ := fs_bind h
        refine s_cV hX [.int (2 : Int32)] dX3_put_41 k_X3_63 v_X3_refuse (m_X3_refuse (2 : Int32) σ μ q10 e10) ⟨_, rfl⟩ fs_c3 ⟨rfl, rfl⟩ ⟨(Nat.le_of_ble_eq_true rfl), (Nat.le_of_ble_eq_true rfl)⟩ rfl rfl (Nat.le_of_ble_eq_true rfl) ?_
        cases h
        exact s_iret hX hR dX3_put_44
    · have h := (if_pos c3).symm.trans h
      refine s_aload_n hX dX3_put_20 rfl ?_
      refine s_ic hX (1 : Int32) dX3_put_21 (by decide) ?_
      obtain ⟨q11, e11, h⟩ := fs_bind h
      refine s_cV hX [.int (1 : Int32)] dX3_put_22 k_X3_63 v_X3_refuse (m_X3_refuse (1 : Int32) σ μ q11 e11) ⟨_, rfl⟩ fs_c3 ⟨rfl, rfl⟩ ⟨(Nat.le_of_ble_eq_true rfl), (Nat.le_of_ble_eq_true rfl)⟩ rfl rfl (Nat.le_of_ble_eq_true rfl) ?_
      cases h
      exact s_iret hX hR dX3_put_25
  · have h := (if_pos c1).symm.trans h
    refine s_ic hX (-1 : Int32) dX3_put_7 (by decide) ?_
    cases h
    exact s_iret hX hR dX3_put_8

-- X3_fault
def F_X3_fault (x1 : Int32) (σ : fsS) : Option (Int32 × fsS) := if (F_X3_isText x1) = 0 then some ((-1 : Int32), σ) else (F_X2_has 2 x1 σ).bind (fun q2 => if q2 = 0 then (F_X3_refuse (1 : Int32) σ).bind (fun q7 => some (q7.1, q7.2)) else fs_g (fs_in x1 4) (fs_g (fs_in x1 4) ((F_X1_read 6 (44 + x1.toNatClampNeg) (σ 11 x1.toNatClampNeg) σ).bind (fun q6 => some (q6.1, q6.2)))))
set_option maxRecDepth 20000 in
set_option maxHeartbeats 40000000 in
theorem m_X3_fault (x1 : Int32)  (σ : fsS) (μ : fsL) (out : Int32 × fsS) (h : F_X3_fault x1 σ = some out) : fs_Met yX3_fault cX3_fault 2 (some .int) { frames := 3, cells := 0, slots := 0, locals := 69 } [.ref 0, .int x1] σ μ (some (.int out.1)) out.2 μ := by
  unfold F_X3_fault at h
  refine fs_intro (by decide +kernel) (Nat.le_of_ble_eq_true rfl) (fun X hX hR => ?_)
  show fs_PW X 0 [some (.ref 0), some (.int x1)] [] σ μ
  refine s_iload_n hX dX3_fault_0 rfl ?_
  refine s_callS hX (as := [.int x1]) dX3_fault_1 k_X3_102 v_X3_isText (m_X3_isText x1 σ μ _ rfl) ⟨rfl, rfl⟩ ⟨(Nat.le_of_ble_eq_true rfl), (Nat.le_of_ble_eq_true rfl)⟩ rfl rfl (Nat.le_of_ble_eq_true rfl) ?_
  refine s_if_ne hX 9 dX3_fault_4 (by decide) (fun c1 => ?_) (fun c1 => ?_)
  · have h := (if_neg c1).symm.trans h
    refine s_aload_n hX dX3_fault_9 rfl ?_
    refine s_getr hX dX3_fault_10 f_X3_18 rfl ?_
    refine s_iload_n hX dX3_fault_13 rfl ?_
    obtain ⟨q2, e2, h⟩ := fs_bind h
    refine s_cV hX [.int x1] dX3_fault_14 k_X3_82 v_X2_has (m_X2_has 2 x1 fs_H2 σ μ q2 e2) (fs_H_is fs_H2) fs_c2 ⟨rfl, rfl⟩ ⟨(Nat.le_of_ble_eq_true rfl), (Nat.le_of_ble_eq_true rfl)⟩ rfl rfl (Nat.le_of_ble_eq_true rfl) ?_
    refine s_if_ne hX 26 dX3_fault_17 (by decide) (fun c3 => ?_) (fun c3 => ?_)
    · have h := (if_neg c3).symm.trans h
      refine s_aload_n hX dX3_fault_26 rfl ?_
      refine s_getr hX dX3_fault_27 f_X3_31 rfl ?_
      refine s_aload_n hX dX3_fault_30 rfl ?_
      refine s_getr hX dX3_fault_31 f_X3_18 rfl ?_
      refine s_getr hX dX3_fault_34 f_X3_75 rfl ?_
      refine s_iload_n hX dX3_fault_37 rfl ?_
      obtain ⟨g4, h⟩ := fs_gd h
      refine s_aald hX dX3_fault_38 g4 ?_
      refine s_aload_n hX dX3_fault_39 rfl ?_
      refine s_getr hX dX3_fault_40 f_X3_18 rfl ?_
      refine s_getr hX dX3_fault_43 f_X3_85 rfl ?_
      refine s_iload_n hX dX3_fault_46 rfl ?_
      obtain ⟨g5, h⟩ := fs_gd h
      refine s_iald hX dX3_fault_47 g5 ?_
      obtain ⟨q6, e6, h⟩ := fs_bind h
      refine s_cV hX [.ref (44 + x1.toNatClampNeg), .int (σ 11 x1.toNatClampNeg)] dX3_fault_48 k_X3_105 v_X1_read (m_X1_read 6 (44 + x1.toNatClampNeg) (σ 11 x1.toNatClampNeg) fs_K6 σ μ q6 e6) (fs_K_is fs_K6) fs_c1 ⟨rfl, rfl⟩ ⟨(Nat.le_of_ble_eq_true rfl), (Nat.le_of_ble_eq_true rfl)⟩ rfl rfl (Nat.le_of_ble_eq_true rfl) ?_
      cases h
      exact s_iret hX hR dX3_fault_51
    · have h := (if_pos c3).symm.trans h
      refine s_aload_n hX dX3_fault_20 rfl ?_
      refine s_ic hX (1 : Int32) dX3_fault_21 (by decide) ?_
      obtain ⟨q7, e7, h⟩ := fs_bind h
      refine s_cV hX [.int (1 : Int32)] dX3_fault_22 k_X3_63 v_X3_refuse (m_X3_refuse (1 : Int32) σ μ q7 e7) ⟨_, rfl⟩ fs_c3 ⟨rfl, rfl⟩ ⟨(Nat.le_of_ble_eq_true rfl), (Nat.le_of_ble_eq_true rfl)⟩ rfl rfl (Nat.le_of_ble_eq_true rfl) ?_
      cases h
      exact s_iret hX hR dX3_fault_25
  · have h := (if_pos c1).symm.trans h
    refine s_ic hX (-1 : Int32) dX3_fault_7 (by decide) ?_
    cases h
    exact s_iret hX hR dX3_fault_8
