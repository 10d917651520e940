-- X3_isText
def F_X3_isText (x0 : Int32) : Int32 := if x0 < 0 then (0 : Int32) else if (4 : Int32) ≤ x0 then (0 : Int32) else (1 : Int32)
theorem z_X3_isText (x0 : Int32) : F_X3_isText x0 = 0 ∨ F_X3_isText x0 = 1 := by
  unfold F_X3_isText
  (repeat' split) <;> first | exact Or.inl rfl | exact Or.inr rfl
set_option maxRecDepth 20000 in
set_option maxHeartbeats 4000000 in
theorem m_X3_isText (x0 : Int32)  (σ : fsS) (μ : fsL) (out : Int32) (h : F_X3_isText x0 = out) : fs_Met yX3_isText cX3_isText 1 (some .boolean) { frames := 0, cells := 0, slots := 0, locals := 0 } [.int x0] σ μ (some (.int out)) σ μ := by
  unfold F_X3_isText at h
  refine fs_intro (by decide +kernel) (Nat.le_of_ble_eq_true rfl) (fun X hX hR => ?_)
  show fs_PW X 0 [some (.int x0)] [] σ μ
  refine s_iload_n hX dX3_isText_0 rfl ?_
  refine s_if_lt hX 13 dX3_isText_1 (by decide) (fun c1 => ?_) (fun c1 => ?_)
  · have h := (if_pos c1).symm.trans h
    refine s_ic hX (0 : Int32) dX3_isText_13 (by decide) ?_
    subst h
    exact s_zret hX (Or.inl rfl) hR dX3_isText_14
  · have h := (if_neg c1).symm.trans h
    refine s_iload_n hX dX3_isText_4 rfl ?_
    refine s_ic hX (4 : Int32) dX3_isText_5 (by decide) ?_
    refine s_ic_ge hX 13 dX3_isText_6 (by decide) (fun c2 => ?_) (fun c2 => ?_)
    · have h := (if_pos c2).symm.trans h
      refine s_ic hX (0 : Int32) dX3_isText_13 (by decide) ?_
      subst h
      exact s_zret hX (Or.inl rfl) hR dX3_isText_14
    · have h := (if_neg c2).symm.trans h
      refine s_ic hX (1 : Int32) dX3_isText_9 (by decide) ?_
      refine s_goto hX 14 dX3_isText_10 (by decide) ?_
      subst h
      exact s_zret hX (Or.inr rfl) hR dX3_isText_14

-- X3_text
def F_X3_text (x1 : Int32) (x2 : Int32) (σ : fsS) : Option (Int32 × fsS) := if (F_X3_isText x1) = 0 then some ((-1 : Int32), σ) else if x2 ≤ (60 : Int32) then if 0 ≤ x2 then (F_X2_lie 2 x1 x2 σ).bind (fun q4 => some (x2, q4)) else (F_X3_refuse (5 : Int32) σ).bind (fun q5 => some (q5.1, q5.2)) else some ((-1 : Int32), σ)
set_option maxRecDepth 20000 in
set_option maxHeartbeats 4000000 in
theorem m_X3_text (x1 : Int32) (x2 : Int32)  (σ : fsS) (μ : fsL) (out : Int32 × fsS) (h : F_X3_text x1 x2 σ = some out) : fs_Met yX3_text cX3_text 3 (some .int) { frames := 1, cells := 0, slots := 0, locals := 23 } [.ref 0, .int x1, .int x2] σ μ (some (.int out.1)) out.2 μ := by
  unfold F_X3_text at h
  refine fs_intro (by decide +kernel) (Nat.le_of_ble_eq_true rfl) (fun X hX hR => ?_)
  show fs_PW X 0 [some (.ref 0), some (.int x1), some (.int x2)] [] σ μ
  refine s_iload_n hX dX3_text_0 rfl ?_
  refine s_callS hX (as := [.int x1]) dX3_text_1 k_X3_102 v_X3_isText (m_X3_isText x1 σ μ _ rfl) ⟨rfl, rfl⟩ ⟨(Nat.le_of_ble_eq_true rfl), (Nat.le_of_ble_eq_true rfl)⟩ rfl rfl (Nat.le_of_ble_eq_true rfl) ?_
  refine s_if_eq hX 13 dX3_text_4 (by decide) (fun c1 => ?_) (fun c1 => ?_)
  · have h := (if_pos c1).symm.trans h
    refine s_ic hX (-1 : Int32) dX3_text_13 (by decide) ?_
    cases h
    exact s_iret hX hR dX3_text_14
  · have h := (if_neg c1).symm.trans h
    refine s_iload_n hX dX3_text_7 rfl ?_
    refine s_bi hX (60 : Int32) dX3_text_8 (by decide) ?_
    refine s_ic_le hX 15 dX3_text_10 (by decide) (fun c2 => ?_) (fun c2 => ?_)
    · have h := (if_pos c2).symm.trans h
      refine s_iload_n hX dX3_text_15 rfl ?_
      refine s_if_ge hX 25 dX3_text_16 (by decide) (fun c3 => ?_) (fun c3 => ?_)
      · have h := (if_pos c3).symm.trans h
        refine s_aload_n hX dX3_text_25 rfl ?_
        refine s_getr hX dX3_text_26 f_X3_18 rfl ?_
        refine s_iload_n hX dX3_text_29 rfl ?_
        refine s_iload_n hX dX3_text_30 rfl ?_
        obtain ⟨q4, e4, h⟩ := fs_bind h
        refine s_cV hX [.int x1, .int x2] dX3_text_31 k_X3_67 v_X2_lie (m_X2_lie 2 x1 x2 fs_H2 σ μ q4 e4) (fs_H_is fs_H2) fs_c2 ⟨rfl, rfl⟩ ⟨(Nat.le_of_ble_eq_true rfl), (Nat.le_of_ble_eq_true rfl)⟩ rfl rfl (Nat.le_of_ble_eq_true rfl) ?_
        refine s_iload_n hX dX3_text_34 rfl ?_
        cases h
        exact s_iret hX hR dX3_text_35
      · have h := (if_neg c3).symm.trans h
        refine s_aload_n hX dX3_text_19 rfl ?_
        refine s_ic hX (5 : Int32) dX3_text_20 (by decide) ?_
        obtain ⟨q5, e5, h⟩ := fs_bind h
        refine s_cV hX [.int (5 : Int32)] dX3_text_21 k_X3_63 v_X3_refuse (m_X3_refuse (5 : Int32) σ μ q5 e5) ⟨_, rfl⟩ fs_c3 ⟨rfl, rfl⟩ ⟨(Nat.le_of_ble_eq_true rfl), (Nat.le_of_ble_eq_true rfl)⟩ rfl rfl (Nat.le_of_ble_eq_true rfl) ?_
        cases h
        exact s_iret hX hR dX3_text_24
    · have h := (if_neg c2).symm.trans h
      refine s_ic hX (-1 : Int32) dX3_text_13 (by decide) ?_
      cases h
      exact s_iret hX hR dX3_text_14

-- X3_put
def F_X3_put (x1 : Int32) (x2 : Int32) (x3 : Int32) (σ : fsS) : Option (Int32 × fsS) := if (F_X3_isText x1) = 0 then some ((-1 : Int32), σ) else (F_X2_has 2 x1 σ).bind (fun q2 => if q2 = 0 then (F_X3_refuse (1 : Int32) σ).bind (fun q11 => some (q11.1, q11.2)) else (F_X2_reaches 2 x1 x2 (1 : Int32) σ).bind (fun q4 => if q4 = 0 then (F_X3_refuse (2 : Int32) σ).bind (fun q10 => some (q10.1, q10.2)) else fs_g (fs_in x1 4) (fs_g (fs_in x2 (fs_len (44 + x1.toNatClampNeg))) (fs_g (fs_in x1 4) (fs_g (fs_in x2 (fs_len (44 + x1.toNatClampNeg))) (some (((σ (44 + x1.toNatClampNeg) x2.toNatClampNeg) + (1000 : Int32)), (fs_u σ (44 + x1.toNatClampNeg) x2.toNatClampNeg (x3.toInt8.toInt32)))))))))
set_option maxRecDepth 20000 in
set_option maxHeartbeats 4000000 in
theorem m_X3_put (x1 : Int32) (x2 : Int32) (x3 : Int32)  (σ : fsS) (μ : fsL) (out : Int32 × fsS) (h : F_X3_put x1 x2 x3 σ = some out) : fs_Met yX3_put cX3_put 5 (some .int) { frames := 1, cells := 0, slots := 0, locals := 23 } [.ref 0, .int x1, .int x2, .int x3] σ μ (some (.int out.1)) out.2 μ := by
  unfold F_X3_put at h
  refine fs_intro (by decide +kernel) (Nat.le_of_ble_eq_true rfl) (fun X hX hR => ?_)
  show fs_PW X 0 [some (.ref 0), some (.int x1), some (.int x2), some (.int x3), none] [] σ μ
  refine s_iload_n hX dX3_put_0 rfl ?_
  refine s_callS hX (as := [.int x1]) dX3_put_1 k_X3_102 v_X3_isText (m_X3_isText x1 σ μ _ rfl) ⟨rfl, rfl⟩ ⟨(Nat.le_of_ble_eq_true rfl), (Nat.le_of_ble_eq_true rfl)⟩ rfl rfl (Nat.le_of_ble_eq_true rfl) ?_
  refine s_if_ne hX 9 dX3_put_4 (by decide) (fun c1 => ?_) (fun c1 => ?_)
  · have h := (if_neg c1).symm.trans h
    refine s_aload_n hX dX3_put_9 rfl ?_
    refine s_getr hX dX3_put_10 f_X3_18 rfl ?_
    refine s_iload_n hX dX3_put_13 rfl ?_
    obtain ⟨q2, e2, h⟩ := fs_bind h
    refine s_cV hX [.int x1] dX3_put_14 k_X3_82 v_X2_has (m_X2_has 2 x1 fs_H2 σ μ q2 e2) (fs_H_is fs_H2) fs_c2 ⟨rfl, rfl⟩ ⟨(Nat.le_of_ble_eq_true rfl), (Nat.le_of_ble_eq_true rfl)⟩ rfl rfl (Nat.le_of_ble_eq_true rfl) ?_
    refine s_if_ne hX 26 dX3_put_17 (by decide) (fun c3 => ?_) (fun c3 => ?_)
    · have h := (if_neg c3).symm.trans h
      refine s_aload_n hX dX3_put_26 rfl ?_
      refine s_getr hX dX3_put_27 f_X3_18 rfl ?_
      refine s_iload_n hX dX3_put_30 rfl ?_
      refine s_iload_n hX dX3_put_31 rfl ?_
      refine s_ic hX (1 : Int32) dX3_put_32 (by decide) ?_
      obtain ⟨q4, e4, h⟩ := fs_bind h
      refine s_cV hX [.int x1, .int x2, .int (1 : Int32)] dX3_put_33 k_X3_88 v_X2_reaches (m_X2_reaches 2 x1 x2 (1 : Int32) fs_H2 σ μ q4 e4) (fs_H_is fs_H2) fs_c2 ⟨rfl, rfl⟩ ⟨(Nat.le_of_ble_eq_true rfl), (Nat.le_of_ble_eq_true rfl)⟩ rfl rfl (Nat.le_of_ble_eq_true rfl) ?_
      refine s_if_ne hX 45 dX3_put_36 (by decide) (fun c5 => ?_) (fun c5 => ?_)
      · have h := (if_neg c5).symm.trans h
        refine s_aload_n hX dX3_put_45 rfl ?_
        refine s_getr hX dX3_put_46 f_X3_18 rfl ?_
        refine s_getr hX dX3_put_49 f_X3_75 rfl ?_
        refine s_iload_n hX dX3_put_52 rfl ?_
        obtain ⟨g6, h⟩ := fs_gd h
        refine s_aald hX dX3_put_53 g6 ?_
        refine s_iload_n hX dX3_put_54 rfl ?_
        obtain ⟨g7, h⟩ := fs_gd h
        refine s_iald hX dX3_put_55 g7 ?_
        refine s_istore hX dX3_put_56 (Nat.le_of_ble_eq_true rfl) ?_
        refine s_aload_n hX dX3_put_58 rfl ?_
        refine s_getr hX dX3_put_59 f_X3_18 rfl ?_
        refine s_getr hX dX3_put_62 f_X3_75 rfl ?_
        refine s_iload_n hX dX3_put_65 rfl ?_
        obtain ⟨g8, h⟩ := fs_gd h
        refine s_aald hX dX3_put_66 g8 ?_
        refine s_iload_n hX dX3_put_67 rfl ?_
        refine s_iload_n hX dX3_put_68 rfl ?_
        refine s_i2b hX dX3_put_69 ?_
        obtain ⟨g9, h⟩ := fs_gd h
        refine s_iast hX dX3_put_70 g9 ?_
        refine s_iload hX dX3_put_71 rfl ?_
        refine s_si hX (1000 : Int32) dX3_put_73 (by decide) ?_
        refine s_iadd hX dX3_put_76 ?_
        cases h
        exact s_iret hX hR dX3_put_77
      · have h := (if_pos c5).symm.trans h
        refine s_aload_n hX dX3_put_39 rfl ?_
        refine s_ic hX (2 : Int32) dX3_put_40 (by decide) ?_
        obtain ⟨q10, e10, h⟩ := fs_bind h
        refine s_cV hX [.int (2 : Int32)] dX3_put_41 k_X3_63 v_X3_refuse (m_X3_refuse (2 : Int32) σ μ q10 e10) ⟨_, rfl⟩ fs_c3 ⟨rfl, rfl⟩ ⟨(Nat.le_of_ble_eq_true rfl), (Nat.le_of_ble_eq_true rfl)⟩ rfl rfl (Nat.le_of_ble_eq_true rfl) ?_
        cases h
        exact s_iret hX hR dX3_put_44
    · have h := (if_pos c3).symm.trans h
      refine s_aload_n hX dX3_put_20 rfl ?_
      refine s_ic hX (1 : Int32) dX3_put_21 (by decide) ?_
      obtain ⟨q11, e11, h⟩ := fs_bind h
      refine s_cV hX [.int (1 : Int32)] dX3_put_22 k_X3_63 v_X3_refuse (m_X3_refuse (1 : Int32) σ μ q11 e11) ⟨_, rfl⟩ fs_c3 ⟨rfl, rfl⟩ ⟨(Nat.le_of_ble_eq_true rfl), (Nat.le_of_ble_eq_true rfl)⟩ rfl rfl (Nat.le_of_ble_eq_true rfl) ?_
      cases h
      exact s_iret hX hR dX3_put_25
  · have h := (if_pos c1).symm.trans h
    refine s_ic hX (-1 : Int32) dX3_put_7 (by decide) ?_
    cases h
    exact s_iret hX hR dX3_put_8

-- X3_fault
def F_X3_fault (x1 : Int32) (σ : fsS) : Option (Int32 × fsS) := if (F_X3_isText x1) = 0 then some ((-1 : Int32), σ) else (F_X2_has 2 x1 σ).bind (fun q2 => if q2 = 0 then (F_X3_refuse (1 : Int32) σ).bind (fun q7 => some (q7.1, q7.2)) else fs_g (fs_in x1 4) (fs_g (fs_in x1 4) ((F_X1_read 6 (44 + x1.toNatClampNeg) (σ 11 x1.toNatClampNeg) σ).bind (fun q6 => some (q6.1, q6.2)))))
set_option maxRecDepth 20000 in
set_option maxHeartbeats 4000000 in
theorem m_X3_fault (x1 : Int32)  (σ : fsS) (μ : fsL) (out : Int32 × fsS) (h : F_X3_fault x1 σ = some out) : fs_Met yX3_fault cX3_fault 2 (some .int) { frames := 3, cells := 0, slots := 0, locals := 69 } [.ref 0, .int x1] σ μ (some (.int out.1)) out.2 μ := by
  unfold F_X3_fault at h
  refine fs_intro (by decide +kernel) (Nat.le_of_ble_eq_true rfl) (fun X hX hR => ?_)
  show fs_PW X 0 [some (.ref 0), some (.int x1)] [] σ μ
  refine s_iload_n hX dX3_fault_0 rfl ?_
  refine s_callS hX (as := [.int x1]) dX3_fault_1 k_X3_102 v_X3_isText (m_X3_isText x1 σ μ _ rfl) ⟨rfl, rfl⟩ ⟨(Nat.le_of_ble_eq_true rfl), (Nat.le_of_ble_eq_true rfl)⟩ rfl rfl (Nat.le_of_ble_eq_true rfl) ?_
  refine s_if_ne hX 9 dX3_fault_4 (by decide) (fun c1 => ?_) (fun c1 => ?_)
  · have h := (if_neg c1).symm.trans h
    refine s_aload_n hX dX3_fault_9 rfl ?_
    refine s_getr hX dX3_fault_10 f_X3_18 rfl ?_
    refine s_iload_n hX dX3_fault_13 rfl ?_
    obtain ⟨q2, e2, h⟩ := fs_bind h
    refine s_cV hX [.int x1] dX3_fault_14 k_X3_82 v_X2_has (m_X2_has 2 x1 fs_H2 σ μ q2 e2) (fs_H_is fs_H2) fs_c2 ⟨rfl, rfl⟩ ⟨(Nat.le_of_ble_eq_true rfl), (Nat.le_of_ble_eq_true rfl)⟩ rfl rfl (Nat.le_of_ble_eq_true rfl) ?_
    refine s_if_ne hX 26 dX3_fault_17 (by decide) (fun c3 => ?_) (fun c3 => ?_)
    · have h := (if_neg c3).symm.trans h
      refine s_aload_n hX dX3_fault_26 rfl ?_
      refine s_getr hX dX3_fault_27 f_X3_31 rfl ?_
      refine s_aload_n hX dX3_fault_30 rfl ?_
      refine s_getr hX dX3_fault_31 f_X3_18 rfl ?_
      refine s_getr hX dX3_fault_34 f_X3_75 rfl ?_
      refine s_iload_n hX dX3_fault_37 rfl ?_
      obtain ⟨g4, h⟩ := fs_gd h
      refine s_aald hX dX3_fault_38 g4 ?_
      refine s_aload_n hX dX3_fault_39 rfl ?_
      refine s_getr hX dX3_fault_40 f_X3_18 rfl ?_
      refine s_getr hX dX3_fault_43 f_X3_85 rfl ?_
      refine s_iload_n hX dX3_fault_46 rfl ?_
      obtain ⟨g5, h⟩ := fs_gd h
      refine s_iald hX dX3_fault_47 g5 ?_
      obtain ⟨q6, e6, h⟩ := fs_bind h
      refine s_cV hX [.ref (44 + x1.toNatClampNeg), .int (σ 11 x1.toNatClampNeg)] dX3_fault_48 k_X3_105 v_X1_read (m_X1_read 6 (44 + x1.toNatClampNeg) (σ 11 x1.toNatClampNeg) fs_K6 σ μ q6 e6) (fs_K_is fs_K6) fs_c1 ⟨rfl, rfl⟩ ⟨(Nat.le_of_ble_eq_true rfl), (Nat.le_of_ble_eq_true rfl)⟩ rfl rfl (Nat.le_of_ble_eq_true rfl) ?_
      cases h
      exact s_iret hX hR dX3_fault_51
    · have h := (if_pos c3).symm.trans h
      refine s_aload_n hX dX3_fault_20 rfl ?_
      refine s_ic hX (1 : Int32) dX3_fault_21 (by decide) ?_
      obtain ⟨q7, e7, h⟩ := fs_bind h
      refine s_cV hX [.int (1 : Int32)] dX3_fault_22 k_X3_63 v_X3_refuse (m_X3_refuse (1 : Int32) σ μ q7 e7) ⟨_, rfl⟩ fs_c3 ⟨rfl, rfl⟩ ⟨(Nat.le_of_ble_eq_true rfl), (Nat.le_of_ble_eq_true rfl)⟩ rfl rfl (Nat.le_of_ble_eq_true rfl) ?_
      cases h
      exact s_iret hX hR dX3_fault_25
  · have h := (if_pos c1).symm.trans h
    refine s_ic hX (-1 : Int32) dX3_fault_7 (by decide) ?_
    cases h
    exact s_iret hX hR dX3_fault_8

-- X3_house
def F_X3_house (x1 : Int32) (σ : fsS) : Option (Int32 × fsS) := if (F_X3_isText x1) = 0 then some ((-1 : Int32), σ) else (F_X2_has 2 x1 σ).bind (fun q2 => if q2 = 0 then (F_X3_refuse (1 : Int32) σ).bind (fun q9 => some (q9.1, q9.2)) else fs_g (fs_in x1 4) (fs_g (fs_in x1 4) ((F_X1_read 6 (44 + x1.toNatClampNeg) (σ 11 x1.toNatClampNeg) σ).bind (fun q6 => if q6.1 = (-9 : Int32) then (F_X0_found 6 q6.2).bind (fun q8 => some ((q8 5 0), q8)) else some ((-4 : Int32), q6.2)))))
set_option maxRecDepth 20000 in
set_option maxHeartbeats 4000000 in
theorem m_X3_house (x1 : Int32)  (σ : fsS) (μ : fsL) (out : Int32 × fsS) (h : F_X3_house x1 σ = some out) : fs_Met yX3_house cX3_house 2 (some .int) { frames := 6, cells := 0, slots := 0, locals := 137 } [.ref 0, .int x1] σ μ (some (.int out.1)) out.2 μ := by
  unfold F_X3_house at h
  refine fs_intro (by decide +kernel) (Nat.le_of_ble_eq_true rfl) (fun X hX hR => ?_)
  show fs_PW X 0 [some (.ref 0), some (.int x1)] [] σ μ
  refine s_iload_n hX dX3_house_0 rfl ?_
  refine s_callS hX (as := [.int x1]) dX3_house_1 k_X3_102 v_X3_isText (m_X3_isText x1 σ μ _ rfl) ⟨rfl, rfl⟩ ⟨(Nat.le_of_ble_eq_true rfl), (Nat.le_of_ble_eq_true rfl)⟩ rfl rfl (Nat.le_of_ble_eq_true rfl) ?_
  refine s_if_ne hX 9 dX3_house_4 (by decide) (fun c1 => ?_) (fun c1 => ?_)
  · have h := (if_neg c1).symm.trans h
    refine s_aload_n hX dX3_house_9 rfl ?_
    refine s_getr hX dX3_house_10 f_X3_18 rfl ?_
    refine s_iload_n hX dX3_house_13 rfl ?_
    obtain ⟨q2, e2, h⟩ := fs_bind h
    refine s_cV hX [.int x1] dX3_house_14 k_X3_82 v_X2_has (m_X2_has 2 x1 fs_H2 σ μ q2 e2) (fs_H_is fs_H2) fs_c2 ⟨rfl, rfl⟩ ⟨(Nat.le_of_ble_eq_true rfl), (Nat.le_of_ble_eq_true rfl)⟩ rfl rfl (Nat.le_of_ble_eq_true rfl) ?_
    refine s_if_ne hX 26 dX3_house_17 (by decide) (fun c3 => ?_) (fun c3 => ?_)
    · have h := (if_neg c3).symm.trans h
      refine s_aload_n hX dX3_house_26 rfl ?_
      refine s_getr hX dX3_house_27 f_X3_31 rfl ?_
      refine s_aload_n hX dX3_house_30 rfl ?_
      refine s_getr hX dX3_house_31 f_X3_18 rfl ?_
      refine s_getr hX dX3_house_34 f_X3_75 rfl ?_
      refine s_iload_n hX dX3_house_37 rfl ?_
      obtain ⟨g4, h⟩ := fs_gd h
      refine s_aald hX dX3_house_38 g4 ?_
      refine s_aload_n hX dX3_house_39 rfl ?_
      refine s_getr hX dX3_house_40 f_X3_18 rfl ?_
      refine s_getr hX dX3_house_43 f_X3_85 rfl ?_
      refine s_iload_n hX dX3_house_46 rfl ?_
      obtain ⟨g5, h⟩ := fs_gd h
      refine s_iald hX dX3_house_47 g5 ?_
      obtain ⟨q6, e6, h⟩ := fs_bind h
      refine s_cV hX [.ref (44 + x1.toNatClampNeg), .int (σ 11 x1.toNatClampNeg)] dX3_house_48 k_X3_105 v_X1_read (m_X1_read 6 (44 + x1.toNatClampNeg) (σ 11 x1.toNatClampNeg) fs_K6 σ μ q6 e6) (fs_K_is fs_K6) fs_c1 ⟨rfl, rfl⟩ ⟨(Nat.le_of_ble_eq_true rfl), (Nat.le_of_ble_eq_true rfl)⟩ rfl rfl (Nat.le_of_ble_eq_true rfl) ?_
      refine s_bi hX (-9 : Int32) dX3_house_51 (by decide) ?_
      refine s_ic_eq hX 59 dX3_house_53 (by decide) (fun c7 => ?_) (fun c7 => ?_)
      · have h := (if_pos c7).symm.trans h
        refine s_aload_n hX dX3_house_59 rfl ?_
        refine s_getr hX dX3_house_60 f_X3_24 rfl ?_
        refine s_aload_n hX dX3_house_63 rfl ?_
        refine s_getr hX dX3_house_64 f_X3_31 rfl ?_
        obtain ⟨q8, e8, h⟩ := fs_bind h
        refine s_cV hX [.ref 6] dX3_house_67 k_X3_109 v_X0_found (m_X0_found 6 fs_K6 q6.2 μ q8 e8) ⟨_, rfl⟩ fs_c0 ⟨rfl, rfl⟩ ⟨(Nat.le_of_ble_eq_true rfl), (Nat.le_of_ble_eq_true rfl)⟩ rfl rfl (Nat.le_of_ble_eq_true rfl) ?_
        refine s_aload_n hX dX3_house_70 rfl ?_
        refine s_getr hX dX3_house_71 f_X3_24 rfl ?_
        refine s_getr hX dX3_house_74 f_X3_113 rfl ?_
        refine s_geti hX dX3_house_77 f_X3_116 rfl ?_
        cases h
        exact s_iret hX hR dX3_house_80
      · have h := (if_neg c7).symm.trans h
        refine s_bi hX (-4 : Int32) dX3_house_56 (by decide) ?_
        cases h
        exact s_iret hX hR dX3_house_58
    · have h := (if_pos c3).symm.trans h
      refine s_aload_n hX dX3_house_20 rfl ?_
      refine s_ic hX (1 : Int32) dX3_house_21 (by decide) ?_
      obtain ⟨q9, e9, h⟩ := fs_bind h
      refine s_cV hX [.int (1 : Int32)] dX3_house_22 k_X3_63 v_X3_refuse (m_X3_refuse (1 : Int32) σ μ q9 e9) ⟨_, rfl⟩ fs_c3 ⟨rfl, rfl⟩ ⟨(Nat.le_of_ble_eq_true rfl), (Nat.le_of_ble_eq_true rfl)⟩ rfl rfl (Nat.le_of_ble_eq_true rfl) ?_
      cases h
      exact s_iret hX hR dX3_house_25
  · have h := (if_pos c1).symm.trans h
    refine s_ic hX (-1 : Int32) dX3_house_7 (by decide) ?_
    cases h
    exact s_iret hX hR dX3_house_8

-- X3_isKin
def F_X3_isKin (x1 : Int32) (σ : fsS) : Int32 := if x1 < 0 then (0 : Int32) else if (σ 5 0) ≤ x1 then (0 : Int32) else (1 : Int32)
theorem z_X3_isKin (x1 : Int32) (σ : fsS) : F_X3_isKin x1 σ = 0 ∨ F_X3_isKin x1 σ = 1 := by
  unfold F_X3_isKin
  (repeat' split) <;> first | exact Or.inl rfl | exact Or.inr rfl
set_option maxRecDepth 20000 in
set_option maxHeartbeats 4000000 in
theorem m_X3_isKin (x1 : Int32)  (σ : fsS) (μ : fsL) (out : Int32) (h : F_X3_isKin x1 σ = out) : fs_Met yX3_isKin cX3_isKin 2 (some .boolean) { frames := 0, cells := 0, slots := 0, locals := 0 } [.ref 0, .int x1] σ μ (some (.int out)) σ μ := by
  unfold F_X3_isKin at h
  refine fs_intro (by decide +kernel) (Nat.le_of_ble_eq_true rfl) (fun X hX hR => ?_)
  show fs_PW X 0 [some (.ref 0), some (.int x1)] [] σ μ
  refine s_iload_n hX dX3_isKin_0 rfl ?_
  refine s_if_lt hX 22 dX3_isKin_1 (by decide) (fun c1 => ?_) (fun c1 => ?_)
  · have h := (if_pos c1).symm.trans h
    refine s_ic hX (0 : Int32) dX3_isKin_22 (by decide) ?_
    subst h
    exact s_zret hX (Or.inl rfl) hR dX3_isKin_23
  · have h := (if_neg c1).symm.trans h
    refine s_iload_n hX dX3_isKin_4 rfl ?_
    refine s_aload_n hX dX3_isKin_5 rfl ?_
    refine s_getr hX dX3_isKin_6 f_X3_24 rfl ?_
    refine s_getr hX dX3_isKin_9 f_X3_113 rfl ?_
    refine s_geti hX dX3_isKin_12 f_X3_116 rfl ?_
    refine s_ic_ge hX 22 dX3_isKin_15 (by decide) (fun c2 => ?_) (fun c2 => ?_)
    · have h := (if_pos c2).symm.trans h
      refine s_ic hX (0 : Int32) dX3_isKin_22 (by decide) ?_
      subst h
      exact s_zret hX (Or.inl rfl) hR dX3_isKin_23
    · have h := (if_neg c2).symm.trans h
      refine s_ic hX (1 : Int32) dX3_isKin_18 (by decide) ?_
      refine s_goto hX 23 dX3_isKin_19 (by decide) ?_
      subst h
      exact s_zret hX (Or.inr rfl) hR dX3_isKin_23

-- X3_ofOne
def F_X3_ofOne (x1 : Int32) (x2 : Int32) (σ : fsS) : Option (Int32 × fsS) := (F_X1_weigh 5 σ).bind (fun q1 => if x2 = (0 : Int32) then fs_g (fs_in x1 6) (some ((q1 21 x1.toNatClampNeg), q1)) else if x2 = (1 : Int32) then fs_g (fs_in x1 6) (some ((q1 22 x1.toNatClampNeg), q1)) else if x2 = (2 : Int32) then fs_g (fs_in x1 6) (some ((q1 23 x1.toNatClampNeg), q1)) else if x2 = (3 : Int32) then fs_g (fs_in x1 6) (some ((q1 24 x1.toNatClampNeg), q1)) else if x2 = (4 : Int32) then fs_g (fs_in x1 6) (some ((q1 25 x1.toNatClampNeg), q1)) else if x2 = (5 : Int32) then fs_g (fs_in x1 6) (some ((q1 26 x1.toNatClampNeg), q1)) else fs_g (fs_in x1 6) (some ((q1 27 x1.toNatClampNeg), q1)))
set_option maxRecDepth 20000 in
set_option maxHeartbeats 4000000 in
theorem m_X3_ofOne (x1 : Int32) (x2 : Int32)  (σ : fsS) (μ : fsL) (out : Int32 × fsS) (h : F_X3_ofOne x1 x2 σ = some out) : fs_Met yX3_ofOne cX3_ofOne 4 (some .int) { frames := 2, cells := 0, slots := 0, locals := 47 } [.ref 0, .int x1, .int x2] σ μ (some (.int out.1)) out.2 μ := by
  unfold F_X3_ofOne at h
  refine fs_intro (by decide +kernel) (Nat.le_of_ble_eq_true rfl) (fun X hX hR => ?_)
  show fs_PW X 0 [some (.ref 0), some (.int x1), some (.int x2), none] [] σ μ
  refine s_aload_n hX dX3_ofOne_0 rfl ?_
  refine s_getr hX dX3_ofOne_1 f_X3_24 rfl ?_
  refine s_getr hX dX3_ofOne_4 f_X3_113 rfl ?_
  refine s_astore_n hX dX3_ofOne_7 (Nat.le_of_ble_eq_true rfl) ?_
  refine s_aload_n hX dX3_ofOne_8 rfl ?_
  obtain ⟨q1, e1, h⟩ := fs_bind h
  refine s_cV hX [] dX3_ofOne_9 k_X3_197 v_X1_weigh (m_X1_weigh 5 fs_K5 σ μ q1 e1) (fs_K_is fs_K5) fs_c1 ⟨rfl, rfl⟩ ⟨(Nat.le_of_ble_eq_true rfl), (Nat.le_of_ble_eq_true rfl)⟩ rfl rfl (Nat.le_of_ble_eq_true rfl) ?_
  refine s_iload_n hX dX3_ofOne_12 rfl ?_
  by_cases c2 : x2 = (0 : Int32)
  · have h := (if_pos c2).symm.trans h
    refine s_tabK hX 52 (0 : Int32) c2 dX3_ofOne_13 (by decide) (by decide) rfl (by decide) ?_
    refine s_aload_n hX dX3_ofOne_52 rfl ?_
    refine s_getr hX dX3_ofOne_53 f_X3_125 rfl ?_
    refine s_iload_n hX dX3_ofOne_56 rfl ?_
    obtain ⟨g3, h⟩ := fs_gd h
    refine s_iald hX dX3_ofOne_57 g3 ?_
    cases h
    exact s_iret hX hR dX3_ofOne_58
  · have h := (if_neg c2).symm.trans h
    by_cases c4 : x2 = (1 : Int32)
    · have h := (if_pos c4).symm.trans h
      refine s_tabK hX 59 (1 : Int32) c4 dX3_ofOne_13 (by decide) (by decide) rfl (by decide) ?_
      refine s_aload_n hX dX3_ofOne_59 rfl ?_
      refine s_getr hX dX3_ofOne_60 f_X3_143 rfl ?_
      refine s_iload_n hX dX3_ofOne_63 rfl ?_
      obtain ⟨g5, h⟩ := fs_gd h
      refine s_iald hX dX3_ofOne_64 g5 ?_
      cases h
      exact s_iret hX hR dX3_ofOne_65
    · have h := (if_neg c4).symm.trans h
      by_cases c6 : x2 = (2 : Int32)
      · have h := (if_pos c6).symm.trans h
        refine s_tabK hX 66 (2 : Int32) c6 dX3_ofOne_13 (by decide) (by decide) rfl (by decide) ?_
        refine s_aload_n hX dX3_ofOne_66 rfl ?_
        refine s_getr hX dX3_ofOne_67 f_X3_299 rfl ?_
        refine s_iload_n hX dX3_ofOne_70 rfl ?_
        obtain ⟨g7, h⟩ := fs_gd h
        refine s_iald hX dX3_ofOne_71 g7 ?_
        cases h
        exact s_iret hX hR dX3_ofOne_72
      · have h := (if_neg c6).symm.trans h
        by_cases c8 : x2 = (3 : Int32)
        · have h := (if_pos c8).symm.trans h
          refine s_tabK hX 73 (3 : Int32) c8 dX3_ofOne_13 (by decide) (by decide) rfl (by decide) ?_
          refine s_aload_n hX dX3_ofOne_73 rfl ?_
          refine s_getr hX dX3_ofOne_74 f_X3_176 rfl ?_
          refine s_iload_n hX dX3_ofOne_77 rfl ?_
          obtain ⟨g9, h⟩ := fs_gd h
          refine s_iald hX dX3_ofOne_78 g9 ?_
          cases h
          exact s_iret hX hR dX3_ofOne_79
        · have h := (if_neg c8).symm.trans h
          by_cases c10 : x2 = (4 : Int32)
          · have h := (if_pos c10).symm.trans h
            refine s_tabK hX 80 (4 : Int32) c10 dX3_ofOne_13 (by decide) (by decide) rfl (by decide) ?_
            refine s_aload_n hX dX3_ofOne_80 rfl ?_
            refine s_getr hX dX3_ofOne_81 f_X3_170 rfl ?_
            refine s_iload_n hX dX3_ofOne_84 rfl ?_
            obtain ⟨g11, h⟩ := fs_gd h
            refine s_iald hX dX3_ofOne_85 g11 ?_
            cases h
            exact s_iret hX hR dX3_ofOne_86
          · have h := (if_neg c10).symm.trans h
            by_cases c12 : x2 = (5 : Int32)
            · have h := (if_pos c12).symm.trans h
              refine s_tabK hX 87 (5 : Int32) c12 dX3_ofOne_13 (by decide) (by decide) rfl (by decide) ?_
              refine s_aload_n hX dX3_ofOne_87 rfl ?_
              refine s_getr hX dX3_ofOne_88 f_X3_302 rfl ?_
              refine s_iload_n hX dX3_ofOne_91 rfl ?_
              obtain ⟨g13, h⟩ := fs_gd h
              refine s_iald hX dX3_ofOne_92 g13 ?_
              cases h
              exact s_iret hX hR dX3_ofOne_93
            · have h := (if_neg c12).symm.trans h
              have wc2 := fs_ne (z := 0) c2 (by decide)
              have wc4 := fs_ne (z := 1) c4 (by decide)
              have wc6 := fs_ne (z := 2) c6 (by decide)
              have wc8 := fs_ne (z := 3) c8 (by decide)
              have wc10 := fs_ne (z := 4) c10 (by decide)
              have wc12 := fs_ne (z := 5) c12 (by decide)
              refine s_tabOut hX 94 dX3_ofOne_13 (by omega) (by decide) ?_
              refine s_aload_n hX dX3_ofOne_94 rfl ?_
              refine s_getr hX dX3_ofOne_95 f_X3_209 rfl ?_
              refine s_iload_n hX dX3_ofOne_98 rfl ?_
              obtain ⟨g14, h⟩ := fs_gd h
              refine s_iald hX dX3_ofOne_99 g14 ?_
              cases h
              exact s_iret hX hR dX3_ofOne_100

-- X3_one
def F_X3_one (x1 : Int32) (x2 : Int32) (σ : fsS) : Option (Int32 × fsS) := if (F_X3_isKin x1 σ) = 0 then some ((-1 : Int32), σ) else if x2 < 0 then some ((-1 : Int32), σ) else if x2 ≤ (6 : Int32) then (F_X3_ofOne x1 x2 σ).bind (fun q4 => some ((F_X3_tell q4.1 (1 : Int32) q4.2).1, (F_X3_tell q4.1 (1 : Int32) q4.2).2)) else some ((-1 : Int32), σ)
set_option maxRecDepth 20000 in
set_option maxHeartbeats 4000000 in
theorem m_X3_one (x1 : Int32) (x2 : Int32)  (σ : fsS) (μ : fsL) (out : Int32 × fsS) (h : F_X3_one x1 x2 σ = some out) : fs_Met yX3_one cX3_one 3 (some .int) { frames := 3, cells := 0, slots := 0, locals := 70 } [.ref 0, .int x1, .int x2] σ μ (some (.int out.1)) out.2 μ := by
  unfold F_X3_one at h
  refine fs_intro (by decide +kernel) (Nat.le_of_ble_eq_true rfl) (fun X hX hR => ?_)
  show fs_PW X 0 [some (.ref 0), some (.int x1), some (.int x2)] [] σ μ
  refine s_aload_n hX dX3_one_0 rfl ?_
  refine s_iload_n hX dX3_one_1 rfl ?_
  refine s_cV hX [.int x1] dX3_one_2 k_X3_119 v_X3_isKin (m_X3_isKin x1 σ μ _ rfl) ⟨_, rfl⟩ fs_c3 ⟨rfl, rfl⟩ ⟨(Nat.le_of_ble_eq_true rfl), (Nat.le_of_ble_eq_true rfl)⟩ rfl rfl (Nat.le_of_ble_eq_true rfl) ?_
  refine s_if_eq hX 18 dX3_one_5 (by decide) (fun c1 => ?_) (fun c1 => ?_)
  · have h := (if_pos c1).symm.trans h
    refine s_ic hX (-1 : Int32) dX3_one_18 (by decide) ?_
    cases h
    exact s_iret hX hR dX3_one_19
  · have h := (if_neg c1).symm.trans h
    refine s_iload_n hX dX3_one_8 rfl ?_
    refine s_if_lt hX 18 dX3_one_9 (by decide) (fun c2 => ?_) (fun c2 => ?_)
    · have h := (if_pos c2).symm.trans h
      refine s_ic hX (-1 : Int32) dX3_one_18 (by decide) ?_
      cases h
      exact s_iret hX hR dX3_one_19
    · have h := (if_neg c2).symm.trans h
      refine s_iload_n hX dX3_one_12 rfl ?_
      refine s_bi hX (6 : Int32) dX3_one_13 (by decide) ?_
      refine s_ic_le hX 20 dX3_one_15 (by decide) (fun c3 => ?_) (fun c3 => ?_)
      · have h := (if_pos c3).symm.trans h
        refine s_aload_n hX dX3_one_20 rfl ?_
        refine s_aload_n hX dX3_one_21 rfl ?_
        refine s_iload_n hX dX3_one_22 rfl ?_
        refine s_iload_n hX dX3_one_23 rfl ?_
        obtain ⟨q4, e4, h⟩ := fs_bind h
        refine s_cV hX [.int x1, .int x2] dX3_one_24 k_X3_122 v_X3_ofOne (m_X3_ofOne x1 x2 σ μ q4 e4) ⟨_, rfl⟩ fs_c3 ⟨rfl, rfl⟩ ⟨(Nat.le_of_ble_eq_true rfl), (Nat.le_of_ble_eq_true rfl)⟩ rfl rfl (Nat.le_of_ble_eq_true rfl) ?_
        refine s_ic hX (1 : Int32) dX3_one_27 (by decide) ?_
        refine s_cV hX [.int q4.1, .int (1 : Int32)] dX3_one_28 k_X3_79 v_X3_tell (m_X3_tell q4.1 (1 : Int32) q4.2 μ _ rfl) ⟨_, rfl⟩ fs_c3 ⟨rfl, rfl⟩ ⟨(Nat.le_of_ble_eq_true rfl), (Nat.le_of_ble_eq_true rfl)⟩ rfl rfl (Nat.le_of_ble_eq_true rfl) ?_
        cases h
        exact s_iret hX hR dX3_one_31
      · have h := (if_neg c3).symm.trans h
        refine s_ic hX (-1 : Int32) dX3_one_18 (by decide) ?_
        cases h
        exact s_iret hX hR dX3_one_19

-- X3_mark
def F_X3_mark (x1 : Int32) (x2 : Int32) (σ : fsS) : Option (Int32 × fsS) := if (F_X3_isKin x1 σ) = 0 then some ((-1 : Int32), σ) else if x2 ≤ 0 then some ((-1 : Int32), σ) else if x2 < (6 : Int32) then fs_g (fs_in x1 6) (if (F_X1_isOf (σ 21 x1.toNatClampNeg) x2) = 0 then (F_X3_refuse (3 : Int32) σ).bind (fun q9 => some (q9.1, q9.2)) else fs_g (fs_in x1 6) ((F_X1_regardAs 5 x1 (σ 21 x1.toNatClampNeg) σ).bind (fun q7 => (F_X1_regardAs 5 x1 (F_X1_kindAbove x2) σ).bind (fun q8 => some ((if 0 ≤ (q7 - q8) then (q7 - q8) else 0 - (q7 - q8)), σ))))) else some ((-1 : Int32), σ)
set_option maxRecDepth 20000 in
set_option maxHeartbeats 4000000 in
theorem m_X3_mark (x1 : Int32) (x2 : Int32)  (σ : fsS) (μ : fsL) (out : Int32 × fsS) (h : F_X3_mark x1 x2 σ = some out) : fs_Met yX3_mark cX3_mark 4 (some .int) { frames := 2, cells := 0, slots := 0, locals := 48 } [.ref 0, .int x1, .int x2] σ μ (some (.int out.1)) out.2 μ := by
  unfold F_X3_mark at h
  refine fs_intro (by decide +kernel) (Nat.le_of_ble_eq_true rfl) (fun X hX hR => ?_)
  show fs_PW X 0 [some (.ref 0), some (.int x1), some (.int x2), none] [] σ μ
  refine s_aload_n hX dX3_mark_0 rfl ?_
  refine s_iload_n hX dX3_mark_1 rfl ?_
  refine s_cV hX [.int x1] dX3_mark_2 k_X3_119 v_X3_isKin (m_X3_isKin x1 σ μ _ rfl) ⟨_, rfl⟩ fs_c3 ⟨rfl, rfl⟩ ⟨(Nat.le_of_ble_eq_true rfl), (Nat.le_of_ble_eq_true rfl)⟩ rfl rfl (Nat.le_of_ble_eq_true rfl) ?_
  refine s_if_eq hX 18 dX3_mark_5 (by decide) (fun c1 => ?_) (fun c1 => ?_)
  · have h := (if_pos c1).symm.trans h
    refine s_ic hX (-1 : Int32) dX3_mark_18 (by decide) ?_
    cases h
    exact s_iret hX hR dX3_mark_19
  · have h := (if_neg c1).symm.trans h
    refine s_iload_n hX dX3_mark_8 rfl ?_
    refine s_if_le hX 18 dX3_mark_9 (by decide) (fun c2 => ?_) (fun c2 => ?_)
    · have h := (if_pos c2).symm.trans h
      refine s_ic hX (-1 : Int32) dX3_mark_18 (by decide) ?_
      cases h
      exact s_iret hX hR dX3_mark_19
    · have h := (if_neg c2).symm.trans h
      refine s_iload_n hX dX3_mark_12 rfl ?_
      refine s_bi hX (6 : Int32) dX3_mark_13 (by decide) ?_
      refine s_ic_lt hX 20 dX3_mark_15 (by decide) (fun c3 => ?_) (fun c3 => ?_)
      · have h := (if_pos c3).symm.trans h
        refine s_aload_n hX dX3_mark_20 rfl ?_
        refine s_getr hX dX3_mark_21 f_X3_24 rfl ?_
        refine s_getr hX dX3_mark_24 f_X3_113 rfl ?_
        refine s_getr hX dX3_mark_27 f_X3_125 rfl ?_
        refine s_iload_n hX dX3_mark_30 rfl ?_
        obtain ⟨g4, h⟩ := fs_gd h
        refine s_iald hX dX3_mark_31 g4 ?_
        refine s_iload_n hX dX3_mark_32 rfl ?_
        refine s_callS hX (as := [.int (σ 21 x1.toNatClampNeg), .int x2]) dX3_mark_33 k_X3_128 v_X1_isOf (m_X1_isOf (σ 21 x1.toNatClampNeg) x2 σ μ _ rfl) ⟨rfl, rfl⟩ ⟨(Nat.le_of_ble_eq_true rfl), (Nat.le_of_ble_eq_true rfl)⟩ rfl rfl (Nat.le_of_ble_eq_true rfl) ?_
        refine s_if_ne hX 45 dX3_mark_36 (by decide) (fun c5 => ?_) (fun c5 => ?_)
        · have h := (if_neg c5).symm.trans h
          refine s_aload_n hX dX3_mark_45 rfl ?_
          refine s_getr hX dX3_mark_46 f_X3_24 rfl ?_
          refine s_getr hX dX3_mark_49 f_X3_113 rfl ?_
          refine s_iload_n hX dX3_mark_52 rfl ?_
          refine s_aload_n hX dX3_mark_53 rfl ?_
          refine s_getr hX dX3_mark_54 f_X3_24 rfl ?_
          refine s_getr hX dX3_mark_57 f_X3_113 rfl ?_
          refine s_getr hX dX3_mark_60 f_X3_125 rfl ?_
          refine s_iload_n hX dX3_mark_63 rfl ?_
          obtain ⟨g6, h⟩ := fs_gd h
          refine s_iald hX dX3_mark_64 g6 ?_
          obtain ⟨q7, e7, h⟩ := fs_bind h
          refine s_cV hX [.int x1, .int (σ 21 x1.toNatClampNeg)] dX3_mark_65 k_X3_132 v_X1_regardAs (m_X1_regardAs 5 x1 (σ 21 x1.toNatClampNeg) fs_K5 σ μ q7 e7) (fs_K_is fs_K5) fs_c1 ⟨rfl, rfl⟩ ⟨(Nat.le_of_ble_eq_true rfl), (Nat.le_of_ble_eq_true rfl)⟩ rfl rfl (Nat.le_of_ble_eq_true rfl) ?_
          refine s_istore_n hX dX3_mark_68 (Nat.le_of_ble_eq_true rfl) ?_
          refine s_iload_n hX dX3_mark_69 rfl ?_
          refine s_aload_n hX dX3_mark_70 rfl ?_
          refine s_getr hX dX3_mark_71 f_X3_24 rfl ?_
          refine s_getr hX dX3_mark_74 f_X3_113 rfl ?_
          refine s_iload_n hX dX3_mark_77 rfl ?_
          refine s_iload_n hX dX3_mark_78 rfl ?_
          refine s_callS hX (as := [.int x2]) dX3_mark_79 k_X3_135 v_X1_kindAbove (m_X1_kindAbove x2 σ μ _ rfl) ⟨rfl, rfl⟩ ⟨(Nat.le_of_ble_eq_true rfl), (Nat.le_of_ble_eq_true rfl)⟩ rfl rfl (Nat.le_of_ble_eq_true rfl) ?_
          obtain ⟨q8, e8, h⟩ := fs_bind h
          refine s_cV hX [.int x1, .int (F_X1_kindAbove x2)] dX3_mark_82 k_X3_132 v_X1_regardAs (m_X1_regardAs 5 x1 (F_X1_kindAbove x2) fs_K5 σ μ q8 e8) (fs_K_is fs_K5) fs_c1 ⟨rfl, rfl⟩ ⟨(Nat.le_of_ble_eq_true rfl), (Nat.le_of_ble_eq_true rfl)⟩ rfl rfl (Nat.le_of_ble_eq_true rfl) ?_
          refine s_isub hX dX3_mark_85 ?_
          refine s_mabs hX dX3_mark_86 k_X3_138 rfl (Nat.le_of_ble_eq_true rfl) (Nat.le_of_ble_eq_true rfl) ?_
          cases h
          exact s_iret hX hR dX3_mark_89
        · have h := (if_pos c5).symm.trans h
          refine s_aload_n hX dX3_mark_39 rfl ?_
          refine s_ic hX (3 : Int32) dX3_mark_40 (by decide) ?_
          obtain ⟨q9, e9, h⟩ := fs_bind h
          refine s_cV hX [.int (3 : Int32)] dX3_mark_41 k_X3_63 v_X3_refuse (m_X3_refuse (3 : Int32) σ μ q9 e9) ⟨_, rfl⟩ fs_c3 ⟨rfl, rfl⟩ ⟨(Nat.le_of_ble_eq_true rfl), (Nat.le_of_ble_eq_true rfl)⟩ rfl rfl (Nat.le_of_ble_eq_true rfl) ?_
          cases h
          exact s_iret hX hR dX3_mark_44
      · have h := (if_neg c3).symm.trans h
        refine s_ic hX (-1 : Int32) dX3_mark_18 (by decide) ?_
        cases h
        exact s_iret hX hR dX3_mark_19

-- X3_regard
def F_X3_regard (x1 : Int32) (x2 : Int32) (x3 : Int32) (σ : fsS) : Option (Int32) := if (F_X3_isKin x1 σ) = 0 then some (-1 : Int32) else if x2 < 0 then some (-1 : Int32) else if (3 : Int32) < x2 then some (-1 : Int32) else if x3 < 0 then some (-1 : Int32) else if x3 ≤ (99 : Int32) then fs_g (fs_in x1 6) (fs_g (fs_in x1 6) (some (F_X1_regardOf (σ 21 x1.toNatClampNeg) (σ 22 x1.toNatClampNeg) x2 x3))) else some (-1 : Int32)
set_option maxRecDepth 20000 in
set_option maxHeartbeats 4000000 in
theorem m_X3_regard (x1 : Int32) (x2 : Int32) (x3 : Int32)  (σ : fsS) (μ : fsL) (out : Int32) (h : F_X3_regard x1 x2 x3 σ = some out) : fs_Met yX3_regard cX3_regard 4 (some .int) { frames := 1, cells := 0, slots := 0, locals := 26 } [.ref 0, .int x1, .int x2, .int x3] σ μ (some (.int out)) σ μ := by
  unfold F_X3_regard at h
  refine fs_intro (by decide +kernel) (Nat.le_of_ble_eq_true rfl) (fun X hX hR => ?_)
  show fs_PW X 0 [some (.ref 0), some (.int x1), some (.int x2), some (.int x3)] [] σ μ
  refine s_aload_n hX dX3_regard_0 rfl ?_
  refine s_iload_n hX dX3_regard_1 rfl ?_
  refine s_cV hX [.int x1] dX3_regard_2 k_X3_119 v_X3_isKin (m_X3_isKin x1 σ μ _ rfl) ⟨_, rfl⟩ fs_c3 ⟨rfl, rfl⟩ ⟨(Nat.le_of_ble_eq_true rfl), (Nat.le_of_ble_eq_true rfl)⟩ rfl rfl (Nat.le_of_ble_eq_true rfl) ?_
  refine s_if_eq hX 27 dX3_regard_5 (by decide) (fun c1 => ?_) (fun c1 => ?_)
  · have h := (if_pos c1).symm.trans h
    refine s_ic hX (-1 : Int32) dX3_regard_27 (by decide) ?_
    cases h
    exact s_iret hX hR dX3_regard_28
  · have h := (if_neg c1).symm.trans h
    refine s_iload_n hX dX3_regard_8 rfl ?_
    refine s_if_lt hX 27 dX3_regard_9 (by decide) (fun c2 => ?_) (fun c2 => ?_)
    · have h := (if_pos c2).symm.trans h
      refine s_ic hX (-1 : Int32) dX3_regard_27 (by decide) ?_
      cases h
      exact s_iret hX hR dX3_regard_28
    · have h := (if_neg c2).symm.trans h
      refine s_iload_n hX dX3_regard_12 rfl ?_
      refine s_ic hX (3 : Int32) dX3_regard_13 (by decide) ?_
      refine s_ic_gt hX 27 dX3_regard_14 (by decide) (fun c3 => ?_) (fun c3 => ?_)
      · have h := (if_pos c3).symm.trans h
        refine s_ic hX (-1 : Int32) dX3_regard_27 (by decide) ?_
        cases h
        exact s_iret hX hR dX3_regard_28
      · have h := (if_neg c3).symm.trans h
        refine s_iload_n hX dX3_regard_17 rfl ?_
        refine s_if_lt hX 27 dX3_regard_18 (by decide) (fun c4 => ?_) (fun c4 => ?_)
        · have h := (if_pos c4).symm.trans h
          refine s_ic hX (-1 : Int32) dX3_regard_27 (by decide) ?_
          cases h
          exact s_iret hX hR dX3_regard_28
        · have h := (if_neg c4).symm.trans h
          refine s_iload_n hX dX3_regard_21 rfl ?_
          refine s_bi hX (99 : Int32) dX3_regard_22 (by decide) ?_
          refine s_ic_le hX 29 dX3_regard_24 (by decide) (fun c5 => ?_) (fun c5 => ?_)
          · have h := (if_pos c5).symm.trans h
            refine s_aload_n hX dX3_regard_29 rfl ?_
            refine s_getr hX dX3_regard_30 f_X3_24 rfl ?_
            refine s_getr hX dX3_regard_33 f_X3_113 rfl ?_
            refine s_getr hX dX3_regard_36 f_X3_125 rfl ?_
            refine s_iload_n hX dX3_regard_39 rfl ?_
            obtain ⟨g6, h⟩ := fs_gd h
            refine s_iald hX dX3_regard_40 g6 ?_
            refine s_aload_n hX dX3_regard_41 rfl ?_
            refine s_getr hX dX3_regard_42 f_X3_24 rfl ?_
            refine s_getr hX dX3_regard_45 f_X3_113 rfl ?_
            refine s_getr hX dX3_regard_48 f_X3_143 rfl ?_
            refine s_iload_n hX dX3_regard_51 rfl ?_
            obtain ⟨g7, h⟩ := fs_gd h
            refine s_iald hX dX3_regard_52 g7 ?_
            refine s_iload_n hX dX3_regard_53 rfl ?_
            refine s_iload_n hX dX3_regard_54 rfl ?_
            refine s_callS hX (as := [.int (σ 21 x1.toNatClampNeg), .int (σ 22 x1.toNatClampNeg), .int x2, .int x3]) dX3_regard_55 k_X3_146 v_X1_regardOf (m_X1_regardOf (σ 21 x1.toNatClampNeg) (σ 22 x1.toNatClampNeg) x2 x3 σ μ _ rfl) ⟨rfl, rfl⟩ ⟨(Nat.le_of_ble_eq_true rfl), (Nat.le_of_ble_eq_true rfl)⟩ rfl rfl (Nat.le_of_ble_eq_true rfl) ?_
            cases h
            exact s_iret hX hR dX3_regard_58
          · have h := (if_neg c5).symm.trans h
            refine s_ic hX (-1 : Int32) dX3_regard_27 (by decide) ?_
            cases h
            exact s_iret hX hR dX3_regard_28

-- X3_noKin
def F_X3_noKin (σ : fsS) : Int32 := if (σ 5 0) = 0 then (1 : Int32) else (0 : Int32)
theorem z_X3_noKin (σ : fsS) : F_X3_noKin  σ = 0 ∨ F_X3_noKin  σ = 1 := by
  unfold F_X3_noKin
  (repeat' split) <;> first | exact Or.inl rfl | exact Or.inr rfl
set_option maxRecDepth 20000 in
set_option maxHeartbeats 4000000 in
theorem m_X3_noKin   (σ : fsS) (μ : fsL) (out : Int32) (h : F_X3_noKin  σ = out) : fs_Met yX3_noKin cX3_noKin 1 (some .boolean) { frames := 0, cells := 0, slots := 0, locals := 0 } [.ref 0] σ μ (some (.int out)) σ μ := by
  unfold F_X3_noKin at h
  refine fs_intro (by decide +kernel) (Nat.le_of_ble_eq_true rfl) (fun X hX hR => ?_)
  show fs_PW X 0 [some (.ref 0)] [] σ μ
  refine s_aload_n hX dX3_noKin_0 rfl ?_
  refine s_getr hX dX3_noKin_1 f_X3_24 rfl ?_
  refine s_getr hX dX3_noKin_4 f_X3_113 rfl ?_
  refine s_geti hX dX3_noKin_7 f_X3_116 rfl ?_
  refine s_if_ne hX 17 dX3_noKin_10 (by decide) (fun c1 => ?_) (fun c1 => ?_)
  · have h := (if_neg c1).symm.trans h
    refine s_ic hX (0 : Int32) dX3_noKin_17 (by decide) ?_
    subst h
    exact s_zret hX (Or.inl rfl) hR dX3_noKin_18
  · have h := (if_pos c1).symm.trans h
    refine s_ic hX (1 : Int32) dX3_noKin_13 (by decide) ?_
    refine s_goto hX 18 dX3_noKin_14 (by decide) ?_
    subst h
    exact s_zret hX (Or.inr rfl) hR dX3_noKin_18

-- X3_quarter
def F_X3_quarter (σ : fsS) : Option (Int32 × fsS) := if (F_X3_noKin  σ) = 0 then if (σ 3 2) < (99 : Int32) then if (F_X0_wouldOverflow (1 : Int32) σ) = 0 then (F_X0_enter (F_X0_deed (0 : Int32) (0 : Int32) (0 : Int32) (0 : Int32)) σ).bind (fun q4 => some ((q4 5 9), q4)) else some ((-2 : Int32), σ) else some ((-4 : Int32), σ) else some ((-4 : Int32), σ)
set_option maxRecDepth 20000 in
set_option maxHeartbeats 4000000 in
theorem m_X3_quarter   (σ : fsS) (μ : fsL) (out : Int32 × fsS) (h : F_X3_quarter  σ = some out) : fs_Met yX3_quarter cX3_quarter 1 (some .int) { frames := 5, cells := 0, slots := 0, locals := 115 } [.ref 0] σ μ (some (.int out.1)) out.2 μ := by
  unfold F_X3_quarter at h
  refine fs_intro (by decide +kernel) (Nat.le_of_ble_eq_true rfl) (fun X hX hR => ?_)
  show fs_PW X 0 [some (.ref 0)] [] σ μ
  refine s_aload_n hX dX3_quarter_0 rfl ?_
  refine s_cV hX [] dX3_quarter_1 k_X3_150 v_X3_noKin (m_X3_noKin σ μ _ rfl) ⟨_, rfl⟩ fs_c3 ⟨rfl, rfl⟩ ⟨(Nat.le_of_ble_eq_true rfl), (Nat.le_of_ble_eq_true rfl)⟩ rfl rfl (Nat.le_of_ble_eq_true rfl) ?_
  refine s_if_ne hX 19 dX3_quarter_4 (by decide) (fun c1 => ?_) (fun c1 => ?_)
  · have h := (if_neg c1).symm.trans h
    refine s_bi hX (-4 : Int32) dX3_quarter_19 (by decide) ?_
    cases h
    exact s_iret hX hR dX3_quarter_21
  · have h := (if_pos c1).symm.trans h
    refine s_aload_n hX dX3_quarter_7 rfl ?_
    refine s_getr hX dX3_quarter_8 f_X3_24 rfl ?_
    refine s_geti hX dX3_quarter_11 f_X3_154 rfl ?_
    refine s_bi hX (99 : Int32) dX3_quarter_14 (by decide) ?_
    refine s_ic_lt hX 22 dX3_quarter_16 (by decide) (fun c2 => ?_) (fun c2 => ?_)
    · have h := (if_pos c2).symm.trans h
      refine s_aload_n hX dX3_quarter_22 rfl ?_
      refine s_getr hX dX3_quarter_23 f_X3_24 rfl ?_
      refine s_ic hX (1 : Int32) dX3_quarter_26 (by decide) ?_
      refine s_cV hX [.int (1 : Int32)] dX3_quarter_27 k_X3_157 v_X0_wouldOverflow (m_X0_wouldOverflow (1 : Int32) σ μ _ rfl) ⟨_, rfl⟩ fs_c0 ⟨rfl, rfl⟩ ⟨(Nat.le_of_ble_eq_true rfl), (Nat.le_of_ble_eq_true rfl)⟩ rfl rfl (Nat.le_of_ble_eq_true rfl) ?_
      refine s_if_eq hX 36 dX3_quarter_30 (by decide) (fun c3 => ?_) (fun c3 => ?_)
      · have h := (if_pos c3).symm.trans h
        refine s_aload_n hX dX3_quarter_36 rfl ?_
        refine s_getr hX dX3_quarter_37 f_X3_24 rfl ?_
        refine s_ic hX (0 : Int32) dX3_quarter_40 (by decide) ?_
        refine s_ic hX (0 : Int32) dX3_quarter_41 (by decide) ?_
        refine s_ic hX (0 : Int32) dX3_quarter_42 (by decide) ?_
        refine s_ic hX (0 : Int32) dX3_quarter_43 (by decide) ?_
        refine s_callS hX (as := [.int (0 : Int32), .int (0 : Int32), .int (0 : Int32), .int (0 : Int32)]) dX3_quarter_44 k_X3_160 v_X0_deed (m_X0_deed (0 : Int32) (0 : Int32) (0 : Int32) (0 : Int32) σ μ _ rfl) ⟨rfl, rfl⟩ ⟨(Nat.le_of_ble_eq_true rfl), (Nat.le_of_ble_eq_true rfl)⟩ rfl rfl (Nat.le_of_ble_eq_true rfl) ?_
        obtain ⟨q4, e4, h⟩ := fs_bind h
        refine s_cV hX [.int (F_X0_deed (0 : Int32) (0 : Int32) (0 : Int32) (0 : Int32))] dX3_quarter_47 k_X3_163 v_X0_enter (m_X0_enter (F_X0_deed (0 : Int32) (0 : Int32) (0 : Int32) (0 : Int32)) σ μ q4 e4) ⟨_, rfl⟩ fs_c0 ⟨rfl, rfl⟩ ⟨(Nat.le_of_ble_eq_true rfl), (Nat.le_of_ble_eq_true rfl)⟩ rfl rfl (Nat.le_of_ble_eq_true rfl) ?_
        refine s_aload_n hX dX3_quarter_50 rfl ?_
        refine s_getr hX dX3_quarter_51 f_X3_24 rfl ?_
        refine s_getr hX dX3_quarter_54 f_X3_113 rfl ?_
        refine s_geti hX dX3_quarter_57 f_X3_167 rfl ?_
        cases h
        exact s_iret hX hR dX3_quarter_60
      · have h := (if_neg c3).symm.trans h
        refine s_bi hX (-2 : Int32) dX3_quarter_33 (by decide) ?_
        cases h
        exact s_iret hX hR dX3_quarter_35
    · have h := (if_neg c2).symm.trans h
      refine s_bi hX (-4 : Int32) dX3_quarter_19 (by decide) ?_
      cases h
      exact s_iret hX hR dX3_quarter_21

-- X3_soot
def F_X3_soot (x1 : Int32) (σ : fsS) : Option (Int32 × fsS) := if (F_X3_isKin x1 σ) = 0 then some ((-1 : Int32), σ) else fs_g (fs_in x1 6) (if (σ 25 x1.toNatClampNeg) < (3 : Int32) then if (F_X0_wouldOverflow (1 : Int32) σ) = 0 then (F_X0_enter (F_X0_deed (1 : Int32) x1 (0 : Int32) (0 : Int32)) σ).bind (fun q5 => fs_g (fs_in x1 6) (some ((q5 25 x1.toNatClampNeg), q5))) else some ((-2 : Int32), σ) else some ((-4 : Int32), σ))
set_option maxRecDepth 20000 in
set_option maxHeartbeats 4000000 in
theorem m_X3_soot (x1 : Int32)  (σ : fsS) (μ : fsL) (out : Int32 × fsS) (h : F_X3_soot x1 σ = some out) : fs_Met yX3_soot cX3_soot 2 (some .int) { frames := 5, cells := 0, slots := 0, locals := 115 } [.ref 0, .int x1] σ μ (some (.int out.1)) out.2 μ := by
  unfold F_X3_soot at h
  refine fs_intro (by decide +kernel) (Nat.le_of_ble_eq_true rfl) (fun X hX hR => ?_)
  show fs_PW X 0 [some (.ref 0), some (.int x1)] [] σ μ
  refine s_aload_n hX dX3_soot_0 rfl ?_
  refine s_iload_n hX dX3_soot_1 rfl ?_
  refine s_cV hX [.int x1] dX3_soot_2 k_X3_119 v_X3_isKin (m_X3_isKin x1 σ μ _ rfl) ⟨_, rfl⟩ fs_c3 ⟨rfl, rfl⟩ ⟨(Nat.le_of_ble_eq_true rfl), (Nat.le_of_ble_eq_true rfl)⟩ rfl rfl (Nat.le_of_ble_eq_true rfl) ?_
  refine s_if_ne hX 10 dX3_soot_5 (by decide) (fun c1 => ?_) (fun c1 => ?_)
  · have h := (if_neg c1).symm.trans h
    refine s_aload_n hX dX3_soot_10 rfl ?_
    refine s_getr hX dX3_soot_11 f_X3_24 rfl ?_
    refine s_getr hX dX3_soot_14 f_X3_113 rfl ?_
    refine s_getr hX dX3_soot_17 f_X3_170 rfl ?_
    refine s_iload_n hX dX3_soot_20 rfl ?_
    obtain ⟨g2, h⟩ := fs_gd h
    refine s_iald hX dX3_soot_21 g2 ?_
    refine s_ic hX (3 : Int32) dX3_soot_22 (by decide) ?_
    refine s_ic_lt hX 29 dX3_soot_23 (by decide) (fun c3 => ?_) (fun c3 => ?_)
    · have h := (if_pos c3).symm.trans h
      refine s_aload_n hX dX3_soot_29 rfl ?_
      refine s_getr hX dX3_soot_30 f_X3_24 rfl ?_
      refine s_ic hX (1 : Int32) dX3_soot_33 (by decide) ?_
      refine s_cV hX [.int (1 : Int32)] dX3_soot_34 k_X3_157 v_X0_wouldOverflow (m_X0_wouldOverflow (1 : Int32) σ μ _ rfl) ⟨_, rfl⟩ fs_c0 ⟨rfl, rfl⟩ ⟨(Nat.le_of_ble_eq_true rfl), (Nat.le_of_ble_eq_true rfl)⟩ rfl rfl (Nat.le_of_ble_eq_true rfl) ?_
      refine s_if_eq hX 43 dX3_soot_37 (by decide) (fun c4 => ?_) (fun c4 => ?_)
      · have h := (if_pos c4).symm.trans h
        refine s_aload_n hX dX3_soot_43 rfl ?_
        refine s_getr hX dX3_soot_44 f_X3_24 rfl ?_
        refine s_ic hX (1 : Int32) dX3_soot_47 (by decide) ?_
        refine s_iload_n hX dX3_soot_48 rfl ?_
        refine s_ic hX (0 : Int32) dX3_soot_49 (by decide) ?_
        refine s_ic hX (0 : Int32) dX3_soot_50 (by decide) ?_
        refine s_callS hX (as := [.int (1 : Int32), .int x1, .int (0 : Int32), .int (0 : Int32)]) dX3_soot_51 k_X3_160 v_X0_deed (m_X0_deed (1 : Int32) x1 (0 : Int32) (0 : Int32) σ μ _ rfl) ⟨rfl, rfl⟩ ⟨(Nat.le_of_ble_eq_true rfl), (Nat.le_of_ble_eq_true rfl)⟩ rfl rfl (Nat.le_of_ble_eq_true rfl) ?_
        obtain ⟨q5, e5, h⟩ := fs_bind h
        refine s_cV hX [.int (F_X0_deed (1 : Int32) x1 (0 : Int32) (0 : Int32))] dX3_soot_54 k_X3_163 v_X0_enter (m_X0_enter (F_X0_deed (1 : Int32) x1 (0 : Int32) (0 : Int32)) σ μ q5 e5) ⟨_, rfl⟩ fs_c0 ⟨rfl, rfl⟩ ⟨(Nat.le_of_ble_eq_true rfl), (Nat.le_of_ble_eq_true rfl)⟩ rfl rfl (Nat.le_of_ble_eq_true rfl) ?_
        refine s_aload_n hX dX3_soot_57 rfl ?_
        refine s_getr hX dX3_soot_58 f_X3_24 rfl ?_
        refine s_getr hX dX3_soot_61 f_X3_113 rfl ?_
        refine s_getr hX dX3_soot_64 f_X3_170 rfl ?_
        refine s_iload_n hX dX3_soot_67 rfl ?_
        obtain ⟨g6, h⟩ := fs_gd h
        refine s_iald hX dX3_soot_68 g6 ?_
        cases h
        exact s_iret hX hR dX3_soot_69
      · have h := (if_neg c4).symm.trans h
        refine s_bi hX (-2 : Int32) dX3_soot_40 (by decide) ?_
        cases h
        exact s_iret hX hR dX3_soot_42
    · have h := (if_neg c3).symm.trans h
      refine s_bi hX (-4 : Int32) dX3_soot_26 (by decide) ?_
      cases h
      exact s_iret hX hR dX3_soot_28
  · have h := (if_pos c1).symm.trans h
    refine s_ic hX (-1 : Int32) dX3_soot_8 (by decide) ?_
    cases h
    exact s_iret hX hR dX3_soot_9
