-- X3_house
def F_X3_house (x1 : Int32) (σ : fsS) : Option (Int32 × fsS) := if (F_X3_isText x1) = 0 then some ((-1 : Int32), σ) else (F_X2_has 2 x1 σ).bind (fun q2 => if q2 = 0 then (F_X3_refuse (1 : Int32) σ).bind (fun q9 => some (q9.1, q9.2)) else fs_g (fs_in x1 4) (fs_g (fs_in x1 4) ((F_X1_read 6 (44 + x1.toNatClampNeg) (σ 11 x1.toNatClampNeg) σ).bind (fun q6 => if q6.1 = (-9 : Int32) then (F_X0_found 6 q6.2).bind (fun q8 => some ((q8 5 0), q8)) else some ((-4 : Int32), q6.2)))))
set_option maxRecDepth 20000 in
set_option maxHeartbeats 40000000 in
theorem m_X3_house (x1 : Int32)  (σ : fsS) (μ : fsL) (out : Int32 × fsS) (h : F_X3_house x1 σ = some out) : fs_Met yX3_house cX3_house 2 (some .int) { frames := 6, cells := 0, slots := 0, locals := 137 } [.ref 0, .int x1] σ μ (some (.int out.1)) out.2 μ := by
  unfold F_X3_house at h
  refine fs_intro (by decide +kernel) (Nat.le_of_ble_eq_true rfl) (fun X hX hR => ?_)
  show fs_PW X 0 [some (.ref 0), some (.int x1)] [] σ μ
  refine s_iload_n hX dX3_house_0 rfl ?_
  refine s_callS hX (as := [.int x1]) dX3_house_1 k_X3_102 v_X3_isText (m_X3_isText x1 σ μ _ rfl) ⟨rfl, rfl⟩ ⟨(Nat.le_of_ble_eq_true rfl), (Nat.le_of_ble_eq_true rfl)⟩ rfl rfl (Nat.le_of_ble_eq_true rfl) ?_
  refine s_if_ne hX 9 dX3_house_4 (by decide) (fun c1 => ?_) (fun c1 => ?_)
  · have h := (if_neg c1).symm.trans h
    refine s_aload_n hX dX3_house_9 rfl ?_
    refine s_getr hX dX3_house_10 f_X3_18 rfl ?_
    refine s_iload_n hX dX3_house_13 rfl ?_
    obtain ⟨q2, e2, h⟩ := fs_bind h
    refine s_cV hX [.int x1] dX3_house_14 k_X3_82 v_X2_has (m_X2_has 2 x1 fs_H2 σ μ q2 e2) (fs_H_is fs_H2) fs_c2 ⟨rfl, rfl⟩ ⟨(Nat.le_of_ble_eq_true rfl), (Nat.le_of_ble_eq_true rfl)⟩ rfl rfl (Nat.le_of_ble_eq_true rfl) ?_
    refine s_if_ne hX 26 dX3_house_17 (by decide) (fun c3 => ?_) (fun c3 => ?_)
    · have h := (if_neg c3).symm.trans h
      refine s_aload_n hX dX3_house_26 rfl ?_
      refine s_getr hX dX3_house_27 f_X3_31 rfl ?_
      refine s_aload_n hX dX3_house_30 rfl ?_
      refine s_getr hX dX3_house_31 f_X3_18 rfl ?_
      refine s_getr hX dX3_house_34 f_X3_75 rfl ?_
      refine s_iload_n hX dX3_house_37 rfl ?_
      obtain ⟨g4, h⟩ := fs_gd h
      refine s_aald hX dX3_house_38 g4 ?_
      refine s_aload_n hX dX3_house_39 rfl ?_
      refine s_getr hX dX3_house_40 f_X3_18 rfl ?_
      refine s_getr hX dX3_house_43 f_X3_85 rfl ?_
      refine s_iload_n hX dX3_house_46 rfl ?_
      obtain ⟨g5, h⟩ := fs_gd h
      refine s_iald hX dX3_house_47 g5 ?_
      obtain ⟨q6, e6, h⟩ := fs_bind h
      refine s_cV hX [.ref (44 + x1.toNatClampNeg), .int (σ 11 x1.toNatClampNeg)] dX3_house_48 k_X3_105 v_X1_read (m_X1_read 6 (44 + x1.toNatClampNeg) (σ 11 x1.toNatClampNeg) fs_K6 σ μ q6 e6) (fs_K_is fs_K6) fs_c1 ⟨rfl, rfl⟩ ⟨(Nat.le_of_ble_eq_true rfl), (Nat.le_of_ble_eq_true rfl)⟩ rfl rfl (Nat.le_of_ble_eq_true rfl) ?_
      refine s_bi hX (-9 : Int32) dX3_house_51 (by decide) ?_
      refine s_ic_eq hX 59 dX3_house_53 (by decide) (fun c7 => ?_) (fun c7 => ?_)
      · have h := (if_pos c7).symm.trans h
        refine s_aload_n hX dX3_house_59 rfl ?_
        refine s_getr hX dX3_house_60 f_X3_24 rfl ?_
        refine s_aload_n hX dX3_house_63 rfl ?_
        refine s_getr hX dX3_house_64 f_X3_31 rfl ?_
        obtain ⟨q8, e8, h⟩ := fs_bind h
        refine s_cV hX [.ref 6] dX3_house_67 k_X3_109 v_X0_found (m_X0_found 6 fs_K6 q6.2 μ q8 e8) ⟨_, rfl⟩ fs_c0 ⟨rfl, rfl⟩ ⟨(Nat.le_of_ble_eq_true rfl), (Nat.le_of_ble_eq_true rfl)⟩ rfl rfl (Nat.le_of_ble_eq_true rfl) ?_
        refine s_aload_n hX dX3_house_70 rfl ?_
        refine s_getr hX dX3_house_71 f_X3_24 rfl ?_
        refine s_getr hX dX3_house_74 f_X3_113 rfl ?_
        refine s_geti hX dX3_house_77 f_X3_116 rfl ?_
        cases h
        exact s_iret hX hR dX3_house_80
      · have h := (if_neg c7).symm.trans h
        refine s_bi hX (-4 : Int32) dX3_house_56 (by decide) ?_
        cases h
        exact s_iret hX hR dX3_house_58
    · have h := (if_pos c3).symm.trans h
      refine s_aload_n hX dX3_house_20 rfl ?_
      refine s_ic hX (1 : Int32) dX3_house_21 (by decide) ?_
      obtain ⟨q9, e9, h⟩ := fs_bind h
      refine s_cV hX [.int (1 : Int32)] dX3_house_22 k_X3_63 v_X3_refuse (m_X3_refuse (1 : Int32) σ μ q9 e9) ⟨_, rfl⟩ fs_c3 ⟨rfl, rfl⟩ ⟨(Nat.le_of_ble_eq_true rfl), (Nat.le_of_ble_eq_true rfl)⟩ rfl rfl (Nat.le_of_ble_eq_true rfl) ?_
      cases h
      exact s_iret hX hR dX3_house_25
  · have h := (if_pos c1).symm.trans h
    refine s_ic hX (-1 : Int32) dX3_house_7 (by decide) ?_
    cases h
    exact s_iret hX hR dX3_house_8

-- X3_isKin
def F_X3_isKin (x1 : Int32) (σ : fsS) : Int32 := if x1 < 0 then (0 : Int32) else if (σ 5 0) ≤ x1 then (0 : Int32) else (1 : Int32)
theorem z_X3_isKin (x1 : Int32) (σ : fsS) : F_X3_isKin x1 σ = 0 ∨ F_X3_isKin x1 σ = 1 := by
  unfold F_X3_isKin
  (repeat' split) <;> first | exact Or.inl rfl | exact Or.inr rfl
set_option maxRecDepth 20000 in
set_option maxHeartbeats 40000000 in
theorem m_X3_isKin (x1 : Int32)  (σ : fsS) (μ : fsL) (out : Int32) (h : F_X3_isKin x1 σ = out) : fs_Met yX3_isKin cX3_isKin 2 (some .boolean) { frames := 0, cells := 0, slots := 0, locals := 0 } [.ref 0, .int x1] σ μ (some (.int out)) σ μ := by
  unfold F_X3_isKin at h
  refine fs_intro (by decide +kernel) (Nat.le_of_ble_eq_true rfl) (fun X hX hR => ?_)
  show fs_PW X 0 [some (.ref 0), some (.int x1)] [] σ μ
  refine s_iload_n hX dX3_isKin_0 rfl ?_
  refine s_if_lt hX 22 dX3_isKin_1 (by decide) (fun c1 => ?_) (fun c1 => ?_)
  · have h := (if_pos c1).symm.trans h
    refine s_ic hX (0 : Int32) dX3_isKin_22 (by decide) ?_
    subst h
    exact s_zret hX (Or.inl rfl) hR dX3_isKin_23
  · have h := (if_neg c1).symm.trans h
    refine s_iload_n hX dX3_isKin_4 rfl ?_
    refine s_aload_n hX dX3_isKin_5 rfl ?_
    refine s_getr hX dX3_isKin_6 f_X3_24 rfl ?_
    refine s_getr hX dX3_isKin_9 f_X3_113 rfl ?_
    refine s_geti hX dX3_isKin_12 f_X3_116 rfl ?_
    refine s_ic_ge hX 22 dX3_isKin_15 (by decide) (fun c2 => ?_) (fun c2 => ?_)
    · have h := (if_pos c2).symm.trans h
      refine s_ic hX (0 : Int32) dX3_isKin_22 (by decide) ?_
      subst h
      exact s_zret hX (Or.inl rfl) hR dX3_isKin_23
    · have h := (if_neg c2).symm.trans h
      refine s_ic hX (1 : Int32) dX3_isKin_18 (by decide) ?_
      refine s_goto hX 23 dX3_isKin_19 (by decide) ?_
      subst h
      exact s_zret hX (Or.inr rfl) hR dX3_isKin_23

-- X3_ofOne
def F_X3_ofOne (x1 : Int32) (x2 : Int32) (σ : fsS) : Option (Int32 × fsS) := (F_X1_weigh 5 σ).bind (fun q1 => if x2 = (0 : Int32) then fs_g (fs_in x1 6) (some ((q1 21 x1.toNatClampNeg), q1)) else if x2 = (1 : Int32) then fs_g (fs_in x1 6) (some ((q1 22 x1.toNatClampNeg), q1)) else if x2 = (2 : Int32) then fs_g (fs_in x1 6) (some ((q1 23 x1.toNatClampNeg), q1)) else if x2 = (3 : Int32) then fs_g (fs_in x1 6) (some ((q1 24 x1.toNatClampNeg), q1)) else if x2 = (4 : Int32) then fs_g (fs_in x1 6) (some ((q1 25 x1.toNatClampNeg), q1)) else if x2 = (5 : Int32) then fs_g (fs_in x1 6) (some ((q1 26 x1.toNatClampNeg), q1)) else fs_g (fs_in x1 6) (some ((q1 27 x1.toNatClampNeg), q1)))
set_option maxRecDepth 20000 in
set_option maxHeartbeats 40000000 in
theorem m_X3_ofOne (x1 : Int32) (x2 : Int32)  (σ : fsS) (μ : fsL) (out : Int32 × fsS) (h : F_X3_ofOne x1 x2 σ = some out) : fs_Met yX3_ofOne cX3_ofOne 4 (some .int) { frames := 2, cells := 0, slots := 0, locals := 47 } [.ref 0, .int x1, .int x2] σ μ (some (.int out.1)) out.2 μ := by
  unfold F_X3_ofOne at h
  refine fs_intro (by decide +kernel) (Nat.le_of_ble_eq_true rfl) (fun X hX hR => ?_)
  show fs_PW X 0 [some (.ref 0), some (.int x1), some (.int x2), none] [] σ μ
  refine s_aload_n hX dX3_ofOne_0 rfl ?_
  refine s_getr hX dX3_ofOne_1 f_X3_24 rfl ?_
  refine s_getr hX dX3_ofOne_4 f_X3_113 rfl ?_
  refine s_astore_n hX dX3_ofOne_7 (Nat.le_of_ble_eq_true rfl) ?_
  refine s_aload_n hX dX3_ofOne_8 rfl ?_
  obtain ⟨q1, e1, h⟩ := fs_bind h
  refine s_cV hX [] dX3_ofOne_9 k_X3_197 v_X1_weigh (m_X1_weigh 5 fs_K5 σ μ q1 e1) (fs_K_is fs_K5) fs_c1 ⟨rfl, rfl⟩ ⟨(Nat.le_of_ble_eq_true rfl), (Nat.le_of_ble_eq_true rfl)⟩ rfl rfl (Nat.le_of_ble_eq_true rfl) ?_
  refine s_iload_n hX dX3_ofOne_12 rfl ?_
  by_cases c2 : x2 = (0 : Int32)
  · have h := (if_pos c2).symm.trans h
    refine s_tabK hX 52 (0 : Int32) c2 dX3_ofOne_13 (by decide) (by decide) rfl (by decide) ?_
    refine s_aload_n hX dX3_ofOne_52 rfl ?_
    refine s_getr hX dX3_ofOne_53 f_X3_125 rfl ?_
    refine s_iload_n hX dX3_ofOne_56 rfl ?_
    obtain ⟨g3, h⟩ := fs_gd h
    refine s_iald hX dX3_ofOne_57 g3 ?_
    cases h
    exact s_iret hX hR dX3_ofOne_58
  · have h := (if_neg c2).symm.trans h
    by_cases c4 : x2 = (1 : Int32)
    · have h := (if_pos c4).symm.trans h
      refine s_tabK hX 59 (1 : Int32) c4 dX3_ofOne_13 (by decide) (by decide) rfl (by decide) ?_
      refine s_aload_n hX dX3_ofOne_59 rfl ?_
      refine s_getr hX dX3_ofOne_60 f_X3_143 rfl ?_
      refine s_iload_n hX dX3_ofOne_63 rfl ?_
      obtain ⟨g5, h⟩ := fs_gd h
      refine s_iald hX dX3_ofOne_64 g5 ?_
      cases h
      exact s_iret hX hR dX3_ofOne_65
    · have h := (if_neg c4).symm.trans h
      by_cases c6 : x2 = (2 : Int32)
      · have h := (if_pos c6).symm.trans h
        refine s_tabK hX 66 (2 : Int32) c6 dX3_ofOne_13 (by decide) (by decide) rfl (by decide) ?_
        refine s_aload_n hX dX3_ofOne_66 rfl ?_
        refine s_getr hX dX3_ofOne_67 f_X3_299 rfl ?_
        refine s_iload_n hX dX3_ofOne_70 rfl ?_
        obtain ⟨g7, h⟩ := fs_gd h
        refine s_iald hX dX3_ofOne_71 g7 ?_
        cases h
        exact s_iret hX hR dX3_ofOne_72
      · have h := (if_neg c6).symm.trans h
        by_cases c8 : x2 = (3 : Int32)
        · have h := (if_pos c8).symm.trans h
          refine s_tabK hX 73 (3 : Int32) c8 dX3_ofOne_13 (by decide) (by decide) rfl (by decide) ?_
          refine s_aload_n hX dX3_ofOne_73 rfl ?_
          refine s_getr hX dX3_ofOne_74 f_X3_176 rfl ?_
          refine s_iload_n hX dX3_ofOne_77 rfl ?_
          obtain ⟨g9, h⟩ := fs_gd h
          refine s_iald hX dX3_ofOne_78 g9 ?_
          cases h
          exact s_iret hX hR dX3_ofOne_79
        · have h := (if_neg c8).symm.trans h
          by_cases c10 : x2 = (4 : Int32)
          · have h := (if_pos c10).symm.trans h
            refine s_tabK hX 80 (4 : Int32) c10 dX3_ofOne_13 (by decide) (by decide) rfl (by decide) ?_
            refine s_aload_n hX dX3_ofOne_80 rfl ?_
            refine s_getr hX dX3_ofOne_81 f_X3_170 rfl ?_
            refine s_iload_n hX dX3_ofOne_84 rfl ?_
            obtain ⟨g11, h⟩ := fs_gd h
            refine s_iald hX dX3_ofOne_85 g11 ?_
            cases h
            exact s_iret hX hR dX3_ofOne_86
          · have h := (if_neg c10).symm.trans h
            by_cases c12 : x2 = (5 : Int32)
            · have h := (if_pos c12).symm.trans h
              refine s_tabK hX 87 (5 : Int32) c12 dX3_ofOne_13 (by decide) (by decide) rfl (by decide) ?_
              refine s_aload_n hX dX3_ofOne_87 rfl ?_
              refine s_getr hX dX3_ofOne_88 f_X3_302 rfl ?_
              refine s_iload_n hX dX3_ofOne_91 rfl ?_
              obtain ⟨g13, h⟩ := fs_gd h
              refine s_iald hX dX3_ofOne_92 g13 ?_
              cases h
              exact s_iret hX hR dX3_ofOne_93
            · have h := (if_neg c12).symm.trans h
              have wc2 := fs_ne (z := 0) c2 (by decide)
              have wc4 := fs_ne (z := 1) c4 (by decide)
              have wc6 := fs_ne (z := 2) c6 (by decide)
              have wc8 := fs_ne (z := 3) c8 (by decide)
              have wc10 := fs_ne (z := 4) c10 (by decide)
              have wc12 := fs_ne (z := 5) c12 (by decide)
              refine s_tabOut hX 94 dX3_ofOne_13 (by omega) (by decide) ?_
              refine s_aload_n hX dX3_ofOne_94 rfl ?_
              refine s_getr hX dX3_ofOne_95 f_X3_209 rfl ?_
              refine s_iload_n hX dX3_ofOne_98 rfl ?_
              obtain ⟨g14, h⟩ := fs_gd h
              refine s_iald hX dX3_ofOne_99 g14 ?_
              cases h
              exact s_iret hX hR dX3_ofOne_100

-- X3_one
def F_X3_one (x1 : Int32) (x2 : Int32) (σ : fsS) : Option (Int32 × fsS) := if (F_X3_isKin x1 σ) = 0 then some ((-1 : Int32), σ) else if x2 < 0 then some ((-1 : Int32), σ) else if x2 ≤ (6 : Int32) then (F_X3_ofOne x1 x2 σ).bind (fun q4 => some ((F_X3_tell q4.1 (1 : Int32) q4.2).1, (F_X3_tell q4.1 (1 : Int32) q4.2).2)) else some ((-1 : Int32), σ)
set_option maxRecDepth 20000 in
set_option maxHeartbeats 40000000 in
theorem m_X3_one (x1 : Int32) (x2 : Int32)  (σ : fsS) (μ : fsL) (out : Int32 × fsS) (h : F_X3_one x1 x2 σ = some out) : fs_Met yX3_one cX3_one 3 (some .int) { frames := 3, cells := 0, slots := 0, locals := 70 } [.ref 0, .int x1, .int x2] σ μ (some (.int out.1)) out.2 μ := by
  unfold F_X3_one at h
  refine fs_intro (by decide +kernel) (Nat.le_of_ble_eq_true rfl) (fun X hX hR => ?_)
  show fs_PW X 0 [some (.ref 0), some (.int x1), some (.int x2)] [] σ μ
  refine s_aload_n hX dX3_one_0 rfl ?_
  refine s_iload_n hX dX3_one_1 rfl ?_
  refine s_cV hX [.int x1] dX3_one_2 k_X3_119 v_X3_isKin (m_X3_isKin x1 σ μ _ rfl) ⟨_, rfl⟩ fs_c3 ⟨rfl, rfl⟩ ⟨(Nat.le_of_ble_eq_true rfl), (Nat.le_of_ble_eq_true rfl)⟩ rfl rfl (Nat.le_of_ble_eq_true rfl) ?_
  refine s_if_eq hX 18 dX3_one_5 (by decide) (fun c1 => ?_) (fun c1 => ?_)
  · have h := (if_pos c1).symm.trans h
    refine s_ic hX (-1 : Int32) dX3_one_18 (by decide) ?_
    cases h
    exact s_iret hX hR dX3_one_19
  · have h := (if_neg c1).symm.trans h
    refine s_iload_n hX dX3_one_8 rfl ?_
    refine s_if_lt hX 18 dX3_one_9 (by decide) (fun c2 => ?_) (fun c2 => ?_)
    · have h := (if_pos c2).symm.trans h
      refine s_ic hX (-1 : Int32) dX3_one_18 (by decide) ?_
      cases h
      exact s_iret hX hR dX3_one_19
    · have h := (if_neg c2).symm.trans h
      refine s_iload_n hX dX3_one_12 rfl ?_
      refine s_bi hX (6 : Int32) dX3_one_13 (by decide) ?_
      refine s_ic_le hX 20 dX3_one_15 (by decide) (fun c3 => ?_) (fun c3 => ?_)
      · have h := (if_pos c3).symm.trans h
        refine s_aload_n hX dX3_one_20 rfl ?_
        refine s_aload_n hX dX3_one_21 rfl ?_
        refine s_iload_n hX dX3_one_22 rfl ?_
        refine s_iload_n hX dX3_one_23 rfl ?_
        obtain ⟨q4, e4, h⟩ := fs_bind h
        refine s_cV hX [.int x1, .int x2] dX3_one_24 k_X3_122 v_X3_ofOne (m_X3_ofOne x1 x2 σ μ q4 e4) ⟨_, rfl⟩ fs_c3 ⟨rfl, rfl⟩ ⟨(Nat.le_of_ble_eq_true rfl), (Nat.le_of_ble_eq_true rfl)⟩ rfl rfl (Nat.le_of_ble_eq_true rfl) ?_
        refine s_ic hX (1 : Int32) dX3_one_27 (by decide) ?_
        refine s_cV hX [.int q4.1, .int (1 : Int32)] dX3_one_28 k_X3_79 v_X3_tell (m_X3_tell q4.1 (1 : Int32) q4.2 μ _ rfl) ⟨_, rfl⟩ fs_c3 ⟨rfl, rfl⟩ ⟨(Nat.le_of_ble_eq_true rfl), (Nat.le_of_ble_eq_true rfl)⟩ rfl rfl (Nat.le_of_ble_eq_true rfl) ?_
        cases h
        exact s_iret hX hR dX3_one_31
      · have h := (if_neg c3).symm.trans h
        refine s_ic hX (-1 : Int32) dX3_one_18 (by decide) ?_
        cases h
        exact s_iret hX hR dX3_one_19

-- X3_mark
def F_X3_mark (x1 : Int32) (x2 : Int32) (σ : fsS) : Option (Int32 × fsS) := if (F_X3_isKin x1 σ) = 0 then some ((-1 : Int32), σ) else if x2 ≤ 0 then some ((-1 : Int32), σ) else if x2 < (6 : Int32) then fs_g (fs_in x1 6) (if (F_X1_isOf (σ 21 x1.toNatClampNeg) x2) = 0 then (F_X3_refuse (3 : Int32) σ).bind (fun q9 => some (q9.1, q9.2)) else fs_g (fs_in x1 6) ((F_X1_regardAs 5 x1 (σ 21 x1.toNatClampNeg) σ).bind (fun q7 => (F_X1_regardAs 5 x1 (F_X1_kindAbove x2) σ).bind (fun q8 => some ((if 0 ≤ (q7 - q8) then (q7 - q8) else 0 - (q7 - q8)), σ))))) else some ((-1 : Int32), σ)
set_option maxRecDepth 20000 in
set_option maxHeartbeats 40000000 in
theorem m_X3_mark (x1 : Int32) (x2 : Int32)  (σ : fsS) (μ : fsL) (out : Int32 × fsS) (h : F_X3_mark x1 x2 σ = some out) : fs_Met yX3_mark cX3_mark 4 (some .int) { frames := 2, cells := 0, slots := 0, locals := 48 } [.ref 0, .int x1, .int x2] σ μ (some (.int out.1)) out.2 μ := by
  unfold F_X3_mark at h
  refine fs_intro (by decide +kernel) (Nat.le_of_ble_eq_true rfl) (fun X hX hR => ?_)
  show fs_PW X 0 [some (.ref 0), some (.int x1), some (.int x2), none] [] σ μ
  refine s_aload_n hX dX3_mark_0 rfl ?_
  refine s_iload_n hX dX3_mark_1 rfl ?_
  refine s_cV hX [.int x1] dX3_mark_2 k_X3_119 v_X3_isKin (m_X3_isKin x1 σ μ _ rfl) ⟨_, rfl⟩ fs_c3 ⟨rfl, rfl⟩ ⟨(Nat.le_of_ble_eq_true rfl), (Nat.le_of_ble_eq_true rfl)⟩ rfl rfl (Nat.le_of_ble_eq_true rfl) ?_
  refine s_if_eq hX 18 dX3_mark_5 (by decide) (fun c1 => ?_) (fun c1 => ?_)
  · have h := (if_pos c1).symm.trans h
    refine s_ic hX (-1 : Int32) dX3_mark_18 (by decide) ?_
    cases h
    exact s_iret hX hR dX3_mark_19
  · have h := (if_neg c1).symm.trans h
    refine s_iload_n hX dX3_mark_8 rfl ?_
    refine s_if_le hX 18 dX3_mark_9 (by decide) (fun c2 => ?_) (fun c2 => ?_)
    · have h := (if_pos c2).symm.trans h
      refine s_ic hX (-1 : Int32) dX3_mark_18 (by decide) ?_
      cases h
      exact s_iret hX hR dX3_mark_19
    · have h := (if_neg c2).symm.trans h
      refine s_iload_n hX dX3_mark_12 rfl ?_
      refine s_bi hX (6 : Int32) dX3_mark_13 (by decide) ?_
      refine s_ic_lt hX 20 dX3_mark_15 (by decide) (fun c3 => ?_) (fun c3 => ?_)
      · have h := (if_pos c3).symm.trans h
        refine s_aload_n hX dX3_mark_20 rfl ?_
        refine s_getr hX dX3_mark_21 f_X3_24 rfl ?_
        refine s_getr hX dX3_mark_24 f_X3_113 rfl ?_
        refine s_getr hX dX3_mark_27 f_X3_125 rfl ?_
        refine s_iload_n hX dX3_mark_30 rfl ?_
        obtain ⟨g4, h⟩ := fs_gd h
        refine s_iald hX dX3_mark_31 g4 ?_
        refine s_iload_n hX dX3_mark_32 rfl ?_
        refine s_callS hX (as := [.int (σ 21 x1.toNatClampNeg), .int x2]) dX3_mark_33 k_X3_128 v_X1_isOf (m_X1_isOf (σ 21 x1.toNatClampNeg) x2 σ μ _ rfl) ⟨rfl, rfl⟩ ⟨(Nat.le_of_ble_eq_true rfl), (Nat.le_of_ble_eq_true rfl)⟩ rfl rfl (Nat.le_of_ble_eq_true rfl) ?_
        refine s_if_ne hX 45 dX3_mark_36 (by decide) (fun c5 => ?_) (fun c5 => ?_)
        · have h := (if_neg c5).symm.trans h
          refine s_aload_n hX dX3_mark_45 rfl ?_
          refine s_getr hX dX3_mark_46 f_X3_24 rfl ?_
          refine s_getr hX dX3_mark_49 f_X3_113 rfl ?_
          refine s_iload_n hX dX3_mark_52 rfl ?_
          refine s_aload_n hX dX3_mark_53 rfl ?_
          refine s_getr hX dX3_mark_54 f_X3_24 rfl ?_
          refine s_getr hX dX3_mark_57 f_X3_113 rfl ?_
          refine s_getr hX dX3_mark_60 f_X3_125 rfl ?_
          refine s_iload_n hX dX3_mark_63 rfl ?_
          obtain ⟨g6, h⟩ := fs_gd h
          refine s_iald hX dX3_mark_64 g6 ?_
          obtain ⟨q7, e7, h⟩ := fs_bind h
          refine s_cV hX [.int x1, .int (σ 21 x1.toNatClampNeg)] dX3_mark_65 k_X3_132 v_X1_regardAs (m_X1_regardAs 5 x1 (σ 21 x1.toNatClampNeg) fs_K5 σ μ q7 e7) (fs_K_is fs_K5) fs_c1 ⟨rfl, rfl⟩ ⟨(Nat.le_of_ble_eq_true rfl), (Nat.le_of_ble_eq_true rfl)⟩ rfl rfl (Nat.le_of_ble_eq_true rfl) ?_
          refine s_istore_n hX dX3_mark_68 (Nat.le_of_ble_eq_true rfl) ?_
          refine s_iload_n hX dX3_mark_69 rfl ?_
          refine s_aload_n hX dX3_mark_70 rfl ?_
          refine s_getr hX dX3_mark_71 f_X3_24 rfl ?_
          refine s_getr hX dX3_mark_74 f_X3_113 rfl ?_
          refine s_iload_n hX dX3_mark_77 rfl ?_
          refine s_iload_n hX dX3_mark_78 rfl ?_
          refine s_callS hX (as := [.int x2]) dX3_mark_79 k_X3_135 v_X1_kindAbove (m_X1_kindAbove x2 σ μ _ rfl) ⟨rfl, rfl⟩ ⟨(Nat.le_of_ble_eq_true rfl), (Nat.le_of_ble_eq_true rfl)⟩ rfl rfl (Nat.le_of_ble_eq_true rfl) ?_
          obtain ⟨q8, e8, h⟩ := fs_bind h
          refine s_cV hX [.int x1, .int (F_X1_kindAbove x2)] dX3_mark_82 k_X3_132 v_X1_regardAs (m_X1_regardAs 5 x1 (F_X1_kindAbove x2) fs_K5 σ μ q8 e8) (fs_K_is fs_K5) fs_c1 ⟨rfl, rfl⟩ ⟨(Nat.le_of_ble_eq_true rfl), (Nat.le_of_ble_eq_true rfl)⟩ rfl rfl (Nat.le_of_ble_eq_true rfl) ?_
          refine s_isub hX dX3_mark_85 ?_
          refine s_mabs hX dX3_mark_86 k_X3_138 rfl (Nat.le_of_ble_eq_true rfl) (Nat.le_of_ble_eq_true rfl) ?_
          cases h
          exact s_iret hX hR dX3_mark_89
        · have h := (if_pos c5).symm.trans h
          refine s_aload_n hX dX3_mark_39 rfl ?_
          refine s_ic hX (3 : Int32) dX3_mark_40 (by decide) ?_
          obtain ⟨q9, e9, h⟩ := fs_bind h
          refine s_cV hX [.int (3 : Int32)] dX3_mark_41 k_X3_63 v_X3_refuse (m_X3_refuse (3 : Int32) σ μ q9 e9) ⟨_, rfl⟩ fs_c3 ⟨rfl, rfl⟩ ⟨(Nat.le_of_ble_eq_true rfl), (Nat.le_of_ble_eq_true rfl)⟩ rfl rfl (Nat.le_of_ble_eq_true rfl) ?_
          cases h
          exact s_iret hX hR dX3_mark_44
      · have h := (if_neg c3).symm.trans h
        refine s_ic hX (-1 : Int32) dX3_mark_18 (by decide) ?_
        cases h
        exact s_iret hX hR dX3_mark_19

-- X3_regard
def F_X3_regard (x1 : Int32) (x2 : Int32) (x3 : Int32) (σ : fsS) : Option (Int32) := if (F_X3_isKin x1 σ) = 0 then some (-1 : Int32) else if x2 < 0 then some (-1 : Int32) else if (3 : Int32) < x2 then some (-1 : Int32) else if x3 < 0 then some (-1 : Int32) else if x3 ≤ (99 : Int32) then fs_g (fs_in x1 6) (fs_g (fs_in x1 6) (some (F_X1_regardOf (σ 21 x1.toNatClampNeg) (σ 22 x1.toNatClampNeg) x2 x3))) else some (-1 : Int32)
set_option maxRecDepth 20000 in
set_option maxHeartbeats 40000000 in
theorem m_X3_regard (x1 : Int32) (x2 : Int32) (x3 : Int32)  (σ : fsS) (μ : fsL) (out : Int32) (h : F_X3_regard x1 x2 x3 σ = some out) : fs_Met yX3_regard cX3_regard 4 (some .int) { frames := 1, cells := 0, slots := 0, locals := 26 } [.ref 0, .int x1, .int x2, .int x3] σ μ (some (.int out)) σ μ := by
  unfold F_X3_regard at h
  refine fs_intro (by decide +kernel) (Nat.le_of_ble_eq_true rfl) (fun X hX hR => ?_)
  show fs_PW X 0 [some (.ref 0), some (.int x1), some (.int x2), some (.int x3)] [] σ μ
  refine s_aload_n hX dX3_regard_0 rfl ?_
  refine s_iload_n hX dX3_regard_1 rfl ?_
  refine s_cV hX [.int x1] dX3_regard_2 k_X3_119 v_X3_isKin (m_X3_isKin x1 σ μ _ rfl) ⟨_, rfl⟩ fs_c3 ⟨rfl, rfl⟩ ⟨(Nat.le_of_ble_eq_true rfl), (Nat.le_of_ble_eq_true rfl)⟩ rfl rfl (Nat.le_of_ble_eq_true rfl) ?_
  refine s_if_eq hX 27 dX3_regard_5 (by decide) (fun c1 => ?_) (fun c1 => ?_)
  · have h := (if_pos c1).symm.trans h
    refine s_ic hX (-1 : Int32) dX3_regard_27 (by decide) ?_
    cases h
    exact s_iret hX hR dX3_regard_28
  · have h := (if_neg c1).symm.trans h
    refine s_iload_n hX dX3_regard_8 rfl ?_
    refine s_if_lt hX 27 dX3_regard_9 (by decide) (fun c2 => ?_) (fun c2 => ?_)
    · have h := (if_pos c2).symm.trans h
      refine s_ic hX (-1 : Int32) dX3_regard_27 (by decide) ?_
      cases h
      exact s_iret hX hR dX3_regard_28
    · have h := (if_neg c2).symm.trans h
      refine s_iload_n hX dX3_regard_12 rfl ?_
      refine s_ic hX (3 : Int32) dX3_regard_13 (by decide) ?_
      refine s_ic_gt hX 27 dX3_regard_14 (by decide) (fun c3 => ?_) (fun c3 => ?_)
      · have h := (if_pos c3).symm.trans h
        refine s_ic hX (-1 : Int32) dX3_regard_27 (by decide) ?_
        cases h
        exact s_iret hX hR dX3_regard_28
      · have h := (if_neg c3).symm.trans h
        refine s_iload_n hX dX3_regard_17 rfl ?_
        refine s_if_lt hX 27 dX3_regard_18 (by decide) (fun c4 => ?_) (fun c4 => ?_)
        · have h := (if_pos c4).symm.trans h
          refine s_ic hX (-1 : Int32) dX3_regard_27 (by decide) ?_
          cases h
          exact s_iret hX hR dX3_regard_28
        · have h := (if_neg c4).symm.trans h
          refine s_iload_n hX dX3_regard_21 rfl ?_
          refine s_bi hX (99 : Int32) dX3_regard_22 (by decide) ?_
          refine s_ic_le hX 29 dX3_regard_24 (by decide) (fun c5 => ?_) (fun c5 => ?_)
          · have h := (if_pos c5).symm.trans h
            refine s_aload_n hX dX3_regard_29 rfl ?_
            refine s_getr hX dX3_regard_30 f_X3_24 rfl ?_
            refine s_getr hX dX3_regard_33 f_X3_113 rfl ?_
            refine s_getr hX dX3_regard_36 f_X3_125 rfl ?_
            refine s_iload_n hX dX3_regard_39 rfl ?_
            obtain ⟨g6, h⟩ := fs_gd h
            refine s_iald hX dX3_regard_40 g6 ?_
            refine s_aload_n hX dX3_regard_41 rfl ?_
            refine s_getr hX dX3_regard_42 f_X3_24 rfl ?_
            refine s_getr hX dX3_regard_45 f_X3_113 rfl ?_
            refine s_getr hX dX3_regard_48 f_X3_143 rfl ?_
            refine s_iload_n hX dX3_regard_51 rfl ?_
            obtain ⟨g7, h⟩ := fs_gd h
            refine s_iald hX dX3_regard_52 g7 ?_
            refine s_iload_n hX dX3_regard_53 rfl ?_
            refine s_iload_n hX dX3_regard_54 rfl ?_
            refine s_callS hX (as := [.int (σ 21 x1.toNatClampNeg), .int (σ 22 x1.toNatClampNeg), .int x2, .int x3]) dX3_regard_55 k_X3_146 v_X1_regardOf (m_X1_regardOf (σ 21 x1.toNatClampNeg) (σ 22 x1.toNatClampNeg) x2 x3 σ μ _ rfl) ⟨rfl, rfl⟩ ⟨(Nat.le_of_ble_eq_true rfl), (Nat.le_of_ble_eq_true rfl)⟩ rfl rfl (Nat.le_of_ble_eq_true rfl) ?_
            cases h
            exact s_iret hX hR dX3_regard_58
          · have h := (if_neg c5).symm.trans h
            refine s_ic hX (-1 : Int32) dX3_regard_27 (by decide) ?_
            cases h
            exact s_iret hX hR dX3_regard_28

-- X3_noKin
def F_X3_noKin (σ : fsS) : Int32 := if (σ 5 0) = 0 then (1 : Int32) else (0 : Int32)
theorem z_X3_noKin (σ : fsS) : F_X3_noKin  σ = 0 ∨ F_X3_noKin  σ = 1 := by
  unfold F_X3_noKin
  (repeat' split) <;> first | exact Or.inl rfl | exact Or.inr rfl
set_option maxRecDepth 20000 in
set_option maxHeartbeats 40000000 in
theorem m_X3_noKin   (σ : fsS) (μ : fsL) (out : Int32) (h : F_X3_noKin  σ = out) : fs_Met yX3_noKin cX3_noKin 1 (some .boolean) { frames := 0, cells := 0, slots := 0, locals := 0 } [.ref 0] σ μ (some (.int out)) σ μ := by
  unfold F_X3_noKin at h
  refine fs_intro (by decide +kernel) (Nat.le_of_ble_eq_true rfl) (fun X hX hR => ?_)
  show fs_PW X 0 [some (.ref 0)] [] σ μ
  refine s_aload_n hX dX3_noKin_0 rfl ?_
  refine s_getr hX dX3_noKin_1 f_X3_24 rfl ?_
  refine s_getr hX dX3_noKin_4 f_X3_113 rfl ?_
  refine s_geti hX dX3_noKin_7 f_X3_116 rfl ?_
  refine s_if_ne hX 17 dX3_noKin_10 (by decide) (fun c1 => ?_) (fun c1 => ?_)
  · have h := (if_neg c1).symm.trans h
    refine s_ic hX (0 : Int32) dX3_noKin_17 (by decide) ?_
    subst h
    exact s_zret hX (Or.inl rfl) hR dX3_noKin_18
  · have h := (if_pos c1).symm.trans h
    refine s_ic hX (1 : Int32) dX3_noKin_13 (by decide) ?_
    refine s_goto hX 18 dX3_noKin_14 (by decide) ?_
    subst h
    exact s_zret hX (Or.inr rfl) hR dX3_noKin_18

-- X3_quarter
def F_X3_quarter (σ : fsS) : Option (Int32 × fsS) := if (F_X3_noKin  σ) = 0 then if (σ 3 2) < (99 : Int32) then if (F_X0_wouldOverflow (1 : Int32) σ) = 0 then (F_X0_enter (F_X0_deed (0 : Int32) (0 : Int32) (0 : Int32) (0 : Int32)) σ).bind (fun q4 => some ((q4 5 9), q4)) else some ((-2 : Int32), σ) else some ((-4 : Int32), σ) else some ((-4 : Int32), σ)
set_option maxRecDepth 20000 in
set_option maxHeartbeats 40000000 in
theorem m_X3_quarter   (σ : fsS) (μ : fsL) (out : Int32 × fsS) (h : F_X3_quarter  σ = some out) : fs_Met yX3_quarter cX3_quarter 1 (some .int) { frames := 5, cells := 0, slots := 0, locals := 115 } [.ref 0] σ μ (some (.int out.1)) out.2 μ := by
  unfold F_X3_quarter at h
  refine fs_intro (by decide +kernel) (Nat.le_of_ble_eq_true rfl) (fun X hX hR => ?_)
  show fs_PW X 0 [some (.ref 0)] [] σ μ
  refine s_aload_n hX dX3_quarter_0 rfl ?_
  refine s_cV hX [] dX3_quarter_1 k_X3_150 v_X3_noKin (m_X3_noKin σ μ _ rfl) ⟨_, rfl⟩ fs_c3 ⟨rfl, rfl⟩ ⟨(Nat.le_of_ble_eq_true rfl), (Nat.le_of_ble_eq_true rfl)⟩ rfl rfl (Nat.le_of_ble_eq_true rfl) ?_
  refine s_if_ne hX 19 dX3_quarter_4 (by decide) (fun c1 => ?_) (fun c1 => ?_)
  · have h := (if_neg c1).symm.trans h
    refine s_bi hX (-4 : Int32) dX3_quarter_19 (by decide) ?_
    cases h
    exact s_iret hX hR dX3_quarter_21
  · have h := (if_pos c1).symm.trans h
    refine s_aload_n hX dX3_quarter_7 rfl ?_
    refine s_getr hX dX3_quarter_8 f_X3_24 rfl ?_
    refine s_geti hX dX3_quarter_11 f_X3_154 rfl ?_
    refine s_bi hX (99 : Int32) dX3_quarter_14 (by decide) ?_
    refine s_ic_lt hX 22 dX3_quarter_16 (by decide) (fun c2 => ?_) (fun c2 => ?_)
    · have h := (if_pos c2).symm.trans h
      refine s_aload_n hX dX3_quarter_22 rfl ?_
      refine s_getr hX dX3_quarter_23 f_X3_24 rfl ?_
      refine s_ic hX (1 : Int32) dX3_quarter_26 (by decide) ?_
      refine s_cV hX [.int (1 : Int32)] dX3_quarter_27 k_X3_157 v_X0_wouldOverflow (m_X0_wouldOverflow (1 : Int32) σ μ _ rfl) ⟨_, rfl⟩ fs_c0 ⟨rfl, rfl⟩ ⟨(Nat.le_of_ble_eq_true rfl), (Nat.le_of_ble_eq_true rfl)⟩ rfl rfl (Nat.le_of_ble_eq_true rfl) ?_
      refine s_if_eq hX 36 dX3_quarter_30 (by decide) (fun c3 => ?_) (fun c3 => ?_)
      · have h := (if_pos c3).symm.trans h
        refine s_aload_n hX dX3_quarter_36 rfl ?_
        refine s_getr hX dX3_quarter_37 f_X3_24 rfl ?_
        refine s_ic hX (0 : Int32) dX3_quarter_40 (by decide) ?_
        refine s_ic hX (0 : Int32) dX3_quarter_41 (by decide) ?_
        refine s_ic hX (0 : Int32) dX3_quarter_42 (by decide) ?_
        refine s_ic hX (0 : Int32) dX3_quarter_43 (by decide) ?_
        refine s_callS hX (as := [.int (0 : Int32), .int (0 : Int32), .int (0 : Int32), .int (0 : Int32)]) dX3_quarter_44 k_X3_160 v_X0_deed (m_X0_deed (0 : Int32) (0 : Int32) (0 : Int32) (0 : Int32) σ μ _ rfl) ⟨rfl, rfl⟩ ⟨(Nat.le_of_ble_eq_true rfl), (Nat.le_of_ble_eq_true rfl)⟩ rfl rfl (Nat.le_of_ble_eq_true rfl) ?_
        obtain ⟨q4, e4, h⟩ := fs_bind h
        refine s_cV hX [.int (F_X0_deed (0 : Int32) (0 : Int32) (0 : Int32) (0 : Int32))] dX3_quarter_47 k_X3_163 v_X0_enter (m_X0_enter (F_X0_deed (0 : Int32) (0 : Int32) (0 : Int32) (0 : Int32)) σ μ q4 e4) ⟨_, rfl⟩ fs_c0 ⟨rfl, rfl⟩ ⟨(Nat.le_of_ble_eq_true rfl), (Nat.le_of_ble_eq_true rfl)⟩ rfl rfl (Nat.le_of_ble_eq_true rfl) ?_
        refine s_aload_n hX dX3_quarter_50 rfl ?_
        refine s_getr hX dX3_quarter_51 f_X3_24 rfl ?_
        refine s_getr hX dX3_quarter_54 f_X3_113 rfl ?_
        refine s_geti hX dX3_quarter_57 f_X3_167 rfl ?_
        cases h
        exact s_iret hX hR dX3_quarter_60
      · have h := (if_neg c3).symm.trans h
        refine s_bi hX (-2 : Int32) dX3_quarter_33 (by decide) ?_
        cases h
        exact s_iret hX hR dX3_quarter_35
    · have h := (if_neg c2).symm.trans h
      refine s_bi hX (-4 : Int32) dX3_quarter_19 (by decide) ?_
      cases h
      exact s_iret hX hR dX3_quarter_21

-- X3_soot
def F_X3_soot (x1 : Int32) (σ : fsS) : Option (Int32 × fsS) := if (F_X3_isKin x1 σ) = 0 then some ((-1 : Int32), σ) else fs_g (fs_in x1 6) (if (σ 25 x1.toNatClampNeg) < (3 : Int32) then if (F_X0_wouldOverflow (1 : Int32) σ) = 0 then (F_X0_enter (F_X0_deed (1 : Int32) x1 (0 : Int32) (0 : Int32)) σ).bind (fun q5 => fs_g (fs_in x1 6) (some ((q5 25 x1.toNatClampNeg), q5))) else some ((-2 : Int32), σ) else some ((-4 : Int32), σ))
set_option maxRecDepth 20000 in
set_option maxHeartbeats 40000000 in
theorem m_X3_soot (x1 : Int32)  (σ : fsS) (μ : fsL) (out : Int32 × fsS) (h : F_X3_soot x1 σ = some out) : fs_Met yX3_soot cX3_soot 2 (some .int) { frames := 5, cells := 0, slots := 0, locals := 115 } [.ref 0, .int x1] σ μ (some (.int out.1)) out.2 μ := by
  unfold F_X3_soot at h
  refine fs_intro (by decide +kernel) (Nat.le_of_ble_eq_true rfl) (fun X hX hR => ?_)
  show fs_PW X 0 [some (.ref 0), some (.int x1)] [] σ μ
  refine s_aload_n hX dX3_soot_0 rfl ?_
  refine s_iload_n hX dX3_soot_1 rfl ?_
  refine s_cV hX [.int x1] dX3_soot_2 k_X3_119 v_X3_isKin (m_X3_isKin x1 σ μ _ rfl) ⟨_, rfl⟩ fs_c3 ⟨rfl, rfl⟩ ⟨(Nat.le_of_ble_eq_true rfl), (Nat.le_of_ble_eq_true rfl)⟩ rfl rfl (Nat.le_of_ble_eq_true rfl) ?_
  refine s_if_ne hX 10 dX3_soot_5 (by decide) (fun c1 => ?_) (fun c1 => ?_)
  · have h := (if_neg c1).symm.trans h
    refine s_aload_n hX dX3_soot_10 rfl ?_
    refine s_getr hX dX3_soot_11 f_X3_24 rfl ?_
    refine s_getr hX dX3_soot_14 f_X3_113 rfl ?_
    refine s_getr hX dX3_soot_17 f_X3_170 rfl ?_
    refine s_iload_n hX dX3_soot_20 rfl ?_
    obtain ⟨g2, h⟩ := fs_gd h
    refine s_iald hX dX3_soot_21 g2 ?_
    refine s_ic hX (3 : Int32) dX3_soot_22 (by decide) ?_
    refine s_ic_lt hX 29 dX3_soot_23 (by decide) (fun c3 => ?_) (fun c3 => ?_)
    · have h := (if_pos c3).symm.trans h
      refine s_aload_n hX dX3_soot_29 rfl ?_
      refine s_getr hX dX3_soot_30 f_X3_24 rfl ?_
      refine s_ic hX (1 : Int32) dX3_soot_33 (by decide) ?_
      refine s_cV hX [.int (1 : Int32)] dX3_soot_34 k_X3_157 v_X0_wouldOverflow (m_X0_wouldOverflow (1 : Int32) σ μ _ rfl) ⟨_, rfl⟩ fs_c0 ⟨rfl, rfl⟩ ⟨(Nat.le_of_ble_eq_true rfl), (Nat.le_of_ble_eq_true rfl)⟩ rfl rfl (Nat.le_of_ble_eq_true rfl) ?_
      refine s_if_eq hX 43 dX3_soot_37 (by decide) (fun c4 => ?_) (fun c4 => ?_)
      · have h := (if_pos c4).symm.trans h
        refine s_aload_n hX dX3_soot_43 rfl ?_
        refine s_getr hX dX3_soot_44 f_X3_24 rfl ?_
        refine s_ic hX (1 : Int32) dX3_soot_47 (by decide) ?_
        refine s_iload_n hX dX3_soot_48 rfl ?_
        refine s_ic hX (0 : Int32) dX3_soot_49 (by decide) ?_
        refine s_ic hX (0 : Int32) dX3_soot_50 (by decide) ?_
        refine s_callS hX (as := [.int (1 : Int32), .int x1, .int (0 : Int32), .int (0 : Int32)]) dX3_soot_51 k_X3_160 v_X0_deed (m_X0_deed (1 : Int32) x1 (0 : Int32) (0 : Int32) σ μ _ rfl) ⟨rfl, rfl⟩ ⟨(Nat.le_of_ble_eq_true rfl), (Nat.le_of_ble_eq_true rfl)⟩ rfl rfl (Nat.le_of_ble_eq_true rfl) ?_
        obtain ⟨q5, e5, h⟩ := fs_bind h
        refine s_cV hX [.int (F_X0_deed (1 : Int32) x1 (0 : Int32) (0 : Int32))] dX3_soot_54 k_X3_163 v_X0_enter (m_X0_enter (F_X0_deed (1 : Int32) x1 (0 : Int32) (0 : Int32)) σ μ q5 e5) ⟨_, rfl⟩ fs_c0 ⟨rfl, rfl⟩ ⟨(Nat.le_of_ble_eq_true rfl), (Nat.le_of_ble_eq_true rfl)⟩ rfl rfl (Nat.le_of_ble_eq_true rfl) ?_
        refine s_aload_n hX dX3_soot_57 rfl ?_
        refine s_getr hX dX3_soot_58 f_X3_24 rfl ?_
        refine s_getr hX dX3_soot_61 f_X3_113 rfl ?_
        refine s_getr hX dX3_soot_64 f_X3_170 rfl ?_
        refine s_iload_n hX dX3_soot_67 rfl ?_
        obtain ⟨g6, h⟩ := fs_gd h
        refine s_iald hX dX3_soot_68 g6 ?_
        cases h
        exact s_iret hX hR dX3_soot_69
      · have h := (if_neg c4).symm.trans h
        refine s_bi hX (-2 : Int32) dX3_soot_40 (by decide) ?_
        cases h
        exact s_iret hX hR dX3_soot_42
    · have h := (if_neg c3).symm.trans h
      refine s_bi hX (-4 : Int32) dX3_soot_26 (by decide) ?_
      cases h
      exact s_iret hX hR dX3_soot_28
  · have h := (if_pos c1).symm.trans h
    refine s_ic hX (-1 : Int32) dX3_soot_8 (by decide) ?_
    cases h
    exact s_iret hX hR dX3_soot_9

-- X3_wash
def F_X3_wash (x1 : Int32) (σ : fsS) : Option (Int32 × fsS) := if (F_X3_isKin x1 σ) = 0 then some ((-1 : Int32), σ) else fs_g (fs_in x1 6) (if (σ 25 x1.toNatClampNeg) = 0 then some ((-4 : Int32), σ) else if (F_X0_wouldOverflow (1 : Int32) σ) = 0 then (F_X0_enter (F_X0_deed (2 : Int32) x1 (0 : Int32) (0 : Int32)) σ).bind (fun q5 => some ((σ 25 x1.toNatClampNeg), q5)) else some ((-2 : Int32), σ))
set_option maxRecDepth 20000 in
set_option maxHeartbeats 40000000 in
theorem m_X3_wash (x1 : Int32)  (σ : fsS) (μ : fsL) (out : Int32 × fsS) (h : F_X3_wash x1 σ = some out) : fs_Met yX3_wash cX3_wash 3 (some .int) { frames := 5, cells := 0, slots := 0, locals := 115 } [.ref 0, .int x1] σ μ (some (.int out.1)) out.2 μ := by
  unfold F_X3_wash at h
  refine fs_intro (by decide +kernel) (Nat.le_of_ble_eq_true rfl) (fun X hX hR => ?_)
  show fs_PW X 0 [some (.ref 0), some (.int x1), none] [] σ μ
  refine s_aload_n hX dX3_wash_0 rfl ?_
  refine s_iload_n hX dX3_wash_1 rfl ?_
  refine s_cV hX [.int x1] dX3_wash_2 k_X3_119 v_X3_isKin (m_X3_isKin x1 σ μ _ rfl) ⟨_, rfl⟩ fs_c3 ⟨rfl, rfl⟩ ⟨(Nat.le_of_ble_eq_true rfl), (Nat.le_of_ble_eq_true rfl)⟩ rfl rfl (Nat.le_of_ble_eq_true rfl) ?_
  refine s_if_ne hX 10 dX3_wash_5 (by decide) (fun c1 => ?_) (fun c1 => ?_)
  · have h := (if_neg c1).symm.trans h
    refine s_aload_n hX dX3_wash_10 rfl ?_
    refine s_getr hX dX3_wash_11 f_X3_24 rfl ?_
    refine s_getr hX dX3_wash_14 f_X3_113 rfl ?_
    refine s_getr hX dX3_wash_17 f_X3_170 rfl ?_
    refine s_iload_n hX dX3_wash_20 rfl ?_
    obtain ⟨g2, h⟩ := fs_gd h
    refine s_iald hX dX3_wash_21 g2 ?_
    refine s_istore_n hX dX3_wash_22 (Nat.le_of_ble_eq_true rfl) ?_
    refine s_iload_n hX dX3_wash_23 rfl ?_
    refine s_if_ne hX 30 dX3_wash_24 (by decide) (fun c3 => ?_) (fun c3 => ?_)
    · have h := (if_neg c3).symm.trans h
      refine s_aload_n hX dX3_wash_30 rfl ?_
      refine s_getr hX dX3_wash_31 f_X3_24 rfl ?_
      refine s_ic hX (1 : Int32) dX3_wash_34 (by decide) ?_
      refine s_cV hX [.int (1 : Int32)] dX3_wash_35 k_X3_157 v_X0_wouldOverflow (m_X0_wouldOverflow (1 : Int32) σ μ _ rfl) ⟨_, rfl⟩ fs_c0 ⟨rfl, rfl⟩ ⟨(Nat.le_of_ble_eq_true rfl), (Nat.le_of_ble_eq_true rfl)⟩ rfl rfl (Nat.le_of_ble_eq_true rfl) ?_
      refine s_if_eq hX 44 dX3_wash_38 (by decide) (fun c4 => ?_) (fun c4 => ?_)
      · have h := (if_pos c4).symm.trans h
        refine s_aload_n hX dX3_wash_44 rfl ?_
        refine s_getr hX dX3_wash_45 f_X3_24 rfl ?_
        refine s_ic hX (2 : Int32) dX3_wash_48 (by decide) ?_
        refine s_iload_n hX dX3_wash_49 rfl ?_
        refine s_ic hX (0 : Int32) dX3_wash_50 (by decide) ?_
        refine s_ic hX (0 : Int32) dX3_wash_51 (by decide) ?_
        refine s_callS hX (as := [.int (2 : Int32), .int x1, .int (0 : Int32), .int (0 : Int32)]) dX3_wash_52 k_X3_160 v_X0_deed (m_X0_deed (2 : Int32) x1 (0 : Int32) (0 : Int32) σ μ _ rfl) ⟨rfl, rfl⟩ ⟨(Nat.le_of_ble_eq_true rfl), (Nat.le_of_ble_eq_true rfl)⟩ rfl rfl (Nat.le_of_ble_eq_true rfl) ?_
        obtain ⟨q5, e5, h⟩ := fs_bind h
        refine s_cV hX [.int (F_X0_deed (2 : Int32) x1 (0 : Int32) (0 : Int32))] dX3_wash_55 k_X3_163 v_X0_enter (m_X0_enter (F_X0_deed (2 : Int32) x1 (0 : Int32) (0 : Int32)) σ μ q5 e5) ⟨_, rfl⟩ fs_c0 ⟨rfl, rfl⟩ ⟨(Nat.le_of_ble_eq_true rfl), (Nat.le_of_ble_eq_true rfl)⟩ rfl rfl (Nat.le_of_ble_eq_true rfl) ?_
        refine s_iload_n hX dX3_wash_58 rfl ?_
        cases h
        exact s_iret hX hR dX3_wash_59
      · have h := (if_neg c4).symm.trans h
        refine s_bi hX (-2 : Int32) dX3_wash_41 (by decide) ?_
        cases h
        exact s_iret hX hR dX3_wash_43
    · have h := (if_pos c3).symm.trans h
      refine s_bi hX (-4 : Int32) dX3_wash_27 (by decide) ?_
      cases h
      exact s_iret hX hR dX3_wash_29
  · have h := (if_pos c1).symm.trans h
    refine s_ic hX (-1 : Int32) dX3_wash_8 (by decide) ?_
    cases h
    exact s_iret hX hR dX3_wash_9

-- X3_areTwo
def F_X3_areTwo (x1 : Int32) (x2 : Int32) (σ : fsS) : Int32 := if (F_X3_isKin x1 σ) = 0 then (0 : Int32) else if (F_X3_isKin x2 σ) = 0 then (0 : Int32) else if x1 = x2 then (0 : Int32) else (1 : Int32)
theorem z_X3_areTwo (x1 : Int32) (x2 : Int32) (σ : fsS) : F_X3_areTwo x1 x2 σ = 0 ∨ F_X3_areTwo x1 x2 σ = 1 := by
  unfold F_X3_areTwo
  (repeat' split) <;> first | exact Or.inl rfl | exact Or.inr rfl
set_option maxRecDepth 20000 in
set_option maxHeartbeats 40000000 in
theorem m_X3_areTwo (x1 : Int32) (x2 : Int32)  (σ : fsS) (μ : fsL) (out : Int32) (h : F_X3_areTwo x1 x2 σ = out) : fs_Met yX3_areTwo cX3_areTwo 3 (some .boolean) { frames := 1, cells := 0, slots := 0, locals := 21 } [.ref 0, .int x1, .int x2] σ μ (some (.int out)) σ μ := by
  unfold F_X3_areTwo at h
  refine fs_intro (by decide +kernel) (Nat.le_of_ble_eq_true rfl) (fun X hX hR => ?_)
  show fs_PW X 0 [some (.ref 0), some (.int x1), some (.int x2)] [] σ μ
  refine s_aload_n hX dX3_areTwo_0 rfl ?_
  refine s_iload_n hX dX3_areTwo_1 rfl ?_
  refine s_cV hX [.int x1] dX3_areTwo_2 k_X3_119 v_X3_isKin (m_X3_isKin x1 σ μ _ rfl) ⟨_, rfl⟩ fs_c3 ⟨rfl, rfl⟩ ⟨(Nat.le_of_ble_eq_true rfl), (Nat.le_of_ble_eq_true rfl)⟩ rfl rfl (Nat.le_of_ble_eq_true rfl) ?_
  refine s_if_eq hX 25 dX3_areTwo_5 (by decide) (fun c1 => ?_) (fun c1 => ?_)
  · have h := (if_pos c1).symm.trans h
    refine s_ic hX (0 : Int32) dX3_areTwo_25 (by decide) ?_
    subst h
    exact s_zret hX (Or.inl rfl) hR dX3_areTwo_26
  · have h := (if_neg c1).symm.trans h
    refine s_aload_n hX dX3_areTwo_8 rfl ?_
    refine s_iload_n hX dX3_areTwo_9 rfl ?_
    refine s_cV hX [.int x2] dX3_areTwo_10 k_X3_119 v_X3_isKin (m_X3_isKin x2 σ μ _ rfl) ⟨_, rfl⟩ fs_c3 ⟨rfl, rfl⟩ ⟨(Nat.le_of_ble_eq_true rfl), (Nat.le_of_ble_eq_true rfl)⟩ rfl rfl (Nat.le_of_ble_eq_true rfl) ?_
    refine s_if_eq hX 25 dX3_areTwo_13 (by decide) (fun c2 => ?_) (fun c2 => ?_)
    · have h := (if_pos c2).symm.trans h
      refine s_ic hX (0 : Int32) dX3_areTwo_25 (by decide) ?_
      subst h
      exact s_zret hX (Or.inl rfl) hR dX3_areTwo_26
    · have h := (if_neg c2).symm.trans h
      refine s_iload_n hX dX3_areTwo_16 rfl ?_
      refine s_iload_n hX dX3_areTwo_17 rfl ?_
      refine s_ic_eq hX 25 dX3_areTwo_18 (by decide) (fun c3 => ?_) (fun c3 => ?_)
      · have h := (if_pos c3).symm.trans h
        refine s_ic hX (0 : Int32) dX3_areTwo_25 (by decide) ?_
        subst h
        exact s_zret hX (Or.inl rfl) hR dX3_areTwo_26
      · have h := (if_neg c3).symm.trans h
        refine s_ic hX (1 : Int32) dX3_areTwo_21 (by decide) ?_
        refine s_goto hX 26 dX3_areTwo_22 (by decide) ?_
        subst h
        exact s_zret hX (Or.inr rfl) hR dX3_areTwo_26

-- X3_gift
def F_X3_gift (x1 : Int32) (x2 : Int32) (x3 : Int32) (σ : fsS) : Option (Int32 × fsS) := if (F_X3_areTwo x1 x2 σ) = 0 then some ((-1 : Int32), σ) else if x3 < (1 : Int32) then some ((-1 : Int32), σ) else if x3 ≤ (99 : Int32) then fs_g (fs_in x1 6) (if x3 ≤ (σ 24 x1.toNatClampNeg) then if (F_X0_wouldOverflow (1 : Int32) σ) = 0 then (F_X0_enter (F_X0_deed (3 : Int32) x1 x2 x3) σ).bind (fun q7 => fs_g (fs_in x2 6) (some ((q7 24 x2.toNatClampNeg), q7))) else some ((-2 : Int32), σ) else some ((-4 : Int32), σ)) else some ((-1 : Int32), σ)
set_option maxRecDepth 20000 in
set_option maxHeartbeats 40000000 in
theorem m_X3_gift (x1 : Int32) (x2 : Int32) (x3 : Int32)  (σ : fsS) (μ : fsL) (out : Int32 × fsS) (h : F_X3_gift x1 x2 x3 σ = some out) : fs_Met yX3_gift cX3_gift 4 (some .int) { frames := 5, cells := 0, slots := 0, locals := 115 } [.ref 0, .int x1, .int x2, .int x3] σ μ (some (.int out.1)) out.2 μ := by
  unfold F_X3_gift at h
  refine fs_intro (by decide +kernel) (Nat.le_of_ble_eq_true rfl) (fun X hX hR => ?_)
  show fs_PW X 0 [some (.ref 0), some (.int x1), some (.int x2), some (.int x3)] [] σ μ
  refine s_aload_n hX dX3_gift_0 rfl ?_
  refine s_iload_n hX dX3_gift_1 rfl ?_
  refine s_iload_n hX dX3_gift_2 rfl ?_
  refine s_cV hX [.int x1, .int x2] dX3_gift_3 k_X3_173 v_X3_areTwo (m_X3_areTwo x1 x2 σ μ _ rfl) ⟨_, rfl⟩ fs_c3 ⟨rfl, rfl⟩ ⟨(Nat.le_of_ble_eq_true rfl), (Nat.le_of_ble_eq_true rfl)⟩ rfl rfl (Nat.le_of_ble_eq_true rfl) ?_
  refine s_if_eq hX 20 dX3_gift_6 (by decide) (fun c1 => ?_) (fun c1 => ?_)
  · have h := (if_pos c1).symm.trans h
    refine s_ic hX (-1 : Int32) dX3_gift_20 (by decide) ?_
    cases h
    exact s_iret hX hR dX3_gift_21
  · have h := (if_neg c1).symm.trans h
    refine s_iload_n hX dX3_gift_9 rfl ?_
    refine s_ic hX (1 : Int32) dX3_gift_10 (by decide) ?_
    refine s_ic_lt hX 20 dX3_gift_11 (by decide) (fun c2 => ?_) (fun c2 => ?_)
    · have h := (if_pos c2).symm.trans h
      refine s_ic hX (-1 : Int32) dX3_gift_20 (by decide) ?_
      cases h
      exact s_iret hX hR dX3_gift_21
    · have h := (if_neg c2).symm.trans h
      refine s_iload_n hX dX3_gift_14 rfl ?_
      refine s_bi hX (99 : Int32) dX3_gift_15 (by decide) ?_
      refine s_ic_le hX 22 dX3_gift_17 (by decide) (fun c3 => ?_) (fun c3 => ?_)
      · have h := (if_pos c3).symm.trans h
        refine s_aload_n hX dX3_gift_22 rfl ?_
        refine s_getr hX dX3_gift_23 f_X3_24 rfl ?_
        refine s_getr hX dX3_gift_26 f_X3_113 rfl ?_
        refine s_getr hX dX3_gift_29 f_X3_176 rfl ?_
        refine s_iload_n hX dX3_gift_32 rfl ?_
        obtain ⟨g4, h⟩ := fs_gd h
        refine s_iald hX dX3_gift_33 g4 ?_
        refine s_iload_n hX dX3_gift_34 rfl ?_
        refine s_ic_ge hX 41 dX3_gift_35 (by decide) (fun c5 => ?_) (fun c5 => ?_)
        · have h := (if_pos c5).symm.trans h
          refine s_aload_n hX dX3_gift_41 rfl ?_
          refine s_getr hX dX3_gift_42 f_X3_24 rfl ?_
          refine s_ic hX (1 : Int32) dX3_gift_45 (by decide) ?_
          refine s_cV hX [.int (1 : Int32)] dX3_gift_46 k_X3_157 v_X0_wouldOverflow (m_X0_wouldOverflow (1 : Int32) σ μ _ rfl) ⟨_, rfl⟩ fs_c0 ⟨rfl, rfl⟩ ⟨(Nat.le_of_ble_eq_true rfl), (Nat.le_of_ble_eq_true rfl)⟩ rfl rfl (Nat.le_of_ble_eq_true rfl) ?_
          refine s_if_eq hX 55 dX3_gift_49 (by decide) (fun c6 => ?_) (fun c6 => ?_)
          · have h := (if_pos c6).symm.trans h
            refine s_aload_n hX dX3_gift_55 rfl ?_
            refine s_getr hX dX3_gift_56 f_X3_24 rfl ?_
            refine s_ic hX (3 : Int32) dX3_gift_59 (by decide) ?_
            refine s_iload_n hX dX3_gift_60 rfl ?_
            refine s_iload_n hX dX3_gift_61 rfl ?_
            refine s_iload_n hX dX3_gift_62 rfl ?_
            refine s_callS hX (as := [.int (3 : Int32), .int x1, .int x2, .int x3]) dX3_gift_63 k_X3_160 v_X0_deed (m_X0_deed (3 : Int32) x1 x2 x3 σ μ _ rfl) ⟨rfl, rfl⟩ ⟨(Nat.le_of_ble_eq_true rfl), (Nat.le_of_ble_eq_true rfl)⟩ rfl rfl (Nat.le_of_ble_eq_true rfl) ?_
            obtain ⟨q7, e7, h⟩ := fs_bind h
            refine s_cV hX [.int (F_X0_deed (3 : Int32) x1 x2 x3)] dX3_gift_66 k_X3_163 v_X0_enter (m_X0_enter (F_X0_deed (3 : Int32) x1 x2 x3) σ μ q7 e7) ⟨_, rfl⟩ fs_c0 ⟨rfl, rfl⟩ ⟨(Nat.le_of_ble_eq_true rfl), (Nat.le_of_ble_eq_true rfl)⟩ rfl rfl (Nat.le_of_ble_eq_true rfl) ?_
            refine s_aload_n hX dX3_gift_69 rfl ?_
            refine s_getr hX dX3_gift_70 f_X3_24 rfl ?_
            refine s_getr hX dX3_gift_73 f_X3_113 rfl ?_
            refine s_getr hX dX3_gift_76 f_X3_176 rfl ?_
            refine s_iload_n hX dX3_gift_79 rfl ?_
            obtain ⟨g8, h⟩ := fs_gd h
            refine s_iald hX dX3_gift_80 g8 ?_
            cases h
            exact s_iret hX hR dX3_gift_81
          · have h := (if_neg c6).symm.trans h
            refine s_bi hX (-2 : Int32) dX3_gift_52 (by decide) ?_
            cases h
            exact s_iret hX hR dX3_gift_54
        · have h := (if_neg c5).symm.trans h
          refine s_bi hX (-4 : Int32) dX3_gift_38 (by decide) ?_
          cases h
          exact s_iret hX hR dX3_gift_40
      · have h := (if_neg c3).symm.trans h
        refine s_ic hX (-1 : Int32) dX3_gift_20 (by decide) ?_
        cases h
        exact s_iret hX hR dX3_gift_21
