-- X4_wash
def F_X4_wash (x1 : Int32) (σ : fsS) : Option (Int32 × fsS) := if (F_X4_isOne x1 σ) = 0 then some ((-1 : Int32), σ) else fs_g (fs_in ((7 : Int32) + x1) 13) (if (σ 60 ((7 : Int32) + x1).toNatClampNeg) = 0 then some ((-4 : Int32), σ) else if (σ 51 17) = (40 : Int32) then some ((-2 : Int32), σ) else (F_X4_remember  σ).bind (fun q5 => fs_g (fs_in ((7 : Int32) + x1) 13) (fs_g (fs_in ((7 : Int32) + x1) 13) (some ((q5 60 ((7 : Int32) + x1).toNatClampNeg), (fs_u q5 60 ((7 : Int32) + x1).toNatClampNeg (0 : Int32)))))))
set_option maxRecDepth 20000 in
set_option maxHeartbeats 40000000 in
theorem m_X4_wash (x1 : Int32)  (σ : fsS) (μ : fsL) (out : Int32 × fsS) (h : F_X4_wash x1 σ = some out) : fs_Met yX4_wash cX4_wash 3 (some .int) { frames := 2, cells := 0, slots := 0, locals := 46 } [.ref 51, .int x1] σ μ (some (.int out.1)) out.2 μ := by
  unfold F_X4_wash at h
  refine fs_intro (by decide +kernel) (Nat.le_of_ble_eq_true rfl) (fun X hX hR => ?_)
  show fs_PW X 0 [some (.ref 51), some (.int x1), none] [] σ μ
  refine s_aload_n hX dX4_wash_0 rfl ?_
  refine s_iload_n hX dX4_wash_1 rfl ?_
  refine s_cV hX [.int x1] dX4_wash_2 k_X4_157 v_X4_isOne (m_X4_isOne x1 σ μ _ rfl) ⟨_, rfl⟩ fs_c4 ⟨rfl, rfl⟩ ⟨(Nat.le_of_ble_eq_true rfl), (Nat.le_of_ble_eq_true rfl)⟩ rfl rfl (Nat.le_of_ble_eq_true rfl) ?_
  refine s_if_ne hX 10 dX4_wash_5 (by decide) (fun c1 => ?_) (fun c1 => ?_)
  · have h := (if_neg c1).symm.trans h
    refine s_aload_n hX dX4_wash_10 rfl ?_
    refine s_getr hX dX4_wash_11 f_X4_38 rfl ?_
    refine s_bi hX (7 : Int32) dX4_wash_14 (by decide) ?_
    refine s_iload_n hX dX4_wash_16 rfl ?_
    refine s_iadd hX dX4_wash_17 ?_
    obtain ⟨g2, h⟩ := fs_gd h
    refine s_iald hX dX4_wash_18 g2 ?_
    refine s_if_ne hX 25 dX4_wash_19 (by decide) (fun c3 => ?_) (fun c3 => ?_)
    · have h := (if_neg c3).symm.trans h
      refine s_aload_n hX dX4_wash_25 rfl ?_
      refine s_geti hX dX4_wash_26 f_X4_94 rfl ?_
      refine s_bi hX (40 : Int32) dX4_wash_29 (by decide) ?_
      refine s_ic_ne hX 37 dX4_wash_31 (by decide) (fun c4 => ?_) (fun c4 => ?_)
      · have h := (if_neg c4).symm.trans h
        refine s_aload_n hX dX4_wash_37 rfl ?_
        obtain ⟨q5, e5, h⟩ := fs_bind h
        refine s_cV hX [] dX4_wash_38 k_X4_178 v_X4_remember (m_X4_remember σ μ q5 e5) ⟨_, rfl⟩ fs_c4 ⟨rfl, rfl⟩ ⟨(Nat.le_of_ble_eq_true rfl), (Nat.le_of_ble_eq_true rfl)⟩ rfl rfl (Nat.le_of_ble_eq_true rfl) ?_
        refine s_aload_n hX dX4_wash_41 rfl ?_
        refine s_getr hX dX4_wash_42 f_X4_38 rfl ?_
        refine s_bi hX (7 : Int32) dX4_wash_45 (by decide) ?_
        refine s_iload_n hX dX4_wash_47 rfl ?_
        refine s_iadd hX dX4_wash_48 ?_
        obtain ⟨g6, h⟩ := fs_gd h
        refine s_iald hX dX4_wash_49 g6 ?_
        refine s_istore_n hX dX4_wash_50 (Nat.le_of_ble_eq_true rfl) ?_
        refine s_aload_n hX dX4_wash_51 rfl ?_
        refine s_getr hX dX4_wash_52 f_X4_38 rfl ?_
        refine s_bi hX (7 : Int32) dX4_wash_55 (by decide) ?_
        refine s_iload_n hX dX4_wash_57 rfl ?_
        refine s_iadd hX dX4_wash_58 ?_
        refine s_ic hX (0 : Int32) dX4_wash_59 (by decide) ?_
        obtain ⟨g7, h⟩ := fs_gd h
        refine s_iast hX dX4_wash_60 g7 ?_
        refine s_iload_n hX dX4_wash_61 rfl ?_
        cases h
        exact s_iret hX hR dX4_wash_62
      · have h := (if_pos c4).symm.trans h
        refine s_bi hX (-2 : Int32) dX4_wash_34 (by decide) ?_
        cases h
        exact s_iret hX hR dX4_wash_36
    · have h := (if_pos c3).symm.trans h
      refine s_bi hX (-4 : Int32) dX4_wash_22 (by decide) ?_
      cases h
      exact s_iret hX hR dX4_wash_24
  · have h := (if_pos c1).symm.trans h
    refine s_ic hX (-1 : Int32) dX4_wash_8 (by decide) ?_
    cases h
    exact s_iret hX hR dX4_wash_9

-- X4_gift
def F_X4_gift (x1 : Int32) (x2 : Int32) (x3 : Int32) (σ : fsS) : Option (Int32 × fsS) := if (F_X4_isOne x1 σ) = 0 then some ((-1 : Int32), σ) else if (F_X4_isOne x2 σ) = 0 then some ((-1 : Int32), σ) else if x1 = x2 then some ((-1 : Int32), σ) else if (F_X4_in (x3.toInt64) (1 : Int64) (99 : Int64)) = 0 then some ((-1 : Int32), σ) else fs_g (fs_in ((1 : Int32) + x1) 13) (if x3 ≤ (σ 60 ((1 : Int32) + x1).toNatClampNeg) then if (σ 51 17) = (40 : Int32) then some ((-2 : Int32), σ) else (F_X4_remember  σ).bind (fun q8 => fs_g (fs_in ((1 : Int32) + x1) 13) (fs_g (fs_in ((1 : Int32) + x1) 13) (fs_g (fs_in ((1 : Int32) + x2) 13) (fs_g (fs_in ((1 : Int32) + x2) 13) (fs_g (fs_in ((1 : Int32) + x2) 13) (some (((fs_u (fs_u q8 60 ((1 : Int32) + x1).toNatClampNeg ((q8 60 ((1 : Int32) + x1).toNatClampNeg) - x3)) 60 ((1 : Int32) + x2).toNatClampNeg (F_X4_lesser (99 : Int32) (((fs_u q8 60 ((1 : Int32) + x1).toNatClampNeg ((q8 60 ((1 : Int32) + x1).toNatClampNeg) - x3)) 60 ((1 : Int32) + x2).toNatClampNeg) + x3))) 60 ((1 : Int32) + x2).toNatClampNeg), (fs_u (fs_u q8 60 ((1 : Int32) + x1).toNatClampNeg ((q8 60 ((1 : Int32) + x1).toNatClampNeg) - x3)) 60 ((1 : Int32) + x2).toNatClampNeg (F_X4_lesser (99 : Int32) (((fs_u q8 60 ((1 : Int32) + x1).toNatClampNeg ((q8 60 ((1 : Int32) + x1).toNatClampNeg) - x3)) 60 ((1 : Int32) + x2).toNatClampNeg) + x3)))))))))) else some ((-4 : Int32), σ))
set_option maxRecDepth 20000 in
set_option maxHeartbeats 40000000 in
theorem m_X4_gift (x1 : Int32) (x2 : Int32) (x3 : Int32)  (σ : fsS) (μ : fsL) (out : Int32 × fsS) (h : F_X4_gift x1 x2 x3 σ = some out) : fs_Met yX4_gift cX4_gift 4 (some .int) { frames := 2, cells := 0, slots := 0, locals := 46 } [.ref 51, .int x1, .int x2, .int x3] σ μ (some (.int out.1)) out.2 μ := by
  unfold F_X4_gift at h
  refine fs_intro (by decide +kernel) (Nat.le_of_ble_eq_true rfl) (fun X hX hR => ?_)
  show fs_PW X 0 [some (.ref 51), some (.int x1), some (.int x2), some (.int x3)] [] σ μ
  refine s_aload_n hX dX4_gift_0 rfl ?_
  refine s_iload_n hX dX4_gift_1 rfl ?_
  refine s_cV hX [.int x1] dX4_gift_2 k_X4_157 v_X4_isOne (m_X4_isOne x1 σ μ _ rfl) ⟨_, rfl⟩ fs_c4 ⟨rfl, rfl⟩ ⟨(Nat.le_of_ble_eq_true rfl), (Nat.le_of_ble_eq_true rfl)⟩ rfl rfl (Nat.le_of_ble_eq_true rfl) ?_
  refine s_if_eq hX 33 dX4_gift_5 (by decide) (fun c1 => ?_) (fun c1 => ?_)
  · have h := (if_pos c1).symm.trans h
    refine s_ic hX (-1 : Int32) dX4_gift_33 (by decide) ?_
    cases h
    exact s_iret hX hR dX4_gift_34
  · have h := (if_neg c1).symm.trans h
    refine s_aload_n hX dX4_gift_8 rfl ?_
    refine s_iload_n hX dX4_gift_9 rfl ?_
    refine s_cV hX [.int x2] dX4_gift_10 k_X4_157 v_X4_isOne (m_X4_isOne x2 σ μ _ rfl) ⟨_, rfl⟩ fs_c4 ⟨rfl, rfl⟩ ⟨(Nat.le_of_ble_eq_true rfl), (Nat.le_of_ble_eq_true rfl)⟩ rfl rfl (Nat.le_of_ble_eq_true rfl) ?_
    refine s_if_eq hX 33 dX4_gift_13 (by decide) (fun c2 => ?_) (fun c2 => ?_)
    · have h := (if_pos c2).symm.trans h
      refine s_ic hX (-1 : Int32) dX4_gift_33 (by decide) ?_
      cases h
      exact s_iret hX hR dX4_gift_34
    · have h := (if_neg c2).symm.trans h
      refine s_iload_n hX dX4_gift_16 rfl ?_
      refine s_iload_n hX dX4_gift_17 rfl ?_
      refine s_ic_eq hX 33 dX4_gift_18 (by decide) (fun c3 => ?_) (fun c3 => ?_)
      · have h := (if_pos c3).symm.trans h
        refine s_ic hX (-1 : Int32) dX4_gift_33 (by decide) ?_
        cases h
        exact s_iret hX hR dX4_gift_34
      · have h := (if_neg c3).symm.trans h
        refine s_iload_n hX dX4_gift_21 rfl ?_
        refine s_i2l hX dX4_gift_22 ?_
        refine s_lc hX (1 : Int64) dX4_gift_23 (by decide) ?_
        refine s_ldc2 hX (99 : Int64) dX4_gift_24 q_X4_172 ?_
        refine s_callS hX (as := [.long (x3.toInt64), .long (1 : Int64), .long (99 : Int64)]) dX4_gift_27 k_X4_74 v_X4_in (m_X4_in (x3.toInt64) (1 : Int64) (99 : Int64) σ μ _ rfl) ⟨rfl, rfl⟩ ⟨(Nat.le_of_ble_eq_true rfl), (Nat.le_of_ble_eq_true rfl)⟩ rfl rfl (Nat.le_of_ble_eq_true rfl) ?_
        refine s_if_ne hX 35 dX4_gift_30 (by decide) (fun c4 => ?_) (fun c4 => ?_)
        · have h := (if_neg c4).symm.trans h
          refine s_aload_n hX dX4_gift_35 rfl ?_
          refine s_getr hX dX4_gift_36 f_X4_38 rfl ?_
          refine s_ic hX (1 : Int32) dX4_gift_39 (by decide) ?_
          refine s_iload_n hX dX4_gift_40 rfl ?_
          refine s_iadd hX dX4_gift_41 ?_
          obtain ⟨g5, h⟩ := fs_gd h
          refine s_iald hX dX4_gift_42 g5 ?_
          refine s_iload_n hX dX4_gift_43 rfl ?_
          refine s_ic_ge hX 50 dX4_gift_44 (by decide) (fun c6 => ?_) (fun c6 => ?_)
          · have h := (if_pos c6).symm.trans h
            refine s_aload_n hX dX4_gift_50 rfl ?_
            refine s_geti hX dX4_gift_51 f_X4_94 rfl ?_
            refine s_bi hX (40 : Int32) dX4_gift_54 (by decide) ?_
            refine s_ic_ne hX 62 dX4_gift_56 (by decide) (fun c7 => ?_) (fun c7 => ?_)
            · have h := (if_neg c7).symm.trans h
              refine s_aload_n hX dX4_gift_62 rfl ?_
              obtain ⟨q8, e8, h⟩ := fs_bind h
              refine s_cV hX [] dX4_gift_63 k_X4_178 v_X4_remember (m_X4_remember σ μ q8 e8) ⟨_, rfl⟩ fs_c4 ⟨rfl, rfl⟩ ⟨(Nat.le_of_ble_eq_true rfl), (Nat.le_of_ble_eq_true rfl)⟩ rfl rfl (Nat.le_of_ble_eq_true rfl) ?_
              refine s_aload_n hX dX4_gift_66 rfl ?_
              refine s_getr hX dX4_gift_67 f_X4_38 rfl ?_
              refine s_ic hX (1 : Int32) dX4_gift_70 (by decide) ?_
              refine s_iload_n hX dX4_gift_71 rfl ?_
              refine s_iadd hX dX4_gift_72 ?_
              refine s_dup2 hX dX4_gift_73 rfl rfl ?_
              obtain ⟨g9, h⟩ := fs_gd h
              refine s_iald hX dX4_gift_74 g9 ?_
              refine s_iload_n hX dX4_gift_75 rfl ?_
              refine s_isub hX dX4_gift_76 ?_
              obtain ⟨g10, h⟩ := fs_gd h
              refine s_iast hX dX4_gift_77 g10 ?_
              refine s_aload_n hX dX4_gift_78 rfl ?_
              refine s_getr hX dX4_gift_79 f_X4_38 rfl ?_
              refine s_ic hX (1 : Int32) dX4_gift_82 (by decide) ?_
              refine s_iload_n hX dX4_gift_83 rfl ?_
              refine s_iadd hX dX4_gift_84 ?_
              refine s_bi hX (99 : Int32) dX4_gift_85 (by decide) ?_
              refine s_aload_n hX dX4_gift_87 rfl ?_
              refine s_getr hX dX4_gift_88 f_X4_38 rfl ?_
              refine s_ic hX (1 : Int32) dX4_gift_91 (by decide) ?_
              refine s_iload_n hX dX4_gift_92 rfl ?_
              refine s_iadd hX dX4_gift_93 ?_
              obtain ⟨g11, h⟩ := fs_gd h
              refine s_iald hX dX4_gift_94 g11 ?_
              refine s_iload_n hX dX4_gift_95 rfl ?_
              refine s_iadd hX dX4_gift_96 ?_
              refine s_callS hX (as := [.int (99 : Int32), .int (((fs_u q8 60 ((1 : Int32) + x1).toNatClampNeg ((q8 60 ((1 : Int32) + x1).toNatClampNeg) - x3)) 60 ((1 : Int32) + x2).toNatClampNeg) + x3)]) dX4_gift_97 k_X4_143 v_X4_lesser (m_X4_lesser (99 : Int32) (((fs_u q8 60 ((1 : Int32) + x1).toNatClampNeg ((q8 60 ((1 : Int32) + x1).toNatClampNeg) - x3)) 60 ((1 : Int32) + x2).toNatClampNeg) + x3) (fs_u q8 60 ((1 : Int32) + x1).toNatClampNeg ((q8 60 ((1 : Int32) + x1).toNatClampNeg) - x3)) μ _ rfl) ⟨rfl, rfl⟩ ⟨(Nat.le_of_ble_eq_true rfl), (Nat.le_of_ble_eq_true rfl)⟩ rfl rfl (Nat.le_of_ble_eq_true rfl) ?_
              obtain ⟨g12, h⟩ := fs_gd h
              refine s_iast hX dX4_gift_100 g12 ?_
              refine s_aload_n hX dX4_gift_101 rfl ?_
              refine s_getr hX dX4_gift_102 f_X4_38 rfl ?_
              refine s_ic hX (1 : Int32) dX4_gift_105 (by decide) ?_
              refine s_iload_n hX dX4_gift_106 rfl ?_
              refine s_iadd hX dX4_gift_107 ?_
              obtain ⟨g13, h⟩ := fs_gd h
              refine s_iald hX dX4_gift_108 g13 ?_
              cases h
              exact s_iret hX hR dX4_gift_109
            · have h := (if_pos c7).symm.trans h
              refine s_bi hX (-2 : Int32) dX4_gift_59 (by decide) ?_
              cases h
              exact s_iret hX hR dX4_gift_61
          · have h := (if_neg c6).symm.trans h
            refine s_bi hX (-4 : Int32) dX4_gift_47 (by decide) ?_
            cases h
            exact s_iret hX hR dX4_gift_49
        · have h := (if_pos c4).symm.trans h
          refine s_ic hX (-1 : Int32) dX4_gift_33 (by decide) ?_
          cases h
          exact s_iret hX hR dX4_gift_34

-- X4_undo
def F_X4_undo (x1 : Int32) (σ : fsS) : Option (Int32 × fsS) := if (F_X4_in (x1.toInt64) (0 : Int64) ((σ 51 17).toInt64)) = 0 then some ((-1 : Int32), σ) else if ((σ 51 17) - x1) ≤ 0 then some (((σ 51 17) - x1), (fs_u σ 51 17 x1)) else (F_X4_copies 63 ((13 : Int32) * x1) 60 (0 : Int32) (13 : Int32) σ).bind (fun q3 => some (((σ 51 17) - x1), (fs_u q3 51 17 x1)))
set_option maxRecDepth 20000 in
set_option maxHeartbeats 40000000 in
theorem m_X4_undo (x1 : Int32)  (σ : fsS) (μ : fsL) (out : Int32 × fsS) (h : F_X4_undo x1 σ = some out) : fs_Met yX4_undo cX4_undo 3 (some .int) { frames := 1, cells := 0, slots := 0, locals := 25 } [.ref 51, .int x1] σ μ (some (.int out.1)) out.2 μ := by
  unfold F_X4_undo at h
  refine fs_intro (by decide +kernel) (Nat.le_of_ble_eq_true rfl) (fun X hX hR => ?_)
  show fs_PW X 0 [some (.ref 51), some (.int x1), none] [] σ μ
  refine s_iload_n hX dX4_undo_0 rfl ?_
  refine s_i2l hX dX4_undo_1 ?_
  refine s_lc hX (0 : Int64) dX4_undo_2 (by decide) ?_
  refine s_aload_n hX dX4_undo_3 rfl ?_
  refine s_geti hX dX4_undo_4 f_X4_94 rfl ?_
  refine s_i2l hX dX4_undo_7 ?_
  refine s_callS hX (as := [.long (x1.toInt64), .long (0 : Int64), .long ((σ 51 17).toInt64)]) dX4_undo_8 k_X4_74 v_X4_in (m_X4_in (x1.toInt64) (0 : Int64) ((σ 51 17).toInt64) σ μ _ rfl) ⟨rfl, rfl⟩ ⟨(Nat.le_of_ble_eq_true rfl), (Nat.le_of_ble_eq_true rfl)⟩ rfl rfl (Nat.le_of_ble_eq_true rfl) ?_
  refine s_if_ne hX 16 dX4_undo_11 (by decide) (fun c1 => ?_) (fun c1 => ?_)
  · have h := (if_neg c1).symm.trans h
    refine s_aload_n hX dX4_undo_16 rfl ?_
    refine s_geti hX dX4_undo_17 f_X4_94 rfl ?_
    refine s_iload_n hX dX4_undo_20 rfl ?_
    refine s_isub hX dX4_undo_21 ?_
    refine s_istore_n hX dX4_undo_22 (Nat.le_of_ble_eq_true rfl) ?_
    refine s_iload_n hX dX4_undo_23 rfl ?_
    refine s_if_le hX 45 dX4_undo_24 (by decide) (fun c2 => ?_) (fun c2 => ?_)
    · have h := (if_pos c2).symm.trans h
      refine s_aload_n hX dX4_undo_45 rfl ?_
      refine s_iload_n hX dX4_undo_46 rfl ?_
      refine s_puti hX dX4_undo_47 p_X4_94 rfl ?_
      refine s_iload_n hX dX4_undo_50 rfl ?_
      cases h
      exact s_iret hX hR dX4_undo_51
    · have h := (if_neg c2).symm.trans h
      refine s_aload_n hX dX4_undo_27 rfl ?_
      refine s_getr hX dX4_undo_28 f_X4_47 rfl ?_
      refine s_bi hX (13 : Int32) dX4_undo_31 (by decide) ?_
      refine s_iload_n hX dX4_undo_33 rfl ?_
      refine s_imul hX dX4_undo_34 ?_
      refine s_aload_n hX dX4_undo_35 rfl ?_
      refine s_getr hX dX4_undo_36 f_X4_38 rfl ?_
      refine s_ic hX (0 : Int32) dX4_undo_39 (by decide) ?_
      refine s_bi hX (13 : Int32) dX4_undo_40 (by decide) ?_
      obtain ⟨q3, e3, h⟩ := fs_bind h
      refine s_callS hX (as := [.ref 63, .int ((13 : Int32) * x1), .ref 60, .int (0 : Int32), .int (13 : Int32)]) dX4_undo_42 k_X4_174 v_X4_copies (m_X4_copies 63 ((13 : Int32) * x1) 60 (0 : Int32) (13 : Int32) σ μ q3 e3) ⟨rfl, rfl⟩ ⟨(Nat.le_of_ble_eq_true rfl), (Nat.le_of_ble_eq_true rfl)⟩ rfl rfl (Nat.le_of_ble_eq_true rfl) ?_
      refine s_aload_n hX dX4_undo_45 rfl ?_
      refine s_iload_n hX dX4_undo_46 rfl ?_
      refine s_puti hX dX4_undo_47 p_X4_94 rfl ?_
      refine s_iload_n hX dX4_undo_50 rfl ?_
      cases h
      exact s_iret hX hR dX4_undo_51
  · have h := (if_pos c1).symm.trans h
    refine s_ic hX (-1 : Int32) dX4_undo_14 (by decide) ?_
    cases h
    exact s_iret hX hR dX4_undo_15

-- X4_keep
def F_X4_keep (x1 : Int32) (σ : fsS) : Option (Int32 × fsS) := if (F_X4_in (x1.toInt64) (0 : Int64) (2 : Int64)) = 0 then some ((-1 : Int32), σ) else if (σ 51 9) = 0 then some ((-4 : Int32), σ) else fs_g (fs_in ((534 : Int32) * x1) 1602) ((F_X4_copies 60 (0 : Int32) 64 (((534 : Int32) * x1) + (1 : Int32)) (13 : Int32) (fs_u σ 64 ((534 : Int32) * x1).toNatClampNeg (σ 51 17))).bind (fun q4 => (F_X4_copies 63 (0 : Int32) 64 ((((534 : Int32) * x1) + (1 : Int32)) + (13 : Int32)) (520 : Int32) q4).bind (fun q5 => some ((q5 51 17), q5))))
set_option maxRecDepth 20000 in
set_option maxHeartbeats 40000000 in
theorem m_X4_keep (x1 : Int32)  (σ : fsS) (μ : fsL) (out : Int32 × fsS) (h : F_X4_keep x1 σ = some out) : fs_Met yX4_keep cX4_keep 2 (some .int) { frames := 1, cells := 0, slots := 0, locals := 25 } [.ref 51, .int x1] σ μ (some (.int out.1)) out.2 μ := by
  unfold F_X4_keep at h
  refine fs_intro (by decide +kernel) (Nat.le_of_ble_eq_true rfl) (fun X hX hR => ?_)
  show fs_PW X 0 [some (.ref 51), some (.int x1)] [] σ μ
  refine s_iload_n hX dX4_keep_0 rfl ?_
  refine s_i2l hX dX4_keep_1 ?_
  refine s_lc hX (0 : Int64) dX4_keep_2 (by decide) ?_
  refine s_ldc2 hX (2 : Int64) dX4_keep_3 q_X4_184 ?_
  refine s_callS hX (as := [.long (x1.toInt64), .long (0 : Int64), .long (2 : Int64)]) dX4_keep_6 k_X4_74 v_X4_in (m_X4_in (x1.toInt64) (0 : Int64) (2 : Int64) σ μ _ rfl) ⟨rfl, rfl⟩ ⟨(Nat.le_of_ble_eq_true rfl), (Nat.le_of_ble_eq_true rfl)⟩ rfl rfl (Nat.le_of_ble_eq_true rfl) ?_
  refine s_if_ne hX 14 dX4_keep_9 (by decide) (fun c1 => ?_) (fun c1 => ?_)
  · have h := (if_neg c1).symm.trans h
    refine s_aload_n hX dX4_keep_14 rfl ?_
    refine s_geti hX dX4_keep_15 f_X4_136 rfl ?_
    refine s_if_ne hX 24 dX4_keep_18 (by decide) (fun c2 => ?_) (fun c2 => ?_)
    · have h := (if_neg c2).symm.trans h
      refine s_aload_n hX dX4_keep_24 rfl ?_
      refine s_getr hX dX4_keep_25 f_X4_50 rfl ?_
      refine s_si hX (534 : Int32) dX4_keep_28 (by decide) ?_
      refine s_iload_n hX dX4_keep_31 rfl ?_
      refine s_imul hX dX4_keep_32 ?_
      refine s_aload_n hX dX4_keep_33 rfl ?_
      refine s_geti hX dX4_keep_34 f_X4_94 rfl ?_
      obtain ⟨g3, h⟩ := fs_gd h
      refine s_iast hX dX4_keep_37 g3 ?_
      refine s_aload_n hX dX4_keep_38 rfl ?_
      refine s_getr hX dX4_keep_39 f_X4_38 rfl ?_
      refine s_ic hX (0 : Int32) dX4_keep_42 (by decide) ?_
      refine s_aload_n hX dX4_keep_43 rfl ?_
      refine s_getr hX dX4_keep_44 f_X4_50 rfl ?_
      refine s_si hX (534 : Int32) dX4_keep_47 (by decide) ?_
      refine s_iload_n hX dX4_keep_50 rfl ?_
      refine s_imul hX dX4_keep_51 ?_
      refine s_ic hX (1 : Int32) dX4_keep_52 (by decide) ?_
      refine s_iadd hX dX4_keep_53 ?_
      refine s_bi hX (13 : Int32) dX4_keep_54 (by decide) ?_
      obtain ⟨q4, e4, h⟩ := fs_bind h
      refine s_callS hX (as := [.ref 60, .int (0 : Int32), .ref 64, .int (((534 : Int32) * x1) + (1 : Int32)), .int (13 : Int32)]) dX4_keep_56 k_X4_174 v_X4_copies (m_X4_copies 60 (0 : Int32) 64 (((534 : Int32) * x1) + (1 : Int32)) (13 : Int32) (fs_u σ 64 ((534 : Int32) * x1).toNatClampNeg (σ 51 17)) μ q4 e4) ⟨rfl, rfl⟩ ⟨(Nat.le_of_ble_eq_true rfl), (Nat.le_of_ble_eq_true rfl)⟩ rfl rfl (Nat.le_of_ble_eq_true rfl) ?_
      refine s_aload_n hX dX4_keep_59 rfl ?_
      refine s_getr hX dX4_keep_60 f_X4_47 rfl ?_
      refine s_ic hX (0 : Int32) dX4_keep_63 (by decide) ?_
      refine s_aload_n hX dX4_keep_64 rfl ?_
      refine s_getr hX dX4_keep_65 f_X4_50 rfl ?_
      refine s_si hX (534 : Int32) dX4_keep_68 (by decide) ?_
      refine s_iload_n hX dX4_keep_71 rfl ?_
      refine s_imul hX dX4_keep_72 ?_
      refine s_ic hX (1 : Int32) dX4_keep_73 (by decide) ?_
      refine s_iadd hX dX4_keep_74 ?_
      refine s_bi hX (13 : Int32) dX4_keep_75 (by decide) ?_
      refine s_iadd hX dX4_keep_77 ?_
      refine s_si hX (520 : Int32) dX4_keep_78 (by decide) ?_
      obtain ⟨q5, e5, h⟩ := fs_bind h
      refine s_callS hX (as := [.ref 63, .int (0 : Int32), .ref 64, .int ((((534 : Int32) * x1) + (1 : Int32)) + (13 : Int32)), .int (520 : Int32)]) dX4_keep_81 k_X4_174 v_X4_copies (m_X4_copies 63 (0 : Int32) 64 ((((534 : Int32) * x1) + (1 : Int32)) + (13 : Int32)) (520 : Int32) q4 μ q5 e5) ⟨rfl, rfl⟩ ⟨(Nat.le_of_ble_eq_true rfl), (Nat.le_of_ble_eq_true rfl)⟩ rfl rfl (Nat.le_of_ble_eq_true rfl) ?_
      refine s_aload_n hX dX4_keep_84 rfl ?_
      refine s_geti hX dX4_keep_85 f_X4_94 rfl ?_
      cases h
      exact s_iret hX hR dX4_keep_88
    · have h := (if_pos c2).symm.trans h
      refine s_bi hX (-4 : Int32) dX4_keep_21 (by decide) ?_
      cases h
      exact s_iret hX hR dX4_keep_23
  · have h := (if_pos c1).symm.trans h
    refine s_ic hX (-1 : Int32) dX4_keep_12 (by decide) ?_
    cases h
    exact s_iret hX hR dX4_keep_13

-- X4_on
def F_X4_on (x1 : Int32) (σ : fsS) : Option (Int32 × fsS) := if (F_X4_in (x1.toInt64) (0 : Int64) (2 : Int64)) = 0 then some ((-1 : Int32), σ) else fs_g (fs_in ((534 : Int32) * x1) 1602) (if 0 ≤ (σ 64 ((534 : Int32) * x1).toNatClampNeg) then fs_g (fs_in ((534 : Int32) * x1) 1602) ((F_X4_copies 64 (((534 : Int32) * x1) + (1 : Int32)) 60 (0 : Int32) (13 : Int32) (fs_u σ 51 17 (σ 64 ((534 : Int32) * x1).toNatClampNeg))).bind (fun q5 => (F_X4_copies 64 ((((534 : Int32) * x1) + (1 : Int32)) + (13 : Int32)) 63 (0 : Int32) (520 : Int32) q5).bind (fun q6 => some ((q6 51 17), q6)))) else (F_X4_found (1 : Int32) σ).bind (fun q7 => some (q7.1, q7.2)))
set_option maxRecDepth 20000 in
set_option maxHeartbeats 40000000 in
theorem m_X4_on (x1 : Int32)  (σ : fsS) (μ : fsL) (out : Int32 × fsS) (h : F_X4_on x1 σ = some out) : fs_Met yX4_on cX4_on 2 (some .int) { frames := 1, cells := 0, slots := 0, locals := 25 } [.ref 51, .int x1] σ μ (some (.int out.1)) out.2 μ := by
  unfold F_X4_on at h
  refine fs_intro (by decide +kernel) (Nat.le_of_ble_eq_true rfl) (fun X hX hR => ?_)
  show fs_PW X 0 [some (.ref 51), some (.int x1)] [] σ μ
  refine s_iload_n hX dX4_on_0 rfl ?_
  refine s_i2l hX dX4_on_1 ?_
  refine s_lc hX (0 : Int64) dX4_on_2 (by decide) ?_
  refine s_ldc2 hX (2 : Int64) dX4_on_3 q_X4_184 ?_
  refine s_callS hX (as := [.long (x1.toInt64), .long (0 : Int64), .long (2 : Int64)]) dX4_on_6 k_X4_74 v_X4_in (m_X4_in (x1.toInt64) (0 : Int64) (2 : Int64) σ μ _ rfl) ⟨rfl, rfl⟩ ⟨(Nat.le_of_ble_eq_true rfl), (Nat.le_of_ble_eq_true rfl)⟩ rfl rfl (Nat.le_of_ble_eq_true rfl) ?_
  refine s_if_ne hX 14 dX4_on_9 (by decide) (fun c1 => ?_) (fun c1 => ?_)
  · have h := (if_neg c1).symm.trans h
    refine s_aload_n hX dX4_on_14 rfl ?_
    refine s_getr hX dX4_on_15 f_X4_50 rfl ?_
    refine s_si hX (534 : Int32) dX4_on_18 (by decide) ?_
    refine s_iload_n hX dX4_on_21 rfl ?_
    refine s_imul hX dX4_on_22 ?_
    obtain ⟨g2, h⟩ := fs_gd h
    refine s_iald hX dX4_on_23 g2 ?_
    refine s_if_ge hX 33 dX4_on_24 (by decide) (fun c3 => ?_) (fun c3 => ?_)
    · have h := (if_pos c3).symm.trans h
      refine s_aload_n hX dX4_on_33 rfl ?_
      refine s_aload_n hX dX4_on_34 rfl ?_
      refine s_getr hX dX4_on_35 f_X4_50 rfl ?_
      refine s_si hX (534 : Int32) dX4_on_38 (by decide) ?_
      refine s_iload_n hX dX4_on_41 rfl ?_
      refine s_imul hX dX4_on_42 ?_
      obtain ⟨g4, h⟩ := fs_gd h
      refine s_iald hX dX4_on_43 g4 ?_
      refine s_puti hX dX4_on_44 p_X4_94 rfl ?_
      refine s_aload_n hX dX4_on_47 rfl ?_
      refine s_getr hX dX4_on_48 f_X4_50 rfl ?_
      refine s_si hX (534 : Int32) dX4_on_51 (by decide) ?_
      refine s_iload_n hX dX4_on_54 rfl ?_
      refine s_imul hX dX4_on_55 ?_
      refine s_ic hX (1 : Int32) dX4_on_56 (by decide) ?_
      refine s_iadd hX dX4_on_57 ?_
      refine s_aload_n hX dX4_on_58 rfl ?_
      refine s_getr hX dX4_on_59 f_X4_38 rfl ?_
      refine s_ic hX (0 : Int32) dX4_on_62 (by decide) ?_
      refine s_bi hX (13 : Int32) dX4_on_63 (by decide) ?_
      obtain ⟨q5, e5, h⟩ := fs_bind h
      refine s_callS hX (as := [.ref 64, .int (((534 : Int32) * x1) + (1 : Int32)), .ref 60, .int (0 : Int32), .int (13 : Int32)]) dX4_on_65 k_X4_174 v_X4_copies (m_X4_copies 64 (((534 : Int32) * x1) + (1 : Int32)) 60 (0 : Int32) (13 : Int32) (fs_u σ 51 17 (σ 64 ((534 : Int32) * x1).toNatClampNeg)) μ q5 e5) ⟨rfl, rfl⟩ ⟨(Nat.le_of_ble_eq_true rfl), (Nat.le_of_ble_eq_true rfl)⟩ rfl rfl (Nat.le_of_ble_eq_true rfl) ?_
      refine s_aload_n hX dX4_on_68 rfl ?_
      refine s_getr hX dX4_on_69 f_X4_50 rfl ?_
      refine s_si hX (534 : Int32) dX4_on_72 (by decide) ?_
      refine s_iload_n hX dX4_on_75 rfl ?_
      refine s_imul hX dX4_on_76 ?_
      refine s_ic hX (1 : Int32) dX4_on_77 (by decide) ?_
      refine s_iadd hX dX4_on_78 ?_
      refine s_bi hX (13 : Int32) dX4_on_79 (by decide) ?_
      refine s_iadd hX dX4_on_81 ?_
      refine s_aload_n hX dX4_on_82 rfl ?_
      refine s_getr hX dX4_on_83 f_X4_47 rfl ?_
      refine s_ic hX (0 : Int32) dX4_on_86 (by decide) ?_
      refine s_si hX (520 : Int32) dX4_on_87 (by decide) ?_
      obtain ⟨q6, e6, h⟩ := fs_bind h
      refine s_callS hX (as := [.ref 64, .int ((((534 : Int32) * x1) + (1 : Int32)) + (13 : Int32)), .ref 63, .int (0 : Int32), .int (520 : Int32)]) dX4_on_90 k_X4_174 v_X4_copies (m_X4_copies 64 ((((534 : Int32) * x1) + (1 : Int32)) + (13 : Int32)) 63 (0 : Int32) (520 : Int32) q5 μ q6 e6) ⟨rfl, rfl⟩ ⟨(Nat.le_of_ble_eq_true rfl), (Nat.le_of_ble_eq_true rfl)⟩ rfl rfl (Nat.le_of_ble_eq_true rfl) ?_
      refine s_aload_n hX dX4_on_93 rfl ?_
      refine s_geti hX dX4_on_94 f_X4_94 rfl ?_
      cases h
      exact s_iret hX hR dX4_on_97
    · have h := (if_neg c3).symm.trans h
      refine s_aload_n hX dX4_on_27 rfl ?_
      refine s_ic hX (1 : Int32) dX4_on_28 (by decide) ?_
      obtain ⟨q7, e7, h⟩ := fs_bind h
      refine s_cV hX [.int (1 : Int32)] dX4_on_29 k_X4_84 v_X4_found (m_X4_found (1 : Int32) σ μ q7 e7) ⟨_, rfl⟩ fs_c4 ⟨rfl, rfl⟩ ⟨(Nat.le_of_ble_eq_true rfl), (Nat.le_of_ble_eq_true rfl)⟩ rfl rfl (Nat.le_of_ble_eq_true rfl) ?_
      cases h
      exact s_iret hX hR dX4_on_32
  · have h := (if_pos c1).symm.trans h
    refine s_ic hX (-1 : Int32) dX4_on_12 (by decide) ?_
    cases h
    exact s_iret hX hR dX4_on_13

-- X4_layAside
def F_X4_layAside (σ : fsS) : Option (fsS) := (F_X4_copies 60 (0 : Int32) 61 (0 : Int32) (13 : Int32) σ).bind (fun q1 => some q1)
set_option maxRecDepth 20000 in
set_option maxHeartbeats 40000000 in
theorem m_X4_layAside   (σ : fsS) (μ : fsL) (out : fsS) (h : F_X4_layAside  σ = some out) : fs_Met yX4_layAside cX4_layAside 1 none { frames := 1, cells := 0, slots := 0, locals := 25 } [.ref 51] σ μ none out μ := by
  unfold F_X4_layAside at h
  refine fs_intro (by decide +kernel) (Nat.le_of_ble_eq_true rfl) (fun X hX hR => ?_)
  show fs_PW X 0 [some (.ref 51)] [] σ μ
  refine s_aload_n hX dX4_layAside_0 rfl ?_
  refine s_getr hX dX4_layAside_1 f_X4_38 rfl ?_
  refine s_ic hX (0 : Int32) dX4_layAside_4 (by decide) ?_
  refine s_aload_n hX dX4_layAside_5 rfl ?_
  refine s_getr hX dX4_layAside_6 f_X4_41 rfl ?_
  refine s_ic hX (0 : Int32) dX4_layAside_9 (by decide) ?_
  refine s_bi hX (13 : Int32) dX4_layAside_10 (by decide) ?_
  obtain ⟨q1, e1, h⟩ := fs_bind h
  refine s_callS hX (as := [.ref 60, .int (0 : Int32), .ref 61, .int (0 : Int32), .int (13 : Int32)]) dX4_layAside_12 k_X4_174 v_X4_copies (m_X4_copies 60 (0 : Int32) 61 (0 : Int32) (13 : Int32) σ μ q1 e1) ⟨rfl, rfl⟩ ⟨(Nat.le_of_ble_eq_true rfl), (Nat.le_of_ble_eq_true rfl)⟩ rfl rfl (Nat.le_of_ble_eq_true rfl) ?_
  cases h
  exact s_vret hX hR dX4_layAside_15

-- X4_givesIn
def L_X4_givesIn_4  : Nat → Int32 → Int32 → Int32 → fsS → Option (Int32 × fsS)
  | 0, _, _, _, _ => none
  | n0 + 1, y1, y2, y3, σ => if y1 ≤ y3 then some (y2, σ) else (F_X4_goes 61 σ).bind (fun q2 => L_X4_givesIn_4  n0 y1 (y2 + q2.1) (y3 + (1 : Int32)) q2.2)
def F_X4_givesIn (x1 : Int32) (σ : fsS) : Option (Int32 × fsS) := (L_X4_givesIn_4  fs_fu x1 (0 : Int32) (0 : Int32) σ).bind (fun q3 => some (q3.1, q3.2))
set_option maxRecDepth 20000 in
set_option maxHeartbeats 40000000 in
theorem l_X4_givesIn_4   {X : fsC} (hX : fs_ok cX4_givesIn RX4 4 { frames := 4, cells := 0, slots := 0, locals := 93 } X) : ∀ (n : Nat) (y1 : Int32) (y2 : Int32) (y3 : Int32) (σ : fsS) (μ : fsL) (out : Int32 × fsS) (_ : L_X4_givesIn_4  n y1 y2 y3 σ = some out) (k0 : fs_PW X 26 [none, none, some (.int out.1), none] [] out.2 μ), fs_PW X 4 [some (.ref 51), some (.int y1), some (.int y2), some (.int y3)] [] σ μ := by
  intro n
  induction n with
  | zero =>
    intro y1 y2 y3 σ μ out h
    cases (show (none : Option (Int32 × fsS)) = some out from h)
  | succ n0 ih =>
    intro y1 y2 y3 σ μ out h k0
    unfold L_X4_givesIn_4 at h
    refine s_iload_n hX dX4_givesIn_4 rfl ?_
    refine s_iload_n hX dX4_givesIn_5 rfl ?_
    refine s_ic_ge hX 26 dX4_givesIn_6 (by decide) (fun c1 => ?_) (fun c1 => ?_)
    · have h := (if_pos c1).symm.trans h
      cases h
      refine fs_ma [false, false, true, false] ?_
      exact k0
    · have h := (if_neg c1).symm.trans h
      refine s_iload_n hX dX4_givesIn_9 rfl ?_
      refine s_aload_n hX dX4_givesIn_10 rfl ?_
      refine s_aload_n hX dX4_givesIn_11 rfl ?_
      refine s_getr hX dX4_givesIn_12 f_X4_41 rfl ?_
      obtain ⟨q2, e2, h⟩ := fs_bind h
      refine s_cV hX [.ref 61] dX4_givesIn_15 k_X4_181 v_X4_goes (m_X4_goes 61 σ μ q2 e2) ⟨_, rfl⟩ fs_c4 ⟨rfl, rfl⟩ ⟨(Nat.le_of_ble_eq_true rfl), (Nat.le_of_ble_eq_true rfl)⟩ rfl rfl (Nat.le_of_ble_eq_true rfl) ?_
      refine s_iadd hX dX4_givesIn_18 ?_
      refine s_istore_n hX dX4_givesIn_19 (Nat.le_of_ble_eq_true rfl) ?_
      refine s_iinc hX (y3 + (1 : Int32)) dX4_givesIn_20 rfl rfl (Nat.le_of_ble_eq_true rfl) ?_
      refine s_goto hX 4 dX4_givesIn_23 (by decide) ?_
      refine fs_ma [true, true, true, true] ?_
      exact ih y1 (y2 + q2.1) (y3 + (1 : Int32)) q2.2 μ out h k0
set_option maxRecDepth 20000 in
set_option maxHeartbeats 40000000 in
theorem m_X4_givesIn (x1 : Int32)  (σ : fsS) (μ : fsL) (out : Int32 × fsS) (h : F_X4_givesIn x1 σ = some out) : fs_Met yX4_givesIn cX4_givesIn 4 (some .int) { frames := 4, cells := 0, slots := 0, locals := 93 } [.ref 51, .int x1] σ μ (some (.int out.1)) out.2 μ := by
  unfold F_X4_givesIn at h
  refine fs_intro (by decide +kernel) (Nat.le_of_ble_eq_true rfl) (fun X hX hR => ?_)
  show fs_PW X 0 [some (.ref 51), some (.int x1), none, none] [] σ μ
  refine s_ic hX (0 : Int32) dX4_givesIn_0 (by decide) ?_
  refine s_istore_n hX dX4_givesIn_1 (Nat.le_of_ble_eq_true rfl) ?_
  refine s_ic hX (0 : Int32) dX4_givesIn_2 (by decide) ?_
  refine s_istore_n hX dX4_givesIn_3 (Nat.le_of_ble_eq_true rfl) ?_
  obtain ⟨q3, e3, h⟩ := fs_bind h
  refine fs_ma [true, true, true, true] ?_
  refine l_X4_givesIn_4  hX fs_fu x1 (0 : Int32) (0 : Int32) σ μ q3 e3 ?_
  refine s_iload_n hX dX4_givesIn_26 rfl ?_
  cases h
  exact s_iret hX hR dX4_givesIn_27

-- X4_box
def L_X4_box_21  : Nat → Int32 → Int32 → fsS → Option (Int32)
  | 0, _, _, _ => none
  | n0 + 1, y1, y2, σ => fs_g (fs_in y2 6) (if y1 ≤ (σ 62 y2.toNatClampNeg) then some y2 else L_X4_box_21  n0 y1 (y2 + (1 : Int32)) σ)
def F_X4_box (σ : fsS) : Option (Int32 × fsS) := if (σ 51 9) = 0 then some ((-4 : Int32), σ) else (F_X4_laysRegards 60 σ).bind (fun q2 => (L_X4_box_21  fs_fu q2.1 (0 : Int32) q2.2).bind (fun q5 => (F_X4_gives q2.1 q2.2).bind (fun q6 => some ((F_X4_answer q6 q5 q2.2).1, (F_X4_answer q6 q5 q2.2).2))))
set_option maxRecDepth 20000 in
set_option maxHeartbeats 40000000 in
theorem l_X4_box_21   {X : fsC} (hX : fs_ok cX4_box RX4 3 { frames := 3, cells := 0, slots := 0, locals := 70 } X) : ∀ (n : Nat) (y1 : Int32) (y2 : Int32) (σ : fsS) (μ : fsL) (out : Int32) (_ : L_X4_box_21  n y1 y2 σ = some out) (k0 : fs_PW X 37 [some (.ref 51), some (.int y1), some (.int out)] [] σ μ), fs_PW X 21 [some (.ref 51), some (.int y1), some (.int y2)] [] σ μ := by
  intro n
  induction n with
  | zero =>
    intro y1 y2 σ μ out h
    cases (show (none : Option (Int32)) = some out from h)
  | succ n0 ih =>
    intro y1 y2 σ μ out h k0
    unfold L_X4_box_21 at h
    refine s_aload_n hX dX4_box_21 rfl ?_
    refine s_getr hX dX4_box_22 f_X4_44 rfl ?_
    refine s_iload_n hX dX4_box_25 rfl ?_
    obtain ⟨g3, h⟩ := fs_gd h
    refine s_iald hX dX4_box_26 g3 ?_
    refine s_iload_n hX dX4_box_27 rfl ?_
    refine s_ic_ge hX 37 dX4_box_28 (by decide) (fun c4 => ?_) (fun c4 => ?_)
    · have h := (if_pos c4).symm.trans h
      cases h
      refine fs_ma [true, true, true] ?_
      exact k0
    · have h := (if_neg c4).symm.trans h
      refine s_iinc hX (y2 + (1 : Int32)) dX4_box_31 rfl rfl (Nat.le_of_ble_eq_true rfl) ?_
      refine s_goto hX 21 dX4_box_34 (by decide) ?_
      refine fs_ma [true, true, true] ?_
      exact ih y1 (y2 + (1 : Int32)) σ μ out h k0
set_option maxRecDepth 20000 in
set_option maxHeartbeats 40000000 in
theorem m_X4_box   (σ : fsS) (μ : fsL) (out : Int32 × fsS) (h : F_X4_box  σ = some out) : fs_Met yX4_box cX4_box 3 (some .int) { frames := 3, cells := 0, slots := 0, locals := 70 } [.ref 51] σ μ (some (.int out.1)) out.2 μ := by
  unfold F_X4_box at h
  refine fs_intro (by decide +kernel) (Nat.le_of_ble_eq_true rfl) (fun X hX hR => ?_)
  show fs_PW X 0 [some (.ref 51), none, none] [] σ μ
  refine s_aload_n hX dX4_box_0 rfl ?_
  refine s_geti hX dX4_box_1 f_X4_136 rfl ?_
  refine s_if_ne hX 10 dX4_box_4 (by decide) (fun c1 => ?_) (fun c1 => ?_)
  · have h := (if_neg c1).symm.trans h
    refine s_aload_n hX dX4_box_10 rfl ?_
    refine s_aload_n hX dX4_box_11 rfl ?_
    refine s_getr hX dX4_box_12 f_X4_38 rfl ?_
    obtain ⟨q2, e2, h⟩ := fs_bind h
    refine s_cV hX [.ref 60] dX4_box_15 k_X4_150 v_X4_laysRegards (m_X4_laysRegards 60 σ μ q2 e2) ⟨_, rfl⟩ fs_c4 ⟨rfl, rfl⟩ ⟨(Nat.le_of_ble_eq_true rfl), (Nat.le_of_ble_eq_true rfl)⟩ rfl rfl (Nat.le_of_ble_eq_true rfl) ?_
    refine s_istore_n hX dX4_box_18 (Nat.le_of_ble_eq_true rfl) ?_
    refine s_ic hX (0 : Int32) dX4_box_19 (by decide) ?_
    refine s_istore_n hX dX4_box_20 (Nat.le_of_ble_eq_true rfl) ?_
    obtain ⟨q5, e5, h⟩ := fs_bind h
    refine fs_ma [true, true, true] ?_
    refine l_X4_box_21  hX fs_fu q2.1 (0 : Int32) q2.2 μ q5 e5 ?_
    refine s_aload_n hX dX4_box_37 rfl ?_
    refine s_aload_n hX dX4_box_38 rfl ?_
    refine s_iload_n hX dX4_box_39 rfl ?_
    obtain ⟨q6, e6, h⟩ := fs_bind h
    refine s_cV hX [.int q2.1] dX4_box_40 k_X4_154 v_X4_gives (m_X4_gives q2.1 q2.2 μ q6 e6) ⟨_, rfl⟩ fs_c4 ⟨rfl, rfl⟩ ⟨(Nat.le_of_ble_eq_true rfl), (Nat.le_of_ble_eq_true rfl)⟩ rfl rfl (Nat.le_of_ble_eq_true rfl) ?_
    refine s_iload_n hX dX4_box_43 rfl ?_
    refine s_cV hX [.int q6, .int q5] dX4_box_44 k_X4_186 v_X4_answer (m_X4_answer q6 q5 q2.2 μ _ rfl) ⟨_, rfl⟩ fs_c4 ⟨rfl, rfl⟩ ⟨(Nat.le_of_ble_eq_true rfl), (Nat.le_of_ble_eq_true rfl)⟩ rfl rfl (Nat.le_of_ble_eq_true rfl) ?_
    cases h
    exact s_iret hX hR dX4_box_47
  · have h := (if_pos c1).symm.trans h
    refine s_bi hX (-4 : Int32) dX4_box_7 (by decide) ?_
    cases h
    exact s_iret hX hR dX4_box_9

-- X4_later
def L_X4_later_31  : Nat → Int32 → Int32 → Int32 → Int32 → fsS → Option (Int32 × fsS)
  | 0, _, _, _, _, _ => none
  | n0 + 1, y1, y2, y3, y4, σ => if y2 ≤ y4 then some (y3, σ) else (F_X4_laysRegards 61 σ).bind (fun q5 => fs_g (fs_in y1 6) ((F_X4_goes 61 q5.2).bind (fun q7 => L_X4_later_31  n0 y1 y2 (y3 + (q5.1 - (q5.2 62 y1.toNatClampNeg))) (y4 + (1 : Int32)) q7.2)))
def F_X4_later (x1 : Int32) (x2 : Int32) (σ : fsS) : Option (Int32 × fsS) := if (F_X4_isOne x1 σ) = 0 then some ((-1 : Int32), σ) else if (F_X4_in (x2.toInt64) (0 : Int64) (60 : Int64)) = 0 then some ((-1 : Int32), σ) else (F_X4_layAside  σ).bind (fun q3 => (L_X4_later_31  fs_fu x1 x2 (0 : Int32) (0 : Int32) q3).bind (fun q8 => fs_g (fs_in ((1 : Int32) + x1) 13) (some ((F_X4_answer (q8.2 61 ((1 : Int32) + x1).toNatClampNeg) q8.1 q8.2).1, (F_X4_answer (q8.2 61 ((1 : Int32) + x1).toNatClampNeg) q8.1 q8.2).2))))
set_option maxRecDepth 20000 in
set_option maxHeartbeats 40000000 in
theorem l_X4_later_31   {X : fsC} (hX : fs_ok cX4_later RX4 7 { frames := 4, cells := 0, slots := 0, locals := 93 } X) : ∀ (n : Nat) (y1 : Int32) (y2 : Int32) (y3 : Int32) (y4 : Int32) (σ : fsS) (μ : fsL) (out : Int32 × fsS) (_ : L_X4_later_31  n y1 y2 y3 y4 σ = some out) (k0 : fs_PW X 75 [some (.ref 51), some (.int y1), none, some (.int out.1), none, none, none] [] out.2 μ), fs_PW X 31 [some (.ref 51), some (.int y1), some (.int y2), some (.int y3), some (.int y4), none, none] [] σ μ := by
  intro n
  induction n with
  | zero =>
    intro y1 y2 y3 y4 σ μ out h
    cases (show (none : Option (Int32 × fsS)) = some out from h)
  | succ n0 ih =>
    intro y1 y2 y3 y4 σ μ out h k0
    unfold L_X4_later_31 at h
    refine s_iload hX dX4_later_31 rfl ?_
    refine s_iload_n hX dX4_later_33 rfl ?_
    refine s_ic_ge hX 75 dX4_later_34 (by decide) (fun c4 => ?_) (fun c4 => ?_)
    · have h := (if_pos c4).symm.trans h
      cases h
      refine fs_ma [true, true, false, true, false, false, false] ?_
      exact k0
    · have h := (if_neg c4).symm.trans h
      refine s_aload_n hX dX4_later_37 rfl ?_
      refine s_aload_n hX dX4_later_38 rfl ?_
      refine s_getr hX dX4_later_39 f_X4_41 rfl ?_
      obtain ⟨q5, e5, h⟩ := fs_bind h
      refine s_cV hX [.ref 61] dX4_later_42 k_X4_150 v_X4_laysRegards (m_X4_laysRegards 61 σ μ q5 e5) ⟨_, rfl⟩ fs_c4 ⟨rfl, rfl⟩ ⟨(Nat.le_of_ble_eq_true rfl), (Nat.le_of_ble_eq_true rfl)⟩ rfl rfl (Nat.le_of_ble_eq_true rfl) ?_
      refine s_istore hX dX4_later_45 (Nat.le_of_ble_eq_true rfl) ?_
      refine s_iload_n hX dX4_later_47 rfl ?_
      refine s_iload hX dX4_later_48 rfl ?_
      refine s_aload_n hX dX4_later_50 rfl ?_
      refine s_getr hX dX4_later_51 f_X4_44 rfl ?_
      refine s_iload_n hX dX4_later_54 rfl ?_
      obtain ⟨g6, h⟩ := fs_gd h
      refine s_iald hX dX4_later_55 g6 ?_
      refine s_isub hX dX4_later_56 ?_
      refine s_iadd hX dX4_later_57 ?_
      refine s_istore_n hX dX4_later_58 (Nat.le_of_ble_eq_true rfl) ?_
      refine s_aload_n hX dX4_later_59 rfl ?_
      refine s_aload_n hX dX4_later_60 rfl ?_
      refine s_getr hX dX4_later_61 f_X4_41 rfl ?_
      obtain ⟨q7, e7, h⟩ := fs_bind h
      refine s_cV hX [.ref 61] dX4_later_64 k_X4_181 v_X4_goes (m_X4_goes 61 q5.2 μ q7 e7) ⟨_, rfl⟩ fs_c4 ⟨rfl, rfl⟩ ⟨(Nat.le_of_ble_eq_true rfl), (Nat.le_of_ble_eq_true rfl)⟩ rfl rfl (Nat.le_of_ble_eq_true rfl) ?_
      refine s_istore hX dX4_later_67 (Nat.le_of_ble_eq_true rfl) ?_
      refine s_iinc hX (y4 + (1 : Int32)) dX4_later_69 rfl rfl (Nat.le_of_ble_eq_true rfl) ?_
      refine s_goto hX 31 dX4_later_72 (by decide) ?_
      refine fs_ma [true, true, true, true, true, false, false] ?_
      exact ih y1 y2 (y3 + (q5.1 - (q5.2 62 y1.toNatClampNeg))) (y4 + (1 : Int32)) q7.2 μ out h k0
set_option maxRecDepth 20000 in
set_option maxHeartbeats 40000000 in
theorem m_X4_later (x1 : Int32) (x2 : Int32)  (σ : fsS) (μ : fsL) (out : Int32 × fsS) (h : F_X4_later x1 x2 σ = some out) : fs_Met yX4_later cX4_later 7 (some .int) { frames := 4, cells := 0, slots := 0, locals := 93 } [.ref 51, .int x1, .int x2] σ μ (some (.int out.1)) out.2 μ := by
  unfold F_X4_later at h
  refine fs_intro (by decide +kernel) (Nat.le_of_ble_eq_true rfl) (fun X hX hR => ?_)
  show fs_PW X 0 [some (.ref 51), some (.int x1), some (.int x2), none, none, none, none] [] σ μ
  refine s_aload_n hX dX4_later_0 rfl ?_
  refine s_iload_n hX dX4_later_1 rfl ?_
  refine s_cV hX [.int x1] dX4_later_2 k_X4_157 v_X4_isOne (m_X4_isOne x1 σ μ _ rfl) ⟨_, rfl⟩ fs_c4 ⟨rfl, rfl⟩ ⟨(Nat.le_of_ble_eq_true rfl), (Nat.le_of_ble_eq_true rfl)⟩ rfl rfl (Nat.le_of_ble_eq_true rfl) ?_
  refine s_if_eq hX 20 dX4_later_5 (by decide) (fun c1 => ?_) (fun c1 => ?_)
  · have h := (if_pos c1).symm.trans h
    refine s_ic hX (-1 : Int32) dX4_later_20 (by decide) ?_
    cases h
    exact s_iret hX hR dX4_later_21
  · have h := (if_neg c1).symm.trans h
    refine s_iload_n hX dX4_later_8 rfl ?_
    refine s_i2l hX dX4_later_9 ?_
    refine s_lc hX (0 : Int64) dX4_later_10 (by decide) ?_
    refine s_ldc2 hX (60 : Int64) dX4_later_11 q_X4_189 ?_
    refine s_callS hX (as := [.long (x2.toInt64), .long (0 : Int64), .long (60 : Int64)]) dX4_later_14 k_X4_74 v_X4_in (m_X4_in (x2.toInt64) (0 : Int64) (60 : Int64) σ μ _ rfl) ⟨rfl, rfl⟩ ⟨(Nat.le_of_ble_eq_true rfl), (Nat.le_of_ble_eq_true rfl)⟩ rfl rfl (Nat.le_of_ble_eq_true rfl) ?_
    refine s_if_ne hX 22 dX4_later_17 (by decide) (fun c2 => ?_) (fun c2 => ?_)
    · have h := (if_neg c2).symm.trans h
      refine s_aload_n hX dX4_later_22 rfl ?_
      obtain ⟨q3, e3, h⟩ := fs_bind h
      refine s_cV hX [] dX4_later_23 k_X4_191 v_X4_layAside (m_X4_layAside σ μ q3 e3) ⟨_, rfl⟩ fs_c4 ⟨rfl, rfl⟩ ⟨(Nat.le_of_ble_eq_true rfl), (Nat.le_of_ble_eq_true rfl)⟩ rfl rfl (Nat.le_of_ble_eq_true rfl) ?_
      refine s_ic hX (0 : Int32) dX4_later_26 (by decide) ?_
      refine s_istore_n hX dX4_later_27 (Nat.le_of_ble_eq_true rfl) ?_
      refine s_ic hX (0 : Int32) dX4_later_28 (by decide) ?_
      refine s_istore hX dX4_later_29 (Nat.le_of_ble_eq_true rfl) ?_
      obtain ⟨q8, e8, h⟩ := fs_bind h
      refine fs_ma [true, true, true, true, true, false, false] ?_
      refine l_X4_later_31  hX fs_fu x1 x2 (0 : Int32) (0 : Int32) q3 μ q8 e8 ?_
      refine s_aload_n hX dX4_later_75 rfl ?_
      refine s_aload_n hX dX4_later_76 rfl ?_
      refine s_getr hX dX4_later_77 f_X4_41 rfl ?_
      refine s_ic hX (1 : Int32) dX4_later_80 (by decide) ?_
      refine s_iload_n hX dX4_later_81 rfl ?_
      refine s_iadd hX dX4_later_82 ?_
      obtain ⟨g9, h⟩ := fs_gd h
      refine s_iald hX dX4_later_83 g9 ?_
      refine s_iload_n hX dX4_later_84 rfl ?_
      refine s_cV hX [.int (q8.2 61 ((1 : Int32) + x1).toNatClampNeg), .int q8.1] dX4_later_85 k_X4_186 v_X4_answer (m_X4_answer (q8.2 61 ((1 : Int32) + x1).toNatClampNeg) q8.1 q8.2 μ _ rfl) ⟨_, rfl⟩ fs_c4 ⟨rfl, rfl⟩ ⟨(Nat.le_of_ble_eq_true rfl), (Nat.le_of_ble_eq_true rfl)⟩ rfl rfl (Nat.le_of_ble_eq_true rfl) ?_
      cases h
      exact s_iret hX hR dX4_later_88
    · have h := (if_pos c2).symm.trans h
      refine s_ic hX (-1 : Int32) dX4_later_20 (by decide) ?_
      cases h
      exact s_iret hX hR dX4_later_21

-- X4_settles
def L_X4_settles_36  : Nat → Int32 → Int32 → Int32 → Int32 → fsS → Option (Int32)
  | 0, _, _, _, _, _ => none
  | n0 + 1, y1, y2, y3, y4, σ => if (σ 51 9) ≤ y4 then some y3 else fs_g (fs_in ((1 : Int32) + y4) 13) (if y3 = 0 then L_X4_settles_36  n0 y1 y2 (0 : Int32) (y4 + (1 : Int32)) σ else fs_g (fs_in y4 6) (fs_g (fs_in y4 6) (if (σ 61 ((1 : Int32) + y4).toNatClampNeg) = (F_X4_greater (0 : Int32) (F_X4_lesser (99 : Int32) ((((σ 61 ((1 : Int32) + y4).toNatClampNeg) + y2) - (σ 62 y4.toNatClampNeg)) - (σ 59 y4.toNatClampNeg)))) then L_X4_settles_36  n0 y1 y2 (1 : Int32) (y4 + (1 : Int32)) σ else L_X4_settles_36  n0 y1 y2 (0 : Int32) (y4 + (1 : Int32)) σ)))
def L_X4_settles_16  : Nat → Int32 → fsS → Option (Nat × Int32 × Int32 × fsS)
  | 0, _, _ => none
  | n0 + 1, y1, σ => if (61 : Int32) ≤ y1 then some (1, (0 : Int32), (0 : Int32), σ) else (F_X4_laysRegards 61 σ).bind (fun q4 => (L_X4_settles_36  fs_fu y1 q4.1 (1 : Int32) (0 : Int32) q4.2).bind (fun q11 => (F_X4_goes 61 q4.2).bind (fun q12 => if q11 = 0 then L_X4_settles_16  n0 (y1 + (1 : Int32)) q12.2 else some (0, y1, q12.1, q12.2))))
def F_X4_settles (σ : fsS) : Option (Int32 × fsS) := if (σ 51 9) = 0 then some ((-4 : Int32), σ) else (F_X4_layAside  σ).bind (fun q2 => (L_X4_settles_16  fs_fu (0 : Int32) q2).bind (fun q14 => if q14.1 = 0 then some ((F_X4_answer q14.2.1 q14.2.2.1 q14.2.2.2).1, (F_X4_answer q14.2.1 q14.2.2.1 q14.2.2.2).2) else some ((-9 : Int32), q14.2.2.2)))
set_option maxRecDepth 20000 in
set_option maxHeartbeats 40000000 in
theorem l_X4_settles_36   {X : fsC} (hX : fs_ok cX4_settles RX4 6 { frames := 4, cells := 0, slots := 0, locals := 93 } X) : ∀ (n : Nat) (y1 : Int32) (y2 : Int32) (y3 : Int32) (y4 : Int32) (σ : fsS) (μ : fsL) (out : Int32) (_ : L_X4_settles_36  n y1 y2 y3 y4 σ = some out) (k0 : fs_PW X 106 [some (.ref 51), some (.int y1), none, some (.int out), none, none] [] σ μ), fs_PW X 36 [some (.ref 51), some (.int y1), some (.int y2), some (.int y3), some (.int y4), none] [] σ μ := by
  intro n
  induction n with
  | zero =>
    intro y1 y2 y3 y4 σ μ out h
    cases (show (none : Option (Int32)) = some out from h)
  | succ n0 ih =>
    intro y1 y2 y3 y4 σ μ out h k0
    unfold L_X4_settles_36 at h
    refine s_iload hX dX4_settles_36 rfl ?_
    refine s_aload_n hX dX4_settles_38 rfl ?_
    refine s_geti hX dX4_settles_39 f_X4_136 rfl ?_
    refine s_ic_ge hX 106 dX4_settles_42 (by decide) (fun c5 => ?_) (fun c5 => ?_)
    · have h := (if_pos c5).symm.trans h
      cases h
      refine fs_ma [true, true, false, true, false, false] ?_
      exact k0
    · have h := (if_neg c5).symm.trans h
      refine s_aload_n hX dX4_settles_45 rfl ?_
      refine s_getr hX dX4_settles_46 f_X4_41 rfl ?_
      refine s_ic hX (1 : Int32) dX4_settles_49 (by decide) ?_
      refine s_iload hX dX4_settles_50 rfl ?_
      refine s_iadd hX dX4_settles_52 ?_
      obtain ⟨g6, h⟩ := fs_gd h
      refine s_iald hX dX4_settles_53 g6 ?_
      refine s_istore hX dX4_settles_54 (Nat.le_of_ble_eq_true rfl) ?_
      refine s_iload_n hX dX4_settles_56 rfl ?_
      refine s_if_eq hX 98 dX4_settles_57 (by decide) (fun c7 => ?_) (fun c7 => ?_)
      · have h := (if_pos c7).symm.trans h
        refine s_ic hX (0 : Int32) dX4_settles_98 (by decide) ?_
        refine s_istore_n hX dX4_settles_99 (Nat.le_of_ble_eq_true rfl) ?_
        refine s_iinc hX (y4 + (1 : Int32)) dX4_settles_100 rfl rfl (Nat.le_of_ble_eq_true rfl) ?_
        refine s_goto hX 36 dX4_settles_103 (by decide) ?_
        refine fs_ma [true, true, true, true, true, false] ?_
        exact ih y1 y2 (0 : Int32) (y4 + (1 : Int32)) σ μ out h k0
      · have h := (if_neg c7).symm.trans h
        refine s_iload hX dX4_settles_60 rfl ?_
        refine s_ic hX (0 : Int32) dX4_settles_62 (by decide) ?_
        refine s_bi hX (99 : Int32) dX4_settles_63 (by decide) ?_
        refine s_iload hX dX4_settles_65 rfl ?_
        refine s_iload_n hX dX4_settles_67 rfl ?_
        refine s_iadd hX dX4_settles_68 ?_
        refine s_aload_n hX dX4_settles_69 rfl ?_
        refine s_getr hX dX4_settles_70 f_X4_44 rfl ?_
        refine s_iload hX dX4_settles_73 rfl ?_
        obtain ⟨g8, h⟩ := fs_gd h
        refine s_iald hX dX4_settles_75 g8 ?_
        refine s_isub hX dX4_settles_76 ?_
        refine s_aload_n hX dX4_settles_77 rfl ?_
        refine s_getr hX dX4_settles_78 f_X4_35 rfl ?_
        refine s_iload hX dX4_settles_81 rfl ?_
        obtain ⟨g9, h⟩ := fs_gd h
        refine s_iald hX dX4_settles_83 g9 ?_
        refine s_isub hX dX4_settles_84 ?_
        refine s_callS hX (as := [.int (99 : Int32), .int ((((σ 61 ((1 : Int32) + y4).toNatClampNeg) + y2) - (σ 62 y4.toNatClampNeg)) - (σ 59 y4.toNatClampNeg))]) dX4_settles_85 k_X4_143 v_X4_lesser (m_X4_lesser (99 : Int32) ((((σ 61 ((1 : Int32) + y4).toNatClampNeg) + y2) - (σ 62 y4.toNatClampNeg)) - (σ 59 y4.toNatClampNeg)) σ μ _ rfl) ⟨rfl, rfl⟩ ⟨(Nat.le_of_ble_eq_true rfl), (Nat.le_of_ble_eq_true rfl)⟩ rfl rfl (Nat.le_of_ble_eq_true rfl) ?_
        refine s_callS hX (as := [.int (0 : Int32), .int (F_X4_lesser (99 : Int32) ((((σ 61 ((1 : Int32) + y4).toNatClampNeg) + y2) - (σ 62 y4.toNatClampNeg)) - (σ 59 y4.toNatClampNeg)))]) dX4_settles_88 k_X4_139 v_X4_greater (m_X4_greater (0 : Int32) (F_X4_lesser (99 : Int32) ((((σ 61 ((1 : Int32) + y4).toNatClampNeg) + y2) - (σ 62 y4.toNatClampNeg)) - (σ 59 y4.toNatClampNeg))) σ μ _ rfl) ⟨rfl, rfl⟩ ⟨(Nat.le_of_ble_eq_true rfl), (Nat.le_of_ble_eq_true rfl)⟩ rfl rfl (Nat.le_of_ble_eq_true rfl) ?_
        refine s_ic_ne hX 98 dX4_settles_91 (by decide) (fun c10 => ?_) (fun c10 => ?_)
        · have h := (if_neg c10).symm.trans h
          refine s_ic hX (0 : Int32) dX4_settles_98 (by decide) ?_
          refine s_istore_n hX dX4_settles_99 (Nat.le_of_ble_eq_true rfl) ?_
          refine s_iinc hX (y4 + (1 : Int32)) dX4_settles_100 rfl rfl (Nat.le_of_ble_eq_true rfl) ?_
          refine s_goto hX 36 dX4_settles_103 (by decide) ?_
          refine fs_ma [true, true, true, true, true, false] ?_
          exact ih y1 y2 (0 : Int32) (y4 + (1 : Int32)) σ μ out h k0
        · have h := (if_pos c10).symm.trans h
          refine s_ic hX (1 : Int32) dX4_settles_94 (by decide) ?_
          refine s_goto hX 99 dX4_settles_95 (by decide) ?_
          refine s_istore_n hX dX4_settles_99 (Nat.le_of_ble_eq_true rfl) ?_
          refine s_iinc hX (y4 + (1 : Int32)) dX4_settles_100 rfl rfl (Nat.le_of_ble_eq_true rfl) ?_
          refine s_goto hX 36 dX4_settles_103 (by decide) ?_
          refine fs_ma [true, true, true, true, true, false] ?_
          exact ih y1 y2 (1 : Int32) (y4 + (1 : Int32)) σ μ out h k0
set_option maxRecDepth 20000 in
set_option maxHeartbeats 40000000 in
theorem l_X4_settles_16   {X : fsC} (hX : fs_ok cX4_settles RX4 6 { frames := 4, cells := 0, slots := 0, locals := 93 } X) : ∀ (n : Nat) (y1 : Int32) (σ : fsS) (μ : fsL) (out : Nat × Int32 × Int32 × fsS) (_ : L_X4_settles_16  n y1 σ = some out) (k0 : out.1 = 0 → fs_PW X 120 [some (.ref 51), some (.int out.2.1), none, none, some (.int out.2.2.1), none] [] out.2.2.2 μ) (k1 : out.1 = 1 → fs_PW X 134 [none, none, none, none, none, none] [] out.2.2.2 μ), fs_PW X 16 [some (.ref 51), some (.int y1), none, none, none, none] [] σ μ := by
  intro n
  induction n with
  | zero =>
    intro y1 σ μ out h
    cases (show (none : Option (Nat × Int32 × Int32 × fsS)) = some out from h)
  | succ n0 ih =>
    intro y1 σ μ out h k0 k1
    unfold L_X4_settles_16 at h
    refine s_iload_n hX dX4_settles_16 rfl ?_
    refine s_bi hX (61 : Int32) dX4_settles_17 (by decide) ?_
    refine s_ic_ge hX 134 dX4_settles_19 (by decide) (fun c3 => ?_) (fun c3 => ?_)
    · have h := (if_pos c3).symm.trans h
      cases h
      refine fs_ma [false, false, false, false, false, false] ?_
      exact k1 rfl
    · have h := (if_neg c3).symm.trans h
      refine s_aload_n hX dX4_settles_22 rfl ?_
      refine s_aload_n hX dX4_settles_23 rfl ?_
      refine s_getr hX dX4_settles_24 f_X4_41 rfl ?_
      obtain ⟨q4, e4, h⟩ := fs_bind h
      refine s_cV hX [.ref 61] dX4_settles_27 k_X4_150 v_X4_laysRegards (m_X4_laysRegards 61 σ μ q4 e4) ⟨_, rfl⟩ fs_c4 ⟨rfl, rfl⟩ ⟨(Nat.le_of_ble_eq_true rfl), (Nat.le_of_ble_eq_true rfl)⟩ rfl rfl (Nat.le_of_ble_eq_true rfl) ?_
      refine s_istore_n hX dX4_settles_30 (Nat.le_of_ble_eq_true rfl) ?_
      refine s_ic hX (1 : Int32) dX4_settles_31 (by decide) ?_
      refine s_istore_n hX dX4_settles_32 (Nat.le_of_ble_eq_true rfl) ?_
      refine s_ic hX (0 : Int32) dX4_settles_33 (by decide) ?_
      refine s_istore hX dX4_settles_34 (Nat.le_of_ble_eq_true rfl) ?_
      obtain ⟨q11, e11, h⟩ := fs_bind h
      refine fs_ma [true, true, true, true, true, false] ?_
      refine l_X4_settles_36  hX fs_fu y1 q4.1 (1 : Int32) (0 : Int32) q4.2 μ q11 e11 ?_
      refine s_aload_n hX dX4_settles_106 rfl ?_
      refine s_aload_n hX dX4_settles_107 rfl ?_
      refine s_getr hX dX4_settles_108 f_X4_41 rfl ?_
      obtain ⟨q12, e12, h⟩ := fs_bind h
      refine s_cV hX [.ref 61] dX4_settles_111 k_X4_181 v_X4_goes (m_X4_goes 61 q4.2 μ q12 e12) ⟨_, rfl⟩ fs_c4 ⟨rfl, rfl⟩ ⟨(Nat.le_of_ble_eq_true rfl), (Nat.le_of_ble_eq_true rfl)⟩ rfl rfl (Nat.le_of_ble_eq_true rfl) ?_
      refine s_istore hX dX4_settles_114 (Nat.le_of_ble_eq_true rfl) ?_
      refine s_iload_n hX dX4_settles_116 rfl ?_
      refine s_if_eq hX 128 dX4_settles_117 (by decide) (fun c13 => ?_) (fun c13 => ?_)
      · have h := (if_pos c13).symm.trans h
        refine s_iinc hX (y1 + (1 : Int32)) dX4_settles_128 rfl rfl (Nat.le_of_ble_eq_true rfl) ?_
        refine s_goto hX 16 dX4_settles_131 (by decide) ?_
        refine fs_ma [true, true, false, false, false, false] ?_
        exact ih (y1 + (1 : Int32)) q12.2 μ out h k0 k1
      · have h := (if_neg c13).symm.trans h
        cases h
        refine fs_ma [true, true, false, false, true, false] ?_
        exact k0 rfl
set_option maxRecDepth 20000 in
set_option maxHeartbeats 40000000 in
theorem m_X4_settles   (σ : fsS) (μ : fsL) (out : Int32 × fsS) (h : F_X4_settles  σ = some out) : fs_Met yX4_settles cX4_settles 6 (some .int) { frames := 4, cells := 0, slots := 0, locals := 93 } [.ref 51] σ μ (some (.int out.1)) out.2 μ := by
  unfold F_X4_settles at h
  refine fs_intro (by decide +kernel) (Nat.le_of_ble_eq_true rfl) (fun X hX hR => ?_)
  show fs_PW X 0 [some (.ref 51), none, none, none, none, none] [] σ μ
  refine s_aload_n hX dX4_settles_0 rfl ?_
  refine s_geti hX dX4_settles_1 f_X4_136 rfl ?_
  refine s_if_ne hX 10 dX4_settles_4 (by decide) (fun c1 => ?_) (fun c1 => ?_)
  · have h := (if_neg c1).symm.trans h
    refine s_aload_n hX dX4_settles_10 rfl ?_
    obtain ⟨q2, e2, h⟩ := fs_bind h
    refine s_cV hX [] dX4_settles_11 k_X4_191 v_X4_layAside (m_X4_layAside σ μ q2 e2) ⟨_, rfl⟩ fs_c4 ⟨rfl, rfl⟩ ⟨(Nat.le_of_ble_eq_true rfl), (Nat.le_of_ble_eq_true rfl)⟩ rfl rfl (Nat.le_of_ble_eq_true rfl) ?_
    refine s_ic hX (0 : Int32) dX4_settles_14 (by decide) ?_
    refine s_istore_n hX dX4_settles_15 (Nat.le_of_ble_eq_true rfl) ?_
    obtain ⟨q14, e14, h⟩ := fs_bind h
    refine fs_ma [true, true, false, false, false, false] ?_
    refine l_X4_settles_16  hX fs_fu (0 : Int32) q2 μ q14 e14 (fun c15 => ?_) (fun c15 => ?_)
    · have h := (if_pos c15).symm.trans h
      refine s_aload_n hX dX4_settles_120 rfl ?_
      refine s_iload_n hX dX4_settles_121 rfl ?_
      refine s_iload hX dX4_settles_122 rfl ?_
      refine s_cV hX [.int q14.2.1, .int q14.2.2.1] dX4_settles_124 k_X4_186 v_X4_answer (m_X4_answer q14.2.1 q14.2.2.1 q14.2.2.2 μ _ rfl) ⟨_, rfl⟩ fs_c4 ⟨rfl, rfl⟩ ⟨(Nat.le_of_ble_eq_true rfl), (Nat.le_of_ble_eq_true rfl)⟩ rfl rfl (Nat.le_of_ble_eq_true rfl) ?_
      cases h
      exact s_iret hX hR dX4_settles_127
    · have h := (if_neg (show ¬ q14.1 = 0 by rw [c15]; decide)).symm.trans h
      refine s_bi hX (-9 : Int32) dX4_settles_134 (by decide) ?_
      cases h
      exact s_iret hX hR dX4_settles_136
  · have h := (if_pos c1).symm.trans h
    refine s_bi hX (-4 : Int32) dX4_settles_7 (by decide) ?_
    cases h
    exact s_iret hX hR dX4_settles_9
