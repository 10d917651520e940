-- X4_fault
def F_X4_fault (x1 : Int32) (σ : fsS) : Option (Int32 × fsS) := if (F_X4_isText x1) = 0 then some ((-1 : Int32), σ) else fs_g (fs_in x1 4) (if 0 ≤ (σ 55 x1.toNatClampNeg) then (F_X4_reads x1 σ).bind (fun q4 => some (q4.1, q4.2)) else (F_X4_found (1 : Int32) σ).bind (fun q5 => some (q5.1, q5.2)))
set_option maxRecDepth 20000 in
set_option maxHeartbeats 40000000 in
theorem m_X4_fault (x1 : Int32)  (σ : fsS) (μ : fsL) (out : Int32 × fsS) (h : F_X4_fault x1 σ = some out) : fs_Met yX4_fault cX4_fault 2 (some .int) { frames := 4, cells := 0, slots := 0, locals := 89 } [.ref 51, .int x1] σ μ (some (.int out.1)) out.2 μ := by
  unfold F_X4_fault at h
  refine fs_intro (by decide +kernel) (Nat.le_of_ble_eq_true rfl) (fun X hX hR => ?_)
  show fs_PW X 0 [some (.ref 51), some (.int x1)] [] σ μ
  refine s_iload_n hX dX4_fault_0 rfl ?_
  refine s_callS hX (as := [.int x1]) dX4_fault_1 k_X4_91 v_X4_isText (m_X4_isText x1 σ μ _ rfl) ⟨rfl, rfl⟩ ⟨(Nat.le_of_ble_eq_true rfl), (Nat.le_of_ble_eq_true rfl)⟩ rfl rfl (Nat.le_of_ble_eq_true rfl) ?_
  refine s_if_ne hX 9 dX4_fault_4 (by decide) (fun c1 => ?_) (fun c1 => ?_)
  · have h := (if_neg c1).symm.trans h
    refine s_aload_n hX dX4_fault_9 rfl ?_
    refine s_getr hX dX4_fault_10 f_X4_19 rfl ?_
    refine s_iload_n hX dX4_fault_13 rfl ?_
    obtain ⟨g2, h⟩ := fs_gd h
    refine s_iald hX dX4_fault_14 g2 ?_
    refine s_if_ge hX 26 dX4_fault_15 (by decide) (fun c3 => ?_) (fun c3 => ?_)
    · have h := (if_pos c3).symm.trans h
      refine s_aload_n hX dX4_fault_26 rfl ?_
      refine s_iload_n hX dX4_fault_27 rfl ?_
      obtain ⟨q4, e4, h⟩ := fs_bind h
      refine s_cV hX [.int x1] dX4_fault_28 k_X4_133 v_X4_reads (m_X4_reads x1 σ μ q4 e4) ⟨_, rfl⟩ fs_c4 ⟨rfl, rfl⟩ ⟨(Nat.le_of_ble_eq_true rfl), (Nat.le_of_ble_eq_true rfl)⟩ rfl rfl (Nat.le_of_ble_eq_true rfl) ?_
      cases h
      exact s_iret hX hR dX4_fault_31
    · have h := (if_neg c3).symm.trans h
      refine s_aload_n hX dX4_fault_18 rfl ?_
      refine s_ic hX (1 : Int32) dX4_fault_19 (by decide) ?_
      obtain ⟨q5, e5, h⟩ := fs_bind h
      refine s_cV hX [.int (1 : Int32)] dX4_fault_20 k_X4_84 v_X4_found (m_X4_found (1 : Int32) σ μ q5 e5) ⟨_, rfl⟩ fs_c4 ⟨rfl, rfl⟩ ⟨(Nat.le_of_ble_eq_true rfl), (Nat.le_of_ble_eq_true rfl)⟩ rfl rfl (Nat.le_of_ble_eq_true rfl) ?_
      refine s_goto hX 31 dX4_fault_23 (by decide) ?_
      cases h
      exact s_iret hX hR dX4_fault_31
  · have h := (if_pos c1).symm.trans h
    refine s_ic hX (-1 : Int32) dX4_fault_7 (by decide) ?_
    cases h
    exact s_iret hX hR dX4_fault_8

-- X4_house
def L_X4_house_47  : Nat → Int32 → fsS → Option (fsS)
  | 0, _, _ => none
  | n0 + 1, y2, σ => if (σ 51 9) ≤ y2 then some σ else fs_g (fs_in ((5 : Int32) * y2) 30) (fs_g (fs_in y2 6) (fs_g (fs_in (((5 : Int32) * y2) + (1 : Int32)) 30) (fs_g (fs_in y2 6) (fs_g (fs_in (((5 : Int32) * y2) + (2 : Int32)) 30) (fs_g (fs_in y2 6) (fs_g (fs_in (((5 : Int32) * y2) + (3 : Int32)) 30) (fs_g (fs_in (((5 : Int32) * y2) + (4 : Int32)) 30) (fs_g (fs_in ((1 : Int32) + y2) 13) (L_X4_house_47  n0 (y2 + (1 : Int32)) (fs_u (fs_u (fs_u (fs_u σ 57 y2.toNatClampNeg (σ 65 ((5 : Int32) * y2).toNatClampNeg)) 58 y2.toNatClampNeg (σ 65 (((5 : Int32) * y2) + (1 : Int32)).toNatClampNeg)) 59 y2.toNatClampNeg (σ 65 (((5 : Int32) * y2) + (2 : Int32)).toNatClampNeg)) 60 ((1 : Int32) + y2).toNatClampNeg (((10 : Int32) * (σ 65 (((5 : Int32) * y2) + (3 : Int32)).toNatClampNeg)) + (σ 65 (((5 : Int32) * y2) + (4 : Int32)).toNatClampNeg))))))))))))
def F_X4_house (x1 : Int32) (σ : fsS) : Option (Int32 × fsS) := if (F_X4_isText x1) = 0 then some ((-1 : Int32), σ) else fs_g (fs_in x1 4) (if 0 ≤ (σ 55 x1.toNatClampNeg) then (F_X4_reads x1 σ).bind (fun q4 => if q4.1 = (-9 : Int32) then (L_X4_house_47  fs_fu (0 : Int32) (fs_u q4.2 51 9 (q4.2 51 23))).bind (fun q16 => (F_X4_forgets  q16).bind (fun q17 => some ((q17 51 9), q17))) else some ((-4 : Int32), q4.2)) else (F_X4_found (1 : Int32) σ).bind (fun q18 => some (q18.1, q18.2)))
set_option maxRecDepth 20000 in
set_option maxHeartbeats 40000000 in
theorem l_X4_house_47   {X : fsC} (hX : fs_ok cX4_house RX4 3 { frames := 4, cells := 0, slots := 0, locals := 89 } X) : ∀ (n : Nat) (y2 : Int32) (σ : fsS) (μ : fsL) (out : fsS) (_ : L_X4_house_47  n y2 σ = some out) (k0 : fs_PW X 139 [some (.ref 51), none, none] [] out μ), fs_PW X 47 [some (.ref 51), none, some (.int y2)] [] σ μ := by
  intro n
  induction n with
  | zero =>
    intro y2 σ μ out h
    cases (show (none : Option (fsS)) = some out from h)
  | succ n0 ih =>
    intro y2 σ μ out h k0
    unfold L_X4_house_47 at h
    refine s_iload_n hX dX4_house_47 rfl ?_
    refine s_aload_n hX dX4_house_48 rfl ?_
    refine s_geti hX dX4_house_49 f_X4_136 rfl ?_
    refine s_ic_ge hX 139 dX4_house_52 (by decide) (fun c6 => ?_) (fun c6 => ?_)
    · have h := (if_pos c6).symm.trans h
      cases h
      refine fs_ma [true, false, false] ?_
      exact k0
    · have h := (if_neg c6).symm.trans h
      refine s_aload_n hX dX4_house_55 rfl ?_
      refine s_getr hX dX4_house_56 f_X4_29 rfl ?_
      refine s_iload_n hX dX4_house_59 rfl ?_
      refine s_aload_n hX dX4_house_60 rfl ?_
      refine s_getr hX dX4_house_61 f_X4_53 rfl ?_
      refine s_ic hX (5 : Int32) dX4_house_64 (by decide) ?_
      refine s_iload_n hX dX4_house_65 rfl ?_
      refine s_imul hX dX4_house_66 ?_
      obtain ⟨g7, h⟩ := fs_gd h
      refine s_iald hX dX4_house_67 g7 ?_
      obtain ⟨g8, h⟩ := fs_gd h
      refine s_iast hX dX4_house_68 g8 ?_
      refine s_aload_n hX dX4_house_69 rfl ?_
      refine s_getr hX dX4_house_70 f_X4_32 rfl ?_
      refine s_iload_n hX dX4_house_73 rfl ?_
      refine s_aload_n hX dX4_house_74 rfl ?_
      refine s_getr hX dX4_house_75 f_X4_53 rfl ?_
      refine s_ic hX (5 : Int32) dX4_house_78 (by decide) ?_
      refine s_iload_n hX dX4_house_79 rfl ?_
      refine s_imul hX dX4_house_80 ?_
      refine s_ic hX (1 : Int32) dX4_house_81 (by decide) ?_
      refine s_iadd hX dX4_house_82 ?_
      obtain ⟨g9, h⟩ := fs_gd h
      refine s_iald hX dX4_house_83 g9 ?_
      obtain ⟨g10, h⟩ := fs_gd h
      refine s_iast hX dX4_house_84 g10 ?_
      refine s_aload_n hX dX4_house_85 rfl ?_
      refine s_getr hX dX4_house_86 f_X4_35 rfl ?_
      refine s_iload_n hX dX4_house_89 rfl ?_
      refine s_aload_n hX dX4_house_90 rfl ?_
      refine s_getr hX dX4_house_91 f_X4_53 rfl ?_
      refine s_ic hX (5 : Int32) dX4_house_94 (by decide) ?_
      refine s_iload_n hX dX4_house_95 rfl ?_
      refine s_imul hX dX4_house_96 ?_
      refine s_ic hX (2 : Int32) dX4_house_97 (by decide) ?_
      refine s_iadd hX dX4_house_98 ?_
      obtain ⟨g11, h⟩ := fs_gd h
      refine s_iald hX dX4_house_99 g11 ?_
      obtain ⟨g12, h⟩ := fs_gd h
      refine s_iast hX dX4_house_100 g12 ?_
      refine s_aload_n hX dX4_house_101 rfl ?_
      refine s_getr hX dX4_house_102 f_X4_38 rfl ?_
      refine s_ic hX (1 : Int32) dX4_house_105 (by decide) ?_
      refine s_iload_n hX dX4_house_106 rfl ?_
      refine s_iadd hX dX4_house_107 ?_
      refine s_bi hX (10 : Int32) dX4_house_108 (by decide) ?_
      refine s_aload_n hX dX4_house_110 rfl ?_
      refine s_getr hX dX4_house_111 f_X4_53 rfl ?_
      refine s_ic hX (5 : Int32) dX4_house_114 (by decide) ?_
      refine s_iload_n hX dX4_house_115 rfl ?_
      refine s_imul hX dX4_house_116 ?_
      refine s_ic hX (3 : Int32) dX4_house_117 (by decide) ?_
      refine s_iadd hX dX4_house_118 ?_
      obtain ⟨g13, h⟩ := fs_gd h
      refine s_iald hX dX4_house_119 g13 ?_
      refine s_imul hX dX4_house_120 ?_
      refine s_aload_n hX dX4_house_121 rfl ?_
      refine s_getr hX dX4_house_122 f_X4_53 rfl ?_
      refine s_ic hX (5 : Int32) dX4_house_125 (by decide) ?_
      refine s_iload_n hX dX4_house_126 rfl ?_
      refine s_imul hX dX4_house_127 ?_
      refine s_ic hX (4 : Int32) dX4_house_128 (by decide) ?_
      refine s_iadd hX dX4_house_129 ?_
      obtain ⟨g14, h⟩ := fs_gd h
      refine s_iald hX dX4_house_130 g14 ?_
      refine s_iadd hX dX4_house_131 ?_
      obtain ⟨g15, h⟩ := fs_gd h
      refine s_iast hX dX4_house_132 g15 ?_
      refine s_iinc hX (y2 + (1 : Int32)) dX4_house_133 rfl rfl (Nat.le_of_ble_eq_true rfl) ?_
      refine s_goto hX 47 dX4_house_136 (by decide) ?_
      refine fs_ma [true, false, true] ?_
      exact ih (y2 + (1 : Int32)) (fs_u (fs_u (fs_u (fs_u σ 57 y2.toNatClampNeg (σ 65 ((5 : Int32) * y2).toNatClampNeg)) 58 y2.toNatClampNeg (σ 65 (((5 : Int32) * y2) + (1 : Int32)).toNatClampNeg)) 59 y2.toNatClampNeg (σ 65 (((5 : Int32) * y2) + (2 : Int32)).toNatClampNeg)) 60 ((1 : Int32) + y2).toNatClampNeg (((10 : Int32) * (σ 65 (((5 : Int32) * y2) + (3 : Int32)).toNatClampNeg)) + (σ 65 (((5 : Int32) * y2) + (4 : Int32)).toNatClampNeg))) μ out h k0
set_option maxRecDepth 20000 in
set_option maxHeartbeats 40000000 in
theorem m_X4_house (x1 : Int32)  (σ : fsS) (μ : fsL) (out : Int32 × fsS) (h : F_X4_house x1 σ = some out) : fs_Met yX4_house cX4_house 3 (some .int) { frames := 4, cells := 0, slots := 0, locals := 89 } [.ref 51, .int x1] σ μ (some (.int out.1)) out.2 μ := by
  unfold F_X4_house at h
  refine fs_intro (by decide +kernel) (Nat.le_of_ble_eq_true rfl) (fun X hX hR => ?_)
  show fs_PW X 0 [some (.ref 51), some (.int x1), none] [] σ μ
  refine s_iload_n hX dX4_house_0 rfl ?_
  refine s_callS hX (as := [.int x1]) dX4_house_1 k_X4_91 v_X4_isText (m_X4_isText x1 σ μ _ rfl) ⟨rfl, rfl⟩ ⟨(Nat.le_of_ble_eq_true rfl), (Nat.le_of_ble_eq_true rfl)⟩ rfl rfl (Nat.le_of_ble_eq_true rfl) ?_
  refine s_if_ne hX 9 dX4_house_4 (by decide) (fun c1 => ?_) (fun c1 => ?_)
  · have h := (if_neg c1).symm.trans h
    refine s_aload_n hX dX4_house_9 rfl ?_
    refine s_getr hX dX4_house_10 f_X4_19 rfl ?_
    refine s_iload_n hX dX4_house_13 rfl ?_
    obtain ⟨g2, h⟩ := fs_gd h
    refine s_iald hX dX4_house_14 g2 ?_
    refine s_if_ge hX 24 dX4_house_15 (by decide) (fun c3 => ?_) (fun c3 => ?_)
    · have h := (if_pos c3).symm.trans h
      refine s_aload_n hX dX4_house_24 rfl ?_
      refine s_iload_n hX dX4_house_25 rfl ?_
      obtain ⟨q4, e4, h⟩ := fs_bind h
      refine s_cV hX [.int x1] dX4_house_26 k_X4_133 v_X4_reads (m_X4_reads x1 σ μ q4 e4) ⟨_, rfl⟩ fs_c4 ⟨rfl, rfl⟩ ⟨(Nat.le_of_ble_eq_true rfl), (Nat.le_of_ble_eq_true rfl)⟩ rfl rfl (Nat.le_of_ble_eq_true rfl) ?_
      refine s_bi hX (-9 : Int32) dX4_house_29 (by decide) ?_
      refine s_ic_eq hX 37 dX4_house_31 (by decide) (fun c5 => ?_) (fun c5 => ?_)
      · have h := (if_pos c5).symm.trans h
        refine s_aload_n hX dX4_house_37 rfl ?_
        refine s_aload_n hX dX4_house_38 rfl ?_
        refine s_geti hX dX4_house_39 f_X4_120 rfl ?_
        refine s_puti hX dX4_house_42 p_X4_136 rfl ?_
        refine s_ic hX (0 : Int32) dX4_house_45 (by decide) ?_
        refine s_istore_n hX dX4_house_46 (Nat.le_of_ble_eq_true rfl) ?_
        obtain ⟨q16, e16, h⟩ := fs_bind h
        refine fs_ma [true, false, true] ?_
        refine l_X4_house_47  hX fs_fu (0 : Int32) (fs_u q4.2 51 9 (q4.2 51 23)) μ q16 e16 ?_
        refine s_aload_n hX dX4_house_139 rfl ?_
        obtain ⟨q17, e17, h⟩ := fs_bind h
        refine s_cV hX [] dX4_house_140 k_X4_62 v_X4_forgets (m_X4_forgets q16 μ q17 e17) ⟨_, rfl⟩ fs_c4 ⟨rfl, rfl⟩ ⟨(Nat.le_of_ble_eq_true rfl), (Nat.le_of_ble_eq_true rfl)⟩ rfl rfl (Nat.le_of_ble_eq_true rfl) ?_
        refine s_aload_n hX dX4_house_143 rfl ?_
        refine s_geti hX dX4_house_144 f_X4_136 rfl ?_
        cases h
        exact s_iret hX hR dX4_house_147
      · have h := (if_neg c5).symm.trans h
        refine s_bi hX (-4 : Int32) dX4_house_34 (by decide) ?_
        cases h
        exact s_iret hX hR dX4_house_36
    · have h := (if_neg c3).symm.trans h
      refine s_aload_n hX dX4_house_18 rfl ?_
      refine s_ic hX (1 : Int32) dX4_house_19 (by decide) ?_
      obtain ⟨q18, e18, h⟩ := fs_bind h
      refine s_cV hX [.int (1 : Int32)] dX4_house_20 k_X4_84 v_X4_found (m_X4_found (1 : Int32) σ μ q18 e18) ⟨_, rfl⟩ fs_c4 ⟨rfl, rfl⟩ ⟨(Nat.le_of_ble_eq_true rfl), (Nat.le_of_ble_eq_true rfl)⟩ rfl rfl (Nat.le_of_ble_eq_true rfl) ?_
      cases h
      exact s_iret hX hR dX4_house_23
  · have h := (if_pos c1).symm.trans h
    refine s_ic hX (-1 : Int32) dX4_house_7 (by decide) ?_
    cases h
    exact s_iret hX hR dX4_house_8

-- X4_isOne
def F_X4_isOne (x1 : Int32) (σ : fsS) : Int32 := (F_X4_in (x1.toInt64) (0 : Int64) (((σ 51 9) - (1 : Int32)).toInt64))
theorem z_X4_isOne (x1 : Int32) (σ : fsS) : F_X4_isOne x1 σ = 0 ∨ F_X4_isOne x1 σ = 1 := by
  unfold F_X4_isOne
  (repeat' split) <;> first | exact Or.inl rfl | exact Or.inr rfl | exact (z_X4_in _ _ _)
set_option maxRecDepth 20000 in
set_option maxHeartbeats 40000000 in
theorem m_X4_isOne (x1 : Int32)  (σ : fsS) (μ : fsL) (out : Int32) (h : F_X4_isOne x1 σ = out) : fs_Met yX4_isOne cX4_isOne 2 (some .boolean) { frames := 1, cells := 0, slots := 0, locals := 25 } [.ref 51, .int x1] σ μ (some (.int out)) σ μ := by
  unfold F_X4_isOne at h
  refine fs_intro (by decide +kernel) (Nat.le_of_ble_eq_true rfl) (fun X hX hR => ?_)
  show fs_PW X 0 [some (.ref 51), some (.int x1)] [] σ μ
  refine s_iload_n hX dX4_isOne_0 rfl ?_
  refine s_i2l hX dX4_isOne_1 ?_
  refine s_lc hX (0 : Int64) dX4_isOne_2 (by decide) ?_
  refine s_aload_n hX dX4_isOne_3 rfl ?_
  refine s_geti hX dX4_isOne_4 f_X4_136 rfl ?_
  refine s_ic hX (1 : Int32) dX4_isOne_7 (by decide) ?_
  refine s_isub hX dX4_isOne_8 ?_
  refine s_i2l hX dX4_isOne_9 ?_
  refine s_callS hX (as := [.long (x1.toInt64), .long (0 : Int64), .long (((σ 51 9) - (1 : Int32)).toInt64)]) dX4_isOne_10 k_X4_74 v_X4_in (m_X4_in (x1.toInt64) (0 : Int64) (((σ 51 9) - (1 : Int32)).toInt64) σ μ _ rfl) ⟨rfl, rfl⟩ ⟨(Nat.le_of_ble_eq_true rfl), (Nat.le_of_ble_eq_true rfl)⟩ rfl rfl (Nat.le_of_ble_eq_true rfl) ?_
  subst h
  exact s_zret hX (z_X4_in _ _ _) hR dX4_isOne_13

-- X4_lesser
def F_X4_lesser (x0 : Int32) (x1 : Int32) : Int32 := if x1 ≤ x0 then x1 else x0
set_option maxRecDepth 20000 in
set_option maxHeartbeats 40000000 in
theorem m_X4_lesser (x0 : Int32) (x1 : Int32)  (σ : fsS) (μ : fsL) (out : Int32) (h : F_X4_lesser x0 x1 = out) : fs_Met yX4_lesser cX4_lesser 2 (some .int) { frames := 0, cells := 0, slots := 0, locals := 0 } [.int x0, .int x1] σ μ (some (.int out)) σ μ := by
  unfold F_X4_lesser at h
  refine fs_intro (by decide +kernel) (Nat.le_of_ble_eq_true rfl) (fun X hX hR => ?_)
  show fs_PW X 0 [some (.int x0), some (.int x1)] [] σ μ
  refine s_iload_n hX dX4_lesser_0 rfl ?_
  refine s_iload_n hX dX4_lesser_1 rfl ?_
  refine s_ic_ge hX 9 dX4_lesser_2 (by decide) (fun c1 => ?_) (fun c1 => ?_)
  · have h := (if_pos c1).symm.trans h
    refine s_iload_n hX dX4_lesser_9 rfl ?_
    subst h
    exact s_iret hX hR dX4_lesser_10
  · have h := (if_neg c1).symm.trans h
    refine s_iload_n hX dX4_lesser_5 rfl ?_
    refine s_goto hX 10 dX4_lesser_6 (by decide) ?_
    subst h
    exact s_iret hX hR dX4_lesser_10

-- X4_greater
def F_X4_greater (x0 : Int32) (x1 : Int32) : Int32 := if x0 ≤ x1 then x1 else x0
set_option maxRecDepth 20000 in
set_option maxHeartbeats 40000000 in
theorem m_X4_greater (x0 : Int32) (x1 : Int32)  (σ : fsS) (μ : fsL) (out : Int32) (h : F_X4_greater x0 x1 = out) : fs_Met yX4_greater cX4_greater 2 (some .int) { frames := 0, cells := 0, slots := 0, locals := 0 } [.int x0, .int x1] σ μ (some (.int out)) σ μ := by
  unfold F_X4_greater at h
  refine fs_intro (by decide +kernel) (Nat.le_of_ble_eq_true rfl) (fun X hX hR => ?_)
  show fs_PW X 0 [some (.int x0), some (.int x1)] [] σ μ
  refine s_iload_n hX dX4_greater_0 rfl ?_
  refine s_iload_n hX dX4_greater_1 rfl ?_
  refine s_ic_le hX 9 dX4_greater_2 (by decide) (fun c1 => ?_) (fun c1 => ?_)
  · have h := (if_pos c1).symm.trans h
    refine s_iload_n hX dX4_greater_9 rfl ?_
    subst h
    exact s_iret hX hR dX4_greater_10
  · have h := (if_neg c1).symm.trans h
    refine s_iload_n hX dX4_greater_5 rfl ?_
    refine s_goto hX 10 dX4_greater_6 (by decide) ?_
    subst h
    exact s_iret hX hR dX4_greater_10

-- X4_regardBy
def F_X4_regardBy (x0 : Int32) (x1 : Int32) (x2 : Int32) (x3 : Int32) : Int32 := if x3 ≤ (19 : Int32) then if (10 : Int32) ≤ x3 then if x0 = (1 : Int32) then (F_X4_greater (0 : Int32) (x1 - ((2 : Int32) * x2))) else if x0 = (2 : Int32) then ((F_X4_greater (0 : Int32) (x1 - ((2 : Int32) * x2))) + (F_X4_lesser (9 : Int32) (x3 / (10 : Int32)))) else if x0 = (3 : Int32) then (F_X4_greater (0 : Int32) (x1 - ((2 : Int32) * x2))) else if x0 = (4 : Int32) then ((2 : Int32) * (F_X4_greater (0 : Int32) (x1 - ((2 : Int32) * x2)))) else if x0 = (5 : Int32) then ((F_X4_greater (0 : Int32) (x1 - ((2 : Int32) * x2))) / (2 : Int32)) else (F_X4_greater (0 : Int32) (x1 - ((2 : Int32) * x2))) else if x0 = (1 : Int32) then (F_X4_greater (0 : Int32) (x1 - ((2 : Int32) * x2))) else if x0 = (2 : Int32) then ((F_X4_greater (0 : Int32) (x1 - ((2 : Int32) * x2))) + (F_X4_lesser (9 : Int32) (x3 / (10 : Int32)))) else if x0 = (3 : Int32) then (F_X4_greater (0 : Int32) ((F_X4_greater (0 : Int32) (x1 - ((2 : Int32) * x2))) - (1 : Int32))) else if x0 = (4 : Int32) then ((2 : Int32) * (F_X4_greater (0 : Int32) (x1 - ((2 : Int32) * x2)))) else if x0 = (5 : Int32) then ((F_X4_greater (0 : Int32) ((F_X4_greater (0 : Int32) (x1 - ((2 : Int32) * x2))) - (1 : Int32))) / (2 : Int32)) else (F_X4_greater (0 : Int32) (x1 - ((2 : Int32) * x2))) else if (10 : Int32) ≤ x3 then if x0 = (1 : Int32) then ((F_X4_greater (0 : Int32) (x1 - ((2 : Int32) * x2))) + (2 : Int32)) else if x0 = (2 : Int32) then ((F_X4_greater (0 : Int32) (x1 - ((2 : Int32) * x2))) + (F_X4_lesser (9 : Int32) (x3 / (10 : Int32)))) else if x0 = (3 : Int32) then (F_X4_greater (0 : Int32) (x1 - ((2 : Int32) * x2))) else if x0 = (4 : Int32) then ((2 : Int32) * ((F_X4_greater (0 : Int32) (x1 - ((2 : Int32) * x2))) + (2 : Int32))) else if x0 = (5 : Int32) then ((F_X4_greater (0 : Int32) (x1 - ((2 : Int32) * x2))) / (2 : Int32)) else (F_X4_greater (0 : Int32) (x1 - ((2 : Int32) * x2))) else if x0 = (1 : Int32) then ((F_X4_greater (0 : Int32) (x1 - ((2 : Int32) * x2))) + (2 : Int32)) else if x0 = (2 : Int32) then ((F_X4_greater (0 : Int32) (x1 - ((2 : Int32) * x2))) + (F_X4_lesser (9 : Int32) (x3 / (10 : Int32)))) else if x0 = (3 : Int32) then (F_X4_greater (0 : Int32) ((F_X4_greater (0 : Int32) (x1 - ((2 : Int32) * x2))) - (1 : Int32))) else if x0 = (4 : Int32) then ((2 : Int32) * ((F_X4_greater (0 : Int32) (x1 - ((2 : Int32) * x2))) + (2 : Int32))) else if x0 = (5 : Int32) then ((F_X4_greater (0 : Int32) ((F_X4_greater (0 : Int32) (x1 - ((2 : Int32) * x2))) - (1 : Int32))) / (2 : Int32)) else (F_X4_greater (0 : Int32) (x1 - ((2 : Int32) * x2)))
set_option maxRecDepth 20000 in
set_option maxHeartbeats 40000000 in
theorem m_X4_regardBy (x0 : Int32) (x1 : Int32) (x2 : Int32) (x3 : Int32)  (σ : fsS) (μ : fsL) (out : Int32) (h : F_X4_regardBy x0 x1 x2 x3 = out) : fs_Met yX4_regardBy cX4_regardBy 7 (some .int) { frames := 1, cells := 0, slots := 0, locals := 21 } [.int x0, .int x1, .int x2, .int x3] σ μ (some (.int out)) σ μ := by
  unfold F_X4_regardBy at h
  refine fs_intro (by decide +kernel) (Nat.le_of_ble_eq_true rfl) (fun X hX hR => ?_)
  show fs_PW X 0 [some (.int x0), some (.int x1), some (.int x2), some (.int x3), none, none, none] [] σ μ
  refine s_ic hX (0 : Int32) dX4_regardBy_0 (by decide) ?_
  refine s_iload_n hX dX4_regardBy_1 rfl ?_
  refine s_ic hX (2 : Int32) dX4_regardBy_2 (by decide) ?_
  refine s_iload_n hX dX4_regardBy_3 rfl ?_
  refine s_imul hX dX4_regardBy_4 ?_
  refine s_isub hX dX4_regardBy_5 ?_
  refine s_callS hX (as := [.int (0 : Int32), .int (x1 - ((2 : Int32) * x2))]) dX4_regardBy_6 k_X4_139 v_X4_greater (m_X4_greater (0 : Int32) (x1 - ((2 : Int32) * x2)) σ μ _ rfl) ⟨rfl, rfl⟩ ⟨(Nat.le_of_ble_eq_true rfl), (Nat.le_of_ble_eq_true rfl)⟩ rfl rfl (Nat.le_of_ble_eq_true rfl) ?_
  refine s_istore hX dX4_regardBy_9 (Nat.le_of_ble_eq_true rfl) ?_
  refine s_iload_n hX dX4_regardBy_11 rfl ?_
  refine s_bi hX (19 : Int32) dX4_regardBy_12 (by decide) ?_
  refine s_ic_le hX 24 dX4_regardBy_14 (by decide) (fun c1 => ?_) (fun c1 => ?_)
  · have h := (if_pos c1).symm.trans h
    refine s_iload hX dX4_regardBy_24 rfl ?_
    refine s_istore hX dX4_regardBy_26 (Nat.le_of_ble_eq_true rfl) ?_
    refine s_iload_n hX dX4_regardBy_28 rfl ?_
    refine s_bi hX (10 : Int32) dX4_regardBy_29 (by decide) ?_
    refine s_ic_ge hX 45 dX4_regardBy_31 (by decide) (fun c2 => ?_) (fun c2 => ?_)
    · have h := (if_pos c2).symm.trans h
      refine s_iload hX dX4_regardBy_45 rfl ?_
      refine s_istore hX dX4_regardBy_47 (Nat.le_of_ble_eq_true rfl) ?_
      refine s_iload_n hX dX4_regardBy_49 rfl ?_
      by_cases c3 : x0 = (1 : Int32)
      · have h := (if_pos c3).symm.trans h
        refine s_tabK hX 84 (1 : Int32) c3 dX4_regardBy_50 (by decide) (by decide) rfl (by decide) ?_
        refine s_iload hX dX4_regardBy_84 rfl ?_
        subst h
        exact s_iret hX hR dX4_regardBy_86
      · have h := (if_neg c3).symm.trans h
        by_cases c4 : x0 = (2 : Int32)
        · have h := (if_pos c4).symm.trans h
          refine s_tabK hX 87 (2 : Int32) c4 dX4_regardBy_50 (by decide) (by decide) rfl (by decide) ?_
          refine s_iload hX dX4_regardBy_87 rfl ?_
          refine s_bi hX (9 : Int32) dX4_regardBy_89 (by decide) ?_
          refine s_iload_n hX dX4_regardBy_91 rfl ?_
          refine s_bi hX (10 : Int32) dX4_regardBy_92 (by decide) ?_
          refine s_idiv hX dX4_regardBy_94 (by decide) ?_
          refine s_callS hX (as := [.int (9 : Int32), .int (x3 / (10 : Int32))]) dX4_regardBy_95 k_X4_143 v_X4_lesser (m_X4_lesser (9 : Int32) (x3 / (10 : Int32)) σ μ _ rfl) ⟨rfl, rfl⟩ ⟨(Nat.le_of_ble_eq_true rfl), (Nat.le_of_ble_eq_true rfl)⟩ rfl rfl (Nat.le_of_ble_eq_true rfl) ?_
          refine s_iadd hX dX4_regardBy_98 ?_
          subst h
          exact s_iret hX hR dX4_regardBy_99
        · have h := (if_neg c4).symm.trans h
          by_cases c5 : x0 = (3 : Int32)
          · have h := (if_pos c5).symm.trans h
            refine s_tabK hX 100 (3 : Int32) c5 dX4_regardBy_50 (by decide) (by decide) rfl (by decide) ?_
            refine s_iload hX dX4_regardBy_100 rfl ?_
            subst h
            exact s_iret hX hR dX4_regardBy_102
          · have h := (if_neg c5).symm.trans h
            by_cases c6 : x0 = (4 : Int32)
            · have h := (if_pos c6).symm.trans h
              refine s_tabK hX 103 (4 : Int32) c6 dX4_regardBy_50 (by decide) (by decide) rfl (by decide) ?_
              refine s_ic hX (2 : Int32) dX4_regardBy_103 (by decide) ?_
              refine s_iload hX dX4_regardBy_104 rfl ?_
              refine s_imul hX dX4_regardBy_106 ?_
              subst h
              exact s_iret hX hR dX4_regardBy_107
            · have h := (if_neg c6).symm.trans h
              by_cases c7 : x0 = (5 : Int32)
              · have h := (if_pos c7).symm.trans h
                refine s_tabK hX 108 (5 : Int32) c7 dX4_regardBy_50 (by decide) (by decide) rfl (by decide) ?_
                refine s_iload hX dX4_regardBy_108 rfl ?_
                refine s_ic hX (2 : Int32) dX4_regardBy_110 (by decide) ?_
                refine s_idiv hX dX4_regardBy_111 (by decide) ?_
                subst h
                exact s_iret hX hR dX4_regardBy_112
              · have h := (if_neg c7).symm.trans h
                have wc3 := fs_ne (z := 1) c3 (by decide)
                have wc4 := fs_ne (z := 2) c4 (by decide)
                have wc5 := fs_ne (z := 3) c5 (by decide)
                have wc6 := fs_ne (z := 4) c6 (by decide)
                have wc7 := fs_ne (z := 5) c7 (by decide)
                refine s_tabOut hX 113 dX4_regardBy_50 (by omega) (by decide) ?_
                refine s_iload hX dX4_regardBy_113 rfl ?_
                subst h
                exact s_iret hX hR dX4_regardBy_115
    · have h := (if_neg c2).symm.trans h
      refine s_ic hX (0 : Int32) dX4_regardBy_34 (by decide) ?_
      refine s_iload hX dX4_regardBy_35 rfl ?_
      refine s_ic hX (1 : Int32) dX4_regardBy_37 (by decide) ?_
      refine s_isub hX dX4_regardBy_38 ?_
      refine s_callS hX (as := [.int (0 : Int32), .int ((F_X4_greater (0 : Int32) (x1 - ((2 : Int32) * x2))) - (1 : Int32))]) dX4_regardBy_39 k_X4_139 v_X4_greater (m_X4_greater (0 : Int32) ((F_X4_greater (0 : Int32) (x1 - ((2 : Int32) * x2))) - (1 : Int32)) σ μ _ rfl) ⟨rfl, rfl⟩ ⟨(Nat.le_of_ble_eq_true rfl), (Nat.le_of_ble_eq_true rfl)⟩ rfl rfl (Nat.le_of_ble_eq_true rfl) ?_
      refine s_goto hX 47 dX4_regardBy_42 (by decide) ?_
      refine s_istore hX dX4_regardBy_47 (Nat.le_of_ble_eq_true rfl) ?_
      refine s_iload_n hX dX4_regardBy_49 rfl ?_
      by_cases c8 : x0 = (1 : Int32)
      · have h := (if_pos c8).symm.trans h
        refine s_tabK hX 84 (1 : Int32) c8 dX4_regardBy_50 (by decide) (by decide) rfl (by decide) ?_
        refine s_iload hX dX4_regardBy_84 rfl ?_
        subst h
        exact s_iret hX hR dX4_regardBy_86
      · have h := (if_neg c8).symm.trans h
        by_cases c9 : x0 = (2 : Int32)
        · have h := (if_pos c9).symm.trans h
          refine s_tabK hX 87 (2 : Int32) c9 dX4_regardBy_50 (by decide) (by decide) rfl (by decide) ?_
          refine s_iload hX dX4_regardBy_87 rfl ?_
          refine s_bi hX (9 : Int32) dX4_regardBy_89 (by decide) ?_
          refine s_iload_n hX dX4_regardBy_91 rfl ?_
          refine s_bi hX (10 : Int32) dX4_regardBy_92 (by decide) ?_
          refine s_idiv hX dX4_regardBy_94 (by decide) ?_
          refine s_callS hX (as := [.int (9 : Int32), .int (x3 / (10 : Int32))]) dX4_regardBy_95 k_X4_143 v_X4_lesser (m_X4_lesser (9 : Int32) (x3 / (10 : Int32)) σ μ _ rfl) ⟨rfl, rfl⟩ ⟨(Nat.le_of_ble_eq_true rfl), (Nat.le_of_ble_eq_true rfl)⟩ rfl rfl (Nat.le_of_ble_eq_true rfl) ?_
          refine s_iadd hX dX4_regardBy_98 ?_
          subst h
          exact s_iret hX hR dX4_regardBy_99
        · have h := (if_neg c9).symm.trans h
          by_cases c10 : x0 = (3 : Int32)
          · have h := (if_pos c10).symm.trans h
            refine s_tabK hX 100 (3 : Int32) c10 dX4_regardBy_50 (by decide) (by decide) rfl (by decide) ?_
            refine s_iload hX dX4_regardBy_100 rfl ?_
            subst h
            exact s_iret hX hR dX4_regardBy_102
          · have h := (if_neg c10).symm.trans h
            by_cases c11 : x0 = (4 : Int32)
            · have h := (if_pos c11).symm.trans h
              refine s_tabK hX 103 (4 : Int32) c11 dX4_regardBy_50 (by decide) (by decide) rfl (by decide) ?_
              refine s_ic hX (2 : Int32) dX4_regardBy_103 (by decide) ?_
              refine s_iload hX dX4_regardBy_104 rfl ?_
              refine s_imul hX dX4_regardBy_106 ?_
              subst h
              exact s_iret hX hR dX4_regardBy_107
            · have h := (if_neg c11).symm.trans h
              by_cases c12 : x0 = (5 : Int32)
              · have h := (if_pos c12).symm.trans h
                refine s_tabK hX 108 (5 : Int32) c12 dX4_regardBy_50 (by decide) (by decide) rfl (by decide) ?_
                refine s_iload hX dX4_regardBy_108 rfl ?_
                refine s_ic hX (2 : Int32) dX4_regardBy_110 (by decide) ?_
                refine s_idiv hX dX4_regardBy_111 (by decide) ?_
                subst h
                exact s_iret hX hR dX4_regardBy_112
              · have h := (if_neg c12).symm.trans h
                have wc8 := fs_ne (z := 1) c8 (by decide)
                have wc9 := fs_ne (z := 2) c9 (by decide)
                have wc10 := fs_ne (z := 3) c10 (by decide)
                have wc11 := fs_ne (z := 4) c11 (by decide)
                have wc12 := fs_ne (z := 5) c12 (by decide)
                refine s_tabOut hX 113 dX4_regardBy_50 (by omega) (by decide) ?_
                refine s_iload hX dX4_regardBy_113 rfl ?_
                subst h
                exact s_iret hX hR dX4_regardBy_115
  · have h := (if_neg c1).symm.trans h
    refine s_iload hX dX4_regardBy_17 rfl ?_
    refine s_ic hX (2 : Int32) dX4_regardBy_19 (by decide) ?_
    refine s_iadd hX dX4_regardBy_20 ?_
    refine s_goto hX 26 dX4_regardBy_21 (by decide) ?_
    refine s_istore hX dX4_regardBy_26 (Nat.le_of_ble_eq_true rfl) ?_
    refine s_iload_n hX dX4_regardBy_28 rfl ?_
    refine s_bi hX (10 : Int32) dX4_regardBy_29 (by decide) ?_
    refine s_ic_ge hX 45 dX4_regardBy_31 (by decide) (fun c13 => ?_) (fun c13 => ?_)
    · have h := (if_pos c13).symm.trans h
      refine s_iload hX dX4_regardBy_45 rfl ?_
      refine s_istore hX dX4_regardBy_47 (Nat.le_of_ble_eq_true rfl) ?_
      refine s_iload_n hX dX4_regardBy_49 rfl ?_
      by_cases c14 : x0 = (1 : Int32)
      · have h := (if_pos c14).symm.trans h
        refine s_tabK hX 84 (1 : Int32) c14 dX4_regardBy_50 (by decide) (by decide) rfl (by decide) ?_
        refine s_iload hX dX4_regardBy_84 rfl ?_
        subst h
        exact s_iret hX hR dX4_regardBy_86
      · have h := (if_neg c14).symm.trans h
        by_cases c15 : x0 = (2 : Int32)
        · have h := (if_pos c15).symm.trans h
          refine s_tabK hX 87 (2 : Int32) c15 dX4_regardBy_50 (by decide) (by decide) rfl (by decide) ?_
          refine s_iload hX dX4_regardBy_87 rfl ?_
          refine s_bi hX (9 : Int32) dX4_regardBy_89 (by decide) ?_
          refine s_iload_n hX dX4_regardBy_91 rfl ?_
          refine s_bi hX (10 : Int32) dX4_regardBy_92 (by decide) ?_
          refine s_idiv hX dX4_regardBy_94 (by decide) ?_
          refine s_callS hX (as := [.int (9 : Int32), .int (x3 / (10 : Int32))]) dX4_regardBy_95 k_X4_143 v_X4_lesser (m_X4_lesser (9 : Int32) (x3 / (10 : Int32)) σ μ _ rfl) ⟨rfl, rfl⟩ ⟨(Nat.le_of_ble_eq_true rfl), (Nat.le_of_ble_eq_true rfl)⟩ rfl rfl (Nat.le_of_ble_eq_true rfl) ?_
          refine s_iadd hX dX4_regardBy_98 ?_
          subst h
          exact s_iret hX hR dX4_regardBy_99
        · have h := (if_neg c15).symm.trans h
          by_cases c16 : x0 = (3 : Int32)
          · have h := (if_pos c16).symm.trans h
            refine s_tabK hX 100 (3 : Int32) c16 dX4_regardBy_50 (by decide) (by decide) rfl (by decide) ?_
            refine s_iload hX dX4_regardBy_100 rfl ?_
            subst h
            exact s_iret hX hR dX4_regardBy_102
          · have h := (if_neg c16).symm.trans h
            by_cases c17 : x0 = (4 : Int32)
            · have h := (if_pos c17).symm.trans h
              refine s_tabK hX 103 (4 : Int32) c17 dX4_regardBy_50 (by decide) (by decide) rfl (by decide) ?_
              refine s_ic hX (2 : Int32) dX4_regardBy_103 (by decide) ?_
              refine s_iload hX dX4_regardBy_104 rfl ?_
              refine s_imul hX dX4_regardBy_106 ?_
              subst h
              exact s_iret hX hR dX4_regardBy_107
            · have h := (if_neg c17).symm.trans h
              by_cases c18 : x0 = (5 : Int32)
              · have h := (if_pos c18).symm.trans h
                refine s_tabK hX 108 (5 : Int32) c18 dX4_regardBy_50 (by decide) (by decide) rfl (by decide) ?_
                refine s_iload hX dX4_regardBy_108 rfl ?_
                refine s_ic hX (2 : Int32) dX4_regardBy_110 (by decide) ?_
                refine s_idiv hX dX4_regardBy_111 (by decide) ?_
                subst h
                exact s_iret hX hR dX4_regardBy_112
              · have h := (if_neg c18).symm.trans h
                have wc14 := fs_ne (z := 1) c14 (by decide)
                have wc15 := fs_ne (z := 2) c15 (by decide)
                have wc16 := fs_ne (z := 3) c16 (by decide)
                have wc17 := fs_ne (z := 4) c17 (by decide)
                have wc18 := fs_ne (z := 5) c18 (by decide)
                refine s_tabOut hX 113 dX4_regardBy_50 (by omega) (by decide) ?_
                refine s_iload hX dX4_regardBy_113 rfl ?_
                subst h
                exact s_iret hX hR dX4_regardBy_115
    · have h := (if_neg c13).symm.trans h
      refine s_ic hX (0 : Int32) dX4_regardBy_34 (by decide) ?_
      refine s_iload hX dX4_regardBy_35 rfl ?_
      refine s_ic hX (1 : Int32) dX4_regardBy_37 (by decide) ?_
      refine s_isub hX dX4_regardBy_38 ?_
      refine s_callS hX (as := [.int (0 : Int32), .int ((F_X4_greater (0 : Int32) (x1 - ((2 : Int32) * x2))) - (1 : Int32))]) dX4_regardBy_39 k_X4_139 v_X4_greater (m_X4_greater (0 : Int32) ((F_X4_greater (0 : Int32) (x1 - ((2 : Int32) * x2))) - (1 : Int32)) σ μ _ rfl) ⟨rfl, rfl⟩ ⟨(Nat.le_of_ble_eq_true rfl), (Nat.le_of_ble_eq_true rfl)⟩ rfl rfl (Nat.le_of_ble_eq_true rfl) ?_
      refine s_goto hX 47 dX4_regardBy_42 (by decide) ?_
      refine s_istore hX dX4_regardBy_47 (Nat.le_of_ble_eq_true rfl) ?_
      refine s_iload_n hX dX4_regardBy_49 rfl ?_
      by_cases c19 : x0 = (1 : Int32)
      · have h := (if_pos c19).symm.trans h
        refine s_tabK hX 84 (1 : Int32) c19 dX4_regardBy_50 (by decide) (by decide) rfl (by decide) ?_
        refine s_iload hX dX4_regardBy_84 rfl ?_
        subst h
        exact s_iret hX hR dX4_regardBy_86
      · have h := (if_neg c19).symm.trans h
        by_cases c20 : x0 = (2 : Int32)
        · have h := (if_pos c20).symm.trans h
          refine s_tabK hX 87 (2 : Int32) c20 dX4_regardBy_50 (by decide) (by decide) rfl (by decide) ?_
          refine s_iload hX dX4_regardBy_87 rfl ?_
          refine s_bi hX (9 : Int32) dX4_regardBy_89 (by decide) ?_
          refine s_iload_n hX dX4_regardBy_91 rfl ?_
          refine s_bi hX (10 : Int32) dX4_regardBy_92 (by decide) ?_
          refine s_idiv hX dX4_regardBy_94 (by decide) ?_
          refine s_callS hX (as := [.int (9 : Int32), .int (x3 / (10 : Int32))]) dX4_regardBy_95 k_X4_143 v_X4_lesser (m_X4_lesser (9 : Int32) (x3 / (10 : Int32)) σ μ _ rfl) ⟨rfl, rfl⟩ ⟨(Nat.le_of_ble_eq_true rfl), (Nat.le_of_ble_eq_true rfl)⟩ rfl rfl (Nat.le_of_ble_eq_true rfl) ?_
          refine s_iadd hX dX4_regardBy_98 ?_
          subst h
          exact s_iret hX hR dX4_regardBy_99
        · have h := (if_neg c20).symm.trans h
          by_cases c21 : x0 = (3 : Int32)
          · have h := (if_pos c21).symm.trans h
            refine s_tabK hX 100 (3 : Int32) c21 dX4_regardBy_50 (by decide) (by decide) rfl (by decide) ?_
            refine s_iload hX dX4_regardBy_100 rfl ?_
            subst h
            exact s_iret hX hR dX4_regardBy_102
          · have h := (if_neg c21).symm.trans h
            by_cases c22 : x0 = (4 : Int32)
            · have h := (if_pos c22).symm.trans h
              refine s_tabK hX 103 (4 : Int32) c22 dX4_regardBy_50 (by decide) (by decide) rfl (by decide) ?_
              refine s_ic hX (2 : Int32) dX4_regardBy_103 (by decide) ?_
              refine s_iload hX dX4_regardBy_104 rfl ?_
              refine s_imul hX dX4_regardBy_106 ?_
              subst h
              exact s_iret hX hR dX4_regardBy_107
            · have h := (if_neg c22).symm.trans h
              by_cases c23 : x0 = (5 : Int32)
              · have h := (if_pos c23).symm.trans h
                refine s_tabK hX 108 (5 : Int32) c23 dX4_regardBy_50 (by decide) (by decide) rfl (by decide) ?_
                refine s_iload hX dX4_regardBy_108 rfl ?_
                refine s_ic hX (2 : Int32) dX4_regardBy_110 (by decide) ?_
                refine s_idiv hX dX4_regardBy_111 (by decide) ?_
                subst h
                exact s_iret hX hR dX4_regardBy_112
              · have h := (if_neg c23).symm.trans h
                have wc19 := fs_ne (z := 1) c19 (by decide)
                have wc20 := fs_ne (z := 2) c20 (by decide)
                have wc21 := fs_ne (z := 3) c21 (by decide)
                have wc22 := fs_ne (z := 4) c22 (by decide)
                have wc23 := fs_ne (z := 5) c23 (by decide)
                refine s_tabOut hX 113 dX4_regardBy_50 (by omega) (by decide) ?_
                refine s_iload hX dX4_regardBy_113 rfl ?_
                subst h
                exact s_iret hX hR dX4_regardBy_115

-- X4_regardAs
def F_X4_regardAs (x1 : Int32) (x2 : Int32) (σ : fsS) : Option (Int32) := fs_g (fs_in x2 6) (fs_g (fs_in ((7 : Int32) + x2) 13) (fs_g (fs_in ((1 : Int32) + x2) 13) (some (F_X4_regardBy x1 (σ 58 x2.toNatClampNeg) (σ 60 ((7 : Int32) + x2).toNatClampNeg) (σ 60 ((1 : Int32) + x2).toNatClampNeg)))))
set_option maxRecDepth 20000 in
set_option maxHeartbeats 40000000 in
theorem m_X4_regardAs (x1 : Int32) (x2 : Int32)  (σ : fsS) (μ : fsL) (out : Int32) (h : F_X4_regardAs x1 x2 σ = some out) : fs_Met yX4_regardAs cX4_regardAs 3 (some .int) { frames := 2, cells := 0, slots := 0, locals := 47 } [.ref 51, .int x1, .int x2] σ μ (some (.int out)) σ μ := by
  unfold F_X4_regardAs at h
  refine fs_intro (by decide +kernel) (Nat.le_of_ble_eq_true rfl) (fun X hX hR => ?_)
  show fs_PW X 0 [some (.ref 51), some (.int x1), some (.int x2)] [] σ μ
  refine s_iload_n hX dX4_regardAs_0 rfl ?_
  refine s_aload_n hX dX4_regardAs_1 rfl ?_
  refine s_getr hX dX4_regardAs_2 f_X4_32 rfl ?_
  refine s_iload_n hX dX4_regardAs_5 rfl ?_
  obtain ⟨g1, h⟩ := fs_gd h
  refine s_iald hX dX4_regardAs_6 g1 ?_
  refine s_aload_n hX dX4_regardAs_7 rfl ?_
  refine s_getr hX dX4_regardAs_8 f_X4_38 rfl ?_
  refine s_bi hX (7 : Int32) dX4_regardAs_11 (by decide) ?_
  refine s_iload_n hX dX4_regardAs_13 rfl ?_
  refine s_iadd hX dX4_regardAs_14 ?_
  obtain ⟨g2, h⟩ := fs_gd h
  refine s_iald hX dX4_regardAs_15 g2 ?_
  refine s_aload_n hX dX4_regardAs_16 rfl ?_
  refine s_getr hX dX4_regardAs_17 f_X4_38 rfl ?_
  refine s_ic hX (1 : Int32) dX4_regardAs_20 (by decide) ?_
  refine s_iload_n hX dX4_regardAs_21 rfl ?_
  refine s_iadd hX dX4_regardAs_22 ?_
  obtain ⟨g3, h⟩ := fs_gd h
  refine s_iald hX dX4_regardAs_23 g3 ?_
  refine s_callS hX (as := [.int x1, .int (σ 58 x2.toNatClampNeg), .int (σ 60 ((7 : Int32) + x2).toNatClampNeg), .int (σ 60 ((1 : Int32) + x2).toNatClampNeg)]) dX4_regardAs_24 k_X4_146 v_X4_regardBy (m_X4_regardBy x1 (σ 58 x2.toNatClampNeg) (σ 60 ((7 : Int32) + x2).toNatClampNeg) (σ 60 ((1 : Int32) + x2).toNatClampNeg) σ μ _ rfl) ⟨rfl, rfl⟩ ⟨(Nat.le_of_ble_eq_true rfl), (Nat.le_of_ble_eq_true rfl)⟩ rfl rfl (Nat.le_of_ble_eq_true rfl) ?_
  cases h
  exact s_iret hX hR dX4_regardAs_27

-- X4_laysRegards
def L_X4_laysRegards_4 (a1 : Nat) : Nat → Int32 → Int32 → fsS → Option (Int32 × fsS)
  | 0, _, _, _ => none
  | n0 + 1, y2, y3, σ => if (σ 51 9) ≤ y3 then some (y2, σ) else fs_g (fs_in y3 6) (fs_g (fs_in y3 6) (fs_g (fs_in ((7 : Int32) + y3) (fs_len a1)) (fs_g (fs_in ((1 : Int32) + y3) (fs_len a1)) (fs_g (fs_in y3 6) (fs_g (fs_in y3 6) (L_X4_laysRegards_4 a1 n0 (F_X4_greater y2 ((fs_u σ 62 y3.toNatClampNeg (F_X4_regardBy (σ 57 y3.toNatClampNeg) (σ 58 y3.toNatClampNeg) (σ a1 ((7 : Int32) + y3).toNatClampNeg) (σ a1 ((1 : Int32) + y3).toNatClampNeg))) 62 y3.toNatClampNeg)) (y3 + (1 : Int32)) (fs_u σ 62 y3.toNatClampNeg (F_X4_regardBy (σ 57 y3.toNatClampNeg) (σ 58 y3.toNatClampNeg) (σ a1 ((7 : Int32) + y3).toNatClampNeg) (σ a1 ((1 : Int32) + y3).toNatClampNeg)))))))))
def F_X4_laysRegards (a1 : Nat) (σ : fsS) : Option (Int32 × fsS) := (L_X4_laysRegards_4 a1 fs_fu (0 : Int32) (0 : Int32) σ).bind (fun q8 => some (q8.1, q8.2))
set_option maxRecDepth 20000 in
set_option maxHeartbeats 40000000 in
theorem l_X4_laysRegards_4 {a1 : Nat}  {X : fsC} (hX : fs_ok cX4_laysRegards RX4 4 { frames := 2, cells := 0, slots := 0, locals := 47 } X) : ∀ (n : Nat) (y2 : Int32) (y3 : Int32) (σ : fsS) (μ : fsL) (out : Int32 × fsS) (_ : L_X4_laysRegards_4 a1 n y2 y3 σ = some out) (k0 : fs_PW X 61 [none, none, some (.int out.1), none] [] out.2 μ), fs_PW X 4 [some (.ref 51), some (.ref a1), some (.int y2), some (.int y3)] [] σ μ := by
  intro n
  induction n with
  | zero =>
    intro y2 y3 σ μ out h
    cases (show (none : Option (Int32 × fsS)) = some out from h)
  | succ n0 ih =>
    intro y2 y3 σ μ out h k0
    unfold L_X4_laysRegards_4 at h
    refine s_iload_n hX dX4_laysRegards_4 rfl ?_
    refine s_aload_n hX dX4_laysRegards_5 rfl ?_
    refine s_geti hX dX4_laysRegards_6 f_X4_136 rfl ?_
    refine s_ic_ge hX 61 dX4_laysRegards_9 (by decide) (fun c1 => ?_) (fun c1 => ?_)
    · have h := (if_pos c1).symm.trans h
      cases h
      refine fs_ma [false, false, true, false] ?_
      exact k0
    · have h := (if_neg c1).symm.trans h
      refine s_aload_n hX dX4_laysRegards_12 rfl ?_
      refine s_getr hX dX4_laysRegards_13 f_X4_44 rfl ?_
      refine s_iload_n hX dX4_laysRegards_16 rfl ?_
      refine s_aload_n hX dX4_laysRegards_17 rfl ?_
      refine s_getr hX dX4_laysRegards_18 f_X4_29 rfl ?_
      refine s_iload_n hX dX4_laysRegards_21 rfl ?_
      obtain ⟨g2, h⟩ := fs_gd h
      refine s_iald hX dX4_laysRegards_22 g2 ?_
      refine s_aload_n hX dX4_laysRegards_23 rfl ?_
      refine s_getr hX dX4_laysRegards_24 f_X4_32 rfl ?_
      refine s_iload_n hX dX4_laysRegards_27 rfl ?_
      obtain ⟨g3, h⟩ := fs_gd h
      refine s_iald hX dX4_laysRegards_28 g3 ?_
      refine s_aload_n hX dX4_laysRegards_29 rfl ?_
      refine s_bi hX (7 : Int32) dX4_laysRegards_30 (by decide) ?_
      refine s_iload_n hX dX4_laysRegards_32 rfl ?_
      refine s_iadd hX dX4_laysRegards_33 ?_
      obtain ⟨g4, h⟩ := fs_gd h
      refine s_iald hX dX4_laysRegards_34 g4 ?_
      refine s_aload_n hX dX4_laysRegards_35 rfl ?_
      refine s_ic hX (1 : Int32) dX4_laysRegards_36 (by decide) ?_
      refine s_iload_n hX dX4_laysRegards_37 rfl ?_
      refine s_iadd hX dX4_laysRegards_38 ?_
      obtain ⟨g5, h⟩ := fs_gd h
      refine s_iald hX dX4_laysRegards_39 g5 ?_
      refine s_callS hX (as := [.int (σ 57 y3.toNatClampNeg), .int (σ 58 y3.toNatClampNeg), .int (σ a1 ((7 : Int32) + y3).toNatClampNeg), .int (σ a1 ((1 : Int32) + y3).toNatClampNeg)]) dX4_laysRegards_40 k_X4_146 v_X4_regardBy (m_X4_regardBy (σ 57 y3.toNatClampNeg) (σ 58 y3.toNatClampNeg) (σ a1 ((7 : Int32) + y3).toNatClampNeg) (σ a1 ((1 : Int32) + y3).toNatClampNeg) σ μ _ rfl) ⟨rfl, rfl⟩ ⟨(Nat.le_of_ble_eq_true rfl), (Nat.le_of_ble_eq_true rfl)⟩ rfl rfl (Nat.le_of_ble_eq_true rfl) ?_
      obtain ⟨g6, h⟩ := fs_gd h
      refine s_iast hX dX4_laysRegards_43 g6 ?_
      refine s_iload_n hX dX4_laysRegards_44 rfl ?_
      refine s_aload_n hX dX4_laysRegards_45 rfl ?_
      refine s_getr hX dX4_laysRegards_46 f_X4_44 rfl ?_
      refine s_iload_n hX dX4_laysRegards_49 rfl ?_
      obtain ⟨g7, h⟩ := fs_gd h
      refine s_iald hX dX4_laysRegards_50 g7 ?_
      refine s_callS hX (as := [.int y2, .int ((fs_u σ 62 y3.toNatClampNeg (F_X4_regardBy (σ 57 y3.toNatClampNeg) (σ 58 y3.toNatClampNeg) (σ a1 ((7 : Int32) + y3).toNatClampNeg) (σ a1 ((1 : Int32) + y3).toNatClampNeg))) 62 y3.toNatClampNeg)]) dX4_laysRegards_51 k_X4_139 v_X4_greater (m_X4_greater y2 ((fs_u σ 62 y3.toNatClampNeg (F_X4_regardBy (σ 57 y3.toNatClampNeg) (σ 58 y3.toNatClampNeg) (σ a1 ((7 : Int32) + y3).toNatClampNeg) (σ a1 ((1 : Int32) + y3).toNatClampNeg))) 62 y3.toNatClampNeg) (fs_u σ 62 y3.toNatClampNeg (F_X4_regardBy (σ 57 y3.toNatClampNeg) (σ 58 y3.toNatClampNeg) (σ a1 ((7 : Int32) + y3).toNatClampNeg) (σ a1 ((1 : Int32) + y3).toNatClampNeg))) μ _ rfl) ⟨rfl, rfl⟩ ⟨(Nat.le_of_ble_eq_true rfl), (Nat.le_of_ble_eq_true rfl)⟩ rfl rfl (Nat.le_of_ble_eq_true rfl) ?_
      refine s_istore_n hX dX4_laysRegards_54 (Nat.le_of_ble_eq_true rfl) ?_
      refine s_iinc hX (y3 + (1 : Int32)) dX4_laysRegards_55 rfl rfl (Nat.le_of_ble_eq_true rfl) ?_
      refine s_goto hX 4 dX4_laysRegards_58 (by decide) ?_
      refine fs_ma [true, true, true, true] ?_
      exact ih (F_X4_greater y2 ((fs_u σ 62 y3.toNatClampNeg (F_X4_regardBy (σ 57 y3.toNatClampNeg) (σ 58 y3.toNatClampNeg) (σ a1 ((7 : Int32) + y3).toNatClampNeg) (σ a1 ((1 : Int32) + y3).toNatClampNeg))) 62 y3.toNatClampNeg)) (y3 + (1 : Int32)) (fs_u σ 62 y3.toNatClampNeg (F_X4_regardBy (σ 57 y3.toNatClampNeg) (σ 58 y3.toNatClampNeg) (σ a1 ((7 : Int32) + y3).toNatClampNeg) (σ a1 ((1 : Int32) + y3).toNatClampNeg))) μ out h k0
set_option maxRecDepth 20000 in
set_option maxHeartbeats 40000000 in
theorem m_X4_laysRegards (a1 : Nat)  (σ : fsS) (μ : fsL) (out : Int32 × fsS) (h : F_X4_laysRegards a1 σ = some out) : fs_Met yX4_laysRegards cX4_laysRegards 4 (some .int) { frames := 2, cells := 0, slots := 0, locals := 47 } [.ref 51, .ref a1] σ μ (some (.int out.1)) out.2 μ := by
  unfold F_X4_laysRegards at h
  refine fs_intro (by decide +kernel) (Nat.le_of_ble_eq_true rfl) (fun X hX hR => ?_)
  show fs_PW X 0 [some (.ref 51), some (.ref a1), none, none] [] σ μ
  refine s_ic hX (0 : Int32) dX4_laysRegards_0 (by decide) ?_
  refine s_istore_n hX dX4_laysRegards_1 (Nat.le_of_ble_eq_true rfl) ?_
  refine s_ic hX (0 : Int32) dX4_laysRegards_2 (by decide) ?_
  refine s_istore_n hX dX4_laysRegards_3 (Nat.le_of_ble_eq_true rfl) ?_
  obtain ⟨q8, e8, h⟩ := fs_bind h
  refine fs_ma [true, true, true, true] ?_
  refine l_X4_laysRegards_4  hX fs_fu (0 : Int32) (0 : Int32) σ μ q8 e8 ?_
  refine s_iload_n hX dX4_laysRegards_61 rfl ?_
  cases h
  exact s_iret hX hR dX4_laysRegards_62

-- X4_gives
def L_X4_gives_4  : Nat → Int32 → Int32 → Int32 → fsS → Option (Int32)
  | 0, _, _, _, _ => none
  | n0 + 1, y1, y2, y3, σ => if (σ 51 9) ≤ y3 then some y2 else fs_g (fs_in y3 6) (L_X4_gives_4  n0 y1 (y2 + (y1 - (σ 62 y3.toNatClampNeg))) (y3 + (1 : Int32)) σ)
def F_X4_gives (x1 : Int32) (σ : fsS) : Option (Int32) := (L_X4_gives_4  fs_fu x1 (0 : Int32) (0 : Int32) σ).bind (fun q3 => some q3)
set_option maxRecDepth 20000 in
set_option maxHeartbeats 40000000 in
theorem l_X4_gives_4   {X : fsC} (hX : fs_ok cX4_gives RX4 4 { frames := 0, cells := 0, slots := 0, locals := 0 } X) : ∀ (n : Nat) (y1 : Int32) (y2 : Int32) (y3 : Int32) (σ : fsS) (μ : fsL) (out : Int32) (_ : L_X4_gives_4  n y1 y2 y3 σ = some out) (k0 : fs_PW X 29 [none, none, some (.int out), none] [] σ μ), fs_PW X 4 [some (.ref 51), some (.int y1), some (.int y2), some (.int y3)] [] σ μ := by
  intro n
  induction n with
  | zero =>
    intro y1 y2 y3 σ μ out h
    cases (show (none : Option (Int32)) = some out from h)
  | succ n0 ih =>
    intro y1 y2 y3 σ μ out h k0
    unfold L_X4_gives_4 at h
    refine s_iload_n hX dX4_gives_4 rfl ?_
    refine s_aload_n hX dX4_gives_5 rfl ?_
    refine s_geti hX dX4_gives_6 f_X4_136 rfl ?_
    refine s_ic_ge hX 29 dX4_gives_9 (by decide) (fun c1 => ?_) (fun c1 => ?_)
    · have h := (if_pos c1).symm.trans h
      cases h
      refine fs_ma [false, false, true, false] ?_
      exact k0
    · have h := (if_neg c1).symm.trans h
      refine s_iload_n hX dX4_gives_12 rfl ?_
      refine s_iload_n hX dX4_gives_13 rfl ?_
      refine s_aload_n hX dX4_gives_14 rfl ?_
      refine s_getr hX dX4_gives_15 f_X4_44 rfl ?_
      refine s_iload_n hX dX4_gives_18 rfl ?_
      obtain ⟨g2, h⟩ := fs_gd h
      refine s_iald hX dX4_gives_19 g2 ?_
      refine s_isub hX dX4_gives_20 ?_
      refine s_iadd hX dX4_gives_21 ?_
      refine s_istore_n hX dX4_gives_22 (Nat.le_of_ble_eq_true rfl) ?_
      refine s_iinc hX (y3 + (1 : Int32)) dX4_gives_23 rfl rfl (Nat.le_of_ble_eq_true rfl) ?_
      refine s_goto hX 4 dX4_gives_26 (by decide) ?_
      refine fs_ma [true, true, true, true] ?_
      exact ih y1 (y2 + (y1 - (σ 62 y3.toNatClampNeg))) (y3 + (1 : Int32)) σ μ out h k0
set_option maxRecDepth 20000 in
set_option maxHeartbeats 40000000 in
theorem m_X4_gives (x1 : Int32)  (σ : fsS) (μ : fsL) (out : Int32) (h : F_X4_gives x1 σ = some out) : fs_Met yX4_gives cX4_gives 4 (some .int) { frames := 0, cells := 0, slots := 0, locals := 0 } [.ref 51, .int x1] σ μ (some (.int out)) σ μ := by
  unfold F_X4_gives at h
  refine fs_intro (by decide +kernel) (Nat.le_of_ble_eq_true rfl) (fun X hX hR => ?_)
  show fs_PW X 0 [some (.ref 51), some (.int x1), none, none] [] σ μ
  refine s_ic hX (0 : Int32) dX4_gives_0 (by decide) ?_
  refine s_istore_n hX dX4_gives_1 (Nat.le_of_ble_eq_true rfl) ?_
  refine s_ic hX (0 : Int32) dX4_gives_2 (by decide) ?_
  refine s_istore_n hX dX4_gives_3 (Nat.le_of_ble_eq_true rfl) ?_
  obtain ⟨q3, e3, h⟩ := fs_bind h
  refine fs_ma [true, true, true, true] ?_
  refine l_X4_gives_4  hX fs_fu x1 (0 : Int32) (0 : Int32) σ μ q3 e3 ?_
  refine s_iload_n hX dX4_gives_29 rfl ?_
  cases h
  exact s_iret hX hR dX4_gives_30
