-- X4_refusesPairs
def L_X4_refusesPairs_35  : Nat → Int32 → Int32 → fsS → Option (Nat)
  | 0, _, _, _ => none
  | n0 + 1, y1, y2, σ => fs_g (fs_in y1 6) (if (σ 53 y1.toNatClampNeg) ≤ y2 then some 1 else fs_g (fs_in (((40 : Int32) * y1) + y2) 240) (if (F_X4_in ((σ 52 (((40 : Int32) * y1) + y2).toNatClampNeg).toInt64) (0 : Int64) (99 : Int64)) = 0 then some 0 else fs_g (fs_in ((((40 : Int32) * y1) + y2) + (1 : Int32)) 240) (if (F_X4_in ((σ 52 ((((40 : Int32) * y1) + y2) + (1 : Int32)).toNatClampNeg).toInt64) (0 : Int64) (30 : Int64)) = 0 then some 0 else L_X4_refusesPairs_35  n0 y1 (y2 + (2 : Int32)) σ)))
def F_X4_refusesPairs (x1 : Int32) (σ : fsS) : Option (Int32 × fsS) := fs_g (fs_in x1 6) (if 0 ≤ (σ 53 x1.toNatClampNeg) then fs_g (fs_in x1 6) (if ((σ 53 x1.toNatClampNeg) - (σ 53 x1.toNatClampNeg) / (2 : Int32) * (2 : Int32)) = (1 : Int32) then (F_X4_found (5 : Int32) σ).bind (fun q14 => some (q14.1, q14.2)) else (L_X4_refusesPairs_35  fs_fu x1 (0 : Int32) σ).bind (fun q11 => if q11 = 0 then (F_X4_found (3 : Int32) σ).bind (fun q13 => some (q13.1, q13.2)) else some ((0 : Int32), σ))) else (F_X4_found (1 : Int32) σ).bind (fun q15 => some (q15.1, q15.2)))
set_option maxRecDepth 20000 in
set_option maxHeartbeats 40000000 in
theorem l_X4_refusesPairs_35   {X : fsC} (hX : fs_ok cX4_refusesPairs RX4 3 { frames := 1, cells := 0, slots := 0, locals := 25 } X) : ∀ (n : Nat) (y1 : Int32) (y2 : Int32) (σ : fsS) (μ : fsL) (out : Nat) (_ : L_X4_refusesPairs_35  n y1 y2 σ = some out) (k0 : out = 0 → fs_PW X 91 [some (.ref 51), none, none] [] σ μ) (k1 : out = 1 → fs_PW X 103 [none, none, none] [] σ μ), fs_PW X 35 [some (.ref 51), some (.int y1), some (.int y2)] [] σ μ := by
  intro n
  induction n with
  | zero =>
    intro y1 y2 σ μ out h
    cases (show (none : Option (Nat)) = some out from h)
  | succ n0 ih =>
    intro y1 y2 σ μ out h k0 k1
    unfold L_X4_refusesPairs_35 at h
    refine s_iload_n hX dX4_refusesPairs_35 rfl ?_
    refine s_aload_n hX dX4_refusesPairs_36 rfl ?_
    refine s_getr hX dX4_refusesPairs_37 f_X4_13 rfl ?_
    refine s_iload_n hX dX4_refusesPairs_40 rfl ?_
    obtain ⟨g5, h⟩ := fs_gd h
    refine s_iald hX dX4_refusesPairs_41 g5 ?_
    refine s_ic_ge hX 103 dX4_refusesPairs_42 (by decide) (fun c6 => ?_) (fun c6 => ?_)
    · have h := (if_pos c6).symm.trans h
      cases h
      refine fs_ma [false, false, false] ?_
      exact k1 rfl
    · have h := (if_neg c6).symm.trans h
      refine s_aload_n hX dX4_refusesPairs_45 rfl ?_
      refine s_getr hX dX4_refusesPairs_46 f_X4_7 rfl ?_
      refine s_bi hX (40 : Int32) dX4_refusesPairs_49 (by decide) ?_
      refine s_iload_n hX dX4_refusesPairs_51 rfl ?_
      refine s_imul hX dX4_refusesPairs_52 ?_
      refine s_iload_n hX dX4_refusesPairs_53 rfl ?_
      refine s_iadd hX dX4_refusesPairs_54 ?_
      obtain ⟨g7, h⟩ := fs_gd h
      refine s_iald hX dX4_refusesPairs_55 g7 ?_
      refine s_i2l hX dX4_refusesPairs_56 ?_
      refine s_lc hX (0 : Int64) dX4_refusesPairs_57 (by decide) ?_
      refine s_ldc2 hX (99 : Int64) dX4_refusesPairs_58 q_X4_172 ?_
      refine s_callS hX (as := [.long ((σ 52 (((40 : Int32) * y1) + y2).toNatClampNeg).toInt64), .long (0 : Int64), .long (99 : Int64)]) dX4_refusesPairs_61 k_X4_74 v_X4_in (m_X4_in ((σ 52 (((40 : Int32) * y1) + y2).toNatClampNeg).toInt64) (0 : Int64) (99 : Int64) σ μ _ rfl) ⟨rfl, rfl⟩ ⟨(Nat.le_of_ble_eq_true rfl), (Nat.le_of_ble_eq_true rfl)⟩ rfl rfl (Nat.le_of_ble_eq_true rfl) ?_
      refine s_if_eq hX 91 dX4_refusesPairs_64 (by decide) (fun c8 => ?_) (fun c8 => ?_)
      · have h := (if_pos c8).symm.trans h
        cases h
        refine fs_ma [true, false, false] ?_
        exact k0 rfl
      · have h := (if_neg c8).symm.trans h
        refine s_aload_n hX dX4_refusesPairs_67 rfl ?_
        refine s_getr hX dX4_refusesPairs_68 f_X4_7 rfl ?_
        refine s_bi hX (40 : Int32) dX4_refusesPairs_71 (by decide) ?_
        refine s_iload_n hX dX4_refusesPairs_73 rfl ?_
        refine s_imul hX dX4_refusesPairs_74 ?_
        refine s_iload_n hX dX4_refusesPairs_75 rfl ?_
        refine s_iadd hX dX4_refusesPairs_76 ?_
        refine s_ic hX (1 : Int32) dX4_refusesPairs_77 (by decide) ?_
        refine s_iadd hX dX4_refusesPairs_78 ?_
        obtain ⟨g9, h⟩ := fs_gd h
        refine s_iald hX dX4_refusesPairs_79 g9 ?_
        refine s_i2l hX dX4_refusesPairs_80 ?_
        refine s_lc hX (0 : Int64) dX4_refusesPairs_81 (by decide) ?_
        refine s_ldc2 hX (30 : Int64) dX4_refusesPairs_82 q_X4_215 ?_
        refine s_callS hX (as := [.long ((σ 52 ((((40 : Int32) * y1) + y2) + (1 : Int32)).toNatClampNeg).toInt64), .long (0 : Int64), .long (30 : Int64)]) dX4_refusesPairs_85 k_X4_74 v_X4_in (m_X4_in ((σ 52 ((((40 : Int32) * y1) + y2) + (1 : Int32)).toNatClampNeg).toInt64) (0 : Int64) (30 : Int64) σ μ _ rfl) ⟨rfl, rfl⟩ ⟨(Nat.le_of_ble_eq_true rfl), (Nat.le_of_ble_eq_true rfl)⟩ rfl rfl (Nat.le_of_ble_eq_true rfl) ?_
        refine s_if_ne hX 97 dX4_refusesPairs_88 (by decide) (fun c10 => ?_) (fun c10 => ?_)
        · have h := (if_neg c10).symm.trans h
          refine s_iinc hX (y2 + (2 : Int32)) dX4_refusesPairs_97 rfl rfl (Nat.le_of_ble_eq_true rfl) ?_
          refine s_goto hX 35 dX4_refusesPairs_100 (by decide) ?_
          refine fs_ma [true, true, true] ?_
          exact ih y1 (y2 + (2 : Int32)) σ μ out h k0 k1
        · have h := (if_pos c10).symm.trans h
          cases h
          refine fs_ma [true, false, false] ?_
          exact k0 rfl
set_option maxRecDepth 20000 in
set_option maxHeartbeats 40000000 in
theorem m_X4_refusesPairs (x1 : Int32)  (σ : fsS) (μ : fsL) (out : Int32 × fsS) (h : F_X4_refusesPairs x1 σ = some out) : fs_Met yX4_refusesPairs cX4_refusesPairs 3 (some .int) { frames := 1, cells := 0, slots := 0, locals := 25 } [.ref 51, .int x1] σ μ (some (.int out.1)) out.2 μ := by
  unfold F_X4_refusesPairs at h
  refine fs_intro (by decide +kernel) (Nat.le_of_ble_eq_true rfl) (fun X hX hR => ?_)
  show fs_PW X 0 [some (.ref 51), some (.int x1), none] [] σ μ
  refine s_aload_n hX dX4_refusesPairs_0 rfl ?_
  refine s_getr hX dX4_refusesPairs_1 f_X4_13 rfl ?_
  refine s_iload_n hX dX4_refusesPairs_4 rfl ?_
  obtain ⟨g1, h⟩ := fs_gd h
  refine s_iald hX dX4_refusesPairs_5 g1 ?_
  refine s_if_ge hX 15 dX4_refusesPairs_6 (by decide) (fun c2 => ?_) (fun c2 => ?_)
  · have h := (if_pos c2).symm.trans h
    refine s_aload_n hX dX4_refusesPairs_15 rfl ?_
    refine s_getr hX dX4_refusesPairs_16 f_X4_13 rfl ?_
    refine s_iload_n hX dX4_refusesPairs_19 rfl ?_
    obtain ⟨g3, h⟩ := fs_gd h
    refine s_iald hX dX4_refusesPairs_20 g3 ?_
    refine s_ic hX (2 : Int32) dX4_refusesPairs_21 (by decide) ?_
    refine s_irem hX dX4_refusesPairs_22 (by decide) ?_
    refine s_ic hX (1 : Int32) dX4_refusesPairs_23 (by decide) ?_
    refine s_ic_ne hX 33 dX4_refusesPairs_24 (by decide) (fun c4 => ?_) (fun c4 => ?_)
    · have h := (if_neg c4).symm.trans h
      refine s_ic hX (0 : Int32) dX4_refusesPairs_33 (by decide) ?_
      refine s_istore_n hX dX4_refusesPairs_34 (Nat.le_of_ble_eq_true rfl) ?_
      obtain ⟨q11, e11, h⟩ := fs_bind h
      refine fs_ma [true, true, true] ?_
      refine l_X4_refusesPairs_35  hX fs_fu x1 (0 : Int32) σ μ q11 e11 (fun c12 => ?_) (fun c12 => ?_)
      · have h := (if_pos c12).symm.trans h
        refine s_aload_n hX dX4_refusesPairs_91 rfl ?_
        refine s_ic hX (3 : Int32) dX4_refusesPairs_92 (by decide) ?_
        obtain ⟨q13, e13, h⟩ := fs_bind h
        refine s_cV hX [.int (3 : Int32)] dX4_refusesPairs_93 k_X4_84 v_X4_found (m_X4_found (3 : Int32) σ μ q13 e13) ⟨_, rfl⟩ fs_c4 ⟨rfl, rfl⟩ ⟨(Nat.le_of_ble_eq_true rfl), (Nat.le_of_ble_eq_true rfl)⟩ rfl rfl (Nat.le_of_ble_eq_true rfl) ?_
        cases h
        exact s_iret hX hR dX4_refusesPairs_96
      · have h := (if_neg (show ¬ q11 = 0 by rw [c12]; decide)).symm.trans h
        refine s_ic hX (0 : Int32) dX4_refusesPairs_103 (by decide) ?_
        cases h
        exact s_iret hX hR dX4_refusesPairs_104
    · have h := (if_pos c4).symm.trans h
      refine s_aload_n hX dX4_refusesPairs_27 rfl ?_
      refine s_ic hX (5 : Int32) dX4_refusesPairs_28 (by decide) ?_
      obtain ⟨q14, e14, h⟩ := fs_bind h
      refine s_cV hX [.int (5 : Int32)] dX4_refusesPairs_29 k_X4_84 v_X4_found (m_X4_found (5 : Int32) σ μ q14 e14) ⟨_, rfl⟩ fs_c4 ⟨rfl, rfl⟩ ⟨(Nat.le_of_ble_eq_true rfl), (Nat.le_of_ble_eq_true rfl)⟩ rfl rfl (Nat.le_of_ble_eq_true rfl) ?_
      cases h
      exact s_iret hX hR dX4_refusesPairs_32
  · have h := (if_neg c2).symm.trans h
    refine s_aload_n hX dX4_refusesPairs_9 rfl ?_
    refine s_ic hX (1 : Int32) dX4_refusesPairs_10 (by decide) ?_
    obtain ⟨q15, e15, h⟩ := fs_bind h
    refine s_cV hX [.int (1 : Int32)] dX4_refusesPairs_11 k_X4_84 v_X4_found (m_X4_found (1 : Int32) σ μ q15 e15) ⟨_, rfl⟩ fs_c4 ⟨rfl, rfl⟩ ⟨(Nat.le_of_ble_eq_true rfl), (Nat.le_of_ble_eq_true rfl)⟩ rfl rfl (Nat.le_of_ble_eq_true rfl) ?_
    cases h
    exact s_iret hX hR dX4_refusesPairs_14

-- X4_isSo
def L_X4_isSo_6  : Nat → Int32 → Int32 → Int32 → Int32 → Int32 → Int32 → fsS → Option (Int32)
  | 0, _, _, _, _, _, _, _ => none
  | n0 + 1, y1, y2, y3, y4, y5, y6, σ => fs_g (fs_in y4 6) (if (σ 53 y4.toNatClampNeg) ≤ y6 then some y5 else if y5 = 0 then L_X4_isSo_6  n0 y1 y2 y3 y4 (0 : Int32) (y6 + (2 : Int32)) σ else fs_g (fs_in ((7 : Int32) + y3) 13) (fs_g (fs_in (((40 : Int32) * y4) + y6) 240) (fs_g (fs_in ((((40 : Int32) * y4) + y6) + (1 : Int32)) 240) (if (F_X4_regardBy y1 y2 (σ 60 ((7 : Int32) + y3).toNatClampNeg) (σ 52 (((40 : Int32) * y4) + y6).toNatClampNeg)) = (σ 52 ((((40 : Int32) * y4) + y6) + (1 : Int32)).toNatClampNeg) then L_X4_isSo_6  n0 y1 y2 y3 y4 (1 : Int32) (y6 + (2 : Int32)) σ else L_X4_isSo_6  n0 y1 y2 y3 y4 (0 : Int32) (y6 + (2 : Int32)) σ))))
def F_X4_isSo (x1 : Int32) (x2 : Int32) (x3 : Int32) (x4 : Int32) (σ : fsS) : Option (Int32) := (L_X4_isSo_6  fs_fu x1 x2 x3 x4 (1 : Int32) (0 : Int32) σ).bind (fun q8 => fs_g (q8 = 0 ∨ q8 = 1) (some q8))
set_option maxRecDepth 20000 in
set_option maxHeartbeats 40000000 in
theorem l_X4_isSo_6   {X : fsC} (hX : fs_ok cX4_isSo RX4 7 { frames := 2, cells := 0, slots := 0, locals := 47 } X) : ∀ (n : Nat) (y1 : Int32) (y2 : Int32) (y3 : Int32) (y4 : Int32) (y5 : Int32) (y6 : Int32) (σ : fsS) (μ : fsL) (out : Int32) (_ : L_X4_isSo_6  n y1 y2 y3 y4 y5 y6 σ = some out) (k0 : fs_PW X 81 [none, none, none, none, none, some (.int out), none] [] σ μ), fs_PW X 6 [some (.ref 51), some (.int y1), some (.int y2), some (.int y3), some (.int y4), some (.int y5), some (.int y6)] [] σ μ := by
  intro n
  induction n with
  | zero =>
    intro y1 y2 y3 y4 y5 y6 σ μ out h
    cases (show (none : Option (Int32)) = some out from h)
  | succ n0 ih =>
    intro y1 y2 y3 y4 y5 y6 σ μ out h k0
    unfold L_X4_isSo_6 at h
    refine s_iload hX dX4_isSo_6 rfl ?_
    refine s_aload_n hX dX4_isSo_8 rfl ?_
    refine s_getr hX dX4_isSo_9 f_X4_13 rfl ?_
    refine s_iload hX dX4_isSo_12 rfl ?_
    obtain ⟨g1, h⟩ := fs_gd h
    refine s_iald hX dX4_isSo_14 g1 ?_
    refine s_ic_ge hX 81 dX4_isSo_15 (by decide) (fun c2 => ?_) (fun c2 => ?_)
    · have h := (if_pos c2).symm.trans h
      cases h
      refine fs_ma [false, false, false, false, false, true, false] ?_
      exact k0
    · have h := (if_neg c2).symm.trans h
      refine s_iload hX dX4_isSo_18 rfl ?_
      refine s_if_eq hX 72 dX4_isSo_20 (by decide) (fun c3 => ?_) (fun c3 => ?_)
      · have h := (if_pos c3).symm.trans h
        refine s_ic hX (0 : Int32) dX4_isSo_72 (by decide) ?_
        refine s_istore hX dX4_isSo_73 (Nat.le_of_ble_eq_true rfl) ?_
        refine s_iinc hX (y6 + (2 : Int32)) dX4_isSo_75 rfl rfl (Nat.le_of_ble_eq_true rfl) ?_
        refine s_goto hX 6 dX4_isSo_78 (by decide) ?_
        refine fs_ma [true, true, true, true, true, true, true] ?_
        exact ih y1 y2 y3 y4 (0 : Int32) (y6 + (2 : Int32)) σ μ out h k0
      · have h := (if_neg c3).symm.trans h
        refine s_iload_n hX dX4_isSo_23 rfl ?_
        refine s_iload_n hX dX4_isSo_24 rfl ?_
        refine s_aload_n hX dX4_isSo_25 rfl ?_
        refine s_getr hX dX4_isSo_26 f_X4_38 rfl ?_
        refine s_bi hX (7 : Int32) dX4_isSo_29 (by decide) ?_
        refine s_iload_n hX dX4_isSo_31 rfl ?_
        refine s_iadd hX dX4_isSo_32 ?_
        obtain ⟨g4, h⟩ := fs_gd h
        refine s_iald hX dX4_isSo_33 g4 ?_
        refine s_aload_n hX dX4_isSo_34 rfl ?_
        refine s_getr hX dX4_isSo_35 f_X4_7 rfl ?_
        refine s_bi hX (40 : Int32) dX4_isSo_38 (by decide) ?_
        refine s_iload hX dX4_isSo_40 rfl ?_
        refine s_imul hX dX4_isSo_42 ?_
        refine s_iload hX dX4_isSo_43 rfl ?_
        refine s_iadd hX dX4_isSo_45 ?_
        obtain ⟨g5, h⟩ := fs_gd h
        refine s_iald hX dX4_isSo_46 g5 ?_
        refine s_callS hX (as := [.int y1, .int y2, .int (σ 60 ((7 : Int32) + y3).toNatClampNeg), .int (σ 52 (((40 : Int32) * y4) + y6).toNatClampNeg)]) dX4_isSo_47 k_X4_146 v_X4_regardBy (m_X4_regardBy y1 y2 (σ 60 ((7 : Int32) + y3).toNatClampNeg) (σ 52 (((40 : Int32) * y4) + y6).toNatClampNeg) σ μ _ rfl) ⟨rfl, rfl⟩ ⟨(Nat.le_of_ble_eq_true rfl), (Nat.le_of_ble_eq_true rfl)⟩ rfl rfl (Nat.le_of_ble_eq_true rfl) ?_
        refine s_aload_n hX dX4_isSo_50 rfl ?_
        refine s_getr hX dX4_isSo_51 f_X4_7 rfl ?_
        refine s_bi hX (40 : Int32) dX4_isSo_54 (by decide) ?_
        refine s_iload hX dX4_isSo_56 rfl ?_
        refine s_imul hX dX4_isSo_58 ?_
        refine s_iload hX dX4_isSo_59 rfl ?_
        refine s_iadd hX dX4_isSo_61 ?_
        refine s_ic hX (1 : Int32) dX4_isSo_62 (by decide) ?_
        refine s_iadd hX dX4_isSo_63 ?_
        obtain ⟨g6, h⟩ := fs_gd h
        refine s_iald hX dX4_isSo_64 g6 ?_
        refine s_ic_ne hX 72 dX4_isSo_65 (by decide) (fun c7 => ?_) (fun c7 => ?_)
        · have h := (if_neg c7).symm.trans h
          refine s_ic hX (0 : Int32) dX4_isSo_72 (by decide) ?_
          refine s_istore hX dX4_isSo_73 (Nat.le_of_ble_eq_true rfl) ?_
          refine s_iinc hX (y6 + (2 : Int32)) dX4_isSo_75 rfl rfl (Nat.le_of_ble_eq_true rfl) ?_
          refine s_goto hX 6 dX4_isSo_78 (by decide) ?_
          refine fs_ma [true, true, true, true, true, true, true] ?_
          exact ih y1 y2 y3 y4 (0 : Int32) (y6 + (2 : Int32)) σ μ out h k0
        · have h := (if_pos c7).symm.trans h
          refine s_ic hX (1 : Int32) dX4_isSo_68 (by decide) ?_
          refine s_goto hX 73 dX4_isSo_69 (by decide) ?_
          refine s_istore hX dX4_isSo_73 (Nat.le_of_ble_eq_true rfl) ?_
          refine s_iinc hX (y6 + (2 : Int32)) dX4_isSo_75 rfl rfl (Nat.le_of_ble_eq_true rfl) ?_
          refine s_goto hX 6 dX4_isSo_78 (by decide) ?_
          refine fs_ma [true, true, true, true, true, true, true] ?_
          exact ih y1 y2 y3 y4 (1 : Int32) (y6 + (2 : Int32)) σ μ out h k0
set_option maxRecDepth 20000 in
set_option maxHeartbeats 40000000 in
theorem m_X4_isSo (x1 : Int32) (x2 : Int32) (x3 : Int32) (x4 : Int32)  (σ : fsS) (μ : fsL) (out : Int32) (h : F_X4_isSo x1 x2 x3 x4 σ = some out) : fs_Met yX4_isSo cX4_isSo 7 (some .boolean) { frames := 2, cells := 0, slots := 0, locals := 47 } [.ref 51, .int x1, .int x2, .int x3, .int x4] σ μ (some (.int out)) σ μ := by
  unfold F_X4_isSo at h
  refine fs_intro (by decide +kernel) (Nat.le_of_ble_eq_true rfl) (fun X hX hR => ?_)
  show fs_PW X 0 [some (.ref 51), some (.int x1), some (.int x2), some (.int x3), some (.int x4), none, none] [] σ μ
  refine s_ic hX (1 : Int32) dX4_isSo_0 (by decide) ?_
  refine s_istore hX dX4_isSo_1 (Nat.le_of_ble_eq_true rfl) ?_
  refine s_ic hX (0 : Int32) dX4_isSo_3 (by decide) ?_
  refine s_istore hX dX4_isSo_4 (Nat.le_of_ble_eq_true rfl) ?_
  obtain ⟨q8, e8, h⟩ := fs_bind h
  refine fs_ma [true, true, true, true, true, true, true] ?_
  refine l_X4_isSo_6  hX fs_fu x1 x2 x3 x4 (1 : Int32) (0 : Int32) σ μ q8 e8 ?_
  refine s_iload hX dX4_isSo_81 rfl ?_
  obtain ⟨g9, h⟩ := fs_gd h
  cases h
  exact s_zret hX g9 hR dX4_isSo_83

-- X4_looks
def L_X4_looks_35  : Nat → Int32 → Int32 → Int32 → Int32 → fsS → Option (Int32)
  | 0, _, _, _, _, _ => none
  | n0 + 1, y1, y2, y4, y5, σ => if (10 : Int32) ≤ y5 then some y4 else fs_g (fs_in y1 6) ((F_X4_isSo (σ 57 y1.toNatClampNeg) y5 y1 y2 σ).bind (fun q7 => if q7 = 0 then L_X4_looks_35  n0 y1 y2 (y4 ||| (0 : Int32)) (y5 + (1 : Int32)) σ else L_X4_looks_35  n0 y1 y2 (y4 ||| ((1 : Int32) <<< (y5 &&& 31))) (y5 + (1 : Int32)) σ))
def F_X4_looks (x1 : Int32) (x2 : Int32) (σ : fsS) : Option (Int32 × fsS) := if (F_X4_isOne x1 σ) = 0 then some ((-1 : Int32), σ) else if (F_X4_isRow x2) = 0 then some ((-1 : Int32), σ) else (F_X4_refusesPairs x2 σ).bind (fun q3 => if q3.1 = 0 then (L_X4_looks_35  fs_fu x1 x2 (0 : Int32) (0 : Int32) q3.2).bind (fun q9 => some (q9, q3.2)) else some (q3.1, q3.2))
set_option maxRecDepth 20000 in
set_option maxHeartbeats 40000000 in
theorem l_X4_looks_35   {X : fsC} (hX : fs_ok cX4_looks RX4 6 { frames := 3, cells := 0, slots := 0, locals := 73 } X) : ∀ (n : Nat) (y1 : Int32) (y2 : Int32) (y4 : Int32) (y5 : Int32) (σ : fsS) (μ : fsL) (out : Int32) (_ : L_X4_looks_35  n y1 y2 y4 y5 σ = some out) (k0 : fs_PW X 78 [none, none, none, none, some (.int out), none] [] σ μ), fs_PW X 35 [some (.ref 51), some (.int y1), some (.int y2), none, some (.int y4), some (.int y5)] [] σ μ := by
  intro n
  induction n with
  | zero =>
    intro y1 y2 y4 y5 σ μ out h
    cases (show (none : Option (Int32)) = some out from h)
  | succ n0 ih =>
    intro y1 y2 y4 y5 σ μ out h k0
    unfold L_X4_looks_35 at h
    refine s_iload hX dX4_looks_35 rfl ?_
    refine s_bi hX (10 : Int32) dX4_looks_37 (by decide) ?_
    refine s_ic_ge hX 78 dX4_looks_39 (by decide) (fun c5 => ?_) (fun c5 => ?_)
    · have h := (if_pos c5).symm.trans h
      cases h
      refine fs_ma [false, false, false, false, true, false] ?_
      exact k0
    · have h := (if_neg c5).symm.trans h
      refine s_iload hX dX4_looks_42 rfl ?_
      refine s_aload_n hX dX4_looks_44 rfl ?_
      refine s_aload_n hX dX4_looks_45 rfl ?_
      refine s_getr hX dX4_looks_46 f_X4_29 rfl ?_
      refine s_iload_n hX dX4_looks_49 rfl ?_
      obtain ⟨g6, h⟩ := fs_gd h
      refine s_iald hX dX4_looks_50 g6 ?_
      refine s_iload hX dX4_looks_51 rfl ?_
      refine s_iload_n hX dX4_looks_53 rfl ?_
      refine s_iload_n hX dX4_looks_54 rfl ?_
      obtain ⟨q7, e7, h⟩ := fs_bind h
      refine s_cV hX [.int (σ 57 y1.toNatClampNeg), .int y5, .int y1, .int y2] dX4_looks_55 k_X4_220 v_X4_isSo (m_X4_isSo (σ 57 y1.toNatClampNeg) y5 y1 y2 σ μ q7 e7) ⟨_, rfl⟩ fs_c4 ⟨rfl, rfl⟩ ⟨(Nat.le_of_ble_eq_true rfl), (Nat.le_of_ble_eq_true rfl)⟩ rfl rfl (Nat.le_of_ble_eq_true rfl) ?_
      refine s_if_eq hX 68 dX4_looks_58 (by decide) (fun c8 => ?_) (fun c8 => ?_)
      · have h := (if_pos c8).symm.trans h
        refine s_ic hX (0 : Int32) dX4_looks_68 (by decide) ?_
        refine s_ior hX dX4_looks_69 ?_
        refine s_istore hX dX4_looks_70 (Nat.le_of_ble_eq_true rfl) ?_
        refine s_iinc hX (y5 + (1 : Int32)) dX4_looks_72 rfl rfl (Nat.le_of_ble_eq_true rfl) ?_
        refine s_goto hX 35 dX4_looks_75 (by decide) ?_
        refine fs_ma [true, true, true, false, true, true] ?_
        exact ih y1 y2 (y4 ||| (0 : Int32)) (y5 + (1 : Int32)) σ μ out h k0
      · have h := (if_neg c8).symm.trans h
        refine s_ic hX (1 : Int32) dX4_looks_61 (by decide) ?_
        refine s_iload hX dX4_looks_62 rfl ?_
        refine s_ishl hX dX4_looks_64 ?_
        refine s_goto hX 69 dX4_looks_65 (by decide) ?_
        refine s_ior hX dX4_looks_69 ?_
        refine s_istore hX dX4_looks_70 (Nat.le_of_ble_eq_true rfl) ?_
        refine s_iinc hX (y5 + (1 : Int32)) dX4_looks_72 rfl rfl (Nat.le_of_ble_eq_true rfl) ?_
        refine s_goto hX 35 dX4_looks_75 (by decide) ?_
        refine fs_ma [true, true, true, false, true, true] ?_
        exact ih y1 y2 (y4 ||| ((1 : Int32) <<< (y5 &&& 31))) (y5 + (1 : Int32)) σ μ out h k0
set_option maxRecDepth 20000 in
set_option maxHeartbeats 40000000 in
theorem m_X4_looks (x1 : Int32) (x2 : Int32)  (σ : fsS) (μ : fsL) (out : Int32 × fsS) (h : F_X4_looks x1 x2 σ = some out) : fs_Met yX4_looks cX4_looks 6 (some .int) { frames := 3, cells := 0, slots := 0, locals := 73 } [.ref 51, .int x1, .int x2] σ μ (some (.int out.1)) out.2 μ := by
  unfold F_X4_looks at h
  refine fs_intro (by decide +kernel) (Nat.le_of_ble_eq_true rfl) (fun X hX hR => ?_)
  show fs_PW X 0 [some (.ref 51), some (.int x1), some (.int x2), none, none, none] [] σ μ
  refine s_aload_n hX dX4_looks_0 rfl ?_
  refine s_iload_n hX dX4_looks_1 rfl ?_
  refine s_cV hX [.int x1] dX4_looks_2 k_X4_157 v_X4_isOne (m_X4_isOne x1 σ μ _ rfl) ⟨_, rfl⟩ fs_c4 ⟨rfl, rfl⟩ ⟨(Nat.le_of_ble_eq_true rfl), (Nat.le_of_ble_eq_true rfl)⟩ rfl rfl (Nat.le_of_ble_eq_true rfl) ?_
  refine s_if_eq hX 15 dX4_looks_5 (by decide) (fun c1 => ?_) (fun c1 => ?_)
  · have h := (if_pos c1).symm.trans h
    refine s_ic hX (-1 : Int32) dX4_looks_15 (by decide) ?_
    cases h
    exact s_iret hX hR dX4_looks_16
  · have h := (if_neg c1).symm.trans h
    refine s_iload_n hX dX4_looks_8 rfl ?_
    refine s_callS hX (as := [.int x2]) dX4_looks_9 k_X4_80 v_X4_isRow (m_X4_isRow x2 σ μ _ rfl) ⟨rfl, rfl⟩ ⟨(Nat.le_of_ble_eq_true rfl), (Nat.le_of_ble_eq_true rfl)⟩ rfl rfl (Nat.le_of_ble_eq_true rfl) ?_
    refine s_if_ne hX 17 dX4_looks_12 (by decide) (fun c2 => ?_) (fun c2 => ?_)
    · have h := (if_neg c2).symm.trans h
      refine s_aload_n hX dX4_looks_17 rfl ?_
      refine s_iload_n hX dX4_looks_18 rfl ?_
      obtain ⟨q3, e3, h⟩ := fs_bind h
      refine s_cV hX [.int x2] dX4_looks_19 k_X4_217 v_X4_refusesPairs (m_X4_refusesPairs x2 σ μ q3 e3) ⟨_, rfl⟩ fs_c4 ⟨rfl, rfl⟩ ⟨(Nat.le_of_ble_eq_true rfl), (Nat.le_of_ble_eq_true rfl)⟩ rfl rfl (Nat.le_of_ble_eq_true rfl) ?_
      refine s_istore_n hX dX4_looks_22 (Nat.le_of_ble_eq_true rfl) ?_
      refine s_iload_n hX dX4_looks_23 rfl ?_
      refine s_if_eq hX 29 dX4_looks_24 (by decide) (fun c4 => ?_) (fun c4 => ?_)
      · have h := (if_pos c4).symm.trans h
        refine s_ic hX (0 : Int32) dX4_looks_29 (by decide) ?_
        refine s_istore hX dX4_looks_30 (Nat.le_of_ble_eq_true rfl) ?_
        refine s_ic hX (0 : Int32) dX4_looks_32 (by decide) ?_
        refine s_istore hX dX4_looks_33 (Nat.le_of_ble_eq_true rfl) ?_
        obtain ⟨q9, e9, h⟩ := fs_bind h
        refine fs_ma [true, true, true, false, true, true] ?_
        refine l_X4_looks_35  hX fs_fu x1 x2 (0 : Int32) (0 : Int32) q3.2 μ q9 e9 ?_
        refine s_iload hX dX4_looks_78 rfl ?_
        cases h
        exact s_iret hX hR dX4_looks_80
      · have h := (if_neg c4).symm.trans h
        refine s_iload_n hX dX4_looks_27 rfl ?_
        cases h
        exact s_iret hX hR dX4_looks_28
    · have h := (if_pos c2).symm.trans h
      refine s_ic hX (-1 : Int32) dX4_looks_15 (by decide) ?_
      cases h
      exact s_iret hX hR dX4_looks_16

-- X4_kindsOf
def L_X4_kindsOf_5  : Nat → Int32 → Int32 → Int32 → Int32 → fsS → Option (Int32)
  | 0, _, _, _, _, _ => none
  | n0 + 1, y1, y2, y3, y4, σ => if (6 : Int32) ≤ y4 then some y3 else fs_g (fs_in y1 6) ((F_X4_isSo y4 (σ 58 y1.toNatClampNeg) y1 y2 σ).bind (fun q3 => if q3 = 0 then L_X4_kindsOf_5  n0 y1 y2 (y3 ||| (0 : Int32)) (y4 + (1 : Int32)) σ else L_X4_kindsOf_5  n0 y1 y2 (y3 ||| ((1 : Int32) <<< (y4 &&& 31))) (y4 + (1 : Int32)) σ))
def F_X4_kindsOf (x1 : Int32) (x2 : Int32) (σ : fsS) : Option (Int32) := (L_X4_kindsOf_5  fs_fu x1 x2 (0 : Int32) (0 : Int32) σ).bind (fun q5 => some q5)
set_option maxRecDepth 20000 in
set_option maxHeartbeats 40000000 in
theorem l_X4_kindsOf_5   {X : fsC} (hX : fs_ok cX4_kindsOf RX4 5 { frames := 3, cells := 0, slots := 0, locals := 73 } X) : ∀ (n : Nat) (y1 : Int32) (y2 : Int32) (y3 : Int32) (y4 : Int32) (σ : fsS) (μ : fsL) (out : Int32) (_ : L_X4_kindsOf_5  n y1 y2 y3 y4 σ = some out) (k0 : fs_PW X 46 [none, none, none, some (.int out), none] [] σ μ), fs_PW X 5 [some (.ref 51), some (.int y1), some (.int y2), some (.int y3), some (.int y4)] [] σ μ := by
  intro n
  induction n with
  | zero =>
    intro y1 y2 y3 y4 σ μ out h
    cases (show (none : Option (Int32)) = some out from h)
  | succ n0 ih =>
    intro y1 y2 y3 y4 σ μ out h k0
    unfold L_X4_kindsOf_5 at h
    refine s_iload hX dX4_kindsOf_5 rfl ?_
    refine s_bi hX (6 : Int32) dX4_kindsOf_7 (by decide) ?_
    refine s_ic_ge hX 46 dX4_kindsOf_9 (by decide) (fun c1 => ?_) (fun c1 => ?_)
    · have h := (if_pos c1).symm.trans h
      cases h
      refine fs_ma [false, false, false, true, false] ?_
      exact k0
    · have h := (if_neg c1).symm.trans h
      refine s_iload_n hX dX4_kindsOf_12 rfl ?_
      refine s_aload_n hX dX4_kindsOf_13 rfl ?_
      refine s_iload hX dX4_kindsOf_14 rfl ?_
      refine s_aload_n hX dX4_kindsOf_16 rfl ?_
      refine s_getr hX dX4_kindsOf_17 f_X4_32 rfl ?_
      refine s_iload_n hX dX4_kindsOf_20 rfl ?_
      obtain ⟨g2, h⟩ := fs_gd h
      refine s_iald hX dX4_kindsOf_21 g2 ?_
      refine s_iload_n hX dX4_kindsOf_22 rfl ?_
      refine s_iload_n hX dX4_kindsOf_23 rfl ?_
      obtain ⟨q3, e3, h⟩ := fs_bind h
      refine s_cV hX [.int y4, .int (σ 58 y1.toNatClampNeg), .int y1, .int y2] dX4_kindsOf_24 k_X4_220 v_X4_isSo (m_X4_isSo y4 (σ 58 y1.toNatClampNeg) y1 y2 σ μ q3 e3) ⟨_, rfl⟩ fs_c4 ⟨rfl, rfl⟩ ⟨(Nat.le_of_ble_eq_true rfl), (Nat.le_of_ble_eq_true rfl)⟩ rfl rfl (Nat.le_of_ble_eq_true rfl) ?_
      refine s_if_eq hX 37 dX4_kindsOf_27 (by decide) (fun c4 => ?_) (fun c4 => ?_)
      · have h := (if_pos c4).symm.trans h
        refine s_ic hX (0 : Int32) dX4_kindsOf_37 (by decide) ?_
        refine s_ior hX dX4_kindsOf_38 ?_
        refine s_istore_n hX dX4_kindsOf_39 (Nat.le_of_ble_eq_true rfl) ?_
        refine s_iinc hX (y4 + (1 : Int32)) dX4_kindsOf_40 rfl rfl (Nat.le_of_ble_eq_true rfl) ?_
        refine s_goto hX 5 dX4_kindsOf_43 (by decide) ?_
        refine fs_ma [true, true, true, true, true] ?_
        exact ih y1 y2 (y3 ||| (0 : Int32)) (y4 + (1 : Int32)) σ μ out h k0
      · have h := (if_neg c4).symm.trans h
        refine s_ic hX (1 : Int32) dX4_kindsOf_30 (by decide) ?_
        refine s_iload hX dX4_kindsOf_31 rfl ?_
        refine s_ishl hX dX4_kindsOf_33 ?_
        refine s_goto hX 38 dX4_kindsOf_34 (by decide) ?_
        refine s_ior hX dX4_kindsOf_38 ?_
        refine s_istore_n hX dX4_kindsOf_39 (Nat.le_of_ble_eq_true rfl) ?_
        refine s_iinc hX (y4 + (1 : Int32)) dX4_kindsOf_40 rfl rfl (Nat.le_of_ble_eq_true rfl) ?_
        refine s_goto hX 5 dX4_kindsOf_43 (by decide) ?_
        refine fs_ma [true, true, true, true, true] ?_
        exact ih y1 y2 (y3 ||| ((1 : Int32) <<< (y4 &&& 31))) (y4 + (1 : Int32)) σ μ out h k0
set_option maxRecDepth 20000 in
set_option maxHeartbeats 40000000 in
theorem m_X4_kindsOf (x1 : Int32) (x2 : Int32)  (σ : fsS) (μ : fsL) (out : Int32) (h : F_X4_kindsOf x1 x2 σ = some out) : fs_Met yX4_kindsOf cX4_kindsOf 5 (some .int) { frames := 3, cells := 0, slots := 0, locals := 73 } [.ref 51, .int x1, .int x2] σ μ (some (.int out)) σ μ := by
  unfold F_X4_kindsOf at h
  refine fs_intro (by decide +kernel) (Nat.le_of_ble_eq_true rfl) (fun X hX hR => ?_)
  show fs_PW X 0 [some (.ref 51), some (.int x1), some (.int x2), none, none] [] σ μ
  refine s_ic hX (0 : Int32) dX4_kindsOf_0 (by decide) ?_
  refine s_istore_n hX dX4_kindsOf_1 (Nat.le_of_ble_eq_true rfl) ?_
  refine s_ic hX (0 : Int32) dX4_kindsOf_2 (by decide) ?_
  refine s_istore hX dX4_kindsOf_3 (Nat.le_of_ble_eq_true rfl) ?_
  obtain ⟨q5, e5, h⟩ := fs_bind h
  refine fs_ma [true, true, true, true, true] ?_
  refine l_X4_kindsOf_5  hX fs_fu x1 x2 (0 : Int32) (0 : Int32) σ μ q5 e5 ?_
  refine s_iload_n hX dX4_kindsOf_46 rfl ?_
  cases h
  exact s_iret hX hR dX4_kindsOf_47

-- X4_kinds
def F_X4_kinds (x1 : Int32) (x2 : Int32) (σ : fsS) : Option (Int32 × fsS) := if (F_X4_isOne x1 σ) = 0 then some ((-1 : Int32), σ) else if (F_X4_isRow x2) = 0 then some ((-1 : Int32), σ) else (F_X4_refusesPairs x2 σ).bind (fun q3 => if q3.1 = 0 then (F_X4_kindsOf x1 x2 q3.2).bind (fun q5 => some (q5, q3.2)) else some (q3.1, q3.2))
set_option maxRecDepth 20000 in
set_option maxHeartbeats 40000000 in
theorem m_X4_kinds (x1 : Int32) (x2 : Int32)  (σ : fsS) (μ : fsL) (out : Int32 × fsS) (h : F_X4_kinds x1 x2 σ = some out) : fs_Met yX4_kinds cX4_kinds 4 (some .int) { frames := 4, cells := 0, slots := 0, locals := 97 } [.ref 51, .int x1, .int x2] σ μ (some (.int out.1)) out.2 μ := by
  unfold F_X4_kinds at h
  refine fs_intro (by decide +kernel) (Nat.le_of_ble_eq_true rfl) (fun X hX hR => ?_)
  show fs_PW X 0 [some (.ref 51), some (.int x1), some (.int x2), none] [] σ μ
  refine s_aload_n hX dX4_kinds_0 rfl ?_
  refine s_iload_n hX dX4_kinds_1 rfl ?_
  refine s_cV hX [.int x1] dX4_kinds_2 k_X4_157 v_X4_isOne (m_X4_isOne x1 σ μ _ rfl) ⟨_, rfl⟩ fs_c4 ⟨rfl, rfl⟩ ⟨(Nat.le_of_ble_eq_true rfl), (Nat.le_of_ble_eq_true rfl)⟩ rfl rfl (Nat.le_of_ble_eq_true rfl) ?_
  refine s_if_eq hX 15 dX4_kinds_5 (by decide) (fun c1 => ?_) (fun c1 => ?_)
  · have h := (if_pos c1).symm.trans h
    refine s_ic hX (-1 : Int32) dX4_kinds_15 (by decide) ?_
    cases h
    exact s_iret hX hR dX4_kinds_16
  · have h := (if_neg c1).symm.trans h
    refine s_iload_n hX dX4_kinds_8 rfl ?_
    refine s_callS hX (as := [.int x2]) dX4_kinds_9 k_X4_80 v_X4_isRow (m_X4_isRow x2 σ μ _ rfl) ⟨rfl, rfl⟩ ⟨(Nat.le_of_ble_eq_true rfl), (Nat.le_of_ble_eq_true rfl)⟩ rfl rfl (Nat.le_of_ble_eq_true rfl) ?_
    refine s_if_ne hX 17 dX4_kinds_12 (by decide) (fun c2 => ?_) (fun c2 => ?_)
    · have h := (if_neg c2).symm.trans h
      refine s_aload_n hX dX4_kinds_17 rfl ?_
      refine s_iload_n hX dX4_kinds_18 rfl ?_
      obtain ⟨q3, e3, h⟩ := fs_bind h
      refine s_cV hX [.int x2] dX4_kinds_19 k_X4_217 v_X4_refusesPairs (m_X4_refusesPairs x2 σ μ q3 e3) ⟨_, rfl⟩ fs_c4 ⟨rfl, rfl⟩ ⟨(Nat.le_of_ble_eq_true rfl), (Nat.le_of_ble_eq_true rfl)⟩ rfl rfl (Nat.le_of_ble_eq_true rfl) ?_
      refine s_istore_n hX dX4_kinds_22 (Nat.le_of_ble_eq_true rfl) ?_
      refine s_iload_n hX dX4_kinds_23 rfl ?_
      refine s_if_eq hX 31 dX4_kinds_24 (by decide) (fun c4 => ?_) (fun c4 => ?_)
      · have h := (if_pos c4).symm.trans h
        refine s_aload_n hX dX4_kinds_31 rfl ?_
        refine s_iload_n hX dX4_kinds_32 rfl ?_
        refine s_iload_n hX dX4_kinds_33 rfl ?_
        obtain ⟨q5, e5, h⟩ := fs_bind h
        refine s_cV hX [.int x1, .int x2] dX4_kinds_34 k_X4_224 v_X4_kindsOf (m_X4_kindsOf x1 x2 q3.2 μ q5 e5) ⟨_, rfl⟩ fs_c4 ⟨rfl, rfl⟩ ⟨(Nat.le_of_ble_eq_true rfl), (Nat.le_of_ble_eq_true rfl)⟩ rfl rfl (Nat.le_of_ble_eq_true rfl) ?_
        cases h
        exact s_iret hX hR dX4_kinds_37
      · have h := (if_neg c4).symm.trans h
        refine s_iload_n hX dX4_kinds_27 rfl ?_
        refine s_goto hX 37 dX4_kinds_28 (by decide) ?_
        cases h
        exact s_iret hX hR dX4_kinds_37
    · have h := (if_pos c2).symm.trans h
      refine s_ic hX (-1 : Int32) dX4_kinds_15 (by decide) ?_
      cases h
      exact s_iret hX hR dX4_kinds_16

-- X4_test
def L_X4_test_79  : Nat → Int32 → Int32 → Int32 → Int32 → Int32 → Int32 → Int32 → Int32 → Int32 → fsS → Option (Int32)
  | 0, _, _, _, _, _, _, _, _, _, _ => none
  | n0 + 1, y1, y4, y5, y6, y7, y8, y9, y10, y11, σ => if (6 : Int32) ≤ y11 then some y10 else if (F_X4_has y4 y9) = 0 then L_X4_test_79  n0 y1 y4 y5 y6 y7 y8 y9 (y10 + (0 : Int32)) (y11 + (1 : Int32)) σ else if (F_X4_has y4 y11) = 0 then L_X4_test_79  n0 y1 y4 y5 y6 y7 y8 y9 (y10 + (0 : Int32)) (y11 + (1 : Int32)) σ else fs_g (fs_in y1 6) (fs_g (fs_in ((7 : Int32) + y1) 13) (fs_g (fs_in y1 6) (fs_g (fs_in ((7 : Int32) + y1) 13) (if (F_X4_regardBy y9 (σ 58 y1.toNatClampNeg) (σ 60 ((7 : Int32) + y1).toNatClampNeg) y7) = (F_X4_regardBy y11 (σ 58 y1.toNatClampNeg) (σ 60 ((7 : Int32) + y1).toNatClampNeg) y7) then L_X4_test_79  n0 y1 y4 y5 y6 y7 y8 y9 (y10 + (1 : Int32)) (y11 + (1 : Int32)) σ else L_X4_test_79  n0 y1 y4 y5 y6 y7 y8 y9 (y10 + (0 : Int32)) (y11 + (1 : Int32)) σ))))
def L_X4_test_66  : Nat → Int32 → Int32 → Int32 → Int32 → Int32 → Int32 → Int32 → fsS → Option (Int32)
  | 0, _, _, _, _, _, _, _, _ => none
  | n0 + 1, y1, y4, y5, y6, y7, y8, y9, σ => if (6 : Int32) ≤ y9 then some y8 else (L_X4_test_79  fs_fu y1 y4 y5 y6 y7 y8 y9 (0 : Int32) (0 : Int32) σ).bind (fun q20 => L_X4_test_66  n0 y1 y4 y5 y6 y7 (F_X4_greater y8 q20) (y9 + (1 : Int32)) σ)
def L_X4_test_48  : Nat → Int32 → Int32 → Int32 → Int32 → Int32 → fsS → Option (Int32 × Int32)
  | 0, _, _, _, _, _, _ => none
  | n0 + 1, y1, y4, y5, y6, y7, σ => if (100 : Int32) ≤ y7 then some (y5, y6) else if y4 = 0 then some (y5, y6) else (L_X4_test_66  fs_fu y1 y4 y5 y6 y7 (0 : Int32) (0 : Int32) σ).bind (fun q21 => if y6 ≤ q21 then L_X4_test_48  n0 y1 y4 y5 (F_X4_lesser q21 y6) (y7 + (1 : Int32)) σ else L_X4_test_48  n0 y1 y4 y7 (F_X4_lesser q21 y6) (y7 + (1 : Int32)) σ)
def F_X4_test (x1 : Int32) (x2 : Int32) (σ : fsS) : Option (Int32 × fsS) := if (F_X4_isOne x1 σ) = 0 then some ((-1 : Int32), σ) else if (F_X4_isRow x2) = 0 then some ((-1 : Int32), σ) else (F_X4_refusesPairs x2 σ).bind (fun q3 => if q3.1 = 0 then (F_X4_kindsOf x1 x2 q3.2).bind (fun q5 => (L_X4_test_48  fs_fu x1 q5 (-9 : Int32) (7 : Int32) (0 : Int32) q3.2).bind (fun q23 => if q23.1 = (-9 : Int32) then some ((-9 : Int32), q3.2) else some ((F_X4_answer q23.1 q23.2 q3.2).1, (F_X4_answer q23.1 q23.2 q3.2).2))) else some (q3.1, q3.2))
set_option maxRecDepth 20000 in
set_option maxHeartbeats 40000000 in
theorem l_X4_test_79   {X : fsC} (hX : fs_ok cX4_test RX4 13 { frames := 4, cells := 0, slots := 0, locals := 97 } X) : ∀ (n : Nat) (y1 : Int32) (y4 : Int32) (y5 : Int32) (y6 : Int32) (y7 : Int32) (y8 : Int32) (y9 : Int32) (y10 : Int32) (y11 : Int32) (σ : fsS) (μ : fsL) (out : Int32) (_ : L_X4_test_79  n y1 y4 y5 y6 y7 y8 y9 y10 y11 σ = some out) (k0 : fs_PW X 181 [some (.ref 51), some (.int y1), none, none, some (.int y4), some (.int y5), some (.int y6), some (.int y7), some (.int y8), some (.int y9), some (.int out), none, none] [] σ μ), fs_PW X 79 [some (.ref 51), some (.int y1), none, none, some (.int y4), some (.int y5), some (.int y6), some (.int y7), some (.int y8), some (.int y9), some (.int y10), some (.int y11), none] [] σ μ := by
  intro n
  induction n with
  | zero =>
    intro y1 y4 y5 y6 y7 y8 y9 y10 y11 σ μ out h
    cases (show (none : Option (Int32)) = some out from h)
  | succ n0 ih =>
    intro y1 y4 y5 y6 y7 y8 y9 y10 y11 σ μ out h k0
    unfold L_X4_test_79 at h
    refine s_iload hX dX4_test_79 rfl ?_
    refine s_bi hX (6 : Int32) dX4_test_81 (by decide) ?_
    refine s_ic_ge hX 181 dX4_test_83 (by decide) (fun c9 => ?_) (fun c9 => ?_)
    · have h := (if_pos c9).symm.trans h
      cases h
      refine fs_ma [true, true, false, false, true, true, true, true, true, true, true, false, false] ?_
      exact k0
    · have h := (if_neg c9).symm.trans h
      refine s_iload hX dX4_test_86 rfl ?_
      refine s_iload hX dX4_test_88 rfl ?_
      refine s_callS hX (as := [.int y4, .int y9]) dX4_test_90 k_X4_227 v_X4_has (m_X4_has y4 y9 σ μ _ rfl) ⟨rfl, rfl⟩ ⟨(Nat.le_of_ble_eq_true rfl), (Nat.le_of_ble_eq_true rfl)⟩ rfl rfl (Nat.le_of_ble_eq_true rfl) ?_
      refine s_if_eq hX 110 dX4_test_93 (by decide) (fun c10 => ?_) (fun c10 => ?_)
      · have h := (if_pos c10).symm.trans h
        refine s_ic hX (0 : Int32) dX4_test_110 (by decide) ?_
        refine s_istore hX dX4_test_111 (Nat.le_of_ble_eq_true rfl) ?_
        refine s_iload hX dX4_test_113 rfl ?_
        refine s_iload hX dX4_test_115 rfl ?_
        refine s_if_eq hX 171 dX4_test_117 (by decide) (fun _ => ?_) (fun c11 => absurd (by decide) c11)
        refine s_ic hX (0 : Int32) dX4_test_171 (by decide) ?_
        refine s_iadd hX dX4_test_172 ?_
        refine s_istore hX dX4_test_173 (Nat.le_of_ble_eq_true rfl) ?_
        refine s_iinc hX (y11 + (1 : Int32)) dX4_test_175 rfl rfl (Nat.le_of_ble_eq_true rfl) ?_
        refine s_goto hX 79 dX4_test_178 (by decide) ?_
        refine fs_ma [true, true, false, false, true, true, true, true, true, true, true, true, false] ?_
        exact ih y1 y4 y5 y6 y7 y8 y9 (y10 + (0 : Int32)) (y11 + (1 : Int32)) σ μ out h k0
      · have h := (if_neg c10).symm.trans h
        refine s_iload hX dX4_test_96 rfl ?_
        refine s_iload hX dX4_test_98 rfl ?_
        refine s_callS hX (as := [.int y4, .int y11]) dX4_test_100 k_X4_227 v_X4_has (m_X4_has y4 y11 σ μ _ rfl) ⟨rfl, rfl⟩ ⟨(Nat.le_of_ble_eq_true rfl), (Nat.le_of_ble_eq_true rfl)⟩ rfl rfl (Nat.le_of_ble_eq_true rfl) ?_
        refine s_if_eq hX 110 dX4_test_103 (by decide) (fun c12 => ?_) (fun c12 => ?_)
        · have h := (if_pos c12).symm.trans h
          refine s_ic hX (0 : Int32) dX4_test_110 (by decide) ?_
          refine s_istore hX dX4_test_111 (Nat.le_of_ble_eq_true rfl) ?_
          refine s_iload hX dX4_test_113 rfl ?_
          refine s_iload hX dX4_test_115 rfl ?_
          refine s_if_eq hX 171 dX4_test_117 (by decide) (fun _ => ?_) (fun c13 => absurd (by decide) c13)
          refine s_ic hX (0 : Int32) dX4_test_171 (by decide) ?_
          refine s_iadd hX dX4_test_172 ?_
          refine s_istore hX dX4_test_173 (Nat.le_of_ble_eq_true rfl) ?_
          refine s_iinc hX (y11 + (1 : Int32)) dX4_test_175 rfl rfl (Nat.le_of_ble_eq_true rfl) ?_
          refine s_goto hX 79 dX4_test_178 (by decide) ?_
          refine fs_ma [true, true, false, false, true, true, true, true, true, true, true, true, false] ?_
          exact ih y1 y4 y5 y6 y7 y8 y9 (y10 + (0 : Int32)) (y11 + (1 : Int32)) σ μ out h k0
        · have h := (if_neg c12).symm.trans h
          refine s_ic hX (1 : Int32) dX4_test_106 (by decide) ?_
          refine s_goto hX 111 dX4_test_107 (by decide) ?_
          refine s_istore hX dX4_test_111 (Nat.le_of_ble_eq_true rfl) ?_
          refine s_iload hX dX4_test_113 rfl ?_
          refine s_iload hX dX4_test_115 rfl ?_
          refine s_if_eq hX 171 dX4_test_117 (by decide) (fun c14 => absurd c14 (by decide)) (fun _ => ?_)
          refine s_iload hX dX4_test_120 rfl ?_
          refine s_aload_n hX dX4_test_122 rfl ?_
          refine s_getr hX dX4_test_123 f_X4_32 rfl ?_
          refine s_iload_n hX dX4_test_126 rfl ?_
          obtain ⟨g15, h⟩ := fs_gd h
          refine s_iald hX dX4_test_127 g15 ?_
          refine s_aload_n hX dX4_test_128 rfl ?_
          refine s_getr hX dX4_test_129 f_X4_38 rfl ?_
          refine s_bi hX (7 : Int32) dX4_test_132 (by decide) ?_
          refine s_iload_n hX dX4_test_134 rfl ?_
          refine s_iadd hX dX4_test_135 ?_
          obtain ⟨g16, h⟩ := fs_gd h
          refine s_iald hX dX4_test_136 g16 ?_
          refine s_iload hX dX4_test_137 rfl ?_
          refine s_callS hX (as := [.int y9, .int (σ 58 y1.toNatClampNeg), .int (σ 60 ((7 : Int32) + y1).toNatClampNeg), .int y7]) dX4_test_139 k_X4_146 v_X4_regardBy (m_X4_regardBy y9 (σ 58 y1.toNatClampNeg) (σ 60 ((7 : Int32) + y1).toNatClampNeg) y7 σ μ _ rfl) ⟨rfl, rfl⟩ ⟨(Nat.le_of_ble_eq_true rfl), (Nat.le_of_ble_eq_true rfl)⟩ rfl rfl (Nat.le_of_ble_eq_true rfl) ?_
          refine s_iload hX dX4_test_142 rfl ?_
          refine s_aload_n hX dX4_test_144 rfl ?_
          refine s_getr hX dX4_test_145 f_X4_32 rfl ?_
          refine s_iload_n hX dX4_test_148 rfl ?_
          obtain ⟨g17, h⟩ := fs_gd h
          refine s_iald hX dX4_test_149 g17 ?_
          refine s_aload_n hX dX4_test_150 rfl ?_
          refine s_getr hX dX4_test_151 f_X4_38 rfl ?_
          refine s_bi hX (7 : Int32) dX4_test_154 (by decide) ?_
          refine s_iload_n hX dX4_test_156 rfl ?_
          refine s_iadd hX dX4_test_157 ?_
          obtain ⟨g18, h⟩ := fs_gd h
          refine s_iald hX dX4_test_158 g18 ?_
          refine s_iload hX dX4_test_159 rfl ?_
          refine s_callS hX (as := [.int y11, .int (σ 58 y1.toNatClampNeg), .int (σ 60 ((7 : Int32) + y1).toNatClampNeg), .int y7]) dX4_test_161 k_X4_146 v_X4_regardBy (m_X4_regardBy y11 (σ 58 y1.toNatClampNeg) (σ 60 ((7 : Int32) + y1).toNatClampNeg) y7 σ μ _ rfl) ⟨rfl, rfl⟩ ⟨(Nat.le_of_ble_eq_true rfl), (Nat.le_of_ble_eq_true rfl)⟩ rfl rfl (Nat.le_of_ble_eq_true rfl) ?_
          refine s_ic_ne hX 171 dX4_test_164 (by decide) (fun c19 => ?_) (fun c19 => ?_)
          · have h := (if_neg c19).symm.trans h
            refine s_ic hX (0 : Int32) dX4_test_171 (by decide) ?_
            refine s_iadd hX dX4_test_172 ?_
            refine s_istore hX dX4_test_173 (Nat.le_of_ble_eq_true rfl) ?_
            refine s_iinc hX (y11 + (1 : Int32)) dX4_test_175 rfl rfl (Nat.le_of_ble_eq_true rfl) ?_
            refine s_goto hX 79 dX4_test_178 (by decide) ?_
            refine fs_ma [true, true, false, false, true, true, true, true, true, true, true, true, false] ?_
            exact ih y1 y4 y5 y6 y7 y8 y9 (y10 + (0 : Int32)) (y11 + (1 : Int32)) σ μ out h k0
          · have h := (if_pos c19).symm.trans h
            refine s_ic hX (1 : Int32) dX4_test_167 (by decide) ?_
            refine s_goto hX 172 dX4_test_168 (by decide) ?_
            refine s_iadd hX dX4_test_172 ?_
            refine s_istore hX dX4_test_173 (Nat.le_of_ble_eq_true rfl) ?_
            refine s_iinc hX (y11 + (1 : Int32)) dX4_test_175 rfl rfl (Nat.le_of_ble_eq_true rfl) ?_
            refine s_goto hX 79 dX4_test_178 (by decide) ?_
            refine fs_ma [true, true, false, false, true, true, true, true, true, true, true, true, false] ?_
            exact ih y1 y4 y5 y6 y7 y8 y9 (y10 + (1 : Int32)) (y11 + (1 : Int32)) σ μ out h k0
set_option maxRecDepth 20000 in
set_option maxHeartbeats 40000000 in
theorem l_X4_test_66   {X : fsC} (hX : fs_ok cX4_test RX4 13 { frames := 4, cells := 0, slots := 0, locals := 97 } X) : ∀ (n : Nat) (y1 : Int32) (y4 : Int32) (y5 : Int32) (y6 : Int32) (y7 : Int32) (y8 : Int32) (y9 : Int32) (σ : fsS) (μ : fsL) (out : Int32) (_ : L_X4_test_66  n y1 y4 y5 y6 y7 y8 y9 σ = some out) (k0 : fs_PW X 196 [some (.ref 51), some (.int y1), none, none, some (.int y4), some (.int y5), some (.int y6), some (.int y7), some (.int out), none, none, none, none] [] σ μ), fs_PW X 66 [some (.ref 51), some (.int y1), none, none, some (.int y4), some (.int y5), some (.int y6), some (.int y7), some (.int y8), some (.int y9), none, none, none] [] σ μ := by
  intro n
  induction n with
  | zero =>
    intro y1 y4 y5 y6 y7 y8 y9 σ μ out h
    cases (show (none : Option (Int32)) = some out from h)
  | succ n0 ih =>
    intro y1 y4 y5 y6 y7 y8 y9 σ μ out h k0
    unfold L_X4_test_66 at h
    refine s_iload hX dX4_test_66 rfl ?_
    refine s_bi hX (6 : Int32) dX4_test_68 (by decide) ?_
    refine s_ic_ge hX 196 dX4_test_70 (by decide) (fun c8 => ?_) (fun c8 => ?_)
    · have h := (if_pos c8).symm.trans h
      cases h
      refine fs_ma [true, true, false, false, true, true, true, true, true, false, false, false, false] ?_
      exact k0
    · have h := (if_neg c8).symm.trans h
      refine s_ic hX (0 : Int32) dX4_test_73 (by decide) ?_
      refine s_istore hX dX4_test_74 (Nat.le_of_ble_eq_true rfl) ?_
      refine s_ic hX (0 : Int32) dX4_test_76 (by decide) ?_
      refine s_istore hX dX4_test_77 (Nat.le_of_ble_eq_true rfl) ?_
      obtain ⟨q20, e20, h⟩ := fs_bind h
      refine fs_ma [true, true, false, false, true, true, true, true, true, true, true, true, false] ?_
      refine l_X4_test_79  hX fs_fu y1 y4 y5 y6 y7 y8 y9 (0 : Int32) (0 : Int32) σ μ q20 e20 ?_
      refine s_iload hX dX4_test_181 rfl ?_
      refine s_iload hX dX4_test_183 rfl ?_
      refine s_callS hX (as := [.int y8, .int q20]) dX4_test_185 k_X4_139 v_X4_greater (m_X4_greater y8 q20 σ μ _ rfl) ⟨rfl, rfl⟩ ⟨(Nat.le_of_ble_eq_true rfl), (Nat.le_of_ble_eq_true rfl)⟩ rfl rfl (Nat.le_of_ble_eq_true rfl) ?_
      refine s_istore hX dX4_test_188 (Nat.le_of_ble_eq_true rfl) ?_
      refine s_iinc hX (y9 + (1 : Int32)) dX4_test_190 rfl rfl (Nat.le_of_ble_eq_true rfl) ?_
      refine s_goto hX 66 dX4_test_193 (by decide) ?_
      refine fs_ma [true, true, false, false, true, true, true, true, true, true, false, false, false] ?_
      exact ih y1 y4 y5 y6 y7 (F_X4_greater y8 q20) (y9 + (1 : Int32)) σ μ out h k0
set_option maxRecDepth 20000 in
set_option maxHeartbeats 40000000 in
theorem l_X4_test_48   {X : fsC} (hX : fs_ok cX4_test RX4 13 { frames := 4, cells := 0, slots := 0, locals := 97 } X) : ∀ (n : Nat) (y1 : Int32) (y4 : Int32) (y5 : Int32) (y6 : Int32) (y7 : Int32) (σ : fsS) (μ : fsL) (out : Int32 × Int32) (_ : L_X4_test_48  n y1 y4 y5 y6 y7 σ = some out) (k0 : fs_PW X 227 [some (.ref 51), none, none, none, none, some (.int out.1), some (.int out.2), none, none, none, none, none, none] [] σ μ), fs_PW X 48 [some (.ref 51), some (.int y1), none, none, some (.int y4), some (.int y5), some (.int y6), some (.int y7), none, none, none, none, none] [] σ μ := by
  intro n
  induction n with
  | zero =>
    intro y1 y4 y5 y6 y7 σ μ out h
    cases (show (none : Option (Int32 × Int32)) = some out from h)
  | succ n0 ih =>
    intro y1 y4 y5 y6 y7 σ μ out h k0
    unfold L_X4_test_48 at h
    refine s_iload hX dX4_test_48 rfl ?_
    refine s_bi hX (100 : Int32) dX4_test_50 (by decide) ?_
    refine s_ic_ge hX 227 dX4_test_52 (by decide) (fun c6 => ?_) (fun c6 => ?_)
    · have h := (if_pos c6).symm.trans h
      cases h
      refine fs_ma [true, false, false, false, false, true, true, false, false, false, false, false, false] ?_
      exact k0
    · have h := (if_neg c6).symm.trans h
      refine s_iload hX dX4_test_55 rfl ?_
      refine s_if_eq hX 227 dX4_test_57 (by decide) (fun c7 => ?_) (fun c7 => ?_)
      · have h := (if_pos c7).symm.trans h
        cases h
        refine fs_ma [true, false, false, false, false, true, true, false, false, false, false, false, false] ?_
        exact k0
      · have h := (if_neg c7).symm.trans h
        refine s_ic hX (0 : Int32) dX4_test_60 (by decide) ?_
        refine s_istore hX dX4_test_61 (Nat.le_of_ble_eq_true rfl) ?_
        refine s_ic hX (0 : Int32) dX4_test_63 (by decide) ?_
        refine s_istore hX dX4_test_64 (Nat.le_of_ble_eq_true rfl) ?_
        obtain ⟨q21, e21, h⟩ := fs_bind h
        refine fs_ma [true, true, false, false, true, true, true, true, true, true, false, false, false] ?_
        refine l_X4_test_66  hX fs_fu y1 y4 y5 y6 y7 (0 : Int32) (0 : Int32) σ μ q21 e21 ?_
        refine s_iload hX dX4_test_196 rfl ?_
        refine s_iload hX dX4_test_198 rfl ?_
        refine s_ic_ge hX 208 dX4_test_200 (by decide) (fun c22 => ?_) (fun c22 => ?_)
        · have h := (if_pos c22).symm.trans h
          refine s_iload hX dX4_test_208 rfl ?_
          refine s_istore hX dX4_test_210 (Nat.le_of_ble_eq_true rfl) ?_
          refine s_iload hX dX4_test_212 rfl ?_
          refine s_iload hX dX4_test_214 rfl ?_
          refine s_callS hX (as := [.int q21, .int y6]) dX4_test_216 k_X4_143 v_X4_lesser (m_X4_lesser q21 y6 σ μ _ rfl) ⟨rfl, rfl⟩ ⟨(Nat.le_of_ble_eq_true rfl), (Nat.le_of_ble_eq_true rfl)⟩ rfl rfl (Nat.le_of_ble_eq_true rfl) ?_
          refine s_istore hX dX4_test_219 (Nat.le_of_ble_eq_true rfl) ?_
          refine s_iinc hX (y7 + (1 : Int32)) dX4_test_221 rfl rfl (Nat.le_of_ble_eq_true rfl) ?_
          refine s_goto hX 48 dX4_test_224 (by decide) ?_
          refine fs_ma [true, true, false, false, true, true, true, true, false, false, false, false, false] ?_
          exact ih y1 y4 y5 (F_X4_lesser q21 y6) (y7 + (1 : Int32)) σ μ out h k0
        · have h := (if_neg c22).symm.trans h
          refine s_iload hX dX4_test_203 rfl ?_
          refine s_goto hX 210 dX4_test_205 (by decide) ?_
          refine s_istore hX dX4_test_210 (Nat.le_of_ble_eq_true rfl) ?_
          refine s_iload hX dX4_test_212 rfl ?_
          refine s_iload hX dX4_test_214 rfl ?_
          refine s_callS hX (as := [.int q21, .int y6]) dX4_test_216 k_X4_143 v_X4_lesser (m_X4_lesser q21 y6 σ μ _ rfl) ⟨rfl, rfl⟩ ⟨(Nat.le_of_ble_eq_true rfl), (Nat.le_of_ble_eq_true rfl)⟩ rfl rfl (Nat.le_of_ble_eq_true rfl) ?_
          refine s_istore hX dX4_test_219 (Nat.le_of_ble_eq_true rfl) ?_
          refine s_iinc hX (y7 + (1 : Int32)) dX4_test_221 rfl rfl (Nat.le_of_ble_eq_true rfl) ?_
          refine s_goto hX 48 dX4_test_224 (by decide) ?_
          refine fs_ma [true, true, false, false, true, true, true, true, false, false, false, false, false] ?_
          exact ih y1 y4 y7 (F_X4_lesser q21 y6) (y7 + (1 : Int32)) σ μ out h k0
set_option maxRecDepth 20000 in
set_option maxHeartbeats 40000000 in
theorem m_X4_test (x1 : Int32) (x2 : Int32)  (σ : fsS) (μ : fsL) (out : Int32 × fsS) (h : F_X4_test x1 x2 σ = some out) : fs_Met yX4_test cX4_test 13 (some .int) { frames := 4, cells := 0, slots := 0, locals := 97 } [.ref 51, .int x1, .int x2] σ μ (some (.int out.1)) out.2 μ := by
  unfold F_X4_test at h
  refine fs_intro (by decide +kernel) (Nat.le_of_ble_eq_true rfl) (fun X hX hR => ?_)
  show fs_PW X 0 [some (.ref 51), some (.int x1), some (.int x2), none, none, none, none, none, none, none, none, none, none] [] σ μ
  refine s_aload_n hX dX4_test_0 rfl ?_
  refine s_iload_n hX dX4_test_1 rfl ?_
  refine s_cV hX [.int x1] dX4_test_2 k_X4_157 v_X4_isOne (m_X4_isOne x1 σ μ _ rfl) ⟨_, rfl⟩ fs_c4 ⟨rfl, rfl⟩ ⟨(Nat.le_of_ble_eq_true rfl), (Nat.le_of_ble_eq_true rfl)⟩ rfl rfl (Nat.le_of_ble_eq_true rfl) ?_
  refine s_if_eq hX 15 dX4_test_5 (by decide) (fun c1 => ?_) (fun c1 => ?_)
  · have h := (if_pos c1).symm.trans h
    refine s_ic hX (-1 : Int32) dX4_test_15 (by decide) ?_
    cases h
    exact s_iret hX hR dX4_test_16
  · have h := (if_neg c1).symm.trans h
    refine s_iload_n hX dX4_test_8 rfl ?_
    refine s_callS hX (as := [.int x2]) dX4_test_9 k_X4_80 v_X4_isRow (m_X4_isRow x2 σ μ _ rfl) ⟨rfl, rfl⟩ ⟨(Nat.le_of_ble_eq_true rfl), (Nat.le_of_ble_eq_true rfl)⟩ rfl rfl (Nat.le_of_ble_eq_true rfl) ?_
    refine s_if_ne hX 17 dX4_test_12 (by decide) (fun c2 => ?_) (fun c2 => ?_)
    · have h := (if_neg c2).symm.trans h
      refine s_aload_n hX dX4_test_17 rfl ?_
      refine s_iload_n hX dX4_test_18 rfl ?_
      obtain ⟨q3, e3, h⟩ := fs_bind h
      refine s_cV hX [.int x2] dX4_test_19 k_X4_217 v_X4_refusesPairs (m_X4_refusesPairs x2 σ μ q3 e3) ⟨_, rfl⟩ fs_c4 ⟨rfl, rfl⟩ ⟨(Nat.le_of_ble_eq_true rfl), (Nat.le_of_ble_eq_true rfl)⟩ rfl rfl (Nat.le_of_ble_eq_true rfl) ?_
      refine s_istore_n hX dX4_test_22 (Nat.le_of_ble_eq_true rfl) ?_
      refine s_iload_n hX dX4_test_23 rfl ?_
      refine s_if_eq hX 29 dX4_test_24 (by decide) (fun c4 => ?_) (fun c4 => ?_)
      · have h := (if_pos c4).symm.trans h
        refine s_aload_n hX dX4_test_29 rfl ?_
        refine s_iload_n hX dX4_test_30 rfl ?_
        refine s_iload_n hX dX4_test_31 rfl ?_
        obtain ⟨q5, e5, h⟩ := fs_bind h
        refine s_cV hX [.int x1, .int x2] dX4_test_32 k_X4_224 v_X4_kindsOf (m_X4_kindsOf x1 x2 q3.2 μ q5 e5) ⟨_, rfl⟩ fs_c4 ⟨rfl, rfl⟩ ⟨(Nat.le_of_ble_eq_true rfl), (Nat.le_of_ble_eq_true rfl)⟩ rfl rfl (Nat.le_of_ble_eq_true rfl) ?_
        refine s_istore hX dX4_test_35 (Nat.le_of_ble_eq_true rfl) ?_
        refine s_bi hX (-9 : Int32) dX4_test_37 (by decide) ?_
        refine s_istore hX dX4_test_39 (Nat.le_of_ble_eq_true rfl) ?_
        refine s_bi hX (7 : Int32) dX4_test_41 (by decide) ?_
        refine s_istore hX dX4_test_43 (Nat.le_of_ble_eq_true rfl) ?_
        refine s_ic hX (0 : Int32) dX4_test_45 (by decide) ?_
        refine s_istore hX dX4_test_46 (Nat.le_of_ble_eq_true rfl) ?_
        obtain ⟨q23, e23, h⟩ := fs_bind h
        refine fs_ma [true, true, false, false, true, true, true, true, false, false, false, false, false] ?_
        refine l_X4_test_48  hX fs_fu x1 q5 (-9 : Int32) (7 : Int32) (0 : Int32) q3.2 μ q23 e23 ?_
        refine s_iload hX dX4_test_227 rfl ?_
        refine s_bi hX (-9 : Int32) dX4_test_229 (by decide) ?_
        refine s_ic_ne hX 239 dX4_test_231 (by decide) (fun c24 => ?_) (fun c24 => ?_)
        · have h := (if_neg c24).symm.trans h
          refine s_aload_n hX dX4_test_239 rfl ?_
          refine s_iload hX dX4_test_240 rfl ?_
          refine s_iload hX dX4_test_242 rfl ?_
          refine s_cV hX [.int q23.1, .int q23.2] dX4_test_244 k_X4_186 v_X4_answer (m_X4_answer q23.1 q23.2 q3.2 μ _ rfl) ⟨_, rfl⟩ fs_c4 ⟨rfl, rfl⟩ ⟨(Nat.le_of_ble_eq_true rfl), (Nat.le_of_ble_eq_true rfl)⟩ rfl rfl (Nat.le_of_ble_eq_true rfl) ?_
          cases h
          exact s_iret hX hR dX4_test_247
        · have h := (if_pos c24).symm.trans h
          refine s_bi hX (-9 : Int32) dX4_test_234 (by decide) ?_
          refine s_goto hX 247 dX4_test_236 (by decide) ?_
          cases h
          exact s_iret hX hR dX4_test_247
      · have h := (if_neg c4).symm.trans h
        refine s_iload_n hX dX4_test_27 rfl ?_
        cases h
        exact s_iret hX hR dX4_test_28
    · have h := (if_pos c2).symm.trans h
      refine s_ic hX (-1 : Int32) dX4_test_15 (by decide) ?_
      cases h
      exact s_iret hX hR dX4_test_16
