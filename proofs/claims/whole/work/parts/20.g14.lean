-- X4_goes
def L_X4_goes_8 (a1 : Nat) : Nat → Int32 → Int32 → fsS → Option (fsS)
  | 0, _, _, _ => none
  | n0 + 1, y2, y3, σ => if (σ 51 9) ≤ y3 then some σ else fs_g (fs_in ((1 : Int32) + y3) (fs_len a1)) (fs_g (fs_in y3 6) (fs_g (fs_in y3 6) (fs_g (fs_in ((1 : Int32) + y3) (fs_len a1)) (L_X4_goes_8 a1 n0 y2 (y3 + (1 : Int32)) (fs_u σ a1 ((1 : Int32) + y3).toNatClampNeg (F_X4_greater (0 : Int32) (F_X4_lesser (99 : Int32) ((((σ a1 ((1 : Int32) + y3).toNatClampNeg) + y2) - (σ 62 y3.toNatClampNeg)) - (σ 59 y3.toNatClampNeg)))))))))
def F_X4_goes (a1 : Nat) (σ : fsS) : Option (Int32 × fsS) := (F_X4_laysRegards a1 σ).bind (fun q1 => (L_X4_goes_8 a1 fs_fu q1.1 (0 : Int32) q1.2).bind (fun q7 => fs_g (fs_in (0 : Int32) (fs_len a1)) (fs_g (fs_in (0 : Int32) (fs_len a1)) ((F_X4_gives q1.1 (fs_u q7 a1 0 ((q7 a1 0) + (1 : Int32)))).bind (fun q10 => some (q10, (fs_u q7 a1 0 ((q7 a1 0) + (1 : Int32)))))))))
set_option maxRecDepth 20000 in
set_option maxHeartbeats 40000000 in
theorem l_X4_goes_8 {a1 : Nat}  {X : fsC} (hX : fs_ok cX4_goes RX4 4 { frames := 3, cells := 0, slots := 0, locals := 70 } X) : ∀ (n : Nat) (y2 : Int32) (y3 : Int32) (σ : fsS) (μ : fsL) (out : fsS) (_ : L_X4_goes_8 a1 n y2 y3 σ = some out) (k0 : fs_PW X 57 [some (.ref 51), some (.ref a1), some (.int y2), none] [] out μ), fs_PW X 8 [some (.ref 51), some (.ref a1), some (.int y2), some (.int y3)] [] σ μ := by
  intro n
  induction n with
  | zero =>
    intro y2 y3 σ μ out h
    cases (show (none : Option (fsS)) = some out from h)
  | succ n0 ih =>
    intro y2 y3 σ μ out h k0
    unfold L_X4_goes_8 at h
    refine s_iload_n hX dX4_goes_8 rfl ?_
    refine s_aload_n hX dX4_goes_9 rfl ?_
    refine s_geti hX dX4_goes_10 f_X4_136 rfl ?_
    refine s_ic_ge hX 57 dX4_goes_13 (by decide) (fun c2 => ?_) (fun c2 => ?_)
    · have h := (if_pos c2).symm.trans h
      cases h
      refine fs_ma [true, true, true, false] ?_
      exact k0
    · have h := (if_neg c2).symm.trans h
      refine s_aload_n hX dX4_goes_16 rfl ?_
      refine s_ic hX (1 : Int32) dX4_goes_17 (by decide) ?_
      refine s_iload_n hX dX4_goes_18 rfl ?_
      refine s_iadd hX dX4_goes_19 ?_
      refine s_ic hX (0 : Int32) dX4_goes_20 (by decide) ?_
      refine s_bi hX (99 : Int32) dX4_goes_21 (by decide) ?_
      refine s_aload_n hX dX4_goes_23 rfl ?_
      refine s_ic hX (1 : Int32) dX4_goes_24 (by decide) ?_
      refine s_iload_n hX dX4_goes_25 rfl ?_
      refine s_iadd hX dX4_goes_26 ?_
      obtain ⟨g3, h⟩ := fs_gd h
      refine s_iald hX dX4_goes_27 g3 ?_
      refine s_iload_n hX dX4_goes_28 rfl ?_
      refine s_iadd hX dX4_goes_29 ?_
      refine s_aload_n hX dX4_goes_30 rfl ?_
      refine s_getr hX dX4_goes_31 f_X4_44 rfl ?_
      refine s_iload_n hX dX4_goes_34 rfl ?_
      obtain ⟨g4, h⟩ := fs_gd h
      refine s_iald hX dX4_goes_35 g4 ?_
      refine s_isub hX dX4_goes_36 ?_
      refine s_aload_n hX dX4_goes_37 rfl ?_
      refine s_getr hX dX4_goes_38 f_X4_35 rfl ?_
      refine s_iload_n hX dX4_goes_41 rfl ?_
      obtain ⟨g5, h⟩ := fs_gd h
      refine s_iald hX dX4_goes_42 g5 ?_
      refine s_isub hX dX4_goes_43 ?_
      refine s_callS hX (as := [.int (99 : Int32), .int ((((σ a1 ((1 : Int32) + y3).toNatClampNeg) + y2) - (σ 62 y3.toNatClampNeg)) - (σ 59 y3.toNatClampNeg))]) dX4_goes_44 k_X4_143 v_X4_lesser (m_X4_lesser (99 : Int32) ((((σ a1 ((1 : Int32) + y3).toNatClampNeg) + y2) - (σ 62 y3.toNatClampNeg)) - (σ 59 y3.toNatClampNeg)) σ μ _ rfl) ⟨rfl, rfl⟩ ⟨(Nat.le_of_ble_eq_true rfl), (Nat.le_of_ble_eq_true rfl)⟩ rfl rfl (Nat.le_of_ble_eq_true rfl) ?_
      refine s_callS hX (as := [.int (0 : Int32), .int (F_X4_lesser (99 : Int32) ((((σ a1 ((1 : Int32) + y3).toNatClampNeg) + y2) - (σ 62 y3.toNatClampNeg)) - (σ 59 y3.toNatClampNeg)))]) dX4_goes_47 k_X4_139 v_X4_greater (m_X4_greater (0 : Int32) (F_X4_lesser (99 : Int32) ((((σ a1 ((1 : Int32) + y3).toNatClampNeg) + y2) - (σ 62 y3.toNatClampNeg)) - (σ 59 y3.toNatClampNeg))) σ μ _ rfl) ⟨rfl, rfl⟩ ⟨(Nat.le_of_ble_eq_true rfl), (Nat.le_of_ble_eq_true rfl)⟩ rfl rfl (Nat.le_of_ble_eq_true rfl) ?_
      obtain ⟨g6, h⟩ := fs_gd h
      refine s_iast hX dX4_goes_50 g6 ?_
      refine s_iinc hX (y3 + (1 : Int32)) dX4_goes_51 rfl rfl (Nat.le_of_ble_eq_true rfl) ?_
      refine s_goto hX 8 dX4_goes_54 (by decide) ?_
      refine fs_ma [true, true, true, true] ?_
      exact ih y2 (y3 + (1 : Int32)) (fs_u σ a1 ((1 : Int32) + y3).toNatClampNeg (F_X4_greater (0 : Int32) (F_X4_lesser (99 : Int32) ((((σ a1 ((1 : Int32) + y3).toNatClampNeg) + y2) - (σ 62 y3.toNatClampNeg)) - (σ 59 y3.toNatClampNeg))))) μ out h k0
set_option maxRecDepth 20000 in
set_option maxHeartbeats 40000000 in
theorem m_X4_goes (a1 : Nat)  (σ : fsS) (μ : fsL) (out : Int32 × fsS) (h : F_X4_goes a1 σ = some out) : fs_Met yX4_goes cX4_goes 4 (some .int) { frames := 3, cells := 0, slots := 0, locals := 70 } [.ref 51, .ref a1] σ μ (some (.int out.1)) out.2 μ := by
  unfold F_X4_goes at h
  refine fs_intro (by decide +kernel) (Nat.le_of_ble_eq_true rfl) (fun X hX hR => ?_)
  show fs_PW X 0 [some (.ref 51), some (.ref a1), none, none] [] σ μ
  refine s_aload_n hX dX4_goes_0 rfl ?_
  refine s_aload_n hX dX4_goes_1 rfl ?_
  obtain ⟨q1, e1, h⟩ := fs_bind h
  refine s_cV hX [.ref a1] dX4_goes_2 k_X4_150 v_X4_laysRegards (m_X4_laysRegards a1 σ μ q1 e1) ⟨_, rfl⟩ fs_c4 ⟨rfl, rfl⟩ ⟨(Nat.le_of_ble_eq_true rfl), (Nat.le_of_ble_eq_true rfl)⟩ rfl rfl (Nat.le_of_ble_eq_true rfl) ?_
  refine s_istore_n hX dX4_goes_5 (Nat.le_of_ble_eq_true rfl) ?_
  refine s_ic hX (0 : Int32) dX4_goes_6 (by decide) ?_
  refine s_istore_n hX dX4_goes_7 (Nat.le_of_ble_eq_true rfl) ?_
  obtain ⟨q7, e7, h⟩ := fs_bind h
  refine fs_ma [true, true, true, true] ?_
  refine l_X4_goes_8  hX fs_fu q1.1 (0 : Int32) q1.2 μ q7 e7 ?_
  refine s_aload_n hX dX4_goes_57 rfl ?_
  refine s_ic hX (0 : Int32) dX4_goes_58 (by decide) ?_
  refine s_dup2 hX dX4_goes_59 rfl rfl ?_
  obtain ⟨g8, h⟩ := fs_gd h
  refine s_iald hX dX4_goes_60 g8 ?_
  refine s_ic hX (1 : Int32) dX4_goes_61 (by decide) ?_
  refine s_iadd hX dX4_goes_62 ?_
  obtain ⟨g9, h⟩ := fs_gd h
  refine s_iast hX dX4_goes_63 g9 ?_
  refine s_aload_n hX dX4_goes_64 rfl ?_
  refine s_iload_n hX dX4_goes_65 rfl ?_
  obtain ⟨q10, e10, h⟩ := fs_bind h
  refine s_cV hX [.int q1.1] dX4_goes_66 k_X4_154 v_X4_gives (m_X4_gives q1.1 (fs_u q7 a1 0 ((q7 a1 0) + (1 : Int32))) μ q10 e10) ⟨_, rfl⟩ fs_c4 ⟨rfl, rfl⟩ ⟨(Nat.le_of_ble_eq_true rfl), (Nat.le_of_ble_eq_true rfl)⟩ rfl rfl (Nat.le_of_ble_eq_true rfl) ?_
  cases h
  exact s_iret hX hR dX4_goes_69

-- X4_paid
def F_X4_paid (x1 : Int32) (σ : fsS) : Option (Int32 × fsS) := (F_X4_laysRegards 60 σ).bind (fun q1 => fs_g (fs_in x1 6) (some ((q1.1 - (q1.2 62 x1.toNatClampNeg)), q1.2)))
set_option maxRecDepth 20000 in
set_option maxHeartbeats 40000000 in
theorem m_X4_paid (x1 : Int32)  (σ : fsS) (μ : fsL) (out : Int32 × fsS) (h : F_X4_paid x1 σ = some out) : fs_Met yX4_paid cX4_paid 3 (some .int) { frames := 3, cells := 0, slots := 0, locals := 70 } [.ref 51, .int x1] σ μ (some (.int out.1)) out.2 μ := by
  unfold F_X4_paid at h
  refine fs_intro (by decide +kernel) (Nat.le_of_ble_eq_true rfl) (fun X hX hR => ?_)
  show fs_PW X 0 [some (.ref 51), some (.int x1), none] [] σ μ
  refine s_aload_n hX dX4_paid_0 rfl ?_
  refine s_aload_n hX dX4_paid_1 rfl ?_
  refine s_getr hX dX4_paid_2 f_X4_38 rfl ?_
  obtain ⟨q1, e1, h⟩ := fs_bind h
  refine s_cV hX [.ref 60] dX4_paid_5 k_X4_150 v_X4_laysRegards (m_X4_laysRegards 60 σ μ q1 e1) ⟨_, rfl⟩ fs_c4 ⟨rfl, rfl⟩ ⟨(Nat.le_of_ble_eq_true rfl), (Nat.le_of_ble_eq_true rfl)⟩ rfl rfl (Nat.le_of_ble_eq_true rfl) ?_
  refine s_istore_n hX dX4_paid_8 (Nat.le_of_ble_eq_true rfl) ?_
  refine s_iload_n hX dX4_paid_9 rfl ?_
  refine s_aload_n hX dX4_paid_10 rfl ?_
  refine s_getr hX dX4_paid_11 f_X4_44 rfl ?_
  refine s_iload_n hX dX4_paid_14 rfl ?_
  obtain ⟨g2, h⟩ := fs_gd h
  refine s_iald hX dX4_paid_15 g2 ?_
  refine s_isub hX dX4_paid_16 ?_
  cases h
  exact s_iret hX hR dX4_paid_17

-- X4_one
def F_X4_one (x1 : Int32) (x2 : Int32) (σ : fsS) : Option (Int32 × fsS) := if (F_X4_isOne x1 σ) = 0 then some ((-1 : Int32), σ) else if (F_X4_in (x2.toInt64) (0 : Int64) (6 : Int64)) = 0 then some ((-1 : Int32), σ) else if x2 = (0 : Int32) then fs_g (fs_in x1 6) (some ((F_X4_tell (σ 57 x1.toNatClampNeg) σ).1, (F_X4_tell (σ 57 x1.toNatClampNeg) σ).2)) else if x2 = (1 : Int32) then fs_g (fs_in x1 6) (some ((F_X4_tell (σ 58 x1.toNatClampNeg) σ).1, (F_X4_tell (σ 58 x1.toNatClampNeg) σ).2)) else if x2 = (2 : Int32) then fs_g (fs_in x1 6) (some ((F_X4_tell (σ 59 x1.toNatClampNeg) σ).1, (F_X4_tell (σ 59 x1.toNatClampNeg) σ).2)) else if x2 = (3 : Int32) then fs_g (fs_in ((1 : Int32) + x1) 13) (some ((F_X4_tell (σ 60 ((1 : Int32) + x1).toNatClampNeg) σ).1, (F_X4_tell (σ 60 ((1 : Int32) + x1).toNatClampNeg) σ).2)) else if x2 = (4 : Int32) then fs_g (fs_in ((7 : Int32) + x1) 13) (some ((F_X4_tell (σ 60 ((7 : Int32) + x1).toNatClampNeg) σ).1, (F_X4_tell (σ 60 ((7 : Int32) + x1).toNatClampNeg) σ).2)) else if x2 = (5 : Int32) then fs_g (fs_in x1 6) ((F_X4_regardAs (σ 57 x1.toNatClampNeg) x1 σ).bind (fun q15 => some ((F_X4_tell q15 σ).1, (F_X4_tell q15 σ).2))) else (F_X4_paid x1 σ).bind (fun q16 => some ((F_X4_tell q16.1 q16.2).1, (F_X4_tell q16.1 q16.2).2))
set_option maxRecDepth 20000 in
set_option maxHeartbeats 40000000 in
theorem m_X4_one (x1 : Int32) (x2 : Int32)  (σ : fsS) (μ : fsL) (out : Int32 × fsS) (h : F_X4_one x1 x2 σ = some out) : fs_Met yX4_one cX4_one 3 (some .int) { frames := 4, cells := 0, slots := 0, locals := 92 } [.ref 51, .int x1, .int x2] σ μ (some (.int out.1)) out.2 μ := by
  unfold F_X4_one at h
  refine fs_intro (by decide +kernel) (Nat.le_of_ble_eq_true rfl) (fun X hX hR => ?_)
  show fs_PW X 0 [some (.ref 51), some (.int x1), some (.int x2)] [] σ μ
  refine s_aload_n hX dX4_one_0 rfl ?_
  refine s_iload_n hX dX4_one_1 rfl ?_
  refine s_cV hX [.int x1] dX4_one_2 k_X4_157 v_X4_isOne (m_X4_isOne x1 σ μ _ rfl) ⟨_, rfl⟩ fs_c4 ⟨rfl, rfl⟩ ⟨(Nat.le_of_ble_eq_true rfl), (Nat.le_of_ble_eq_true rfl)⟩ rfl rfl (Nat.le_of_ble_eq_true rfl) ?_
  refine s_if_eq hX 20 dX4_one_5 (by decide) (fun c1 => ?_) (fun c1 => ?_)
  · have h := (if_pos c1).symm.trans h
    refine s_ic hX (-1 : Int32) dX4_one_20 (by decide) ?_
    cases h
    exact s_iret hX hR dX4_one_21
  · have h := (if_neg c1).symm.trans h
    refine s_iload_n hX dX4_one_8 rfl ?_
    refine s_i2l hX dX4_one_9 ?_
    refine s_lc hX (0 : Int64) dX4_one_10 (by decide) ?_
    refine s_ldc2 hX (6 : Int64) dX4_one_11 q_X4_160 ?_
    refine s_callS hX (as := [.long (x2.toInt64), .long (0 : Int64), .long (6 : Int64)]) dX4_one_14 k_X4_74 v_X4_in (m_X4_in (x2.toInt64) (0 : Int64) (6 : Int64) σ μ _ rfl) ⟨rfl, rfl⟩ ⟨(Nat.le_of_ble_eq_true rfl), (Nat.le_of_ble_eq_true rfl)⟩ rfl rfl (Nat.le_of_ble_eq_true rfl) ?_
    refine s_if_ne hX 22 dX4_one_17 (by decide) (fun c2 => ?_) (fun c2 => ?_)
    · have h := (if_neg c2).symm.trans h
      refine s_iload_n hX dX4_one_22 rfl ?_
      by_cases c3 : x2 = (0 : Int32)
      · have h := (if_pos c3).symm.trans h
        refine s_tabK hX 60 (0 : Int32) c3 dX4_one_23 (by decide) (by decide) rfl (by decide) ?_
        refine s_aload_n hX dX4_one_60 rfl ?_
        refine s_aload_n hX dX4_one_61 rfl ?_
        refine s_getr hX dX4_one_62 f_X4_29 rfl ?_
        refine s_iload_n hX dX4_one_65 rfl ?_
        obtain ⟨g4, h⟩ := fs_gd h
        refine s_iald hX dX4_one_66 g4 ?_
        refine s_cV hX [.int (σ 57 x1.toNatClampNeg)] dX4_one_67 k_X4_88 v_X4_tell (m_X4_tell (σ 57 x1.toNatClampNeg) σ μ _ rfl) ⟨_, rfl⟩ fs_c4 ⟨rfl, rfl⟩ ⟨(Nat.le_of_ble_eq_true rfl), (Nat.le_of_ble_eq_true rfl)⟩ rfl rfl (Nat.le_of_ble_eq_true rfl) ?_
        cases h
        exact s_iret hX hR dX4_one_70
      · have h := (if_neg c3).symm.trans h
        by_cases c5 : x2 = (1 : Int32)
        · have h := (if_pos c5).symm.trans h
          refine s_tabK hX 71 (1 : Int32) c5 dX4_one_23 (by decide) (by decide) rfl (by decide) ?_
          refine s_aload_n hX dX4_one_71 rfl ?_
          refine s_aload_n hX dX4_one_72 rfl ?_
          refine s_getr hX dX4_one_73 f_X4_32 rfl ?_
          refine s_iload_n hX dX4_one_76 rfl ?_
          obtain ⟨g6, h⟩ := fs_gd h
          refine s_iald hX dX4_one_77 g6 ?_
          refine s_cV hX [.int (σ 58 x1.toNatClampNeg)] dX4_one_78 k_X4_88 v_X4_tell (m_X4_tell (σ 58 x1.toNatClampNeg) σ μ _ rfl) ⟨_, rfl⟩ fs_c4 ⟨rfl, rfl⟩ ⟨(Nat.le_of_ble_eq_true rfl), (Nat.le_of_ble_eq_true rfl)⟩ rfl rfl (Nat.le_of_ble_eq_true rfl) ?_
          cases h
          exact s_iret hX hR dX4_one_81
        · have h := (if_neg c5).symm.trans h
          by_cases c7 : x2 = (2 : Int32)
          · have h := (if_pos c7).symm.trans h
            refine s_tabK hX 82 (2 : Int32) c7 dX4_one_23 (by decide) (by decide) rfl (by decide) ?_
            refine s_aload_n hX dX4_one_82 rfl ?_
            refine s_aload_n hX dX4_one_83 rfl ?_
            refine s_getr hX dX4_one_84 f_X4_35 rfl ?_
            refine s_iload_n hX dX4_one_87 rfl ?_
            obtain ⟨g8, h⟩ := fs_gd h
            refine s_iald hX dX4_one_88 g8 ?_
            refine s_cV hX [.int (σ 59 x1.toNatClampNeg)] dX4_one_89 k_X4_88 v_X4_tell (m_X4_tell (σ 59 x1.toNatClampNeg) σ μ _ rfl) ⟨_, rfl⟩ fs_c4 ⟨rfl, rfl⟩ ⟨(Nat.le_of_ble_eq_true rfl), (Nat.le_of_ble_eq_true rfl)⟩ rfl rfl (Nat.le_of_ble_eq_true rfl) ?_
            cases h
            exact s_iret hX hR dX4_one_92
          · have h := (if_neg c7).symm.trans h
            by_cases c9 : x2 = (3 : Int32)
            · have h := (if_pos c9).symm.trans h
              refine s_tabK hX 93 (3 : Int32) c9 dX4_one_23 (by decide) (by decide) rfl (by decide) ?_
              refine s_aload_n hX dX4_one_93 rfl ?_
              refine s_aload_n hX dX4_one_94 rfl ?_
              refine s_getr hX dX4_one_95 f_X4_38 rfl ?_
              refine s_ic hX (1 : Int32) dX4_one_98 (by decide) ?_
              refine s_iload_n hX dX4_one_99 rfl ?_
              refine s_iadd hX dX4_one_100 ?_
              obtain ⟨g10, h⟩ := fs_gd h
              refine s_iald hX dX4_one_101 g10 ?_
              refine s_cV hX [.int (σ 60 ((1 : Int32) + x1).toNatClampNeg)] dX4_one_102 k_X4_88 v_X4_tell (m_X4_tell (σ 60 ((1 : Int32) + x1).toNatClampNeg) σ μ _ rfl) ⟨_, rfl⟩ fs_c4 ⟨rfl, rfl⟩ ⟨(Nat.le_of_ble_eq_true rfl), (Nat.le_of_ble_eq_true rfl)⟩ rfl rfl (Nat.le_of_ble_eq_true rfl) ?_
              cases h
              exact s_iret hX hR dX4_one_105
            · have h := (if_neg c9).symm.trans h
              by_cases c11 : x2 = (4 : Int32)
              · have h := (if_pos c11).symm.trans h
                refine s_tabK hX 106 (4 : Int32) c11 dX4_one_23 (by decide) (by decide) rfl (by decide) ?_
                refine s_aload_n hX dX4_one_106 rfl ?_
                refine s_aload_n hX dX4_one_107 rfl ?_
                refine s_getr hX dX4_one_108 f_X4_38 rfl ?_
                refine s_bi hX (7 : Int32) dX4_one_111 (by decide) ?_
                refine s_iload_n hX dX4_one_113 rfl ?_
                refine s_iadd hX dX4_one_114 ?_
                obtain ⟨g12, h⟩ := fs_gd h
                refine s_iald hX dX4_one_115 g12 ?_
                refine s_cV hX [.int (σ 60 ((7 : Int32) + x1).toNatClampNeg)] dX4_one_116 k_X4_88 v_X4_tell (m_X4_tell (σ 60 ((7 : Int32) + x1).toNatClampNeg) σ μ _ rfl) ⟨_, rfl⟩ fs_c4 ⟨rfl, rfl⟩ ⟨(Nat.le_of_ble_eq_true rfl), (Nat.le_of_ble_eq_true rfl)⟩ rfl rfl (Nat.le_of_ble_eq_true rfl) ?_
                cases h
                exact s_iret hX hR dX4_one_119
              · have h := (if_neg c11).symm.trans h
                by_cases c13 : x2 = (5 : Int32)
                · have h := (if_pos c13).symm.trans h
                  refine s_tabK hX 120 (5 : Int32) c13 dX4_one_23 (by decide) (by decide) rfl (by decide) ?_
                  refine s_aload_n hX dX4_one_120 rfl ?_
                  refine s_aload_n hX dX4_one_121 rfl ?_
                  refine s_aload_n hX dX4_one_122 rfl ?_
                  refine s_getr hX dX4_one_123 f_X4_29 rfl ?_
                  refine s_iload_n hX dX4_one_126 rfl ?_
                  obtain ⟨g14, h⟩ := fs_gd h
                  refine s_iald hX dX4_one_127 g14 ?_
                  refine s_iload_n hX dX4_one_128 rfl ?_
                  obtain ⟨q15, e15, h⟩ := fs_bind h
                  refine s_cV hX [.int (σ 57 x1.toNatClampNeg), .int x1] dX4_one_129 k_X4_162 v_X4_regardAs (m_X4_regardAs (σ 57 x1.toNatClampNeg) x1 σ μ q15 e15) ⟨_, rfl⟩ fs_c4 ⟨rfl, rfl⟩ ⟨(Nat.le_of_ble_eq_true rfl), (Nat.le_of_ble_eq_true rfl)⟩ rfl rfl (Nat.le_of_ble_eq_true rfl) ?_
                  refine s_cV hX [.int q15] dX4_one_132 k_X4_88 v_X4_tell (m_X4_tell q15 σ μ _ rfl) ⟨_, rfl⟩ fs_c4 ⟨rfl, rfl⟩ ⟨(Nat.le_of_ble_eq_true rfl), (Nat.le_of_ble_eq_true rfl)⟩ rfl rfl (Nat.le_of_ble_eq_true rfl) ?_
                  cases h
                  exact s_iret hX hR dX4_one_135
                · have h := (if_neg c13).symm.trans h
                  have wc3 := fs_ne (z := 0) c3 (by decide)
                  have wc5 := fs_ne (z := 1) c5 (by decide)
                  have wc7 := fs_ne (z := 2) c7 (by decide)
                  have wc9 := fs_ne (z := 3) c9 (by decide)
                  have wc11 := fs_ne (z := 4) c11 (by decide)
                  have wc13 := fs_ne (z := 5) c13 (by decide)
                  refine s_tabOut hX 136 dX4_one_23 (by omega) (by decide) ?_
                  refine s_aload_n hX dX4_one_136 rfl ?_
                  refine s_aload_n hX dX4_one_137 rfl ?_
                  refine s_iload_n hX dX4_one_138 rfl ?_
                  obtain ⟨q16, e16, h⟩ := fs_bind h
                  refine s_cV hX [.int x1] dX4_one_139 k_X4_165 v_X4_paid (m_X4_paid x1 σ μ q16 e16) ⟨_, rfl⟩ fs_c4 ⟨rfl, rfl⟩ ⟨(Nat.le_of_ble_eq_true rfl), (Nat.le_of_ble_eq_true rfl)⟩ rfl rfl (Nat.le_of_ble_eq_true rfl) ?_
                  refine s_cV hX [.int q16.1] dX4_one_142 k_X4_88 v_X4_tell (m_X4_tell q16.1 q16.2 μ _ rfl) ⟨_, rfl⟩ fs_c4 ⟨rfl, rfl⟩ ⟨(Nat.le_of_ble_eq_true rfl), (Nat.le_of_ble_eq_true rfl)⟩ rfl rfl (Nat.le_of_ble_eq_true rfl) ?_
                  cases h
                  exact s_iret hX hR dX4_one_145
    · have h := (if_pos c2).symm.trans h
      refine s_ic hX (-1 : Int32) dX4_one_20 (by decide) ?_
      cases h
      exact s_iret hX hR dX4_one_21

-- X4_isOf
def F_X4_isOf (x0 : Int32) (x1 : Int32) : Int32 := if x0 = x1 then (1 : Int32) else if x0 = (4 : Int32) then if x1 = (1 : Int32) then (1 : Int32) else if x0 = (5 : Int32) then if x1 = (3 : Int32) then (1 : Int32) else (0 : Int32) else (0 : Int32) else if x0 = (5 : Int32) then if x1 = (3 : Int32) then (1 : Int32) else (0 : Int32) else (0 : Int32)
theorem z_X4_isOf (x0 : Int32) (x1 : Int32) : F_X4_isOf x0 x1 = 0 ∨ F_X4_isOf x0 x1 = 1 := by
  unfold F_X4_isOf
  (repeat' split) <;> first | exact Or.inl rfl | exact Or.inr rfl
set_option maxRecDepth 20000 in
set_option maxHeartbeats 40000000 in
theorem m_X4_isOf (x0 : Int32) (x1 : Int32)  (σ : fsS) (μ : fsL) (out : Int32) (h : F_X4_isOf x0 x1 = out) : fs_Met yX4_isOf cX4_isOf 2 (some .boolean) { frames := 0, cells := 0, slots := 0, locals := 0 } [.int x0, .int x1] σ μ (some (.int out)) σ μ := by
  unfold F_X4_isOf at h
  refine fs_intro (by decide +kernel) (Nat.le_of_ble_eq_true rfl) (fun X hX hR => ?_)
  show fs_PW X 0 [some (.int x0), some (.int x1)] [] σ μ
  refine s_iload_n hX dX4_isOf_0 rfl ?_
  refine s_iload_n hX dX4_isOf_1 rfl ?_
  refine s_ic_eq hX 25 dX4_isOf_2 (by decide) (fun c1 => ?_) (fun c1 => ?_)
  · have h := (if_pos c1).symm.trans h
    refine s_ic hX (1 : Int32) dX4_isOf_25 (by decide) ?_
    refine s_goto hX 30 dX4_isOf_26 (by decide) ?_
    subst h
    exact s_zret hX (Or.inr rfl) hR dX4_isOf_30
  · have h := (if_neg c1).symm.trans h
    refine s_iload_n hX dX4_isOf_5 rfl ?_
    refine s_ic hX (4 : Int32) dX4_isOf_6 (by decide) ?_
    refine s_ic_ne hX 15 dX4_isOf_7 (by decide) (fun c2 => ?_) (fun c2 => ?_)
    · have h := (if_neg c2).symm.trans h
      refine s_iload_n hX dX4_isOf_15 rfl ?_
      refine s_ic hX (5 : Int32) dX4_isOf_16 (by decide) ?_
      refine s_ic_ne hX 29 dX4_isOf_17 (by decide) (fun c3 => ?_) (fun c3 => ?_)
      · have h := (if_neg c3).symm.trans h
        refine s_ic hX (0 : Int32) dX4_isOf_29 (by decide) ?_
        subst h
        exact s_zret hX (Or.inl rfl) hR dX4_isOf_30
      · have h := (if_pos c3).symm.trans h
        refine s_iload_n hX dX4_isOf_20 rfl ?_
        refine s_ic hX (3 : Int32) dX4_isOf_21 (by decide) ?_
        refine s_ic_ne hX 29 dX4_isOf_22 (by decide) (fun c4 => ?_) (fun c4 => ?_)
        · have h := (if_neg c4).symm.trans h
          refine s_ic hX (0 : Int32) dX4_isOf_29 (by decide) ?_
          subst h
          exact s_zret hX (Or.inl rfl) hR dX4_isOf_30
        · have h := (if_pos c4).symm.trans h
          refine s_ic hX (1 : Int32) dX4_isOf_25 (by decide) ?_
          refine s_goto hX 30 dX4_isOf_26 (by decide) ?_
          subst h
          exact s_zret hX (Or.inr rfl) hR dX4_isOf_30
    · have h := (if_pos c2).symm.trans h
      refine s_iload_n hX dX4_isOf_10 rfl ?_
      refine s_ic hX (1 : Int32) dX4_isOf_11 (by decide) ?_
      refine s_ic_eq hX 25 dX4_isOf_12 (by decide) (fun c5 => ?_) (fun c5 => ?_)
      · have h := (if_pos c5).symm.trans h
        refine s_ic hX (1 : Int32) dX4_isOf_25 (by decide) ?_
        refine s_goto hX 30 dX4_isOf_26 (by decide) ?_
        subst h
        exact s_zret hX (Or.inr rfl) hR dX4_isOf_30
      · have h := (if_neg c5).symm.trans h
        refine s_iload_n hX dX4_isOf_15 rfl ?_
        refine s_ic hX (5 : Int32) dX4_isOf_16 (by decide) ?_
        refine s_ic_ne hX 29 dX4_isOf_17 (by decide) (fun c6 => ?_) (fun c6 => ?_)
        · have h := (if_neg c6).symm.trans h
          refine s_ic hX (0 : Int32) dX4_isOf_29 (by decide) ?_
          subst h
          exact s_zret hX (Or.inl rfl) hR dX4_isOf_30
        · have h := (if_pos c6).symm.trans h
          refine s_iload_n hX dX4_isOf_20 rfl ?_
          refine s_ic hX (3 : Int32) dX4_isOf_21 (by decide) ?_
          refine s_ic_ne hX 29 dX4_isOf_22 (by decide) (fun c7 => ?_) (fun c7 => ?_)
          · have h := (if_neg c7).symm.trans h
            refine s_ic hX (0 : Int32) dX4_isOf_29 (by decide) ?_
            subst h
            exact s_zret hX (Or.inl rfl) hR dX4_isOf_30
          · have h := (if_pos c7).symm.trans h
            refine s_ic hX (1 : Int32) dX4_isOf_25 (by decide) ?_
            refine s_goto hX 30 dX4_isOf_26 (by decide) ?_
            subst h
            exact s_zret hX (Or.inr rfl) hR dX4_isOf_30

-- X4_mark
def F_X4_mark (x1 : Int32) (x2 : Int32) (σ : fsS) : Option (Int32 × fsS) := if (F_X4_isOne x1 σ) = 0 then some ((-1 : Int32), σ) else if (F_X4_in (x2.toInt64) (1 : Int64) (5 : Int64)) = 0 then some ((-1 : Int32), σ) else fs_g (fs_in x1 6) (if (F_X4_isOf (σ 57 x1.toNatClampNeg) x2) = 0 then (F_X4_found (3 : Int32) σ).bind (fun q18 => some (q18.1, q18.2)) else fs_g (fs_in x1 6) ((F_X4_regardAs (σ 57 x1.toNatClampNeg) x1 σ).bind (fun q6 => if x2 = (4 : Int32) then (F_X4_regardAs (1 : Int32) x1 σ).bind (fun q15 => if x2 = (3 : Int32) then some ((q15 - q6), σ) else if x2 = (5 : Int32) then some ((q15 - q6), σ) else some ((q6 - q15), σ)) else if x2 = (5 : Int32) then (F_X4_regardAs (3 : Int32) x1 σ).bind (fun q12 => if x2 = (3 : Int32) then some ((q12 - q6), σ) else if x2 = (5 : Int32) then some ((q12 - q6), σ) else some ((q6 - q12), σ)) else (F_X4_regardAs (0 : Int32) x1 σ).bind (fun q9 => if x2 = (3 : Int32) then some ((q9 - q6), σ) else if x2 = (5 : Int32) then some ((q9 - q6), σ) else some ((q6 - q9), σ)))))
set_option maxRecDepth 20000 in
set_option maxHeartbeats 40000000 in
theorem m_X4_mark (x1 : Int32) (x2 : Int32)  (σ : fsS) (μ : fsL) (out : Int32 × fsS) (h : F_X4_mark x1 x2 σ = some out) : fs_Met yX4_mark cX4_mark 5 (some .int) { frames := 3, cells := 0, slots := 0, locals := 69 } [.ref 51, .int x1, .int x2] σ μ (some (.int out.1)) out.2 μ := by
  unfold F_X4_mark at h
  refine fs_intro (by decide +kernel) (Nat.le_of_ble_eq_true rfl) (fun X hX hR => ?_)
  show fs_PW X 0 [some (.ref 51), some (.int x1), some (.int x2), none, none] [] σ μ
  refine s_aload_n hX dX4_mark_0 rfl ?_
  refine s_iload_n hX dX4_mark_1 rfl ?_
  refine s_cV hX [.int x1] dX4_mark_2 k_X4_157 v_X4_isOne (m_X4_isOne x1 σ μ _ rfl) ⟨_, rfl⟩ fs_c4 ⟨rfl, rfl⟩ ⟨(Nat.le_of_ble_eq_true rfl), (Nat.le_of_ble_eq_true rfl)⟩ rfl rfl (Nat.le_of_ble_eq_true rfl) ?_
  refine s_if_eq hX 20 dX4_mark_5 (by decide) (fun c1 => ?_) (fun c1 => ?_)
  · have h := (if_pos c1).symm.trans h
    refine s_ic hX (-1 : Int32) dX4_mark_20 (by decide) ?_
    cases h
    exact s_iret hX hR dX4_mark_21
  · have h := (if_neg c1).symm.trans h
    refine s_iload_n hX dX4_mark_8 rfl ?_
    refine s_i2l hX dX4_mark_9 ?_
    refine s_lc hX (1 : Int64) dX4_mark_10 (by decide) ?_
    refine s_ldc2 hX (5 : Int64) dX4_mark_11 q_X4_72 ?_
    refine s_callS hX (as := [.long (x2.toInt64), .long (1 : Int64), .long (5 : Int64)]) dX4_mark_14 k_X4_74 v_X4_in (m_X4_in (x2.toInt64) (1 : Int64) (5 : Int64) σ μ _ rfl) ⟨rfl, rfl⟩ ⟨(Nat.le_of_ble_eq_true rfl), (Nat.le_of_ble_eq_true rfl)⟩ rfl rfl (Nat.le_of_ble_eq_true rfl) ?_
    refine s_if_ne hX 22 dX4_mark_17 (by decide) (fun c2 => ?_) (fun c2 => ?_)
    · have h := (if_neg c2).symm.trans h
      refine s_aload_n hX dX4_mark_22 rfl ?_
      refine s_getr hX dX4_mark_23 f_X4_29 rfl ?_
      refine s_iload_n hX dX4_mark_26 rfl ?_
      obtain ⟨g3, h⟩ := fs_gd h
      refine s_iald hX dX4_mark_27 g3 ?_
      refine s_iload_n hX dX4_mark_28 rfl ?_
      refine s_callS hX (as := [.int (σ 57 x1.toNatClampNeg), .int x2]) dX4_mark_29 k_X4_168 v_X4_isOf (m_X4_isOf (σ 57 x1.toNatClampNeg) x2 σ μ _ rfl) ⟨rfl, rfl⟩ ⟨(Nat.le_of_ble_eq_true rfl), (Nat.le_of_ble_eq_true rfl)⟩ rfl rfl (Nat.le_of_ble_eq_true rfl) ?_
      refine s_if_ne hX 41 dX4_mark_32 (by decide) (fun c4 => ?_) (fun c4 => ?_)
      · have h := (if_neg c4).symm.trans h
        refine s_aload_n hX dX4_mark_41 rfl ?_
        refine s_aload_n hX dX4_mark_42 rfl ?_
        refine s_getr hX dX4_mark_43 f_X4_29 rfl ?_
        refine s_iload_n hX dX4_mark_46 rfl ?_
        obtain ⟨g5, h⟩ := fs_gd h
        refine s_iald hX dX4_mark_47 g5 ?_
        refine s_iload_n hX dX4_mark_48 rfl ?_
        obtain ⟨q6, e6, h⟩ := fs_bind h
        refine s_cV hX [.int (σ 57 x1.toNatClampNeg), .int x1] dX4_mark_49 k_X4_162 v_X4_regardAs (m_X4_regardAs (σ 57 x1.toNatClampNeg) x1 σ μ q6 e6) ⟨_, rfl⟩ fs_c4 ⟨rfl, rfl⟩ ⟨(Nat.le_of_ble_eq_true rfl), (Nat.le_of_ble_eq_true rfl)⟩ rfl rfl (Nat.le_of_ble_eq_true rfl) ?_
        refine s_istore_n hX dX4_mark_52 (Nat.le_of_ble_eq_true rfl) ?_
        refine s_aload_n hX dX4_mark_53 rfl ?_
        refine s_iload_n hX dX4_mark_54 rfl ?_
        refine s_ic hX (4 : Int32) dX4_mark_55 (by decide) ?_
        refine s_ic_ne hX 63 dX4_mark_56 (by decide) (fun c7 => ?_) (fun c7 => ?_)
        · have h := (if_neg c7).symm.trans h
          refine s_iload_n hX dX4_mark_63 rfl ?_
          refine s_ic hX (5 : Int32) dX4_mark_64 (by decide) ?_
          refine s_ic_ne hX 72 dX4_mark_65 (by decide) (fun c8 => ?_) (fun c8 => ?_)
          · have h := (if_neg c8).symm.trans h
            refine s_ic hX (0 : Int32) dX4_mark_72 (by decide) ?_
            refine s_iload_n hX dX4_mark_73 rfl ?_
            obtain ⟨q9, e9, h⟩ := fs_bind h
            refine s_cV hX [.int (0 : Int32), .int x1] dX4_mark_74 k_X4_162 v_X4_regardAs (m_X4_regardAs (0 : Int32) x1 σ μ q9 e9) ⟨_, rfl⟩ fs_c4 ⟨rfl, rfl⟩ ⟨(Nat.le_of_ble_eq_true rfl), (Nat.le_of_ble_eq_true rfl)⟩ rfl rfl (Nat.le_of_ble_eq_true rfl) ?_
            refine s_istore hX dX4_mark_77 (Nat.le_of_ble_eq_true rfl) ?_
            refine s_iload_n hX dX4_mark_79 rfl ?_
            refine s_ic hX (3 : Int32) dX4_mark_80 (by decide) ?_
            refine s_ic_eq hX 89 dX4_mark_81 (by decide) (fun c10 => ?_) (fun c10 => ?_)
            · have h := (if_pos c10).symm.trans h
              refine s_iload hX dX4_mark_89 rfl ?_
              refine s_iload_n hX dX4_mark_91 rfl ?_
              refine s_isub hX dX4_mark_92 ?_
              refine s_goto hX 100 dX4_mark_93 (by decide) ?_
              cases h
              exact s_iret hX hR dX4_mark_100
            · have h := (if_neg c10).symm.trans h
              refine s_iload_n hX dX4_mark_84 rfl ?_
              refine s_ic hX (5 : Int32) dX4_mark_85 (by decide) ?_
              refine s_ic_ne hX 96 dX4_mark_86 (by decide) (fun c11 => ?_) (fun c11 => ?_)
              · have h := (if_neg c11).symm.trans h
                refine s_iload_n hX dX4_mark_96 rfl ?_
                refine s_iload hX dX4_mark_97 rfl ?_
                refine s_isub hX dX4_mark_99 ?_
                cases h
                exact s_iret hX hR dX4_mark_100
              · have h := (if_pos c11).symm.trans h
                refine s_iload hX dX4_mark_89 rfl ?_
                refine s_iload_n hX dX4_mark_91 rfl ?_
                refine s_isub hX dX4_mark_92 ?_
                refine s_goto hX 100 dX4_mark_93 (by decide) ?_
                cases h
                exact s_iret hX hR dX4_mark_100
          · have h := (if_pos c8).symm.trans h
            refine s_ic hX (3 : Int32) dX4_mark_68 (by decide) ?_
            refine s_goto hX 73 dX4_mark_69 (by decide) ?_
            refine s_iload_n hX dX4_mark_73 rfl ?_
            obtain ⟨q12, e12, h⟩ := fs_bind h
            refine s_cV hX [.int (3 : Int32), .int x1] dX4_mark_74 k_X4_162 v_X4_regardAs (m_X4_regardAs (3 : Int32) x1 σ μ q12 e12) ⟨_, rfl⟩ fs_c4 ⟨rfl, rfl⟩ ⟨(Nat.le_of_ble_eq_true rfl), (Nat.le_of_ble_eq_true rfl)⟩ rfl rfl (Nat.le_of_ble_eq_true rfl) ?_
            refine s_istore hX dX4_mark_77 (Nat.le_of_ble_eq_true rfl) ?_
            refine s_iload_n hX dX4_mark_79 rfl ?_
            refine s_ic hX (3 : Int32) dX4_mark_80 (by decide) ?_
            refine s_ic_eq hX 89 dX4_mark_81 (by decide) (fun c13 => ?_) (fun c13 => ?_)
            · have h := (if_pos c13).symm.trans h
              refine s_iload hX dX4_mark_89 rfl ?_
              refine s_iload_n hX dX4_mark_91 rfl ?_
              refine s_isub hX dX4_mark_92 ?_
              refine s_goto hX 100 dX4_mark_93 (by decide) ?_
              cases h
              exact s_iret hX hR dX4_mark_100
            · have h := (if_neg c13).symm.trans h
              refine s_iload_n hX dX4_mark_84 rfl ?_
              refine s_ic hX (5 : Int32) dX4_mark_85 (by decide) ?_
              refine s_ic_ne hX 96 dX4_mark_86 (by decide) (fun c14 => ?_) (fun c14 => ?_)
              · have h := (if_neg c14).symm.trans h
                refine s_iload_n hX dX4_mark_96 rfl ?_
                refine s_iload hX dX4_mark_97 rfl ?_
                refine s_isub hX dX4_mark_99 ?_
                cases h
                exact s_iret hX hR dX4_mark_100
              · have h := (if_pos c14).symm.trans h
                refine s_iload hX dX4_mark_89 rfl ?_
                refine s_iload_n hX dX4_mark_91 rfl ?_
                refine s_isub hX dX4_mark_92 ?_
                refine s_goto hX 100 dX4_mark_93 (by decide) ?_
                cases h
                exact s_iret hX hR dX4_mark_100
        · have h := (if_pos c7).symm.trans h
          refine s_ic hX (1 : Int32) dX4_mark_59 (by decide) ?_
          refine s_goto hX 73 dX4_mark_60 (by decide) ?_
          refine s_iload_n hX dX4_mark_73 rfl ?_
          obtain ⟨q15, e15, h⟩ := fs_bind h
          refine s_cV hX [.int (1 : Int32), .int x1] dX4_mark_74 k_X4_162 v_X4_regardAs (m_X4_regardAs (1 : Int32) x1 σ μ q15 e15) ⟨_, rfl⟩ fs_c4 ⟨rfl, rfl⟩ ⟨(Nat.le_of_ble_eq_true rfl), (Nat.le_of_ble_eq_true rfl)⟩ rfl rfl (Nat.le_of_ble_eq_true rfl) ?_
          refine s_istore hX dX4_mark_77 (Nat.le_of_ble_eq_true rfl) ?_
          refine s_iload_n hX dX4_mark_79 rfl ?_
          refine s_ic hX (3 : Int32) dX4_mark_80 (by decide) ?_
          refine s_ic_eq hX 89 dX4_mark_81 (by decide) (fun c16 => ?_) (fun c16 => ?_)
          · have h := (if_pos c16).symm.trans h
            refine s_iload hX dX4_mark_89 rfl ?_
            refine s_iload_n hX dX4_mark_91 rfl ?_
            refine s_isub hX dX4_mark_92 ?_
            refine s_goto hX 100 dX4_mark_93 (by decide) ?_
            cases h
            exact s_iret hX hR dX4_mark_100
          · have h := (if_neg c16).symm.trans h
            refine s_iload_n hX dX4_mark_84 rfl ?_
            refine s_ic hX (5 : Int32) dX4_mark_85 (by decide) ?_
            refine s_ic_ne hX 96 dX4_mark_86 (by decide) (fun c17 => ?_) (fun c17 => ?_)
            · have h := (if_neg c17).symm.trans h
              refine s_iload_n hX dX4_mark_96 rfl ?_
              refine s_iload hX dX4_mark_97 rfl ?_
              refine s_isub hX dX4_mark_99 ?_
              cases h
              exact s_iret hX hR dX4_mark_100
            · have h := (if_pos c17).symm.trans h
              refine s_iload hX dX4_mark_89 rfl ?_
              refine s_iload_n hX dX4_mark_91 rfl ?_
              refine s_isub hX dX4_mark_92 ?_
              refine s_goto hX 100 dX4_mark_93 (by decide) ?_
              cases h
              exact s_iret hX hR dX4_mark_100
      · have h := (if_pos c4).symm.trans h
        refine s_aload_n hX dX4_mark_35 rfl ?_
        refine s_ic hX (3 : Int32) dX4_mark_36 (by decide) ?_
        obtain ⟨q18, e18, h⟩ := fs_bind h
        refine s_cV hX [.int (3 : Int32)] dX4_mark_37 k_X4_84 v_X4_found (m_X4_found (3 : Int32) σ μ q18 e18) ⟨_, rfl⟩ fs_c4 ⟨rfl, rfl⟩ ⟨(Nat.le_of_ble_eq_true rfl), (Nat.le_of_ble_eq_true rfl)⟩ rfl rfl (Nat.le_of_ble_eq_true rfl) ?_
        cases h
        exact s_iret hX hR dX4_mark_40
    · have h := (if_pos c2).symm.trans h
      refine s_ic hX (-1 : Int32) dX4_mark_20 (by decide) ?_
      cases h
      exact s_iret hX hR dX4_mark_21

-- X4_regard
def F_X4_regard (x1 : Int32) (x2 : Int32) (x3 : Int32) (σ : fsS) : Option (Int32) := if (F_X4_isOne x1 σ) = 0 then some (-1 : Int32) else if (F_X4_in (x2.toInt64) (0 : Int64) (3 : Int64)) = 0 then some (-1 : Int32) else if (F_X4_in (x3.toInt64) (0 : Int64) (99 : Int64)) = 0 then some (-1 : Int32) else fs_g (fs_in x1 6) (fs_g (fs_in x1 6) (some (F_X4_regardBy (σ 57 x1.toNatClampNeg) (σ 58 x1.toNatClampNeg) x2 x3)))
set_option maxRecDepth 20000 in
set_option maxHeartbeats 40000000 in
theorem m_X4_regard (x1 : Int32) (x2 : Int32) (x3 : Int32)  (σ : fsS) (μ : fsL) (out : Int32) (h : F_X4_regard x1 x2 x3 σ = some out) : fs_Met yX4_regard cX4_regard 4 (some .int) { frames := 2, cells := 0, slots := 0, locals := 47 } [.ref 51, .int x1, .int x2, .int x3] σ μ (some (.int out)) σ μ := by
  unfold F_X4_regard at h
  refine fs_intro (by decide +kernel) (Nat.le_of_ble_eq_true rfl) (fun X hX hR => ?_)
  show fs_PW X 0 [some (.ref 51), some (.int x1), some (.int x2), some (.int x3)] [] σ μ
  refine s_aload_n hX dX4_regard_0 rfl ?_
  refine s_iload_n hX dX4_regard_1 rfl ?_
  refine s_cV hX [.int x1] dX4_regard_2 k_X4_157 v_X4_isOne (m_X4_isOne x1 σ μ _ rfl) ⟨_, rfl⟩ fs_c4 ⟨rfl, rfl⟩ ⟨(Nat.le_of_ble_eq_true rfl), (Nat.le_of_ble_eq_true rfl)⟩ rfl rfl (Nat.le_of_ble_eq_true rfl) ?_
  refine s_if_eq hX 52 dX4_regard_5 (by decide) (fun c1 => ?_) (fun c1 => ?_)
  · have h := (if_pos c1).symm.trans h
    refine s_ic hX (-1 : Int32) dX4_regard_52 (by decide) ?_
    cases h
    exact s_iret hX hR dX4_regard_53
  · have h := (if_neg c1).symm.trans h
    refine s_iload_n hX dX4_regard_8 rfl ?_
    refine s_i2l hX dX4_regard_9 ?_
    refine s_lc hX (0 : Int64) dX4_regard_10 (by decide) ?_
    refine s_ldc2 hX (3 : Int64) dX4_regard_11 q_X4_78 ?_
    refine s_callS hX (as := [.long (x2.toInt64), .long (0 : Int64), .long (3 : Int64)]) dX4_regard_14 k_X4_74 v_X4_in (m_X4_in (x2.toInt64) (0 : Int64) (3 : Int64) σ μ _ rfl) ⟨rfl, rfl⟩ ⟨(Nat.le_of_ble_eq_true rfl), (Nat.le_of_ble_eq_true rfl)⟩ rfl rfl (Nat.le_of_ble_eq_true rfl) ?_
    refine s_if_eq hX 52 dX4_regard_17 (by decide) (fun c2 => ?_) (fun c2 => ?_)
    · have h := (if_pos c2).symm.trans h
      refine s_ic hX (-1 : Int32) dX4_regard_52 (by decide) ?_
      cases h
      exact s_iret hX hR dX4_regard_53
    · have h := (if_neg c2).symm.trans h
      refine s_iload_n hX dX4_regard_20 rfl ?_
      refine s_i2l hX dX4_regard_21 ?_
      refine s_lc hX (0 : Int64) dX4_regard_22 (by decide) ?_
      refine s_ldc2 hX (99 : Int64) dX4_regard_23 q_X4_172 ?_
      refine s_callS hX (as := [.long (x3.toInt64), .long (0 : Int64), .long (99 : Int64)]) dX4_regard_26 k_X4_74 v_X4_in (m_X4_in (x3.toInt64) (0 : Int64) (99 : Int64) σ μ _ rfl) ⟨rfl, rfl⟩ ⟨(Nat.le_of_ble_eq_true rfl), (Nat.le_of_ble_eq_true rfl)⟩ rfl rfl (Nat.le_of_ble_eq_true rfl) ?_
      refine s_if_eq hX 52 dX4_regard_29 (by decide) (fun c3 => ?_) (fun c3 => ?_)
      · have h := (if_pos c3).symm.trans h
        refine s_ic hX (-1 : Int32) dX4_regard_52 (by decide) ?_
        cases h
        exact s_iret hX hR dX4_regard_53
      · have h := (if_neg c3).symm.trans h
        refine s_aload_n hX dX4_regard_32 rfl ?_
        refine s_getr hX dX4_regard_33 f_X4_29 rfl ?_
        refine s_iload_n hX dX4_regard_36 rfl ?_
        obtain ⟨g4, h⟩ := fs_gd h
        refine s_iald hX dX4_regard_37 g4 ?_
        refine s_aload_n hX dX4_regard_38 rfl ?_
        refine s_getr hX dX4_regard_39 f_X4_32 rfl ?_
        refine s_iload_n hX dX4_regard_42 rfl ?_
        obtain ⟨g5, h⟩ := fs_gd h
        refine s_iald hX dX4_regard_43 g5 ?_
        refine s_iload_n hX dX4_regard_44 rfl ?_
        refine s_iload_n hX dX4_regard_45 rfl ?_
        refine s_callS hX (as := [.int (σ 57 x1.toNatClampNeg), .int (σ 58 x1.toNatClampNeg), .int x2, .int x3]) dX4_regard_46 k_X4_146 v_X4_regardBy (m_X4_regardBy (σ 57 x1.toNatClampNeg) (σ 58 x1.toNatClampNeg) x2 x3 σ μ _ rfl) ⟨rfl, rfl⟩ ⟨(Nat.le_of_ble_eq_true rfl), (Nat.le_of_ble_eq_true rfl)⟩ rfl rfl (Nat.le_of_ble_eq_true rfl) ?_
        refine s_goto hX 53 dX4_regard_49 (by decide) ?_
        cases h
        exact s_iret hX hR dX4_regard_53

-- X4_refuses
def F_X4_refuses (x1 : Int32) (σ : fsS) : Int32 := if (σ 51 9) = 0 then (-4 : Int32) else if ((σ 51 17) + x1) ≤ (40 : Int32) then (0 : Int32) else (-2 : Int32)
set_option maxRecDepth 20000 in
set_option maxHeartbeats 40000000 in
theorem m_X4_refuses (x1 : Int32)  (σ : fsS) (μ : fsL) (out : Int32) (h : F_X4_refuses x1 σ = out) : fs_Met yX4_refuses cX4_refuses 2 (some .int) { frames := 0, cells := 0, slots := 0, locals := 0 } [.ref 51, .int x1] σ μ (some (.int out)) σ μ := by
  unfold F_X4_refuses at h
  refine fs_intro (by decide +kernel) (Nat.le_of_ble_eq_true rfl) (fun X hX hR => ?_)
  show fs_PW X 0 [some (.ref 51), some (.int x1)] [] σ μ
  refine s_aload_n hX dX4_refuses_0 rfl ?_
  refine s_geti hX dX4_refuses_1 f_X4_136 rfl ?_
  refine s_if_ne hX 12 dX4_refuses_4 (by decide) (fun c1 => ?_) (fun c1 => ?_)
  · have h := (if_neg c1).symm.trans h
    refine s_aload_n hX dX4_refuses_12 rfl ?_
    refine s_geti hX dX4_refuses_13 f_X4_94 rfl ?_
    refine s_iload_n hX dX4_refuses_16 rfl ?_
    refine s_iadd hX dX4_refuses_17 ?_
    refine s_bi hX (40 : Int32) dX4_refuses_18 (by decide) ?_
    refine s_ic_le hX 28 dX4_refuses_20 (by decide) (fun c2 => ?_) (fun c2 => ?_)
    · have h := (if_pos c2).symm.trans h
      refine s_ic hX (0 : Int32) dX4_refuses_28 (by decide) ?_
      subst h
      exact s_iret hX hR dX4_refuses_29
    · have h := (if_neg c2).symm.trans h
      refine s_bi hX (-2 : Int32) dX4_refuses_23 (by decide) ?_
      refine s_goto hX 29 dX4_refuses_25 (by decide) ?_
      subst h
      exact s_iret hX hR dX4_refuses_29
  · have h := (if_pos c1).symm.trans h
    refine s_bi hX (-4 : Int32) dX4_refuses_7 (by decide) ?_
    refine s_goto hX 29 dX4_refuses_9 (by decide) ?_
    subst h
    exact s_iret hX hR dX4_refuses_29

-- X4_remember
def F_X4_remember (σ : fsS) : Option (fsS) := (F_X4_copies 60 (0 : Int32) 63 ((13 : Int32) * (σ 51 17)) (13 : Int32) σ).bind (fun q1 => some (fs_u q1 51 17 ((q1 51 17) + (1 : Int32))))
set_option maxRecDepth 20000 in
set_option maxHeartbeats 40000000 in
theorem m_X4_remember   (σ : fsS) (μ : fsL) (out : fsS) (h : F_X4_remember  σ = some out) : fs_Met yX4_remember cX4_remember 1 none { frames := 1, cells := 0, slots := 0, locals := 25 } [.ref 51] σ μ none out μ := by
  unfold F_X4_remember at h
  refine fs_intro (by decide +kernel) (Nat.le_of_ble_eq_true rfl) (fun X hX hR => ?_)
  show fs_PW X 0 [some (.ref 51)] [] σ μ
  refine s_aload_n hX dX4_remember_0 rfl ?_
  refine s_getr hX dX4_remember_1 f_X4_38 rfl ?_
  refine s_ic hX (0 : Int32) dX4_remember_4 (by decide) ?_
  refine s_aload_n hX dX4_remember_5 rfl ?_
  refine s_getr hX dX4_remember_6 f_X4_47 rfl ?_
  refine s_bi hX (13 : Int32) dX4_remember_9 (by decide) ?_
  refine s_aload_n hX dX4_remember_11 rfl ?_
  refine s_geti hX dX4_remember_12 f_X4_94 rfl ?_
  refine s_imul hX dX4_remember_15 ?_
  refine s_bi hX (13 : Int32) dX4_remember_16 (by decide) ?_
  obtain ⟨q1, e1, h⟩ := fs_bind h
  refine s_callS hX (as := [.ref 60, .int (0 : Int32), .ref 63, .int ((13 : Int32) * (σ 51 17)), .int (13 : Int32)]) dX4_remember_18 k_X4_174 v_X4_copies (m_X4_copies 60 (0 : Int32) 63 ((13 : Int32) * (σ 51 17)) (13 : Int32) σ μ q1 e1) ⟨rfl, rfl⟩ ⟨(Nat.le_of_ble_eq_true rfl), (Nat.le_of_ble_eq_true rfl)⟩ rfl rfl (Nat.le_of_ble_eq_true rfl) ?_
  refine s_aload_n hX dX4_remember_21 rfl ?_
  refine s_dup hX dX4_remember_22 rfl ?_
  refine s_geti hX dX4_remember_23 f_X4_94 rfl ?_
  refine s_ic hX (1 : Int32) dX4_remember_26 (by decide) ?_
  refine s_iadd hX dX4_remember_27 ?_
  refine s_puti hX dX4_remember_28 p_X4_94 rfl ?_
  cases h
  exact s_vret hX hR dX4_remember_31

-- X4_quarter
def F_X4_quarter (σ : fsS) : Option (Int32 × fsS) := if (σ 51 9) = 0 then some ((-4 : Int32), σ) else if (σ 60 0) = (99 : Int32) then some ((-4 : Int32), σ) else if (σ 51 17) = (40 : Int32) then some ((-2 : Int32), σ) else (F_X4_remember  σ).bind (fun q4 => (F_X4_goes 60 q4).bind (fun q5 => some (q5.1, q5.2)))
set_option maxRecDepth 20000 in
set_option maxHeartbeats 40000000 in
theorem m_X4_quarter   (σ : fsS) (μ : fsL) (out : Int32 × fsS) (h : F_X4_quarter  σ = some out) : fs_Met yX4_quarter cX4_quarter 1 (some .int) { frames := 4, cells := 0, slots := 0, locals := 93 } [.ref 51] σ μ (some (.int out.1)) out.2 μ := by
  unfold F_X4_quarter at h
  refine fs_intro (by decide +kernel) (Nat.le_of_ble_eq_true rfl) (fun X hX hR => ?_)
  show fs_PW X 0 [some (.ref 51)] [] σ μ
  refine s_aload_n hX dX4_quarter_0 rfl ?_
  refine s_geti hX dX4_quarter_1 f_X4_136 rfl ?_
  refine s_if_eq hX 18 dX4_quarter_4 (by decide) (fun c1 => ?_) (fun c1 => ?_)
  · have h := (if_pos c1).symm.trans h
    refine s_bi hX (-4 : Int32) dX4_quarter_18 (by decide) ?_
    cases h
    exact s_iret hX hR dX4_quarter_20
  · have h := (if_neg c1).symm.trans h
    refine s_aload_n hX dX4_quarter_7 rfl ?_
    refine s_getr hX dX4_quarter_8 f_X4_38 rfl ?_
    refine s_ic hX (0 : Int32) dX4_quarter_11 (by decide) ?_
    refine s_iald hX dX4_quarter_12 (show fs_in (0 : Int32) 13 by decide) ?_
    refine s_bi hX (99 : Int32) dX4_quarter_13 (by decide) ?_
    refine s_ic_ne hX 21 dX4_quarter_15 (by decide) (fun c2 => ?_) (fun c2 => ?_)
    · have h := (if_neg c2).symm.trans h
      refine s_aload_n hX dX4_quarter_21 rfl ?_
      refine s_geti hX dX4_quarter_22 f_X4_94 rfl ?_
      refine s_bi hX (40 : Int32) dX4_quarter_25 (by decide) ?_
      refine s_ic_ne hX 33 dX4_quarter_27 (by decide) (fun c3 => ?_) (fun c3 => ?_)
      · have h := (if_neg c3).symm.trans h
        refine s_aload_n hX dX4_quarter_33 rfl ?_
        obtain ⟨q4, e4, h⟩ := fs_bind h
        refine s_cV hX [] dX4_quarter_34 k_X4_178 v_X4_remember (m_X4_remember σ μ q4 e4) ⟨_, rfl⟩ fs_c4 ⟨rfl, rfl⟩ ⟨(Nat.le_of_ble_eq_true rfl), (Nat.le_of_ble_eq_true rfl)⟩ rfl rfl (Nat.le_of_ble_eq_true rfl) ?_
        refine s_aload_n hX dX4_quarter_37 rfl ?_
        refine s_aload_n hX dX4_quarter_38 rfl ?_
        refine s_getr hX dX4_quarter_39 f_X4_38 rfl ?_
        obtain ⟨q5, e5, h⟩ := fs_bind h
        refine s_cV hX [.ref 60] dX4_quarter_42 k_X4_181 v_X4_goes (m_X4_goes 60 q4 μ q5 e5) ⟨_, rfl⟩ fs_c4 ⟨rfl, rfl⟩ ⟨(Nat.le_of_ble_eq_true rfl), (Nat.le_of_ble_eq_true rfl)⟩ rfl rfl (Nat.le_of_ble_eq_true rfl) ?_
        cases h
        exact s_iret hX hR dX4_quarter_45
      · have h := (if_pos c3).symm.trans h
        refine s_bi hX (-2 : Int32) dX4_quarter_30 (by decide) ?_
        cases h
        exact s_iret hX hR dX4_quarter_32
    · have h := (if_pos c2).symm.trans h
      refine s_bi hX (-4 : Int32) dX4_quarter_18 (by decide) ?_
      cases h
      exact s_iret hX hR dX4_quarter_20

-- X4_soot
def F_X4_soot (x1 : Int32) (σ : fsS) : Option (Int32 × fsS) := if (F_X4_isOne x1 σ) = 0 then some ((-1 : Int32), σ) else fs_g (fs_in ((7 : Int32) + x1) 13) (if (σ 60 ((7 : Int32) + x1).toNatClampNeg) = (3 : Int32) then some ((-4 : Int32), σ) else if (σ 51 17) = (40 : Int32) then some ((-2 : Int32), σ) else (F_X4_remember  σ).bind (fun q5 => fs_g (fs_in ((7 : Int32) + x1) 13) (fs_g (fs_in ((7 : Int32) + x1) 13) (fs_g (fs_in ((7 : Int32) + x1) 13) (some (((fs_u q5 60 ((7 : Int32) + x1).toNatClampNeg ((q5 60 ((7 : Int32) + x1).toNatClampNeg) + (1 : Int32))) 60 ((7 : Int32) + x1).toNatClampNeg), (fs_u q5 60 ((7 : Int32) + x1).toNatClampNeg ((q5 60 ((7 : Int32) + x1).toNatClampNeg) + (1 : Int32)))))))))
set_option maxRecDepth 20000 in
set_option maxHeartbeats 40000000 in
theorem m_X4_soot (x1 : Int32)  (σ : fsS) (μ : fsL) (out : Int32 × fsS) (h : F_X4_soot x1 σ = some out) : fs_Met yX4_soot cX4_soot 2 (some .int) { frames := 2, cells := 0, slots := 0, locals := 46 } [.ref 51, .int x1] σ μ (some (.int out.1)) out.2 μ := by
  unfold F_X4_soot at h
  refine fs_intro (by decide +kernel) (Nat.le_of_ble_eq_true rfl) (fun X hX hR => ?_)
  show fs_PW X 0 [some (.ref 51), some (.int x1)] [] σ μ
  refine s_aload_n hX dX4_soot_0 rfl ?_
  refine s_iload_n hX dX4_soot_1 rfl ?_
  refine s_cV hX [.int x1] dX4_soot_2 k_X4_157 v_X4_isOne (m_X4_isOne x1 σ μ _ rfl) ⟨_, rfl⟩ fs_c4 ⟨rfl, rfl⟩ ⟨(Nat.le_of_ble_eq_true rfl), (Nat.le_of_ble_eq_true rfl)⟩ rfl rfl (Nat.le_of_ble_eq_true rfl) ?_
  refine s_if_ne hX 10 dX4_soot_5 (by decide) (fun c1 => ?_) (fun c1 => ?_)
  · have h := (if_neg c1).symm.trans h
    refine s_aload_n hX dX4_soot_10 rfl ?_
    refine s_getr hX dX4_soot_11 f_X4_38 rfl ?_
    refine s_bi hX (7 : Int32) dX4_soot_14 (by decide) ?_
    refine s_iload_n hX dX4_soot_16 rfl ?_
    refine s_iadd hX dX4_soot_17 ?_
    obtain ⟨g2, h⟩ := fs_gd h
    refine s_iald hX dX4_soot_18 g2 ?_
    refine s_ic hX (3 : Int32) dX4_soot_19 (by decide) ?_
    refine s_ic_ne hX 26 dX4_soot_20 (by decide) (fun c3 => ?_) (fun c3 => ?_)
    · have h := (if_neg c3).symm.trans h
      refine s_aload_n hX dX4_soot_26 rfl ?_
      refine s_geti hX dX4_soot_27 f_X4_94 rfl ?_
      refine s_bi hX (40 : Int32) dX4_soot_30 (by decide) ?_
      refine s_ic_ne hX 38 dX4_soot_32 (by decide) (fun c4 => ?_) (fun c4 => ?_)
      · have h := (if_neg c4).symm.trans h
        refine s_aload_n hX dX4_soot_38 rfl ?_
        obtain ⟨q5, e5, h⟩ := fs_bind h
        refine s_cV hX [] dX4_soot_39 k_X4_178 v_X4_remember (m_X4_remember σ μ q5 e5) ⟨_, rfl⟩ fs_c4 ⟨rfl, rfl⟩ ⟨(Nat.le_of_ble_eq_true rfl), (Nat.le_of_ble_eq_true rfl)⟩ rfl rfl (Nat.le_of_ble_eq_true rfl) ?_
        refine s_aload_n hX dX4_soot_42 rfl ?_
        refine s_getr hX dX4_soot_43 f_X4_38 rfl ?_
        refine s_bi hX (7 : Int32) dX4_soot_46 (by decide) ?_
        refine s_iload_n hX dX4_soot_48 rfl ?_
        refine s_iadd hX dX4_soot_49 ?_
        refine s_dup2 hX dX4_soot_50 rfl rfl ?_
        obtain ⟨g6, h⟩ := fs_gd h
        refine s_iald hX dX4_soot_51 g6 ?_
        refine s_ic hX (1 : Int32) dX4_soot_52 (by decide) ?_
        refine s_iadd hX dX4_soot_53 ?_
        obtain ⟨g7, h⟩ := fs_gd h
        refine s_iast hX dX4_soot_54 g7 ?_
        refine s_aload_n hX dX4_soot_55 rfl ?_
        refine s_getr hX dX4_soot_56 f_X4_38 rfl ?_
        refine s_bi hX (7 : Int32) dX4_soot_59 (by decide) ?_
        refine s_iload_n hX dX4_soot_61 rfl ?_
        refine s_iadd hX dX4_soot_62 ?_
        obtain ⟨g8, h⟩ := fs_gd h
        refine s_iald hX dX4_soot_63 g8 ?_
        cases h
        exact s_iret hX hR dX4_soot_64
      · have h := (if_pos c4).symm.trans h
        refine s_bi hX (-2 : Int32) dX4_soot_35 (by decide) ?_
        cases h
        exact s_iret hX hR dX4_soot_37
    · have h := (if_pos c3).symm.trans h
      refine s_bi hX (-4 : Int32) dX4_soot_23 (by decide) ?_
      cases h
      exact s_iret hX hR dX4_soot_25
  · have h := (if_pos c1).symm.trans h
    refine s_ic hX (-1 : Int32) dX4_soot_8 (by decide) ?_
    cases h
    exact s_iret hX hR dX4_soot_9
