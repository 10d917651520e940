-- X3_bestForSecond
def F_X3_bestForSecond (x1 : Int32) (σ : fsS) : Option (Int32) := fs_g (fs_in x1 16) (fs_g (fs_in (F_X3_duelWay (x1 / (4 : Int32)) (0 : Int32)) 16) (fs_g (fs_in (F_X3_duelWay (x1 / (4 : Int32)) (if (3 : Int32) < ((x1 - x1 / (4 : Int32) * (4 : Int32)) + (1 : Int32)) then (3 : Int32) else ((x1 - x1 / (4 : Int32) * (4 : Int32)) + (1 : Int32)))) 16) (some (if (σ 8 (F_X3_duelWay (x1 / (4 : Int32)) (if (3 : Int32) < ((x1 - x1 / (4 : Int32) * (4 : Int32)) + (1 : Int32)) then (3 : Int32) else ((x1 - x1 / (4 : Int32) * (4 : Int32)) + (1 : Int32)))).toNatClampNeg) < (if (σ 8 (F_X3_duelWay (x1 / (4 : Int32)) (0 : Int32)).toNatClampNeg) < (σ 8 x1.toNatClampNeg) then (σ 8 (F_X3_duelWay (x1 / (4 : Int32)) (0 : Int32)).toNatClampNeg) else (σ 8 x1.toNatClampNeg)) then (σ 8 (F_X3_duelWay (x1 / (4 : Int32)) (if (3 : Int32) < ((x1 - x1 / (4 : Int32) * (4 : Int32)) + (1 : Int32)) then (3 : Int32) else ((x1 - x1 / (4 : Int32) * (4 : Int32)) + (1 : Int32)))).toNatClampNeg) else (if (σ 8 (F_X3_duelWay (x1 / (4 : Int32)) (0 : Int32)).toNatClampNeg) < (σ 8 x1.toNatClampNeg) then (σ 8 (F_X3_duelWay (x1 / (4 : Int32)) (0 : Int32)).toNatClampNeg) else (σ 8 x1.toNatClampNeg))))))
set_option maxRecDepth 20000 in
set_option maxHeartbeats 40000000 in
theorem m_X3_bestForSecond (x1 : Int32)  (σ : fsS) (μ : fsL) (out : Int32) (h : F_X3_bestForSecond x1 σ = some out) : fs_Met yX3_bestForSecond cX3_bestForSecond 6 (some .int) { frames := 1, cells := 0, slots := 0, locals := 21 } [.ref 0, .int x1] σ μ (some (.int out)) σ μ := by
  unfold F_X3_bestForSecond at h
  refine fs_intro (by decide +kernel) (Nat.le_of_ble_eq_true rfl) (fun X hX hR => ?_)
  show fs_PW X 0 [some (.ref 0), some (.int x1), none, none, none, none] [] σ μ
  refine s_iload_n hX dX3_bestForSecond_0 rfl ?_
  refine s_ic hX (4 : Int32) dX3_bestForSecond_1 (by decide) ?_
  refine s_idiv hX dX3_bestForSecond_2 (by decide) ?_
  refine s_istore_n hX dX3_bestForSecond_3 (Nat.le_of_ble_eq_true rfl) ?_
  refine s_iload_n hX dX3_bestForSecond_4 rfl ?_
  refine s_ic hX (4 : Int32) dX3_bestForSecond_5 (by decide) ?_
  refine s_irem hX dX3_bestForSecond_6 (by decide) ?_
  refine s_istore_n hX dX3_bestForSecond_7 (Nat.le_of_ble_eq_true rfl) ?_
  refine s_iload_n hX dX3_bestForSecond_8 rfl ?_
  refine s_ic hX (1 : Int32) dX3_bestForSecond_9 (by decide) ?_
  refine s_iadd hX dX3_bestForSecond_10 ?_
  refine s_ic hX (3 : Int32) dX3_bestForSecond_11 (by decide) ?_
  refine s_mmin hX dX3_bestForSecond_12 k_X3_332 rfl (Nat.le_of_ble_eq_true rfl) (Nat.le_of_ble_eq_true rfl) ?_
  refine s_istore hX dX3_bestForSecond_15 (Nat.le_of_ble_eq_true rfl) ?_
  refine s_aload_n hX dX3_bestForSecond_17 rfl ?_
  refine s_getr hX dX3_bestForSecond_18 f_X3_39 rfl ?_
  refine s_iload_n hX dX3_bestForSecond_21 rfl ?_
  obtain ⟨g1, h⟩ := fs_gd h
  refine s_iald hX dX3_bestForSecond_22 g1 ?_
  refine s_aload_n hX dX3_bestForSecond_23 rfl ?_
  refine s_getr hX dX3_bestForSecond_24 f_X3_39 rfl ?_
  refine s_iload_n hX dX3_bestForSecond_27 rfl ?_
  refine s_ic hX (0 : Int32) dX3_bestForSecond_28 (by decide) ?_
  refine s_callS hX (as := [.int (x1 / (4 : Int32)), .int (0 : Int32)]) dX3_bestForSecond_29 k_X3_253 v_X3_duelWay (m_X3_duelWay (x1 / (4 : Int32)) (0 : Int32) σ μ _ rfl) ⟨rfl, rfl⟩ ⟨(Nat.le_of_ble_eq_true rfl), (Nat.le_of_ble_eq_true rfl)⟩ rfl rfl (Nat.le_of_ble_eq_true rfl) ?_
  obtain ⟨g2, h⟩ := fs_gd h
  refine s_iald hX dX3_bestForSecond_32 g2 ?_
  refine s_mmin hX dX3_bestForSecond_33 k_X3_332 rfl (Nat.le_of_ble_eq_true rfl) (Nat.le_of_ble_eq_true rfl) ?_
  refine s_istore hX dX3_bestForSecond_36 (Nat.le_of_ble_eq_true rfl) ?_
  refine s_iload hX dX3_bestForSecond_38 rfl ?_
  refine s_aload_n hX dX3_bestForSecond_40 rfl ?_
  refine s_getr hX dX3_bestForSecond_41 f_X3_39 rfl ?_
  refine s_iload_n hX dX3_bestForSecond_44 rfl ?_
  refine s_iload hX dX3_bestForSecond_45 rfl ?_
  refine s_callS hX (as := [.int (x1 / (4 : Int32)), .int (if (3 : Int32) < ((x1 - x1 / (4 : Int32) * (4 : Int32)) + (1 : Int32)) then (3 : Int32) else ((x1 - x1 / (4 : Int32) * (4 : Int32)) + (1 : Int32)))]) dX3_bestForSecond_47 k_X3_253 v_X3_duelWay (m_X3_duelWay (x1 / (4 : Int32)) (if (3 : Int32) < ((x1 - x1 / (4 : Int32) * (4 : Int32)) + (1 : Int32)) then (3 : Int32) else ((x1 - x1 / (4 : Int32) * (4 : Int32)) + (1 : Int32))) σ μ _ rfl) ⟨rfl, rfl⟩ ⟨(Nat.le_of_ble_eq_true rfl), (Nat.le_of_ble_eq_true rfl)⟩ rfl rfl (Nat.le_of_ble_eq_true rfl) ?_
  obtain ⟨g3, h⟩ := fs_gd h
  refine s_iald hX dX3_bestForSecond_50 g3 ?_
  refine s_mmin hX dX3_bestForSecond_51 k_X3_332 rfl (Nat.le_of_ble_eq_true rfl) (Nat.le_of_ble_eq_true rfl) ?_
  cases h
  exact s_iret hX hR dX3_bestForSecond_54

-- X3_duel
def L_X3_duel_24  : Nat → Int32 → Int32 → Int32 → Int32 → fsS → Option (fsS)
  | 0, _, _, _, _, _ => none
  | n0 + 1, y1, y2, y3, y4, σ => if (16 : Int32) ≤ y4 then some σ else (F_X3_duelEnd y1 y2 y4 σ).bind (fun q5 => fs_g (fs_in y4 16) (L_X3_duel_24  n0 y1 y2 y3 (y4 + (1 : Int32)) (fs_u q5.2 7 y4.toNatClampNeg q5.1)))
def L_X3_duel_80  : Nat → Int32 → Int32 → Int32 → Int32 → fsS → Option (fsS)
  | 0, _, _, _, _, _ => none
  | n0 + 1, y1, y2, y4, y5, σ => if (16 : Int32) ≤ y5 then some σ else if (y4 - y4 / (2 : Int32) * (2 : Int32)) = 0 then (F_X3_bestForFirst y5 σ).bind (fun q14 => fs_g (fs_in y5 16) (L_X3_duel_80  n0 y1 y2 y4 (y5 + (1 : Int32)) (fs_u σ 7 y5.toNatClampNeg q14))) else (F_X3_bestForSecond y5 σ).bind (fun q12 => fs_g (fs_in y5 16) (L_X3_duel_80  n0 y1 y2 y4 (y5 + (1 : Int32)) (fs_u σ 7 y5.toNatClampNeg q12)))
def L_X3_duel_57  : Nat → Int32 → Int32 → Int32 → fsS → Option (fsS)
  | 0, _, _, _, _ => none
  | n0 + 1, y1, y2, y4, σ => if y4 < 0 then some σ else fs_g (fs_cp 7 8 (0 : Int32) (0 : Int32) (16 : Int32)) ((L_X3_duel_80  fs_fu y1 y2 y4 (0 : Int32) (fs_cy σ 7 8 (0 : Int32) (0 : Int32) (16 : Int32))).bind (fun q16 => L_X3_duel_57  n0 y1 y2 (y4 + (-1 : Int32)) q16))
def F_X3_duel (x1 : Int32) (x2 : Int32) (x3 : Int32) (σ : fsS) : Option (Int32 × fsS) := if (F_X3_areTwo x1 x2 σ) = 0 then some ((-1 : Int32), σ) else if x3 < 0 then some ((-1 : Int32), σ) else if x3 ≤ (6 : Int32) then (L_X3_duel_24  fs_fu x1 x2 x3 (0 : Int32) σ).bind (fun q7 => (L_X3_duel_57  fs_fu x1 x2 (x3 - (1 : Int32)) q7).bind (fun q17 => fs_g (fs_in x1 6) (fs_g (fs_in x2 6) (fs_g (fs_in (F_X3_duelWay (q17 25 x1.toNatClampNeg) (q17 25 x2.toNatClampNeg)) 16) (some (((q17 7 (F_X3_duelWay (q17 25 x1.toNatClampNeg) (q17 25 x2.toNatClampNeg)).toNatClampNeg) + (100 : Int32)), q17)))))) else some ((-1 : Int32), σ)
set_option maxRecDepth 20000 in
set_option maxHeartbeats 40000000 in
theorem l_X3_duel_24   {X : fsC} (hX : fs_ok cX3_duel RX3 6 { frames := 5, cells := 0, slots := 0, locals := 116 } X) : ∀ (n : Nat) (y1 : Int32) (y2 : Int32) (y3 : Int32) (y4 : Int32) (σ : fsS) (μ : fsL) (out : fsS) (_ : L_X3_duel_24  n y1 y2 y3 y4 σ = some out) (k0 : fs_PW X 52 [some (.ref 0), some (.int y1), some (.int y2), some (.int y3), none, none] [] out μ), fs_PW X 24 [some (.ref 0), some (.int y1), some (.int y2), some (.int y3), some (.int y4), none] [] σ μ := by
  intro n
  induction n with
  | zero =>
    intro y1 y2 y3 y4 σ μ out h
    cases (show (none : Option (fsS)) = some out from h)
  | succ n0 ih =>
    intro y1 y2 y3 y4 σ μ out h k0
    unfold L_X3_duel_24 at h
    refine s_iload hX dX3_duel_24 rfl ?_
    refine s_bi hX (16 : Int32) dX3_duel_26 (by decide) ?_
    refine s_ic_ge hX 52 dX3_duel_28 (by decide) (fun c4 => ?_) (fun c4 => ?_)
    · have h := (if_pos c4).symm.trans h
      cases h
      refine fs_ma [true, true, true, true, false, false] ?_
      exact k0
    · have h := (if_neg c4).symm.trans h
      refine s_aload_n hX dX3_duel_31 rfl ?_
      refine s_getr hX dX3_duel_32 f_X3_35 rfl ?_
      refine s_iload hX dX3_duel_35 rfl ?_
      refine s_aload_n hX dX3_duel_37 rfl ?_
      refine s_iload_n hX dX3_duel_38 rfl ?_
      refine s_iload_n hX dX3_duel_39 rfl ?_
      refine s_iload hX dX3_duel_40 rfl ?_
      obtain ⟨q5, e5, h⟩ := fs_bind h
      refine s_cV hX [.int y1, .int y2, .int y4] dX3_duel_42 k_X3_244 v_X3_duelEnd (m_X3_duelEnd y1 y2 y4 σ μ q5 e5) ⟨_, rfl⟩ fs_c3 ⟨rfl, rfl⟩ ⟨(Nat.le_of_ble_eq_true rfl), (Nat.le_of_ble_eq_true rfl)⟩ rfl rfl (Nat.le_of_ble_eq_true rfl) ?_
      obtain ⟨g6, h⟩ := fs_gd h
      refine s_iast hX dX3_duel_45 g6 ?_
      refine s_iinc hX (y4 + (1 : Int32)) dX3_duel_46 rfl rfl (Nat.le_of_ble_eq_true rfl) ?_
      refine s_goto hX 24 dX3_duel_49 (by decide) ?_
      refine fs_ma [true, true, true, true, true, false] ?_
      exact ih y1 y2 y3 (y4 + (1 : Int32)) (fs_u q5.2 7 y4.toNatClampNeg q5.1) μ out h k0
set_option maxRecDepth 20000 in
set_option maxHeartbeats 40000000 in
theorem l_X3_duel_80   {X : fsC} (hX : fs_ok cX3_duel RX3 6 { frames := 5, cells := 0, slots := 0, locals := 116 } X) : ∀ (n : Nat) (y1 : Int32) (y2 : Int32) (y4 : Int32) (y5 : Int32) (σ : fsS) (μ : fsL) (out : fsS) (_ : L_X3_duel_80  n y1 y2 y4 y5 σ = some out) (k0 : fs_PW X 122 [some (.ref 0), some (.int y1), some (.int y2), none, some (.int y4), none] [] out μ), fs_PW X 80 [some (.ref 0), some (.int y1), some (.int y2), none, some (.int y4), some (.int y5)] [] σ μ := by
  intro n
  induction n with
  | zero =>
    intro y1 y2 y4 y5 σ μ out h
    cases (show (none : Option (fsS)) = some out from h)
  | succ n0 ih =>
    intro y1 y2 y4 y5 σ μ out h k0
    unfold L_X3_duel_80 at h
    refine s_iload hX dX3_duel_80 rfl ?_
    refine s_bi hX (16 : Int32) dX3_duel_82 (by decide) ?_
    refine s_ic_ge hX 122 dX3_duel_84 (by decide) (fun c10 => ?_) (fun c10 => ?_)
    · have h := (if_pos c10).symm.trans h
      cases h
      refine fs_ma [true, true, true, false, true, false] ?_
      exact k0
    · have h := (if_neg c10).symm.trans h
      refine s_aload_n hX dX3_duel_87 rfl ?_
      refine s_getr hX dX3_duel_88 f_X3_35 rfl ?_
      refine s_iload hX dX3_duel_91 rfl ?_
      refine s_iload hX dX3_duel_93 rfl ?_
      refine s_ic hX (2 : Int32) dX3_duel_95 (by decide) ?_
      refine s_irem hX dX3_duel_96 (by decide) ?_
      refine s_if_ne hX 109 dX3_duel_97 (by decide) (fun c11 => ?_) (fun c11 => ?_)
      · have h := (if_neg c11).symm.trans h
        refine s_aload_n hX dX3_duel_109 rfl ?_
        refine s_iload hX dX3_duel_110 rfl ?_
        obtain ⟨q12, e12, h⟩ := fs_bind h
        refine s_cV hX [.int y5] dX3_duel_112 k_X3_250 v_X3_bestForSecond (m_X3_bestForSecond y5 σ μ q12 e12) ⟨_, rfl⟩ fs_c3 ⟨rfl, rfl⟩ ⟨(Nat.le_of_ble_eq_true rfl), (Nat.le_of_ble_eq_true rfl)⟩ rfl rfl (Nat.le_of_ble_eq_true rfl) ?_
        obtain ⟨g13, h⟩ := fs_gd h
        refine s_iast hX dX3_duel_115 g13 ?_
        refine s_iinc hX (y5 + (1 : Int32)) dX3_duel_116 rfl rfl (Nat.le_of_ble_eq_true rfl) ?_
        refine s_goto hX 80 dX3_duel_119 (by decide) ?_
        refine fs_ma [true, true, true, false, true, true] ?_
        exact ih y1 y2 y4 (y5 + (1 : Int32)) (fs_u σ 7 y5.toNatClampNeg q12) μ out h k0
      · have h := (if_pos c11).symm.trans h
        refine s_aload_n hX dX3_duel_100 rfl ?_
        refine s_iload hX dX3_duel_101 rfl ?_
        obtain ⟨q14, e14, h⟩ := fs_bind h
        refine s_cV hX [.int y5] dX3_duel_103 k_X3_247 v_X3_bestForFirst (m_X3_bestForFirst y5 σ μ q14 e14) ⟨_, rfl⟩ fs_c3 ⟨rfl, rfl⟩ ⟨(Nat.le_of_ble_eq_true rfl), (Nat.le_of_ble_eq_true rfl)⟩ rfl rfl (Nat.le_of_ble_eq_true rfl) ?_
        refine s_goto hX 115 dX3_duel_106 (by decide) ?_
        obtain ⟨g15, h⟩ := fs_gd h
        refine s_iast hX dX3_duel_115 g15 ?_
        refine s_iinc hX (y5 + (1 : Int32)) dX3_duel_116 rfl rfl (Nat.le_of_ble_eq_true rfl) ?_
        refine s_goto hX 80 dX3_duel_119 (by decide) ?_
        refine fs_ma [true, true, true, false, true, true] ?_
        exact ih y1 y2 y4 (y5 + (1 : Int32)) (fs_u σ 7 y5.toNatClampNeg q14) μ out h k0
set_option maxRecDepth 20000 in
set_option maxHeartbeats 40000000 in
theorem l_X3_duel_57   {X : fsC} (hX : fs_ok cX3_duel RX3 6 { frames := 5, cells := 0, slots := 0, locals := 116 } X) : ∀ (n : Nat) (y1 : Int32) (y2 : Int32) (y4 : Int32) (σ : fsS) (μ : fsL) (out : fsS) (_ : L_X3_duel_57  n y1 y2 y4 σ = some out) (k0 : fs_PW X 128 [some (.ref 0), some (.int y1), some (.int y2), none, none, none] [] out μ), fs_PW X 57 [some (.ref 0), some (.int y1), some (.int y2), none, some (.int y4), none] [] σ μ := by
  intro n
  induction n with
  | zero =>
    intro y1 y2 y4 σ μ out h
    cases (show (none : Option (fsS)) = some out from h)
  | succ n0 ih =>
    intro y1 y2 y4 σ μ out h k0
    unfold L_X3_duel_57 at h
    refine s_iload hX dX3_duel_57 rfl ?_
    refine s_if_lt hX 128 dX3_duel_59 (by decide) (fun c8 => ?_) (fun c8 => ?_)
    · have h := (if_pos c8).symm.trans h
      cases h
      refine fs_ma [true, true, true, false, false, false] ?_
      exact k0
    · have h := (if_neg c8).symm.trans h
      refine s_aload_n hX dX3_duel_62 rfl ?_
      refine s_getr hX dX3_duel_63 f_X3_35 rfl ?_
      refine s_ic hX (0 : Int32) dX3_duel_66 (by decide) ?_
      refine s_aload_n hX dX3_duel_67 rfl ?_
      refine s_getr hX dX3_duel_68 f_X3_39 rfl ?_
      refine s_ic hX (0 : Int32) dX3_duel_71 (by decide) ?_
      refine s_bi hX (16 : Int32) dX3_duel_72 (by decide) ?_
      obtain ⟨g9, h⟩ := fs_gd h
      refine s_ac hX dX3_duel_74 k_X3_92 g9 rfl (Nat.le_of_ble_eq_true rfl) (Nat.le_of_ble_eq_true rfl) ?_
      refine s_ic hX (0 : Int32) dX3_duel_77 (by decide) ?_
      refine s_istore hX dX3_duel_78 (Nat.le_of_ble_eq_true rfl) ?_
      obtain ⟨q16, e16, h⟩ := fs_bind h
      refine fs_ma [true, true, true, false, true, true] ?_
      refine l_X3_duel_80  hX fs_fu y1 y2 y4 (0 : Int32) (fs_cy σ 7 8 (0 : Int32) (0 : Int32) (16 : Int32)) μ q16 e16 ?_
      refine s_iinc hX (y4 + (-1 : Int32)) dX3_duel_122 rfl rfl (Nat.le_of_ble_eq_true rfl) ?_
      refine s_goto hX 57 dX3_duel_125 (by decide) ?_
      refine fs_ma [true, true, true, false, true, false] ?_
      exact ih y1 y2 (y4 + (-1 : Int32)) q16 μ out h k0
set_option maxRecDepth 20000 in
set_option maxHeartbeats 40000000 in
theorem m_X3_duel (x1 : Int32) (x2 : Int32) (x3 : Int32)  (σ : fsS) (μ : fsL) (out : Int32 × fsS) (h : F_X3_duel x1 x2 x3 σ = some out) : fs_Met yX3_duel cX3_duel 6 (some .int) { frames := 5, cells := 0, slots := 0, locals := 116 } [.ref 0, .int x1, .int x2, .int x3] σ μ (some (.int out.1)) out.2 μ := by
  unfold F_X3_duel at h
  refine fs_intro (by decide +kernel) (Nat.le_of_ble_eq_true rfl) (fun X hX hR => ?_)
  show fs_PW X 0 [some (.ref 0), some (.int x1), some (.int x2), some (.int x3), none, none] [] σ μ
  refine s_aload_n hX dX3_duel_0 rfl ?_
  refine s_iload_n hX dX3_duel_1 rfl ?_
  refine s_iload_n hX dX3_duel_2 rfl ?_
  refine s_cV hX [.int x1, .int x2] dX3_duel_3 k_X3_173 v_X3_areTwo (m_X3_areTwo x1 x2 σ μ _ rfl) ⟨_, rfl⟩ fs_c3 ⟨rfl, rfl⟩ ⟨(Nat.le_of_ble_eq_true rfl), (Nat.le_of_ble_eq_true rfl)⟩ rfl rfl (Nat.le_of_ble_eq_true rfl) ?_
  refine s_if_eq hX 19 dX3_duel_6 (by decide) (fun c1 => ?_) (fun c1 => ?_)
  · have h := (if_pos c1).symm.trans h
    refine s_ic hX (-1 : Int32) dX3_duel_19 (by decide) ?_
    cases h
    exact s_iret hX hR dX3_duel_20
  · have h := (if_neg c1).symm.trans h
    refine s_iload_n hX dX3_duel_9 rfl ?_
    refine s_if_lt hX 19 dX3_duel_10 (by decide) (fun c2 => ?_) (fun c2 => ?_)
    · have h := (if_pos c2).symm.trans h
      refine s_ic hX (-1 : Int32) dX3_duel_19 (by decide) ?_
      cases h
      exact s_iret hX hR dX3_duel_20
    · have h := (if_neg c2).symm.trans h
      refine s_iload_n hX dX3_duel_13 rfl ?_
      refine s_bi hX (6 : Int32) dX3_duel_14 (by decide) ?_
      refine s_ic_le hX 21 dX3_duel_16 (by decide) (fun c3 => ?_) (fun c3 => ?_)
      · have h := (if_pos c3).symm.trans h
        refine s_ic hX (0 : Int32) dX3_duel_21 (by decide) ?_
        refine s_istore hX dX3_duel_22 (Nat.le_of_ble_eq_true rfl) ?_
        obtain ⟨q7, e7, h⟩ := fs_bind h
        refine fs_ma [true, true, true, true, true, false] ?_
        refine l_X3_duel_24  hX fs_fu x1 x2 x3 (0 : Int32) σ μ q7 e7 ?_
        refine s_iload_n hX dX3_duel_52 rfl ?_
        refine s_ic hX (1 : Int32) dX3_duel_53 (by decide) ?_
        refine s_isub hX dX3_duel_54 ?_
        refine s_istore hX dX3_duel_55 (Nat.le_of_ble_eq_true rfl) ?_
        obtain ⟨q17, e17, h⟩ := fs_bind h
        refine fs_ma [true, true, true, false, true, false] ?_
        refine l_X3_duel_57  hX fs_fu x1 x2 (x3 - (1 : Int32)) q7 μ q17 e17 ?_
        refine s_aload_n hX dX3_duel_128 rfl ?_
        refine s_getr hX dX3_duel_129 f_X3_35 rfl ?_
        refine s_aload_n hX dX3_duel_132 rfl ?_
        refine s_getr hX dX3_duel_133 f_X3_24 rfl ?_
        refine s_getr hX dX3_duel_136 f_X3_113 rfl ?_
        refine s_getr hX dX3_duel_139 f_X3_170 rfl ?_
        refine s_iload_n hX dX3_duel_142 rfl ?_
        obtain ⟨g18, h⟩ := fs_gd h
        refine s_iald hX dX3_duel_143 g18 ?_
        refine s_aload_n hX dX3_duel_144 rfl ?_
        refine s_getr hX dX3_duel_145 f_X3_24 rfl ?_
        refine s_getr hX dX3_duel_148 f_X3_113 rfl ?_
        refine s_getr hX dX3_duel_151 f_X3_170 rfl ?_
        refine s_iload_n hX dX3_duel_154 rfl ?_
        obtain ⟨g19, h⟩ := fs_gd h
        refine s_iald hX dX3_duel_155 g19 ?_
        refine s_callS hX (as := [.int (q17 25 x1.toNatClampNeg), .int (q17 25 x2.toNatClampNeg)]) dX3_duel_156 k_X3_253 v_X3_duelWay (m_X3_duelWay (q17 25 x1.toNatClampNeg) (q17 25 x2.toNatClampNeg) q17 μ _ rfl) ⟨rfl, rfl⟩ ⟨(Nat.le_of_ble_eq_true rfl), (Nat.le_of_ble_eq_true rfl)⟩ rfl rfl (Nat.le_of_ble_eq_true rfl) ?_
        obtain ⟨g20, h⟩ := fs_gd h
        refine s_iald hX dX3_duel_159 g20 ?_
        refine s_bi hX (100 : Int32) dX3_duel_160 (by decide) ?_
        refine s_iadd hX dX3_duel_162 ?_
        cases h
        exact s_iret hX hR dX3_duel_163
      · have h := (if_neg c3).symm.trans h
        refine s_ic hX (-1 : Int32) dX3_duel_19 (by decide) ?_
        cases h
        exact s_iret hX hR dX3_duel_20

-- X3_chanceOf
def L_X3_chanceOf_5  : Nat → Int32 → Int32 → Int64 → Int32 → fsS → Option (Int64)
  | 0, _, _, _, _, _ => none
  | n0 + 1, y1, y2, y3, y5, σ => if (σ 5 0) ≤ y5 then some y3 else if ((y1 >>> (y5 &&& 31)) &&& (1 : Int32)) = 0 then L_X3_chanceOf_5  n0 y1 y2 (y3 * (((12 : Int32) - y2).toInt64)) (y5 + (1 : Int32)) σ else L_X3_chanceOf_5  n0 y1 y2 (y3 * (y2.toInt64)) (y5 + (1 : Int32)) σ
def F_X3_chanceOf (x1 : Int32) (x2 : Int32) (σ : fsS) : Option (Int64) := (L_X3_chanceOf_5  fs_fu x1 x2 (1 : Int64) (0 : Int32) σ).bind (fun q3 => some q3)
set_option maxRecDepth 20000 in
set_option maxHeartbeats 40000000 in
theorem l_X3_chanceOf_5   {X : fsC} (hX : fs_ok cX3_chanceOf RX3 6 { frames := 0, cells := 0, slots := 0, locals := 0 } X) : ∀ (n : Nat) (y1 : Int32) (y2 : Int32) (y3 : Int64) (y5 : Int32) (σ : fsS) (μ : fsL) (out : Int64) (_ : L_X3_chanceOf_5  n y1 y2 y3 y5 σ = some out) (k0 : fs_PW X 48 [none, none, none, some (.long out), none, none] [] σ μ), fs_PW X 5 [some (.ref 0), some (.int y1), some (.int y2), some (.long y3), none, some (.int y5)] [] σ μ := by
  intro n
  induction n with
  | zero =>
    intro y1 y2 y3 y5 σ μ out h
    cases (show (none : Option (Int64)) = some out from h)
  | succ n0 ih =>
    intro y1 y2 y3 y5 σ μ out h k0
    unfold L_X3_chanceOf_5 at h
    refine s_iload hX dX3_chanceOf_5 rfl ?_
    refine s_aload_n hX dX3_chanceOf_7 rfl ?_
    refine s_getr hX dX3_chanceOf_8 f_X3_24 rfl ?_
    refine s_getr hX dX3_chanceOf_11 f_X3_113 rfl ?_
    refine s_geti hX dX3_chanceOf_14 f_X3_116 rfl ?_
    refine s_ic_ge hX 48 dX3_chanceOf_17 (by decide) (fun c1 => ?_) (fun c1 => ?_)
    · have h := (if_pos c1).symm.trans h
      cases h
      refine fs_ma [false, false, false, true, false, false] ?_
      exact k0
    · have h := (if_neg c1).symm.trans h
      refine s_lload_n hX dX3_chanceOf_20 rfl ?_
      refine s_iload_n hX dX3_chanceOf_21 rfl ?_
      refine s_iload hX dX3_chanceOf_22 rfl ?_
      refine s_ishr hX dX3_chanceOf_24 ?_
      refine s_ic hX (1 : Int32) dX3_chanceOf_25 (by decide) ?_
      refine s_iand hX dX3_chanceOf_26 ?_
      refine s_if_eq hX 35 dX3_chanceOf_27 (by decide) (fun c2 => ?_) (fun c2 => ?_)
      · have h := (if_pos c2).symm.trans h
        refine s_bi hX (12 : Int32) dX3_chanceOf_35 (by decide) ?_
        refine s_iload_n hX dX3_chanceOf_37 rfl ?_
        refine s_isub hX dX3_chanceOf_38 ?_
        refine s_i2l hX dX3_chanceOf_39 ?_
        refine s_lmul hX dX3_chanceOf_40 ?_
        refine s_lstore_n hX dX3_chanceOf_41 (Nat.le_of_ble_eq_true rfl) ?_
        refine s_iinc hX (y5 + (1 : Int32)) dX3_chanceOf_42 rfl rfl (Nat.le_of_ble_eq_true rfl) ?_
        refine s_goto hX 5 dX3_chanceOf_45 (by decide) ?_
        refine fs_ma [true, true, true, true, false, true] ?_
        exact ih y1 y2 (y3 * (((12 : Int32) - y2).toInt64)) (y5 + (1 : Int32)) σ μ out h k0
      · have h := (if_neg c2).symm.trans h
        refine s_iload_n hX dX3_chanceOf_30 rfl ?_
        refine s_i2l hX dX3_chanceOf_31 ?_
        refine s_goto hX 40 dX3_chanceOf_32 (by decide) ?_
        refine s_lmul hX dX3_chanceOf_40 ?_
        refine s_lstore_n hX dX3_chanceOf_41 (Nat.le_of_ble_eq_true rfl) ?_
        refine s_iinc hX (y5 + (1 : Int32)) dX3_chanceOf_42 rfl rfl (Nat.le_of_ble_eq_true rfl) ?_
        refine s_goto hX 5 dX3_chanceOf_45 (by decide) ?_
        refine fs_ma [true, true, true, true, false, true] ?_
        exact ih y1 y2 (y3 * (y2.toInt64)) (y5 + (1 : Int32)) σ μ out h k0
set_option maxRecDepth 20000 in
set_option maxHeartbeats 40000000 in
theorem m_X3_chanceOf (x1 : Int32) (x2 : Int32)  (σ : fsS) (μ : fsL) (out : Int64) (h : F_X3_chanceOf x1 x2 σ = some out) : fs_Met yX3_chanceOf cX3_chanceOf 6 (some .long) { frames := 0, cells := 0, slots := 0, locals := 0 } [.ref 0, .int x1, .int x2] σ μ (some (.long out)) σ μ := by
  unfold F_X3_chanceOf at h
  refine fs_intro (by decide +kernel) (Nat.le_of_ble_eq_true rfl) (fun X hX hR => ?_)
  show fs_PW X 0 [some (.ref 0), some (.int x1), some (.int x2), none, none, none] [] σ μ
  refine s_lc hX (1 : Int64) dX3_chanceOf_0 (by decide) ?_
  refine s_lstore_n hX dX3_chanceOf_1 (Nat.le_of_ble_eq_true rfl) ?_
  refine s_ic hX (0 : Int32) dX3_chanceOf_2 (by decide) ?_
  refine s_istore hX dX3_chanceOf_3 (Nat.le_of_ble_eq_true rfl) ?_
  obtain ⟨q3, e3, h⟩ := fs_bind h
  refine fs_ma [true, true, true, true, false, true] ?_
  refine l_X3_chanceOf_5  hX fs_fu x1 x2 (1 : Int64) (0 : Int32) σ μ q3 e3 ?_
  refine s_lload_n hX dX3_chanceOf_48 rfl ?_
  cases h
  exact s_lret hX hR dX3_chanceOf_49

-- X3_commonDivisor
def L_X3_commonDivisor_3  : Nat → Int64 → Int64 → Int32 → Option (Int64)
  | 0, _, _, _ => none
  | n0 + 1, y0, y2, y4 => if (200 : Int32) ≤ y4 then some y0 else if y2 = (0 : Int64) then some y0 else fs_g (¬ y2 = 0) (L_X3_commonDivisor_3  n0 y2 (y0 - y0 / y2 * y2) (y4 + (1 : Int32)))
def F_X3_commonDivisor (x0 : Int64) (x2 : Int64) : Option (Int64) := (L_X3_commonDivisor_3  fs_fu x0 x2 (0 : Int32)).bind (fun q4 => some q4)
set_option maxRecDepth 20000 in
set_option maxHeartbeats 40000000 in
theorem l_X3_commonDivisor_3   {X : fsC} (hX : fs_ok cX3_commonDivisor RX3 7 { frames := 0, cells := 0, slots := 0, locals := 0 } X) : ∀ (n : Nat) (y0 : Int64) (y2 : Int64) (y4 : Int32) (σ : fsS) (μ : fsL) (out : Int64) (_ : L_X3_commonDivisor_3  n y0 y2 y4 = some out) (k0 : fs_PW X 33 [some (.long out), none, none, none, none, none, none] [] σ μ), fs_PW X 3 [some (.long y0), none, some (.long y2), none, some (.int y4), none, none] [] σ μ := by
  intro n
  induction n with
  | zero =>
    intro y0 y2 y4 σ μ out h
    cases (show (none : Option (Int64)) = some out from h)
  | succ n0 ih =>
    intro y0 y2 y4 σ μ out h k0
    unfold L_X3_commonDivisor_3 at h
    refine s_iload hX dX3_commonDivisor_3 rfl ?_
    refine s_si hX (200 : Int32) dX3_commonDivisor_5 (by decide) ?_
    refine s_ic_ge hX 33 dX3_commonDivisor_8 (by decide) (fun c1 => ?_) (fun c1 => ?_)
    · have h := (if_pos c1).symm.trans h
      cases h
      refine fs_ma [true, false, false, false, false, false, false] ?_
      exact k0
    · have h := (if_neg c1).symm.trans h
      refine s_lload_n hX dX3_commonDivisor_11 rfl ?_
      refine s_lc hX (0 : Int64) dX3_commonDivisor_12 (by decide) ?_
      refine s_lcmp hX dX3_commonDivisor_13 ?_
      refine s_if_eq hX 33 dX3_commonDivisor_14 (by decide) (fun c2 => ?_) (fun c2 => ?_)
      · have h := (if_pos (fs_cmp_eq.mp c2)).symm.trans h
        cases h
        refine fs_ma [true, false, false, false, false, false, false] ?_
        exact k0
      · have h := (if_neg (fun z => c2 (fs_cmp_eq.mpr z))).symm.trans h
        refine s_lload_n hX dX3_commonDivisor_17 rfl ?_
        refine s_lload_n hX dX3_commonDivisor_18 rfl ?_
        obtain ⟨g3, h⟩ := fs_gd h
        refine s_lrem hX dX3_commonDivisor_19 g3 ?_
        refine s_lstore hX dX3_commonDivisor_20 (Nat.le_of_ble_eq_true rfl) ?_
        refine s_lload_n hX dX3_commonDivisor_22 rfl ?_
        refine s_lstore_n hX dX3_commonDivisor_23 (Nat.le_of_ble_eq_true rfl) ?_
        refine s_lload hX dX3_commonDivisor_24 rfl ?_
        refine s_lstore_n hX dX3_commonDivisor_26 (Nat.le_of_ble_eq_true rfl) ?_
        refine s_iinc hX (y4 + (1 : Int32)) dX3_commonDivisor_27 rfl rfl (Nat.le_of_ble_eq_true rfl) ?_
        refine s_goto hX 3 dX3_commonDivisor_30 (by decide) ?_
        refine fs_ma [true, false, true, false, true, false, false] ?_
        exact ih y2 (y0 - y0 / y2 * y2) (y4 + (1 : Int32)) σ μ out h k0
set_option maxRecDepth 20000 in
set_option maxHeartbeats 40000000 in
theorem m_X3_commonDivisor (x0 : Int64) (x2 : Int64)  (σ : fsS) (μ : fsL) (out : Int64) (h : F_X3_commonDivisor x0 x2 = some out) : fs_Met yX3_commonDivisor cX3_commonDivisor 7 (some .long) { frames := 0, cells := 0, slots := 0, locals := 0 } [.long x0, .long x2] σ μ (some (.long out)) σ μ := by
  unfold F_X3_commonDivisor at h
  refine fs_intro (by decide +kernel) (Nat.le_of_ble_eq_true rfl) (fun X hX hR => ?_)
  show fs_PW X 0 [some (.long x0), none, some (.long x2), none, none, none, none] [] σ μ
  refine s_ic hX (0 : Int32) dX3_commonDivisor_0 (by decide) ?_
  refine s_istore hX dX3_commonDivisor_1 (Nat.le_of_ble_eq_true rfl) ?_
  obtain ⟨q4, e4, h⟩ := fs_bind h
  refine fs_ma [true, false, true, false, true, false, false] ?_
  refine l_X3_commonDivisor_3  hX fs_fu x0 x2 (0 : Int32) σ μ q4 e4 ?_
  refine s_lload_n hX dX3_commonDivisor_33 rfl ?_
  cases h
  exact s_lret hX hR dX3_commonDivisor_34

-- X3_tellPart
def L_X3_tellPart_5  : Nat → Int64 → Int64 → Int32 → fsS → Option (Int64)
  | 0, _, _, _, _ => none
  | n0 + 1, y1, y3, y5, σ => if (σ 5 0) ≤ y5 then some y3 else L_X3_tellPart_5  n0 y1 (y3 * (12 : Int64)) (y5 + (1 : Int32)) σ
def F_X3_tellPart (x1 : Int64) (σ : fsS) (μ : fsL) : Option (fsL) := (L_X3_tellPart_5  fs_fu x1 (1 : Int64) (0 : Int32) σ).bind (fun q2 => (F_X3_commonDivisor q2 x1).bind (fun q3 => if (0 : Int64) < q3 then fs_g (¬ q3 = 0) (fs_g (¬ q3 = 0) (some (fs_ul (fs_ul μ 0 9 (x1 / q3)) 0 10 (q2 / q3)))) else some μ))
set_option maxRecDepth 20000 in
set_option maxHeartbeats 40000000 in
theorem l_X3_tellPart_5   {X : fsC} (hX : fs_ok cX3_tellPart RX3 7 { frames := 1, cells := 0, slots := 0, locals := 26 } X) : ∀ (n : Nat) (y1 : Int64) (y3 : Int64) (y5 : Int32) (σ : fsS) (μ : fsL) (out : Int64) (_ : L_X3_tellPart_5  n y1 y3 y5 σ = some out) (k0 : fs_PW X 32 [some (.ref 0), some (.long y1), none, some (.long out), none, none, none] [] σ μ), fs_PW X 5 [some (.ref 0), some (.long y1), none, some (.long y3), none, some (.int y5), none] [] σ μ := by
  intro n
  induction n with
  | zero =>
    intro y1 y3 y5 σ μ out h
    cases (show (none : Option (Int64)) = some out from h)
  | succ n0 ih =>
    intro y1 y3 y5 σ μ out h k0
    unfold L_X3_tellPart_5 at h
    refine s_iload hX dX3_tellPart_5 rfl ?_
    refine s_aload_n hX dX3_tellPart_7 rfl ?_
    refine s_getr hX dX3_tellPart_8 f_X3_24 rfl ?_
    refine s_getr hX dX3_tellPart_11 f_X3_113 rfl ?_
    refine s_geti hX dX3_tellPart_14 f_X3_116 rfl ?_
    refine s_ic_ge hX 32 dX3_tellPart_17 (by decide) (fun c1 => ?_) (fun c1 => ?_)
    · have h := (if_pos c1).symm.trans h
      cases h
      refine fs_ma [true, true, false, true, false, false, false] ?_
      exact k0
    · have h := (if_neg c1).symm.trans h
      refine s_lload_n hX dX3_tellPart_20 rfl ?_
      refine s_ldc2 hX (12 : Int64) dX3_tellPart_21 q_X3_293 ?_
      refine s_lmul hX dX3_tellPart_24 ?_
      refine s_lstore_n hX dX3_tellPart_25 (Nat.le_of_ble_eq_true rfl) ?_
      refine s_iinc hX (y5 + (1 : Int32)) dX3_tellPart_26 rfl rfl (Nat.le_of_ble_eq_true rfl) ?_
      refine s_goto hX 5 dX3_tellPart_29 (by decide) ?_
      refine fs_ma [true, true, false, true, false, true, false] ?_
      exact ih y1 (y3 * (12 : Int64)) (y5 + (1 : Int32)) σ μ out h k0
set_option maxRecDepth 20000 in
set_option maxHeartbeats 40000000 in
theorem m_X3_tellPart (x1 : Int64)  (σ : fsS) (μ : fsL) (out : fsL) (h : F_X3_tellPart x1 σ μ = some out) : fs_Met yX3_tellPart cX3_tellPart 7 none { frames := 1, cells := 0, slots := 0, locals := 26 } [.ref 0, .long x1] σ μ none σ out := by
  unfold F_X3_tellPart at h
  refine fs_intro (by decide +kernel) (Nat.le_of_ble_eq_true rfl) (fun X hX hR => ?_)
  show fs_PW X 0 [some (.ref 0), some (.long x1), none, none, none, none, none] [] σ μ
  refine s_lc hX (1 : Int64) dX3_tellPart_0 (by decide) ?_
  refine s_lstore_n hX dX3_tellPart_1 (Nat.le_of_ble_eq_true rfl) ?_
  refine s_ic hX (0 : Int32) dX3_tellPart_2 (by decide) ?_
  refine s_istore hX dX3_tellPart_3 (Nat.le_of_ble_eq_true rfl) ?_
  obtain ⟨q2, e2, h⟩ := fs_bind h
  refine fs_ma [true, true, false, true, false, true, false] ?_
  refine l_X3_tellPart_5  hX fs_fu x1 (1 : Int64) (0 : Int32) σ μ q2 e2 ?_
  refine s_lload_n hX dX3_tellPart_32 rfl ?_
  refine s_lload_n hX dX3_tellPart_33 rfl ?_
  obtain ⟨q3, e3, h⟩ := fs_bind h
  refine s_callS hX (as := [.long q2, .long x1]) dX3_tellPart_34 k_X3_295 v_X3_commonDivisor (m_X3_commonDivisor q2 x1 σ μ q3 e3) ⟨rfl, rfl⟩ ⟨(Nat.le_of_ble_eq_true rfl), (Nat.le_of_ble_eq_true rfl)⟩ rfl rfl (Nat.le_of_ble_eq_true rfl) ?_
  refine s_lstore hX dX3_tellPart_37 (Nat.le_of_ble_eq_true rfl) ?_
  refine s_lload hX dX3_tellPart_39 rfl ?_
  refine s_lc hX (0 : Int64) dX3_tellPart_41 (by decide) ?_
  refine s_lcmp hX dX3_tellPart_42 ?_
  refine s_if_gt hX 47 dX3_tellPart_43 (by decide) (fun c4 => ?_) (fun c4 => ?_)
  · have h := (if_pos (fs_cmp_gt.mp c4)).symm.trans h
    refine s_aload_n hX dX3_tellPart_47 rfl ?_
    refine s_lload_n hX dX3_tellPart_48 rfl ?_
    refine s_lload hX dX3_tellPart_49 rfl ?_
    obtain ⟨g5, h⟩ := fs_gd h
    refine s_ldiv hX dX3_tellPart_51 g5 ?_
    refine s_putl hX dX3_tellPart_52 p_X3_52 rfl ?_
    refine s_aload_n hX dX3_tellPart_55 rfl ?_
    refine s_lload_n hX dX3_tellPart_56 rfl ?_
    refine s_lload hX dX3_tellPart_57 rfl ?_
    obtain ⟨g6, h⟩ := fs_gd h
    refine s_ldiv hX dX3_tellPart_59 g6 ?_
    refine s_putl hX dX3_tellPart_60 p_X3_56 rfl ?_
    cases h
    exact s_vret hX hR dX3_tellPart_63
  · have h := (if_neg (fun z => c4 (fs_cmp_gt.mpr z))).symm.trans h
    cases h
    exact s_vret hX hR dX3_tellPart_46

-- X3_odds
def L_X3_odds_46  : Nat → Int32 → Int32 → Int32 → Int64 → Int32 → fsS → Option (Int64)
  | 0, _, _, _, _, _, _ => none
  | n0 + 1, y1, y2, y3, y4, y6, σ => if ((1 : Int32) <<< ((σ 5 0) &&& 31)) ≤ y6 then some y4 else (F_X1_paidUnless 5 y6 y1 σ).bind (fun q8 => if q8 < y2 then L_X3_odds_46  n0 y1 y2 y3 y4 (y6 + (1 : Int32)) σ else (F_X3_chanceOf y6 y3 σ).bind (fun q10 => L_X3_odds_46  n0 y1 y2 y3 (y4 + q10) (y6 + (1 : Int32)) σ))
def F_X3_odds (x1 : Int32) (x2 : Int32) (x3 : Int32) (σ : fsS) (μ : fsL) : Option (Int32 × fsS × fsL) := if (F_X3_isKin x1 σ) = 0 then some ((-1 : Int32), σ, μ) else if x2 < 0 then some ((-1 : Int32), σ, μ) else if (40 : Int32) < x2 then some ((-1 : Int32), σ, μ) else if x3 < 0 then some ((-1 : Int32), σ, μ) else if x3 ≤ (12 : Int32) then (F_X1_weigh 5 σ).bind (fun q6 => (L_X3_odds_46  fs_fu x1 x2 x3 (0 : Int64) (0 : Int32) q6).bind (fun q11 => (F_X3_tellPart q11 q6 μ).bind (fun q12 => some ((1 : Int32), q6, q12)))) else some ((-1 : Int32), σ, μ)
set_option maxRecDepth 20000 in
set_option maxHeartbeats 40000000 in
theorem l_X3_odds_46   {X : fsC} (hX : fs_ok cX3_odds RX3 7 { frames := 2, cells := 0, slots := 0, locals := 52 } X) : ∀ (n : Nat) (y1 : Int32) (y2 : Int32) (y3 : Int32) (y4 : Int64) (y6 : Int32) (σ : fsS) (μ : fsL) (out : Int64) (_ : L_X3_odds_46  n y1 y2 y3 y4 y6 σ = some out) (k0 : fs_PW X 98 [some (.ref 0), none, none, none, some (.long out), none, none] [] σ μ), fs_PW X 46 [some (.ref 0), some (.int y1), some (.int y2), some (.int y3), some (.long y4), none, some (.int y6)] [] σ μ := by
  intro n
  induction n with
  | zero =>
    intro y1 y2 y3 y4 y6 σ μ out h
    cases (show (none : Option (Int64)) = some out from h)
  | succ n0 ih =>
    intro y1 y2 y3 y4 y6 σ μ out h k0
    unfold L_X3_odds_46 at h
    refine s_iload hX dX3_odds_46 rfl ?_
    refine s_ic hX (1 : Int32) dX3_odds_48 (by decide) ?_
    refine s_aload_n hX dX3_odds_49 rfl ?_
    refine s_getr hX dX3_odds_50 f_X3_24 rfl ?_
    refine s_getr hX dX3_odds_53 f_X3_113 rfl ?_
    refine s_geti hX dX3_odds_56 f_X3_116 rfl ?_
    refine s_ishl hX dX3_odds_59 ?_
    refine s_ic_ge hX 98 dX3_odds_60 (by decide) (fun c7 => ?_) (fun c7 => ?_)
    · have h := (if_pos c7).symm.trans h
      cases h
      refine fs_ma [true, false, false, false, true, false, false] ?_
      exact k0
    · have h := (if_neg c7).symm.trans h
      refine s_aload_n hX dX3_odds_63 rfl ?_
      refine s_getr hX dX3_odds_64 f_X3_24 rfl ?_
      refine s_getr hX dX3_odds_67 f_X3_113 rfl ?_
      refine s_iload hX dX3_odds_70 rfl ?_
      refine s_iload_n hX dX3_odds_72 rfl ?_
      obtain ⟨q8, e8, h⟩ := fs_bind h
      refine s_cV hX [.int y6, .int y1] dX3_odds_73 k_X3_256 v_X1_paidUnless (m_X1_paidUnless 5 y6 y1 fs_K5 σ μ q8 e8) (fs_K_is fs_K5) fs_c1 ⟨rfl, rfl⟩ ⟨(Nat.le_of_ble_eq_true rfl), (Nat.le_of_ble_eq_true rfl)⟩ rfl rfl (Nat.le_of_ble_eq_true rfl) ?_
      refine s_iload_n hX dX3_odds_76 rfl ?_
      refine s_ic_lt hX 92 dX3_odds_77 (by decide) (fun c9 => ?_) (fun c9 => ?_)
      · have h := (if_pos c9).symm.trans h
        refine s_iinc hX (y6 + (1 : Int32)) dX3_odds_92 rfl rfl (Nat.le_of_ble_eq_true rfl) ?_
        refine s_goto hX 46 dX3_odds_95 (by decide) ?_
        refine fs_ma [true, true, true, true, true, false, true] ?_
        exact ih y1 y2 y3 y4 (y6 + (1 : Int32)) σ μ out h k0
      · have h := (if_neg c9).symm.trans h
        refine s_lload hX dX3_odds_80 rfl ?_
        refine s_aload_n hX dX3_odds_82 rfl ?_
        refine s_iload hX dX3_odds_83 rfl ?_
        refine s_iload_n hX dX3_odds_85 rfl ?_
        obtain ⟨q10, e10, h⟩ := fs_bind h
        refine s_cV hX [.int y6, .int y3] dX3_odds_86 k_X3_259 v_X3_chanceOf (m_X3_chanceOf y6 y3 σ μ q10 e10) ⟨_, rfl⟩ fs_c3 ⟨rfl, rfl⟩ ⟨(Nat.le_of_ble_eq_true rfl), (Nat.le_of_ble_eq_true rfl)⟩ rfl rfl (Nat.le_of_ble_eq_true rfl) ?_
        refine s_ladd hX dX3_odds_89 ?_
        refine s_lstore hX dX3_odds_90 (Nat.le_of_ble_eq_true rfl) ?_
        refine s_iinc hX (y6 + (1 : Int32)) dX3_odds_92 rfl rfl (Nat.le_of_ble_eq_true rfl) ?_
        refine s_goto hX 46 dX3_odds_95 (by decide) ?_
        refine fs_ma [true, true, true, true, true, false, true] ?_
        exact ih y1 y2 y3 (y4 + q10) (y6 + (1 : Int32)) σ μ out h k0
set_option maxRecDepth 20000 in
set_option maxHeartbeats 40000000 in
theorem m_X3_odds (x1 : Int32) (x2 : Int32) (x3 : Int32)  (σ : fsS) (μ : fsL) (out : Int32 × fsS × fsL) (h : F_X3_odds x1 x2 x3 σ μ = some out) : fs_Met yX3_odds cX3_odds 7 (some .int) { frames := 2, cells := 0, slots := 0, locals := 52 } [.ref 0, .int x1, .int x2, .int x3] σ μ (some (.int out.1)) out.2.1 out.2.2 := by
  unfold F_X3_odds at h
  refine fs_intro (by decide +kernel) (Nat.le_of_ble_eq_true rfl) (fun X hX hR => ?_)
  show fs_PW X 0 [some (.ref 0), some (.int x1), some (.int x2), some (.int x3), none, none, none] [] σ μ
  refine s_aload_n hX dX3_odds_0 rfl ?_
  refine s_iload_n hX dX3_odds_1 rfl ?_
  refine s_cV hX [.int x1] dX3_odds_2 k_X3_119 v_X3_isKin (m_X3_isKin x1 σ μ _ rfl) ⟨_, rfl⟩ fs_c3 ⟨rfl, rfl⟩ ⟨(Nat.le_of_ble_eq_true rfl), (Nat.le_of_ble_eq_true rfl)⟩ rfl rfl (Nat.le_of_ble_eq_true rfl) ?_
  refine s_if_eq hX 28 dX3_odds_5 (by decide) (fun c1 => ?_) (fun c1 => ?_)
  · have h := (if_pos c1).symm.trans h
    refine s_ic hX (-1 : Int32) dX3_odds_28 (by decide) ?_
    cases h
    exact s_iret hX hR dX3_odds_29
  · have h := (if_neg c1).symm.trans h
    refine s_iload_n hX dX3_odds_8 rfl ?_
    refine s_if_lt hX 28 dX3_odds_9 (by decide) (fun c2 => ?_) (fun c2 => ?_)
    · have h := (if_pos c2).symm.trans h
      refine s_ic hX (-1 : Int32) dX3_odds_28 (by decide) ?_
      cases h
      exact s_iret hX hR dX3_odds_29
    · have h := (if_neg c2).symm.trans h
      refine s_iload_n hX dX3_odds_12 rfl ?_
      refine s_bi hX (40 : Int32) dX3_odds_13 (by decide) ?_
      refine s_ic_gt hX 28 dX3_odds_15 (by decide) (fun c3 => ?_) (fun c3 => ?_)
      · have h := (if_pos c3).symm.trans h
        refine s_ic hX (-1 : Int32) dX3_odds_28 (by decide) ?_
        cases h
        exact s_iret hX hR dX3_odds_29
      · have h := (if_neg c3).symm.trans h
        refine s_iload_n hX dX3_odds_18 rfl ?_
        refine s_if_lt hX 28 dX3_odds_19 (by decide) (fun c4 => ?_) (fun c4 => ?_)
        · have h := (if_pos c4).symm.trans h
          refine s_ic hX (-1 : Int32) dX3_odds_28 (by decide) ?_
          cases h
          exact s_iret hX hR dX3_odds_29
        · have h := (if_neg c4).symm.trans h
          refine s_iload_n hX dX3_odds_22 rfl ?_
          refine s_bi hX (12 : Int32) dX3_odds_23 (by decide) ?_
          refine s_ic_le hX 30 dX3_odds_25 (by decide) (fun c5 => ?_) (fun c5 => ?_)
          · have h := (if_pos c5).symm.trans h
            refine s_aload_n hX dX3_odds_30 rfl ?_
            refine s_getr hX dX3_odds_31 f_X3_24 rfl ?_
            refine s_getr hX dX3_odds_34 f_X3_113 rfl ?_
            obtain ⟨q6, e6, h⟩ := fs_bind h
            refine s_cV hX [] dX3_odds_37 k_X3_197 v_X1_weigh (m_X1_weigh 5 fs_K5 σ μ q6 e6) (fs_K_is fs_K5) fs_c1 ⟨rfl, rfl⟩ ⟨(Nat.le_of_ble_eq_true rfl), (Nat.le_of_ble_eq_true rfl)⟩ rfl rfl (Nat.le_of_ble_eq_true rfl) ?_
            refine s_lc hX (0 : Int64) dX3_odds_40 (by decide) ?_
            refine s_lstore hX dX3_odds_41 (Nat.le_of_ble_eq_true rfl) ?_
            refine s_ic hX (0 : Int32) dX3_odds_43 (by decide) ?_
            refine s_istore hX dX3_odds_44 (Nat.le_of_ble_eq_true rfl) ?_
            obtain ⟨q11, e11, h⟩ := fs_bind h
            refine fs_ma [true, true, true, true, true, false, true] ?_
            refine l_X3_odds_46  hX fs_fu x1 x2 x3 (0 : Int64) (0 : Int32) q6 μ q11 e11 ?_
            refine s_aload_n hX dX3_odds_98 rfl ?_
            refine s_lload hX dX3_odds_99 rfl ?_
            obtain ⟨q12, e12, h⟩ := fs_bind h
            refine s_cV hX [.long q11] dX3_odds_101 k_X3_263 v_X3_tellPart (m_X3_tellPart q11 q6 μ q12 e12) ⟨_, rfl⟩ fs_c3 ⟨rfl, rfl⟩ ⟨(Nat.le_of_ble_eq_true rfl), (Nat.le_of_ble_eq_true rfl)⟩ rfl rfl (Nat.le_of_ble_eq_true rfl) ?_
            refine s_ic hX (1 : Int32) dX3_odds_104 (by decide) ?_
            cases h
            exact s_iret hX hR dX3_odds_105
          · have h := (if_neg c5).symm.trans h
            refine s_ic hX (-1 : Int32) dX3_odds_28 (by decide) ?_
            cases h
            exact s_iret hX hR dX3_odds_29

-- X3_givenUnless
def L_X3_givenUnless_4  : Nat → Int32 → Int32 → Int32 → fsS → Option (Int32)
  | 0, _, _, _, _ => none
  | n0 + 1, y1, y2, y3, σ => if (σ 5 0) ≤ y3 then some y2 else (F_X1_paidUnless 5 y1 y3 σ).bind (fun q2 => L_X3_givenUnless_4  n0 y1 (y2 + q2) (y3 + (1 : Int32)) σ)
def F_X3_givenUnless (x1 : Int32) (σ : fsS) : Option (Int32) := (L_X3_givenUnless_4  fs_fu x1 (0 : Int32) (0 : Int32) σ).bind (fun q3 => some q3)
set_option maxRecDepth 20000 in
set_option maxHeartbeats 40000000 in
theorem l_X3_givenUnless_4   {X : fsC} (hX : fs_ok cX3_givenUnless RX3 4 { frames := 2, cells := 0, slots := 0, locals := 46 } X) : ∀ (n : Nat) (y1 : Int32) (y2 : Int32) (y3 : Int32) (σ : fsS) (μ : fsL) (out : Int32) (_ : L_X3_givenUnless_4  n y1 y2 y3 σ = some out) (k0 : fs_PW X 39 [none, none, some (.int out), none] [] σ μ), fs_PW X 4 [some (.ref 0), some (.int y1), some (.int y2), some (.int y3)] [] σ μ := by
  intro n
  induction n with
  | zero =>
    intro y1 y2 y3 σ μ out h
    cases (show (none : Option (Int32)) = some out from h)
  | succ n0 ih =>
    intro y1 y2 y3 σ μ out h k0
    unfold L_X3_givenUnless_4 at h
    refine s_iload_n hX dX3_givenUnless_4 rfl ?_
    refine s_aload_n hX dX3_givenUnless_5 rfl ?_
    refine s_getr hX dX3_givenUnless_6 f_X3_24 rfl ?_
    refine s_getr hX dX3_givenUnless_9 f_X3_113 rfl ?_
    refine s_geti hX dX3_givenUnless_12 f_X3_116 rfl ?_
    refine s_ic_ge hX 39 dX3_givenUnless_15 (by decide) (fun c1 => ?_) (fun c1 => ?_)
    · have h := (if_pos c1).symm.trans h
      cases h
      refine fs_ma [false, false, true, false] ?_
      exact k0
    · have h := (if_neg c1).symm.trans h
      refine s_iload_n hX dX3_givenUnless_18 rfl ?_
      refine s_aload_n hX dX3_givenUnless_19 rfl ?_
      refine s_getr hX dX3_givenUnless_20 f_X3_24 rfl ?_
      refine s_getr hX dX3_givenUnless_23 f_X3_113 rfl ?_
      refine s_iload_n hX dX3_givenUnless_26 rfl ?_
      refine s_iload_n hX dX3_givenUnless_27 rfl ?_
      obtain ⟨q2, e2, h⟩ := fs_bind h
      refine s_cV hX [.int y1, .int y3] dX3_givenUnless_28 k_X3_256 v_X1_paidUnless (m_X1_paidUnless 5 y1 y3 fs_K5 σ μ q2 e2) (fs_K_is fs_K5) fs_c1 ⟨rfl, rfl⟩ ⟨(Nat.le_of_ble_eq_true rfl), (Nat.le_of_ble_eq_true rfl)⟩ rfl rfl (Nat.le_of_ble_eq_true rfl) ?_
      refine s_iadd hX dX3_givenUnless_31 ?_
      refine s_istore_n hX dX3_givenUnless_32 (Nat.le_of_ble_eq_true rfl) ?_
      refine s_iinc hX (y3 + (1 : Int32)) dX3_givenUnless_33 rfl rfl (Nat.le_of_ble_eq_true rfl) ?_
      refine s_goto hX 4 dX3_givenUnless_36 (by decide) ?_
      refine fs_ma [true, true, true, true] ?_
      exact ih y1 (y2 + q2) (y3 + (1 : Int32)) σ μ out h k0
set_option maxRecDepth 20000 in
set_option maxHeartbeats 40000000 in
theorem m_X3_givenUnless (x1 : Int32)  (σ : fsS) (μ : fsL) (out : Int32) (h : F_X3_givenUnless x1 σ = some out) : fs_Met yX3_givenUnless cX3_givenUnless 4 (some .int) { frames := 2, cells := 0, slots := 0, locals := 46 } [.ref 0, .int x1] σ μ (some (.int out)) σ μ := by
  unfold F_X3_givenUnless at h
  refine fs_intro (by decide +kernel) (Nat.le_of_ble_eq_true rfl) (fun X hX hR => ?_)
  show fs_PW X 0 [some (.ref 0), some (.int x1), none, none] [] σ μ
  refine s_ic hX (0 : Int32) dX3_givenUnless_0 (by decide) ?_
  refine s_istore_n hX dX3_givenUnless_1 (Nat.le_of_ble_eq_true rfl) ?_
  refine s_ic hX (0 : Int32) dX3_givenUnless_2 (by decide) ?_
  refine s_istore_n hX dX3_givenUnless_3 (Nat.le_of_ble_eq_true rfl) ?_
  obtain ⟨q3, e3, h⟩ := fs_bind h
  refine fs_ma [true, true, true, true] ?_
  refine l_X3_givenUnless_4  hX fs_fu x1 (0 : Int32) (0 : Int32) σ μ q3 e3 ?_
  refine s_iload_n hX dX3_givenUnless_39 rfl ?_
  cases h
  exact s_iret hX hR dX3_givenUnless_40

-- X3_mid
def L_X3_mid_37  : Nat → Int32 → Int64 → Int32 → fsS → Option (Int64)
  | 0, _, _, _, _ => none
  | n0 + 1, y1, y2, y4, σ => if ((1 : Int32) <<< ((σ 5 0) &&& 31)) ≤ y4 then some y2 else (F_X3_chanceOf y4 y1 σ).bind (fun q6 => (F_X3_givenUnless y4 σ).bind (fun q7 => L_X3_mid_37  n0 y1 (y2 + (q6 * (q7.toInt64))) (y4 + (1 : Int32)) σ))
def F_X3_mid (x1 : Int32) (σ : fsS) (μ : fsL) : Option (Int32 × fsS × fsL) := if x1 < 0 then some ((-1 : Int32), σ, μ) else if x1 ≤ (12 : Int32) then if (F_X3_noKin  σ) = 0 then (F_X1_weigh 5 σ).bind (fun q4 => (L_X3_mid_37  fs_fu x1 (0 : Int64) (0 : Int32) q4).bind (fun q8 => (F_X3_tellPart q8 q4 μ).bind (fun q9 => some ((1 : Int32), q4, q9)))) else some ((-4 : Int32), σ, μ) else some ((-1 : Int32), σ, μ)
set_option maxRecDepth 20000 in
set_option maxHeartbeats 40000000 in
theorem l_X3_mid_37   {X : fsC} (hX : fs_ok cX3_mid RX3 5 { frames := 3, cells := 0, slots := 0, locals := 69 } X) : ∀ (n : Nat) (y1 : Int32) (y2 : Int64) (y4 : Int32) (σ : fsS) (μ : fsL) (out : Int64) (_ : L_X3_mid_37  n y1 y2 y4 σ = some out) (k0 : fs_PW X 78 [some (.ref 0), none, some (.long out), none, none] [] σ μ), fs_PW X 37 [some (.ref 0), some (.int y1), some (.long y2), none, some (.int y4)] [] σ μ := by
  intro n
  induction n with
  | zero =>
    intro y1 y2 y4 σ μ out h
    cases (show (none : Option (Int64)) = some out from h)
  | succ n0 ih =>
    intro y1 y2 y4 σ μ out h k0
    unfold L_X3_mid_37 at h
    refine s_iload hX dX3_mid_37 rfl ?_
    refine s_ic hX (1 : Int32) dX3_mid_39 (by decide) ?_
    refine s_aload_n hX dX3_mid_40 rfl ?_
    refine s_getr hX dX3_mid_41 f_X3_24 rfl ?_
    refine s_getr hX dX3_mid_44 f_X3_113 rfl ?_
    refine s_geti hX dX3_mid_47 f_X3_116 rfl ?_
    refine s_ishl hX dX3_mid_50 ?_
    refine s_ic_ge hX 78 dX3_mid_51 (by decide) (fun c5 => ?_) (fun c5 => ?_)
    · have h := (if_pos c5).symm.trans h
      cases h
      refine fs_ma [true, false, true, false, false] ?_
      exact k0
    · have h := (if_neg c5).symm.trans h
      refine s_lload_n hX dX3_mid_54 rfl ?_
      refine s_aload_n hX dX3_mid_55 rfl ?_
      refine s_iload hX dX3_mid_56 rfl ?_
      refine s_iload_n hX dX3_mid_58 rfl ?_
      obtain ⟨q6, e6, h⟩ := fs_bind h
      refine s_cV hX [.int y4, .int y1] dX3_mid_59 k_X3_259 v_X3_chanceOf (m_X3_chanceOf y4 y1 σ μ q6 e6) ⟨_, rfl⟩ fs_c3 ⟨rfl, rfl⟩ ⟨(Nat.le_of_ble_eq_true rfl), (Nat.le_of_ble_eq_true rfl)⟩ rfl rfl (Nat.le_of_ble_eq_true rfl) ?_
      refine s_aload_n hX dX3_mid_62 rfl ?_
      refine s_iload hX dX3_mid_63 rfl ?_
      obtain ⟨q7, e7, h⟩ := fs_bind h
      refine s_cV hX [.int y4] dX3_mid_65 k_X3_267 v_X3_givenUnless (m_X3_givenUnless y4 σ μ q7 e7) ⟨_, rfl⟩ fs_c3 ⟨rfl, rfl⟩ ⟨(Nat.le_of_ble_eq_true rfl), (Nat.le_of_ble_eq_true rfl)⟩ rfl rfl (Nat.le_of_ble_eq_true rfl) ?_
      refine s_i2l hX dX3_mid_68 ?_
      refine s_lmul hX dX3_mid_69 ?_
      refine s_ladd hX dX3_mid_70 ?_
      refine s_lstore_n hX dX3_mid_71 (Nat.le_of_ble_eq_true rfl) ?_
      refine s_iinc hX (y4 + (1 : Int32)) dX3_mid_72 rfl rfl (Nat.le_of_ble_eq_true rfl) ?_
      refine s_goto hX 37 dX3_mid_75 (by decide) ?_
      refine fs_ma [true, true, true, false, true] ?_
      exact ih y1 (y2 + (q6 * (q7.toInt64))) (y4 + (1 : Int32)) σ μ out h k0
set_option maxRecDepth 20000 in
set_option maxHeartbeats 40000000 in
theorem m_X3_mid (x1 : Int32)  (σ : fsS) (μ : fsL) (out : Int32 × fsS × fsL) (h : F_X3_mid x1 σ μ = some out) : fs_Met yX3_mid cX3_mid 5 (some .int) { frames := 3, cells := 0, slots := 0, locals := 69 } [.ref 0, .int x1] σ μ (some (.int out.1)) out.2.1 out.2.2 := by
  unfold F_X3_mid at h
  refine fs_intro (by decide +kernel) (Nat.le_of_ble_eq_true rfl) (fun X hX hR => ?_)
  show fs_PW X 0 [some (.ref 0), some (.int x1), none, none, none] [] σ μ
  refine s_iload_n hX dX3_mid_0 rfl ?_
  refine s_if_lt hX 10 dX3_mid_1 (by decide) (fun c1 => ?_) (fun c1 => ?_)
  · have h := (if_pos c1).symm.trans h
    refine s_ic hX (-1 : Int32) dX3_mid_10 (by decide) ?_
    cases h
    exact s_iret hX hR dX3_mid_11
  · have h := (if_neg c1).symm.trans h
    refine s_iload_n hX dX3_mid_4 rfl ?_
    refine s_bi hX (12 : Int32) dX3_mid_5 (by decide) ?_
    refine s_ic_le hX 12 dX3_mid_7 (by decide) (fun c2 => ?_) (fun c2 => ?_)
    · have h := (if_pos c2).symm.trans h
      refine s_aload_n hX dX3_mid_12 rfl ?_
      refine s_cV hX [] dX3_mid_13 k_X3_150 v_X3_noKin (m_X3_noKin σ μ _ rfl) ⟨_, rfl⟩ fs_c3 ⟨rfl, rfl⟩ ⟨(Nat.le_of_ble_eq_true rfl), (Nat.le_of_ble_eq_true rfl)⟩ rfl rfl (Nat.le_of_ble_eq_true rfl) ?_
      refine s_if_eq hX 22 dX3_mid_16 (by decide) (fun c3 => ?_) (fun c3 => ?_)
      · have h := (if_pos c3).symm.trans h
        refine s_aload_n hX dX3_mid_22 rfl ?_
        refine s_getr hX dX3_mid_23 f_X3_24 rfl ?_
        refine s_getr hX dX3_mid_26 f_X3_113 rfl ?_
        obtain ⟨q4, e4, h⟩ := fs_bind h
        refine s_cV hX [] dX3_mid_29 k_X3_197 v_X1_weigh (m_X1_weigh 5 fs_K5 σ μ q4 e4) (fs_K_is fs_K5) fs_c1 ⟨rfl, rfl⟩ ⟨(Nat.le_of_ble_eq_true rfl), (Nat.le_of_ble_eq_true rfl)⟩ rfl rfl (Nat.le_of_ble_eq_true rfl) ?_
        refine s_lc hX (0 : Int64) dX3_mid_32 (by decide) ?_
        refine s_lstore_n hX dX3_mid_33 (Nat.le_of_ble_eq_true rfl) ?_
        refine s_ic hX (0 : Int32) dX3_mid_34 (by decide) ?_
        refine s_istore hX dX3_mid_35 (Nat.le_of_ble_eq_true rfl) ?_
        obtain ⟨q8, e8, h⟩ := fs_bind h
        refine fs_ma [true, true, true, false, true] ?_
        refine l_X3_mid_37  hX fs_fu x1 (0 : Int64) (0 : Int32) q4 μ q8 e8 ?_
        refine s_aload_n hX dX3_mid_78 rfl ?_
        refine s_lload_n hX dX3_mid_79 rfl ?_
        obtain ⟨q9, e9, h⟩ := fs_bind h
        refine s_cV hX [.long q8] dX3_mid_80 k_X3_263 v_X3_tellPart (m_X3_tellPart q8 q4 μ q9 e9) ⟨_, rfl⟩ fs_c3 ⟨rfl, rfl⟩ ⟨(Nat.le_of_ble_eq_true rfl), (Nat.le_of_ble_eq_true rfl)⟩ rfl rfl (Nat.le_of_ble_eq_true rfl) ?_
        refine s_ic hX (1 : Int32) dX3_mid_83 (by decide) ?_
        cases h
        exact s_iret hX hR dX3_mid_84
      · have h := (if_neg c3).symm.trans h
        refine s_bi hX (-4 : Int32) dX3_mid_19 (by decide) ?_
        cases h
        exact s_iret hX hR dX3_mid_21
    · have h := (if_neg c2).symm.trans h
      refine s_ic hX (-1 : Int32) dX3_mid_10 (by decide) ?_
      cases h
      exact s_iret hX hR dX3_mid_11
