-- X4_allWays
def L_X4_allWays_4  : Nat → Int64 → Int32 → fsS → Option (Int64)
  | 0, _, _, _ => none
  | n0 + 1, y1, y3, σ => if (σ 51 9) ≤ y3 then some y1 else L_X4_allWays_4  n0 (y1 * (12 : Int64)) (y3 + (1 : Int32)) σ
def F_X4_allWays (σ : fsS) : Option (Int64) := (L_X4_allWays_4  fs_fu (1 : Int64) (0 : Int32) σ).bind (fun q2 => some q2)
set_option maxRecDepth 20000 in
set_option maxHeartbeats 40000000 in
theorem l_X4_allWays_4   {X : fsC} (hX : fs_ok cX4_allWays RX4 4 { frames := 0, cells := 0, slots := 0, locals := 0 } X) : ∀ (n : Nat) (y1 : Int64) (y3 : Int32) (σ : fsS) (μ : fsL) (out : Int64) (_ : L_X4_allWays_4  n y1 y3 σ = some out) (k0 : fs_PW X 24 [none, some (.long out), none, none] [] σ μ), fs_PW X 4 [some (.ref 51), some (.long y1), none, some (.int y3)] [] σ μ := by
  intro n
  induction n with
  | zero =>
    intro y1 y3 σ μ out h
    cases (show (none : Option (Int64)) = some out from h)
  | succ n0 ih =>
    intro y1 y3 σ μ out h k0
    unfold L_X4_allWays_4 at h
    refine s_iload_n hX dX4_allWays_4 rfl ?_
    refine s_aload_n hX dX4_allWays_5 rfl ?_
    refine s_geti hX dX4_allWays_6 f_X4_136 rfl ?_
    refine s_ic_ge hX 24 dX4_allWays_9 (by decide) (fun c1 => ?_) (fun c1 => ?_)
    · have h := (if_pos c1).symm.trans h
      cases h
      refine fs_ma [false, true, false, false] ?_
      exact k0
    · have h := (if_neg c1).symm.trans h
      refine s_lload_n hX dX4_allWays_12 rfl ?_
      refine s_ldc2 hX (12 : Int64) dX4_allWays_13 q_X4_237 ?_
      refine s_lmul hX dX4_allWays_16 ?_
      refine s_lstore_n hX dX4_allWays_17 (Nat.le_of_ble_eq_true rfl) ?_
      refine s_iinc hX (y3 + (1 : Int32)) dX4_allWays_18 rfl rfl (Nat.le_of_ble_eq_true rfl) ?_
      refine s_goto hX 4 dX4_allWays_21 (by decide) ?_
      refine fs_ma [true, true, false, true] ?_
      exact ih (y1 * (12 : Int64)) (y3 + (1 : Int32)) σ μ out h k0
set_option maxRecDepth 20000 in
set_option maxHeartbeats 40000000 in
theorem m_X4_allWays   (σ : fsS) (μ : fsL) (out : Int64) (h : F_X4_allWays  σ = some out) : fs_Met yX4_allWays cX4_allWays 4 (some .long) { frames := 0, cells := 0, slots := 0, locals := 0 } [.ref 51] σ μ (some (.long out)) σ μ := by
  unfold F_X4_allWays at h
  refine fs_intro (by decide +kernel) (Nat.le_of_ble_eq_true rfl) (fun X hX hR => ?_)
  show fs_PW X 0 [some (.ref 51), none, none, none] [] σ μ
  refine s_lc hX (1 : Int64) dX4_allWays_0 (by decide) ?_
  refine s_lstore_n hX dX4_allWays_1 (Nat.le_of_ble_eq_true rfl) ?_
  refine s_ic hX (0 : Int32) dX4_allWays_2 (by decide) ?_
  refine s_istore_n hX dX4_allWays_3 (Nat.le_of_ble_eq_true rfl) ?_
  obtain ⟨q2, e2, h⟩ := fs_bind h
  refine fs_ma [true, true, false, true] ?_
  refine l_X4_allWays_4  hX fs_fu (1 : Int64) (0 : Int32) σ μ q2 e2 ?_
  refine s_lload_n hX dX4_allWays_24 rfl ?_
  cases h
  exact s_lret hX hR dX4_allWays_25

-- X4_odds
def F_X4_odds (x1 : Int32) (x2 : Int32) (x3 : Int32) (σ : fsS) (μ : fsL) : Option (Int32 × fsS × fsL) := if (F_X4_isOne x1 σ) = 0 then some ((-1 : Int32), σ, μ) else if (F_X4_in (x2.toInt64) (0 : Int64) (40 : Int64)) = 0 then some ((-1 : Int32), σ, μ) else if (F_X4_in (x3.toInt64) (0 : Int64) (12 : Int64)) = 0 then some ((-1 : Int32), σ, μ) else (F_X4_ways x1 x2 x3 σ).bind (fun q4 => (F_X4_allWays  q4.2).bind (fun q5 => (F_X4_fraction q4.1 q5 μ).bind (fun q6 => some (q6.1, q4.2, q6.2))))
set_option maxRecDepth 20000 in
set_option maxHeartbeats 40000000 in
theorem m_X4_odds (x1 : Int32) (x2 : Int32) (x3 : Int32)  (σ : fsS) (μ : fsL) (out : Int32 × fsS × fsL) (h : F_X4_odds x1 x2 x3 σ μ = some out) : fs_Met yX4_odds cX4_odds 4 (some .int) { frames := 4, cells := 0, slots := 0, locals := 100 } [.ref 51, .int x1, .int x2, .int x3] σ μ (some (.int out.1)) out.2.1 out.2.2 := by
  unfold F_X4_odds at h
  refine fs_intro (by decide +kernel) (Nat.le_of_ble_eq_true rfl) (fun X hX hR => ?_)
  show fs_PW X 0 [some (.ref 51), some (.int x1), some (.int x2), some (.int x3)] [] σ μ
  refine s_aload_n hX dX4_odds_0 rfl ?_
  refine s_iload_n hX dX4_odds_1 rfl ?_
  refine s_cV hX [.int x1] dX4_odds_2 k_X4_157 v_X4_isOne (m_X4_isOne x1 σ μ _ rfl) ⟨_, rfl⟩ fs_c4 ⟨rfl, rfl⟩ ⟨(Nat.le_of_ble_eq_true rfl), (Nat.le_of_ble_eq_true rfl)⟩ rfl rfl (Nat.le_of_ble_eq_true rfl) ?_
  refine s_if_eq hX 50 dX4_odds_5 (by decide) (fun c1 => ?_) (fun c1 => ?_)
  · have h := (if_pos c1).symm.trans h
    refine s_ic hX (-1 : Int32) dX4_odds_50 (by decide) ?_
    cases h
    exact s_iret hX hR dX4_odds_51
  · have h := (if_neg c1).symm.trans h
    refine s_iload_n hX dX4_odds_8 rfl ?_
    refine s_i2l hX dX4_odds_9 ?_
    refine s_lc hX (0 : Int64) dX4_odds_10 (by decide) ?_
    refine s_ldc2 hX (40 : Int64) dX4_odds_11 q_X4_197 ?_
    refine s_callS hX (as := [.long (x2.toInt64), .long (0 : Int64), .long (40 : Int64)]) dX4_odds_14 k_X4_74 v_X4_in (m_X4_in (x2.toInt64) (0 : Int64) (40 : Int64) σ μ _ rfl) ⟨rfl, rfl⟩ ⟨(Nat.le_of_ble_eq_true rfl), (Nat.le_of_ble_eq_true rfl)⟩ rfl rfl (Nat.le_of_ble_eq_true rfl) ?_
    refine s_if_eq hX 50 dX4_odds_17 (by decide) (fun c2 => ?_) (fun c2 => ?_)
    · have h := (if_pos c2).symm.trans h
      refine s_ic hX (-1 : Int32) dX4_odds_50 (by decide) ?_
      cases h
      exact s_iret hX hR dX4_odds_51
    · have h := (if_neg c2).symm.trans h
      refine s_iload_n hX dX4_odds_20 rfl ?_
      refine s_i2l hX dX4_odds_21 ?_
      refine s_lc hX (0 : Int64) dX4_odds_22 (by decide) ?_
      refine s_ldc2 hX (12 : Int64) dX4_odds_23 q_X4_237 ?_
      refine s_callS hX (as := [.long (x3.toInt64), .long (0 : Int64), .long (12 : Int64)]) dX4_odds_26 k_X4_74 v_X4_in (m_X4_in (x3.toInt64) (0 : Int64) (12 : Int64) σ μ _ rfl) ⟨rfl, rfl⟩ ⟨(Nat.le_of_ble_eq_true rfl), (Nat.le_of_ble_eq_true rfl)⟩ rfl rfl (Nat.le_of_ble_eq_true rfl) ?_
      refine s_if_eq hX 50 dX4_odds_29 (by decide) (fun c3 => ?_) (fun c3 => ?_)
      · have h := (if_pos c3).symm.trans h
        refine s_ic hX (-1 : Int32) dX4_odds_50 (by decide) ?_
        cases h
        exact s_iret hX hR dX4_odds_51
      · have h := (if_neg c3).symm.trans h
        refine s_aload_n hX dX4_odds_32 rfl ?_
        refine s_aload_n hX dX4_odds_33 rfl ?_
        refine s_iload_n hX dX4_odds_34 rfl ?_
        refine s_iload_n hX dX4_odds_35 rfl ?_
        refine s_iload_n hX dX4_odds_36 rfl ?_
        obtain ⟨q4, e4, h⟩ := fs_bind h
        refine s_cV hX [.int x1, .int x2, .int x3] dX4_odds_37 k_X4_239 v_X4_ways (m_X4_ways x1 x2 x3 σ μ q4 e4) ⟨_, rfl⟩ fs_c4 ⟨rfl, rfl⟩ ⟨(Nat.le_of_ble_eq_true rfl), (Nat.le_of_ble_eq_true rfl)⟩ rfl rfl (Nat.le_of_ble_eq_true rfl) ?_
        refine s_aload_n hX dX4_odds_40 rfl ?_
        obtain ⟨q5, e5, h⟩ := fs_bind h
        refine s_cV hX [] dX4_odds_41 k_X4_243 v_X4_allWays (m_X4_allWays q4.2 μ q5 e5) ⟨_, rfl⟩ fs_c4 ⟨rfl, rfl⟩ ⟨(Nat.le_of_ble_eq_true rfl), (Nat.le_of_ble_eq_true rfl)⟩ rfl rfl (Nat.le_of_ble_eq_true rfl) ?_
        obtain ⟨q6, e6, h⟩ := fs_bind h
        refine s_cV hX [.long q4.1, .long q5] dX4_odds_44 k_X4_247 v_X4_fraction (m_X4_fraction q4.1 q5 q4.2 μ q6 e6) ⟨_, rfl⟩ fs_c4 ⟨rfl, rfl⟩ ⟨(Nat.le_of_ble_eq_true rfl), (Nat.le_of_ble_eq_true rfl)⟩ rfl rfl (Nat.le_of_ble_eq_true rfl) ?_
        refine s_goto hX 51 dX4_odds_47 (by decide) ?_
        cases h
        exact s_iret hX hR dX4_odds_51

-- X4_mid
def F_X4_mid (x1 : Int32) (σ : fsS) (μ : fsL) : Option (Int32 × fsS × fsL) := if (F_X4_in (x1.toInt64) (0 : Int64) (12 : Int64)) = 0 then some ((-1 : Int32), σ, μ) else if (σ 51 9) = 0 then some ((-4 : Int32), σ, μ) else (F_X4_ways (-9 : Int32) (0 : Int32) x1 σ).bind (fun q3 => (F_X4_allWays  q3.2).bind (fun q4 => (F_X4_fraction q3.1 q4 μ).bind (fun q5 => some (q5.1, q3.2, q5.2))))
set_option maxRecDepth 20000 in
set_option maxHeartbeats 40000000 in
theorem m_X4_mid (x1 : Int32)  (σ : fsS) (μ : fsL) (out : Int32 × fsS × fsL) (h : F_X4_mid x1 σ μ = some out) : fs_Met yX4_mid cX4_mid 2 (some .int) { frames := 4, cells := 0, slots := 0, locals := 100 } [.ref 51, .int x1] σ μ (some (.int out.1)) out.2.1 out.2.2 := by
  unfold F_X4_mid at h
  refine fs_intro (by decide +kernel) (Nat.le_of_ble_eq_true rfl) (fun X hX hR => ?_)
  show fs_PW X 0 [some (.ref 51), some (.int x1)] [] σ μ
  refine s_iload_n hX dX4_mid_0 rfl ?_
  refine s_i2l hX dX4_mid_1 ?_
  refine s_lc hX (0 : Int64) dX4_mid_2 (by decide) ?_
  refine s_ldc2 hX (12 : Int64) dX4_mid_3 q_X4_237 ?_
  refine s_callS hX (as := [.long (x1.toInt64), .long (0 : Int64), .long (12 : Int64)]) dX4_mid_6 k_X4_74 v_X4_in (m_X4_in (x1.toInt64) (0 : Int64) (12 : Int64) σ μ _ rfl) ⟨rfl, rfl⟩ ⟨(Nat.le_of_ble_eq_true rfl), (Nat.le_of_ble_eq_true rfl)⟩ rfl rfl (Nat.le_of_ble_eq_true rfl) ?_
  refine s_if_ne hX 14 dX4_mid_9 (by decide) (fun c1 => ?_) (fun c1 => ?_)
  · have h := (if_neg c1).symm.trans h
    refine s_aload_n hX dX4_mid_14 rfl ?_
    refine s_geti hX dX4_mid_15 f_X4_136 rfl ?_
    refine s_if_ne hX 26 dX4_mid_18 (by decide) (fun c2 => ?_) (fun c2 => ?_)
    · have h := (if_neg c2).symm.trans h
      refine s_aload_n hX dX4_mid_26 rfl ?_
      refine s_aload_n hX dX4_mid_27 rfl ?_
      refine s_bi hX (-9 : Int32) dX4_mid_28 (by decide) ?_
      refine s_ic hX (0 : Int32) dX4_mid_30 (by decide) ?_
      refine s_iload_n hX dX4_mid_31 rfl ?_
      obtain ⟨q3, e3, h⟩ := fs_bind h
      refine s_cV hX [.int (-9 : Int32), .int (0 : Int32), .int x1] dX4_mid_32 k_X4_239 v_X4_ways (m_X4_ways (-9 : Int32) (0 : Int32) x1 σ μ q3 e3) ⟨_, rfl⟩ fs_c4 ⟨rfl, rfl⟩ ⟨(Nat.le_of_ble_eq_true rfl), (Nat.le_of_ble_eq_true rfl)⟩ rfl rfl (Nat.le_of_ble_eq_true rfl) ?_
      refine s_aload_n hX dX4_mid_35 rfl ?_
      obtain ⟨q4, e4, h⟩ := fs_bind h
      refine s_cV hX [] dX4_mid_36 k_X4_243 v_X4_allWays (m_X4_allWays q3.2 μ q4 e4) ⟨_, rfl⟩ fs_c4 ⟨rfl, rfl⟩ ⟨(Nat.le_of_ble_eq_true rfl), (Nat.le_of_ble_eq_true rfl)⟩ rfl rfl (Nat.le_of_ble_eq_true rfl) ?_
      obtain ⟨q5, e5, h⟩ := fs_bind h
      refine s_cV hX [.long q3.1, .long q4] dX4_mid_39 k_X4_247 v_X4_fraction (m_X4_fraction q3.1 q4 q3.2 μ q5 e5) ⟨_, rfl⟩ fs_c4 ⟨rfl, rfl⟩ ⟨(Nat.le_of_ble_eq_true rfl), (Nat.le_of_ble_eq_true rfl)⟩ rfl rfl (Nat.le_of_ble_eq_true rfl) ?_
      cases h
      exact s_iret hX hR dX4_mid_42
    · have h := (if_pos c2).symm.trans h
      refine s_bi hX (-4 : Int32) dX4_mid_21 (by decide) ?_
      refine s_goto hX 42 dX4_mid_23 (by decide) ?_
      cases h
      exact s_iret hX hR dX4_mid_42
  · have h := (if_pos c1).symm.trans h
    refine s_ic hX (-1 : Int32) dX4_mid_12 (by decide) ?_
    cases h
    exact s_iret hX hR dX4_mid_13

-- X4_lot
def F_X4_lot (x1 : Int32) (σ : fsS) : Option (fsS) := fs_g (¬ (σ 51 9) = 0) ((F_X4_remember  σ).bind (fun q2 => if (x1 - x1 / (4 : Int32) * (4 : Int32)) = 0 then fs_g (fs_in ((7 : Int32) + ((x1 / (8 : Int32)) - (x1 / (8 : Int32)) / (σ 51 9) * (σ 51 9))) 13) (if (q2 60 ((7 : Int32) + ((x1 / (8 : Int32)) - (x1 / (8 : Int32)) / (σ 51 9) * (σ 51 9))).toNatClampNeg) = (3 : Int32) then fs_g (fs_in ((7 : Int32) + ((x1 / (8 : Int32)) - (x1 / (8 : Int32)) / (σ 51 9) * (σ 51 9))) 13) (some (fs_u q2 60 ((7 : Int32) + ((x1 / (8 : Int32)) - (x1 / (8 : Int32)) / (σ 51 9) * (σ 51 9))).toNatClampNeg (0 : Int32))) else fs_g (fs_in ((7 : Int32) + ((x1 / (8 : Int32)) - (x1 / (8 : Int32)) / (σ 51 9) * (σ 51 9))) 13) (fs_g (fs_in ((7 : Int32) + ((x1 / (8 : Int32)) - (x1 / (8 : Int32)) / (σ 51 9) * (σ 51 9))) 13) (some (fs_u q2 60 ((7 : Int32) + ((x1 / (8 : Int32)) - (x1 / (8 : Int32)) / (σ 51 9) * (σ 51 9))).toNatClampNeg ((q2 60 ((7 : Int32) + ((x1 / (8 : Int32)) - (x1 / (8 : Int32)) / (σ 51 9) * (σ 51 9))).toNatClampNeg) + (1 : Int32)))))) else if (x1 - x1 / (4 : Int32) * (4 : Int32)) = (1 : Int32) then fs_g (fs_in ((7 : Int32) + ((x1 / (8 : Int32)) - (x1 / (8 : Int32)) / (σ 51 9) * (σ 51 9))) 13) (some (fs_u q2 60 ((7 : Int32) + ((x1 / (8 : Int32)) - (x1 / (8 : Int32)) / (σ 51 9) * (σ 51 9))).toNatClampNeg (0 : Int32))) else if (99 : Int32) ≤ (q2 60 0) then some q2 else (F_X4_goes 60 q2).bind (fun q6 => some q6.2)))
set_option maxRecDepth 20000 in
set_option maxHeartbeats 40000000 in
theorem m_X4_lot (x1 : Int32)  (σ : fsS) (μ : fsL) (out : fsS) (h : F_X4_lot x1 σ = some out) : fs_Met yX4_lot cX4_lot 4 none { frames := 4, cells := 0, slots := 0, locals := 93 } [.ref 51, .int x1] σ μ none out μ := by
  unfold F_X4_lot at h
  refine fs_intro (by decide +kernel) (Nat.le_of_ble_eq_true rfl) (fun X hX hR => ?_)
  show fs_PW X 0 [some (.ref 51), some (.int x1), none, none] [] σ μ
  refine s_iload_n hX dX4_lot_0 rfl ?_
  refine s_bi hX (8 : Int32) dX4_lot_1 (by decide) ?_
  refine s_idiv hX dX4_lot_3 (by decide) ?_
  refine s_aload_n hX dX4_lot_4 rfl ?_
  refine s_geti hX dX4_lot_5 f_X4_136 rfl ?_
  obtain ⟨g1, h⟩ := fs_gd h
  refine s_irem hX dX4_lot_8 g1 ?_
  refine s_istore_n hX dX4_lot_9 (Nat.le_of_ble_eq_true rfl) ?_
  refine s_aload_n hX dX4_lot_10 rfl ?_
  obtain ⟨q2, e2, h⟩ := fs_bind h
  refine s_cV hX [] dX4_lot_11 k_X4_178 v_X4_remember (m_X4_remember σ μ q2 e2) ⟨_, rfl⟩ fs_c4 ⟨rfl, rfl⟩ ⟨(Nat.le_of_ble_eq_true rfl), (Nat.le_of_ble_eq_true rfl)⟩ rfl rfl (Nat.le_of_ble_eq_true rfl) ?_
  refine s_iload_n hX dX4_lot_14 rfl ?_
  refine s_ic hX (4 : Int32) dX4_lot_15 (by decide) ?_
  refine s_irem hX dX4_lot_16 (by decide) ?_
  refine s_if_ne hX 60 dX4_lot_17 (by decide) (fun c3 => ?_) (fun c3 => ?_)
  · have h := (if_neg c3).symm.trans h
    refine s_iload_n hX dX4_lot_60 rfl ?_
    refine s_ic hX (4 : Int32) dX4_lot_61 (by decide) ?_
    refine s_irem hX dX4_lot_62 (by decide) ?_
    refine s_ic hX (1 : Int32) dX4_lot_63 (by decide) ?_
    refine s_ic_ne hX 80 dX4_lot_64 (by decide) (fun c4 => ?_) (fun c4 => ?_)
    · have h := (if_neg c4).symm.trans h
      refine s_aload_n hX dX4_lot_80 rfl ?_
      refine s_getr hX dX4_lot_81 f_X4_38 rfl ?_
      refine s_ic hX (0 : Int32) dX4_lot_84 (by decide) ?_
      refine s_iald hX dX4_lot_85 (show fs_in (0 : Int32) 13 by decide) ?_
      refine s_bi hX (99 : Int32) dX4_lot_86 (by decide) ?_
      refine s_ic_ge hX 100 dX4_lot_88 (by decide) (fun c5 => ?_) (fun c5 => ?_)
      · have h := (if_pos c5).symm.trans h
        cases h
        exact s_vret hX hR dX4_lot_100
      · have h := (if_neg c5).symm.trans h
        refine s_aload_n hX dX4_lot_91 rfl ?_
        refine s_aload_n hX dX4_lot_92 rfl ?_
        refine s_getr hX dX4_lot_93 f_X4_38 rfl ?_
        obtain ⟨q6, e6, h⟩ := fs_bind h
        refine s_cV hX [.ref 60] dX4_lot_96 k_X4_181 v_X4_goes (m_X4_goes 60 q2 μ q6 e6) ⟨_, rfl⟩ fs_c4 ⟨rfl, rfl⟩ ⟨(Nat.le_of_ble_eq_true rfl), (Nat.le_of_ble_eq_true rfl)⟩ rfl rfl (Nat.le_of_ble_eq_true rfl) ?_
        refine s_istore_n hX dX4_lot_99 (Nat.le_of_ble_eq_true rfl) ?_
        cases h
        exact s_vret hX hR dX4_lot_100
    · have h := (if_pos c4).symm.trans h
      refine s_aload_n hX dX4_lot_67 rfl ?_
      refine s_getr hX dX4_lot_68 f_X4_38 rfl ?_
      refine s_bi hX (7 : Int32) dX4_lot_71 (by decide) ?_
      refine s_iload_n hX dX4_lot_73 rfl ?_
      refine s_iadd hX dX4_lot_74 ?_
      refine s_ic hX (0 : Int32) dX4_lot_75 (by decide) ?_
      obtain ⟨g7, h⟩ := fs_gd h
      refine s_iast hX dX4_lot_76 g7 ?_
      refine s_goto hX 100 dX4_lot_77 (by decide) ?_
      cases h
      exact s_vret hX hR dX4_lot_100
  · have h := (if_pos c3).symm.trans h
    refine s_aload_n hX dX4_lot_20 rfl ?_
    refine s_getr hX dX4_lot_21 f_X4_38 rfl ?_
    refine s_bi hX (7 : Int32) dX4_lot_24 (by decide) ?_
    refine s_iload_n hX dX4_lot_26 rfl ?_
    refine s_iadd hX dX4_lot_27 ?_
    refine s_aload_n hX dX4_lot_28 rfl ?_
    refine s_getr hX dX4_lot_29 f_X4_38 rfl ?_
    refine s_bi hX (7 : Int32) dX4_lot_32 (by decide) ?_
    refine s_iload_n hX dX4_lot_34 rfl ?_
    refine s_iadd hX dX4_lot_35 ?_
    obtain ⟨g8, h⟩ := fs_gd h
    refine s_iald hX dX4_lot_36 g8 ?_
    refine s_ic hX (3 : Int32) dX4_lot_37 (by decide) ?_
    refine s_ic_ne hX 45 dX4_lot_38 (by decide) (fun c9 => ?_) (fun c9 => ?_)
    · have h := (if_neg c9).symm.trans h
      refine s_aload_n hX dX4_lot_45 rfl ?_
      refine s_getr hX dX4_lot_46 f_X4_38 rfl ?_
      refine s_bi hX (7 : Int32) dX4_lot_49 (by decide) ?_
      refine s_iload_n hX dX4_lot_51 rfl ?_
      refine s_iadd hX dX4_lot_52 ?_
      obtain ⟨g10, h⟩ := fs_gd h
      refine s_iald hX dX4_lot_53 g10 ?_
      refine s_ic hX (1 : Int32) dX4_lot_54 (by decide) ?_
      refine s_iadd hX dX4_lot_55 ?_
      obtain ⟨g11, h⟩ := fs_gd h
      refine s_iast hX dX4_lot_56 g11 ?_
      refine s_goto hX 100 dX4_lot_57 (by decide) ?_
      cases h
      exact s_vret hX hR dX4_lot_100
    · have h := (if_pos c9).symm.trans h
      refine s_ic hX (0 : Int32) dX4_lot_41 (by decide) ?_
      refine s_goto hX 56 dX4_lot_42 (by decide) ?_
      obtain ⟨g12, h⟩ := fs_gd h
      refine s_iast hX dX4_lot_56 g12 ?_
      refine s_goto hX 100 dX4_lot_57 (by decide) ?_
      cases h
      exact s_vret hX hR dX4_lot_100

-- X4_purses
def L_X4_purses_4  : Nat → Int32 → Int32 → fsS → Option (Int32)
  | 0, _, _, _ => none
  | n0 + 1, y1, y2, σ => if (σ 51 9) ≤ y2 then some y1 else fs_g (fs_in ((1 : Int32) + y2) 13) (L_X4_purses_4  n0 (y1 + (σ 60 ((1 : Int32) + y2).toNatClampNeg)) (y2 + (1 : Int32)) σ)
def F_X4_purses (σ : fsS) : Option (Int32) := (L_X4_purses_4  fs_fu (0 : Int32) (0 : Int32) σ).bind (fun q3 => some q3)
set_option maxRecDepth 20000 in
set_option maxHeartbeats 40000000 in
theorem l_X4_purses_4   {X : fsC} (hX : fs_ok cX4_purses RX4 3 { frames := 0, cells := 0, slots := 0, locals := 0 } X) : ∀ (n : Nat) (y1 : Int32) (y2 : Int32) (σ : fsS) (μ : fsL) (out : Int32) (_ : L_X4_purses_4  n y1 y2 σ = some out) (k0 : fs_PW X 29 [none, some (.int out), none] [] σ μ), fs_PW X 4 [some (.ref 51), some (.int y1), some (.int y2)] [] σ μ := by
  intro n
  induction n with
  | zero =>
    intro y1 y2 σ μ out h
    cases (show (none : Option (Int32)) = some out from h)
  | succ n0 ih =>
    intro y1 y2 σ μ out h k0
    unfold L_X4_purses_4 at h
    refine s_iload_n hX dX4_purses_4 rfl ?_
    refine s_aload_n hX dX4_purses_5 rfl ?_
    refine s_geti hX dX4_purses_6 f_X4_136 rfl ?_
    refine s_ic_ge hX 29 dX4_purses_9 (by decide) (fun c1 => ?_) (fun c1 => ?_)
    · have h := (if_pos c1).symm.trans h
      cases h
      refine fs_ma [false, true, false] ?_
      exact k0
    · have h := (if_neg c1).symm.trans h
      refine s_iload_n hX dX4_purses_12 rfl ?_
      refine s_aload_n hX dX4_purses_13 rfl ?_
      refine s_getr hX dX4_purses_14 f_X4_38 rfl ?_
      refine s_ic hX (1 : Int32) dX4_purses_17 (by decide) ?_
      refine s_iload_n hX dX4_purses_18 rfl ?_
      refine s_iadd hX dX4_purses_19 ?_
      obtain ⟨g2, h⟩ := fs_gd h
      refine s_iald hX dX4_purses_20 g2 ?_
      refine s_iadd hX dX4_purses_21 ?_
      refine s_istore_n hX dX4_purses_22 (Nat.le_of_ble_eq_true rfl) ?_
      refine s_iinc hX (y2 + (1 : Int32)) dX4_purses_23 rfl rfl (Nat.le_of_ble_eq_true rfl) ?_
      refine s_goto hX 4 dX4_purses_26 (by decide) ?_
      refine fs_ma [true, true, true] ?_
      exact ih (y1 + (σ 60 ((1 : Int32) + y2).toNatClampNeg)) (y2 + (1 : Int32)) σ μ out h k0
set_option maxRecDepth 20000 in
set_option maxHeartbeats 40000000 in
theorem m_X4_purses   (σ : fsS) (μ : fsL) (out : Int32) (h : F_X4_purses  σ = some out) : fs_Met yX4_purses cX4_purses 3 (some .int) { frames := 0, cells := 0, slots := 0, locals := 0 } [.ref 51] σ μ (some (.int out)) σ μ := by
  unfold F_X4_purses at h
  refine fs_intro (by decide +kernel) (Nat.le_of_ble_eq_true rfl) (fun X hX hR => ?_)
  show fs_PW X 0 [some (.ref 51), none, none] [] σ μ
  refine s_ic hX (0 : Int32) dX4_purses_0 (by decide) ?_
  refine s_istore_n hX dX4_purses_1 (Nat.le_of_ble_eq_true rfl) ?_
  refine s_ic hX (0 : Int32) dX4_purses_2 (by decide) ?_
  refine s_istore_n hX dX4_purses_3 (Nat.le_of_ble_eq_true rfl) ?_
  obtain ⟨q3, e3, h⟩ := fs_bind h
  refine fs_ma [true, true, true] ?_
  refine l_X4_purses_4  hX fs_fu (0 : Int32) (0 : Int32) σ μ q3 e3 ?_
  refine s_iload_n hX dX4_purses_29 rfl ?_
  cases h
  exact s_iret hX hR dX4_purses_30

-- X4_lots
def L_X4_lots_45  : Nat → Int32 → Int64 → Int32 → fsS → Option (fsS)
  | 0, _, _, _, _ => none
  | n0 + 1, y1, y4, y6, σ => if y1 ≤ y6 then some σ else (F_X4_lot (((y4 * (48271 : Int64)) - (y4 * (48271 : Int64)) / (2147483647 : Int64) * (2147483647 : Int64)).toInt32) σ).bind (fun q5 => L_X4_lots_45  n0 y1 ((y4 * (48271 : Int64)) - (y4 * (48271 : Int64)) / (2147483647 : Int64) * (2147483647 : Int64)) (y6 + (1 : Int32)) q5)
def F_X4_lots (x1 : Int32) (x2 : Int32) (σ : fsS) : Option (Int32 × fsS) := if (F_X4_in (x1.toInt64) (1 : Int64) (20 : Int64)) = 0 then some ((-1 : Int32), σ) else if (F_X4_in (x2.toInt64) (1 : Int64) (2147483646 : Int64)) = 0 then some ((-1 : Int32), σ) else if (F_X4_refuses x1 σ) = 0 then (L_X4_lots_45  fs_fu x1 (x2.toInt64) (0 : Int32) σ).bind (fun q6 => (F_X4_purses  q6).bind (fun q7 => some (q7, q6))) else some ((F_X4_refuses x1 σ), σ)
set_option maxRecDepth 20000 in
set_option maxHeartbeats 40000000 in
theorem l_X4_lots_45   {X : fsC} (hX : fs_ok cX4_lots RX4 7 { frames := 5, cells := 0, slots := 0, locals := 116 } X) : ∀ (n : Nat) (y1 : Int32) (y4 : Int64) (y6 : Int32) (σ : fsS) (μ : fsL) (out : fsS) (_ : L_X4_lots_45  n y1 y4 y6 σ = some out) (k0 : fs_PW X 76 [some (.ref 51), none, none, none, none, none, none] [] out μ), fs_PW X 45 [some (.ref 51), some (.int y1), none, none, some (.long y4), none, some (.int y6)] [] σ μ := by
  intro n
  induction n with
  | zero =>
    intro y1 y4 y6 σ μ out h
    cases (show (none : Option (fsS)) = some out from h)
  | succ n0 ih =>
    intro y1 y4 y6 σ μ out h k0
    unfold L_X4_lots_45 at h
    refine s_iload hX dX4_lots_45 rfl ?_
    refine s_iload_n hX dX4_lots_47 rfl ?_
    refine s_ic_ge hX 76 dX4_lots_48 (by decide) (fun c4 => ?_) (fun c4 => ?_)
    · have h := (if_pos c4).symm.trans h
      cases h
      refine fs_ma [true, false, false, false, false, false, false] ?_
      exact k0
    · have h := (if_neg c4).symm.trans h
      refine s_lload hX dX4_lots_51 rfl ?_
      refine s_ldc2 hX (48271 : Int64) dX4_lots_53 q_X4_256 ?_
      refine s_lmul hX dX4_lots_56 ?_
      refine s_ldc2 hX (2147483647 : Int64) dX4_lots_57 q_X4_258 ?_
      refine s_lrem hX dX4_lots_60 (by decide) ?_
      refine s_lstore hX dX4_lots_61 (Nat.le_of_ble_eq_true rfl) ?_
      refine s_aload_n hX dX4_lots_63 rfl ?_
      refine s_lload hX dX4_lots_64 rfl ?_
      refine s_l2i hX dX4_lots_66 ?_
      obtain ⟨q5, e5, h⟩ := fs_bind h
      refine s_cV hX [.int (((y4 * (48271 : Int64)) - (y4 * (48271 : Int64)) / (2147483647 : Int64) * (2147483647 : Int64)).toInt32)] dX4_lots_67 k_X4_260 v_X4_lot (m_X4_lot (((y4 * (48271 : Int64)) - (y4 * (48271 : Int64)) / (2147483647 : Int64) * (2147483647 : Int64)).toInt32) σ μ q5 e5) ⟨_, rfl⟩ fs_c4 ⟨rfl, rfl⟩ ⟨(Nat.le_of_ble_eq_true rfl), (Nat.le_of_ble_eq_true rfl)⟩ rfl rfl (Nat.le_of_ble_eq_true rfl) ?_
      refine s_iinc hX (y6 + (1 : Int32)) dX4_lots_70 rfl rfl (Nat.le_of_ble_eq_true rfl) ?_
      refine s_goto hX 45 dX4_lots_73 (by decide) ?_
      refine fs_ma [true, true, false, false, true, false, true] ?_
      exact ih y1 ((y4 * (48271 : Int64)) - (y4 * (48271 : Int64)) / (2147483647 : Int64) * (2147483647 : Int64)) (y6 + (1 : Int32)) q5 μ out h k0
set_option maxRecDepth 20000 in
set_option maxHeartbeats 40000000 in
theorem m_X4_lots (x1 : Int32) (x2 : Int32)  (σ : fsS) (μ : fsL) (out : Int32 × fsS) (h : F_X4_lots x1 x2 σ = some out) : fs_Met yX4_lots cX4_lots 7 (some .int) { frames := 5, cells := 0, slots := 0, locals := 116 } [.ref 51, .int x1, .int x2] σ μ (some (.int out.1)) out.2 μ := by
  unfold F_X4_lots at h
  refine fs_intro (by decide +kernel) (Nat.le_of_ble_eq_true rfl) (fun X hX hR => ?_)
  show fs_PW X 0 [some (.ref 51), some (.int x1), some (.int x2), none, none, none, none] [] σ μ
  refine s_iload_n hX dX4_lots_0 rfl ?_
  refine s_i2l hX dX4_lots_1 ?_
  refine s_lc hX (1 : Int64) dX4_lots_2 (by decide) ?_
  refine s_ldc2 hX (20 : Int64) dX4_lots_3 q_X4_202 ?_
  refine s_callS hX (as := [.long (x1.toInt64), .long (1 : Int64), .long (20 : Int64)]) dX4_lots_6 k_X4_74 v_X4_in (m_X4_in (x1.toInt64) (1 : Int64) (20 : Int64) σ μ _ rfl) ⟨rfl, rfl⟩ ⟨(Nat.le_of_ble_eq_true rfl), (Nat.le_of_ble_eq_true rfl)⟩ rfl rfl (Nat.le_of_ble_eq_true rfl) ?_
  refine s_if_eq hX 24 dX4_lots_9 (by decide) (fun c1 => ?_) (fun c1 => ?_)
  · have h := (if_pos c1).symm.trans h
    refine s_ic hX (-1 : Int32) dX4_lots_24 (by decide) ?_
    cases h
    exact s_iret hX hR dX4_lots_25
  · have h := (if_neg c1).symm.trans h
    refine s_iload_n hX dX4_lots_12 rfl ?_
    refine s_i2l hX dX4_lots_13 ?_
    refine s_lc hX (1 : Int64) dX4_lots_14 (by decide) ?_
    refine s_ldc2 hX (2147483646 : Int64) dX4_lots_15 q_X4_251 ?_
    refine s_callS hX (as := [.long (x2.toInt64), .long (1 : Int64), .long (2147483646 : Int64)]) dX4_lots_18 k_X4_74 v_X4_in (m_X4_in (x2.toInt64) (1 : Int64) (2147483646 : Int64) σ μ _ rfl) ⟨rfl, rfl⟩ ⟨(Nat.le_of_ble_eq_true rfl), (Nat.le_of_ble_eq_true rfl)⟩ rfl rfl (Nat.le_of_ble_eq_true rfl) ?_
    refine s_if_ne hX 26 dX4_lots_21 (by decide) (fun c2 => ?_) (fun c2 => ?_)
    · have h := (if_neg c2).symm.trans h
      refine s_aload_n hX dX4_lots_26 rfl ?_
      refine s_iload_n hX dX4_lots_27 rfl ?_
      refine s_cV hX [.int x1] dX4_lots_28 k_X4_253 v_X4_refuses (m_X4_refuses x1 σ μ _ rfl) ⟨_, rfl⟩ fs_c4 ⟨rfl, rfl⟩ ⟨(Nat.le_of_ble_eq_true rfl), (Nat.le_of_ble_eq_true rfl)⟩ rfl rfl (Nat.le_of_ble_eq_true rfl) ?_
      refine s_istore_n hX dX4_lots_31 (Nat.le_of_ble_eq_true rfl) ?_
      refine s_iload_n hX dX4_lots_32 rfl ?_
      refine s_if_eq hX 38 dX4_lots_33 (by decide) (fun c3 => ?_) (fun c3 => ?_)
      · have h := (if_pos c3).symm.trans h
        refine s_iload_n hX dX4_lots_38 rfl ?_
        refine s_i2l hX dX4_lots_39 ?_
        refine s_lstore hX dX4_lots_40 (Nat.le_of_ble_eq_true rfl) ?_
        refine s_ic hX (0 : Int32) dX4_lots_42 (by decide) ?_
        refine s_istore hX dX4_lots_43 (Nat.le_of_ble_eq_true rfl) ?_
        obtain ⟨q6, e6, h⟩ := fs_bind h
        refine fs_ma [true, true, false, false, true, false, true] ?_
        refine l_X4_lots_45  hX fs_fu x1 (x2.toInt64) (0 : Int32) σ μ q6 e6 ?_
        refine s_aload_n hX dX4_lots_76 rfl ?_
        obtain ⟨q7, e7, h⟩ := fs_bind h
        refine s_cV hX [] dX4_lots_77 k_X4_264 v_X4_purses (m_X4_purses q6 μ q7 e7) ⟨_, rfl⟩ fs_c4 ⟨rfl, rfl⟩ ⟨(Nat.le_of_ble_eq_true rfl), (Nat.le_of_ble_eq_true rfl)⟩ rfl rfl (Nat.le_of_ble_eq_true rfl) ?_
        cases h
        exact s_iret hX hR dX4_lots_80
      · have h := (if_neg c3).symm.trans h
        refine s_iload_n hX dX4_lots_36 rfl ?_
        cases h
        exact s_iret hX hR dX4_lots_37
    · have h := (if_pos c2).symm.trans h
      refine s_ic hX (-1 : Int32) dX4_lots_24 (by decide) ?_
      cases h
      exact s_iret hX hR dX4_lots_25

-- X4_asked
def F_X4_asked (σ : fsS) : Int32 := (σ 51 4)
set_option maxRecDepth 20000 in
set_option maxHeartbeats 40000000 in
theorem m_X4_asked   (σ : fsS) (μ : fsL) (out : Int32) (h : F_X4_asked  σ = out) : fs_Met yX4_asked cX4_asked 1 (some .int) { frames := 0, cells := 0, slots := 0, locals := 0 } [.ref 51] σ μ (some (.int out)) σ μ := by
  unfold F_X4_asked at h
  refine fs_intro (by decide +kernel) (Nat.le_of_ble_eq_true rfl) (fun X hX hR => ?_)
  show fs_PW X 0 [some (.ref 51)] [] σ μ
  refine s_aload_n hX dX4_asked_0 rfl ?_
  refine s_geti hX dX4_asked_1 f_X4_69 rfl ?_
  subst h
  exact s_iret hX hR dX4_asked_4

-- X4_upper
def F_X4_upper (μ : fsL) : Int64 := (μ 51 5)
set_option maxRecDepth 20000 in
set_option maxHeartbeats 40000000 in
theorem m_X4_upper   (σ : fsS) (μ : fsL) (out : Int64) (h : F_X4_upper  μ = out) : fs_Met yX4_upper cX4_upper 1 (some .long) { frames := 0, cells := 0, slots := 0, locals := 0 } [.ref 51] σ μ (some (.long out)) σ μ := by
  unfold F_X4_upper at h
  refine fs_intro (by decide +kernel) (Nat.le_of_ble_eq_true rfl) (fun X hX hR => ?_)
  show fs_PW X 0 [some (.ref 51)] [] σ μ
  refine s_aload_n hX dX4_upper_0 rfl ?_
  refine s_getl hX dX4_upper_1 f_X4_234 rfl ?_
  subst h
  exact s_lret hX hR dX4_upper_4

-- X4_lower
def F_X4_lower (μ : fsL) : Int64 := (μ 51 6)
set_option maxRecDepth 20000 in
set_option maxHeartbeats 40000000 in
theorem m_X4_lower   (σ : fsS) (μ : fsL) (out : Int64) (h : F_X4_lower  μ = out) : fs_Met yX4_lower cX4_lower 1 (some .long) { frames := 0, cells := 0, slots := 0, locals := 0 } [.ref 51] σ μ (some (.long out)) σ μ := by
  unfold F_X4_lower at h
  refine fs_intro (by decide +kernel) (Nat.le_of_ble_eq_true rfl) (fun X hX hR => ?_)
  show fs_PW X 0 [some (.ref 51)] [] σ μ
  refine s_aload_n hX dX4_lower_0 rfl ?_
  refine s_getl hX dX4_lower_1 f_X4_22 rfl ?_
  subst h
  exact s_lret hX hR dX4_lower_4

-- X4_there
def L_X4_there_5 (a0 : Nat) : Nat → Int32 → Int32 → Int32 → Int32 → fsS → Option (Int32)
  | 0, _, _, _, _, _ => none
  | n0 + 1, y1, y2, y3, y4, σ => if y1 ≤ y4 then some y3 else fs_g (fs_in (y2 * y4) (fs_len a0)) (if 0 ≤ (σ a0 (y2 * y4).toNatClampNeg) then L_X4_there_5 a0 n0 y1 y2 (y3 + (1 : Int32)) (y4 + (1 : Int32)) σ else L_X4_there_5 a0 n0 y1 y2 (y3 + (0 : Int32)) (y4 + (1 : Int32)) σ)
def F_X4_there (a0 : Nat) (x1 : Int32) (x2 : Int32) (σ : fsS) : Option (Int32) := (L_X4_there_5 a0 fs_fu x1 x2 (0 : Int32) (0 : Int32) σ).bind (fun q4 => some q4)
set_option maxRecDepth 20000 in
set_option maxHeartbeats 40000000 in
theorem l_X4_there_5 {a0 : Nat}  {X : fsC} (hX : fs_ok cX4_there RX4 5 { frames := 0, cells := 0, slots := 0, locals := 0 } X) : ∀ (n : Nat) (y1 : Int32) (y2 : Int32) (y3 : Int32) (y4 : Int32) (σ : fsS) (μ : fsL) (out : Int32) (_ : L_X4_there_5 a0 n y1 y2 y3 y4 σ = some out) (k0 : fs_PW X 34 [none, none, none, some (.int out), none] [] σ μ), fs_PW X 5 [some (.ref a0), some (.int y1), some (.int y2), some (.int y3), some (.int y4)] [] σ μ := by
  intro n
  induction n with
  | zero =>
    intro y1 y2 y3 y4 σ μ out h
    cases (show (none : Option (Int32)) = some out from h)
  | succ n0 ih =>
    intro y1 y2 y3 y4 σ μ out h k0
    unfold L_X4_there_5 at h
    refine s_iload hX dX4_there_5 rfl ?_
    refine s_iload_n hX dX4_there_7 rfl ?_
    refine s_ic_ge hX 34 dX4_there_8 (by decide) (fun c1 => ?_) (fun c1 => ?_)
    · have h := (if_pos c1).symm.trans h
      cases h
      refine fs_ma [false, false, false, true, false] ?_
      exact k0
    · have h := (if_neg c1).symm.trans h
      refine s_iload_n hX dX4_there_11 rfl ?_
      refine s_aload_n hX dX4_there_12 rfl ?_
      refine s_iload_n hX dX4_there_13 rfl ?_
      refine s_iload hX dX4_there_14 rfl ?_
      refine s_imul hX dX4_there_16 ?_
      obtain ⟨g2, h⟩ := fs_gd h
      refine s_iald hX dX4_there_17 g2 ?_
      refine s_if_ge hX 25 dX4_there_18 (by decide) (fun c3 => ?_) (fun c3 => ?_)
      · have h := (if_pos c3).symm.trans h
        refine s_ic hX (1 : Int32) dX4_there_25 (by decide) ?_
        refine s_iadd hX dX4_there_26 ?_
        refine s_istore_n hX dX4_there_27 (Nat.le_of_ble_eq_true rfl) ?_
        refine s_iinc hX (y4 + (1 : Int32)) dX4_there_28 rfl rfl (Nat.le_of_ble_eq_true rfl) ?_
        refine s_goto hX 5 dX4_there_31 (by decide) ?_
        refine fs_ma [true, true, true, true, true] ?_
        exact ih y1 y2 (y3 + (1 : Int32)) (y4 + (1 : Int32)) σ μ out h k0
      · have h := (if_neg c3).symm.trans h
        refine s_ic hX (0 : Int32) dX4_there_21 (by decide) ?_
        refine s_goto hX 26 dX4_there_22 (by decide) ?_
        refine s_iadd hX dX4_there_26 ?_
        refine s_istore_n hX dX4_there_27 (Nat.le_of_ble_eq_true rfl) ?_
        refine s_iinc hX (y4 + (1 : Int32)) dX4_there_28 rfl rfl (Nat.le_of_ble_eq_true rfl) ?_
        refine s_goto hX 5 dX4_there_31 (by decide) ?_
        refine fs_ma [true, true, true, true, true] ?_
        exact ih y1 y2 (y3 + (0 : Int32)) (y4 + (1 : Int32)) σ μ out h k0
set_option maxRecDepth 20000 in
set_option maxHeartbeats 40000000 in
theorem m_X4_there (a0 : Nat) (x1 : Int32) (x2 : Int32)  (σ : fsS) (μ : fsL) (out : Int32) (h : F_X4_there a0 x1 x2 σ = some out) : fs_Met yX4_there cX4_there 5 (some .int) { frames := 0, cells := 0, slots := 0, locals := 0 } [.ref a0, .int x1, .int x2] σ μ (some (.int out)) σ μ := by
  unfold F_X4_there at h
  refine fs_intro (by decide +kernel) (Nat.le_of_ble_eq_true rfl) (fun X hX hR => ?_)
  show fs_PW X 0 [some (.ref a0), some (.int x1), some (.int x2), none, none] [] σ μ
  refine s_ic hX (0 : Int32) dX4_there_0 (by decide) ?_
  refine s_istore_n hX dX4_there_1 (Nat.le_of_ble_eq_true rfl) ?_
  refine s_ic hX (0 : Int32) dX4_there_2 (by decide) ?_
  refine s_istore hX dX4_there_3 (Nat.le_of_ble_eq_true rfl) ?_
  obtain ⟨q4, e4, h⟩ := fs_bind h
  refine fs_ma [true, true, true, true, true] ?_
  refine l_X4_there_5  hX fs_fu x1 x2 (0 : Int32) (0 : Int32) σ μ q4 e4 ?_
  refine s_iload_n hX dX4_there_34 rfl ?_
  cases h
  exact s_iret hX hR dX4_there_35

-- X4_ofKind
def L_X4_ofKind_4  : Nat → Int32 → Int32 → Int32 → fsS → Option (Int32)
  | 0, _, _, _, _ => none
  | n0 + 1, y1, y2, y3, σ => if (σ 51 9) ≤ y3 then some y2 else fs_g (fs_in y3 6) (if (F_X4_isOf (σ 57 y3.toNatClampNeg) y1) = 0 then L_X4_ofKind_4  n0 y1 (y2 + (0 : Int32)) (y3 + (1 : Int32)) σ else L_X4_ofKind_4  n0 y1 (y2 + (1 : Int32)) (y3 + (1 : Int32)) σ)
def F_X4_ofKind (x1 : Int32) (σ : fsS) : Option (Int32) := (L_X4_ofKind_4  fs_fu x1 (0 : Int32) (0 : Int32) σ).bind (fun q4 => some q4)
set_option maxRecDepth 20000 in
set_option maxHeartbeats 40000000 in
theorem l_X4_ofKind_4   {X : fsC} (hX : fs_ok cX4_ofKind RX4 4 { frames := 1, cells := 0, slots := 0, locals := 21 } X) : ∀ (n : Nat) (y1 : Int32) (y2 : Int32) (y3 : Int32) (σ : fsS) (μ : fsL) (out : Int32) (_ : L_X4_ofKind_4  n y1 y2 y3 σ = some out) (k0 : fs_PW X 39 [none, none, some (.int out), none] [] σ μ), fs_PW X 4 [some (.ref 51), some (.int y1), some (.int y2), some (.int y3)] [] σ μ := by
  intro n
  induction n with
  | zero =>
    intro y1 y2 y3 σ μ out h
    cases (show (none : Option (Int32)) = some out from h)
  | succ n0 ih =>
    intro y1 y2 y3 σ μ out h k0
    unfold L_X4_ofKind_4 at h
    refine s_iload_n hX dX4_ofKind_4 rfl ?_
    refine s_aload_n hX dX4_ofKind_5 rfl ?_
    refine s_geti hX dX4_ofKind_6 f_X4_136 rfl ?_
    refine s_ic_ge hX 39 dX4_ofKind_9 (by decide) (fun c1 => ?_) (fun c1 => ?_)
    · have h := (if_pos c1).symm.trans h
      cases h
      refine fs_ma [false, false, true, false] ?_
      exact k0
    · have h := (if_neg c1).symm.trans h
      refine s_iload_n hX dX4_ofKind_12 rfl ?_
      refine s_aload_n hX dX4_ofKind_13 rfl ?_
      refine s_getr hX dX4_ofKind_14 f_X4_29 rfl ?_
      refine s_iload_n hX dX4_ofKind_17 rfl ?_
      obtain ⟨g2, h⟩ := fs_gd h
      refine s_iald hX dX4_ofKind_18 g2 ?_
      refine s_iload_n hX dX4_ofKind_19 rfl ?_
      refine s_callS hX (as := [.int (σ 57 y3.toNatClampNeg), .int y1]) dX4_ofKind_20 k_X4_168 v_X4_isOf (m_X4_isOf (σ 57 y3.toNatClampNeg) y1 σ μ _ rfl) ⟨rfl, rfl⟩ ⟨(Nat.le_of_ble_eq_true rfl), (Nat.le_of_ble_eq_true rfl)⟩ rfl rfl (Nat.le_of_ble_eq_true rfl) ?_
      refine s_if_eq hX 30 dX4_ofKind_23 (by decide) (fun c3 => ?_) (fun c3 => ?_)
      · have h := (if_pos c3).symm.trans h
        refine s_ic hX (0 : Int32) dX4_ofKind_30 (by decide) ?_
        refine s_iadd hX dX4_ofKind_31 ?_
        refine s_istore_n hX dX4_ofKind_32 (Nat.le_of_ble_eq_true rfl) ?_
        refine s_iinc hX (y3 + (1 : Int32)) dX4_ofKind_33 rfl rfl (Nat.le_of_ble_eq_true rfl) ?_
        refine s_goto hX 4 dX4_ofKind_36 (by decide) ?_
        refine fs_ma [true, true, true, true] ?_
        exact ih y1 (y2 + (0 : Int32)) (y3 + (1 : Int32)) σ μ out h k0
      · have h := (if_neg c3).symm.trans h
        refine s_ic hX (1 : Int32) dX4_ofKind_26 (by decide) ?_
        refine s_goto hX 31 dX4_ofKind_27 (by decide) ?_
        refine s_iadd hX dX4_ofKind_31 ?_
        refine s_istore_n hX dX4_ofKind_32 (Nat.le_of_ble_eq_true rfl) ?_
        refine s_iinc hX (y3 + (1 : Int32)) dX4_ofKind_33 rfl rfl (Nat.le_of_ble_eq_true rfl) ?_
        refine s_goto hX 4 dX4_ofKind_36 (by decide) ?_
        refine fs_ma [true, true, true, true] ?_
        exact ih y1 (y2 + (1 : Int32)) (y3 + (1 : Int32)) σ μ out h k0
set_option maxRecDepth 20000 in
set_option maxHeartbeats 40000000 in
theorem m_X4_ofKind (x1 : Int32)  (σ : fsS) (μ : fsL) (out : Int32) (h : F_X4_ofKind x1 σ = some out) : fs_Met yX4_ofKind cX4_ofKind 4 (some .int) { frames := 1, cells := 0, slots := 0, locals := 21 } [.ref 51, .int x1] σ μ (some (.int out)) σ μ := by
  unfold F_X4_ofKind at h
  refine fs_intro (by decide +kernel) (Nat.le_of_ble_eq_true rfl) (fun X hX hR => ?_)
  show fs_PW X 0 [some (.ref 51), some (.int x1), none, none] [] σ μ
  refine s_ic hX (0 : Int32) dX4_ofKind_0 (by decide) ?_
  refine s_istore_n hX dX4_ofKind_1 (Nat.le_of_ble_eq_true rfl) ?_
  refine s_ic hX (0 : Int32) dX4_ofKind_2 (by decide) ?_
  refine s_istore_n hX dX4_ofKind_3 (Nat.le_of_ble_eq_true rfl) ?_
  obtain ⟨q4, e4, h⟩ := fs_bind h
  refine fs_ma [true, true, true, true] ?_
  refine l_X4_ofKind_4  hX fs_fu x1 (0 : Int32) (0 : Int32) σ μ q4 e4 ?_
  refine s_iload_n hX dX4_ofKind_39 rfl ?_
  cases h
  exact s_iret hX hR dX4_ofKind_40

-- X4_sooted
def L_X4_sooted_4  : Nat → Int32 → Int32 → fsS → Option (Int32)
  | 0, _, _, _ => none
  | n0 + 1, y1, y2, σ => if (σ 51 9) ≤ y2 then some y1 else fs_g (fs_in ((7 : Int32) + y2) 13) (if (σ 60 ((7 : Int32) + y2).toNatClampNeg) ≤ 0 then L_X4_sooted_4  n0 (y1 ||| (0 : Int32)) (y2 + (1 : Int32)) σ else L_X4_sooted_4  n0 (y1 ||| ((1 : Int32) <<< (y2 &&& 31))) (y2 + (1 : Int32)) σ)
def F_X4_sooted (σ : fsS) : Option (Int32) := (L_X4_sooted_4  fs_fu (0 : Int32) (0 : Int32) σ).bind (fun q4 => some q4)
set_option maxRecDepth 20000 in
set_option maxHeartbeats 40000000 in
theorem l_X4_sooted_4   {X : fsC} (hX : fs_ok cX4_sooted RX4 3 { frames := 0, cells := 0, slots := 0, locals := 0 } X) : ∀ (n : Nat) (y1 : Int32) (y2 : Int32) (σ : fsS) (μ : fsL) (out : Int32) (_ : L_X4_sooted_4  n y1 y2 σ = some out) (k0 : fs_PW X 40 [none, some (.int out), none] [] σ μ), fs_PW X 4 [some (.ref 51), some (.int y1), some (.int y2)] [] σ μ := by
  intro n
  induction n with
  | zero =>
    intro y1 y2 σ μ out h
    cases (show (none : Option (Int32)) = some out from h)
  | succ n0 ih =>
    intro y1 y2 σ μ out h k0
    unfold L_X4_sooted_4 at h
    refine s_iload_n hX dX4_sooted_4 rfl ?_
    refine s_aload_n hX dX4_sooted_5 rfl ?_
    refine s_geti hX dX4_sooted_6 f_X4_136 rfl ?_
    refine s_ic_ge hX 40 dX4_sooted_9 (by decide) (fun c1 => ?_) (fun c1 => ?_)
    · have h := (if_pos c1).symm.trans h
      cases h
      refine fs_ma [false, true, false] ?_
      exact k0
    · have h := (if_neg c1).symm.trans h
      refine s_iload_n hX dX4_sooted_12 rfl ?_
      refine s_aload_n hX dX4_sooted_13 rfl ?_
      refine s_getr hX dX4_sooted_14 f_X4_38 rfl ?_
      refine s_bi hX (7 : Int32) dX4_sooted_17 (by decide) ?_
      refine s_iload_n hX dX4_sooted_19 rfl ?_
      refine s_iadd hX dX4_sooted_20 ?_
      obtain ⟨g2, h⟩ := fs_gd h
      refine s_iald hX dX4_sooted_21 g2 ?_
      refine s_if_le hX 31 dX4_sooted_22 (by decide) (fun c3 => ?_) (fun c3 => ?_)
      · have h := (if_pos c3).symm.trans h
        refine s_ic hX (0 : Int32) dX4_sooted_31 (by decide) ?_
        refine s_ior hX dX4_sooted_32 ?_
        refine s_istore_n hX dX4_sooted_33 (Nat.le_of_ble_eq_true rfl) ?_
        refine s_iinc hX (y2 + (1 : Int32)) dX4_sooted_34 rfl rfl (Nat.le_of_ble_eq_true rfl) ?_
        refine s_goto hX 4 dX4_sooted_37 (by decide) ?_
        refine fs_ma [true, true, true] ?_
        exact ih (y1 ||| (0 : Int32)) (y2 + (1 : Int32)) σ μ out h k0
      · have h := (if_neg c3).symm.trans h
        refine s_ic hX (1 : Int32) dX4_sooted_25 (by decide) ?_
        refine s_iload_n hX dX4_sooted_26 rfl ?_
        refine s_ishl hX dX4_sooted_27 ?_
        refine s_goto hX 32 dX4_sooted_28 (by decide) ?_
        refine s_ior hX dX4_sooted_32 ?_
        refine s_istore_n hX dX4_sooted_33 (Nat.le_of_ble_eq_true rfl) ?_
        refine s_iinc hX (y2 + (1 : Int32)) dX4_sooted_34 rfl rfl (Nat.le_of_ble_eq_true rfl) ?_
        refine s_goto hX 4 dX4_sooted_37 (by decide) ?_
        refine fs_ma [true, true, true] ?_
        exact ih (y1 ||| ((1 : Int32) <<< (y2 &&& 31))) (y2 + (1 : Int32)) σ μ out h k0
set_option maxRecDepth 20000 in
set_option maxHeartbeats 40000000 in
theorem m_X4_sooted   (σ : fsS) (μ : fsL) (out : Int32) (h : F_X4_sooted  σ = some out) : fs_Met yX4_sooted cX4_sooted 3 (some .int) { frames := 0, cells := 0, slots := 0, locals := 0 } [.ref 51] σ μ (some (.int out)) σ μ := by
  unfold F_X4_sooted at h
  refine fs_intro (by decide +kernel) (Nat.le_of_ble_eq_true rfl) (fun X hX hR => ?_)
  show fs_PW X 0 [some (.ref 51), none, none] [] σ μ
  refine s_ic hX (0 : Int32) dX4_sooted_0 (by decide) ?_
  refine s_istore_n hX dX4_sooted_1 (Nat.le_of_ble_eq_true rfl) ?_
  refine s_ic hX (0 : Int32) dX4_sooted_2 (by decide) ?_
  refine s_istore_n hX dX4_sooted_3 (Nat.le_of_ble_eq_true rfl) ?_
  obtain ⟨q4, e4, h⟩ := fs_bind h
  refine fs_ma [true, true, true] ?_
  refine l_X4_sooted_4  hX fs_fu (0 : Int32) (0 : Int32) σ μ q4 e4 ?_
  refine s_iload_n hX dX4_sooted_40 rfl ?_
  cases h
  exact s_iret hX hR dX4_sooted_41

-- X4_count
def F_X4_count (x1 : Int32) (σ : fsS) : Option (Int32 × fsS) := if x1 = (0 : Int32) then some ((σ 51 9), σ) else if x1 = (1 : Int32) then some ((σ 60 0), σ) else if x1 = (2 : Int32) then some ((σ 51 17), σ) else if x1 = (3 : Int32) then (F_X4_purses  σ).bind (fun q5 => some (q5, σ)) else if x1 = (4 : Int32) then (F_X4_sooted  σ).bind (fun q7 => some (q7, σ)) else if x1 = (5 : Int32) then (F_X4_laysRegards 60 σ).bind (fun q9 => some (q9.1, q9.2)) else if x1 = (6 : Int32) then (F_X4_there 53 (6 : Int32) (1 : Int32) σ).bind (fun q11 => some (q11, σ)) else if x1 = (7 : Int32) then (F_X4_there 55 (4 : Int32) (1 : Int32) σ).bind (fun q13 => some (q13, σ)) else if x1 = (8 : Int32) then (F_X4_there 64 (3 : Int32) (534 : Int32) σ).bind (fun q15 => some (q15, σ)) else if x1 = (9 : Int32) then (F_X4_ofKind (1 : Int32) σ).bind (fun q17 => some (q17, σ)) else if x1 = (10 : Int32) then (F_X4_ofKind (3 : Int32) σ).bind (fun q19 => some (q19, σ)) else some ((-1 : Int32), σ)
set_option maxRecDepth 20000 in
set_option maxHeartbeats 40000000 in
theorem m_X4_count (x1 : Int32)  (σ : fsS) (μ : fsL) (out : Int32 × fsS) (h : F_X4_count x1 σ = some out) : fs_Met yX4_count cX4_count 2 (some .int) { frames := 3, cells := 0, slots := 0, locals := 70 } [.ref 51, .int x1] σ μ (some (.int out.1)) out.2 μ := by
  unfold F_X4_count at h
  refine fs_intro (by decide +kernel) (Nat.le_of_ble_eq_true rfl) (fun X hX hR => ?_)
  show fs_PW X 0 [some (.ref 51), some (.int x1)] [] σ μ
  refine s_iload_n hX dX4_count_0 rfl ?_
  by_cases c1 : x1 = (0 : Int32)
  · have h := (if_pos c1).symm.trans h
    refine s_tabK hX 60 (0 : Int32) c1 dX4_count_1 (by decide) (by decide) rfl (by decide) ?_
    refine s_aload_n hX dX4_count_60 rfl ?_
    refine s_geti hX dX4_count_61 f_X4_136 rfl ?_
    cases h
    exact s_iret hX hR dX4_count_64
  · have h := (if_neg c1).symm.trans h
    by_cases c2 : x1 = (1 : Int32)
    · have h := (if_pos c2).symm.trans h
      refine s_tabK hX 65 (1 : Int32) c2 dX4_count_1 (by decide) (by decide) rfl (by decide) ?_
      refine s_aload_n hX dX4_count_65 rfl ?_
      refine s_getr hX dX4_count_66 f_X4_38 rfl ?_
      refine s_ic hX (0 : Int32) dX4_count_69 (by decide) ?_
      refine s_iald hX dX4_count_70 (show fs_in (0 : Int32) 13 by decide) ?_
      cases h
      exact s_iret hX hR dX4_count_71
    · have h := (if_neg c2).symm.trans h
      by_cases c3 : x1 = (2 : Int32)
      · have h := (if_pos c3).symm.trans h
        refine s_tabK hX 72 (2 : Int32) c3 dX4_count_1 (by decide) (by decide) rfl (by decide) ?_
        refine s_aload_n hX dX4_count_72 rfl ?_
        refine s_geti hX dX4_count_73 f_X4_94 rfl ?_
        cases h
        exact s_iret hX hR dX4_count_76
      · have h := (if_neg c3).symm.trans h
        by_cases c4 : x1 = (3 : Int32)
        · have h := (if_pos c4).symm.trans h
          refine s_tabK hX 77 (3 : Int32) c4 dX4_count_1 (by decide) (by decide) rfl (by decide) ?_
          refine s_aload_n hX dX4_count_77 rfl ?_
          obtain ⟨q5, e5, h⟩ := fs_bind h
          refine s_cV hX [] dX4_count_78 k_X4_264 v_X4_purses (m_X4_purses σ μ q5 e5) ⟨_, rfl⟩ fs_c4 ⟨rfl, rfl⟩ ⟨(Nat.le_of_ble_eq_true rfl), (Nat.le_of_ble_eq_true rfl)⟩ rfl rfl (Nat.le_of_ble_eq_true rfl) ?_
          cases h
          exact s_iret hX hR dX4_count_81
        · have h := (if_neg c4).symm.trans h
          by_cases c6 : x1 = (4 : Int32)
          · have h := (if_pos c6).symm.trans h
            refine s_tabK hX 82 (4 : Int32) c6 dX4_count_1 (by decide) (by decide) rfl (by decide) ?_
            refine s_aload_n hX dX4_count_82 rfl ?_
            obtain ⟨q7, e7, h⟩ := fs_bind h
            refine s_cV hX [] dX4_count_83 k_X4_267 v_X4_sooted (m_X4_sooted σ μ q7 e7) ⟨_, rfl⟩ fs_c4 ⟨rfl, rfl⟩ ⟨(Nat.le_of_ble_eq_true rfl), (Nat.le_of_ble_eq_true rfl)⟩ rfl rfl (Nat.le_of_ble_eq_true rfl) ?_
            cases h
            exact s_iret hX hR dX4_count_86
          · have h := (if_neg c6).symm.trans h
            by_cases c8 : x1 = (5 : Int32)
            · have h := (if_pos c8).symm.trans h
              refine s_tabK hX 87 (5 : Int32) c8 dX4_count_1 (by decide) (by decide) rfl (by decide) ?_
              refine s_aload_n hX dX4_count_87 rfl ?_
              refine s_aload_n hX dX4_count_88 rfl ?_
              refine s_getr hX dX4_count_89 f_X4_38 rfl ?_
              obtain ⟨q9, e9, h⟩ := fs_bind h
              refine s_cV hX [.ref 60] dX4_count_92 k_X4_150 v_X4_laysRegards (m_X4_laysRegards 60 σ μ q9 e9) ⟨_, rfl⟩ fs_c4 ⟨rfl, rfl⟩ ⟨(Nat.le_of_ble_eq_true rfl), (Nat.le_of_ble_eq_true rfl)⟩ rfl rfl (Nat.le_of_ble_eq_true rfl) ?_
              cases h
              exact s_iret hX hR dX4_count_95
            · have h := (if_neg c8).symm.trans h
              by_cases c10 : x1 = (6 : Int32)
              · have h := (if_pos c10).symm.trans h
                refine s_tabK hX 96 (6 : Int32) c10 dX4_count_1 (by decide) (by decide) rfl (by decide) ?_
                refine s_aload_n hX dX4_count_96 rfl ?_
                refine s_getr hX dX4_count_97 f_X4_13 rfl ?_
                refine s_bi hX (6 : Int32) dX4_count_100 (by decide) ?_
                refine s_ic hX (1 : Int32) dX4_count_102 (by decide) ?_
                obtain ⟨q11, e11, h⟩ := fs_bind h
                refine s_callS hX (as := [.ref 53, .int (6 : Int32), .int (1 : Int32)]) dX4_count_103 k_X4_270 v_X4_there (m_X4_there 53 (6 : Int32) (1 : Int32) σ μ q11 e11) ⟨rfl, rfl⟩ ⟨(Nat.le_of_ble_eq_true rfl), (Nat.le_of_ble_eq_true rfl)⟩ rfl rfl (Nat.le_of_ble_eq_true rfl) ?_
                cases h
                exact s_iret hX hR dX4_count_106
              · have h := (if_neg c10).symm.trans h
                by_cases c12 : x1 = (7 : Int32)
                · have h := (if_pos c12).symm.trans h
                  refine s_tabK hX 107 (7 : Int32) c12 dX4_count_1 (by decide) (by decide) rfl (by decide) ?_
                  refine s_aload_n hX dX4_count_107 rfl ?_
                  refine s_getr hX dX4_count_108 f_X4_19 rfl ?_
                  refine s_ic hX (4 : Int32) dX4_count_111 (by decide) ?_
                  refine s_ic hX (1 : Int32) dX4_count_112 (by decide) ?_
                  obtain ⟨q13, e13, h⟩ := fs_bind h
                  refine s_callS hX (as := [.ref 55, .int (4 : Int32), .int (1 : Int32)]) dX4_count_113 k_X4_270 v_X4_there (m_X4_there 55 (4 : Int32) (1 : Int32) σ μ q13 e13) ⟨rfl, rfl⟩ ⟨(Nat.le_of_ble_eq_true rfl), (Nat.le_of_ble_eq_true rfl)⟩ rfl rfl (Nat.le_of_ble_eq_true rfl) ?_
                  cases h
                  exact s_iret hX hR dX4_count_116
                · have h := (if_neg c12).symm.trans h
                  by_cases c14 : x1 = (8 : Int32)
                  · have h := (if_pos c14).symm.trans h
                    refine s_tabK hX 117 (8 : Int32) c14 dX4_count_1 (by decide) (by decide) rfl (by decide) ?_
                    refine s_aload_n hX dX4_count_117 rfl ?_
                    refine s_getr hX dX4_count_118 f_X4_50 rfl ?_
                    refine s_ic hX (3 : Int32) dX4_count_121 (by decide) ?_
                    refine s_si hX (534 : Int32) dX4_count_122 (by decide) ?_
                    obtain ⟨q15, e15, h⟩ := fs_bind h
                    refine s_callS hX (as := [.ref 64, .int (3 : Int32), .int (534 : Int32)]) dX4_count_125 k_X4_270 v_X4_there (m_X4_there 64 (3 : Int32) (534 : Int32) σ μ q15 e15) ⟨rfl, rfl⟩ ⟨(Nat.le_of_ble_eq_true rfl), (Nat.le_of_ble_eq_true rfl)⟩ rfl rfl (Nat.le_of_ble_eq_true rfl) ?_
                    cases h
                    exact s_iret hX hR dX4_count_128
                  · have h := (if_neg c14).symm.trans h
                    by_cases c16 : x1 = (9 : Int32)
                    · have h := (if_pos c16).symm.trans h
                      refine s_tabK hX 129 (9 : Int32) c16 dX4_count_1 (by decide) (by decide) rfl (by decide) ?_
                      refine s_aload_n hX dX4_count_129 rfl ?_
                      refine s_ic hX (1 : Int32) dX4_count_130 (by decide) ?_
                      obtain ⟨q17, e17, h⟩ := fs_bind h
                      refine s_cV hX [.int (1 : Int32)] dX4_count_131 k_X4_274 v_X4_ofKind (m_X4_ofKind (1 : Int32) σ μ q17 e17) ⟨_, rfl⟩ fs_c4 ⟨rfl, rfl⟩ ⟨(Nat.le_of_ble_eq_true rfl), (Nat.le_of_ble_eq_true rfl)⟩ rfl rfl (Nat.le_of_ble_eq_true rfl) ?_
                      cases h
                      exact s_iret hX hR dX4_count_134
                    · have h := (if_neg c16).symm.trans h
                      by_cases c18 : x1 = (10 : Int32)
                      · have h := (if_pos c18).symm.trans h
                        refine s_tabK hX 135 (10 : Int32) c18 dX4_count_1 (by decide) (by decide) rfl (by decide) ?_
                        refine s_aload_n hX dX4_count_135 rfl ?_
                        refine s_ic hX (3 : Int32) dX4_count_136 (by decide) ?_
                        obtain ⟨q19, e19, h⟩ := fs_bind h
                        refine s_cV hX [.int (3 : Int32)] dX4_count_137 k_X4_274 v_X4_ofKind (m_X4_ofKind (3 : Int32) σ μ q19 e19) ⟨_, rfl⟩ fs_c4 ⟨rfl, rfl⟩ ⟨(Nat.le_of_ble_eq_true rfl), (Nat.le_of_ble_eq_true rfl)⟩ rfl rfl (Nat.le_of_ble_eq_true rfl) ?_
                        cases h
                        exact s_iret hX hR dX4_count_140
                      · have h := (if_neg c18).symm.trans h
                        have wc1 := fs_ne (z := 0) c1 (by decide)
                        have wc2 := fs_ne (z := 1) c2 (by decide)
                        have wc3 := fs_ne (z := 2) c3 (by decide)
                        have wc4 := fs_ne (z := 3) c4 (by decide)
                        have wc6 := fs_ne (z := 4) c6 (by decide)
                        have wc8 := fs_ne (z := 5) c8 (by decide)
                        have wc10 := fs_ne (z := 6) c10 (by decide)
                        have wc12 := fs_ne (z := 7) c12 (by decide)
                        have wc14 := fs_ne (z := 8) c14 (by decide)
                        have wc16 := fs_ne (z := 9) c16 (by decide)
                        have wc18 := fs_ne (z := 10) c18 (by decide)
                        refine s_tabOut hX 141 dX4_count_1 (by omega) (by decide) ?_
                        refine s_ic hX (-1 : Int32) dX4_count_141 (by decide) ?_
                        cases h
                        exact s_iret hX hR dX4_count_142
