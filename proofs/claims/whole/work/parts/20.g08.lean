-- X3_fitsPairs
def L_X3_fitsPairs_14 (r5 : Nat) : Nat → Int32 → Int32 → Int32 → Int32 → Int32 → fsS → Option (Nat)
  | 0, _, _, _, _, _, _ => none
  | n0 + 1, y1, y2, y3, y4, y6, σ => fs_g (fs_in y1 6) (if (σ 10 y1.toNatClampNeg) ≤ (y6 + (1 : Int32)) then some 1 else fs_g (fs_in y6 (fs_len r5)) (fs_g (fs_in (y6 + (1 : Int32)) (fs_len r5)) (if (F_X1_regardOf y2 y3 y4 (σ r5 y6.toNatClampNeg)) = (σ r5 (y6 + (1 : Int32)).toNatClampNeg) then L_X3_fitsPairs_14 r5 n0 y1 y2 y3 y4 (y6 + (2 : Int32)) σ else some 0)))
def F_X3_fitsPairs (x1 : Int32) (x2 : Int32) (x3 : Int32) (x4 : Int32) (σ : fsS) : Option (Int32) := fs_g (fs_in x1 6) ((L_X3_fitsPairs_14 (38 + x1.toNatClampNeg) fs_fu x1 x2 x3 x4 (0 : Int32) σ).bind (fun q7 => if q7 = 0 then some (0 : Int32) else some (1 : Int32)))
set_option maxRecDepth 20000 in
set_option maxHeartbeats 40000000 in
theorem l_X3_fitsPairs_14 {r5 : Nat}  {X : fsC} (hX : fs_ok cX3_fitsPairs RX3 7 { frames := 1, cells := 0, slots := 0, locals := 26 } X) : ∀ (n : Nat) (y1 : Int32) (y2 : Int32) (y3 : Int32) (y4 : Int32) (y6 : Int32) (σ : fsS) (μ : fsL) (out : Nat) (_ : L_X3_fitsPairs_14 r5 n y1 y2 y3 y4 y6 σ = some out) (k0 : out = 0 → fs_PW X 52 [none, none, none, none, none, none, none] [] σ μ) (k1 : out = 1 → fs_PW X 60 [none, none, none, none, none, none, none] [] σ μ), fs_PW X 14 [some (.ref 0), some (.int y1), some (.int y2), some (.int y3), some (.int y4), some (.ref r5), some (.int y6)] [] σ μ := by
  intro n
  induction n with
  | zero =>
    intro y1 y2 y3 y4 y6 σ μ out h
    cases (show (none : Option (Nat)) = some out from h)
  | succ n0 ih =>
    intro y1 y2 y3 y4 y6 σ μ out h k0 k1
    unfold L_X3_fitsPairs_14 at h
    refine s_iload hX dX3_fitsPairs_14 rfl ?_
    refine s_ic hX (1 : Int32) dX3_fitsPairs_16 (by decide) ?_
    refine s_iadd hX dX3_fitsPairs_17 ?_
    refine s_aload_n hX dX3_fitsPairs_18 rfl ?_
    refine s_getr hX dX3_fitsPairs_19 f_X3_14 rfl ?_
    refine s_getr hX dX3_fitsPairs_22 f_X3_85 rfl ?_
    refine s_iload_n hX dX3_fitsPairs_25 rfl ?_
    obtain ⟨g2, h⟩ := fs_gd h
    refine s_iald hX dX3_fitsPairs_26 g2 ?_
    refine s_ic_ge hX 60 dX3_fitsPairs_27 (by decide) (fun c3 => ?_) (fun c3 => ?_)
    · have h := (if_pos c3).symm.trans h
      cases h
      refine fs_ma [false, false, false, false, false, false, false] ?_
      exact k1 rfl
    · have h := (if_neg c3).symm.trans h
      refine s_iload_n hX dX3_fitsPairs_30 rfl ?_
      refine s_iload_n hX dX3_fitsPairs_31 rfl ?_
      refine s_iload hX dX3_fitsPairs_32 rfl ?_
      refine s_aload hX dX3_fitsPairs_34 rfl ?_
      refine s_iload hX dX3_fitsPairs_36 rfl ?_
      obtain ⟨g4, h⟩ := fs_gd h
      refine s_iald hX dX3_fitsPairs_38 g4 ?_
      refine s_callS hX (as := [.int y2, .int y3, .int y4, .int (σ r5 y6.toNatClampNeg)]) dX3_fitsPairs_39 k_X3_146 v_X1_regardOf (m_X1_regardOf y2 y3 y4 (σ r5 y6.toNatClampNeg) σ μ _ rfl) ⟨rfl, rfl⟩ ⟨(Nat.le_of_ble_eq_true rfl), (Nat.le_of_ble_eq_true rfl)⟩ rfl rfl (Nat.le_of_ble_eq_true rfl) ?_
      refine s_aload hX dX3_fitsPairs_42 rfl ?_
      refine s_iload hX dX3_fitsPairs_44 rfl ?_
      refine s_ic hX (1 : Int32) dX3_fitsPairs_46 (by decide) ?_
      refine s_iadd hX dX3_fitsPairs_47 ?_
      obtain ⟨g5, h⟩ := fs_gd h
      refine s_iald hX dX3_fitsPairs_48 g5 ?_
      refine s_ic_eq hX 54 dX3_fitsPairs_49 (by decide) (fun c6 => ?_) (fun c6 => ?_)
      · have h := (if_pos c6).symm.trans h
        refine s_iinc hX (y6 + (2 : Int32)) dX3_fitsPairs_54 rfl rfl (Nat.le_of_ble_eq_true rfl) ?_
        refine s_goto hX 14 dX3_fitsPairs_57 (by decide) ?_
        refine fs_ma [true, true, true, true, true, true, true] ?_
        exact ih y1 y2 y3 y4 (y6 + (2 : Int32)) σ μ out h k0 k1
      · have h := (if_neg c6).symm.trans h
        cases h
        refine fs_ma [false, false, false, false, false, false, false] ?_
        exact k0 rfl
set_option maxRecDepth 20000 in
set_option maxHeartbeats 40000000 in
theorem m_X3_fitsPairs (x1 : Int32) (x2 : Int32) (x3 : Int32) (x4 : Int32)  (σ : fsS) (μ : fsL) (out : Int32) (h : F_X3_fitsPairs x1 x2 x3 x4 σ = some out) : fs_Met yX3_fitsPairs cX3_fitsPairs 7 (some .boolean) { frames := 1, cells := 0, slots := 0, locals := 26 } [.ref 0, .int x1, .int x2, .int x3, .int x4] σ μ (some (.int out)) σ μ := by
  unfold F_X3_fitsPairs at h
  refine fs_intro (by decide +kernel) (Nat.le_of_ble_eq_true rfl) (fun X hX hR => ?_)
  show fs_PW X 0 [some (.ref 0), some (.int x1), some (.int x2), some (.int x3), some (.int x4), none, none] [] σ μ
  refine s_aload_n hX dX3_fitsPairs_0 rfl ?_
  refine s_getr hX dX3_fitsPairs_1 f_X3_14 rfl ?_
  refine s_getr hX dX3_fitsPairs_4 f_X3_75 rfl ?_
  refine s_iload_n hX dX3_fitsPairs_7 rfl ?_
  obtain ⟨g1, h⟩ := fs_gd h
  refine s_aald hX dX3_fitsPairs_8 g1 ?_
  refine s_astore hX dX3_fitsPairs_9 (Nat.le_of_ble_eq_true rfl) ?_
  refine s_ic hX (0 : Int32) dX3_fitsPairs_11 (by decide) ?_
  refine s_istore hX dX3_fitsPairs_12 (Nat.le_of_ble_eq_true rfl) ?_
  obtain ⟨q7, e7, h⟩ := fs_bind h
  refine fs_ma [true, true, true, true, true, true, true] ?_
  refine l_X3_fitsPairs_14  hX fs_fu x1 x2 x3 x4 (0 : Int32) σ μ q7 e7 (fun c8 => ?_) (fun c8 => ?_)
  · have h := (if_pos c8).symm.trans h
    refine s_ic hX (0 : Int32) dX3_fitsPairs_52 (by decide) ?_
    cases h
    exact s_zret hX (Or.inl rfl) hR dX3_fitsPairs_53
  · have h := (if_neg (show ¬ q7 = 0 by rw [c8]; decide)).symm.trans h
    refine s_ic hX (1 : Int32) dX3_fitsPairs_60 (by decide) ?_
    cases h
    exact s_zret hX (Or.inr rfl) hR dX3_fitsPairs_61

-- X3_looks
def L_X3_looks_19  : Nat → Int32 → Int32 → Int32 → Int32 → fsS → Option (Int32)
  | 0, _, _, _, _, _ => none
  | n0 + 1, y1, y2, y4, y5, σ => if (9 : Int32) < y5 then some y4 else fs_g (fs_in y1 6) (fs_g (fs_in y1 6) ((F_X3_fitsPairs y2 (σ 21 y1.toNatClampNeg) y5 (σ 25 y1.toNatClampNeg) σ).bind (fun q6 => if q6 = 0 then L_X3_looks_19  n0 y1 y2 y4 (y5 + (1 : Int32)) σ else L_X3_looks_19  n0 y1 y2 (y4 ||| ((1 : Int32) <<< (y5 &&& 31))) (y5 + (1 : Int32)) σ)))
def F_X3_looks (x1 : Int32) (x2 : Int32) (σ : fsS) : Option (Int32 × fsS) := (F_X3_refusePairs x1 x2 σ).bind (fun q1 => if q1.1 = 0 then (L_X3_looks_19  fs_fu x1 x2 (0 : Int32) (0 : Int32) q1.2).bind (fun q8 => some (q8, q1.2)) else some (q1.1, q1.2))
set_option maxRecDepth 20000 in
set_option maxHeartbeats 40000000 in
theorem l_X3_looks_19   {X : fsC} (hX : fs_ok cX3_looks RX3 6 { frames := 2, cells := 0, slots := 0, locals := 52 } X) : ∀ (n : Nat) (y1 : Int32) (y2 : Int32) (y4 : Int32) (y5 : Int32) (σ : fsS) (μ : fsL) (out : Int32) (_ : L_X3_looks_19  n y1 y2 y4 y5 σ = some out) (k0 : fs_PW X 75 [none, none, none, none, some (.int out), none] [] σ μ), fs_PW X 19 [some (.ref 0), some (.int y1), some (.int y2), none, some (.int y4), some (.int y5)] [] σ μ := by
  intro n
  induction n with
  | zero =>
    intro y1 y2 y4 y5 σ μ out h
    cases (show (none : Option (Int32)) = some out from h)
  | succ n0 ih =>
    intro y1 y2 y4 y5 σ μ out h k0
    unfold L_X3_looks_19 at h
    refine s_iload hX dX3_looks_19 rfl ?_
    refine s_bi hX (9 : Int32) dX3_looks_21 (by decide) ?_
    refine s_ic_gt hX 75 dX3_looks_23 (by decide) (fun c3 => ?_) (fun c3 => ?_)
    · have h := (if_pos c3).symm.trans h
      cases h
      refine fs_ma [false, false, false, false, true, false] ?_
      exact k0
    · have h := (if_neg c3).symm.trans h
      refine s_aload_n hX dX3_looks_26 rfl ?_
      refine s_iload_n hX dX3_looks_27 rfl ?_
      refine s_aload_n hX dX3_looks_28 rfl ?_
      refine s_getr hX dX3_looks_29 f_X3_24 rfl ?_
      refine s_getr hX dX3_looks_32 f_X3_113 rfl ?_
      refine s_getr hX dX3_looks_35 f_X3_125 rfl ?_
      refine s_iload_n hX dX3_looks_38 rfl ?_
      obtain ⟨g4, h⟩ := fs_gd h
      refine s_iald hX dX3_looks_39 g4 ?_
      refine s_iload hX dX3_looks_40 rfl ?_
      refine s_aload_n hX dX3_looks_42 rfl ?_
      refine s_getr hX dX3_looks_43 f_X3_24 rfl ?_
      refine s_getr hX dX3_looks_46 f_X3_113 rfl ?_
      refine s_getr hX dX3_looks_49 f_X3_170 rfl ?_
      refine s_iload_n hX dX3_looks_52 rfl ?_
      obtain ⟨g5, h⟩ := fs_gd h
      refine s_iald hX dX3_looks_53 g5 ?_
      obtain ⟨q6, e6, h⟩ := fs_bind h
      refine s_cV hX [.int y2, .int (σ 21 y1.toNatClampNeg), .int y5, .int (σ 25 y1.toNatClampNeg)] dX3_looks_54 k_X3_235 v_X3_fitsPairs (m_X3_fitsPairs y2 (σ 21 y1.toNatClampNeg) y5 (σ 25 y1.toNatClampNeg) σ μ q6 e6) ⟨_, rfl⟩ fs_c3 ⟨rfl, rfl⟩ ⟨(Nat.le_of_ble_eq_true rfl), (Nat.le_of_ble_eq_true rfl)⟩ rfl rfl (Nat.le_of_ble_eq_true rfl) ?_
      refine s_if_eq hX 69 dX3_looks_57 (by decide) (fun c7 => ?_) (fun c7 => ?_)
      · have h := (if_pos c7).symm.trans h
        refine s_iinc hX (y5 + (1 : Int32)) dX3_looks_69 rfl rfl (Nat.le_of_ble_eq_true rfl) ?_
        refine s_goto hX 19 dX3_looks_72 (by decide) ?_
        refine fs_ma [true, true, true, false, true, true] ?_
        exact ih y1 y2 y4 (y5 + (1 : Int32)) σ μ out h k0
      · have h := (if_neg c7).symm.trans h
        refine s_iload hX dX3_looks_60 rfl ?_
        refine s_ic hX (1 : Int32) dX3_looks_62 (by decide) ?_
        refine s_iload hX dX3_looks_63 rfl ?_
        refine s_ishl hX dX3_looks_65 ?_
        refine s_ior hX dX3_looks_66 ?_
        refine s_istore hX dX3_looks_67 (Nat.le_of_ble_eq_true rfl) ?_
        refine s_iinc hX (y5 + (1 : Int32)) dX3_looks_69 rfl rfl (Nat.le_of_ble_eq_true rfl) ?_
        refine s_goto hX 19 dX3_looks_72 (by decide) ?_
        refine fs_ma [true, true, true, false, true, true] ?_
        exact ih y1 y2 (y4 ||| ((1 : Int32) <<< (y5 &&& 31))) (y5 + (1 : Int32)) σ μ out h k0
set_option maxRecDepth 20000 in
set_option maxHeartbeats 40000000 in
theorem m_X3_looks (x1 : Int32) (x2 : Int32)  (σ : fsS) (μ : fsL) (out : Int32 × fsS) (h : F_X3_looks x1 x2 σ = some out) : fs_Met yX3_looks cX3_looks 6 (some .int) { frames := 2, cells := 0, slots := 0, locals := 52 } [.ref 0, .int x1, .int x2] σ μ (some (.int out.1)) out.2 μ := by
  unfold F_X3_looks at h
  refine fs_intro (by decide +kernel) (Nat.le_of_ble_eq_true rfl) (fun X hX hR => ?_)
  show fs_PW X 0 [some (.ref 0), some (.int x1), some (.int x2), none, none, none] [] σ μ
  refine s_aload_n hX dX3_looks_0 rfl ?_
  refine s_iload_n hX dX3_looks_1 rfl ?_
  refine s_iload_n hX dX3_looks_2 rfl ?_
  obtain ⟨q1, e1, h⟩ := fs_bind h
  refine s_cV hX [.int x1, .int x2] dX3_looks_3 k_X3_232 v_X3_refusePairs (m_X3_refusePairs x1 x2 σ μ q1 e1) ⟨_, rfl⟩ fs_c3 ⟨rfl, rfl⟩ ⟨(Nat.le_of_ble_eq_true rfl), (Nat.le_of_ble_eq_true rfl)⟩ rfl rfl (Nat.le_of_ble_eq_true rfl) ?_
  refine s_istore_n hX dX3_looks_6 (Nat.le_of_ble_eq_true rfl) ?_
  refine s_iload_n hX dX3_looks_7 rfl ?_
  refine s_if_eq hX 13 dX3_looks_8 (by decide) (fun c2 => ?_) (fun c2 => ?_)
  · have h := (if_pos c2).symm.trans h
    refine s_ic hX (0 : Int32) dX3_looks_13 (by decide) ?_
    refine s_istore hX dX3_looks_14 (Nat.le_of_ble_eq_true rfl) ?_
    refine s_ic hX (0 : Int32) dX3_looks_16 (by decide) ?_
    refine s_istore hX dX3_looks_17 (Nat.le_of_ble_eq_true rfl) ?_
    obtain ⟨q8, e8, h⟩ := fs_bind h
    refine fs_ma [true, true, true, false, true, true] ?_
    refine l_X3_looks_19  hX fs_fu x1 x2 (0 : Int32) (0 : Int32) q1.2 μ q8 e8 ?_
    refine s_iload hX dX3_looks_75 rfl ?_
    cases h
    exact s_iret hX hR dX3_looks_77
  · have h := (if_neg c2).symm.trans h
    refine s_iload_n hX dX3_looks_11 rfl ?_
    cases h
    exact s_iret hX hR dX3_looks_12

-- X3_kindsByPairs
def L_X3_kindsByPairs_5  : Nat → Int32 → Int32 → Int32 → Int32 → fsS → Option (Int32)
  | 0, _, _, _, _, _ => none
  | n0 + 1, y1, y2, y3, y4, σ => if (6 : Int32) ≤ y4 then some y3 else fs_g (fs_in y1 6) (fs_g (fs_in y1 6) ((F_X3_fitsPairs y2 y4 (σ 22 y1.toNatClampNeg) (σ 25 y1.toNatClampNeg) σ).bind (fun q4 => if q4 = 0 then L_X3_kindsByPairs_5  n0 y1 y2 y3 (y4 + (1 : Int32)) σ else L_X3_kindsByPairs_5  n0 y1 y2 (y3 ||| ((1 : Int32) <<< (y4 &&& 31))) (y4 + (1 : Int32)) σ)))
def F_X3_kindsByPairs (x1 : Int32) (x2 : Int32) (σ : fsS) : Option (Int32) := (L_X3_kindsByPairs_5  fs_fu x1 x2 (0 : Int32) (0 : Int32) σ).bind (fun q6 => some q6)
set_option maxRecDepth 20000 in
set_option maxHeartbeats 40000000 in
theorem l_X3_kindsByPairs_5   {X : fsC} (hX : fs_ok cX3_kindsByPairs RX3 5 { frames := 2, cells := 0, slots := 0, locals := 52 } X) : ∀ (n : Nat) (y1 : Int32) (y2 : Int32) (y3 : Int32) (y4 : Int32) (σ : fsS) (μ : fsL) (out : Int32) (_ : L_X3_kindsByPairs_5  n y1 y2 y3 y4 σ = some out) (k0 : fs_PW X 59 [none, none, none, some (.int out), none] [] σ μ), fs_PW X 5 [some (.ref 0), some (.int y1), some (.int y2), some (.int y3), some (.int y4)] [] σ μ := by
  intro n
  induction n with
  | zero =>
    intro y1 y2 y3 y4 σ μ out h
    cases (show (none : Option (Int32)) = some out from h)
  | succ n0 ih =>
    intro y1 y2 y3 y4 σ μ out h k0
    unfold L_X3_kindsByPairs_5 at h
    refine s_iload hX dX3_kindsByPairs_5 rfl ?_
    refine s_bi hX (6 : Int32) dX3_kindsByPairs_7 (by decide) ?_
    refine s_ic_ge hX 59 dX3_kindsByPairs_9 (by decide) (fun c1 => ?_) (fun c1 => ?_)
    · have h := (if_pos c1).symm.trans h
      cases h
      refine fs_ma [false, false, false, true, false] ?_
      exact k0
    · have h := (if_neg c1).symm.trans h
      refine s_aload_n hX dX3_kindsByPairs_12 rfl ?_
      refine s_iload_n hX dX3_kindsByPairs_13 rfl ?_
      refine s_iload hX dX3_kindsByPairs_14 rfl ?_
      refine s_aload_n hX dX3_kindsByPairs_16 rfl ?_
      refine s_getr hX dX3_kindsByPairs_17 f_X3_24 rfl ?_
      refine s_getr hX dX3_kindsByPairs_20 f_X3_113 rfl ?_
      refine s_getr hX dX3_kindsByPairs_23 f_X3_143 rfl ?_
      refine s_iload_n hX dX3_kindsByPairs_26 rfl ?_
      obtain ⟨g2, h⟩ := fs_gd h
      refine s_iald hX dX3_kindsByPairs_27 g2 ?_
      refine s_aload_n hX dX3_kindsByPairs_28 rfl ?_
      refine s_getr hX dX3_kindsByPairs_29 f_X3_24 rfl ?_
      refine s_getr hX dX3_kindsByPairs_32 f_X3_113 rfl ?_
      refine s_getr hX dX3_kindsByPairs_35 f_X3_170 rfl ?_
      refine s_iload_n hX dX3_kindsByPairs_38 rfl ?_
      obtain ⟨g3, h⟩ := fs_gd h
      refine s_iald hX dX3_kindsByPairs_39 g3 ?_
      obtain ⟨q4, e4, h⟩ := fs_bind h
      refine s_cV hX [.int y2, .int y4, .int (σ 22 y1.toNatClampNeg), .int (σ 25 y1.toNatClampNeg)] dX3_kindsByPairs_40 k_X3_235 v_X3_fitsPairs (m_X3_fitsPairs y2 y4 (σ 22 y1.toNatClampNeg) (σ 25 y1.toNatClampNeg) σ μ q4 e4) ⟨_, rfl⟩ fs_c3 ⟨rfl, rfl⟩ ⟨(Nat.le_of_ble_eq_true rfl), (Nat.le_of_ble_eq_true rfl)⟩ rfl rfl (Nat.le_of_ble_eq_true rfl) ?_
      refine s_if_eq hX 53 dX3_kindsByPairs_43 (by decide) (fun c5 => ?_) (fun c5 => ?_)
      · have h := (if_pos c5).symm.trans h
        refine s_iinc hX (y4 + (1 : Int32)) dX3_kindsByPairs_53 rfl rfl (Nat.le_of_ble_eq_true rfl) ?_
        refine s_goto hX 5 dX3_kindsByPairs_56 (by decide) ?_
        refine fs_ma [true, true, true, true, true] ?_
        exact ih y1 y2 y3 (y4 + (1 : Int32)) σ μ out h k0
      · have h := (if_neg c5).symm.trans h
        refine s_iload_n hX dX3_kindsByPairs_46 rfl ?_
        refine s_ic hX (1 : Int32) dX3_kindsByPairs_47 (by decide) ?_
        refine s_iload hX dX3_kindsByPairs_48 rfl ?_
        refine s_ishl hX dX3_kindsByPairs_50 ?_
        refine s_ior hX dX3_kindsByPairs_51 ?_
        refine s_istore_n hX dX3_kindsByPairs_52 (Nat.le_of_ble_eq_true rfl) ?_
        refine s_iinc hX (y4 + (1 : Int32)) dX3_kindsByPairs_53 rfl rfl (Nat.le_of_ble_eq_true rfl) ?_
        refine s_goto hX 5 dX3_kindsByPairs_56 (by decide) ?_
        refine fs_ma [true, true, true, true, true] ?_
        exact ih y1 y2 (y3 ||| ((1 : Int32) <<< (y4 &&& 31))) (y4 + (1 : Int32)) σ μ out h k0
set_option maxRecDepth 20000 in
set_option maxHeartbeats 40000000 in
theorem m_X3_kindsByPairs (x1 : Int32) (x2 : Int32)  (σ : fsS) (μ : fsL) (out : Int32) (h : F_X3_kindsByPairs x1 x2 σ = some out) : fs_Met yX3_kindsByPairs cX3_kindsByPairs 5 (some .int) { frames := 2, cells := 0, slots := 0, locals := 52 } [.ref 0, .int x1, .int x2] σ μ (some (.int out)) σ μ := by
  unfold F_X3_kindsByPairs at h
  refine fs_intro (by decide +kernel) (Nat.le_of_ble_eq_true rfl) (fun X hX hR => ?_)
  show fs_PW X 0 [some (.ref 0), some (.int x1), some (.int x2), none, none] [] σ μ
  refine s_ic hX (0 : Int32) dX3_kindsByPairs_0 (by decide) ?_
  refine s_istore_n hX dX3_kindsByPairs_1 (Nat.le_of_ble_eq_true rfl) ?_
  refine s_ic hX (0 : Int32) dX3_kindsByPairs_2 (by decide) ?_
  refine s_istore hX dX3_kindsByPairs_3 (Nat.le_of_ble_eq_true rfl) ?_
  obtain ⟨q6, e6, h⟩ := fs_bind h
  refine fs_ma [true, true, true, true, true] ?_
  refine l_X3_kindsByPairs_5  hX fs_fu x1 x2 (0 : Int32) (0 : Int32) σ μ q6 e6 ?_
  refine s_iload_n hX dX3_kindsByPairs_59 rfl ?_
  cases h
  exact s_iret hX hR dX3_kindsByPairs_60

-- X3_kinds
def F_X3_kinds (x1 : Int32) (x2 : Int32) (σ : fsS) : Option (Int32 × fsS) := (F_X3_refusePairs x1 x2 σ).bind (fun q1 => if q1.1 = 0 then (F_X3_kindsByPairs x1 x2 q1.2).bind (fun q3 => some (q3, q1.2)) else some (q1.1, q1.2))
set_option maxRecDepth 20000 in
set_option maxHeartbeats 40000000 in
theorem m_X3_kinds (x1 : Int32) (x2 : Int32)  (σ : fsS) (μ : fsL) (out : Int32 × fsS) (h : F_X3_kinds x1 x2 σ = some out) : fs_Met yX3_kinds cX3_kinds 4 (some .int) { frames := 3, cells := 0, slots := 0, locals := 76 } [.ref 0, .int x1, .int x2] σ μ (some (.int out.1)) out.2 μ := by
  unfold F_X3_kinds at h
  refine fs_intro (by decide +kernel) (Nat.le_of_ble_eq_true rfl) (fun X hX hR => ?_)
  show fs_PW X 0 [some (.ref 0), some (.int x1), some (.int x2), none] [] σ μ
  refine s_aload_n hX dX3_kinds_0 rfl ?_
  refine s_iload_n hX dX3_kinds_1 rfl ?_
  refine s_iload_n hX dX3_kinds_2 rfl ?_
  obtain ⟨q1, e1, h⟩ := fs_bind h
  refine s_cV hX [.int x1, .int x2] dX3_kinds_3 k_X3_232 v_X3_refusePairs (m_X3_refusePairs x1 x2 σ μ q1 e1) ⟨_, rfl⟩ fs_c3 ⟨rfl, rfl⟩ ⟨(Nat.le_of_ble_eq_true rfl), (Nat.le_of_ble_eq_true rfl)⟩ rfl rfl (Nat.le_of_ble_eq_true rfl) ?_
  refine s_istore_n hX dX3_kinds_6 (Nat.le_of_ble_eq_true rfl) ?_
  refine s_iload_n hX dX3_kinds_7 rfl ?_
  refine s_if_eq hX 15 dX3_kinds_8 (by decide) (fun c2 => ?_) (fun c2 => ?_)
  · have h := (if_pos c2).symm.trans h
    refine s_aload_n hX dX3_kinds_15 rfl ?_
    refine s_iload_n hX dX3_kinds_16 rfl ?_
    refine s_iload_n hX dX3_kinds_17 rfl ?_
    obtain ⟨q3, e3, h⟩ := fs_bind h
    refine s_cV hX [.int x1, .int x2] dX3_kinds_18 k_X3_238 v_X3_kindsByPairs (m_X3_kindsByPairs x1 x2 q1.2 μ q3 e3) ⟨_, rfl⟩ fs_c3 ⟨rfl, rfl⟩ ⟨(Nat.le_of_ble_eq_true rfl), (Nat.le_of_ble_eq_true rfl)⟩ rfl rfl (Nat.le_of_ble_eq_true rfl) ?_
    cases h
    exact s_iret hX hR dX3_kinds_21
  · have h := (if_neg c2).symm.trans h
    refine s_iload_n hX dX3_kinds_11 rfl ?_
    refine s_goto hX 21 dX3_kinds_12 (by decide) ?_
    cases h
    exact s_iret hX hR dX3_kinds_21

-- X3_partLike
def L_X3_partLike_46  : Nat → Int32 → Int32 → Int32 → Int32 → Int32 → Int32 → Int32 → Option (Int32)
  | 0, _, _, _, _, _, _, _ => none
  | n0 + 1, y3, y4, y5, y6, y7, y8, y9 => if (6 : Int32) ≤ y9 then some y8 else if ((y3 >>> (y9 &&& 31)) &&& (1 : Int32)) = 0 then L_X3_partLike_46  n0 y3 y4 y5 y6 y7 y8 (y9 + (1 : Int32)) else if (F_X1_regardOf y9 y5 y6 y4) = y7 then L_X3_partLike_46  n0 y3 y4 y5 y6 y7 (y8 + (1 : Int32)) (y9 + (1 : Int32)) else L_X3_partLike_46  n0 y3 y4 y5 y6 y7 y8 (y9 + (1 : Int32))
def F_X3_partLike (x1 : Int32) (x2 : Int32) (x3 : Int32) (x4 : Int32) (σ : fsS) : Option (Int32) := fs_g (fs_in x2 6) (fs_g (fs_in x2 6) ((L_X3_partLike_46  fs_fu x3 x4 (σ 22 x2.toNatClampNeg) (σ 25 x2.toNatClampNeg) (F_X1_regardOf x1 (σ 22 x2.toNatClampNeg) (σ 25 x2.toNatClampNeg) x4) (0 : Int32) (0 : Int32)).bind (fun q6 => some q6)))
set_option maxRecDepth 20000 in
set_option maxHeartbeats 40000000 in
theorem l_X3_partLike_46   {X : fsC} (hX : fs_ok cX3_partLike RX3 10 { frames := 1, cells := 0, slots := 0, locals := 26 } X) : ∀ (n : Nat) (y3 : Int32) (y4 : Int32) (y5 : Int32) (y6 : Int32) (y7 : Int32) (y8 : Int32) (y9 : Int32) (σ : fsS) (μ : fsL) (out : Int32) (_ : L_X3_partLike_46  n y3 y4 y5 y6 y7 y8 y9 = some out) (k0 : fs_PW X 87 [none, none, none, none, none, none, none, none, some (.int out), none] [] σ μ), fs_PW X 46 [none, none, none, some (.int y3), some (.int y4), some (.int y5), some (.int y6), some (.int y7), some (.int y8), some (.int y9)] [] σ μ := by
  intro n
  induction n with
  | zero =>
    intro y3 y4 y5 y6 y7 y8 y9 σ μ out h
    cases (show (none : Option (Int32)) = some out from h)
  | succ n0 ih =>
    intro y3 y4 y5 y6 y7 y8 y9 σ μ out h k0
    unfold L_X3_partLike_46 at h
    refine s_iload hX dX3_partLike_46 rfl ?_
    refine s_bi hX (6 : Int32) dX3_partLike_48 (by decide) ?_
    refine s_ic_ge hX 87 dX3_partLike_50 (by decide) (fun c3 => ?_) (fun c3 => ?_)
    · have h := (if_pos c3).symm.trans h
      cases h
      refine fs_ma [false, false, false, false, false, false, false, false, true, false] ?_
      exact k0
    · have h := (if_neg c3).symm.trans h
      refine s_iload_n hX dX3_partLike_53 rfl ?_
      refine s_iload hX dX3_partLike_54 rfl ?_
      refine s_ishr hX dX3_partLike_56 ?_
      refine s_ic hX (1 : Int32) dX3_partLike_57 (by decide) ?_
      refine s_iand hX dX3_partLike_58 ?_
      refine s_if_eq hX 81 dX3_partLike_59 (by decide) (fun c4 => ?_) (fun c4 => ?_)
      · have h := (if_pos c4).symm.trans h
        refine s_iinc hX (y9 + (1 : Int32)) dX3_partLike_81 rfl rfl (Nat.le_of_ble_eq_true rfl) ?_
        refine s_goto hX 46 dX3_partLike_84 (by decide) ?_
        refine fs_ma [false, false, false, true, true, true, true, true, true, true] ?_
        exact ih y3 y4 y5 y6 y7 y8 (y9 + (1 : Int32)) σ μ out h k0
      · have h := (if_neg c4).symm.trans h
        refine s_iload hX dX3_partLike_62 rfl ?_
        refine s_iload hX dX3_partLike_64 rfl ?_
        refine s_iload hX dX3_partLike_66 rfl ?_
        refine s_iload hX dX3_partLike_68 rfl ?_
        refine s_callS hX (as := [.int y9, .int y5, .int y6, .int y4]) dX3_partLike_70 k_X3_146 v_X1_regardOf (m_X1_regardOf y9 y5 y6 y4 σ μ _ rfl) ⟨rfl, rfl⟩ ⟨(Nat.le_of_ble_eq_true rfl), (Nat.le_of_ble_eq_true rfl)⟩ rfl rfl (Nat.le_of_ble_eq_true rfl) ?_
        refine s_iload hX dX3_partLike_73 rfl ?_
        refine s_ic_ne hX 81 dX3_partLike_75 (by decide) (fun c5 => ?_) (fun c5 => ?_)
        · have h := (if_neg c5).symm.trans h
          refine s_iinc hX (y9 + (1 : Int32)) dX3_partLike_81 rfl rfl (Nat.le_of_ble_eq_true rfl) ?_
          refine s_goto hX 46 dX3_partLike_84 (by decide) ?_
          refine fs_ma [false, false, false, true, true, true, true, true, true, true] ?_
          exact ih y3 y4 y5 y6 y7 y8 (y9 + (1 : Int32)) σ μ out h k0
        · have h := (if_pos c5).symm.trans h
          refine s_iinc hX (y8 + (1 : Int32)) dX3_partLike_78 rfl rfl (Nat.le_of_ble_eq_true rfl) ?_
          refine s_iinc hX (y9 + (1 : Int32)) dX3_partLike_81 rfl rfl (Nat.le_of_ble_eq_true rfl) ?_
          refine s_goto hX 46 dX3_partLike_84 (by decide) ?_
          refine fs_ma [false, false, false, true, true, true, true, true, true, true] ?_
          exact ih y3 y4 y5 y6 y7 (y8 + (1 : Int32)) (y9 + (1 : Int32)) σ μ out h k0
set_option maxRecDepth 20000 in
set_option maxHeartbeats 40000000 in
theorem m_X3_partLike (x1 : Int32) (x2 : Int32) (x3 : Int32) (x4 : Int32)  (σ : fsS) (μ : fsL) (out : Int32) (h : F_X3_partLike x1 x2 x3 x4 σ = some out) : fs_Met yX3_partLike cX3_partLike 10 (some .int) { frames := 1, cells := 0, slots := 0, locals := 26 } [.ref 0, .int x1, .int x2, .int x3, .int x4] σ μ (some (.int out)) σ μ := by
  unfold F_X3_partLike at h
  refine fs_intro (by decide +kernel) (Nat.le_of_ble_eq_true rfl) (fun X hX hR => ?_)
  show fs_PW X 0 [some (.ref 0), some (.int x1), some (.int x2), some (.int x3), some (.int x4), none, none, none, none, none] [] σ μ
  refine s_aload_n hX dX3_partLike_0 rfl ?_
  refine s_getr hX dX3_partLike_1 f_X3_24 rfl ?_
  refine s_getr hX dX3_partLike_4 f_X3_113 rfl ?_
  refine s_getr hX dX3_partLike_7 f_X3_143 rfl ?_
  refine s_iload_n hX dX3_partLike_10 rfl ?_
  obtain ⟨g1, h⟩ := fs_gd h
  refine s_iald hX dX3_partLike_11 g1 ?_
  refine s_istore hX dX3_partLike_12 (Nat.le_of_ble_eq_true rfl) ?_
  refine s_aload_n hX dX3_partLike_14 rfl ?_
  refine s_getr hX dX3_partLike_15 f_X3_24 rfl ?_
  refine s_getr hX dX3_partLike_18 f_X3_113 rfl ?_
  refine s_getr hX dX3_partLike_21 f_X3_170 rfl ?_
  refine s_iload_n hX dX3_partLike_24 rfl ?_
  obtain ⟨g2, h⟩ := fs_gd h
  refine s_iald hX dX3_partLike_25 g2 ?_
  refine s_istore hX dX3_partLike_26 (Nat.le_of_ble_eq_true rfl) ?_
  refine s_iload_n hX dX3_partLike_28 rfl ?_
  refine s_iload hX dX3_partLike_29 rfl ?_
  refine s_iload hX dX3_partLike_31 rfl ?_
  refine s_iload hX dX3_partLike_33 rfl ?_
  refine s_callS hX (as := [.int x1, .int (σ 22 x2.toNatClampNeg), .int (σ 25 x2.toNatClampNeg), .int x4]) dX3_partLike_35 k_X3_146 v_X1_regardOf (m_X1_regardOf x1 (σ 22 x2.toNatClampNeg) (σ 25 x2.toNatClampNeg) x4 σ μ _ rfl) ⟨rfl, rfl⟩ ⟨(Nat.le_of_ble_eq_true rfl), (Nat.le_of_ble_eq_true rfl)⟩ rfl rfl (Nat.le_of_ble_eq_true rfl) ?_
  refine s_istore hX dX3_partLike_38 (Nat.le_of_ble_eq_true rfl) ?_
  refine s_ic hX (0 : Int32) dX3_partLike_40 (by decide) ?_
  refine s_istore hX dX3_partLike_41 (Nat.le_of_ble_eq_true rfl) ?_
  refine s_ic hX (0 : Int32) dX3_partLike_43 (by decide) ?_
  refine s_istore hX dX3_partLike_44 (Nat.le_of_ble_eq_true rfl) ?_
  obtain ⟨q6, e6, h⟩ := fs_bind h
  refine fs_ma [false, false, false, true, true, true, true, true, true, true] ?_
  refine l_X3_partLike_46  hX fs_fu x3 x4 (σ 22 x2.toNatClampNeg) (σ 25 x2.toNatClampNeg) (F_X1_regardOf x1 (σ 22 x2.toNatClampNeg) (σ 25 x2.toNatClampNeg) x4) (0 : Int32) (0 : Int32) σ μ q6 e6 ?_
  refine s_iload hX dX3_partLike_87 rfl ?_
  cases h
  exact s_iret hX hR dX3_partLike_89

-- X3_greatestPart
def L_X3_greatestPart_6  : Nat → Int32 → Int32 → Int32 → Int32 → Int32 → fsS → Option (Int32)
  | 0, _, _, _, _, _, _ => none
  | n0 + 1, y1, y2, y3, y4, y5, σ => if (6 : Int32) ≤ y5 then some y4 else if ((y2 >>> (y5 &&& 31)) &&& (1 : Int32)) = 0 then L_X3_greatestPart_6  n0 y1 y2 y3 y4 (y5 + (1 : Int32)) σ else (F_X3_partLike y5 y1 y2 y3 σ).bind (fun q3 => L_X3_greatestPart_6  n0 y1 y2 y3 (if y4 < q3 then q3 else y4) (y5 + (1 : Int32)) σ)
def F_X3_greatestPart (x1 : Int32) (x2 : Int32) (x3 : Int32) (σ : fsS) : Option (Int32) := (L_X3_greatestPart_6  fs_fu x1 x2 x3 (0 : Int32) (0 : Int32) σ).bind (fun q4 => some q4)
set_option maxRecDepth 20000 in
set_option maxHeartbeats 40000000 in
theorem l_X3_greatestPart_6   {X : fsC} (hX : fs_ok cX3_greatestPart RX3 6 { frames := 2, cells := 0, slots := 0, locals := 55 } X) : ∀ (n : Nat) (y1 : Int32) (y2 : Int32) (y3 : Int32) (y4 : Int32) (y5 : Int32) (σ : fsS) (μ : fsL) (out : Int32) (_ : L_X3_greatestPart_6  n y1 y2 y3 y4 y5 σ = some out) (k0 : fs_PW X 44 [none, none, none, none, some (.int out), none] [] σ μ), fs_PW X 6 [some (.ref 0), some (.int y1), some (.int y2), some (.int y3), some (.int y4), some (.int y5)] [] σ μ := by
  intro n
  induction n with
  | zero =>
    intro y1 y2 y3 y4 y5 σ μ out h
    cases (show (none : Option (Int32)) = some out from h)
  | succ n0 ih =>
    intro y1 y2 y3 y4 y5 σ μ out h k0
    unfold L_X3_greatestPart_6 at h
    refine s_iload hX dX3_greatestPart_6 rfl ?_
    refine s_bi hX (6 : Int32) dX3_greatestPart_8 (by decide) ?_
    refine s_ic_ge hX 44 dX3_greatestPart_10 (by decide) (fun c1 => ?_) (fun c1 => ?_)
    · have h := (if_pos c1).symm.trans h
      cases h
      refine fs_ma [false, false, false, false, true, false] ?_
      exact k0
    · have h := (if_neg c1).symm.trans h
      refine s_iload_n hX dX3_greatestPart_13 rfl ?_
      refine s_iload hX dX3_greatestPart_14 rfl ?_
      refine s_ishr hX dX3_greatestPart_16 ?_
      refine s_ic hX (1 : Int32) dX3_greatestPart_17 (by decide) ?_
      refine s_iand hX dX3_greatestPart_18 ?_
      refine s_if_eq hX 38 dX3_greatestPart_19 (by decide) (fun c2 => ?_) (fun c2 => ?_)
      · have h := (if_pos c2).symm.trans h
        refine s_iinc hX (y5 + (1 : Int32)) dX3_greatestPart_38 rfl rfl (Nat.le_of_ble_eq_true rfl) ?_
        refine s_goto hX 6 dX3_greatestPart_41 (by decide) ?_
        refine fs_ma [true, true, true, true, true, true] ?_
        exact ih y1 y2 y3 y4 (y5 + (1 : Int32)) σ μ out h k0
      · have h := (if_neg c2).symm.trans h
        refine s_iload hX dX3_greatestPart_22 rfl ?_
        refine s_aload_n hX dX3_greatestPart_24 rfl ?_
        refine s_iload hX dX3_greatestPart_25 rfl ?_
        refine s_iload_n hX dX3_greatestPart_27 rfl ?_
        refine s_iload_n hX dX3_greatestPart_28 rfl ?_
        refine s_iload_n hX dX3_greatestPart_29 rfl ?_
        obtain ⟨q3, e3, h⟩ := fs_bind h
        refine s_cV hX [.int y5, .int y1, .int y2, .int y3] dX3_greatestPart_30 k_X3_326 v_X3_partLike (m_X3_partLike y5 y1 y2 y3 σ μ q3 e3) ⟨_, rfl⟩ fs_c3 ⟨rfl, rfl⟩ ⟨(Nat.le_of_ble_eq_true rfl), (Nat.le_of_ble_eq_true rfl)⟩ rfl rfl (Nat.le_of_ble_eq_true rfl) ?_
        refine s_mmax hX dX3_greatestPart_33 k_X3_329 rfl (Nat.le_of_ble_eq_true rfl) (Nat.le_of_ble_eq_true rfl) ?_
        refine s_istore hX dX3_greatestPart_36 (Nat.le_of_ble_eq_true rfl) ?_
        refine s_iinc hX (y5 + (1 : Int32)) dX3_greatestPart_38 rfl rfl (Nat.le_of_ble_eq_true rfl) ?_
        refine s_goto hX 6 dX3_greatestPart_41 (by decide) ?_
        refine fs_ma [true, true, true, true, true, true] ?_
        exact ih y1 y2 y3 (if y4 < q3 then q3 else y4) (y5 + (1 : Int32)) σ μ out h k0
set_option maxRecDepth 20000 in
set_option maxHeartbeats 40000000 in
theorem m_X3_greatestPart (x1 : Int32) (x2 : Int32) (x3 : Int32)  (σ : fsS) (μ : fsL) (out : Int32) (h : F_X3_greatestPart x1 x2 x3 σ = some out) : fs_Met yX3_greatestPart cX3_greatestPart 6 (some .int) { frames := 2, cells := 0, slots := 0, locals := 55 } [.ref 0, .int x1, .int x2, .int x3] σ μ (some (.int out)) σ μ := by
  unfold F_X3_greatestPart at h
  refine fs_intro (by decide +kernel) (Nat.le_of_ble_eq_true rfl) (fun X hX hR => ?_)
  show fs_PW X 0 [some (.ref 0), some (.int x1), some (.int x2), some (.int x3), none, none] [] σ μ
  refine s_ic hX (0 : Int32) dX3_greatestPart_0 (by decide) ?_
  refine s_istore hX dX3_greatestPart_1 (Nat.le_of_ble_eq_true rfl) ?_
  refine s_ic hX (0 : Int32) dX3_greatestPart_3 (by decide) ?_
  refine s_istore hX dX3_greatestPart_4 (Nat.le_of_ble_eq_true rfl) ?_
  obtain ⟨q4, e4, h⟩ := fs_bind h
  refine fs_ma [true, true, true, true, true, true] ?_
  refine l_X3_greatestPart_6  hX fs_fu x1 x2 x3 (0 : Int32) (0 : Int32) σ μ q4 e4 ?_
  refine s_iload hX dX3_greatestPart_44 rfl ?_
  cases h
  exact s_iret hX hR dX3_greatestPart_46

-- X3_test
def L_X3_test_39  : Nat → Int32 → Int32 → Int32 → Int32 → Int32 → fsS → Option (Int32 × Int32)
  | 0, _, _, _, _, _, _ => none
  | n0 + 1, y1, y4, y5, y6, y7, σ => if (99 : Int32) < y7 then some (y5, y6) else (F_X3_greatestPart y1 y4 y7 σ).bind (fun q6 => if y6 ≤ q6 then L_X3_test_39  n0 y1 y4 y5 y6 (y7 + (1 : Int32)) σ else L_X3_test_39  n0 y1 y4 y7 q6 (y7 + (1 : Int32)) σ)
def F_X3_test (x1 : Int32) (x2 : Int32) (σ : fsS) : Option (Int32 × fsS) := (F_X3_refusePairs x1 x2 σ).bind (fun q1 => if q1.1 = 0 then (F_X3_kindsByPairs x1 x2 q1.2).bind (fun q3 => if q3 = 0 then some ((-9 : Int32), q1.2) else (L_X3_test_39  fs_fu x1 q3 (0 : Int32) (7 : Int32) (0 : Int32) q1.2).bind (fun q8 => some ((F_X3_tell q8.2 q8.1 q1.2).1, (F_X3_tell q8.2 q8.1 q1.2).2))) else some (q1.1, q1.2))
set_option maxRecDepth 20000 in
set_option maxHeartbeats 40000000 in
theorem l_X3_test_39   {X : fsC} (hX : fs_ok cX3_test RX3 9 { frames := 3, cells := 0, slots := 0, locals := 80 } X) : ∀ (n : Nat) (y1 : Int32) (y4 : Int32) (y5 : Int32) (y6 : Int32) (y7 : Int32) (σ : fsS) (μ : fsL) (out : Int32 × Int32) (_ : L_X3_test_39  n y1 y4 y5 y6 y7 σ = some out) (k0 : fs_PW X 78 [some (.ref 0), none, none, none, none, some (.int out.1), some (.int out.2), none, none] [] σ μ), fs_PW X 39 [some (.ref 0), some (.int y1), none, none, some (.int y4), some (.int y5), some (.int y6), some (.int y7), none] [] σ μ := by
  intro n
  induction n with
  | zero =>
    intro y1 y4 y5 y6 y7 σ μ out h
    cases (show (none : Option (Int32 × Int32)) = some out from h)
  | succ n0 ih =>
    intro y1 y4 y5 y6 y7 σ μ out h k0
    unfold L_X3_test_39 at h
    refine s_iload hX dX3_test_39 rfl ?_
    refine s_bi hX (99 : Int32) dX3_test_41 (by decide) ?_
    refine s_ic_gt hX 78 dX3_test_43 (by decide) (fun c5 => ?_) (fun c5 => ?_)
    · have h := (if_pos c5).symm.trans h
      cases h
      refine fs_ma [true, false, false, false, false, true, true, false, false] ?_
      exact k0
    · have h := (if_neg c5).symm.trans h
      refine s_aload_n hX dX3_test_46 rfl ?_
      refine s_iload_n hX dX3_test_47 rfl ?_
      refine s_iload hX dX3_test_48 rfl ?_
      refine s_iload hX dX3_test_50 rfl ?_
      obtain ⟨q6, e6, h⟩ := fs_bind h
      refine s_cV hX [.int y1, .int y4, .int y7] dX3_test_52 k_X3_241 v_X3_greatestPart (m_X3_greatestPart y1 y4 y7 σ μ q6 e6) ⟨_, rfl⟩ fs_c3 ⟨rfl, rfl⟩ ⟨(Nat.le_of_ble_eq_true rfl), (Nat.le_of_ble_eq_true rfl)⟩ rfl rfl (Nat.le_of_ble_eq_true rfl) ?_
      refine s_istore hX dX3_test_55 (Nat.le_of_ble_eq_true rfl) ?_
      refine s_iload hX dX3_test_57 rfl ?_
      refine s_iload hX dX3_test_59 rfl ?_
      refine s_ic_ge hX 72 dX3_test_61 (by decide) (fun c7 => ?_) (fun c7 => ?_)
      · have h := (if_pos c7).symm.trans h
        refine s_iinc hX (y7 + (1 : Int32)) dX3_test_72 rfl rfl (Nat.le_of_ble_eq_true rfl) ?_
        refine s_goto hX 39 dX3_test_75 (by decide) ?_
        refine fs_ma [true, true, false, false, true, true, true, true, false] ?_
        exact ih y1 y4 y5 y6 (y7 + (1 : Int32)) σ μ out h k0
      · have h := (if_neg c7).symm.trans h
        refine s_iload hX dX3_test_64 rfl ?_
        refine s_istore hX dX3_test_66 (Nat.le_of_ble_eq_true rfl) ?_
        refine s_iload hX dX3_test_68 rfl ?_
        refine s_istore hX dX3_test_70 (Nat.le_of_ble_eq_true rfl) ?_
        refine s_iinc hX (y7 + (1 : Int32)) dX3_test_72 rfl rfl (Nat.le_of_ble_eq_true rfl) ?_
        refine s_goto hX 39 dX3_test_75 (by decide) ?_
        refine fs_ma [true, true, false, false, true, true, true, true, false] ?_
        exact ih y1 y4 y7 q6 (y7 + (1 : Int32)) σ μ out h k0
set_option maxRecDepth 20000 in
set_option maxHeartbeats 40000000 in
theorem m_X3_test (x1 : Int32) (x2 : Int32)  (σ : fsS) (μ : fsL) (out : Int32 × fsS) (h : F_X3_test x1 x2 σ = some out) : fs_Met yX3_test cX3_test 9 (some .int) { frames := 3, cells := 0, slots := 0, locals := 80 } [.ref 0, .int x1, .int x2] σ μ (some (.int out.1)) out.2 μ := by
  unfold F_X3_test at h
  refine fs_intro (by decide +kernel) (Nat.le_of_ble_eq_true rfl) (fun X hX hR => ?_)
  show fs_PW X 0 [some (.ref 0), some (.int x1), some (.int x2), none, none, none, none, none, none] [] σ μ
  refine s_aload_n hX dX3_test_0 rfl ?_
  refine s_iload_n hX dX3_test_1 rfl ?_
  refine s_iload_n hX dX3_test_2 rfl ?_
  obtain ⟨q1, e1, h⟩ := fs_bind h
  refine s_cV hX [.int x1, .int x2] dX3_test_3 k_X3_232 v_X3_refusePairs (m_X3_refusePairs x1 x2 σ μ q1 e1) ⟨_, rfl⟩ fs_c3 ⟨rfl, rfl⟩ ⟨(Nat.le_of_ble_eq_true rfl), (Nat.le_of_ble_eq_true rfl)⟩ rfl rfl (Nat.le_of_ble_eq_true rfl) ?_
  refine s_istore_n hX dX3_test_6 (Nat.le_of_ble_eq_true rfl) ?_
  refine s_iload_n hX dX3_test_7 rfl ?_
  refine s_if_eq hX 13 dX3_test_8 (by decide) (fun c2 => ?_) (fun c2 => ?_)
  · have h := (if_pos c2).symm.trans h
    refine s_aload_n hX dX3_test_13 rfl ?_
    refine s_iload_n hX dX3_test_14 rfl ?_
    refine s_iload_n hX dX3_test_15 rfl ?_
    obtain ⟨q3, e3, h⟩ := fs_bind h
    refine s_cV hX [.int x1, .int x2] dX3_test_16 k_X3_238 v_X3_kindsByPairs (m_X3_kindsByPairs x1 x2 q1.2 μ q3 e3) ⟨_, rfl⟩ fs_c3 ⟨rfl, rfl⟩ ⟨(Nat.le_of_ble_eq_true rfl), (Nat.le_of_ble_eq_true rfl)⟩ rfl rfl (Nat.le_of_ble_eq_true rfl) ?_
    refine s_istore hX dX3_test_19 (Nat.le_of_ble_eq_true rfl) ?_
    refine s_iload hX dX3_test_21 rfl ?_
    refine s_if_ne hX 29 dX3_test_23 (by decide) (fun c4 => ?_) (fun c4 => ?_)
    · have h := (if_neg c4).symm.trans h
      refine s_ic hX (0 : Int32) dX3_test_29 (by decide) ?_
      refine s_istore hX dX3_test_30 (Nat.le_of_ble_eq_true rfl) ?_
      refine s_bi hX (7 : Int32) dX3_test_32 (by decide) ?_
      refine s_istore hX dX3_test_34 (Nat.le_of_ble_eq_true rfl) ?_
      refine s_ic hX (0 : Int32) dX3_test_36 (by decide) ?_
      refine s_istore hX dX3_test_37 (Nat.le_of_ble_eq_true rfl) ?_
      obtain ⟨q8, e8, h⟩ := fs_bind h
      refine fs_ma [true, true, false, false, true, true, true, true, false] ?_
      refine l_X3_test_39  hX fs_fu x1 q3 (0 : Int32) (7 : Int32) (0 : Int32) q1.2 μ q8 e8 ?_
      refine s_aload_n hX dX3_test_78 rfl ?_
      refine s_iload hX dX3_test_79 rfl ?_
      refine s_iload hX dX3_test_81 rfl ?_
      refine s_cV hX [.int q8.2, .int q8.1] dX3_test_83 k_X3_79 v_X3_tell (m_X3_tell q8.2 q8.1 q1.2 μ _ rfl) ⟨_, rfl⟩ fs_c3 ⟨rfl, rfl⟩ ⟨(Nat.le_of_ble_eq_true rfl), (Nat.le_of_ble_eq_true rfl)⟩ rfl rfl (Nat.le_of_ble_eq_true rfl) ?_
      cases h
      exact s_iret hX hR dX3_test_86
    · have h := (if_pos c4).symm.trans h
      refine s_bi hX (-9 : Int32) dX3_test_26 (by decide) ?_
      cases h
      exact s_iret hX hR dX3_test_28
  · have h := (if_neg c2).symm.trans h
    refine s_iload_n hX dX3_test_11 rfl ?_
    cases h
    exact s_iret hX hR dX3_test_12

-- X3_duelEnd
def F_X3_duelEnd (x1 : Int32) (x2 : Int32) (x3 : Int32) (σ : fsS) : Option (Int32 × fsS) := (F_X1_take 6 5 σ).bind (fun q1 => fs_g (fs_in x1 6) (fs_g (fs_in x2 6) ((F_X1_passAll 6 (4 : Int32) (fs_u (fs_u q1 32 x1.toNatClampNeg (x3 / (4 : Int32))) 32 x2.toNatClampNeg (x3 - x3 / (4 : Int32) * (4 : Int32)))).bind (fun q4 => fs_g (fs_in x1 6) (fs_g (fs_in x2 6) (some (((q4.2 31 x1.toNatClampNeg) - (q4.2 31 x2.toNatClampNeg)), q4.2)))))))
set_option maxRecDepth 20000 in
set_option maxHeartbeats 40000000 in
theorem m_X3_duelEnd (x1 : Int32) (x2 : Int32) (x3 : Int32)  (σ : fsS) (μ : fsL) (out : Int32 × fsS) (h : F_X3_duelEnd x1 x2 x3 σ = some out) : fs_Met yX3_duelEnd cX3_duelEnd 4 (some .int) { frames := 4, cells := 0, slots := 0, locals := 93 } [.ref 0, .int x1, .int x2, .int x3] σ μ (some (.int out.1)) out.2 μ := by
  unfold F_X3_duelEnd at h
  refine fs_intro (by decide +kernel) (Nat.le_of_ble_eq_true rfl) (fun X hX hR => ?_)
  show fs_PW X 0 [some (.ref 0), some (.int x1), some (.int x2), some (.int x3)] [] σ μ
  refine s_aload_n hX dX3_duelEnd_0 rfl ?_
  refine s_getr hX dX3_duelEnd_1 f_X3_31 rfl ?_
  refine s_aload_n hX dX3_duelEnd_4 rfl ?_
  refine s_getr hX dX3_duelEnd_5 f_X3_24 rfl ?_
  refine s_getr hX dX3_duelEnd_8 f_X3_113 rfl ?_
  obtain ⟨q1, e1, h⟩ := fs_bind h
  refine s_cV hX [.ref 5] dX3_duelEnd_11 k_X3_203 v_X1_take (m_X1_take 6 5 fs_K6 fs_K5 σ μ q1 e1) (fs_K_is fs_K6) fs_c1 ⟨rfl, rfl⟩ ⟨(Nat.le_of_ble_eq_true rfl), (Nat.le_of_ble_eq_true rfl)⟩ rfl rfl (Nat.le_of_ble_eq_true rfl) ?_
  refine s_aload_n hX dX3_duelEnd_14 rfl ?_
  refine s_getr hX dX3_duelEnd_15 f_X3_31 rfl ?_
  refine s_getr hX dX3_duelEnd_18 f_X3_170 rfl ?_
  refine s_iload_n hX dX3_duelEnd_21 rfl ?_
  refine s_iload_n hX dX3_duelEnd_22 rfl ?_
  refine s_ic hX (4 : Int32) dX3_duelEnd_23 (by decide) ?_
  refine s_idiv hX dX3_duelEnd_24 (by decide) ?_
  obtain ⟨g2, h⟩ := fs_gd h
  refine s_iast hX dX3_duelEnd_25 g2 ?_
  refine s_aload_n hX dX3_duelEnd_26 rfl ?_
  refine s_getr hX dX3_duelEnd_27 f_X3_31 rfl ?_
  refine s_getr hX dX3_duelEnd_30 f_X3_170 rfl ?_
  refine s_iload_n hX dX3_duelEnd_33 rfl ?_
  refine s_iload_n hX dX3_duelEnd_34 rfl ?_
  refine s_ic hX (4 : Int32) dX3_duelEnd_35 (by decide) ?_
  refine s_irem hX dX3_duelEnd_36 (by decide) ?_
  obtain ⟨g3, h⟩ := fs_gd h
  refine s_iast hX dX3_duelEnd_37 g3 ?_
  refine s_aload_n hX dX3_duelEnd_38 rfl ?_
  refine s_getr hX dX3_duelEnd_39 f_X3_31 rfl ?_
  refine s_ic hX (4 : Int32) dX3_duelEnd_42 (by decide) ?_
  obtain ⟨q4, e4, h⟩ := fs_bind h
  refine s_cV hX [.int (4 : Int32)] dX3_duelEnd_43 k_X3_320 v_X1_passAll (m_X1_passAll 6 (4 : Int32) fs_K6 (fs_u (fs_u q1 32 x1.toNatClampNeg (x3 / (4 : Int32))) 32 x2.toNatClampNeg (x3 - x3 / (4 : Int32) * (4 : Int32))) μ q4 e4) (fs_K_is fs_K6) fs_c1 ⟨rfl, rfl⟩ ⟨(Nat.le_of_ble_eq_true rfl), (Nat.le_of_ble_eq_true rfl)⟩ rfl rfl (Nat.le_of_ble_eq_true rfl) ?_
  refine s_pop hX dX3_duelEnd_46 rfl ?_
  refine s_aload_n hX dX3_duelEnd_47 rfl ?_
  refine s_getr hX dX3_duelEnd_48 f_X3_31 rfl ?_
  refine s_getr hX dX3_duelEnd_51 f_X3_176 rfl ?_
  refine s_iload_n hX dX3_duelEnd_54 rfl ?_
  obtain ⟨g5, h⟩ := fs_gd h
  refine s_iald hX dX3_duelEnd_55 g5 ?_
  refine s_aload_n hX dX3_duelEnd_56 rfl ?_
  refine s_getr hX dX3_duelEnd_57 f_X3_31 rfl ?_
  refine s_getr hX dX3_duelEnd_60 f_X3_176 rfl ?_
  refine s_iload_n hX dX3_duelEnd_63 rfl ?_
  obtain ⟨g6, h⟩ := fs_gd h
  refine s_iald hX dX3_duelEnd_64 g6 ?_
  refine s_isub hX dX3_duelEnd_65 ?_
  cases h
  exact s_iret hX hR dX3_duelEnd_66

-- X3_duelWay
def F_X3_duelWay (x0 : Int32) (x1 : Int32) : Int32 := (((4 : Int32) * x0) + x1)
set_option maxRecDepth 20000 in
set_option maxHeartbeats 40000000 in
theorem m_X3_duelWay (x0 : Int32) (x1 : Int32)  (σ : fsS) (μ : fsL) (out : Int32) (h : F_X3_duelWay x0 x1 = out) : fs_Met yX3_duelWay cX3_duelWay 2 (some .int) { frames := 0, cells := 0, slots := 0, locals := 0 } [.int x0, .int x1] σ μ (some (.int out)) σ μ := by
  unfold F_X3_duelWay at h
  refine fs_intro (by decide +kernel) (Nat.le_of_ble_eq_true rfl) (fun X hX hR => ?_)
  show fs_PW X 0 [some (.int x0), some (.int x1)] [] σ μ
  refine s_ic hX (4 : Int32) dX3_duelWay_0 (by decide) ?_
  refine s_iload_n hX dX3_duelWay_1 rfl ?_
  refine s_imul hX dX3_duelWay_2 ?_
  refine s_iload_n hX dX3_duelWay_3 rfl ?_
  refine s_iadd hX dX3_duelWay_4 ?_
  subst h
  exact s_iret hX hR dX3_duelWay_5

-- X3_bestForFirst
def F_X3_bestForFirst (x1 : Int32) (σ : fsS) : Option (Int32) := fs_g (fs_in x1 16) (fs_g (fs_in (F_X3_duelWay (0 : Int32) (x1 - x1 / (4 : Int32) * (4 : Int32))) 16) (fs_g (fs_in (F_X3_duelWay (if (3 : Int32) < ((x1 / (4 : Int32)) + (1 : Int32)) then (3 : Int32) else ((x1 / (4 : Int32)) + (1 : Int32))) (x1 - x1 / (4 : Int32) * (4 : Int32))) 16) (some (if (if (σ 8 x1.toNatClampNeg) < (σ 8 (F_X3_duelWay (0 : Int32) (x1 - x1 / (4 : Int32) * (4 : Int32))).toNatClampNeg) then (σ 8 (F_X3_duelWay (0 : Int32) (x1 - x1 / (4 : Int32) * (4 : Int32))).toNatClampNeg) else (σ 8 x1.toNatClampNeg)) < (σ 8 (F_X3_duelWay (if (3 : Int32) < ((x1 / (4 : Int32)) + (1 : Int32)) then (3 : Int32) else ((x1 / (4 : Int32)) + (1 : Int32))) (x1 - x1 / (4 : Int32) * (4 : Int32))).toNatClampNeg) then (σ 8 (F_X3_duelWay (if (3 : Int32) < ((x1 / (4 : Int32)) + (1 : Int32)) then (3 : Int32) else ((x1 / (4 : Int32)) + (1 : Int32))) (x1 - x1 / (4 : Int32) * (4 : Int32))).toNatClampNeg) else (if (σ 8 x1.toNatClampNeg) < (σ 8 (F_X3_duelWay (0 : Int32) (x1 - x1 / (4 : Int32) * (4 : Int32))).toNatClampNeg) then (σ 8 (F_X3_duelWay (0 : Int32) (x1 - x1 / (4 : Int32) * (4 : Int32))).toNatClampNeg) else (σ 8 x1.toNatClampNeg))))))
set_option maxRecDepth 20000 in
set_option maxHeartbeats 40000000 in
theorem m_X3_bestForFirst (x1 : Int32)  (σ : fsS) (μ : fsL) (out : Int32) (h : F_X3_bestForFirst x1 σ = some out) : fs_Met yX3_bestForFirst cX3_bestForFirst 6 (some .int) { frames := 1, cells := 0, slots := 0, locals := 21 } [.ref 0, .int x1] σ μ (some (.int out)) σ μ := by
  unfold F_X3_bestForFirst at h
  refine fs_intro (by decide +kernel) (Nat.le_of_ble_eq_true rfl) (fun X hX hR => ?_)
  show fs_PW X 0 [some (.ref 0), some (.int x1), none, none, none, none] [] σ μ
  refine s_iload_n hX dX3_bestForFirst_0 rfl ?_
  refine s_ic hX (4 : Int32) dX3_bestForFirst_1 (by decide) ?_
  refine s_idiv hX dX3_bestForFirst_2 (by decide) ?_
  refine s_istore_n hX dX3_bestForFirst_3 (Nat.le_of_ble_eq_true rfl) ?_
  refine s_iload_n hX dX3_bestForFirst_4 rfl ?_
  refine s_ic hX (4 : Int32) dX3_bestForFirst_5 (by decide) ?_
  refine s_irem hX dX3_bestForFirst_6 (by decide) ?_
  refine s_istore_n hX dX3_bestForFirst_7 (Nat.le_of_ble_eq_true rfl) ?_
  refine s_iload_n hX dX3_bestForFirst_8 rfl ?_
  refine s_ic hX (1 : Int32) dX3_bestForFirst_9 (by decide) ?_
  refine s_iadd hX dX3_bestForFirst_10 ?_
  refine s_ic hX (3 : Int32) dX3_bestForFirst_11 (by decide) ?_
  refine s_mmin hX dX3_bestForFirst_12 k_X3_332 rfl (Nat.le_of_ble_eq_true rfl) (Nat.le_of_ble_eq_true rfl) ?_
  refine s_istore hX dX3_bestForFirst_15 (Nat.le_of_ble_eq_true rfl) ?_
  refine s_aload_n hX dX3_bestForFirst_17 rfl ?_
  refine s_getr hX dX3_bestForFirst_18 f_X3_39 rfl ?_
  refine s_iload_n hX dX3_bestForFirst_21 rfl ?_
  obtain ⟨g1, h⟩ := fs_gd h
  refine s_iald hX dX3_bestForFirst_22 g1 ?_
  refine s_aload_n hX dX3_bestForFirst_23 rfl ?_
  refine s_getr hX dX3_bestForFirst_24 f_X3_39 rfl ?_
  refine s_ic hX (0 : Int32) dX3_bestForFirst_27 (by decide) ?_
  refine s_iload_n hX dX3_bestForFirst_28 rfl ?_
  refine s_callS hX (as := [.int (0 : Int32), .int (x1 - x1 / (4 : Int32) * (4 : Int32))]) dX3_bestForFirst_29 k_X3_253 v_X3_duelWay (m_X3_duelWay (0 : Int32) (x1 - x1 / (4 : Int32) * (4 : Int32)) σ μ _ rfl) ⟨rfl, rfl⟩ ⟨(Nat.le_of_ble_eq_true rfl), (Nat.le_of_ble_eq_true rfl)⟩ rfl rfl (Nat.le_of_ble_eq_true rfl) ?_
  obtain ⟨g2, h⟩ := fs_gd h
  refine s_iald hX dX3_bestForFirst_32 g2 ?_
  refine s_mmax hX dX3_bestForFirst_33 k_X3_329 rfl (Nat.le_of_ble_eq_true rfl) (Nat.le_of_ble_eq_true rfl) ?_
  refine s_istore hX dX3_bestForFirst_36 (Nat.le_of_ble_eq_true rfl) ?_
  refine s_iload hX dX3_bestForFirst_38 rfl ?_
  refine s_aload_n hX dX3_bestForFirst_40 rfl ?_
  refine s_getr hX dX3_bestForFirst_41 f_X3_39 rfl ?_
  refine s_iload hX dX3_bestForFirst_44 rfl ?_
  refine s_iload_n hX dX3_bestForFirst_46 rfl ?_
  refine s_callS hX (as := [.int (if (3 : Int32) < ((x1 / (4 : Int32)) + (1 : Int32)) then (3 : Int32) else ((x1 / (4 : Int32)) + (1 : Int32))), .int (x1 - x1 / (4 : Int32) * (4 : Int32))]) dX3_bestForFirst_47 k_X3_253 v_X3_duelWay (m_X3_duelWay (if (3 : Int32) < ((x1 / (4 : Int32)) + (1 : Int32)) then (3 : Int32) else ((x1 / (4 : Int32)) + (1 : Int32))) (x1 - x1 / (4 : Int32) * (4 : Int32)) σ μ _ rfl) ⟨rfl, rfl⟩ ⟨(Nat.le_of_ble_eq_true rfl), (Nat.le_of_ble_eq_true rfl)⟩ rfl rfl (Nat.le_of_ble_eq_true rfl) ?_
  obtain ⟨g3, h⟩ := fs_gd h
  refine s_iald hX dX3_bestForFirst_50 g3 ?_
  refine s_mmax hX dX3_bestForFirst_51 k_X3_329 rfl (Nat.le_of_ble_eq_true rfl) (Nat.le_of_ble_eq_true rfl) ?_
  cases h
  exact s_iret hX hR dX3_bestForFirst_54
