-- X3_evenBy
def L_X3_evenBy_17  : Nat → Int32 → Int32 → Int32 → Int32 → Int32 → fsS → Option (fsS)
  | 0, _, _, _, _, _, _ => none
  | n0 + 1, y1, y2, y3, y4, y5, σ => if (σ 6 0) ≤ y5 then some σ else fs_g (fs_in y5 6) (L_X3_evenBy_17  n0 y1 y2 y3 y4 (y5 + (1 : Int32)) (fs_u σ 32 y5.toNatClampNeg (F_X3_sootBy y1 y5 σ)))
def F_X3_evenBy (x1 : Int32) (x2 : Int32) (x3 : Int32) (x4 : Int32) (σ : fsS) : Option (Int32 × fsS) := (F_X1_take 6 5 σ).bind (fun q1 => (L_X3_evenBy_17  fs_fu x1 x2 x3 x4 (0 : Int32) q1).bind (fun q4 => (F_X1_passAll 6 x4 q4).bind (fun q5 => fs_g (fs_in x2 6) (fs_g (fs_in x3 6) (if (q5.2 31 x2.toNatClampNeg) = (q5.2 31 x3.toNatClampNeg) then some ((1 : Int32), q5.2) else some ((0 : Int32), q5.2))))))
set_option maxRecDepth 20000 in
set_option maxHeartbeats 40000000 in
theorem l_X3_evenBy_17   {X : fsC} (hX : fs_ok cX3_evenBy RX3 6 { frames := 4, cells := 0, slots := 0, locals := 93 } X) : ∀ (n : Nat) (y1 : Int32) (y2 : Int32) (y3 : Int32) (y4 : Int32) (y5 : Int32) (σ : fsS) (μ : fsL) (out : fsS) (_ : L_X3_evenBy_17  n y1 y2 y3 y4 y5 σ = some out) (k0 : fs_PW X 52 [some (.ref 0), none, some (.int y2), some (.int y3), some (.int y4), none] [] out μ), fs_PW X 17 [some (.ref 0), some (.int y1), some (.int y2), some (.int y3), some (.int y4), some (.int y5)] [] σ μ := by
  intro n
  induction n with
  | zero =>
    intro y1 y2 y3 y4 y5 σ μ out h
    cases (show (none : Option (fsS)) = some out from h)
  | succ n0 ih =>
    intro y1 y2 y3 y4 y5 σ μ out h k0
    unfold L_X3_evenBy_17 at h
    refine s_iload hX dX3_evenBy_17 rfl ?_
    refine s_aload_n hX dX3_evenBy_19 rfl ?_
    refine s_getr hX dX3_evenBy_20 f_X3_31 rfl ?_
    refine s_geti hX dX3_evenBy_23 f_X3_116 rfl ?_
    refine s_ic_ge hX 52 dX3_evenBy_26 (by decide) (fun c2 => ?_) (fun c2 => ?_)
    · have h := (if_pos c2).symm.trans h
      cases h
      refine fs_ma [true, false, true, true, true, false] ?_
      exact k0
    · have h := (if_neg c2).symm.trans h
      refine s_aload_n hX dX3_evenBy_29 rfl ?_
      refine s_getr hX dX3_evenBy_30 f_X3_31 rfl ?_
      refine s_getr hX dX3_evenBy_33 f_X3_170 rfl ?_
      refine s_iload hX dX3_evenBy_36 rfl ?_
      refine s_aload_n hX dX3_evenBy_38 rfl ?_
      refine s_iload_n hX dX3_evenBy_39 rfl ?_
      refine s_iload hX dX3_evenBy_40 rfl ?_
      refine s_cV hX [.int y1, .int y5] dX3_evenBy_42 k_X3_323 v_X3_sootBy (m_X3_sootBy y1 y5 σ μ _ rfl) ⟨_, rfl⟩ fs_c3 ⟨rfl, rfl⟩ ⟨(Nat.le_of_ble_eq_true rfl), (Nat.le_of_ble_eq_true rfl)⟩ rfl rfl (Nat.le_of_ble_eq_true rfl) ?_
      obtain ⟨g3, h⟩ := fs_gd h
      refine s_iast hX dX3_evenBy_45 g3 ?_
      refine s_iinc hX (y5 + (1 : Int32)) dX3_evenBy_46 rfl rfl (Nat.le_of_ble_eq_true rfl) ?_
      refine s_goto hX 17 dX3_evenBy_49 (by decide) ?_
      refine fs_ma [true, true, true, true, true, true] ?_
      exact ih y1 y2 y3 y4 (y5 + (1 : Int32)) (fs_u σ 32 y5.toNatClampNeg (F_X3_sootBy y1 y5 σ)) μ out h k0
set_option maxRecDepth 20000 in
set_option maxHeartbeats 40000000 in
theorem m_X3_evenBy (x1 : Int32) (x2 : Int32) (x3 : Int32) (x4 : Int32)  (σ : fsS) (μ : fsL) (out : Int32 × fsS) (h : F_X3_evenBy x1 x2 x3 x4 σ = some out) : fs_Met yX3_evenBy cX3_evenBy 6 (some .boolean) { frames := 4, cells := 0, slots := 0, locals := 93 } [.ref 0, .int x1, .int x2, .int x3, .int x4] σ μ (some (.int out.1)) out.2 μ := by
  unfold F_X3_evenBy at h
  refine fs_intro (by decide +kernel) (Nat.le_of_ble_eq_true rfl) (fun X hX hR => ?_)
  show fs_PW X 0 [some (.ref 0), some (.int x1), some (.int x2), some (.int x3), some (.int x4), none] [] σ μ
  refine s_aload_n hX dX3_evenBy_0 rfl ?_
  refine s_getr hX dX3_evenBy_1 f_X3_31 rfl ?_
  refine s_aload_n hX dX3_evenBy_4 rfl ?_
  refine s_getr hX dX3_evenBy_5 f_X3_24 rfl ?_
  refine s_getr hX dX3_evenBy_8 f_X3_113 rfl ?_
  obtain ⟨q1, e1, h⟩ := fs_bind h
  refine s_cV hX [.ref 5] dX3_evenBy_11 k_X3_203 v_X1_take (m_X1_take 6 5 fs_K6 fs_K5 σ μ q1 e1) (fs_K_is fs_K6) fs_c1 ⟨rfl, rfl⟩ ⟨(Nat.le_of_ble_eq_true rfl), (Nat.le_of_ble_eq_true rfl)⟩ rfl rfl (Nat.le_of_ble_eq_true rfl) ?_
  refine s_ic hX (0 : Int32) dX3_evenBy_14 (by decide) ?_
  refine s_istore hX dX3_evenBy_15 (Nat.le_of_ble_eq_true rfl) ?_
  obtain ⟨q4, e4, h⟩ := fs_bind h
  refine fs_ma [true, true, true, true, true, true] ?_
  refine l_X3_evenBy_17  hX fs_fu x1 x2 x3 x4 (0 : Int32) q1 μ q4 e4 ?_
  refine s_aload_n hX dX3_evenBy_52 rfl ?_
  refine s_getr hX dX3_evenBy_53 f_X3_31 rfl ?_
  refine s_iload hX dX3_evenBy_56 rfl ?_
  obtain ⟨q5, e5, h⟩ := fs_bind h
  refine s_cV hX [.int x4] dX3_evenBy_58 k_X3_320 v_X1_passAll (m_X1_passAll 6 x4 fs_K6 q4 μ q5 e5) (fs_K_is fs_K6) fs_c1 ⟨rfl, rfl⟩ ⟨(Nat.le_of_ble_eq_true rfl), (Nat.le_of_ble_eq_true rfl)⟩ rfl rfl (Nat.le_of_ble_eq_true rfl) ?_
  refine s_pop hX dX3_evenBy_61 rfl ?_
  refine s_aload_n hX dX3_evenBy_62 rfl ?_
  refine s_getr hX dX3_evenBy_63 f_X3_31 rfl ?_
  refine s_getr hX dX3_evenBy_66 f_X3_176 rfl ?_
  refine s_iload_n hX dX3_evenBy_69 rfl ?_
  obtain ⟨g6, h⟩ := fs_gd h
  refine s_iald hX dX3_evenBy_70 g6 ?_
  refine s_aload_n hX dX3_evenBy_71 rfl ?_
  refine s_getr hX dX3_evenBy_72 f_X3_31 rfl ?_
  refine s_getr hX dX3_evenBy_75 f_X3_176 rfl ?_
  refine s_iload_n hX dX3_evenBy_78 rfl ?_
  obtain ⟨g7, h⟩ := fs_gd h
  refine s_iald hX dX3_evenBy_79 g7 ?_
  refine s_ic_ne hX 87 dX3_evenBy_80 (by decide) (fun c8 => ?_) (fun c8 => ?_)
  · have h := (if_neg c8).symm.trans h
    refine s_ic hX (0 : Int32) dX3_evenBy_87 (by decide) ?_
    cases h
    exact s_zret hX (Or.inl rfl) hR dX3_evenBy_88
  · have h := (if_pos c8).symm.trans h
    refine s_ic hX (1 : Int32) dX3_evenBy_83 (by decide) ?_
    refine s_goto hX 88 dX3_evenBy_84 (by decide) ?_
    cases h
    exact s_zret hX (Or.inr rfl) hR dX3_evenBy_88

-- X3_laySoot
def L_X3_laySoot_20  : Nat → Int32 → Int32 → Int32 → fsS → Option (fsS)
  | 0, _, _, _, _ => none
  | n0 + 1, y1, y2, y3, σ => if (σ 5 0) ≤ y3 then some σ else fs_g (fs_in y1 6) (fs_g (fs_in y3 (fs_len (38 + y1.toNatClampNeg))) (L_X3_laySoot_20  n0 y1 y2 (y3 + (1 : Int32)) (fs_u σ (38 + y1.toNatClampNeg) y3.toNatClampNeg (F_X3_sootBy y2 y3 σ))))
def F_X3_laySoot (x1 : Int32) (x2 : Int32) (σ : fsS) : Option (fsS) := (F_X2_lie 1 x1 (σ 5 0) σ).bind (fun q1 => (L_X3_laySoot_20  fs_fu x1 x2 (0 : Int32) q1).bind (fun q5 => some q5))
set_option maxRecDepth 20000 in
set_option maxHeartbeats 40000000 in
theorem l_X3_laySoot_20   {X : fsC} (hX : fs_ok cX3_laySoot RX3 4 { frames := 1, cells := 0, slots := 0, locals := 23 } X) : ∀ (n : Nat) (y1 : Int32) (y2 : Int32) (y3 : Int32) (σ : fsS) (μ : fsL) (out : fsS) (_ : L_X3_laySoot_20  n y1 y2 y3 σ = some out) (k0 : fs_PW X 57 [none, none, none, none] [] out μ), fs_PW X 20 [some (.ref 0), some (.int y1), some (.int y2), some (.int y3)] [] σ μ := by
  intro n
  induction n with
  | zero =>
    intro y1 y2 y3 σ μ out h
    cases (show (none : Option (fsS)) = some out from h)
  | succ n0 ih =>
    intro y1 y2 y3 σ μ out h k0
    unfold L_X3_laySoot_20 at h
    refine s_iload_n hX dX3_laySoot_20 rfl ?_
    refine s_aload_n hX dX3_laySoot_21 rfl ?_
    refine s_getr hX dX3_laySoot_22 f_X3_24 rfl ?_
    refine s_getr hX dX3_laySoot_25 f_X3_113 rfl ?_
    refine s_geti hX dX3_laySoot_28 f_X3_116 rfl ?_
    refine s_ic_ge hX 57 dX3_laySoot_31 (by decide) (fun c2 => ?_) (fun c2 => ?_)
    · have h := (if_pos c2).symm.trans h
      cases h
      refine fs_ma [false, false, false, false] ?_
      exact k0
    · have h := (if_neg c2).symm.trans h
      refine s_aload_n hX dX3_laySoot_34 rfl ?_
      refine s_getr hX dX3_laySoot_35 f_X3_14 rfl ?_
      refine s_getr hX dX3_laySoot_38 f_X3_75 rfl ?_
      refine s_iload_n hX dX3_laySoot_41 rfl ?_
      obtain ⟨g3, h⟩ := fs_gd h
      refine s_aald hX dX3_laySoot_42 g3 ?_
      refine s_iload_n hX dX3_laySoot_43 rfl ?_
      refine s_aload_n hX dX3_laySoot_44 rfl ?_
      refine s_iload_n hX dX3_laySoot_45 rfl ?_
      refine s_iload_n hX dX3_laySoot_46 rfl ?_
      refine s_cV hX [.int y2, .int y3] dX3_laySoot_47 k_X3_323 v_X3_sootBy (m_X3_sootBy y2 y3 σ μ _ rfl) ⟨_, rfl⟩ fs_c3 ⟨rfl, rfl⟩ ⟨(Nat.le_of_ble_eq_true rfl), (Nat.le_of_ble_eq_true rfl)⟩ rfl rfl (Nat.le_of_ble_eq_true rfl) ?_
      obtain ⟨g4, h⟩ := fs_gd h
      refine s_iast hX dX3_laySoot_50 g4 ?_
      refine s_iinc hX (y3 + (1 : Int32)) dX3_laySoot_51 rfl rfl (Nat.le_of_ble_eq_true rfl) ?_
      refine s_goto hX 20 dX3_laySoot_54 (by decide) ?_
      refine fs_ma [true, true, true, true] ?_
      exact ih y1 y2 (y3 + (1 : Int32)) (fs_u σ (38 + y1.toNatClampNeg) y3.toNatClampNeg (F_X3_sootBy y2 y3 σ)) μ out h k0
set_option maxRecDepth 20000 in
set_option maxHeartbeats 40000000 in
theorem m_X3_laySoot (x1 : Int32) (x2 : Int32)  (σ : fsS) (μ : fsL) (out : fsS) (h : F_X3_laySoot x1 x2 σ = some out) : fs_Met yX3_laySoot cX3_laySoot 4 none { frames := 1, cells := 0, slots := 0, locals := 23 } [.ref 0, .int x1, .int x2] σ μ none out μ := by
  unfold F_X3_laySoot at h
  refine fs_intro (by decide +kernel) (Nat.le_of_ble_eq_true rfl) (fun X hX hR => ?_)
  show fs_PW X 0 [some (.ref 0), some (.int x1), some (.int x2), none] [] σ μ
  refine s_aload_n hX dX3_laySoot_0 rfl ?_
  refine s_getr hX dX3_laySoot_1 f_X3_14 rfl ?_
  refine s_iload_n hX dX3_laySoot_4 rfl ?_
  refine s_aload_n hX dX3_laySoot_5 rfl ?_
  refine s_getr hX dX3_laySoot_6 f_X3_24 rfl ?_
  refine s_getr hX dX3_laySoot_9 f_X3_113 rfl ?_
  refine s_geti hX dX3_laySoot_12 f_X3_116 rfl ?_
  obtain ⟨q1, e1, h⟩ := fs_bind h
  refine s_cV hX [.int x1, .int (σ 5 0)] dX3_laySoot_15 k_X3_67 v_X2_lie (m_X2_lie 1 x1 (σ 5 0) fs_H1 σ μ q1 e1) (fs_H_is fs_H1) fs_c2 ⟨rfl, rfl⟩ ⟨(Nat.le_of_ble_eq_true rfl), (Nat.le_of_ble_eq_true rfl)⟩ rfl rfl (Nat.le_of_ble_eq_true rfl) ?_
  refine s_ic hX (0 : Int32) dX3_laySoot_18 (by decide) ?_
  refine s_istore_n hX dX3_laySoot_19 (Nat.le_of_ble_eq_true rfl) ?_
  obtain ⟨q5, e5, h⟩ := fs_bind h
  refine fs_ma [true, true, true, true] ?_
  refine l_X3_laySoot_20  hX fs_fu x1 x2 (0 : Int32) q1 μ q5 e5 ?_
  cases h
  exact s_vret hX hR dX3_laySoot_57

-- X3_even
def L_X3_even_62  : Nat → Int32 → Int32 → Int32 → Int32 → Int32 → Int32 → Int32 → Int32 → fsS → Option (Nat × Int32 × fsS)
  | 0, _, _, _, _, _, _, _, _, _ => none
  | n0 + 1, y1, y2, y3, y4, y5, y6, y7, y8, σ => if y6 ≤ y8 then some (1, (0 : Int32), σ) else (F_X3_changedBy y8 σ).bind (fun q7 => if q7 = y7 then (F_X3_evenBy y8 y1 y2 y3 σ).bind (fun q9 => if q9.1 = 0 then L_X3_even_62  n0 y1 y2 y3 y4 y5 y6 y7 (y8 + (1 : Int32)) q9.2 else some (0, y8, q9.2)) else L_X3_even_62  n0 y1 y2 y3 y4 y5 y6 y7 (y8 + (1 : Int32)) σ)
def L_X3_even_52  : Nat → Int32 → Int32 → Int32 → Int32 → Int32 → Int32 → Int32 → fsS → Option (Nat × Int32 × Int32 × fsS)
  | 0, _, _, _, _, _, _, _, _ => none
  | n0 + 1, y1, y2, y3, y4, y5, y6, y7, σ => if y5 < y7 then some (1, (0 : Int32), (0 : Int32), σ) else (L_X3_even_62  fs_fu y1 y2 y3 y4 y5 y6 y7 (0 : Int32) σ).bind (fun q11 => if q11.1 = 0 then some (0, y7, q11.2.1, q11.2.2) else L_X3_even_52  n0 y1 y2 y3 y4 y5 y6 (y7 + (1 : Int32)) q11.2.2)
def F_X3_even (x1 : Int32) (x2 : Int32) (x3 : Int32) (x4 : Int32) (σ : fsS) : Option (Int32 × fsS) := if (F_X3_areTwo x1 x2 σ) = 0 then some ((-1 : Int32), σ) else if x3 < 0 then some ((-1 : Int32), σ) else if (20 : Int32) < x3 then some ((-1 : Int32), σ) else if (F_X3_isRow x4) = 0 then some ((-1 : Int32), σ) else (L_X3_even_52  fs_fu x1 x2 x3 x4 (σ 5 0) ((1 : Int32) <<< (((2 : Int32) * (σ 5 0)) &&& 31)) (0 : Int32) σ).bind (fun q13 => if q13.1 = 0 then (F_X3_laySoot x4 q13.2.2.1 q13.2.2.2).bind (fun q15 => some (q13.2.1, q15)) else some ((-9 : Int32), q13.2.2.2))
set_option maxRecDepth 20000 in
set_option maxHeartbeats 40000000 in
theorem l_X3_even_62   {X : fsC} (hX : fs_ok cX3_even RX3 9 { frames := 5, cells := 0, slots := 0, locals := 118 } X) : ∀ (n : Nat) (y1 : Int32) (y2 : Int32) (y3 : Int32) (y4 : Int32) (y5 : Int32) (y6 : Int32) (y7 : Int32) (y8 : Int32) (σ : fsS) (μ : fsL) (out : Nat × Int32 × fsS) (_ : L_X3_even_62  n y1 y2 y3 y4 y5 y6 y7 y8 σ = some out) (k0 : out.1 = 0 → fs_PW X 92 [some (.ref 0), none, none, none, some (.int y4), none, none, some (.int y7), some (.int out.2.1)] [] out.2.2 μ) (k1 : out.1 = 1 → fs_PW X 109 [some (.ref 0), some (.int y1), some (.int y2), some (.int y3), some (.int y4), some (.int y5), some (.int y6), some (.int y7), none] [] out.2.2 μ), fs_PW X 62 [some (.ref 0), some (.int y1), some (.int y2), some (.int y3), some (.int y4), some (.int y5), some (.int y6), some (.int y7), some (.int y8)] [] σ μ := by
  intro n
  induction n with
  | zero =>
    intro y1 y2 y3 y4 y5 y6 y7 y8 σ μ out h
    cases (show (none : Option (Nat × Int32 × fsS)) = some out from h)
  | succ n0 ih =>
    intro y1 y2 y3 y4 y5 y6 y7 y8 σ μ out h k0 k1
    unfold L_X3_even_62 at h
    refine s_iload hX dX3_even_62 rfl ?_
    refine s_iload hX dX3_even_64 rfl ?_
    refine s_ic_ge hX 109 dX3_even_66 (by decide) (fun c6 => ?_) (fun c6 => ?_)
    · have h := (if_pos c6).symm.trans h
      cases h
      refine fs_ma [true, true, true, true, true, true, true, true, false] ?_
      exact k1 rfl
    · have h := (if_neg c6).symm.trans h
      refine s_aload_n hX dX3_even_69 rfl ?_
      refine s_iload hX dX3_even_70 rfl ?_
      obtain ⟨q7, e7, h⟩ := fs_bind h
      refine s_cV hX [.int y8] dX3_even_72 k_X3_219 v_X3_changedBy (m_X3_changedBy y8 σ μ q7 e7) ⟨_, rfl⟩ fs_c3 ⟨rfl, rfl⟩ ⟨(Nat.le_of_ble_eq_true rfl), (Nat.le_of_ble_eq_true rfl)⟩ rfl rfl (Nat.le_of_ble_eq_true rfl) ?_
      refine s_iload hX dX3_even_75 rfl ?_
      refine s_ic_ne hX 103 dX3_even_77 (by decide) (fun c8 => ?_) (fun c8 => ?_)
      · have h := (if_neg c8).symm.trans h
        refine s_iinc hX (y8 + (1 : Int32)) dX3_even_103 rfl rfl (Nat.le_of_ble_eq_true rfl) ?_
        refine s_goto hX 62 dX3_even_106 (by decide) ?_
        refine fs_ma [true, true, true, true, true, true, true, true, true] ?_
        exact ih y1 y2 y3 y4 y5 y6 y7 (y8 + (1 : Int32)) σ μ out h k0 k1
      · have h := (if_pos c8).symm.trans h
        refine s_aload_n hX dX3_even_80 rfl ?_
        refine s_iload hX dX3_even_81 rfl ?_
        refine s_iload_n hX dX3_even_83 rfl ?_
        refine s_iload_n hX dX3_even_84 rfl ?_
        refine s_iload_n hX dX3_even_85 rfl ?_
        obtain ⟨q9, e9, h⟩ := fs_bind h
        refine s_cV hX [.int y8, .int y1, .int y2, .int y3] dX3_even_86 k_X3_222 v_X3_evenBy (m_X3_evenBy y8 y1 y2 y3 σ μ q9 e9) ⟨_, rfl⟩ fs_c3 ⟨rfl, rfl⟩ ⟨(Nat.le_of_ble_eq_true rfl), (Nat.le_of_ble_eq_true rfl)⟩ rfl rfl (Nat.le_of_ble_eq_true rfl) ?_
        refine s_if_eq hX 103 dX3_even_89 (by decide) (fun c10 => ?_) (fun c10 => ?_)
        · have h := (if_pos c10).symm.trans h
          refine s_iinc hX (y8 + (1 : Int32)) dX3_even_103 rfl rfl (Nat.le_of_ble_eq_true rfl) ?_
          refine s_goto hX 62 dX3_even_106 (by decide) ?_
          refine fs_ma [true, true, true, true, true, true, true, true, true] ?_
          exact ih y1 y2 y3 y4 y5 y6 y7 (y8 + (1 : Int32)) q9.2 μ out h k0 k1
        · have h := (if_neg c10).symm.trans h
          cases h
          refine fs_ma [true, false, false, false, true, false, false, true, true] ?_
          exact k0 rfl
set_option maxRecDepth 20000 in
set_option maxHeartbeats 40000000 in
theorem l_X3_even_52   {X : fsC} (hX : fs_ok cX3_even RX3 9 { frames := 5, cells := 0, slots := 0, locals := 118 } X) : ∀ (n : Nat) (y1 : Int32) (y2 : Int32) (y3 : Int32) (y4 : Int32) (y5 : Int32) (y6 : Int32) (y7 : Int32) (σ : fsS) (μ : fsL) (out : Nat × Int32 × Int32 × fsS) (_ : L_X3_even_52  n y1 y2 y3 y4 y5 y6 y7 σ = some out) (k0 : out.1 = 0 → fs_PW X 92 [some (.ref 0), none, none, none, some (.int y4), none, none, some (.int out.2.1), some (.int out.2.2.1)] [] out.2.2.2 μ) (k1 : out.1 = 1 → fs_PW X 115 [none, none, none, none, none, none, none, none, none] [] out.2.2.2 μ), fs_PW X 52 [some (.ref 0), some (.int y1), some (.int y2), some (.int y3), some (.int y4), some (.int y5), some (.int y6), some (.int y7), none] [] σ μ := by
  intro n
  induction n with
  | zero =>
    intro y1 y2 y3 y4 y5 y6 y7 σ μ out h
    cases (show (none : Option (Nat × Int32 × Int32 × fsS)) = some out from h)
  | succ n0 ih =>
    intro y1 y2 y3 y4 y5 y6 y7 σ μ out h k0 k1
    unfold L_X3_even_52 at h
    refine s_iload hX dX3_even_52 rfl ?_
    refine s_iload hX dX3_even_54 rfl ?_
    refine s_ic_gt hX 115 dX3_even_56 (by decide) (fun c5 => ?_) (fun c5 => ?_)
    · have h := (if_pos c5).symm.trans h
      cases h
      refine fs_ma [false, false, false, false, false, false, false, false, false] ?_
      exact k1 rfl
    · have h := (if_neg c5).symm.trans h
      refine s_ic hX (0 : Int32) dX3_even_59 (by decide) ?_
      refine s_istore hX dX3_even_60 (Nat.le_of_ble_eq_true rfl) ?_
      obtain ⟨q11, e11, h⟩ := fs_bind h
      refine fs_ma [true, true, true, true, true, true, true, true, true] ?_
      refine l_X3_even_62  hX fs_fu y1 y2 y3 y4 y5 y6 y7 (0 : Int32) σ μ q11 e11 (fun c12 => ?_) (fun c12 => ?_)
      · have h := (if_pos c12).symm.trans h
        cases h
        refine fs_ma [true, false, false, false, true, false, false, true, true] ?_
        exact k0 rfl
      · have h := (if_neg (show ¬ q11.1 = 0 by rw [c12]; decide)).symm.trans h
        refine s_iinc hX (y7 + (1 : Int32)) dX3_even_109 rfl rfl (Nat.le_of_ble_eq_true rfl) ?_
        refine s_goto hX 52 dX3_even_112 (by decide) ?_
        refine fs_ma [true, true, true, true, true, true, true, true, false] ?_
        exact ih y1 y2 y3 y4 y5 y6 (y7 + (1 : Int32)) q11.2.2 μ out h k0 k1
set_option maxRecDepth 20000 in
set_option maxHeartbeats 40000000 in
theorem m_X3_even (x1 : Int32) (x2 : Int32) (x3 : Int32) (x4 : Int32)  (σ : fsS) (μ : fsL) (out : Int32 × fsS) (h : F_X3_even x1 x2 x3 x4 σ = some out) : fs_Met yX3_even cX3_even 9 (some .int) { frames := 5, cells := 0, slots := 0, locals := 118 } [.ref 0, .int x1, .int x2, .int x3, .int x4] σ μ (some (.int out.1)) out.2 μ := by
  unfold F_X3_even at h
  refine fs_intro (by decide +kernel) (Nat.le_of_ble_eq_true rfl) (fun X hX hR => ?_)
  show fs_PW X 0 [some (.ref 0), some (.int x1), some (.int x2), some (.int x3), some (.int x4), none, none, none, none] [] σ μ
  refine s_aload_n hX dX3_even_0 rfl ?_
  refine s_iload_n hX dX3_even_1 rfl ?_
  refine s_iload_n hX dX3_even_2 rfl ?_
  refine s_cV hX [.int x1, .int x2] dX3_even_3 k_X3_173 v_X3_areTwo (m_X3_areTwo x1 x2 σ μ _ rfl) ⟨_, rfl⟩ fs_c3 ⟨rfl, rfl⟩ ⟨(Nat.le_of_ble_eq_true rfl), (Nat.le_of_ble_eq_true rfl)⟩ rfl rfl (Nat.le_of_ble_eq_true rfl) ?_
  refine s_if_eq hX 27 dX3_even_6 (by decide) (fun c1 => ?_) (fun c1 => ?_)
  · have h := (if_pos c1).symm.trans h
    refine s_ic hX (-1 : Int32) dX3_even_27 (by decide) ?_
    cases h
    exact s_iret hX hR dX3_even_28
  · have h := (if_neg c1).symm.trans h
    refine s_iload_n hX dX3_even_9 rfl ?_
    refine s_if_lt hX 27 dX3_even_10 (by decide) (fun c2 => ?_) (fun c2 => ?_)
    · have h := (if_pos c2).symm.trans h
      refine s_ic hX (-1 : Int32) dX3_even_27 (by decide) ?_
      cases h
      exact s_iret hX hR dX3_even_28
    · have h := (if_neg c2).symm.trans h
      refine s_iload_n hX dX3_even_13 rfl ?_
      refine s_bi hX (20 : Int32) dX3_even_14 (by decide) ?_
      refine s_ic_gt hX 27 dX3_even_16 (by decide) (fun c3 => ?_) (fun c3 => ?_)
      · have h := (if_pos c3).symm.trans h
        refine s_ic hX (-1 : Int32) dX3_even_27 (by decide) ?_
        cases h
        exact s_iret hX hR dX3_even_28
      · have h := (if_neg c3).symm.trans h
        refine s_iload hX dX3_even_19 rfl ?_
        refine s_callS hX (as := [.int x4]) dX3_even_21 k_X3_59 v_X3_isRow (m_X3_isRow x4 σ μ _ rfl) ⟨rfl, rfl⟩ ⟨(Nat.le_of_ble_eq_true rfl), (Nat.le_of_ble_eq_true rfl)⟩ rfl rfl (Nat.le_of_ble_eq_true rfl) ?_
        refine s_if_ne hX 29 dX3_even_24 (by decide) (fun c4 => ?_) (fun c4 => ?_)
        · have h := (if_neg c4).symm.trans h
          refine s_aload_n hX dX3_even_29 rfl ?_
          refine s_getr hX dX3_even_30 f_X3_24 rfl ?_
          refine s_getr hX dX3_even_33 f_X3_113 rfl ?_
          refine s_geti hX dX3_even_36 f_X3_116 rfl ?_
          refine s_istore hX dX3_even_39 (Nat.le_of_ble_eq_true rfl) ?_
          refine s_ic hX (1 : Int32) dX3_even_41 (by decide) ?_
          refine s_ic hX (2 : Int32) dX3_even_42 (by decide) ?_
          refine s_iload hX dX3_even_43 rfl ?_
          refine s_imul hX dX3_even_45 ?_
          refine s_ishl hX dX3_even_46 ?_
          refine s_istore hX dX3_even_47 (Nat.le_of_ble_eq_true rfl) ?_
          refine s_ic hX (0 : Int32) dX3_even_49 (by decide) ?_
          refine s_istore hX dX3_even_50 (Nat.le_of_ble_eq_true rfl) ?_
          obtain ⟨q13, e13, h⟩ := fs_bind h
          refine fs_ma [true, true, true, true, true, true, true, true, false] ?_
          refine l_X3_even_52  hX fs_fu x1 x2 x3 x4 (σ 5 0) ((1 : Int32) <<< (((2 : Int32) * (σ 5 0)) &&& 31)) (0 : Int32) σ μ q13 e13 (fun c14 => ?_) (fun c14 => ?_)
          · have h := (if_pos c14).symm.trans h
            refine s_aload_n hX dX3_even_92 rfl ?_
            refine s_iload hX dX3_even_93 rfl ?_
            refine s_iload hX dX3_even_95 rfl ?_
            obtain ⟨q15, e15, h⟩ := fs_bind h
            refine s_cV hX [.int x4, .int q13.2.2.1] dX3_even_97 k_X3_226 v_X3_laySoot (m_X3_laySoot x4 q13.2.2.1 q13.2.2.2 μ q15 e15) ⟨_, rfl⟩ fs_c3 ⟨rfl, rfl⟩ ⟨(Nat.le_of_ble_eq_true rfl), (Nat.le_of_ble_eq_true rfl)⟩ rfl rfl (Nat.le_of_ble_eq_true rfl) ?_
            refine s_iload hX dX3_even_100 rfl ?_
            cases h
            exact s_iret hX hR dX3_even_102
          · have h := (if_neg (show ¬ q13.1 = 0 by rw [c14]; decide)).symm.trans h
            refine s_bi hX (-9 : Int32) dX3_even_115 (by decide) ?_
            cases h
            exact s_iret hX hR dX3_even_117
        · have h := (if_pos c4).symm.trans h
          refine s_ic hX (-1 : Int32) dX3_even_27 (by decide) ?_
          cases h
          exact s_iret hX hR dX3_even_28

-- X3_givenIfChanged
def F_X3_givenIfChanged (x1 : Int32) (x2 : Int32) (x3 : Int32) (σ : fsS) : Option (Int32 × fsS) := (F_X1_take 6 5 σ).bind (fun q1 => fs_g (fs_in x2 6) (fs_g (fs_in x1 6) (fs_g (fs_in x1 6) (fs_g (fs_in x2 6) ((F_X1_passAll 6 x3 (fs_u (fs_u q1 29 x1.toNatClampNeg (q1 22 x2.toNatClampNeg)) 29 x2.toNatClampNeg (q1 22 x1.toNatClampNeg))).bind (fun q6 => some (q6.1, q6.2)))))))
set_option maxRecDepth 20000 in
set_option maxHeartbeats 40000000 in
theorem m_X3_givenIfChanged (x1 : Int32) (x2 : Int32) (x3 : Int32)  (σ : fsS) (μ : fsL) (out : Int32 × fsS) (h : F_X3_givenIfChanged x1 x2 x3 σ = some out) : fs_Met yX3_givenIfChanged cX3_givenIfChanged 4 (some .int) { frames := 4, cells := 0, slots := 0, locals := 93 } [.ref 0, .int x1, .int x2, .int x3] σ μ (some (.int out.1)) out.2 μ := by
  unfold F_X3_givenIfChanged at h
  refine fs_intro (by decide +kernel) (Nat.le_of_ble_eq_true rfl) (fun X hX hR => ?_)
  show fs_PW X 0 [some (.ref 0), some (.int x1), some (.int x2), some (.int x3)] [] σ μ
  refine s_aload_n hX dX3_givenIfChanged_0 rfl ?_
  refine s_getr hX dX3_givenIfChanged_1 f_X3_31 rfl ?_
  refine s_aload_n hX dX3_givenIfChanged_4 rfl ?_
  refine s_getr hX dX3_givenIfChanged_5 f_X3_24 rfl ?_
  refine s_getr hX dX3_givenIfChanged_8 f_X3_113 rfl ?_
  obtain ⟨q1, e1, h⟩ := fs_bind h
  refine s_cV hX [.ref 5] dX3_givenIfChanged_11 k_X3_203 v_X1_take (m_X1_take 6 5 fs_K6 fs_K5 σ μ q1 e1) (fs_K_is fs_K6) fs_c1 ⟨rfl, rfl⟩ ⟨(Nat.le_of_ble_eq_true rfl), (Nat.le_of_ble_eq_true rfl)⟩ rfl rfl (Nat.le_of_ble_eq_true rfl) ?_
  refine s_aload_n hX dX3_givenIfChanged_14 rfl ?_
  refine s_getr hX dX3_givenIfChanged_15 f_X3_31 rfl ?_
  refine s_getr hX dX3_givenIfChanged_18 f_X3_143 rfl ?_
  refine s_iload_n hX dX3_givenIfChanged_21 rfl ?_
  refine s_aload_n hX dX3_givenIfChanged_22 rfl ?_
  refine s_getr hX dX3_givenIfChanged_23 f_X3_24 rfl ?_
  refine s_getr hX dX3_givenIfChanged_26 f_X3_113 rfl ?_
  refine s_getr hX dX3_givenIfChanged_29 f_X3_143 rfl ?_
  refine s_iload_n hX dX3_givenIfChanged_32 rfl ?_
  obtain ⟨g2, h⟩ := fs_gd h
  refine s_iald hX dX3_givenIfChanged_33 g2 ?_
  obtain ⟨g3, h⟩ := fs_gd h
  refine s_iast hX dX3_givenIfChanged_34 g3 ?_
  refine s_aload_n hX dX3_givenIfChanged_35 rfl ?_
  refine s_getr hX dX3_givenIfChanged_36 f_X3_31 rfl ?_
  refine s_getr hX dX3_givenIfChanged_39 f_X3_143 rfl ?_
  refine s_iload_n hX dX3_givenIfChanged_42 rfl ?_
  refine s_aload_n hX dX3_givenIfChanged_43 rfl ?_
  refine s_getr hX dX3_givenIfChanged_44 f_X3_24 rfl ?_
  refine s_getr hX dX3_givenIfChanged_47 f_X3_113 rfl ?_
  refine s_getr hX dX3_givenIfChanged_50 f_X3_143 rfl ?_
  refine s_iload_n hX dX3_givenIfChanged_53 rfl ?_
  obtain ⟨g4, h⟩ := fs_gd h
  refine s_iald hX dX3_givenIfChanged_54 g4 ?_
  obtain ⟨g5, h⟩ := fs_gd h
  refine s_iast hX dX3_givenIfChanged_55 g5 ?_
  refine s_aload_n hX dX3_givenIfChanged_56 rfl ?_
  refine s_getr hX dX3_givenIfChanged_57 f_X3_31 rfl ?_
  refine s_iload_n hX dX3_givenIfChanged_60 rfl ?_
  obtain ⟨q6, e6, h⟩ := fs_bind h
  refine s_cV hX [.int x3] dX3_givenIfChanged_61 k_X3_320 v_X1_passAll (m_X1_passAll 6 x3 fs_K6 (fs_u (fs_u q1 29 x1.toNatClampNeg (q1 22 x2.toNatClampNeg)) 29 x2.toNatClampNeg (q1 22 x1.toNatClampNeg)) μ q6 e6) (fs_K_is fs_K6) fs_c1 ⟨rfl, rfl⟩ ⟨(Nat.le_of_ble_eq_true rfl), (Nat.le_of_ble_eq_true rfl)⟩ rfl rfl (Nat.le_of_ble_eq_true rfl) ?_
  cases h
  exact s_iret hX hR dX3_givenIfChanged_64

-- X3_change
def L_X3_change_61  : Nat → Int32 → Int32 → Int32 → Int32 → Int32 → Int32 → fsS → Option (Int32 × Int32 × fsS)
  | 0, _, _, _, _, _, _, _ => none
  | n0 + 1, y1, y2, y3, y4, y5, y6, σ => if y2 ≤ y6 then some (y3, y4, σ) else (F_X3_givenIfChanged y5 y6 y1 σ).bind (fun q7 => if y3 ≤ q7.1 then L_X3_change_61  n0 y1 y2 y3 y4 y5 (y6 + (1 : Int32)) q7.2 else L_X3_change_61  n0 y1 y2 q7.1 (((10 : Int32) * y5) + y6) y5 (y6 + (1 : Int32)) q7.2)
def L_X3_change_49  : Nat → Int32 → Int32 → Int32 → Int32 → Int32 → fsS → Option (Int32 × Int32 × fsS)
  | 0, _, _, _, _, _, _ => none
  | n0 + 1, y1, y2, y3, y4, y5, σ => if y2 ≤ y5 then some (y3, y4, σ) else (L_X3_change_61  fs_fu y1 y2 y3 y4 y5 (y5 + (1 : Int32)) σ).bind (fun q9 => L_X3_change_49  n0 y1 y2 q9.1 q9.2.1 (y5 + (1 : Int32)) q9.2.2)
def F_X3_change (x1 : Int32) (σ : fsS) : Option (Int32 × fsS) := if x1 < (1 : Int32) then some ((-1 : Int32), σ) else if x1 ≤ (20 : Int32) then if (F_X3_noKin  σ) = 0 then (F_X3_givenIfChanged (0 : Int32) (0 : Int32) x1 σ).bind (fun q4 => (L_X3_change_49  fs_fu x1 (σ 5 0) q4.1 (-9 : Int32) (0 : Int32) q4.2).bind (fun q10 => if q10.2.1 = (-9 : Int32) then some ((-9 : Int32), q10.2.2) else some ((F_X3_tell q10.1 q10.2.1 q10.2.2).1, (F_X3_tell q10.1 q10.2.1 q10.2.2).2))) else some ((-4 : Int32), σ) else some ((-1 : Int32), σ)
set_option maxRecDepth 20000 in
set_option maxHeartbeats 40000000 in
theorem l_X3_change_61   {X : fsC} (hX : fs_ok cX3_change RX3 8 { frames := 5, cells := 0, slots := 0, locals := 116 } X) : ∀ (n : Nat) (y1 : Int32) (y2 : Int32) (y3 : Int32) (y4 : Int32) (y5 : Int32) (y6 : Int32) (σ : fsS) (μ : fsL) (out : Int32 × Int32 × fsS) (_ : L_X3_change_61  n y1 y2 y3 y4 y5 y6 σ = some out) (k0 : fs_PW X 103 [some (.ref 0), some (.int y1), some (.int y2), some (.int out.1), some (.int out.2.1), some (.int y5), none, none] [] out.2.2 μ), fs_PW X 61 [some (.ref 0), some (.int y1), some (.int y2), some (.int y3), some (.int y4), some (.int y5), some (.int y6), none] [] σ μ := by
  intro n
  induction n with
  | zero =>
    intro y1 y2 y3 y4 y5 y6 σ μ out h
    cases (show (none : Option (Int32 × Int32 × fsS)) = some out from h)
  | succ n0 ih =>
    intro y1 y2 y3 y4 y5 y6 σ μ out h k0
    unfold L_X3_change_61 at h
    refine s_iload hX dX3_change_61 rfl ?_
    refine s_iload_n hX dX3_change_63 rfl ?_
    refine s_ic_ge hX 103 dX3_change_64 (by decide) (fun c6 => ?_) (fun c6 => ?_)
    · have h := (if_pos c6).symm.trans h
      cases h
      refine fs_ma [true, true, true, true, true, true, false, false] ?_
      exact k0
    · have h := (if_neg c6).symm.trans h
      refine s_aload_n hX dX3_change_67 rfl ?_
      refine s_iload hX dX3_change_68 rfl ?_
      refine s_iload hX dX3_change_70 rfl ?_
      refine s_iload_n hX dX3_change_72 rfl ?_
      obtain ⟨q7, e7, h⟩ := fs_bind h
      refine s_cV hX [.int y5, .int y6, .int y1] dX3_change_73 k_X3_229 v_X3_givenIfChanged (m_X3_givenIfChanged y5 y6 y1 σ μ q7 e7) ⟨_, rfl⟩ fs_c3 ⟨rfl, rfl⟩ ⟨(Nat.le_of_ble_eq_true rfl), (Nat.le_of_ble_eq_true rfl)⟩ rfl rfl (Nat.le_of_ble_eq_true rfl) ?_
      refine s_istore hX dX3_change_76 (Nat.le_of_ble_eq_true rfl) ?_
      refine s_iload hX dX3_change_78 rfl ?_
      refine s_iload_n hX dX3_change_80 rfl ?_
      refine s_ic_ge hX 97 dX3_change_81 (by decide) (fun c8 => ?_) (fun c8 => ?_)
      · have h := (if_pos c8).symm.trans h
        refine s_iinc hX (y6 + (1 : Int32)) dX3_change_97 rfl rfl (Nat.le_of_ble_eq_true rfl) ?_
        refine s_goto hX 61 dX3_change_100 (by decide) ?_
        refine fs_ma [true, true, true, true, true, true, true, false] ?_
        exact ih y1 y2 y3 y4 y5 (y6 + (1 : Int32)) q7.2 μ out h k0
      · have h := (if_neg c8).symm.trans h
        refine s_iload hX dX3_change_84 rfl ?_
        refine s_istore_n hX dX3_change_86 (Nat.le_of_ble_eq_true rfl) ?_
        refine s_bi hX (10 : Int32) dX3_change_87 (by decide) ?_
        refine s_iload hX dX3_change_89 rfl ?_
        refine s_imul hX dX3_change_91 ?_
        refine s_iload hX dX3_change_92 rfl ?_
        refine s_iadd hX dX3_change_94 ?_
        refine s_istore hX dX3_change_95 (Nat.le_of_ble_eq_true rfl) ?_
        refine s_iinc hX (y6 + (1 : Int32)) dX3_change_97 rfl rfl (Nat.le_of_ble_eq_true rfl) ?_
        refine s_goto hX 61 dX3_change_100 (by decide) ?_
        refine fs_ma [true, true, true, true, true, true, true, false] ?_
        exact ih y1 y2 q7.1 (((10 : Int32) * y5) + y6) y5 (y6 + (1 : Int32)) q7.2 μ out h k0
set_option maxRecDepth 20000 in
set_option maxHeartbeats 40000000 in
theorem l_X3_change_49   {X : fsC} (hX : fs_ok cX3_change RX3 8 { frames := 5, cells := 0, slots := 0, locals := 116 } X) : ∀ (n : Nat) (y1 : Int32) (y2 : Int32) (y3 : Int32) (y4 : Int32) (y5 : Int32) (σ : fsS) (μ : fsL) (out : Int32 × Int32 × fsS) (_ : L_X3_change_49  n y1 y2 y3 y4 y5 σ = some out) (k0 : fs_PW X 109 [some (.ref 0), none, none, some (.int out.1), some (.int out.2.1), none, none, none] [] out.2.2 μ), fs_PW X 49 [some (.ref 0), some (.int y1), some (.int y2), some (.int y3), some (.int y4), some (.int y5), none, none] [] σ μ := by
  intro n
  induction n with
  | zero =>
    intro y1 y2 y3 y4 y5 σ μ out h
    cases (show (none : Option (Int32 × Int32 × fsS)) = some out from h)
  | succ n0 ih =>
    intro y1 y2 y3 y4 y5 σ μ out h k0
    unfold L_X3_change_49 at h
    refine s_iload hX dX3_change_49 rfl ?_
    refine s_iload_n hX dX3_change_51 rfl ?_
    refine s_ic_ge hX 109 dX3_change_52 (by decide) (fun c5 => ?_) (fun c5 => ?_)
    · have h := (if_pos c5).symm.trans h
      cases h
      refine fs_ma [true, false, false, true, true, false, false, false] ?_
      exact k0
    · have h := (if_neg c5).symm.trans h
      refine s_iload hX dX3_change_55 rfl ?_
      refine s_ic hX (1 : Int32) dX3_change_57 (by decide) ?_
      refine s_iadd hX dX3_change_58 ?_
      refine s_istore hX dX3_change_59 (Nat.le_of_ble_eq_true rfl) ?_
      obtain ⟨q9, e9, h⟩ := fs_bind h
      refine fs_ma [true, true, true, true, true, true, true, false] ?_
      refine l_X3_change_61  hX fs_fu y1 y2 y3 y4 y5 (y5 + (1 : Int32)) σ μ q9 e9 ?_
      refine s_iinc hX (y5 + (1 : Int32)) dX3_change_103 rfl rfl (Nat.le_of_ble_eq_true rfl) ?_
      refine s_goto hX 49 dX3_change_106 (by decide) ?_
      refine fs_ma [true, true, true, true, true, true, false, false] ?_
      exact ih y1 y2 q9.1 q9.2.1 (y5 + (1 : Int32)) q9.2.2 μ out h k0
set_option maxRecDepth 20000 in
set_option maxHeartbeats 40000000 in
theorem m_X3_change (x1 : Int32)  (σ : fsS) (μ : fsL) (out : Int32 × fsS) (h : F_X3_change x1 σ = some out) : fs_Met yX3_change cX3_change 8 (some .int) { frames := 5, cells := 0, slots := 0, locals := 116 } [.ref 0, .int x1] σ μ (some (.int out.1)) out.2 μ := by
  unfold F_X3_change at h
  refine fs_intro (by decide +kernel) (Nat.le_of_ble_eq_true rfl) (fun X hX hR => ?_)
  show fs_PW X 0 [some (.ref 0), some (.int x1), none, none, none, none, none, none] [] σ μ
  refine s_iload_n hX dX3_change_0 rfl ?_
  refine s_ic hX (1 : Int32) dX3_change_1 (by decide) ?_
  refine s_ic_lt hX 11 dX3_change_2 (by decide) (fun c1 => ?_) (fun c1 => ?_)
  · have h := (if_pos c1).symm.trans h
    refine s_ic hX (-1 : Int32) dX3_change_11 (by decide) ?_
    cases h
    exact s_iret hX hR dX3_change_12
  · have h := (if_neg c1).symm.trans h
    refine s_iload_n hX dX3_change_5 rfl ?_
    refine s_bi hX (20 : Int32) dX3_change_6 (by decide) ?_
    refine s_ic_le hX 13 dX3_change_8 (by decide) (fun c2 => ?_) (fun c2 => ?_)
    · have h := (if_pos c2).symm.trans h
      refine s_aload_n hX dX3_change_13 rfl ?_
      refine s_cV hX [] dX3_change_14 k_X3_150 v_X3_noKin (m_X3_noKin σ μ _ rfl) ⟨_, rfl⟩ fs_c3 ⟨rfl, rfl⟩ ⟨(Nat.le_of_ble_eq_true rfl), (Nat.le_of_ble_eq_true rfl)⟩ rfl rfl (Nat.le_of_ble_eq_true rfl) ?_
      refine s_if_eq hX 23 dX3_change_17 (by decide) (fun c3 => ?_) (fun c3 => ?_)
      · have h := (if_pos c3).symm.trans h
        refine s_aload_n hX dX3_change_23 rfl ?_
        refine s_getr hX dX3_change_24 f_X3_24 rfl ?_
        refine s_getr hX dX3_change_27 f_X3_113 rfl ?_
        refine s_geti hX dX3_change_30 f_X3_116 rfl ?_
        refine s_istore_n hX dX3_change_33 (Nat.le_of_ble_eq_true rfl) ?_
        refine s_aload_n hX dX3_change_34 rfl ?_
        refine s_ic hX (0 : Int32) dX3_change_35 (by decide) ?_
        refine s_ic hX (0 : Int32) dX3_change_36 (by decide) ?_
        refine s_iload_n hX dX3_change_37 rfl ?_
        obtain ⟨q4, e4, h⟩ := fs_bind h
        refine s_cV hX [.int (0 : Int32), .int (0 : Int32), .int x1] dX3_change_38 k_X3_229 v_X3_givenIfChanged (m_X3_givenIfChanged (0 : Int32) (0 : Int32) x1 σ μ q4 e4) ⟨_, rfl⟩ fs_c3 ⟨rfl, rfl⟩ ⟨(Nat.le_of_ble_eq_true rfl), (Nat.le_of_ble_eq_true rfl)⟩ rfl rfl (Nat.le_of_ble_eq_true rfl) ?_
        refine s_istore_n hX dX3_change_41 (Nat.le_of_ble_eq_true rfl) ?_
        refine s_bi hX (-9 : Int32) dX3_change_42 (by decide) ?_
        refine s_istore hX dX3_change_44 (Nat.le_of_ble_eq_true rfl) ?_
        refine s_ic hX (0 : Int32) dX3_change_46 (by decide) ?_
        refine s_istore hX dX3_change_47 (Nat.le_of_ble_eq_true rfl) ?_
        obtain ⟨q10, e10, h⟩ := fs_bind h
        refine fs_ma [true, true, true, true, true, true, false, false] ?_
        refine l_X3_change_49  hX fs_fu x1 (σ 5 0) q4.1 (-9 : Int32) (0 : Int32) q4.2 μ q10 e10 ?_
        refine s_iload hX dX3_change_109 rfl ?_
        refine s_bi hX (-9 : Int32) dX3_change_111 (by decide) ?_
        refine s_ic_ne hX 121 dX3_change_113 (by decide) (fun c11 => ?_) (fun c11 => ?_)
        · have h := (if_neg c11).symm.trans h
          refine s_aload_n hX dX3_change_121 rfl ?_
          refine s_iload_n hX dX3_change_122 rfl ?_
          refine s_iload hX dX3_change_123 rfl ?_
          refine s_cV hX [.int q10.1, .int q10.2.1] dX3_change_125 k_X3_79 v_X3_tell (m_X3_tell q10.1 q10.2.1 q10.2.2 μ _ rfl) ⟨_, rfl⟩ fs_c3 ⟨rfl, rfl⟩ ⟨(Nat.le_of_ble_eq_true rfl), (Nat.le_of_ble_eq_true rfl)⟩ rfl rfl (Nat.le_of_ble_eq_true rfl) ?_
          cases h
          exact s_iret hX hR dX3_change_128
        · have h := (if_pos c11).symm.trans h
          refine s_bi hX (-9 : Int32) dX3_change_116 (by decide) ?_
          refine s_goto hX 128 dX3_change_118 (by decide) ?_
          cases h
          exact s_iret hX hR dX3_change_128
      · have h := (if_neg c3).symm.trans h
        refine s_bi hX (-4 : Int32) dX3_change_20 (by decide) ?_
        cases h
        exact s_iret hX hR dX3_change_22
    · have h := (if_neg c2).symm.trans h
      refine s_ic hX (-1 : Int32) dX3_change_11 (by decide) ?_
      cases h
      exact s_iret hX hR dX3_change_12

-- X3_refusePairs
def L_X3_refusePairs_56  : Nat → Int32 → Int32 → fsS → Option (Nat)
  | 0, _, _, _ => none
  | n0 + 1, y2, y3, σ => fs_g (fs_in y2 6) (if (σ 10 y2.toNatClampNeg) ≤ y3 then some 1 else fs_g (fs_in y2 6) (fs_g (fs_in y3 (fs_len (38 + y2.toNatClampNeg))) (if (σ (38 + y2.toNatClampNeg) y3.toNatClampNeg) < 0 then some 0 else if (y3 - y3 / (2 : Int32) * (2 : Int32)) = 0 then if (σ (38 + y2.toNatClampNeg) y3.toNatClampNeg) ≤ (99 : Int32) then L_X3_refusePairs_56  n0 y2 (y3 + (1 : Int32)) σ else some 0 else if (σ (38 + y2.toNatClampNeg) y3.toNatClampNeg) ≤ (30 : Int32) then L_X3_refusePairs_56  n0 y2 (y3 + (1 : Int32)) σ else some 0)))
def F_X3_refusePairs (x1 : Int32) (x2 : Int32) (σ : fsS) : Option (Int32 × fsS) := if (F_X3_isKin x1 σ) = 0 then some ((-1 : Int32), σ) else if (F_X3_isRow x2) = 0 then some ((-1 : Int32), σ) else (F_X2_has 1 x2 σ).bind (fun q3 => if q3 = 0 then (F_X3_refuse (1 : Int32) σ).bind (fun q19 => some (q19.1, q19.2)) else fs_g (fs_in x2 6) (if ((σ 10 x2.toNatClampNeg) - (σ 10 x2.toNatClampNeg) / (2 : Int32) * (2 : Int32)) = 0 then (L_X3_refusePairs_56  fs_fu x2 (0 : Int32) σ).bind (fun q15 => if q15 = 0 then (F_X3_refuse (3 : Int32) σ).bind (fun q17 => some (q17.1, q17.2)) else some ((0 : Int32), σ)) else (F_X3_refuse (5 : Int32) σ).bind (fun q18 => some (q18.1, q18.2))))
set_option maxRecDepth 20000 in
set_option maxHeartbeats 40000000 in
theorem l_X3_refusePairs_56   {X : fsC} (hX : fs_ok cX3_refusePairs RX3 5 { frames := 1, cells := 0, slots := 0, locals := 21 } X) : ∀ (n : Nat) (y2 : Int32) (y3 : Int32) (σ : fsS) (μ : fsL) (out : Nat) (_ : L_X3_refusePairs_56  n y2 y3 σ = some out) (k0 : out = 0 → fs_PW X 105 [some (.ref 0), none, none, none, none] [] σ μ) (k1 : out = 1 → fs_PW X 117 [none, none, none, none, none] [] σ μ), fs_PW X 56 [some (.ref 0), none, some (.int y2), some (.int y3), none] [] σ μ := by
  intro n
  induction n with
  | zero =>
    intro y2 y3 σ μ out h
    cases (show (none : Option (Nat)) = some out from h)
  | succ n0 ih =>
    intro y2 y3 σ μ out h k0 k1
    unfold L_X3_refusePairs_56 at h
    refine s_iload_n hX dX3_refusePairs_56 rfl ?_
    refine s_aload_n hX dX3_refusePairs_57 rfl ?_
    refine s_getr hX dX3_refusePairs_58 f_X3_14 rfl ?_
    refine s_getr hX dX3_refusePairs_61 f_X3_85 rfl ?_
    refine s_iload_n hX dX3_refusePairs_64 rfl ?_
    obtain ⟨g7, h⟩ := fs_gd h
    refine s_iald hX dX3_refusePairs_65 g7 ?_
    refine s_ic_ge hX 117 dX3_refusePairs_66 (by decide) (fun c8 => ?_) (fun c8 => ?_)
    · have h := (if_pos c8).symm.trans h
      cases h
      refine fs_ma [false, false, false, false, false] ?_
      exact k1 rfl
    · have h := (if_neg c8).symm.trans h
      refine s_aload_n hX dX3_refusePairs_69 rfl ?_
      refine s_getr hX dX3_refusePairs_70 f_X3_14 rfl ?_
      refine s_getr hX dX3_refusePairs_73 f_X3_75 rfl ?_
      refine s_iload_n hX dX3_refusePairs_76 rfl ?_
      obtain ⟨g9, h⟩ := fs_gd h
      refine s_aald hX dX3_refusePairs_77 g9 ?_
      refine s_iload_n hX dX3_refusePairs_78 rfl ?_
      obtain ⟨g10, h⟩ := fs_gd h
      refine s_iald hX dX3_refusePairs_79 g10 ?_
      refine s_istore hX dX3_refusePairs_80 (Nat.le_of_ble_eq_true rfl) ?_
      refine s_iload hX dX3_refusePairs_82 rfl ?_
      refine s_if_lt hX 105 dX3_refusePairs_84 (by decide) (fun c11 => ?_) (fun c11 => ?_)
      · have h := (if_pos c11).symm.trans h
        cases h
        refine fs_ma [true, false, false, false, false] ?_
        exact k0 rfl
      · have h := (if_neg c11).symm.trans h
        refine s_iload hX dX3_refusePairs_87 rfl ?_
        refine s_iload_n hX dX3_refusePairs_89 rfl ?_
        refine s_ic hX (2 : Int32) dX3_refusePairs_90 (by decide) ?_
        refine s_irem hX dX3_refusePairs_91 (by decide) ?_
        refine s_if_ne hX 100 dX3_refusePairs_92 (by decide) (fun c12 => ?_) (fun c12 => ?_)
        · have h := (if_neg c12).symm.trans h
          refine s_bi hX (30 : Int32) dX3_refusePairs_100 (by decide) ?_
          refine s_ic_le hX 111 dX3_refusePairs_102 (by decide) (fun c13 => ?_) (fun c13 => ?_)
          · have h := (if_pos c13).symm.trans h
            refine s_iinc hX (y3 + (1 : Int32)) dX3_refusePairs_111 rfl rfl (Nat.le_of_ble_eq_true rfl) ?_
            refine s_goto hX 56 dX3_refusePairs_114 (by decide) ?_
            refine fs_ma [true, false, true, true, false] ?_
            exact ih y2 (y3 + (1 : Int32)) σ μ out h k0 k1
          · have h := (if_neg c13).symm.trans h
            cases h
            refine fs_ma [true, false, false, false, false] ?_
            exact k0 rfl
        · have h := (if_pos c12).symm.trans h
          refine s_bi hX (99 : Int32) dX3_refusePairs_95 (by decide) ?_
          refine s_goto hX 102 dX3_refusePairs_97 (by decide) ?_
          refine s_ic_le hX 111 dX3_refusePairs_102 (by decide) (fun c14 => ?_) (fun c14 => ?_)
          · have h := (if_pos c14).symm.trans h
            refine s_iinc hX (y3 + (1 : Int32)) dX3_refusePairs_111 rfl rfl (Nat.le_of_ble_eq_true rfl) ?_
            refine s_goto hX 56 dX3_refusePairs_114 (by decide) ?_
            refine fs_ma [true, false, true, true, false] ?_
            exact ih y2 (y3 + (1 : Int32)) σ μ out h k0 k1
          · have h := (if_neg c14).symm.trans h
            cases h
            refine fs_ma [true, false, false, false, false] ?_
            exact k0 rfl
set_option maxRecDepth 20000 in
set_option maxHeartbeats 40000000 in
theorem m_X3_refusePairs (x1 : Int32) (x2 : Int32)  (σ : fsS) (μ : fsL) (out : Int32 × fsS) (h : F_X3_refusePairs x1 x2 σ = some out) : fs_Met yX3_refusePairs cX3_refusePairs 5 (some .int) { frames := 1, cells := 0, slots := 0, locals := 21 } [.ref 0, .int x1, .int x2] σ μ (some (.int out.1)) out.2 μ := by
  unfold F_X3_refusePairs at h
  refine fs_intro (by decide +kernel) (Nat.le_of_ble_eq_true rfl) (fun X hX hR => ?_)
  show fs_PW X 0 [some (.ref 0), some (.int x1), some (.int x2), none, none] [] σ μ
  refine s_aload_n hX dX3_refusePairs_0 rfl ?_
  refine s_iload_n hX dX3_refusePairs_1 rfl ?_
  refine s_cV hX [.int x1] dX3_refusePairs_2 k_X3_119 v_X3_isKin (m_X3_isKin x1 σ μ _ rfl) ⟨_, rfl⟩ fs_c3 ⟨rfl, rfl⟩ ⟨(Nat.le_of_ble_eq_true rfl), (Nat.le_of_ble_eq_true rfl)⟩ rfl rfl (Nat.le_of_ble_eq_true rfl) ?_
  refine s_if_eq hX 15 dX3_refusePairs_5 (by decide) (fun c1 => ?_) (fun c1 => ?_)
  · have h := (if_pos c1).symm.trans h
    refine s_ic hX (-1 : Int32) dX3_refusePairs_15 (by decide) ?_
    cases h
    exact s_iret hX hR dX3_refusePairs_16
  · have h := (if_neg c1).symm.trans h
    refine s_iload_n hX dX3_refusePairs_8 rfl ?_
    refine s_callS hX (as := [.int x2]) dX3_refusePairs_9 k_X3_59 v_X3_isRow (m_X3_isRow x2 σ μ _ rfl) ⟨rfl, rfl⟩ ⟨(Nat.le_of_ble_eq_true rfl), (Nat.le_of_ble_eq_true rfl)⟩ rfl rfl (Nat.le_of_ble_eq_true rfl) ?_
    refine s_if_ne hX 17 dX3_refusePairs_12 (by decide) (fun c2 => ?_) (fun c2 => ?_)
    · have h := (if_neg c2).symm.trans h
      refine s_aload_n hX dX3_refusePairs_17 rfl ?_
      refine s_getr hX dX3_refusePairs_18 f_X3_14 rfl ?_
      refine s_iload_n hX dX3_refusePairs_21 rfl ?_
      obtain ⟨q3, e3, h⟩ := fs_bind h
      refine s_cV hX [.int x2] dX3_refusePairs_22 k_X3_82 v_X2_has (m_X2_has 1 x2 fs_H1 σ μ q3 e3) (fs_H_is fs_H1) fs_c2 ⟨rfl, rfl⟩ ⟨(Nat.le_of_ble_eq_true rfl), (Nat.le_of_ble_eq_true rfl)⟩ rfl rfl (Nat.le_of_ble_eq_true rfl) ?_
      refine s_if_ne hX 34 dX3_refusePairs_25 (by decide) (fun c4 => ?_) (fun c4 => ?_)
      · have h := (if_neg c4).symm.trans h
        refine s_aload_n hX dX3_refusePairs_34 rfl ?_
        refine s_getr hX dX3_refusePairs_35 f_X3_14 rfl ?_
        refine s_getr hX dX3_refusePairs_38 f_X3_85 rfl ?_
        refine s_iload_n hX dX3_refusePairs_41 rfl ?_
        obtain ⟨g5, h⟩ := fs_gd h
        refine s_iald hX dX3_refusePairs_42 g5 ?_
        refine s_ic hX (2 : Int32) dX3_refusePairs_43 (by decide) ?_
        refine s_irem hX dX3_refusePairs_44 (by decide) ?_
        refine s_if_eq hX 54 dX3_refusePairs_45 (by decide) (fun c6 => ?_) (fun c6 => ?_)
        · have h := (if_pos c6).symm.trans h
          refine s_ic hX (0 : Int32) dX3_refusePairs_54 (by decide) ?_
          refine s_istore_n hX dX3_refusePairs_55 (Nat.le_of_ble_eq_true rfl) ?_
          obtain ⟨q15, e15, h⟩ := fs_bind h
          refine fs_ma [true, false, true, true, false] ?_
          refine l_X3_refusePairs_56  hX fs_fu x2 (0 : Int32) σ μ q15 e15 (fun c16 => ?_) (fun c16 => ?_)
          · have h := (if_pos c16).symm.trans h
            refine s_aload_n hX dX3_refusePairs_105 rfl ?_
            refine s_ic hX (3 : Int32) dX3_refusePairs_106 (by decide) ?_
            obtain ⟨q17, e17, h⟩ := fs_bind h
            refine s_cV hX [.int (3 : Int32)] dX3_refusePairs_107 k_X3_63 v_X3_refuse (m_X3_refuse (3 : Int32) σ μ q17 e17) ⟨_, rfl⟩ fs_c3 ⟨rfl, rfl⟩ ⟨(Nat.le_of_ble_eq_true rfl), (Nat.le_of_ble_eq_true rfl)⟩ rfl rfl (Nat.le_of_ble_eq_true rfl) ?_
            cases h
            exact s_iret hX hR dX3_refusePairs_110
          · have h := (if_neg (show ¬ q15 = 0 by rw [c16]; decide)).symm.trans h
            refine s_ic hX (0 : Int32) dX3_refusePairs_117 (by decide) ?_
            cases h
            exact s_iret hX hR dX3_refusePairs_118
        · have h := (if_neg c6).symm.trans h
          refine s_aload_n hX dX3_refusePairs_48 rfl ?_
          refine s_ic hX (5 : Int32) dX3_refusePairs_49 (by decide) ?_
          obtain ⟨q18, e18, h⟩ := fs_bind h
          refine s_cV hX [.int (5 : Int32)] dX3_refusePairs_50 k_X3_63 v_X3_refuse (m_X3_refuse (5 : Int32) σ μ q18 e18) ⟨_, rfl⟩ fs_c3 ⟨rfl, rfl⟩ ⟨(Nat.le_of_ble_eq_true rfl), (Nat.le_of_ble_eq_true rfl)⟩ rfl rfl (Nat.le_of_ble_eq_true rfl) ?_
          cases h
          exact s_iret hX hR dX3_refusePairs_53
      · have h := (if_pos c4).symm.trans h
        refine s_aload_n hX dX3_refusePairs_28 rfl ?_
        refine s_ic hX (1 : Int32) dX3_refusePairs_29 (by decide) ?_
        obtain ⟨q19, e19, h⟩ := fs_bind h
        refine s_cV hX [.int (1 : Int32)] dX3_refusePairs_30 k_X3_63 v_X3_refuse (m_X3_refuse (1 : Int32) σ μ q19 e19) ⟨_, rfl⟩ fs_c3 ⟨rfl, rfl⟩ ⟨(Nat.le_of_ble_eq_true rfl), (Nat.le_of_ble_eq_true rfl)⟩ rfl rfl (Nat.le_of_ble_eq_true rfl) ?_
        cases h
        exact s_iret hX hR dX3_refusePairs_33
    · have h := (if_pos c2).symm.trans h
      refine s_ic hX (-1 : Int32) dX3_refusePairs_15 (by decide) ?_
      cases h
      exact s_iret hX hR dX3_refusePairs_16
