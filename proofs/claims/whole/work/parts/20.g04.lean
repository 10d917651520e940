-- X2_sum
def L_X2_sum_5 (o : Nat) : Nat → Int32 → Int64 → Int32 → fsS → Option (Int64)
  | 0, _, _, _, _ => none
  | n0 + 1, y1, y2, y4, σ => fs_g (fs_in y1 (fs_len (9 + o))) (if (σ (9 + o) y1.toNatClampNeg) ≤ y4 then some y2 else fs_g (fs_in y1 (fs_rb (34 + o)).2) (fs_g (fs_in y4 (fs_len ((fs_rb (34 + o)).1 + y1.toNatClampNeg))) (L_X2_sum_5 o n0 y1 (y2 + ((σ ((fs_rb (34 + o)).1 + y1.toNatClampNeg) y4.toNatClampNeg).toInt64)) (y4 + (1 : Int32)) σ)))
def F_X2_sum (o : Nat) (x1 : Int32) (σ : fsS) : Option (Int64) := (L_X2_sum_5 o fs_fu x1 (0 : Int64) (0 : Int32) σ).bind (fun q5 => some q5)
set_option maxRecDepth 20000 in
set_option maxHeartbeats 4000000 in
theorem l_X2_sum_5 {o : Nat} (ho : fs_H o) {X : fsC} (hX : fs_ok cX2_sum RX2 5 { frames := 0, cells := 0, slots := 0, locals := 0 } X) : ∀ (n : Nat) (y1 : Int32) (y2 : Int64) (y4 : Int32) (σ : fsS) (μ : fsL) (out : Int64) (_ : L_X2_sum_5 o n y1 y2 y4 σ = some out) (k0 : fs_PW X 35 [none, none, some (.long out), none, none] [] σ μ), fs_PW X 5 [some (.ref o), some (.int y1), some (.long y2), none, some (.int y4)] [] σ μ := by
  intro n
  induction n with
  | zero =>
    intro y1 y2 y4 σ μ out h
    cases (show (none : Option (Int64)) = some out from h)
  | succ n0 ih =>
    intro y1 y2 y4 σ μ out h k0
    unfold L_X2_sum_5 at h
    refine s_iload hX dX2_sum_5 rfl ?_
    refine s_aload_n hX dX2_sum_7 rfl ?_
    refine s_getr hX dX2_sum_8 f_X2_22 (fs_hd1 ho) ?_
    refine s_iload_n hX dX2_sum_11 rfl ?_
    obtain ⟨g1, h⟩ := fs_gd h
    refine s_iald hX dX2_sum_12 g1 ?_
    refine s_ic_ge hX 35 dX2_sum_13 (by decide) (fun c2 => ?_) (fun c2 => ?_)
    · have h := (if_pos c2).symm.trans h
      cases h
      refine fs_ma [false, false, true, false, false] ?_
      exact k0
    · have h := (if_neg c2).symm.trans h
      refine s_lload_n hX dX2_sum_16 rfl ?_
      refine s_aload_n hX dX2_sum_17 rfl ?_
      refine s_getr hX dX2_sum_18 f_X2_17 (fs_hd0 ho) ?_
      refine s_iload_n hX dX2_sum_21 rfl ?_
      obtain ⟨g3, h⟩ := fs_gd h
      refine s_aald hX dX2_sum_22 g3 ?_
      refine s_iload hX dX2_sum_23 rfl ?_
      obtain ⟨g4, h⟩ := fs_gd h
      refine s_iald hX dX2_sum_25 g4 ?_
      refine s_i2l hX dX2_sum_26 ?_
      refine s_ladd hX dX2_sum_27 ?_
      refine s_lstore_n hX dX2_sum_28 (Nat.le_of_ble_eq_true rfl) ?_
      refine s_iinc hX (y4 + (1 : Int32)) dX2_sum_29 rfl rfl (Nat.le_of_ble_eq_true rfl) ?_
      refine s_goto hX 5 dX2_sum_32 (by decide) ?_
      refine fs_ma [true, true, true, false, true] ?_
      exact ih y1 (y2 + ((σ ((fs_rb (34 + o)).1 + y1.toNatClampNeg) y4.toNatClampNeg).toInt64)) (y4 + (1 : Int32)) σ μ out h k0
set_option maxRecDepth 20000 in
set_option maxHeartbeats 4000000 in
theorem m_X2_sum (o : Nat) (x1 : Int32) (ho : fs_H o) (σ : fsS) (μ : fsL) (out : Int64) (h : F_X2_sum o x1 σ = some out) : fs_Met yX2_sum cX2_sum 5 (some .long) { frames := 0, cells := 0, slots := 0, locals := 0 } [.ref o, .int x1] σ μ (some (.long out)) σ μ := by
  unfold F_X2_sum at h
  refine fs_intro (by decide +kernel) (Nat.le_of_ble_eq_true rfl) (fun X hX hR => ?_)
  show fs_PW X 0 [some (.ref o), some (.int x1), none, none, none] [] σ μ
  refine s_lc hX (0 : Int64) dX2_sum_0 (by decide) ?_
  refine s_lstore_n hX dX2_sum_1 (Nat.le_of_ble_eq_true rfl) ?_
  refine s_ic hX (0 : Int32) dX2_sum_2 (by decide) ?_
  refine s_istore hX dX2_sum_3 (Nat.le_of_ble_eq_true rfl) ?_
  obtain ⟨q5, e5, h⟩ := fs_bind h
  refine fs_ma [true, true, true, false, true] ?_
  refine l_X2_sum_5 ho hX fs_fu x1 (0 : Int64) (0 : Int32) σ μ q5 e5 ?_
  refine s_lload_n hX dX2_sum_35 rfl ?_
  cases h
  exact s_lret hX hR dX2_sum_36

-- X2_present
def L_X2_present_4 (o : Nat) : Nat → Int32 → Int32 → fsS → Option (Int32)
  | 0, _, _, _ => none
  | n0 + 1, y1, y2, σ => if (Int32.ofNat (fs_len (9 + o))) ≤ y2 then some y1 else (F_X2_has o y2 σ).bind (fun q2 => if q2 = 0 then L_X2_present_4 o n0 y1 (y2 + (1 : Int32)) σ else L_X2_present_4 o n0 (y1 + (1 : Int32)) (y2 + (1 : Int32)) σ)
def F_X2_present (o : Nat) (σ : fsS) : Option (Int32) := (L_X2_present_4 o fs_fu (0 : Int32) (0 : Int32) σ).bind (fun q4 => some q4)
set_option maxRecDepth 20000 in
set_option maxHeartbeats 4000000 in
theorem l_X2_present_4 {o : Nat} (ho : fs_H o) {X : fsC} (hX : fs_ok cX2_present RX2 3 { frames := 1, cells := 0, slots := 0, locals := 21 } X) : ∀ (n : Nat) (y1 : Int32) (y2 : Int32) (σ : fsS) (μ : fsL) (out : Int32) (_ : L_X2_present_4 o n y1 y2 σ = some out) (k0 : fs_PW X 30 [none, some (.int out), none] [] σ μ), fs_PW X 4 [some (.ref o), some (.int y1), some (.int y2)] [] σ μ := by
  intro n
  induction n with
  | zero =>
    intro y1 y2 σ μ out h
    cases (show (none : Option (Int32)) = some out from h)
  | succ n0 ih =>
    intro y1 y2 σ μ out h k0
    unfold L_X2_present_4 at h
    refine s_iload_n hX dX2_present_4 rfl ?_
    refine s_aload_n hX dX2_present_5 rfl ?_
    refine s_getr hX dX2_present_6 f_X2_22 (fs_hd1 ho) ?_
    refine s_alen hX dX2_present_9 (fs_hl ho) ?_
    refine s_ic_ge hX 30 dX2_present_10 (by decide) (fun c1 => ?_) (fun c1 => ?_)
    · have h := (if_pos c1).symm.trans h
      cases h
      refine fs_ma [false, true, false] ?_
      exact k0
    · have h := (if_neg c1).symm.trans h
      refine s_aload_n hX dX2_present_13 rfl ?_
      refine s_iload_n hX dX2_present_14 rfl ?_
      obtain ⟨q2, e2, h⟩ := fs_bind h
      refine s_cV hX [.int y2] dX2_present_15 k_X2_36 v_X2_has (m_X2_has o y2 ho σ μ q2 e2) (fs_H_is ho) fs_c2 ⟨rfl, rfl⟩ ⟨(Nat.le_of_ble_eq_true rfl), (Nat.le_of_ble_eq_true rfl)⟩ rfl rfl (Nat.le_of_ble_eq_true rfl) ?_
      refine s_if_eq hX 24 dX2_present_18 (by decide) (fun c3 => ?_) (fun c3 => ?_)
      · have h := (if_pos c3).symm.trans h
        refine s_iinc hX (y2 + (1 : Int32)) dX2_present_24 rfl rfl (Nat.le_of_ble_eq_true rfl) ?_
        refine s_goto hX 4 dX2_present_27 (by decide) ?_
        refine fs_ma [true, true, true] ?_
        exact ih y1 (y2 + (1 : Int32)) σ μ out h k0
      · have h := (if_neg c3).symm.trans h
        refine s_iinc hX (y1 + (1 : Int32)) dX2_present_21 rfl rfl (Nat.le_of_ble_eq_true rfl) ?_
        refine s_iinc hX (y2 + (1 : Int32)) dX2_present_24 rfl rfl (Nat.le_of_ble_eq_true rfl) ?_
        refine s_goto hX 4 dX2_present_27 (by decide) ?_
        refine fs_ma [true, true, true] ?_
        exact ih (y1 + (1 : Int32)) (y2 + (1 : Int32)) σ μ out h k0
set_option maxRecDepth 20000 in
set_option maxHeartbeats 4000000 in
theorem m_X2_present (o : Nat) (ho : fs_H o) (σ : fsS) (μ : fsL) (out : Int32) (h : F_X2_present o σ = some out) : fs_Met yX2_present cX2_present 3 (some .int) { frames := 1, cells := 0, slots := 0, locals := 21 } [.ref o] σ μ (some (.int out)) σ μ := by
  unfold F_X2_present at h
  refine fs_intro (by decide +kernel) (Nat.le_of_ble_eq_true rfl) (fun X hX hR => ?_)
  show fs_PW X 0 [some (.ref o), none, none] [] σ μ
  refine s_ic hX (0 : Int32) dX2_present_0 (by decide) ?_
  refine s_istore_n hX dX2_present_1 (Nat.le_of_ble_eq_true rfl) ?_
  refine s_ic hX (0 : Int32) dX2_present_2 (by decide) ?_
  refine s_istore_n hX dX2_present_3 (Nat.le_of_ble_eq_true rfl) ?_
  obtain ⟨q4, e4, h⟩ := fs_bind h
  refine fs_ma [true, true, true] ?_
  refine l_X2_present_4 ho hX fs_fu (0 : Int32) (0 : Int32) σ μ q4 e4 ?_
  refine s_iload_n hX dX2_present_30 rfl ?_
  cases h
  exact s_iret hX hR dX2_present_31

-- X2_mixInto
def L_X2_mixInto_33 (o : Nat) : Nat → Int64 → Int32 → Int32 → fsS → Option (Int64)
  | 0, _, _, _, _ => none
  | n0 + 1, y3, y5, y6, σ => fs_g (fs_in y5 (fs_len (9 + o))) (if (σ (9 + o) y5.toNatClampNeg) ≤ y6 then some y3 else fs_g (fs_in y5 (fs_rb (34 + o)).2) (fs_g (fs_in y6 (fs_len ((fs_rb (34 + o)).1 + y5.toNatClampNeg))) (L_X2_mixInto_33 o n0 (((31 : Int64) * y3) + ((σ ((fs_rb (34 + o)).1 + y5.toNatClampNeg) y6.toNatClampNeg).toInt64)) y5 (y6 + (1 : Int32)) σ)))
def L_X2_mixInto_5 (o : Nat) : Nat → Int64 → Int32 → fsS → Option (Int64)
  | 0, _, _, _ => none
  | n0 + 1, y3, y5, σ => if (Int32.ofNat (fs_len (9 + o))) ≤ y5 then some y3 else fs_g (fs_in y5 (fs_len (9 + o))) ((L_X2_mixInto_33 o fs_fu (((31 : Int64) * y3) + ((σ (9 + o) y5.toNatClampNeg).toInt64)) y5 (0 : Int32) σ).bind (fun q7 => L_X2_mixInto_5 o n0 q7 (y5 + (1 : Int32)) σ))
def F_X2_mixInto (o : Nat) (x1 : Int64) (σ : fsS) : Option (Int64) := (L_X2_mixInto_5 o fs_fu x1 (0 : Int32) σ).bind (fun q8 => some q8)
set_option maxRecDepth 20000 in
set_option maxHeartbeats 4000000 in
theorem l_X2_mixInto_33 {o : Nat} (ho : fs_H o) {X : fsC} (hX : fs_ok cX2_mixInto RX2 7 { frames := 0, cells := 0, slots := 0, locals := 0 } X) : ∀ (n : Nat) (y3 : Int64) (y5 : Int32) (y6 : Int32) (σ : fsS) (μ : fsL) (out : Int64) (_ : L_X2_mixInto_33 o n y3 y5 y6 σ = some out) (k0 : fs_PW X 69 [some (.ref o), none, none, some (.long out), none, some (.int y5), none] [] σ μ), fs_PW X 33 [some (.ref o), none, none, some (.long y3), none, some (.int y5), some (.int y6)] [] σ μ := by
  intro n
  induction n with
  | zero =>
    intro y3 y5 y6 σ μ out h
    cases (show (none : Option (Int64)) = some out from h)
  | succ n0 ih =>
    intro y3 y5 y6 σ μ out h k0
    unfold L_X2_mixInto_33 at h
    refine s_iload hX dX2_mixInto_33 rfl ?_
    refine s_aload_n hX dX2_mixInto_35 rfl ?_
    refine s_getr hX dX2_mixInto_36 f_X2_22 (fs_hd1 ho) ?_
    refine s_iload hX dX2_mixInto_39 rfl ?_
    obtain ⟨g3, h⟩ := fs_gd h
    refine s_iald hX dX2_mixInto_41 g3 ?_
    refine s_ic_ge hX 69 dX2_mixInto_42 (by decide) (fun c4 => ?_) (fun c4 => ?_)
    · have h := (if_pos c4).symm.trans h
      cases h
      refine fs_ma [true, false, false, true, false, true, false] ?_
      exact k0
    · have h := (if_neg c4).symm.trans h
      refine s_ldc2 hX (31 : Int64) dX2_mixInto_45 q_X2_40 ?_
      refine s_lload_n hX dX2_mixInto_48 rfl ?_
      refine s_lmul hX dX2_mixInto_49 ?_
      refine s_aload_n hX dX2_mixInto_50 rfl ?_
      refine s_getr hX dX2_mixInto_51 f_X2_17 (fs_hd0 ho) ?_
      refine s_iload hX dX2_mixInto_54 rfl ?_
      obtain ⟨g5, h⟩ := fs_gd h
      refine s_aald hX dX2_mixInto_56 g5 ?_
      refine s_iload hX dX2_mixInto_57 rfl ?_
      obtain ⟨g6, h⟩ := fs_gd h
      refine s_iald hX dX2_mixInto_59 g6 ?_
      refine s_i2l hX dX2_mixInto_60 ?_
      refine s_ladd hX dX2_mixInto_61 ?_
      refine s_lstore_n hX dX2_mixInto_62 (Nat.le_of_ble_eq_true rfl) ?_
      refine s_iinc hX (y6 + (1 : Int32)) dX2_mixInto_63 rfl rfl (Nat.le_of_ble_eq_true rfl) ?_
      refine s_goto hX 33 dX2_mixInto_66 (by decide) ?_
      refine fs_ma [true, false, false, true, false, true, true] ?_
      exact ih (((31 : Int64) * y3) + ((σ ((fs_rb (34 + o)).1 + y5.toNatClampNeg) y6.toNatClampNeg).toInt64)) y5 (y6 + (1 : Int32)) σ μ out h k0
set_option maxRecDepth 20000 in
set_option maxHeartbeats 4000000 in
theorem l_X2_mixInto_5 {o : Nat} (ho : fs_H o) {X : fsC} (hX : fs_ok cX2_mixInto RX2 7 { frames := 0, cells := 0, slots := 0, locals := 0 } X) : ∀ (n : Nat) (y3 : Int64) (y5 : Int32) (σ : fsS) (μ : fsL) (out : Int64) (_ : L_X2_mixInto_5 o n y3 y5 σ = some out) (k0 : fs_PW X 75 [none, none, none, some (.long out), none, none, none] [] σ μ), fs_PW X 5 [some (.ref o), none, none, some (.long y3), none, some (.int y5), none] [] σ μ := by
  intro n
  induction n with
  | zero =>
    intro y3 y5 σ μ out h
    cases (show (none : Option (Int64)) = some out from h)
  | succ n0 ih =>
    intro y3 y5 σ μ out h k0
    unfold L_X2_mixInto_5 at h
    refine s_iload hX dX2_mixInto_5 rfl ?_
    refine s_aload_n hX dX2_mixInto_7 rfl ?_
    refine s_getr hX dX2_mixInto_8 f_X2_22 (fs_hd1 ho) ?_
    refine s_alen hX dX2_mixInto_11 (fs_hl ho) ?_
    refine s_ic_ge hX 75 dX2_mixInto_12 (by decide) (fun c1 => ?_) (fun c1 => ?_)
    · have h := (if_pos c1).symm.trans h
      cases h
      refine fs_ma [false, false, false, true, false, false, false] ?_
      exact k0
    · have h := (if_neg c1).symm.trans h
      refine s_ldc2 hX (31 : Int64) dX2_mixInto_15 q_X2_40 ?_
      refine s_lload_n hX dX2_mixInto_18 rfl ?_
      refine s_lmul hX dX2_mixInto_19 ?_
      refine s_aload_n hX dX2_mixInto_20 rfl ?_
      refine s_getr hX dX2_mixInto_21 f_X2_22 (fs_hd1 ho) ?_
      refine s_iload hX dX2_mixInto_24 rfl ?_
      obtain ⟨g2, h⟩ := fs_gd h
      refine s_iald hX dX2_mixInto_26 g2 ?_
      refine s_i2l hX dX2_mixInto_27 ?_
      refine s_ladd hX dX2_mixInto_28 ?_
      refine s_lstore_n hX dX2_mixInto_29 (Nat.le_of_ble_eq_true rfl) ?_
      refine s_ic hX (0 : Int32) dX2_mixInto_30 (by decide) ?_
      refine s_istore hX dX2_mixInto_31 (Nat.le_of_ble_eq_true rfl) ?_
      obtain ⟨q7, e7, h⟩ := fs_bind h
      refine fs_ma [true, false, false, true, false, true, true] ?_
      refine l_X2_mixInto_33 ho hX fs_fu (((31 : Int64) * y3) + ((σ (9 + o) y5.toNatClampNeg).toInt64)) y5 (0 : Int32) σ μ q7 e7 ?_
      refine s_iinc hX (y5 + (1 : Int32)) dX2_mixInto_69 rfl rfl (Nat.le_of_ble_eq_true rfl) ?_
      refine s_goto hX 5 dX2_mixInto_72 (by decide) ?_
      refine fs_ma [true, false, false, true, false, true, false] ?_
      exact ih q7 (y5 + (1 : Int32)) σ μ out h k0
set_option maxRecDepth 20000 in
set_option maxHeartbeats 4000000 in
theorem m_X2_mixInto (o : Nat) (x1 : Int64) (ho : fs_H o) (σ : fsS) (μ : fsL) (out : Int64) (h : F_X2_mixInto o x1 σ = some out) : fs_Met yX2_mixInto cX2_mixInto 7 (some .long) { frames := 0, cells := 0, slots := 0, locals := 0 } [.ref o, .long x1] σ μ (some (.long out)) σ μ := by
  unfold F_X2_mixInto at h
  refine fs_intro (by decide +kernel) (Nat.le_of_ble_eq_true rfl) (fun X hX hR => ?_)
  show fs_PW X 0 [some (.ref o), some (.long x1), none, none, none, none, none] [] σ μ
  refine s_lload_n hX dX2_mixInto_0 rfl ?_
  refine s_lstore_n hX dX2_mixInto_1 (Nat.le_of_ble_eq_true rfl) ?_
  refine s_ic hX (0 : Int32) dX2_mixInto_2 (by decide) ?_
  refine s_istore hX dX2_mixInto_3 (Nat.le_of_ble_eq_true rfl) ?_
  obtain ⟨q8, e8, h⟩ := fs_bind h
  refine fs_ma [true, false, false, true, false, true, false] ?_
  refine l_X2_mixInto_5 ho hX fs_fu x1 (0 : Int32) σ μ q8 e8 ?_
  refine s_lload_n hX dX2_mixInto_75 rfl ?_
  cases h
  exact s_lret hX hR dX2_mixInto_76

-- X3_isRow
def F_X3_isRow (x0 : Int32) : Int32 := if x0 < 0 then (0 : Int32) else if (6 : Int32) ≤ x0 then (0 : Int32) else (1 : Int32)
theorem z_X3_isRow (x0 : Int32) : F_X3_isRow x0 = 0 ∨ F_X3_isRow x0 = 1 := by
  unfold F_X3_isRow
  (repeat' split) <;> first | exact Or.inl rfl | exact Or.inr rfl
set_option maxRecDepth 20000 in
set_option maxHeartbeats 4000000 in
theorem m_X3_isRow (x0 : Int32)  (σ : fsS) (μ : fsL) (out : Int32) (h : F_X3_isRow x0 = out) : fs_Met yX3_isRow cX3_isRow 1 (some .boolean) { frames := 0, cells := 0, slots := 0, locals := 0 } [.int x0] σ μ (some (.int out)) σ μ := by
  unfold F_X3_isRow at h
  refine fs_intro (by decide +kernel) (Nat.le_of_ble_eq_true rfl) (fun X hX hR => ?_)
  show fs_PW X 0 [some (.int x0)] [] σ μ
  refine s_iload_n hX dX3_isRow_0 rfl ?_
  refine s_if_lt hX 14 dX3_isRow_1 (by decide) (fun c1 => ?_) (fun c1 => ?_)
  · have h := (if_pos c1).symm.trans h
    refine s_ic hX (0 : Int32) dX3_isRow_14 (by decide) ?_
    subst h
    exact s_zret hX (Or.inl rfl) hR dX3_isRow_15
  · have h := (if_neg c1).symm.trans h
    refine s_iload_n hX dX3_isRow_4 rfl ?_
    refine s_bi hX (6 : Int32) dX3_isRow_5 (by decide) ?_
    refine s_ic_ge hX 14 dX3_isRow_7 (by decide) (fun c2 => ?_) (fun c2 => ?_)
    · have h := (if_pos c2).symm.trans h
      refine s_ic hX (0 : Int32) dX3_isRow_14 (by decide) ?_
      subst h
      exact s_zret hX (Or.inl rfl) hR dX3_isRow_15
    · have h := (if_neg c2).symm.trans h
      refine s_ic hX (1 : Int32) dX3_isRow_10 (by decide) ?_
      refine s_goto hX 15 dX3_isRow_11 (by decide) ?_
      subst h
      exact s_zret hX (Or.inr rfl) hR dX3_isRow_15

-- X3_refuse
def F_X3_refuse (x1 : Int32) (σ : fsS) : Option (Int32 × fsS) := fs_g (fs_in x1 6) (fs_g (fs_in x1 6) (some ((-3 : Int32), (fs_u (fs_u σ 0 7 x1) 9 x1.toNatClampNeg ((σ 9 x1.toNatClampNeg) + (1 : Int32))))))
set_option maxRecDepth 20000 in
set_option maxHeartbeats 4000000 in
theorem m_X3_refuse (x1 : Int32)  (σ : fsS) (μ : fsL) (out : Int32 × fsS) (h : F_X3_refuse x1 σ = some out) : fs_Met yX3_refuse cX3_refuse 2 (some .int) { frames := 0, cells := 0, slots := 0, locals := 0 } [.ref 0, .int x1] σ μ (some (.int out.1)) out.2 μ := by
  unfold F_X3_refuse at h
  refine fs_intro (by decide +kernel) (Nat.le_of_ble_eq_true rfl) (fun X hX hR => ?_)
  show fs_PW X 0 [some (.ref 0), some (.int x1)] [] σ μ
  refine s_aload_n hX dX3_refuse_0 rfl ?_
  refine s_iload_n hX dX3_refuse_1 rfl ?_
  refine s_puti hX dX3_refuse_2 p_X3_45 rfl ?_
  refine s_aload_n hX dX3_refuse_5 rfl ?_
  refine s_getr hX dX3_refuse_6 f_X3_42 rfl ?_
  refine s_iload_n hX dX3_refuse_9 rfl ?_
  refine s_dup2 hX dX3_refuse_10 rfl rfl ?_
  obtain ⟨g1, h⟩ := fs_gd h
  refine s_iald hX dX3_refuse_11 g1 ?_
  refine s_ic hX (1 : Int32) dX3_refuse_12 (by decide) ?_
  refine s_iadd hX dX3_refuse_13 ?_
  obtain ⟨g2, h⟩ := fs_gd h
  refine s_iast hX dX3_refuse_14 g2 ?_
  refine s_bi hX (-3 : Int32) dX3_refuse_15 (by decide) ?_
  cases h
  exact s_iret hX hR dX3_refuse_17

-- X3_row
def F_X3_row (x1 : Int32) (x2 : Int32) (σ : fsS) : Option (Int32 × fsS) := if (F_X3_isRow x1) = 0 then some ((-1 : Int32), σ) else if x2 ≤ (40 : Int32) then if 0 ≤ x2 then (F_X2_lie 1 x1 x2 σ).bind (fun q4 => some (x2, q4)) else (F_X3_refuse (5 : Int32) σ).bind (fun q5 => some (q5.1, q5.2)) else some ((-1 : Int32), σ)
set_option maxRecDepth 20000 in
set_option maxHeartbeats 4000000 in
theorem m_X3_row (x1 : Int32) (x2 : Int32)  (σ : fsS) (μ : fsL) (out : Int32 × fsS) (h : F_X3_row x1 x2 σ = some out) : fs_Met yX3_row cX3_row 3 (some .int) { frames := 1, cells := 0, slots := 0, locals := 23 } [.ref 0, .int x1, .int x2] σ μ (some (.int out.1)) out.2 μ := by
  unfold F_X3_row at h
  refine fs_intro (by decide +kernel) (Nat.le_of_ble_eq_true rfl) (fun X hX hR => ?_)
  show fs_PW X 0 [some (.ref 0), some (.int x1), some (.int x2)] [] σ μ
  refine s_iload_n hX dX3_row_0 rfl ?_
  refine s_callS hX (as := [.int x1]) dX3_row_1 k_X3_59 v_X3_isRow (m_X3_isRow x1 σ μ _ rfl) ⟨rfl, rfl⟩ ⟨(Nat.le_of_ble_eq_true rfl), (Nat.le_of_ble_eq_true rfl)⟩ rfl rfl (Nat.le_of_ble_eq_true rfl) ?_
  refine s_if_eq hX 13 dX3_row_4 (by decide) (fun c1 => ?_) (fun c1 => ?_)
  · have h := (if_pos c1).symm.trans h
    refine s_ic hX (-1 : Int32) dX3_row_13 (by decide) ?_
    cases h
    exact s_iret hX hR dX3_row_14
  · have h := (if_neg c1).symm.trans h
    refine s_iload_n hX dX3_row_7 rfl ?_
    refine s_bi hX (40 : Int32) dX3_row_8 (by decide) ?_
    refine s_ic_le hX 15 dX3_row_10 (by decide) (fun c2 => ?_) (fun c2 => ?_)
    · have h := (if_pos c2).symm.trans h
      refine s_iload_n hX dX3_row_15 rfl ?_
      refine s_if_ge hX 25 dX3_row_16 (by decide) (fun c3 => ?_) (fun c3 => ?_)
      · have h := (if_pos c3).symm.trans h
        refine s_aload_n hX dX3_row_25 rfl ?_
        refine s_getr hX dX3_row_26 f_X3_14 rfl ?_
        refine s_iload_n hX dX3_row_29 rfl ?_
        refine s_iload_n hX dX3_row_30 rfl ?_
        obtain ⟨q4, e4, h⟩ := fs_bind h
        refine s_cV hX [.int x1, .int x2] dX3_row_31 k_X3_67 v_X2_lie (m_X2_lie 1 x1 x2 fs_H1 σ μ q4 e4) (fs_H_is fs_H1) fs_c2 ⟨rfl, rfl⟩ ⟨(Nat.le_of_ble_eq_true rfl), (Nat.le_of_ble_eq_true rfl)⟩ rfl rfl (Nat.le_of_ble_eq_true rfl) ?_
        refine s_iload_n hX dX3_row_34 rfl ?_
        cases h
        exact s_iret hX hR dX3_row_35
      · have h := (if_neg c3).symm.trans h
        refine s_aload_n hX dX3_row_19 rfl ?_
        refine s_ic hX (5 : Int32) dX3_row_20 (by decide) ?_
        obtain ⟨q5, e5, h⟩ := fs_bind h
        refine s_cV hX [.int (5 : Int32)] dX3_row_21 k_X3_63 v_X3_refuse (m_X3_refuse (5 : Int32) σ μ q5 e5) ⟨_, rfl⟩ fs_c3 ⟨rfl, rfl⟩ ⟨(Nat.le_of_ble_eq_true rfl), (Nat.le_of_ble_eq_true rfl)⟩ rfl rfl (Nat.le_of_ble_eq_true rfl) ?_
        cases h
        exact s_iret hX hR dX3_row_24
    · have h := (if_neg c2).symm.trans h
      refine s_ic hX (-1 : Int32) dX3_row_13 (by decide) ?_
      cases h
      exact s_iret hX hR dX3_row_14

-- X3_refusePlace
def F_X3_refusePlace (x1 : Int32) (x2 : Int32) (σ : fsS) : Option (Int32 × fsS) := if (F_X3_isRow x1) = 0 then some ((-1 : Int32), σ) else (F_X2_has 1 x1 σ).bind (fun q2 => if q2 = 0 then (F_X3_refuse (1 : Int32) σ).bind (fun q7 => some (q7.1, q7.2)) else (F_X2_reaches 1 x1 x2 (1 : Int32) σ).bind (fun q4 => if q4 = 0 then (F_X3_refuse (2 : Int32) σ).bind (fun q6 => some (q6.1, q6.2)) else some ((0 : Int32), σ)))
set_option maxRecDepth 20000 in
set_option maxHeartbeats 4000000 in
theorem m_X3_refusePlace (x1 : Int32) (x2 : Int32)  (σ : fsS) (μ : fsL) (out : Int32 × fsS) (h : F_X3_refusePlace x1 x2 σ = some out) : fs_Met yX3_refusePlace cX3_refusePlace 3 (some .int) { frames := 1, cells := 0, slots := 0, locals := 23 } [.ref 0, .int x1, .int x2] σ μ (some (.int out.1)) out.2 μ := by
  unfold F_X3_refusePlace at h
  refine fs_intro (by decide +kernel) (Nat.le_of_ble_eq_true rfl) (fun X hX hR => ?_)
  show fs_PW X 0 [some (.ref 0), some (.int x1), some (.int x2)] [] σ μ
  refine s_iload_n hX dX3_refusePlace_0 rfl ?_
  refine s_callS hX (as := [.int x1]) dX3_refusePlace_1 k_X3_59 v_X3_isRow (m_X3_isRow x1 σ μ _ rfl) ⟨rfl, rfl⟩ ⟨(Nat.le_of_ble_eq_true rfl), (Nat.le_of_ble_eq_true rfl)⟩ rfl rfl (Nat.le_of_ble_eq_true rfl) ?_
  refine s_if_ne hX 9 dX3_refusePlace_4 (by decide) (fun c1 => ?_) (fun c1 => ?_)
  · have h := (if_neg c1).symm.trans h
    refine s_aload_n hX dX3_refusePlace_9 rfl ?_
    refine s_getr hX dX3_refusePlace_10 f_X3_14 rfl ?_
    refine s_iload_n hX dX3_refusePlace_13 rfl ?_
    obtain ⟨q2, e2, h⟩ := fs_bind h
    refine s_cV hX [.int x1] dX3_refusePlace_14 k_X3_82 v_X2_has (m_X2_has 1 x1 fs_H1 σ μ q2 e2) (fs_H_is fs_H1) fs_c2 ⟨rfl, rfl⟩ ⟨(Nat.le_of_ble_eq_true rfl), (Nat.le_of_ble_eq_true rfl)⟩ rfl rfl (Nat.le_of_ble_eq_true rfl) ?_
    refine s_if_ne hX 26 dX3_refusePlace_17 (by decide) (fun c3 => ?_) (fun c3 => ?_)
    · have h := (if_neg c3).symm.trans h
      refine s_aload_n hX dX3_refusePlace_26 rfl ?_
      refine s_getr hX dX3_refusePlace_27 f_X3_14 rfl ?_
      refine s_iload_n hX dX3_refusePlace_30 rfl ?_
      refine s_iload_n hX dX3_refusePlace_31 rfl ?_
      refine s_ic hX (1 : Int32) dX3_refusePlace_32 (by decide) ?_
      obtain ⟨q4, e4, h⟩ := fs_bind h
      refine s_cV hX [.int x1, .int x2, .int (1 : Int32)] dX3_refusePlace_33 k_X3_88 v_X2_reaches (m_X2_reaches 1 x1 x2 (1 : Int32) fs_H1 σ μ q4 e4) (fs_H_is fs_H1) fs_c2 ⟨rfl, rfl⟩ ⟨(Nat.le_of_ble_eq_true rfl), (Nat.le_of_ble_eq_true rfl)⟩ rfl rfl (Nat.le_of_ble_eq_true rfl) ?_
      refine s_if_eq hX 43 dX3_refusePlace_36 (by decide) (fun c5 => ?_) (fun c5 => ?_)
      · have h := (if_pos c5).symm.trans h
        refine s_aload_n hX dX3_refusePlace_43 rfl ?_
        refine s_ic hX (2 : Int32) dX3_refusePlace_44 (by decide) ?_
        obtain ⟨q6, e6, h⟩ := fs_bind h
        refine s_cV hX [.int (2 : Int32)] dX3_refusePlace_45 k_X3_63 v_X3_refuse (m_X3_refuse (2 : Int32) σ μ q6 e6) ⟨_, rfl⟩ fs_c3 ⟨rfl, rfl⟩ ⟨(Nat.le_of_ble_eq_true rfl), (Nat.le_of_ble_eq_true rfl)⟩ rfl rfl (Nat.le_of_ble_eq_true rfl) ?_
        cases h
        exact s_iret hX hR dX3_refusePlace_48
      · have h := (if_neg c5).symm.trans h
        refine s_ic hX (0 : Int32) dX3_refusePlace_39 (by decide) ?_
        refine s_goto hX 48 dX3_refusePlace_40 (by decide) ?_
        cases h
        exact s_iret hX hR dX3_refusePlace_48
    · have h := (if_pos c3).symm.trans h
      refine s_aload_n hX dX3_refusePlace_20 rfl ?_
      refine s_ic hX (1 : Int32) dX3_refusePlace_21 (by decide) ?_
      obtain ⟨q7, e7, h⟩ := fs_bind h
      refine s_cV hX [.int (1 : Int32)] dX3_refusePlace_22 k_X3_63 v_X3_refuse (m_X3_refuse (1 : Int32) σ μ q7 e7) ⟨_, rfl⟩ fs_c3 ⟨rfl, rfl⟩ ⟨(Nat.le_of_ble_eq_true rfl), (Nat.le_of_ble_eq_true rfl)⟩ rfl rfl (Nat.le_of_ble_eq_true rfl) ?_
      cases h
      exact s_iret hX hR dX3_refusePlace_25
  · have h := (if_pos c1).symm.trans h
    refine s_ic hX (-1 : Int32) dX3_refusePlace_7 (by decide) ?_
    cases h
    exact s_iret hX hR dX3_refusePlace_8

-- X3_lay
def F_X3_lay (x1 : Int32) (x2 : Int32) (x3 : Int32) (σ : fsS) : Option (Int32 × fsS) := (F_X3_refusePlace x1 x2 σ).bind (fun q1 => if q1.1 = 0 then fs_g (fs_in x1 6) (fs_g (fs_in x2 (fs_len (38 + x1.toNatClampNeg))) (fs_g (fs_in x1 6) (fs_g (fs_in x2 (fs_len (38 + x1.toNatClampNeg))) (some ((1 : Int32), (fs_u (fs_u q1.2 0 8 (q1.2 (38 + x1.toNatClampNeg) x2.toNatClampNeg)) (38 + x1.toNatClampNeg) x2.toNatClampNeg x3)))))) else some (q1.1, q1.2))
set_option maxRecDepth 20000 in
set_option maxHeartbeats 4000000 in
theorem m_X3_lay (x1 : Int32) (x2 : Int32) (x3 : Int32)  (σ : fsS) (μ : fsL) (out : Int32 × fsS) (h : F_X3_lay x1 x2 x3 σ = some out) : fs_Met yX3_lay cX3_lay 5 (some .int) { frames := 2, cells := 0, slots := 0, locals := 45 } [.ref 0, .int x1, .int x2, .int x3] σ μ (some (.int out.1)) out.2 μ := by
  unfold F_X3_lay at h
  refine fs_intro (by decide +kernel) (Nat.le_of_ble_eq_true rfl) (fun X hX hR => ?_)
  show fs_PW X 0 [some (.ref 0), some (.int x1), some (.int x2), some (.int x3), none] [] σ μ
  refine s_aload_n hX dX3_lay_0 rfl ?_
  refine s_iload_n hX dX3_lay_1 rfl ?_
  refine s_iload_n hX dX3_lay_2 rfl ?_
  obtain ⟨q1, e1, h⟩ := fs_bind h
  refine s_cV hX [.int x1, .int x2] dX3_lay_3 k_X3_71 v_X3_refusePlace (m_X3_refusePlace x1 x2 σ μ q1 e1) ⟨_, rfl⟩ fs_c3 ⟨rfl, rfl⟩ ⟨(Nat.le_of_ble_eq_true rfl), (Nat.le_of_ble_eq_true rfl)⟩ rfl rfl (Nat.le_of_ble_eq_true rfl) ?_
  refine s_istore hX dX3_lay_6 (Nat.le_of_ble_eq_true rfl) ?_
  refine s_iload hX dX3_lay_8 rfl ?_
  refine s_if_eq hX 16 dX3_lay_10 (by decide) (fun c2 => ?_) (fun c2 => ?_)
  · have h := (if_pos c2).symm.trans h
    refine s_aload_n hX dX3_lay_16 rfl ?_
    refine s_aload_n hX dX3_lay_17 rfl ?_
    refine s_getr hX dX3_lay_18 f_X3_14 rfl ?_
    refine s_getr hX dX3_lay_21 f_X3_75 rfl ?_
    refine s_iload_n hX dX3_lay_24 rfl ?_
    obtain ⟨g3, h⟩ := fs_gd h
    refine s_aald hX dX3_lay_25 g3 ?_
    refine s_iload_n hX dX3_lay_26 rfl ?_
    obtain ⟨g4, h⟩ := fs_gd h
    refine s_iald hX dX3_lay_27 g4 ?_
    refine s_puti hX dX3_lay_28 p_X3_49 rfl ?_
    refine s_aload_n hX dX3_lay_31 rfl ?_
    refine s_getr hX dX3_lay_32 f_X3_14 rfl ?_
    refine s_getr hX dX3_lay_35 f_X3_75 rfl ?_
    refine s_iload_n hX dX3_lay_38 rfl ?_
    obtain ⟨g5, h⟩ := fs_gd h
    refine s_aald hX dX3_lay_39 g5 ?_
    refine s_iload_n hX dX3_lay_40 rfl ?_
    refine s_iload_n hX dX3_lay_41 rfl ?_
    obtain ⟨g6, h⟩ := fs_gd h
    refine s_iast hX dX3_lay_42 g6 ?_
    refine s_ic hX (1 : Int32) dX3_lay_43 (by decide) ?_
    cases h
    exact s_iret hX hR dX3_lay_44
  · have h := (if_neg c2).symm.trans h
    refine s_iload hX dX3_lay_13 rfl ?_
    cases h
    exact s_iret hX hR dX3_lay_15

-- X3_tell
def F_X3_tell (x1 : Int32) (x2 : Int32) (σ : fsS) : Int32 × fsS := (x2, (fs_u σ 0 8 x1))
set_option maxRecDepth 20000 in
set_option maxHeartbeats 4000000 in
theorem m_X3_tell (x1 : Int32) (x2 : Int32)  (σ : fsS) (μ : fsL) (out : Int32 × fsS) (h : F_X3_tell x1 x2 σ = out) : fs_Met yX3_tell cX3_tell 3 (some .int) { frames := 0, cells := 0, slots := 0, locals := 0 } [.ref 0, .int x1, .int x2] σ μ (some (.int out.1)) out.2 μ := by
  unfold F_X3_tell at h
  refine fs_intro (by decide +kernel) (Nat.le_of_ble_eq_true rfl) (fun X hX hR => ?_)
  show fs_PW X 0 [some (.ref 0), some (.int x1), some (.int x2)] [] σ μ
  refine s_aload_n hX dX3_tell_0 rfl ?_
  refine s_iload_n hX dX3_tell_1 rfl ?_
  refine s_puti hX dX3_tell_2 p_X3_49 rfl ?_
  refine s_iload_n hX dX3_tell_5 rfl ?_
  subst h
  exact s_iret hX hR dX3_tell_6

-- X3_at
def F_X3_at (x1 : Int32) (x2 : Int32) (σ : fsS) : Option (Int32 × fsS) := (F_X3_refusePlace x1 x2 σ).bind (fun q1 => if q1.1 = 0 then fs_g (fs_in x1 6) (fs_g (fs_in x2 (fs_len (38 + x1.toNatClampNeg))) (some ((F_X3_tell (q1.2 (38 + x1.toNatClampNeg) x2.toNatClampNeg) (1 : Int32) q1.2).1, (F_X3_tell (q1.2 (38 + x1.toNatClampNeg) x2.toNatClampNeg) (1 : Int32) q1.2).2))) else some (q1.1, q1.2))
set_option maxRecDepth 20000 in
set_option maxHeartbeats 4000000 in
theorem m_X3_at (x1 : Int32) (x2 : Int32)  (σ : fsS) (μ : fsL) (out : Int32 × fsS) (h : F_X3_at x1 x2 σ = some out) : fs_Met yX3_at cX3_at 4 (some .int) { frames := 2, cells := 0, slots := 0, locals := 45 } [.ref 0, .int x1, .int x2] σ μ (some (.int out.1)) out.2 μ := by
  unfold F_X3_at at h
  refine fs_intro (by decide +kernel) (Nat.le_of_ble_eq_true rfl) (fun X hX hR => ?_)
  show fs_PW X 0 [some (.ref 0), some (.int x1), some (.int x2), none] [] σ μ
  refine s_aload_n hX dX3_at_0 rfl ?_
  refine s_iload_n hX dX3_at_1 rfl ?_
  refine s_iload_n hX dX3_at_2 rfl ?_
  obtain ⟨q1, e1, h⟩ := fs_bind h
  refine s_cV hX [.int x1, .int x2] dX3_at_3 k_X3_71 v_X3_refusePlace (m_X3_refusePlace x1 x2 σ μ q1 e1) ⟨_, rfl⟩ fs_c3 ⟨rfl, rfl⟩ ⟨(Nat.le_of_ble_eq_true rfl), (Nat.le_of_ble_eq_true rfl)⟩ rfl rfl (Nat.le_of_ble_eq_true rfl) ?_
  refine s_istore_n hX dX3_at_6 (Nat.le_of_ble_eq_true rfl) ?_
  refine s_iload_n hX dX3_at_7 rfl ?_
  refine s_if_eq hX 13 dX3_at_8 (by decide) (fun c2 => ?_) (fun c2 => ?_)
  · have h := (if_pos c2).symm.trans h
    refine s_aload_n hX dX3_at_13 rfl ?_
    refine s_aload_n hX dX3_at_14 rfl ?_
    refine s_getr hX dX3_at_15 f_X3_14 rfl ?_
    refine s_getr hX dX3_at_18 f_X3_75 rfl ?_
    refine s_iload_n hX dX3_at_21 rfl ?_
    obtain ⟨g3, h⟩ := fs_gd h
    refine s_aald hX dX3_at_22 g3 ?_
    refine s_iload_n hX dX3_at_23 rfl ?_
    obtain ⟨g4, h⟩ := fs_gd h
    refine s_iald hX dX3_at_24 g4 ?_
    refine s_ic hX (1 : Int32) dX3_at_25 (by decide) ?_
    refine s_cV hX [.int (q1.2 (38 + x1.toNatClampNeg) x2.toNatClampNeg), .int (1 : Int32)] dX3_at_26 k_X3_79 v_X3_tell (m_X3_tell (q1.2 (38 + x1.toNatClampNeg) x2.toNatClampNeg) (1 : Int32) q1.2 μ _ rfl) ⟨_, rfl⟩ fs_c3 ⟨rfl, rfl⟩ ⟨(Nat.le_of_ble_eq_true rfl), (Nat.le_of_ble_eq_true rfl)⟩ rfl rfl (Nat.le_of_ble_eq_true rfl) ?_
    cases h
    exact s_iret hX hR dX3_at_29
  · have h := (if_neg c2).symm.trans h
    refine s_iload_n hX dX3_at_11 rfl ?_
    cases h
    exact s_iret hX hR dX3_at_12

-- X3_tear
def F_X3_tear (x1 : Int32) (σ : fsS) : Option (Int32 × fsS) := if (F_X3_isRow x1) = 0 then some ((-1 : Int32), σ) else (F_X2_has 1 x1 σ).bind (fun q2 => if q2 = 0 then (F_X3_refuse (1 : Int32) σ).bind (fun q5 => some (q5.1, q5.2)) else fs_g (fs_in x1 6) (some ((1 : Int32), (fs_u σ 10 x1.toNatClampNeg (-1 : Int32)))))
set_option maxRecDepth 20000 in
set_option maxHeartbeats 4000000 in
theorem m_X3_tear (x1 : Int32)  (σ : fsS) (μ : fsL) (out : Int32 × fsS) (h : F_X3_tear x1 σ = some out) : fs_Met yX3_tear cX3_tear 2 (some .int) { frames := 1, cells := 0, slots := 0, locals := 21 } [.ref 0, .int x1] σ μ (some (.int out.1)) out.2 μ := by
  unfold F_X3_tear at h
  refine fs_intro (by decide +kernel) (Nat.le_of_ble_eq_true rfl) (fun X hX hR => ?_)
  show fs_PW X 0 [some (.ref 0), some (.int x1)] [] σ μ
  refine s_iload_n hX dX3_tear_0 rfl ?_
  refine s_callS hX (as := [.int x1]) dX3_tear_1 k_X3_59 v_X3_isRow (m_X3_isRow x1 σ μ _ rfl) ⟨rfl, rfl⟩ ⟨(Nat.le_of_ble_eq_true rfl), (Nat.le_of_ble_eq_true rfl)⟩ rfl rfl (Nat.le_of_ble_eq_true rfl) ?_
  refine s_if_ne hX 9 dX3_tear_4 (by decide) (fun c1 => ?_) (fun c1 => ?_)
  · have h := (if_neg c1).symm.trans h
    refine s_aload_n hX dX3_tear_9 rfl ?_
    refine s_getr hX dX3_tear_10 f_X3_14 rfl ?_
    refine s_iload_n hX dX3_tear_13 rfl ?_
    obtain ⟨q2, e2, h⟩ := fs_bind h
    refine s_cV hX [.int x1] dX3_tear_14 k_X3_82 v_X2_has (m_X2_has 1 x1 fs_H1 σ μ q2 e2) (fs_H_is fs_H1) fs_c2 ⟨rfl, rfl⟩ ⟨(Nat.le_of_ble_eq_true rfl), (Nat.le_of_ble_eq_true rfl)⟩ rfl rfl (Nat.le_of_ble_eq_true rfl) ?_
    refine s_if_ne hX 26 dX3_tear_17 (by decide) (fun c3 => ?_) (fun c3 => ?_)
    · have h := (if_neg c3).symm.trans h
      refine s_aload_n hX dX3_tear_26 rfl ?_
      refine s_getr hX dX3_tear_27 f_X3_14 rfl ?_
      refine s_getr hX dX3_tear_30 f_X3_85 rfl ?_
      refine s_iload_n hX dX3_tear_33 rfl ?_
      refine s_ic hX (-1 : Int32) dX3_tear_34 (by decide) ?_
      obtain ⟨g4, h⟩ := fs_gd h
      refine s_iast hX dX3_tear_35 g4 ?_
      refine s_ic hX (1 : Int32) dX3_tear_36 (by decide) ?_
      cases h
      exact s_iret hX hR dX3_tear_37
    · have h := (if_pos c3).symm.trans h
      refine s_aload_n hX dX3_tear_20 rfl ?_
      refine s_ic hX (1 : Int32) dX3_tear_21 (by decide) ?_
      obtain ⟨q5, e5, h⟩ := fs_bind h
      refine s_cV hX [.int (1 : Int32)] dX3_tear_22 k_X3_63 v_X3_refuse (m_X3_refuse (1 : Int32) σ μ q5 e5) ⟨_, rfl⟩ fs_c3 ⟨rfl, rfl⟩ ⟨(Nat.le_of_ble_eq_true rfl), (Nat.le_of_ble_eq_true rfl)⟩ rfl rfl (Nat.le_of_ble_eq_true rfl) ?_
      cases h
      exact s_iret hX hR dX3_tear_25
  · have h := (if_pos c1).symm.trans h
    refine s_ic hX (-1 : Int32) dX3_tear_7 (by decide) ?_
    cases h
    exact s_iret hX hR dX3_tear_8

-- X3_copy
def F_X3_copy (x1 : Int32) (x2 : Int32) (x3 : Int32) (x4 : Int32) (x5 : Int32) (σ : fsS) : Option (Int32 × fsS) := if (F_X3_isRow x1) = 0 then some ((-1 : Int32), σ) else if (F_X3_isRow x3) = 0 then some ((-1 : Int32), σ) else if 0 ≤ x5 then (F_X2_has 1 x1 σ).bind (fun q4 => if q4 = 0 then (F_X3_refuse (1 : Int32) σ).bind (fun q6 => some (q6.1, q6.2)) else (F_X2_has 1 x3 σ).bind (fun q7 => if q7 = 0 then (F_X3_refuse (1 : Int32) σ).bind (fun q18 => some (q18.1, q18.2)) else (F_X2_reaches 1 x1 x2 x5 σ).bind (fun q9 => if q9 = 0 then (F_X3_refuse (2 : Int32) σ).bind (fun q11 => some (q11.1, q11.2)) else (F_X2_reaches 1 x3 x4 x5 σ).bind (fun q12 => if q12 = 0 then (F_X3_refuse (2 : Int32) σ).bind (fun q17 => some (q17.1, q17.2)) else fs_g (fs_in x1 6) (fs_g (fs_in x3 6) (fs_g (fs_cp (38 + x1.toNatClampNeg) (38 + x3.toNatClampNeg) x2 x4 x5) (some ((1 : Int32), (fs_cy σ (38 + x1.toNatClampNeg) (38 + x3.toNatClampNeg) x2 x4 x5))))))))) else (F_X3_refuse (5 : Int32) σ).bind (fun q19 => some (q19.1, q19.2))
set_option maxRecDepth 20000 in
set_option maxHeartbeats 4000000 in
theorem m_X3_copy (x1 : Int32) (x2 : Int32) (x3 : Int32) (x4 : Int32) (x5 : Int32)  (σ : fsS) (μ : fsL) (out : Int32 × fsS) (h : F_X3_copy x1 x2 x3 x4 x5 σ = some out) : fs_Met yX3_copy cX3_copy 6 (some .int) { frames := 1, cells := 0, slots := 0, locals := 26 } [.ref 0, .int x1, .int x2, .int x3, .int x4, .int x5] σ μ (some (.int out.1)) out.2 μ := by
  unfold F_X3_copy at h
  refine fs_intro (by decide +kernel) (Nat.le_of_ble_eq_true rfl) (fun X hX hR => ?_)
  show fs_PW X 0 [some (.ref 0), some (.int x1), some (.int x2), some (.int x3), some (.int x4), some (.int x5)] [] σ μ
  refine s_iload_n hX dX3_copy_0 rfl ?_
  refine s_callS hX (as := [.int x1]) dX3_copy_1 k_X3_59 v_X3_isRow (m_X3_isRow x1 σ μ _ rfl) ⟨rfl, rfl⟩ ⟨(Nat.le_of_ble_eq_true rfl), (Nat.le_of_ble_eq_true rfl)⟩ rfl rfl (Nat.le_of_ble_eq_true rfl) ?_
  refine s_if_eq hX 14 dX3_copy_4 (by decide) (fun c1 => ?_) (fun c1 => ?_)
  · have h := (if_pos c1).symm.trans h
    refine s_ic hX (-1 : Int32) dX3_copy_14 (by decide) ?_
    cases h
    exact s_iret hX hR dX3_copy_15
  · have h := (if_neg c1).symm.trans h
    refine s_iload_n hX dX3_copy_7 rfl ?_
    refine s_callS hX (as := [.int x3]) dX3_copy_8 k_X3_59 v_X3_isRow (m_X3_isRow x3 σ μ _ rfl) ⟨rfl, rfl⟩ ⟨(Nat.le_of_ble_eq_true rfl), (Nat.le_of_ble_eq_true rfl)⟩ rfl rfl (Nat.le_of_ble_eq_true rfl) ?_
    refine s_if_ne hX 16 dX3_copy_11 (by decide) (fun c2 => ?_) (fun c2 => ?_)
    · have h := (if_neg c2).symm.trans h
      refine s_iload hX dX3_copy_16 rfl ?_
      refine s_if_ge hX 27 dX3_copy_18 (by decide) (fun c3 => ?_) (fun c3 => ?_)
      · have h := (if_pos c3).symm.trans h
        refine s_aload_n hX dX3_copy_27 rfl ?_
        refine s_getr hX dX3_copy_28 f_X3_14 rfl ?_
        refine s_iload_n hX dX3_copy_31 rfl ?_
        obtain ⟨q4, e4, h⟩ := fs_bind h
        refine s_cV hX [.int x1] dX3_copy_32 k_X3_82 v_X2_has (m_X2_has 1 x1 fs_H1 σ μ q4 e4) (fs_H_is fs_H1) fs_c2 ⟨rfl, rfl⟩ ⟨(Nat.le_of_ble_eq_true rfl), (Nat.le_of_ble_eq_true rfl)⟩ rfl rfl (Nat.le_of_ble_eq_true rfl) ?_
        refine s_if_eq hX 49 dX3_copy_35 (by decide) (fun c5 => ?_) (fun c5 => ?_)
        · have h := (if_pos c5).symm.trans h
          refine s_aload_n hX dX3_copy_49 rfl ?_
          refine s_ic hX (1 : Int32) dX3_copy_50 (by decide) ?_
          obtain ⟨q6, e6, h⟩ := fs_bind h
          refine s_cV hX [.int (1 : Int32)] dX3_copy_51 k_X3_63 v_X3_refuse (m_X3_refuse (1 : Int32) σ μ q6 e6) ⟨_, rfl⟩ fs_c3 ⟨rfl, rfl⟩ ⟨(Nat.le_of_ble_eq_true rfl), (Nat.le_of_ble_eq_true rfl)⟩ rfl rfl (Nat.le_of_ble_eq_true rfl) ?_
          cases h
          exact s_iret hX hR dX3_copy_54
        · have h := (if_neg c5).symm.trans h
          refine s_aload_n hX dX3_copy_38 rfl ?_
          refine s_getr hX dX3_copy_39 f_X3_14 rfl ?_
          refine s_iload_n hX dX3_copy_42 rfl ?_
          obtain ⟨q7, e7, h⟩ := fs_bind h
          refine s_cV hX [.int x3] dX3_copy_43 k_X3_82 v_X2_has (m_X2_has 1 x3 fs_H1 σ μ q7 e7) (fs_H_is fs_H1) fs_c2 ⟨rfl, rfl⟩ ⟨(Nat.le_of_ble_eq_true rfl), (Nat.le_of_ble_eq_true rfl)⟩ rfl rfl (Nat.le_of_ble_eq_true rfl) ?_
          refine s_if_ne hX 55 dX3_copy_46 (by decide) (fun c8 => ?_) (fun c8 => ?_)
          · have h := (if_neg c8).symm.trans h
            refine s_aload_n hX dX3_copy_55 rfl ?_
            refine s_getr hX dX3_copy_56 f_X3_14 rfl ?_
            refine s_iload_n hX dX3_copy_59 rfl ?_
            refine s_iload_n hX dX3_copy_60 rfl ?_
            refine s_iload hX dX3_copy_61 rfl ?_
            obtain ⟨q9, e9, h⟩ := fs_bind h
            refine s_cV hX [.int x1, .int x2, .int x5] dX3_copy_63 k_X3_88 v_X2_reaches (m_X2_reaches 1 x1 x2 x5 fs_H1 σ μ q9 e9) (fs_H_is fs_H1) fs_c2 ⟨rfl, rfl⟩ ⟨(Nat.le_of_ble_eq_true rfl), (Nat.le_of_ble_eq_true rfl)⟩ rfl rfl (Nat.le_of_ble_eq_true rfl) ?_
            refine s_if_eq hX 84 dX3_copy_66 (by decide) (fun c10 => ?_) (fun c10 => ?_)
            · have h := (if_pos c10).symm.trans h
              refine s_aload_n hX dX3_copy_84 rfl ?_
              refine s_ic hX (2 : Int32) dX3_copy_85 (by decide) ?_
              obtain ⟨q11, e11, h⟩ := fs_bind h
              refine s_cV hX [.int (2 : Int32)] dX3_copy_86 k_X3_63 v_X3_refuse (m_X3_refuse (2 : Int32) σ μ q11 e11) ⟨_, rfl⟩ fs_c3 ⟨rfl, rfl⟩ ⟨(Nat.le_of_ble_eq_true rfl), (Nat.le_of_ble_eq_true rfl)⟩ rfl rfl (Nat.le_of_ble_eq_true rfl) ?_
              cases h
              exact s_iret hX hR dX3_copy_89
            · have h := (if_neg c10).symm.trans h
              refine s_aload_n hX dX3_copy_69 rfl ?_
              refine s_getr hX dX3_copy_70 f_X3_14 rfl ?_
              refine s_iload_n hX dX3_copy_73 rfl ?_
              refine s_iload hX dX3_copy_74 rfl ?_
              refine s_iload hX dX3_copy_76 rfl ?_
              obtain ⟨q12, e12, h⟩ := fs_bind h
              refine s_cV hX [.int x3, .int x4, .int x5] dX3_copy_78 k_X3_88 v_X2_reaches (m_X2_reaches 1 x3 x4 x5 fs_H1 σ μ q12 e12) (fs_H_is fs_H1) fs_c2 ⟨rfl, rfl⟩ ⟨(Nat.le_of_ble_eq_true rfl), (Nat.le_of_ble_eq_true rfl)⟩ rfl rfl (Nat.le_of_ble_eq_true rfl) ?_
              refine s_if_ne hX 90 dX3_copy_81 (by decide) (fun c13 => ?_) (fun c13 => ?_)
              · have h := (if_neg c13).symm.trans h
                refine s_aload_n hX dX3_copy_90 rfl ?_
                refine s_getr hX dX3_copy_91 f_X3_14 rfl ?_
                refine s_getr hX dX3_copy_94 f_X3_75 rfl ?_
                refine s_iload_n hX dX3_copy_97 rfl ?_
                obtain ⟨g14, h⟩ := fs_gd h
                refine s_aald hX dX3_copy_98 g14 ?_
                refine s_iload_n hX dX3_copy_99 rfl ?_
                refine s_aload_n hX dX3_copy_100 rfl ?_
                refine s_getr hX dX3_copy_101 f_X3_14 rfl ?_
                refine s_getr hX dX3_copy_104 f_X3_75 rfl ?_
                refine s_iload_n hX dX3_copy_107 rfl ?_
                obtain ⟨g15, h⟩ := fs_gd h
                refine s_aald hX dX3_copy_108 g15 ?_
                refine s_iload hX dX3_copy_109 rfl ?_
                refine s_iload hX dX3_copy_111 rfl ?_
                obtain ⟨g16, h⟩ := fs_gd h
                refine s_ac hX dX3_copy_113 k_X3_92 g16 rfl (Nat.le_of_ble_eq_true rfl) (Nat.le_of_ble_eq_true rfl) ?_
                refine s_ic hX (1 : Int32) dX3_copy_116 (by decide) ?_
                cases h
                exact s_iret hX hR dX3_copy_117
              · have h := (if_pos c13).symm.trans h
                refine s_aload_n hX dX3_copy_84 rfl ?_
                refine s_ic hX (2 : Int32) dX3_copy_85 (by decide) ?_
                obtain ⟨q17, e17, h⟩ := fs_bind h
                refine s_cV hX [.int (2 : Int32)] dX3_copy_86 k_X3_63 v_X3_refuse (m_X3_refuse (2 : Int32) σ μ q17 e17) ⟨_, rfl⟩ fs_c3 ⟨rfl, rfl⟩ ⟨(Nat.le_of_ble_eq_true rfl), (Nat.le_of_ble_eq_true rfl)⟩ rfl rfl (Nat.le_of_ble_eq_true rfl) ?_
                cases h
                exact s_iret hX hR dX3_copy_89
          · have h := (if_pos c8).symm.trans h
            refine s_aload_n hX dX3_copy_49 rfl ?_
            refine s_ic hX (1 : Int32) dX3_copy_50 (by decide) ?_
            obtain ⟨q18, e18, h⟩ := fs_bind h
            refine s_cV hX [.int (1 : Int32)] dX3_copy_51 k_X3_63 v_X3_refuse (m_X3_refuse (1 : Int32) σ μ q18 e18) ⟨_, rfl⟩ fs_c3 ⟨rfl, rfl⟩ ⟨(Nat.le_of_ble_eq_true rfl), (Nat.le_of_ble_eq_true rfl)⟩ rfl rfl (Nat.le_of_ble_eq_true rfl) ?_
            cases h
            exact s_iret hX hR dX3_copy_54
      · have h := (if_neg c3).symm.trans h
        refine s_aload_n hX dX3_copy_21 rfl ?_
        refine s_ic hX (5 : Int32) dX3_copy_22 (by decide) ?_
        obtain ⟨q19, e19, h⟩ := fs_bind h
        refine s_cV hX [.int (5 : Int32)] dX3_copy_23 k_X3_63 v_X3_refuse (m_X3_refuse (5 : Int32) σ μ q19 e19) ⟨_, rfl⟩ fs_c3 ⟨rfl, rfl⟩ ⟨(Nat.le_of_ble_eq_true rfl), (Nat.le_of_ble_eq_true rfl)⟩ rfl rfl (Nat.le_of_ble_eq_true rfl) ?_
        cases h
        exact s_iret hX hR dX3_copy_26
    · have h := (if_pos c2).symm.trans h
      refine s_ic hX (-1 : Int32) dX3_copy_14 (by decide) ?_
      cases h
      exact s_iret hX hR dX3_copy_15

-- X3_mean
def F_X3_mean (x1 : Int32) (σ : fsS) : Option (Int32 × fsS) := if (F_X3_isRow x1) = 0 then some ((-1 : Int32), σ) else (F_X2_has 1 x1 σ).bind (fun q2 => if q2 = 0 then (F_X3_refuse (1 : Int32) σ).bind (fun q9 => some (q9.1, q9.2)) else fs_g (fs_in x1 6) (if 0 < (σ 10 x1.toNatClampNeg) then (F_X2_sum 1 x1 σ).bind (fun q6 => fs_g (¬ ((σ 10 x1.toNatClampNeg).toInt64) = 0) (some ((F_X3_tell ((q6 / ((σ 10 x1.toNatClampNeg).toInt64)).toInt32) (1 : Int32) σ).1, (F_X3_tell ((q6 / ((σ 10 x1.toNatClampNeg).toInt64)).toInt32) (1 : Int32) σ).2))) else (F_X3_refuse (4 : Int32) σ).bind (fun q8 => some (q8.1, q8.2))))
set_option maxRecDepth 20000 in
set_option maxHeartbeats 4000000 in
theorem m_X3_mean (x1 : Int32)  (σ : fsS) (μ : fsL) (out : Int32 × fsS) (h : F_X3_mean x1 σ = some out) : fs_Met yX3_mean cX3_mean 3 (some .int) { frames := 1, cells := 0, slots := 0, locals := 24 } [.ref 0, .int x1] σ μ (some (.int out.1)) out.2 μ := by
  unfold F_X3_mean at h
  refine fs_intro (by decide +kernel) (Nat.le_of_ble_eq_true rfl) (fun X hX hR => ?_)
  show fs_PW X 0 [some (.ref 0), some (.int x1), none] [] σ μ
  refine s_iload_n hX dX3_mean_0 rfl ?_
  refine s_callS hX (as := [.int x1]) dX3_mean_1 k_X3_59 v_X3_isRow (m_X3_isRow x1 σ μ _ rfl) ⟨rfl, rfl⟩ ⟨(Nat.le_of_ble_eq_true rfl), (Nat.le_of_ble_eq_true rfl)⟩ rfl rfl (Nat.le_of_ble_eq_true rfl) ?_
  refine s_if_ne hX 9 dX3_mean_4 (by decide) (fun c1 => ?_) (fun c1 => ?_)
  · have h := (if_neg c1).symm.trans h
    refine s_aload_n hX dX3_mean_9 rfl ?_
    refine s_getr hX dX3_mean_10 f_X3_14 rfl ?_
    refine s_iload_n hX dX3_mean_13 rfl ?_
    obtain ⟨q2, e2, h⟩ := fs_bind h
    refine s_cV hX [.int x1] dX3_mean_14 k_X3_82 v_X2_has (m_X2_has 1 x1 fs_H1 σ μ q2 e2) (fs_H_is fs_H1) fs_c2 ⟨rfl, rfl⟩ ⟨(Nat.le_of_ble_eq_true rfl), (Nat.le_of_ble_eq_true rfl)⟩ rfl rfl (Nat.le_of_ble_eq_true rfl) ?_
    refine s_if_ne hX 26 dX3_mean_17 (by decide) (fun c3 => ?_) (fun c3 => ?_)
    · have h := (if_neg c3).symm.trans h
      refine s_aload_n hX dX3_mean_26 rfl ?_
      refine s_getr hX dX3_mean_27 f_X3_14 rfl ?_
      refine s_getr hX dX3_mean_30 f_X3_85 rfl ?_
      refine s_iload_n hX dX3_mean_33 rfl ?_
      obtain ⟨g4, h⟩ := fs_gd h
      refine s_iald hX dX3_mean_34 g4 ?_
      refine s_istore_n hX dX3_mean_35 (Nat.le_of_ble_eq_true rfl) ?_
      refine s_iload_n hX dX3_mean_36 rfl ?_
      refine s_if_gt hX 46 dX3_mean_37 (by decide) (fun c5 => ?_) (fun c5 => ?_)
      · have h := (if_pos c5).symm.trans h
        refine s_aload_n hX dX3_mean_46 rfl ?_
        refine s_aload_n hX dX3_mean_47 rfl ?_
        refine s_getr hX dX3_mean_48 f_X3_14 rfl ?_
        refine s_iload_n hX dX3_mean_51 rfl ?_
        obtain ⟨q6, e6, h⟩ := fs_bind h
        refine s_cV hX [.int x1] dX3_mean_52 k_X3_98 v_X2_sum (m_X2_sum 1 x1 fs_H1 σ μ q6 e6) (fs_H_is fs_H1) fs_c2 ⟨rfl, rfl⟩ ⟨(Nat.le_of_ble_eq_true rfl), (Nat.le_of_ble_eq_true rfl)⟩ rfl rfl (Nat.le_of_ble_eq_true rfl) ?_
        refine s_iload_n hX dX3_mean_55 rfl ?_
        refine s_i2l hX dX3_mean_56 ?_
        obtain ⟨g7, h⟩ := fs_gd h
        refine s_ldiv hX dX3_mean_57 g7 ?_
        refine s_l2i hX dX3_mean_58 ?_
        refine s_ic hX (1 : Int32) dX3_mean_59 (by decide) ?_
        refine s_cV hX [.int ((q6 / ((σ 10 x1.toNatClampNeg).toInt64)).toInt32), .int (1 : Int32)] dX3_mean_60 k_X3_79 v_X3_tell (m_X3_tell ((q6 / ((σ 10 x1.toNatClampNeg).toInt64)).toInt32) (1 : Int32) σ μ _ rfl) ⟨_, rfl⟩ fs_c3 ⟨rfl, rfl⟩ ⟨(Nat.le_of_ble_eq_true rfl), (Nat.le_of_ble_eq_true rfl)⟩ rfl rfl (Nat.le_of_ble_eq_true rfl) ?_
        cases h
        exact s_iret hX hR dX3_mean_63
      · have h := (if_neg c5).symm.trans h
        refine s_aload_n hX dX3_mean_40 rfl ?_
        refine s_ic hX (4 : Int32) dX3_mean_41 (by decide) ?_
        obtain ⟨q8, e8, h⟩ := fs_bind h
        refine s_cV hX [.int (4 : Int32)] dX3_mean_42 k_X3_63 v_X3_refuse (m_X3_refuse (4 : Int32) σ μ q8 e8) ⟨_, rfl⟩ fs_c3 ⟨rfl, rfl⟩ ⟨(Nat.le_of_ble_eq_true rfl), (Nat.le_of_ble_eq_true rfl)⟩ rfl rfl (Nat.le_of_ble_eq_true rfl) ?_
        cases h
        exact s_iret hX hR dX3_mean_45
    · have h := (if_pos c3).symm.trans h
      refine s_aload_n hX dX3_mean_20 rfl ?_
      refine s_ic hX (1 : Int32) dX3_mean_21 (by decide) ?_
      obtain ⟨q9, e9, h⟩ := fs_bind h
      refine s_cV hX [.int (1 : Int32)] dX3_mean_22 k_X3_63 v_X3_refuse (m_X3_refuse (1 : Int32) σ μ q9 e9) ⟨_, rfl⟩ fs_c3 ⟨rfl, rfl⟩ ⟨(Nat.le_of_ble_eq_true rfl), (Nat.le_of_ble_eq_true rfl)⟩ rfl rfl (Nat.le_of_ble_eq_true rfl) ?_
      cases h
      exact s_iret hX hR dX3_mean_25
  · have h := (if_pos c1).symm.trans h
    refine s_ic hX (-1 : Int32) dX3_mean_7 (by decide) ?_
    cases h
    exact s_iret hX hR dX3_mean_8
