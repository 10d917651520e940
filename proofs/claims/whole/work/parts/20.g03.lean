-- X1_isOf
def F_X1_isOf (x0 : Int32) (x1 : Int32) : Int32 := if x0 = x1 then (1 : Int32) else if (F_X1_kindAbove x0) = x1 then (1 : Int32) else (0 : Int32)
theorem z_X1_isOf (x0 : Int32) (x1 : Int32) : F_X1_isOf x0 x1 = 0 ∨ F_X1_isOf x0 x1 = 1 := by
  unfold F_X1_isOf
  (repeat' split) <;> first | exact Or.inl rfl | exact Or.inr rfl
set_option maxRecDepth 20000 in
set_option maxHeartbeats 40000000 in
theorem m_X1_isOf (x0 : Int32) (x1 : Int32)  (σ : fsS) (μ : fsL) (out : Int32) (h : F_X1_isOf x0 x1 = out) : fs_Met yX1_isOf cX1_isOf 2 (some .boolean) { frames := 1, cells := 0, slots := 0, locals := 20 } [.int x0, .int x1] σ μ (some (.int out)) σ μ := by
  unfold F_X1_isOf at h
  refine fs_intro (by decide +kernel) (Nat.le_of_ble_eq_true rfl) (fun X hX hR => ?_)
  show fs_PW X 0 [some (.int x0), some (.int x1)] [] σ μ
  refine s_iload_n hX dX1_isOf_0 rfl ?_
  refine s_iload_n hX dX1_isOf_1 rfl ?_
  refine s_ic_eq hX 13 dX1_isOf_2 (by decide) (fun c1 => ?_) (fun c1 => ?_)
  · have h := (if_pos c1).symm.trans h
    refine s_ic hX (1 : Int32) dX1_isOf_13 (by decide) ?_
    refine s_goto hX 18 dX1_isOf_14 (by decide) ?_
    subst h
    exact s_zret hX (Or.inr rfl) hR dX1_isOf_18
  · have h := (if_neg c1).symm.trans h
    refine s_iload_n hX dX1_isOf_5 rfl ?_
    refine s_callS hX (as := [.int x0]) dX1_isOf_6 k_X1_57 v_X1_kindAbove (m_X1_kindAbove x0 σ μ _ rfl) ⟨rfl, rfl⟩ ⟨(Nat.le_of_ble_eq_true rfl), (Nat.le_of_ble_eq_true rfl)⟩ rfl rfl (Nat.le_of_ble_eq_true rfl) ?_
    refine s_iload_n hX dX1_isOf_9 rfl ?_
    refine s_ic_ne hX 17 dX1_isOf_10 (by decide) (fun c2 => ?_) (fun c2 => ?_)
    · have h := (if_neg c2).symm.trans h
      refine s_ic hX (0 : Int32) dX1_isOf_17 (by decide) ?_
      subst h
      exact s_zret hX (Or.inl rfl) hR dX1_isOf_18
    · have h := (if_pos c2).symm.trans h
      refine s_ic hX (1 : Int32) dX1_isOf_13 (by decide) ?_
      refine s_goto hX 18 dX1_isOf_14 (by decide) ?_
      subst h
      exact s_zret hX (Or.inr rfl) hR dX1_isOf_18

-- X1_regardAs
def F_X1_regardAs (o : Nat) (x1 : Int32) (x2 : Int32) (σ : fsS) : Option (Int32) := fs_g (fs_in x1 6) (fs_g (fs_in x1 6) (fs_g (fs_in x1 6) (some (F_X1_regardOf x2 (σ (7 * o - 14 + 1) x1.toNatClampNeg) (σ (7 * o - 14 + 4) x1.toNatClampNeg) (σ (7 * o - 14 + 3) x1.toNatClampNeg)))))
set_option maxRecDepth 20000 in
set_option maxHeartbeats 40000000 in
theorem m_X1_regardAs (o : Nat) (x1 : Int32) (x2 : Int32) (ho : fs_K o) (σ : fsS) (μ : fsL) (out : Int32) (h : F_X1_regardAs o x1 x2 σ = some out) : fs_Met yX1_regardAs cX1_regardAs 3 (some .int) { frames := 1, cells := 0, slots := 0, locals := 26 } [.ref o, .int x1, .int x2] σ μ (some (.int out)) σ μ := by
  unfold F_X1_regardAs at h
  refine fs_intro (by decide +kernel) (Nat.le_of_ble_eq_true rfl) (fun X hX hR => ?_)
  show fs_PW X 0 [some (.ref o), some (.int x1), some (.int x2)] [] σ μ
  refine s_iload_n hX dX1_regardAs_0 rfl ?_
  refine s_aload_n hX dX1_regardAs_1 rfl ?_
  refine s_getr hX dX1_regardAs_2 f_X1_19 (fs_kd2 ho) ?_
  refine s_iload_n hX dX1_regardAs_5 rfl ?_
  obtain ⟨g1, h⟩ := fs_gd h
  refine s_iald hX dX1_regardAs_6 (fs_ik1 ho g1) ?_
  refine s_aload_n hX dX1_regardAs_7 rfl ?_
  refine s_getr hX dX1_regardAs_8 f_X1_28 (fs_kd5 ho) ?_
  refine s_iload_n hX dX1_regardAs_11 rfl ?_
  obtain ⟨g2, h⟩ := fs_gd h
  refine s_iald hX dX1_regardAs_12 (fs_ik4 ho g2) ?_
  refine s_aload_n hX dX1_regardAs_13 rfl ?_
  refine s_getr hX dX1_regardAs_14 f_X1_25 (fs_kd4 ho) ?_
  refine s_iload_n hX dX1_regardAs_17 rfl ?_
  obtain ⟨g3, h⟩ := fs_gd h
  refine s_iald hX dX1_regardAs_18 (fs_ik3 ho g3) ?_
  refine s_callS hX (as := [.int x2, .int (σ (7 * o - 14 + 1) x1.toNatClampNeg), .int (σ (7 * o - 14 + 4) x1.toNatClampNeg), .int (σ (7 * o - 14 + 3) x1.toNatClampNeg)]) dX1_regardAs_19 k_X1_60 v_X1_regardOf (m_X1_regardOf x2 (σ (7 * o - 14 + 1) x1.toNatClampNeg) (σ (7 * o - 14 + 4) x1.toNatClampNeg) (σ (7 * o - 14 + 3) x1.toNatClampNeg) σ μ _ rfl) ⟨rfl, rfl⟩ ⟨(Nat.le_of_ble_eq_true rfl), (Nat.le_of_ble_eq_true rfl)⟩ rfl rfl (Nat.le_of_ble_eq_true rfl) ?_
  cases h
  exact s_iret hX hR dX1_regardAs_22

-- X1_passAll
def L_X1_passAll_4 (o : Nat) : Nat → Int32 → Int32 → Int32 → fsS → Option (Int32 × fsS)
  | 0, _, _, _, _ => none
  | n0 + 1, y1, y2, y3, σ => if y1 ≤ y3 then some (y2, σ) else (F_X1_pass o σ).bind (fun q2 => L_X1_passAll_4 o n0 y1 (y2 + (q2.2 o 9)) (y3 + (1 : Int32)) q2.2)
def F_X1_passAll (o : Nat) (x1 : Int32) (σ : fsS) : Option (Int32 × fsS) := (L_X1_passAll_4 o fs_fu x1 (0 : Int32) (0 : Int32) σ).bind (fun q3 => some (q3.1, q3.2))
set_option maxRecDepth 20000 in
set_option maxHeartbeats 40000000 in
theorem l_X1_passAll_4 {o : Nat} (ho : fs_K o) {X : fsC} (hX : fs_ok cX1_passAll RX1 4 { frames := 3, cells := 0, slots := 0, locals := 70 } X) : ∀ (n : Nat) (y1 : Int32) (y2 : Int32) (y3 : Int32) (σ : fsS) (μ : fsL) (out : Int32 × fsS) (_ : L_X1_passAll_4 o n y1 y2 y3 σ = some out) (k0 : fs_PW X 27 [none, none, some (.int out.1), none] [] out.2 μ), fs_PW X 4 [some (.ref o), some (.int y1), some (.int y2), some (.int y3)] [] σ μ := by
  intro n
  induction n with
  | zero =>
    intro y1 y2 y3 σ μ out h
    cases (show (none : Option (Int32 × fsS)) = some out from h)
  | succ n0 ih =>
    intro y1 y2 y3 σ μ out h k0
    unfold L_X1_passAll_4 at h
    refine s_iload_n hX dX1_passAll_4 rfl ?_
    refine s_iload_n hX dX1_passAll_5 rfl ?_
    refine s_ic_ge hX 27 dX1_passAll_6 (by decide) (fun c1 => ?_) (fun c1 => ?_)
    · have h := (if_pos c1).symm.trans h
      cases h
      refine fs_ma [false, false, true, false] ?_
      exact k0
    · have h := (if_neg c1).symm.trans h
      refine s_aload_n hX dX1_passAll_9 rfl ?_
      obtain ⟨q2, e2, h⟩ := fs_bind h
      refine s_cV hX [] dX1_passAll_10 k_X1_76 v_X1_pass (m_X1_pass o ho σ μ q2 e2) (fs_K_is ho) fs_c1 ⟨rfl, rfl⟩ ⟨(Nat.le_of_ble_eq_true rfl), (Nat.le_of_ble_eq_true rfl)⟩ rfl rfl (Nat.le_of_ble_eq_true rfl) ?_
      refine s_pop hX dX1_passAll_13 rfl ?_
      refine s_iload_n hX dX1_passAll_14 rfl ?_
      refine s_aload_n hX dX1_passAll_15 rfl ?_
      refine s_geti hX dX1_passAll_16 f_X1_40 (fs_kd9 ho) ?_
      refine s_iadd hX dX1_passAll_19 ?_
      refine s_istore_n hX dX1_passAll_20 (Nat.le_of_ble_eq_true rfl) ?_
      refine s_iinc hX (y3 + (1 : Int32)) dX1_passAll_21 rfl rfl (Nat.le_of_ble_eq_true rfl) ?_
      refine s_goto hX 4 dX1_passAll_24 (by decide) ?_
      refine fs_ma [true, true, true, true] ?_
      exact ih y1 (y2 + (q2.2 o 9)) (y3 + (1 : Int32)) q2.2 μ out h k0
set_option maxRecDepth 20000 in
set_option maxHeartbeats 40000000 in
theorem m_X1_passAll (o : Nat) (x1 : Int32) (ho : fs_K o) (σ : fsS) (μ : fsL) (out : Int32 × fsS) (h : F_X1_passAll o x1 σ = some out) : fs_Met yX1_passAll cX1_passAll 4 (some .int) { frames := 3, cells := 0, slots := 0, locals := 70 } [.ref o, .int x1] σ μ (some (.int out.1)) out.2 μ := by
  unfold F_X1_passAll at h
  refine fs_intro (by decide +kernel) (Nat.le_of_ble_eq_true rfl) (fun X hX hR => ?_)
  show fs_PW X 0 [some (.ref o), some (.int x1), none, none] [] σ μ
  refine s_ic hX (0 : Int32) dX1_passAll_0 (by decide) ?_
  refine s_istore_n hX dX1_passAll_1 (Nat.le_of_ble_eq_true rfl) ?_
  refine s_ic hX (0 : Int32) dX1_passAll_2 (by decide) ?_
  refine s_istore_n hX dX1_passAll_3 (Nat.le_of_ble_eq_true rfl) ?_
  obtain ⟨q3, e3, h⟩ := fs_bind h
  refine fs_ma [true, true, true, true] ?_
  refine l_X1_passAll_4 ho hX fs_fu x1 (0 : Int32) (0 : Int32) σ μ q3 e3 ?_
  refine s_iload_n hX dX1_passAll_27 rfl ?_
  cases h
  exact s_iret hX hR dX1_passAll_28

-- X1_regardedUnless
def F_X1_regardedUnless (o : Nat) (x1 : Int32) (x2 : Int32) (σ : fsS) : Option (Int32) := if ((x1 >>> (x2 &&& 31)) &&& (1 : Int32)) = 0 then fs_g (fs_in x2 6) (some (σ (7 * o - 14 + 5) x2.toNatClampNeg)) else some (0 : Int32)
set_option maxRecDepth 20000 in
set_option maxHeartbeats 40000000 in
theorem m_X1_regardedUnless (o : Nat) (x1 : Int32) (x2 : Int32) (ho : fs_K o) (σ : fsS) (μ : fsL) (out : Int32) (h : F_X1_regardedUnless o x1 x2 σ = some out) : fs_Met yX1_regardedUnless cX1_regardedUnless 3 (some .int) { frames := 0, cells := 0, slots := 0, locals := 0 } [.ref o, .int x1, .int x2] σ μ (some (.int out)) σ μ := by
  unfold F_X1_regardedUnless at h
  refine fs_intro (by decide +kernel) (Nat.le_of_ble_eq_true rfl) (fun X hX hR => ?_)
  show fs_PW X 0 [some (.ref o), some (.int x1), some (.int x2)] [] σ μ
  refine s_iload_n hX dX1_regardedUnless_0 rfl ?_
  refine s_iload_n hX dX1_regardedUnless_1 rfl ?_
  refine s_ishr hX dX1_regardedUnless_2 ?_
  refine s_ic hX (1 : Int32) dX1_regardedUnless_3 (by decide) ?_
  refine s_iand hX dX1_regardedUnless_4 ?_
  refine s_if_eq hX 12 dX1_regardedUnless_5 (by decide) (fun c1 => ?_) (fun c1 => ?_)
  · have h := (if_pos c1).symm.trans h
    refine s_aload_n hX dX1_regardedUnless_12 rfl ?_
    refine s_getr hX dX1_regardedUnless_13 f_X1_31 (fs_kd6 ho) ?_
    refine s_iload_n hX dX1_regardedUnless_16 rfl ?_
    obtain ⟨g2, h⟩ := fs_gd h
    refine s_iald hX dX1_regardedUnless_17 (fs_ik5 ho g2) ?_
    cases h
    exact s_iret hX hR dX1_regardedUnless_18
  · have h := (if_neg c1).symm.trans h
    refine s_ic hX (0 : Int32) dX1_regardedUnless_8 (by decide) ?_
    refine s_goto hX 18 dX1_regardedUnless_9 (by decide) ?_
    cases h
    exact s_iret hX hR dX1_regardedUnless_18

-- X1_paidUnless
def L_X1_paidUnless_5 (o : Nat) : Nat → Int32 → Int32 → Int32 → Int32 → fsS → Option (Int32)
  | 0, _, _, _, _, _ => none
  | n0 + 1, y1, y2, y3, y4, σ => if (σ o 0) ≤ y4 then some y3 else (F_X1_regardedUnless o y1 y4 σ).bind (fun q2 => L_X1_paidUnless_5 o n0 y1 y2 (if y3 < q2 then q2 else y3) (y4 + (1 : Int32)) σ)
def F_X1_paidUnless (o : Nat) (x1 : Int32) (x2 : Int32) (σ : fsS) : Option (Int32) := (L_X1_paidUnless_5 o fs_fu x1 x2 (0 : Int32) (0 : Int32) σ).bind (fun q3 => (F_X1_regardedUnless o x1 x2 σ).bind (fun q4 => some (q3 - q4)))
set_option maxRecDepth 20000 in
set_option maxHeartbeats 40000000 in
theorem l_X1_paidUnless_5 {o : Nat} (ho : fs_K o) {X : fsC} (hX : fs_ok cX1_paidUnless RX1 5 { frames := 1, cells := 0, slots := 0, locals := 22 } X) : ∀ (n : Nat) (y1 : Int32) (y2 : Int32) (y3 : Int32) (y4 : Int32) (σ : fsS) (μ : fsL) (out : Int32) (_ : L_X1_paidUnless_5 o n y1 y2 y3 y4 σ = some out) (k0 : fs_PW X 32 [some (.ref o), some (.int y1), some (.int y2), some (.int out), none] [] σ μ), fs_PW X 5 [some (.ref o), some (.int y1), some (.int y2), some (.int y3), some (.int y4)] [] σ μ := by
  intro n
  induction n with
  | zero =>
    intro y1 y2 y3 y4 σ μ out h
    cases (show (none : Option (Int32)) = some out from h)
  | succ n0 ih =>
    intro y1 y2 y3 y4 σ μ out h k0
    unfold L_X1_paidUnless_5 at h
    refine s_iload hX dX1_paidUnless_5 rfl ?_
    refine s_aload_n hX dX1_paidUnless_7 rfl ?_
    refine s_geti hX dX1_paidUnless_8 f_X1_9 (fs_kd0 ho) ?_
    refine s_ic_ge hX 32 dX1_paidUnless_11 (by decide) (fun c1 => ?_) (fun c1 => ?_)
    · have h := (if_pos c1).symm.trans h
      cases h
      refine fs_ma [true, true, true, true, false] ?_
      exact k0
    · have h := (if_neg c1).symm.trans h
      refine s_iload_n hX dX1_paidUnless_14 rfl ?_
      refine s_aload_n hX dX1_paidUnless_15 rfl ?_
      refine s_iload_n hX dX1_paidUnless_16 rfl ?_
      refine s_iload hX dX1_paidUnless_17 rfl ?_
      obtain ⟨q2, e2, h⟩ := fs_bind h
      refine s_cV hX [.int y1, .int y4] dX1_paidUnless_19 k_X1_80 v_X1_regardedUnless (m_X1_regardedUnless o y1 y4 ho σ μ q2 e2) (fs_K_is ho) fs_c1 ⟨rfl, rfl⟩ ⟨(Nat.le_of_ble_eq_true rfl), (Nat.le_of_ble_eq_true rfl)⟩ rfl rfl (Nat.le_of_ble_eq_true rfl) ?_
      refine s_mmax hX dX1_paidUnless_22 k_X1_73 rfl (Nat.le_of_ble_eq_true rfl) (Nat.le_of_ble_eq_true rfl) ?_
      refine s_istore_n hX dX1_paidUnless_25 (Nat.le_of_ble_eq_true rfl) ?_
      refine s_iinc hX (y4 + (1 : Int32)) dX1_paidUnless_26 rfl rfl (Nat.le_of_ble_eq_true rfl) ?_
      refine s_goto hX 5 dX1_paidUnless_29 (by decide) ?_
      refine fs_ma [true, true, true, true, true] ?_
      exact ih y1 y2 (if y3 < q2 then q2 else y3) (y4 + (1 : Int32)) σ μ out h k0
set_option maxRecDepth 20000 in
set_option maxHeartbeats 40000000 in
theorem m_X1_paidUnless (o : Nat) (x1 : Int32) (x2 : Int32) (ho : fs_K o) (σ : fsS) (μ : fsL) (out : Int32) (h : F_X1_paidUnless o x1 x2 σ = some out) : fs_Met yX1_paidUnless cX1_paidUnless 5 (some .int) { frames := 1, cells := 0, slots := 0, locals := 22 } [.ref o, .int x1, .int x2] σ μ (some (.int out)) σ μ := by
  unfold F_X1_paidUnless at h
  refine fs_intro (by decide +kernel) (Nat.le_of_ble_eq_true rfl) (fun X hX hR => ?_)
  show fs_PW X 0 [some (.ref o), some (.int x1), some (.int x2), none, none] [] σ μ
  refine s_ic hX (0 : Int32) dX1_paidUnless_0 (by decide) ?_
  refine s_istore_n hX dX1_paidUnless_1 (Nat.le_of_ble_eq_true rfl) ?_
  refine s_ic hX (0 : Int32) dX1_paidUnless_2 (by decide) ?_
  refine s_istore hX dX1_paidUnless_3 (Nat.le_of_ble_eq_true rfl) ?_
  obtain ⟨q3, e3, h⟩ := fs_bind h
  refine fs_ma [true, true, true, true, true] ?_
  refine l_X1_paidUnless_5 ho hX fs_fu x1 x2 (0 : Int32) (0 : Int32) σ μ q3 e3 ?_
  refine s_iload_n hX dX1_paidUnless_32 rfl ?_
  refine s_aload_n hX dX1_paidUnless_33 rfl ?_
  refine s_iload_n hX dX1_paidUnless_34 rfl ?_
  refine s_iload_n hX dX1_paidUnless_35 rfl ?_
  obtain ⟨q4, e4, h⟩ := fs_bind h
  refine s_cV hX [.int x1, .int x2] dX1_paidUnless_36 k_X1_80 v_X1_regardedUnless (m_X1_regardedUnless o x1 x2 ho σ μ q4 e4) (fs_K_is ho) fs_c1 ⟨rfl, rfl⟩ ⟨(Nat.le_of_ble_eq_true rfl), (Nat.le_of_ble_eq_true rfl)⟩ rfl rfl (Nat.le_of_ble_eq_true rfl) ?_
  refine s_isub hX dX1_paidUnless_39 ?_
  cases h
  exact s_iret hX hR dX1_paidUnless_40

-- X1_firstWith
def L_X1_firstWith_2 (o : Nat) : Nat → Int32 → Int32 → fsS → Option (Nat × Int32)
  | 0, _, _, _ => none
  | n0 + 1, y1, y2, σ => if (σ o 0) ≤ y2 then some (1, (0 : Int32)) else fs_g (fs_in y2 6) (if (σ (7 * o - 14 + 3) y2.toNatClampNeg) < y1 then L_X1_firstWith_2 o n0 y1 (y2 + (1 : Int32)) σ else some (0, y2))
def F_X1_firstWith (o : Nat) (x1 : Int32) (σ : fsS) : Option (Int32) := (L_X1_firstWith_2 o fs_fu x1 (0 : Int32) σ).bind (fun q4 => if q4.1 = 0 then some q4.2 else some (-9 : Int32))
set_option maxRecDepth 20000 in
set_option maxHeartbeats 40000000 in
theorem l_X1_firstWith_2 {o : Nat} (ho : fs_K o) {X : fsC} (hX : fs_ok cX1_firstWith RX1 3 { frames := 0, cells := 0, slots := 0, locals := 0 } X) : ∀ (n : Nat) (y1 : Int32) (y2 : Int32) (σ : fsS) (μ : fsL) (out : Nat × Int32) (_ : L_X1_firstWith_2 o n y1 y2 σ = some out) (k0 : out.1 = 0 → fs_PW X 20 [none, none, some (.int out.2)] [] σ μ) (k1 : out.1 = 1 → fs_PW X 28 [none, none, none] [] σ μ), fs_PW X 2 [some (.ref o), some (.int y1), some (.int y2)] [] σ μ := by
  intro n
  induction n with
  | zero =>
    intro y1 y2 σ μ out h
    cases (show (none : Option (Nat × Int32)) = some out from h)
  | succ n0 ih =>
    intro y1 y2 σ μ out h k0 k1
    unfold L_X1_firstWith_2 at h
    refine s_iload_n hX dX1_firstWith_2 rfl ?_
    refine s_aload_n hX dX1_firstWith_3 rfl ?_
    refine s_geti hX dX1_firstWith_4 f_X1_9 (fs_kd0 ho) ?_
    refine s_ic_ge hX 28 dX1_firstWith_7 (by decide) (fun c1 => ?_) (fun c1 => ?_)
    · have h := (if_pos c1).symm.trans h
      cases h
      refine fs_ma [false, false, false] ?_
      exact k1 rfl
    · have h := (if_neg c1).symm.trans h
      refine s_aload_n hX dX1_firstWith_10 rfl ?_
      refine s_getr hX dX1_firstWith_11 f_X1_25 (fs_kd4 ho) ?_
      refine s_iload_n hX dX1_firstWith_14 rfl ?_
      obtain ⟨g2, h⟩ := fs_gd h
      refine s_iald hX dX1_firstWith_15 (fs_ik3 ho g2) ?_
      refine s_iload_n hX dX1_firstWith_16 rfl ?_
      refine s_ic_lt hX 22 dX1_firstWith_17 (by decide) (fun c3 => ?_) (fun c3 => ?_)
      · have h := (if_pos c3).symm.trans h
        refine s_iinc hX (y2 + (1 : Int32)) dX1_firstWith_22 rfl rfl (Nat.le_of_ble_eq_true rfl) ?_
        refine s_goto hX 2 dX1_firstWith_25 (by decide) ?_
        refine fs_ma [true, true, true] ?_
        exact ih y1 (y2 + (1 : Int32)) σ μ out h k0 k1
      · have h := (if_neg c3).symm.trans h
        cases h
        refine fs_ma [false, false, true] ?_
        exact k0 rfl
set_option maxRecDepth 20000 in
set_option maxHeartbeats 40000000 in
theorem m_X1_firstWith (o : Nat) (x1 : Int32) (ho : fs_K o) (σ : fsS) (μ : fsL) (out : Int32) (h : F_X1_firstWith o x1 σ = some out) : fs_Met yX1_firstWith cX1_firstWith 3 (some .int) { frames := 0, cells := 0, slots := 0, locals := 0 } [.ref o, .int x1] σ μ (some (.int out)) σ μ := by
  unfold F_X1_firstWith at h
  refine fs_intro (by decide +kernel) (Nat.le_of_ble_eq_true rfl) (fun X hX hR => ?_)
  show fs_PW X 0 [some (.ref o), some (.int x1), none] [] σ μ
  refine s_ic hX (0 : Int32) dX1_firstWith_0 (by decide) ?_
  refine s_istore_n hX dX1_firstWith_1 (Nat.le_of_ble_eq_true rfl) ?_
  obtain ⟨q4, e4, h⟩ := fs_bind h
  refine fs_ma [true, true, true] ?_
  refine l_X1_firstWith_2 ho hX fs_fu x1 (0 : Int32) σ μ q4 e4 (fun c5 => ?_) (fun c5 => ?_)
  · have h := (if_pos c5).symm.trans h
    refine s_iload_n hX dX1_firstWith_20 rfl ?_
    cases h
    exact s_iret hX hR dX1_firstWith_21
  · have h := (if_neg (show ¬ q4.1 = 0 by rw [c5]; decide)).symm.trans h
    refine s_bi hX (-9 : Int32) dX1_firstWith_28 (by decide) ?_
    cases h
    exact s_iret hX hR dX1_firstWith_30

-- X1_highestRegard
def F_X1_highestRegard (o : Nat) (σ : fsS) : Option (Int32 × fsS) := (F_X1_weigh o σ).bind (fun q1 => if (q1 o 0) = 0 then some ((0 : Int32), q1) else fs_g (fs_in (q1 o 8) 6) (some ((q1 (7 * o - 14 + 5) (q1 o 8).toNatClampNeg), q1)))
set_option maxRecDepth 20000 in
set_option maxHeartbeats 40000000 in
theorem m_X1_highestRegard (o : Nat) (ho : fs_K o) (σ : fsS) (μ : fsL) (out : Int32 × fsS) (h : F_X1_highestRegard o σ = some out) : fs_Met yX1_highestRegard cX1_highestRegard 1 (some .int) { frames := 2, cells := 0, slots := 0, locals := 47 } [.ref o] σ μ (some (.int out.1)) out.2 μ := by
  unfold F_X1_highestRegard at h
  refine fs_intro (by decide +kernel) (Nat.le_of_ble_eq_true rfl) (fun X hX hR => ?_)
  show fs_PW X 0 [some (.ref o)] [] σ μ
  refine s_aload_n hX dX1_highestRegard_0 rfl ?_
  obtain ⟨q1, e1, h⟩ := fs_bind h
  refine s_cV hX [] dX1_highestRegard_1 k_X1_64 v_X1_weigh (m_X1_weigh o ho σ μ q1 e1) (fs_K_is ho) fs_c1 ⟨rfl, rfl⟩ ⟨(Nat.le_of_ble_eq_true rfl), (Nat.le_of_ble_eq_true rfl)⟩ rfl rfl (Nat.le_of_ble_eq_true rfl) ?_
  refine s_aload_n hX dX1_highestRegard_4 rfl ?_
  refine s_geti hX dX1_highestRegard_5 f_X1_9 (fs_kd0 ho) ?_
  refine s_if_ne hX 15 dX1_highestRegard_8 (by decide) (fun c2 => ?_) (fun c2 => ?_)
  · have h := (if_neg c2).symm.trans h
    refine s_aload_n hX dX1_highestRegard_15 rfl ?_
    refine s_getr hX dX1_highestRegard_16 f_X1_31 (fs_kd6 ho) ?_
    refine s_aload_n hX dX1_highestRegard_19 rfl ?_
    refine s_geti hX dX1_highestRegard_20 f_X1_37 (fs_kd8 ho) ?_
    obtain ⟨g3, h⟩ := fs_gd h
    refine s_iald hX dX1_highestRegard_23 (fs_ik5 ho g3) ?_
    cases h
    exact s_iret hX hR dX1_highestRegard_24
  · have h := (if_pos c2).symm.trans h
    refine s_ic hX (0 : Int32) dX1_highestRegard_11 (by decide) ?_
    refine s_goto hX 24 dX1_highestRegard_12 (by decide) ?_
    cases h
    exact s_iret hX hR dX1_highestRegard_24

-- X1_allPurses
def L_X1_allPurses_4 (o : Nat) : Nat → Int32 → Int32 → fsS → Option (Int32)
  | 0, _, _, _ => none
  | n0 + 1, y1, y2, σ => if (σ o 0) ≤ y2 then some y1 else fs_g (fs_in y2 6) (L_X1_allPurses_4 o n0 (y1 + (σ (7 * o - 14 + 3) y2.toNatClampNeg)) (y2 + (1 : Int32)) σ)
def F_X1_allPurses (o : Nat) (σ : fsS) : Option (Int32) := (L_X1_allPurses_4 o fs_fu (0 : Int32) (0 : Int32) σ).bind (fun q3 => some q3)
set_option maxRecDepth 20000 in
set_option maxHeartbeats 40000000 in
theorem l_X1_allPurses_4 {o : Nat} (ho : fs_K o) {X : fsC} (hX : fs_ok cX1_allPurses RX1 3 { frames := 0, cells := 0, slots := 0, locals := 0 } X) : ∀ (n : Nat) (y1 : Int32) (y2 : Int32) (σ : fsS) (μ : fsL) (out : Int32) (_ : L_X1_allPurses_4 o n y1 y2 σ = some out) (k0 : fs_PW X 27 [none, some (.int out), none] [] σ μ), fs_PW X 4 [some (.ref o), some (.int y1), some (.int y2)] [] σ μ := by
  intro n
  induction n with
  | zero =>
    intro y1 y2 σ μ out h
    cases (show (none : Option (Int32)) = some out from h)
  | succ n0 ih =>
    intro y1 y2 σ μ out h k0
    unfold L_X1_allPurses_4 at h
    refine s_iload_n hX dX1_allPurses_4 rfl ?_
    refine s_aload_n hX dX1_allPurses_5 rfl ?_
    refine s_geti hX dX1_allPurses_6 f_X1_9 (fs_kd0 ho) ?_
    refine s_ic_ge hX 27 dX1_allPurses_9 (by decide) (fun c1 => ?_) (fun c1 => ?_)
    · have h := (if_pos c1).symm.trans h
      cases h
      refine fs_ma [false, true, false] ?_
      exact k0
    · have h := (if_neg c1).symm.trans h
      refine s_iload_n hX dX1_allPurses_12 rfl ?_
      refine s_aload_n hX dX1_allPurses_13 rfl ?_
      refine s_getr hX dX1_allPurses_14 f_X1_25 (fs_kd4 ho) ?_
      refine s_iload_n hX dX1_allPurses_17 rfl ?_
      obtain ⟨g2, h⟩ := fs_gd h
      refine s_iald hX dX1_allPurses_18 (fs_ik3 ho g2) ?_
      refine s_iadd hX dX1_allPurses_19 ?_
      refine s_istore_n hX dX1_allPurses_20 (Nat.le_of_ble_eq_true rfl) ?_
      refine s_iinc hX (y2 + (1 : Int32)) dX1_allPurses_21 rfl rfl (Nat.le_of_ble_eq_true rfl) ?_
      refine s_goto hX 4 dX1_allPurses_24 (by decide) ?_
      refine fs_ma [true, true, true] ?_
      exact ih (y1 + (σ (7 * o - 14 + 3) y2.toNatClampNeg)) (y2 + (1 : Int32)) σ μ out h k0
set_option maxRecDepth 20000 in
set_option maxHeartbeats 40000000 in
theorem m_X1_allPurses (o : Nat) (ho : fs_K o) (σ : fsS) (μ : fsL) (out : Int32) (h : F_X1_allPurses o σ = some out) : fs_Met yX1_allPurses cX1_allPurses 3 (some .int) { frames := 0, cells := 0, slots := 0, locals := 0 } [.ref o] σ μ (some (.int out)) σ μ := by
  unfold F_X1_allPurses at h
  refine fs_intro (by decide +kernel) (Nat.le_of_ble_eq_true rfl) (fun X hX hR => ?_)
  show fs_PW X 0 [some (.ref o), none, none] [] σ μ
  refine s_ic hX (0 : Int32) dX1_allPurses_0 (by decide) ?_
  refine s_istore_n hX dX1_allPurses_1 (Nat.le_of_ble_eq_true rfl) ?_
  refine s_ic hX (0 : Int32) dX1_allPurses_2 (by decide) ?_
  refine s_istore_n hX dX1_allPurses_3 (Nat.le_of_ble_eq_true rfl) ?_
  obtain ⟨q3, e3, h⟩ := fs_bind h
  refine fs_ma [true, true, true] ?_
  refine l_X1_allPurses_4 ho hX fs_fu (0 : Int32) (0 : Int32) σ μ q3 e3 ?_
  refine s_iload_n hX dX1_allPurses_27 rfl ?_
  cases h
  exact s_iret hX hR dX1_allPurses_28

-- X1_allSooted
def L_X1_allSooted_4 (o : Nat) : Nat → Int32 → Int32 → fsS → Option (Int32)
  | 0, _, _, _ => none
  | n0 + 1, y1, y2, σ => if (σ o 0) ≤ y2 then some y1 else fs_g (fs_in y2 6) (if (σ (7 * o - 14 + 4) y2.toNatClampNeg) ≤ 0 then L_X1_allSooted_4 o n0 y1 (y2 + (1 : Int32)) σ else L_X1_allSooted_4 o n0 (y1 ||| ((1 : Int32) <<< (y2 &&& 31))) (y2 + (1 : Int32)) σ)
def F_X1_allSooted (o : Nat) (σ : fsS) : Option (Int32) := (L_X1_allSooted_4 o fs_fu (0 : Int32) (0 : Int32) σ).bind (fun q4 => some q4)
set_option maxRecDepth 20000 in
set_option maxHeartbeats 40000000 in
theorem l_X1_allSooted_4 {o : Nat} (ho : fs_K o) {X : fsC} (hX : fs_ok cX1_allSooted RX1 3 { frames := 0, cells := 0, slots := 0, locals := 0 } X) : ∀ (n : Nat) (y1 : Int32) (y2 : Int32) (σ : fsS) (μ : fsL) (out : Int32) (_ : L_X1_allSooted_4 o n y1 y2 σ = some out) (k0 : fs_PW X 33 [none, some (.int out), none] [] σ μ), fs_PW X 4 [some (.ref o), some (.int y1), some (.int y2)] [] σ μ := by
  intro n
  induction n with
  | zero =>
    intro y1 y2 σ μ out h
    cases (show (none : Option (Int32)) = some out from h)
  | succ n0 ih =>
    intro y1 y2 σ μ out h k0
    unfold L_X1_allSooted_4 at h
    refine s_iload_n hX dX1_allSooted_4 rfl ?_
    refine s_aload_n hX dX1_allSooted_5 rfl ?_
    refine s_geti hX dX1_allSooted_6 f_X1_9 (fs_kd0 ho) ?_
    refine s_ic_ge hX 33 dX1_allSooted_9 (by decide) (fun c1 => ?_) (fun c1 => ?_)
    · have h := (if_pos c1).symm.trans h
      cases h
      refine fs_ma [false, true, false] ?_
      exact k0
    · have h := (if_neg c1).symm.trans h
      refine s_aload_n hX dX1_allSooted_12 rfl ?_
      refine s_getr hX dX1_allSooted_13 f_X1_28 (fs_kd5 ho) ?_
      refine s_iload_n hX dX1_allSooted_16 rfl ?_
      obtain ⟨g2, h⟩ := fs_gd h
      refine s_iald hX dX1_allSooted_17 (fs_ik4 ho g2) ?_
      refine s_if_le hX 27 dX1_allSooted_18 (by decide) (fun c3 => ?_) (fun c3 => ?_)
      · have h := (if_pos c3).symm.trans h
        refine s_iinc hX (y2 + (1 : Int32)) dX1_allSooted_27 rfl rfl (Nat.le_of_ble_eq_true rfl) ?_
        refine s_goto hX 4 dX1_allSooted_30 (by decide) ?_
        refine fs_ma [true, true, true] ?_
        exact ih y1 (y2 + (1 : Int32)) σ μ out h k0
      · have h := (if_neg c3).symm.trans h
        refine s_iload_n hX dX1_allSooted_21 rfl ?_
        refine s_ic hX (1 : Int32) dX1_allSooted_22 (by decide) ?_
        refine s_iload_n hX dX1_allSooted_23 rfl ?_
        refine s_ishl hX dX1_allSooted_24 ?_
        refine s_ior hX dX1_allSooted_25 ?_
        refine s_istore_n hX dX1_allSooted_26 (Nat.le_of_ble_eq_true rfl) ?_
        refine s_iinc hX (y2 + (1 : Int32)) dX1_allSooted_27 rfl rfl (Nat.le_of_ble_eq_true rfl) ?_
        refine s_goto hX 4 dX1_allSooted_30 (by decide) ?_
        refine fs_ma [true, true, true] ?_
        exact ih (y1 ||| ((1 : Int32) <<< (y2 &&& 31))) (y2 + (1 : Int32)) σ μ out h k0
set_option maxRecDepth 20000 in
set_option maxHeartbeats 40000000 in
theorem m_X1_allSooted (o : Nat) (ho : fs_K o) (σ : fsS) (μ : fsL) (out : Int32) (h : F_X1_allSooted o σ = some out) : fs_Met yX1_allSooted cX1_allSooted 3 (some .int) { frames := 0, cells := 0, slots := 0, locals := 0 } [.ref o] σ μ (some (.int out)) σ μ := by
  unfold F_X1_allSooted at h
  refine fs_intro (by decide +kernel) (Nat.le_of_ble_eq_true rfl) (fun X hX hR => ?_)
  show fs_PW X 0 [some (.ref o), none, none] [] σ μ
  refine s_ic hX (0 : Int32) dX1_allSooted_0 (by decide) ?_
  refine s_istore_n hX dX1_allSooted_1 (Nat.le_of_ble_eq_true rfl) ?_
  refine s_ic hX (0 : Int32) dX1_allSooted_2 (by decide) ?_
  refine s_istore_n hX dX1_allSooted_3 (Nat.le_of_ble_eq_true rfl) ?_
  obtain ⟨q4, e4, h⟩ := fs_bind h
  refine fs_ma [true, true, true] ?_
  refine l_X1_allSooted_4 ho hX fs_fu (0 : Int32) (0 : Int32) σ μ q4 e4 ?_
  refine s_iload_n hX dX1_allSooted_33 rfl ?_
  cases h
  exact s_iret hX hR dX1_allSooted_34

-- X1_allOf
def L_X1_allOf_4 (o : Nat) : Nat → Int32 → Int32 → Int32 → fsS → Option (Int32)
  | 0, _, _, _, _ => none
  | n0 + 1, y1, y2, y3, σ => if (σ o 0) ≤ y3 then some y2 else fs_g (fs_in y3 6) (if (F_X1_isOf (σ (7 * o - 14 + 0) y3.toNatClampNeg) y1) = 0 then L_X1_allOf_4 o n0 y1 y2 (y3 + (1 : Int32)) σ else L_X1_allOf_4 o n0 y1 (y2 + (1 : Int32)) (y3 + (1 : Int32)) σ)
def F_X1_allOf (o : Nat) (x1 : Int32) (σ : fsS) : Option (Int32) := (L_X1_allOf_4 o fs_fu x1 (0 : Int32) (0 : Int32) σ).bind (fun q4 => some q4)
set_option maxRecDepth 20000 in
set_option maxHeartbeats 40000000 in
theorem l_X1_allOf_4 {o : Nat} (ho : fs_K o) {X : fsC} (hX : fs_ok cX1_allOf RX1 4 { frames := 2, cells := 0, slots := 0, locals := 41 } X) : ∀ (n : Nat) (y1 : Int32) (y2 : Int32) (y3 : Int32) (σ : fsS) (μ : fsL) (out : Int32) (_ : L_X1_allOf_4 o n y1 y2 y3 σ = some out) (k0 : fs_PW X 34 [none, none, some (.int out), none] [] σ μ), fs_PW X 4 [some (.ref o), some (.int y1), some (.int y2), some (.int y3)] [] σ μ := by
  intro n
  induction n with
  | zero =>
    intro y1 y2 y3 σ μ out h
    cases (show (none : Option (Int32)) = some out from h)
  | succ n0 ih =>
    intro y1 y2 y3 σ μ out h k0
    unfold L_X1_allOf_4 at h
    refine s_iload_n hX dX1_allOf_4 rfl ?_
    refine s_aload_n hX dX1_allOf_5 rfl ?_
    refine s_geti hX dX1_allOf_6 f_X1_9 (fs_kd0 ho) ?_
    refine s_ic_ge hX 34 dX1_allOf_9 (by decide) (fun c1 => ?_) (fun c1 => ?_)
    · have h := (if_pos c1).symm.trans h
      cases h
      refine fs_ma [false, false, true, false] ?_
      exact k0
    · have h := (if_neg c1).symm.trans h
      refine s_aload_n hX dX1_allOf_12 rfl ?_
      refine s_getr hX dX1_allOf_13 f_X1_15 (fs_kd1 ho) ?_
      refine s_iload_n hX dX1_allOf_16 rfl ?_
      obtain ⟨g2, h⟩ := fs_gd h
      refine s_iald hX dX1_allOf_17 (fs_ik0 ho g2) ?_
      refine s_iload_n hX dX1_allOf_18 rfl ?_
      refine s_callS hX (as := [.int (σ (7 * o - 14 + 0) y3.toNatClampNeg), .int y1]) dX1_allOf_19 k_X1_83 v_X1_isOf (m_X1_isOf (σ (7 * o - 14 + 0) y3.toNatClampNeg) y1 σ μ _ rfl) ⟨rfl, rfl⟩ ⟨(Nat.le_of_ble_eq_true rfl), (Nat.le_of_ble_eq_true rfl)⟩ rfl rfl (Nat.le_of_ble_eq_true rfl) ?_
      refine s_if_eq hX 28 dX1_allOf_22 (by decide) (fun c3 => ?_) (fun c3 => ?_)
      · have h := (if_pos c3).symm.trans h
        refine s_iinc hX (y3 + (1 : Int32)) dX1_allOf_28 rfl rfl (Nat.le_of_ble_eq_true rfl) ?_
        refine s_goto hX 4 dX1_allOf_31 (by decide) ?_
        refine fs_ma [true, true, true, true] ?_
        exact ih y1 y2 (y3 + (1 : Int32)) σ μ out h k0
      · have h := (if_neg c3).symm.trans h
        refine s_iinc hX (y2 + (1 : Int32)) dX1_allOf_25 rfl rfl (Nat.le_of_ble_eq_true rfl) ?_
        refine s_iinc hX (y3 + (1 : Int32)) dX1_allOf_28 rfl rfl (Nat.le_of_ble_eq_true rfl) ?_
        refine s_goto hX 4 dX1_allOf_31 (by decide) ?_
        refine fs_ma [true, true, true, true] ?_
        exact ih y1 (y2 + (1 : Int32)) (y3 + (1 : Int32)) σ μ out h k0
set_option maxRecDepth 20000 in
set_option maxHeartbeats 40000000 in
theorem m_X1_allOf (o : Nat) (x1 : Int32) (ho : fs_K o) (σ : fsS) (μ : fsL) (out : Int32) (h : F_X1_allOf o x1 σ = some out) : fs_Met yX1_allOf cX1_allOf 4 (some .int) { frames := 2, cells := 0, slots := 0, locals := 41 } [.ref o, .int x1] σ μ (some (.int out)) σ μ := by
  unfold F_X1_allOf at h
  refine fs_intro (by decide +kernel) (Nat.le_of_ble_eq_true rfl) (fun X hX hR => ?_)
  show fs_PW X 0 [some (.ref o), some (.int x1), none, none] [] σ μ
  refine s_ic hX (0 : Int32) dX1_allOf_0 (by decide) ?_
  refine s_istore_n hX dX1_allOf_1 (Nat.le_of_ble_eq_true rfl) ?_
  refine s_ic hX (0 : Int32) dX1_allOf_2 (by decide) ?_
  refine s_istore_n hX dX1_allOf_3 (Nat.le_of_ble_eq_true rfl) ?_
  obtain ⟨q4, e4, h⟩ := fs_bind h
  refine fs_ma [true, true, true, true] ?_
  refine l_X1_allOf_4 ho hX fs_fu x1 (0 : Int32) (0 : Int32) σ μ q4 e4 ?_
  refine s_iload_n hX dX1_allOf_34 rfl ?_
  cases h
  exact s_iret hX hR dX1_allOf_35

-- X2_lie
def L_X2_lie_9 (o : Nat) : Nat → Int32 → Int32 → Int32 → fsS → Option (fsS)
  | 0, _, _, _, _ => none
  | n0 + 1, y1, y2, y3, σ => if y2 ≤ y3 then some σ else fs_g (fs_in y1 (fs_rb (34 + o)).2) (fs_g (fs_in y3 (fs_len ((fs_rb (34 + o)).1 + y1.toNatClampNeg))) (L_X2_lie_9 o n0 y1 y2 (y3 + (1 : Int32)) (fs_u σ ((fs_rb (34 + o)).1 + y1.toNatClampNeg) y3.toNatClampNeg (σ o 2))))
def F_X2_lie (o : Nat) (x1 : Int32) (x2 : Int32) (σ : fsS) : Option (fsS) := fs_g (fs_in x1 (fs_len (9 + o))) ((L_X2_lie_9 o fs_fu x1 x2 (0 : Int32) (fs_u σ (9 + o) x1.toNatClampNeg x2)).bind (fun q5 => some q5))
set_option maxRecDepth 20000 in
set_option maxHeartbeats 40000000 in
theorem l_X2_lie_9 {o : Nat} (ho : fs_H o) {X : fsC} (hX : fs_ok cX2_lie RX2 4 { frames := 0, cells := 0, slots := 0, locals := 0 } X) : ∀ (n : Nat) (y1 : Int32) (y2 : Int32) (y3 : Int32) (σ : fsS) (μ : fsL) (out : fsS) (_ : L_X2_lie_9 o n y1 y2 y3 σ = some out) (k0 : fs_PW X 32 [none, none, none, none] [] out μ), fs_PW X 9 [some (.ref o), some (.int y1), some (.int y2), some (.int y3)] [] σ μ := by
  intro n
  induction n with
  | zero =>
    intro y1 y2 y3 σ μ out h
    cases (show (none : Option (fsS)) = some out from h)
  | succ n0 ih =>
    intro y1 y2 y3 σ μ out h k0
    unfold L_X2_lie_9 at h
    refine s_iload_n hX dX2_lie_9 rfl ?_
    refine s_iload_n hX dX2_lie_10 rfl ?_
    refine s_ic_ge hX 32 dX2_lie_11 (by decide) (fun c2 => ?_) (fun c2 => ?_)
    · have h := (if_pos c2).symm.trans h
      cases h
      refine fs_ma [false, false, false, false] ?_
      exact k0
    · have h := (if_neg c2).symm.trans h
      refine s_aload_n hX dX2_lie_14 rfl ?_
      refine s_getr hX dX2_lie_15 f_X2_17 (fs_hd0 ho) ?_
      refine s_iload_n hX dX2_lie_18 rfl ?_
      obtain ⟨g3, h⟩ := fs_gd h
      refine s_aald hX dX2_lie_19 g3 ?_
      refine s_iload_n hX dX2_lie_20 rfl ?_
      refine s_aload_n hX dX2_lie_21 rfl ?_
      refine s_geti hX dX2_lie_22 f_X2_26 (fs_hd2 ho) ?_
      obtain ⟨g4, h⟩ := fs_gd h
      refine s_iast hX dX2_lie_25 g4 ?_
      refine s_iinc hX (y3 + (1 : Int32)) dX2_lie_26 rfl rfl (Nat.le_of_ble_eq_true rfl) ?_
      refine s_goto hX 9 dX2_lie_29 (by decide) ?_
      refine fs_ma [true, true, true, true] ?_
      exact ih y1 y2 (y3 + (1 : Int32)) (fs_u σ ((fs_rb (34 + o)).1 + y1.toNatClampNeg) y3.toNatClampNeg (σ o 2)) μ out h k0
set_option maxRecDepth 20000 in
set_option maxHeartbeats 40000000 in
theorem m_X2_lie (o : Nat) (x1 : Int32) (x2 : Int32) (ho : fs_H o) (σ : fsS) (μ : fsL) (out : fsS) (h : F_X2_lie o x1 x2 σ = some out) : fs_Met yX2_lie cX2_lie 4 none { frames := 0, cells := 0, slots := 0, locals := 0 } [.ref o, .int x1, .int x2] σ μ none out μ := by
  unfold F_X2_lie at h
  refine fs_intro (by decide +kernel) (Nat.le_of_ble_eq_true rfl) (fun X hX hR => ?_)
  show fs_PW X 0 [some (.ref o), some (.int x1), some (.int x2), none] [] σ μ
  refine s_aload_n hX dX2_lie_0 rfl ?_
  refine s_getr hX dX2_lie_1 f_X2_22 (fs_hd1 ho) ?_
  refine s_iload_n hX dX2_lie_4 rfl ?_
  refine s_iload_n hX dX2_lie_5 rfl ?_
  obtain ⟨g1, h⟩ := fs_gd h
  refine s_iast hX dX2_lie_6 g1 ?_
  refine s_ic hX (0 : Int32) dX2_lie_7 (by decide) ?_
  refine s_istore_n hX dX2_lie_8 (Nat.le_of_ble_eq_true rfl) ?_
  obtain ⟨q5, e5, h⟩ := fs_bind h
  refine fs_ma [true, true, true, true] ?_
  refine l_X2_lie_9 ho hX fs_fu x1 x2 (0 : Int32) (fs_u σ (9 + o) x1.toNatClampNeg x2) μ q5 e5 ?_
  cases h
  exact s_vret hX hR dX2_lie_32

-- X2_has
def F_X2_has (o : Nat) (x1 : Int32) (σ : fsS) : Option (Int32) := fs_g (fs_in x1 (fs_len (9 + o))) (if (σ (9 + o) x1.toNatClampNeg) = (-1 : Int32) then some (0 : Int32) else some (1 : Int32))
set_option maxRecDepth 20000 in
set_option maxHeartbeats 40000000 in
theorem m_X2_has (o : Nat) (x1 : Int32) (ho : fs_H o) (σ : fsS) (μ : fsL) (out : Int32) (h : F_X2_has o x1 σ = some out) : fs_Met yX2_has cX2_has 2 (some .boolean) { frames := 0, cells := 0, slots := 0, locals := 0 } [.ref o, .int x1] σ μ (some (.int out)) σ μ := by
  unfold F_X2_has at h
  refine fs_intro (by decide +kernel) (Nat.le_of_ble_eq_true rfl) (fun X hX hR => ?_)
  show fs_PW X 0 [some (.ref o), some (.int x1)] [] σ μ
  refine s_aload_n hX dX2_has_0 rfl ?_
  refine s_getr hX dX2_has_1 f_X2_22 (fs_hd1 ho) ?_
  refine s_iload_n hX dX2_has_4 rfl ?_
  obtain ⟨g1, h⟩ := fs_gd h
  refine s_iald hX dX2_has_5 g1 ?_
  refine s_ic hX (-1 : Int32) dX2_has_6 (by decide) ?_
  refine s_ic_eq hX 14 dX2_has_7 (by decide) (fun c2 => ?_) (fun c2 => ?_)
  · have h := (if_pos c2).symm.trans h
    refine s_ic hX (0 : Int32) dX2_has_14 (by decide) ?_
    cases h
    exact s_zret hX (Or.inl rfl) hR dX2_has_15
  · have h := (if_neg c2).symm.trans h
    refine s_ic hX (1 : Int32) dX2_has_10 (by decide) ?_
    refine s_goto hX 15 dX2_has_11 (by decide) ?_
    cases h
    exact s_zret hX (Or.inr rfl) hR dX2_has_15

-- X2_reaches
def F_X2_reaches (o : Nat) (x1 : Int32) (x2 : Int32) (x3 : Int32) (σ : fsS) : Option (Int32) := if x2 < 0 then some (0 : Int32) else fs_g (fs_in x1 (fs_len (9 + o))) (if ((σ (9 + o) x1.toNatClampNeg) - x2) < x3 then some (0 : Int32) else some (1 : Int32))
set_option maxRecDepth 20000 in
set_option maxHeartbeats 40000000 in
theorem m_X2_reaches (o : Nat) (x1 : Int32) (x2 : Int32) (x3 : Int32) (ho : fs_H o) (σ : fsS) (μ : fsL) (out : Int32) (h : F_X2_reaches o x1 x2 x3 σ = some out) : fs_Met yX2_reaches cX2_reaches 4 (some .boolean) { frames := 0, cells := 0, slots := 0, locals := 0 } [.ref o, .int x1, .int x2, .int x3] σ μ (some (.int out)) σ μ := by
  unfold F_X2_reaches at h
  refine fs_intro (by decide +kernel) (Nat.le_of_ble_eq_true rfl) (fun X hX hR => ?_)
  show fs_PW X 0 [some (.ref o), some (.int x1), some (.int x2), some (.int x3)] [] σ μ
  refine s_iload_n hX dX2_reaches_0 rfl ?_
  refine s_if_lt hX 20 dX2_reaches_1 (by decide) (fun c1 => ?_) (fun c1 => ?_)
  · have h := (if_pos c1).symm.trans h
    refine s_ic hX (0 : Int32) dX2_reaches_20 (by decide) ?_
    cases h
    exact s_zret hX (Or.inl rfl) hR dX2_reaches_21
  · have h := (if_neg c1).symm.trans h
    refine s_iload_n hX dX2_reaches_4 rfl ?_
    refine s_aload_n hX dX2_reaches_5 rfl ?_
    refine s_getr hX dX2_reaches_6 f_X2_22 (fs_hd1 ho) ?_
    refine s_iload_n hX dX2_reaches_9 rfl ?_
    obtain ⟨g2, h⟩ := fs_gd h
    refine s_iald hX dX2_reaches_10 g2 ?_
    refine s_iload_n hX dX2_reaches_11 rfl ?_
    refine s_isub hX dX2_reaches_12 ?_
    refine s_ic_gt hX 20 dX2_reaches_13 (by decide) (fun c3 => ?_) (fun c3 => ?_)
    · have h := (if_pos c3).symm.trans h
      refine s_ic hX (0 : Int32) dX2_reaches_20 (by decide) ?_
      cases h
      exact s_zret hX (Or.inl rfl) hR dX2_reaches_21
    · have h := (if_neg c3).symm.trans h
      refine s_ic hX (1 : Int32) dX2_reaches_16 (by decide) ?_
      refine s_goto hX 21 dX2_reaches_17 (by decide) ?_
      cases h
      exact s_zret hX (Or.inr rfl) hR dX2_reaches_21

-- X2_sum
def L_X2_sum_5 (o : Nat) : Nat → Int32 → Int64 → Int32 → fsS → Option (Int64)
  | 0, _, _, _, _ => none
  | n0 + 1, y1, y2, y4, σ => fs_g (fs_in y1 (fs_len (9 + o))) (if (σ (9 + o) y1.toNatClampNeg) ≤ y4 then some y2 else fs_g (fs_in y1 (fs_rb (34 + o)).2) (fs_g (fs_in y4 (fs_len ((fs_rb (34 + o)).1 + y1.toNatClampNeg))) (L_X2_sum_5 o n0 y1 (y2 + ((σ ((fs_rb (34 + o)).1 + y1.toNatClampNeg) y4.toNatClampNeg).toInt64)) (y4 + (1 : Int32)) σ)))
def F_X2_sum (o : Nat) (x1 : Int32) (σ : fsS) : Option (Int64) := (L_X2_sum_5 o fs_fu x1 (0 : Int64) (0 : Int32) σ).bind (fun q5 => some q5)
set_option maxRecDepth 20000 in
set_option maxHeartbeats 40000000 in
theorem l_X2_sum_5 {o : Nat} (ho : fs_H o) {X : fsC} (hX : fs_ok cX2_sum RX2 5 { frames := 0, cells := 0, slots := 0, locals := 0 } X) : ∀ (n : Nat) (y1 : Int32) (y2 : Int64) (y4 : Int32) (σ : fsS) (μ : fsL) (out : Int64) (_ : L_X2_sum_5 o n y1 y2 y4 σ = some out) (k0 : fs_PW X 35 [none, none, some (.long out), none, none] [] σ μ), fs_PW X 5 [some (.ref o), some (.int y1), some (.long y2), none, some (.int y4)] [] σ μ := by
  intro n
  induction n with
  | zero =>
    intro y1 y2 y4 σ μ out h
    cases (show (none : Option (Int64)) = some out from h)
  | succ n0 ih =>
    intro y1 y2 y4 σ μ out h k0
    unfold L_X2_sum_5 at h
    refine s_iload hX dX2_sum_5 rfl ?_
    refine s_aload_n hX dX2_sum_7 rfl ?_
    refine s_getr hX dX2_sum_8 f_X2_22 (fs_hd1 ho) ?_
    refine s_iload_n hX dX2_sum_11 rfl ?_
    obtain ⟨g1, h⟩ := fs_gd h
    refine s_iald hX dX2_sum_12 g1 ?_
    refine s_ic_ge hX 35 dX2_sum_13 (by decide) (fun c2 => ?_) (fun c2 => ?_)
    · have h := (if_pos c2).symm.trans h
      cases h
      refine fs_ma [false, false, true, false, false] ?_
      exact k0
    · have h := (if_neg c2).symm.trans h
      refine s_lload_n hX dX2_sum_16 rfl ?_
      refine s_aload_n hX dX2_sum_17 rfl ?_
      refine s_getr hX dX2_sum_18 f_X2_17 (fs_hd0 ho) ?_
      refine s_iload_n hX dX2_sum_21 rfl ?_
      obtain ⟨g3, h⟩ := fs_gd h
      refine s_aald hX dX2_sum_22 g3 ?_
      refine s_iload hX dX2_sum_23 rfl ?_
      obtain ⟨g4, h⟩ := fs_gd h
      refine s_iald hX dX2_sum_25 g4 ?_
      refine s_i2l hX dX2_sum_26 ?_
      refine s_ladd hX dX2_sum_27 ?_
      refine s_lstore_n hX dX2_sum_28 (Nat.le_of_ble_eq_true rfl) ?_
      refine s_iinc hX (y4 + (1 : Int32)) dX2_sum_29 rfl rfl (Nat.le_of_ble_eq_true rfl) ?_
      refine s_goto hX 5 dX2_sum_32 (by decide) ?_
      refine fs_ma [true, true, true, false, true] ?_
      exact ih y1 (y2 + ((σ ((fs_rb (34 + o)).1 + y1.toNatClampNeg) y4.toNatClampNeg).toInt64)) (y4 + (1 : Int32)) σ μ out h k0
set_option maxRecDepth 20000 in
set_option maxHeartbeats 40000000 in
theorem m_X2_sum (o : Nat) (x1 : Int32) (ho : fs_H o) (σ : fsS) (μ : fsL) (out : Int64) (h : F_X2_sum o x1 σ = some out) : fs_Met yX2_sum cX2_sum 5 (some .long) { frames := 0, cells := 0, slots := 0, locals := 0 } [.ref o, .int x1] σ μ (some (.long out)) σ μ := by
  unfold F_X2_sum at h
  refine fs_intro (by decide +kernel) (Nat.le_of_ble_eq_true rfl) (fun X hX hR => ?_)
  show fs_PW X 0 [some (.ref o), some (.int x1), none, none, none] [] σ μ
  refine s_lc hX (0 : Int64) dX2_sum_0 (by decide) ?_
  refine s_lstore_n hX dX2_sum_1 (Nat.le_of_ble_eq_true rfl) ?_
  refine s_ic hX (0 : Int32) dX2_sum_2 (by decide) ?_
  refine s_istore hX dX2_sum_3 (Nat.le_of_ble_eq_true rfl) ?_
  obtain ⟨q5, e5, h⟩ := fs_bind h
  refine fs_ma [true, true, true, false, true] ?_
  refine l_X2_sum_5 ho hX fs_fu x1 (0 : Int64) (0 : Int32) σ μ q5 e5 ?_
  refine s_lload_n hX dX2_sum_35 rfl ?_
  cases h
  exact s_lret hX hR dX2_sum_36

-- X2_present
def L_X2_present_4 (o : Nat) : Nat → Int32 → Int32 → fsS → Option (Int32)
  | 0, _, _, _ => none
  | n0 + 1, y1, y2, σ => if (Int32.ofNat (fs_len (9 + o))) ≤ y2 then some y1 else (F_X2_has o y2 σ).bind (fun q2 => if q2 = 0 then L_X2_present_4 o n0 y1 (y2 + (1 : Int32)) σ else L_X2_present_4 o n0 (y1 + (1 : Int32)) (y2 + (1 : Int32)) σ)
def F_X2_present (o : Nat) (σ : fsS) : Option (Int32) := (L_X2_present_4 o fs_fu (0 : Int32) (0 : Int32) σ).bind (fun q4 => some q4)
set_option maxRecDepth 20000 in
set_option maxHeartbeats 40000000 in
theorem l_X2_present_4 {o : Nat} (ho : fs_H o) {X : fsC} (hX : fs_ok cX2_present RX2 3 { frames := 1, cells := 0, slots := 0, locals := 21 } X) : ∀ (n : Nat) (y1 : Int32) (y2 : Int32) (σ : fsS) (μ : fsL) (out : Int32) (_ : L_X2_present_4 o n y1 y2 σ = some out) (k0 : fs_PW X 30 [none, some (.int out), none] [] σ μ), fs_PW X 4 [some (.ref o), some (.int y1), some (.int y2)] [] σ μ := by
  intro n
  induction n with
  | zero =>
    intro y1 y2 σ μ out h
    cases (show (none : Option (Int32)) = some out from h)
  | succ n0 ih =>
    intro y1 y2 σ μ out h k0
    unfold L_X2_present_4 at h
    refine s_iload_n hX dX2_present_4 rfl ?_
    refine s_aload_n hX dX2_present_5 rfl ?_
    refine s_getr hX dX2_present_6 f_X2_22 (fs_hd1 ho) ?_
    refine s_alen hX dX2_present_9 (fs_hl ho) ?_
    refine s_ic_ge hX 30 dX2_present_10 (by decide) (fun c1 => ?_) (fun c1 => ?_)
    · have h := (if_pos c1).symm.trans h
      cases h
      refine fs_ma [false, true, false] ?_
      exact k0
    · have h := (if_neg c1).symm.trans h
      refine s_aload_n hX dX2_present_13 rfl ?_
      refine s_iload_n hX dX2_present_14 rfl ?_
      obtain ⟨q2, e2, h⟩ := fs_bind h
      refine s_cV hX [.int y2] dX2_present_15 k_X2_36 v_X2_has (m_X2_has o y2 ho σ μ q2 e2) (fs_H_is ho) fs_c2 ⟨rfl, rfl⟩ ⟨(Nat.le_of_ble_eq_true rfl), (Nat.le_of_ble_eq_true rfl)⟩ rfl rfl (Nat.le_of_ble_eq_true rfl) ?_
      refine s_if_eq hX 24 dX2_present_18 (by decide) (fun c3 => ?_) (fun c3 => ?_)
      · have h := (if_pos c3).symm.trans h
        refine s_iinc hX (y2 + (1 : Int32)) dX2_present_24 rfl rfl (Nat.le_of_ble_eq_true rfl) ?_
        refine s_goto hX 4 dX2_present_27 (by decide) ?_
        refine fs_ma [true, true, true] ?_
        exact ih y1 (y2 + (1 : Int32)) σ μ out h k0
      · have h := (if_neg c3).symm.trans h
        refine s_iinc hX (y1 + (1 : Int32)) dX2_present_21 rfl rfl (Nat.le_of_ble_eq_true rfl) ?_
        refine s_iinc hX (y2 + (1 : Int32)) dX2_present_24 rfl rfl (Nat.le_of_ble_eq_true rfl) ?_
        refine s_goto hX 4 dX2_present_27 (by decide) ?_
        refine fs_ma [true, true, true] ?_
        exact ih (y1 + (1 : Int32)) (y2 + (1 : Int32)) σ μ out h k0
set_option maxRecDepth 20000 in
set_option maxHeartbeats 40000000 in
theorem m_X2_present (o : Nat) (ho : fs_H o) (σ : fsS) (μ : fsL) (out : Int32) (h : F_X2_present o σ = some out) : fs_Met yX2_present cX2_present 3 (some .int) { frames := 1, cells := 0, slots := 0, locals := 21 } [.ref o] σ μ (some (.int out)) σ μ := by
  unfold F_X2_present at h
  refine fs_intro (by decide +kernel) (Nat.le_of_ble_eq_true rfl) (fun X hX hR => ?_)
  show fs_PW X 0 [some (.ref o), none, none] [] σ μ
  refine s_ic hX (0 : Int32) dX2_present_0 (by decide) ?_
  refine s_istore_n hX dX2_present_1 (Nat.le_of_ble_eq_true rfl) ?_
  refine s_ic hX (0 : Int32) dX2_present_2 (by decide) ?_
  refine s_istore_n hX dX2_present_3 (Nat.le_of_ble_eq_true rfl) ?_
  obtain ⟨q4, e4, h⟩ := fs_bind h
  refine fs_ma [true, true, true] ?_
  refine l_X2_present_4 ho hX fs_fu (0 : Int32) (0 : Int32) σ μ q4 e4 ?_
  refine s_iload_n hX dX2_present_30 rfl ?_
  cases h
  exact s_iret hX hR dX2_present_31

-- X2_mixInto
def L_X2_mixInto_33 (o : Nat) : Nat → Int64 → Int32 → Int32 → fsS → Option (Int64)
  | 0, _, _, _, _ => none
  | n0 + 1, y3, y5, y6, σ => fs_g (fs_in y5 (fs_len (9 + o))) (if (σ (9 + o) y5.toNatClampNeg) ≤ y6 then some y3 else fs_g (fs_in y5 (fs_rb (34 + o)).2) (fs_g (fs_in y6 (fs_len ((fs_rb (34 + o)).1 + y5.toNatClampNeg))) (L_X2_mixInto_33 o n0 (((31 : Int64) * y3) + ((σ ((fs_rb (34 + o)).1 + y5.toNatClampNeg) y6.toNatClampNeg).toInt64)) y5 (y6 + (1 : Int32)) σ)))
def L_X2_mixInto_5 (o : Nat) : Nat → Int64 → Int32 → fsS → Option (Int64)
  | 0, _, _, _ => none
  | n0 + 1, y3, y5, σ => if (Int32.ofNat (fs_len (9 + o))) ≤ y5 then some y3 else fs_g (fs_in y5 (fs_len (9 + o))) ((L_X2_mixInto_33 o fs_fu (((31 : Int64) * y3) + ((σ (9 + o) y5.toNatClampNeg).toInt64)) y5 (0 : Int32) σ).bind (fun q7 => L_X2_mixInto_5 o n0 q7 (y5 + (1 : Int32)) σ))
def F_X2_mixInto (o : Nat) (x1 : Int64) (σ : fsS) : Option (Int64) := (L_X2_mixInto_5 o fs_fu x1 (0 : Int32) σ).bind (fun q8 => some q8)
set_option maxRecDepth 20000 in
set_option maxHeartbeats 40000000 in
theorem l_X2_mixInto_33 {o : Nat} (ho : fs_H o) {X : fsC} (hX : fs_ok cX2_mixInto RX2 7 { frames := 0, cells := 0, slots := 0, locals := 0 } X) : ∀ (n : Nat) (y3 : Int64) (y5 : Int32) (y6 : Int32) (σ : fsS) (μ : fsL) (out : Int64) (_ : L_X2_mixInto_33 o n y3 y5 y6 σ = some out) (k0 : fs_PW X 69 [some (.ref o), none, none, some (.long out), none, some (.int y5), none] [] σ μ), fs_PW X 33 [some (.ref o), none, none, some (.long y3), none, some (.int y5), some (.int y6)] [] σ μ := by
  intro n
  induction n with
  | zero =>
    intro y3 y5 y6 σ μ out h
    cases (show (none : Option (Int64)) = some out from h)
  | succ n0 ih =>
    intro y3 y5 y6 σ μ out h k0
    unfold L_X2_mixInto_33 at h
    refine s_iload hX dX2_mixInto_33 rfl ?_
    refine s_aload_n hX dX2_mixInto_35 rfl ?_
    refine s_getr hX dX2_mixInto_36 f_X2_22 (fs_hd1 ho) ?_
    refine s_iload hX dX2_mixInto_39 rfl ?_
    obtain ⟨g3, h⟩ := fs_gd h
    refine s_iald hX dX2_mixInto_41 g3 ?_
    refine s_ic_ge hX 69 dX2_mixInto_42 (by decide) (fun c4 => ?_) (fun c4 => ?_)
    · have h := (if_pos c4).symm.trans h
      cases h
      refine fs_ma [true, false, false, true, false, true, false] ?_
      exact k0
    · have h := (if_neg c4).symm.trans h
      refine s_ldc2 hX (31 : Int64) dX2_mixInto_45 q_X2_40 ?_
      refine s_lload_n hX dX2_mixInto_48 rfl ?_
      refine s_lmul hX dX2_mixInto_49 ?_
      refine s_aload_n hX dX2_mixInto_50 rfl ?_
      refine s_getr hX dX2_mixInto_51 f_X2_17 (fs_hd0 ho) ?_
      refine s_iload hX dX2_mixInto_54 rfl ?_
      obtain ⟨g5, h⟩ := fs_gd h
      refine s_aald hX dX2_mixInto_56 g5 ?_
      refine s_iload hX dX2_mixInto_57 rfl ?_
      obtain ⟨g6, h⟩ := fs_gd h
      refine s_iald hX dX2_mixInto_59 g6 ?_
      refine s_i2l hX dX2_mixInto_60 ?_
      refine s_ladd hX dX2_mixInto_61 ?_
      refine s_lstore_n hX dX2_mixInto_62 (Nat.le_of_ble_eq_true rfl) ?_
      refine s_iinc hX (y6 + (1 : Int32)) dX2_mixInto_63 rfl rfl (Nat.le_of_ble_eq_true rfl) ?_
      refine s_goto hX 33 dX2_mixInto_66 (by decide) ?_
      refine fs_ma [true, false, false, true, false, true, true] ?_
      exact ih (((31 : Int64) * y3) + ((σ ((fs_rb (34 + o)).1 + y5.toNatClampNeg) y6.toNatClampNeg).toInt64)) y5 (y6 + (1 : Int32)) σ μ out h k0
set_option maxRecDepth 20000 in
set_option maxHeartbeats 40000000 in
theorem l_X2_mixInto_5 {o : Nat} (ho : fs_H o) {X : fsC} (hX : fs_ok cX2_mixInto RX2 7 { frames := 0, cells := 0, slots := 0, locals := 0 } X) : ∀ (n : Nat) (y3 : Int64) (y5 : Int32) (σ : fsS) (μ : fsL) (out : Int64) (_ : L_X2_mixInto_5 o n y3 y5 σ = some out) (k0 : fs_PW X 75 [none, none, none, some (.long out), none, none, none] [] σ μ), fs_PW X 5 [some (.ref o), none, none, some (.long y3), none, some (.int y5), none] [] σ μ := by
  intro n
  induction n with
  | zero =>
    intro y3 y5 σ μ out h
    cases (show (none : Option (Int64)) = some out from h)
  | succ n0 ih =>
    intro y3 y5 σ μ out h k0
    unfold L_X2_mixInto_5 at h
    refine s_iload hX dX2_mixInto_5 rfl ?_
    refine s_aload_n hX dX2_mixInto_7 rfl ?_
    refine s_getr hX dX2_mixInto_8 f_X2_22 (fs_hd1 ho) ?_
    refine s_alen hX dX2_mixInto_11 (fs_hl ho) ?_
    refine s_ic_ge hX 75 dX2_mixInto_12 (by decide) (fun c1 => ?_) (fun c1 => ?_)
    · have h := (if_pos c1).symm.trans h
      cases h
      refine fs_ma [false, false, false, true, false, false, false] ?_
      exact k0
    · have h := (if_neg c1).symm.trans h
      refine s_ldc2 hX (31 : Int64) dX2_mixInto_15 q_X2_40 ?_
      refine s_lload_n hX dX2_mixInto_18 rfl ?_
      refine s_lmul hX dX2_mixInto_19 ?_
      refine s_aload_n hX dX2_mixInto_20 rfl ?_
      refine s_getr hX dX2_mixInto_21 f_X2_22 (fs_hd1 ho) ?_
      refine s_iload hX dX2_mixInto_24 rfl ?_
      obtain ⟨g2, h⟩ := fs_gd h
      refine s_iald hX dX2_mixInto_26 g2 ?_
      refine s_i2l hX dX2_mixInto_27 ?_
      refine s_ladd hX dX2_mixInto_28 ?_
      refine s_lstore_n hX dX2_mixInto_29 (Nat.le_of_ble_eq_true rfl) ?_
      refine s_ic hX (0 : Int32) dX2_mixInto_30 (by decide) ?_
      refine s_istore hX dX2_mixInto_31 (Nat.le_of_ble_eq_true rfl) ?_
      obtain ⟨q7, e7, h⟩ := fs_bind h
      refine fs_ma [true, false, false, true, false, true, true] ?_
      refine l_X2_mixInto_33 ho hX fs_fu (((31 : Int64) * y3) + ((σ (9 + o) y5.toNatClampNeg).toInt64)) y5 (0 : Int32) σ μ q7 e7 ?_
      refine s_iinc hX (y5 + (1 : Int32)) dX2_mixInto_69 rfl rfl (Nat.le_of_ble_eq_true rfl) ?_
      refine s_goto hX 5 dX2_mixInto_72 (by decide) ?_
      refine fs_ma [true, false, false, true, false, true, false] ?_
      exact ih q7 (y5 + (1 : Int32)) σ μ out h k0
set_option maxRecDepth 20000 in
set_option maxHeartbeats 40000000 in
theorem m_X2_mixInto (o : Nat) (x1 : Int64) (ho : fs_H o) (σ : fsS) (μ : fsL) (out : Int64) (h : F_X2_mixInto o x1 σ = some out) : fs_Met yX2_mixInto cX2_mixInto 7 (some .long) { frames := 0, cells := 0, slots := 0, locals := 0 } [.ref o, .long x1] σ μ (some (.long out)) σ μ := by
  unfold F_X2_mixInto at h
  refine fs_intro (by decide +kernel) (Nat.le_of_ble_eq_true rfl) (fun X hX hR => ?_)
  show fs_PW X 0 [some (.ref o), some (.long x1), none, none, none, none, none] [] σ μ
  refine s_lload_n hX dX2_mixInto_0 rfl ?_
  refine s_lstore_n hX dX2_mixInto_1 (Nat.le_of_ble_eq_true rfl) ?_
  refine s_ic hX (0 : Int32) dX2_mixInto_2 (by decide) ?_
  refine s_istore hX dX2_mixInto_3 (Nat.le_of_ble_eq_true rfl) ?_
  obtain ⟨q8, e8, h⟩ := fs_bind h
  refine fs_ma [true, false, false, true, false, true, false] ?_
  refine l_X2_mixInto_5 ho hX fs_fu x1 (0 : Int32) σ μ q8 e8 ?_
  refine s_lload_n hX dX2_mixInto_75 rfl ?_
  cases h
  exact s_lret hX hR dX2_mixInto_76
