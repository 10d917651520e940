-- X4_text
def L_X4_text_34  : Nat → Int32 → Int32 → Int32 → fsS → Option (fsS)
  | 0, _, _, _, _ => none
  | n0 + 1, y1, y2, y3, σ => if (60 : Int32) ≤ y3 then some σ else fs_g (fs_in (((60 : Int32) * y1) + y3) 240) (L_X4_text_34  n0 y1 y2 (y3 + (1 : Int32)) (fs_u σ 54 (((60 : Int32) * y1) + y3).toNatClampNeg (32 : Int32)))
def F_X4_text (x1 : Int32) (x2 : Int32) (σ : fsS) : Option (Int32 × fsS) := if (F_X4_isText x1) = 0 then some ((-1 : Int32), σ) else if x2 ≤ (60 : Int32) then if 0 ≤ x2 then fs_g (fs_in x1 4) ((L_X4_text_34  fs_fu x1 x2 (0 : Int32) (fs_u σ 55 x1.toNatClampNeg x2)).bind (fun q7 => some (x2, q7))) else (F_X4_found (5 : Int32) σ).bind (fun q8 => some (q8.1, q8.2)) else some ((-1 : Int32), σ)
set_option maxRecDepth 20000 in
set_option maxHeartbeats 40000000 in
theorem l_X4_text_34   {X : fsC} (hX : fs_ok cX4_text RX4 4 { frames := 2, cells := 0, slots := 0, locals := 45 } X) : ∀ (n : Nat) (y1 : Int32) (y2 : Int32) (y3 : Int32) (σ : fsS) (μ : fsL) (out : fsS) (_ : L_X4_text_34  n y1 y2 y3 σ = some out) (k0 : fs_PW X 59 [none, none, some (.int y2), none] [] out μ), fs_PW X 34 [some (.ref 51), some (.int y1), some (.int y2), some (.int y3)] [] σ μ := by
  intro n
  induction n with
  | zero =>
    intro y1 y2 y3 σ μ out h
    cases (show (none : Option (fsS)) = some out from h)
  | succ n0 ih =>
    intro y1 y2 y3 σ μ out h k0
    unfold L_X4_text_34 at h
    refine s_iload_n hX dX4_text_34 rfl ?_
    refine s_bi hX (60 : Int32) dX4_text_35 (by decide) ?_
    refine s_ic_ge hX 59 dX4_text_37 (by decide) (fun c5 => ?_) (fun c5 => ?_)
    · have h := (if_pos c5).symm.trans h
      cases h
      refine fs_ma [false, false, true, false] ?_
      exact k0
    · have h := (if_neg c5).symm.trans h
      refine s_aload_n hX dX4_text_40 rfl ?_
      refine s_getr hX dX4_text_41 f_X4_16 rfl ?_
      refine s_bi hX (60 : Int32) dX4_text_44 (by decide) ?_
      refine s_iload_n hX dX4_text_46 rfl ?_
      refine s_imul hX dX4_text_47 ?_
      refine s_iload_n hX dX4_text_48 rfl ?_
      refine s_iadd hX dX4_text_49 ?_
      refine s_bi hX (32 : Int32) dX4_text_50 (by decide) ?_
      obtain ⟨g6, h⟩ := fs_gd h
      refine s_iast hX dX4_text_52 g6 ?_
      refine s_iinc hX (y3 + (1 : Int32)) dX4_text_53 rfl rfl (Nat.le_of_ble_eq_true rfl) ?_
      refine s_goto hX 34 dX4_text_56 (by decide) ?_
      refine fs_ma [true, true, true, true] ?_
      exact ih y1 y2 (y3 + (1 : Int32)) (fs_u σ 54 (((60 : Int32) * y1) + y3).toNatClampNeg (32 : Int32)) μ out h k0
set_option maxRecDepth 20000 in
set_option maxHeartbeats 40000000 in
theorem m_X4_text (x1 : Int32) (x2 : Int32)  (σ : fsS) (μ : fsL) (out : Int32 × fsS) (h : F_X4_text x1 x2 σ = some out) : fs_Met yX4_text cX4_text 4 (some .int) { frames := 2, cells := 0, slots := 0, locals := 45 } [.ref 51, .int x1, .int x2] σ μ (some (.int out.1)) out.2 μ := by
  unfold F_X4_text at h
  refine fs_intro (by decide +kernel) (Nat.le_of_ble_eq_true rfl) (fun X hX hR => ?_)
  show fs_PW X 0 [some (.ref 51), some (.int x1), some (.int x2), none] [] σ μ
  refine s_iload_n hX dX4_text_0 rfl ?_
  refine s_callS hX (as := [.int x1]) dX4_text_1 k_X4_91 v_X4_isText (m_X4_isText x1 σ μ _ rfl) ⟨rfl, rfl⟩ ⟨(Nat.le_of_ble_eq_true rfl), (Nat.le_of_ble_eq_true rfl)⟩ rfl rfl (Nat.le_of_ble_eq_true rfl) ?_
  refine s_if_eq hX 13 dX4_text_4 (by decide) (fun c1 => ?_) (fun c1 => ?_)
  · have h := (if_pos c1).symm.trans h
    refine s_ic hX (-1 : Int32) dX4_text_13 (by decide) ?_
    cases h
    exact s_iret hX hR dX4_text_14
  · have h := (if_neg c1).symm.trans h
    refine s_iload_n hX dX4_text_7 rfl ?_
    refine s_bi hX (60 : Int32) dX4_text_8 (by decide) ?_
    refine s_ic_le hX 15 dX4_text_10 (by decide) (fun c2 => ?_) (fun c2 => ?_)
    · have h := (if_pos c2).symm.trans h
      refine s_iload_n hX dX4_text_15 rfl ?_
      refine s_if_ge hX 25 dX4_text_16 (by decide) (fun c3 => ?_) (fun c3 => ?_)
      · have h := (if_pos c3).symm.trans h
        refine s_aload_n hX dX4_text_25 rfl ?_
        refine s_getr hX dX4_text_26 f_X4_19 rfl ?_
        refine s_iload_n hX dX4_text_29 rfl ?_
        refine s_iload_n hX dX4_text_30 rfl ?_
        obtain ⟨g4, h⟩ := fs_gd h
        refine s_iast hX dX4_text_31 g4 ?_
        refine s_ic hX (0 : Int32) dX4_text_32 (by decide) ?_
        refine s_istore_n hX dX4_text_33 (Nat.le_of_ble_eq_true rfl) ?_
        obtain ⟨q7, e7, h⟩ := fs_bind h
        refine fs_ma [true, true, true, true] ?_
        refine l_X4_text_34  hX fs_fu x1 x2 (0 : Int32) (fs_u σ 55 x1.toNatClampNeg x2) μ q7 e7 ?_
        refine s_iload_n hX dX4_text_59 rfl ?_
        cases h
        exact s_iret hX hR dX4_text_60
      · have h := (if_neg c3).symm.trans h
        refine s_aload_n hX dX4_text_19 rfl ?_
        refine s_ic hX (5 : Int32) dX4_text_20 (by decide) ?_
        obtain ⟨q8, e8, h⟩ := fs_bind h
        refine s_cV hX [.int (5 : Int32)] dX4_text_21 k_X4_84 v_X4_found (m_X4_found (5 : Int32) σ μ q8 e8) ⟨_, rfl⟩ fs_c4 ⟨rfl, rfl⟩ ⟨(Nat.le_of_ble_eq_true rfl), (Nat.le_of_ble_eq_true rfl)⟩ rfl rfl (Nat.le_of_ble_eq_true rfl) ?_
        cases h
        exact s_iret hX hR dX4_text_24
    · have h := (if_neg c2).symm.trans h
      refine s_ic hX (-1 : Int32) dX4_text_13 (by decide) ?_
      cases h
      exact s_iret hX hR dX4_text_14

-- X4_put
def F_X4_put (x1 : Int32) (x2 : Int32) (x3 : Int32) (σ : fsS) : Option (Int32 × fsS) := if (F_X4_isText x1) = 0 then some ((-1 : Int32), σ) else fs_g (fs_in x1 4) (if 0 ≤ (σ 55 x1.toNatClampNeg) then fs_g (fs_in x1 4) (if (F_X4_in (x2.toInt64) (0 : Int64) (((σ 55 x1.toNatClampNeg) - (1 : Int32)).toInt64)) = 0 then (F_X4_found (2 : Int32) σ).bind (fun q8 => some (q8.1, q8.2)) else fs_g (fs_in (((60 : Int32) * x1) + x2) 240) (fs_g (fs_in (((60 : Int32) * x1) + x2) 240) (some (((σ 54 (((60 : Int32) * x1) + x2).toNatClampNeg) + (1000 : Int32)), (fs_u σ 54 (((60 : Int32) * x1) + x2).toNatClampNeg (x3.toInt8.toInt32)))))) else (F_X4_found (1 : Int32) σ).bind (fun q9 => some (q9.1, q9.2)))
set_option maxRecDepth 20000 in
set_option maxHeartbeats 40000000 in
theorem m_X4_put (x1 : Int32) (x2 : Int32) (x3 : Int32)  (σ : fsS) (μ : fsL) (out : Int32 × fsS) (h : F_X4_put x1 x2 x3 σ = some out) : fs_Met yX4_put cX4_put 5 (some .int) { frames := 2, cells := 0, slots := 0, locals := 45 } [.ref 51, .int x1, .int x2, .int x3] σ μ (some (.int out.1)) out.2 μ := by
  unfold F_X4_put at h
  refine fs_intro (by decide +kernel) (Nat.le_of_ble_eq_true rfl) (fun X hX hR => ?_)
  show fs_PW X 0 [some (.ref 51), some (.int x1), some (.int x2), some (.int x3), none] [] σ μ
  refine s_iload_n hX dX4_put_0 rfl ?_
  refine s_callS hX (as := [.int x1]) dX4_put_1 k_X4_91 v_X4_isText (m_X4_isText x1 σ μ _ rfl) ⟨rfl, rfl⟩ ⟨(Nat.le_of_ble_eq_true rfl), (Nat.le_of_ble_eq_true rfl)⟩ rfl rfl (Nat.le_of_ble_eq_true rfl) ?_
  refine s_if_ne hX 9 dX4_put_4 (by decide) (fun c1 => ?_) (fun c1 => ?_)
  · have h := (if_neg c1).symm.trans h
    refine s_aload_n hX dX4_put_9 rfl ?_
    refine s_getr hX dX4_put_10 f_X4_19 rfl ?_
    refine s_iload_n hX dX4_put_13 rfl ?_
    obtain ⟨g2, h⟩ := fs_gd h
    refine s_iald hX dX4_put_14 g2 ?_
    refine s_if_ge hX 24 dX4_put_15 (by decide) (fun c3 => ?_) (fun c3 => ?_)
    · have h := (if_pos c3).symm.trans h
      refine s_iload_n hX dX4_put_24 rfl ?_
      refine s_i2l hX dX4_put_25 ?_
      refine s_lc hX (0 : Int64) dX4_put_26 (by decide) ?_
      refine s_aload_n hX dX4_put_27 rfl ?_
      refine s_getr hX dX4_put_28 f_X4_19 rfl ?_
      refine s_iload_n hX dX4_put_31 rfl ?_
      obtain ⟨g4, h⟩ := fs_gd h
      refine s_iald hX dX4_put_32 g4 ?_
      refine s_ic hX (1 : Int32) dX4_put_33 (by decide) ?_
      refine s_isub hX dX4_put_34 ?_
      refine s_i2l hX dX4_put_35 ?_
      refine s_callS hX (as := [.long (x2.toInt64), .long (0 : Int64), .long (((σ 55 x1.toNatClampNeg) - (1 : Int32)).toInt64)]) dX4_put_36 k_X4_74 v_X4_in (m_X4_in (x2.toInt64) (0 : Int64) (((σ 55 x1.toNatClampNeg) - (1 : Int32)).toInt64) σ μ _ rfl) ⟨rfl, rfl⟩ ⟨(Nat.le_of_ble_eq_true rfl), (Nat.le_of_ble_eq_true rfl)⟩ rfl rfl (Nat.le_of_ble_eq_true rfl) ?_
      refine s_if_ne hX 48 dX4_put_39 (by decide) (fun c5 => ?_) (fun c5 => ?_)
      · have h := (if_neg c5).symm.trans h
        refine s_aload_n hX dX4_put_48 rfl ?_
        refine s_getr hX dX4_put_49 f_X4_16 rfl ?_
        refine s_bi hX (60 : Int32) dX4_put_52 (by decide) ?_
        refine s_iload_n hX dX4_put_54 rfl ?_
        refine s_imul hX dX4_put_55 ?_
        refine s_iload_n hX dX4_put_56 rfl ?_
        refine s_iadd hX dX4_put_57 ?_
        obtain ⟨g6, h⟩ := fs_gd h
        refine s_iald hX dX4_put_58 g6 ?_
        refine s_istore hX dX4_put_59 (Nat.le_of_ble_eq_true rfl) ?_
        refine s_aload_n hX dX4_put_61 rfl ?_
        refine s_getr hX dX4_put_62 f_X4_16 rfl ?_
        refine s_bi hX (60 : Int32) dX4_put_65 (by decide) ?_
        refine s_iload_n hX dX4_put_67 rfl ?_
        refine s_imul hX dX4_put_68 ?_
        refine s_iload_n hX dX4_put_69 rfl ?_
        refine s_iadd hX dX4_put_70 ?_
        refine s_iload_n hX dX4_put_71 rfl ?_
        refine s_i2b hX dX4_put_72 ?_
        obtain ⟨g7, h⟩ := fs_gd h
        refine s_iast hX dX4_put_73 g7 ?_
        refine s_iload hX dX4_put_74 rfl ?_
        refine s_si hX (1000 : Int32) dX4_put_76 (by decide) ?_
        refine s_iadd hX dX4_put_79 ?_
        cases h
        exact s_iret hX hR dX4_put_80
      · have h := (if_pos c5).symm.trans h
        refine s_aload_n hX dX4_put_42 rfl ?_
        refine s_ic hX (2 : Int32) dX4_put_43 (by decide) ?_
        obtain ⟨q8, e8, h⟩ := fs_bind h
        refine s_cV hX [.int (2 : Int32)] dX4_put_44 k_X4_84 v_X4_found (m_X4_found (2 : Int32) σ μ q8 e8) ⟨_, rfl⟩ fs_c4 ⟨rfl, rfl⟩ ⟨(Nat.le_of_ble_eq_true rfl), (Nat.le_of_ble_eq_true rfl)⟩ rfl rfl (Nat.le_of_ble_eq_true rfl) ?_
        cases h
        exact s_iret hX hR dX4_put_47
    · have h := (if_neg c3).symm.trans h
      refine s_aload_n hX dX4_put_18 rfl ?_
      refine s_ic hX (1 : Int32) dX4_put_19 (by decide) ?_
      obtain ⟨q9, e9, h⟩ := fs_bind h
      refine s_cV hX [.int (1 : Int32)] dX4_put_20 k_X4_84 v_X4_found (m_X4_found (1 : Int32) σ μ q9 e9) ⟨_, rfl⟩ fs_c4 ⟨rfl, rfl⟩ ⟨(Nat.le_of_ble_eq_true rfl), (Nat.le_of_ble_eq_true rfl)⟩ rfl rfl (Nat.le_of_ble_eq_true rfl) ?_
      cases h
      exact s_iret hX hR dX4_put_23
  · have h := (if_pos c1).symm.trans h
    refine s_ic hX (-1 : Int32) dX4_put_7 (by decide) ?_
    cases h
    exact s_iret hX hR dX4_put_8

-- X4_copies
def L_X4_copies_3 (a0 : Nat) (a2 : Nat) : Nat → Int32 → Int32 → Int32 → Int32 → fsS → Option (fsS)
  | 0, _, _, _, _, _ => none
  | n0 + 1, y1, y3, y4, y5, σ => if y4 ≤ y5 then some σ else fs_g (fs_in (y1 + y5) (fs_len a0)) (fs_g (fs_in (y3 + y5) (fs_len a2)) (L_X4_copies_3 a0 a2 n0 y1 y3 y4 (y5 + (1 : Int32)) (fs_u σ a2 (y3 + y5).toNatClampNeg (σ a0 (y1 + y5).toNatClampNeg))))
def F_X4_copies (a0 : Nat) (x1 : Int32) (a2 : Nat) (x3 : Int32) (x4 : Int32) (σ : fsS) : Option (fsS) := (L_X4_copies_3 a0 a2 fs_fu x1 x3 x4 (0 : Int32) σ).bind (fun q4 => some q4)
set_option maxRecDepth 20000 in
set_option maxHeartbeats 40000000 in
theorem l_X4_copies_3 {a0 : Nat} {a2 : Nat}  {X : fsC} (hX : fs_ok cX4_copies RX4 6 { frames := 0, cells := 0, slots := 0, locals := 0 } X) : ∀ (n : Nat) (y1 : Int32) (y3 : Int32) (y4 : Int32) (y5 : Int32) (σ : fsS) (μ : fsL) (out : fsS) (_ : L_X4_copies_3 a0 a2 n y1 y3 y4 y5 σ = some out) (k0 : fs_PW X 28 [none, none, none, none, none, none] [] out μ), fs_PW X 3 [some (.ref a0), some (.int y1), some (.ref a2), some (.int y3), some (.int y4), some (.int y5)] [] σ μ := by
  intro n
  induction n with
  | zero =>
    intro y1 y3 y4 y5 σ μ out h
    cases (show (none : Option (fsS)) = some out from h)
  | succ n0 ih =>
    intro y1 y3 y4 y5 σ μ out h k0
    unfold L_X4_copies_3 at h
    refine s_iload hX dX4_copies_3 rfl ?_
    refine s_iload hX dX4_copies_5 rfl ?_
    refine s_ic_ge hX 28 dX4_copies_7 (by decide) (fun c1 => ?_) (fun c1 => ?_)
    · have h := (if_pos c1).symm.trans h
      cases h
      refine fs_ma [false, false, false, false, false, false] ?_
      exact k0
    · have h := (if_neg c1).symm.trans h
      refine s_aload_n hX dX4_copies_10 rfl ?_
      refine s_iload_n hX dX4_copies_11 rfl ?_
      refine s_iload hX dX4_copies_12 rfl ?_
      refine s_iadd hX dX4_copies_14 ?_
      refine s_aload_n hX dX4_copies_15 rfl ?_
      refine s_iload_n hX dX4_copies_16 rfl ?_
      refine s_iload hX dX4_copies_17 rfl ?_
      refine s_iadd hX dX4_copies_19 ?_
      obtain ⟨g2, h⟩ := fs_gd h
      refine s_iald hX dX4_copies_20 g2 ?_
      obtain ⟨g3, h⟩ := fs_gd h
      refine s_iast hX dX4_copies_21 g3 ?_
      refine s_iinc hX (y5 + (1 : Int32)) dX4_copies_22 rfl rfl (Nat.le_of_ble_eq_true rfl) ?_
      refine s_goto hX 3 dX4_copies_25 (by decide) ?_
      refine fs_ma [true, true, true, true, true, true] ?_
      exact ih y1 y3 y4 (y5 + (1 : Int32)) (fs_u σ a2 (y3 + y5).toNatClampNeg (σ a0 (y1 + y5).toNatClampNeg)) μ out h k0
set_option maxRecDepth 20000 in
set_option maxHeartbeats 40000000 in
theorem m_X4_copies (a0 : Nat) (x1 : Int32) (a2 : Nat) (x3 : Int32) (x4 : Int32)  (σ : fsS) (μ : fsL) (out : fsS) (h : F_X4_copies a0 x1 a2 x3 x4 σ = some out) : fs_Met yX4_copies cX4_copies 6 none { frames := 0, cells := 0, slots := 0, locals := 0 } [.ref a0, .int x1, .ref a2, .int x3, .int x4] σ μ none out μ := by
  unfold F_X4_copies at h
  refine fs_intro (by decide +kernel) (Nat.le_of_ble_eq_true rfl) (fun X hX hR => ?_)
  show fs_PW X 0 [some (.ref a0), some (.int x1), some (.ref a2), some (.int x3), some (.int x4), none] [] σ μ
  refine s_ic hX (0 : Int32) dX4_copies_0 (by decide) ?_
  refine s_istore hX dX4_copies_1 (Nat.le_of_ble_eq_true rfl) ?_
  obtain ⟨q4, e4, h⟩ := fs_bind h
  refine fs_ma [true, true, true, true, true, true] ?_
  refine l_X4_copies_3  hX fs_fu x1 x3 x4 (0 : Int32) σ μ q4 e4 ?_
  cases h
  exact s_vret hX hR dX4_copies_28

-- X4_forgets
def L_X4_forgets_9  : Nat → Int32 → fsS → Option (fsS)
  | 0, _, _ => none
  | n0 + 1, y1, σ => if (6 : Int32) ≤ y1 then some σ else fs_g (fs_in ((7 : Int32) + y1) 13) (L_X4_forgets_9  n0 (y1 + (1 : Int32)) (fs_u σ 60 ((7 : Int32) + y1).toNatClampNeg (0 : Int32)))
def L_X4_forgets_38  : Nat → Int32 → fsS → Option (fsS)
  | 0, _, _ => none
  | n0 + 1, y1, σ => if (3 : Int32) ≤ y1 then some σ else fs_g (fs_in ((534 : Int32) * y1) 1602) (L_X4_forgets_38  n0 (y1 + (1 : Int32)) (fs_u σ 64 ((534 : Int32) * y1).toNatClampNeg (-1 : Int32)))
def F_X4_forgets (σ : fsS) : Option (fsS) := (L_X4_forgets_9  fs_fu (0 : Int32) (fs_u σ 60 0 (0 : Int32))).bind (fun q3 => (L_X4_forgets_38  fs_fu (0 : Int32) (fs_u q3 51 17 (0 : Int32))).bind (fun q6 => some q6))
set_option maxRecDepth 20000 in
set_option maxHeartbeats 40000000 in
theorem l_X4_forgets_9   {X : fsC} (hX : fs_ok cX4_forgets RX4 2 { frames := 0, cells := 0, slots := 0, locals := 0 } X) : ∀ (n : Nat) (y1 : Int32) (σ : fsS) (μ : fsL) (out : fsS) (_ : L_X4_forgets_9  n y1 σ = some out) (k0 : fs_PW X 31 [some (.ref 51), none] [] out μ), fs_PW X 9 [some (.ref 51), some (.int y1)] [] σ μ := by
  intro n
  induction n with
  | zero =>
    intro y1 σ μ out h
    cases (show (none : Option (fsS)) = some out from h)
  | succ n0 ih =>
    intro y1 σ μ out h k0
    unfold L_X4_forgets_9 at h
    refine s_iload_n hX dX4_forgets_9 rfl ?_
    refine s_bi hX (6 : Int32) dX4_forgets_10 (by decide) ?_
    refine s_ic_ge hX 31 dX4_forgets_12 (by decide) (fun c1 => ?_) (fun c1 => ?_)
    · have h := (if_pos c1).symm.trans h
      cases h
      refine fs_ma [true, false] ?_
      exact k0
    · have h := (if_neg c1).symm.trans h
      refine s_aload_n hX dX4_forgets_15 rfl ?_
      refine s_getr hX dX4_forgets_16 f_X4_38 rfl ?_
      refine s_bi hX (7 : Int32) dX4_forgets_19 (by decide) ?_
      refine s_iload_n hX dX4_forgets_21 rfl ?_
      refine s_iadd hX dX4_forgets_22 ?_
      refine s_ic hX (0 : Int32) dX4_forgets_23 (by decide) ?_
      obtain ⟨g2, h⟩ := fs_gd h
      refine s_iast hX dX4_forgets_24 g2 ?_
      refine s_iinc hX (y1 + (1 : Int32)) dX4_forgets_25 rfl rfl (Nat.le_of_ble_eq_true rfl) ?_
      refine s_goto hX 9 dX4_forgets_28 (by decide) ?_
      refine fs_ma [true, true] ?_
      exact ih (y1 + (1 : Int32)) (fs_u σ 60 ((7 : Int32) + y1).toNatClampNeg (0 : Int32)) μ out h k0
set_option maxRecDepth 20000 in
set_option maxHeartbeats 40000000 in
theorem l_X4_forgets_38   {X : fsC} (hX : fs_ok cX4_forgets RX4 2 { frames := 0, cells := 0, slots := 0, locals := 0 } X) : ∀ (n : Nat) (y1 : Int32) (σ : fsS) (μ : fsL) (out : fsS) (_ : L_X4_forgets_38  n y1 σ = some out) (k0 : fs_PW X 60 [none, none] [] out μ), fs_PW X 38 [some (.ref 51), some (.int y1)] [] σ μ := by
  intro n
  induction n with
  | zero =>
    intro y1 σ μ out h
    cases (show (none : Option (fsS)) = some out from h)
  | succ n0 ih =>
    intro y1 σ μ out h k0
    unfold L_X4_forgets_38 at h
    refine s_iload_n hX dX4_forgets_38 rfl ?_
    refine s_ic hX (3 : Int32) dX4_forgets_39 (by decide) ?_
    refine s_ic_ge hX 60 dX4_forgets_40 (by decide) (fun c4 => ?_) (fun c4 => ?_)
    · have h := (if_pos c4).symm.trans h
      cases h
      refine fs_ma [false, false] ?_
      exact k0
    · have h := (if_neg c4).symm.trans h
      refine s_aload_n hX dX4_forgets_43 rfl ?_
      refine s_getr hX dX4_forgets_44 f_X4_50 rfl ?_
      refine s_si hX (534 : Int32) dX4_forgets_47 (by decide) ?_
      refine s_iload_n hX dX4_forgets_50 rfl ?_
      refine s_imul hX dX4_forgets_51 ?_
      refine s_ic hX (-1 : Int32) dX4_forgets_52 (by decide) ?_
      obtain ⟨g5, h⟩ := fs_gd h
      refine s_iast hX dX4_forgets_53 g5 ?_
      refine s_iinc hX (y1 + (1 : Int32)) dX4_forgets_54 rfl rfl (Nat.le_of_ble_eq_true rfl) ?_
      refine s_goto hX 38 dX4_forgets_57 (by decide) ?_
      refine fs_ma [true, true] ?_
      exact ih (y1 + (1 : Int32)) (fs_u σ 64 ((534 : Int32) * y1).toNatClampNeg (-1 : Int32)) μ out h k0
set_option maxRecDepth 20000 in
set_option maxHeartbeats 40000000 in
theorem m_X4_forgets   (σ : fsS) (μ : fsL) (out : fsS) (h : F_X4_forgets  σ = some out) : fs_Met yX4_forgets cX4_forgets 2 none { frames := 0, cells := 0, slots := 0, locals := 0 } [.ref 51] σ μ none out μ := by
  unfold F_X4_forgets at h
  refine fs_intro (by decide +kernel) (Nat.le_of_ble_eq_true rfl) (fun X hX hR => ?_)
  show fs_PW X 0 [some (.ref 51), none] [] σ μ
  refine s_aload_n hX dX4_forgets_0 rfl ?_
  refine s_getr hX dX4_forgets_1 f_X4_38 rfl ?_
  refine s_ic hX (0 : Int32) dX4_forgets_4 (by decide) ?_
  refine s_ic hX (0 : Int32) dX4_forgets_5 (by decide) ?_
  refine s_iast hX dX4_forgets_6 (show fs_in (0 : Int32) 13 by decide) ?_
  refine s_ic hX (0 : Int32) dX4_forgets_7 (by decide) ?_
  refine s_istore_n hX dX4_forgets_8 (Nat.le_of_ble_eq_true rfl) ?_
  obtain ⟨q3, e3, h⟩ := fs_bind h
  refine fs_ma [true, true] ?_
  refine l_X4_forgets_9  hX fs_fu (0 : Int32) (fs_u σ 60 0 (0 : Int32)) μ q3 e3 ?_
  refine s_aload_n hX dX4_forgets_31 rfl ?_
  refine s_ic hX (0 : Int32) dX4_forgets_32 (by decide) ?_
  refine s_puti hX dX4_forgets_33 p_X4_94 rfl ?_
  refine s_ic hX (0 : Int32) dX4_forgets_36 (by decide) ?_
  refine s_istore_n hX dX4_forgets_37 (Nat.le_of_ble_eq_true rfl) ?_
  obtain ⟨q6, e6, h⟩ := fs_bind h
  refine fs_ma [true, true] ?_
  refine l_X4_forgets_38  hX fs_fu (0 : Int32) (fs_u q3 51 17 (0 : Int32)) μ q6 e6 ?_
  cases h
  exact s_vret hX hR dX4_forgets_60

-- X4_here
def F_X4_here (σ : fsS) : Option (Int32) := if (σ 51 20) ≤ (σ 51 19) then some (-1 : Int32) else fs_g (fs_in (((60 : Int32) * (σ 51 21)) + (σ 51 19)) 240) (some (σ 54 (((60 : Int32) * (σ 51 21)) + (σ 51 19)).toNatClampNeg))
set_option maxRecDepth 20000 in
set_option maxHeartbeats 40000000 in
theorem m_X4_here   (σ : fsS) (μ : fsL) (out : Int32) (h : F_X4_here  σ = some out) : fs_Met yX4_here cX4_here 1 (some .int) { frames := 0, cells := 0, slots := 0, locals := 0 } [.ref 51] σ μ (some (.int out)) σ μ := by
  unfold F_X4_here at h
  refine fs_intro (by decide +kernel) (Nat.le_of_ble_eq_true rfl) (fun X hX hR => ?_)
  show fs_PW X 0 [some (.ref 51)] [] σ μ
  refine s_aload_n hX dX4_here_0 rfl ?_
  refine s_geti hX dX4_here_1 f_X4_97 rfl ?_
  refine s_aload_n hX dX4_here_4 rfl ?_
  refine s_geti hX dX4_here_5 f_X4_100 rfl ?_
  refine s_ic_ge hX 31 dX4_here_8 (by decide) (fun c1 => ?_) (fun c1 => ?_)
  · have h := (if_pos c1).symm.trans h
    refine s_ic hX (-1 : Int32) dX4_here_31 (by decide) ?_
    cases h
    exact s_iret hX hR dX4_here_32
  · have h := (if_neg c1).symm.trans h
    refine s_aload_n hX dX4_here_11 rfl ?_
    refine s_getr hX dX4_here_12 f_X4_16 rfl ?_
    refine s_bi hX (60 : Int32) dX4_here_15 (by decide) ?_
    refine s_aload_n hX dX4_here_17 rfl ?_
    refine s_geti hX dX4_here_18 f_X4_103 rfl ?_
    refine s_imul hX dX4_here_21 ?_
    refine s_aload_n hX dX4_here_22 rfl ?_
    refine s_geti hX dX4_here_23 f_X4_97 rfl ?_
    refine s_iadd hX dX4_here_26 ?_
    obtain ⟨g2, h⟩ := fs_gd h
    refine s_iald hX dX4_here_27 g2 ?_
    refine s_goto hX 32 dX4_here_28 (by decide) ?_
    cases h
    exact s_iret hX hR dX4_here_32

-- X4_kindOf
def F_X4_kindOf (x0 : Int32) : Int32 := if x0 = (106 : Int32) then (4 : Int32) else if x0 = (107 : Int32) then (0 : Int32) else if x0 = (108 : Int32) then (-9 : Int32) else if x0 = (109 : Int32) then (2 : Int32) else if x0 = (110 : Int32) then (-9 : Int32) else if x0 = (111 : Int32) then (-9 : Int32) else if x0 = (112 : Int32) then (3 : Int32) else if x0 = (113 : Int32) then (-9 : Int32) else if x0 = (114 : Int32) then (-9 : Int32) else if x0 = (115 : Int32) then (1 : Int32) else if x0 = (116 : Int32) then (-9 : Int32) else if x0 = (117 : Int32) then (5 : Int32) else (-9 : Int32)
set_option maxRecDepth 20000 in
set_option maxHeartbeats 40000000 in
theorem m_X4_kindOf (x0 : Int32)  (σ : fsS) (μ : fsL) (out : Int32) (h : F_X4_kindOf x0 = out) : fs_Met yX4_kindOf cX4_kindOf 1 (some .int) { frames := 0, cells := 0, slots := 0, locals := 0 } [.int x0] σ μ (some (.int out)) σ μ := by
  unfold F_X4_kindOf at h
  refine fs_intro (by decide +kernel) (Nat.le_of_ble_eq_true rfl) (fun X hX hR => ?_)
  show fs_PW X 0 [some (.int x0)] [] σ μ
  refine s_iload_n hX dX4_kindOf_0 rfl ?_
  by_cases c1 : x0 = (106 : Int32)
  · have h := (if_pos c1).symm.trans h
    refine s_tabK hX 72 (106 : Int32) c1 dX4_kindOf_1 (by decide) (by decide) rfl (by decide) ?_
    refine s_ic hX (4 : Int32) dX4_kindOf_72 (by decide) ?_
    subst h
    exact s_iret hX hR dX4_kindOf_73
  · have h := (if_neg c1).symm.trans h
    by_cases c2 : x0 = (107 : Int32)
    · have h := (if_pos c2).symm.trans h
      refine s_tabK hX 64 (107 : Int32) c2 dX4_kindOf_1 (by decide) (by decide) rfl (by decide) ?_
      refine s_ic hX (0 : Int32) dX4_kindOf_64 (by decide) ?_
      subst h
      exact s_iret hX hR dX4_kindOf_65
    · have h := (if_neg c2).symm.trans h
      by_cases c3 : x0 = (108 : Int32)
      · have h := (if_pos c3).symm.trans h
        refine s_tabK hX 76 (108 : Int32) c3 dX4_kindOf_1 (by decide) (by decide) rfl (by decide) ?_
        refine s_bi hX (-9 : Int32) dX4_kindOf_76 (by decide) ?_
        subst h
        exact s_iret hX hR dX4_kindOf_78
      · have h := (if_neg c3).symm.trans h
        by_cases c4 : x0 = (109 : Int32)
        · have h := (if_pos c4).symm.trans h
          refine s_tabK hX 68 (109 : Int32) c4 dX4_kindOf_1 (by decide) (by decide) rfl (by decide) ?_
          refine s_ic hX (2 : Int32) dX4_kindOf_68 (by decide) ?_
          subst h
          exact s_iret hX hR dX4_kindOf_69
        · have h := (if_neg c4).symm.trans h
          by_cases c5 : x0 = (110 : Int32)
          · have h := (if_pos c5).symm.trans h
            refine s_tabK hX 76 (110 : Int32) c5 dX4_kindOf_1 (by decide) (by decide) rfl (by decide) ?_
            refine s_bi hX (-9 : Int32) dX4_kindOf_76 (by decide) ?_
            subst h
            exact s_iret hX hR dX4_kindOf_78
          · have h := (if_neg c5).symm.trans h
            by_cases c6 : x0 = (111 : Int32)
            · have h := (if_pos c6).symm.trans h
              refine s_tabK hX 76 (111 : Int32) c6 dX4_kindOf_1 (by decide) (by decide) rfl (by decide) ?_
              refine s_bi hX (-9 : Int32) dX4_kindOf_76 (by decide) ?_
              subst h
              exact s_iret hX hR dX4_kindOf_78
            · have h := (if_neg c6).symm.trans h
              by_cases c7 : x0 = (112 : Int32)
              · have h := (if_pos c7).symm.trans h
                refine s_tabK hX 70 (112 : Int32) c7 dX4_kindOf_1 (by decide) (by decide) rfl (by decide) ?_
                refine s_ic hX (3 : Int32) dX4_kindOf_70 (by decide) ?_
                subst h
                exact s_iret hX hR dX4_kindOf_71
              · have h := (if_neg c7).symm.trans h
                by_cases c8 : x0 = (113 : Int32)
                · have h := (if_pos c8).symm.trans h
                  refine s_tabK hX 76 (113 : Int32) c8 dX4_kindOf_1 (by decide) (by decide) rfl (by decide) ?_
                  refine s_bi hX (-9 : Int32) dX4_kindOf_76 (by decide) ?_
                  subst h
                  exact s_iret hX hR dX4_kindOf_78
                · have h := (if_neg c8).symm.trans h
                  by_cases c9 : x0 = (114 : Int32)
                  · have h := (if_pos c9).symm.trans h
                    refine s_tabK hX 76 (114 : Int32) c9 dX4_kindOf_1 (by decide) (by decide) rfl (by decide) ?_
                    refine s_bi hX (-9 : Int32) dX4_kindOf_76 (by decide) ?_
                    subst h
                    exact s_iret hX hR dX4_kindOf_78
                  · have h := (if_neg c9).symm.trans h
                    by_cases c10 : x0 = (115 : Int32)
                    · have h := (if_pos c10).symm.trans h
                      refine s_tabK hX 66 (115 : Int32) c10 dX4_kindOf_1 (by decide) (by decide) rfl (by decide) ?_
                      refine s_ic hX (1 : Int32) dX4_kindOf_66 (by decide) ?_
                      subst h
                      exact s_iret hX hR dX4_kindOf_67
                    · have h := (if_neg c10).symm.trans h
                      by_cases c11 : x0 = (116 : Int32)
                      · have h := (if_pos c11).symm.trans h
                        refine s_tabK hX 76 (116 : Int32) c11 dX4_kindOf_1 (by decide) (by decide) rfl (by decide) ?_
                        refine s_bi hX (-9 : Int32) dX4_kindOf_76 (by decide) ?_
                        subst h
                        exact s_iret hX hR dX4_kindOf_78
                      · have h := (if_neg c11).symm.trans h
                        by_cases c12 : x0 = (117 : Int32)
                        · have h := (if_pos c12).symm.trans h
                          refine s_tabK hX 74 (117 : Int32) c12 dX4_kindOf_1 (by decide) (by decide) rfl (by decide) ?_
                          refine s_ic hX (5 : Int32) dX4_kindOf_74 (by decide) ?_
                          subst h
                          exact s_iret hX hR dX4_kindOf_75
                        · have h := (if_neg c12).symm.trans h
                          have wc1 := fs_ne (z := 106) c1 (by decide)
                          have wc2 := fs_ne (z := 107) c2 (by decide)
                          have wc3 := fs_ne (z := 108) c3 (by decide)
                          have wc4 := fs_ne (z := 109) c4 (by decide)
                          have wc5 := fs_ne (z := 110) c5 (by decide)
                          have wc6 := fs_ne (z := 111) c6 (by decide)
                          have wc7 := fs_ne (z := 112) c7 (by decide)
                          have wc8 := fs_ne (z := 113) c8 (by decide)
                          have wc9 := fs_ne (z := 114) c9 (by decide)
                          have wc10 := fs_ne (z := 115) c10 (by decide)
                          have wc11 := fs_ne (z := 116) c11 (by decide)
                          have wc12 := fs_ne (z := 117) c12 (by decide)
                          refine s_tabOut hX 76 dX4_kindOf_1 (by omega) (by decide) ?_
                          refine s_bi hX (-9 : Int32) dX4_kindOf_76 (by decide) ?_
                          subst h
                          exact s_iret hX hR dX4_kindOf_78

-- X4_isFigure
def F_X4_isFigure (σ : fsS) : Option (Int32 × fsS) := (F_X4_here  σ).bind (fun q1 => if (F_X4_in (q1.toInt64) (48 : Int64) (57 : Int64)) = 0 then some ((0 : Int32), σ) else (F_X4_here  σ).bind (fun q3 => some ((1 : Int32), (fs_u (fs_u σ 51 22 (q3 - (48 : Int32))) 51 19 ((σ 51 19) + (1 : Int32))))))
set_option maxRecDepth 20000 in
set_option maxHeartbeats 40000000 in
theorem m_X4_isFigure   (σ : fsS) (μ : fsL) (out : Int32 × fsS) (h : F_X4_isFigure  σ = some out) : fs_Met yX4_isFigure cX4_isFigure 1 (some .boolean) { frames := 1, cells := 0, slots := 0, locals := 25 } [.ref 51] σ μ (some (.int out.1)) out.2 μ := by
  unfold F_X4_isFigure at h
  refine fs_intro (by decide +kernel) (Nat.le_of_ble_eq_true rfl) (fun X hX hR => ?_)
  show fs_PW X 0 [some (.ref 51)] [] σ μ
  refine s_aload_n hX dX4_isFigure_0 rfl ?_
  obtain ⟨q1, e1, h⟩ := fs_bind h
  refine s_cV hX [] dX4_isFigure_1 k_X4_106 v_X4_here (m_X4_here σ μ q1 e1) ⟨_, rfl⟩ fs_c4 ⟨rfl, rfl⟩ ⟨(Nat.le_of_ble_eq_true rfl), (Nat.le_of_ble_eq_true rfl)⟩ rfl rfl (Nat.le_of_ble_eq_true rfl) ?_
  refine s_i2l hX dX4_isFigure_4 ?_
  refine s_ldc2 hX (48 : Int64) dX4_isFigure_5 q_X4_110 ?_
  refine s_ldc2 hX (57 : Int64) dX4_isFigure_8 q_X4_112 ?_
  refine s_callS hX (as := [.long (q1.toInt64), .long (48 : Int64), .long (57 : Int64)]) dX4_isFigure_11 k_X4_74 v_X4_in (m_X4_in (q1.toInt64) (48 : Int64) (57 : Int64) σ μ _ rfl) ⟨rfl, rfl⟩ ⟨(Nat.le_of_ble_eq_true rfl), (Nat.le_of_ble_eq_true rfl)⟩ rfl rfl (Nat.le_of_ble_eq_true rfl) ?_
  refine s_if_ne hX 19 dX4_isFigure_14 (by decide) (fun c2 => ?_) (fun c2 => ?_)
  · have h := (if_neg c2).symm.trans h
    refine s_aload_n hX dX4_isFigure_19 rfl ?_
    refine s_aload_n hX dX4_isFigure_20 rfl ?_
    obtain ⟨q3, e3, h⟩ := fs_bind h
    refine s_cV hX [] dX4_isFigure_21 k_X4_106 v_X4_here (m_X4_here σ μ q3 e3) ⟨_, rfl⟩ fs_c4 ⟨rfl, rfl⟩ ⟨(Nat.le_of_ble_eq_true rfl), (Nat.le_of_ble_eq_true rfl)⟩ rfl rfl (Nat.le_of_ble_eq_true rfl) ?_
    refine s_bi hX (48 : Int32) dX4_isFigure_24 (by decide) ?_
    refine s_isub hX dX4_isFigure_26 ?_
    refine s_puti hX dX4_isFigure_27 p_X4_114 rfl ?_
    refine s_aload_n hX dX4_isFigure_30 rfl ?_
    refine s_dup hX dX4_isFigure_31 rfl ?_
    refine s_geti hX dX4_isFigure_32 f_X4_97 rfl ?_
    refine s_ic hX (1 : Int32) dX4_isFigure_35 (by decide) ?_
    refine s_iadd hX dX4_isFigure_36 ?_
    refine s_puti hX dX4_isFigure_37 p_X4_97 rfl ?_
    refine s_ic hX (1 : Int32) dX4_isFigure_40 (by decide) ?_
    cases h
    exact s_zret hX (Or.inr rfl) hR dX4_isFigure_41
  · have h := (if_pos c2).symm.trans h
    refine s_ic hX (0 : Int32) dX4_isFigure_17 (by decide) ?_
    cases h
    exact s_zret hX (Or.inl rfl) hR dX4_isFigure_18

-- X4_skips
def L_X4_skips_0  : Nat → fsS → Option (fsS)
  | 0, _ => none
  | n0 + 1, σ => (F_X4_here  σ).bind (fun q1 => if q1 = (32 : Int32) then L_X4_skips_0  n0  (fs_u σ 51 19 ((σ 51 19) + (1 : Int32))) else some σ)
def F_X4_skips (σ : fsS) : Option (fsS) := (L_X4_skips_0  fs_fu  σ).bind (fun q3 => some q3)
set_option maxRecDepth 20000 in
set_option maxHeartbeats 40000000 in
theorem l_X4_skips_0   {X : fsC} (hX : fs_ok cX4_skips RX4 1 { frames := 1, cells := 0, slots := 0, locals := 20 } X) : ∀ (n : Nat)  (σ : fsS) (μ : fsL) (out : fsS) (_ : L_X4_skips_0  n  σ = some out) (k0 : fs_PW X 22 [none] [] out μ), fs_PW X 0 [some (.ref 51)] [] σ μ := by
  intro n
  induction n with
  | zero =>
    intro  σ μ out h
    cases (show (none : Option (fsS)) = some out from h)
  | succ n0 ih =>
    intro  σ μ out h k0
    unfold L_X4_skips_0 at h
    refine s_aload_n hX dX4_skips_0 rfl ?_
    obtain ⟨q1, e1, h⟩ := fs_bind h
    refine s_cV hX [] dX4_skips_1 k_X4_106 v_X4_here (m_X4_here σ μ q1 e1) ⟨_, rfl⟩ fs_c4 ⟨rfl, rfl⟩ ⟨(Nat.le_of_ble_eq_true rfl), (Nat.le_of_ble_eq_true rfl)⟩ rfl rfl (Nat.le_of_ble_eq_true rfl) ?_
    refine s_bi hX (32 : Int32) dX4_skips_4 (by decide) ?_
    refine s_ic_ne hX 22 dX4_skips_6 (by decide) (fun c2 => ?_) (fun c2 => ?_)
    · have h := (if_neg c2).symm.trans h
      cases h
      refine fs_ma [false] ?_
      exact k0
    · have h := (if_pos c2).symm.trans h
      refine s_aload_n hX dX4_skips_9 rfl ?_
      refine s_dup hX dX4_skips_10 rfl ?_
      refine s_geti hX dX4_skips_11 f_X4_97 rfl ?_
      refine s_ic hX (1 : Int32) dX4_skips_14 (by decide) ?_
      refine s_iadd hX dX4_skips_15 ?_
      refine s_puti hX dX4_skips_16 p_X4_97 rfl ?_
      refine s_goto hX 0 dX4_skips_19 (by decide) ?_
      refine fs_ma [true] ?_
      exact ih  (fs_u σ 51 19 ((σ 51 19) + (1 : Int32))) μ out h k0
set_option maxRecDepth 20000 in
set_option maxHeartbeats 40000000 in
theorem m_X4_skips   (σ : fsS) (μ : fsL) (out : fsS) (h : F_X4_skips  σ = some out) : fs_Met yX4_skips cX4_skips 1 none { frames := 1, cells := 0, slots := 0, locals := 20 } [.ref 51] σ μ none out μ := by
  unfold F_X4_skips at h
  refine fs_intro (by decide +kernel) (Nat.le_of_ble_eq_true rfl) (fun X hX hR => ?_)
  show fs_PW X 0 [some (.ref 51)] [] σ μ
  obtain ⟨q3, e3, h⟩ := fs_bind h
  refine fs_ma [true] ?_
  refine l_X4_skips_0  hX fs_fu  σ μ q3 e3 ?_
  cases h
  exact s_vret hX hR dX4_skips_22

-- X4_readsOne
def L_X4_readsOne_49  : Nat → Int32 → fsS → Option (Nat × fsS)
  | 0, _, _ => none
  | n0 + 1, y2, σ => if (5 : Int32) ≤ y2 then some (1, σ) else (F_X4_isFigure  σ).bind (fun q6 => if q6.1 = 0 then some (0, q6.2) else fs_g (fs_in (((5 : Int32) * (q6.2 51 23)) + y2) 30) (L_X4_readsOne_49  n0 (y2 + (1 : Int32)) (fs_u q6.2 65 (((5 : Int32) * (q6.2 51 23)) + y2).toNatClampNeg (q6.2 51 22))))
def F_X4_readsOne (σ : fsS) : Option (Int32 × fsS) := (F_X4_here  σ).bind (fun q1 => if (F_X4_kindOf q1) = (-9 : Int32) then some ((0 : Int32), σ) else if (σ 51 23) = (6 : Int32) then some ((0 : Int32), σ) else fs_g (fs_in ((5 : Int32) * (σ 51 23)) 30) ((L_X4_readsOne_49  fs_fu (1 : Int32) (fs_u (fs_u σ 51 19 ((σ 51 19) + (1 : Int32))) 65 ((5 : Int32) * (σ 51 23)).toNatClampNeg (F_X4_kindOf q1))).bind (fun q9 => if q9.1 = 0 then some ((0 : Int32), q9.2) else some ((1 : Int32), (fs_u q9.2 51 23 ((q9.2 51 23) + (1 : Int32)))))))
set_option maxRecDepth 20000 in
set_option maxHeartbeats 40000000 in
theorem l_X4_readsOne_49   {X : fsC} (hX : fs_ok cX4_readsOne RX4 3 { frames := 2, cells := 0, slots := 0, locals := 45 } X) : ∀ (n : Nat) (y2 : Int32) (σ : fsS) (μ : fsL) (out : Nat × fsS) (_ : L_X4_readsOne_49  n y2 σ = some out) (k0 : out.1 = 0 → fs_PW X 61 [none, none, none] [] out.2 μ) (k1 : out.1 = 1 → fs_PW X 86 [some (.ref 51), none, none] [] out.2 μ), fs_PW X 49 [some (.ref 51), none, some (.int y2)] [] σ μ := by
  intro n
  induction n with
  | zero =>
    intro y2 σ μ out h
    cases (show (none : Option (Nat × fsS)) = some out from h)
  | succ n0 ih =>
    intro y2 σ μ out h k0 k1
    unfold L_X4_readsOne_49 at h
    refine s_iload_n hX dX4_readsOne_49 rfl ?_
    refine s_ic hX (5 : Int32) dX4_readsOne_50 (by decide) ?_
    refine s_ic_ge hX 86 dX4_readsOne_51 (by decide) (fun c5 => ?_) (fun c5 => ?_)
    · have h := (if_pos c5).symm.trans h
      cases h
      refine fs_ma [true, false, false] ?_
      exact k1 rfl
    · have h := (if_neg c5).symm.trans h
      refine s_aload_n hX dX4_readsOne_54 rfl ?_
      obtain ⟨q6, e6, h⟩ := fs_bind h
      refine s_cV hX [] dX4_readsOne_55 k_X4_123 v_X4_isFigure (m_X4_isFigure σ μ q6 e6) ⟨_, rfl⟩ fs_c4 ⟨rfl, rfl⟩ ⟨(Nat.le_of_ble_eq_true rfl), (Nat.le_of_ble_eq_true rfl)⟩ rfl rfl (Nat.le_of_ble_eq_true rfl) ?_
      refine s_if_ne hX 63 dX4_readsOne_58 (by decide) (fun c7 => ?_) (fun c7 => ?_)
      · have h := (if_neg c7).symm.trans h
        refine s_aload_n hX dX4_readsOne_63 rfl ?_
        refine s_getr hX dX4_readsOne_64 f_X4_53 rfl ?_
        refine s_ic hX (5 : Int32) dX4_readsOne_67 (by decide) ?_
        refine s_aload_n hX dX4_readsOne_68 rfl ?_
        refine s_geti hX dX4_readsOne_69 f_X4_120 rfl ?_
        refine s_imul hX dX4_readsOne_72 ?_
        refine s_iload_n hX dX4_readsOne_73 rfl ?_
        refine s_iadd hX dX4_readsOne_74 ?_
        refine s_aload_n hX dX4_readsOne_75 rfl ?_
        refine s_geti hX dX4_readsOne_76 f_X4_114 rfl ?_
        obtain ⟨g8, h⟩ := fs_gd h
        refine s_iast hX dX4_readsOne_79 g8 ?_
        refine s_iinc hX (y2 + (1 : Int32)) dX4_readsOne_80 rfl rfl (Nat.le_of_ble_eq_true rfl) ?_
        refine s_goto hX 49 dX4_readsOne_83 (by decide) ?_
        refine fs_ma [true, false, true] ?_
        exact ih (y2 + (1 : Int32)) (fs_u q6.2 65 (((5 : Int32) * (q6.2 51 23)) + y2).toNatClampNeg (q6.2 51 22)) μ out h k0 k1
      · have h := (if_pos c7).symm.trans h
        cases h
        refine fs_ma [false, false, false] ?_
        exact k0 rfl
set_option maxRecDepth 20000 in
set_option maxHeartbeats 40000000 in
theorem m_X4_readsOne   (σ : fsS) (μ : fsL) (out : Int32 × fsS) (h : F_X4_readsOne  σ = some out) : fs_Met yX4_readsOne cX4_readsOne 3 (some .boolean) { frames := 2, cells := 0, slots := 0, locals := 45 } [.ref 51] σ μ (some (.int out.1)) out.2 μ := by
  unfold F_X4_readsOne at h
  refine fs_intro (by decide +kernel) (Nat.le_of_ble_eq_true rfl) (fun X hX hR => ?_)
  show fs_PW X 0 [some (.ref 51), none, none] [] σ μ
  refine s_aload_n hX dX4_readsOne_0 rfl ?_
  obtain ⟨q1, e1, h⟩ := fs_bind h
  refine s_cV hX [] dX4_readsOne_1 k_X4_106 v_X4_here (m_X4_here σ μ q1 e1) ⟨_, rfl⟩ fs_c4 ⟨rfl, rfl⟩ ⟨(Nat.le_of_ble_eq_true rfl), (Nat.le_of_ble_eq_true rfl)⟩ rfl rfl (Nat.le_of_ble_eq_true rfl) ?_
  refine s_callS hX (as := [.int q1]) dX4_readsOne_4 k_X4_117 v_X4_kindOf (m_X4_kindOf q1 σ μ _ rfl) ⟨rfl, rfl⟩ ⟨(Nat.le_of_ble_eq_true rfl), (Nat.le_of_ble_eq_true rfl)⟩ rfl rfl (Nat.le_of_ble_eq_true rfl) ?_
  refine s_istore_n hX dX4_readsOne_7 (Nat.le_of_ble_eq_true rfl) ?_
  refine s_iload_n hX dX4_readsOne_8 rfl ?_
  refine s_bi hX (-9 : Int32) dX4_readsOne_9 (by decide) ?_
  refine s_ic_eq hX 23 dX4_readsOne_11 (by decide) (fun c2 => ?_) (fun c2 => ?_)
  · have h := (if_pos c2).symm.trans h
    refine s_ic hX (0 : Int32) dX4_readsOne_23 (by decide) ?_
    cases h
    exact s_zret hX (Or.inl rfl) hR dX4_readsOne_24
  · have h := (if_neg c2).symm.trans h
    refine s_aload_n hX dX4_readsOne_14 rfl ?_
    refine s_geti hX dX4_readsOne_15 f_X4_120 rfl ?_
    refine s_bi hX (6 : Int32) dX4_readsOne_18 (by decide) ?_
    refine s_ic_ne hX 25 dX4_readsOne_20 (by decide) (fun c3 => ?_) (fun c3 => ?_)
    · have h := (if_neg c3).symm.trans h
      refine s_aload_n hX dX4_readsOne_25 rfl ?_
      refine s_dup hX dX4_readsOne_26 rfl ?_
      refine s_geti hX dX4_readsOne_27 f_X4_97 rfl ?_
      refine s_ic hX (1 : Int32) dX4_readsOne_30 (by decide) ?_
      refine s_iadd hX dX4_readsOne_31 ?_
      refine s_puti hX dX4_readsOne_32 p_X4_97 rfl ?_
      refine s_aload_n hX dX4_readsOne_35 rfl ?_
      refine s_getr hX dX4_readsOne_36 f_X4_53 rfl ?_
      refine s_ic hX (5 : Int32) dX4_readsOne_39 (by decide) ?_
      refine s_aload_n hX dX4_readsOne_40 rfl ?_
      refine s_geti hX dX4_readsOne_41 f_X4_120 rfl ?_
      refine s_imul hX dX4_readsOne_44 ?_
      refine s_iload_n hX dX4_readsOne_45 rfl ?_
      obtain ⟨g4, h⟩ := fs_gd h
      refine s_iast hX dX4_readsOne_46 g4 ?_
      refine s_ic hX (1 : Int32) dX4_readsOne_47 (by decide) ?_
      refine s_istore_n hX dX4_readsOne_48 (Nat.le_of_ble_eq_true rfl) ?_
      obtain ⟨q9, e9, h⟩ := fs_bind h
      refine fs_ma [true, false, true] ?_
      refine l_X4_readsOne_49  hX fs_fu (1 : Int32) (fs_u (fs_u σ 51 19 ((σ 51 19) + (1 : Int32))) 65 ((5 : Int32) * (σ 51 23)).toNatClampNeg (F_X4_kindOf q1)) μ q9 e9 (fun c10 => ?_) (fun c10 => ?_)
      · have h := (if_pos c10).symm.trans h
        refine s_ic hX (0 : Int32) dX4_readsOne_61 (by decide) ?_
        cases h
        exact s_zret hX (Or.inl rfl) hR dX4_readsOne_62
      · have h := (if_neg (show ¬ q9.1 = 0 by rw [c10]; decide)).symm.trans h
        refine s_aload_n hX dX4_readsOne_86 rfl ?_
        refine s_dup hX dX4_readsOne_87 rfl ?_
        refine s_geti hX dX4_readsOne_88 f_X4_120 rfl ?_
        refine s_ic hX (1 : Int32) dX4_readsOne_91 (by decide) ?_
        refine s_iadd hX dX4_readsOne_92 ?_
        refine s_puti hX dX4_readsOne_93 p_X4_120 rfl ?_
        refine s_ic hX (1 : Int32) dX4_readsOne_96 (by decide) ?_
        cases h
        exact s_zret hX (Or.inr rfl) hR dX4_readsOne_97
    · have h := (if_pos c3).symm.trans h
      refine s_ic hX (0 : Int32) dX4_readsOne_23 (by decide) ?_
      cases h
      exact s_zret hX (Or.inl rfl) hR dX4_readsOne_24

-- X4_reads
def L_X4_reads_31  : Nat → Int32 → fsS → Option (Int32 × fsS)
  | 0, _, _ => none
  | n0 + 1, y2, σ => if (σ 51 20) ≤ (σ 51 19) then some (y2, σ) else if y2 = 0 then some (y2, σ) else (F_X4_readsOne  σ).bind (fun q5 => if q5.1 = 0 then L_X4_reads_31  n0 q5.1 q5.2 else (F_X4_skips  q5.2).bind (fun q7 => L_X4_reads_31  n0 q5.1 q7))
def F_X4_reads (x1 : Int32) (σ : fsS) : Option (Int32 × fsS) := fs_g (fs_in x1 4) ((F_X4_skips  (fs_u (fs_u (fs_u (fs_u σ 51 21 x1) 51 20 (σ 55 x1.toNatClampNeg)) 51 19 (0 : Int32)) 51 23 (0 : Int32))).bind (fun q2 => (L_X4_reads_31  fs_fu (1 : Int32) q2).bind (fun q8 => if q8.1 = 0 then some ((q8.2 51 19), q8.2) else if (q8.2 51 23) ≤ (1 : Int32) then some ((q8.2 51 19), q8.2) else some ((-9 : Int32), q8.2))))
set_option maxRecDepth 20000 in
set_option maxHeartbeats 40000000 in
theorem l_X4_reads_31   {X : fsC} (hX : fs_ok cX4_reads RX4 3 { frames := 3, cells := 0, slots := 0, locals := 67 } X) : ∀ (n : Nat) (y2 : Int32) (σ : fsS) (μ : fsL) (out : Int32 × fsS) (_ : L_X4_reads_31  n y2 σ = some out) (k0 : fs_PW X 62 [some (.ref 51), none, some (.int out.1)] [] out.2 μ), fs_PW X 31 [some (.ref 51), none, some (.int y2)] [] σ μ := by
  intro n
  induction n with
  | zero =>
    intro y2 σ μ out h
    cases (show (none : Option (Int32 × fsS)) = some out from h)
  | succ n0 ih =>
    intro y2 σ μ out h k0
    unfold L_X4_reads_31 at h
    refine s_aload_n hX dX4_reads_31 rfl ?_
    refine s_geti hX dX4_reads_32 f_X4_97 rfl ?_
    refine s_aload_n hX dX4_reads_35 rfl ?_
    refine s_geti hX dX4_reads_36 f_X4_100 rfl ?_
    refine s_ic_ge hX 62 dX4_reads_39 (by decide) (fun c3 => ?_) (fun c3 => ?_)
    · have h := (if_pos c3).symm.trans h
      cases h
      refine fs_ma [true, false, true] ?_
      exact k0
    · have h := (if_neg c3).symm.trans h
      refine s_iload_n hX dX4_reads_42 rfl ?_
      refine s_if_eq hX 62 dX4_reads_43 (by decide) (fun c4 => ?_) (fun c4 => ?_)
      · have h := (if_pos c4).symm.trans h
        cases h
        refine fs_ma [true, false, true] ?_
        exact k0
      · have h := (if_neg c4).symm.trans h
        refine s_aload_n hX dX4_reads_46 rfl ?_
        obtain ⟨q5, e5, h⟩ := fs_bind h
        refine s_cV hX [] dX4_reads_47 k_X4_130 v_X4_readsOne (m_X4_readsOne σ μ q5 e5) ⟨_, rfl⟩ fs_c4 ⟨rfl, rfl⟩ ⟨(Nat.le_of_ble_eq_true rfl), (Nat.le_of_ble_eq_true rfl)⟩ rfl rfl (Nat.le_of_ble_eq_true rfl) ?_
        refine s_istore_n hX dX4_reads_50 (Nat.le_of_ble_eq_true rfl) ?_
        refine s_iload_n hX dX4_reads_51 rfl ?_
        refine s_if_eq hX 31 dX4_reads_52 (by decide) (fun c6 => ?_) (fun c6 => ?_)
        · have h := (if_pos c6).symm.trans h
          refine fs_ma [true, false, true] ?_
          exact ih q5.1 q5.2 μ out h k0
        · have h := (if_neg c6).symm.trans h
          refine s_aload_n hX dX4_reads_55 rfl ?_
          obtain ⟨q7, e7, h⟩ := fs_bind h
          refine s_cV hX [] dX4_reads_56 k_X4_127 v_X4_skips (m_X4_skips q5.2 μ q7 e7) ⟨_, rfl⟩ fs_c4 ⟨rfl, rfl⟩ ⟨(Nat.le_of_ble_eq_true rfl), (Nat.le_of_ble_eq_true rfl)⟩ rfl rfl (Nat.le_of_ble_eq_true rfl) ?_
          refine s_goto hX 31 dX4_reads_59 (by decide) ?_
          refine fs_ma [true, false, true] ?_
          exact ih q5.1 q7 μ out h k0
set_option maxRecDepth 20000 in
set_option maxHeartbeats 40000000 in
theorem m_X4_reads (x1 : Int32)  (σ : fsS) (μ : fsL) (out : Int32 × fsS) (h : F_X4_reads x1 σ = some out) : fs_Met yX4_reads cX4_reads 3 (some .int) { frames := 3, cells := 0, slots := 0, locals := 67 } [.ref 51, .int x1] σ μ (some (.int out.1)) out.2 μ := by
  unfold F_X4_reads at h
  refine fs_intro (by decide +kernel) (Nat.le_of_ble_eq_true rfl) (fun X hX hR => ?_)
  show fs_PW X 0 [some (.ref 51), some (.int x1), none] [] σ μ
  refine s_aload_n hX dX4_reads_0 rfl ?_
  refine s_iload_n hX dX4_reads_1 rfl ?_
  refine s_puti hX dX4_reads_2 p_X4_103 rfl ?_
  refine s_aload_n hX dX4_reads_5 rfl ?_
  refine s_aload_n hX dX4_reads_6 rfl ?_
  refine s_getr hX dX4_reads_7 f_X4_19 rfl ?_
  refine s_iload_n hX dX4_reads_10 rfl ?_
  obtain ⟨g1, h⟩ := fs_gd h
  refine s_iald hX dX4_reads_11 g1 ?_
  refine s_puti hX dX4_reads_12 p_X4_100 rfl ?_
  refine s_aload_n hX dX4_reads_15 rfl ?_
  refine s_ic hX (0 : Int32) dX4_reads_16 (by decide) ?_
  refine s_puti hX dX4_reads_17 p_X4_97 rfl ?_
  refine s_aload_n hX dX4_reads_20 rfl ?_
  refine s_ic hX (0 : Int32) dX4_reads_21 (by decide) ?_
  refine s_puti hX dX4_reads_22 p_X4_120 rfl ?_
  refine s_ic hX (1 : Int32) dX4_reads_25 (by decide) ?_
  refine s_istore_n hX dX4_reads_26 (Nat.le_of_ble_eq_true rfl) ?_
  refine s_aload_n hX dX4_reads_27 rfl ?_
  obtain ⟨q2, e2, h⟩ := fs_bind h
  refine s_cV hX [] dX4_reads_28 k_X4_127 v_X4_skips (m_X4_skips (fs_u (fs_u (fs_u (fs_u σ 51 21 x1) 51 20 (σ 55 x1.toNatClampNeg)) 51 19 (0 : Int32)) 51 23 (0 : Int32)) μ q2 e2) ⟨_, rfl⟩ fs_c4 ⟨rfl, rfl⟩ ⟨(Nat.le_of_ble_eq_true rfl), (Nat.le_of_ble_eq_true rfl)⟩ rfl rfl (Nat.le_of_ble_eq_true rfl) ?_
  obtain ⟨q8, e8, h⟩ := fs_bind h
  refine fs_ma [true, false, true] ?_
  refine l_X4_reads_31  hX fs_fu (1 : Int32) q2 μ q8 e8 ?_
  refine s_iload_n hX dX4_reads_62 rfl ?_
  refine s_if_eq hX 79 dX4_reads_63 (by decide) (fun c9 => ?_) (fun c9 => ?_)
  · have h := (if_pos c9).symm.trans h
    refine s_aload_n hX dX4_reads_79 rfl ?_
    refine s_geti hX dX4_reads_80 f_X4_97 rfl ?_
    cases h
    exact s_iret hX hR dX4_reads_83
  · have h := (if_neg c9).symm.trans h
    refine s_aload_n hX dX4_reads_66 rfl ?_
    refine s_geti hX dX4_reads_67 f_X4_120 rfl ?_
    refine s_ic hX (1 : Int32) dX4_reads_70 (by decide) ?_
    refine s_ic_le hX 79 dX4_reads_71 (by decide) (fun c10 => ?_) (fun c10 => ?_)
    · have h := (if_pos c10).symm.trans h
      refine s_aload_n hX dX4_reads_79 rfl ?_
      refine s_geti hX dX4_reads_80 f_X4_97 rfl ?_
      cases h
      exact s_iret hX hR dX4_reads_83
    · have h := (if_neg c10).symm.trans h
      refine s_bi hX (-9 : Int32) dX4_reads_74 (by decide) ?_
      refine s_goto hX 83 dX4_reads_76 (by decide) ?_
      cases h
      exact s_iret hX hR dX4_reads_83
