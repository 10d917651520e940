-- X4_mill
def L_X4_mill_38  : Nat → Int32 → Int32 → Int32 → fsS → Option (Nat × Int32)
  | 0, _, _, _, _ => none
  | n0 + 1, y1, y2, y3, σ => if (σ 51 9) ≤ y3 then some (1, (0 : Int32)) else fs_g (fs_in ((1 : Int32) + y3) 13) (if (σ 61 ((1 : Int32) + y3).toNatClampNeg) < y1 then L_X4_mill_38  n0 y1 y2 (y3 + (1 : Int32)) σ else some (0, y3))
def L_X4_mill_30  : Nat → Int32 → Int32 → fsS → Option (Nat × Int32 × Int32 × fsS)
  | 0, _, _, _ => none
  | n0 + 1, y1, y2, σ => if (61 : Int32) ≤ y2 then some (1, (0 : Int32), (0 : Int32), σ) else (L_X4_mill_38  fs_fu y1 y2 (0 : Int32) σ).bind (fun q8 => if q8.1 = 0 then some (0, y2, q8.2, σ) else (F_X4_goes 61 σ).bind (fun q10 => L_X4_mill_30  n0 y1 (y2 + (1 : Int32)) q10.2))
def F_X4_mill (x1 : Int32) (σ : fsS) : Option (Int32 × fsS) := if (F_X4_in (x1.toInt64) (0 : Int64) (99 : Int64)) = 0 then some ((-1 : Int32), σ) else if (σ 51 9) = 0 then some ((-4 : Int32), σ) else (F_X4_layAside  σ).bind (fun q3 => (L_X4_mill_30  fs_fu x1 (0 : Int32) q3).bind (fun q11 => if q11.1 = 0 then some ((F_X4_answer q11.2.2.1 q11.2.1 q11.2.2.2).1, (F_X4_answer q11.2.2.1 q11.2.1 q11.2.2.2).2) else some ((-9 : Int32), q11.2.2.2)))
set_option maxRecDepth 20000 in
set_option maxHeartbeats 40000000 in
theorem l_X4_mill_38   {X : fsC} (hX : fs_ok cX4_mill RX4 4 { frames := 4, cells := 0, slots := 0, locals := 93 } X) : ∀ (n : Nat) (y1 : Int32) (y2 : Int32) (y3 : Int32) (σ : fsS) (μ : fsL) (out : Nat × Int32) (_ : L_X4_mill_38  n y1 y2 y3 σ = some out) (k0 : out.1 = 0 → fs_PW X 58 [some (.ref 51), none, some (.int y2), some (.int out.2)] [] σ μ) (k1 : out.1 = 1 → fs_PW X 71 [some (.ref 51), some (.int y1), some (.int y2), none] [] σ μ), fs_PW X 38 [some (.ref 51), some (.int y1), some (.int y2), some (.int y3)] [] σ μ := by
  intro n
  induction n with
  | zero =>
    intro y1 y2 y3 σ μ out h
    cases (show (none : Option (Nat × Int32)) = some out from h)
  | succ n0 ih =>
    intro y1 y2 y3 σ μ out h k0 k1
    unfold L_X4_mill_38 at h
    refine s_iload_n hX dX4_mill_38 rfl ?_
    refine s_aload_n hX dX4_mill_39 rfl ?_
    refine s_geti hX dX4_mill_40 f_X4_136 rfl ?_
    refine s_ic_ge hX 71 dX4_mill_43 (by decide) (fun c5 => ?_) (fun c5 => ?_)
    · have h := (if_pos c5).symm.trans h
      cases h
      refine fs_ma [true, true, true, false] ?_
      exact k1 rfl
    · have h := (if_neg c5).symm.trans h
      refine s_aload_n hX dX4_mill_46 rfl ?_
      refine s_getr hX dX4_mill_47 f_X4_41 rfl ?_
      refine s_ic hX (1 : Int32) dX4_mill_50 (by decide) ?_
      refine s_iload_n hX dX4_mill_51 rfl ?_
      refine s_iadd hX dX4_mill_52 ?_
      obtain ⟨g6, h⟩ := fs_gd h
      refine s_iald hX dX4_mill_53 g6 ?_
      refine s_iload_n hX dX4_mill_54 rfl ?_
      refine s_ic_lt hX 65 dX4_mill_55 (by decide) (fun c7 => ?_) (fun c7 => ?_)
      · have h := (if_pos c7).symm.trans h
        refine s_iinc hX (y3 + (1 : Int32)) dX4_mill_65 rfl rfl (Nat.le_of_ble_eq_true rfl) ?_
        refine s_goto hX 38 dX4_mill_68 (by decide) ?_
        refine fs_ma [true, true, true, true] ?_
        exact ih y1 y2 (y3 + (1 : Int32)) σ μ out h k0 k1
      · have h := (if_neg c7).symm.trans h
        cases h
        refine fs_ma [true, false, true, true] ?_
        exact k0 rfl
set_option maxRecDepth 20000 in
set_option maxHeartbeats 40000000 in
theorem l_X4_mill_30   {X : fsC} (hX : fs_ok cX4_mill RX4 4 { frames := 4, cells := 0, slots := 0, locals := 93 } X) : ∀ (n : Nat) (y1 : Int32) (y2 : Int32) (σ : fsS) (μ : fsL) (out : Nat × Int32 × Int32 × fsS) (_ : L_X4_mill_30  n y1 y2 σ = some out) (k0 : out.1 = 0 → fs_PW X 58 [some (.ref 51), none, some (.int out.2.1), some (.int out.2.2.1)] [] out.2.2.2 μ) (k1 : out.1 = 1 → fs_PW X 86 [none, none, none, none] [] out.2.2.2 μ), fs_PW X 30 [some (.ref 51), some (.int y1), some (.int y2), none] [] σ μ := by
  intro n
  induction n with
  | zero =>
    intro y1 y2 σ μ out h
    cases (show (none : Option (Nat × Int32 × Int32 × fsS)) = some out from h)
  | succ n0 ih =>
    intro y1 y2 σ μ out h k0 k1
    unfold L_X4_mill_30 at h
    refine s_iload_n hX dX4_mill_30 rfl ?_
    refine s_bi hX (61 : Int32) dX4_mill_31 (by decide) ?_
    refine s_ic_ge hX 86 dX4_mill_33 (by decide) (fun c4 => ?_) (fun c4 => ?_)
    · have h := (if_pos c4).symm.trans h
      cases h
      refine fs_ma [false, false, false, false] ?_
      exact k1 rfl
    · have h := (if_neg c4).symm.trans h
      refine s_ic hX (0 : Int32) dX4_mill_36 (by decide) ?_
      refine s_istore_n hX dX4_mill_37 (Nat.le_of_ble_eq_true rfl) ?_
      obtain ⟨q8, e8, h⟩ := fs_bind h
      refine fs_ma [true, true, true, true] ?_
      refine l_X4_mill_38  hX fs_fu y1 y2 (0 : Int32) σ μ q8 e8 (fun c9 => ?_) (fun c9 => ?_)
      · have h := (if_pos c9).symm.trans h
        cases h
        refine fs_ma [true, false, true, true] ?_
        exact k0 rfl
      · have h := (if_neg (show ¬ q8.1 = 0 by rw [c9]; decide)).symm.trans h
        refine s_aload_n hX dX4_mill_71 rfl ?_
        refine s_aload_n hX dX4_mill_72 rfl ?_
        refine s_getr hX dX4_mill_73 f_X4_41 rfl ?_
        obtain ⟨q10, e10, h⟩ := fs_bind h
        refine s_cV hX [.ref 61] dX4_mill_76 k_X4_181 v_X4_goes (m_X4_goes 61 σ μ q10 e10) ⟨_, rfl⟩ fs_c4 ⟨rfl, rfl⟩ ⟨(Nat.le_of_ble_eq_true rfl), (Nat.le_of_ble_eq_true rfl)⟩ rfl rfl (Nat.le_of_ble_eq_true rfl) ?_
        refine s_istore_n hX dX4_mill_79 (Nat.le_of_ble_eq_true rfl) ?_
        refine s_iinc hX (y2 + (1 : Int32)) dX4_mill_80 rfl rfl (Nat.le_of_ble_eq_true rfl) ?_
        refine s_goto hX 30 dX4_mill_83 (by decide) ?_
        refine fs_ma [true, true, true, false] ?_
        exact ih y1 (y2 + (1 : Int32)) q10.2 μ out h k0 k1
set_option maxRecDepth 20000 in
set_option maxHeartbeats 40000000 in
theorem m_X4_mill (x1 : Int32)  (σ : fsS) (μ : fsL) (out : Int32 × fsS) (h : F_X4_mill x1 σ = some out) : fs_Met yX4_mill cX4_mill 4 (some .int) { frames := 4, cells := 0, slots := 0, locals := 93 } [.ref 51, .int x1] σ μ (some (.int out.1)) out.2 μ := by
  unfold F_X4_mill at h
  refine fs_intro (by decide +kernel) (Nat.le_of_ble_eq_true rfl) (fun X hX hR => ?_)
  show fs_PW X 0 [some (.ref 51), some (.int x1), none, none] [] σ μ
  refine s_iload_n hX dX4_mill_0 rfl ?_
  refine s_i2l hX dX4_mill_1 ?_
  refine s_lc hX (0 : Int64) dX4_mill_2 (by decide) ?_
  refine s_ldc2 hX (99 : Int64) dX4_mill_3 q_X4_172 ?_
  refine s_callS hX (as := [.long (x1.toInt64), .long (0 : Int64), .long (99 : Int64)]) dX4_mill_6 k_X4_74 v_X4_in (m_X4_in (x1.toInt64) (0 : Int64) (99 : Int64) σ μ _ rfl) ⟨rfl, rfl⟩ ⟨(Nat.le_of_ble_eq_true rfl), (Nat.le_of_ble_eq_true rfl)⟩ rfl rfl (Nat.le_of_ble_eq_true rfl) ?_
  refine s_if_ne hX 14 dX4_mill_9 (by decide) (fun c1 => ?_) (fun c1 => ?_)
  · have h := (if_neg c1).symm.trans h
    refine s_aload_n hX dX4_mill_14 rfl ?_
    refine s_geti hX dX4_mill_15 f_X4_136 rfl ?_
    refine s_if_ne hX 24 dX4_mill_18 (by decide) (fun c2 => ?_) (fun c2 => ?_)
    · have h := (if_neg c2).symm.trans h
      refine s_aload_n hX dX4_mill_24 rfl ?_
      obtain ⟨q3, e3, h⟩ := fs_bind h
      refine s_cV hX [] dX4_mill_25 k_X4_191 v_X4_layAside (m_X4_layAside σ μ q3 e3) ⟨_, rfl⟩ fs_c4 ⟨rfl, rfl⟩ ⟨(Nat.le_of_ble_eq_true rfl), (Nat.le_of_ble_eq_true rfl)⟩ rfl rfl (Nat.le_of_ble_eq_true rfl) ?_
      refine s_ic hX (0 : Int32) dX4_mill_28 (by decide) ?_
      refine s_istore_n hX dX4_mill_29 (Nat.le_of_ble_eq_true rfl) ?_
      obtain ⟨q11, e11, h⟩ := fs_bind h
      refine fs_ma [true, true, true, false] ?_
      refine l_X4_mill_30  hX fs_fu x1 (0 : Int32) q3 μ q11 e11 (fun c12 => ?_) (fun c12 => ?_)
      · have h := (if_pos c12).symm.trans h
        refine s_aload_n hX dX4_mill_58 rfl ?_
        refine s_iload_n hX dX4_mill_59 rfl ?_
        refine s_iload_n hX dX4_mill_60 rfl ?_
        refine s_cV hX [.int q11.2.2.1, .int q11.2.1] dX4_mill_61 k_X4_186 v_X4_answer (m_X4_answer q11.2.2.1 q11.2.1 q11.2.2.2 μ _ rfl) ⟨_, rfl⟩ fs_c4 ⟨rfl, rfl⟩ ⟨(Nat.le_of_ble_eq_true rfl), (Nat.le_of_ble_eq_true rfl)⟩ rfl rfl (Nat.le_of_ble_eq_true rfl) ?_
        cases h
        exact s_iret hX hR dX4_mill_64
      · have h := (if_neg (show ¬ q11.1 = 0 by rw [c12]; decide)).symm.trans h
        refine s_bi hX (-9 : Int32) dX4_mill_86 (by decide) ?_
        cases h
        exact s_iret hX hR dX4_mill_88
    · have h := (if_pos c2).symm.trans h
      refine s_bi hX (-4 : Int32) dX4_mill_21 (by decide) ?_
      cases h
      exact s_iret hX hR dX4_mill_23
  · have h := (if_pos c1).symm.trans h
    refine s_ic hX (-1 : Int32) dX4_mill_12 (by decide) ?_
    cases h
    exact s_iret hX hR dX4_mill_13

-- X4_purseBehind
def F_X4_purseBehind (x1 : Int32) (x2 : Int32) (σ : fsS) : Option (Int32 × fsS) := (F_X4_givesIn x2 σ).bind (fun q1 => fs_g (fs_in ((1 : Int32) + x1) 13) (some ((q1.2 61 ((1 : Int32) + x1).toNatClampNeg), q1.2)))
set_option maxRecDepth 20000 in
set_option maxHeartbeats 40000000 in
theorem m_X4_purseBehind (x1 : Int32) (x2 : Int32)  (σ : fsS) (μ : fsL) (out : Int32 × fsS) (h : F_X4_purseBehind x1 x2 σ = some out) : fs_Met yX4_purseBehind cX4_purseBehind 4 (some .int) { frames := 5, cells := 0, slots := 0, locals := 116 } [.ref 51, .int x1, .int x2] σ μ (some (.int out.1)) out.2 μ := by
  unfold F_X4_purseBehind at h
  refine fs_intro (by decide +kernel) (Nat.le_of_ble_eq_true rfl) (fun X hX hR => ?_)
  show fs_PW X 0 [some (.ref 51), some (.int x1), some (.int x2), none] [] σ μ
  refine s_aload_n hX dX4_purseBehind_0 rfl ?_
  refine s_iload_n hX dX4_purseBehind_1 rfl ?_
  obtain ⟨q1, e1, h⟩ := fs_bind h
  refine s_cV hX [.int x2] dX4_purseBehind_2 k_X4_194 v_X4_givesIn (m_X4_givesIn x2 σ μ q1 e1) ⟨_, rfl⟩ fs_c4 ⟨rfl, rfl⟩ ⟨(Nat.le_of_ble_eq_true rfl), (Nat.le_of_ble_eq_true rfl)⟩ rfl rfl (Nat.le_of_ble_eq_true rfl) ?_
  refine s_istore_n hX dX4_purseBehind_5 (Nat.le_of_ble_eq_true rfl) ?_
  refine s_aload_n hX dX4_purseBehind_6 rfl ?_
  refine s_getr hX dX4_purseBehind_7 f_X4_41 rfl ?_
  refine s_ic hX (1 : Int32) dX4_purseBehind_10 (by decide) ?_
  refine s_iload_n hX dX4_purseBehind_11 rfl ?_
  refine s_iadd hX dX4_purseBehind_12 ?_
  obtain ⟨g2, h⟩ := fs_gd h
  refine s_iald hX dX4_purseBehind_13 g2 ?_
  cases h
  exact s_iret hX hR dX4_purseBehind_14

-- X4_gains
def L_X4_gains_28  : Nat → Int32 → Int32 → Int32 → fsS → Option (Int32 × fsS)
  | 0, _, _, _, _ => none
  | n0 + 1, y1, y2, y3, σ => if (σ 51 9) ≤ y3 then some (y2, σ) else fs_g (fs_in ((7 : Int32) + y3) 13) (if (3 : Int32) ≤ (σ 60 ((7 : Int32) + y3).toNatClampNeg) then L_X4_gains_28  n0 y1 y2 (y3 + (1 : Int32)) σ else (F_X4_layAside  σ).bind (fun q6 => (F_X4_purseBehind y3 y1 q6).bind (fun q7 => (F_X4_layAside  q7.2).bind (fun q8 => fs_g (fs_in ((7 : Int32) + y3) 13) (fs_g (fs_in ((7 : Int32) + y3) 13) ((F_X4_purseBehind y3 y1 (fs_u q8 61 ((7 : Int32) + y3).toNatClampNeg ((q8 61 ((7 : Int32) + y3).toNatClampNeg) + (1 : Int32)))).bind (fun q11 => if q11.1 ≤ q7.1 then L_X4_gains_28  n0 y1 (y2 ||| (0 : Int32)) (y3 + (1 : Int32)) q11.2 else L_X4_gains_28  n0 y1 (y2 ||| ((1 : Int32) <<< (y3 &&& 31))) (y3 + (1 : Int32)) q11.2)))))))
def F_X4_gains (x1 : Int32) (σ : fsS) : Option (Int32 × fsS) := if (F_X4_in (x1.toInt64) (1 : Int64) (40 : Int64)) = 0 then some ((-1 : Int32), σ) else if (σ 51 9) = 0 then some ((-4 : Int32), σ) else (L_X4_gains_28  fs_fu x1 (0 : Int32) (0 : Int32) σ).bind (fun q13 => some (q13.1, q13.2))
set_option maxRecDepth 20000 in
set_option maxHeartbeats 40000000 in
theorem l_X4_gains_28   {X : fsC} (hX : fs_ok cX4_gains RX4 5 { frames := 6, cells := 0, slots := 0, locals := 139 } X) : ∀ (n : Nat) (y1 : Int32) (y2 : Int32) (y3 : Int32) (σ : fsS) (μ : fsL) (out : Int32 × fsS) (_ : L_X4_gains_28  n y1 y2 y3 σ = some out) (k0 : fs_PW X 105 [none, none, some (.int out.1), none, none] [] out.2 μ), fs_PW X 28 [some (.ref 51), some (.int y1), some (.int y2), some (.int y3), none] [] σ μ := by
  intro n
  induction n with
  | zero =>
    intro y1 y2 y3 σ μ out h
    cases (show (none : Option (Int32 × fsS)) = some out from h)
  | succ n0 ih =>
    intro y1 y2 y3 σ μ out h k0
    unfold L_X4_gains_28 at h
    refine s_iload_n hX dX4_gains_28 rfl ?_
    refine s_aload_n hX dX4_gains_29 rfl ?_
    refine s_geti hX dX4_gains_30 f_X4_136 rfl ?_
    refine s_ic_ge hX 105 dX4_gains_33 (by decide) (fun c3 => ?_) (fun c3 => ?_)
    · have h := (if_pos c3).symm.trans h
      cases h
      refine fs_ma [false, false, true, false, false] ?_
      exact k0
    · have h := (if_neg c3).symm.trans h
      refine s_aload_n hX dX4_gains_36 rfl ?_
      refine s_getr hX dX4_gains_37 f_X4_38 rfl ?_
      refine s_bi hX (7 : Int32) dX4_gains_40 (by decide) ?_
      refine s_iload_n hX dX4_gains_42 rfl ?_
      refine s_iadd hX dX4_gains_43 ?_
      obtain ⟨g4, h⟩ := fs_gd h
      refine s_iald hX dX4_gains_44 g4 ?_
      refine s_ic hX (3 : Int32) dX4_gains_45 (by decide) ?_
      refine s_ic_ge hX 99 dX4_gains_46 (by decide) (fun c5 => ?_) (fun c5 => ?_)
      · have h := (if_pos c5).symm.trans h
        refine s_iinc hX (y3 + (1 : Int32)) dX4_gains_99 rfl rfl (Nat.le_of_ble_eq_true rfl) ?_
        refine s_goto hX 28 dX4_gains_102 (by decide) ?_
        refine fs_ma [true, true, true, true, false] ?_
        exact ih y1 y2 (y3 + (1 : Int32)) σ μ out h k0
      · have h := (if_neg c5).symm.trans h
        refine s_aload_n hX dX4_gains_49 rfl ?_
        obtain ⟨q6, e6, h⟩ := fs_bind h
        refine s_cV hX [] dX4_gains_50 k_X4_191 v_X4_layAside (m_X4_layAside σ μ q6 e6) ⟨_, rfl⟩ fs_c4 ⟨rfl, rfl⟩ ⟨(Nat.le_of_ble_eq_true rfl), (Nat.le_of_ble_eq_true rfl)⟩ rfl rfl (Nat.le_of_ble_eq_true rfl) ?_
        refine s_aload_n hX dX4_gains_53 rfl ?_
        refine s_iload_n hX dX4_gains_54 rfl ?_
        refine s_iload_n hX dX4_gains_55 rfl ?_
        obtain ⟨q7, e7, h⟩ := fs_bind h
        refine s_cV hX [.int y3, .int y1] dX4_gains_56 k_X4_199 v_X4_purseBehind (m_X4_purseBehind y3 y1 q6 μ q7 e7) ⟨_, rfl⟩ fs_c4 ⟨rfl, rfl⟩ ⟨(Nat.le_of_ble_eq_true rfl), (Nat.le_of_ble_eq_true rfl)⟩ rfl rfl (Nat.le_of_ble_eq_true rfl) ?_
        refine s_istore hX dX4_gains_59 (Nat.le_of_ble_eq_true rfl) ?_
        refine s_aload_n hX dX4_gains_61 rfl ?_
        obtain ⟨q8, e8, h⟩ := fs_bind h
        refine s_cV hX [] dX4_gains_62 k_X4_191 v_X4_layAside (m_X4_layAside q7.2 μ q8 e8) ⟨_, rfl⟩ fs_c4 ⟨rfl, rfl⟩ ⟨(Nat.le_of_ble_eq_true rfl), (Nat.le_of_ble_eq_true rfl)⟩ rfl rfl (Nat.le_of_ble_eq_true rfl) ?_
        refine s_aload_n hX dX4_gains_65 rfl ?_
        refine s_getr hX dX4_gains_66 f_X4_41 rfl ?_
        refine s_bi hX (7 : Int32) dX4_gains_69 (by decide) ?_
        refine s_iload_n hX dX4_gains_71 rfl ?_
        refine s_iadd hX dX4_gains_72 ?_
        refine s_dup2 hX dX4_gains_73 rfl rfl ?_
        obtain ⟨g9, h⟩ := fs_gd h
        refine s_iald hX dX4_gains_74 g9 ?_
        refine s_ic hX (1 : Int32) dX4_gains_75 (by decide) ?_
        refine s_iadd hX dX4_gains_76 ?_
        obtain ⟨g10, h⟩ := fs_gd h
        refine s_iast hX dX4_gains_77 g10 ?_
        refine s_iload_n hX dX4_gains_78 rfl ?_
        refine s_aload_n hX dX4_gains_79 rfl ?_
        refine s_iload_n hX dX4_gains_80 rfl ?_
        refine s_iload_n hX dX4_gains_81 rfl ?_
        obtain ⟨q11, e11, h⟩ := fs_bind h
        refine s_cV hX [.int y3, .int y1] dX4_gains_82 k_X4_199 v_X4_purseBehind (m_X4_purseBehind y3 y1 (fs_u q8 61 ((7 : Int32) + y3).toNatClampNeg ((q8 61 ((7 : Int32) + y3).toNatClampNeg) + (1 : Int32))) μ q11 e11) ⟨_, rfl⟩ fs_c4 ⟨rfl, rfl⟩ ⟨(Nat.le_of_ble_eq_true rfl), (Nat.le_of_ble_eq_true rfl)⟩ rfl rfl (Nat.le_of_ble_eq_true rfl) ?_
        refine s_iload hX dX4_gains_85 rfl ?_
        refine s_ic_le hX 96 dX4_gains_87 (by decide) (fun c12 => ?_) (fun c12 => ?_)
        · have h := (if_pos c12).symm.trans h
          refine s_ic hX (0 : Int32) dX4_gains_96 (by decide) ?_
          refine s_ior hX dX4_gains_97 ?_
          refine s_istore_n hX dX4_gains_98 (Nat.le_of_ble_eq_true rfl) ?_
          refine s_iinc hX (y3 + (1 : Int32)) dX4_gains_99 rfl rfl (Nat.le_of_ble_eq_true rfl) ?_
          refine s_goto hX 28 dX4_gains_102 (by decide) ?_
          refine fs_ma [true, true, true, true, false] ?_
          exact ih y1 (y2 ||| (0 : Int32)) (y3 + (1 : Int32)) q11.2 μ out h k0
        · have h := (if_neg c12).symm.trans h
          refine s_ic hX (1 : Int32) dX4_gains_90 (by decide) ?_
          refine s_iload_n hX dX4_gains_91 rfl ?_
          refine s_ishl hX dX4_gains_92 ?_
          refine s_goto hX 97 dX4_gains_93 (by decide) ?_
          refine s_ior hX dX4_gains_97 ?_
          refine s_istore_n hX dX4_gains_98 (Nat.le_of_ble_eq_true rfl) ?_
          refine s_iinc hX (y3 + (1 : Int32)) dX4_gains_99 rfl rfl (Nat.le_of_ble_eq_true rfl) ?_
          refine s_goto hX 28 dX4_gains_102 (by decide) ?_
          refine fs_ma [true, true, true, true, false] ?_
          exact ih y1 (y2 ||| ((1 : Int32) <<< (y3 &&& 31))) (y3 + (1 : Int32)) q11.2 μ out h k0
set_option maxRecDepth 20000 in
set_option maxHeartbeats 40000000 in
theorem m_X4_gains (x1 : Int32)  (σ : fsS) (μ : fsL) (out : Int32 × fsS) (h : F_X4_gains x1 σ = some out) : fs_Met yX4_gains cX4_gains 5 (some .int) { frames := 6, cells := 0, slots := 0, locals := 139 } [.ref 51, .int x1] σ μ (some (.int out.1)) out.2 μ := by
  unfold F_X4_gains at h
  refine fs_intro (by decide +kernel) (Nat.le_of_ble_eq_true rfl) (fun X hX hR => ?_)
  show fs_PW X 0 [some (.ref 51), some (.int x1), none, none, none] [] σ μ
  refine s_iload_n hX dX4_gains_0 rfl ?_
  refine s_i2l hX dX4_gains_1 ?_
  refine s_lc hX (1 : Int64) dX4_gains_2 (by decide) ?_
  refine s_ldc2 hX (40 : Int64) dX4_gains_3 q_X4_197 ?_
  refine s_callS hX (as := [.long (x1.toInt64), .long (1 : Int64), .long (40 : Int64)]) dX4_gains_6 k_X4_74 v_X4_in (m_X4_in (x1.toInt64) (1 : Int64) (40 : Int64) σ μ _ rfl) ⟨rfl, rfl⟩ ⟨(Nat.le_of_ble_eq_true rfl), (Nat.le_of_ble_eq_true rfl)⟩ rfl rfl (Nat.le_of_ble_eq_true rfl) ?_
  refine s_if_ne hX 14 dX4_gains_9 (by decide) (fun c1 => ?_) (fun c1 => ?_)
  · have h := (if_neg c1).symm.trans h
    refine s_aload_n hX dX4_gains_14 rfl ?_
    refine s_geti hX dX4_gains_15 f_X4_136 rfl ?_
    refine s_if_ne hX 24 dX4_gains_18 (by decide) (fun c2 => ?_) (fun c2 => ?_)
    · have h := (if_neg c2).symm.trans h
      refine s_ic hX (0 : Int32) dX4_gains_24 (by decide) ?_
      refine s_istore_n hX dX4_gains_25 (Nat.le_of_ble_eq_true rfl) ?_
      refine s_ic hX (0 : Int32) dX4_gains_26 (by decide) ?_
      refine s_istore_n hX dX4_gains_27 (Nat.le_of_ble_eq_true rfl) ?_
      obtain ⟨q13, e13, h⟩ := fs_bind h
      refine fs_ma [true, true, true, true, false] ?_
      refine l_X4_gains_28  hX fs_fu x1 (0 : Int32) (0 : Int32) σ μ q13 e13 ?_
      refine s_iload_n hX dX4_gains_105 rfl ?_
      cases h
      exact s_iret hX hR dX4_gains_106
    · have h := (if_pos c2).symm.trans h
      refine s_bi hX (-4 : Int32) dX4_gains_21 (by decide) ?_
      cases h
      exact s_iret hX hR dX4_gains_23
  · have h := (if_pos c1).symm.trans h
    refine s_ic hX (-1 : Int32) dX4_gains_12 (by decide) ?_
    cases h
    exact s_iret hX hR dX4_gains_13

-- X4_laysSoot
def L_X4_laysSoot_16  : Nat → Int32 → Int32 → Int32 → fsS → Option (Int32 × fsS)
  | 0, _, _, _, _ => none
  | n0 + 1, y2, y3, y4, σ => if y4 < 0 then some (y2, σ) else fs_g (fs_in ((7 : Int32) + y4) 13) (fs_g (fs_in ((7 : Int32) + y4) 13) (fs_g (fs_in ((7 : Int32) + y4) 13) (if ((fs_u σ 61 ((7 : Int32) + y4).toNatClampNeg (y3 - y3 / (4 : Int32) * (4 : Int32))) 61 ((7 : Int32) + y4).toNatClampNeg) = (σ 60 ((7 : Int32) + y4).toNatClampNeg) then L_X4_laysSoot_16  n0 (y2 + (0 : Int32)) (y3 / (4 : Int32)) (y4 + (-1 : Int32)) (fs_u σ 61 ((7 : Int32) + y4).toNatClampNeg (y3 - y3 / (4 : Int32) * (4 : Int32))) else L_X4_laysSoot_16  n0 (y2 + (1 : Int32)) (y3 / (4 : Int32)) (y4 + (-1 : Int32)) (fs_u σ 61 ((7 : Int32) + y4).toNatClampNeg (y3 - y3 / (4 : Int32) * (4 : Int32))))))
def F_X4_laysSoot (x1 : Int32) (σ : fsS) : Option (Int32 × fsS) := (F_X4_layAside  σ).bind (fun q1 => (L_X4_laysSoot_16  fs_fu (0 : Int32) x1 ((q1 51 9) - (1 : Int32)) q1).bind (fun q7 => some (q7.1, q7.2)))
set_option maxRecDepth 20000 in
set_option maxHeartbeats 40000000 in
theorem l_X4_laysSoot_16   {X : fsC} (hX : fs_ok cX4_laysSoot RX4 5 { frames := 2, cells := 0, slots := 0, locals := 45 } X) : ∀ (n : Nat) (y2 : Int32) (y3 : Int32) (y4 : Int32) (σ : fsS) (μ : fsL) (out : Int32 × fsS) (_ : L_X4_laysSoot_16  n y2 y3 y4 σ = some out) (k0 : fs_PW X 75 [none, none, some (.int out.1), none, none] [] out.2 μ), fs_PW X 16 [some (.ref 51), none, some (.int y2), some (.int y3), some (.int y4)] [] σ μ := by
  intro n
  induction n with
  | zero =>
    intro y2 y3 y4 σ μ out h
    cases (show (none : Option (Int32 × fsS)) = some out from h)
  | succ n0 ih =>
    intro y2 y3 y4 σ μ out h k0
    unfold L_X4_laysSoot_16 at h
    refine s_iload hX dX4_laysSoot_16 rfl ?_
    refine s_if_lt hX 75 dX4_laysSoot_18 (by decide) (fun c2 => ?_) (fun c2 => ?_)
    · have h := (if_pos c2).symm.trans h
      cases h
      refine fs_ma [false, false, true, false, false] ?_
      exact k0
    · have h := (if_neg c2).symm.trans h
      refine s_aload_n hX dX4_laysSoot_21 rfl ?_
      refine s_getr hX dX4_laysSoot_22 f_X4_41 rfl ?_
      refine s_bi hX (7 : Int32) dX4_laysSoot_25 (by decide) ?_
      refine s_iload hX dX4_laysSoot_27 rfl ?_
      refine s_iadd hX dX4_laysSoot_29 ?_
      refine s_iload_n hX dX4_laysSoot_30 rfl ?_
      refine s_ic hX (4 : Int32) dX4_laysSoot_31 (by decide) ?_
      refine s_irem hX dX4_laysSoot_32 (by decide) ?_
      obtain ⟨g3, h⟩ := fs_gd h
      refine s_iast hX dX4_laysSoot_33 g3 ?_
      refine s_iload_n hX dX4_laysSoot_34 rfl ?_
      refine s_ic hX (4 : Int32) dX4_laysSoot_35 (by decide) ?_
      refine s_idiv hX dX4_laysSoot_36 (by decide) ?_
      refine s_istore_n hX dX4_laysSoot_37 (Nat.le_of_ble_eq_true rfl) ?_
      refine s_iload_n hX dX4_laysSoot_38 rfl ?_
      refine s_aload_n hX dX4_laysSoot_39 rfl ?_
      refine s_getr hX dX4_laysSoot_40 f_X4_41 rfl ?_
      refine s_bi hX (7 : Int32) dX4_laysSoot_43 (by decide) ?_
      refine s_iload hX dX4_laysSoot_45 rfl ?_
      refine s_iadd hX dX4_laysSoot_47 ?_
      obtain ⟨g4, h⟩ := fs_gd h
      refine s_iald hX dX4_laysSoot_48 g4 ?_
      refine s_aload_n hX dX4_laysSoot_49 rfl ?_
      refine s_getr hX dX4_laysSoot_50 f_X4_38 rfl ?_
      refine s_bi hX (7 : Int32) dX4_laysSoot_53 (by decide) ?_
      refine s_iload hX dX4_laysSoot_55 rfl ?_
      refine s_iadd hX dX4_laysSoot_57 ?_
      obtain ⟨g5, h⟩ := fs_gd h
      refine s_iald hX dX4_laysSoot_58 g5 ?_
      refine s_ic_ne hX 66 dX4_laysSoot_59 (by decide) (fun c6 => ?_) (fun c6 => ?_)
      · have h := (if_neg c6).symm.trans h
        refine s_ic hX (1 : Int32) dX4_laysSoot_66 (by decide) ?_
        refine s_iadd hX dX4_laysSoot_67 ?_
        refine s_istore_n hX dX4_laysSoot_68 (Nat.le_of_ble_eq_true rfl) ?_
        refine s_iinc hX (y4 + (-1 : Int32)) dX4_laysSoot_69 rfl rfl (Nat.le_of_ble_eq_true rfl) ?_
        refine s_goto hX 16 dX4_laysSoot_72 (by decide) ?_
        refine fs_ma [true, false, true, true, true] ?_
        exact ih (y2 + (1 : Int32)) (y3 / (4 : Int32)) (y4 + (-1 : Int32)) (fs_u σ 61 ((7 : Int32) + y4).toNatClampNeg (y3 - y3 / (4 : Int32) * (4 : Int32))) μ out h k0
      · have h := (if_pos c6).symm.trans h
        refine s_ic hX (0 : Int32) dX4_laysSoot_62 (by decide) ?_
        refine s_goto hX 67 dX4_laysSoot_63 (by decide) ?_
        refine s_iadd hX dX4_laysSoot_67 ?_
        refine s_istore_n hX dX4_laysSoot_68 (Nat.le_of_ble_eq_true rfl) ?_
        refine s_iinc hX (y4 + (-1 : Int32)) dX4_laysSoot_69 rfl rfl (Nat.le_of_ble_eq_true rfl) ?_
        refine s_goto hX 16 dX4_laysSoot_72 (by decide) ?_
        refine fs_ma [true, false, true, true, true] ?_
        exact ih (y2 + (0 : Int32)) (y3 / (4 : Int32)) (y4 + (-1 : Int32)) (fs_u σ 61 ((7 : Int32) + y4).toNatClampNeg (y3 - y3 / (4 : Int32) * (4 : Int32))) μ out h k0
set_option maxRecDepth 20000 in
set_option maxHeartbeats 40000000 in
theorem m_X4_laysSoot (x1 : Int32)  (σ : fsS) (μ : fsL) (out : Int32 × fsS) (h : F_X4_laysSoot x1 σ = some out) : fs_Met yX4_laysSoot cX4_laysSoot 5 (some .int) { frames := 2, cells := 0, slots := 0, locals := 45 } [.ref 51, .int x1] σ μ (some (.int out.1)) out.2 μ := by
  unfold F_X4_laysSoot at h
  refine fs_intro (by decide +kernel) (Nat.le_of_ble_eq_true rfl) (fun X hX hR => ?_)
  show fs_PW X 0 [some (.ref 51), some (.int x1), none, none, none] [] σ μ
  refine s_aload_n hX dX4_laysSoot_0 rfl ?_
  obtain ⟨q1, e1, h⟩ := fs_bind h
  refine s_cV hX [] dX4_laysSoot_1 k_X4_191 v_X4_layAside (m_X4_layAside σ μ q1 e1) ⟨_, rfl⟩ fs_c4 ⟨rfl, rfl⟩ ⟨(Nat.le_of_ble_eq_true rfl), (Nat.le_of_ble_eq_true rfl)⟩ rfl rfl (Nat.le_of_ble_eq_true rfl) ?_
  refine s_ic hX (0 : Int32) dX4_laysSoot_4 (by decide) ?_
  refine s_istore_n hX dX4_laysSoot_5 (Nat.le_of_ble_eq_true rfl) ?_
  refine s_iload_n hX dX4_laysSoot_6 rfl ?_
  refine s_istore_n hX dX4_laysSoot_7 (Nat.le_of_ble_eq_true rfl) ?_
  refine s_aload_n hX dX4_laysSoot_8 rfl ?_
  refine s_geti hX dX4_laysSoot_9 f_X4_136 rfl ?_
  refine s_ic hX (1 : Int32) dX4_laysSoot_12 (by decide) ?_
  refine s_isub hX dX4_laysSoot_13 ?_
  refine s_istore hX dX4_laysSoot_14 (Nat.le_of_ble_eq_true rfl) ?_
  obtain ⟨q7, e7, h⟩ := fs_bind h
  refine fs_ma [true, false, true, true, true] ?_
  refine l_X4_laysSoot_16  hX fs_fu (0 : Int32) x1 ((q1 51 9) - (1 : Int32)) q1 μ q7 e7 ?_
  refine s_iload_n hX dX4_laysSoot_75 rfl ?_
  cases h
  exact s_iret hX hR dX4_laysSoot_76

-- X4_even
def L_X4_even_54  : Nat → Int32 → Int32 → Int32 → Int32 → Int32 → Int32 → Int32 → fsS → Option (Int32 × Int32 × fsS)
  | 0, _, _, _, _, _, _, _, _ => none
  | n0 + 1, y1, y2, y3, y4, y5, y6, y7, σ => if ((1 : Int32) <<< (((2 : Int32) * (σ 51 9)) &&& 31)) ≤ y7 then some (y5, y6, σ) else (F_X4_laysSoot y7 σ).bind (fun q7 => if y6 ≤ q7.1 then L_X4_even_54  n0 y1 y2 y3 y4 y5 y6 (y7 + (1 : Int32)) q7.2 else (F_X4_givesIn y3 q7.2).bind (fun q9 => fs_g (fs_in ((1 : Int32) + y1) 13) (fs_g (fs_in ((1 : Int32) + y2) 13) (if (q9.2 61 ((1 : Int32) + y1).toNatClampNeg) = (q9.2 61 ((1 : Int32) + y2).toNatClampNeg) then L_X4_even_54  n0 y1 y2 y3 y4 y7 q7.1 (y7 + (1 : Int32)) q9.2 else L_X4_even_54  n0 y1 y2 y3 y4 y5 y6 (y7 + (1 : Int32)) q9.2))))
def L_X4_even_182  : Nat → Int32 → Int32 → Int32 → fsS → Option (fsS)
  | 0, _, _, _, _ => none
  | n0 + 1, y4, y6, y9, σ => if (σ 51 9) ≤ y9 then some σ else fs_g (fs_in ((7 : Int32) + y9) 13) (fs_g (fs_in (((40 : Int32) * y4) + y9) 240) (L_X4_even_182  n0 y4 y6 (y9 + (1 : Int32)) (fs_u σ 52 (((40 : Int32) * y4) + y9).toNatClampNeg (σ 61 ((7 : Int32) + y9).toNatClampNeg))))
def F_X4_even (x1 : Int32) (x2 : Int32) (x3 : Int32) (x4 : Int32) (σ : fsS) : Option (Int32 × fsS) := if (F_X4_isOne x1 σ) = 0 then some ((-1 : Int32), σ) else if (F_X4_isOne x2 σ) = 0 then some ((-1 : Int32), σ) else if x1 = x2 then some ((-1 : Int32), σ) else if (F_X4_in (x3.toInt64) (0 : Int64) (20 : Int64)) = 0 then some ((-1 : Int32), σ) else if (F_X4_isRow x4) = 0 then some ((-1 : Int32), σ) else (L_X4_even_54  fs_fu x1 x2 x3 x4 (-9 : Int32) (1000000 : Int32) (0 : Int32) σ).bind (fun q17 => if q17.1 = (-9 : Int32) then some ((-9 : Int32), q17.2.2) else (F_X4_row x4 (q17.2.2 51 9) q17.2.2).bind (fun q19 => (F_X4_laysSoot q17.1 q19.2).bind (fun q20 => (L_X4_even_182  fs_fu x4 q17.2.1 (0 : Int32) q20.2).bind (fun q24 => some (q17.2.1, q24)))))
set_option maxRecDepth 20000 in
set_option maxHeartbeats 40000000 in
theorem l_X4_even_54   {X : fsC} (hX : fs_ok cX4_even RX4 11 { frames := 5, cells := 0, slots := 0, locals := 116 } X) : ∀ (n : Nat) (y1 : Int32) (y2 : Int32) (y3 : Int32) (y4 : Int32) (y5 : Int32) (y6 : Int32) (y7 : Int32) (σ : fsS) (μ : fsL) (out : Int32 × Int32 × fsS) (_ : L_X4_even_54  n y1 y2 y3 y4 y5 y6 y7 σ = some out) (k0 : fs_PW X 149 [some (.ref 51), none, none, none, some (.int y4), some (.int out.1), some (.int out.2.1), none, none, none, none] [] out.2.2 μ), fs_PW X 54 [some (.ref 51), some (.int y1), some (.int y2), some (.int y3), some (.int y4), some (.int y5), some (.int y6), some (.int y7), none, none, none] [] σ μ := by
  intro n
  induction n with
  | zero =>
    intro y1 y2 y3 y4 y5 y6 y7 σ μ out h
    cases (show (none : Option (Int32 × Int32 × fsS)) = some out from h)
  | succ n0 ih =>
    intro y1 y2 y3 y4 y5 y6 y7 σ μ out h k0
    unfold L_X4_even_54 at h
    refine s_iload hX dX4_even_54 rfl ?_
    refine s_ic hX (1 : Int32) dX4_even_56 (by decide) ?_
    refine s_ic hX (2 : Int32) dX4_even_57 (by decide) ?_
    refine s_aload_n hX dX4_even_58 rfl ?_
    refine s_geti hX dX4_even_59 f_X4_136 rfl ?_
    refine s_imul hX dX4_even_62 ?_
    refine s_ishl hX dX4_even_63 ?_
    refine s_ic_ge hX 149 dX4_even_64 (by decide) (fun c6 => ?_) (fun c6 => ?_)
    · have h := (if_pos c6).symm.trans h
      cases h
      refine fs_ma [true, false, false, false, true, true, true, false, false, false, false] ?_
      exact k0
    · have h := (if_neg c6).symm.trans h
      refine s_aload_n hX dX4_even_67 rfl ?_
      refine s_iload hX dX4_even_68 rfl ?_
      obtain ⟨q7, e7, h⟩ := fs_bind h
      refine s_cV hX [.int y7] dX4_even_70 k_X4_205 v_X4_laysSoot (m_X4_laysSoot y7 σ μ q7 e7) ⟨_, rfl⟩ fs_c4 ⟨rfl, rfl⟩ ⟨(Nat.le_of_ble_eq_true rfl), (Nat.le_of_ble_eq_true rfl)⟩ rfl rfl (Nat.le_of_ble_eq_true rfl) ?_
      refine s_istore hX dX4_even_73 (Nat.le_of_ble_eq_true rfl) ?_
      refine s_iload hX dX4_even_75 rfl ?_
      refine s_iload hX dX4_even_77 rfl ?_
      refine s_ic_ge hX 143 dX4_even_79 (by decide) (fun c8 => ?_) (fun c8 => ?_)
      · have h := (if_pos c8).symm.trans h
        refine s_iinc hX (y7 + (1 : Int32)) dX4_even_143 rfl rfl (Nat.le_of_ble_eq_true rfl) ?_
        refine s_goto hX 54 dX4_even_146 (by decide) ?_
        refine fs_ma [true, true, true, true, true, true, true, true, false, false, false] ?_
        exact ih y1 y2 y3 y4 y5 y6 (y7 + (1 : Int32)) q7.2 μ out h k0
      · have h := (if_neg c8).symm.trans h
        refine s_aload_n hX dX4_even_82 rfl ?_
        refine s_iload_n hX dX4_even_83 rfl ?_
        obtain ⟨q9, e9, h⟩ := fs_bind h
        refine s_cV hX [.int y3] dX4_even_84 k_X4_194 v_X4_givesIn (m_X4_givesIn y3 q7.2 μ q9 e9) ⟨_, rfl⟩ fs_c4 ⟨rfl, rfl⟩ ⟨(Nat.le_of_ble_eq_true rfl), (Nat.le_of_ble_eq_true rfl)⟩ rfl rfl (Nat.le_of_ble_eq_true rfl) ?_
        refine s_istore hX dX4_even_87 (Nat.le_of_ble_eq_true rfl) ?_
        refine s_aload_n hX dX4_even_89 rfl ?_
        refine s_getr hX dX4_even_90 f_X4_41 rfl ?_
        refine s_ic hX (1 : Int32) dX4_even_93 (by decide) ?_
        refine s_iload_n hX dX4_even_94 rfl ?_
        refine s_iadd hX dX4_even_95 ?_
        obtain ⟨g10, h⟩ := fs_gd h
        refine s_iald hX dX4_even_96 g10 ?_
        refine s_aload_n hX dX4_even_97 rfl ?_
        refine s_getr hX dX4_even_98 f_X4_41 rfl ?_
        refine s_ic hX (1 : Int32) dX4_even_101 (by decide) ?_
        refine s_iload_n hX dX4_even_102 rfl ?_
        refine s_iadd hX dX4_even_103 ?_
        obtain ⟨g11, h⟩ := fs_gd h
        refine s_iald hX dX4_even_104 g11 ?_
        refine s_ic_ne hX 112 dX4_even_105 (by decide) (fun c12 => ?_) (fun c12 => ?_)
        · have h := (if_neg c12).symm.trans h
          refine s_ic hX (0 : Int32) dX4_even_112 (by decide) ?_
          refine s_istore hX dX4_even_113 (Nat.le_of_ble_eq_true rfl) ?_
          refine s_iload hX dX4_even_115 rfl ?_
          refine s_if_eq hX 125 dX4_even_117 (by decide) (fun _ => ?_) (fun c13 => absurd (by decide) c13)
          refine s_iload hX dX4_even_125 rfl ?_
          refine s_istore hX dX4_even_127 (Nat.le_of_ble_eq_true rfl) ?_
          refine s_iload hX dX4_even_129 rfl ?_
          refine s_if_eq hX 139 dX4_even_131 (by decide) (fun _ => ?_) (fun c14 => absurd (by decide) c14)
          refine s_iload hX dX4_even_139 rfl ?_
          refine s_istore hX dX4_even_141 (Nat.le_of_ble_eq_true rfl) ?_
          refine s_iinc hX (y7 + (1 : Int32)) dX4_even_143 rfl rfl (Nat.le_of_ble_eq_true rfl) ?_
          refine s_goto hX 54 dX4_even_146 (by decide) ?_
          refine fs_ma [true, true, true, true, true, true, true, true, false, false, false] ?_
          exact ih y1 y2 y3 y4 y5 y6 (y7 + (1 : Int32)) q9.2 μ out h k0
        · have h := (if_pos c12).symm.trans h
          refine s_ic hX (1 : Int32) dX4_even_108 (by decide) ?_
          refine s_goto hX 113 dX4_even_109 (by decide) ?_
          refine s_istore hX dX4_even_113 (Nat.le_of_ble_eq_true rfl) ?_
          refine s_iload hX dX4_even_115 rfl ?_
          refine s_if_eq hX 125 dX4_even_117 (by decide) (fun c15 => absurd c15 (by decide)) (fun _ => ?_)
          refine s_iload hX dX4_even_120 rfl ?_
          refine s_goto hX 127 dX4_even_122 (by decide) ?_
          refine s_istore hX dX4_even_127 (Nat.le_of_ble_eq_true rfl) ?_
          refine s_iload hX dX4_even_129 rfl ?_
          refine s_if_eq hX 139 dX4_even_131 (by decide) (fun c16 => absurd c16 (by decide)) (fun _ => ?_)
          refine s_iload hX dX4_even_134 rfl ?_
          refine s_goto hX 141 dX4_even_136 (by decide) ?_
          refine s_istore hX dX4_even_141 (Nat.le_of_ble_eq_true rfl) ?_
          refine s_iinc hX (y7 + (1 : Int32)) dX4_even_143 rfl rfl (Nat.le_of_ble_eq_true rfl) ?_
          refine s_goto hX 54 dX4_even_146 (by decide) ?_
          refine fs_ma [true, true, true, true, true, true, true, true, false, false, false] ?_
          exact ih y1 y2 y3 y4 y7 q7.1 (y7 + (1 : Int32)) q9.2 μ out h k0
set_option maxRecDepth 20000 in
set_option maxHeartbeats 40000000 in
theorem l_X4_even_182   {X : fsC} (hX : fs_ok cX4_even RX4 11 { frames := 5, cells := 0, slots := 0, locals := 116 } X) : ∀ (n : Nat) (y4 : Int32) (y6 : Int32) (y9 : Int32) (σ : fsS) (μ : fsL) (out : fsS) (_ : L_X4_even_182  n y4 y6 y9 σ = some out) (k0 : fs_PW X 220 [none, none, none, none, none, none, some (.int y6), none, none, none, none] [] out μ), fs_PW X 182 [some (.ref 51), none, none, none, some (.int y4), none, some (.int y6), none, none, some (.int y9), none] [] σ μ := by
  intro n
  induction n with
  | zero =>
    intro y4 y6 y9 σ μ out h
    cases (show (none : Option (fsS)) = some out from h)
  | succ n0 ih =>
    intro y4 y6 y9 σ μ out h k0
    unfold L_X4_even_182 at h
    refine s_iload hX dX4_even_182 rfl ?_
    refine s_aload_n hX dX4_even_184 rfl ?_
    refine s_geti hX dX4_even_185 f_X4_136 rfl ?_
    refine s_ic_ge hX 220 dX4_even_188 (by decide) (fun c21 => ?_) (fun c21 => ?_)
    · have h := (if_pos c21).symm.trans h
      cases h
      refine fs_ma [false, false, false, false, false, false, true, false, false, false, false] ?_
      exact k0
    · have h := (if_neg c21).symm.trans h
      refine s_aload_n hX dX4_even_191 rfl ?_
      refine s_getr hX dX4_even_192 f_X4_7 rfl ?_
      refine s_bi hX (40 : Int32) dX4_even_195 (by decide) ?_
      refine s_iload hX dX4_even_197 rfl ?_
      refine s_imul hX dX4_even_199 ?_
      refine s_iload hX dX4_even_200 rfl ?_
      refine s_iadd hX dX4_even_202 ?_
      refine s_aload_n hX dX4_even_203 rfl ?_
      refine s_getr hX dX4_even_204 f_X4_41 rfl ?_
      refine s_bi hX (7 : Int32) dX4_even_207 (by decide) ?_
      refine s_iload hX dX4_even_209 rfl ?_
      refine s_iadd hX dX4_even_211 ?_
      obtain ⟨g22, h⟩ := fs_gd h
      refine s_iald hX dX4_even_212 g22 ?_
      obtain ⟨g23, h⟩ := fs_gd h
      refine s_iast hX dX4_even_213 g23 ?_
      refine s_iinc hX (y9 + (1 : Int32)) dX4_even_214 rfl rfl (Nat.le_of_ble_eq_true rfl) ?_
      refine s_goto hX 182 dX4_even_217 (by decide) ?_
      refine fs_ma [true, false, false, false, true, false, true, false, false, true, false] ?_
      exact ih y4 y6 (y9 + (1 : Int32)) (fs_u σ 52 (((40 : Int32) * y4) + y9).toNatClampNeg (σ 61 ((7 : Int32) + y9).toNatClampNeg)) μ out h k0
set_option maxRecDepth 20000 in
set_option maxHeartbeats 40000000 in
theorem m_X4_even (x1 : Int32) (x2 : Int32) (x3 : Int32) (x4 : Int32)  (σ : fsS) (μ : fsL) (out : Int32 × fsS) (h : F_X4_even x1 x2 x3 x4 σ = some out) : fs_Met yX4_even cX4_even 11 (some .int) { frames := 5, cells := 0, slots := 0, locals := 116 } [.ref 51, .int x1, .int x2, .int x3, .int x4] σ μ (some (.int out.1)) out.2 μ := by
  unfold F_X4_even at h
  refine fs_intro (by decide +kernel) (Nat.le_of_ble_eq_true rfl) (fun X hX hR => ?_)
  show fs_PW X 0 [some (.ref 51), some (.int x1), some (.int x2), some (.int x3), some (.int x4), none, none, none, none, none, none] [] σ μ
  refine s_aload_n hX dX4_even_0 rfl ?_
  refine s_iload_n hX dX4_even_1 rfl ?_
  refine s_cV hX [.int x1] dX4_even_2 k_X4_157 v_X4_isOne (m_X4_isOne x1 σ μ _ rfl) ⟨_, rfl⟩ fs_c4 ⟨rfl, rfl⟩ ⟨(Nat.le_of_ble_eq_true rfl), (Nat.le_of_ble_eq_true rfl)⟩ rfl rfl (Nat.le_of_ble_eq_true rfl) ?_
  refine s_if_eq hX 41 dX4_even_5 (by decide) (fun c1 => ?_) (fun c1 => ?_)
  · have h := (if_pos c1).symm.trans h
    refine s_ic hX (-1 : Int32) dX4_even_41 (by decide) ?_
    cases h
    exact s_iret hX hR dX4_even_42
  · have h := (if_neg c1).symm.trans h
    refine s_aload_n hX dX4_even_8 rfl ?_
    refine s_iload_n hX dX4_even_9 rfl ?_
    refine s_cV hX [.int x2] dX4_even_10 k_X4_157 v_X4_isOne (m_X4_isOne x2 σ μ _ rfl) ⟨_, rfl⟩ fs_c4 ⟨rfl, rfl⟩ ⟨(Nat.le_of_ble_eq_true rfl), (Nat.le_of_ble_eq_true rfl)⟩ rfl rfl (Nat.le_of_ble_eq_true rfl) ?_
    refine s_if_eq hX 41 dX4_even_13 (by decide) (fun c2 => ?_) (fun c2 => ?_)
    · have h := (if_pos c2).symm.trans h
      refine s_ic hX (-1 : Int32) dX4_even_41 (by decide) ?_
      cases h
      exact s_iret hX hR dX4_even_42
    · have h := (if_neg c2).symm.trans h
      refine s_iload_n hX dX4_even_16 rfl ?_
      refine s_iload_n hX dX4_even_17 rfl ?_
      refine s_ic_eq hX 41 dX4_even_18 (by decide) (fun c3 => ?_) (fun c3 => ?_)
      · have h := (if_pos c3).symm.trans h
        refine s_ic hX (-1 : Int32) dX4_even_41 (by decide) ?_
        cases h
        exact s_iret hX hR dX4_even_42
      · have h := (if_neg c3).symm.trans h
        refine s_iload_n hX dX4_even_21 rfl ?_
        refine s_i2l hX dX4_even_22 ?_
        refine s_lc hX (0 : Int64) dX4_even_23 (by decide) ?_
        refine s_ldc2 hX (20 : Int64) dX4_even_24 q_X4_202 ?_
        refine s_callS hX (as := [.long (x3.toInt64), .long (0 : Int64), .long (20 : Int64)]) dX4_even_27 k_X4_74 v_X4_in (m_X4_in (x3.toInt64) (0 : Int64) (20 : Int64) σ μ _ rfl) ⟨rfl, rfl⟩ ⟨(Nat.le_of_ble_eq_true rfl), (Nat.le_of_ble_eq_true rfl)⟩ rfl rfl (Nat.le_of_ble_eq_true rfl) ?_
        refine s_if_eq hX 41 dX4_even_30 (by decide) (fun c4 => ?_) (fun c4 => ?_)
        · have h := (if_pos c4).symm.trans h
          refine s_ic hX (-1 : Int32) dX4_even_41 (by decide) ?_
          cases h
          exact s_iret hX hR dX4_even_42
        · have h := (if_neg c4).symm.trans h
          refine s_iload hX dX4_even_33 rfl ?_
          refine s_callS hX (as := [.int x4]) dX4_even_35 k_X4_80 v_X4_isRow (m_X4_isRow x4 σ μ _ rfl) ⟨rfl, rfl⟩ ⟨(Nat.le_of_ble_eq_true rfl), (Nat.le_of_ble_eq_true rfl)⟩ rfl rfl (Nat.le_of_ble_eq_true rfl) ?_
          refine s_if_ne hX 43 dX4_even_38 (by decide) (fun c5 => ?_) (fun c5 => ?_)
          · have h := (if_neg c5).symm.trans h
            refine s_bi hX (-9 : Int32) dX4_even_43 (by decide) ?_
            refine s_istore hX dX4_even_45 (Nat.le_of_ble_eq_true rfl) ?_
            refine s_ldc hX (1000000 : Int32) dX4_even_47 q_X4_204 ?_
            refine s_istore hX dX4_even_49 (Nat.le_of_ble_eq_true rfl) ?_
            refine s_ic hX (0 : Int32) dX4_even_51 (by decide) ?_
            refine s_istore hX dX4_even_52 (Nat.le_of_ble_eq_true rfl) ?_
            obtain ⟨q17, e17, h⟩ := fs_bind h
            refine fs_ma [true, true, true, true, true, true, true, true, false, false, false] ?_
            refine l_X4_even_54  hX fs_fu x1 x2 x3 x4 (-9 : Int32) (1000000 : Int32) (0 : Int32) σ μ q17 e17 ?_
            refine s_iload hX dX4_even_149 rfl ?_
            refine s_bi hX (-9 : Int32) dX4_even_151 (by decide) ?_
            refine s_ic_ne hX 159 dX4_even_153 (by decide) (fun c18 => ?_) (fun c18 => ?_)
            · have h := (if_neg c18).symm.trans h
              refine s_aload_n hX dX4_even_159 rfl ?_
              refine s_iload hX dX4_even_160 rfl ?_
              refine s_aload_n hX dX4_even_162 rfl ?_
              refine s_geti hX dX4_even_163 f_X4_136 rfl ?_
              obtain ⟨q19, e19, h⟩ := fs_bind h
              refine s_cV hX [.int x4, .int (q17.2.2 51 9)] dX4_even_166 k_X4_208 v_X4_row (m_X4_row x4 (q17.2.2 51 9) q17.2.2 μ q19 e19) ⟨_, rfl⟩ fs_c4 ⟨rfl, rfl⟩ ⟨(Nat.le_of_ble_eq_true rfl), (Nat.le_of_ble_eq_true rfl)⟩ rfl rfl (Nat.le_of_ble_eq_true rfl) ?_
              refine s_istore hX dX4_even_169 (Nat.le_of_ble_eq_true rfl) ?_
              refine s_aload_n hX dX4_even_171 rfl ?_
              refine s_iload hX dX4_even_172 rfl ?_
              obtain ⟨q20, e20, h⟩ := fs_bind h
              refine s_cV hX [.int q17.1] dX4_even_174 k_X4_205 v_X4_laysSoot (m_X4_laysSoot q17.1 q19.2 μ q20 e20) ⟨_, rfl⟩ fs_c4 ⟨rfl, rfl⟩ ⟨(Nat.le_of_ble_eq_true rfl), (Nat.le_of_ble_eq_true rfl)⟩ rfl rfl (Nat.le_of_ble_eq_true rfl) ?_
              refine s_istore hX dX4_even_177 (Nat.le_of_ble_eq_true rfl) ?_
              refine s_ic hX (0 : Int32) dX4_even_179 (by decide) ?_
              refine s_istore hX dX4_even_180 (Nat.le_of_ble_eq_true rfl) ?_
              obtain ⟨q24, e24, h⟩ := fs_bind h
              refine fs_ma [true, false, false, false, true, false, true, false, false, true, false] ?_
              refine l_X4_even_182  hX fs_fu x4 q17.2.1 (0 : Int32) q20.2 μ q24 e24 ?_
              refine s_iload hX dX4_even_220 rfl ?_
              cases h
              exact s_iret hX hR dX4_even_222
            · have h := (if_pos c18).symm.trans h
              refine s_bi hX (-9 : Int32) dX4_even_156 (by decide) ?_
              cases h
              exact s_iret hX hR dX4_even_158
          · have h := (if_pos c5).symm.trans h
            refine s_ic hX (-1 : Int32) dX4_even_41 (by decide) ?_
            cases h
            exact s_iret hX hR dX4_even_42

-- X4_changes
def F_X4_changes (x1 : Int32) (x2 : Int32) (σ : fsS) : Option (fsS) := fs_g (fs_in x1 6) (fs_g (fs_in x2 6) (fs_g (fs_in x1 6) (fs_g (fs_in x2 6) (some (fs_u (fs_u σ 58 x1.toNatClampNeg (σ 58 x2.toNatClampNeg)) 58 x2.toNatClampNeg (σ 58 x1.toNatClampNeg))))))
set_option maxRecDepth 20000 in
set_option maxHeartbeats 40000000 in
theorem m_X4_changes (x1 : Int32) (x2 : Int32)  (σ : fsS) (μ : fsL) (out : fsS) (h : F_X4_changes x1 x2 σ = some out) : fs_Met yX4_changes cX4_changes 4 none { frames := 0, cells := 0, slots := 0, locals := 0 } [.ref 51, .int x1, .int x2] σ μ none out μ := by
  unfold F_X4_changes at h
  refine fs_intro (by decide +kernel) (Nat.le_of_ble_eq_true rfl) (fun X hX hR => ?_)
  show fs_PW X 0 [some (.ref 51), some (.int x1), some (.int x2), none] [] σ μ
  refine s_aload_n hX dX4_changes_0 rfl ?_
  refine s_getr hX dX4_changes_1 f_X4_32 rfl ?_
  refine s_iload_n hX dX4_changes_4 rfl ?_
  obtain ⟨g1, h⟩ := fs_gd h
  refine s_iald hX dX4_changes_5 g1 ?_
  refine s_istore_n hX dX4_changes_6 (Nat.le_of_ble_eq_true rfl) ?_
  refine s_aload_n hX dX4_changes_7 rfl ?_
  refine s_getr hX dX4_changes_8 f_X4_32 rfl ?_
  refine s_iload_n hX dX4_changes_11 rfl ?_
  refine s_aload_n hX dX4_changes_12 rfl ?_
  refine s_getr hX dX4_changes_13 f_X4_32 rfl ?_
  refine s_iload_n hX dX4_changes_16 rfl ?_
  obtain ⟨g2, h⟩ := fs_gd h
  refine s_iald hX dX4_changes_17 g2 ?_
  obtain ⟨g3, h⟩ := fs_gd h
  refine s_iast hX dX4_changes_18 g3 ?_
  refine s_aload_n hX dX4_changes_19 rfl ?_
  refine s_getr hX dX4_changes_20 f_X4_32 rfl ?_
  refine s_iload_n hX dX4_changes_23 rfl ?_
  refine s_iload_n hX dX4_changes_24 rfl ?_
  obtain ⟨g4, h⟩ := fs_gd h
  refine s_iast hX dX4_changes_25 g4 ?_
  cases h
  exact s_vret hX hR dX4_changes_26

-- X4_change
def L_X4_change_55  : Nat → Int32 → Int32 → Int32 → Int32 → Int32 → fsS → Option (Int32 × Int32 × fsS)
  | 0, _, _, _, _, _, _ => none
  | n0 + 1, y1, y2, y3, y4, y5, σ => if (σ 51 9) ≤ y5 then some (y2, y3, σ) else (F_X4_changes y4 y5 σ).bind (fun q7 => (F_X4_layAside  q7).bind (fun q8 => (F_X4_givesIn y1 q8).bind (fun q9 => (F_X4_changes y4 y5 q9.2).bind (fun q10 => if y2 ≤ q9.1 then L_X4_change_55  n0 y1 (F_X4_lesser q9.1 y2) y3 y4 (y5 + (1 : Int32)) q10 else L_X4_change_55  n0 y1 (F_X4_lesser q9.1 y2) (((10 : Int32) * y4) + y5) y4 (y5 + (1 : Int32)) q10))))
def L_X4_change_40  : Nat → Int32 → Int32 → Int32 → Int32 → fsS → Option (Int32 × Int32 × fsS)
  | 0, _, _, _, _, _ => none
  | n0 + 1, y1, y2, y3, y4, σ => if (σ 51 9) ≤ y4 then some (y2, y3, σ) else (L_X4_change_55  fs_fu y1 y2 y3 y4 (y4 + (1 : Int32)) σ).bind (fun q12 => L_X4_change_40  n0 y1 q12.1 q12.2.1 (y4 + (1 : Int32)) q12.2.2)
def F_X4_change (x1 : Int32) (σ : fsS) : Option (Int32 × fsS) := if (F_X4_in (x1.toInt64) (1 : Int64) (20 : Int64)) = 0 then some ((-1 : Int32), σ) else if (σ 51 9) = 0 then some ((-4 : Int32), σ) else (F_X4_layAside  σ).bind (fun q3 => (F_X4_givesIn x1 q3).bind (fun q4 => (L_X4_change_40  fs_fu x1 q4.1 (-9 : Int32) (0 : Int32) q4.2).bind (fun q13 => if q13.2.1 = (-9 : Int32) then some ((-9 : Int32), q13.2.2) else some ((F_X4_answer q13.2.1 q13.1 q13.2.2).1, (F_X4_answer q13.2.1 q13.1 q13.2.2).2))))
set_option maxRecDepth 20000 in
set_option maxHeartbeats 40000000 in
theorem l_X4_change_55   {X : fsC} (hX : fs_ok cX4_change RX4 7 { frames := 5, cells := 0, slots := 0, locals := 116 } X) : ∀ (n : Nat) (y1 : Int32) (y2 : Int32) (y3 : Int32) (y4 : Int32) (y5 : Int32) (σ : fsS) (μ : fsL) (out : Int32 × Int32 × fsS) (_ : L_X4_change_55  n y1 y2 y3 y4 y5 σ = some out) (k0 : fs_PW X 123 [some (.ref 51), some (.int y1), some (.int out.1), some (.int out.2.1), some (.int y4), none, none] [] out.2.2 μ), fs_PW X 55 [some (.ref 51), some (.int y1), some (.int y2), some (.int y3), some (.int y4), some (.int y5), none] [] σ μ := by
  intro n
  induction n with
  | zero =>
    intro y1 y2 y3 y4 y5 σ μ out h
    cases (show (none : Option (Int32 × Int32 × fsS)) = some out from h)
  | succ n0 ih =>
    intro y1 y2 y3 y4 y5 σ μ out h k0
    unfold L_X4_change_55 at h
    refine s_iload hX dX4_change_55 rfl ?_
    refine s_aload_n hX dX4_change_57 rfl ?_
    refine s_geti hX dX4_change_58 f_X4_136 rfl ?_
    refine s_ic_ge hX 123 dX4_change_61 (by decide) (fun c6 => ?_) (fun c6 => ?_)
    · have h := (if_pos c6).symm.trans h
      cases h
      refine fs_ma [true, true, true, true, true, false, false] ?_
      exact k0
    · have h := (if_neg c6).symm.trans h
      refine s_aload_n hX dX4_change_64 rfl ?_
      refine s_iload hX dX4_change_65 rfl ?_
      refine s_iload hX dX4_change_67 rfl ?_
      obtain ⟨q7, e7, h⟩ := fs_bind h
      refine s_cV hX [.int y4, .int y5] dX4_change_69 k_X4_211 v_X4_changes (m_X4_changes y4 y5 σ μ q7 e7) ⟨_, rfl⟩ fs_c4 ⟨rfl, rfl⟩ ⟨(Nat.le_of_ble_eq_true rfl), (Nat.le_of_ble_eq_true rfl)⟩ rfl rfl (Nat.le_of_ble_eq_true rfl) ?_
      refine s_aload_n hX dX4_change_72 rfl ?_
      obtain ⟨q8, e8, h⟩ := fs_bind h
      refine s_cV hX [] dX4_change_73 k_X4_191 v_X4_layAside (m_X4_layAside q7 μ q8 e8) ⟨_, rfl⟩ fs_c4 ⟨rfl, rfl⟩ ⟨(Nat.le_of_ble_eq_true rfl), (Nat.le_of_ble_eq_true rfl)⟩ rfl rfl (Nat.le_of_ble_eq_true rfl) ?_
      refine s_aload_n hX dX4_change_76 rfl ?_
      refine s_iload_n hX dX4_change_77 rfl ?_
      obtain ⟨q9, e9, h⟩ := fs_bind h
      refine s_cV hX [.int y1] dX4_change_78 k_X4_194 v_X4_givesIn (m_X4_givesIn y1 q8 μ q9 e9) ⟨_, rfl⟩ fs_c4 ⟨rfl, rfl⟩ ⟨(Nat.le_of_ble_eq_true rfl), (Nat.le_of_ble_eq_true rfl)⟩ rfl rfl (Nat.le_of_ble_eq_true rfl) ?_
      refine s_istore hX dX4_change_81 (Nat.le_of_ble_eq_true rfl) ?_
      refine s_aload_n hX dX4_change_83 rfl ?_
      refine s_iload hX dX4_change_84 rfl ?_
      refine s_iload hX dX4_change_86 rfl ?_
      obtain ⟨q10, e10, h⟩ := fs_bind h
      refine s_cV hX [.int y4, .int y5] dX4_change_88 k_X4_211 v_X4_changes (m_X4_changes y4 y5 q9.2 μ q10 e10) ⟨_, rfl⟩ fs_c4 ⟨rfl, rfl⟩ ⟨(Nat.le_of_ble_eq_true rfl), (Nat.le_of_ble_eq_true rfl)⟩ rfl rfl (Nat.le_of_ble_eq_true rfl) ?_
      refine s_iload hX dX4_change_91 rfl ?_
      refine s_iload_n hX dX4_change_93 rfl ?_
      refine s_ic_ge hX 108 dX4_change_94 (by decide) (fun c11 => ?_) (fun c11 => ?_)
      · have h := (if_pos c11).symm.trans h
        refine s_iload_n hX dX4_change_108 rfl ?_
        refine s_istore_n hX dX4_change_109 (Nat.le_of_ble_eq_true rfl) ?_
        refine s_iload hX dX4_change_110 rfl ?_
        refine s_iload_n hX dX4_change_112 rfl ?_
        refine s_callS hX (as := [.int q9.1, .int y2]) dX4_change_113 k_X4_143 v_X4_lesser (m_X4_lesser q9.1 y2 q10 μ _ rfl) ⟨rfl, rfl⟩ ⟨(Nat.le_of_ble_eq_true rfl), (Nat.le_of_ble_eq_true rfl)⟩ rfl rfl (Nat.le_of_ble_eq_true rfl) ?_
        refine s_istore_n hX dX4_change_116 (Nat.le_of_ble_eq_true rfl) ?_
        refine s_iinc hX (y5 + (1 : Int32)) dX4_change_117 rfl rfl (Nat.le_of_ble_eq_true rfl) ?_
        refine s_goto hX 55 dX4_change_120 (by decide) ?_
        refine fs_ma [true, true, true, true, true, true, false] ?_
        exact ih y1 (F_X4_lesser q9.1 y2) y3 y4 (y5 + (1 : Int32)) q10 μ out h k0
      · have h := (if_neg c11).symm.trans h
        refine s_bi hX (10 : Int32) dX4_change_97 (by decide) ?_
        refine s_iload hX dX4_change_99 rfl ?_
        refine s_imul hX dX4_change_101 ?_
        refine s_iload hX dX4_change_102 rfl ?_
        refine s_iadd hX dX4_change_104 ?_
        refine s_goto hX 109 dX4_change_105 (by decide) ?_
        refine s_istore_n hX dX4_change_109 (Nat.le_of_ble_eq_true rfl) ?_
        refine s_iload hX dX4_change_110 rfl ?_
        refine s_iload_n hX dX4_change_112 rfl ?_
        refine s_callS hX (as := [.int q9.1, .int y2]) dX4_change_113 k_X4_143 v_X4_lesser (m_X4_lesser q9.1 y2 q10 μ _ rfl) ⟨rfl, rfl⟩ ⟨(Nat.le_of_ble_eq_true rfl), (Nat.le_of_ble_eq_true rfl)⟩ rfl rfl (Nat.le_of_ble_eq_true rfl) ?_
        refine s_istore_n hX dX4_change_116 (Nat.le_of_ble_eq_true rfl) ?_
        refine s_iinc hX (y5 + (1 : Int32)) dX4_change_117 rfl rfl (Nat.le_of_ble_eq_true rfl) ?_
        refine s_goto hX 55 dX4_change_120 (by decide) ?_
        refine fs_ma [true, true, true, true, true, true, false] ?_
        exact ih y1 (F_X4_lesser q9.1 y2) (((10 : Int32) * y4) + y5) y4 (y5 + (1 : Int32)) q10 μ out h k0
set_option maxRecDepth 20000 in
set_option maxHeartbeats 40000000 in
theorem l_X4_change_40   {X : fsC} (hX : fs_ok cX4_change RX4 7 { frames := 5, cells := 0, slots := 0, locals := 116 } X) : ∀ (n : Nat) (y1 : Int32) (y2 : Int32) (y3 : Int32) (y4 : Int32) (σ : fsS) (μ : fsL) (out : Int32 × Int32 × fsS) (_ : L_X4_change_40  n y1 y2 y3 y4 σ = some out) (k0 : fs_PW X 129 [some (.ref 51), none, some (.int out.1), some (.int out.2.1), none, none, none] [] out.2.2 μ), fs_PW X 40 [some (.ref 51), some (.int y1), some (.int y2), some (.int y3), some (.int y4), none, none] [] σ μ := by
  intro n
  induction n with
  | zero =>
    intro y1 y2 y3 y4 σ μ out h
    cases (show (none : Option (Int32 × Int32 × fsS)) = some out from h)
  | succ n0 ih =>
    intro y1 y2 y3 y4 σ μ out h k0
    unfold L_X4_change_40 at h
    refine s_iload hX dX4_change_40 rfl ?_
    refine s_aload_n hX dX4_change_42 rfl ?_
    refine s_geti hX dX4_change_43 f_X4_136 rfl ?_
    refine s_ic_ge hX 129 dX4_change_46 (by decide) (fun c5 => ?_) (fun c5 => ?_)
    · have h := (if_pos c5).symm.trans h
      cases h
      refine fs_ma [true, false, true, true, false, false, false] ?_
      exact k0
    · have h := (if_neg c5).symm.trans h
      refine s_iload hX dX4_change_49 rfl ?_
      refine s_ic hX (1 : Int32) dX4_change_51 (by decide) ?_
      refine s_iadd hX dX4_change_52 ?_
      refine s_istore hX dX4_change_53 (Nat.le_of_ble_eq_true rfl) ?_
      obtain ⟨q12, e12, h⟩ := fs_bind h
      refine fs_ma [true, true, true, true, true, true, false] ?_
      refine l_X4_change_55  hX fs_fu y1 y2 y3 y4 (y4 + (1 : Int32)) σ μ q12 e12 ?_
      refine s_iinc hX (y4 + (1 : Int32)) dX4_change_123 rfl rfl (Nat.le_of_ble_eq_true rfl) ?_
      refine s_goto hX 40 dX4_change_126 (by decide) ?_
      refine fs_ma [true, true, true, true, true, false, false] ?_
      exact ih y1 q12.1 q12.2.1 (y4 + (1 : Int32)) q12.2.2 μ out h k0
set_option maxRecDepth 20000 in
set_option maxHeartbeats 40000000 in
theorem m_X4_change (x1 : Int32)  (σ : fsS) (μ : fsL) (out : Int32 × fsS) (h : F_X4_change x1 σ = some out) : fs_Met yX4_change cX4_change 7 (some .int) { frames := 5, cells := 0, slots := 0, locals := 116 } [.ref 51, .int x1] σ μ (some (.int out.1)) out.2 μ := by
  unfold F_X4_change at h
  refine fs_intro (by decide +kernel) (Nat.le_of_ble_eq_true rfl) (fun X hX hR => ?_)
  show fs_PW X 0 [some (.ref 51), some (.int x1), none, none, none, none, none] [] σ μ
  refine s_iload_n hX dX4_change_0 rfl ?_
  refine s_i2l hX dX4_change_1 ?_
  refine s_lc hX (1 : Int64) dX4_change_2 (by decide) ?_
  refine s_ldc2 hX (20 : Int64) dX4_change_3 q_X4_202 ?_
  refine s_callS hX (as := [.long (x1.toInt64), .long (1 : Int64), .long (20 : Int64)]) dX4_change_6 k_X4_74 v_X4_in (m_X4_in (x1.toInt64) (1 : Int64) (20 : Int64) σ μ _ rfl) ⟨rfl, rfl⟩ ⟨(Nat.le_of_ble_eq_true rfl), (Nat.le_of_ble_eq_true rfl)⟩ rfl rfl (Nat.le_of_ble_eq_true rfl) ?_
  refine s_if_ne hX 14 dX4_change_9 (by decide) (fun c1 => ?_) (fun c1 => ?_)
  · have h := (if_neg c1).symm.trans h
    refine s_aload_n hX dX4_change_14 rfl ?_
    refine s_geti hX dX4_change_15 f_X4_136 rfl ?_
    refine s_if_ne hX 24 dX4_change_18 (by decide) (fun c2 => ?_) (fun c2 => ?_)
    · have h := (if_neg c2).symm.trans h
      refine s_aload_n hX dX4_change_24 rfl ?_
      obtain ⟨q3, e3, h⟩ := fs_bind h
      refine s_cV hX [] dX4_change_25 k_X4_191 v_X4_layAside (m_X4_layAside σ μ q3 e3) ⟨_, rfl⟩ fs_c4 ⟨rfl, rfl⟩ ⟨(Nat.le_of_ble_eq_true rfl), (Nat.le_of_ble_eq_true rfl)⟩ rfl rfl (Nat.le_of_ble_eq_true rfl) ?_
      refine s_aload_n hX dX4_change_28 rfl ?_
      refine s_iload_n hX dX4_change_29 rfl ?_
      obtain ⟨q4, e4, h⟩ := fs_bind h
      refine s_cV hX [.int x1] dX4_change_30 k_X4_194 v_X4_givesIn (m_X4_givesIn x1 q3 μ q4 e4) ⟨_, rfl⟩ fs_c4 ⟨rfl, rfl⟩ ⟨(Nat.le_of_ble_eq_true rfl), (Nat.le_of_ble_eq_true rfl)⟩ rfl rfl (Nat.le_of_ble_eq_true rfl) ?_
      refine s_istore_n hX dX4_change_33 (Nat.le_of_ble_eq_true rfl) ?_
      refine s_bi hX (-9 : Int32) dX4_change_34 (by decide) ?_
      refine s_istore_n hX dX4_change_36 (Nat.le_of_ble_eq_true rfl) ?_
      refine s_ic hX (0 : Int32) dX4_change_37 (by decide) ?_
      refine s_istore hX dX4_change_38 (Nat.le_of_ble_eq_true rfl) ?_
      obtain ⟨q13, e13, h⟩ := fs_bind h
      refine fs_ma [true, true, true, true, true, false, false] ?_
      refine l_X4_change_40  hX fs_fu x1 q4.1 (-9 : Int32) (0 : Int32) q4.2 μ q13 e13 ?_
      refine s_iload_n hX dX4_change_129 rfl ?_
      refine s_bi hX (-9 : Int32) dX4_change_130 (by decide) ?_
      refine s_ic_ne hX 140 dX4_change_132 (by decide) (fun c14 => ?_) (fun c14 => ?_)
      · have h := (if_neg c14).symm.trans h
        refine s_aload_n hX dX4_change_140 rfl ?_
        refine s_iload_n hX dX4_change_141 rfl ?_
        refine s_iload_n hX dX4_change_142 rfl ?_
        refine s_cV hX [.int q13.2.1, .int q13.1] dX4_change_143 k_X4_186 v_X4_answer (m_X4_answer q13.2.1 q13.1 q13.2.2 μ _ rfl) ⟨_, rfl⟩ fs_c4 ⟨rfl, rfl⟩ ⟨(Nat.le_of_ble_eq_true rfl), (Nat.le_of_ble_eq_true rfl)⟩ rfl rfl (Nat.le_of_ble_eq_true rfl) ?_
        cases h
        exact s_iret hX hR dX4_change_146
      · have h := (if_pos c14).symm.trans h
        refine s_bi hX (-9 : Int32) dX4_change_135 (by decide) ?_
        refine s_goto hX 146 dX4_change_137 (by decide) ?_
        cases h
        exact s_iret hX hR dX4_change_146
    · have h := (if_pos c2).symm.trans h
      refine s_bi hX (-4 : Int32) dX4_change_21 (by decide) ?_
      cases h
      exact s_iret hX hR dX4_change_23
  · have h := (if_pos c1).symm.trans h
    refine s_ic hX (-1 : Int32) dX4_change_12 (by decide) ?_
    cases h
    exact s_iret hX hR dX4_change_13
