-- X4_weighs
def L_X4_weighs_28  : Nat → Int32 → Int32 → Int32 → Int32 → Int32 → Int32 → fsS → Option (Int32)
  | 0, _, _, _, _, _, _, _ => none
  | n0 + 1, y1, y2, y3, y4, y5, y6, σ => if (4 : Int32) ≤ y6 then some y5 else if y6 = (y4 + (1 : Int32)) then fs_g (fs_in (y1 + (y3 * (y6 - y4))) 16) (if (σ 66 (y1 + (y3 * (y6 - y4))).toNatClampNeg) ≤ y5 then if y2 = (0 : Int32) then L_X4_weighs_28  n0 y1 y2 y3 y4 (σ 66 (y1 + (y3 * (y6 - y4))).toNatClampNeg) (y6 + (1 : Int32)) σ else L_X4_weighs_28  n0 y1 y2 y3 y4 y5 (y6 + (1 : Int32)) σ else if y2 = (1 : Int32) then L_X4_weighs_28  n0 y1 y2 y3 y4 (σ 66 (y1 + (y3 * (y6 - y4))).toNatClampNeg) (y6 + (1 : Int32)) σ else L_X4_weighs_28  n0 y1 y2 y3 y4 y5 (y6 + (1 : Int32)) σ) else if y6 = 0 then if y4 ≤ 0 then fs_g (fs_in (y1 + (y3 * (y6 - y4))) 16) (L_X4_weighs_28  n0 y1 y2 y3 y4 y5 (y6 + (1 : Int32)) σ) else fs_g (fs_in (y1 + (y3 * (y6 - y4))) 16) (if (σ 66 (y1 + (y3 * (y6 - y4))).toNatClampNeg) ≤ y5 then if y2 = (0 : Int32) then L_X4_weighs_28  n0 y1 y2 y3 y4 (σ 66 (y1 + (y3 * (y6 - y4))).toNatClampNeg) (y6 + (1 : Int32)) σ else L_X4_weighs_28  n0 y1 y2 y3 y4 y5 (y6 + (1 : Int32)) σ else if y2 = (1 : Int32) then L_X4_weighs_28  n0 y1 y2 y3 y4 (σ 66 (y1 + (y3 * (y6 - y4))).toNatClampNeg) (y6 + (1 : Int32)) σ else L_X4_weighs_28  n0 y1 y2 y3 y4 y5 (y6 + (1 : Int32)) σ) else fs_g (fs_in (y1 + (y3 * (y6 - y4))) 16) (L_X4_weighs_28  n0 y1 y2 y3 y4 y5 (y6 + (1 : Int32)) σ)
def F_X4_weighs (x1 : Int32) (x2 : Int32) (σ : fsS) : Option (Int32) := if x2 = 0 then fs_g (fs_in x1 16) ((L_X4_weighs_28  fs_fu x1 x2 (1 : Int32) ((x1 / (1 : Int32)) - (x1 / (1 : Int32)) / (4 : Int32) * (4 : Int32)) (σ 66 x1.toNatClampNeg) (0 : Int32) σ).bind (fun q21 => some q21)) else fs_g (fs_in x1 16) ((L_X4_weighs_28  fs_fu x1 x2 (4 : Int32) ((x1 / (4 : Int32)) - (x1 / (4 : Int32)) / (4 : Int32) * (4 : Int32)) (σ 66 x1.toNatClampNeg) (0 : Int32) σ).bind (fun q23 => some q23))
set_option maxRecDepth 20000 in
set_option maxHeartbeats 40000000 in
theorem l_X4_weighs_28   {X : fsC} (hX : fs_ok cX4_weighs RX4 9 { frames := 0, cells := 0, slots := 0, locals := 0 } X) : ∀ (n : Nat) (y1 : Int32) (y2 : Int32) (y3 : Int32) (y4 : Int32) (y5 : Int32) (y6 : Int32) (σ : fsS) (μ : fsL) (out : Int32) (_ : L_X4_weighs_28  n y1 y2 y3 y4 y5 y6 σ = some out) (k0 : fs_PW X 112 [none, none, none, none, none, some (.int out), none, none, none] [] σ μ), fs_PW X 28 [some (.ref 51), some (.int y1), some (.int y2), some (.int y3), some (.int y4), some (.int y5), some (.int y6), none, none] [] σ μ := by
  intro n
  induction n with
  | zero =>
    intro y1 y2 y3 y4 y5 y6 σ μ out h
    cases (show (none : Option (Int32)) = some out from h)
  | succ n0 ih =>
    intro y1 y2 y3 y4 y5 y6 σ μ out h k0
    unfold L_X4_weighs_28 at h
    refine s_iload hX dX4_weighs_28 rfl ?_
    refine s_ic hX (4 : Int32) dX4_weighs_30 (by decide) ?_
    refine s_ic_ge hX 112 dX4_weighs_31 (by decide) (fun c3 => ?_) (fun c3 => ?_)
    · have h := (if_pos c3).symm.trans h
      cases h
      refine fs_ma [false, false, false, false, false, true, false, false, false] ?_
      exact k0
    · have h := (if_neg c3).symm.trans h
      refine s_iload hX dX4_weighs_34 rfl ?_
      refine s_iload hX dX4_weighs_36 rfl ?_
      refine s_ic hX (1 : Int32) dX4_weighs_38 (by decide) ?_
      refine s_iadd hX dX4_weighs_39 ?_
      refine s_ic_eq hX 53 dX4_weighs_40 (by decide) (fun c4 => ?_) (fun c4 => ?_)
      · have h := (if_pos c4).symm.trans h
        refine s_ic hX (1 : Int32) dX4_weighs_53 (by decide) ?_
        refine s_goto hX 58 dX4_weighs_54 (by decide) ?_
        refine s_istore hX dX4_weighs_58 (Nat.le_of_ble_eq_true rfl) ?_
        refine s_aload_n hX dX4_weighs_60 rfl ?_
        refine s_getr hX dX4_weighs_61 f_X4_56 rfl ?_
        refine s_iload_n hX dX4_weighs_64 rfl ?_
        refine s_iload_n hX dX4_weighs_65 rfl ?_
        refine s_iload hX dX4_weighs_66 rfl ?_
        refine s_iload hX dX4_weighs_68 rfl ?_
        refine s_isub hX dX4_weighs_70 ?_
        refine s_imul hX dX4_weighs_71 ?_
        refine s_iadd hX dX4_weighs_72 ?_
        obtain ⟨g5, h⟩ := fs_gd h
        refine s_iald hX dX4_weighs_73 g5 ?_
        refine s_istore hX dX4_weighs_74 (Nat.le_of_ble_eq_true rfl) ?_
        refine s_iload hX dX4_weighs_76 rfl ?_
        refine s_if_eq hX 102 dX4_weighs_78 (by decide) (fun c6 => absurd c6 (by decide)) (fun _ => ?_)
        refine s_iload_n hX dX4_weighs_81 rfl ?_
        refine s_iload hX dX4_weighs_82 rfl ?_
        refine s_iload hX dX4_weighs_84 rfl ?_
        refine s_ic_le hX 93 dX4_weighs_86 (by decide) (fun c7 => ?_) (fun c7 => ?_)
        · have h := (if_pos c7).symm.trans h
          refine s_ic hX (0 : Int32) dX4_weighs_93 (by decide) ?_
          refine s_ic_ne hX 102 dX4_weighs_94 (by decide) (fun c8 => ?_) (fun c8 => ?_)
          · have h := (if_neg c8).symm.trans h
            refine s_iload hX dX4_weighs_102 rfl ?_
            refine s_istore hX dX4_weighs_104 (Nat.le_of_ble_eq_true rfl) ?_
            refine s_iinc hX (y6 + (1 : Int32)) dX4_weighs_106 rfl rfl (Nat.le_of_ble_eq_true rfl) ?_
            refine s_goto hX 28 dX4_weighs_109 (by decide) ?_
            refine fs_ma [true, true, true, true, true, true, true, false, false] ?_
            exact ih y1 y2 y3 y4 y5 (y6 + (1 : Int32)) σ μ out h k0
          · have h := (if_pos c8).symm.trans h
            refine s_iload hX dX4_weighs_97 rfl ?_
            refine s_goto hX 104 dX4_weighs_99 (by decide) ?_
            refine s_istore hX dX4_weighs_104 (Nat.le_of_ble_eq_true rfl) ?_
            refine s_iinc hX (y6 + (1 : Int32)) dX4_weighs_106 rfl rfl (Nat.le_of_ble_eq_true rfl) ?_
            refine s_goto hX 28 dX4_weighs_109 (by decide) ?_
            refine fs_ma [true, true, true, true, true, true, true, false, false] ?_
            exact ih y1 y2 y3 y4 (σ 66 (y1 + (y3 * (y6 - y4))).toNatClampNeg) (y6 + (1 : Int32)) σ μ out h k0
        · have h := (if_neg c7).symm.trans h
          refine s_ic hX (1 : Int32) dX4_weighs_89 (by decide) ?_
          refine s_goto hX 94 dX4_weighs_90 (by decide) ?_
          refine s_ic_ne hX 102 dX4_weighs_94 (by decide) (fun c9 => ?_) (fun c9 => ?_)
          · have h := (if_neg c9).symm.trans h
            refine s_iload hX dX4_weighs_102 rfl ?_
            refine s_istore hX dX4_weighs_104 (Nat.le_of_ble_eq_true rfl) ?_
            refine s_iinc hX (y6 + (1 : Int32)) dX4_weighs_106 rfl rfl (Nat.le_of_ble_eq_true rfl) ?_
            refine s_goto hX 28 dX4_weighs_109 (by decide) ?_
            refine fs_ma [true, true, true, true, true, true, true, false, false] ?_
            exact ih y1 y2 y3 y4 y5 (y6 + (1 : Int32)) σ μ out h k0
          · have h := (if_pos c9).symm.trans h
            refine s_iload hX dX4_weighs_97 rfl ?_
            refine s_goto hX 104 dX4_weighs_99 (by decide) ?_
            refine s_istore hX dX4_weighs_104 (Nat.le_of_ble_eq_true rfl) ?_
            refine s_iinc hX (y6 + (1 : Int32)) dX4_weighs_106 rfl rfl (Nat.le_of_ble_eq_true rfl) ?_
            refine s_goto hX 28 dX4_weighs_109 (by decide) ?_
            refine fs_ma [true, true, true, true, true, true, true, false, false] ?_
            exact ih y1 y2 y3 y4 (σ 66 (y1 + (y3 * (y6 - y4))).toNatClampNeg) (y6 + (1 : Int32)) σ μ out h k0
      · have h := (if_neg c4).symm.trans h
        refine s_iload hX dX4_weighs_43 rfl ?_
        refine s_if_ne hX 57 dX4_weighs_45 (by decide) (fun c10 => ?_) (fun c10 => ?_)
        · have h := (if_neg c10).symm.trans h
          refine s_ic hX (0 : Int32) dX4_weighs_57 (by decide) ?_
          refine s_istore hX dX4_weighs_58 (Nat.le_of_ble_eq_true rfl) ?_
          refine s_aload_n hX dX4_weighs_60 rfl ?_
          refine s_getr hX dX4_weighs_61 f_X4_56 rfl ?_
          refine s_iload_n hX dX4_weighs_64 rfl ?_
          refine s_iload_n hX dX4_weighs_65 rfl ?_
          refine s_iload hX dX4_weighs_66 rfl ?_
          refine s_iload hX dX4_weighs_68 rfl ?_
          refine s_isub hX dX4_weighs_70 ?_
          refine s_imul hX dX4_weighs_71 ?_
          refine s_iadd hX dX4_weighs_72 ?_
          obtain ⟨g11, h⟩ := fs_gd h
          refine s_iald hX dX4_weighs_73 g11 ?_
          refine s_istore hX dX4_weighs_74 (Nat.le_of_ble_eq_true rfl) ?_
          refine s_iload hX dX4_weighs_76 rfl ?_
          refine s_if_eq hX 102 dX4_weighs_78 (by decide) (fun _ => ?_) (fun c12 => absurd (by decide) c12)
          refine s_iload hX dX4_weighs_102 rfl ?_
          refine s_istore hX dX4_weighs_104 (Nat.le_of_ble_eq_true rfl) ?_
          refine s_iinc hX (y6 + (1 : Int32)) dX4_weighs_106 rfl rfl (Nat.le_of_ble_eq_true rfl) ?_
          refine s_goto hX 28 dX4_weighs_109 (by decide) ?_
          refine fs_ma [true, true, true, true, true, true, true, false, false] ?_
          exact ih y1 y2 y3 y4 y5 (y6 + (1 : Int32)) σ μ out h k0
        · have h := (if_pos c10).symm.trans h
          refine s_iload hX dX4_weighs_48 rfl ?_
          refine s_if_le hX 57 dX4_weighs_50 (by decide) (fun c13 => ?_) (fun c13 => ?_)
          · have h := (if_pos c13).symm.trans h
            refine s_ic hX (0 : Int32) dX4_weighs_57 (by decide) ?_
            refine s_istore hX dX4_weighs_58 (Nat.le_of_ble_eq_true rfl) ?_
            refine s_aload_n hX dX4_weighs_60 rfl ?_
            refine s_getr hX dX4_weighs_61 f_X4_56 rfl ?_
            refine s_iload_n hX dX4_weighs_64 rfl ?_
            refine s_iload_n hX dX4_weighs_65 rfl ?_
            refine s_iload hX dX4_weighs_66 rfl ?_
            refine s_iload hX dX4_weighs_68 rfl ?_
            refine s_isub hX dX4_weighs_70 ?_
            refine s_imul hX dX4_weighs_71 ?_
            refine s_iadd hX dX4_weighs_72 ?_
            obtain ⟨g14, h⟩ := fs_gd h
            refine s_iald hX dX4_weighs_73 g14 ?_
            refine s_istore hX dX4_weighs_74 (Nat.le_of_ble_eq_true rfl) ?_
            refine s_iload hX dX4_weighs_76 rfl ?_
            refine s_if_eq hX 102 dX4_weighs_78 (by decide) (fun _ => ?_) (fun c15 => absurd (by decide) c15)
            refine s_iload hX dX4_weighs_102 rfl ?_
            refine s_istore hX dX4_weighs_104 (Nat.le_of_ble_eq_true rfl) ?_
            refine s_iinc hX (y6 + (1 : Int32)) dX4_weighs_106 rfl rfl (Nat.le_of_ble_eq_true rfl) ?_
            refine s_goto hX 28 dX4_weighs_109 (by decide) ?_
            refine fs_ma [true, true, true, true, true, true, true, false, false] ?_
            exact ih y1 y2 y3 y4 y5 (y6 + (1 : Int32)) σ μ out h k0
          · have h := (if_neg c13).symm.trans h
            refine s_ic hX (1 : Int32) dX4_weighs_53 (by decide) ?_
            refine s_goto hX 58 dX4_weighs_54 (by decide) ?_
            refine s_istore hX dX4_weighs_58 (Nat.le_of_ble_eq_true rfl) ?_
            refine s_aload_n hX dX4_weighs_60 rfl ?_
            refine s_getr hX dX4_weighs_61 f_X4_56 rfl ?_
            refine s_iload_n hX dX4_weighs_64 rfl ?_
            refine s_iload_n hX dX4_weighs_65 rfl ?_
            refine s_iload hX dX4_weighs_66 rfl ?_
            refine s_iload hX dX4_weighs_68 rfl ?_
            refine s_isub hX dX4_weighs_70 ?_
            refine s_imul hX dX4_weighs_71 ?_
            refine s_iadd hX dX4_weighs_72 ?_
            obtain ⟨g16, h⟩ := fs_gd h
            refine s_iald hX dX4_weighs_73 g16 ?_
            refine s_istore hX dX4_weighs_74 (Nat.le_of_ble_eq_true rfl) ?_
            refine s_iload hX dX4_weighs_76 rfl ?_
            refine s_if_eq hX 102 dX4_weighs_78 (by decide) (fun c17 => absurd c17 (by decide)) (fun _ => ?_)
            refine s_iload_n hX dX4_weighs_81 rfl ?_
            refine s_iload hX dX4_weighs_82 rfl ?_
            refine s_iload hX dX4_weighs_84 rfl ?_
            refine s_ic_le hX 93 dX4_weighs_86 (by decide) (fun c18 => ?_) (fun c18 => ?_)
            · have h := (if_pos c18).symm.trans h
              refine s_ic hX (0 : Int32) dX4_weighs_93 (by decide) ?_
              refine s_ic_ne hX 102 dX4_weighs_94 (by decide) (fun c19 => ?_) (fun c19 => ?_)
              · have h := (if_neg c19).symm.trans h
                refine s_iload hX dX4_weighs_102 rfl ?_
                refine s_istore hX dX4_weighs_104 (Nat.le_of_ble_eq_true rfl) ?_
                refine s_iinc hX (y6 + (1 : Int32)) dX4_weighs_106 rfl rfl (Nat.le_of_ble_eq_true rfl) ?_
                refine s_goto hX 28 dX4_weighs_109 (by decide) ?_
                refine fs_ma [true, true, true, true, true, true, true, false, false] ?_
                exact ih y1 y2 y3 y4 y5 (y6 + (1 : Int32)) σ μ out h k0
              · have h := (if_pos c19).symm.trans h
                refine s_iload hX dX4_weighs_97 rfl ?_
                refine s_goto hX 104 dX4_weighs_99 (by decide) ?_
                refine s_istore hX dX4_weighs_104 (Nat.le_of_ble_eq_true rfl) ?_
                refine s_iinc hX (y6 + (1 : Int32)) dX4_weighs_106 rfl rfl (Nat.le_of_ble_eq_true rfl) ?_
                refine s_goto hX 28 dX4_weighs_109 (by decide) ?_
                refine fs_ma [true, true, true, true, true, true, true, false, false] ?_
                exact ih y1 y2 y3 y4 (σ 66 (y1 + (y3 * (y6 - y4))).toNatClampNeg) (y6 + (1 : Int32)) σ μ out h k0
            · have h := (if_neg c18).symm.trans h
              refine s_ic hX (1 : Int32) dX4_weighs_89 (by decide) ?_
              refine s_goto hX 94 dX4_weighs_90 (by decide) ?_
              refine s_ic_ne hX 102 dX4_weighs_94 (by decide) (fun c20 => ?_) (fun c20 => ?_)
              · have h := (if_neg c20).symm.trans h
                refine s_iload hX dX4_weighs_102 rfl ?_
                refine s_istore hX dX4_weighs_104 (Nat.le_of_ble_eq_true rfl) ?_
                refine s_iinc hX (y6 + (1 : Int32)) dX4_weighs_106 rfl rfl (Nat.le_of_ble_eq_true rfl) ?_
                refine s_goto hX 28 dX4_weighs_109 (by decide) ?_
                refine fs_ma [true, true, true, true, true, true, true, false, false] ?_
                exact ih y1 y2 y3 y4 y5 (y6 + (1 : Int32)) σ μ out h k0
              · have h := (if_pos c20).symm.trans h
                refine s_iload hX dX4_weighs_97 rfl ?_
                refine s_goto hX 104 dX4_weighs_99 (by decide) ?_
                refine s_istore hX dX4_weighs_104 (Nat.le_of_ble_eq_true rfl) ?_
                refine s_iinc hX (y6 + (1 : Int32)) dX4_weighs_106 rfl rfl (Nat.le_of_ble_eq_true rfl) ?_
                refine s_goto hX 28 dX4_weighs_109 (by decide) ?_
                refine fs_ma [true, true, true, true, true, true, true, false, false] ?_
                exact ih y1 y2 y3 y4 (σ 66 (y1 + (y3 * (y6 - y4))).toNatClampNeg) (y6 + (1 : Int32)) σ μ out h k0
set_option maxRecDepth 20000 in
set_option maxHeartbeats 40000000 in
theorem m_X4_weighs (x1 : Int32) (x2 : Int32)  (σ : fsS) (μ : fsL) (out : Int32) (h : F_X4_weighs x1 x2 σ = some out) : fs_Met yX4_weighs cX4_weighs 9 (some .int) { frames := 0, cells := 0, slots := 0, locals := 0 } [.ref 51, .int x1, .int x2] σ μ (some (.int out)) σ μ := by
  unfold F_X4_weighs at h
  refine fs_intro (by decide +kernel) (Nat.le_of_ble_eq_true rfl) (fun X hX hR => ?_)
  show fs_PW X 0 [some (.ref 51), some (.int x1), some (.int x2), none, none, none, none, none, none] [] σ μ
  refine s_iload_n hX dX4_weighs_0 rfl ?_
  refine s_if_eq hX 8 dX4_weighs_1 (by decide) (fun c1 => ?_) (fun c1 => ?_)
  · have h := (if_pos c1).symm.trans h
    refine s_ic hX (1 : Int32) dX4_weighs_8 (by decide) ?_
    refine s_istore_n hX dX4_weighs_9 (Nat.le_of_ble_eq_true rfl) ?_
    refine s_iload_n hX dX4_weighs_10 rfl ?_
    refine s_iload_n hX dX4_weighs_11 rfl ?_
    refine s_idiv hX dX4_weighs_12 (by decide) ?_
    refine s_ic hX (4 : Int32) dX4_weighs_13 (by decide) ?_
    refine s_irem hX dX4_weighs_14 (by decide) ?_
    refine s_istore hX dX4_weighs_15 (Nat.le_of_ble_eq_true rfl) ?_
    refine s_aload_n hX dX4_weighs_17 rfl ?_
    refine s_getr hX dX4_weighs_18 f_X4_56 rfl ?_
    refine s_iload_n hX dX4_weighs_21 rfl ?_
    obtain ⟨g2, h⟩ := fs_gd h
    refine s_iald hX dX4_weighs_22 g2 ?_
    refine s_istore hX dX4_weighs_23 (Nat.le_of_ble_eq_true rfl) ?_
    refine s_ic hX (0 : Int32) dX4_weighs_25 (by decide) ?_
    refine s_istore hX dX4_weighs_26 (Nat.le_of_ble_eq_true rfl) ?_
    obtain ⟨q21, e21, h⟩ := fs_bind h
    refine fs_ma [true, true, true, true, true, true, true, false, false] ?_
    refine l_X4_weighs_28  hX fs_fu x1 x2 (1 : Int32) ((x1 / (1 : Int32)) - (x1 / (1 : Int32)) / (4 : Int32) * (4 : Int32)) (σ 66 x1.toNatClampNeg) (0 : Int32) σ μ q21 e21 ?_
    refine s_iload hX dX4_weighs_112 rfl ?_
    cases h
    exact s_iret hX hR dX4_weighs_114
  · have h := (if_neg c1).symm.trans h
    refine s_ic hX (4 : Int32) dX4_weighs_4 (by decide) ?_
    refine s_goto hX 9 dX4_weighs_5 (by decide) ?_
    refine s_istore_n hX dX4_weighs_9 (Nat.le_of_ble_eq_true rfl) ?_
    refine s_iload_n hX dX4_weighs_10 rfl ?_
    refine s_iload_n hX dX4_weighs_11 rfl ?_
    refine s_idiv hX dX4_weighs_12 (by decide) ?_
    refine s_ic hX (4 : Int32) dX4_weighs_13 (by decide) ?_
    refine s_irem hX dX4_weighs_14 (by decide) ?_
    refine s_istore hX dX4_weighs_15 (Nat.le_of_ble_eq_true rfl) ?_
    refine s_aload_n hX dX4_weighs_17 rfl ?_
    refine s_getr hX dX4_weighs_18 f_X4_56 rfl ?_
    refine s_iload_n hX dX4_weighs_21 rfl ?_
    obtain ⟨g22, h⟩ := fs_gd h
    refine s_iald hX dX4_weighs_22 g22 ?_
    refine s_istore hX dX4_weighs_23 (Nat.le_of_ble_eq_true rfl) ?_
    refine s_ic hX (0 : Int32) dX4_weighs_25 (by decide) ?_
    refine s_istore hX dX4_weighs_26 (Nat.le_of_ble_eq_true rfl) ?_
    obtain ⟨q23, e23, h⟩ := fs_bind h
    refine fs_ma [true, true, true, true, true, true, true, false, false] ?_
    refine l_X4_weighs_28  hX fs_fu x1 x2 (4 : Int32) ((x1 / (4 : Int32)) - (x1 / (4 : Int32)) / (4 : Int32) * (4 : Int32)) (σ 66 x1.toNatClampNeg) (0 : Int32) σ μ q23 e23 ?_
    refine s_iload hX dX4_weighs_112 rfl ?_
    cases h
    exact s_iret hX hR dX4_weighs_114

-- X4_duel
def L_X4_duel_38  : Nat → Int32 → Int32 → Int32 → Int32 → fsS → Option (fsS)
  | 0, _, _, _, _, _ => none
  | n0 + 1, y1, y2, y3, y4, σ => if (16 : Int32) ≤ y4 then some σ else (F_X4_layAside  σ).bind (fun q6 => fs_g (fs_in ((7 : Int32) + y1) 13) (fs_g (fs_in ((7 : Int32) + y2) 13) ((F_X4_givesIn (4 : Int32) (fs_u (fs_u q6 61 ((7 : Int32) + y1).toNatClampNeg (y4 / (4 : Int32))) 61 ((7 : Int32) + y2).toNatClampNeg (y4 - y4 / (4 : Int32) * (4 : Int32)))).bind (fun q9 => fs_g (fs_in ((1 : Int32) + y1) 13) (fs_g (fs_in ((1 : Int32) + y2) 13) (fs_g (fs_in y4 16) (L_X4_duel_38  n0 y1 y2 y3 (y4 + (1 : Int32)) (fs_u q9.2 66 y4.toNatClampNeg ((q9.2 61 ((1 : Int32) + y1).toNatClampNeg) - (q9.2 61 ((1 : Int32) + y2).toNatClampNeg))))))))))
def L_X4_duel_123  : Nat → Int32 → Int32 → Int32 → Int32 → fsS → Option (fsS)
  | 0, _, _, _, _, _ => none
  | n0 + 1, y1, y2, y4, y5, σ => if (16 : Int32) ≤ y5 then some σ else if (y4 - y4 / (2 : Int32) * (2 : Int32)) = (1 : Int32) then (F_X4_weighs y5 (1 : Int32) σ).bind (fun q19 => fs_g (fs_in y5 16) (L_X4_duel_123  n0 y1 y2 y4 (y5 + (1 : Int32)) (fs_u σ 67 y5.toNatClampNeg q19))) else (F_X4_weighs y5 (0 : Int32) σ).bind (fun q17 => fs_g (fs_in y5 16) (L_X4_duel_123  n0 y1 y2 y4 (y5 + (1 : Int32)) (fs_u σ 67 y5.toNatClampNeg q17)))
def L_X4_duel_115  : Nat → Int32 → Int32 → Int32 → fsS → Option (fsS)
  | 0, _, _, _, _ => none
  | n0 + 1, y1, y2, y4, σ => if y4 ≤ 0 then some σ else (L_X4_duel_123  fs_fu y1 y2 y4 (0 : Int32) σ).bind (fun q21 => (F_X4_copies 67 (0 : Int32) 66 (0 : Int32) (16 : Int32) q21).bind (fun q22 => L_X4_duel_115  n0 y1 y2 (y4 + (-1 : Int32)) q22))
def F_X4_duel (x1 : Int32) (x2 : Int32) (x3 : Int32) (σ : fsS) : Option (Int32 × fsS) := if (F_X4_isOne x1 σ) = 0 then some ((-1 : Int32), σ) else if (F_X4_isOne x2 σ) = 0 then some ((-1 : Int32), σ) else if x1 = x2 then some ((-1 : Int32), σ) else if (F_X4_in (x3.toInt64) (0 : Int64) (6 : Int64)) = 0 then some ((-1 : Int32), σ) else (L_X4_duel_38  fs_fu x1 x2 x3 (0 : Int32) σ).bind (fun q13 => (L_X4_duel_115  fs_fu x1 x2 x3 q13).bind (fun q23 => fs_g (fs_in ((7 : Int32) + x1) 13) (fs_g (fs_in ((7 : Int32) + x2) 13) (fs_g (fs_in (((4 : Int32) * (q23 60 ((7 : Int32) + x1).toNatClampNeg)) + (q23 60 ((7 : Int32) + x2).toNatClampNeg)) 16) (some (((100 : Int32) + (q23 66 (((4 : Int32) * (q23 60 ((7 : Int32) + x1).toNatClampNeg)) + (q23 60 ((7 : Int32) + x2).toNatClampNeg)).toNatClampNeg)), q23))))))
set_option maxRecDepth 20000 in
set_option maxHeartbeats 40000000 in
theorem l_X4_duel_38   {X : fsC} (hX : fs_ok cX4_duel RX4 6 { frames := 5, cells := 0, slots := 0, locals := 116 } X) : ∀ (n : Nat) (y1 : Int32) (y2 : Int32) (y3 : Int32) (y4 : Int32) (σ : fsS) (μ : fsL) (out : fsS) (_ : L_X4_duel_38  n y1 y2 y3 y4 σ = some out) (k0 : fs_PW X 112 [some (.ref 51), some (.int y1), some (.int y2), some (.int y3), none, none] [] out μ), fs_PW X 38 [some (.ref 51), some (.int y1), some (.int y2), some (.int y3), some (.int y4), none] [] σ μ := by
  intro n
  induction n with
  | zero =>
    intro y1 y2 y3 y4 σ μ out h
    cases (show (none : Option (fsS)) = some out from h)
  | succ n0 ih =>
    intro y1 y2 y3 y4 σ μ out h k0
    unfold L_X4_duel_38 at h
    refine s_iload hX dX4_duel_38 rfl ?_
    refine s_bi hX (16 : Int32) dX4_duel_40 (by decide) ?_
    refine s_ic_ge hX 112 dX4_duel_42 (by decide) (fun c5 => ?_) (fun c5 => ?_)
    · have h := (if_pos c5).symm.trans h
      cases h
      refine fs_ma [true, true, true, true, false, false] ?_
      exact k0
    · have h := (if_neg c5).symm.trans h
      refine s_aload_n hX dX4_duel_45 rfl ?_
      obtain ⟨q6, e6, h⟩ := fs_bind h
      refine s_cV hX [] dX4_duel_46 k_X4_191 v_X4_layAside (m_X4_layAside σ μ q6 e6) ⟨_, rfl⟩ fs_c4 ⟨rfl, rfl⟩ ⟨(Nat.le_of_ble_eq_true rfl), (Nat.le_of_ble_eq_true rfl)⟩ rfl rfl (Nat.le_of_ble_eq_true rfl) ?_
      refine s_aload_n hX dX4_duel_49 rfl ?_
      refine s_getr hX dX4_duel_50 f_X4_41 rfl ?_
      refine s_bi hX (7 : Int32) dX4_duel_53 (by decide) ?_
      refine s_iload_n hX dX4_duel_55 rfl ?_
      refine s_iadd hX dX4_duel_56 ?_
      refine s_iload hX dX4_duel_57 rfl ?_
      refine s_ic hX (4 : Int32) dX4_duel_59 (by decide) ?_
      refine s_idiv hX dX4_duel_60 (by decide) ?_
      obtain ⟨g7, h⟩ := fs_gd h
      refine s_iast hX dX4_duel_61 g7 ?_
      refine s_aload_n hX dX4_duel_62 rfl ?_
      refine s_getr hX dX4_duel_63 f_X4_41 rfl ?_
      refine s_bi hX (7 : Int32) dX4_duel_66 (by decide) ?_
      refine s_iload_n hX dX4_duel_68 rfl ?_
      refine s_iadd hX dX4_duel_69 ?_
      refine s_iload hX dX4_duel_70 rfl ?_
      refine s_ic hX (4 : Int32) dX4_duel_72 (by decide) ?_
      refine s_irem hX dX4_duel_73 (by decide) ?_
      obtain ⟨g8, h⟩ := fs_gd h
      refine s_iast hX dX4_duel_74 g8 ?_
      refine s_aload_n hX dX4_duel_75 rfl ?_
      refine s_ic hX (4 : Int32) dX4_duel_76 (by decide) ?_
      obtain ⟨q9, e9, h⟩ := fs_bind h
      refine s_cV hX [.int (4 : Int32)] dX4_duel_77 k_X4_194 v_X4_givesIn (m_X4_givesIn (4 : Int32) (fs_u (fs_u q6 61 ((7 : Int32) + y1).toNatClampNeg (y4 / (4 : Int32))) 61 ((7 : Int32) + y2).toNatClampNeg (y4 - y4 / (4 : Int32) * (4 : Int32))) μ q9 e9) ⟨_, rfl⟩ fs_c4 ⟨rfl, rfl⟩ ⟨(Nat.le_of_ble_eq_true rfl), (Nat.le_of_ble_eq_true rfl)⟩ rfl rfl (Nat.le_of_ble_eq_true rfl) ?_
      refine s_istore hX dX4_duel_80 (Nat.le_of_ble_eq_true rfl) ?_
      refine s_aload_n hX dX4_duel_82 rfl ?_
      refine s_getr hX dX4_duel_83 f_X4_56 rfl ?_
      refine s_iload hX dX4_duel_86 rfl ?_
      refine s_aload_n hX dX4_duel_88 rfl ?_
      refine s_getr hX dX4_duel_89 f_X4_41 rfl ?_
      refine s_ic hX (1 : Int32) dX4_duel_92 (by decide) ?_
      refine s_iload_n hX dX4_duel_93 rfl ?_
      refine s_iadd hX dX4_duel_94 ?_
      obtain ⟨g10, h⟩ := fs_gd h
      refine s_iald hX dX4_duel_95 g10 ?_
      refine s_aload_n hX dX4_duel_96 rfl ?_
      refine s_getr hX dX4_duel_97 f_X4_41 rfl ?_
      refine s_ic hX (1 : Int32) dX4_duel_100 (by decide) ?_
      refine s_iload_n hX dX4_duel_101 rfl ?_
      refine s_iadd hX dX4_duel_102 ?_
      obtain ⟨g11, h⟩ := fs_gd h
      refine s_iald hX dX4_duel_103 g11 ?_
      refine s_isub hX dX4_duel_104 ?_
      obtain ⟨g12, h⟩ := fs_gd h
      refine s_iast hX dX4_duel_105 g12 ?_
      refine s_iinc hX (y4 + (1 : Int32)) dX4_duel_106 rfl rfl (Nat.le_of_ble_eq_true rfl) ?_
      refine s_goto hX 38 dX4_duel_109 (by decide) ?_
      refine fs_ma [true, true, true, true, true, false] ?_
      exact ih y1 y2 y3 (y4 + (1 : Int32)) (fs_u q9.2 66 y4.toNatClampNeg ((q9.2 61 ((1 : Int32) + y1).toNatClampNeg) - (q9.2 61 ((1 : Int32) + y2).toNatClampNeg))) μ out h k0
set_option maxRecDepth 20000 in
set_option maxHeartbeats 40000000 in
theorem l_X4_duel_123   {X : fsC} (hX : fs_ok cX4_duel RX4 6 { frames := 5, cells := 0, slots := 0, locals := 116 } X) : ∀ (n : Nat) (y1 : Int32) (y2 : Int32) (y4 : Int32) (y5 : Int32) (σ : fsS) (μ : fsL) (out : fsS) (_ : L_X4_duel_123  n y1 y2 y4 y5 σ = some out) (k0 : fs_PW X 162 [some (.ref 51), some (.int y1), some (.int y2), none, some (.int y4), none] [] out μ), fs_PW X 123 [some (.ref 51), some (.int y1), some (.int y2), none, some (.int y4), some (.int y5)] [] σ μ := by
  intro n
  induction n with
  | zero =>
    intro y1 y2 y4 y5 σ μ out h
    cases (show (none : Option (fsS)) = some out from h)
  | succ n0 ih =>
    intro y1 y2 y4 y5 σ μ out h k0
    unfold L_X4_duel_123 at h
    refine s_iload hX dX4_duel_123 rfl ?_
    refine s_bi hX (16 : Int32) dX4_duel_125 (by decide) ?_
    refine s_ic_ge hX 162 dX4_duel_127 (by decide) (fun c15 => ?_) (fun c15 => ?_)
    · have h := (if_pos c15).symm.trans h
      cases h
      refine fs_ma [true, true, true, false, true, false] ?_
      exact k0
    · have h := (if_neg c15).symm.trans h
      refine s_aload_n hX dX4_duel_130 rfl ?_
      refine s_getr hX dX4_duel_131 f_X4_59 rfl ?_
      refine s_iload hX dX4_duel_134 rfl ?_
      refine s_aload_n hX dX4_duel_136 rfl ?_
      refine s_iload hX dX4_duel_137 rfl ?_
      refine s_iload hX dX4_duel_139 rfl ?_
      refine s_ic hX (2 : Int32) dX4_duel_141 (by decide) ?_
      refine s_irem hX dX4_duel_142 (by decide) ?_
      refine s_ic hX (1 : Int32) dX4_duel_143 (by decide) ?_
      refine s_ic_ne hX 151 dX4_duel_144 (by decide) (fun c16 => ?_) (fun c16 => ?_)
      · have h := (if_neg c16).symm.trans h
        refine s_ic hX (0 : Int32) dX4_duel_151 (by decide) ?_
        obtain ⟨q17, e17, h⟩ := fs_bind h
        refine s_cV hX [.int y5, .int (0 : Int32)] dX4_duel_152 k_X4_230 v_X4_weighs (m_X4_weighs y5 (0 : Int32) σ μ q17 e17) ⟨_, rfl⟩ fs_c4 ⟨rfl, rfl⟩ ⟨(Nat.le_of_ble_eq_true rfl), (Nat.le_of_ble_eq_true rfl)⟩ rfl rfl (Nat.le_of_ble_eq_true rfl) ?_
        obtain ⟨g18, h⟩ := fs_gd h
        refine s_iast hX dX4_duel_155 g18 ?_
        refine s_iinc hX (y5 + (1 : Int32)) dX4_duel_156 rfl rfl (Nat.le_of_ble_eq_true rfl) ?_
        refine s_goto hX 123 dX4_duel_159 (by decide) ?_
        refine fs_ma [true, true, true, false, true, true] ?_
        exact ih y1 y2 y4 (y5 + (1 : Int32)) (fs_u σ 67 y5.toNatClampNeg q17) μ out h k0
      · have h := (if_pos c16).symm.trans h
        refine s_ic hX (1 : Int32) dX4_duel_147 (by decide) ?_
        refine s_goto hX 152 dX4_duel_148 (by decide) ?_
        obtain ⟨q19, e19, h⟩ := fs_bind h
        refine s_cV hX [.int y5, .int (1 : Int32)] dX4_duel_152 k_X4_230 v_X4_weighs (m_X4_weighs y5 (1 : Int32) σ μ q19 e19) ⟨_, rfl⟩ fs_c4 ⟨rfl, rfl⟩ ⟨(Nat.le_of_ble_eq_true rfl), (Nat.le_of_ble_eq_true rfl)⟩ rfl rfl (Nat.le_of_ble_eq_true rfl) ?_
        obtain ⟨g20, h⟩ := fs_gd h
        refine s_iast hX dX4_duel_155 g20 ?_
        refine s_iinc hX (y5 + (1 : Int32)) dX4_duel_156 rfl rfl (Nat.le_of_ble_eq_true rfl) ?_
        refine s_goto hX 123 dX4_duel_159 (by decide) ?_
        refine fs_ma [true, true, true, false, true, true] ?_
        exact ih y1 y2 y4 (y5 + (1 : Int32)) (fs_u σ 67 y5.toNatClampNeg q19) μ out h k0
set_option maxRecDepth 20000 in
set_option maxHeartbeats 40000000 in
theorem l_X4_duel_115   {X : fsC} (hX : fs_ok cX4_duel RX4 6 { frames := 5, cells := 0, slots := 0, locals := 116 } X) : ∀ (n : Nat) (y1 : Int32) (y2 : Int32) (y4 : Int32) (σ : fsS) (μ : fsL) (out : fsS) (_ : L_X4_duel_115  n y1 y2 y4 σ = some out) (k0 : fs_PW X 183 [some (.ref 51), some (.int y1), some (.int y2), none, none, none] [] out μ), fs_PW X 115 [some (.ref 51), some (.int y1), some (.int y2), none, some (.int y4), none] [] σ μ := by
  intro n
  induction n with
  | zero =>
    intro y1 y2 y4 σ μ out h
    cases (show (none : Option (fsS)) = some out from h)
  | succ n0 ih =>
    intro y1 y2 y4 σ μ out h k0
    unfold L_X4_duel_115 at h
    refine s_iload hX dX4_duel_115 rfl ?_
    refine s_if_le hX 183 dX4_duel_117 (by decide) (fun c14 => ?_) (fun c14 => ?_)
    · have h := (if_pos c14).symm.trans h
      cases h
      refine fs_ma [true, true, true, false, false, false] ?_
      exact k0
    · have h := (if_neg c14).symm.trans h
      refine s_ic hX (0 : Int32) dX4_duel_120 (by decide) ?_
      refine s_istore hX dX4_duel_121 (Nat.le_of_ble_eq_true rfl) ?_
      obtain ⟨q21, e21, h⟩ := fs_bind h
      refine fs_ma [true, true, true, false, true, true] ?_
      refine l_X4_duel_123  hX fs_fu y1 y2 y4 (0 : Int32) σ μ q21 e21 ?_
      refine s_aload_n hX dX4_duel_162 rfl ?_
      refine s_getr hX dX4_duel_163 f_X4_59 rfl ?_
      refine s_ic hX (0 : Int32) dX4_duel_166 (by decide) ?_
      refine s_aload_n hX dX4_duel_167 rfl ?_
      refine s_getr hX dX4_duel_168 f_X4_56 rfl ?_
      refine s_ic hX (0 : Int32) dX4_duel_171 (by decide) ?_
      refine s_bi hX (16 : Int32) dX4_duel_172 (by decide) ?_
      obtain ⟨q22, e22, h⟩ := fs_bind h
      refine s_callS hX (as := [.ref 67, .int (0 : Int32), .ref 66, .int (0 : Int32), .int (16 : Int32)]) dX4_duel_174 k_X4_174 v_X4_copies (m_X4_copies 67 (0 : Int32) 66 (0 : Int32) (16 : Int32) q21 μ q22 e22) ⟨rfl, rfl⟩ ⟨(Nat.le_of_ble_eq_true rfl), (Nat.le_of_ble_eq_true rfl)⟩ rfl rfl (Nat.le_of_ble_eq_true rfl) ?_
      refine s_iinc hX (y4 + (-1 : Int32)) dX4_duel_177 rfl rfl (Nat.le_of_ble_eq_true rfl) ?_
      refine s_goto hX 115 dX4_duel_180 (by decide) ?_
      refine fs_ma [true, true, true, false, true, false] ?_
      exact ih y1 y2 (y4 + (-1 : Int32)) q22 μ out h k0
set_option maxRecDepth 20000 in
set_option maxHeartbeats 40000000 in
theorem m_X4_duel (x1 : Int32) (x2 : Int32) (x3 : Int32)  (σ : fsS) (μ : fsL) (out : Int32 × fsS) (h : F_X4_duel x1 x2 x3 σ = some out) : fs_Met yX4_duel cX4_duel 6 (some .int) { frames := 5, cells := 0, slots := 0, locals := 116 } [.ref 51, .int x1, .int x2, .int x3] σ μ (some (.int out.1)) out.2 μ := by
  unfold F_X4_duel at h
  refine fs_intro (by decide +kernel) (Nat.le_of_ble_eq_true rfl) (fun X hX hR => ?_)
  show fs_PW X 0 [some (.ref 51), some (.int x1), some (.int x2), some (.int x3), none, none] [] σ μ
  refine s_aload_n hX dX4_duel_0 rfl ?_
  refine s_iload_n hX dX4_duel_1 rfl ?_
  refine s_cV hX [.int x1] dX4_duel_2 k_X4_157 v_X4_isOne (m_X4_isOne x1 σ μ _ rfl) ⟨_, rfl⟩ fs_c4 ⟨rfl, rfl⟩ ⟨(Nat.le_of_ble_eq_true rfl), (Nat.le_of_ble_eq_true rfl)⟩ rfl rfl (Nat.le_of_ble_eq_true rfl) ?_
  refine s_if_eq hX 33 dX4_duel_5 (by decide) (fun c1 => ?_) (fun c1 => ?_)
  · have h := (if_pos c1).symm.trans h
    refine s_ic hX (-1 : Int32) dX4_duel_33 (by decide) ?_
    cases h
    exact s_iret hX hR dX4_duel_34
  · have h := (if_neg c1).symm.trans h
    refine s_aload_n hX dX4_duel_8 rfl ?_
    refine s_iload_n hX dX4_duel_9 rfl ?_
    refine s_cV hX [.int x2] dX4_duel_10 k_X4_157 v_X4_isOne (m_X4_isOne x2 σ μ _ rfl) ⟨_, rfl⟩ fs_c4 ⟨rfl, rfl⟩ ⟨(Nat.le_of_ble_eq_true rfl), (Nat.le_of_ble_eq_true rfl)⟩ rfl rfl (Nat.le_of_ble_eq_true rfl) ?_
    refine s_if_eq hX 33 dX4_duel_13 (by decide) (fun c2 => ?_) (fun c2 => ?_)
    · have h := (if_pos c2).symm.trans h
      refine s_ic hX (-1 : Int32) dX4_duel_33 (by decide) ?_
      cases h
      exact s_iret hX hR dX4_duel_34
    · have h := (if_neg c2).symm.trans h
      refine s_iload_n hX dX4_duel_16 rfl ?_
      refine s_iload_n hX dX4_duel_17 rfl ?_
      refine s_ic_eq hX 33 dX4_duel_18 (by decide) (fun c3 => ?_) (fun c3 => ?_)
      · have h := (if_pos c3).symm.trans h
        refine s_ic hX (-1 : Int32) dX4_duel_33 (by decide) ?_
        cases h
        exact s_iret hX hR dX4_duel_34
      · have h := (if_neg c3).symm.trans h
        refine s_iload_n hX dX4_duel_21 rfl ?_
        refine s_i2l hX dX4_duel_22 ?_
        refine s_lc hX (0 : Int64) dX4_duel_23 (by decide) ?_
        refine s_ldc2 hX (6 : Int64) dX4_duel_24 q_X4_160 ?_
        refine s_callS hX (as := [.long (x3.toInt64), .long (0 : Int64), .long (6 : Int64)]) dX4_duel_27 k_X4_74 v_X4_in (m_X4_in (x3.toInt64) (0 : Int64) (6 : Int64) σ μ _ rfl) ⟨rfl, rfl⟩ ⟨(Nat.le_of_ble_eq_true rfl), (Nat.le_of_ble_eq_true rfl)⟩ rfl rfl (Nat.le_of_ble_eq_true rfl) ?_
        refine s_if_ne hX 35 dX4_duel_30 (by decide) (fun c4 => ?_) (fun c4 => ?_)
        · have h := (if_neg c4).symm.trans h
          refine s_ic hX (0 : Int32) dX4_duel_35 (by decide) ?_
          refine s_istore hX dX4_duel_36 (Nat.le_of_ble_eq_true rfl) ?_
          obtain ⟨q13, e13, h⟩ := fs_bind h
          refine fs_ma [true, true, true, true, true, false] ?_
          refine l_X4_duel_38  hX fs_fu x1 x2 x3 (0 : Int32) σ μ q13 e13 ?_
          refine s_iload_n hX dX4_duel_112 rfl ?_
          refine s_istore hX dX4_duel_113 (Nat.le_of_ble_eq_true rfl) ?_
          obtain ⟨q23, e23, h⟩ := fs_bind h
          refine fs_ma [true, true, true, false, true, false] ?_
          refine l_X4_duel_115  hX fs_fu x1 x2 x3 q13 μ q23 e23 ?_
          refine s_bi hX (100 : Int32) dX4_duel_183 (by decide) ?_
          refine s_aload_n hX dX4_duel_185 rfl ?_
          refine s_getr hX dX4_duel_186 f_X4_56 rfl ?_
          refine s_ic hX (4 : Int32) dX4_duel_189 (by decide) ?_
          refine s_aload_n hX dX4_duel_190 rfl ?_
          refine s_getr hX dX4_duel_191 f_X4_38 rfl ?_
          refine s_bi hX (7 : Int32) dX4_duel_194 (by decide) ?_
          refine s_iload_n hX dX4_duel_196 rfl ?_
          refine s_iadd hX dX4_duel_197 ?_
          obtain ⟨g24, h⟩ := fs_gd h
          refine s_iald hX dX4_duel_198 g24 ?_
          refine s_imul hX dX4_duel_199 ?_
          refine s_aload_n hX dX4_duel_200 rfl ?_
          refine s_getr hX dX4_duel_201 f_X4_38 rfl ?_
          refine s_bi hX (7 : Int32) dX4_duel_204 (by decide) ?_
          refine s_iload_n hX dX4_duel_206 rfl ?_
          refine s_iadd hX dX4_duel_207 ?_
          obtain ⟨g25, h⟩ := fs_gd h
          refine s_iald hX dX4_duel_208 g25 ?_
          refine s_iadd hX dX4_duel_209 ?_
          obtain ⟨g26, h⟩ := fs_gd h
          refine s_iald hX dX4_duel_210 g26 ?_
          refine s_iadd hX dX4_duel_211 ?_
          cases h
          exact s_iret hX hR dX4_duel_212
        · have h := (if_pos c4).symm.trans h
          refine s_ic hX (-1 : Int32) dX4_duel_33 (by decide) ?_
          cases h
          exact s_iret hX hR dX4_duel_34

-- X4_fraction
def L_X4_fraction_6  : Nat → Int64 → Int64 → Int64 → Int64 → Option (Int64)
  | 0, _, _, _, _ => none
  | n0 + 1, y1, y3, y5, y7 => if y7 = (0 : Int64) then some y5 else fs_g (¬ y7 = 0) (L_X4_fraction_6  n0 y1 y3 y7 (y5 - y5 / y7 * y7))
def F_X4_fraction (x1 : Int64) (x3 : Int64) (μ : fsL) : Option (Int32 × fsL) := (L_X4_fraction_6  fs_fu x1 x3 x1 x3).bind (fun q3 => fs_g (¬ q3 = 0) (fs_g (¬ q3 = 0) (some ((1 : Int32), (fs_ul (fs_ul μ 51 5 (x1 / q3)) 51 6 (x3 / q3))))))
set_option maxRecDepth 20000 in
set_option maxHeartbeats 40000000 in
theorem l_X4_fraction_6   {X : fsC} (hX : fs_ok cX4_fraction RX4 11 { frames := 0, cells := 0, slots := 0, locals := 0 } X) : ∀ (n : Nat) (y1 : Int64) (y3 : Int64) (y5 : Int64) (y7 : Int64) (σ : fsS) (μ : fsL) (out : Int64) (_ : L_X4_fraction_6  n y1 y3 y5 y7 = some out) (k0 : fs_PW X 31 [some (.ref 51), some (.long y1), none, some (.long y3), none, some (.long out), none, none, none, none, none] [] σ μ), fs_PW X 6 [some (.ref 51), some (.long y1), none, some (.long y3), none, some (.long y5), none, some (.long y7), none, none, none] [] σ μ := by
  intro n
  induction n with
  | zero =>
    intro y1 y3 y5 y7 σ μ out h
    cases (show (none : Option (Int64)) = some out from h)
  | succ n0 ih =>
    intro y1 y3 y5 y7 σ μ out h k0
    unfold L_X4_fraction_6 at h
    refine s_lload hX dX4_fraction_6 rfl ?_
    refine s_lc hX (0 : Int64) dX4_fraction_8 (by decide) ?_
    refine s_lcmp hX dX4_fraction_9 ?_
    refine s_if_eq hX 31 dX4_fraction_10 (by decide) (fun c1 => ?_) (fun c1 => ?_)
    · have h := (if_pos (fs_cmp_eq.mp c1)).symm.trans h
      cases h
      refine fs_ma [true, true, false, true, false, true, false, false, false, false, false] ?_
      exact k0
    · have h := (if_neg (fun z => c1 (fs_cmp_eq.mpr z))).symm.trans h
      refine s_lload hX dX4_fraction_13 rfl ?_
      refine s_lload hX dX4_fraction_15 rfl ?_
      obtain ⟨g2, h⟩ := fs_gd h
      refine s_lrem hX dX4_fraction_17 g2 ?_
      refine s_lstore hX dX4_fraction_18 (Nat.le_of_ble_eq_true rfl) ?_
      refine s_lload hX dX4_fraction_20 rfl ?_
      refine s_lstore hX dX4_fraction_22 (Nat.le_of_ble_eq_true rfl) ?_
      refine s_lload hX dX4_fraction_24 rfl ?_
      refine s_lstore hX dX4_fraction_26 (Nat.le_of_ble_eq_true rfl) ?_
      refine s_goto hX 6 dX4_fraction_28 (by decide) ?_
      refine fs_ma [true, true, false, true, false, true, false, true, false, false, false] ?_
      exact ih y1 y3 y7 (y5 - y5 / y7 * y7) σ μ out h k0
set_option maxRecDepth 20000 in
set_option maxHeartbeats 40000000 in
theorem m_X4_fraction (x1 : Int64) (x3 : Int64)  (σ : fsS) (μ : fsL) (out : Int32 × fsL) (h : F_X4_fraction x1 x3 μ = some out) : fs_Met yX4_fraction cX4_fraction 11 (some .int) { frames := 0, cells := 0, slots := 0, locals := 0 } [.ref 51, .long x1, .long x3] σ μ (some (.int out.1)) σ out.2 := by
  unfold F_X4_fraction at h
  refine fs_intro (by decide +kernel) (Nat.le_of_ble_eq_true rfl) (fun X hX hR => ?_)
  show fs_PW X 0 [some (.ref 51), some (.long x1), none, some (.long x3), none, none, none, none, none, none, none] [] σ μ
  refine s_lload_n hX dX4_fraction_0 rfl ?_
  refine s_lstore hX dX4_fraction_1 (Nat.le_of_ble_eq_true rfl) ?_
  refine s_lload_n hX dX4_fraction_3 rfl ?_
  refine s_lstore hX dX4_fraction_4 (Nat.le_of_ble_eq_true rfl) ?_
  obtain ⟨q3, e3, h⟩ := fs_bind h
  refine fs_ma [true, true, false, true, false, true, false, true, false, false, false] ?_
  refine l_X4_fraction_6  hX fs_fu x1 x3 x1 x3 σ μ q3 e3 ?_
  refine s_aload_n hX dX4_fraction_31 rfl ?_
  refine s_lload_n hX dX4_fraction_32 rfl ?_
  refine s_lload hX dX4_fraction_33 rfl ?_
  obtain ⟨g4, h⟩ := fs_gd h
  refine s_ldiv hX dX4_fraction_35 g4 ?_
  refine s_putl hX dX4_fraction_36 p_X4_234 rfl ?_
  refine s_aload_n hX dX4_fraction_39 rfl ?_
  refine s_lload_n hX dX4_fraction_40 rfl ?_
  refine s_lload hX dX4_fraction_41 rfl ?_
  obtain ⟨g5, h⟩ := fs_gd h
  refine s_ldiv hX dX4_fraction_43 g5 ?_
  refine s_putl hX dX4_fraction_44 p_X4_22 rfl ?_
  refine s_ic hX (1 : Int32) dX4_fraction_47 (by decide) ?_
  cases h
  exact s_iret hX hR dX4_fraction_48

-- X4_ways
def L_X4_ways_36  : Nat → Int32 → Int32 → Int32 → Int64 → Int32 → Int32 → Int64 → Int32 → fsS → Option (Int32 × Int64 × fsS)
  | 0, _, _, _, _, _, _, _, _, _ => none
  | n0 + 1, y1, y2, y3, y4, y6, y7, y8, y10, σ => if (σ 51 9) ≤ y10 then some (y7, y8, σ) else if (F_X4_has y6 y10) = 0 then if (F_X4_has y6 y10) = 0 then fs_g (fs_in y10 6) (fs_g (fs_in y10 6) (fs_g (fs_in y10 6) (L_X4_ways_36  n0 y1 y2 y3 y4 y6 (F_X4_greater y7 ((fs_u σ 62 y10.toNatClampNeg (σ 62 y10.toNatClampNeg)) 62 y10.toNatClampNeg)) (y8 * ((12 : Int64) - (y3.toInt64))) (y10 + (1 : Int32)) (fs_u σ 62 y10.toNatClampNeg (σ 62 y10.toNatClampNeg))))) else fs_g (fs_in y10 6) (fs_g (fs_in y10 6) (L_X4_ways_36  n0 y1 y2 y3 y4 y6 (F_X4_greater y7 ((fs_u σ 62 y10.toNatClampNeg (0 : Int32)) 62 y10.toNatClampNeg)) (y8 * ((12 : Int64) - (y3.toInt64))) (y10 + (1 : Int32)) (fs_u σ 62 y10.toNatClampNeg (0 : Int32)))) else if (F_X4_has y6 y10) = 0 then fs_g (fs_in y10 6) (fs_g (fs_in y10 6) (fs_g (fs_in y10 6) (L_X4_ways_36  n0 y1 y2 y3 y4 y6 (F_X4_greater y7 ((fs_u σ 62 y10.toNatClampNeg (σ 62 y10.toNatClampNeg)) 62 y10.toNatClampNeg)) (y8 * (y3.toInt64)) (y10 + (1 : Int32)) (fs_u σ 62 y10.toNatClampNeg (σ 62 y10.toNatClampNeg))))) else fs_g (fs_in y10 6) (fs_g (fs_in y10 6) (L_X4_ways_36  n0 y1 y2 y3 y4 y6 (F_X4_greater y7 ((fs_u σ 62 y10.toNatClampNeg (0 : Int32)) 62 y10.toNatClampNeg)) (y8 * (y3.toInt64)) (y10 + (1 : Int32)) (fs_u σ 62 y10.toNatClampNeg (0 : Int32))))
def L_X4_ways_6  : Nat → Int32 → Int32 → Int32 → Int64 → Int32 → fsS → Option (Int64 × fsS)
  | 0, _, _, _, _, _, _ => none
  | n0 + 1, y1, y2, y3, y4, y6, σ => if ((1 : Int32) <<< ((σ 51 9) &&& 31)) ≤ y6 then some (y4, σ) else (F_X4_laysRegards 60 σ).bind (fun q2 => (L_X4_ways_36  fs_fu y1 y2 y3 y4 y6 (0 : Int32) (1 : Int64) (0 : Int32) q2.2).bind (fun q17 => if y1 = (-9 : Int32) then (F_X4_gives q17.1 q17.2.2).bind (fun q21 => L_X4_ways_6  n0 y1 y2 y3 (y4 + (q17.2.1 * (q21.toInt64))) (y6 + (1 : Int32)) q17.2.2) else fs_g (fs_in y1 6) (if (q17.1 - (q17.2.2 62 y1.toNatClampNeg)) < y2 then L_X4_ways_6  n0 y1 y2 y3 (y4 + (q17.2.1 * ((0 : Int32).toInt64))) (y6 + (1 : Int32)) q17.2.2 else L_X4_ways_6  n0 y1 y2 y3 (y4 + (q17.2.1 * ((1 : Int32).toInt64))) (y6 + (1 : Int32)) q17.2.2)))
def F_X4_ways (x1 : Int32) (x2 : Int32) (x3 : Int32) (σ : fsS) : Option (Int64 × fsS) := (L_X4_ways_6  fs_fu x1 x2 x3 (0 : Int64) (0 : Int32) σ).bind (fun q22 => some (q22.1, q22.2))
set_option maxRecDepth 20000 in
set_option maxHeartbeats 40000000 in
theorem l_X4_ways_36   {X : fsC} (hX : fs_ok cX4_ways RX4 11 { frames := 3, cells := 0, slots := 0, locals := 70 } X) : ∀ (n : Nat) (y1 : Int32) (y2 : Int32) (y3 : Int32) (y4 : Int64) (y6 : Int32) (y7 : Int32) (y8 : Int64) (y10 : Int32) (σ : fsS) (μ : fsL) (out : Int32 × Int64 × fsS) (_ : L_X4_ways_36  n y1 y2 y3 y4 y6 y7 y8 y10 σ = some out) (k0 : fs_PW X 119 [some (.ref 51), some (.int y1), some (.int y2), some (.int y3), some (.long y4), none, some (.int y6), some (.int out.1), some (.long out.2.1), none, none] [] out.2.2 μ), fs_PW X 36 [some (.ref 51), some (.int y1), some (.int y2), some (.int y3), some (.long y4), none, some (.int y6), some (.int y7), some (.long y8), none, some (.int y10)] [] σ μ := by
  intro n
  induction n with
  | zero =>
    intro y1 y2 y3 y4 y6 y7 y8 y10 σ μ out h
    cases (show (none : Option (Int32 × Int64 × fsS)) = some out from h)
  | succ n0 ih =>
    intro y1 y2 y3 y4 y6 y7 y8 y10 σ μ out h k0
    unfold L_X4_ways_36 at h
    refine s_iload hX dX4_ways_36 rfl ?_
    refine s_aload_n hX dX4_ways_38 rfl ?_
    refine s_geti hX dX4_ways_39 f_X4_136 rfl ?_
    refine s_ic_ge hX 119 dX4_ways_42 (by decide) (fun c3 => ?_) (fun c3 => ?_)
    · have h := (if_pos c3).symm.trans h
      cases h
      refine fs_ma [true, true, true, true, true, false, true, true, true, false, false] ?_
      exact k0
    · have h := (if_neg c3).symm.trans h
      refine s_lload hX dX4_ways_45 rfl ?_
      refine s_iload hX dX4_ways_47 rfl ?_
      refine s_iload hX dX4_ways_49 rfl ?_
      refine s_callS hX (as := [.int y6, .int y10]) dX4_ways_51 k_X4_227 v_X4_has (m_X4_has y6 y10 σ μ _ rfl) ⟨rfl, rfl⟩ ⟨(Nat.le_of_ble_eq_true rfl), (Nat.le_of_ble_eq_true rfl)⟩ rfl rfl (Nat.le_of_ble_eq_true rfl) ?_
      refine s_if_eq hX 62 dX4_ways_54 (by decide) (fun c4 => ?_) (fun c4 => ?_)
      · have h := (if_pos c4).symm.trans h
        refine s_ldc2 hX (12 : Int64) dX4_ways_62 q_X4_237 ?_
        refine s_iload_n hX dX4_ways_65 rfl ?_
        refine s_i2l hX dX4_ways_66 ?_
        refine s_lsub hX dX4_ways_67 ?_
        refine s_lmul hX dX4_ways_68 ?_
        refine s_lstore hX dX4_ways_69 (Nat.le_of_ble_eq_true rfl) ?_
        refine s_aload_n hX dX4_ways_71 rfl ?_
        refine s_getr hX dX4_ways_72 f_X4_44 rfl ?_
        refine s_iload hX dX4_ways_75 rfl ?_
        refine s_iload hX dX4_ways_77 rfl ?_
        refine s_iload hX dX4_ways_79 rfl ?_
        refine s_callS hX (as := [.int y6, .int y10]) dX4_ways_81 k_X4_227 v_X4_has (m_X4_has y6 y10 σ μ _ rfl) ⟨rfl, rfl⟩ ⟨(Nat.le_of_ble_eq_true rfl), (Nat.le_of_ble_eq_true rfl)⟩ rfl rfl (Nat.le_of_ble_eq_true rfl) ?_
        refine s_if_eq hX 91 dX4_ways_84 (by decide) (fun c5 => ?_) (fun c5 => ?_)
        · have h := (if_pos c5).symm.trans h
          refine s_aload_n hX dX4_ways_91 rfl ?_
          refine s_getr hX dX4_ways_92 f_X4_44 rfl ?_
          refine s_iload hX dX4_ways_95 rfl ?_
          obtain ⟨g6, h⟩ := fs_gd h
          refine s_iald hX dX4_ways_97 g6 ?_
          obtain ⟨g7, h⟩ := fs_gd h
          refine s_iast hX dX4_ways_98 g7 ?_
          refine s_iload hX dX4_ways_99 rfl ?_
          refine s_aload_n hX dX4_ways_101 rfl ?_
          refine s_getr hX dX4_ways_102 f_X4_44 rfl ?_
          refine s_iload hX dX4_ways_105 rfl ?_
          obtain ⟨g8, h⟩ := fs_gd h
          refine s_iald hX dX4_ways_107 g8 ?_
          refine s_callS hX (as := [.int y7, .int ((fs_u σ 62 y10.toNatClampNeg (σ 62 y10.toNatClampNeg)) 62 y10.toNatClampNeg)]) dX4_ways_108 k_X4_139 v_X4_greater (m_X4_greater y7 ((fs_u σ 62 y10.toNatClampNeg (σ 62 y10.toNatClampNeg)) 62 y10.toNatClampNeg) (fs_u σ 62 y10.toNatClampNeg (σ 62 y10.toNatClampNeg)) μ _ rfl) ⟨rfl, rfl⟩ ⟨(Nat.le_of_ble_eq_true rfl), (Nat.le_of_ble_eq_true rfl)⟩ rfl rfl (Nat.le_of_ble_eq_true rfl) ?_
          refine s_istore hX dX4_ways_111 (Nat.le_of_ble_eq_true rfl) ?_
          refine s_iinc hX (y10 + (1 : Int32)) dX4_ways_113 rfl rfl (Nat.le_of_ble_eq_true rfl) ?_
          refine s_goto hX 36 dX4_ways_116 (by decide) ?_
          refine fs_ma [true, true, true, true, true, false, true, true, true, false, true] ?_
          exact ih y1 y2 y3 y4 y6 (F_X4_greater y7 ((fs_u σ 62 y10.toNatClampNeg (σ 62 y10.toNatClampNeg)) 62 y10.toNatClampNeg)) (y8 * ((12 : Int64) - (y3.toInt64))) (y10 + (1 : Int32)) (fs_u σ 62 y10.toNatClampNeg (σ 62 y10.toNatClampNeg)) μ out h k0
        · have h := (if_neg c5).symm.trans h
          refine s_ic hX (0 : Int32) dX4_ways_87 (by decide) ?_
          refine s_goto hX 98 dX4_ways_88 (by decide) ?_
          obtain ⟨g9, h⟩ := fs_gd h
          refine s_iast hX dX4_ways_98 g9 ?_
          refine s_iload hX dX4_ways_99 rfl ?_
          refine s_aload_n hX dX4_ways_101 rfl ?_
          refine s_getr hX dX4_ways_102 f_X4_44 rfl ?_
          refine s_iload hX dX4_ways_105 rfl ?_
          obtain ⟨g10, h⟩ := fs_gd h
          refine s_iald hX dX4_ways_107 g10 ?_
          refine s_callS hX (as := [.int y7, .int ((fs_u σ 62 y10.toNatClampNeg (0 : Int32)) 62 y10.toNatClampNeg)]) dX4_ways_108 k_X4_139 v_X4_greater (m_X4_greater y7 ((fs_u σ 62 y10.toNatClampNeg (0 : Int32)) 62 y10.toNatClampNeg) (fs_u σ 62 y10.toNatClampNeg (0 : Int32)) μ _ rfl) ⟨rfl, rfl⟩ ⟨(Nat.le_of_ble_eq_true rfl), (Nat.le_of_ble_eq_true rfl)⟩ rfl rfl (Nat.le_of_ble_eq_true rfl) ?_
          refine s_istore hX dX4_ways_111 (Nat.le_of_ble_eq_true rfl) ?_
          refine s_iinc hX (y10 + (1 : Int32)) dX4_ways_113 rfl rfl (Nat.le_of_ble_eq_true rfl) ?_
          refine s_goto hX 36 dX4_ways_116 (by decide) ?_
          refine fs_ma [true, true, true, true, true, false, true, true, true, false, true] ?_
          exact ih y1 y2 y3 y4 y6 (F_X4_greater y7 ((fs_u σ 62 y10.toNatClampNeg (0 : Int32)) 62 y10.toNatClampNeg)) (y8 * ((12 : Int64) - (y3.toInt64))) (y10 + (1 : Int32)) (fs_u σ 62 y10.toNatClampNeg (0 : Int32)) μ out h k0
      · have h := (if_neg c4).symm.trans h
        refine s_iload_n hX dX4_ways_57 rfl ?_
        refine s_i2l hX dX4_ways_58 ?_
        refine s_goto hX 68 dX4_ways_59 (by decide) ?_
        refine s_lmul hX dX4_ways_68 ?_
        refine s_lstore hX dX4_ways_69 (Nat.le_of_ble_eq_true rfl) ?_
        refine s_aload_n hX dX4_ways_71 rfl ?_
        refine s_getr hX dX4_ways_72 f_X4_44 rfl ?_
        refine s_iload hX dX4_ways_75 rfl ?_
        refine s_iload hX dX4_ways_77 rfl ?_
        refine s_iload hX dX4_ways_79 rfl ?_
        refine s_callS hX (as := [.int y6, .int y10]) dX4_ways_81 k_X4_227 v_X4_has (m_X4_has y6 y10 σ μ _ rfl) ⟨rfl, rfl⟩ ⟨(Nat.le_of_ble_eq_true rfl), (Nat.le_of_ble_eq_true rfl)⟩ rfl rfl (Nat.le_of_ble_eq_true rfl) ?_
        refine s_if_eq hX 91 dX4_ways_84 (by decide) (fun c11 => ?_) (fun c11 => ?_)
        · have h := (if_pos c11).symm.trans h
          refine s_aload_n hX dX4_ways_91 rfl ?_
          refine s_getr hX dX4_ways_92 f_X4_44 rfl ?_
          refine s_iload hX dX4_ways_95 rfl ?_
          obtain ⟨g12, h⟩ := fs_gd h
          refine s_iald hX dX4_ways_97 g12 ?_
          obtain ⟨g13, h⟩ := fs_gd h
          refine s_iast hX dX4_ways_98 g13 ?_
          refine s_iload hX dX4_ways_99 rfl ?_
          refine s_aload_n hX dX4_ways_101 rfl ?_
          refine s_getr hX dX4_ways_102 f_X4_44 rfl ?_
          refine s_iload hX dX4_ways_105 rfl ?_
          obtain ⟨g14, h⟩ := fs_gd h
          refine s_iald hX dX4_ways_107 g14 ?_
          refine s_callS hX (as := [.int y7, .int ((fs_u σ 62 y10.toNatClampNeg (σ 62 y10.toNatClampNeg)) 62 y10.toNatClampNeg)]) dX4_ways_108 k_X4_139 v_X4_greater (m_X4_greater y7 ((fs_u σ 62 y10.toNatClampNeg (σ 62 y10.toNatClampNeg)) 62 y10.toNatClampNeg) (fs_u σ 62 y10.toNatClampNeg (σ 62 y10.toNatClampNeg)) μ _ rfl) ⟨rfl, rfl⟩ ⟨(Nat.le_of_ble_eq_true rfl), (Nat.le_of_ble_eq_true rfl)⟩ rfl rfl (Nat.le_of_ble_eq_true rfl) ?_
          refine s_istore hX dX4_ways_111 (Nat.le_of_ble_eq_true rfl) ?_
          refine s_iinc hX (y10 + (1 : Int32)) dX4_ways_113 rfl rfl (Nat.le_of_ble_eq_true rfl) ?_
          refine s_goto hX 36 dX4_ways_116 (by decide) ?_
          refine fs_ma [true, true, true, true, true, false, true, true, true, false, true] ?_
          exact ih y1 y2 y3 y4 y6 (F_X4_greater y7 ((fs_u σ 62 y10.toNatClampNeg (σ 62 y10.toNatClampNeg)) 62 y10.toNatClampNeg)) (y8 * (y3.toInt64)) (y10 + (1 : Int32)) (fs_u σ 62 y10.toNatClampNeg (σ 62 y10.toNatClampNeg)) μ out h k0
        · have h := (if_neg c11).symm.trans h
          refine s_ic hX (0 : Int32) dX4_ways_87 (by decide) ?_
          refine s_goto hX 98 dX4_ways_88 (by decide) ?_
          obtain ⟨g15, h⟩ := fs_gd h
          refine s_iast hX dX4_ways_98 g15 ?_
          refine s_iload hX dX4_ways_99 rfl ?_
          refine s_aload_n hX dX4_ways_101 rfl ?_
          refine s_getr hX dX4_ways_102 f_X4_44 rfl ?_
          refine s_iload hX dX4_ways_105 rfl ?_
          obtain ⟨g16, h⟩ := fs_gd h
          refine s_iald hX dX4_ways_107 g16 ?_
          refine s_callS hX (as := [.int y7, .int ((fs_u σ 62 y10.toNatClampNeg (0 : Int32)) 62 y10.toNatClampNeg)]) dX4_ways_108 k_X4_139 v_X4_greater (m_X4_greater y7 ((fs_u σ 62 y10.toNatClampNeg (0 : Int32)) 62 y10.toNatClampNeg) (fs_u σ 62 y10.toNatClampNeg (0 : Int32)) μ _ rfl) ⟨rfl, rfl⟩ ⟨(Nat.le_of_ble_eq_true rfl), (Nat.le_of_ble_eq_true rfl)⟩ rfl rfl (Nat.le_of_ble_eq_true rfl) ?_
          refine s_istore hX dX4_ways_111 (Nat.le_of_ble_eq_true rfl) ?_
          refine s_iinc hX (y10 + (1 : Int32)) dX4_ways_113 rfl rfl (Nat.le_of_ble_eq_true rfl) ?_
          refine s_goto hX 36 dX4_ways_116 (by decide) ?_
          refine fs_ma [true, true, true, true, true, false, true, true, true, false, true] ?_
          exact ih y1 y2 y3 y4 y6 (F_X4_greater y7 ((fs_u σ 62 y10.toNatClampNeg (0 : Int32)) 62 y10.toNatClampNeg)) (y8 * (y3.toInt64)) (y10 + (1 : Int32)) (fs_u σ 62 y10.toNatClampNeg (0 : Int32)) μ out h k0
set_option maxRecDepth 20000 in
set_option maxHeartbeats 40000000 in
theorem l_X4_ways_6   {X : fsC} (hX : fs_ok cX4_ways RX4 11 { frames := 3, cells := 0, slots := 0, locals := 70 } X) : ∀ (n : Nat) (y1 : Int32) (y2 : Int32) (y3 : Int32) (y4 : Int64) (y6 : Int32) (σ : fsS) (μ : fsL) (out : Int64 × fsS) (_ : L_X4_ways_6  n y1 y2 y3 y4 y6 σ = some out) (k0 : fs_PW X 167 [none, none, none, none, some (.long out.1), none, none, none, none, none, none] [] out.2 μ), fs_PW X 6 [some (.ref 51), some (.int y1), some (.int y2), some (.int y3), some (.long y4), none, some (.int y6), none, none, none, none] [] σ μ := by
  intro n
  induction n with
  | zero =>
    intro y1 y2 y3 y4 y6 σ μ out h
    cases (show (none : Option (Int64 × fsS)) = some out from h)
  | succ n0 ih =>
    intro y1 y2 y3 y4 y6 σ μ out h k0
    unfold L_X4_ways_6 at h
    refine s_iload hX dX4_ways_6 rfl ?_
    refine s_ic hX (1 : Int32) dX4_ways_8 (by decide) ?_
    refine s_aload_n hX dX4_ways_9 rfl ?_
    refine s_geti hX dX4_ways_10 f_X4_136 rfl ?_
    refine s_ishl hX dX4_ways_13 ?_
    refine s_ic_ge hX 167 dX4_ways_14 (by decide) (fun c1 => ?_) (fun c1 => ?_)
    · have h := (if_pos c1).symm.trans h
      cases h
      refine fs_ma [false, false, false, false, true, false, false, false, false, false, false] ?_
      exact k0
    · have h := (if_neg c1).symm.trans h
      refine s_aload_n hX dX4_ways_17 rfl ?_
      refine s_aload_n hX dX4_ways_18 rfl ?_
      refine s_getr hX dX4_ways_19 f_X4_38 rfl ?_
      obtain ⟨q2, e2, h⟩ := fs_bind h
      refine s_cV hX [.ref 60] dX4_ways_22 k_X4_150 v_X4_laysRegards (m_X4_laysRegards 60 σ μ q2 e2) ⟨_, rfl⟩ fs_c4 ⟨rfl, rfl⟩ ⟨(Nat.le_of_ble_eq_true rfl), (Nat.le_of_ble_eq_true rfl)⟩ rfl rfl (Nat.le_of_ble_eq_true rfl) ?_
      refine s_istore hX dX4_ways_25 (Nat.le_of_ble_eq_true rfl) ?_
      refine s_ic hX (0 : Int32) dX4_ways_27 (by decide) ?_
      refine s_istore hX dX4_ways_28 (Nat.le_of_ble_eq_true rfl) ?_
      refine s_lc hX (1 : Int64) dX4_ways_30 (by decide) ?_
      refine s_lstore hX dX4_ways_31 (Nat.le_of_ble_eq_true rfl) ?_
      refine s_ic hX (0 : Int32) dX4_ways_33 (by decide) ?_
      refine s_istore hX dX4_ways_34 (Nat.le_of_ble_eq_true rfl) ?_
      obtain ⟨q17, e17, h⟩ := fs_bind h
      refine fs_ma [true, true, true, true, true, false, true, true, true, false, true] ?_
      refine l_X4_ways_36  hX fs_fu y1 y2 y3 y4 y6 (0 : Int32) (1 : Int64) (0 : Int32) q2.2 μ q17 e17 ?_
      refine s_lload hX dX4_ways_119 rfl ?_
      refine s_lload hX dX4_ways_121 rfl ?_
      refine s_iload_n hX dX4_ways_123 rfl ?_
      refine s_bi hX (-9 : Int32) dX4_ways_124 (by decide) ?_
      refine s_ic_ne hX 138 dX4_ways_126 (by decide) (fun c18 => ?_) (fun c18 => ?_)
      · have h := (if_neg c18).symm.trans h
        refine s_iload hX dX4_ways_138 rfl ?_
        refine s_aload_n hX dX4_ways_140 rfl ?_
        refine s_getr hX dX4_ways_141 f_X4_44 rfl ?_
        refine s_iload_n hX dX4_ways_144 rfl ?_
        obtain ⟨g19, h⟩ := fs_gd h
        refine s_iald hX dX4_ways_145 g19 ?_
        refine s_isub hX dX4_ways_146 ?_
        refine s_iload_n hX dX4_ways_147 rfl ?_
        refine s_ic_lt hX 155 dX4_ways_148 (by decide) (fun c20 => ?_) (fun c20 => ?_)
        · have h := (if_pos c20).symm.trans h
          refine s_ic hX (0 : Int32) dX4_ways_155 (by decide) ?_
          refine s_i2l hX dX4_ways_156 ?_
          refine s_lmul hX dX4_ways_157 ?_
          refine s_ladd hX dX4_ways_158 ?_
          refine s_lstore hX dX4_ways_159 (Nat.le_of_ble_eq_true rfl) ?_
          refine s_iinc hX (y6 + (1 : Int32)) dX4_ways_161 rfl rfl (Nat.le_of_ble_eq_true rfl) ?_
          refine s_goto hX 6 dX4_ways_164 (by decide) ?_
          refine fs_ma [true, true, true, true, true, false, true, false, false, false, false] ?_
          exact ih y1 y2 y3 (y4 + (q17.2.1 * ((0 : Int32).toInt64))) (y6 + (1 : Int32)) q17.2.2 μ out h k0
        · have h := (if_neg c20).symm.trans h
          refine s_ic hX (1 : Int32) dX4_ways_151 (by decide) ?_
          refine s_goto hX 156 dX4_ways_152 (by decide) ?_
          refine s_i2l hX dX4_ways_156 ?_
          refine s_lmul hX dX4_ways_157 ?_
          refine s_ladd hX dX4_ways_158 ?_
          refine s_lstore hX dX4_ways_159 (Nat.le_of_ble_eq_true rfl) ?_
          refine s_iinc hX (y6 + (1 : Int32)) dX4_ways_161 rfl rfl (Nat.le_of_ble_eq_true rfl) ?_
          refine s_goto hX 6 dX4_ways_164 (by decide) ?_
          refine fs_ma [true, true, true, true, true, false, true, false, false, false, false] ?_
          exact ih y1 y2 y3 (y4 + (q17.2.1 * ((1 : Int32).toInt64))) (y6 + (1 : Int32)) q17.2.2 μ out h k0
      · have h := (if_pos c18).symm.trans h
        refine s_aload_n hX dX4_ways_129 rfl ?_
        refine s_iload hX dX4_ways_130 rfl ?_
        obtain ⟨q21, e21, h⟩ := fs_bind h
        refine s_cV hX [.int q17.1] dX4_ways_132 k_X4_154 v_X4_gives (m_X4_gives q17.1 q17.2.2 μ q21 e21) ⟨_, rfl⟩ fs_c4 ⟨rfl, rfl⟩ ⟨(Nat.le_of_ble_eq_true rfl), (Nat.le_of_ble_eq_true rfl)⟩ rfl rfl (Nat.le_of_ble_eq_true rfl) ?_
        refine s_goto hX 156 dX4_ways_135 (by decide) ?_
        refine s_i2l hX dX4_ways_156 ?_
        refine s_lmul hX dX4_ways_157 ?_
        refine s_ladd hX dX4_ways_158 ?_
        refine s_lstore hX dX4_ways_159 (Nat.le_of_ble_eq_true rfl) ?_
        refine s_iinc hX (y6 + (1 : Int32)) dX4_ways_161 rfl rfl (Nat.le_of_ble_eq_true rfl) ?_
        refine s_goto hX 6 dX4_ways_164 (by decide) ?_
        refine fs_ma [true, true, true, true, true, false, true, false, false, false, false] ?_
        exact ih y1 y2 y3 (y4 + (q17.2.1 * (q21.toInt64))) (y6 + (1 : Int32)) q17.2.2 μ out h k0
set_option maxRecDepth 20000 in
set_option maxHeartbeats 40000000 in
theorem m_X4_ways (x1 : Int32) (x2 : Int32) (x3 : Int32)  (σ : fsS) (μ : fsL) (out : Int64 × fsS) (h : F_X4_ways x1 x2 x3 σ = some out) : fs_Met yX4_ways cX4_ways 11 (some .long) { frames := 3, cells := 0, slots := 0, locals := 70 } [.ref 51, .int x1, .int x2, .int x3] σ μ (some (.long out.1)) out.2 μ := by
  unfold F_X4_ways at h
  refine fs_intro (by decide +kernel) (Nat.le_of_ble_eq_true rfl) (fun X hX hR => ?_)
  show fs_PW X 0 [some (.ref 51), some (.int x1), some (.int x2), some (.int x3), none, none, none, none, none, none, none] [] σ μ
  refine s_lc hX (0 : Int64) dX4_ways_0 (by decide) ?_
  refine s_lstore hX dX4_ways_1 (Nat.le_of_ble_eq_true rfl) ?_
  refine s_ic hX (0 : Int32) dX4_ways_3 (by decide) ?_
  refine s_istore hX dX4_ways_4 (Nat.le_of_ble_eq_true rfl) ?_
  obtain ⟨q22, e22, h⟩ := fs_bind h
  refine fs_ma [true, true, true, true, true, false, true, false, false, false, false] ?_
  refine l_X4_ways_6  hX fs_fu x1 x2 x3 (0 : Int64) (0 : Int32) σ μ q22 e22 ?_
  refine s_lload hX dX4_ways_167 rfl ?_
  cases h
  exact s_lret hX hR dX4_ways_169
