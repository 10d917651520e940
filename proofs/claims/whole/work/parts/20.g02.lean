-- X0_restore
def F_X0_restore (x1 : Int32) (σ : fsS) : Option (fsS) := fs_g (fs_in x1 3) (fs_g (fs_cp (48 + x1.toNatClampNeg) 12 (0 : Int32) (0 : Int32) (40 : Int32)) (fs_g (fs_in x1 3) ((F_X0_replay (σ 13 x1.toNatClampNeg) (fs_cy σ (48 + x1.toNatClampNeg) 12 (0 : Int32) (0 : Int32) (40 : Int32))).bind (fun q4 => some q4))))
set_option maxRecDepth 20000 in
set_option maxHeartbeats 4000000 in
theorem m_X0_restore (x1 : Int32)  (σ : fsS) (μ : fsL) (out : fsS) (h : F_X0_restore x1 σ = some out) : fs_Met yX0_restore cX0_restore 2 none { frames := 5, cells := 0, slots := 0, locals := 116 } [.ref 3, .int x1] σ μ none out μ := by
  unfold F_X0_restore at h
  refine fs_intro (by decide +kernel) (Nat.le_of_ble_eq_true rfl) (fun X hX hR => ?_)
  show fs_PW X 0 [some (.ref 3), some (.int x1)] [] σ μ
  refine s_aload_n hX dX0_restore_0 rfl ?_
  refine s_getr hX dX0_restore_1 f_X0_34 rfl ?_
  refine s_iload_n hX dX0_restore_4 rfl ?_
  obtain ⟨g1, h⟩ := fs_gd h
  refine s_aald hX dX0_restore_5 g1 ?_
  refine s_ic hX (0 : Int32) dX0_restore_6 (by decide) ?_
  refine s_aload_n hX dX0_restore_7 rfl ?_
  refine s_getr hX dX0_restore_8 f_X0_28 rfl ?_
  refine s_ic hX (0 : Int32) dX0_restore_11 (by decide) ?_
  refine s_bi hX (40 : Int32) dX0_restore_12 (by decide) ?_
  obtain ⟨g2, h⟩ := fs_gd h
  refine s_ac hX dX0_restore_14 k_X0_80 g2 rfl (Nat.le_of_ble_eq_true rfl) (Nat.le_of_ble_eq_true rfl) ?_
  refine s_aload_n hX dX0_restore_17 rfl ?_
  refine s_aload_n hX dX0_restore_18 rfl ?_
  refine s_getr hX dX0_restore_19 f_X0_37 rfl ?_
  refine s_iload_n hX dX0_restore_22 rfl ?_
  obtain ⟨g3, h⟩ := fs_gd h
  refine s_iald hX dX0_restore_23 g3 ?_
  obtain ⟨q4, e4, h⟩ := fs_bind h
  refine s_cV hX [.int (σ 13 x1.toNatClampNeg)] dX0_restore_24 k_X0_50 v_X0_replay (m_X0_replay (σ 13 x1.toNatClampNeg) (fs_cy σ (48 + x1.toNatClampNeg) 12 (0 : Int32) (0 : Int32) (40 : Int32)) μ q4 e4) ⟨_, rfl⟩ fs_c0 ⟨rfl, rfl⟩ ⟨(Nat.le_of_ble_eq_true rfl), (Nat.le_of_ble_eq_true rfl)⟩ rfl rfl (Nat.le_of_ble_eq_true rfl) ?_
  cases h
  exact s_vret hX hR dX0_restore_27

-- X0_allKept
def L_X0_allKept_4  : Nat → Int32 → Int32 → fsS → Option (Int32)
  | 0, _, _, _ => none
  | n0 + 1, y1, y2, σ => if (3 : Int32) ≤ y2 then some y1 else fs_g (fs_in y2 3) (if (σ 13 y2.toNatClampNeg) = (-1 : Int32) then L_X0_allKept_4  n0 y1 (y2 + (1 : Int32)) σ else L_X0_allKept_4  n0 (y1 + (1 : Int32)) (y2 + (1 : Int32)) σ)
def F_X0_allKept (σ : fsS) : Option (Int32) := (L_X0_allKept_4  fs_fu (0 : Int32) (0 : Int32) σ).bind (fun q4 => some q4)
set_option maxRecDepth 20000 in
set_option maxHeartbeats 4000000 in
theorem l_X0_allKept_4   {X : fsC} (hX : fs_ok cX0_allKept RX0 3 { frames := 0, cells := 0, slots := 0, locals := 0 } X) : ∀ (n : Nat) (y1 : Int32) (y2 : Int32) (σ : fsS) (μ : fsL) (out : Int32) (_ : L_X0_allKept_4  n y1 y2 σ = some out) (k0 : fs_PW X 28 [none, some (.int out), none] [] σ μ), fs_PW X 4 [some (.ref 3), some (.int y1), some (.int y2)] [] σ μ := by
  intro n
  induction n with
  | zero =>
    intro y1 y2 σ μ out h
    cases (show (none : Option (Int32)) = some out from h)
  | succ n0 ih =>
    intro y1 y2 σ μ out h k0
    unfold L_X0_allKept_4 at h
    refine s_iload_n hX dX0_allKept_4 rfl ?_
    refine s_ic hX (3 : Int32) dX0_allKept_5 (by decide) ?_
    refine s_ic_ge hX 28 dX0_allKept_6 (by decide) (fun c1 => ?_) (fun c1 => ?_)
    · have h := (if_pos c1).symm.trans h
      cases h
      refine fs_ma [false, true, false] ?_
      exact k0
    · have h := (if_neg c1).symm.trans h
      refine s_aload_n hX dX0_allKept_9 rfl ?_
      refine s_getr hX dX0_allKept_10 f_X0_37 rfl ?_
      refine s_iload_n hX dX0_allKept_13 rfl ?_
      obtain ⟨g2, h⟩ := fs_gd h
      refine s_iald hX dX0_allKept_14 g2 ?_
      refine s_ic hX (-1 : Int32) dX0_allKept_15 (by decide) ?_
      refine s_ic_eq hX 22 dX0_allKept_16 (by decide) (fun c3 => ?_) (fun c3 => ?_)
      · have h := (if_pos c3).symm.trans h
        refine s_iinc hX (y2 + (1 : Int32)) dX0_allKept_22 rfl rfl (Nat.le_of_ble_eq_true rfl) ?_
        refine s_goto hX 4 dX0_allKept_25 (by decide) ?_
        refine fs_ma [true, true, true] ?_
        exact ih y1 (y2 + (1 : Int32)) σ μ out h k0
      · have h := (if_neg c3).symm.trans h
        refine s_iinc hX (y1 + (1 : Int32)) dX0_allKept_19 rfl rfl (Nat.le_of_ble_eq_true rfl) ?_
        refine s_iinc hX (y2 + (1 : Int32)) dX0_allKept_22 rfl rfl (Nat.le_of_ble_eq_true rfl) ?_
        refine s_goto hX 4 dX0_allKept_25 (by decide) ?_
        refine fs_ma [true, true, true] ?_
        exact ih (y1 + (1 : Int32)) (y2 + (1 : Int32)) σ μ out h k0
set_option maxRecDepth 20000 in
set_option maxHeartbeats 4000000 in
theorem m_X0_allKept   (σ : fsS) (μ : fsL) (out : Int32) (h : F_X0_allKept  σ = some out) : fs_Met yX0_allKept cX0_allKept 3 (some .int) { frames := 0, cells := 0, slots := 0, locals := 0 } [.ref 3] σ μ (some (.int out)) σ μ := by
  unfold F_X0_allKept at h
  refine fs_intro (by decide +kernel) (Nat.le_of_ble_eq_true rfl) (fun X hX hR => ?_)
  show fs_PW X 0 [some (.ref 3), none, none] [] σ μ
  refine s_ic hX (0 : Int32) dX0_allKept_0 (by decide) ?_
  refine s_istore_n hX dX0_allKept_1 (Nat.le_of_ble_eq_true rfl) ?_
  refine s_ic hX (0 : Int32) dX0_allKept_2 (by decide) ?_
  refine s_istore_n hX dX0_allKept_3 (Nat.le_of_ble_eq_true rfl) ?_
  obtain ⟨q4, e4, h⟩ := fs_bind h
  refine fs_ma [true, true, true] ?_
  refine l_X0_allKept_4  hX fs_fu (0 : Int32) (0 : Int32) σ μ q4 e4 ?_
  refine s_iload_n hX dX0_allKept_28 rfl ?_
  cases h
  exact s_iret hX hR dX0_allKept_29

-- X1_kindByLetter
def F_X1_kindByLetter (x0 : Int32) : Int32 := if x0 = (106 : Int32) then (4 : Int32) else if x0 = (107 : Int32) then (0 : Int32) else if x0 = (108 : Int32) then (-1 : Int32) else if x0 = (109 : Int32) then (2 : Int32) else if x0 = (110 : Int32) then (-1 : Int32) else if x0 = (111 : Int32) then (-1 : Int32) else if x0 = (112 : Int32) then (3 : Int32) else if x0 = (113 : Int32) then (-1 : Int32) else if x0 = (114 : Int32) then (-1 : Int32) else if x0 = (115 : Int32) then (1 : Int32) else if x0 = (116 : Int32) then (-1 : Int32) else if x0 = (117 : Int32) then (5 : Int32) else (-1 : Int32)
set_option maxRecDepth 20000 in
set_option maxHeartbeats 4000000 in
theorem m_X1_kindByLetter (x0 : Int32)  (σ : fsS) (μ : fsL) (out : Int32) (h : F_X1_kindByLetter x0 = out) : fs_Met yX1_kindByLetter cX1_kindByLetter 1 (some .int) { frames := 0, cells := 0, slots := 0, locals := 0 } [.int x0] σ μ (some (.int out)) σ μ := by
  unfold F_X1_kindByLetter at h
  refine fs_intro (by decide +kernel) (Nat.le_of_ble_eq_true rfl) (fun X hX hR => ?_)
  show fs_PW X 0 [some (.int x0)] [] σ μ
  refine s_iload_n hX dX1_kindByLetter_0 rfl ?_
  by_cases c1 : x0 = (106 : Int32)
  · have h := (if_pos c1).symm.trans h
    refine s_tabK hX 72 (106 : Int32) c1 dX1_kindByLetter_1 (by decide) (by decide) rfl (by decide) ?_
    refine s_ic hX (4 : Int32) dX1_kindByLetter_72 (by decide) ?_
    subst h
    exact s_iret hX hR dX1_kindByLetter_73
  · have h := (if_neg c1).symm.trans h
    by_cases c2 : x0 = (107 : Int32)
    · have h := (if_pos c2).symm.trans h
      refine s_tabK hX 64 (107 : Int32) c2 dX1_kindByLetter_1 (by decide) (by decide) rfl (by decide) ?_
      refine s_ic hX (0 : Int32) dX1_kindByLetter_64 (by decide) ?_
      subst h
      exact s_iret hX hR dX1_kindByLetter_65
    · have h := (if_neg c2).symm.trans h
      by_cases c3 : x0 = (108 : Int32)
      · have h := (if_pos c3).symm.trans h
        refine s_tabK hX 76 (108 : Int32) c3 dX1_kindByLetter_1 (by decide) (by decide) rfl (by decide) ?_
        refine s_ic hX (-1 : Int32) dX1_kindByLetter_76 (by decide) ?_
        subst h
        exact s_iret hX hR dX1_kindByLetter_77
      · have h := (if_neg c3).symm.trans h
        by_cases c4 : x0 = (109 : Int32)
        · have h := (if_pos c4).symm.trans h
          refine s_tabK hX 68 (109 : Int32) c4 dX1_kindByLetter_1 (by decide) (by decide) rfl (by decide) ?_
          refine s_ic hX (2 : Int32) dX1_kindByLetter_68 (by decide) ?_
          subst h
          exact s_iret hX hR dX1_kindByLetter_69
        · have h := (if_neg c4).symm.trans h
          by_cases c5 : x0 = (110 : Int32)
          · have h := (if_pos c5).symm.trans h
            refine s_tabK hX 76 (110 : Int32) c5 dX1_kindByLetter_1 (by decide) (by decide) rfl (by decide) ?_
            refine s_ic hX (-1 : Int32) dX1_kindByLetter_76 (by decide) ?_
            subst h
            exact s_iret hX hR dX1_kindByLetter_77
          · have h := (if_neg c5).symm.trans h
            by_cases c6 : x0 = (111 : Int32)
            · have h := (if_pos c6).symm.trans h
              refine s_tabK hX 76 (111 : Int32) c6 dX1_kindByLetter_1 (by decide) (by decide) rfl (by decide) ?_
              refine s_ic hX (-1 : Int32) dX1_kindByLetter_76 (by decide) ?_
              subst h
              exact s_iret hX hR dX1_kindByLetter_77
            · have h := (if_neg c6).symm.trans h
              by_cases c7 : x0 = (112 : Int32)
              · have h := (if_pos c7).symm.trans h
                refine s_tabK hX 70 (112 : Int32) c7 dX1_kindByLetter_1 (by decide) (by decide) rfl (by decide) ?_
                refine s_ic hX (3 : Int32) dX1_kindByLetter_70 (by decide) ?_
                subst h
                exact s_iret hX hR dX1_kindByLetter_71
              · have h := (if_neg c7).symm.trans h
                by_cases c8 : x0 = (113 : Int32)
                · have h := (if_pos c8).symm.trans h
                  refine s_tabK hX 76 (113 : Int32) c8 dX1_kindByLetter_1 (by decide) (by decide) rfl (by decide) ?_
                  refine s_ic hX (-1 : Int32) dX1_kindByLetter_76 (by decide) ?_
                  subst h
                  exact s_iret hX hR dX1_kindByLetter_77
                · have h := (if_neg c8).symm.trans h
                  by_cases c9 : x0 = (114 : Int32)
                  · have h := (if_pos c9).symm.trans h
                    refine s_tabK hX 76 (114 : Int32) c9 dX1_kindByLetter_1 (by decide) (by decide) rfl (by decide) ?_
                    refine s_ic hX (-1 : Int32) dX1_kindByLetter_76 (by decide) ?_
                    subst h
                    exact s_iret hX hR dX1_kindByLetter_77
                  · have h := (if_neg c9).symm.trans h
                    by_cases c10 : x0 = (115 : Int32)
                    · have h := (if_pos c10).symm.trans h
                      refine s_tabK hX 66 (115 : Int32) c10 dX1_kindByLetter_1 (by decide) (by decide) rfl (by decide) ?_
                      refine s_ic hX (1 : Int32) dX1_kindByLetter_66 (by decide) ?_
                      subst h
                      exact s_iret hX hR dX1_kindByLetter_67
                    · have h := (if_neg c10).symm.trans h
                      by_cases c11 : x0 = (116 : Int32)
                      · have h := (if_pos c11).symm.trans h
                        refine s_tabK hX 76 (116 : Int32) c11 dX1_kindByLetter_1 (by decide) (by decide) rfl (by decide) ?_
                        refine s_ic hX (-1 : Int32) dX1_kindByLetter_76 (by decide) ?_
                        subst h
                        exact s_iret hX hR dX1_kindByLetter_77
                      · have h := (if_neg c11).symm.trans h
                        by_cases c12 : x0 = (117 : Int32)
                        · have h := (if_pos c12).symm.trans h
                          refine s_tabK hX 74 (117 : Int32) c12 dX1_kindByLetter_1 (by decide) (by decide) rfl (by decide) ?_
                          refine s_ic hX (5 : Int32) dX1_kindByLetter_74 (by decide) ?_
                          subst h
                          exact s_iret hX hR dX1_kindByLetter_75
                        · have h := (if_neg c12).symm.trans h
                          have wc1 := fs_ne (z := 106) c1 (by decide)
                          have wc2 := fs_ne (z := 107) c2 (by decide)
                          have wc3 := fs_ne (z := 108) c3 (by decide)
                          have wc4 := fs_ne (z := 109) c4 (by decide)
                          have wc5 := fs_ne (z := 110) c5 (by decide)
                          have wc6 := fs_ne (z := 111) c6 (by decide)
                          have wc7 := fs_ne (z := 112) c7 (by decide)
                          have wc8 := fs_ne (z := 113) c8 (by decide)
                          have wc9 := fs_ne (z := 114) c9 (by decide)
                          have wc10 := fs_ne (z := 115) c10 (by decide)
                          have wc11 := fs_ne (z := 116) c11 (by decide)
                          have wc12 := fs_ne (z := 117) c12 (by decide)
                          refine s_tabOut hX 76 dX1_kindByLetter_1 (by omega) (by decide) ?_
                          refine s_ic hX (-1 : Int32) dX1_kindByLetter_76 (by decide) ?_
                          subst h
                          exact s_iret hX hR dX1_kindByLetter_77

-- X1_readItem
def L_X1_readItem_21 (o : Nat) (a1 : Nat) : Nat → Int32 → Int32 → Int32 → Int32 → fsS → Option (Nat × Int32)
  | 0, _, _, _, _, _ => none
  | n0 + 1, y2, y3, y4, y5, σ => if (y3 + (5 : Int32)) ≤ y5 then some (2, (0 : Int32)) else if y5 < y2 then fs_g (fs_in y5 (fs_len a1)) (if (σ a1 y5.toNatClampNeg) < (48 : Int32) then some (1, y5) else fs_g (fs_in y5 (fs_len a1)) (if (σ a1 y5.toNatClampNeg) ≤ (57 : Int32) then L_X1_readItem_21 o a1 n0 y2 y3 y4 (y5 + (1 : Int32)) σ else some (1, y5))) else some (0, (0 : Int32))
def F_X1_readItem (o : Nat) (a1 : Nat) (x2 : Int32) (x3 : Int32) (σ : fsS) : Option (Int32 × fsS) := fs_g (fs_in x3 (fs_len a1)) (if (F_X1_kindByLetter (σ a1 x3.toNatClampNeg)) = (-1 : Int32) then some (x3, σ) else (L_X1_readItem_21 o a1 fs_fu x2 x3 (F_X1_kindByLetter (σ a1 x3.toNatClampNeg)) (x3 + (1 : Int32)) σ).bind (fun q9 => if q9.1 = 0 then some (x2, σ) else if q9.1 = 1 then some (q9.2, σ) else fs_g (fs_in (σ o 0) 6) (fs_g (fs_in (x3 + (1 : Int32)) (fs_len a1)) (fs_g (fs_in ((fs_u σ (7 * o - 14 + 0) (σ o 0).toNatClampNeg (F_X1_kindByLetter (σ a1 x3.toNatClampNeg))) o 0) 6) (fs_g (fs_in (x3 + (2 : Int32)) (fs_len a1)) (fs_g (fs_in ((fs_u (fs_u σ (7 * o - 14 + 0) (σ o 0).toNatClampNeg (F_X1_kindByLetter (σ a1 x3.toNatClampNeg))) (7 * o - 14 + 1) ((fs_u σ (7 * o - 14 + 0) (σ o 0).toNatClampNeg (F_X1_kindByLetter (σ a1 x3.toNatClampNeg))) o 0).toNatClampNeg (((fs_u σ (7 * o - 14 + 0) (σ o 0).toNatClampNeg (F_X1_kindByLetter (σ a1 x3.toNatClampNeg))) a1 (x3 + (1 : Int32)).toNatClampNeg) - (48 : Int32))) o 0) 6) (fs_g (fs_in (x3 + (3 : Int32)) (fs_len a1)) (fs_g (fs_in (x3 + (4 : Int32)) (fs_len a1)) (fs_g (fs_in ((fs_u (fs_u (fs_u σ (7 * o - 14 + 0) (σ o 0).toNatClampNeg (F_X1_kindByLetter (σ a1 x3.toNatClampNeg))) (7 * o - 14 + 1) ((fs_u σ (7 * o - 14 + 0) (σ o 0).toNatClampNeg (F_X1_kindByLetter (σ a1 x3.toNatClampNeg))) o 0).toNatClampNeg (((fs_u σ (7 * o - 14 + 0) (σ o 0).toNatClampNeg (F_X1_kindByLetter (σ a1 x3.toNatClampNeg))) a1 (x3 + (1 : Int32)).toNatClampNeg) - (48 : Int32))) (7 * o - 14 + 2) ((fs_u (fs_u σ (7 * o - 14 + 0) (σ o 0).toNatClampNeg (F_X1_kindByLetter (σ a1 x3.toNatClampNeg))) (7 * o - 14 + 1) ((fs_u σ (7 * o - 14 + 0) (σ o 0).toNatClampNeg (F_X1_kindByLetter (σ a1 x3.toNatClampNeg))) o 0).toNatClampNeg (((fs_u σ (7 * o - 14 + 0) (σ o 0).toNatClampNeg (F_X1_kindByLetter (σ a1 x3.toNatClampNeg))) a1 (x3 + (1 : Int32)).toNatClampNeg) - (48 : Int32))) o 0).toNatClampNeg (((fs_u (fs_u σ (7 * o - 14 + 0) (σ o 0).toNatClampNeg (F_X1_kindByLetter (σ a1 x3.toNatClampNeg))) (7 * o - 14 + 1) ((fs_u σ (7 * o - 14 + 0) (σ o 0).toNatClampNeg (F_X1_kindByLetter (σ a1 x3.toNatClampNeg))) o 0).toNatClampNeg (((fs_u σ (7 * o - 14 + 0) (σ o 0).toNatClampNeg (F_X1_kindByLetter (σ a1 x3.toNatClampNeg))) a1 (x3 + (1 : Int32)).toNatClampNeg) - (48 : Int32))) a1 (x3 + (2 : Int32)).toNatClampNeg) - (48 : Int32))) o 0) 6) (fs_g (fs_in ((fs_u (fs_u (fs_u (fs_u σ (7 * o - 14 + 0) (σ o 0).toNatClampNeg (F_X1_kindByLetter (σ a1 x3.toNatClampNeg))) (7 * o - 14 + 1) ((fs_u σ (7 * o - 14 + 0) (σ o 0).toNatClampNeg (F_X1_kindByLetter (σ a1 x3.toNatClampNeg))) o 0).toNatClampNeg (((fs_u σ (7 * o - 14 + 0) (σ o 0).toNatClampNeg (F_X1_kindByLetter (σ a1 x3.toNatClampNeg))) a1 (x3 + (1 : Int32)).toNatClampNeg) - (48 : Int32))) (7 * o - 14 + 2) ((fs_u (fs_u σ (7 * o - 14 + 0) (σ o 0).toNatClampNeg (F_X1_kindByLetter (σ a1 x3.toNatClampNeg))) (7 * o - 14 + 1) ((fs_u σ (7 * o - 14 + 0) (σ o 0).toNatClampNeg (F_X1_kindByLetter (σ a1 x3.toNatClampNeg))) o 0).toNatClampNeg (((fs_u σ (7 * o - 14 + 0) (σ o 0).toNatClampNeg (F_X1_kindByLetter (σ a1 x3.toNatClampNeg))) a1 (x3 + (1 : Int32)).toNatClampNeg) - (48 : Int32))) o 0).toNatClampNeg (((fs_u (fs_u σ (7 * o - 14 + 0) (σ o 0).toNatClampNeg (F_X1_kindByLetter (σ a1 x3.toNatClampNeg))) (7 * o - 14 + 1) ((fs_u σ (7 * o - 14 + 0) (σ o 0).toNatClampNeg (F_X1_kindByLetter (σ a1 x3.toNatClampNeg))) o 0).toNatClampNeg (((fs_u σ (7 * o - 14 + 0) (σ o 0).toNatClampNeg (F_X1_kindByLetter (σ a1 x3.toNatClampNeg))) a1 (x3 + (1 : Int32)).toNatClampNeg) - (48 : Int32))) a1 (x3 + (2 : Int32)).toNatClampNeg) - (48 : Int32))) (7 * o - 14 + 3) ((fs_u (fs_u (fs_u σ (7 * o - 14 + 0) (σ o 0).toNatClampNeg (F_X1_kindByLetter (σ a1 x3.toNatClampNeg))) (7 * o - 14 + 1) ((fs_u σ (7 * o - 14 + 0) (σ o 0).toNatClampNeg (F_X1_kindByLetter (σ a1 x3.toNatClampNeg))) o 0).toNatClampNeg (((fs_u σ (7 * o - 14 + 0) (σ o 0).toNatClampNeg (F_X1_kindByLetter (σ a1 x3.toNatClampNeg))) a1 (x3 + (1 : Int32)).toNatClampNeg) - (48 : Int32))) (7 * o - 14 + 2) ((fs_u (fs_u σ (7 * o - 14 + 0) (σ o 0).toNatClampNeg (F_X1_kindByLetter (σ a1 x3.toNatClampNeg))) (7 * o - 14 + 1) ((fs_u σ (7 * o - 14 + 0) (σ o 0).toNatClampNeg (F_X1_kindByLetter (σ a1 x3.toNatClampNeg))) o 0).toNatClampNeg (((fs_u σ (7 * o - 14 + 0) (σ o 0).toNatClampNeg (F_X1_kindByLetter (σ a1 x3.toNatClampNeg))) a1 (x3 + (1 : Int32)).toNatClampNeg) - (48 : Int32))) o 0).toNatClampNeg (((fs_u (fs_u σ (7 * o - 14 + 0) (σ o 0).toNatClampNeg (F_X1_kindByLetter (σ a1 x3.toNatClampNeg))) (7 * o - 14 + 1) ((fs_u σ (7 * o - 14 + 0) (σ o 0).toNatClampNeg (F_X1_kindByLetter (σ a1 x3.toNatClampNeg))) o 0).toNatClampNeg (((fs_u σ (7 * o - 14 + 0) (σ o 0).toNatClampNeg (F_X1_kindByLetter (σ a1 x3.toNatClampNeg))) a1 (x3 + (1 : Int32)).toNatClampNeg) - (48 : Int32))) a1 (x3 + (2 : Int32)).toNatClampNeg) - (48 : Int32))) o 0).toNatClampNeg ((((10 : Int32) * (((fs_u (fs_u (fs_u σ (7 * o - 14 + 0) (σ o 0).toNatClampNeg (F_X1_kindByLetter (σ a1 x3.toNatClampNeg))) (7 * o - 14 + 1) ((fs_u σ (7 * o - 14 + 0) (σ o 0).toNatClampNeg (F_X1_kindByLetter (σ a1 x3.toNatClampNeg))) o 0).toNatClampNeg (((fs_u σ (7 * o - 14 + 0) (σ o 0).toNatClampNeg (F_X1_kindByLetter (σ a1 x3.toNatClampNeg))) a1 (x3 + (1 : Int32)).toNatClampNeg) - (48 : Int32))) (7 * o - 14 + 2) ((fs_u (fs_u σ (7 * o - 14 + 0) (σ o 0).toNatClampNeg (F_X1_kindByLetter (σ a1 x3.toNatClampNeg))) (7 * o - 14 + 1) ((fs_u σ (7 * o - 14 + 0) (σ o 0).toNatClampNeg (F_X1_kindByLetter (σ a1 x3.toNatClampNeg))) o 0).toNatClampNeg (((fs_u σ (7 * o - 14 + 0) (σ o 0).toNatClampNeg (F_X1_kindByLetter (σ a1 x3.toNatClampNeg))) a1 (x3 + (1 : Int32)).toNatClampNeg) - (48 : Int32))) o 0).toNatClampNeg (((fs_u (fs_u σ (7 * o - 14 + 0) (σ o 0).toNatClampNeg (F_X1_kindByLetter (σ a1 x3.toNatClampNeg))) (7 * o - 14 + 1) ((fs_u σ (7 * o - 14 + 0) (σ o 0).toNatClampNeg (F_X1_kindByLetter (σ a1 x3.toNatClampNeg))) o 0).toNatClampNeg (((fs_u σ (7 * o - 14 + 0) (σ o 0).toNatClampNeg (F_X1_kindByLetter (σ a1 x3.toNatClampNeg))) a1 (x3 + (1 : Int32)).toNatClampNeg) - (48 : Int32))) a1 (x3 + (2 : Int32)).toNatClampNeg) - (48 : Int32))) a1 (x3 + (3 : Int32)).toNatClampNeg) - (48 : Int32))) + ((fs_u (fs_u (fs_u σ (7 * o - 14 + 0) (σ o 0).toNatClampNeg (F_X1_kindByLetter (σ a1 x3.toNatClampNeg))) (7 * o - 14 + 1) ((fs_u σ (7 * o - 14 + 0) (σ o 0).toNatClampNeg (F_X1_kindByLetter (σ a1 x3.toNatClampNeg))) o 0).toNatClampNeg (((fs_u σ (7 * o - 14 + 0) (σ o 0).toNatClampNeg (F_X1_kindByLetter (σ a1 x3.toNatClampNeg))) a1 (x3 + (1 : Int32)).toNatClampNeg) - (48 : Int32))) (7 * o - 14 + 2) ((fs_u (fs_u σ (7 * o - 14 + 0) (σ o 0).toNatClampNeg (F_X1_kindByLetter (σ a1 x3.toNatClampNeg))) (7 * o - 14 + 1) ((fs_u σ (7 * o - 14 + 0) (σ o 0).toNatClampNeg (F_X1_kindByLetter (σ a1 x3.toNatClampNeg))) o 0).toNatClampNeg (((fs_u σ (7 * o - 14 + 0) (σ o 0).toNatClampNeg (F_X1_kindByLetter (σ a1 x3.toNatClampNeg))) a1 (x3 + (1 : Int32)).toNatClampNeg) - (48 : Int32))) o 0).toNatClampNeg (((fs_u (fs_u σ (7 * o - 14 + 0) (σ o 0).toNatClampNeg (F_X1_kindByLetter (σ a1 x3.toNatClampNeg))) (7 * o - 14 + 1) ((fs_u σ (7 * o - 14 + 0) (σ o 0).toNatClampNeg (F_X1_kindByLetter (σ a1 x3.toNatClampNeg))) o 0).toNatClampNeg (((fs_u σ (7 * o - 14 + 0) (σ o 0).toNatClampNeg (F_X1_kindByLetter (σ a1 x3.toNatClampNeg))) a1 (x3 + (1 : Int32)).toNatClampNeg) - (48 : Int32))) a1 (x3 + (2 : Int32)).toNatClampNeg) - (48 : Int32))) a1 (x3 + (4 : Int32)).toNatClampNeg)) - (48 : Int32))) o 0) 6) (some ((-9 : Int32), (fs_u (fs_u (fs_u (fs_u (fs_u (fs_u σ (7 * o - 14 + 0) (σ o 0).toNatClampNeg (F_X1_kindByLetter (σ a1 x3.toNatClampNeg))) (7 * o - 14 + 1) ((fs_u σ (7 * o - 14 + 0) (σ o 0).toNatClampNeg (F_X1_kindByLetter (σ a1 x3.toNatClampNeg))) o 0).toNatClampNeg (((fs_u σ (7 * o - 14 + 0) (σ o 0).toNatClampNeg (F_X1_kindByLetter (σ a1 x3.toNatClampNeg))) a1 (x3 + (1 : Int32)).toNatClampNeg) - (48 : Int32))) (7 * o - 14 + 2) ((fs_u (fs_u σ (7 * o - 14 + 0) (σ o 0).toNatClampNeg (F_X1_kindByLetter (σ a1 x3.toNatClampNeg))) (7 * o - 14 + 1) ((fs_u σ (7 * o - 14 + 0) (σ o 0).toNatClampNeg (F_X1_kindByLetter (σ a1 x3.toNatClampNeg))) o 0).toNatClampNeg (((fs_u σ (7 * o - 14 + 0) (σ o 0).toNatClampNeg (F_X1_kindByLetter (σ a1 x3.toNatClampNeg))) a1 (x3 + (1 : Int32)).toNatClampNeg) - (48 : Int32))) o 0).toNatClampNeg (((fs_u (fs_u σ (7 * o - 14 + 0) (σ o 0).toNatClampNeg (F_X1_kindByLetter (σ a1 x3.toNatClampNeg))) (7 * o - 14 + 1) ((fs_u σ (7 * o - 14 + 0) (σ o 0).toNatClampNeg (F_X1_kindByLetter (σ a1 x3.toNatClampNeg))) o 0).toNatClampNeg (((fs_u σ (7 * o - 14 + 0) (σ o 0).toNatClampNeg (F_X1_kindByLetter (σ a1 x3.toNatClampNeg))) a1 (x3 + (1 : Int32)).toNatClampNeg) - (48 : Int32))) a1 (x3 + (2 : Int32)).toNatClampNeg) - (48 : Int32))) (7 * o - 14 + 3) ((fs_u (fs_u (fs_u σ (7 * o - 14 + 0) (σ o 0).toNatClampNeg (F_X1_kindByLetter (σ a1 x3.toNatClampNeg))) (7 * o - 14 + 1) ((fs_u σ (7 * o - 14 + 0) (σ o 0).toNatClampNeg (F_X1_kindByLetter (σ a1 x3.toNatClampNeg))) o 0).toNatClampNeg (((fs_u σ (7 * o - 14 + 0) (σ o 0).toNatClampNeg (F_X1_kindByLetter (σ a1 x3.toNatClampNeg))) a1 (x3 + (1 : Int32)).toNatClampNeg) - (48 : Int32))) (7 * o - 14 + 2) ((fs_u (fs_u σ (7 * o - 14 + 0) (σ o 0).toNatClampNeg (F_X1_kindByLetter (σ a1 x3.toNatClampNeg))) (7 * o - 14 + 1) ((fs_u σ (7 * o - 14 + 0) (σ o 0).toNatClampNeg (F_X1_kindByLetter (σ a1 x3.toNatClampNeg))) o 0).toNatClampNeg (((fs_u σ (7 * o - 14 + 0) (σ o 0).toNatClampNeg (F_X1_kindByLetter (σ a1 x3.toNatClampNeg))) a1 (x3 + (1 : Int32)).toNatClampNeg) - (48 : Int32))) o 0).toNatClampNeg (((fs_u (fs_u σ (7 * o - 14 + 0) (σ o 0).toNatClampNeg (F_X1_kindByLetter (σ a1 x3.toNatClampNeg))) (7 * o - 14 + 1) ((fs_u σ (7 * o - 14 + 0) (σ o 0).toNatClampNeg (F_X1_kindByLetter (σ a1 x3.toNatClampNeg))) o 0).toNatClampNeg (((fs_u σ (7 * o - 14 + 0) (σ o 0).toNatClampNeg (F_X1_kindByLetter (σ a1 x3.toNatClampNeg))) a1 (x3 + (1 : Int32)).toNatClampNeg) - (48 : Int32))) a1 (x3 + (2 : Int32)).toNatClampNeg) - (48 : Int32))) o 0).toNatClampNeg ((((10 : Int32) * (((fs_u (fs_u (fs_u σ (7 * o - 14 + 0) (σ o 0).toNatClampNeg (F_X1_kindByLetter (σ a1 x3.toNatClampNeg))) (7 * o - 14 + 1) ((fs_u σ (7 * o - 14 + 0) (σ o 0).toNatClampNeg (F_X1_kindByLetter (σ a1 x3.toNatClampNeg))) o 0).toNatClampNeg (((fs_u σ (7 * o - 14 + 0) (σ o 0).toNatClampNeg (F_X1_kindByLetter (σ a1 x3.toNatClampNeg))) a1 (x3 + (1 : Int32)).toNatClampNeg) - (48 : Int32))) (7 * o - 14 + 2) ((fs_u (fs_u σ (7 * o - 14 + 0) (σ o 0).toNatClampNeg (F_X1_kindByLetter (σ a1 x3.toNatClampNeg))) (7 * o - 14 + 1) ((fs_u σ (7 * o - 14 + 0) (σ o 0).toNatClampNeg (F_X1_kindByLetter (σ a1 x3.toNatClampNeg))) o 0).toNatClampNeg (((fs_u σ (7 * o - 14 + 0) (σ o 0).toNatClampNeg (F_X1_kindByLetter (σ a1 x3.toNatClampNeg))) a1 (x3 + (1 : Int32)).toNatClampNeg) - (48 : Int32))) o 0).toNatClampNeg (((fs_u (fs_u σ (7 * o - 14 + 0) (σ o 0).toNatClampNeg (F_X1_kindByLetter (σ a1 x3.toNatClampNeg))) (7 * o - 14 + 1) ((fs_u σ (7 * o - 14 + 0) (σ o 0).toNatClampNeg (F_X1_kindByLetter (σ a1 x3.toNatClampNeg))) o 0).toNatClampNeg (((fs_u σ (7 * o - 14 + 0) (σ o 0).toNatClampNeg (F_X1_kindByLetter (σ a1 x3.toNatClampNeg))) a1 (x3 + (1 : Int32)).toNatClampNeg) - (48 : Int32))) a1 (x3 + (2 : Int32)).toNatClampNeg) - (48 : Int32))) a1 (x3 + (3 : Int32)).toNatClampNeg) - (48 : Int32))) + ((fs_u (fs_u (fs_u σ (7 * o - 14 + 0) (σ o 0).toNatClampNeg (F_X1_kindByLetter (σ a1 x3.toNatClampNeg))) (7 * o - 14 + 1) ((fs_u σ (7 * o - 14 + 0) (σ o 0).toNatClampNeg (F_X1_kindByLetter (σ a1 x3.toNatClampNeg))) o 0).toNatClampNeg (((fs_u σ (7 * o - 14 + 0) (σ o 0).toNatClampNeg (F_X1_kindByLetter (σ a1 x3.toNatClampNeg))) a1 (x3 + (1 : Int32)).toNatClampNeg) - (48 : Int32))) (7 * o - 14 + 2) ((fs_u (fs_u σ (7 * o - 14 + 0) (σ o 0).toNatClampNeg (F_X1_kindByLetter (σ a1 x3.toNatClampNeg))) (7 * o - 14 + 1) ((fs_u σ (7 * o - 14 + 0) (σ o 0).toNatClampNeg (F_X1_kindByLetter (σ a1 x3.toNatClampNeg))) o 0).toNatClampNeg (((fs_u σ (7 * o - 14 + 0) (σ o 0).toNatClampNeg (F_X1_kindByLetter (σ a1 x3.toNatClampNeg))) a1 (x3 + (1 : Int32)).toNatClampNeg) - (48 : Int32))) o 0).toNatClampNeg (((fs_u (fs_u σ (7 * o - 14 + 0) (σ o 0).toNatClampNeg (F_X1_kindByLetter (σ a1 x3.toNatClampNeg))) (7 * o - 14 + 1) ((fs_u σ (7 * o - 14 + 0) (σ o 0).toNatClampNeg (F_X1_kindByLetter (σ a1 x3.toNatClampNeg))) o 0).toNatClampNeg (((fs_u σ (7 * o - 14 + 0) (σ o 0).toNatClampNeg (F_X1_kindByLetter (σ a1 x3.toNatClampNeg))) a1 (x3 + (1 : Int32)).toNatClampNeg) - (48 : Int32))) a1 (x3 + (2 : Int32)).toNatClampNeg) - (48 : Int32))) a1 (x3 + (4 : Int32)).toNatClampNeg)) - (48 : Int32))) (7 * o - 14 + 4) ((fs_u (fs_u (fs_u (fs_u σ (7 * o - 14 + 0) (σ o 0).toNatClampNeg (F_X1_kindByLetter (σ a1 x3.toNatClampNeg))) (7 * o - 14 + 1) ((fs_u σ (7 * o - 14 + 0) (σ o 0).toNatClampNeg (F_X1_kindByLetter (σ a1 x3.toNatClampNeg))) o 0).toNatClampNeg (((fs_u σ (7 * o - 14 + 0) (σ o 0).toNatClampNeg (F_X1_kindByLetter (σ a1 x3.toNatClampNeg))) a1 (x3 + (1 : Int32)).toNatClampNeg) - (48 : Int32))) (7 * o - 14 + 2) ((fs_u (fs_u σ (7 * o - 14 + 0) (σ o 0).toNatClampNeg (F_X1_kindByLetter (σ a1 x3.toNatClampNeg))) (7 * o - 14 + 1) ((fs_u σ (7 * o - 14 + 0) (σ o 0).toNatClampNeg (F_X1_kindByLetter (σ a1 x3.toNatClampNeg))) o 0).toNatClampNeg (((fs_u σ (7 * o - 14 + 0) (σ o 0).toNatClampNeg (F_X1_kindByLetter (σ a1 x3.toNatClampNeg))) a1 (x3 + (1 : Int32)).toNatClampNeg) - (48 : Int32))) o 0).toNatClampNeg (((fs_u (fs_u σ (7 * o - 14 + 0) (σ o 0).toNatClampNeg (F_X1_kindByLetter (σ a1 x3.toNatClampNeg))) (7 * o - 14 + 1) ((fs_u σ (7 * o - 14 + 0) (σ o 0).toNatClampNeg (F_X1_kindByLetter (σ a1 x3.toNatClampNeg))) o 0).toNatClampNeg (((fs_u σ (7 * o - 14 + 0) (σ o 0).toNatClampNeg (F_X1_kindByLetter (σ a1 x3.toNatClampNeg))) a1 (x3 + (1 : Int32)).toNatClampNeg) - (48 : Int32))) a1 (x3 + (2 : Int32)).toNatClampNeg) - (48 : Int32))) (7 * o - 14 + 3) ((fs_u (fs_u (fs_u σ (7 * o - 14 + 0) (σ o 0).toNatClampNeg (F_X1_kindByLetter (σ a1 x3.toNatClampNeg))) (7 * o - 14 + 1) ((fs_u σ (7 * o - 14 + 0) (σ o 0).toNatClampNeg (F_X1_kindByLetter (σ a1 x3.toNatClampNeg))) o 0).toNatClampNeg (((fs_u σ (7 * o - 14 + 0) (σ o 0).toNatClampNeg (F_X1_kindByLetter (σ a1 x3.toNatClampNeg))) a1 (x3 + (1 : Int32)).toNatClampNeg) - (48 : Int32))) (7 * o - 14 + 2) ((fs_u (fs_u σ (7 * o - 14 + 0) (σ o 0).toNatClampNeg (F_X1_kindByLetter (σ a1 x3.toNatClampNeg))) (7 * o - 14 + 1) ((fs_u σ (7 * o - 14 + 0) (σ o 0).toNatClampNeg (F_X1_kindByLetter (σ a1 x3.toNatClampNeg))) o 0).toNatClampNeg (((fs_u σ (7 * o - 14 + 0) (σ o 0).toNatClampNeg (F_X1_kindByLetter (σ a1 x3.toNatClampNeg))) a1 (x3 + (1 : Int32)).toNatClampNeg) - (48 : Int32))) o 0).toNatClampNeg (((fs_u (fs_u σ (7 * o - 14 + 0) (σ o 0).toNatClampNeg (F_X1_kindByLetter (σ a1 x3.toNatClampNeg))) (7 * o - 14 + 1) ((fs_u σ (7 * o - 14 + 0) (σ o 0).toNatClampNeg (F_X1_kindByLetter (σ a1 x3.toNatClampNeg))) o 0).toNatClampNeg (((fs_u σ (7 * o - 14 + 0) (σ o 0).toNatClampNeg (F_X1_kindByLetter (σ a1 x3.toNatClampNeg))) a1 (x3 + (1 : Int32)).toNatClampNeg) - (48 : Int32))) a1 (x3 + (2 : Int32)).toNatClampNeg) - (48 : Int32))) o 0).toNatClampNeg ((((10 : Int32) * (((fs_u (fs_u (fs_u σ (7 * o - 14 + 0) (σ o 0).toNatClampNeg (F_X1_kindByLetter (σ a1 x3.toNatClampNeg))) (7 * o - 14 + 1) ((fs_u σ (7 * o - 14 + 0) (σ o 0).toNatClampNeg (F_X1_kindByLetter (σ a1 x3.toNatClampNeg))) o 0).toNatClampNeg (((fs_u σ (7 * o - 14 + 0) (σ o 0).toNatClampNeg (F_X1_kindByLetter (σ a1 x3.toNatClampNeg))) a1 (x3 + (1 : Int32)).toNatClampNeg) - (48 : Int32))) (7 * o - 14 + 2) ((fs_u (fs_u σ (7 * o - 14 + 0) (σ o 0).toNatClampNeg (F_X1_kindByLetter (σ a1 x3.toNatClampNeg))) (7 * o - 14 + 1) ((fs_u σ (7 * o - 14 + 0) (σ o 0).toNatClampNeg (F_X1_kindByLetter (σ a1 x3.toNatClampNeg))) o 0).toNatClampNeg (((fs_u σ (7 * o - 14 + 0) (σ o 0).toNatClampNeg (F_X1_kindByLetter (σ a1 x3.toNatClampNeg))) a1 (x3 + (1 : Int32)).toNatClampNeg) - (48 : Int32))) o 0).toNatClampNeg (((fs_u (fs_u σ (7 * o - 14 + 0) (σ o 0).toNatClampNeg (F_X1_kindByLetter (σ a1 x3.toNatClampNeg))) (7 * o - 14 + 1) ((fs_u σ (7 * o - 14 + 0) (σ o 0).toNatClampNeg (F_X1_kindByLetter (σ a1 x3.toNatClampNeg))) o 0).toNatClampNeg (((fs_u σ (7 * o - 14 + 0) (σ o 0).toNatClampNeg (F_X1_kindByLetter (σ a1 x3.toNatClampNeg))) a1 (x3 + (1 : Int32)).toNatClampNeg) - (48 : Int32))) a1 (x3 + (2 : Int32)).toNatClampNeg) - (48 : Int32))) a1 (x3 + (3 : Int32)).toNatClampNeg) - (48 : Int32))) + ((fs_u (fs_u (fs_u σ (7 * o - 14 + 0) (σ o 0).toNatClampNeg (F_X1_kindByLetter (σ a1 x3.toNatClampNeg))) (7 * o - 14 + 1) ((fs_u σ (7 * o - 14 + 0) (σ o 0).toNatClampNeg (F_X1_kindByLetter (σ a1 x3.toNatClampNeg))) o 0).toNatClampNeg (((fs_u σ (7 * o - 14 + 0) (σ o 0).toNatClampNeg (F_X1_kindByLetter (σ a1 x3.toNatClampNeg))) a1 (x3 + (1 : Int32)).toNatClampNeg) - (48 : Int32))) (7 * o - 14 + 2) ((fs_u (fs_u σ (7 * o - 14 + 0) (σ o 0).toNatClampNeg (F_X1_kindByLetter (σ a1 x3.toNatClampNeg))) (7 * o - 14 + 1) ((fs_u σ (7 * o - 14 + 0) (σ o 0).toNatClampNeg (F_X1_kindByLetter (σ a1 x3.toNatClampNeg))) o 0).toNatClampNeg (((fs_u σ (7 * o - 14 + 0) (σ o 0).toNatClampNeg (F_X1_kindByLetter (σ a1 x3.toNatClampNeg))) a1 (x3 + (1 : Int32)).toNatClampNeg) - (48 : Int32))) o 0).toNatClampNeg (((fs_u (fs_u σ (7 * o - 14 + 0) (σ o 0).toNatClampNeg (F_X1_kindByLetter (σ a1 x3.toNatClampNeg))) (7 * o - 14 + 1) ((fs_u σ (7 * o - 14 + 0) (σ o 0).toNatClampNeg (F_X1_kindByLetter (σ a1 x3.toNatClampNeg))) o 0).toNatClampNeg (((fs_u σ (7 * o - 14 + 0) (σ o 0).toNatClampNeg (F_X1_kindByLetter (σ a1 x3.toNatClampNeg))) a1 (x3 + (1 : Int32)).toNatClampNeg) - (48 : Int32))) a1 (x3 + (2 : Int32)).toNatClampNeg) - (48 : Int32))) a1 (x3 + (4 : Int32)).toNatClampNeg)) - (48 : Int32))) o 0).toNatClampNeg (0 : Int32)) o 0 (((fs_u (fs_u (fs_u (fs_u (fs_u σ (7 * o - 14 + 0) (σ o 0).toNatClampNeg (F_X1_kindByLetter (σ a1 x3.toNatClampNeg))) (7 * o - 14 + 1) ((fs_u σ (7 * o - 14 + 0) (σ o 0).toNatClampNeg (F_X1_kindByLetter (σ a1 x3.toNatClampNeg))) o 0).toNatClampNeg (((fs_u σ (7 * o - 14 + 0) (σ o 0).toNatClampNeg (F_X1_kindByLetter (σ a1 x3.toNatClampNeg))) a1 (x3 + (1 : Int32)).toNatClampNeg) - (48 : Int32))) (7 * o - 14 + 2) ((fs_u (fs_u σ (7 * o - 14 + 0) (σ o 0).toNatClampNeg (F_X1_kindByLetter (σ a1 x3.toNatClampNeg))) (7 * o - 14 + 1) ((fs_u σ (7 * o - 14 + 0) (σ o 0).toNatClampNeg (F_X1_kindByLetter (σ a1 x3.toNatClampNeg))) o 0).toNatClampNeg (((fs_u σ (7 * o - 14 + 0) (σ o 0).toNatClampNeg (F_X1_kindByLetter (σ a1 x3.toNatClampNeg))) a1 (x3 + (1 : Int32)).toNatClampNeg) - (48 : Int32))) o 0).toNatClampNeg (((fs_u (fs_u σ (7 * o - 14 + 0) (σ o 0).toNatClampNeg (F_X1_kindByLetter (σ a1 x3.toNatClampNeg))) (7 * o - 14 + 1) ((fs_u σ (7 * o - 14 + 0) (σ o 0).toNatClampNeg (F_X1_kindByLetter (σ a1 x3.toNatClampNeg))) o 0).toNatClampNeg (((fs_u σ (7 * o - 14 + 0) (σ o 0).toNatClampNeg (F_X1_kindByLetter (σ a1 x3.toNatClampNeg))) a1 (x3 + (1 : Int32)).toNatClampNeg) - (48 : Int32))) a1 (x3 + (2 : Int32)).toNatClampNeg) - (48 : Int32))) (7 * o - 14 + 3) ((fs_u (fs_u (fs_u σ (7 * o - 14 + 0) (σ o 0).toNatClampNeg (F_X1_kindByLetter (σ a1 x3.toNatClampNeg))) (7 * o - 14 + 1) ((fs_u σ (7 * o - 14 + 0) (σ o 0).toNatClampNeg (F_X1_kindByLetter (σ a1 x3.toNatClampNeg))) o 0).toNatClampNeg (((fs_u σ (7 * o - 14 + 0) (σ o 0).toNatClampNeg (F_X1_kindByLetter (σ a1 x3.toNatClampNeg))) a1 (x3 + (1 : Int32)).toNatClampNeg) - (48 : Int32))) (7 * o - 14 + 2) ((fs_u (fs_u σ (7 * o - 14 + 0) (σ o 0).toNatClampNeg (F_X1_kindByLetter (σ a1 x3.toNatClampNeg))) (7 * o - 14 + 1) ((fs_u σ (7 * o - 14 + 0) (σ o 0).toNatClampNeg (F_X1_kindByLetter (σ a1 x3.toNatClampNeg))) o 0).toNatClampNeg (((fs_u σ (7 * o - 14 + 0) (σ o 0).toNatClampNeg (F_X1_kindByLetter (σ a1 x3.toNatClampNeg))) a1 (x3 + (1 : Int32)).toNatClampNeg) - (48 : Int32))) o 0).toNatClampNeg (((fs_u (fs_u σ (7 * o - 14 + 0) (σ o 0).toNatClampNeg (F_X1_kindByLetter (σ a1 x3.toNatClampNeg))) (7 * o - 14 + 1) ((fs_u σ (7 * o - 14 + 0) (σ o 0).toNatClampNeg (F_X1_kindByLetter (σ a1 x3.toNatClampNeg))) o 0).toNatClampNeg (((fs_u σ (7 * o - 14 + 0) (σ o 0).toNatClampNeg (F_X1_kindByLetter (σ a1 x3.toNatClampNeg))) a1 (x3 + (1 : Int32)).toNatClampNeg) - (48 : Int32))) a1 (x3 + (2 : Int32)).toNatClampNeg) - (48 : Int32))) o 0).toNatClampNeg ((((10 : Int32) * (((fs_u (fs_u (fs_u σ (7 * o - 14 + 0) (σ o 0).toNatClampNeg (F_X1_kindByLetter (σ a1 x3.toNatClampNeg))) (7 * o - 14 + 1) ((fs_u σ (7 * o - 14 + 0) (σ o 0).toNatClampNeg (F_X1_kindByLetter (σ a1 x3.toNatClampNeg))) o 0).toNatClampNeg (((fs_u σ (7 * o - 14 + 0) (σ o 0).toNatClampNeg (F_X1_kindByLetter (σ a1 x3.toNatClampNeg))) a1 (x3 + (1 : Int32)).toNatClampNeg) - (48 : Int32))) (7 * o - 14 + 2) ((fs_u (fs_u σ (7 * o - 14 + 0) (σ o 0).toNatClampNeg (F_X1_kindByLetter (σ a1 x3.toNatClampNeg))) (7 * o - 14 + 1) ((fs_u σ (7 * o - 14 + 0) (σ o 0).toNatClampNeg (F_X1_kindByLetter (σ a1 x3.toNatClampNeg))) o 0).toNatClampNeg (((fs_u σ (7 * o - 14 + 0) (σ o 0).toNatClampNeg (F_X1_kindByLetter (σ a1 x3.toNatClampNeg))) a1 (x3 + (1 : Int32)).toNatClampNeg) - (48 : Int32))) o 0).toNatClampNeg (((fs_u (fs_u σ (7 * o - 14 + 0) (σ o 0).toNatClampNeg (F_X1_kindByLetter (σ a1 x3.toNatClampNeg))) (7 * o - 14 + 1) ((fs_u σ (7 * o - 14 + 0) (σ o 0).toNatClampNeg (F_X1_kindByLetter (σ a1 x3.toNatClampNeg))) o 0).toNatClampNeg (((fs_u σ (7 * o - 14 + 0) (σ o 0).toNatClampNeg (F_X1_kindByLetter (σ a1 x3.toNatClampNeg))) a1 (x3 + (1 : Int32)).toNatClampNeg) - (48 : Int32))) a1 (x3 + (2 : Int32)).toNatClampNeg) - (48 : Int32))) a1 (x3 + (3 : Int32)).toNatClampNeg) - (48 : Int32))) + ((fs_u (fs_u (fs_u σ (7 * o - 14 + 0) (σ o 0).toNatClampNeg (F_X1_kindByLetter (σ a1 x3.toNatClampNeg))) (7 * o - 14 + 1) ((fs_u σ (7 * o - 14 + 0) (σ o 0).toNatClampNeg (F_X1_kindByLetter (σ a1 x3.toNatClampNeg))) o 0).toNatClampNeg (((fs_u σ (7 * o - 14 + 0) (σ o 0).toNatClampNeg (F_X1_kindByLetter (σ a1 x3.toNatClampNeg))) a1 (x3 + (1 : Int32)).toNatClampNeg) - (48 : Int32))) (7 * o - 14 + 2) ((fs_u (fs_u σ (7 * o - 14 + 0) (σ o 0).toNatClampNeg (F_X1_kindByLetter (σ a1 x3.toNatClampNeg))) (7 * o - 14 + 1) ((fs_u σ (7 * o - 14 + 0) (σ o 0).toNatClampNeg (F_X1_kindByLetter (σ a1 x3.toNatClampNeg))) o 0).toNatClampNeg (((fs_u σ (7 * o - 14 + 0) (σ o 0).toNatClampNeg (F_X1_kindByLetter (σ a1 x3.toNatClampNeg))) a1 (x3 + (1 : Int32)).toNatClampNeg) - (48 : Int32))) o 0).toNatClampNeg (((fs_u (fs_u σ (7 * o - 14 + 0) (σ o 0).toNatClampNeg (F_X1_kindByLetter (σ a1 x3.toNatClampNeg))) (7 * o - 14 + 1) ((fs_u σ (7 * o - 14 + 0) (σ o 0).toNatClampNeg (F_X1_kindByLetter (σ a1 x3.toNatClampNeg))) o 0).toNatClampNeg (((fs_u σ (7 * o - 14 + 0) (σ o 0).toNatClampNeg (F_X1_kindByLetter (σ a1 x3.toNatClampNeg))) a1 (x3 + (1 : Int32)).toNatClampNeg) - (48 : Int32))) a1 (x3 + (2 : Int32)).toNatClampNeg) - (48 : Int32))) a1 (x3 + (4 : Int32)).toNatClampNeg)) - (48 : Int32))) (7 * o - 14 + 4) ((fs_u (fs_u (fs_u (fs_u σ (7 * o - 14 + 0) (σ o 0).toNatClampNeg (F_X1_kindByLetter (σ a1 x3.toNatClampNeg))) (7 * o - 14 + 1) ((fs_u σ (7 * o - 14 + 0) (σ o 0).toNatClampNeg (F_X1_kindByLetter (σ a1 x3.toNatClampNeg))) o 0).toNatClampNeg (((fs_u σ (7 * o - 14 + 0) (σ o 0).toNatClampNeg (F_X1_kindByLetter (σ a1 x3.toNatClampNeg))) a1 (x3 + (1 : Int32)).toNatClampNeg) - (48 : Int32))) (7 * o - 14 + 2) ((fs_u (fs_u σ (7 * o - 14 + 0) (σ o 0).toNatClampNeg (F_X1_kindByLetter (σ a1 x3.toNatClampNeg))) (7 * o - 14 + 1) ((fs_u σ (7 * o - 14 + 0) (σ o 0).toNatClampNeg (F_X1_kindByLetter (σ a1 x3.toNatClampNeg))) o 0).toNatClampNeg (((fs_u σ (7 * o - 14 + 0) (σ o 0).toNatClampNeg (F_X1_kindByLetter (σ a1 x3.toNatClampNeg))) a1 (x3 + (1 : Int32)).toNatClampNeg) - (48 : Int32))) o 0).toNatClampNeg (((fs_u (fs_u σ (7 * o - 14 + 0) (σ o 0).toNatClampNeg (F_X1_kindByLetter (σ a1 x3.toNatClampNeg))) (7 * o - 14 + 1) ((fs_u σ (7 * o - 14 + 0) (σ o 0).toNatClampNeg (F_X1_kindByLetter (σ a1 x3.toNatClampNeg))) o 0).toNatClampNeg (((fs_u σ (7 * o - 14 + 0) (σ o 0).toNatClampNeg (F_X1_kindByLetter (σ a1 x3.toNatClampNeg))) a1 (x3 + (1 : Int32)).toNatClampNeg) - (48 : Int32))) a1 (x3 + (2 : Int32)).toNatClampNeg) - (48 : Int32))) (7 * o - 14 + 3) ((fs_u (fs_u (fs_u σ (7 * o - 14 + 0) (σ o 0).toNatClampNeg (F_X1_kindByLetter (σ a1 x3.toNatClampNeg))) (7 * o - 14 + 1) ((fs_u σ (7 * o - 14 + 0) (σ o 0).toNatClampNeg (F_X1_kindByLetter (σ a1 x3.toNatClampNeg))) o 0).toNatClampNeg (((fs_u σ (7 * o - 14 + 0) (σ o 0).toNatClampNeg (F_X1_kindByLetter (σ a1 x3.toNatClampNeg))) a1 (x3 + (1 : Int32)).toNatClampNeg) - (48 : Int32))) (7 * o - 14 + 2) ((fs_u (fs_u σ (7 * o - 14 + 0) (σ o 0).toNatClampNeg (F_X1_kindByLetter (σ a1 x3.toNatClampNeg))) (7 * o - 14 + 1) ((fs_u σ (7 * o - 14 + 0) (σ o 0).toNatClampNeg (F_X1_kindByLetter (σ a1 x3.toNatClampNeg))) o 0).toNatClampNeg (((fs_u σ (7 * o - 14 + 0) (σ o 0).toNatClampNeg (F_X1_kindByLetter (σ a1 x3.toNatClampNeg))) a1 (x3 + (1 : Int32)).toNatClampNeg) - (48 : Int32))) o 0).toNatClampNeg (((fs_u (fs_u σ (7 * o - 14 + 0) (σ o 0).toNatClampNeg (F_X1_kindByLetter (σ a1 x3.toNatClampNeg))) (7 * o - 14 + 1) ((fs_u σ (7 * o - 14 + 0) (σ o 0).toNatClampNeg (F_X1_kindByLetter (σ a1 x3.toNatClampNeg))) o 0).toNatClampNeg (((fs_u σ (7 * o - 14 + 0) (σ o 0).toNatClampNeg (F_X1_kindByLetter (σ a1 x3.toNatClampNeg))) a1 (x3 + (1 : Int32)).toNatClampNeg) - (48 : Int32))) a1 (x3 + (2 : Int32)).toNatClampNeg) - (48 : Int32))) o 0).toNatClampNeg ((((10 : Int32) * (((fs_u (fs_u (fs_u σ (7 * o - 14 + 0) (σ o 0).toNatClampNeg (F_X1_kindByLetter (σ a1 x3.toNatClampNeg))) (7 * o - 14 + 1) ((fs_u σ (7 * o - 14 + 0) (σ o 0).toNatClampNeg (F_X1_kindByLetter (σ a1 x3.toNatClampNeg))) o 0).toNatClampNeg (((fs_u σ (7 * o - 14 + 0) (σ o 0).toNatClampNeg (F_X1_kindByLetter (σ a1 x3.toNatClampNeg))) a1 (x3 + (1 : Int32)).toNatClampNeg) - (48 : Int32))) (7 * o - 14 + 2) ((fs_u (fs_u σ (7 * o - 14 + 0) (σ o 0).toNatClampNeg (F_X1_kindByLetter (σ a1 x3.toNatClampNeg))) (7 * o - 14 + 1) ((fs_u σ (7 * o - 14 + 0) (σ o 0).toNatClampNeg (F_X1_kindByLetter (σ a1 x3.toNatClampNeg))) o 0).toNatClampNeg (((fs_u σ (7 * o - 14 + 0) (σ o 0).toNatClampNeg (F_X1_kindByLetter (σ a1 x3.toNatClampNeg))) a1 (x3 + (1 : Int32)).toNatClampNeg) - (48 : Int32))) o 0).toNatClampNeg (((fs_u (fs_u σ (7 * o - 14 + 0) (σ o 0).toNatClampNeg (F_X1_kindByLetter (σ a1 x3.toNatClampNeg))) (7 * o - 14 + 1) ((fs_u σ (7 * o - 14 + 0) (σ o 0).toNatClampNeg (F_X1_kindByLetter (σ a1 x3.toNatClampNeg))) o 0).toNatClampNeg (((fs_u σ (7 * o - 14 + 0) (σ o 0).toNatClampNeg (F_X1_kindByLetter (σ a1 x3.toNatClampNeg))) a1 (x3 + (1 : Int32)).toNatClampNeg) - (48 : Int32))) a1 (x3 + (2 : Int32)).toNatClampNeg) - (48 : Int32))) a1 (x3 + (3 : Int32)).toNatClampNeg) - (48 : Int32))) + ((fs_u (fs_u (fs_u σ (7 * o - 14 + 0) (σ o 0).toNatClampNeg (F_X1_kindByLetter (σ a1 x3.toNatClampNeg))) (7 * o - 14 + 1) ((fs_u σ (7 * o - 14 + 0) (σ o 0).toNatClampNeg (F_X1_kindByLetter (σ a1 x3.toNatClampNeg))) o 0).toNatClampNeg (((fs_u σ (7 * o - 14 + 0) (σ o 0).toNatClampNeg (F_X1_kindByLetter (σ a1 x3.toNatClampNeg))) a1 (x3 + (1 : Int32)).toNatClampNeg) - (48 : Int32))) (7 * o - 14 + 2) ((fs_u (fs_u σ (7 * o - 14 + 0) (σ o 0).toNatClampNeg (F_X1_kindByLetter (σ a1 x3.toNatClampNeg))) (7 * o - 14 + 1) ((fs_u σ (7 * o - 14 + 0) (σ o 0).toNatClampNeg (F_X1_kindByLetter (σ a1 x3.toNatClampNeg))) o 0).toNatClampNeg (((fs_u σ (7 * o - 14 + 0) (σ o 0).toNatClampNeg (F_X1_kindByLetter (σ a1 x3.toNatClampNeg))) a1 (x3 + (1 : Int32)).toNatClampNeg) - (48 : Int32))) o 0).toNatClampNeg (((fs_u (fs_u σ (7 * o - 14 + 0) (σ o 0).toNatClampNeg (F_X1_kindByLetter (σ a1 x3.toNatClampNeg))) (7 * o - 14 + 1) ((fs_u σ (7 * o - 14 + 0) (σ o 0).toNatClampNeg (F_X1_kindByLetter (σ a1 x3.toNatClampNeg))) o 0).toNatClampNeg (((fs_u σ (7 * o - 14 + 0) (σ o 0).toNatClampNeg (F_X1_kindByLetter (σ a1 x3.toNatClampNeg))) a1 (x3 + (1 : Int32)).toNatClampNeg) - (48 : Int32))) a1 (x3 + (2 : Int32)).toNatClampNeg) - (48 : Int32))) a1 (x3 + (4 : Int32)).toNatClampNeg)) - (48 : Int32))) o 0).toNatClampNeg (0 : Int32)) o 0) + (1 : Int32)))))))))))))))
set_option maxRecDepth 20000 in
set_option maxHeartbeats 4000000 in
theorem l_X1_readItem_21 {o : Nat} {a1 : Nat} (ho : fs_K o) {X : fsC} (hX : fs_ok cX1_readItem RX1 6 { frames := 1, cells := 0, slots := 0, locals := 20 } X) : ∀ (n : Nat) (y2 : Int32) (y3 : Int32) (y4 : Int32) (y5 : Int32) (σ : fsS) (μ : fsL) (out : Nat × Int32) (_ : L_X1_readItem_21 o a1 n y2 y3 y4 y5 σ = some out) (k0 : out.1 = 0 → fs_PW X 35 [none, none, some (.int y2), none, none, none] [] σ μ) (k1 : out.1 = 1 → fs_PW X 55 [none, none, none, none, none, some (.int out.2)] [] σ μ) (k2 : out.1 = 2 → fs_PW X 64 [some (.ref o), some (.ref a1), none, some (.int y3), some (.int y4), none] [] σ μ), fs_PW X 21 [some (.ref o), some (.ref a1), some (.int y2), some (.int y3), some (.int y4), some (.int y5)] [] σ μ := by
  intro n
  induction n with
  | zero =>
    intro y2 y3 y4 y5 σ μ out h
    cases (show (none : Option (Nat × Int32)) = some out from h)
  | succ n0 ih =>
    intro y2 y3 y4 y5 σ μ out h k0 k1 k2
    unfold L_X1_readItem_21 at h
    refine s_iload hX dX1_readItem_21 rfl ?_
    refine s_iload_n hX dX1_readItem_23 rfl ?_
    refine s_ic hX (5 : Int32) dX1_readItem_24 (by decide) ?_
    refine s_iadd hX dX1_readItem_25 ?_
    refine s_ic_ge hX 64 dX1_readItem_26 (by decide) (fun c3 => ?_) (fun c3 => ?_)
    · have h := (if_pos c3).symm.trans h
      cases h
      refine fs_ma [true, true, false, true, true, false] ?_
      exact k2 rfl
    · have h := (if_neg c3).symm.trans h
      refine s_iload hX dX1_readItem_29 rfl ?_
      refine s_iload_n hX dX1_readItem_31 rfl ?_
      refine s_ic_lt hX 37 dX1_readItem_32 (by decide) (fun c4 => ?_) (fun c4 => ?_)
      · have h := (if_pos c4).symm.trans h
        refine s_aload_n hX dX1_readItem_37 rfl ?_
        refine s_iload hX dX1_readItem_38 rfl ?_
        obtain ⟨g5, h⟩ := fs_gd h
        refine s_iald hX dX1_readItem_40 g5 ?_
        refine s_bi hX (48 : Int32) dX1_readItem_41 (by decide) ?_
        refine s_ic_lt hX 55 dX1_readItem_43 (by decide) (fun c6 => ?_) (fun c6 => ?_)
        · have h := (if_pos c6).symm.trans h
          cases h
          refine fs_ma [false, false, false, false, false, true] ?_
          exact k1 rfl
        · have h := (if_neg c6).symm.trans h
          refine s_aload_n hX dX1_readItem_46 rfl ?_
          refine s_iload hX dX1_readItem_47 rfl ?_
          obtain ⟨g7, h⟩ := fs_gd h
          refine s_iald hX dX1_readItem_49 g7 ?_
          refine s_bi hX (57 : Int32) dX1_readItem_50 (by decide) ?_
          refine s_ic_le hX 58 dX1_readItem_52 (by decide) (fun c8 => ?_) (fun c8 => ?_)
          · have h := (if_pos c8).symm.trans h
            refine s_iinc hX (y5 + (1 : Int32)) dX1_readItem_58 rfl rfl (Nat.le_of_ble_eq_true rfl) ?_
            refine s_goto hX 21 dX1_readItem_61 (by decide) ?_
            refine fs_ma [true, true, true, true, true, true] ?_
            exact ih y2 y3 y4 (y5 + (1 : Int32)) σ μ out h k0 k1 k2
          · have h := (if_neg c8).symm.trans h
            cases h
            refine fs_ma [false, false, false, false, false, true] ?_
            exact k1 rfl
      · have h := (if_neg c4).symm.trans h
        cases h
        refine fs_ma [false, false, true, false, false, false] ?_
        exact k0 rfl
set_option maxRecDepth 20000 in
set_option maxHeartbeats 4000000 in
theorem m_X1_readItem (o : Nat) (a1 : Nat) (x2 : Int32) (x3 : Int32) (ho : fs_K o) (σ : fsS) (μ : fsL) (out : Int32 × fsS) (h : F_X1_readItem o a1 x2 x3 σ = some out) : fs_Met yX1_readItem cX1_readItem 6 (some .int) { frames := 1, cells := 0, slots := 0, locals := 20 } [.ref o, .ref a1, .int x2, .int x3] σ μ (some (.int out.1)) out.2 μ := by
  unfold F_X1_readItem at h
  refine fs_intro (by decide +kernel) (Nat.le_of_ble_eq_true rfl) (fun X hX hR => ?_)
  show fs_PW X 0 [some (.ref o), some (.ref a1), some (.int x2), some (.int x3), none, none] [] σ μ
  refine s_aload_n hX dX1_readItem_0 rfl ?_
  refine s_iload_n hX dX1_readItem_1 rfl ?_
  obtain ⟨g1, h⟩ := fs_gd h
  refine s_iald hX dX1_readItem_2 g1 ?_
  refine s_callS hX (as := [.int (σ a1 x3.toNatClampNeg)]) dX1_readItem_3 k_X1_53 v_X1_kindByLetter (m_X1_kindByLetter (σ a1 x3.toNatClampNeg) σ μ _ rfl) ⟨rfl, rfl⟩ ⟨(Nat.le_of_ble_eq_true rfl), (Nat.le_of_ble_eq_true rfl)⟩ rfl rfl (Nat.le_of_ble_eq_true rfl) ?_
  refine s_istore hX dX1_readItem_6 (Nat.le_of_ble_eq_true rfl) ?_
  refine s_iload hX dX1_readItem_8 rfl ?_
  refine s_ic hX (-1 : Int32) dX1_readItem_10 (by decide) ?_
  refine s_ic_ne hX 16 dX1_readItem_11 (by decide) (fun c2 => ?_) (fun c2 => ?_)
  · have h := (if_neg c2).symm.trans h
    refine s_iload_n hX dX1_readItem_16 rfl ?_
    refine s_ic hX (1 : Int32) dX1_readItem_17 (by decide) ?_
    refine s_iadd hX dX1_readItem_18 ?_
    refine s_istore hX dX1_readItem_19 (Nat.le_of_ble_eq_true rfl) ?_
    obtain ⟨q9, e9, h⟩ := fs_bind h
    refine fs_ma [true, true, true, true, true, true] ?_
    refine l_X1_readItem_21 ho hX fs_fu x2 x3 (F_X1_kindByLetter (σ a1 x3.toNatClampNeg)) (x3 + (1 : Int32)) σ μ q9 e9 (fun c10 => ?_) (fun c10 => ?_) (fun c10 => ?_)
    · have h := (if_pos c10).symm.trans h
      refine s_iload_n hX dX1_readItem_35 rfl ?_
      cases h
      exact s_iret hX hR dX1_readItem_36
    · have h := (if_neg (show ¬ q9.1 = 0 by rw [c10]; decide)).symm.trans h
      have h := (if_pos c10).symm.trans h
      refine s_iload hX dX1_readItem_55 rfl ?_
      cases h
      exact s_iret hX hR dX1_readItem_57
    · have h := (if_neg (show ¬ q9.1 = 0 by rw [c10]; decide)).symm.trans h
      have h := (if_neg (show ¬ q9.1 = 1 by rw [c10]; decide)).symm.trans h
      refine s_aload_n hX dX1_readItem_64 rfl ?_
      refine s_getr hX dX1_readItem_65 f_X1_15 (fs_kd1 ho) ?_
      refine s_aload_n hX dX1_readItem_68 rfl ?_
      refine s_geti hX dX1_readItem_69 f_X1_9 (fs_kd0 ho) ?_
      refine s_iload hX dX1_readItem_72 rfl ?_
      obtain ⟨g11, h⟩ := fs_gd h
      refine s_iast hX dX1_readItem_74 (fs_ik0 ho g11) ?_
      refine s_aload_n hX dX1_readItem_75 rfl ?_
      refine s_getr hX dX1_readItem_76 f_X1_19 (fs_kd2 ho) ?_
      refine s_aload_n hX dX1_readItem_79 rfl ?_
      refine s_geti hX dX1_readItem_80 f_X1_9 (fs_kd0 ho) ?_
      refine s_aload_n hX dX1_readItem_83 rfl ?_
      refine s_iload_n hX dX1_readItem_84 rfl ?_
      refine s_ic hX (1 : Int32) dX1_readItem_85 (by decide) ?_
      refine s_iadd hX dX1_readItem_86 ?_
      obtain ⟨g12, h⟩ := fs_gd h
      refine s_iald hX dX1_readItem_87 g12 ?_
      refine s_bi hX (48 : Int32) dX1_readItem_88 (by decide) ?_
      refine s_isub hX dX1_readItem_90 ?_
      obtain ⟨g13, h⟩ := fs_gd h
      refine s_iast hX dX1_readItem_91 (fs_ik1 ho g13) ?_
      refine s_aload_n hX dX1_readItem_92 rfl ?_
      refine s_getr hX dX1_readItem_93 f_X1_22 (fs_kd3 ho) ?_
      refine s_aload_n hX dX1_readItem_96 rfl ?_
      refine s_geti hX dX1_readItem_97 f_X1_9 (fs_kd0 ho) ?_
      refine s_aload_n hX dX1_readItem_100 rfl ?_
      refine s_iload_n hX dX1_readItem_101 rfl ?_
      refine s_ic hX (2 : Int32) dX1_readItem_102 (by decide) ?_
      refine s_iadd hX dX1_readItem_103 ?_
      obtain ⟨g14, h⟩ := fs_gd h
      refine s_iald hX dX1_readItem_104 g14 ?_
      refine s_bi hX (48 : Int32) dX1_readItem_105 (by decide) ?_
      refine s_isub hX dX1_readItem_107 ?_
      obtain ⟨g15, h⟩ := fs_gd h
      refine s_iast hX dX1_readItem_108 (fs_ik2 ho g15) ?_
      refine s_aload_n hX dX1_readItem_109 rfl ?_
      refine s_getr hX dX1_readItem_110 f_X1_25 (fs_kd4 ho) ?_
      refine s_aload_n hX dX1_readItem_113 rfl ?_
      refine s_geti hX dX1_readItem_114 f_X1_9 (fs_kd0 ho) ?_
      refine s_bi hX (10 : Int32) dX1_readItem_117 (by decide) ?_
      refine s_aload_n hX dX1_readItem_119 rfl ?_
      refine s_iload_n hX dX1_readItem_120 rfl ?_
      refine s_ic hX (3 : Int32) dX1_readItem_121 (by decide) ?_
      refine s_iadd hX dX1_readItem_122 ?_
      obtain ⟨g16, h⟩ := fs_gd h
      refine s_iald hX dX1_readItem_123 g16 ?_
      refine s_bi hX (48 : Int32) dX1_readItem_124 (by decide) ?_
      refine s_isub hX dX1_readItem_126 ?_
      refine s_imul hX dX1_readItem_127 ?_
      refine s_aload_n hX dX1_readItem_128 rfl ?_
      refine s_iload_n hX dX1_readItem_129 rfl ?_
      refine s_ic hX (4 : Int32) dX1_readItem_130 (by decide) ?_
      refine s_iadd hX dX1_readItem_131 ?_
      obtain ⟨g17, h⟩ := fs_gd h
      refine s_iald hX dX1_readItem_132 g17 ?_
      refine s_iadd hX dX1_readItem_133 ?_
      refine s_bi hX (48 : Int32) dX1_readItem_134 (by decide) ?_
      refine s_isub hX dX1_readItem_136 ?_
      obtain ⟨g18, h⟩ := fs_gd h
      refine s_iast hX dX1_readItem_137 (fs_ik3 ho g18) ?_
      refine s_aload_n hX dX1_readItem_138 rfl ?_
      refine s_getr hX dX1_readItem_139 f_X1_28 (fs_kd5 ho) ?_
      refine s_aload_n hX dX1_readItem_142 rfl ?_
      refine s_geti hX dX1_readItem_143 f_X1_9 (fs_kd0 ho) ?_
      refine s_ic hX (0 : Int32) dX1_readItem_146 (by decide) ?_
      obtain ⟨g19, h⟩ := fs_gd h
      refine s_iast hX dX1_readItem_147 (fs_ik4 ho g19) ?_
      refine s_aload_n hX dX1_readItem_148 rfl ?_
      refine s_dup hX dX1_readItem_149 rfl ?_
      refine s_geti hX dX1_readItem_150 f_X1_9 (fs_kd0 ho) ?_
      refine s_ic hX (1 : Int32) dX1_readItem_153 (by decide) ?_
      refine s_iadd hX dX1_readItem_154 ?_
      refine s_puti hX dX1_readItem_155 p_X1_9 (fs_kd0 ho) ?_
      refine s_bi hX (-9 : Int32) dX1_readItem_158 (by decide) ?_
      cases h
      exact s_iret hX hR dX1_readItem_160
  · have h := (if_pos c2).symm.trans h
    refine s_iload_n hX dX1_readItem_14 rfl ?_
    cases h
    exact s_iret hX hR dX1_readItem_15
