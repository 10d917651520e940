-- X1_take
def F_X1_take (o : Nat) (o1 : Nat) (σ : fsS) : Option (fsS) := fs_g (fs_cp (7 * o1 - 14 + 0) (7 * o - 14 + 0) (0 : Int32) (0 : Int32) (6 : Int32)) (fs_g (fs_cp (7 * o1 - 14 + 1) (7 * o - 14 + 1) (0 : Int32) (0 : Int32) (6 : Int32)) (fs_g (fs_cp (7 * o1 - 14 + 2) (7 * o - 14 + 2) (0 : Int32) (0 : Int32) (6 : Int32)) (fs_g (fs_cp (7 * o1 - 14 + 3) (7 * o - 14 + 3) (0 : Int32) (0 : Int32) (6 : Int32)) (fs_g (fs_cp (7 * o1 - 14 + 4) (7 * o - 14 + 4) (0 : Int32) (0 : Int32) (6 : Int32)) (some (fs_cy (fs_cy (fs_cy (fs_cy (fs_cy (fs_u σ o 0 (σ o1 0)) (7 * o1 - 14 + 0) (7 * o - 14 + 0) (0 : Int32) (0 : Int32) (6 : Int32)) (7 * o1 - 14 + 1) (7 * o - 14 + 1) (0 : Int32) (0 : Int32) (6 : Int32)) (7 * o1 - 14 + 2) (7 * o - 14 + 2) (0 : Int32) (0 : Int32) (6 : Int32)) (7 * o1 - 14 + 3) (7 * o - 14 + 3) (0 : Int32) (0 : Int32) (6 : Int32)) (7 * o1 - 14 + 4) (7 * o - 14 + 4) (0 : Int32) (0 : Int32) (6 : Int32)))))))
set_option maxRecDepth 20000 in
set_option maxHeartbeats 40000000 in
theorem m_X1_take (o : Nat) (o1 : Nat) (ho : fs_K o) (ho1 : fs_K o1) (σ : fsS) (μ : fsL) (out : fsS) (h : F_X1_take o o1 σ = some out) : fs_Met yX1_take cX1_take 2 none { frames := 1, cells := 0, slots := 0, locals := 26 } [.ref o, .ref o1] σ μ none out μ := by
  unfold F_X1_take at h
  refine fs_intro (by decide +kernel) (Nat.le_of_ble_eq_true rfl) (fun X hX hR => ?_)
  show fs_PW X 0 [some (.ref o), some (.ref o1)] [] σ μ
  refine s_aload_n hX dX1_take_0 rfl ?_
  refine s_aload_n hX dX1_take_1 rfl ?_
  refine s_geti hX dX1_take_2 f_X1_9 (fs_kd0 ho1) ?_
  refine s_puti hX dX1_take_5 p_X1_9 (fs_kd0 ho) ?_
  refine s_aload_n hX dX1_take_8 rfl ?_
  refine s_getr hX dX1_take_9 f_X1_15 (fs_kd1 ho1) ?_
  refine s_ic hX (0 : Int32) dX1_take_12 (by decide) ?_
  refine s_aload_n hX dX1_take_13 rfl ?_
  refine s_getr hX dX1_take_14 f_X1_15 (fs_kd1 ho) ?_
  refine s_ic hX (0 : Int32) dX1_take_17 (by decide) ?_
  refine s_bi hX (6 : Int32) dX1_take_18 (by decide) ?_
  obtain ⟨g1, h⟩ := fs_gd h
  refine s_ac hX dX1_take_20 k_X1_43 g1 rfl (Nat.le_of_ble_eq_true rfl) (Nat.le_of_ble_eq_true rfl) ?_
  refine s_aload_n hX dX1_take_23 rfl ?_
  refine s_getr hX dX1_take_24 f_X1_19 (fs_kd2 ho1) ?_
  refine s_ic hX (0 : Int32) dX1_take_27 (by decide) ?_
  refine s_aload_n hX dX1_take_28 rfl ?_
  refine s_getr hX dX1_take_29 f_X1_19 (fs_kd2 ho) ?_
  refine s_ic hX (0 : Int32) dX1_take_32 (by decide) ?_
  refine s_bi hX (6 : Int32) dX1_take_33 (by decide) ?_
  obtain ⟨g2, h⟩ := fs_gd h
  refine s_ac hX dX1_take_35 k_X1_43 g2 rfl (Nat.le_of_ble_eq_true rfl) (Nat.le_of_ble_eq_true rfl) ?_
  refine s_aload_n hX dX1_take_38 rfl ?_
  refine s_getr hX dX1_take_39 f_X1_22 (fs_kd3 ho1) ?_
  refine s_ic hX (0 : Int32) dX1_take_42 (by decide) ?_
  refine s_aload_n hX dX1_take_43 rfl ?_
  refine s_getr hX dX1_take_44 f_X1_22 (fs_kd3 ho) ?_
  refine s_ic hX (0 : Int32) dX1_take_47 (by decide) ?_
  refine s_bi hX (6 : Int32) dX1_take_48 (by decide) ?_
  obtain ⟨g3, h⟩ := fs_gd h
  refine s_ac hX dX1_take_50 k_X1_43 g3 rfl (Nat.le_of_ble_eq_true rfl) (Nat.le_of_ble_eq_true rfl) ?_
  refine s_aload_n hX dX1_take_53 rfl ?_
  refine s_getr hX dX1_take_54 f_X1_25 (fs_kd4 ho1) ?_
  refine s_ic hX (0 : Int32) dX1_take_57 (by decide) ?_
  refine s_aload_n hX dX1_take_58 rfl ?_
  refine s_getr hX dX1_take_59 f_X1_25 (fs_kd4 ho) ?_
  refine s_ic hX (0 : Int32) dX1_take_62 (by decide) ?_
  refine s_bi hX (6 : Int32) dX1_take_63 (by decide) ?_
  obtain ⟨g4, h⟩ := fs_gd h
  refine s_ac hX dX1_take_65 k_X1_43 g4 rfl (Nat.le_of_ble_eq_true rfl) (Nat.le_of_ble_eq_true rfl) ?_
  refine s_aload_n hX dX1_take_68 rfl ?_
  refine s_getr hX dX1_take_69 f_X1_28 (fs_kd5 ho1) ?_
  refine s_ic hX (0 : Int32) dX1_take_72 (by decide) ?_
  refine s_aload_n hX dX1_take_73 rfl ?_
  refine s_getr hX dX1_take_74 f_X1_28 (fs_kd5 ho) ?_
  refine s_ic hX (0 : Int32) dX1_take_77 (by decide) ?_
  refine s_bi hX (6 : Int32) dX1_take_78 (by decide) ?_
  obtain ⟨g5, h⟩ := fs_gd h
  refine s_ac hX dX1_take_80 k_X1_43 g5 rfl (Nat.le_of_ble_eq_true rfl) (Nat.le_of_ble_eq_true rfl) ?_
  cases h
  exact s_vret hX hR dX1_take_83

-- X1_regardOf
def F_X1_regardOf (x0 : Int32) (x1 : Int32) (x2 : Int32) (x3 : Int32) : Int32 := if x1 ≤ ((2 : Int32) * x2) then if x3 < (20 : Int32) then if (10 : Int32) ≤ x3 then if x0 = (1 : Int32) then (0 : Int32) else if x0 = (2 : Int32) then ((0 : Int32) + (x3 / (10 : Int32))) else if x0 = (3 : Int32) then (0 : Int32) else if x0 = (4 : Int32) then ((2 : Int32) * (0 : Int32)) else if x0 = (5 : Int32) then ((0 : Int32) / (2 : Int32)) else (0 : Int32) else if x0 = (1 : Int32) then (0 : Int32) else if x0 = (2 : Int32) then ((0 : Int32) + (x3 / (10 : Int32))) else if x0 = (3 : Int32) then (0 : Int32) else if x0 = (4 : Int32) then ((2 : Int32) * (0 : Int32)) else if x0 = (5 : Int32) then ((0 : Int32) / (2 : Int32)) else (0 : Int32) else if (10 : Int32) ≤ x3 then if x0 = (1 : Int32) then ((0 : Int32) + (2 : Int32)) else if x0 = (2 : Int32) then ((0 : Int32) + (x3 / (10 : Int32))) else if x0 = (3 : Int32) then (0 : Int32) else if x0 = (4 : Int32) then ((2 : Int32) * ((0 : Int32) + (2 : Int32))) else if x0 = (5 : Int32) then ((0 : Int32) / (2 : Int32)) else (0 : Int32) else if x0 = (1 : Int32) then ((0 : Int32) + (2 : Int32)) else if x0 = (2 : Int32) then ((0 : Int32) + (x3 / (10 : Int32))) else if x0 = (3 : Int32) then (0 : Int32) else if x0 = (4 : Int32) then ((2 : Int32) * ((0 : Int32) + (2 : Int32))) else if x0 = (5 : Int32) then ((0 : Int32) / (2 : Int32)) else (0 : Int32) else if x3 < (20 : Int32) then if (10 : Int32) ≤ x3 then if x0 = (1 : Int32) then (x1 - ((2 : Int32) * x2)) else if x0 = (2 : Int32) then ((x1 - ((2 : Int32) * x2)) + (x3 / (10 : Int32))) else if x0 = (3 : Int32) then (x1 - ((2 : Int32) * x2)) else if x0 = (4 : Int32) then ((2 : Int32) * (x1 - ((2 : Int32) * x2))) else if x0 = (5 : Int32) then ((x1 - ((2 : Int32) * x2)) / (2 : Int32)) else (x1 - ((2 : Int32) * x2)) else if (x1 - ((2 : Int32) * x2)) ≤ 0 then if x0 = (1 : Int32) then (x1 - ((2 : Int32) * x2)) else if x0 = (2 : Int32) then ((x1 - ((2 : Int32) * x2)) + (x3 / (10 : Int32))) else if x0 = (3 : Int32) then (x1 - ((2 : Int32) * x2)) else if x0 = (4 : Int32) then ((2 : Int32) * (x1 - ((2 : Int32) * x2))) else if x0 = (5 : Int32) then ((x1 - ((2 : Int32) * x2)) / (2 : Int32)) else (x1 - ((2 : Int32) * x2)) else if x0 = (1 : Int32) then (x1 - ((2 : Int32) * x2)) else if x0 = (2 : Int32) then ((x1 - ((2 : Int32) * x2)) + (x3 / (10 : Int32))) else if x0 = (3 : Int32) then ((x1 - ((2 : Int32) * x2)) - (1 : Int32)) else if x0 = (4 : Int32) then ((2 : Int32) * (x1 - ((2 : Int32) * x2))) else if x0 = (5 : Int32) then (((x1 - ((2 : Int32) * x2)) - (1 : Int32)) / (2 : Int32)) else (x1 - ((2 : Int32) * x2)) else if (10 : Int32) ≤ x3 then if x0 = (1 : Int32) then ((x1 - ((2 : Int32) * x2)) + (2 : Int32)) else if x0 = (2 : Int32) then ((x1 - ((2 : Int32) * x2)) + (x3 / (10 : Int32))) else if x0 = (3 : Int32) then (x1 - ((2 : Int32) * x2)) else if x0 = (4 : Int32) then ((2 : Int32) * ((x1 - ((2 : Int32) * x2)) + (2 : Int32))) else if x0 = (5 : Int32) then ((x1 - ((2 : Int32) * x2)) / (2 : Int32)) else (x1 - ((2 : Int32) * x2)) else if (x1 - ((2 : Int32) * x2)) ≤ 0 then if x0 = (1 : Int32) then ((x1 - ((2 : Int32) * x2)) + (2 : Int32)) else if x0 = (2 : Int32) then ((x1 - ((2 : Int32) * x2)) + (x3 / (10 : Int32))) else if x0 = (3 : Int32) then (x1 - ((2 : Int32) * x2)) else if x0 = (4 : Int32) then ((2 : Int32) * ((x1 - ((2 : Int32) * x2)) + (2 : Int32))) else if x0 = (5 : Int32) then ((x1 - ((2 : Int32) * x2)) / (2 : Int32)) else (x1 - ((2 : Int32) * x2)) else if x0 = (1 : Int32) then ((x1 - ((2 : Int32) * x2)) + (2 : Int32)) else if x0 = (2 : Int32) then ((x1 - ((2 : Int32) * x2)) + (x3 / (10 : Int32))) else if x0 = (3 : Int32) then ((x1 - ((2 : Int32) * x2)) - (1 : Int32)) else if x0 = (4 : Int32) then ((2 : Int32) * ((x1 - ((2 : Int32) * x2)) + (2 : Int32))) else if x0 = (5 : Int32) then (((x1 - ((2 : Int32) * x2)) - (1 : Int32)) / (2 : Int32)) else (x1 - ((2 : Int32) * x2))
set_option maxRecDepth 20000 in
set_option maxHeartbeats 40000000 in
theorem m_X1_regardOf (x0 : Int32) (x1 : Int32) (x2 : Int32) (x3 : Int32)  (σ : fsS) (μ : fsL) (out : Int32) (h : F_X1_regardOf x0 x1 x2 x3 = out) : fs_Met yX1_regardOf cX1_regardOf 7 (some .int) { frames := 0, cells := 0, slots := 0, locals := 0 } [.int x0, .int x1, .int x2, .int x3] σ μ (some (.int out)) σ μ := by
  unfold F_X1_regardOf at h
  refine fs_intro (by decide +kernel) (Nat.le_of_ble_eq_true rfl) (fun X hX hR => ?_)
  show fs_PW X 0 [some (.int x0), some (.int x1), some (.int x2), some (.int x3), none, none, none] [] σ μ
  refine s_iload_n hX dX1_regardOf_0 rfl ?_
  refine s_ic hX (2 : Int32) dX1_regardOf_1 (by decide) ?_
  refine s_iload_n hX dX1_regardOf_2 rfl ?_
  refine s_imul hX dX1_regardOf_3 ?_
  refine s_ic_le hX 15 dX1_regardOf_4 (by decide) (fun c1 => ?_) (fun c1 => ?_)
  · have h := (if_pos c1).symm.trans h
    refine s_ic hX (0 : Int32) dX1_regardOf_15 (by decide) ?_
    refine s_istore hX dX1_regardOf_16 (Nat.le_of_ble_eq_true rfl) ?_
    refine s_iload_n hX dX1_regardOf_18 rfl ?_
    refine s_bi hX (20 : Int32) dX1_regardOf_19 (by decide) ?_
    refine s_ic_lt hX 31 dX1_regardOf_21 (by decide) (fun c2 => ?_) (fun c2 => ?_)
    · have h := (if_pos c2).symm.trans h
      refine s_iload hX dX1_regardOf_31 rfl ?_
      refine s_istore hX dX1_regardOf_33 (Nat.le_of_ble_eq_true rfl) ?_
      refine s_iload_n hX dX1_regardOf_35 rfl ?_
      refine s_bi hX (10 : Int32) dX1_regardOf_36 (by decide) ?_
      refine s_ic_ge hX 53 dX1_regardOf_38 (by decide) (fun c3 => ?_) (fun c3 => ?_)
      · have h := (if_pos c3).symm.trans h
        refine s_iload hX dX1_regardOf_53 rfl ?_
        refine s_istore hX dX1_regardOf_55 (Nat.le_of_ble_eq_true rfl) ?_
        refine s_iload_n hX dX1_regardOf_57 rfl ?_
        by_cases c4 : x0 = (1 : Int32)
        · have h := (if_pos c4).symm.trans h
          refine s_tabK hX 92 (1 : Int32) c4 dX1_regardOf_58 (by decide) (by decide) rfl (by decide) ?_
          refine s_iload hX dX1_regardOf_92 rfl ?_
          subst h
          exact s_iret hX hR dX1_regardOf_94
        · have h := (if_neg c4).symm.trans h
          by_cases c5 : x0 = (2 : Int32)
          · have h := (if_pos c5).symm.trans h
            refine s_tabK hX 95 (2 : Int32) c5 dX1_regardOf_58 (by decide) (by decide) rfl (by decide) ?_
            refine s_iload hX dX1_regardOf_95 rfl ?_
            refine s_iload_n hX dX1_regardOf_97 rfl ?_
            refine s_bi hX (10 : Int32) dX1_regardOf_98 (by decide) ?_
            refine s_idiv hX dX1_regardOf_100 (by decide) ?_
            refine s_iadd hX dX1_regardOf_101 ?_
            subst h
            exact s_iret hX hR dX1_regardOf_102
          · have h := (if_neg c5).symm.trans h
            by_cases c6 : x0 = (3 : Int32)
            · have h := (if_pos c6).symm.trans h
              refine s_tabK hX 103 (3 : Int32) c6 dX1_regardOf_58 (by decide) (by decide) rfl (by decide) ?_
              refine s_iload hX dX1_regardOf_103 rfl ?_
              subst h
              exact s_iret hX hR dX1_regardOf_105
            · have h := (if_neg c6).symm.trans h
              by_cases c7 : x0 = (4 : Int32)
              · have h := (if_pos c7).symm.trans h
                refine s_tabK hX 106 (4 : Int32) c7 dX1_regardOf_58 (by decide) (by decide) rfl (by decide) ?_
                refine s_ic hX (2 : Int32) dX1_regardOf_106 (by decide) ?_
                refine s_iload hX dX1_regardOf_107 rfl ?_
                refine s_imul hX dX1_regardOf_109 ?_
                subst h
                exact s_iret hX hR dX1_regardOf_110
              · have h := (if_neg c7).symm.trans h
                by_cases c8 : x0 = (5 : Int32)
                · have h := (if_pos c8).symm.trans h
                  refine s_tabK hX 111 (5 : Int32) c8 dX1_regardOf_58 (by decide) (by decide) rfl (by decide) ?_
                  refine s_iload hX dX1_regardOf_111 rfl ?_
                  refine s_ic hX (2 : Int32) dX1_regardOf_113 (by decide) ?_
                  refine s_idiv hX dX1_regardOf_114 (by decide) ?_
                  subst h
                  exact s_iret hX hR dX1_regardOf_115
                · have h := (if_neg c8).symm.trans h
                  have wc4 := fs_ne (z := 1) c4 (by decide)
                  have wc5 := fs_ne (z := 2) c5 (by decide)
                  have wc6 := fs_ne (z := 3) c6 (by decide)
                  have wc7 := fs_ne (z := 4) c7 (by decide)
                  have wc8 := fs_ne (z := 5) c8 (by decide)
                  refine s_tabOut hX 116 dX1_regardOf_58 (by omega) (by decide) ?_
                  refine s_iload hX dX1_regardOf_116 rfl ?_
                  subst h
                  exact s_iret hX hR dX1_regardOf_118
      · have h := (if_neg c3).symm.trans h
        refine s_iload hX dX1_regardOf_41 rfl ?_
        refine s_if_le hX 53 dX1_regardOf_43 (by decide) (fun _ => ?_) (fun c9 => absurd (by decide) c9)
        refine s_iload hX dX1_regardOf_53 rfl ?_
        refine s_istore hX dX1_regardOf_55 (Nat.le_of_ble_eq_true rfl) ?_
        refine s_iload_n hX dX1_regardOf_57 rfl ?_
        by_cases c10 : x0 = (1 : Int32)
        · have h := (if_pos c10).symm.trans h
          refine s_tabK hX 92 (1 : Int32) c10 dX1_regardOf_58 (by decide) (by decide) rfl (by decide) ?_
          refine s_iload hX dX1_regardOf_92 rfl ?_
          subst h
          exact s_iret hX hR dX1_regardOf_94
        · have h := (if_neg c10).symm.trans h
          by_cases c11 : x0 = (2 : Int32)
          · have h := (if_pos c11).symm.trans h
            refine s_tabK hX 95 (2 : Int32) c11 dX1_regardOf_58 (by decide) (by decide) rfl (by decide) ?_
            refine s_iload hX dX1_regardOf_95 rfl ?_
            refine s_iload_n hX dX1_regardOf_97 rfl ?_
            refine s_bi hX (10 : Int32) dX1_regardOf_98 (by decide) ?_
            refine s_idiv hX dX1_regardOf_100 (by decide) ?_
            refine s_iadd hX dX1_regardOf_101 ?_
            subst h
            exact s_iret hX hR dX1_regardOf_102
          · have h := (if_neg c11).symm.trans h
            by_cases c12 : x0 = (3 : Int32)
            · have h := (if_pos c12).symm.trans h
              refine s_tabK hX 103 (3 : Int32) c12 dX1_regardOf_58 (by decide) (by decide) rfl (by decide) ?_
              refine s_iload hX dX1_regardOf_103 rfl ?_
              subst h
              exact s_iret hX hR dX1_regardOf_105
            · have h := (if_neg c12).symm.trans h
              by_cases c13 : x0 = (4 : Int32)
              · have h := (if_pos c13).symm.trans h
                refine s_tabK hX 106 (4 : Int32) c13 dX1_regardOf_58 (by decide) (by decide) rfl (by decide) ?_
                refine s_ic hX (2 : Int32) dX1_regardOf_106 (by decide) ?_
                refine s_iload hX dX1_regardOf_107 rfl ?_
                refine s_imul hX dX1_regardOf_109 ?_
                subst h
                exact s_iret hX hR dX1_regardOf_110
              · have h := (if_neg c13).symm.trans h
                by_cases c14 : x0 = (5 : Int32)
                · have h := (if_pos c14).symm.trans h
                  refine s_tabK hX 111 (5 : Int32) c14 dX1_regardOf_58 (by decide) (by decide) rfl (by decide) ?_
                  refine s_iload hX dX1_regardOf_111 rfl ?_
                  refine s_ic hX (2 : Int32) dX1_regardOf_113 (by decide) ?_
                  refine s_idiv hX dX1_regardOf_114 (by decide) ?_
                  subst h
                  exact s_iret hX hR dX1_regardOf_115
                · have h := (if_neg c14).symm.trans h
                  have wc10 := fs_ne (z := 1) c10 (by decide)
                  have wc11 := fs_ne (z := 2) c11 (by decide)
                  have wc12 := fs_ne (z := 3) c12 (by decide)
                  have wc13 := fs_ne (z := 4) c13 (by decide)
                  have wc14 := fs_ne (z := 5) c14 (by decide)
                  refine s_tabOut hX 116 dX1_regardOf_58 (by omega) (by decide) ?_
                  refine s_iload hX dX1_regardOf_116 rfl ?_
                  subst h
                  exact s_iret hX hR dX1_regardOf_118
    · have h := (if_neg c2).symm.trans h
      refine s_iload hX dX1_regardOf_24 rfl ?_
      refine s_ic hX (2 : Int32) dX1_regardOf_26 (by decide) ?_
      refine s_iadd hX dX1_regardOf_27 ?_
      refine s_goto hX 33 dX1_regardOf_28 (by decide) ?_
      refine s_istore hX dX1_regardOf_33 (Nat.le_of_ble_eq_true rfl) ?_
      refine s_iload_n hX dX1_regardOf_35 rfl ?_
      refine s_bi hX (10 : Int32) dX1_regardOf_36 (by decide) ?_
      refine s_ic_ge hX 53 dX1_regardOf_38 (by decide) (fun c15 => ?_) (fun c15 => ?_)
      · have h := (if_pos c15).symm.trans h
        refine s_iload hX dX1_regardOf_53 rfl ?_
        refine s_istore hX dX1_regardOf_55 (Nat.le_of_ble_eq_true rfl) ?_
        refine s_iload_n hX dX1_regardOf_57 rfl ?_
        by_cases c16 : x0 = (1 : Int32)
        · have h := (if_pos c16).symm.trans h
          refine s_tabK hX 92 (1 : Int32) c16 dX1_regardOf_58 (by decide) (by decide) rfl (by decide) ?_
          refine s_iload hX dX1_regardOf_92 rfl ?_
          subst h
          exact s_iret hX hR dX1_regardOf_94
        · have h := (if_neg c16).symm.trans h
          by_cases c17 : x0 = (2 : Int32)
          · have h := (if_pos c17).symm.trans h
            refine s_tabK hX 95 (2 : Int32) c17 dX1_regardOf_58 (by decide) (by decide) rfl (by decide) ?_
            refine s_iload hX dX1_regardOf_95 rfl ?_
            refine s_iload_n hX dX1_regardOf_97 rfl ?_
            refine s_bi hX (10 : Int32) dX1_regardOf_98 (by decide) ?_
            refine s_idiv hX dX1_regardOf_100 (by decide) ?_
            refine s_iadd hX dX1_regardOf_101 ?_
            subst h
            exact s_iret hX hR dX1_regardOf_102
          · have h := (if_neg c17).symm.trans h
            by_cases c18 : x0 = (3 : Int32)
            · have h := (if_pos c18).symm.trans h
              refine s_tabK hX 103 (3 : Int32) c18 dX1_regardOf_58 (by decide) (by decide) rfl (by decide) ?_
              refine s_iload hX dX1_regardOf_103 rfl ?_
              subst h
              exact s_iret hX hR dX1_regardOf_105
            · have h := (if_neg c18).symm.trans h
              by_cases c19 : x0 = (4 : Int32)
              · have h := (if_pos c19).symm.trans h
                refine s_tabK hX 106 (4 : Int32) c19 dX1_regardOf_58 (by decide) (by decide) rfl (by decide) ?_
                refine s_ic hX (2 : Int32) dX1_regardOf_106 (by decide) ?_
                refine s_iload hX dX1_regardOf_107 rfl ?_
                refine s_imul hX dX1_regardOf_109 ?_
                subst h
                exact s_iret hX hR dX1_regardOf_110
              · have h := (if_neg c19).symm.trans h
                by_cases c20 : x0 = (5 : Int32)
                · have h := (if_pos c20).symm.trans h
                  refine s_tabK hX 111 (5 : Int32) c20 dX1_regardOf_58 (by decide) (by decide) rfl (by decide) ?_
                  refine s_iload hX dX1_regardOf_111 rfl ?_
                  refine s_ic hX (2 : Int32) dX1_regardOf_113 (by decide) ?_
                  refine s_idiv hX dX1_regardOf_114 (by decide) ?_
                  subst h
                  exact s_iret hX hR dX1_regardOf_115
                · have h := (if_neg c20).symm.trans h
                  have wc16 := fs_ne (z := 1) c16 (by decide)
                  have wc17 := fs_ne (z := 2) c17 (by decide)
                  have wc18 := fs_ne (z := 3) c18 (by decide)
                  have wc19 := fs_ne (z := 4) c19 (by decide)
                  have wc20 := fs_ne (z := 5) c20 (by decide)
                  refine s_tabOut hX 116 dX1_regardOf_58 (by omega) (by decide) ?_
                  refine s_iload hX dX1_regardOf_116 rfl ?_
                  subst h
                  exact s_iret hX hR dX1_regardOf_118
      · have h := (if_neg c15).symm.trans h
        refine s_iload hX dX1_regardOf_41 rfl ?_
        refine s_if_le hX 53 dX1_regardOf_43 (by decide) (fun _ => ?_) (fun c21 => absurd (by decide) c21)
        refine s_iload hX dX1_regardOf_53 rfl ?_
        refine s_istore hX dX1_regardOf_55 (Nat.le_of_ble_eq_true rfl) ?_
        refine s_iload_n hX dX1_regardOf_57 rfl ?_
        by_cases c22 : x0 = (1 : Int32)
        · have h := (if_pos c22).symm.trans h
          refine s_tabK hX 92 (1 : Int32) c22 dX1_regardOf_58 (by decide) (by decide) rfl (by decide) ?_
          refine s_iload hX dX1_regardOf_92 rfl ?_
          subst h
          exact s_iret hX hR dX1_regardOf_94
        · have h := (if_neg c22).symm.trans h
          by_cases c23 : x0 = (2 : Int32)
          · have h := (if_pos c23).symm.trans h
            refine s_tabK hX 95 (2 : Int32) c23 dX1_regardOf_58 (by decide) (by decide) rfl (by decide) ?_
            refine s_iload hX dX1_regardOf_95 rfl ?_
            refine s_iload_n hX dX1_regardOf_97 rfl ?_
            refine s_bi hX (10 : Int32) dX1_regardOf_98 (by decide) ?_
            refine s_idiv hX dX1_regardOf_100 (by decide) ?_
            refine s_iadd hX dX1_regardOf_101 ?_
            subst h
            exact s_iret hX hR dX1_regardOf_102
          · have h := (if_neg c23).symm.trans h
            by_cases c24 : x0 = (3 : Int32)
            · have h := (if_pos c24).symm.trans h
              refine s_tabK hX 103 (3 : Int32) c24 dX1_regardOf_58 (by decide) (by decide) rfl (by decide) ?_
              refine s_iload hX dX1_regardOf_103 rfl ?_
              subst h
              exact s_iret hX hR dX1_regardOf_105
            · have h := (if_neg c24).symm.trans h
              by_cases c25 : x0 = (4 : Int32)
              · have h := (if_pos c25).symm.trans h
                refine s_tabK hX 106 (4 : Int32) c25 dX1_regardOf_58 (by decide) (by decide) rfl (by decide) ?_
                refine s_ic hX (2 : Int32) dX1_regardOf_106 (by decide) ?_
                refine s_iload hX dX1_regardOf_107 rfl ?_
                refine s_imul hX dX1_regardOf_109 ?_
                subst h
                exact s_iret hX hR dX1_regardOf_110
              · have h := (if_neg c25).symm.trans h
                by_cases c26 : x0 = (5 : Int32)
                · have h := (if_pos c26).symm.trans h
                  refine s_tabK hX 111 (5 : Int32) c26 dX1_regardOf_58 (by decide) (by decide) rfl (by decide) ?_
                  refine s_iload hX dX1_regardOf_111 rfl ?_
                  refine s_ic hX (2 : Int32) dX1_regardOf_113 (by decide) ?_
                  refine s_idiv hX dX1_regardOf_114 (by decide) ?_
                  subst h
                  exact s_iret hX hR dX1_regardOf_115
                · have h := (if_neg c26).symm.trans h
                  have wc22 := fs_ne (z := 1) c22 (by decide)
                  have wc23 := fs_ne (z := 2) c23 (by decide)
                  have wc24 := fs_ne (z := 3) c24 (by decide)
                  have wc25 := fs_ne (z := 4) c25 (by decide)
                  have wc26 := fs_ne (z := 5) c26 (by decide)
                  refine s_tabOut hX 116 dX1_regardOf_58 (by omega) (by decide) ?_
                  refine s_iload hX dX1_regardOf_116 rfl ?_
                  subst h
                  exact s_iret hX hR dX1_regardOf_118
  · have h := (if_neg c1).symm.trans h
    refine s_iload_n hX dX1_regardOf_7 rfl ?_
    refine s_ic hX (2 : Int32) dX1_regardOf_8 (by decide) ?_
    refine s_iload_n hX dX1_regardOf_9 rfl ?_
    refine s_imul hX dX1_regardOf_10 ?_
    refine s_isub hX dX1_regardOf_11 ?_
    refine s_goto hX 16 dX1_regardOf_12 (by decide) ?_
    refine s_istore hX dX1_regardOf_16 (Nat.le_of_ble_eq_true rfl) ?_
    refine s_iload_n hX dX1_regardOf_18 rfl ?_
    refine s_bi hX (20 : Int32) dX1_regardOf_19 (by decide) ?_
    refine s_ic_lt hX 31 dX1_regardOf_21 (by decide) (fun c27 => ?_) (fun c27 => ?_)
    · have h := (if_pos c27).symm.trans h
      refine s_iload hX dX1_regardOf_31 rfl ?_
      refine s_istore hX dX1_regardOf_33 (Nat.le_of_ble_eq_true rfl) ?_
      refine s_iload_n hX dX1_regardOf_35 rfl ?_
      refine s_bi hX (10 : Int32) dX1_regardOf_36 (by decide) ?_
      refine s_ic_ge hX 53 dX1_regardOf_38 (by decide) (fun c28 => ?_) (fun c28 => ?_)
      · have h := (if_pos c28).symm.trans h
        refine s_iload hX dX1_regardOf_53 rfl ?_
        refine s_istore hX dX1_regardOf_55 (Nat.le_of_ble_eq_true rfl) ?_
        refine s_iload_n hX dX1_regardOf_57 rfl ?_
        by_cases c29 : x0 = (1 : Int32)
        · have h := (if_pos c29).symm.trans h
          refine s_tabK hX 92 (1 : Int32) c29 dX1_regardOf_58 (by decide) (by decide) rfl (by decide) ?_
          refine s_iload hX dX1_regardOf_92 rfl ?_
          subst h
          exact s_iret hX hR dX1_regardOf_94
        · have h := (if_neg c29).symm.trans h
          by_cases c30 : x0 = (2 : Int32)
          · have h := (if_pos c30).symm.trans h
            refine s_tabK hX 95 (2 : Int32) c30 dX1_regardOf_58 (by decide) (by decide) rfl (by decide) ?_
            refine s_iload hX dX1_regardOf_95 rfl ?_
            refine s_iload_n hX dX1_regardOf_97 rfl ?_
            refine s_bi hX (10 : Int32) dX1_regardOf_98 (by decide) ?_
            refine s_idiv hX dX1_regardOf_100 (by decide) ?_
            refine s_iadd hX dX1_regardOf_101 ?_
            subst h
            exact s_iret hX hR dX1_regardOf_102
          · have h := (if_neg c30).symm.trans h
            by_cases c31 : x0 = (3 : Int32)
            · have h := (if_pos c31).symm.trans h
              refine s_tabK hX 103 (3 : Int32) c31 dX1_regardOf_58 (by decide) (by decide) rfl (by decide) ?_
              refine s_iload hX dX1_regardOf_103 rfl ?_
              subst h
              exact s_iret hX hR dX1_regardOf_105
            · have h := (if_neg c31).symm.trans h
              by_cases c32 : x0 = (4 : Int32)
              · have h := (if_pos c32).symm.trans h
                refine s_tabK hX 106 (4 : Int32) c32 dX1_regardOf_58 (by decide) (by decide) rfl (by decide) ?_
                refine s_ic hX (2 : Int32) dX1_regardOf_106 (by decide) ?_
                refine s_iload hX dX1_regardOf_107 rfl ?_
                refine s_imul hX dX1_regardOf_109 ?_
                subst h
                exact s_iret hX hR dX1_regardOf_110
              · have h := (if_neg c32).symm.trans h
                by_cases c33 : x0 = (5 : Int32)
                · have h := (if_pos c33).symm.trans h
                  refine s_tabK hX 111 (5 : Int32) c33 dX1_regardOf_58 (by decide) (by decide) rfl (by decide) ?_
                  refine s_iload hX dX1_regardOf_111 rfl ?_
                  refine s_ic hX (2 : Int32) dX1_regardOf_113 (by decide) ?_
                  refine s_idiv hX dX1_regardOf_114 (by decide) ?_
                  subst h
                  exact s_iret hX hR dX1_regardOf_115
                · have h := (if_neg c33).symm.trans h
                  have wc29 := fs_ne (z := 1) c29 (by decide)
                  have wc30 := fs_ne (z := 2) c30 (by decide)
                  have wc31 := fs_ne (z := 3) c31 (by decide)
                  have wc32 := fs_ne (z := 4) c32 (by decide)
                  have wc33 := fs_ne (z := 5) c33 (by decide)
                  refine s_tabOut hX 116 dX1_regardOf_58 (by omega) (by decide) ?_
                  refine s_iload hX dX1_regardOf_116 rfl ?_
                  subst h
                  exact s_iret hX hR dX1_regardOf_118
      · have h := (if_neg c28).symm.trans h
        refine s_iload hX dX1_regardOf_41 rfl ?_
        refine s_if_le hX 53 dX1_regardOf_43 (by decide) (fun c34 => ?_) (fun c34 => ?_)
        · have h := (if_pos c34).symm.trans h
          refine s_iload hX dX1_regardOf_53 rfl ?_
          refine s_istore hX dX1_regardOf_55 (Nat.le_of_ble_eq_true rfl) ?_
          refine s_iload_n hX dX1_regardOf_57 rfl ?_
          by_cases c35 : x0 = (1 : Int32)
          · have h := (if_pos c35).symm.trans h
            refine s_tabK hX 92 (1 : Int32) c35 dX1_regardOf_58 (by decide) (by decide) rfl (by decide) ?_
            refine s_iload hX dX1_regardOf_92 rfl ?_
            subst h
            exact s_iret hX hR dX1_regardOf_94
          · have h := (if_neg c35).symm.trans h
            by_cases c36 : x0 = (2 : Int32)
            · have h := (if_pos c36).symm.trans h
              refine s_tabK hX 95 (2 : Int32) c36 dX1_regardOf_58 (by decide) (by decide) rfl (by decide) ?_
              refine s_iload hX dX1_regardOf_95 rfl ?_
              refine s_iload_n hX dX1_regardOf_97 rfl ?_
              refine s_bi hX (10 : Int32) dX1_regardOf_98 (by decide) ?_
              refine s_idiv hX dX1_regardOf_100 (by decide) ?_
              refine s_iadd hX dX1_regardOf_101 ?_
              subst h
              exact s_iret hX hR dX1_regardOf_102
            · have h := (if_neg c36).symm.trans h
              by_cases c37 : x0 = (3 : Int32)
              · have h := (if_pos c37).symm.trans h
                refine s_tabK hX 103 (3 : Int32) c37 dX1_regardOf_58 (by decide) (by decide) rfl (by decide) ?_
                refine s_iload hX dX1_regardOf_103 rfl ?_
                subst h
                exact s_iret hX hR dX1_regardOf_105
              · have h := (if_neg c37).symm.trans h
                by_cases c38 : x0 = (4 : Int32)
                · have h := (if_pos c38).symm.trans h
                  refine s_tabK hX 106 (4 : Int32) c38 dX1_regardOf_58 (by decide) (by decide) rfl (by decide) ?_
                  refine s_ic hX (2 : Int32) dX1_regardOf_106 (by decide) ?_
                  refine s_iload hX dX1_regardOf_107 rfl ?_
                  refine s_imul hX dX1_regardOf_109 ?_
                  subst h
                  exact s_iret hX hR dX1_regardOf_110
                · have h := (if_neg c38).symm.trans h
                  by_cases c39 : x0 = (5 : Int32)
                  · have h := (if_pos c39).symm.trans h
                    refine s_tabK hX 111 (5 : Int32) c39 dX1_regardOf_58 (by decide) (by decide) rfl (by decide) ?_
                    refine s_iload hX dX1_regardOf_111 rfl ?_
                    refine s_ic hX (2 : Int32) dX1_regardOf_113 (by decide) ?_
                    refine s_idiv hX dX1_regardOf_114 (by decide) ?_
                    subst h
                    exact s_iret hX hR dX1_regardOf_115
                  · have h := (if_neg c39).symm.trans h
                    have wc35 := fs_ne (z := 1) c35 (by decide)
                    have wc36 := fs_ne (z := 2) c36 (by decide)
                    have wc37 := fs_ne (z := 3) c37 (by decide)
                    have wc38 := fs_ne (z := 4) c38 (by decide)
                    have wc39 := fs_ne (z := 5) c39 (by decide)
                    refine s_tabOut hX 116 dX1_regardOf_58 (by omega) (by decide) ?_
                    refine s_iload hX dX1_regardOf_116 rfl ?_
                    subst h
                    exact s_iret hX hR dX1_regardOf_118
        · have h := (if_neg c34).symm.trans h
          refine s_iload hX dX1_regardOf_46 rfl ?_
          refine s_ic hX (1 : Int32) dX1_regardOf_48 (by decide) ?_
          refine s_isub hX dX1_regardOf_49 ?_
          refine s_goto hX 55 dX1_regardOf_50 (by decide) ?_
          refine s_istore hX dX1_regardOf_55 (Nat.le_of_ble_eq_true rfl) ?_
          refine s_iload_n hX dX1_regardOf_57 rfl ?_
          by_cases c40 : x0 = (1 : Int32)
          · have h := (if_pos c40).symm.trans h
            refine s_tabK hX 92 (1 : Int32) c40 dX1_regardOf_58 (by decide) (by decide) rfl (by decide) ?_
            refine s_iload hX dX1_regardOf_92 rfl ?_
            subst h
            exact s_iret hX hR dX1_regardOf_94
          · have h := (if_neg c40).symm.trans h
            by_cases c41 : x0 = (2 : Int32)
            · have h := (if_pos c41).symm.trans h
              refine s_tabK hX 95 (2 : Int32) c41 dX1_regardOf_58 (by decide) (by decide) rfl (by decide) ?_
              refine s_iload hX dX1_regardOf_95 rfl ?_
              refine s_iload_n hX dX1_regardOf_97 rfl ?_
              refine s_bi hX (10 : Int32) dX1_regardOf_98 (by decide) ?_
              refine s_idiv hX dX1_regardOf_100 (by decide) ?_
              refine s_iadd hX dX1_regardOf_101 ?_
              subst h
              exact s_iret hX hR dX1_regardOf_102
            · have h := (if_neg c41).symm.trans h
              by_cases c42 : x0 = (3 : Int32)
              · have h := (if_pos c42).symm.trans h
                refine s_tabK hX 103 (3 : Int32) c42 dX1_regardOf_58 (by decide) (by decide) rfl (by decide) ?_
                refine s_iload hX dX1_regardOf_103 rfl ?_
                subst h
                exact s_iret hX hR dX1_regardOf_105
              · have h := (if_neg c42).symm.trans h
                by_cases c43 : x0 = (4 : Int32)
                · have h := (if_pos c43).symm.trans h
                  refine s_tabK hX 106 (4 : Int32) c43 dX1_regardOf_58 (by decide) (by decide) rfl (by decide) ?_
                  refine s_ic hX (2 : Int32) dX1_regardOf_106 (by decide) ?_
                  refine s_iload hX dX1_regardOf_107 rfl ?_
                  refine s_imul hX dX1_regardOf_109 ?_
                  subst h
                  exact s_iret hX hR dX1_regardOf_110
                · have h := (if_neg c43).symm.trans h
                  by_cases c44 : x0 = (5 : Int32)
                  · have h := (if_pos c44).symm.trans h
                    refine s_tabK hX 111 (5 : Int32) c44 dX1_regardOf_58 (by decide) (by decide) rfl (by decide) ?_
                    refine s_iload hX dX1_regardOf_111 rfl ?_
                    refine s_ic hX (2 : Int32) dX1_regardOf_113 (by decide) ?_
                    refine s_idiv hX dX1_regardOf_114 (by decide) ?_
                    subst h
                    exact s_iret hX hR dX1_regardOf_115
                  · have h := (if_neg c44).symm.trans h
                    have wc40 := fs_ne (z := 1) c40 (by decide)
                    have wc41 := fs_ne (z := 2) c41 (by decide)
                    have wc42 := fs_ne (z := 3) c42 (by decide)
                    have wc43 := fs_ne (z := 4) c43 (by decide)
                    have wc44 := fs_ne (z := 5) c44 (by decide)
                    refine s_tabOut hX 116 dX1_regardOf_58 (by omega) (by decide) ?_
                    refine s_iload hX dX1_regardOf_116 rfl ?_
                    subst h
                    exact s_iret hX hR dX1_regardOf_118
    · have h := (if_neg c27).symm.trans h
      refine s_iload hX dX1_regardOf_24 rfl ?_
      refine s_ic hX (2 : Int32) dX1_regardOf_26 (by decide) ?_
      refine s_iadd hX dX1_regardOf_27 ?_
      refine s_goto hX 33 dX1_regardOf_28 (by decide) ?_
      refine s_istore hX dX1_regardOf_33 (Nat.le_of_ble_eq_true rfl) ?_
      refine s_iload_n hX dX1_regardOf_35 rfl ?_
      refine s_bi hX (10 : Int32) dX1_regardOf_36 (by decide) ?_
      refine s_ic_ge hX 53 dX1_regardOf_38 (by decide) (fun c45 => ?_) (fun c45 => ?_)
      · have h := (if_pos c45).symm.trans h
        refine s_iload hX dX1_regardOf_53 rfl ?_
        refine s_istore hX dX1_regardOf_55 (Nat.le_of_ble_eq_true rfl) ?_
        refine s_iload_n hX dX1_regardOf_57 rfl ?_
        by_cases c46 : x0 = (1 : Int32)
        · have h := (if_pos c46).symm.trans h
          refine s_tabK hX 92 (1 : Int32) c46 dX1_regardOf_58 (by decide) (by decide) rfl (by decide) ?_
          refine s_iload hX dX1_regardOf_92 rfl ?_
          subst h
          exact s_iret hX hR dX1_regardOf_94
        · have h := (if_neg c46).symm.trans h
          by_cases c47 : x0 = (2 : Int32)
          · have h := (if_pos c47).symm.trans h
            refine s_tabK hX 95 (2 : Int32) c47 dX1_regardOf_58 (by decide) (by decide) rfl (by decide) ?_
            refine s_iload hX dX1_regardOf_95 rfl ?_
            refine s_iload_n hX dX1_regardOf_97 rfl ?_
            refine s_bi hX (10 : Int32) dX1_regardOf_98 (by decide) ?_
            refine s_idiv hX dX1_regardOf_100 (by decide) ?_
            refine s_iadd hX dX1_regardOf_101 ?_
            subst h
            exact s_iret hX hR dX1_regardOf_102
          · have h := (if_neg c47).symm.trans h
            by_cases c48 : x0 = (3 : Int32)
            · have h := (if_pos c48).symm.trans h
              refine s_tabK hX 103 (3 : Int32) c48 dX1_regardOf_58 (by decide) (by decide) rfl (by decide) ?_
              refine s_iload hX dX1_regardOf_103 rfl ?_
              subst h
              exact s_iret hX hR dX1_regardOf_105
            · have h := (if_neg c48).symm.trans h
              by_cases c49 : x0 = (4 : Int32)
              · have h := (if_pos c49).symm.trans h
                refine s_tabK hX 106 (4 : Int32) c49 dX1_regardOf_58 (by decide) (by decide) rfl (by decide) ?_
                refine s_ic hX (2 : Int32) dX1_regardOf_106 (by decide) ?_
                refine s_iload hX dX1_regardOf_107 rfl ?_
                refine s_imul hX dX1_regardOf_109 ?_
                subst h
                exact s_iret hX hR dX1_regardOf_110
              · have h := (if_neg c49).symm.trans h
                by_cases c50 : x0 = (5 : Int32)
                · have h := (if_pos c50).symm.trans h
                  refine s_tabK hX 111 (5 : Int32) c50 dX1_regardOf_58 (by decide) (by decide) rfl (by decide) ?_
                  refine s_iload hX dX1_regardOf_111 rfl ?_
                  refine s_ic hX (2 : Int32) dX1_regardOf_113 (by decide) ?_
                  refine s_idiv hX dX1_regardOf_114 (by decide) ?_
                  subst h
                  exact s_iret hX hR dX1_regardOf_115
                · have h := (if_neg c50).symm.trans h
                  have wc46 := fs_ne (z := 1) c46 (by decide)
                  have wc47 := fs_ne (z := 2) c47 (by decide)
                  have wc48 := fs_ne (z := 3) c48 (by decide)
                  have wc49 := fs_ne (z := 4) c49 (by decide)
                  have wc50 := fs_ne (z := 5) c50 (by decide)
                  refine s_tabOut hX 116 dX1_regardOf_58 (by omega) (by decide) ?_
                  refine s_iload hX dX1_regardOf_116 rfl ?_
                  subst h
                  exact s_iret hX hR dX1_regardOf_118
      · have h := (if_neg c45).symm.trans h
        refine s_iload hX dX1_regardOf_41 rfl ?_
        refine s_if_le hX 53 dX1_regardOf_43 (by decide) (fun c51 => ?_) (fun c51 => ?_)
        · have h := (if_pos c51).symm.trans h
          refine s_iload hX dX1_regardOf_53 rfl ?_
          refine s_istore hX dX1_regardOf_55 (Nat.le_of_ble_eq_true rfl) ?_
          refine s_iload_n hX dX1_regardOf_57 rfl ?_
          by_cases c52 : x0 = (1 : Int32)
          · have h := (if_pos c52).symm.trans h
            refine s_tabK hX 92 (1 : Int32) c52 dX1_regardOf_58 (by decide) (by decide) rfl (by decide) ?_
            refine s_iload hX dX1_regardOf_92 rfl ?_
            subst h
            exact s_iret hX hR dX1_regardOf_94
          · have h := (if_neg c52).symm.trans h
            by_cases c53 : x0 = (2 : Int32)
            · have h := (if_pos c53).symm.trans h
              refine s_tabK hX 95 (2 : Int32) c53 dX1_regardOf_58 (by decide) (by decide) rfl (by decide) ?_
              refine s_iload hX dX1_regardOf_95 rfl ?_
              refine s_iload_n hX dX1_regardOf_97 rfl ?_
              refine s_bi hX (10 : Int32) dX1_regardOf_98 (by decide) ?_
              refine s_idiv hX dX1_regardOf_100 (by decide) ?_
              refine s_iadd hX dX1_regardOf_101 ?_
              subst h
              exact s_iret hX hR dX1_regardOf_102
            · have h := (if_neg c53).symm.trans h
              by_cases c54 : x0 = (3 : Int32)
              · have h := (if_pos c54).symm.trans h
                refine s_tabK hX 103 (3 : Int32) c54 dX1_regardOf_58 (by decide) (by decide) rfl (by decide) ?_
                refine s_iload hX dX1_regardOf_103 rfl ?_
                subst h
                exact s_iret hX hR dX1_regardOf_105
              · have h := (if_neg c54).symm.trans h
                by_cases c55 : x0 = (4 : Int32)
                · have h := (if_pos c55).symm.trans h
                  refine s_tabK hX 106 (4 : Int32) c55 dX1_regardOf_58 (by decide) (by decide) rfl (by decide) ?_
                  refine s_ic hX (2 : Int32) dX1_regardOf_106 (by decide) ?_
                  refine s_iload hX dX1_regardOf_107 rfl ?_
                  refine s_imul hX dX1_regardOf_109 ?_
                  subst h
                  exact s_iret hX hR dX1_regardOf_110
                · have h := (if_neg c55).symm.trans h
                  by_cases c56 : x0 = (5 : Int32)
                  · have h := (if_pos c56).symm.trans h
                    refine s_tabK hX 111 (5 : Int32) c56 dX1_regardOf_58 (by decide) (by decide) rfl (by decide) ?_
                    refine s_iload hX dX1_regardOf_111 rfl ?_
                    refine s_ic hX (2 : Int32) dX1_regardOf_113 (by decide) ?_
                    refine s_idiv hX dX1_regardOf_114 (by decide) ?_
                    subst h
                    exact s_iret hX hR dX1_regardOf_115
                  · have h := (if_neg c56).symm.trans h
                    have wc52 := fs_ne (z := 1) c52 (by decide)
                    have wc53 := fs_ne (z := 2) c53 (by decide)
                    have wc54 := fs_ne (z := 3) c54 (by decide)
                    have wc55 := fs_ne (z := 4) c55 (by decide)
                    have wc56 := fs_ne (z := 5) c56 (by decide)
                    refine s_tabOut hX 116 dX1_regardOf_58 (by omega) (by decide) ?_
                    refine s_iload hX dX1_regardOf_116 rfl ?_
                    subst h
                    exact s_iret hX hR dX1_regardOf_118
        · have h := (if_neg c51).symm.trans h
          refine s_iload hX dX1_regardOf_46 rfl ?_
          refine s_ic hX (1 : Int32) dX1_regardOf_48 (by decide) ?_
          refine s_isub hX dX1_regardOf_49 ?_
          refine s_goto hX 55 dX1_regardOf_50 (by decide) ?_
          refine s_istore hX dX1_regardOf_55 (Nat.le_of_ble_eq_true rfl) ?_
          refine s_iload_n hX dX1_regardOf_57 rfl ?_
          by_cases c57 : x0 = (1 : Int32)
          · have h := (if_pos c57).symm.trans h
            refine s_tabK hX 92 (1 : Int32) c57 dX1_regardOf_58 (by decide) (by decide) rfl (by decide) ?_
            refine s_iload hX dX1_regardOf_92 rfl ?_
            subst h
            exact s_iret hX hR dX1_regardOf_94
          · have h := (if_neg c57).symm.trans h
            by_cases c58 : x0 = (2 : Int32)
            · have h := (if_pos c58).symm.trans h
              refine s_tabK hX 95 (2 : Int32) c58 dX1_regardOf_58 (by decide) (by decide) rfl (by decide) ?_
              refine s_iload hX dX1_regardOf_95 rfl ?_
              refine s_iload_n hX dX1_regardOf_97 rfl ?_
              refine s_bi hX (10 : Int32) dX1_regardOf_98 (by decide) ?_
              refine s_idiv hX dX1_regardOf_100 (by decide) ?_
              refine s_iadd hX dX1_regardOf_101 ?_
              subst h
              exact s_iret hX hR dX1_regardOf_102
            · have h := (if_neg c58).symm.trans h
              by_cases c59 : x0 = (3 : Int32)
              · have h := (if_pos c59).symm.trans h
                refine s_tabK hX 103 (3 : Int32) c59 dX1_regardOf_58 (by decide) (by decide) rfl (by decide) ?_
                refine s_iload hX dX1_regardOf_103 rfl ?_
                subst h
                exact s_iret hX hR dX1_regardOf_105
              · have h := (if_neg c59).symm.trans h
                by_cases c60 : x0 = (4 : Int32)
                · have h := (if_pos c60).symm.trans h
                  refine s_tabK hX 106 (4 : Int32) c60 dX1_regardOf_58 (by decide) (by decide) rfl (by decide) ?_
                  refine s_ic hX (2 : Int32) dX1_regardOf_106 (by decide) ?_
                  refine s_iload hX dX1_regardOf_107 rfl ?_
                  refine s_imul hX dX1_regardOf_109 ?_
                  subst h
                  exact s_iret hX hR dX1_regardOf_110
                · have h := (if_neg c60).symm.trans h
                  by_cases c61 : x0 = (5 : Int32)
                  · have h := (if_pos c61).symm.trans h
                    refine s_tabK hX 111 (5 : Int32) c61 dX1_regardOf_58 (by decide) (by decide) rfl (by decide) ?_
                    refine s_iload hX dX1_regardOf_111 rfl ?_
                    refine s_ic hX (2 : Int32) dX1_regardOf_113 (by decide) ?_
                    refine s_idiv hX dX1_regardOf_114 (by decide) ?_
                    subst h
                    exact s_iret hX hR dX1_regardOf_115
                  · have h := (if_neg c61).symm.trans h
                    have wc57 := fs_ne (z := 1) c57 (by decide)
                    have wc58 := fs_ne (z := 2) c58 (by decide)
                    have wc59 := fs_ne (z := 3) c59 (by decide)
                    have wc60 := fs_ne (z := 4) c60 (by decide)
                    have wc61 := fs_ne (z := 5) c61 (by decide)
                    refine s_tabOut hX 116 dX1_regardOf_58 (by omega) (by decide) ?_
                    refine s_iload hX dX1_regardOf_116 rfl ?_
                    subst h
                    exact s_iret hX hR dX1_regardOf_118

-- X1_weigh
def L_X1_weigh_7 (o : Nat) : Nat → Int32 → fsS → Option (fsS)
  | 0, _, _ => none
  | n0 + 1, y1, σ => if (σ o 0) ≤ y1 then some σ else fs_g (fs_in y1 6) (fs_g (fs_in y1 6) (fs_g (fs_in y1 6) (fs_g (fs_in y1 6) (fs_g (fs_in y1 6) (fs_g (fs_in y1 6) (fs_g (fs_in ((fs_u σ (7 * o - 14 + 5) y1.toNatClampNeg (F_X1_regardOf (σ (7 * o - 14 + 0) y1.toNatClampNeg) (σ (7 * o - 14 + 1) y1.toNatClampNeg) (σ (7 * o - 14 + 4) y1.toNatClampNeg) (σ (7 * o - 14 + 3) y1.toNatClampNeg))) o 8) 6) (if ((fs_u σ (7 * o - 14 + 5) y1.toNatClampNeg (F_X1_regardOf (σ (7 * o - 14 + 0) y1.toNatClampNeg) (σ (7 * o - 14 + 1) y1.toNatClampNeg) (σ (7 * o - 14 + 4) y1.toNatClampNeg) (σ (7 * o - 14 + 3) y1.toNatClampNeg))) (7 * o - 14 + 5) y1.toNatClampNeg) ≤ ((fs_u σ (7 * o - 14 + 5) y1.toNatClampNeg (F_X1_regardOf (σ (7 * o - 14 + 0) y1.toNatClampNeg) (σ (7 * o - 14 + 1) y1.toNatClampNeg) (σ (7 * o - 14 + 4) y1.toNatClampNeg) (σ (7 * o - 14 + 3) y1.toNatClampNeg))) (7 * o - 14 + 5) ((fs_u σ (7 * o - 14 + 5) y1.toNatClampNeg (F_X1_regardOf (σ (7 * o - 14 + 0) y1.toNatClampNeg) (σ (7 * o - 14 + 1) y1.toNatClampNeg) (σ (7 * o - 14 + 4) y1.toNatClampNeg) (σ (7 * o - 14 + 3) y1.toNatClampNeg))) o 8).toNatClampNeg) then L_X1_weigh_7 o n0 (y1 + (1 : Int32)) (fs_u σ (7 * o - 14 + 5) y1.toNatClampNeg (F_X1_regardOf (σ (7 * o - 14 + 0) y1.toNatClampNeg) (σ (7 * o - 14 + 1) y1.toNatClampNeg) (σ (7 * o - 14 + 4) y1.toNatClampNeg) (σ (7 * o - 14 + 3) y1.toNatClampNeg))) else L_X1_weigh_7 o n0 (y1 + (1 : Int32)) (fs_u (fs_u σ (7 * o - 14 + 5) y1.toNatClampNeg (F_X1_regardOf (σ (7 * o - 14 + 0) y1.toNatClampNeg) (σ (7 * o - 14 + 1) y1.toNatClampNeg) (σ (7 * o - 14 + 4) y1.toNatClampNeg) (σ (7 * o - 14 + 3) y1.toNatClampNeg))) o 8 y1))))))))
def L_X1_weigh_84 (o : Nat) : Nat → Int32 → fsS → Option (fsS)
  | 0, _, _ => none
  | n0 + 1, y1, σ => if (σ o 0) ≤ y1 then some σ else fs_g (fs_in (σ o 8) 6) (fs_g (fs_in y1 6) (fs_g (fs_in y1 6) (fs_g (fs_in y1 6) (L_X1_weigh_84 o n0 (y1 + (1 : Int32)) (fs_u (fs_u σ (7 * o - 14 + 6) y1.toNatClampNeg ((σ (7 * o - 14 + 5) (σ o 8).toNatClampNeg) - (σ (7 * o - 14 + 5) y1.toNatClampNeg))) o 9 (((fs_u σ (7 * o - 14 + 6) y1.toNatClampNeg ((σ (7 * o - 14 + 5) (σ o 8).toNatClampNeg) - (σ (7 * o - 14 + 5) y1.toNatClampNeg))) o 9) + ((fs_u σ (7 * o - 14 + 6) y1.toNatClampNeg ((σ (7 * o - 14 + 5) (σ o 8).toNatClampNeg) - (σ (7 * o - 14 + 5) y1.toNatClampNeg))) (7 * o - 14 + 6) y1.toNatClampNeg)))))))
def F_X1_weigh (o : Nat) (σ : fsS) : Option (fsS) := (L_X1_weigh_7 o fs_fu (0 : Int32) (fs_u σ o 8 (0 : Int32))).bind (fun q10 => (L_X1_weigh_84 o fs_fu (0 : Int32) (fs_u q10 o 9 (0 : Int32))).bind (fun q16 => some q16))
set_option maxRecDepth 20000 in
set_option maxHeartbeats 40000000 in
theorem l_X1_weigh_7 {o : Nat} (ho : fs_K o) {X : fsC} (hX : fs_ok cX1_weigh RX1 2 { frames := 1, cells := 0, slots := 0, locals := 26 } X) : ∀ (n : Nat) (y1 : Int32) (σ : fsS) (μ : fsL) (out : fsS) (_ : L_X1_weigh_7 o n y1 σ = some out) (k0 : fs_PW X 77 [some (.ref o), none] [] out μ), fs_PW X 7 [some (.ref o), some (.int y1)] [] σ μ := by
  intro n
  induction n with
  | zero =>
    intro y1 σ μ out h
    cases (show (none : Option (fsS)) = some out from h)
  | succ n0 ih =>
    intro y1 σ μ out h k0
    unfold L_X1_weigh_7 at h
    refine s_iload_n hX dX1_weigh_7 rfl ?_
    refine s_aload_n hX dX1_weigh_8 rfl ?_
    refine s_geti hX dX1_weigh_9 f_X1_9 (fs_kd0 ho) ?_
    refine s_ic_ge hX 77 dX1_weigh_12 (by decide) (fun c1 => ?_) (fun c1 => ?_)
    · have h := (if_pos c1).symm.trans h
      cases h
      refine fs_ma [true, false] ?_
      exact k0
    · have h := (if_neg c1).symm.trans h
      refine s_aload_n hX dX1_weigh_15 rfl ?_
      refine s_getr hX dX1_weigh_16 f_X1_31 (fs_kd6 ho) ?_
      refine s_iload_n hX dX1_weigh_19 rfl ?_
      refine s_aload_n hX dX1_weigh_20 rfl ?_
      refine s_getr hX dX1_weigh_21 f_X1_15 (fs_kd1 ho) ?_
      refine s_iload_n hX dX1_weigh_24 rfl ?_
      obtain ⟨g2, h⟩ := fs_gd h
      refine s_iald hX dX1_weigh_25 (fs_ik0 ho g2) ?_
      refine s_aload_n hX dX1_weigh_26 rfl ?_
      refine s_getr hX dX1_weigh_27 f_X1_19 (fs_kd2 ho) ?_
      refine s_iload_n hX dX1_weigh_30 rfl ?_
      obtain ⟨g3, h⟩ := fs_gd h
      refine s_iald hX dX1_weigh_31 (fs_ik1 ho g3) ?_
      refine s_aload_n hX dX1_weigh_32 rfl ?_
      refine s_getr hX dX1_weigh_33 f_X1_28 (fs_kd5 ho) ?_
      refine s_iload_n hX dX1_weigh_36 rfl ?_
      obtain ⟨g4, h⟩ := fs_gd h
      refine s_iald hX dX1_weigh_37 (fs_ik4 ho g4) ?_
      refine s_aload_n hX dX1_weigh_38 rfl ?_
      refine s_getr hX dX1_weigh_39 f_X1_25 (fs_kd4 ho) ?_
      refine s_iload_n hX dX1_weigh_42 rfl ?_
      obtain ⟨g5, h⟩ := fs_gd h
      refine s_iald hX dX1_weigh_43 (fs_ik3 ho g5) ?_
      refine s_callS hX (as := [.int (σ (7 * o - 14 + 0) y1.toNatClampNeg), .int (σ (7 * o - 14 + 1) y1.toNatClampNeg), .int (σ (7 * o - 14 + 4) y1.toNatClampNeg), .int (σ (7 * o - 14 + 3) y1.toNatClampNeg)]) dX1_weigh_44 k_X1_60 v_X1_regardOf (m_X1_regardOf (σ (7 * o - 14 + 0) y1.toNatClampNeg) (σ (7 * o - 14 + 1) y1.toNatClampNeg) (σ (7 * o - 14 + 4) y1.toNatClampNeg) (σ (7 * o - 14 + 3) y1.toNatClampNeg) σ μ _ rfl) ⟨rfl, rfl⟩ ⟨(Nat.le_of_ble_eq_true rfl), (Nat.le_of_ble_eq_true rfl)⟩ rfl rfl (Nat.le_of_ble_eq_true rfl) ?_
      obtain ⟨g6, h⟩ := fs_gd h
      refine s_iast hX dX1_weigh_47 (fs_ik5 ho g6) ?_
      refine s_aload_n hX dX1_weigh_48 rfl ?_
      refine s_getr hX dX1_weigh_49 f_X1_31 (fs_kd6 ho) ?_
      refine s_iload_n hX dX1_weigh_52 rfl ?_
      obtain ⟨g7, h⟩ := fs_gd h
      refine s_iald hX dX1_weigh_53 (fs_ik5 ho g7) ?_
      refine s_aload_n hX dX1_weigh_54 rfl ?_
      refine s_getr hX dX1_weigh_55 f_X1_31 (fs_kd6 ho) ?_
      refine s_aload_n hX dX1_weigh_58 rfl ?_
      refine s_geti hX dX1_weigh_59 f_X1_37 (fs_kd8 ho) ?_
      obtain ⟨g8, h⟩ := fs_gd h
      refine s_iald hX dX1_weigh_62 (fs_ik5 ho g8) ?_
      refine s_ic_le hX 71 dX1_weigh_63 (by decide) (fun c9 => ?_) (fun c9 => ?_)
      · have h := (if_pos c9).symm.trans h
        refine s_iinc hX (y1 + (1 : Int32)) dX1_weigh_71 rfl rfl (Nat.le_of_ble_eq_true rfl) ?_
        refine s_goto hX 7 dX1_weigh_74 (by decide) ?_
        refine fs_ma [true, true] ?_
        exact ih (y1 + (1 : Int32)) (fs_u σ (7 * o - 14 + 5) y1.toNatClampNeg (F_X1_regardOf (σ (7 * o - 14 + 0) y1.toNatClampNeg) (σ (7 * o - 14 + 1) y1.toNatClampNeg) (σ (7 * o - 14 + 4) y1.toNatClampNeg) (σ (7 * o - 14 + 3) y1.toNatClampNeg))) μ out h k0
      · have h := (if_neg c9).symm.trans h
        refine s_aload_n hX dX1_weigh_66 rfl ?_
        refine s_iload_n hX dX1_weigh_67 rfl ?_
        refine s_puti hX dX1_weigh_68 p_X1_37 (fs_kd8 ho) ?_
        refine s_iinc hX (y1 + (1 : Int32)) dX1_weigh_71 rfl rfl (Nat.le_of_ble_eq_true rfl) ?_
        refine s_goto hX 7 dX1_weigh_74 (by decide) ?_
        refine fs_ma [true, true] ?_
        exact ih (y1 + (1 : Int32)) (fs_u (fs_u σ (7 * o - 14 + 5) y1.toNatClampNeg (F_X1_regardOf (σ (7 * o - 14 + 0) y1.toNatClampNeg) (σ (7 * o - 14 + 1) y1.toNatClampNeg) (σ (7 * o - 14 + 4) y1.toNatClampNeg) (σ (7 * o - 14 + 3) y1.toNatClampNeg))) o 8 y1) μ out h k0
set_option maxRecDepth 20000 in
set_option maxHeartbeats 40000000 in
theorem l_X1_weigh_84 {o : Nat} (ho : fs_K o) {X : fsC} (hX : fs_ok cX1_weigh RX1 2 { frames := 1, cells := 0, slots := 0, locals := 26 } X) : ∀ (n : Nat) (y1 : Int32) (σ : fsS) (μ : fsL) (out : fsS) (_ : L_X1_weigh_84 o n y1 σ = some out) (k0 : fs_PW X 135 [none, none] [] out μ), fs_PW X 84 [some (.ref o), some (.int y1)] [] σ μ := by
  intro n
  induction n with
  | zero =>
    intro y1 σ μ out h
    cases (show (none : Option (fsS)) = some out from h)
  | succ n0 ih =>
    intro y1 σ μ out h k0
    unfold L_X1_weigh_84 at h
    refine s_iload_n hX dX1_weigh_84 rfl ?_
    refine s_aload_n hX dX1_weigh_85 rfl ?_
    refine s_geti hX dX1_weigh_86 f_X1_9 (fs_kd0 ho) ?_
    refine s_ic_ge hX 135 dX1_weigh_89 (by decide) (fun c11 => ?_) (fun c11 => ?_)
    · have h := (if_pos c11).symm.trans h
      cases h
      refine fs_ma [false, false] ?_
      exact k0
    · have h := (if_neg c11).symm.trans h
      refine s_aload_n hX dX1_weigh_92 rfl ?_
      refine s_getr hX dX1_weigh_93 f_X1_34 (fs_kd7 ho) ?_
      refine s_iload_n hX dX1_weigh_96 rfl ?_
      refine s_aload_n hX dX1_weigh_97 rfl ?_
      refine s_getr hX dX1_weigh_98 f_X1_31 (fs_kd6 ho) ?_
      refine s_aload_n hX dX1_weigh_101 rfl ?_
      refine s_geti hX dX1_weigh_102 f_X1_37 (fs_kd8 ho) ?_
      obtain ⟨g12, h⟩ := fs_gd h
      refine s_iald hX dX1_weigh_105 (fs_ik5 ho g12) ?_
      refine s_aload_n hX dX1_weigh_106 rfl ?_
      refine s_getr hX dX1_weigh_107 f_X1_31 (fs_kd6 ho) ?_
      refine s_iload_n hX dX1_weigh_110 rfl ?_
      obtain ⟨g13, h⟩ := fs_gd h
      refine s_iald hX dX1_weigh_111 (fs_ik5 ho g13) ?_
      refine s_isub hX dX1_weigh_112 ?_
      obtain ⟨g14, h⟩ := fs_gd h
      refine s_iast hX dX1_weigh_113 (fs_ik6 ho g14) ?_
      refine s_aload_n hX dX1_weigh_114 rfl ?_
      refine s_dup hX dX1_weigh_115 rfl ?_
      refine s_geti hX dX1_weigh_116 f_X1_40 (fs_kd9 ho) ?_
      refine s_aload_n hX dX1_weigh_119 rfl ?_
      refine s_getr hX dX1_weigh_120 f_X1_34 (fs_kd7 ho) ?_
      refine s_iload_n hX dX1_weigh_123 rfl ?_
      obtain ⟨g15, h⟩ := fs_gd h
      refine s_iald hX dX1_weigh_124 (fs_ik6 ho g15) ?_
      refine s_iadd hX dX1_weigh_125 ?_
      refine s_puti hX dX1_weigh_126 p_X1_40 (fs_kd9 ho) ?_
      refine s_iinc hX (y1 + (1 : Int32)) dX1_weigh_129 rfl rfl (Nat.le_of_ble_eq_true rfl) ?_
      refine s_goto hX 84 dX1_weigh_132 (by decide) ?_
      refine fs_ma [true, true] ?_
      exact ih (y1 + (1 : Int32)) (fs_u (fs_u σ (7 * o - 14 + 6) y1.toNatClampNeg ((σ (7 * o - 14 + 5) (σ o 8).toNatClampNeg) - (σ (7 * o - 14 + 5) y1.toNatClampNeg))) o 9 (((fs_u σ (7 * o - 14 + 6) y1.toNatClampNeg ((σ (7 * o - 14 + 5) (σ o 8).toNatClampNeg) - (σ (7 * o - 14 + 5) y1.toNatClampNeg))) o 9) + ((fs_u σ (7 * o - 14 + 6) y1.toNatClampNeg ((σ (7 * o - 14 + 5) (σ o 8).toNatClampNeg) - (σ (7 * o - 14 + 5) y1.toNatClampNeg))) (7 * o - 14 + 6) y1.toNatClampNeg))) μ out h k0
set_option maxRecDepth 20000 in
set_option maxHeartbeats 40000000 in
theorem m_X1_weigh (o : Nat) (ho : fs_K o) (σ : fsS) (μ : fsL) (out : fsS) (h : F_X1_weigh o σ = some out) : fs_Met yX1_weigh cX1_weigh 2 none { frames := 1, cells := 0, slots := 0, locals := 26 } [.ref o] σ μ none out μ := by
  unfold F_X1_weigh at h
  refine fs_intro (by decide +kernel) (Nat.le_of_ble_eq_true rfl) (fun X hX hR => ?_)
  show fs_PW X 0 [some (.ref o), none] [] σ μ
  refine s_aload_n hX dX1_weigh_0 rfl ?_
  refine s_ic hX (0 : Int32) dX1_weigh_1 (by decide) ?_
  refine s_puti hX dX1_weigh_2 p_X1_37 (fs_kd8 ho) ?_
  refine s_ic hX (0 : Int32) dX1_weigh_5 (by decide) ?_
  refine s_istore_n hX dX1_weigh_6 (Nat.le_of_ble_eq_true rfl) ?_
  obtain ⟨q10, e10, h⟩ := fs_bind h
  refine fs_ma [true, true] ?_
  refine l_X1_weigh_7 ho hX fs_fu (0 : Int32) (fs_u σ o 8 (0 : Int32)) μ q10 e10 ?_
  refine s_aload_n hX dX1_weigh_77 rfl ?_
  refine s_ic hX (0 : Int32) dX1_weigh_78 (by decide) ?_
  refine s_puti hX dX1_weigh_79 p_X1_40 (fs_kd9 ho) ?_
  refine s_ic hX (0 : Int32) dX1_weigh_82 (by decide) ?_
  refine s_istore_n hX dX1_weigh_83 (Nat.le_of_ble_eq_true rfl) ?_
  obtain ⟨q16, e16, h⟩ := fs_bind h
  refine fs_ma [true, true] ?_
  refine l_X1_weigh_84 ho hX fs_fu (0 : Int32) (fs_u q10 o 9 (0 : Int32)) μ q16 e16 ?_
  cases h
  exact s_vret hX hR dX1_weigh_135
