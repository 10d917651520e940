-- X1_pass
def L_X1_pass_8 (o : Nat) : Nat → Int32 → Int32 → fsS → Option (Int32 × fsS)
  | 0, _, _, _ => none
  | n0 + 1, y1, y2, σ => if (σ o 0) ≤ y2 then some (y1, σ) else fs_g (fs_in y2 6) (fs_g (fs_in y2 6) (fs_g (fs_in y2 6) (fs_g (fs_in y2 6) (if (if (0 : Int32) < (if (((σ (7 * o - 14 + 3) y2.toNatClampNeg) + (σ (7 * o - 14 + 6) y2.toNatClampNeg)) - (σ (7 * o - 14 + 2) y2.toNatClampNeg)) < (99 : Int32) then (((σ (7 * o - 14 + 3) y2.toNatClampNeg) + (σ (7 * o - 14 + 6) y2.toNatClampNeg)) - (σ (7 * o - 14 + 2) y2.toNatClampNeg)) else (99 : Int32)) then (if (((σ (7 * o - 14 + 3) y2.toNatClampNeg) + (σ (7 * o - 14 + 6) y2.toNatClampNeg)) - (σ (7 * o - 14 + 2) y2.toNatClampNeg)) < (99 : Int32) then (((σ (7 * o - 14 + 3) y2.toNatClampNeg) + (σ (7 * o - 14 + 6) y2.toNatClampNeg)) - (σ (7 * o - 14 + 2) y2.toNatClampNeg)) else (99 : Int32)) else (0 : Int32)) = (σ (7 * o - 14 + 3) y2.toNatClampNeg) then fs_g (fs_in y2 6) (L_X1_pass_8 o n0 y1 (y2 + (1 : Int32)) (fs_u σ (7 * o - 14 + 3) y2.toNatClampNeg (if (0 : Int32) < (if (((σ (7 * o - 14 + 3) y2.toNatClampNeg) + (σ (7 * o - 14 + 6) y2.toNatClampNeg)) - (σ (7 * o - 14 + 2) y2.toNatClampNeg)) < (99 : Int32) then (((σ (7 * o - 14 + 3) y2.toNatClampNeg) + (σ (7 * o - 14 + 6) y2.toNatClampNeg)) - (σ (7 * o - 14 + 2) y2.toNatClampNeg)) else (99 : Int32)) then (if (((σ (7 * o - 14 + 3) y2.toNatClampNeg) + (σ (7 * o - 14 + 6) y2.toNatClampNeg)) - (σ (7 * o - 14 + 2) y2.toNatClampNeg)) < (99 : Int32) then (((σ (7 * o - 14 + 3) y2.toNatClampNeg) + (σ (7 * o - 14 + 6) y2.toNatClampNeg)) - (σ (7 * o - 14 + 2) y2.toNatClampNeg)) else (99 : Int32)) else (0 : Int32)))) else fs_g (fs_in y2 6) (L_X1_pass_8 o n0 (1 : Int32) (y2 + (1 : Int32)) (fs_u σ (7 * o - 14 + 3) y2.toNatClampNeg (if (0 : Int32) < (if (((σ (7 * o - 14 + 3) y2.toNatClampNeg) + (σ (7 * o - 14 + 6) y2.toNatClampNeg)) - (σ (7 * o - 14 + 2) y2.toNatClampNeg)) < (99 : Int32) then (((σ (7 * o - 14 + 3) y2.toNatClampNeg) + (σ (7 * o - 14 + 6) y2.toNatClampNeg)) - (σ (7 * o - 14 + 2) y2.toNatClampNeg)) else (99 : Int32)) then (if (((σ (7 * o - 14 + 3) y2.toNatClampNeg) + (σ (7 * o - 14 + 6) y2.toNatClampNeg)) - (σ (7 * o - 14 + 2) y2.toNatClampNeg)) < (99 : Int32) then (((σ (7 * o - 14 + 3) y2.toNatClampNeg) + (σ (7 * o - 14 + 6) y2.toNatClampNeg)) - (σ (7 * o - 14 + 2) y2.toNatClampNeg)) else (99 : Int32)) else (0 : Int32))))))))
def F_X1_pass (o : Nat) (σ : fsS) : Option (Int32 × fsS) := (F_X1_weigh o σ).bind (fun q1 => (L_X1_pass_8 o fs_fu (0 : Int32) (0 : Int32) q1).bind (fun q10 => fs_g (q10.1 = 0 ∨ q10.1 = 1) (some (q10.1, q10.2))))
set_option maxRecDepth 20000 in
set_option maxHeartbeats 40000000 in
theorem l_X1_pass_8 {o : Nat} (ho : fs_K o) {X : fsC} (hX : fs_ok cX1_pass RX1 4 { frames := 2, cells := 0, slots := 0, locals := 47 } X) : ∀ (n : Nat) (y1 : Int32) (y2 : Int32) (σ : fsS) (μ : fsL) (out : Int32 × fsS) (_ : L_X1_pass_8 o n y1 y2 σ = some out) (k0 : fs_PW X 71 [none, some (.int out.1), none, none] [] out.2 μ), fs_PW X 8 [some (.ref o), some (.int y1), some (.int y2), none] [] σ μ := by
  intro n
  induction n with
  | zero =>
    intro y1 y2 σ μ out h
    cases (show (none : Option (Int32 × fsS)) = some out from h)
  | succ n0 ih =>
    intro y1 y2 σ μ out h k0
    unfold L_X1_pass_8 at h
    refine s_iload_n hX dX1_pass_8 rfl ?_
    refine s_aload_n hX dX1_pass_9 rfl ?_
    refine s_geti hX dX1_pass_10 f_X1_9 (fs_kd0 ho) ?_
    refine s_ic_ge hX 71 dX1_pass_13 (by decide) (fun c2 => ?_) (fun c2 => ?_)
    · have h := (if_pos c2).symm.trans h
      cases h
      refine fs_ma [false, true, false, false] ?_
      exact k0
    · have h := (if_neg c2).symm.trans h
      refine s_ic hX (0 : Int32) dX1_pass_16 (by decide) ?_
      refine s_bi hX (99 : Int32) dX1_pass_17 (by decide) ?_
      refine s_aload_n hX dX1_pass_19 rfl ?_
      refine s_getr hX dX1_pass_20 f_X1_25 (fs_kd4 ho) ?_
      refine s_iload_n hX dX1_pass_23 rfl ?_
      obtain ⟨g3, h⟩ := fs_gd h
      refine s_iald hX dX1_pass_24 (fs_ik3 ho g3) ?_
      refine s_aload_n hX dX1_pass_25 rfl ?_
      refine s_getr hX dX1_pass_26 f_X1_34 (fs_kd7 ho) ?_
      refine s_iload_n hX dX1_pass_29 rfl ?_
      obtain ⟨g4, h⟩ := fs_gd h
      refine s_iald hX dX1_pass_30 (fs_ik6 ho g4) ?_
      refine s_iadd hX dX1_pass_31 ?_
      refine s_aload_n hX dX1_pass_32 rfl ?_
      refine s_getr hX dX1_pass_33 f_X1_22 (fs_kd3 ho) ?_
      refine s_iload_n hX dX1_pass_36 rfl ?_
      obtain ⟨g5, h⟩ := fs_gd h
      refine s_iald hX dX1_pass_37 (fs_ik2 ho g5) ?_
      refine s_isub hX dX1_pass_38 ?_
      refine s_mmin hX dX1_pass_39 k_X1_67 rfl (Nat.le_of_ble_eq_true rfl) (Nat.le_of_ble_eq_true rfl) ?_
      refine s_mmax hX dX1_pass_42 k_X1_73 rfl (Nat.le_of_ble_eq_true rfl) (Nat.le_of_ble_eq_true rfl) ?_
      refine s_istore_n hX dX1_pass_45 (Nat.le_of_ble_eq_true rfl) ?_
      refine s_iload_n hX dX1_pass_46 rfl ?_
      refine s_aload_n hX dX1_pass_47 rfl ?_
      refine s_getr hX dX1_pass_48 f_X1_25 (fs_kd4 ho) ?_
      refine s_iload_n hX dX1_pass_51 rfl ?_
      obtain ⟨g6, h⟩ := fs_gd h
      refine s_iald hX dX1_pass_52 (fs_ik3 ho g6) ?_
      refine s_ic_eq hX 58 dX1_pass_53 (by decide) (fun c7 => ?_) (fun c7 => ?_)
      · have h := (if_pos c7).symm.trans h
        refine s_aload_n hX dX1_pass_58 rfl ?_
        refine s_getr hX dX1_pass_59 f_X1_25 (fs_kd4 ho) ?_
        refine s_iload_n hX dX1_pass_62 rfl ?_
        refine s_iload_n hX dX1_pass_63 rfl ?_
        obtain ⟨g8, h⟩ := fs_gd h
        refine s_iast hX dX1_pass_64 (fs_ik3 ho g8) ?_
        refine s_iinc hX (y2 + (1 : Int32)) dX1_pass_65 rfl rfl (Nat.le_of_ble_eq_true rfl) ?_
        refine s_goto hX 8 dX1_pass_68 (by decide) ?_
        refine fs_ma [true, true, true, false] ?_
        exact ih y1 (y2 + (1 : Int32)) (fs_u σ (7 * o - 14 + 3) y2.toNatClampNeg (if (0 : Int32) < (if (((σ (7 * o - 14 + 3) y2.toNatClampNeg) + (σ (7 * o - 14 + 6) y2.toNatClampNeg)) - (σ (7 * o - 14 + 2) y2.toNatClampNeg)) < (99 : Int32) then (((σ (7 * o - 14 + 3) y2.toNatClampNeg) + (σ (7 * o - 14 + 6) y2.toNatClampNeg)) - (σ (7 * o - 14 + 2) y2.toNatClampNeg)) else (99 : Int32)) then (if (((σ (7 * o - 14 + 3) y2.toNatClampNeg) + (σ (7 * o - 14 + 6) y2.toNatClampNeg)) - (σ (7 * o - 14 + 2) y2.toNatClampNeg)) < (99 : Int32) then (((σ (7 * o - 14 + 3) y2.toNatClampNeg) + (σ (7 * o - 14 + 6) y2.toNatClampNeg)) - (σ (7 * o - 14 + 2) y2.toNatClampNeg)) else (99 : Int32)) else (0 : Int32))) μ out h k0
      · have h := (if_neg c7).symm.trans h
        refine s_ic hX (1 : Int32) dX1_pass_56 (by decide) ?_
        refine s_istore_n hX dX1_pass_57 (Nat.le_of_ble_eq_true rfl) ?_
        refine s_aload_n hX dX1_pass_58 rfl ?_
        refine s_getr hX dX1_pass_59 f_X1_25 (fs_kd4 ho) ?_
        refine s_iload_n hX dX1_pass_62 rfl ?_
        refine s_iload_n hX dX1_pass_63 rfl ?_
        obtain ⟨g9, h⟩ := fs_gd h
        refine s_iast hX dX1_pass_64 (fs_ik3 ho g9) ?_
        refine s_iinc hX (y2 + (1 : Int32)) dX1_pass_65 rfl rfl (Nat.le_of_ble_eq_true rfl) ?_
        refine s_goto hX 8 dX1_pass_68 (by decide) ?_
        refine fs_ma [true, true, true, false] ?_
        exact ih (1 : Int32) (y2 + (1 : Int32)) (fs_u σ (7 * o - 14 + 3) y2.toNatClampNeg (if (0 : Int32) < (if (((σ (7 * o - 14 + 3) y2.toNatClampNeg) + (σ (7 * o - 14 + 6) y2.toNatClampNeg)) - (σ (7 * o - 14 + 2) y2.toNatClampNeg)) < (99 : Int32) then (((σ (7 * o - 14 + 3) y2.toNatClampNeg) + (σ (7 * o - 14 + 6) y2.toNatClampNeg)) - (σ (7 * o - 14 + 2) y2.toNatClampNeg)) else (99 : Int32)) then (if (((σ (7 * o - 14 + 3) y2.toNatClampNeg) + (σ (7 * o - 14 + 6) y2.toNatClampNeg)) - (σ (7 * o - 14 + 2) y2.toNatClampNeg)) < (99 : Int32) then (((σ (7 * o - 14 + 3) y2.toNatClampNeg) + (σ (7 * o - 14 + 6) y2.toNatClampNeg)) - (σ (7 * o - 14 + 2) y2.toNatClampNeg)) else (99 : Int32)) else (0 : Int32))) μ out h k0
set_option maxRecDepth 20000 in
set_option maxHeartbeats 40000000 in
theorem m_X1_pass (o : Nat) (ho : fs_K o) (σ : fsS) (μ : fsL) (out : Int32 × fsS) (h : F_X1_pass o σ = some out) : fs_Met yX1_pass cX1_pass 4 (some .boolean) { frames := 2, cells := 0, slots := 0, locals := 47 } [.ref o] σ μ (some (.int out.1)) out.2 μ := by
  unfold F_X1_pass at h
  refine fs_intro (by decide +kernel) (Nat.le_of_ble_eq_true rfl) (fun X hX hR => ?_)
  show fs_PW X 0 [some (.ref o), none, none, none] [] σ μ
  refine s_aload_n hX dX1_pass_0 rfl ?_
  obtain ⟨q1, e1, h⟩ := fs_bind h
  refine s_cV hX [] dX1_pass_1 k_X1_64 v_X1_weigh (m_X1_weigh o ho σ μ q1 e1) (fs_K_is ho) fs_c1 ⟨rfl, rfl⟩ ⟨(Nat.le_of_ble_eq_true rfl), (Nat.le_of_ble_eq_true rfl)⟩ rfl rfl (Nat.le_of_ble_eq_true rfl) ?_
  refine s_ic hX (0 : Int32) dX1_pass_4 (by decide) ?_
  refine s_istore_n hX dX1_pass_5 (Nat.le_of_ble_eq_true rfl) ?_
  refine s_ic hX (0 : Int32) dX1_pass_6 (by decide) ?_
  refine s_istore_n hX dX1_pass_7 (Nat.le_of_ble_eq_true rfl) ?_
  obtain ⟨q10, e10, h⟩ := fs_bind h
  refine fs_ma [true, true, true, false] ?_
  refine l_X1_pass_8 ho hX fs_fu (0 : Int32) (0 : Int32) q1 μ q10 e10 ?_
  refine s_iload_n hX dX1_pass_71 rfl ?_
  obtain ⟨g11, h⟩ := fs_gd h
  cases h
  exact s_zret hX g11 hR dX1_pass_72

-- X0_perform
def F_X0_perform (x1 : Int32) (σ : fsS) : Option (fsS) := if (σ 5 0) ≤ ((x1 >>> ((3 : Int32) &&& 31)) &&& (7 : Int32)) then some σ else if ((x1 >>> ((6 : Int32) &&& 31)) &&& (7 : Int32)) < (σ 5 0) then if (x1 &&& (7 : Int32)) = (0 : Int32) then (F_X1_pass 5 σ).bind (fun q4 => some (fs_u q4.2 3 2 ((q4.2 3 2) + (1 : Int32)))) else if (x1 &&& (7 : Int32)) = (1 : Int32) then fs_g (fs_in ((x1 >>> ((3 : Int32) &&& 31)) &&& (7 : Int32)) 6) (fs_g (fs_in ((x1 >>> ((3 : Int32) &&& 31)) &&& (7 : Int32)) 6) (some (fs_u σ 25 ((x1 >>> ((3 : Int32) &&& 31)) &&& (7 : Int32)).toNatClampNeg ((σ 25 ((x1 >>> ((3 : Int32) &&& 31)) &&& (7 : Int32)).toNatClampNeg) + (1 : Int32))))) else if (x1 &&& (7 : Int32)) = (2 : Int32) then fs_g (fs_in ((x1 >>> ((3 : Int32) &&& 31)) &&& (7 : Int32)) 6) (some (fs_u σ 25 ((x1 >>> ((3 : Int32) &&& 31)) &&& (7 : Int32)).toNatClampNeg (0 : Int32))) else if (x1 &&& (7 : Int32)) = (3 : Int32) then fs_g (fs_in ((x1 >>> ((3 : Int32) &&& 31)) &&& (7 : Int32)) 6) (fs_g (fs_in ((x1 >>> ((3 : Int32) &&& 31)) &&& (7 : Int32)) 6) (fs_g (fs_in ((x1 >>> ((6 : Int32) &&& 31)) &&& (7 : Int32)) 6) (fs_g (fs_in ((x1 >>> ((6 : Int32) &&& 31)) &&& (7 : Int32)) 6) (some (fs_u (fs_u σ 24 ((x1 >>> ((3 : Int32) &&& 31)) &&& (7 : Int32)).toNatClampNeg ((σ 24 ((x1 >>> ((3 : Int32) &&& 31)) &&& (7 : Int32)).toNatClampNeg) - (x1 >>> ((9 : Int32) &&& 31)))) 24 ((x1 >>> ((6 : Int32) &&& 31)) &&& (7 : Int32)).toNatClampNeg (if (((fs_u σ 24 ((x1 >>> ((3 : Int32) &&& 31)) &&& (7 : Int32)).toNatClampNeg ((σ 24 ((x1 >>> ((3 : Int32) &&& 31)) &&& (7 : Int32)).toNatClampNeg) - (x1 >>> ((9 : Int32) &&& 31)))) 24 ((x1 >>> ((6 : Int32) &&& 31)) &&& (7 : Int32)).toNatClampNeg) + (x1 >>> ((9 : Int32) &&& 31))) < (99 : Int32) then (((fs_u σ 24 ((x1 >>> ((3 : Int32) &&& 31)) &&& (7 : Int32)).toNatClampNeg ((σ 24 ((x1 >>> ((3 : Int32) &&& 31)) &&& (7 : Int32)).toNatClampNeg) - (x1 >>> ((9 : Int32) &&& 31)))) 24 ((x1 >>> ((6 : Int32) &&& 31)) &&& (7 : Int32)).toNatClampNeg) + (x1 >>> ((9 : Int32) &&& 31))) else (99 : Int32))))))) else some σ else some σ
set_option maxRecDepth 20000 in
set_option maxHeartbeats 40000000 in
theorem m_X0_perform (x1 : Int32)  (σ : fsS) (μ : fsL) (out : fsS) (h : F_X0_perform x1 σ = some out) : fs_Met yX0_perform cX0_perform 5 none { frames := 3, cells := 0, slots := 0, locals := 70 } [.ref 3, .int x1] σ μ none out μ := by
  unfold F_X0_perform at h
  refine fs_intro (by decide +kernel) (Nat.le_of_ble_eq_true rfl) (fun X hX hR => ?_)
  show fs_PW X 0 [some (.ref 3), some (.int x1), none, none, none] [] σ μ
  refine s_iload_n hX dX0_perform_0 rfl ?_
  refine s_ic hX (3 : Int32) dX0_perform_1 (by decide) ?_
  refine s_ishr hX dX0_perform_2 ?_
  refine s_bi hX (7 : Int32) dX0_perform_3 (by decide) ?_
  refine s_iand hX dX0_perform_5 ?_
  refine s_istore_n hX dX0_perform_6 (Nat.le_of_ble_eq_true rfl) ?_
  refine s_iload_n hX dX0_perform_7 rfl ?_
  refine s_bi hX (6 : Int32) dX0_perform_8 (by decide) ?_
  refine s_ishr hX dX0_perform_10 ?_
  refine s_bi hX (7 : Int32) dX0_perform_11 (by decide) ?_
  refine s_iand hX dX0_perform_13 ?_
  refine s_istore_n hX dX0_perform_14 (Nat.le_of_ble_eq_true rfl) ?_
  refine s_iload_n hX dX0_perform_15 rfl ?_
  refine s_bi hX (9 : Int32) dX0_perform_16 (by decide) ?_
  refine s_ishr hX dX0_perform_18 ?_
  refine s_istore hX dX0_perform_19 (Nat.le_of_ble_eq_true rfl) ?_
  refine s_iload_n hX dX0_perform_21 rfl ?_
  refine s_aload_n hX dX0_perform_22 rfl ?_
  refine s_getr hX dX0_perform_23 f_X0_18 rfl ?_
  refine s_geti hX dX0_perform_26 f_X0_61 rfl ?_
  refine s_ic_ge hX 43 dX0_perform_29 (by decide) (fun c1 => ?_) (fun c1 => ?_)
  · have h := (if_pos c1).symm.trans h
    cases h
    exact s_vret hX hR dX0_perform_43
  · have h := (if_neg c1).symm.trans h
    refine s_iload_n hX dX0_perform_32 rfl ?_
    refine s_aload_n hX dX0_perform_33 rfl ?_
    refine s_getr hX dX0_perform_34 f_X0_18 rfl ?_
    refine s_geti hX dX0_perform_37 f_X0_61 rfl ?_
    refine s_ic_lt hX 44 dX0_perform_40 (by decide) (fun c2 => ?_) (fun c2 => ?_)
    · have h := (if_pos c2).symm.trans h
      refine s_iload_n hX dX0_perform_44 rfl ?_
      refine s_bi hX (7 : Int32) dX0_perform_45 (by decide) ?_
      refine s_iand hX dX0_perform_47 ?_
      by_cases c3 : (x1 &&& (7 : Int32)) = (0 : Int32)
      · have h := (if_pos c3).symm.trans h
        refine s_tabK hX 80 (0 : Int32) c3 dX0_perform_48 (by decide) (by decide) rfl (by decide) ?_
        refine s_aload_n hX dX0_perform_80 rfl ?_
        refine s_getr hX dX0_perform_81 f_X0_18 rfl ?_
        obtain ⟨q4, e4, h⟩ := fs_bind h
        refine s_cV hX [] dX0_perform_84 k_X0_64 v_X1_pass (m_X1_pass 5 fs_K5 σ μ q4 e4) (fs_K_is fs_K5) fs_c1 ⟨rfl, rfl⟩ ⟨(Nat.le_of_ble_eq_true rfl), (Nat.le_of_ble_eq_true rfl)⟩ rfl rfl (Nat.le_of_ble_eq_true rfl) ?_
        refine s_pop hX dX0_perform_87 rfl ?_
        refine s_aload_n hX dX0_perform_88 rfl ?_
        refine s_dup hX dX0_perform_89 rfl ?_
        refine s_geti hX dX0_perform_90 f_X0_21 rfl ?_
        refine s_ic hX (1 : Int32) dX0_perform_93 (by decide) ?_
        refine s_iadd hX dX0_perform_94 ?_
        refine s_puti hX dX0_perform_95 p_X0_21 rfl ?_
        refine s_goto hX 173 dX0_perform_98 (by decide) ?_
        cases h
        exact s_vret hX hR dX0_perform_173
      · have h := (if_neg c3).symm.trans h
        by_cases c5 : (x1 &&& (7 : Int32)) = (1 : Int32)
        · have h := (if_pos c5).symm.trans h
          refine s_tabK hX 101 (1 : Int32) c5 dX0_perform_48 (by decide) (by decide) rfl (by decide) ?_
          refine s_aload_n hX dX0_perform_101 rfl ?_
          refine s_getr hX dX0_perform_102 f_X0_18 rfl ?_
          refine s_getr hX dX0_perform_105 f_X0_68 rfl ?_
          refine s_iload_n hX dX0_perform_108 rfl ?_
          refine s_dup2 hX dX0_perform_109 rfl rfl ?_
          obtain ⟨g6, h⟩ := fs_gd h
          refine s_iald hX dX0_perform_110 g6 ?_
          refine s_ic hX (1 : Int32) dX0_perform_111 (by decide) ?_
          refine s_iadd hX dX0_perform_112 ?_
          obtain ⟨g7, h⟩ := fs_gd h
          refine s_iast hX dX0_perform_113 g7 ?_
          refine s_goto hX 173 dX0_perform_114 (by decide) ?_
          cases h
          exact s_vret hX hR dX0_perform_173
        · have h := (if_neg c5).symm.trans h
          by_cases c8 : (x1 &&& (7 : Int32)) = (2 : Int32)
          · have h := (if_pos c8).symm.trans h
            refine s_tabK hX 117 (2 : Int32) c8 dX0_perform_48 (by decide) (by decide) rfl (by decide) ?_
            refine s_aload_n hX dX0_perform_117 rfl ?_
            refine s_getr hX dX0_perform_118 f_X0_18 rfl ?_
            refine s_getr hX dX0_perform_121 f_X0_68 rfl ?_
            refine s_iload_n hX dX0_perform_124 rfl ?_
            refine s_ic hX (0 : Int32) dX0_perform_125 (by decide) ?_
            obtain ⟨g9, h⟩ := fs_gd h
            refine s_iast hX dX0_perform_126 g9 ?_
            refine s_goto hX 173 dX0_perform_127 (by decide) ?_
            cases h
            exact s_vret hX hR dX0_perform_173
          · have h := (if_neg c8).symm.trans h
            by_cases c10 : (x1 &&& (7 : Int32)) = (3 : Int32)
            · have h := (if_pos c10).symm.trans h
              refine s_tabK hX 130 (3 : Int32) c10 dX0_perform_48 (by decide) (by decide) rfl (by decide) ?_
              refine s_aload_n hX dX0_perform_130 rfl ?_
              refine s_getr hX dX0_perform_131 f_X0_18 rfl ?_
              refine s_getr hX dX0_perform_134 f_X0_71 rfl ?_
              refine s_iload_n hX dX0_perform_137 rfl ?_
              refine s_dup2 hX dX0_perform_138 rfl rfl ?_
              obtain ⟨g11, h⟩ := fs_gd h
              refine s_iald hX dX0_perform_139 g11 ?_
              refine s_iload hX dX0_perform_140 rfl ?_
              refine s_isub hX dX0_perform_142 ?_
              obtain ⟨g12, h⟩ := fs_gd h
              refine s_iast hX dX0_perform_143 g12 ?_
              refine s_aload_n hX dX0_perform_144 rfl ?_
              refine s_getr hX dX0_perform_145 f_X0_18 rfl ?_
              refine s_getr hX dX0_perform_148 f_X0_71 rfl ?_
              refine s_iload_n hX dX0_perform_151 rfl ?_
              refine s_bi hX (99 : Int32) dX0_perform_152 (by decide) ?_
              refine s_aload_n hX dX0_perform_154 rfl ?_
              refine s_getr hX dX0_perform_155 f_X0_18 rfl ?_
              refine s_getr hX dX0_perform_158 f_X0_71 rfl ?_
              refine s_iload_n hX dX0_perform_161 rfl ?_
              obtain ⟨g13, h⟩ := fs_gd h
              refine s_iald hX dX0_perform_162 g13 ?_
              refine s_iload hX dX0_perform_163 rfl ?_
              refine s_iadd hX dX0_perform_165 ?_
              refine s_mmin hX dX0_perform_166 k_X0_74 rfl (Nat.le_of_ble_eq_true rfl) (Nat.le_of_ble_eq_true rfl) ?_
              obtain ⟨g14, h⟩ := fs_gd h
              refine s_iast hX dX0_perform_169 g14 ?_
              refine s_goto hX 173 dX0_perform_170 (by decide) ?_
              cases h
              exact s_vret hX hR dX0_perform_173
            · have h := (if_neg c10).symm.trans h
              have wc3 := fs_ne (z := 0) c3 (by decide)
              have wc5 := fs_ne (z := 1) c5 (by decide)
              have wc8 := fs_ne (z := 2) c8 (by decide)
              have wc10 := fs_ne (z := 3) c10 (by decide)
              refine s_tabOut hX 173 dX0_perform_48 (by omega) (by decide) ?_
              cases h
              exact s_vret hX hR dX0_perform_173
    · have h := (if_neg c2).symm.trans h
      cases h
      exact s_vret hX hR dX0_perform_43

-- X0_replay
def L_X0_replay_23  : Nat → Int32 → Int32 → fsS → Option (fsS)
  | 0, _, _, _ => none
  | n0 + 1, y1, y2, σ => if y1 ≤ y2 then some σ else fs_g (fs_in y2 40) ((F_X0_perform (σ 12 y2.toNatClampNeg) σ).bind (fun q4 => L_X0_replay_23  n0 y1 (y2 + (1 : Int32)) q4))
def F_X0_replay (x1 : Int32) (σ : fsS) : Option (fsS) := (F_X1_take 5 4 σ).bind (fun q1 => (L_X0_replay_23  fs_fu x1 (0 : Int32) (fs_u (fs_u q1 3 2 (0 : Int32)) 3 3 x1)).bind (fun q5 => some q5))
set_option maxRecDepth 20000 in
set_option maxHeartbeats 40000000 in
theorem l_X0_replay_23   {X : fsC} (hX : fs_ok cX0_replay RX0 3 { frames := 4, cells := 0, slots := 0, locals := 94 } X) : ∀ (n : Nat) (y1 : Int32) (y2 : Int32) (σ : fsS) (μ : fsL) (out : fsS) (_ : L_X0_replay_23  n y1 y2 σ = some out) (k0 : fs_PW X 44 [none, none, none] [] out μ), fs_PW X 23 [some (.ref 3), some (.int y1), some (.int y2)] [] σ μ := by
  intro n
  induction n with
  | zero =>
    intro y1 y2 σ μ out h
    cases (show (none : Option (fsS)) = some out from h)
  | succ n0 ih =>
    intro y1 y2 σ μ out h k0
    unfold L_X0_replay_23 at h
    refine s_iload_n hX dX0_replay_23 rfl ?_
    refine s_iload_n hX dX0_replay_24 rfl ?_
    refine s_ic_ge hX 44 dX0_replay_25 (by decide) (fun c2 => ?_) (fun c2 => ?_)
    · have h := (if_pos c2).symm.trans h
      cases h
      refine fs_ma [false, false, false] ?_
      exact k0
    · have h := (if_neg c2).symm.trans h
      refine s_aload_n hX dX0_replay_28 rfl ?_
      refine s_aload_n hX dX0_replay_29 rfl ?_
      refine s_getr hX dX0_replay_30 f_X0_28 rfl ?_
      refine s_iload_n hX dX0_replay_33 rfl ?_
      obtain ⟨g3, h⟩ := fs_gd h
      refine s_iald hX dX0_replay_34 g3 ?_
      obtain ⟨q4, e4, h⟩ := fs_bind h
      refine s_cV hX [.int (σ 12 y2.toNatClampNeg)] dX0_replay_35 k_X0_58 v_X0_perform (m_X0_perform (σ 12 y2.toNatClampNeg) σ μ q4 e4) ⟨_, rfl⟩ fs_c0 ⟨rfl, rfl⟩ ⟨(Nat.le_of_ble_eq_true rfl), (Nat.le_of_ble_eq_true rfl)⟩ rfl rfl (Nat.le_of_ble_eq_true rfl) ?_
      refine s_iinc hX (y2 + (1 : Int32)) dX0_replay_38 rfl rfl (Nat.le_of_ble_eq_true rfl) ?_
      refine s_goto hX 23 dX0_replay_41 (by decide) ?_
      refine fs_ma [true, true, true] ?_
      exact ih y1 (y2 + (1 : Int32)) q4 μ out h k0
set_option maxRecDepth 20000 in
set_option maxHeartbeats 40000000 in
theorem m_X0_replay (x1 : Int32)  (σ : fsS) (μ : fsL) (out : fsS) (h : F_X0_replay x1 σ = some out) : fs_Met yX0_replay cX0_replay 3 none { frames := 4, cells := 0, slots := 0, locals := 94 } [.ref 3, .int x1] σ μ none out μ := by
  unfold F_X0_replay at h
  refine fs_intro (by decide +kernel) (Nat.le_of_ble_eq_true rfl) (fun X hX hR => ?_)
  show fs_PW X 0 [some (.ref 3), some (.int x1), none] [] σ μ
  refine s_aload_n hX dX0_replay_0 rfl ?_
  refine s_getr hX dX0_replay_1 f_X0_18 rfl ?_
  refine s_aload_n hX dX0_replay_4 rfl ?_
  refine s_getr hX dX0_replay_5 f_X0_12 rfl ?_
  obtain ⟨q1, e1, h⟩ := fs_bind h
  refine s_cV hX [.ref 4] dX0_replay_8 k_X0_46 v_X1_take (m_X1_take 5 4 fs_K5 fs_K4 σ μ q1 e1) (fs_K_is fs_K5) fs_c1 ⟨rfl, rfl⟩ ⟨(Nat.le_of_ble_eq_true rfl), (Nat.le_of_ble_eq_true rfl)⟩ rfl rfl (Nat.le_of_ble_eq_true rfl) ?_
  refine s_aload_n hX dX0_replay_11 rfl ?_
  refine s_ic hX (0 : Int32) dX0_replay_12 (by decide) ?_
  refine s_puti hX dX0_replay_13 p_X0_21 rfl ?_
  refine s_aload_n hX dX0_replay_16 rfl ?_
  refine s_iload_n hX dX0_replay_17 rfl ?_
  refine s_puti hX dX0_replay_18 p_X0_25 rfl ?_
  refine s_ic hX (0 : Int32) dX0_replay_21 (by decide) ?_
  refine s_istore_n hX dX0_replay_22 (Nat.le_of_ble_eq_true rfl) ?_
  obtain ⟨q5, e5, h⟩ := fs_bind h
  refine fs_ma [true, true, true] ?_
  refine l_X0_replay_23  hX fs_fu x1 (0 : Int32) (fs_u (fs_u q1 3 2 (0 : Int32)) 3 3 x1) μ q5 e5 ?_
  cases h
  exact s_vret hX hR dX0_replay_44

-- J7_fill_53178
def L_J7_fill_53178_5 (a0 : Nat) : Nat → Int32 → Int32 → Int32 → fsS → Option (fsS)
  | 0, _, _, _, _ => none
  | n0 + 1, y1, y2, y3, σ => if y3 ≤ y2 then some σ else fs_g (fs_in y2 (fs_len a0)) (L_J7_fill_53178_5 a0 n0 y1 (y2 + (1 : Int32)) y3 (fs_u σ a0 y2.toNatClampNeg y1))
def F_J7_fill_53178 (a0 : Nat) (x1 : Int32) (σ : fsS) : Option (fsS) := fs_g (¬ fs_len a0 = 0) ((L_J7_fill_53178_5 a0 fs_fu x1 (0 : Int32) (Int32.ofNat (fs_len a0)) σ).bind (fun q4 => some q4))
set_option maxRecDepth 20000 in
set_option maxHeartbeats 40000000 in
theorem l_J7_fill_53178_5 {a0 : Nat}  {X : fsC} (hX : fs_ok cJ7_fill_53178 RJ7 4 { frames := 0, cells := 0, slots := 0, locals := 0 } X) : ∀ (n : Nat) (y1 : Int32) (y2 : Int32) (y3 : Int32) (σ : fsS) (μ : fsL) (out : fsS) (_ : L_J7_fill_53178_5 a0 n y1 y2 y3 σ = some out) (k0 : fs_PW X 20 [none, none, none, none] [] out μ), fs_PW X 5 [some (.ref a0), some (.int y1), some (.int y2), some (.int y3)] [] σ μ := by
  intro n
  induction n with
  | zero =>
    intro y1 y2 y3 σ μ out h
    cases (show (none : Option (fsS)) = some out from h)
  | succ n0 ih =>
    intro y1 y2 y3 σ μ out h k0
    unfold L_J7_fill_53178_5 at h
    refine s_iload_n hX dJ7_fill_53178_5 rfl ?_
    refine s_iload_n hX dJ7_fill_53178_6 rfl ?_
    refine s_ic_ge hX 20 dJ7_fill_53178_7 (by decide) (fun c2 => ?_) (fun c2 => ?_)
    · have h := (if_pos c2).symm.trans h
      cases h
      refine fs_ma [false, false, false, false] ?_
      exact k0
    · have h := (if_neg c2).symm.trans h
      refine s_aload_n hX dJ7_fill_53178_10 rfl ?_
      refine s_iload_n hX dJ7_fill_53178_11 rfl ?_
      refine s_iload_n hX dJ7_fill_53178_12 rfl ?_
      obtain ⟨g3, h⟩ := fs_gd h
      refine s_iast hX dJ7_fill_53178_13 g3 ?_
      refine s_iinc hX (y2 + (1 : Int32)) dJ7_fill_53178_14 rfl rfl (Nat.le_of_ble_eq_true rfl) ?_
      refine s_goto hX 5 dJ7_fill_53178_17 (by decide) ?_
      refine fs_ma [true, true, true, true] ?_
      exact ih y1 (y2 + (1 : Int32)) y3 (fs_u σ a0 y2.toNatClampNeg y1) μ out h k0
set_option maxRecDepth 20000 in
set_option maxHeartbeats 40000000 in
theorem m_J7_fill_53178 (a0 : Nat) (x1 : Int32)  (σ : fsS) (μ : fsL) (out : fsS) (h : F_J7_fill_53178 a0 x1 σ = some out) : fs_Met yJ7_fill_53178 cJ7_fill_53178 4 none { frames := 0, cells := 0, slots := 0, locals := 0 } [.ref a0, .int x1] σ μ none out μ := by
  unfold F_J7_fill_53178 at h
  refine fs_intro (by decide +kernel) (Nat.le_of_ble_eq_true rfl) (fun X hX hR => ?_)
  show fs_PW X 0 [some (.ref a0), some (.int x1), none, none] [] σ μ
  refine s_ic hX (0 : Int32) dJ7_fill_53178_0 (by decide) ?_
  refine s_istore_n hX dJ7_fill_53178_1 (Nat.le_of_ble_eq_true rfl) ?_
  refine s_aload_n hX dJ7_fill_53178_2 rfl ?_
  obtain ⟨g1, h⟩ := fs_gd h
  refine s_alen hX dJ7_fill_53178_3 g1 ?_
  refine s_istore_n hX dJ7_fill_53178_4 (Nat.le_of_ble_eq_true rfl) ?_
  obtain ⟨q4, e4, h⟩ := fs_bind h
  refine fs_ma [true, true, true, true] ?_
  refine l_J7_fill_53178_5  hX fs_fu x1 (0 : Int32) (Int32.ofNat (fs_len a0)) σ μ q4 e4 ?_
  cases h
  exact s_vret hX hR dJ7_fill_53178_20

-- X0_found
def F_X0_found (o1 : Nat) (σ : fsS) : Option (fsS) := (F_X1_take 4 o1 σ).bind (fun q1 => (F_X0_replay (0 : Int32) q1).bind (fun q2 => (F_J7_fill_53178 13 (-1 : Int32) q2).bind (fun q3 => some q3)))
set_option maxRecDepth 20000 in
set_option maxHeartbeats 40000000 in
theorem m_X0_found (o1 : Nat) (ho1 : fs_K o1) (σ : fsS) (μ : fsL) (out : fsS) (h : F_X0_found o1 σ = some out) : fs_Met yX0_found cX0_found 2 none { frames := 5, cells := 0, slots := 0, locals := 116 } [.ref 3, .ref o1] σ μ none out μ := by
  unfold F_X0_found at h
  refine fs_intro (by decide +kernel) (Nat.le_of_ble_eq_true rfl) (fun X hX hR => ?_)
  show fs_PW X 0 [some (.ref 3), some (.ref o1)] [] σ μ
  refine s_aload_n hX dX0_found_0 rfl ?_
  refine s_getr hX dX0_found_1 f_X0_12 rfl ?_
  refine s_aload_n hX dX0_found_4 rfl ?_
  obtain ⟨q1, e1, h⟩ := fs_bind h
  refine s_cV hX [.ref o1] dX0_found_5 k_X0_46 v_X1_take (m_X1_take 4 o1 fs_K4 ho1 σ μ q1 e1) (fs_K_is fs_K4) fs_c1 ⟨rfl, rfl⟩ ⟨(Nat.le_of_ble_eq_true rfl), (Nat.le_of_ble_eq_true rfl)⟩ rfl rfl (Nat.le_of_ble_eq_true rfl) ?_
  refine s_aload_n hX dX0_found_8 rfl ?_
  refine s_ic hX (0 : Int32) dX0_found_9 (by decide) ?_
  obtain ⟨q2, e2, h⟩ := fs_bind h
  refine s_cV hX [.int (0 : Int32)] dX0_found_10 k_X0_50 v_X0_replay (m_X0_replay (0 : Int32) q1 μ q2 e2) ⟨_, rfl⟩ fs_c0 ⟨rfl, rfl⟩ ⟨(Nat.le_of_ble_eq_true rfl), (Nat.le_of_ble_eq_true rfl)⟩ rfl rfl (Nat.le_of_ble_eq_true rfl) ?_
  refine s_aload_n hX dX0_found_13 rfl ?_
  refine s_getr hX dX0_found_14 f_X0_37 rfl ?_
  refine s_ic hX (-1 : Int32) dX0_found_17 (by decide) ?_
  obtain ⟨q3, e3, h⟩ := fs_bind h
  refine s_callS hX (as := [.ref 13, .int (-1 : Int32)]) dX0_found_18 k_X0_40 v_J7_fill_53178 (m_J7_fill_53178 13 (-1 : Int32) q2 μ q3 e3) ⟨rfl, rfl⟩ ⟨(Nat.le_of_ble_eq_true rfl), (Nat.le_of_ble_eq_true rfl)⟩ rfl rfl (Nat.le_of_ble_eq_true rfl) ?_
  cases h
  exact s_vret hX hR dX0_found_21

-- X0_deed
def F_X0_deed (x0 : Int32) (x1 : Int32) (x2 : Int32) (x3 : Int32) : Int32 := (((x0 ||| (x1 <<< ((3 : Int32) &&& 31))) ||| (x2 <<< ((6 : Int32) &&& 31))) ||| (x3 <<< ((9 : Int32) &&& 31)))
set_option maxRecDepth 20000 in
set_option maxHeartbeats 40000000 in
theorem m_X0_deed (x0 : Int32) (x1 : Int32) (x2 : Int32) (x3 : Int32)  (σ : fsS) (μ : fsL) (out : Int32) (h : F_X0_deed x0 x1 x2 x3 = out) : fs_Met yX0_deed cX0_deed 4 (some .int) { frames := 0, cells := 0, slots := 0, locals := 0 } [.int x0, .int x1, .int x2, .int x3] σ μ (some (.int out)) σ μ := by
  unfold F_X0_deed at h
  refine fs_intro (by decide +kernel) (Nat.le_of_ble_eq_true rfl) (fun X hX hR => ?_)
  show fs_PW X 0 [some (.int x0), some (.int x1), some (.int x2), some (.int x3)] [] σ μ
  refine s_iload_n hX dX0_deed_0 rfl ?_
  refine s_iload_n hX dX0_deed_1 rfl ?_
  refine s_ic hX (3 : Int32) dX0_deed_2 (by decide) ?_
  refine s_ishl hX dX0_deed_3 ?_
  refine s_ior hX dX0_deed_4 ?_
  refine s_iload_n hX dX0_deed_5 rfl ?_
  refine s_bi hX (6 : Int32) dX0_deed_6 (by decide) ?_
  refine s_ishl hX dX0_deed_8 ?_
  refine s_ior hX dX0_deed_9 ?_
  refine s_iload_n hX dX0_deed_10 rfl ?_
  refine s_bi hX (9 : Int32) dX0_deed_11 (by decide) ?_
  refine s_ishl hX dX0_deed_13 ?_
  refine s_ior hX dX0_deed_14 ?_
  subst h
  exact s_iret hX hR dX0_deed_15

-- X0_wouldOverflow
def F_X0_wouldOverflow (x1 : Int32) (σ : fsS) : Int32 := if x1 ≤ ((40 : Int32) - (σ 3 3)) then (0 : Int32) else (1 : Int32)
theorem z_X0_wouldOverflow (x1 : Int32) (σ : fsS) : F_X0_wouldOverflow x1 σ = 0 ∨ F_X0_wouldOverflow x1 σ = 1 := by
  unfold F_X0_wouldOverflow
  (repeat' split) <;> first | exact Or.inl rfl | exact Or.inr rfl
set_option maxRecDepth 20000 in
set_option maxHeartbeats 40000000 in
theorem m_X0_wouldOverflow (x1 : Int32)  (σ : fsS) (μ : fsL) (out : Int32) (h : F_X0_wouldOverflow x1 σ = out) : fs_Met yX0_wouldOverflow cX0_wouldOverflow 2 (some .boolean) { frames := 0, cells := 0, slots := 0, locals := 0 } [.ref 3, .int x1] σ μ (some (.int out)) σ μ := by
  unfold F_X0_wouldOverflow at h
  refine fs_intro (by decide +kernel) (Nat.le_of_ble_eq_true rfl) (fun X hX hR => ?_)
  show fs_PW X 0 [some (.ref 3), some (.int x1)] [] σ μ
  refine s_iload_n hX dX0_wouldOverflow_0 rfl ?_
  refine s_bi hX (40 : Int32) dX0_wouldOverflow_1 (by decide) ?_
  refine s_aload_n hX dX0_wouldOverflow_3 rfl ?_
  refine s_geti hX dX0_wouldOverflow_4 f_X0_25 rfl ?_
  refine s_isub hX dX0_wouldOverflow_7 ?_
  refine s_ic_le hX 15 dX0_wouldOverflow_8 (by decide) (fun c1 => ?_) (fun c1 => ?_)
  · have h := (if_pos c1).symm.trans h
    refine s_ic hX (0 : Int32) dX0_wouldOverflow_15 (by decide) ?_
    subst h
    exact s_zret hX (Or.inl rfl) hR dX0_wouldOverflow_16
  · have h := (if_neg c1).symm.trans h
    refine s_ic hX (1 : Int32) dX0_wouldOverflow_11 (by decide) ?_
    refine s_goto hX 16 dX0_wouldOverflow_12 (by decide) ?_
    subst h
    exact s_zret hX (Or.inr rfl) hR dX0_wouldOverflow_16

-- X0_enter
def F_X0_enter (x1 : Int32) (σ : fsS) : Option (fsS) := if (F_X0_wouldOverflow (1 : Int32) σ) = 0 then fs_g (fs_in (σ 3 3) 40) ((F_X0_perform x1 (fs_u (fs_u σ 12 (σ 3 3).toNatClampNeg x1) 3 3 ((σ 3 3) + (1 : Int32)))).bind (fun q3 => some q3)) else some σ
set_option maxRecDepth 20000 in
set_option maxHeartbeats 40000000 in
theorem m_X0_enter (x1 : Int32)  (σ : fsS) (μ : fsL) (out : fsS) (h : F_X0_enter x1 σ = some out) : fs_Met yX0_enter cX0_enter 2 none { frames := 4, cells := 0, slots := 0, locals := 94 } [.ref 3, .int x1] σ μ none out μ := by
  unfold F_X0_enter at h
  refine fs_intro (by decide +kernel) (Nat.le_of_ble_eq_true rfl) (fun X hX hR => ?_)
  show fs_PW X 0 [some (.ref 3), some (.int x1)] [] σ μ
  refine s_aload_n hX dX0_enter_0 rfl ?_
  refine s_ic hX (1 : Int32) dX0_enter_1 (by decide) ?_
  refine s_cV hX [.int (1 : Int32)] dX0_enter_2 k_X0_54 v_X0_wouldOverflow (m_X0_wouldOverflow (1 : Int32) σ μ _ rfl) ⟨_, rfl⟩ fs_c0 ⟨rfl, rfl⟩ ⟨(Nat.le_of_ble_eq_true rfl), (Nat.le_of_ble_eq_true rfl)⟩ rfl rfl (Nat.le_of_ble_eq_true rfl) ?_
  refine s_if_eq hX 9 dX0_enter_5 (by decide) (fun c1 => ?_) (fun c1 => ?_)
  · have h := (if_pos c1).symm.trans h
    refine s_aload_n hX dX0_enter_9 rfl ?_
    refine s_getr hX dX0_enter_10 f_X0_28 rfl ?_
    refine s_aload_n hX dX0_enter_13 rfl ?_
    refine s_geti hX dX0_enter_14 f_X0_25 rfl ?_
    refine s_iload_n hX dX0_enter_17 rfl ?_
    obtain ⟨g2, h⟩ := fs_gd h
    refine s_iast hX dX0_enter_18 g2 ?_
    refine s_aload_n hX dX0_enter_19 rfl ?_
    refine s_dup hX dX0_enter_20 rfl ?_
    refine s_geti hX dX0_enter_21 f_X0_25 rfl ?_
    refine s_ic hX (1 : Int32) dX0_enter_24 (by decide) ?_
    refine s_iadd hX dX0_enter_25 ?_
    refine s_puti hX dX0_enter_26 p_X0_25 rfl ?_
    refine s_aload_n hX dX0_enter_29 rfl ?_
    refine s_iload_n hX dX0_enter_30 rfl ?_
    obtain ⟨q3, e3, h⟩ := fs_bind h
    refine s_cV hX [.int x1] dX0_enter_31 k_X0_58 v_X0_perform (m_X0_perform x1 (fs_u (fs_u σ 12 (σ 3 3).toNatClampNeg x1) 3 3 ((σ 3 3) + (1 : Int32))) μ q3 e3) ⟨_, rfl⟩ fs_c0 ⟨rfl, rfl⟩ ⟨(Nat.le_of_ble_eq_true rfl), (Nat.le_of_ble_eq_true rfl)⟩ rfl rfl (Nat.le_of_ble_eq_true rfl) ?_
    cases h
    exact s_vret hX hR dX0_enter_34
  · have h := (if_neg c1).symm.trans h
    cases h
    exact s_vret hX hR dX0_enter_8

-- X0_store
def F_X0_store (x1 : Int32) (σ : fsS) : Option (fsS) := fs_g (fs_in x1 3) (fs_g (fs_cp 12 (48 + x1.toNatClampNeg) (0 : Int32) (0 : Int32) (40 : Int32)) (fs_g (fs_in x1 3) (some (fs_u (fs_cy σ 12 (48 + x1.toNatClampNeg) (0 : Int32) (0 : Int32) (40 : Int32)) 13 x1.toNatClampNeg ((fs_cy σ 12 (48 + x1.toNatClampNeg) (0 : Int32) (0 : Int32) (40 : Int32)) 3 3)))))
set_option maxRecDepth 20000 in
set_option maxHeartbeats 40000000 in
theorem m_X0_store (x1 : Int32)  (σ : fsS) (μ : fsL) (out : fsS) (h : F_X0_store x1 σ = some out) : fs_Met yX0_store cX0_store 2 none { frames := 1, cells := 0, slots := 0, locals := 26 } [.ref 3, .int x1] σ μ none out μ := by
  unfold F_X0_store at h
  refine fs_intro (by decide +kernel) (Nat.le_of_ble_eq_true rfl) (fun X hX hR => ?_)
  show fs_PW X 0 [some (.ref 3), some (.int x1)] [] σ μ
  refine s_aload_n hX dX0_store_0 rfl ?_
  refine s_getr hX dX0_store_1 f_X0_28 rfl ?_
  refine s_ic hX (0 : Int32) dX0_store_4 (by decide) ?_
  refine s_aload_n hX dX0_store_5 rfl ?_
  refine s_getr hX dX0_store_6 f_X0_34 rfl ?_
  refine s_iload_n hX dX0_store_9 rfl ?_
  obtain ⟨g1, h⟩ := fs_gd h
  refine s_aald hX dX0_store_10 g1 ?_
  refine s_ic hX (0 : Int32) dX0_store_11 (by decide) ?_
  refine s_bi hX (40 : Int32) dX0_store_12 (by decide) ?_
  obtain ⟨g2, h⟩ := fs_gd h
  refine s_ac hX dX0_store_14 k_X0_80 g2 rfl (Nat.le_of_ble_eq_true rfl) (Nat.le_of_ble_eq_true rfl) ?_
  refine s_aload_n hX dX0_store_17 rfl ?_
  refine s_getr hX dX0_store_18 f_X0_37 rfl ?_
  refine s_iload_n hX dX0_store_21 rfl ?_
  refine s_aload_n hX dX0_store_22 rfl ?_
  refine s_geti hX dX0_store_23 f_X0_25 rfl ?_
  obtain ⟨g3, h⟩ := fs_gd h
  refine s_iast hX dX0_store_26 g3 ?_
  cases h
  exact s_vret hX hR dX0_store_27

-- X0_restore
def F_X0_restore (x1 : Int32) (σ : fsS) : Option (fsS) := fs_g (fs_in x1 3) (fs_g (fs_cp (48 + x1.toNatClampNeg) 12 (0 : Int32) (0 : Int32) (40 : Int32)) (fs_g (fs_in x1 3) ((F_X0_replay (σ 13 x1.toNatClampNeg) (fs_cy σ (48 + x1.toNatClampNeg) 12 (0 : Int32) (0 : Int32) (40 : Int32))).bind (fun q4 => some q4))))
set_option maxRecDepth 20000 in
set_option maxHeartbeats 40000000 in
theorem m_X0_restore (x1 : Int32)  (σ : fsS) (μ : fsL) (out : fsS) (h : F_X0_restore x1 σ = some out) : fs_Met yX0_restore cX0_restore 2 none { frames := 5, cells := 0, slots := 0, locals := 116 } [.ref 3, .int x1] σ μ none out μ := by
  unfold F_X0_restore at h
  refine fs_intro (by decide +kernel) (Nat.le_of_ble_eq_true rfl) (fun X hX hR => ?_)
  show fs_PW X 0 [some (.ref 3), some (.int x1)] [] σ μ
  refine s_aload_n hX dX0_restore_0 rfl ?_
  refine s_getr hX dX0_restore_1 f_X0_34 rfl ?_
  refine s_iload_n hX dX0_restore_4 rfl ?_
  obtain ⟨g1, h⟩ := fs_gd h
  refine s_aald hX dX0_restore_5 g1 ?_
  refine s_ic hX (0 : Int32) dX0_restore_6 (by decide) ?_
  refine s_aload_n hX dX0_restore_7 rfl ?_
  refine s_getr hX dX0_restore_8 f_X0_28 rfl ?_
  refine s_ic hX (0 : Int32) dX0_restore_11 (by decide) ?_
  refine s_bi hX (40 : Int32) dX0_restore_12 (by decide) ?_
  obtain ⟨g2, h⟩ := fs_gd h
  refine s_ac hX dX0_restore_14 k_X0_80 g2 rfl (Nat.le_of_ble_eq_true rfl) (Nat.le_of_ble_eq_true rfl) ?_
  refine s_aload_n hX dX0_restore_17 rfl ?_
  refine s_aload_n hX dX0_restore_18 rfl ?_
  refine s_getr hX dX0_restore_19 f_X0_37 rfl ?_
  refine s_iload_n hX dX0_restore_22 rfl ?_
  obtain ⟨g3, h⟩ := fs_gd h
  refine s_iald hX dX0_restore_23 g3 ?_
  obtain ⟨q4, e4, h⟩ := fs_bind h
  refine s_cV hX [.int (σ 13 x1.toNatClampNeg)] dX0_restore_24 k_X0_50 v_X0_replay (m_X0_replay (σ 13 x1.toNatClampNeg) (fs_cy σ (48 + x1.toNatClampNeg) 12 (0 : Int32) (0 : Int32) (40 : Int32)) μ q4 e4) ⟨_, rfl⟩ fs_c0 ⟨rfl, rfl⟩ ⟨(Nat.le_of_ble_eq_true rfl), (Nat.le_of_ble_eq_true rfl)⟩ rfl rfl (Nat.le_of_ble_eq_true rfl) ?_
  cases h
  exact s_vret hX hR dX0_restore_27

-- X0_allKept
def L_X0_allKept_4  : Nat → Int32 → Int32 → fsS → Option (Int32)
  | 0, _, _, _ => none
  | n0 + 1, y1, y2, σ => if (3 : Int32) ≤ y2 then some y1 else fs_g (fs_in y2 3) (if (σ 13 y2.toNatClampNeg) = (-1 : Int32) then L_X0_allKept_4  n0 y1 (y2 + (1 : Int32)) σ else L_X0_allKept_4  n0 (y1 + (1 : Int32)) (y2 + (1 : Int32)) σ)
def F_X0_allKept (σ : fsS) : Option (Int32) := (L_X0_allKept_4  fs_fu (0 : Int32) (0 : Int32) σ).bind (fun q4 => some q4)
set_option maxRecDepth 20000 in
set_option maxHeartbeats 40000000 in
theorem l_X0_allKept_4   {X : fsC} (hX : fs_ok cX0_allKept RX0 3 { frames := 0, cells := 0, slots := 0, locals := 0 } X) : ∀ (n : Nat) (y1 : Int32) (y2 : Int32) (σ : fsS) (μ : fsL) (out : Int32) (_ : L_X0_allKept_4  n y1 y2 σ = some out) (k0 : fs_PW X 28 [none, some (.int out), none] [] σ μ), fs_PW X 4 [some (.ref 3), some (.int y1), some (.int y2)] [] σ μ := by
  intro n
  induction n with
  | zero =>
    intro y1 y2 σ μ out h
    cases (show (none : Option (Int32)) = some out from h)
  | succ n0 ih =>
    intro y1 y2 σ μ out h k0
    unfold L_X0_allKept_4 at h
    refine s_iload_n hX dX0_allKept_4 rfl ?_
    refine s_ic hX (3 : Int32) dX0_allKept_5 (by decide) ?_
    refine s_ic_ge hX 28 dX0_allKept_6 (by decide) (fun c1 => ?_) (fun c1 => ?_)
    · have h := (if_pos c1).symm.trans h
      cases h
      refine fs_ma [false, true, false] ?_
      exact k0
    · have h := (if_neg c1).symm.trans h
      refine s_aload_n hX dX0_allKept_9 rfl ?_
      refine s_getr hX dX0_allKept_10 f_X0_37 rfl ?_
      refine s_iload_n hX dX0_allKept_13 rfl ?_
      obtain ⟨g2, h⟩ := fs_gd h
      refine s_iald hX dX0_allKept_14 g2 ?_
      refine s_ic hX (-1 : Int32) dX0_allKept_15 (by decide) ?_
      refine s_ic_eq hX 22 dX0_allKept_16 (by decide) (fun c3 => ?_) (fun c3 => ?_)
      · have h := (if_pos c3).symm.trans h
        refine s_iinc hX (y2 + (1 : Int32)) dX0_allKept_22 rfl rfl (Nat.le_of_ble_eq_true rfl) ?_
        refine s_goto hX 4 dX0_allKept_25 (by decide) ?_
        refine fs_ma [true, true, true] ?_
        exact ih y1 (y2 + (1 : Int32)) σ μ out h k0
      · have h := (if_neg c3).symm.trans h
        refine s_iinc hX (y1 + (1 : Int32)) dX0_allKept_19 rfl rfl (Nat.le_of_ble_eq_true rfl) ?_
        refine s_iinc hX (y2 + (1 : Int32)) dX0_allKept_22 rfl rfl (Nat.le_of_ble_eq_true rfl) ?_
        refine s_goto hX 4 dX0_allKept_25 (by decide) ?_
        refine fs_ma [true, true, true] ?_
        exact ih (y1 + (1 : Int32)) (y2 + (1 : Int32)) σ μ out h k0
set_option maxRecDepth 20000 in
set_option maxHeartbeats 40000000 in
theorem m_X0_allKept   (σ : fsS) (μ : fsL) (out : Int32) (h : F_X0_allKept  σ = some out) : fs_Met yX0_allKept cX0_allKept 3 (some .int) { frames := 0, cells := 0, slots := 0, locals := 0 } [.ref 3] σ μ (some (.int out)) σ μ := by
  unfold F_X0_allKept at h
  refine fs_intro (by decide +kernel) (Nat.le_of_ble_eq_true rfl) (fun X hX hR => ?_)
  show fs_PW X 0 [some (.ref 3), none, none] [] σ μ
  refine s_ic hX (0 : Int32) dX0_allKept_0 (by decide) ?_
  refine s_istore_n hX dX0_allKept_1 (Nat.le_of_ble_eq_true rfl) ?_
  refine s_ic hX (0 : Int32) dX0_allKept_2 (by decide) ?_
  refine s_istore_n hX dX0_allKept_3 (Nat.le_of_ble_eq_true rfl) ?_
  obtain ⟨q4, e4, h⟩ := fs_bind h
  refine fs_ma [true, true, true] ?_
  refine l_X0_allKept_4  hX fs_fu (0 : Int32) (0 : Int32) σ μ q4 e4 ?_
  refine s_iload_n hX dX0_allKept_28 rfl ?_
  cases h
  exact s_iret hX hR dX0_allKept_29

-- X1_kindByLetter
def F_X1_kindByLetter (x0 : Int32) : Int32 := if x0 = (106 : Int32) then (4 : Int32) else if x0 = (107 : Int32) then (0 : Int32) else if x0 = (108 : Int32) then (-1 : Int32) else if x0 = (109 : Int32) then (2 : Int32) else if x0 = (110 : Int32) then (-1 : Int32) else if x0 = (111 : Int32) then (-1 : Int32) else if x0 = (112 : Int32) then (3 : Int32) else if x0 = (113 : Int32) then (-1 : Int32) else if x0 = (114 : Int32) then (-1 : Int32) else if x0 = (115 : Int32) then (1 : Int32) else if x0 = (116 : Int32) then (-1 : Int32) else if x0 = (117 : Int32) then (5 : Int32) else (-1 : Int32)
set_option maxRecDepth 20000 in
set_option maxHeartbeats 40000000 in
theorem m_X1_kindByLetter (x0 : Int32)  (σ : fsS) (μ : fsL) (out : Int32) (h : F_X1_kindByLetter x0 = out) : fs_Met yX1_kindByLetter cX1_kindByLetter 1 (some .int) { frames := 0, cells := 0, slots := 0, locals := 0 } [.int x0] σ μ (some (.int out)) σ μ := by
  unfold F_X1_kindByLetter at h
  refine fs_intro (by decide +kernel) (Nat.le_of_ble_eq_true rfl) (fun X hX hR => ?_)
  show fs_PW X 0 [some (.int x0)] [] σ μ
  refine s_iload_n hX dX1_kindByLetter_0 rfl ?_
  by_cases c1 : x0 = (106 : Int32)
  · have h := (if_pos c1).symm.trans h
    refine s_tabK hX 72 (106 : Int32) c1 dX1_kindByLetter_1 (by decide) (by decide) rfl (by decide) ?_
    refine s_ic hX (4 : Int32) dX1_kindByLetter_72 (by decide) ?_
    subst h
    exact s_iret hX hR dX1_kindByLetter_73
  · have h := (if_neg c1).symm.trans h
    by_cases c2 : x0 = (107 : Int32)
    · have h := (if_pos c2).symm.trans h
      refine s_tabK hX 64 (107 : Int32) c2 dX1_kindByLetter_1 (by decide) (by decide) rfl (by decide) ?_
      refine s_ic hX (0 : Int32) dX1_kindByLetter_64 (by decide) ?_
      subst h
      exact s_iret hX hR dX1_kindByLetter_65
    · have h := (if_neg c2).symm.trans h
      by_cases c3 : x0 = (108 : Int32)
      · have h := (if_pos c3).symm.trans h
        refine s_tabK hX 76 (108 : Int32) c3 dX1_kindByLetter_1 (by decide) (by decide) rfl (by decide) ?_
        refine s_ic hX (-1 : Int32) dX1_kindByLetter_76 (by decide) ?_
        subst h
        exact s_iret hX hR dX1_kindByLetter_77
      · have h := (if_neg c3).symm.trans h
        by_cases c4 : x0 = (109 : Int32)
        · have h := (if_pos c4).symm.trans h
          refine s_tabK hX 68 (109 : Int32) c4 dX1_kindByLetter_1 (by decide) (by decide) rfl (by decide) ?_
          refine s_ic hX (2 : Int32) dX1_kindByLetter_68 (by decide) ?_
          subst h
          exact s_iret hX hR dX1_kindByLetter_69
        · have h := (if_neg c4).symm.trans h
          by_cases c5 : x0 = (110 : Int32)
          · have h := (if_pos c5).symm.trans h
            refine s_tabK hX 76 (110 : Int32) c5 dX1_kindByLetter_1 (by decide) (by decide) rfl (by decide) ?_
            refine s_ic hX (-1 : Int32) dX1_kindByLetter_76 (by decide) ?_
            subst h
            exact s_iret hX hR dX1_kindByLetter_77
          · have h := (if_neg c5).symm.trans h
            by_cases c6 : x0 = (111 : Int32)
            · have h := (if_pos c6).symm.trans h
              refine s_tabK hX 76 (111 : Int32) c6 dX1_kindByLetter_1 (by decide) (by decide) rfl (by decide) ?_
              refine s_ic hX (-1 : Int32) dX1_kindByLetter_76 (by decide) ?_
              subst h
              exact s_iret hX hR dX1_kindByLetter_77
            · have h := (if_neg c6).symm.trans h
              by_cases c7 : x0 = (112 : Int32)
              · have h := (if_pos c7).symm.trans h
                refine s_tabK hX 70 (112 : Int32) c7 dX1_kindByLetter_1 (by decide) (by decide) rfl (by decide) ?_
                refine s_ic hX (3 : Int32) dX1_kindByLetter_70 (by decide) ?_
                subst h
                exact s_iret hX hR dX1_kindByLetter_71
              · have h := (if_neg c7).symm.trans h
                by_cases c8 : x0 = (113 : Int32)
                · have h := (if_pos c8).symm.trans h
                  refine s_tabK hX 76 (113 : Int32) c8 dX1_kindByLetter_1 (by decide) (by decide) rfl (by decide) ?_
                  refine s_ic hX (-1 : Int32) dX1_kindByLetter_76 (by decide) ?_
                  subst h
                  exact s_iret hX hR dX1_kindByLetter_77
                · have h := (if_neg c8).symm.trans h
                  by_cases c9 : x0 = (114 : Int32)
                  · have h := (if_pos c9).symm.trans h
                    refine s_tabK hX 76 (114 : Int32) c9 dX1_kindByLetter_1 (by decide) (by decide) rfl (by decide) ?_
                    refine s_ic hX (-1 : Int32) dX1_kindByLetter_76 (by decide) ?_
                    subst h
                    exact s_iret hX hR dX1_kindByLetter_77
                  · have h := (if_neg c9).symm.trans h
                    by_cases c10 : x0 = (115 : Int32)
                    · have h := (if_pos c10).symm.trans h
                      refine s_tabK hX 66 (115 : Int32) c10 dX1_kindByLetter_1 (by decide) (by decide) rfl (by decide) ?_
                      refine s_ic hX (1 : Int32) dX1_kindByLetter_66 (by decide) ?_
                      subst h
                      exact s_iret hX hR dX1_kindByLetter_67
                    · have h := (if_neg c10).symm.trans h
                      by_cases c11 : x0 = (116 : Int32)
                      · have h := (if_pos c11).symm.trans h
                        refine s_tabK hX 76 (116 : Int32) c11 dX1_kindByLetter_1 (by decide) (by decide) rfl (by decide) ?_
                        refine s_ic hX (-1 : Int32) dX1_kindByLetter_76 (by decide) ?_
                        subst h
                        exact s_iret hX hR dX1_kindByLetter_77
                      · have h := (if_neg c11).symm.trans h
                        by_cases c12 : x0 = (117 : Int32)
                        · have h := (if_pos c12).symm.trans h
                          refine s_tabK hX 74 (117 : Int32) c12 dX1_kindByLetter_1 (by decide) (by decide) rfl (by decide) ?_
                          refine s_ic hX (5 : Int32) dX1_kindByLetter_74 (by decide) ?_
                          subst h
                          exact s_iret hX hR dX1_kindByLetter_75
                        · have h := (if_neg c12).symm.trans h
                          have wc1 := fs_ne (z := 106) c1 (by decide)
                          have wc2 := fs_ne (z := 107) c2 (by decide)
                          have wc3 := fs_ne (z := 108) c3 (by decide)
                          have wc4 := fs_ne (z := 109) c4 (by decide)
                          have wc5 := fs_ne (z := 110) c5 (by decide)
                          have wc6 := fs_ne (z := 111) c6 (by decide)
                          have wc7 := fs_ne (z := 112) c7 (by decide)
                          have wc8 := fs_ne (z := 113) c8 (by decide)
                          have wc9 := fs_ne (z := 114) c9 (by decide)
                          have wc10 := fs_ne (z := 115) c10 (by decide)
                          have wc11 := fs_ne (z := 116) c11 (by decide)
                          have wc12 := fs_ne (z := 117) c12 (by decide)
                          refine s_tabOut hX 76 dX1_kindByLetter_1 (by omega) (by decide) ?_
                          refine s_ic hX (-1 : Int32) dX1_kindByLetter_76 (by decide) ?_
                          subst h
                          exact s_iret hX hR dX1_kindByLetter_77
