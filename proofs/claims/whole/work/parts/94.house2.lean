/-- fill of the three kept -/
theorem w_fill13 (σ : fsS) : ∃ σ', F_J7_fill_53178 13 (-1) σ = some σ' ∧ (∀ k, k < 3 → σ' 13 k = -1) ∧ ∀ k j, ¬ k = 13 → σ' k j = σ k j := by
  have hl : fs_len 13 = 3 := rfl
  obtain ⟨σ1, a1, a2, a3⟩ := fs_loop (fun f (x : Int32 × fsS) => L_J7_fill_53178_5 13 f (-1) x.1 (nI 3) x.2) (fun i x => x.1 = nI i ∧ (∀ j, j < i → x.2 13 j = -1) ∧ ∀ k j, ¬ k = 13 → x.2 k j = σ k j) (fun τ => (∀ j, j < 3 → τ 13 j = -1) ∧ ∀ k j, ¬ k = 13 → τ k j = σ k j) 3 (by
    rintro f i ⟨y, τ⟩ hi ⟨hy, g1, g2⟩
    dsimp only at hy g1 g2 ⊢
    subst hy
    left
    refine ⟨(nI i + 1, fs_u τ 13 i (-1)), ⟨nI_1 i, fun j hj => ?_, fun k j q => ?_⟩, ?_⟩
    · dsimp only
      rw [fs_ug]
      by_cases e : j = i
      · rw [if_pos ⟨rfl, e⟩]
      · rw [if_neg (by omega), g1 j (by omega)]
    · dsimp only
      rw [fs_ug, if_neg (by omega), g2 k j q]
    · rw [L_J7_fill_53178_5, if_neg (nI_ge hi (by omega)), fs_gp (by rw [hl]; exact inI (by omega) (by omega)), nI_clamp (by omega)]) (by
    rintro f ⟨y, τ⟩ ⟨hy, g1, g2⟩
    dsimp only at hy g1 g2 ⊢
    subst hy
    refine ⟨τ, ?_, g1, g2⟩
    rw [L_J7_fill_53178_5, if_pos (nI_le (Nat.le_refl 3) (by omega))]) fs_fu 0 (0, σ) (Nat.zero_le _) (fs_fub _ (by omega)) ⟨rfl, fun j h => by omega, fun _ _ _ => rfl⟩
  dsimp only at a1
  refine ⟨σ1, ?_, a2, a3⟩
  unfold F_J7_fill_53178
  rw [fs_gp (by rw [hl]; decide), hl, show Int32.ofNat 3 = nI 3 from rfl, a1, Option.bind_some]
/-- a new HOUSE, on the class' side -/
theorem c_found {z : Nat} {σ : fsS} (h6 : σ 6 0 = nI z) : ∃ σ', F_X0_found 6 σ = some σ' ∧ σ' 4 0 = nI z ∧ σ' 5 0 = nI z ∧ (∀ q j, q < 5 → j < 6 → σ' (14 + q) j = σ (28 + q) j ∧ σ' (21 + q) j = σ (28 + q) j) ∧ σ' 3 2 = 0 ∧ σ' 3 3 = 0 ∧ (∀ k, k < 3 → σ' 13 k = -1) ∧ ∀ k j, ¬ ((k = 4 ∨ k = 5) ∧ j = 0) → ¬ (14 ≤ k ∧ k < 19) → ¬ (21 ≤ k ∧ k < 26) → ¬ (k = 3 ∧ (j = 2 ∨ j = 3)) → ¬ k = 13 → σ' k j = σ k j := by
  obtain ⟨σ1, a1, a2, a3, a4⟩ := w_take fs_K4 fs_K6 (by decide) σ
  obtain ⟨σ2, b1, b2, b3, b4⟩ := w_take fs_K5 fs_K4 (by decide) σ1
  obtain ⟨σ3, c1, c2, c3⟩ := w_fill13 (fs_u (fs_u σ2 3 2 0) 3 3 0)
  have hrep : F_X0_replay 0 σ1 = some (fs_u (fs_u σ2 3 2 0) 3 3 0) := by
    unfold F_X0_replay
    rw [b1, Option.bind_some, show fs_fu = 99999 + 1 from rfl, L_X0_replay_23, if_pos (by decide), Option.bind_some]
  have f1 : ∀ k j, ¬ k = 13 → ¬ (k = 3 ∧ (j = 2 ∨ j = 3)) → σ3 k j = σ2 k j := fun k j q1 q2 => by rw [c3 k j q1, fs_ug, if_neg (by omega), fs_ug, if_neg (by omega)]
  have a3' : ∀ q j, q < 5 → j < 6 → σ1 (14 + q) j = σ (28 + q) j := fun q j h1 h2 => a3 q j h1 h2
  have b3' : ∀ q j, q < 5 → j < 6 → σ2 (21 + q) j = σ1 (14 + q) j := fun q j h1 h2 => b3 q j h1 h2
  refine ⟨σ3, ?_, ?_, ?_, fun q j h1 h2 => ⟨?_, ?_⟩, ?_, ?_, c2, fun k j h1 h2 h3 h4 h5 => ?_⟩
  · unfold F_X0_found
    rw [a1, Option.bind_some, hrep, Option.bind_some, c1, Option.bind_some]
  · rw [f1 _ _ (by omega) (by omega), b4 _ _ (by omega) (by omega), a2, h6]
  · rw [f1 _ _ (by omega) (by omega), b2, a2, h6]
  · rw [f1 _ _ (by omega) (by omega), b4 _ _ (by omega) (by omega), a3' q j h1 h2]
  · rw [f1 _ _ (by omega) (by omega), b3' q j h1 h2, a3' q j h1 h2]
  · rw [c3 _ _ (by omega), fs_ug, if_neg (by omega), fs_ug, if_pos ⟨rfl, rfl⟩]
  · rw [c3 _ _ (by omega), fs_ug, if_pos ⟨rfl, rfl⟩]
  · rw [f1 k j h5 h4, b4 k j (by omega) (by omega), a4 k j (by omega) (by omega)]
/-- a new HOUSE, on the reference's side -/
theorem m_found {z : Nat} (hz : z ≤ 6) {σ τ : fsS} (h9 : τ 51 9 = nI z) (hr : ∀ q, q < z → rc σ τ q) : ∃ τ', L_X4_house_47 fs_fu 0 τ = some τ' ∧ (∀ q, q < z → τ' 57 q = σ 28 q ∧ τ' 58 q = σ 29 q ∧ τ' 59 q = σ 30 q ∧ τ' 60 (1 + q) = σ 31 q) ∧ ∀ k j, ¬ (57 ≤ k ∧ k < 61) → τ' k j = τ k j := by
  obtain ⟨τ1, a1, a2, a3⟩ := fs_loop (fun f (x : Int32 × fsS) => L_X4_house_47 f x.1 x.2) (fun i x => x.1 = nI i ∧ (∀ q, q < i → x.2 57 q = σ 28 q ∧ x.2 58 q = σ 29 q ∧ x.2 59 q = σ 30 q ∧ x.2 60 (1 + q) = σ 31 q) ∧ ∀ k j, ¬ (57 ≤ k ∧ k < 61) → x.2 k j = τ k j) (fun ρ => (∀ q, q < z → ρ 57 q = σ 28 q ∧ ρ 58 q = σ 29 q ∧ ρ 59 q = σ 30 q ∧ ρ 60 (1 + q) = σ 31 q) ∧ ∀ k j, ¬ (57 ≤ k ∧ k < 61) → ρ k j = τ k j) z (by
    rintro f i ⟨y, ρ⟩ hi ⟨hy, g1, g2⟩
    dsimp only at hy g1 g2 ⊢
    subst hy
    left
    obtain ⟨k, l, w, d, e, hb, ⟨x1, x2, x3, x4, -⟩, m0, m1, m2, m3, m4⟩ := hr i hi
    have e0 : (5 : Int32) * nI i = nI (5 * i) := pk_mul 5 i
    have e1 : nI (5 * i) + (1 : Int32) = nI (5 * i + 1) := nI_add (5 * i) 1
    have e2 : nI (5 * i) + (2 : Int32) = nI (5 * i + 2) := nI_add (5 * i) 2
    have e3 : nI (5 * i) + (3 : Int32) = nI (5 * i + 3) := nI_add (5 * i) 3
    have e4 : nI (5 * i) + (4 : Int32) = nI (5 * i + 4) := nI_add (5 * i) 4
    have ep : (1 : Int32) + nI i = nI (1 + i) := nI_add 1 i
    have j0 : fs_in (nI (5 * i)) 30 := inI (by omega) (by omega)
    have j1 : fs_in (nI (5 * i + 1)) 30 := inI (by omega) (by omega)
    have j2 : fs_in (nI (5 * i + 2)) 30 := inI (by omega) (by omega)
    have j3 : fs_in (nI (5 * i + 3)) 30 := inI (by omega) (by omega)
    have j4 : fs_in (nI (5 * i + 4)) 30 := inI (by omega) (by omega)
    have ji : fs_in (nI i) 6 := inI (by omega) (by omega)
    have jp : fs_in (nI (1 + i)) 13 := inI (by omega) (by omega)
    have l0 : (nI (5 * i)).toNatClampNeg = 5 * i := nI_clamp (by omega)
    have l1 : (nI (5 * i + 1)).toNatClampNeg = 5 * i + 1 := nI_clamp (by omega)
    have l2 : (nI (5 * i + 2)).toNatClampNeg = 5 * i + 2 := nI_clamp (by omega)
    have l3 : (nI (5 * i + 3)).toNatClampNeg = 5 * i + 3 := nI_clamp (by omega)
    have l4 : (nI (5 * i + 4)).toNatClampNeg = 5 * i + 4 := nI_clamp (by omega)
    have li : (nI i).toNatClampNeg = i := nI_clamp (by omega)
    have lp : (nI (1 + i)).toNatClampNeg = 1 + i := nI_clamp (by omega)
    have s0 : ρ 65 (5 * i) = nI k := by rw [g2 _ _ (by omega), m0]
    have s1 : ρ 65 (5 * i + 1) = nI l := by rw [g2 _ _ (by omega), m1]
    have s2 : ρ 65 (5 * i + 2) = nI w := by rw [g2 _ _ (by omega), m2]
    have s3 : ρ 65 (5 * i + 3) = nI d := by rw [g2 _ _ (by omega), m3]
    have s4 : ρ 65 (5 * i + 4) = nI e := by rw [g2 _ _ (by omega), m4]
    have ev : (10 : Int32) * nI d + nI e = nI (10 * d + e) := by rw [show (10 : Int32) = nI 10 from rfl, pk_mul, nI_add]
    have hc : ¬ ρ 51 9 ≤ nI i := by rw [g2 _ _ (by omega), h9]; exact nI_ge hi (by omega)
    refine ⟨(nI i + 1, fs_u (fs_u (fs_u (fs_u ρ 57 i (nI k)) 58 i (nI l)) 59 i (nI w)) 60 (1 + i) (nI (10 * d + e))), ⟨nI_1 i, fun q hq => ?_, fun k j h => ?_⟩, ?_⟩
    · dsimp only
      by_cases eq : q = i
      · subst eq
        rw [x1, x2, x3, x4]
        refine ⟨?_, ?_, ?_, ?_⟩
        · rw [fs_ug, if_neg (by omega), fs_ug, if_neg (by omega), fs_ug, if_neg (by omega), fs_ug, if_pos ⟨rfl, rfl⟩]
        · rw [fs_ug, if_neg (by omega), fs_ug, if_neg (by omega), fs_ug, if_pos ⟨rfl, rfl⟩]
        · rw [fs_ug, if_neg (by omega), fs_ug, if_pos ⟨rfl, rfl⟩]
        · rw [fs_ug, if_pos ⟨rfl, rfl⟩]
      · obtain ⟨u1, u2, u3, u4⟩ := g1 q (by omega)
        have hf : ∀ k j, ¬ (57 ≤ k ∧ k < 60 ∧ j = i) → ¬ (k = 60 ∧ j = 1 + i) → fs_u (fs_u (fs_u (fs_u ρ 57 i (nI k)) 58 i (nI l)) 59 i (nI w)) 60 (1 + i) (nI (10 * d + e)) k j = ρ k j := fun k j p1 p2 => by
          rw [fs_ug, if_neg (by omega), fs_ug, if_neg (by omega), fs_ug, if_neg (by omega), fs_ug, if_neg (by omega)]
        refine ⟨?_, ?_, ?_, ?_⟩
        · rw [fs_ug, if_neg (by omega), fs_ug, if_neg (by omega), fs_ug, if_neg (by omega), fs_ug, if_neg (by omega), u1]
        · rw [fs_ug, if_neg (by omega), fs_ug, if_neg (by omega), fs_ug, if_neg (by omega), fs_ug, if_neg (by omega), u2]
        · rw [fs_ug, if_neg (by omega), fs_ug, if_neg (by omega), fs_ug, if_neg (by omega), fs_ug, if_neg (by omega), u3]
        · rw [fs_ug, if_neg (by omega), fs_ug, if_neg (by omega), fs_ug, if_neg (by omega), fs_ug, if_neg (by omega), u4]
    · dsimp only
      rw [fs_ug, if_neg (by omega), fs_ug, if_neg (by omega), fs_ug, if_neg (by omega), fs_ug, if_neg (by omega), g2 k j h]
    · rw [L_X4_house_47, if_neg hc]
      simp only [e0, e1, e2, e3, e4, ep, fs_gp j0, fs_gp j1, fs_gp j2, fs_gp j3, fs_gp j4, fs_gp ji, fs_gp jp, l0, l1, l2, l3, l4, li, lp, s0, s1, s2, s3, s4, ev]) (by
    rintro f ⟨y, ρ⟩ ⟨hy, g1, g2⟩
    dsimp only at hy g1 g2 ⊢
    subst hy
    refine ⟨ρ, ?_, g1, g2⟩
    rw [L_X4_house_47, if_pos (by rw [g2 _ _ (by omega), h9]; exact nI_le (Nat.le_refl z) (by omega))]) fs_fu 0 (0, τ) (Nat.zero_le _) (fs_fub _ (by omega)) ⟨rfl, fun q h => by omega, fun _ _ _ => rfl⟩
  dsimp only at a1
  exact ⟨τ1, a1, a2, a3⟩
set_option maxHeartbeats 4000000 in
theorem e_house : ec_house Rel := by
  intro a1 σ μ hr
  obtain ⟨n, d, q1, q2, q3, q4, q5, q6, hn0, hs, hk, hm⟩ := Rel_all hr
  by_cases hx : 0 ≤ a1.toInt ∧ a1.toInt < 4
  · obtain ⟨t, ht, rfl⟩ := ix (n := 4) (by decide) hx.1 hx.2
    obtain ⟨y1, y2⟩ := isText_y ht
    have c1 : fs_in (nI t) 4 := inI ht (by omega)
    have cl : (nI t).toNatClampNeg = t := nI_clamp (by omega)
    have hh := has_g 2 4 rfl (by decide) t ht σ
    obtain ⟨w1, w2⟩ := q3.2 t ht
    rcases w2 with w2 | ⟨L, v1, v2, v3⟩
    · rw [if_pos w2] at hh
      have F1 : F_X3_house (nI t) σ = some (-3, rf 1 σ) := by
        unfold F_X3_house
        rw [y1, if_neg i10, hh, Option.bind_some, if_pos rfl, rfu1, Option.bind_some]
      have F2 : F_X4_house (nI t) (rf 1 σ) = some (-3, mf 1 (rf 1 σ)) := by
        unfold F_X4_house
        rw [y2, if_neg i10, fs_gp c1, if_neg (by rw [cl, rf_55, w1, w2]; exact nzn), mfu1, Option.bind_some]
      exact ⟨-3, rf 1 σ, μ, mf 1 (rf 1 σ), μ, m_X3_house _ σ μ _ F1, m_X4_house _ _ μ _ F2, Rel_rf hr 1 (by decide) (by decide)⟩
    · rw [if_neg (by show ¬ σ 11 t = -1; rw [v2]; exact n1 L (by omega))] at hh
      have U1 : ∀ v (σ1 : fsS) o, F_X1_read 6 (44 + t) (nI L) σ = some (v, σ1) → (if v = (-9 : Int32) then (F_X0_found 6 σ1).bind (fun q8 => some ((q8 5 0), q8)) else some ((-4 : Int32), σ1)) = o → F_X3_house (nI t) σ = o := fun v σ1 o r1 r2 => by
        unfold F_X3_house
        rw [y1, if_neg i10, hh, Option.bind_some, if_neg i10, fs_gp c1, fs_gp c1, cl, v2, r1, Option.bind_some]
        exact r2
      have U2 : ∀ v (ρ τ1 : fsS) o, ρ 55 t = nI L → F_X4_reads (nI t) ρ = some (v, τ1) → (if v = (-9 : Int32) then (L_X4_house_47 fs_fu (0 : Int32) (fs_u τ1 51 9 (τ1 51 23))).bind (fun q16 => (F_X4_forgets q16).bind (fun q17 => some ((q17 51 9), q17))) else some ((-4 : Int32), τ1)) = o → F_X4_house (nI t) ρ = o := fun v ρ τ1 o r0 r1 r2 => by
        unfold F_X4_house
        rw [y2, if_neg i10, fs_gp c1, if_pos (by rw [cl, r0]; exact nz L (by omega)), r1, Option.bind_some]
        exact r2
      -- what the class' own run leaves is all that the reference's run needs of it
      obtain ⟨v, σ1, τ1, r1, r2, r3, r4, r5⟩ := rd_both ht v1 (by rw [w1, v2]) v3
      have h55 : σ1 55 t = nI L := by rw [r3 _ _ (by omega) (by omega), w1, v2]
      rcases r5 with ⟨q, hq, rfl⟩ | ⟨rfl, z, hz2, hz6, g1, g2, g3⟩
      · have hq9 : ¬ nI q = (-9 : Int32) := n9 (by omega)
        exact ⟨-4, σ1, μ, τ1, μ, m_X3_house _ σ μ _ (U1 _ _ _ r1 (if_neg hq9)), m_X4_house _ _ μ _ (U2 _ _ _ _ h55 r2 (if_neg hq9)), Rel_rd hr r3 r4⟩
      · obtain ⟨σ2, f1, f2, f3, f4, f5, f6, f7, f8⟩ := c_found g1
        have F1 : F_X3_house (nI t) σ = some (nI z, σ2) := U1 _ _ _ r1 (by rw [if_pos rfl, f1, Option.bind_some, f3])
        -- the reference begins at σ2: its reading, again
        have h51 : ∀ k j, 51 ≤ k → σ2 k j = σ1 k j := fun k j q => f8 k j (by omega) (by omega) (by omega) (by omega) (by omega)
        obtain ⟨τ2, r2', r4', g2', g3'⟩ : ∃ τ2, F_X4_reads (nI t) σ2 = some (-9, τ2) ∧ rdM σ2 τ2 ∧ τ2 51 23 = nI z ∧ ∀ q, q < z → rc σ1 τ2 q := by
          have ext : ∀ k j, 51 ≤ k → σ2 k j = σ k j := fun k j q => by rw [h51 k j q, r3 k j (by omega) (by omega)]
          have J := rd_from ht v1 (by rw [w1, v2]) v3 σ2 ext
          obtain ⟨v', σ1', τ', j1, j2, j3, j4, j5⟩ := J
          have e : (v', σ1') = (-9, σ1) := Option.some.inj (j1.symm.trans r1)
          cases e
          rcases j5 with ⟨q, hq, e⟩ | ⟨-, z', a1, a2, a3, a4, a5⟩
          · exact absurd e.symm (n9 (by omega))
          · have ez : z' = z := (nI_eq (by omega) (by omega)).mp (a3.symm.trans g1)
            subst ez
            exact ⟨τ', j2, j4, a4, a5⟩
        obtain ⟨τ3, k1, k2, k3⟩ := m_found hz6 (σ := σ1) (τ := fs_u τ2 51 9 (τ2 51 23)) (by rw [fs_ug, if_pos ⟨rfl, rfl⟩, g2']) (fun q hq => rc_fr (fun _ _ _ => rfl) (fun j _ => by rw [fs_ug, if_neg (by omega)]) (g3' q hq))
        obtain ⟨τ4, l1, l2, l3, l4, l5, l6⟩ := w_forgets τ3
        have h9 : τ4 51 9 = nI z := by rw [l6 _ _ (by omega) (by omega) (by omega), k3 _ _ (by omega), fs_ug, if_pos ⟨rfl, rfl⟩, g2']
        have F2 : F_X4_house (nI t) σ2 = some (nI z, τ4) := U2 _ _ _ _ (by rw [h51 _ _ (by omega), h55]) r2' (by rw [if_pos rfl, k1, Option.bind_some, l1, Option.bind_some, h9])
        -- the reference's cells behind it
        have fM : ∀ k j, ¬ (57 ≤ k ∧ k < 61) → ¬ (k = 51 ∧ (j = 9 ∨ j = 17 ∨ (19 ≤ j ∧ j ≤ 23))) → ¬ k = 64 → ¬ k = 65 → τ4 k j = σ2 k j := fun k j p1 p2 p3 p4 => by
          rw [l6 k j (by omega) (by omega) p3, k3 k j p1, fs_ug, if_neg (by omega), r4' k j (by unfold mrs; omega)]
        have fA : ∀ k j, ¬ (57 ≤ k ∧ k < 61) → ¬ (k = 51 ∧ (j = 9 ∨ j = 17 ∨ (19 ≤ j ∧ j ≤ 23))) → ¬ k = 64 → ¬ k = 65 → ¬ ((k = 4 ∨ k = 5) ∧ j = 0) → ¬ (14 ≤ k ∧ k < 19) → ¬ (21 ≤ k ∧ k < 26) → ¬ (k = 3 ∧ (j = 2 ∨ j = 3)) → ¬ k = 13 → ¬ k = 6 → ¬ (28 ≤ k ∧ k < 33) → τ4 k j = σ k j := fun k j p1 p2 p3 p4 p5 p6 p7 p8 p9 p10 p11 => by
          rw [fM k j p1 p2 p3 p4, f8 k j p5 p6 p7 p8 p9, r3 k j p10 p11]
        have hC : ∀ q i, q < 5 → i < 6 → τ4 (14 + q) i = σ1 (28 + q) i ∧ τ4 (21 + q) i = σ1 (28 + q) i := fun q i h1 h2 => by
          rw [fM _ _ (by omega) (by omega) (by omega) (by omega), fM _ _ (by omega) (by omega) (by omega) (by omega)]
          exact f4 q i h1 h2
        have hM : ∀ i, i < z → τ4 57 i = σ1 28 i ∧ τ4 58 i = σ1 29 i ∧ τ4 59 i = σ1 30 i ∧ τ4 60 (1 + i) = σ1 31 i := fun i hi => by
          obtain ⟨u1, u2, u3, u4⟩ := k2 i hi
          rw [l6 _ _ (by omega) (by omega) (by omega), l6 _ _ (by omega) (by omega) (by omega), l6 _ _ (by omega) (by omega) (by omega), l6 60 (1 + i) (by omega) (by omega) (by omega)]
          exact ⟨u1, u2, u3, u4⟩
        have c14 : ∀ i, i < 6 → τ4 14 i = σ1 28 i ∧ τ4 21 i = σ1 28 i := fun i hi => hC 0 i (by omega) hi
        have c15 : ∀ i, i < 6 → τ4 15 i = σ1 29 i ∧ τ4 22 i = σ1 29 i := fun i hi => hC 1 i (by omega) hi
        have c16 : ∀ i, i < 6 → τ4 16 i = σ1 30 i ∧ τ4 23 i = σ1 30 i := fun i hi => hC 2 i (by omega) hi
        have c17 : ∀ i, i < 6 → τ4 17 i = σ1 31 i ∧ τ4 24 i = σ1 31 i := fun i hi => hC 3 i (by omega) hi
        have c18 : ∀ i, i < 6 → τ4 18 i = σ1 32 i ∧ τ4 25 i = σ1 32 i := fun i hi => hC 4 i (by omega) hi
        have s0 : ∀ i, i < z → σ1 32 i = 0 := fun i hi => by
          obtain ⟨k, l, w, d, e, -, ⟨-, -, -, -, x5⟩, -⟩ := g3 i hi
          exact x5
        have s31 : ∀ i, i < z → ∃ a, a < 100 ∧ σ1 31 i = nI a := fun i hi => by
          obtain ⟨k, l, w, d, e, ⟨b1, b2, b3, b4, b5⟩, ⟨x1, x2, x3, x4, x5⟩, -⟩ := g3 i hi
          exact ⟨10 * d + e, by omega, x4⟩
        have n32 : τ4 3 2 = 0 := by rw [fM _ _ (by omega) (by omega) (by omega) (by omega), f5]
        refine ⟨nI z, σ2, μ, τ4, μ, m_X3_house _ σ μ _ F1, m_X4_house _ _ μ _ F2, z, 0, ?_, ?_, ?_, ?_, ?_, ?_⟩
        · exact RA_fr (fun k j q => fA k j (by omega) (by omega) (by omega) (by omega) (by omega) (by omega) (by omega) (by omega) (by omega) (by omega) (by omega)) q1
        · exact RR_fr (fun k j q => fA k j (by omega) (by omega) (by omega) (by omega) (by omega) (by omega) (by omega) (by omega) (by omega) (by omega) (by omega)) q2
        · exact RT_fr (fun k j q => fA k j (by omega) (by omega) (by omega) (by omega) (by omega) (by omega) (by omega) (by omega) (by omega) (by omega) (by omega)) q3
        · refine ⟨Or.inr hz2, hz6, by rw [fM _ _ (by omega) (by omega) (by omega) (by omega), f2], by rw [fM _ _ (by omega) (by omega) (by omega) (by omega), f3], h9, fun i hi => ?_⟩
          obtain ⟨k, l, w, d, e, ⟨b1, b2, b3, b4, b5⟩, ⟨x1, x2, x3, x4, x5⟩, -⟩ := g3 i hi
          obtain ⟨u1, u2, u3, u4⟩ := hM i hi
          rw [(c14 i (by omega)).1, (c14 i (by omega)).2, (c15 i (by omega)).1, (c15 i (by omega)).2, (c16 i (by omega)).1, (c16 i (by omega)).2, (c17 i (by omega)).1, (c18 i (by omega)).1, u1, u2, u3]
          exact ⟨⟨k, b1, x1⟩, ⟨l, b2, x2⟩, ⟨w, b3, x3⟩, ⟨10 * d + e, by omega, x4⟩, x5, rfl, rfl, rfl, rfl, rfl, rfl⟩
        · refine ⟨by omega, fun _ => rfl, by rw [fM _ _ (by omega) (by omega) (by omega) (by omega), f6]; rfl, by rw [l4]; rfl, ⟨fun j hj => ?_, fun j hj => by omega⟩, ?_, ?_, fun j hj => by omega⟩
          · have ej : j = 0 := by omega
            subst ej
            refine ⟨fun i hi => ?_, fun i hi => ⟨0, by omega, rfl⟩, ⟨0, by omega, rfl⟩⟩
            show ∃ a, a < 100 ∧ τ4 17 i = nI a
            rw [(c17 i (by omega)).1]
            exact s31 i hi
          · refine ⟨fun i hi => ?_, fun i hi => ?_, n32⟩
            · show τ4 24 i = τ4 17 i
              rw [(c17 i (by omega)).1, (c17 i (by omega)).2]
            · show τ4 25 i = 0
              rw [(c18 i (by omega)).2, s0 i hi]
          · refine ⟨fun i hi => ?_, fun i hi => ?_, l2⟩
            · show τ4 60 (1 + i) = τ4 17 i
              rw [(hM i hi).2.2.2, (c17 i (by omega)).1]
            · show τ4 60 (7 + i) = 0
              exact l3 i (by omega)
        · intro k hk3
          have e13 : τ4 13 k = -1 := by rw [fM _ _ (by omega) (by omega) (by omega) (by omega), f7 k hk3]
          exact ⟨by rw [l5 k hk3, e13], Or.inl e13⟩
  · obtain ⟨y1, y2⟩ := isText_n hx
    have F1 : F_X3_house a1 σ = some (-1, σ) := by
      unfold F_X3_house
      rw [y1, if_pos rfl]
    have F2 : F_X4_house a1 σ = some (-1, σ) := by
      unfold F_X4_house
      rw [y2, if_pos rfl]
    exact ⟨-1, σ, μ, σ, μ, m_X3_house _ σ μ _ F1, m_X4_house _ σ μ _ F2, hr⟩
