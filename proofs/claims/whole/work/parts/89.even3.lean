/-- the ROW of SOOT, on the class' side -/
theorem c_laySoot {n w r : Nat} (hn : n ≤ 6) (hw : w < 4096) (hr : r < 6) {σ : fsS} (hs : σ 5 0 = nI n) (h12 : σ 1 2 = 0) : ∃ σ', F_X3_laySoot (nI r) (nI w) σ = some σ' ∧ σ' 10 r = nI n ∧ (∀ i, i < n → σ' (38 + r) i = ev_f n w i) ∧ ∀ k j, ¬ k = 38 + r → ¬ (k = 10 ∧ j = r) → σ' k j = σ k j := by
  obtain ⟨σ1, f1, f2, f3, f4⟩ := lie_g 1 38 6 40 rfl rfl row_len (by decide) (by decide) (by decide) r n hr (by omega) σ 0 h12
  have hl : fs_len (38 + r) = 40 := row_len r hr
  obtain ⟨σ2, b1, b2, b3⟩ := fs_loop (fun f (x : Int32 × fsS) => L_X3_laySoot_20 f (nI r) (nI w) x.1 x.2) (fun k x => x.1 = nI k ∧ (∀ q, q < k → x.2 (38 + r) q = ev_f n w q) ∧ ∀ q y, ¬ q = 38 + r → x.2 q y = σ1 q y) (fun τ => (∀ q, q < n → τ (38 + r) q = ev_f n w q) ∧ ∀ q y, ¬ q = 38 + r → τ q y = σ1 q y) n (by
    rintro f k ⟨y, τ⟩ hk ⟨hy, g1, g2⟩
    dsimp only at hy g1 g2 ⊢
    subst hy
    left
    have c0 : τ 5 0 = nI n := by rw [g2 _ _ (by omega), f4 _ _ (by omega) (by omega), hs]
    have c3 : (nI r).toNatClampNeg = r := nI_clamp (by omega)
    refine ⟨(nI k + 1, fs_u τ (38 + r) k (ev_f n w k)), ⟨nI_1 k, fun q hq => ?_, fun q y hq => ?_⟩, ?_⟩
    · dsimp only
      rw [fs_ug]
      by_cases e : q = k
      · rw [if_pos ⟨rfl, e⟩, e]
      · rw [if_neg (fun z => e z.2), g1 q (by omega)]
    · dsimp only
      rw [fs_ug, if_neg (fun z => hq z.1), g2 q y hq]
    · rw [L_X3_laySoot_20, if_neg (by rw [c0]; exact nI_ge hk (by omega)), fs_gp (inI hr (by omega)), fs_gp (by rw [c3, hl]; exact inI (by omega) (by omega)), c3, nI_clamp (by omega), sootBy_e hn hw hk c0]) (by
    rintro f ⟨y, τ⟩ ⟨hy, g1, g2⟩
    dsimp only at hy g1 g2 ⊢
    subst hy
    refine ⟨τ, ?_, g1, g2⟩
    rw [L_X3_laySoot_20, if_pos (by rw [g2 _ _ (by omega), f4 _ _ (by omega) (by omega), hs]; exact nI_le (Nat.le_refl n) (by omega))]) fs_fu 0 (0, σ1) (Nat.zero_le _) (fs_fub _ (by omega)) ⟨rfl, fun q hq => by omega, fun _ _ _ => rfl⟩
  dsimp only at b1
  refine ⟨σ2, ?_, ?_, b2, fun k j h1 h2 => by rw [b3 k j h1, f4 k j h1 (by omega)]⟩
  · unfold F_X3_laySoot
    rw [hs, f1, Option.bind_some, b1, Option.bind_some]
  · rw [b3 _ _ (by omega)]
    exact f2
/-- the ROW of SOOT, on the reference's side -/
theorem m_laySoot {n w r : Nat} {kd lk wa s p : Nat → Int32} (hk : kb n kd lk wa s p) (hw : w < 4096) (hr : r < 6) (y6 : Int32) {σ : fsS} (hv : mv σ 60 n kd lk wa s p) : ∃ σ2 v σ3 σ4, F_X4_row (nI r) (nI n) σ = some (nI n, σ2) ∧ F_X4_laysSoot (nI w) σ2 = some (v, σ3) ∧ L_X4_even_182 fs_fu (nI r) y6 0 σ3 = some σ4 ∧ σ4 53 r = nI n ∧ (∀ i, i < n → σ4 52 (40 * r + i) = ev_f n w i) ∧ ∀ k j, ¬ k = 61 → ¬ k = 62 → ¬ (k = 53 ∧ j = r) → ¬ (k = 52 ∧ 40 * r ≤ j ∧ j < 40 * r + 40) → σ4 k j = σ k j := by
  have hn := hk.1
  have c3 : (nI r).toNatClampNeg = r := nI_clamp (by omega)
  obtain ⟨-, y2⟩ := isRow_y hr
  obtain ⟨σ2, g1, g2, g3⟩ := ml_row r hr (nI n) (fs_u σ 53 r (nI n))
  have F2 : F_X4_row (nI r) (nI n) σ = some (nI n, σ2) := by
    unfold F_X4_row
    rw [y2, if_neg i10, if_pos (show nI n ≤ (40 : Int32) from nI_le (b := 40) (by omega) (by omega)), if_pos (nI_pos' (by omega)), fs_gp (inI hr (by omega)), c3, g1]
    rfl
  have fr2 : ∀ k j, ¬ (k = 53 ∧ j = r) → ¬ (k = 52 ∧ 40 * r ≤ j ∧ j < 40 * r + 40) → σ2 k j = σ k j := fun k j h1 h2 => by rw [g3 k j h2, fs_ug, if_neg h1]
  obtain ⟨σ3, d1, d2⟩ := m_lays hk hw (mv_fr hv (fun k j q => fr2 k j (by omega) (by omega)))
  have h61 : ∀ i, i < n → σ3 61 (7 + i) = ev_f n w i := fun i hi => (d2.1.2 i hi).2.2.2.1
  obtain ⟨σ4, b1, b2, b3⟩ := fs_loop (fun f (x : Int32 × fsS) => L_X4_even_182 f (nI r) y6 x.1 x.2) (fun k x => x.1 = nI k ∧ (∀ q, q < k → x.2 52 (40 * r + q) = ev_f n w q) ∧ ∀ q y, ¬ (q = 52 ∧ 40 * r ≤ y ∧ y < 40 * r + 40) → x.2 q y = σ3 q y) (fun τ => (∀ q, q < n → τ 52 (40 * r + q) = ev_f n w q) ∧ ∀ q y, ¬ (q = 52 ∧ 40 * r ≤ y ∧ y < 40 * r + 40) → τ q y = σ3 q y) n (by
    rintro f k ⟨y, τ⟩ hk2 ⟨hy, g1, g2⟩
    dsimp only at hy g1 g2 ⊢
    subst hy
    left
    have e1 : (7 : Int32) + nI k = nI (7 + k) := nI_add 7 k
    refine ⟨(nI k + 1, fs_u τ 52 (40 * r + k) (ev_f n w k)), ⟨nI_1 k, fun q hq => ?_, fun q y hq => ?_⟩, ?_⟩
    · dsimp only
      rw [fs_ug]
      by_cases e : q = k
      · rw [if_pos ⟨rfl, by omega⟩, e]
      · rw [if_neg (by omega), g1 q (by omega)]
    · dsimp only
      rw [fs_ug, if_neg (by omega), g2 q y hq]
    · rw [L_X4_even_182, if_neg (by rw [g2 _ _ (by omega), d2.1.1]; exact nI_ge hk2 (by omega)), e1, mi_row, fs_gp (inI (by omega) (by omega)), fs_gp (inI (by omega) (by omega)), nI_clamp (by omega), nI_clamp (by omega), g2 61 _ (by omega), h61 k hk2]) (by
    rintro f ⟨y, τ⟩ ⟨hy, g1, g2⟩
    dsimp only at hy g1 g2 ⊢
    subst hy
    refine ⟨τ, ?_, g1, g2⟩
    rw [L_X4_even_182, if_pos (by rw [g2 _ _ (by omega), d2.1.1]; exact nI_le (Nat.le_refl n) (by omega))]) fs_fu 0 (0, σ3) (Nat.zero_le _) (fs_fub _ (by omega)) ⟨rfl, fun q hq => by omega, fun _ _ _ => rfl⟩
  dsimp only at b1
  refine ⟨σ2, _, σ3, σ4, F2, d1, b1, ?_, b2, fun k j h1 h2 h3 h4 => by rw [b3 k j h4, d2.2 k j h2 h1, fr2 k j h3 h4]⟩
  rw [b3 _ _ (by omega), d2.2 _ _ (by omega) (by omega), g3 _ _ (by omega), fs_ug, if_pos ⟨rfl, rfl⟩]
theorem e_even : ec_even Rel := by
  intro a1 a2 a3 a4 σ μ hr
  obtain ⟨n, d, q1, q2, q3, q4, q5, q6, hn0, hs, hk, hm⟩ := Rel_all hr
  have hn := hk.1
  have h46 := pow46 hn
  have t20 : (20 : Int32).toInt = 20 := rfl
  have T20 : (20 : Int64).toInt = 20 := rfl
  by_cases hx : (0 ≤ a1.toInt ∧ a1.toInt < n) ∧ (0 ≤ a2.toInt ∧ a2.toInt < n) ∧ ¬ a1 = a2
  · obtain ⟨hx1, hx2, hne⟩ := hx
    obtain ⟨i, hi, rfl⟩ := ix (n := n) (by omega) hx1.1 hx1.2
    obtain ⟨j, hj, rfl⟩ := ix (n := n) (by omega) hx2.1 hx2.2
    have hij : ¬ i = j := fun h => hne (by rw [h])
    have y1 := two_y hn hi hj hij hs
    by_cases h3 : 0 ≤ a3.toInt ∧ a3.toInt < 21
    · obtain ⟨m, hm3, rfl⟩ := ix (n := 21) (by omega) h3.1 h3.2
      have em : (nI m).toInt = m := nI_toInt (by omega)
      have m1 : ¬ nI m < 0 := nI_pos (by omega)
      have m2 : ¬ (20 : Int32) < nI m := by rw [i_lt, em, t20]; omega
      have m3 : F_X4_in (nI m).toInt64 0 20 = 1 := in_y (by rw [em, Z0, T20]; omega)
      by_cases hrow : 0 ≤ a4.toInt ∧ a4.toInt < 6
      · obtain ⟨r, hr6, rfl⟩ := ix (n := 6) (by decide) hrow.1 hrow.2
        obtain ⟨r1, r2⟩ := isRow_y hr6
        obtain ⟨⟨o, v, w, σ1⟩, b1, b2, b3⟩ := c_e52 hn hi hj (m := m) (by omega) (nI r) h46 hs
        dsimp only at b2 b3
        have V1 : ∀ z, (if o = 0 then (F_X3_laySoot (nI r) w σ1).bind (fun q15 => some (v, q15)) else some ((-9 : Int32), σ1)) = z → F_X3_even (nI i) (nI j) (nI m) (nI r) σ = z := fun z h => by
          unfold F_X3_even
          rw [y1, if_neg i10, if_neg m1, if_neg m2, r1, if_neg i10, hs, shl2 n hn, b1, Option.bind_some]
          exact h
        have U1 : ∀ ρ : fsS, mv ρ 60 n (σ 21) (σ 22) (σ 23) (σ 25) (σ 24) → ∀ o' z, L_X4_even_54 fs_fu (nI i) (nI j) (nI m) (nI r) (-9) 1000000 0 ρ = some o' → (if o'.1 = (-9 : Int32) then some ((-9 : Int32), o'.2.2) else (F_X4_row (nI r) (o'.2.2 51 9) o'.2.2).bind (fun q19 => (F_X4_laysSoot o'.1 q19.2).bind (fun q20 => (L_X4_even_182 fs_fu (nI r) o'.2.1 (0 : Int32) q20.2).bind (fun q24 => some (o'.2.1, q24))))) = z → F_X4_even (nI i) (nI j) (nI m) (nI r) ρ = z := fun ρ hρ o' z h1 h2 => by
          unfold F_X4_even
          rw [iso_y hn hi hρ.1, if_neg i10, iso_y hn hj hρ.1, if_neg i10, if_neg hne, m3, if_neg i10, r2, if_neg i10, h1, Option.bind_some]
          exact h2
        have hm1 : mv σ1 60 n (σ 21) (σ 22) (σ 23) (σ 25) (σ 24) := mv_fr hm (fun k x q => b2 k x (by omega))
        rcases b3 with ⟨rfl, b3⟩ | ⟨rfl, w0, w1, rfl, rfl, w4, w5⟩
        · obtain ⟨⟨o', v', τ⟩, d1, d2, d3⟩ := m_e54 hk hi hj (m := m) (by omega) (nI r) hm1
          dsimp only at d2 d3
          rcases d3 with ⟨rfl, -⟩ | ⟨b, e1, -, -, e4, -⟩
          · exact ⟨-9, σ1, μ, τ, μ, m_X3_even _ _ _ _ σ μ _ (V1 _ (if_neg (by omega))), m_X4_even _ _ _ _ σ1 μ _ (U1 σ1 hm1 _ _ d1 (if_pos rfl)), Rel_q hr (fun k x q => b2 k x (by unfold sC at q; omega)) (fun k x q => d2 k x (by unfold sM at q; omega) (by unfold sM at q; omega))⟩
          · exact absurd e4 (b3 b e1)
        · have h12 : σ1 1 2 = 0 := by rw [b2 _ _ (by omega), q2.1]
          obtain ⟨σ2, f1, f2, f3, f4⟩ := c_laySoot (w := w0) hn (by omega) hr6 (σ := σ1) (by rw [b2 _ _ (by omega), hs]) h12
          have hm2 : mv σ2 60 n (σ 21) (σ 22) (σ 23) (σ 25) (σ 24) := mv_fr hm1 (fun k x q => f4 k x (by omega) (by omega))
          obtain ⟨⟨o', v', τ⟩, d1, d2, d3⟩ := m_e54 hk hi hj (m := m) (by omega) (nI r) hm2
          dsimp only at d2 d3
          rcases d3 with ⟨rfl, d3⟩ | ⟨b, e1, rfl, rfl, e4, e5⟩
          · exact absurd w4 (d3 w0 w1)
          · have g1 := w5 b e1 e4
            have g2 := e5 w0 w1 w4
            have hb : b = w0 := by omega
            subst hb
            have hm3 : mv τ 60 n (σ 21) (σ 22) (σ 23) (σ 25) (σ 24) := mv_fr hm2 (fun k x q => d2 k x (by omega) (by omega))
            obtain ⟨τ2, vv, τ3, τ4, k1, k2, k3, k4, k5, k6⟩ := m_laySoot (w := b) hk (by omega) hr6 (nI (ev_c n b (σ 25) n)) hm3
            have F1 : F_X3_even (nI i) (nI j) (nI m) (nI r) σ = some (nI (ev_c n b (σ 25) n), σ2) := V1 _ (by rw [if_pos rfl, f1, Option.bind_some])
            have F2 : F_X4_even (nI i) (nI j) (nI m) (nI r) σ2 = some (nI (ev_c n b (σ 25) n), τ4) := U1 σ2 hm2 _ _ d1 (by
              dsimp only
              rw [if_neg (ni9' (by omega)), hm3.1, k1, Option.bind_some]
              dsimp only
              rw [k2, Option.bind_some]
              dsimp only
              rw [k3, Option.bind_some])
            generalize nI (ev_c n b (σ 25) n) = A at F1 F2
            have fr : ∀ k x, ¬ (k = 6 ∨ (28 ≤ k ∧ k < 35)) → ¬ k = 61 → ¬ k = 62 → ¬ k = 38 + r → ¬ (k = 10 ∧ x = r) → ¬ (k = 52 ∧ 40 * r ≤ x ∧ x < 40 * r + 40) → ¬ (k = 53 ∧ x = r) → τ4 k x = σ k x := fun k x p0 p1 p2 p3 p4 p5 p6 => by
              rw [k6 k x p1 p2 p6 p5, d2 k x p1 p2, f4 k x p3 p4, b2 k x p0]
            refine ⟨A, σ2, μ, τ4, μ, m_X3_even _ _ _ _ σ μ _ F1, m_X4_even _ _ _ _ σ2 μ _ F2, n, d, ?_, ?_, ?_, ?_, ?_, ?_⟩
            · exact RA_fr (fun k j q => fr k j (by omega) (by omega) (by omega) (by omega) (by omega) (by omega) (by omega)) q1
            · refine ⟨by rw [fr _ _ (by omega) (by omega) (by omega) (by omega) (by omega) (by omega) (by omega), q2.1], fun t ht => ?_⟩
              by_cases htr : t = r
              · subst htr
                have s1 : τ4 10 t = nI n := by rw [k6 _ _ (by omega) (by omega) (by omega) (by omega), d2 _ _ (by omega) (by omega), f2]
                refine ⟨by rw [k4, s1], Or.inr ⟨n, by omega, s1, fun i hi => ?_⟩⟩
                rw [k5 i hi, k6 _ _ (by omega) (by omega) (by omega) (by omega), d2 _ _ (by omega) (by omega), f3 i hi]
              · obtain ⟨w1, w2⟩ := q2.2 t ht
                rw [fr 53 t (by omega) (by omega) (by omega) (by omega) (by omega) (by omega) (by omega), fr 10 t (by omega) (by omega) (by omega) (by omega) (by omega) (by omega) (by omega)]
                refine ⟨w1, ?_⟩
                rcases w2 with w2 | ⟨z', v1, v2, v3⟩
                · exact Or.inl w2
                · refine Or.inr ⟨z', v1, v2, fun i hi => ?_⟩
                  rw [fr 52 _ (by omega) (by omega) (by omega) (by omega) (by omega) (by omega) (by omega), fr (38 + t) i (by omega) (by omega) (by omega) (by omega) (by omega) (by omega) (by omega), v3 i hi]
            · exact RT_fr (fun k j q => fr k j (by omega) (by omega) (by omega) (by omega) (by omega) (by omega) (by omega)) q3
            · exact RK_fr (fun k j q => fr k j (by omega) (by omega) (by omega) (by omega) (by omega) (by omega) (by omega)) q4
            · exact RD_fr (fun k j q => fr k j (by omega) (by omega) (by omega) (by omega) (by omega) (by omega) (by omega)) q5
            · exact RP_fr (fun k j q => fr k j (by omega) (by omega) (by omega) (by omega) (by omega) (by omega) (by omega)) q6
      · obtain ⟨r1, r2⟩ := isRow_n hrow
        have F1 : F_X3_even (nI i) (nI j) (nI m) a4 σ = some (-1, σ) := by
          unfold F_X3_even
          rw [y1, if_neg i10, if_neg m1, if_neg m2, r1, if_pos rfl]
        have F2 : F_X4_even (nI i) (nI j) (nI m) a4 σ = some (-1, σ) := by
          unfold F_X4_even
          rw [iso_y hn hi hm.1, if_neg i10, iso_y hn hj hm.1, if_neg i10, if_neg hne, m3, if_neg i10, r2, if_pos rfl]
        exact ⟨-1, σ, μ, σ, μ, m_X3_even _ _ _ _ σ μ _ F1, m_X4_even _ _ _ _ σ μ _ F2, hr⟩
    · have F1 : F_X3_even (nI i) (nI j) a3 a4 σ = some (-1, σ) := by
        unfold F_X3_even
        rw [y1, if_neg i10]
        by_cases g : a3 < 0
        · rw [if_pos g]
        · rw [if_neg g, if_pos]
          rw [i_lt, z0] at g
          rw [i_lt, t20]
          omega
      have F2 : F_X4_even (nI i) (nI j) a3 a4 σ = some (-1, σ) := by
        unfold F_X4_even
        rw [iso_y hn hi hm.1, if_neg i10, iso_y hn hj hm.1, if_neg i10, if_neg hne, in_n (by rw [Z0, T20]; omega), if_pos rfl]
      exact ⟨-1, σ, μ, σ, μ, m_X3_even _ _ _ _ σ μ _ F1, m_X4_even _ _ _ _ σ μ _ F2, hr⟩
  · have F1 : F_X3_even a1 a2 a3 a4 σ = some (-1, σ) := by
      unfold F_X3_even
      rw [two_n hn hs hx, if_pos rfl]
    have F2 : F_X4_even a1 a2 a3 a4 σ = some (-1, σ) := by
      unfold F_X4_even
      by_cases h1 : 0 ≤ a1.toInt ∧ a1.toInt < n
      · obtain ⟨i, hi, rfl⟩ := ix (n := n) (by omega) h1.1 h1.2
        rw [iso_y hn hi hm.1, if_neg i10]
        by_cases h2 : 0 ≤ a2.toInt ∧ a2.toInt < n
        · obtain ⟨j, hj, rfl⟩ := ix (n := n) (by omega) h2.1 h2.2
          rw [iso_y hn hj hm.1, if_neg i10, if_pos (Decidable.not_not.mp fun h => hx ⟨h1, h2, h⟩)]
        · rw [iso_n hn h2 hm.1, if_pos rfl]
      · rw [iso_n hn h1 hm.1, if_pos rfl]
    exact ⟨-1, σ, μ, σ, μ, m_X3_even _ _ _ _ σ μ _ F1, m_X4_even _ _ _ _ σ μ _ F2, hr⟩
