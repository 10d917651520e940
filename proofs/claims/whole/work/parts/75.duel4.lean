theorem e_duel : ec_duel Rel := by
  intro x y z σ μ hr
  obtain ⟨n, d, q1, q2, q3, q4, q5, q6, hn0, hs, hk, hm⟩ := Rel_all hr
  have hn := hk.1
  by_cases h2 : (0 ≤ x.toInt ∧ x.toInt < n) ∧ (0 ≤ y.toInt ∧ y.toInt < n) ∧ ¬ x = y
  · obtain ⟨hx, hy, hxy⟩ := h2
    obtain ⟨i, hi, rfl⟩ := ix (n := n) (by omega) hx.1 hx.2
    obtain ⟨j, hj, rfl⟩ := ix (n := n) (by omega) hy.1 hy.2
    have hij : ¬ i = j := fun e => hxy (by rw [e])
    have t2 := two_y hn hi hj hij hs
    by_cases hz : 0 ≤ z.toInt ∧ z.toInt ≤ 6
    · obtain ⟨N, hN, rfl⟩ : ∃ N, N < 7 ∧ z = nI N := ix (by decide) hz.1 (by omega)
      have eN : (nI N).toInt = N := nI_toInt (by omega)
      obtain ⟨D, hD⟩ : ∃ D : Nat → Int32, ∀ w, D w = dE n (σ 21) (σ 22) (σ 23) (σ 25) (σ 24) i j w := ⟨_, fun _ => rfl⟩
      obtain ⟨σ1, f1, f2, f3⟩ := c_l24 hn hi hj (nI N) hs
      obtain ⟨σ2, g1, g2, g3⟩ := c_l57 (N := N) (by omega) (nI i) (nI j) (D := D) (σ := σ1) (fun w hw => by rw [f2 w hw, hD])
      have fr : ∀ k x, ¬ dC k → σ2 k x = σ k x := fun k x q => by rw [g3 k x q, f3 k x q]
      obtain ⟨-, -, -, ⟨a, ha, ea⟩, -⟩ := hk.2 i hi
      obtain ⟨-, -, -, ⟨b, hb, eb⟩, -⟩ := hk.2 j hj
      have c1 : fs_in (nI i) 6 := vp_in_nI (by omega) (by omega)
      have c2 : fs_in (nI j) 6 := vp_in_nI (by omega) (by omega)
      have c5 : F_X3_duelWay (nI a) (nI b) = nI (4 * a + b) := by
        unfold F_X3_duelWay
        rw [show (4 : Int32) = nI 4 from rfl, pk_mul, nI_add]
      have c6 : fs_in (nI (4 * a + b)) 16 := vp_in_nI (by omega) (by omega)
      obtain ⟨v, hv⟩ : ∃ v, v = dv D N N (4 * a + b) + 100 := ⟨_, rfl⟩
      have F1 : F_X3_duel (nI i) (nI j) (nI N) σ = some (v, σ2) := by
        unfold F_X3_duel
        rw [t2, if_neg i10, if_neg (nI_pos (by omega)), if_pos (show nI N ≤ (6 : Int32) from nI_le (b := 6) (by omega) (by omega)), f1, Option.bind_some, g1, Option.bind_some]
        simp only [fs_gp c1, fs_gp c2, nI_clamp (n := i) (by omega), nI_clamp (n := j) (by omega), fr 25 i (by unfold dC; omega), fr 25 j (by unfold dC; omega), ea, eb, c5, fs_gp c6, nI_clamp (n := 4 * a + b) (by omega), g2 (4 * a + b) (by omega), hv]
      have hm' : mv σ2 60 n (σ 21) (σ 22) (σ 23) (σ 25) (σ 24) := mv_fr hm (fun k j q => fr k j (by unfold dC; omega))
      obtain ⟨τ1, u1, u2, u3⟩ := m_l38 hk hi hj (nI N) hm'
      obtain ⟨τ2, w1, w2, w3⟩ := m_l115 (N := N) (by omega) (nI i) (nI j) (D := D) (σ := τ1) (fun w hw => by rw [u2 w hw, hD])
      have fr2 : ∀ k x, ¬ dM k → τ2 k x = σ2 k x := fun k x q => by rw [w3 k x q, u3 k x q]
      have a1 : (7 : Int32) + nI i = nI (7 + i) := nI_add 7 i
      have a2 : (7 : Int32) + nI j = nI (7 + j) := nI_add 7 j
      have c3 : fs_in (nI (7 + i)) 13 := vp_in_nI (by omega) (by omega)
      have c4 : fs_in (nI (7 + j)) 13 := vp_in_nI (by omega) (by omega)
      have c7 : ((4 : Int32) * nI a) + nI b = nI (4 * a + b) := c5
      have s1 : τ2 60 (7 + i) = nI a := by rw [fr2 60 _ (by unfold dM; omega), (hm'.2 i hi).2.2.2.1, ea]
      have s2 : τ2 60 (7 + j) = nI b := by rw [fr2 60 _ (by unfold dM; omega), (hm'.2 j hj).2.2.2.1, eb]
      have F2 : F_X4_duel (nI i) (nI j) (nI N) σ2 = some (v, τ2) := by
        unfold F_X4_duel
        rw [iso_y hn hi hm'.1, if_neg i10, iso_y hn hj hm'.1, if_neg i10, if_neg hxy, in_y (by rw [eN, Z0, show (6 : Int64).toInt = 6 from rfl]; omega), if_neg i10, u1, Option.bind_some, w1, Option.bind_some]
        simp only [a1, a2, fs_gp c3, fs_gp c4, nI_clamp (n := 7 + i) (by omega), nI_clamp (n := 7 + j) (by omega), s1, s2, c7, fs_gp c6, nI_clamp (n := 4 * a + b) (by omega), w2 (4 * a + b) (by omega), hv]
        rw [Int32.add_comm]
      exact ⟨v, σ2, μ, τ2, μ, m_X3_duel _ _ _ σ μ _ F1, m_X4_duel _ _ _ _ μ _ F2, Rel_q hr (fun k j q => fr k j (by unfold sC at q; unfold dC; omega)) (fun k j q => fr2 k j (by unfold sM at q; unfold dM; omega))⟩
    · have F1 : F_X3_duel (nI i) (nI j) z σ = some (-1, σ) := by
        unfold F_X3_duel
        rw [t2, if_neg i10]
        by_cases h1 : z < 0
        · rw [if_pos h1]
        · rw [if_neg h1, if_neg]
          rw [i_lt, z0] at h1
          rw [i_le, z6]
          omega
      have F2 : F_X4_duel (nI i) (nI j) z σ = some (-1, σ) := by
        unfold F_X4_duel
        rw [iso_y hn hi hm.1, if_neg i10, iso_y hn hj hm.1, if_neg i10, if_neg hxy, in_n (by rw [Z0, show (6 : Int64).toInt = 6 from rfl]; exact hz), if_pos rfl]
      exact ⟨-1, σ, μ, σ, μ, m_X3_duel _ _ _ σ μ _ F1, m_X4_duel _ _ _ σ μ _ F2, hr⟩
  · have F1 : F_X3_duel x y z σ = some (-1, σ) := by
      unfold F_X3_duel
      rw [two_n hn hs h2, if_pos rfl]
    have F2 : F_X4_duel x y z σ = some (-1, σ) := by
      unfold F_X4_duel
      by_cases hx : 0 ≤ x.toInt ∧ x.toInt < n
      · obtain ⟨i, hi, rfl⟩ := ix (n := n) (by omega) hx.1 hx.2
        rw [iso_y hn hi hm.1, if_neg i10]
        by_cases hy : 0 ≤ y.toInt ∧ y.toInt < n
        · obtain ⟨j, hj, rfl⟩ := ix (n := n) (by omega) hy.1 hy.2
          rw [iso_y hn hj hm.1, if_neg i10, if_pos (Classical.byContradiction fun q => h2 ⟨hx, hy, q⟩)]
        · rw [iso_n hn hy hm.1, if_pos rfl]
      · rw [iso_n hn hx hm.1, if_pos rfl]
    exact ⟨-1, σ, μ, σ, μ, m_X3_duel _ _ _ σ μ _ F1, m_X4_duel _ _ _ σ μ _ F2, hr⟩
