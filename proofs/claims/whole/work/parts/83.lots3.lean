theorem e_lots : ec_lots Rel := by
  intro x y σ μ hr
  obtain ⟨n, d, q1, q2, q3, q4, q5, q6, hn0, hs, hk, hm⟩ := Rel_all hr
  have hn := hk.1
  obtain ⟨d1, d2, d3, d4, d5, d6, d7, d8⟩ := id q5
  have t1 : (1 : Int32).toInt = 1 := rfl
  have t20 : (20 : Int32).toInt = 20 := rfl
  have tb : (2147483647 : Int32).toInt = 2147483647 := rfl
  have T1 : (1 : Int64).toInt = 1 := rfl
  have T20 : (20 : Int64).toInt = 20 := rfl
  have Tb : (2147483646 : Int64).toInt = 2147483646 := rfl
  by_cases hx : (1 ≤ x.toInt ∧ x.toInt ≤ 20) ∧ (1 ≤ y.toInt ∧ y.toInt ≤ 2147483646)
  · obtain ⟨hx, hy⟩ := hx
    obtain ⟨N, hN, rfl⟩ : ∃ N, N < 21 ∧ x = nI N := ix (by decide) (by omega) (by omega)
    obtain ⟨a, ha, rfl⟩ : ∃ a, a < 2147483647 ∧ y = nI a := ix (by decide) (by omega) (by omega)
    have eN : (nI N).toInt = N := nI_toInt (by omega)
    have ea : (nI a).toInt = a := nI_toInt (by omega)
    rw [eN] at hx
    rw [ea] at hy
    have b1 : ¬ nI N < 1 := by rw [i_lt, eN, t1]; omega
    have b2 : ¬ (20 : Int32) < nI N := by rw [i_lt, eN, t20]; omega
    have b3 : ¬ nI a < 1 := by rw [i_lt, ea, t1]; omega
    have b4 : nI a < 2147483647 := by rw [i_lt, ea, tb]; omega
    have b5 : F_X4_in (nI N).toInt64 1 20 = 1 := in_y (by rw [eN, T1, T20]; omega)
    have b6 : F_X4_in (nI a).toInt64 1 2147483646 = 1 := in_y (by rw [ea, T1, Tb]; omega)
    by_cases h0 : n = 0
    · subst h0
      have F1 : F_X3_lots (nI N) (nI a) σ = some (-4, σ) := by
        unfold F_X3_lots
        rw [if_neg b1, if_neg b2, if_neg b3, if_pos b4, if_neg (nok_n hs)]
      have F2 : F_X4_lots (nI N) (nI a) σ = some (-4, σ) := by
        have r : F_X4_refuses (nI N) σ = -4 := by unfold F_X4_refuses; rw [hm.1, if_pos nI_0]
        unfold F_X4_lots
        rw [b5, if_neg i10, b6, if_neg i10, r, if_neg (by decide)]
      exact ⟨-4, σ, μ, σ, μ, m_X3_lots _ _ σ μ _ F1, m_X4_lots _ _ σ μ _ F2, hr⟩
    · have nk : ¬ nI n = 0 := nI_ne0 (by omega) (by omega)
      by_cases ho : d + N ≤ 40
      · have r1 : F_X0_wouldOverflow (nI N) σ = 0 := by
          unfold F_X0_wouldOverflow
          rw [d3, show (40 : Int32) = nI (40 - d + d) by rw [show 40 - d + d = 40 by omega]; rfl, ← nI_add, Int32.add_sub_cancel, if_pos (nI_le (by omega) (by omega))]
        have M0 : ∀ ρ : fsS, (∀ k j, 51 ≤ k → ρ k j = σ k j) → Rel (mix σ ρ) μ := fun ρ hρ => Rel_ext (fun k j => by
          by_cases e : 51 ≤ k
          · rw [mixM e, hρ k j e]
          · rw [mixC (show k < 51 by omega)]) hr
        obtain ⟨σ1, -, f1, -, -, f4, f5, f6, -⟩ := lots_joint hn (by omega) (N := N) (by omega) N 0 (by omega) a d σ σ ha ho (M0 σ fun _ _ _ => rfl) hs d3 fs_fu (fs_fub _ (by omega))
        obtain ⟨σ1', τ, g1, g2, g3, g4, g5, g6, g7⟩ := lots_joint hn (by omega) (N := N) (by omega) N 0 (by omega) a d σ σ1 ha ho (M0 σ1 f6) hs d3 fs_fu (fs_fub _ (by omega))
        have e1 : σ1' = σ1 := Option.some.inj (g1.symm.trans f1)
        subst e1
        have hR : Rel τ μ := Rel_ext (fun k j => by
          by_cases e : 51 ≤ k
          · rw [mixM e]
          · rw [mixC (show k < 51 by omega), g7 k j (by omega)]) g3
        obtain ⟨m1, m2, -⟩ := mix_facts g3 g4 g5 hn (by omega)
        obtain ⟨v, hv⟩ : ∃ v, v = sm (σ1' 24) n := ⟨_, rfl⟩
        have r2 : F_X4_refuses (nI N) σ1' = 0 := by
          unfold F_X4_refuses
          rw [f6 51 9 (by omega), hm.1, if_neg nk, f6 51 17 (by omega), d4, nI_add, if_pos (show nI (d + N) ≤ (40 : Int32) from nI_le (b := 40) ho (by omega))]
        have F1 : F_X3_lots (nI N) (nI a) σ = some (v, σ1') := by
          unfold F_X3_lots
          rw [if_neg b1, if_neg b2, if_neg b3, if_pos b4, nok_y hn hs (by omega), if_pos rfl, r1, if_pos rfl, nI_l (by omega), show (0 : Int32) = nI 0 from rfl, f1, Option.bind_some, c_purses hn f4, Option.bind_some, hv]
        have F2 : F_X4_lots (nI N) (nI a) σ1' = some (v, τ) := by
          unfold F_X4_lots
          rw [b5, if_neg i10, b6, if_neg i10, r2, if_pos rfl, nI_l (by omega), show (0 : Int32) = nI 0 from rfl, g2, Option.bind_some, m_purses hn m1 (p := σ1' 24) (fun i hi => (m2 i hi).2.2), Option.bind_some, hv]
        exact ⟨v, σ1', μ, τ, μ, m_X3_lots _ _ σ μ _ F1, m_X4_lots _ _ σ1' μ _ F2, hR⟩
      · have r1 : ¬ F_X0_wouldOverflow (nI N) σ = 0 := by
          unfold F_X0_wouldOverflow
          rw [d3, show (40 : Int32) = nI (40 - d + d) by rw [show 40 - d + d = 40 by omega]; rfl, ← nI_add, Int32.add_sub_cancel, if_neg (nI_ge (by omega) (by omega))]
          decide
        have r2 : F_X4_refuses (nI N) σ = -2 := by
          unfold F_X4_refuses
          rw [hm.1, if_neg nk, d4, nI_add, if_neg (show ¬ nI (d + N) ≤ (40 : Int32) from nI_ge (a := 40) (by omega) (by omega))]
        have F1 : F_X3_lots (nI N) (nI a) σ = some (-2, σ) := by
          unfold F_X3_lots
          rw [if_neg b1, if_neg b2, if_neg b3, if_pos b4, nok_y hn hs (by omega), if_pos rfl, if_neg r1]
        have F2 : F_X4_lots (nI N) (nI a) σ = some (-2, σ) := by
          unfold F_X4_lots
          rw [b5, if_neg i10, b6, if_neg i10, r2, if_neg (by decide)]
        exact ⟨-2, σ, μ, σ, μ, m_X3_lots _ _ σ μ _ F1, m_X4_lots _ _ σ μ _ F2, hr⟩
  · have F1 : F_X3_lots x y σ = some (-1, σ) := by
      unfold F_X3_lots
      by_cases h1 : x < 1
      · rw [if_pos h1]
      · rw [if_neg h1]
        by_cases h2 : (20 : Int32) < x
        · rw [if_pos h2]
        · rw [if_neg h2]
          by_cases h3 : y < 1
          · rw [if_pos h3]
          · rw [if_neg h3, if_neg]
            rw [i_lt, t1] at h1 h3
            rw [i_lt, t20] at h2
            rw [i_lt, tb]
            omega
    have F2 : F_X4_lots x y σ = some (-1, σ) := by
      unfold F_X4_lots
      by_cases h1 : 1 ≤ x.toInt ∧ x.toInt ≤ 20
      · rw [in_y (by rw [T1, T20]; exact h1), if_neg i10, in_n (by rw [T1, Tb]; exact fun h => hx ⟨h1, h⟩), if_pos rfl]
      · rw [in_n (by rw [T1, T20]; exact h1), if_pos rfl]
    exact ⟨-1, σ, μ, σ, μ, m_X3_lots _ _ σ μ _ F1, m_X4_lots _ _ σ μ _ F2, hr⟩
