theorem kp_n {x : Int32} (h : ¬ (0 ≤ x.toInt ∧ x.toInt < 3)) : F_X3_isKept x = 0 ∧ F_X4_in x.toInt64 0 2 = 0 := by
  constructor
  · unfold F_X3_isKept
    by_cases h1 : x < 0
    · rw [if_pos h1]
    · rw [if_neg h1, if_pos]
      rw [i_lt, z0] at h1
      rw [i_le, show (3 : Int32).toInt = 3 from rfl]
      omega
  · exact in_n (by rw [Z0, show (2 : Int64).toInt = 2 from rfl]; omega)
theorem kp_y {k : Nat} (h : k < 3) : F_X3_isKept (nI k) = 1 ∧ F_X4_in (nI k).toInt64 0 2 = 1 := by
  have e : (nI k).toInt = k := nI_toInt (by omega)
  constructor
  · unfold F_X3_isKept
    rw [if_neg (by rw [i_lt, z0, e]; omega), if_neg (by rw [i_le, show (3 : Int32).toInt = 3 from rfl, e]; omega)]
  · exact in_y (by rw [Z0, show (2 : Int64).toInt = 2 from rfl, e]; omega)
theorem c40 (σ : fsS) (a b k j : Nat) : fs_cy σ a b 0 0 40 k j = if k = b ∧ j < 40 then σ a j else σ k j := by
  rw [fs_cyg, show (0 : Int32).toNatClampNeg = 0 from rfl, show (40 : Int32).toNatClampNeg = 40 from rfl]
  simp
theorem cpk : ∀ k, k < 3 → fs_cp 12 (48 + k) 0 0 40 ∧ fs_cp (48 + k) 12 0 0 40 := by decide
set_option maxHeartbeats 4000000 in
theorem e_keep : ec_keep Rel := by
  intro x σ μ hr
  obtain ⟨n, d, q1, q2, q3, q4, q5, q6, hn0, hs, hk, hm⟩ := Rel_all hr
  have hn := hk.1
  obtain ⟨d1, d2, d3, d4, d5, d6, d7, d8⟩ := id q5
  by_cases hx : 0 ≤ x.toInt ∧ x.toInt < 3
  · obtain ⟨k, hk3, rfl⟩ := ix (n := 3) (by omega) hx.1 hx.2
    obtain ⟨y1, y2⟩ := kp_y hk3
    by_cases h0 : n = 0
    · subst h0
      have F1 : F_X3_keep (nI k) σ = some (-4, σ) := by
        unfold F_X3_keep
        rw [y1, if_neg i10, if_neg (nok_n hs)]
      have F2 : F_X4_keep (nI k) σ = some (-4, σ) := by
        unfold F_X4_keep
        rw [y2, if_neg i10, hm.1, if_pos (by decide)]
      exact ⟨-4, σ, μ, σ, μ, m_X3_keep _ σ μ _ F1, m_X4_keep _ σ μ _ F2, hr⟩
    · have c2 : fs_in (nI k) 3 := vp_in_nI (by omega) (by omega)
      have c3 : (nI k).toNatClampNeg = k := nI_clamp (by omega)
      obtain ⟨σ1, hσ1⟩ : ∃ σ1, σ1 = fs_u (fs_cy σ 12 (48 + k) 0 0 40) 13 k (nI d) := ⟨_, rfl⟩
      have s1 : ∀ a j, σ1 a j = if a = 13 ∧ j = k then nI d else if a = 48 + k ∧ j < 40 then σ 12 j else σ a j := fun a j => by rw [hσ1, fs_ug, c40]
      have F1 : F_X3_keep (nI k) σ = some (nI d, σ1) := by
        have u : fs_cy σ 12 (48 + k) 0 0 40 3 3 = nI d := by rw [c40, if_neg (by omega), d3]
        have u2 : σ1 3 3 = nI d := by rw [s1, if_neg (by omega), if_neg (by omega), d3]
        unfold F_X3_keep F_X0_store
        simp only [y1, if_neg i10, if_pos (nok_y hn hs (by omega)), fs_gp c2, c3, fs_gp (cpk k hk3).1, u, ← hσ1, Option.bind_some, u2]
      have e0 : (534 : Int32) * nI k = nI (534 * k) := pk_mul 534 k
      have e1 : nI (534 * k) + (1 : Int32) = nI (534 * k + 1) := nI_1 _
      have e2 : nI (534 * k + 1) + (13 : Int32) = nI (534 * k + 14) := nI_add _ 13
      have c5 : fs_in (nI (534 * k)) 1602 := vp_in_nI (by omega) (by omega)
      have c6 : (nI (534 * k)).toNatClampNeg = 534 * k := nI_clamp (by omega)
      have h517 : σ1 51 17 = nI d := by rw [s1, if_neg (by omega), if_neg (by omega), d4]
      obtain ⟨τ1, g1, g2⟩ := w_copies (a0 := 60) (a2 := 64) (by decide) (i := 0) (j := 534 * k + 1) (m := 13) (by decide) (by show 534 * k + 1 + 13 ≤ 1602; omega) (by decide) (by decide) (fs_u σ1 64 (534 * k) (nI d))
      obtain ⟨τ2, g3, g4⟩ := w_copies (a0 := 63) (a2 := 64) (by decide) (i := 0) (j := 534 * k + 14) (m := 520) (by decide) (by show 534 * k + 14 + 520 ≤ 1602; omega) (by decide) (by decide) τ1
      have t2 : ∀ a j, ¬ a = 64 → τ2 a j = σ1 a j := fun a j h => by rw [g4, if_neg (by omega), g2, if_neg (by omega), fs_ug, if_neg (by omega)]
      have t64 : ∀ j, τ2 64 j = if j = 534 * k then nI d else if 534 * k + 1 ≤ j ∧ j < 534 * k + 14 then σ 60 (j - (534 * k + 1)) else if 534 * k + 14 ≤ j ∧ j < 534 * k + 534 then σ 63 (j - (534 * k + 14)) else σ 64 j := fun j => by
        rw [g4]
        by_cases h1 : 534 * k + 14 ≤ j ∧ j < 534 * k + 14 + 520
        · rw [if_pos ⟨rfl, h1⟩, g2, if_neg (by omega), fs_ug, if_neg (by omega), s1, if_neg (by omega), if_neg (by omega), if_neg (by omega), if_neg (by omega), if_pos (by omega), Nat.zero_add]
        · rw [if_neg (by omega), g2]
          by_cases h2 : 534 * k + 1 ≤ j ∧ j < 534 * k + 1 + 13
          · rw [if_pos ⟨rfl, h2⟩, fs_ug, if_neg (by omega), s1, if_neg (by omega), if_neg (by omega), if_neg (by omega), if_pos (by omega), Nat.zero_add]
          · rw [if_neg (by omega), fs_ug]
            by_cases h3 : j = 534 * k
            · rw [if_pos ⟨rfl, h3⟩, if_pos h3]
            · rw [if_neg (by omega), s1, if_neg (by omega), if_neg (by omega), if_neg h3, if_neg (by omega), if_neg (by omega)]
      have F2 : F_X4_keep (nI k) σ1 = some (nI d, τ2) := by
        have u : τ2 51 17 = nI d := by rw [t2 _ _ (by omega), h517]
        have u9 : ¬ σ1 51 9 = 0 := by rw [s1, if_neg (by omega), if_neg (by omega), hm.1]; exact nI_ne0 (by omega) (by omega)
        have g1' : F_X4_copies 60 0 64 (nI (534 * k + 1)) 13 (fs_u σ1 64 (534 * k) (nI d)) = some τ1 := g1
        have g3' : F_X4_copies 63 0 64 (nI (534 * k + 14)) 520 τ1 = some τ2 := g3
        unfold F_X4_keep
        simp only [y2, if_neg i10, if_neg u9, e0, e1, e2, fs_gp c5, c6, h517, g1', g3', Option.bind_some, u]
      have fr : ∀ a j, ¬ a = 64 → ¬ a = 48 + k → ¬ (a = 13 ∧ j = k) → τ2 a j = σ a j := fun a j h1 h2 h3 => by rw [t2 a j h1, s1, if_neg h3, if_neg (by omega)]
      refine ⟨nI d, σ1, μ, τ2, μ, m_X3_keep _ σ μ _ F1, m_X4_keep _ _ μ _ F2, n, d, ?_, ?_, ?_, ?_, ?_, ?_⟩
      · exact RA_fr (fun a j q => fr a j (by omega) (by omega) (by omega)) q1
      · exact RR_fr (fun a j q => fr a j (by omega) (by omega) (by omega)) q2
      · exact RT_fr (fun a j q => fr a j (by omega) (by omega) (by omega)) q3
      · exact RK_fr (fun a j q => fr a j (by omega) (by omega) (by omega)) q4
      · exact RD_fr (fun a j q => fr a j (by omega) (by omega) (by omega)) q5
      · have fb : ∀ a j, 14 ≤ a ∧ a < 18 → τ2 a j = σ a j := fun a j q => fr a j (by omega) (by omega) (by omega)
        intro k' hk'
        by_cases e : k' = k
        · subst e
          have h13 : τ2 13 k' = nI d := by rw [t2 _ _ (by omega), s1, if_pos ⟨rfl, rfl⟩]
          have h48 : ∀ j, j < 40 → τ2 (48 + k') j = σ 12 j := fun j hj => by rw [t2 _ _ (by omega), s1, if_neg (by omega), if_pos ⟨rfl, hj⟩]
          have snq : ∀ j, j ≤ d → sn τ2 n (τ2 (48 + k')) j = sn σ n (σ 12) j := fun j hj => by
            rw [sn_fr fb]
            exact sn_pre (fun i hi => h48 i (by omega))
          refine ⟨by rw [t64, if_pos rfl, h13], Or.inr ⟨d, d1, by omega, h13, hsy_fr fb (hsy_pre d5 (Nat.le_refl d) (fun j hj => h48 j (by omega))), ?_, fun j hj => ?_⟩⟩
          · rw [snq d (Nat.le_refl d)]
            refine ⟨fun i hi => ?_, fun i hi => ?_, ?_⟩
            · dsimp only; rw [t64, if_neg (by omega), if_pos (by omega), show 534 * k' + 1 + 1 + i - (534 * k' + 1) = 1 + i by omega]; exact d7.1 i hi
            · dsimp only; rw [t64, if_neg (by omega), if_pos (by omega), show 534 * k' + 1 + 7 + i - (534 * k' + 1) = 7 + i by omega]; exact d7.2.1 i hi
            · rw [t64, if_neg (by omega), if_pos (by omega), Nat.sub_self]; exact d7.2.2
          · rw [snq j (by omega)]
            obtain ⟨u1, u2, u3⟩ := d8 j hj
            refine ⟨fun i hi => ?_, fun i hi => ?_, ?_⟩
            · dsimp only; rw [t64, if_neg (by omega), if_neg (by omega), if_pos (by omega), show 534 * k' + 14 + 13 * j + 1 + i - (534 * k' + 14) = 13 * j + 1 + i by omega]; exact u1 i hi
            · dsimp only; rw [t64, if_neg (by omega), if_neg (by omega), if_pos (by omega), show 534 * k' + 14 + 13 * j + 7 + i - (534 * k' + 14) = 13 * j + 7 + i by omega]; exact u2 i hi
            · rw [t64, if_neg (by omega), if_neg (by omega), if_pos (by omega), show 534 * k' + 14 + 13 * j - (534 * k' + 14) = 13 * j by omega]; exact u3
        · have h64 : ∀ j, 534 * k' ≤ j → j < 534 * k' + 534 → τ2 64 j = σ 64 j := fun j h1 h2 => by rw [t64, if_neg (by omega), if_neg (by omega), if_neg (by omega)]
          have h13 : τ2 13 k' = σ 13 k' := fr _ _ (by omega) (by omega) (by omega)
          have h48 : τ2 (48 + k') = σ (48 + k') := funext fun j => fr _ _ (by omega) (by omega) (by omega)
          obtain ⟨u1, u2⟩ := q6 k' hk'
          rw [h64 _ (by omega) (by omega), h13, h48]
          refine ⟨u1, ?_⟩
          rcases u2 with u2 | ⟨e', v1, v2, v3, v4, v5, v6⟩
          · exact Or.inl u2
          · refine Or.inr ⟨e', v1, v2, v3, hsy_fr fb v4, ?_, fun j hj => ?_⟩
            · rw [sn_fr fb]
              exact ⟨fun i hi => by dsimp only; rw [h64 _ (by omega) (by omega)]; exact v5.1 i hi, fun i hi => by dsimp only; rw [h64 _ (by omega) (by omega)]; exact v5.2.1 i hi, by rw [h64 _ (by omega) (by omega)]; exact v5.2.2⟩
            · rw [sn_fr fb]
              obtain ⟨z1, z2, z3⟩ := v6 j hj
              exact ⟨fun i hi => by dsimp only; rw [h64 _ (by omega) (by omega)]; exact z1 i hi, fun i hi => by dsimp only; rw [h64 _ (by omega) (by omega)]; exact z2 i hi, by rw [h64 _ (by omega) (by omega)]; exact z3⟩
  · obtain ⟨y1, y2⟩ := kp_n hx
    have F1 : F_X3_keep x σ = some (-1, σ) := by
      unfold F_X3_keep
      rw [y1, if_pos rfl]
    have F2 : F_X4_keep x σ = some (-1, σ) := by
      unfold F_X4_keep
      rw [y2, if_pos rfl]
    exact ⟨-1, σ, μ, σ, μ, m_X3_keep _ σ μ _ F1, m_X4_keep _ σ μ _ F2, hr⟩
