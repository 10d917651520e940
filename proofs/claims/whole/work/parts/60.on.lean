set_option maxHeartbeats 4000000 in
theorem e_on : ec_on Rel := by
  intro x σ μ hr
  obtain ⟨n, d, q1, q2, q3, q4, q5, q6, hn0, hs, hk, hm⟩ := Rel_all hr
  have hn := hk.1
  obtain ⟨d1, d2, d3, d4, d5, d6, d7, d8⟩ := id q5
  by_cases hx : 0 ≤ x.toInt ∧ x.toInt < 3
  · obtain ⟨k, hk3, rfl⟩ := ix (n := 3) (by omega) hx.1 hx.2
    obtain ⟨y1, y2⟩ := kp_y hk3
    have c2 : fs_in (nI k) 3 := vp_in_nI (by omega) (by omega)
    have c3 : (nI k).toNatClampNeg = k := nI_clamp (by omega)
    have e0 : (534 : Int32) * nI k = nI (534 * k) := pk_mul 534 k
    have e1 : nI (534 * k) + (1 : Int32) = nI (534 * k + 1) := nI_1 _
    have e2 : nI (534 * k + 1) + (13 : Int32) = nI (534 * k + 14) := nI_add _ 13
    have c5 : fs_in (nI (534 * k)) 1602 := vp_in_nI (by omega) (by omega)
    have c6 : (nI (534 * k)).toNatClampNeg = 534 * k := nI_clamp (by omega)
    obtain ⟨u1, u2⟩ := q6 k hk3
    rcases u2 with u2 | ⟨e, v1, v2, v3, v4, v5, v6⟩
    · have F1 : F_X3_on (nI k) σ = some (-3, rf 1 σ) := by
        unfold F_X3_on
        simp only [y1, if_neg i10, fs_gp c2, c3, if_pos u2, rfu1, Option.bind_some]
      have F2 : F_X4_on (nI k) (rf 1 σ) = some (-3, mf 1 (rf 1 σ)) := by
        have u : rf 1 σ 64 (534 * k) = -1 := by unfold rf; simp [fs_ug, u1, u2]
        unfold F_X4_on
        simp only [y2, if_neg i10, e0, fs_gp c5, c6, u, if_neg nzn, mfu1, Option.bind_some]
      exact ⟨-3, rf 1 σ, μ, mf 1 (rf 1 σ), μ, m_X3_on _ σ μ _ F1, m_X4_on _ _ μ _ F2, Rel_rf hr 1 (by decide) (by decide)⟩
    · obtain ⟨σc, hσc⟩ : ∃ σc, σc = fs_cy σ (48 + k) 12 0 0 40 := ⟨_, rfl⟩
      have sc : ∀ a j, σc a j = if a = 12 ∧ j < 40 then σ (48 + k) j else σ a j := fun a j => by rw [hσc, c40]
      have fbc : ∀ a j, 14 ≤ a ∧ a < 18 → σc a j = σ a j := fun a j q => by rw [sc, if_neg (by omega)]
      have h12 : ∀ j, j < e → σc 12 j = σ (48 + k) j := fun j hj => by rw [sc, if_pos ⟨rfl, by omega⟩]
      obtain ⟨σ1, b1, b2, b3, b4, b5, b6⟩ := c_replay (n := n) (e := e) (σ := σc) v1 (RK_fr (fun a j q => by rw [sc, if_neg (by omega)]) q4) (hsy_pre (hsy_fr fbc v4) (Nat.le_refl e) h12)
      have snc : ∀ j, j ≤ e → sn σc n (σc 12) j = sn σ n (σ (48 + k)) j := fun j hj => by
        rw [sn_fr fbc]
        exact sn_pre (fun i hi => h12 i (by omega))
      rw [snc e (Nat.le_refl e)] at b3
      have F1 : F_X3_on (nI k) σ = some (nI e, σ1) := by
        unfold F_X3_on F_X0_restore
        simp only [y1, if_neg i10, fs_gp c2, c3, v3, if_neg (n1 e (by omega)), fs_gp (cpk k hk3).2, ← hσc, b1, Option.bind_some, b2]
      have s1 : ∀ a j, 51 ≤ a → σ1 a j = σ a j := fun a j h => by rw [b6 _ _ (by omega) (by omega) (by omega), sc, if_neg (by omega)]
      obtain ⟨τ1, g1, g2⟩ := w_copies (a0 := 64) (a2 := 60) (by decide) (i := 534 * k + 1) (j := 0) (m := 13) (by show 534 * k + 1 + 13 ≤ 1602; omega) (by decide) (by decide) (by decide) (fs_u σ1 51 17 (nI e))
      obtain ⟨τ2, g3, g4⟩ := w_copies (a0 := 64) (a2 := 63) (by decide) (i := 534 * k + 14) (j := 0) (m := 520) (by show 534 * k + 14 + 520 ≤ 1602; omega) (by decide) (by decide) (by decide) τ1
      have t17 : τ2 51 17 = nI e := by rw [g4, if_neg (by omega), g2, if_neg (by omega), fs_ug, if_pos ⟨rfl, rfl⟩]
      have t60 : ∀ y, y < 13 → τ2 60 y = σ 64 (534 * k + 1 + y) := fun y hy => by
        rw [g4, if_neg (by omega), g2, if_pos (by omega), fs_ug, if_neg (by omega), s1 _ _ (by omega), Nat.sub_zero]
      have t63 : ∀ y, y < 520 → τ2 63 y = σ 64 (534 * k + 14 + y) := fun y hy => by
        rw [g4, if_pos (by omega), g2, if_neg (by omega), fs_ug, if_neg (by omega), s1 _ _ (by omega), Nat.sub_zero]
      have tf : ∀ a j, ¬ a = 60 → ¬ a = 63 → ¬ (a = 51 ∧ j = 17) → τ2 a j = σ1 a j := fun a j h1 h2 h3 => by
        rw [g4, if_neg (by omega), g2, if_neg (by omega), fs_ug, if_neg h3]
      have F2 : F_X4_on (nI k) σ1 = some (nI e, τ2) := by
        have u : σ1 64 (534 * k) = nI e := by rw [s1 _ _ (by omega), u1, v3]
        have g1' : F_X4_copies 64 (nI (534 * k + 1)) 60 0 13 (fs_u σ1 51 17 (nI e)) = some τ1 := g1
        have g3' : F_X4_copies 64 (nI (534 * k + 14)) 63 0 520 τ1 = some τ2 := g3
        unfold F_X4_on
        simp only [y2, if_neg i10, e0, e1, e2, fs_gp c5, c6, u, if_pos (nz e (by omega)), g1', g3', Option.bind_some, t17]
      have fr : ∀ a j, ¬ a = 60 → ¬ a = 63 → ¬ (a = 51 ∧ j = 17) → ¬ a = 12 → ¬ (a = 3 ∧ (j = 2 ∨ j = 3)) → ¬ (21 ≤ a ∧ a < 28) → ¬ (a = 5 ∧ (j = 0 ∨ j = 8 ∨ j = 9)) → τ2 a j = σ a j := fun a j h1 h2 h3 h4 h5 h6 h7 => by
        rw [tf a j h1 h2 h3, b6 a j h5 h6 h7, sc, if_neg (by omega)]
      refine ⟨nI e, σ1, μ, τ2, μ, m_X3_on _ σ μ _ F1, m_X4_on _ _ μ _ F2, n, e, ?_, ?_, ?_, ?_, ?_, ?_⟩
      · exact RA_fr (fun a j q => fr a j (by omega) (by omega) (by omega) (by omega) (by omega) (by omega) (by omega)) q1
      · exact RR_fr (fun a j q => fr a j (by omega) (by omega) (by omega) (by omega) (by omega) (by omega) (by omega)) q2
      · exact RT_fr (fun a j q => fr a j (by omega) (by omega) (by omega) (by omega) (by omega) (by omega) (by omega)) q3
      · exact RK_again q4 (by rw [tf _ _ (by omega) (by omega) (by omega), b4]) (fun i hi => by
          rw [tf _ _ (by omega) (by omega) (by omega), tf _ _ (by omega) (by omega) (by omega), tf _ _ (by omega) (by omega) (by omega)]
          obtain ⟨w1, w2, w3⟩ := b5 i hi
          rw [w1, w2, w3, fbc _ _ (by omega), fbc _ _ (by omega), fbc _ _ (by omega)]
          exact ⟨rfl, rfl, rfl⟩) (fun a j q => fr a j (by omega) (by omega) (by omega) (by omega) (by omega) (by omega) (by omega))
      · have fb : ∀ a j, 14 ≤ a ∧ a < 18 → τ2 a j = σ a j := fun a j q => fr a j (by omega) (by omega) (by omega) (by omega) (by omega) (by omega) (by omega)
        have f12 : ∀ j, j < e → τ2 12 j = σ (48 + k) j := fun j hj => by rw [tf _ _ (by omega) (by omega) (by omega), b6 _ _ (by omega) (by omega) (by omega), h12 j hj]
        have snq : ∀ j, j ≤ e → sn τ2 n (τ2 12) j = sn σ n (σ (48 + k)) j := fun j hj => by
          rw [sn_fr fb]
          exact sn_pre (fun i hi => f12 i (by omega))
        refine ⟨v1, fun q => by omega, by rw [tf _ _ (by omega) (by omega) (by omega), b2], t17, hsy_pre (hsy_fr fb v4) (Nat.le_refl e) f12, ?_, ?_, fun j hj => ?_⟩
        · rw [snq e (Nat.le_refl e)]
          exact ⟨fun i hi => by rw [tf _ _ (by omega) (by omega) (by omega)]; exact b3.1 i hi, fun i hi => by rw [tf _ _ (by omega) (by omega) (by omega)]; exact b3.2.1 i hi, by rw [tf _ _ (by omega) (by omega) (by omega)]; exact b3.2.2⟩
        · rw [snq e (Nat.le_refl e)]
          refine ⟨fun i hi => ?_, fun i hi => ?_, ?_⟩
          · dsimp only; rw [t60 _ (by omega), ← v5.1 i hi]; dsimp only; congr 1; omega
          · dsimp only; rw [t60 _ (by omega), ← v5.2.1 i hi]; dsimp only; congr 1; omega
          · rw [t60 0 (by omega), ← v5.2.2]
        · rw [snq j (by omega)]
          obtain ⟨w1, w2, w3⟩ := v6 j hj
          refine ⟨fun i hi => ?_, fun i hi => ?_, ?_⟩
          · dsimp only; rw [t63 _ (by omega), ← w1 i hi]; dsimp only; congr 1; omega
          · dsimp only; rw [t63 _ (by omega), ← w2 i hi]; dsimp only; congr 1; omega
          · rw [t63 _ (by omega), ← w3]
      · exact RP_fr (fun a j q => fr a j (by omega) (by omega) (by omega) (by omega) (by omega) (by omega) (by omega)) q6
  · obtain ⟨y1, y2⟩ := kp_n hx
    have F1 : F_X3_on x σ = some (-1, σ) := by
      unfold F_X3_on
      rw [y1, if_pos rfl]
    have F2 : F_X4_on x σ = some (-1, σ) := by
      unfold F_X4_on
      rw [y2, if_pos rfl]
    exact ⟨-1, σ, μ, σ, μ, m_X3_on _ σ μ _ F1, m_X4_on _ σ μ _ F2, hr⟩
