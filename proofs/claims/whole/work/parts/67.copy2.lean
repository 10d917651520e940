theorem e_copy : ec_copy Rel := by
  intro a1 a2 a3 a4 a5 σ μ hr
  by_cases hrow : 0 ≤ a1.toInt ∧ a1.toInt < 6
  rotate_left
  · obtain ⟨y1, y2⟩ := isRow_n hrow
    have F1 : F_X3_copy a1 a2 a3 a4 a5 σ = some (-1, σ) := by
      unfold F_X3_copy
      rw [if_pos y1]
    have F2 : F_X4_copy a1 a2 a3 a4 a5 σ = some (-1, σ) := by
      unfold F_X4_copy
      rw [if_pos y2]
    exact ⟨-1, σ, μ, σ, μ, m_X3_copy _ _ _ _ _ σ μ _ F1, m_X4_copy _ _ _ _ _ _ μ _ F2, hr⟩
  obtain ⟨r, hr6, rfl⟩ := ix (n := 6) (by decide) hrow.1 hrow.2
  obtain ⟨y1, y2⟩ := isRow_y hr6
  have y1' : ¬ F_X3_isRow (nI r) = 0 := by rw [y1]; exact i10
  have y2' : ¬ F_X4_isRow (nI r) = 0 := by rw [y2]; exact i10
  have c2 : fs_in (nI r) 6 := vp_in_nI hr6 (by omega)
  have c3 : (nI r).toNatClampNeg = r := nI_clamp (by omega)
  by_cases hrow2 : 0 ≤ a3.toInt ∧ a3.toInt < 6
  rotate_left
  · obtain ⟨x1, x2⟩ := isRow_n hrow2
    have F1 : F_X3_copy (nI r) a2 a3 a4 a5 σ = some (-1, σ) := by
      unfold F_X3_copy
      rw [if_neg y1', if_pos x1]
    have F2 : F_X4_copy (nI r) a2 a3 a4 a5 σ = some (-1, σ) := by
      unfold F_X4_copy
      rw [if_neg y2', if_pos x2]
    exact ⟨-1, σ, μ, σ, μ, m_X3_copy _ _ _ _ _ σ μ _ F1, m_X4_copy _ _ _ _ _ _ μ _ F2, hr⟩
  obtain ⟨t, ht6, rfl⟩ := ix (n := 6) (by decide) hrow2.1 hrow2.2
  obtain ⟨x1, x2⟩ := isRow_y ht6
  have x1' : ¬ F_X3_isRow (nI t) = 0 := by rw [x1]; exact i10
  have x2' : ¬ F_X4_isRow (nI t) = 0 := by rw [x2]; exact i10
  have e2 : fs_in (nI t) 6 := vp_in_nI ht6 (by omega)
  have e3 : (nI t).toNatClampNeg = t := nI_clamp (by omega)
  by_cases h5 : (0 : Int32) ≤ a5
  rotate_left
  · have F1 : F_X3_copy (nI r) a2 (nI t) a4 a5 σ = some (-3, rf 5 σ) := by
      unfold F_X3_copy
      simp only [if_neg y1', if_neg x1', if_neg h5, rfu5]
      rfl
    have F2 : F_X4_copy (nI r) a2 (nI t) a4 a5 (rf 5 σ) = some (-3, mf 5 (rf 5 σ)) := by
      unfold F_X4_copy
      simp only [if_neg y2', if_neg x2', if_neg h5, mfu5]
      rfl
    exact ⟨-3, rf 5 σ, μ, mf 5 (rf 5 σ), μ, m_X3_copy _ _ _ _ _ σ μ _ F1, m_X4_copy _ _ _ _ _ _ μ _ F2, Rel_rf hr 5 (by decide) (by decide)⟩
  obtain ⟨n, d, q1, q2, q3, q4, q5, q6⟩ := id hr
  obtain ⟨w1, w2⟩ := q2.2 r hr6
  obtain ⟨w3, w4⟩ := q2.2 t ht6
  have nm : ¬ (-1 : Int32) < 0 ↔ False := by decide
  rcases w2 with w2 | ⟨z, v1, v2, v3⟩
  · have F1 : F_X3_copy (nI r) a2 (nI t) a4 a5 σ = some (-3, rf 1 σ) := by
      unfold F_X3_copy
      simp only [if_neg y1', if_neg x1', if_pos h5, has_g 1 6 rfl (by decide) r hr6, if_pos (show σ (9 + 1) r = -1 from w2), Option.bind_some, rfu1, ↓reduceIte]
    have F2 : F_X4_copy (nI r) a2 (nI t) a4 a5 (rf 1 σ) = some (-3, mf 1 (rf 1 σ)) := by
      have u : rf 1 σ 53 r = -1 := by unfold rf; simp [fs_ug, w1, w2]
      unfold F_X4_copy
      simp only [if_neg y2', if_neg x2', if_pos h5, fs_gp c2, c3, u, if_pos (show (-1 : Int32) < 0 by decide), mfu1, Option.bind_some, ↓reduceIte]
    exact ⟨-3, rf 1 σ, μ, mf 1 (rf 1 σ), μ, m_X3_copy _ _ _ _ _ σ μ _ F1, m_X4_copy _ _ _ _ _ _ μ _ F2, Rel_rf hr 1 (by decide) (by decide)⟩
  have A1 : (if σ (9 + 1) r = -1 then (0 : Int32) else 1) = 1 := by rw [show σ (9 + 1) r = nI z from v2, if_neg (n1 z (by omega))]
  rcases w4 with w4 | ⟨z', v4, v5, v6⟩
  · have F1 : F_X3_copy (nI r) a2 (nI t) a4 a5 σ = some (-3, rf 1 σ) := by
      unfold F_X3_copy
      simp only [if_neg y1', if_neg x1', if_pos h5, has_g 1 6 rfl (by decide) r hr6, A1, Option.bind_some, if_neg i10, has_g 1 6 rfl (by decide) t ht6, if_pos (show σ (9 + 1) t = -1 from w4), rfu1, ↓reduceIte]
    have F2 : F_X4_copy (nI r) a2 (nI t) a4 a5 (rf 1 σ) = some (-3, mf 1 (rf 1 σ)) := by
      have u : rf 1 σ 53 t = -1 := by unfold rf; simp [fs_ug, w3, w4]
      have u2 : rf 1 σ 53 r = nI z := by unfold rf; simp [fs_ug, w1, v2]
      unfold F_X4_copy
      simp only [if_neg y2', if_neg x2', if_pos h5, fs_gp c2, c3, fs_gp e2, e3, u, u2, if_neg (nI_pos (n := z) (by omega)), if_neg nzn, mfu1, Option.bind_some, ↓reduceIte]
    exact ⟨-3, rf 1 σ, μ, mf 1 (rf 1 σ), μ, m_X3_copy _ _ _ _ _ σ μ _ F1, m_X4_copy _ _ _ _ _ _ μ _ F2, Rel_rf hr 1 (by decide) (by decide)⟩
  have A2 : (if σ (9 + 1) t = -1 then (0 : Int32) else 1) = 1 := by rw [show σ (9 + 1) t = nI z' from v5, if_neg (n1 z' (by omega))]
  have h5i : 0 ≤ a5.toInt := by rw [i_le, z0] at h5; exact h5
  have R1 : ∀ (x : Int32) (u : Nat), u ≤ 40 → (if x < 0 then (0 : Int32) else if nI u - x < a5 then 0 else 1) = if 0 ≤ x.toInt ∧ x.toInt + a5.toInt ≤ u then 1 else 0 := by
    intro x u hu
    by_cases h : x < 0
    · rw [if_pos h, if_neg]
      rw [i_lt, z0] at h
      omega
    · rw [if_neg h]
      rw [i_lt, z0] at h
      have e : (nI u - x).toInt = u - x.toInt := by
        have := toI_lt x
        rw [sub_t, nI_toInt (by omega)] <;> rw [nI_toInt (by omega)] <;> omega
      by_cases h' : nI u - x < a5
      · rw [if_pos h', if_neg]
        rw [i_lt, e] at h'
        omega
      · rw [if_neg h', if_pos]
        rw [i_lt, e] at h'
        omega
  have R2 : ∀ (x : Int32) (u : Nat), u ≤ 40 → ((nI u).toInt64 < x.toInt64 + a5.toInt64 ↔ ¬ x.toInt + a5.toInt ≤ u) := by
    intro x u hu
    rw [Int64.lt_iff_toInt_lt, add64, i64, nI_toInt (by omega)]
    omega
  by_cases hP : (0 ≤ a2.toInt ∧ a2.toInt + a5.toInt ≤ z) ∧ (0 ≤ a4.toInt ∧ a4.toInt + a5.toInt ≤ z')
  rotate_left
  · have F1 : F_X3_copy (nI r) a2 (nI t) a4 a5 σ = some (-3, rf 2 σ) := by
      unfold F_X3_copy
      simp only [if_neg y1', if_neg x1', if_pos h5, has_g 1 6 rfl (by decide) r hr6, if_neg (n1 z (by omega)), Option.bind_some, if_neg i10, has_g 1 6 rfl (by decide) t ht6, if_neg (n1 z' (by omega)), reach_g 1 6 rfl (by decide) r hr6, reach_g 1 6 rfl (by decide) t ht6, show σ (9 + 1) r = nI z from v2, show σ (9 + 1) t = nI z' from v5, R1 _ z v1, R1 _ z' v4, rfu2]
      by_cases hA : 0 ≤ a2.toInt ∧ a2.toInt + a5.toInt ≤ z
      · rw [if_pos hA, if_neg i10, if_neg (fun h => hP ⟨hA, h⟩), if_pos rfl]
      · rw [if_neg hA, if_pos rfl]
    have F2 : F_X4_copy (nI r) a2 (nI t) a4 a5 (rf 2 σ) = some (-3, mf 2 (rf 2 σ)) := by
      have u : rf 2 σ 53 t = nI z' := by unfold rf; simp [fs_ug, w3, v5]
      have u2 : rf 2 σ 53 r = nI z := by unfold rf; simp [fs_ug, w1, v2]
      unfold F_X4_copy
      simp only [if_neg y2', if_neg x2', if_pos h5, fs_gp c2, c3, fs_gp e2, e3, u, u2, if_neg (nI_pos (n := z) (by omega)), if_pos (nz z' (by omega)), mfu2, Option.bind_some, R2 _ z v1, R2 _ z' v4]
      by_cases hA : a2 < 0
      · rw [if_pos hA]
      · rw [if_neg hA]
        by_cases hB : a4 < 0
        · rw [if_pos hB]
        · rw [if_neg hB]
          rw [i_lt, z0] at hA hB
          by_cases hC : a2.toInt + a5.toInt ≤ z
          · rw [if_neg (fun h => h hC), if_pos (by omega)]
          · rw [if_pos hC]
    exact ⟨-3, rf 2 σ, μ, mf 2 (rf 2 σ), μ, m_X3_copy _ _ _ _ _ σ μ _ F1, m_X4_copy _ _ _ _ _ _ μ _ F2, Rel_rf hr 2 (by decide) (by decide)⟩
  obtain ⟨⟨p1, p2⟩, p3, p4⟩ := hP
  obtain ⟨i, hi, rfl⟩ : ∃ i, i < 41 ∧ a2 = nI i := ix (by decide) p1 (by omega)
  obtain ⟨j, hj, rfl⟩ : ∃ j, j < 41 ∧ a4 = nI j := ix (by decide) p3 (by omega)
  obtain ⟨m, hm, rfl⟩ : ∃ m, m < 41 ∧ a5 = nI m := ix (by decide) h5i (by omega)
  rw [nI_toInt (by omega), nI_toInt (by omega)] at p2 p4
  have cpg : fs_cp (38 + r) (38 + t) (nI i) (nI j) (nI m) := by
    refine ⟨nI_pos (by omega), nI_pos (by omega), nI_pos (by omega), ?_, ?_, ?_, ?_⟩
    · rw [row_len r hr6]; omega
    · rw [row_len t ht6]; omega
    · rw [row_len r hr6, nI_clamp (by omega), nI_clamp (by omega)]; omega
    · rw [row_len t ht6, nI_clamp (by omega), nI_clamp (by omega)]; omega
  have Y : ∀ k x, fs_cy σ (38 + r) (38 + t) (nI i) (nI j) (nI m) k x = if k = 38 + t ∧ j ≤ x ∧ x < j + m then σ (38 + r) (i + (x - j)) else σ k x := fun k x => by
    rw [fs_cyg, nI_clamp (by omega), nI_clamp (by omega), nI_clamp (by omega)]
  have F1 : F_X3_copy (nI r) (nI i) (nI t) (nI j) (nI m) σ = some (1, fs_cy σ (38 + r) (38 + t) (nI i) (nI j) (nI m)) := by
    unfold F_X3_copy
    simp only [if_neg y1', if_neg x1', if_pos h5, has_g 1 6 rfl (by decide) r hr6, if_neg (n1 z (by omega)), Option.bind_some, if_neg i10, has_g 1 6 rfl (by decide) t ht6, if_neg (n1 z' (by omega)), reach_g 1 6 rfl (by decide) r hr6, reach_g 1 6 rfl (by decide) t ht6, show σ (9 + 1) r = nI z from v2, show σ (9 + 1) t = nI z' from v5, R1 _ z v1, R1 _ z' v4, fs_gp c2, fs_gp e2, c3, e3, fs_gp cpg]
    rw [if_pos (show 0 ≤ (nI i).toInt ∧ (nI i).toInt + (nI m).toInt ≤ (z : Int) from ⟨p1, by rw [nI_toInt (by omega), nI_toInt (by omega)]; omega⟩), if_neg i10, if_pos (show 0 ≤ (nI j).toInt ∧ (nI j).toInt + (nI m).toInt ≤ (z' : Int) from ⟨p3, by rw [nI_toInt (by omega), nI_toInt (by omega)]; omega⟩), if_neg i10]
  generalize fs_cy σ (38 + r) (38 + t) (nI i) (nI j) (nI m) = σ1 at F1 Y
  obtain ⟨σ2, g1, g2⟩ : ∃ σ', L_X4_copy_104 fs_fu (nI r) (nI i) (nI t) (nI j) (nI m) 0 σ1 = some σ' ∧ ∀ k x, σ' k x = if k = 52 ∧ 40 * t + j ≤ x ∧ x < 40 * t + j + m then σ1 52 (40 * r + i + (x - (40 * t + j))) else σ1 k x := by
    by_cases hji : j ≤ i
    · exact m_cf hr6 ht6 (by omega) (by omega) hji σ1
    · exact m_cb hr6 ht6 (by omega) (by omega) (by omega) σ1
  have F2 : F_X4_copy (nI r) (nI i) (nI t) (nI j) (nI m) σ1 = some (1, σ2) := by
    have u : σ1 53 t = nI z' := by rw [Y, if_neg (by omega), w3, v5]
    have u2 : σ1 53 r = nI z := by rw [Y, if_neg (by omega), w1, v2]
    unfold F_X4_copy
    simp only [if_neg y2', if_neg x2', if_pos h5, fs_gp c2, c3, fs_gp e2, e3, u, u2, if_neg (nI_pos (n := z) (by omega)), if_pos (nz z' (by omega)), if_neg (nI_pos (n := i) (by omega)), if_neg (nI_pos (n := j) (by omega)), R2 _ z v1, R2 _ z' v4, nI_toInt (n := i) (by omega), nI_toInt (n := j) (by omega), nI_toInt (n := m) (by omega), if_neg (show ¬ ¬ (i : Int) + m ≤ z by omega), if_neg (show ¬ ¬ (j : Int) + m ≤ z' by omega), g1, Option.bind_some]
  have fr : ∀ k x, ¬ (k = 52 ∧ 40 * t + j ≤ x ∧ x < 40 * t + j + m) → ¬ (k = 38 + t ∧ j ≤ x ∧ x < j + m) → σ2 k x = σ k x := fun k x b1 b2 => by
    rw [g2, if_neg b1, Y, if_neg b2]
  refine ⟨1, σ1, μ, σ2, μ, m_X3_copy _ _ _ _ _ σ μ _ F1, m_X4_copy _ _ _ _ _ _ μ _ F2, n, d, ?_, ?_, ?_, ?_, ?_, ?_⟩
  · exact RA_fr (fun k j q => fr k j (by omega) (by omega)) q1
  · refine ⟨by rw [fr 1 2 (by omega) (by omega), q2.1], fun u hu => ?_⟩
    obtain ⟨b1, b2⟩ := q2.2 u hu
    rw [fr 53 u (by omega) (by omega), fr 10 u (by omega) (by omega)]
    refine ⟨b1, ?_⟩
    rcases b2 with b2 | ⟨y, b3, b4, b5⟩
    · exact Or.inl b2
    · refine Or.inr ⟨y, b3, b4, fun x hx => ?_⟩
      by_cases hc : u = t ∧ j ≤ x ∧ x < j + m
      · obtain ⟨rfl, hc1, hc2⟩ := hc
        rw [g2 52 (40 * u + x), if_pos (by omega), g2 (38 + u) x, if_neg (by omega), Y (38 + u) x, if_pos (by omega), Y 52, if_neg (by omega), show 40 * r + i + (40 * u + x - (40 * u + j)) = 40 * r + (i + (x - j)) by omega, v3 _ (by omega)]
      · rw [fr 52 (40 * u + x) (by omega) (by omega), fr (38 + u) x (by omega) (by omega), b5 x hx]
  · exact RT_fr (fun k j q => fr k j (by omega) (by omega)) q3
  · exact RK_fr (fun k j q => fr k j (by omega) (by omega)) q4
  · exact RD_fr (fun k j q => fr k j (by omega) (by omega)) q5
  · exact RP_fr (fun k j q => fr k j (by omega) (by omega)) q6
