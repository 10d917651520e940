set_option maxHeartbeats 4000000 in
theorem c_mill {n N i0 : Nat} (hn : n ≤ 6) (hN : N ≤ 61) {σa : fsS} {v : Int32} (hs : σa 6 0 = nI n) (hP : ∀ m, m < N → ∀ i, i < n → ito σa 6 n m i < v) (hE : N = 61 ∨ (i0 < n ∧ ¬ ito σa 6 n N i0 < v ∧ ∀ j, j < i0 → ito σa 6 n N j < v)) : ∃ σ1, (N = 61 ∧ L_X3_mill_38 fs_fu v 0 σa = some (1, 0, 0, σ1) ∨ N < 61 ∧ L_X3_mill_38 fs_fu v 0 σa = some (0, nI N, nI i0, σ1)) ∧ ∃ m, at_m σa 6 n m σ1 := by
  obtain ⟨⟨q, y, z, σ1⟩, b1, b2⟩ := fs_loop (fun f (x : Int32 × fsS) => L_X3_mill_38 f v x.1 x.2) (fun t x => x.1 = nI t ∧ at_m σa 6 n t x.2) (fun (x : Nat × Int32 × Int32 × fsS) => (N = 61 ∧ x.1 = 1 ∧ x.2.1 = 0 ∧ x.2.2.1 = 0 ∨ N < 61 ∧ x.1 = 0 ∧ x.2.1 = nI N ∧ x.2.2.1 = nI i0) ∧ ∃ m, at_m σa 6 n m x.2.2.2) N (by
    rintro f t ⟨y, τ⟩ ht ⟨hy, h⟩
    dsimp only at hy h ⊢
    subst hy
    left
    obtain ⟨τ', e1, e2, e3, e4⟩ := w_pass_m fs_K6 hn hs h
    have h6 : τ 6 0 = nI n := by rw [h.2 _ _ (by omega), hs]
    have e5 := c_first (p := ito σa 6 n t) hn v h6 (fun i _ => h.1 i) (Nat.le_refl n) (hP t ht) (Or.inl rfl)
    rw [if_pos rfl] at e5
    refine ⟨(nI t + 1, τ'), ⟨nI_1 t, e2⟩, ?_⟩
    have c1 : ¬ (60 : Int32) < nI t := by rw [i_lt, z60, nI_toInt (by omega)]; omega
    simp only [L_X3_mill_38, if_neg c1, e5, e1, Option.bind_some, ↓reduceIte]) (by
    rintro f ⟨y, τ⟩ ⟨hy, h⟩
    dsimp only at hy h ⊢
    subst hy
    by_cases h61 : N = 61
    · refine ⟨(1, 0, 0, τ), ?_, Or.inl ⟨h61, rfl, rfl, rfl⟩, N, h⟩
      have c1 : (60 : Int32) < nI N := by rw [i_lt, z60, nI_toInt (by omega)]; omega
      simp only [L_X3_mill_38, if_pos c1]
    · obtain ⟨g1, g2, g3⟩ := hE.resolve_left h61
      have h6 : τ 6 0 = nI n := by rw [h.2 _ _ (by omega), hs]
      have e5 := c_first (p := ito σa 6 n N) (N := i0) hn v h6 (fun i _ => h.1 i) (by omega) g3 (Or.inr g2)
      rw [if_neg (by omega)] at e5
      refine ⟨(0, nI N, nI i0, τ), ?_, Or.inr ⟨by omega, rfl, rfl, rfl⟩, N, h⟩
      have c1 : ¬ (60 : Int32) < nI N := by rw [i_lt, z60, nI_toInt (by omega)]; omega
      simp only [L_X3_mill_38, if_neg c1, e5, Option.bind_some, if_neg (nI9 i0 (by omega))]) fs_fu 0 (0, σa) (Nat.zero_le _) (fs_fub _ (by omega)) ⟨rfl, at_0 σa 6 n⟩
  dsimp only at b1 b2
  refine ⟨σ1, ?_, b2.2⟩
  rcases b2.1 with ⟨h1, h2, h3, h4⟩ | ⟨h1, h2, h3, h4⟩
  · subst h2; subst h3; subst h4; exact Or.inl ⟨h1, b1⟩
  · subst h2; subst h3; subst h4; exact Or.inr ⟨h1, b1⟩
set_option maxHeartbeats 4000000 in
theorem m_mill {n N i0 : Nat} {kd lk wa s p : Nat → Int32} (hk : kb n kd lk wa s p) (hN : N ≤ 61) {σ τa : fsS} {v : Int32} (ha : am n kd lk wa s p σ 0 τa) (hP : ∀ m, m < N → ∀ i, i < n → it n kd lk wa s p m i < v) (hE : N = 61 ∨ (i0 < n ∧ ¬ it n kd lk wa s p N i0 < v ∧ ∀ j, j < i0 → it n kd lk wa s p N j < v)) : ∃ τ1, (N = 61 ∧ L_X4_mill_30 fs_fu v 0 τa = some (1, 0, 0, τ1) ∨ N < 61 ∧ L_X4_mill_30 fs_fu v 0 τa = some (0, nI N, nI i0, τ1)) ∧ ∃ m, am n kd lk wa s p σ m τ1 := by
  have hn := hk.1
  obtain ⟨⟨q, y, z, σ1⟩, b1, b2⟩ := fs_loop (fun f (x : Int32 × fsS) => L_X4_mill_30 f v x.1 x.2) (fun t x => x.1 = nI t ∧ am n kd lk wa s p σ t x.2) (fun (x : Nat × Int32 × Int32 × fsS) => (N = 61 ∧ x.1 = 1 ∧ x.2.1 = 0 ∧ x.2.2.1 = 0 ∨ N < 61 ∧ x.1 = 0 ∧ x.2.1 = nI N ∧ x.2.2.1 = nI i0) ∧ ∃ m, am n kd lk wa s p σ m x.2.2.2) N (by
    rintro f t ⟨y, τ⟩ ht ⟨hy, h⟩
    dsimp only at hy h ⊢
    subst hy
    left
    obtain ⟨τ', e1, e2⟩ := w_goes_m hk h
    obtain ⟨z, e5, -⟩ := m_first (p := it n kd lk wa s p t) hn v (nI t) h.1.1 (fun i hi => (h.1.2 i hi).2.2.2.2) (Nat.le_refl n) (hP t ht) (Or.inl rfl)
    rw [if_pos rfl] at e5
    refine ⟨(nI t + 1, τ'), ⟨nI_1 t, e2⟩, ?_⟩
    have c1 : ¬ (61 : Int32) ≤ nI t := nI_ge (b := 61) (by omega) (by omega)
    simp only [L_X4_mill_30, if_neg c1, e5, e1, Option.bind_some, if_neg (show ¬ (1 : Nat) = 0 by decide)]) (by
    rintro f ⟨y, τ⟩ ⟨hy, h⟩
    dsimp only at hy h ⊢
    subst hy
    by_cases h61 : N = 61
    · refine ⟨(1, 0, 0, τ), ?_, Or.inl ⟨h61, rfl, rfl, rfl⟩, N, h⟩
      have c1 : (61 : Int32) ≤ nI N := nI_le (a := 61) (by omega) (by omega)
      simp only [L_X4_mill_30, if_pos c1]
    · obtain ⟨g1, g2, g3⟩ := hE.resolve_left h61
      obtain ⟨z, e5, e6⟩ := m_first (p := it n kd lk wa s p N) (N := i0) hn v (nI N) h.1.1 (fun i hi => (h.1.2 i hi).2.2.2.2) (by omega) g3 (Or.inr g2)
      rw [if_neg (by omega)] at e5
      have e7 := e6.resolve_left (by omega)
      subst e7
      refine ⟨(0, nI N, nI i0, τ), ?_, Or.inr ⟨by omega, rfl, rfl, rfl⟩, N, h⟩
      have c1 : ¬ (61 : Int32) ≤ nI N := nI_ge (b := 61) (by omega) (by omega)
      simp only [L_X4_mill_30, if_neg c1, e5, Option.bind_some, ↓reduceIte]) fs_fu 0 (0, τa) (Nat.zero_le _) (fs_fub _ (by omega)) ⟨rfl, ha⟩
  dsimp only at b1 b2
  refine ⟨σ1, ?_, b2.2⟩
  rcases b2.1 with ⟨h1, h2, h3, h4⟩ | ⟨h1, h2, h3, h4⟩
  · subst h2; subst h3; subst h4; exact Or.inl ⟨h1, b1⟩
  · subst h2; subst h3; subst h4; exact Or.inr ⟨h1, b1⟩
set_option maxHeartbeats 4000000 in
theorem e_mill : ec_mill Rel := by
  intro a1 σ μ hr
  obtain ⟨n, hn0, hs, hk, hm⟩ := Rel_now hr
  have hn := hk.1
  by_cases hx : 0 ≤ a1.toInt ∧ a1.toInt < 100
  · obtain ⟨w, hw, rfl⟩ := ix (n := 100) (by omega) hx.1 hx.2
    have ew : (nI w).toInt = w := nI_toInt (by omega)
    have g0 : ¬ nI w < 0 := nI_pos (by omega)
    have g9 : nI w ≤ 99 := by rw [i_le, ew, show (99 : Int32).toInt = 99 from rfl]; omega
    have hin : F_X4_in ((nI w).toInt64) 0 99 = 1 := in_y (by rw [ew, Z0, show (99 : Int64).toInt = 99 from rfl]; omega)
    by_cases h0 : n = 0
    · subst h0
      have F1 : F_X3_mill (nI w) σ = some (-4, σ) := by
        unfold F_X3_mill
        rw [if_neg g0, if_pos g9, if_neg (nok_n hs)]
      have F2 : F_X4_mill (nI w) σ = some (-4, σ) := by
        unfold F_X4_mill
        rw [hin, if_neg i10, hm.1, if_pos (by decide)]
      exact ⟨-4, σ, μ, σ, μ, m_X3_mill _ σ μ _ F1, m_X4_mill _ σ μ _ F2, hr⟩
    · obtain ⟨σa, b1, b2, b3, b4⟩ := c_aside hn hs
      obtain ⟨N, n1, n2, n3⟩ := upto (fun m => ∃ i, i < n ∧ ¬ it n (σ 21) (σ 22) (σ 23) (σ 25) (σ 24) m i < nI w) 61
      have n2' : ∀ m, m < N → ∀ i, i < n → it n (σ 21) (σ 22) (σ 23) (σ 25) (σ 24) m i < nI w := fun m hm i hi => Classical.byContradiction (fun q => n2 m hm ⟨i, hi, q⟩)
      obtain ⟨i0, n3'⟩ : ∃ i0, N = 61 ∨ (i0 < n ∧ ¬ it n (σ 21) (σ 22) (σ 23) (σ 25) (σ 24) N i0 < nI w ∧ ∀ j, j < i0 → it n (σ 21) (σ 22) (σ 23) (σ 25) (σ 24) N j < nI w) := by
        rcases n3 with n3 | n3
        · exact ⟨0, Or.inl n3⟩
        · obtain ⟨i, ⟨h1, h2⟩, h3⟩ := pk_least (fun i => i < n ∧ ¬ it n (σ 21) (σ 22) (σ 23) (σ 25) (σ 24) N i < nI w) n3
          exact ⟨i, Or.inr ⟨h1, h2, fun j hj => Classical.byContradiction (fun q => h3 j hj ⟨by omega, q⟩)⟩⟩
      obtain ⟨σ1, d1, m', d2⟩ := c_mill (i0 := i0) hn n1 (v := nI w) b2 (fun m hm i hi => by rw [c_ito hn b3 m i hi]; exact n2' m hm i hi) (by
        rcases n3' with q | ⟨q1, q2, q3⟩
        · exact Or.inl q
        · exact Or.inr ⟨q1, by rw [c_ito hn b3 N i0 q1]; exact q2, fun j hj => by rw [c_ito hn b3 N j (by omega)]; exact q3 j hj⟩)
      have hfr : ∀ k j, ¬ (k = 6 ∨ (28 ≤ k ∧ k < 35)) → σ1 k j = σ k j := fun k j q => by rw [d2.2 k j (by omega), b4 k j q]
      rcases d1 with ⟨w1, w2⟩ | ⟨w1, w2⟩
      · have F1 : F_X3_mill (nI w) σ = some (-9, σ1) := by
          unfold F_X3_mill
          rw [if_neg g0, if_pos g9, if_pos (nok_y hn hs (by omega)), b1, Option.bind_some, w2, Option.bind_some]
          rfl
        have hm1 : mv σ1 60 n (σ 21) (σ 22) (σ 23) (σ 25) (σ 24) := mv_fr hm (fun k j q => hfr k j (by omega))
        obtain ⟨τa, g1, g2⟩ := m_aside hn hm1
        obtain ⟨τ1, k1, m2, k2⟩ := m_mill (i0 := i0) hk n1 g2 n2' n3'
        rcases k1 with ⟨-, k1⟩ | ⟨k0, -⟩
        · have F2 : F_X4_mill (nI w) σ1 = some (-9, τ1) := by
            unfold F_X4_mill
            rw [hin, if_neg i10, if_neg (by rw [hm1.1]; exact nI_ne0 (by omega) (by omega)), g1, Option.bind_some, k1, Option.bind_some]
            rfl
          exact ⟨-9, σ1, μ, τ1, μ, m_X3_mill _ σ μ _ F1, m_X4_mill _ _ μ _ F2, Rel_q hr (fun k j q => hfr k j (by unfold sC at q; omega)) (fun k j q => k2.2 k j (by unfold sM at q; omega) (by unfold sM at q; omega))⟩
        · omega
      · have F1 : F_X3_mill (nI w) σ = some (nI i0, fs_u σ1 0 8 (nI N)) := by
          unfold F_X3_mill
          rw [if_neg g0, if_pos g9, if_pos (nok_y hn hs (by omega)), b1, Option.bind_some, w2, Option.bind_some]
          rfl
        have hm1 : mv (fs_u σ1 0 8 (nI N)) 60 n (σ 21) (σ 22) (σ 23) (σ 25) (σ 24) := mv_fr hm (fun k j q => by rw [fs_ug, if_neg (by omega), hfr k j (by omega)])
        obtain ⟨τa, g1, g2⟩ := m_aside hn hm1
        obtain ⟨τ1, k1, m2, k2⟩ := m_mill (i0 := i0) hk n1 g2 n2' n3'
        rcases k1 with ⟨k0, -⟩ | ⟨-, k1⟩
        · omega
        · have F2 : F_X4_mill (nI w) (fs_u σ1 0 8 (nI N)) = some (nI i0, fs_u τ1 51 4 (nI N)) := by
            unfold F_X4_mill
            rw [hin, if_neg i10, if_neg (by rw [hm1.1]; exact nI_ne0 (by omega) (by omega)), g1, Option.bind_some, k1, Option.bind_some]
            rfl
          exact ⟨nI i0, fs_u σ1 0 8 (nI N), μ, fs_u τ1 51 4 (nI N), μ, m_X3_mill _ σ μ _ F1, m_X4_mill _ _ μ _ F2, Rel_qa hr (nI N) (fun k j q => hfr k j (by unfold sC at q; omega)) (fun k j q => k2.2 k j (by unfold sM at q; omega) (by unfold sM at q; omega))⟩
  · have F1 : F_X3_mill a1 σ = some (-1, σ) := by
      unfold F_X3_mill
      by_cases g : a1 < 0
      · rw [if_pos g]
      · rw [if_neg g, if_neg]
        rw [i_lt, z0] at g
        rw [i_le, show (99 : Int32).toInt = 99 from rfl]
        omega
    have F2 : F_X4_mill a1 σ = some (-1, σ) := by
      unfold F_X4_mill
      rw [in_n (by rw [Z0, show (99 : Int64).toInt = 99 from rfl]; omega), if_pos rfl]
    exact ⟨-1, σ, μ, σ, μ, m_X3_mill _ σ μ _ F1, m_X4_mill _ σ μ _ F2, hr⟩
