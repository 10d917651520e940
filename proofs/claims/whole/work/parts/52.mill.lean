theorem chg_congr {p q p' q' : Nat → Int32} : ∀ {n : Nat}, (∀ i, i < n → p i = p' i) → (∀ i, i < n → q i = q' i) → chg p q n = chg p' q' n
  | 0, _, _ => rfl
  | n + 1, h1, h2 => by
    unfold chg
    rw [h1 n (by omega), h2 n (by omega), chg_congr (fun i hi => h1 i (by omega)) (fun i hi => h2 i (by omega))]
def sty (p q : Nat → Int32) (n : Nat) : Int32 := if chg p q n = 0 then 1 else 0
theorem am_lays {n : Nat} {kd lk wa s p : Nat → Int32} (hk : kb n kd lk wa s p) (h0 : 0 < n) {σ τ : fsS} {m : Nat} (h : am n kd lk wa s p σ m τ) : ∃ τ', F_X4_laysRegards 61 τ = some (sR kd lk s (it n kd lk wa s p m) (fo (sR kd lk s (it n kd lk wa s p m)) n), τ') ∧ (∀ i, i < n → τ' 62 i = sR kd lk s (it n kd lk wa s p m) i) ∧ am n kd lk wa s p σ m τ' := by
  obtain ⟨τ', e1, e2, e3⟩ := w_lays (Or.inr rfl) (kb_it hk m) h.1
  rw [mo_fo _ n h0 (fun j hj => (kb_R (kb_it hk m) hj).2.1)] at e1
  refine ⟨τ', e1, e2, ⟨by rw [e3 _ _ (by omega), h.1.1], fun i hi => ?_⟩, fun k j q1 q2 => by rw [e3 _ _ q1, h.2 k j q1 q2]⟩
  rw [e3 _ _ (by omega), e3 _ _ (by omega), e3 _ _ (by omega), e3 _ _ (by omega), e3 _ _ (by omega)]
  exact h.1.2 i hi
set_option maxHeartbeats 4000000 in
theorem m_stays {n : Nat} {kd lk wa s p : Nat → Int32} (hk : kb n kd lk wa s p) {σ τ : fsS} {m : Nat} (h : am n kd lk wa s p σ m τ) (hR : ∀ i, i < n → τ 62 i = sR kd lk s (it n kd lk wa s p m) i) (y1 : Int32) : L_X4_settles_36 fs_fu y1 (sR kd lk s (it n kd lk wa s p m) (fo (sR kd lk s (it n kd lk wa s p m)) n)) 1 0 τ = some (sty (it n kd lk wa s p m) (it n kd lk wa s p (m + 1)) n) := by
  have hn := hk.1
  obtain ⟨r, b1, b2⟩ := fs_loop (fun f (x : Int32 × Int32) => L_X4_settles_36 f y1 (sR kd lk s (it n kd lk wa s p m) (fo (sR kd lk s (it n kd lk wa s p m)) n)) x.1 x.2 τ) (fun t x => x.1 = sty (it n kd lk wa s p m) (it n kd lk wa s p (m + 1)) t ∧ x.2 = nI t) (fun r => r = sty (it n kd lk wa s p m) (it n kd lk wa s p (m + 1)) n) n (by
    rintro f t ⟨r, y⟩ ht ⟨hr, hy⟩
    dsimp only at hr hy ⊢
    subst hy
    left
    have c1 : ¬ τ 51 9 ≤ nI t := by rw [h.1.1]; exact nI_ge ht (by omega)
    have c2 : fs_in (nI t) 6 := vp_in_nI (by omega) (by omega)
    have c3 : (nI t).toNatClampNeg = t := nI_clamp (by omega)
    have c5 : (1 : Int32) + nI t = nI (1 + t) := nI_add 1 t
    have c7 : fs_in (nI (1 + t)) 13 := vp_in_nI (by omega) (by omega)
    have c9 : (nI (1 + t)).toNatClampNeg = 1 + t := nI_clamp (by omega)
    obtain ⟨m1, m2, m3, m4, m5⟩ := h.1.2 t ht
    have d4 : it n kd lk wa s p (m + 1) t = cp ((it n kd lk wa s p m t + (sR kd lk s (it n kd lk wa s p m) (fo (sR kd lk s (it n kd lk wa s p m)) n) - sR kd lk s (it n kd lk wa s p m) t)) - wa t) := by
      show (if t < n then _ else _) = _
      rw [if_pos ht]
    by_cases h0 : chg (it n kd lk wa s p m) (it n kd lk wa s p (m + 1)) t = 0
    · have hr1 : r = 1 := by rw [hr]; unfold sty; rw [if_pos h0]
      subst hr1
      by_cases hq : it n kd lk wa s p (m + 1) t = it n kd lk wa s p m t
      · refine ⟨(1, nI t + 1), ⟨?_, nI_1 t⟩, ?_⟩
        · dsimp only; unfold sty chg; rw [if_pos hq, if_pos h0]
        · simp only [L_X4_settles_36, if_neg c1, c5, fs_gp c7, if_neg i10, fs_gp c2, c3, c9, m3, m5, hR t ht, clamp_eq, pm_eq, ← d4, if_pos hq.symm]
      · refine ⟨(0, nI t + 1), ⟨?_, nI_1 t⟩, ?_⟩
        · dsimp only; unfold sty chg; rw [if_neg hq, if_neg i10]
        · simp only [L_X4_settles_36, if_neg c1, c5, fs_gp c7, if_neg i10, fs_gp c2, c3, c9, m3, m5, hR t ht, clamp_eq, pm_eq, ← d4, if_neg (fun e => hq (Eq.symm e))]
    · have hr1 : r = 0 := by rw [hr]; unfold sty; rw [if_neg h0]
      subst hr1
      refine ⟨(0, nI t + 1), ⟨?_, nI_1 t⟩, ?_⟩
      · dsimp only
        unfold sty chg
        by_cases hq : it n kd lk wa s p (m + 1) t = it n kd lk wa s p m t
        · rw [if_pos hq, if_neg h0]
        · rw [if_neg hq, if_neg i10]
      · simp only [L_X4_settles_36, if_neg c1, c5, fs_gp c7, ↓reduceIte]) (by
    rintro f ⟨r, y⟩ ⟨hr, hy⟩
    dsimp only at hr hy ⊢
    subst hy
    refine ⟨r, ?_, hr⟩
    have c1 : τ 51 9 ≤ nI n := by rw [h.1.1]; exact nI_le (Nat.le_refl n) (by omega)
    simp only [L_X4_settles_36, if_pos c1]) fs_fu 0 (1, 0) (Nat.zero_le _) (fs_fub _ (by omega)) ⟨rfl, rfl⟩
  dsimp only at b1
  rw [b1, b2]
set_option maxHeartbeats 4000000 in
/-- settles(), the class: the loop up to the first QUARTER that changes nothing, or to the end -/
theorem c_settles {n N : Nat} (hn : n ≤ 6) (hN : N ≤ 61) {σa : fsS} (hs : σa 6 0 = nI n) (hP : ∀ j, j < N → ¬ chg (ito σa 6 n j) (ito σa 6 n (j + 1)) n = 0) (hE : N = 61 ∨ chg (ito σa 6 n N) (ito σa 6 n (N + 1)) n = 0) : ∃ σ1, (N = 61 ∧ L_X3_settles_26 fs_fu 0 σa = some (1, 0, σ1) ∨ N < 61 ∧ L_X3_settles_26 fs_fu 0 σa = some (0, nI N, σ1) ∧ σ1 6 9 = gv n (σa 28) (σa 29) (σa 32) (ito σa 6 n N)) ∧ ∃ m, at_m σa 6 n m σ1 := by
  obtain ⟨⟨q, y, σ1⟩, b1, b2⟩ := fs_loop (fun f (x : Int32 × fsS) => L_X3_settles_26 f x.1 x.2) (fun t x => x.1 = nI t ∧ at_m σa 6 n t x.2) (fun (x : Nat × Int32 × fsS) => (N = 61 ∧ x.1 = 1 ∧ x.2.1 = 0 ∨ N < 61 ∧ x.1 = 0 ∧ x.2.1 = nI N ∧ x.2.2 6 9 = gv n (σa 28) (σa 29) (σa 32) (ito σa 6 n N)) ∧ ∃ m, at_m σa 6 n m x.2.2) N (by
    rintro f t ⟨y, τ⟩ ht ⟨hy, h⟩
    dsimp only at hy h ⊢
    subst hy
    left
    obtain ⟨τ', e1, e2, e3, e4⟩ := w_pass_m fs_K6 hn hs h
    refine ⟨(nI t + 1, τ'), ⟨nI_1 t, e2⟩, ?_⟩
    have c1 : ¬ (60 : Int32) < nI t := by rw [i_lt, z60, nI_toInt (by omega)]; omega
    simp only [L_X3_settles_26, if_neg c1, e1, Option.bind_some, if_neg (hP t ht)]) (by
    rintro f ⟨y, τ⟩ ⟨hy, h⟩
    dsimp only at hy h ⊢
    subst hy
    by_cases h61 : N = 61
    · refine ⟨(1, 0, τ), ?_, Or.inl ⟨h61, rfl, rfl⟩, N, h⟩
      have c1 : (60 : Int32) < nI N := by rw [i_lt, z60, nI_toInt (by omega)]; omega
      simp only [L_X3_settles_26, if_pos c1]
    · obtain ⟨τ', e1, e2, e3, e4⟩ := w_pass_m fs_K6 hn hs h
      refine ⟨(0, nI N, τ'), ?_, Or.inr ⟨by omega, rfl, rfl, e3⟩, N + 1, e2⟩
      have c1 : ¬ (60 : Int32) < nI N := by rw [i_lt, z60, nI_toInt (by omega)]; omega
      simp only [L_X3_settles_26, if_neg c1, e1, Option.bind_some, if_pos (hE.resolve_left h61)]) fs_fu 0 (0, σa) (Nat.zero_le _) (fs_fub _ (by omega)) ⟨rfl, at_0 σa 6 n⟩
  dsimp only at b1 b2
  refine ⟨σ1, ?_, b2.2⟩
  rcases b2.1 with ⟨h1, h2, h3⟩ | ⟨h1, h2, h3, h4⟩
  · subst h2; subst h3; exact Or.inl ⟨h1, b1⟩
  · subst h2; subst h3; exact Or.inr ⟨h1, b1, h4⟩
set_option maxHeartbeats 4000000 in
theorem m_settles {n N : Nat} {kd lk wa s p : Nat → Int32} (hk : kb n kd lk wa s p) (h0 : 0 < n) (hN : N ≤ 61) {σ τa : fsS} (ha : am n kd lk wa s p σ 0 τa) (hP : ∀ j, j < N → ¬ chg (it n kd lk wa s p j) (it n kd lk wa s p (j + 1)) n = 0) (hE : N = 61 ∨ chg (it n kd lk wa s p N) (it n kd lk wa s p (N + 1)) n = 0) : ∃ τ1, (N = 61 ∧ L_X4_settles_16 fs_fu 0 τa = some (1, 0, 0, τ1) ∨ N < 61 ∧ L_X4_settles_16 fs_fu 0 τa = some (0, nI N, gv n kd lk s (it n kd lk wa s p N), τ1)) ∧ ∃ m, am n kd lk wa s p σ m τ1 := by
  obtain ⟨⟨q, y, g, τ1⟩, b1, b2⟩ := fs_loop (fun f (x : Int32 × fsS) => L_X4_settles_16 f x.1 x.2) (fun t x => x.1 = nI t ∧ am n kd lk wa s p σ t x.2) (fun (x : Nat × Int32 × Int32 × fsS) => (N = 61 ∧ x.1 = 1 ∧ x.2.1 = 0 ∧ x.2.2.1 = 0 ∨ N < 61 ∧ x.1 = 0 ∧ x.2.1 = nI N ∧ x.2.2.1 = gv n kd lk s (it n kd lk wa s p N)) ∧ ∃ m, am n kd lk wa s p σ m x.2.2.2) N (by
    rintro f t ⟨y, τ⟩ ht ⟨hy, h⟩
    dsimp only at hy h ⊢
    subst hy
    left
    obtain ⟨τ2, e1, e2, e3⟩ := am_lays hk h0 h
    have e4 := m_stays hk e3 e2 (nI t)
    obtain ⟨τ', e5, e6⟩ := w_goes_m hk e3
    refine ⟨(nI t + 1, τ'), ⟨nI_1 t, e6⟩, ?_⟩
    have c1 : ¬ (61 : Int32) ≤ nI t := nI_ge (b := 61) (by omega) (by omega)
    have c2 : sty (it n kd lk wa s p t) (it n kd lk wa s p (t + 1)) n = 0 := by unfold sty; rw [if_neg (hP t ht)]
    simp only [L_X4_settles_16, if_neg c1, e1, Option.bind_some, e4, c2, e5, ↓reduceIte]) (by
    rintro f ⟨y, τ⟩ ⟨hy, h⟩
    dsimp only at hy h ⊢
    subst hy
    by_cases h61 : N = 61
    · refine ⟨(1, 0, 0, τ), ?_, Or.inl ⟨h61, rfl, rfl, rfl⟩, N, h⟩
      have c1 : (61 : Int32) ≤ nI N := nI_le (a := 61) (by omega) (by omega)
      simp only [L_X4_settles_16, if_pos c1]
    · obtain ⟨τ2, e1, e2, e3⟩ := am_lays hk h0 h
      have e4 := m_stays hk e3 e2 (nI N)
      obtain ⟨τ', e5, e6⟩ := w_goes_m hk e3
      refine ⟨(0, nI N, gv n kd lk s (it n kd lk wa s p N), τ'), ?_, Or.inr ⟨by omega, rfl, rfl, rfl⟩, N + 1, e6⟩
      have c1 : ¬ (61 : Int32) ≤ nI N := nI_ge (b := 61) (by omega) (by omega)
      have c2 : ¬ sty (it n kd lk wa s p N) (it n kd lk wa s p (N + 1)) n = 0 := by unfold sty; rw [if_pos (hE.resolve_left h61)]; exact i10
      simp only [L_X4_settles_16, if_neg c1, e1, Option.bind_some, e4, e5, if_neg c2]) fs_fu 0 (0, τa) (Nat.zero_le _) (fs_fub _ (by omega)) ⟨rfl, ha⟩
  dsimp only at b1 b2
  refine ⟨τ1, ?_, b2.2⟩
  rcases b2.1 with ⟨h1, h2, h3, h4⟩ | ⟨h1, h2, h3, h4⟩
  · subst h2; subst h3; subst h4; exact Or.inl ⟨h1, b1⟩
  · subst h2; subst h3; subst h4; exact Or.inr ⟨h1, b1⟩
/-- the first place below N at which P, or N -/
theorem upto (P : Nat → Prop) (N : Nat) : ∃ m, m ≤ N ∧ (∀ j, j < m → ¬ P j) ∧ (m = N ∨ P m) := by
  by_cases h : ∃ m, m < N ∧ P m
  · obtain ⟨m, ⟨h1, h2⟩, h3⟩ := pk_least (fun m => m < N ∧ P m) h
    exact ⟨m, by omega, fun j hj hp => h3 j hj ⟨by omega, hp⟩, Or.inr h2⟩
  · exact ⟨N, Nat.le_refl N, fun j hj hp => h ⟨j, hj, hp⟩, Or.inl rfl⟩
set_option maxHeartbeats 4000000 in
theorem e_settles : ec_settles Rel := by
  intro σ μ hr
  obtain ⟨n, hn0, hs, hk, hm⟩ := Rel_now hr
  have hn := hk.1
  by_cases h0 : n = 0
  · subst h0
    have F1 : F_X3_settles σ = some (-4, σ) := by
      unfold F_X3_settles
      rw [if_neg (nok_n hs)]
    have F2 : F_X4_settles σ = some (-4, σ) := by
      unfold F_X4_settles
      rw [hm.1, if_pos (by decide)]
    exact ⟨-4, σ, μ, σ, μ, m_X3_settles σ μ _ F1, m_X4_settles σ μ _ F2, hr⟩
  · obtain ⟨σa, b1, b2, b3, b4⟩ := c_aside hn hs
    obtain ⟨N, n1, n2, n3⟩ := upto (fun j => chg (it n (σ 21) (σ 22) (σ 23) (σ 25) (σ 24) j) (it n (σ 21) (σ 22) (σ 23) (σ 25) (σ 24) (j + 1)) n = 0) 61
    have hc : ∀ j, chg (ito σa 6 n j) (ito σa 6 n (j + 1)) n = chg (it n (σ 21) (σ 22) (σ 23) (σ 25) (σ 24) j) (it n (σ 21) (σ 22) (σ 23) (σ 25) (σ 24) (j + 1)) n := fun j => chg_congr (fun i hi => c_ito hn b3 j i hi) (fun i hi => c_ito hn b3 (j + 1) i hi)
    obtain ⟨σ1, d1, m', d2⟩ := c_settles hn n1 b2 (fun j hj => by rw [hc]; exact n2 j hj) (by rw [hc]; exact n3)
    have hfr : ∀ k j, ¬ (k = 6 ∨ (28 ≤ k ∧ k < 35)) → σ1 k j = σ k j := fun k j q => by rw [d2.2 k j (by omega), b4 k j q]
    have hg : gv n (σa 28) (σa 29) (σa 32) (ito σa 6 n N) = gv n (σ 21) (σ 22) (σ 25) (it n (σ 21) (σ 22) (σ 23) (σ 25) (σ 24) N) := gv_congr (fun i hi => (b3 i (by omega)).1) (fun i hi => (b3 i (by omega)).2.1) (fun i hi => (b3 i (by omega)).2.2.2.2) (fun i hi => c_ito hn b3 N i hi)
    rcases d1 with ⟨w1, w2⟩ | ⟨w1, w2, w3⟩
    · have F1 : F_X3_settles σ = some (-9, σ1) := by
        unfold F_X3_settles
        rw [if_pos (nok_y hn hs (by omega)), b1, Option.bind_some, w2, Option.bind_some]
        rfl
      have hm1 : mv σ1 60 n (σ 21) (σ 22) (σ 23) (σ 25) (σ 24) := mv_fr hm (fun k j q => hfr k j (by omega))
      obtain ⟨τa, g1, g2⟩ := m_aside hn hm1
      obtain ⟨τ1, k1, m2, k2⟩ := m_settles hk (by omega) n1 g2 n2 n3
      rcases k1 with ⟨-, k1⟩ | ⟨k0, -⟩
      · have F2 : F_X4_settles σ1 = some (-9, τ1) := by
          unfold F_X4_settles
          rw [if_neg (by rw [hm1.1]; exact nI_ne0 (by omega) (by omega)), g1, Option.bind_some, k1, Option.bind_some]
          rfl
        exact ⟨-9, σ1, μ, τ1, μ, m_X3_settles σ μ _ F1, m_X4_settles _ μ _ F2, Rel_q hr (fun k j q => hfr k j (by unfold sC at q; omega)) (fun k j q => k2.2 k j (by unfold sM at q; omega) (by unfold sM at q; omega))⟩
      · omega
    · rw [hg] at w3
      generalize hv : gv n (σ 21) (σ 22) (σ 25) (it n (σ 21) (σ 22) (σ 23) (σ 25) (σ 24) N) = v at w3
      have F1 : F_X3_settles σ = some (nI N, fs_u σ1 0 8 v) := by
        unfold F_X3_settles
        rw [if_pos (nok_y hn hs (by omega)), b1, Option.bind_some, w2, Option.bind_some]
        dsimp only
        rw [if_pos rfl, w3]
        rfl
      have hm1 : mv (fs_u σ1 0 8 v) 60 n (σ 21) (σ 22) (σ 23) (σ 25) (σ 24) := mv_fr hm (fun k j q => by rw [fs_ug, if_neg (by omega), hfr k j (by omega)])
      obtain ⟨τa, g1, g2⟩ := m_aside hn hm1
      obtain ⟨τ1, k1, m2, k2⟩ := m_settles hk (by omega) n1 g2 n2 n3
      rcases k1 with ⟨k0, -⟩ | ⟨-, k1⟩
      · omega
      · rw [hv] at k1
        have F2 : F_X4_settles (fs_u σ1 0 8 v) = some (nI N, fs_u τ1 51 4 v) := by
          unfold F_X4_settles
          rw [if_neg (by rw [hm1.1]; exact nI_ne0 (by omega) (by omega)), g1, Option.bind_some, k1, Option.bind_some]
          rfl
        exact ⟨nI N, fs_u σ1 0 8 v, μ, fs_u τ1 51 4 v, μ, m_X3_settles σ μ _ F1, m_X4_settles _ μ _ F2, Rel_qa hr v (fun k j q => hfr k j (by unfold sC at q; omega)) (fun k j q => k2.2 k j (by unfold sM at q; omega) (by unfold sM at q; omega))⟩
/-! mill -/
theorem nI9 (i : Nat) (h : i < 100) : ¬ nI i = -9 := by
  intro e
  have := congrArg Int32.toInt e
  rw [nI_toInt (by omega), show (-9 : Int32).toInt = -9 from rfl] at this
  omega
/-- who has so much first: the class -/
theorem c_first {n : Nat} (hn : n ≤ 6) (v : Int32) {σ : fsS} {p : Nat → Int32} (hs : σ 6 0 = nI n) (hp : ∀ i, i < n → σ 31 i = p i) {N : Nat} (hN : N ≤ n) (h1 : ∀ j, j < N → p j < v) (h2 : N = n ∨ ¬ p N < v) : F_X1_firstWith 6 v σ = some (if N = n then -9 else nI N) := by
  obtain ⟨r, b1, b2⟩ := fs_loop (fun f (x : Int32) => L_X1_firstWith_2 6 f v x σ) (fun t x => x = nI t) (fun (r : Nat × Int32) => N = n ∧ r.1 = 1 ∨ N < n ∧ r.1 = 0 ∧ r.2 = nI N) N (by
    rintro f t y ht hy
    subst hy
    left
    have c1 : ¬ σ 6 0 ≤ nI t := by rw [hs]; exact nI_ge (by omega) (by omega)
    have c2 : fs_in (nI t) 6 := vp_in_nI (by omega) (by omega)
    have c3 : (nI t).toNatClampNeg = t := nI_clamp (by omega)
    have c4 : σ (7 * 6 - 14 + 3) t < v := by
      show σ 31 t < v
      rw [hp t (by omega)]
      exact h1 t ht
    refine ⟨nI t + 1, nI_1 t, ?_⟩
    simp only [L_X1_firstWith_2, if_neg c1, fs_gp c2, c3, if_pos c4]) (by
    rintro f y hy
    subst hy
    by_cases h : N = n
    · refine ⟨(1, 0), ?_, Or.inl ⟨h, rfl⟩⟩
      have c1 : σ 6 0 ≤ nI N := by rw [hs, h]; exact nI_le (Nat.le_refl n) (by omega)
      simp only [L_X1_firstWith_2, if_pos c1]
    · refine ⟨(0, nI N), ?_, Or.inr ⟨by omega, rfl, rfl⟩⟩
      have c1 : ¬ σ 6 0 ≤ nI N := by rw [hs]; exact nI_ge (by omega) (by omega)
      have c2 : fs_in (nI N) 6 := vp_in_nI (by omega) (by omega)
      have c3 : (nI N).toNatClampNeg = N := nI_clamp (by omega)
      have c4 : ¬ σ (7 * 6 - 14 + 3) N < v := by
        show ¬ σ 31 N < v
        rw [hp N (by omega)]
        exact h2.resolve_left h
      simp only [L_X1_firstWith_2, if_neg c1, fs_gp c2, c3, if_neg c4]) fs_fu 0 0 (Nat.zero_le _) (fs_fub _ (by omega)) rfl
  unfold F_X1_firstWith
  rw [b1, Option.bind_some]
  rcases b2 with ⟨e1, e2⟩ | ⟨e1, e2, e3⟩
  · rw [e2, if_neg (by decide), if_pos e1]
  · rw [e2, if_pos rfl, e3, if_neg (by omega)]
theorem m_first {n : Nat} (hn : n ≤ 6) (v y : Int32) {σ : fsS} {p : Nat → Int32} (hs : σ 51 9 = nI n) (hp : ∀ i, i < n → σ 61 (1 + i) = p i) {N : Nat} (hN : N ≤ n) (h1 : ∀ j, j < N → p j < v) (h2 : N = n ∨ ¬ p N < v) : ∃ z, L_X4_mill_38 fs_fu v y 0 σ = some (if N = n then 1 else 0, z) ∧ (N = n ∨ z = nI N) := by
  obtain ⟨r, b1, b2⟩ := fs_loop (fun f (x : Int32) => L_X4_mill_38 f v y x σ) (fun t x => x = nI t) (fun (r : Nat × Int32) => N = n ∧ r.1 = 1 ∨ N < n ∧ r.1 = 0 ∧ r.2 = nI N) N (by
    rintro f t y2 ht hy
    subst hy
    left
    have c1 : ¬ σ 51 9 ≤ nI t := by rw [hs]; exact nI_ge (by omega) (by omega)
    have c5 : (1 : Int32) + nI t = nI (1 + t) := nI_add 1 t
    have c7 : fs_in (nI (1 + t)) 13 := vp_in_nI (by omega) (by omega)
    have c9 : (nI (1 + t)).toNatClampNeg = 1 + t := nI_clamp (by omega)
    refine ⟨nI t + 1, nI_1 t, ?_⟩
    simp only [L_X4_mill_38, if_neg c1, c5, fs_gp c7, c9, hp t (by omega), if_pos (h1 t ht)]) (by
    rintro f y2 hy
    subst hy
    by_cases h : N = n
    · refine ⟨(1, 0), ?_, Or.inl ⟨h, rfl⟩⟩
      have c1 : σ 51 9 ≤ nI N := by rw [hs, h]; exact nI_le (Nat.le_refl n) (by omega)
      simp only [L_X4_mill_38, if_pos c1]
    · refine ⟨(0, nI N), ?_, Or.inr ⟨by omega, rfl, rfl⟩⟩
      have c1 : ¬ σ 51 9 ≤ nI N := by rw [hs]; exact nI_ge (by omega) (by omega)
      have c5 : (1 : Int32) + nI N = nI (1 + N) := nI_add 1 N
      have c7 : fs_in (nI (1 + N)) 13 := vp_in_nI (by omega) (by omega)
      have c9 : (nI (1 + N)).toNatClampNeg = 1 + N := nI_clamp (by omega)
      simp only [L_X4_mill_38, if_neg c1, c5, fs_gp c7, c9, hp N (by omega), if_neg (h2.resolve_left h)]) fs_fu 0 0 (Nat.zero_le _) (fs_fub _ (by omega)) rfl
  obtain ⟨q, z⟩ := r
  refine ⟨z, ?_, ?_⟩
  · rw [b1]
    rcases b2 with ⟨e1, e2⟩ | ⟨e1, e2, e3⟩
    · rw [if_pos e1, ← e2]
    · rw [if_neg (by omega), ← e2]
  · rcases b2 with ⟨e1, e2⟩ | ⟨e1, e2, e3⟩
    · exact Or.inl e1
    · exact Or.inr e3
