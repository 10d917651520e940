theorem fo_max (R : Nat → Int32) : ∀ n j, j < n → (R j).toInt ≤ (R (fo R n)).toInt
  | 0, j, h => by omega
  | n + 1, j, h => by
    show (R j).toInt ≤ (R (if R (fo R n) < R n then n else fo R n)).toInt
    by_cases hc : R (fo R n) < R n
    · rw [if_pos hc]
      rw [i_lt] at hc
      by_cases hj : j = n
      · subst hj; omega
      · have := fo_max R n j (by omega); omega
    · rw [if_neg hc]
      rw [i_lt] at hc
      by_cases hj : j = n
      · subst hj; omega
      · exact fo_max R n j (by omega)
theorem fo_first (R : Nat → Int32) : ∀ n j, j < fo R n → (R j).toInt < (R (fo R n)).toInt
  | 0, j, h => by exact absurd h (Nat.not_lt_zero j)
  | n + 1, j, h => by
    have e : fo R (n + 1) = if R (fo R n) < R n then n else fo R n := rfl
    rw [e] at h ⊢
    by_cases hc : R (fo R n) < R n
    · rw [if_pos hc] at h ⊢
      rw [i_lt] at hc
      have := fo_max R n j h
      omega
    · rw [if_neg hc] at h ⊢
      exact fo_first R n j h
theorem nok_y {n : Nat} (hn : n ≤ 6) {σ : fsS} (h : σ 5 0 = nI n) (h0 : 0 < n) : F_X3_noKin σ = 0 := by
  unfold F_X3_noKin
  rw [h, if_neg (nI_ne0 h0 (by omega))]
theorem nok_n {σ : fsS} (h : σ 5 0 = nI 0) : ¬ F_X3_noKin σ = 0 := by
  unfold F_X3_noKin
  rw [h, if_pos (by decide)]
  decide
theorem box_loop {n : Nat} (hn : n ≤ 6) (h0 : 0 < n) {R : Nat → Int32} {σ : fsS} (hR : ∀ i, i < n → σ 62 i = R i) : L_X4_box_21 fs_fu (R (fo R n)) 0 σ = some (nI (fo R n)) := by
  have hf := fo_lt R n h0
  obtain ⟨r, b1, b2⟩ := fs_loop (fun f (x : Int32) => L_X4_box_21 f (R (fo R n)) x σ) (fun t x => x = nI t) (fun r => r = nI (fo R n)) (fo R n) (by
    rintro f t y ht hy
    subst hy
    left
    have c2 : fs_in (nI t) 6 := vp_in_nI (by omega) (by omega)
    have c3 : (nI t).toNatClampNeg = t := nI_clamp (by omega)
    refine ⟨nI t + 1, nI_1 t, ?_⟩
    have c4 : ¬ R (fo R n) ≤ R t := by
      rw [i_le]
      have := fo_first R n t ht
      omega
    simp only [L_X4_box_21, fs_gp c2, c3, hR t (by omega), if_neg c4]) (by
    rintro f y hy
    subst hy
    refine ⟨nI (fo R n), ?_, rfl⟩
    have c2 : fs_in (nI (fo R n)) 6 := vp_in_nI (by omega) (by omega)
    have c3 : (nI (fo R n)).toNatClampNeg = fo R n := nI_clamp (by omega)
    have c4 : R (fo R n) ≤ R (fo R n) := by
      rw [i_le]
      omega
    simp only [L_X4_box_21, fs_gp c2, c3, hR _ hf, if_pos c4]) fs_fu 0 0 (Nat.zero_le _) (fs_fub _ (by omega)) rfl
  rw [b1, b2]
theorem e_box : ec_box Rel := by
  intro σ μ hr
  obtain ⟨n, hn0, hs, hk, hm⟩ := Rel_now hr
  have hn := hk.1
  by_cases h0 : n = 0
  · subst h0
    have F1 : F_X3_box σ = some (-4, σ) := by
      unfold F_X3_box
      rw [if_neg (nok_n hs)]
    have F2 : F_X4_box σ = some (-4, σ) := by
      unfold F_X4_box
      rw [hm.1, if_pos (by decide)]
    exact ⟨-4, σ, μ, σ, μ, m_X3_box σ μ _ F1, m_X4_box σ μ _ F2, hr⟩
  · obtain ⟨σ1, a1, a2, a3, a4, a5, a6⟩ := w_weigh5 hn hs
    generalize hR : sR (σ 21) (σ 22) (σ 25) (σ 24) = R at a2 a4 a5
    have F1 : F_X3_box σ = some (gv n (σ 21) (σ 22) (σ 25) (σ 24), fs_u σ1 0 8 (nI (fo R n))) := by
      unfold F_X3_box
      rw [if_pos (nok_y hn hs (by omega)), a1, Option.bind_some, a2, a3]
      rfl
    obtain ⟨τ, d1, d2, d3⟩ := w_lays (σ := fs_u σ1 0 8 (nI (fo R n))) (Or.inl rfl) hk (mv_fr hm (fun k j q => by rw [fs_ug, if_neg (by omega), a6 k j (by omega)]))
    rw [mo_fo _ n (by omega) (fun j hj => (kb_R hk hj).2.1), hR] at d1
    rw [hR] at d2
    have h519 : τ 51 9 = nI n := by rw [d3 _ _ (by omega), fs_ug, if_neg (by omega), a6 _ _ (by omega), hm.1]
    have g := w_gives (R := R) (σ := τ) hn (R (fo R n)) h519 d2
    have F2 : F_X4_box (fs_u σ1 0 8 (nI (fo R n))) = some (gv n (σ 21) (σ 22) (σ 25) (σ 24), fs_u τ 51 4 (nI (fo R n))) := by
      unfold F_X4_box
      rw [if_neg (by rw [fs_ug, if_neg (by omega), a6 _ _ (by omega), hm.1]; exact nI_ne0 (by omega) (by omega)), d1, Option.bind_some]
      dsimp only
      rw [box_loop hn (by omega) d2, Option.bind_some, g, Option.bind_some]
      unfold F_X4_answer gv
      rw [hR]
    generalize gv n (σ 21) (σ 22) (σ 25) (σ 24) = v at F1 F2
    refine ⟨v, _, μ, _, μ, m_X3_box σ μ _ F1, m_X4_box _ μ _ F2, ?_⟩
    exact Rel_qa hr (nI (fo R n)) (fun k j q => a6 k j (by unfold sC at q; omega)) (fun k j q => d3 k j (by unfold sM at q; omega))
/-! QUARTERS to come: both sides aside -/
/-- the class' KIN aside, as they are now -/
theorem c_aside {n : Nat} {σ : fsS} (hn : n ≤ 6) (hs : σ 5 0 = nI n) : ∃ σa, F_X1_take 6 5 σ = some σa ∧ σa 6 0 = nI n ∧ (∀ j, j < 6 → σa 28 j = σ 21 j ∧ σa 29 j = σ 22 j ∧ σa 30 j = σ 23 j ∧ σa 31 j = σ 24 j ∧ σa 32 j = σ 25 j) ∧ ∀ k j, ¬ (k = 6 ∨ (28 ≤ k ∧ k < 35)) → σa k j = σ k j := by
  obtain ⟨σa, a1, a2, a3, a4⟩ := w_take fs_K6 fs_K5 (by decide) σ
  refine ⟨σa, a1, by rw [a2, hs], fun j hj => ⟨a3 0 j (by omega) hj, a3 1 j (by omega) hj, a3 2 j (by omega) hj, a3 3 j (by omega) hj, a3 4 j (by omega) hj⟩, fun k j h => a4 k j (by omega) (by omega)⟩
/-- what is aside behind m QUARTERS, in words of now -/
theorem c_ito {n : Nat} {σ σa : fsS} (hn : n ≤ 6) (h : ∀ j, j < 6 → σa 28 j = σ 21 j ∧ σa 29 j = σ 22 j ∧ σa 30 j = σ 23 j ∧ σa 31 j = σ 24 j ∧ σa 32 j = σ 25 j) (m i : Nat) (hi : i < n) : ito σa 6 n m i = it n (σ 21) (σ 22) (σ 23) (σ 25) (σ 24) m i :=
  it_congr (fun i hi => (h i (by omega)).1) (fun i hi => (h i (by omega)).2.1) (fun i hi => (h i (by omega)).2.2.1) (fun i hi => (h i (by omega)).2.2.2.2) (fun i hi => (h i (by omega)).2.2.2.1) m i hi
theorem m_aside {n : Nat} {kd lk wa s p : Nat → Int32} (hn : n ≤ 6) {σ : fsS} (hm : mv σ 60 n kd lk wa s p) : ∃ τ, F_X4_layAside σ = some τ ∧ am n kd lk wa s p σ 0 τ := by
  obtain ⟨τ, a1, a2⟩ := w_layAside σ
  refine ⟨τ, a1, ⟨by rw [a2, if_neg (by omega), hm.1], fun i hi => ?_⟩, fun k j h1 h2 => by rw [a2, if_neg (by omega)]⟩
  obtain ⟨m1, m2, m3, m4, m5⟩ := hm.2 i hi
  refine ⟨?_, ?_, ?_, ?_, ?_⟩
  · rw [a2, if_neg (by omega), m1]
  · rw [a2, if_neg (by omega), m2]
  · rw [a2, if_neg (by omega), m3]
  · rw [a2, if_pos (by omega), m4]
  · rw [a2, if_pos (by omega), m5]; rfl
/-- what one is PAID in the QUARTER m from now -/
def pdm (n : Nat) (kd lk wa s p : Nat → Int32) (i m : Nat) : Int32 := sR kd lk s (it n kd lk wa s p m) (fo (sR kd lk s (it n kd lk wa s p m)) n) - sR kd lk s (it n kd lk wa s p m) i
theorem pdm_congr {n : Nat} {kd lk wa s p kd' lk' wa' s' p' : Nat → Int32} (h1 : ∀ i, i < n → kd i = kd' i) (h2 : ∀ i, i < n → lk i = lk' i) (h3 : ∀ i, i < n → wa i = wa' i) (h4 : ∀ i, i < n → s i = s' i) (h5 : ∀ i, i < n → p i = p' i) {i : Nat} (hi : i < n) (m : Nat) : pdm n kd lk wa s p i m = pdm n kd' lk' wa' s' p' i m := by
  have hR : ∀ j, j < n → sR kd lk s (it n kd lk wa s p m) j = sR kd' lk' s' (it n kd' lk' wa' s' p' m) j := fun j hj => sR_congr (h1 j hj) (h2 j hj) (h4 j hj) (it_congr h1 h2 h3 h4 h5 m j hj)
  unfold pdm
  rw [fo_congr hR, hR _ (fo_lt _ n (by omega)), hR i hi]
set_option maxHeartbeats 4000000 in
theorem e_later : ec_later Rel := by
  intro a1 a2 σ μ hr
  obtain ⟨n, hn0, hs, hk, hm⟩ := Rel_now hr
  have hn := hk.1
  by_cases hx1 : 0 ≤ a1.toInt ∧ a1.toInt < n
  · obtain ⟨i, hi, rfl⟩ := ix (n := n) (by omega) hx1.1 hx1.2
    have y1 := isk_y hn hi hs
    have y2 := iso_y hn hi hm.1
    have c2 : fs_in (nI i) 6 := vp_in_nI (by omega) (by omega)
    have c3 : (nI i).toNatClampNeg = i := nI_clamp (by omega)
    by_cases h2 : 0 ≤ a2.toInt ∧ a2.toInt < 61
    · obtain ⟨w, hw, rfl⟩ := ix (n := 61) (by omega) h2.1 h2.2
      have ew : (nI w).toInt = w := nI_toInt (by omega)
      obtain ⟨σa, b1, b2, b3, b4⟩ := c_aside hn hs
      obtain ⟨⟨r, σ1⟩, d1, d2, d3⟩ := fs_loop (fun f (x : Int32 × Int32 × fsS) => L_X3_later_39 f (nI i) (nI w) x.1 x.2.1 x.2.2) (fun t x => x.1 = sm (pdm n (σ 21) (σ 22) (σ 23) (σ 25) (σ 24) i) t ∧ x.2.1 = nI t ∧ at_m σa 6 n t x.2.2) (fun (x : Int32 × fsS) => x.1 = sm (pdm n (σ 21) (σ 22) (σ 23) (σ 25) (σ 24) i) w ∧ at_m σa 6 n w x.2) w (by
        rintro f t ⟨r, y, τ⟩ ht ⟨h1, h2, h3⟩
        dsimp only at h1 h2 h3 ⊢
        subst h2
        subst h1
        left
        obtain ⟨τ', e1, e2, e3, e4⟩ := w_pass_m fs_K6 hn b2 h3
        have e5 : τ' 34 i = pdm n (σ 21) (σ 22) (σ 23) (σ 25) (σ 24) i t := by
          have e6 := e4 i hi
          exact e6.trans (pdm_congr (fun i hi => (b3 i (by omega)).1) (fun i hi => (b3 i (by omega)).2.1) (fun i hi => (b3 i (by omega)).2.2.1) (fun i hi => (b3 i (by omega)).2.2.2.2) (fun i hi => (b3 i (by omega)).2.2.2.1) hi t)
        refine ⟨(sm (pdm n (σ 21) (σ 22) (σ 23) (σ 25) (σ 24) i) (t + 1), nI t + 1, τ'), ⟨rfl, nI_1 t, e2⟩, ?_⟩
        have c1 : ¬ nI w ≤ nI t := nI_ge ht (by omega)
        simp only [L_X3_later_39, if_neg c1, e1, Option.bind_some, fs_gp c2, c3, e5]
        rfl) (by
        rintro f ⟨r, y, τ⟩ ⟨h1, h2, h3⟩
        dsimp only at h1 h2 h3 ⊢
        subst h2
        refine ⟨(r, τ), ?_, h1, h3⟩
        simp only [L_X3_later_39, if_pos (nI_le (Nat.le_refl w) (by omega))]) fs_fu 0 (0, 0, σa) (Nat.zero_le _) (fs_fub _ (by omega)) ⟨rfl, rfl, at_0 σa 6 n⟩
      dsimp only at d1 d2 d3
      subst d2
      generalize hS : sm (pdm n (σ 21) (σ 22) (σ 23) (σ 25) (σ 24) i) w = S at d1
      have hp : σ1 31 i = it n (σ 21) (σ 22) (σ 23) (σ 25) (σ 24) w i := (d3.1 i).trans (c_ito hn b3 w i hi)
      have F1 : F_X3_later (nI i) (nI w) σ = some (it n (σ 21) (σ 22) (σ 23) (σ 25) (σ 24) w i, fs_u σ1 0 8 S) := by
        unfold F_X3_later
        rw [y1, if_neg i10, if_neg (nI_pos (by omega)), if_pos (by rw [i_le, ew, z60]; omega), b1, Option.bind_some, d1, Option.bind_some]
        dsimp only
        rw [fs_gp c2, c3, hp]
        rfl
      have hfr : ∀ k j, ¬ (k = 6 ∨ (28 ≤ k ∧ k < 35)) → σ1 k j = σ k j := fun k j q => by rw [d3.2 k j (by omega), b4 k j q]
      have hm1 : mv (fs_u σ1 0 8 S) 60 n (σ 21) (σ 22) (σ 23) (σ 25) (σ 24) := mv_fr hm (fun k j q => by rw [fs_ug, if_neg (by omega), hfr k j (by omega)])
      obtain ⟨τa, g1, g2⟩ := m_aside hn hm1
      obtain ⟨⟨r, τ1⟩, k1, k2, k3⟩ := fs_loop (fun f (x : Int32 × Int32 × fsS) => L_X4_later_31 f (nI i) (nI w) x.1 x.2.1 x.2.2) (fun t x => x.1 = sm (pdm n (σ 21) (σ 22) (σ 23) (σ 25) (σ 24) i) t ∧ x.2.1 = nI t ∧ am n (σ 21) (σ 22) (σ 23) (σ 25) (σ 24) (fs_u σ1 0 8 S) t x.2.2) (fun (x : Int32 × fsS) => x.1 = sm (pdm n (σ 21) (σ 22) (σ 23) (σ 25) (σ 24) i) w ∧ am n (σ 21) (σ 22) (σ 23) (σ 25) (σ 24) (fs_u σ1 0 8 S) w x.2) w (by
        rintro f t ⟨r, y, τ⟩ ht ⟨h1, h2, h3⟩
        dsimp only at h1 h2 h3 ⊢
        subst h2
        subst h1
        left
        obtain ⟨τ', e1, e2, e3⟩ := w_lays (Or.inr rfl) (kb_it hk t) h3.1
        rw [mo_fo _ n (by omega) (fun j hj => (kb_R (kb_it hk t) hj).2.1)] at e1
        have h4 : am n (σ 21) (σ 22) (σ 23) (σ 25) (σ 24) (fs_u σ1 0 8 S) t τ' := by
          refine ⟨⟨by rw [e3 _ _ (by omega), h3.1.1], fun i hi => ?_⟩, fun k j q1 q2 => by rw [e3 _ _ q1, h3.2 k j q1 q2]⟩
          rw [e3 _ _ (by omega), e3 _ _ (by omega), e3 _ _ (by omega), e3 _ _ (by omega), e3 _ _ (by omega)]
          exact h3.1.2 i hi
        obtain ⟨τ2, e4, e5⟩ := w_goes_m hk h4
        refine ⟨(sm (pdm n (σ 21) (σ 22) (σ 23) (σ 25) (σ 24) i) (t + 1), nI t + 1, τ2), ⟨rfl, nI_1 t, e5⟩, ?_⟩
        have c1 : ¬ nI w ≤ nI t := nI_ge ht (by omega)
        simp only [L_X4_later_31, if_neg c1, e1, Option.bind_some, fs_gp c2, c3, e4, e2 i hi]
        rfl) (by
        rintro f ⟨r, y, τ⟩ ⟨h1, h2, h3⟩
        dsimp only at h1 h2 h3 ⊢
        subst h2
        refine ⟨(r, τ), ?_, h1, h3⟩
        simp only [L_X4_later_31, if_pos (nI_le (Nat.le_refl w) (by omega))]) fs_fu 0 (0, 0, τa) (Nat.zero_le _) (fs_fub _ (by omega)) ⟨rfl, rfl, g2⟩
      dsimp only at k1 k2 k3
      subst k2
      rw [hS] at k1
      have c5 : (1 : Int32) + nI i = nI (1 + i) := nI_add 1 i
      have c7 : fs_in (nI (1 + i)) 13 := vp_in_nI (by omega) (by omega)
      have c9 : (nI (1 + i)).toNatClampNeg = 1 + i := nI_clamp (by omega)
      have F2 : F_X4_later (nI i) (nI w) (fs_u σ1 0 8 S) = some (it n (σ 21) (σ 22) (σ 23) (σ 25) (σ 24) w i, fs_u τ1 51 4 S) := by
        unfold F_X4_later
        rw [iso_y hn hi hm1.1, if_neg i10, in_y (by rw [ew, Z0, show (60 : Int64).toInt = 60 from rfl]; omega), if_neg i10, g1, Option.bind_some, k1, Option.bind_some]
        simp only [c5, fs_gp c7, c9, (k3.1.2 i hi).2.2.2.2, F_X4_answer]
      generalize it n (σ 21) (σ 22) (σ 23) (σ 25) (σ 24) w i = v at F1 F2
      refine ⟨v, _, μ, _, μ, m_X3_later _ _ σ μ _ F1, m_X4_later _ _ _ μ _ F2, ?_⟩
      exact Rel_qa hr S (fun k j q => hfr k j (by unfold sC at q; omega)) (fun k j q => k3.2 k j (by unfold sM at q; omega) (by unfold sM at q; omega))
    · have F1 : F_X3_later (nI i) a2 σ = some (-1, σ) := by
        unfold F_X3_later
        rw [y1, if_neg i10]
        by_cases g : a2 < 0
        · rw [if_pos g]
        · rw [if_neg g, if_neg]
          rw [i_lt, z0] at g
          rw [i_le, z60]
          omega
      have F2 : F_X4_later (nI i) a2 σ = some (-1, σ) := by
        unfold F_X4_later
        rw [y2, if_neg i10, in_n (by rw [Z0, show (60 : Int64).toInt = 60 from rfl]; omega), if_pos rfl]
      exact ⟨-1, σ, μ, σ, μ, m_X3_later _ _ σ μ _ F1, m_X4_later _ _ σ μ _ F2, hr⟩
  · have F1 : F_X3_later a1 a2 σ = some (-1, σ) := by
      unfold F_X3_later
      rw [isk_n hn hx1 hs, if_pos rfl]
    have F2 : F_X4_later a1 a2 σ = some (-1, σ) := by
      unfold F_X4_later
      rw [iso_n hn hx1 hm.1, if_pos rfl]
    exact ⟨-1, σ, μ, σ, μ, m_X3_later _ _ σ μ _ F1, m_X4_later _ _ σ μ _ F2, hr⟩
