set_option maxHeartbeats 4000000 in
/-- the HOUSE as it was behind its first e DEEDS -/
theorem c_replay {n e : Nat} (he : e ≤ 40) {σ : fsS} (hK : RK n σ) (hh : hsy n σ (σ 12) e) : ∃ σ', F_X0_replay (nI e) σ = some σ' ∧ σ' 3 3 = nI e ∧ eqs n (sn σ n (σ 12) e) (σ' 24) (σ' 25) (σ' 3 2) ∧ σ' 5 0 = nI n ∧ (∀ i, i < n → σ' 21 i = σ 14 i ∧ σ' 22 i = σ 15 i ∧ σ' 23 i = σ 16 i) ∧ ∀ k j, ¬ (k = 3 ∧ (j = 2 ∨ j = 3)) → ¬ (21 ≤ k ∧ k < 28) → ¬ (k = 5 ∧ (j = 0 ∨ j = 8 ∨ j = 9)) → σ' k j = σ k j := by
  obtain ⟨k1, hn, k3, k4, k5, k6⟩ := hK
  obtain ⟨τ0, a1, a2, a3, a4⟩ := w_take fs_K5 fs_K4 (by decide) σ
  obtain ⟨σ', b1, b2, b3, b4, b5, b6⟩ := fs_loop (fun f (x : Int32 × fsS) => L_X0_replay_23 f (nI e) x.1 x.2) (fun t x => x.1 = nI t ∧ x.2 3 3 = nI e ∧ eqs n (sn σ n (σ 12) t) (x.2 24) (x.2 25) (x.2 3 2) ∧ x.2 5 0 = nI n ∧ (∀ i, i < n → x.2 21 i = σ 14 i ∧ x.2 22 i = σ 15 i ∧ x.2 23 i = σ 16 i) ∧ ∀ k j, ¬ (k = 3 ∧ (j = 2 ∨ j = 3)) → ¬ (21 ≤ k ∧ k < 28) → ¬ (k = 5 ∧ (j = 0 ∨ j = 8 ∨ j = 9)) → x.2 k j = σ k j) (fun σ' => σ' 3 3 = nI e ∧ eqs n (sn σ n (σ 12) e) (σ' 24) (σ' 25) (σ' 3 2) ∧ σ' 5 0 = nI n ∧ (∀ i, i < n → σ' 21 i = σ 14 i ∧ σ' 22 i = σ 15 i ∧ σ' 23 i = σ 16 i) ∧ ∀ k j, ¬ (k = 3 ∧ (j = 2 ∨ j = 3)) → ¬ (21 ≤ k ∧ k < 28) → ¬ (k = 5 ∧ (j = 0 ∨ j = 8 ∨ j = 9)) → σ' k j = σ k j) e (by
    rintro f t ⟨y, τ⟩ ht ⟨hy, h1, h2, h3, h4, h5⟩
    dsimp only at hy h1 h2 h3 h4 h5 ⊢
    subst hy
    left
    have c1 : ¬ nI e ≤ nI t := nI_ge ht (by omega)
    have c2 : fs_in (nI t) 40 := vp_in_nI (by omega) (by omega)
    have c3 : (nI t).toNatClampNeg = t := nI_clamp (by omega)
    have c4 : τ 12 t = σ 12 t := h5 _ _ (by omega) (by omega) (by omega)
    obtain ⟨w1, w2⟩ := hh.2 t ht
    obtain ⟨τ', e1, e2, e3, e4, -, e6⟩ := c_perform hn h3 (σ 12 t) w1 w2
    refine ⟨(nI t + 1, τ'), ⟨nI_1 t, ?_, ?_, ?_, ?_, ?_⟩, ?_⟩
    · dsimp only; rw [e6 _ _ (by omega), h1]
    · have key := ds_eqs (kd := σ 14) (lk := σ 15) (wa := σ 16) (fun i hi => (h4 i hi).1) (fun i hi => (h4 i hi).2.1) (fun i hi => (h4 i hi).2.2) h2 (σ 12 t) w1 w2
      exact ⟨fun i hi => by dsimp only; rw [e2]; exact key.1 i hi, fun i hi => by dsimp only; rw [e3]; exact key.2.1 i hi, by dsimp only; rw [e4]; exact key.2.2⟩
    · dsimp only; rw [e6 _ _ (by omega), h3]
    · intro i hi
      dsimp only
      rw [e6 _ _ (by omega), e6 _ _ (by omega), e6 _ _ (by omega)]
      exact h4 i hi
    · intro k j g1 g2 g3
      dsimp only
      rw [e6 _ _ (by omega), h5 k j g1 g2 g3]
    · simp only [L_X0_replay_23, if_neg c1, fs_gp c2, c3, c4, e1, Option.bind_some]) (by
    rintro f ⟨y, τ⟩ ⟨hy, h⟩
    dsimp only at hy h ⊢
    subst hy
    refine ⟨τ, ?_, h⟩
    simp only [L_X0_replay_23, if_pos (nI_le (Nat.le_refl e) (by omega))]) fs_fu 0 (0, fs_u (fs_u τ0 3 2 0) 3 3 (nI e)) (Nat.zero_le _) (fs_fub _ (by omega)) (by
    refine ⟨rfl, ?_, ⟨fun i hi => ?_, fun i hi => ?_, ?_⟩, ?_, fun i hi => ?_, fun k j g1 g2 g3 => ?_⟩
    · dsimp only; rw [fs_ug, if_pos ⟨rfl, rfl⟩]
    · dsimp only; rw [fs_ug, if_neg (by omega), fs_ug, if_neg (by omega)]; exact a3 3 i (by omega) (by omega)
    · dsimp only; rw [fs_ug, if_neg (by omega), fs_ug, if_neg (by omega)]; exact (a3 4 i (by omega) (by omega)).trans (k6 i hi).2.2.2.2.1
    · dsimp only; rw [fs_ug, if_neg (by omega), fs_ug, if_pos ⟨rfl, rfl⟩]; rfl
    · dsimp only; rw [fs_ug, if_neg (by omega), fs_ug, if_neg (by omega), a2, k3]
    · dsimp only
      rw [fs_ug, if_neg (by omega), fs_ug, if_neg (by omega), fs_ug, if_neg (by omega), fs_ug, if_neg (by omega), fs_ug, if_neg (by omega), fs_ug, if_neg (by omega)]
      exact ⟨a3 0 i (by omega) (by omega), a3 1 i (by omega) (by omega), a3 2 i (by omega) (by omega)⟩
    · dsimp only
      rw [fs_ug, if_neg (by omega), fs_ug, if_neg (by omega), a4 _ _ (by omega) (by omega)])
  refine ⟨σ', ?_, b2, b3, b4, b5, b6⟩
  unfold F_X0_replay
  dsimp only at b1
  rw [a1, Option.bind_some, b1]
  rfl
theorem hsy_pre {n d e : Nat} {σ : fsS} {cs cs' : Nat → Int32} (h : hsy n σ cs d) (he : e ≤ d) (hc : ∀ j, j < e → cs' j = cs j) : hsy n σ cs' e :=
  ⟨fun j hj => by rw [sn_pre (cs' := cs) (fun i hi => hc i (by omega))]; exact h.1 j (by omega), fun j hj => by rw [hc j hj]; exact h.2 j (by omega)⟩
/-- the KIN of now, read again -/
theorem RK_again {n : Nat} {σ σ' : fsS} (h : RK n σ) (h5 : σ' 5 0 = nI n) (hk : ∀ i, i < n → σ' 21 i = σ 14 i ∧ σ' 22 i = σ 15 i ∧ σ' 23 i = σ 16 i) (hf : ∀ k j, (k = 4 ∧ j = 0) ∨ (k = 51 ∧ j = 9) ∨ (14 ≤ k ∧ k < 19) ∨ (57 ≤ k ∧ k < 60) → σ' k j = σ k j) : RK n σ' := by
  obtain ⟨h1, h2, h3, h4, h6, h7⟩ := h
  refine ⟨h1, h2, by rw [hf 4 0 (by omega), h3], h5, by rw [hf 51 9 (by omega), h6], fun i hi => ?_⟩
  obtain ⟨g1, g2, g3⟩ := hk i hi
  obtain ⟨w1, w2, w3, w4, w5, w6, w7, w8, w9, w10, w11⟩ := h7 i hi
  rw [hf 14 i (by omega), hf 15 i (by omega), hf 16 i (by omega), hf 17 i (by omega), hf 18 i (by omega), g1, g2, g3, hf 57 i (by omega), hf 58 i (by omega), hf 59 i (by omega)]
  exact ⟨w1, w2, w3, w4, w5, rfl, rfl, rfl, w9, w10, w11⟩
set_option maxHeartbeats 4000000 in
theorem e_undo : ec_undo Rel := by
  intro x σ μ hr
  obtain ⟨n, d, q1, q2, q3, q4, q5, q6, hn0, hs, hk, hm⟩ := Rel_all hr
  have hn := hk.1
  obtain ⟨d1, d2, d3, d4, d5, d6, d7, d8⟩ := id q5
  by_cases hx : 0 ≤ x.toInt ∧ x.toInt < ((d + 1 : Nat) : Int)
  · obtain ⟨e, he, rfl⟩ := ix (n := d + 1) (by omega) hx.1 hx.2
    have hed : e ≤ d := by omega
    obtain ⟨σ1, b1, b2, b3, b4, b5, b6⟩ := c_replay (e := e) (by omega) q4 (hsy_pre d5 hed (fun _ _ => rfl))
    have hsub : nI d - nI e = nI (d - e) := pk_sub hed
    have F1 : F_X3_undo (nI e) σ = some (nI (d - e), σ1) := by
      unfold F_X3_undo
      rw [if_neg (nI_pos (by omega)), d3, if_pos (nI_le hed (by omega)), b1, Option.bind_some, hsub]
    have h517 : σ1 51 17 = nI d := by rw [b6 _ _ (by omega) (by omega) (by omega), d4]
    have hin : F_X4_in ((nI e).toInt64) 0 ((nI d).toInt64) = 1 := in_y (by rw [i64, nI_toInt (by omega), nI_toInt (by omega), Z0]; omega)
    obtain ⟨σ2, F2, m17, m60, mfr⟩ : ∃ σ2, F_X4_undo (nI e) σ1 = some (nI (d - e), σ2) ∧ σ2 51 17 = nI e ∧ (∀ y, y < 13 → σ2 60 y = if e < d then σ1 63 (13 * e + y) else σ1 60 y) ∧ ∀ k j, ¬ k = 60 → ¬ (k = 51 ∧ j = 17) → σ2 k j = σ1 k j := by
      by_cases hlt : e < d
      · obtain ⟨τ, g1, g2⟩ := w_copies (a0 := 63) (a2 := 60) (by decide) (i := 13 * e) (j := 0) (m := 13) (by show 13 * e + 13 ≤ 520; omega) (by decide) (by decide) (by decide) σ1
        have e1 : (13 : Int32) * nI e = nI (13 * e) := pk_mul 13 e
        refine ⟨fs_u τ 51 17 (nI e), ?_, ?_, ?_, ?_⟩
        · unfold F_X4_undo
          rw [h517, hin, if_neg i10, hsub, if_neg (nI_nle (by omega) (by omega)), e1, show (0 : Int32) = nI 0 from rfl, show (13 : Int32) = nI 13 from rfl, g1, Option.bind_some]
        · rw [fs_ug, if_pos ⟨rfl, rfl⟩]
        · intro y hy
          rw [fs_ug, if_neg (by omega), g2, if_pos (by omega), if_pos hlt, Nat.sub_zero]
        · intro k j h1 h2
          rw [fs_ug, if_neg h2, g2, if_neg (by omega)]
      · refine ⟨fs_u σ1 51 17 (nI e), ?_, ?_, ?_, ?_⟩
        · have hde : d - e = 0 := by omega
          unfold F_X4_undo
          rw [h517, hin, if_neg i10, hsub, hde, if_pos (by decide)]
        · rw [fs_ug, if_pos ⟨rfl, rfl⟩]
        · intro y hy
          rw [fs_ug, if_neg (by omega), if_neg hlt]
        · intro k j h1 h2
          rw [fs_ug, if_neg h2]
    refine ⟨nI (d - e), σ1, μ, σ2, μ, m_X3_undo _ σ μ _ F1, m_X4_undo _ _ μ _ F2, n, e, ?_, ?_, ?_, ?_, ?_, ?_⟩
    · exact RA_fr (fun k j q => by rw [mfr _ _ (by omega) (by omega), b6 _ _ (by omega) (by omega) (by omega)]) q1
    · exact RR_fr (fun k j q => by rw [mfr _ _ (by omega) (by omega), b6 _ _ (by omega) (by omega) (by omega)]) q2
    · exact RT_fr (fun k j q => by rw [mfr _ _ (by omega) (by omega), b6 _ _ (by omega) (by omega) (by omega)]) q3
    · exact RK_again q4 (by rw [mfr _ _ (by omega) (by omega), b4]) (fun i hi => by rw [mfr _ _ (by omega) (by omega), mfr _ _ (by omega) (by omega), mfr _ _ (by omega) (by omega)]; exact b5 i hi) (fun k j q => by rw [mfr _ _ (by omega) (by omega), b6 _ _ (by omega) (by omega) (by omega)])
    · have fb : ∀ k j, 14 ≤ k ∧ k < 18 → σ2 k j = σ k j := fun k j q => by rw [mfr _ _ (by omega) (by omega), b6 _ _ (by omega) (by omega) (by omega)]
      have f12 : σ2 12 = σ 12 := funext fun j => by rw [mfr _ _ (by omega) (by omega), b6 _ _ (by omega) (by omega) (by omega)]
      have f63 : ∀ j, σ2 63 j = σ 63 j := fun j => by rw [mfr _ _ (by omega) (by omega), b6 _ _ (by omega) (by omega) (by omega)]
      refine ⟨by omega, fun q => by have := d2 q; omega, by rw [mfr _ _ (by omega) (by omega), b2], m17, ?_, ?_, ?_, fun j hj => ?_⟩
      · rw [f12]; exact hsy_fr fb (hsy_pre d5 hed (fun _ _ => rfl))
      · rw [f12, sn_fr fb]
        exact ⟨fun i hi => by rw [mfr _ _ (by omega) (by omega)]; exact b3.1 i hi, fun i hi => by rw [mfr _ _ (by omega) (by omega)]; exact b3.2.1 i hi, by rw [mfr _ _ (by omega) (by omega)]; exact b3.2.2⟩
      · rw [f12, sn_fr fb]
        by_cases hlt : e < d
        · obtain ⟨u1, u2, u3⟩ := d8 e hlt
          have g : ∀ y, y < 13 → σ2 60 y = σ 63 (13 * e + y) := fun y hy => by rw [m60 y hy, if_pos hlt, b6 _ _ (by omega) (by omega) (by omega)]
          refine ⟨fun i hi => ?_, fun i hi => ?_, ?_⟩
          · dsimp only; rw [g _ (by omega), ← u1 i hi]; congr 1; omega
          · dsimp only; rw [g _ (by omega), ← u2 i hi]; congr 1; omega
          · rw [g 0 (by omega), ← u3]; congr 1
        · have hde : e = d := by omega
          subst hde
          have g : ∀ y, y < 13 → σ2 60 y = σ 60 y := fun y hy => by rw [m60 y hy, if_neg hlt, b6 _ _ (by omega) (by omega) (by omega)]
          refine ⟨fun i hi => ?_, fun i hi => ?_, ?_⟩
          · dsimp only; rw [g _ (by omega)]; exact d7.1 i hi
          · dsimp only; rw [g _ (by omega)]; exact d7.2.1 i hi
          · rw [g 0 (by omega)]; exact d7.2.2
      · rw [f12, sn_fr fb]
        obtain ⟨u1, u2, u3⟩ := d8 j (by omega)
        exact ⟨fun i hi => by dsimp only; rw [f63]; exact u1 i hi, fun i hi => by dsimp only; rw [f63]; exact u2 i hi, by rw [f63]; exact u3⟩
    · exact RP_fr (fun k j q => by rw [mfr _ _ (by omega) (by omega), b6 _ _ (by omega) (by omega) (by omega)]) q6
  · have F1 : F_X3_undo x σ = some (-1, σ) := by
      unfold F_X3_undo
      by_cases g : x < 0
      · rw [if_pos g]
      · rw [if_neg g, if_neg]
        rw [i_lt, z0] at g
        rw [d3, i_le, nI_toInt (by omega)]
        omega
    have F2 : F_X4_undo x σ = some (-1, σ) := by
      unfold F_X4_undo
      rw [d4, in_n (by rw [i64, nI_toInt (by omega), Z0]; omega), if_pos rfl]
    exact ⟨-1, σ, μ, σ, μ, m_X3_undo _ σ μ _ F1, m_X4_undo _ σ μ _ F2, hr⟩
