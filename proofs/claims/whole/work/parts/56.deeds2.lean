theorem wo_y {d : Nat} (hd : d < 40) {σ : fsS} (h : σ 3 3 = nI d) : F_X0_wouldOverflow 1 σ = 0 := by
  unfold F_X0_wouldOverflow
  rw [h, if_pos]
  rw [i_le, show (40 : Int32) = nI 40 from rfl, pk_sub_toInt (by omega) (by omega), show (1 : Int32).toInt = 1 from rfl]
  omega
theorem wo_n {σ : fsS} (h : σ 3 3 = nI 40) : ¬ F_X0_wouldOverflow 1 σ = 0 := by
  unfold F_X0_wouldOverflow
  rw [h]
  decide
/-- enter(): one DEED more, the class -/
theorem c_enter {n d : Nat} (hn : n ≤ 6) (hd : d < 40) {σ : fsS} (hs : σ 5 0 = nI n) (h33 : σ 3 3 = nI d) (c : Int32) (h1 : wh c < n) (h2 : wm c < n) : ∃ σ', F_X0_enter c σ = some σ' ∧ (∀ j, σ' 12 j = if j = d then c else σ 12 j) ∧ σ' 3 3 = nI (d + 1) ∧ (∀ j, σ' 24 j = (ds n (σ 21) (σ 22) (σ 23) c (σ 24, σ 25, σ 3 2)).1 j) ∧ (∀ j, σ' 25 j = (ds n (σ 21) (σ 22) (σ 23) c (σ 24, σ 25, σ 3 2)).2.1 j) ∧ σ' 3 2 = (ds n (σ 21) (σ 22) (σ 23) c (σ 24, σ 25, σ 3 2)).2.2 ∧ (c &&& 7 = 0 → σ' 5 9 = gv n (σ 21) (σ 22) (σ 25) (σ 24)) ∧ ∀ k j, ¬ (k = 12 ∨ k = 24 ∨ k = 25 ∨ k = 26 ∨ k = 27 ∨ (k = 5 ∧ (j = 8 ∨ j = 9)) ∨ (k = 3 ∧ (j = 2 ∨ j = 3))) → σ' k j = σ k j := by
  have c3 : fs_in (nI d) 40 := vp_in_nI (by omega) (by omega)
  have c4 : (nI d).toNatClampNeg = d := nI_clamp (by omega)
  obtain ⟨σ', a1, a2, a3, a4, a5, a6⟩ := c_perform (σ := fs_u (fs_u σ 12 d c) 3 3 (nI d + 1)) hn (by rw [fs_ug, if_neg (by omega), fs_ug, if_neg (by omega), hs]) c h1 h2
  have e21 : fs_u (fs_u σ 12 d c) 3 3 (nI d + 1) 21 = σ 21 := rfl
  have e22 : fs_u (fs_u σ 12 d c) 3 3 (nI d + 1) 22 = σ 22 := rfl
  have e23 : fs_u (fs_u σ 12 d c) 3 3 (nI d + 1) 23 = σ 23 := rfl
  have e24 : fs_u (fs_u σ 12 d c) 3 3 (nI d + 1) 24 = σ 24 := rfl
  have e25 : fs_u (fs_u σ 12 d c) 3 3 (nI d + 1) 25 = σ 25 := rfl
  have e32 : fs_u (fs_u σ 12 d c) 3 3 (nI d + 1) 3 2 = σ 3 2 := by rw [fs_ug, if_neg (by omega), fs_ug, if_neg (by omega)]
  rw [e21, e22, e23, e24, e25, e32] at a2 a3 a4
  rw [e21, e22, e24, e25] at a5
  refine ⟨σ', ?_, ?_, ?_, a2, a3, a4, a5, ?_⟩
  · unfold F_X0_enter
    rw [if_pos (wo_y hd h33), h33, fs_gp c3, c4, a1]
    rfl
  · intro j
    rw [a6 _ _ (by omega), fs_ug, if_neg (by omega), fs_ug]
    by_cases e : j = d
    · rw [if_pos ⟨rfl, e⟩, if_pos e]
    · rw [if_neg (fun q => e q.2), if_neg e]
  · rw [a6 _ _ (by omega), fs_ug, if_pos ⟨rfl, rfl⟩, nI_1]
  · intro k j h
    rw [a6 _ _ (by omega), fs_ug, if_neg (by omega), fs_ug, if_neg (by omega)]
theorem m_remember {d : Nat} (hd : d < 40) {σ : fsS} (h : σ 51 17 = nI d) : ∃ σ', F_X4_remember σ = some σ' ∧ σ' 51 17 = nI (d + 1) ∧ (∀ x, σ' 63 x = if 13 * d ≤ x ∧ x < 13 * d + 13 then σ 60 (x - 13 * d) else σ 63 x) ∧ ∀ k j, ¬ k = 63 → ¬ (k = 51 ∧ j = 17) → σ' k j = σ k j := by
  obtain ⟨σ1, a1, a2⟩ := w_copies (a0 := 60) (a2 := 63) (by decide) (i := 0) (j := 13 * d) (m := 13) (by decide) (by show 13 * d + 13 ≤ 520; omega) (by decide) (by decide) σ
  have e1 : (13 : Int32) * nI d = nI (13 * d) := pk_mul 13 d
  refine ⟨fs_u σ1 51 17 (nI (d + 1)), ?_, ?_, ?_, ?_⟩
  · unfold F_X4_remember
    rw [h, e1, show (0 : Int32) = nI 0 from rfl, show (13 : Int32) = nI 13 from rfl, a1, Option.bind_some, a2, if_neg (by omega), h, show (1 : Int32) = nI 1 from rfl, nI_add]
  · rw [fs_ug, if_pos ⟨rfl, rfl⟩]
  · intro x
    rw [fs_ug, if_neg (by omega), a2]
    simp
  · intro k j h1 h2
    rw [fs_ug, if_neg h2, a2, if_neg (by omega)]
/-- the relation behind a DEED -/
theorem Rel_deed {n d : Nat} {σ σ1 σ2 : fsS} {μ : fsL} (q1 : RA σ μ) (q2 : RR σ) (q3 : RT σ) (q4 : RK n σ) (q5 : RD n d σ) (q6 : RP n σ) (hd : d < 40) (hn : 0 < n) {c : Int32} (w1 : wh c < n) (w2 : wm c < n)
    (hb : bd n (ds n (σ 14) (σ 15) (σ 16) c (sn σ n (σ 12) d)) (d + 1))
    (h12 : ∀ j, σ1 12 j = if j = d then c else σ 12 j) (h33 : σ1 3 3 = nI (d + 1)) (h24 : ∀ j, σ1 24 j = (ds n (σ 21) (σ 22) (σ 23) c (σ 24, σ 25, σ 3 2)).1 j) (h25 : ∀ j, σ1 25 j = (ds n (σ 21) (σ 22) (σ 23) c (σ 24, σ 25, σ 3 2)).2.1 j) (h32 : σ1 3 2 = (ds n (σ 21) (σ 22) (σ 23) c (σ 24, σ 25, σ 3 2)).2.2)
    (hf : ∀ k j, ¬ (k = 12 ∨ k = 24 ∨ k = 25 ∨ k = 26 ∨ k = 27 ∨ (k = 5 ∧ (j = 8 ∨ j = 9)) ∨ (k = 3 ∧ (j = 2 ∨ j = 3))) → σ1 k j = σ k j)
    (m17 : σ2 51 17 = nI (d + 1)) (m63 : ∀ x, σ2 63 x = if 13 * d ≤ x ∧ x < 13 * d + 13 then σ 60 (x - 13 * d) else σ 63 x) (m60 : eqs n (ds n (σ 14) (σ 15) (σ 16) c (sn σ n (σ 12) d)) (fun i => σ2 60 (1 + i)) (fun i => σ2 60 (7 + i)) (σ2 60 0))
    (mf : ∀ k j, ¬ (k = 60 ∨ k = 62 ∨ k = 63 ∨ (k = 51 ∧ j = 17)) → σ2 k j = σ1 k j) : Rel σ2 μ := by
  have fr : ∀ k j, ¬ (k = 60 ∨ k = 62 ∨ k = 63 ∨ (k = 51 ∧ j = 17)) → ¬ (k = 12 ∨ k = 24 ∨ k = 25 ∨ k = 26 ∨ k = 27 ∨ (k = 5 ∧ (j = 8 ∨ j = 9)) ∨ (k = 3 ∧ (j = 2 ∨ j = 3))) → σ2 k j = σ k j := fun k j a b => by rw [mf k j a, hf k j b]
  have kk := q4.2.2.2.2.2
  have q5' := q5
  obtain ⟨d1, d2, d3, d4, d5, d6, d7, d8⟩ := q5'
  refine ⟨n, d + 1, RA_fr (fun k j q => fr k j (by omega) (by omega)) q1, RR_fr (fun k j q => fr k j (by omega) (by omega)) q2, RT_fr (fun k j q => fr k j (by omega) (by omega)) q3, RK_fr (fun k j q => fr k j (by omega) (by omega)) q4, ?_, RP_fr (fun k j q => fr k j (by omega) (by omega)) q6⟩
  refine RD_push q5 hd hn q4.2.1 w1 w2 hb (fun k j q => fr k j (by omega) (by omega)) (fun j => by rw [mf _ _ (by omega), h12]) (by rw [mf _ _ (by omega), h33]) m17 ?_ m60 m63
  have key := ds_eqs (kd := σ 14) (lk := σ 15) (wa := σ 16) (kd' := σ 21) (lk' := σ 22) (wa' := σ 23) (fun i hi => (kk i hi).2.2.2.2.2.1) (fun i hi => (kk i hi).2.2.2.2.2.2.1) (fun i hi => (kk i hi).2.2.2.2.2.2.2.1) d6 c w1 w2
  refine ⟨fun i hi => ?_, fun i hi => ?_, ?_⟩
  · rw [mf _ _ (by omega), h24]; exact key.1 i hi
  · rw [mf _ _ (by omega), h25]; exact key.2.1 i hi
  · rw [mf _ _ (by omega), h32]; exact key.2.2
theorem e_quarter : ec_quarter Rel := by
  intro σ μ hr
  obtain ⟨nn, hnow⟩ := Rel_now hr
  obtain ⟨n, d, q1, q2, q3, q4, q5, q6⟩ := id hr
  have hnn : nn = n := by
    have e : nI nn = nI n := hnow.2.1.symm.trans q4.2.2.2.1
    exact (nI_eq (by have := hnow.2.2.1.1; omega) (by have := q4.2.1; omega)).mp e
  subst hnn
  obtain ⟨hn0, hs, hk, hm⟩ := hnow
  have hn := hk.1
  obtain ⟨d1, d2, d3, d4, d5, d6, d7, d8⟩ := id q5
  by_cases h0 : nn = 0
  · subst h0
    have F1 : F_X3_quarter σ = some (-4, σ) := by
      unfold F_X3_quarter
      rw [if_neg (nok_n hs)]
    have F2 : F_X4_quarter σ = some (-4, σ) := by
      unfold F_X4_quarter
      rw [hm.1, if_pos (by decide)]
    exact ⟨-4, σ, μ, σ, μ, m_X3_quarter σ μ _ F1, m_X4_quarter σ μ _ F2, hr⟩
  · obtain ⟨b1, b2, ⟨q, hq, eq⟩⟩ := d5.1 d (Nat.le_refl d)
    have hq32 : σ 3 2 = nI q := by rw [d6.2.2, eq]
    have hq60 : σ 60 0 = nI q := by rw [d7.2.2, eq]
    have g1 : σ 3 2 < 99 := by rw [hq32, i_lt, nI_toInt (by omega), show (99 : Int32).toInt = 99 from rfl]; omega
    have g2 : ¬ σ 60 0 = 99 := by
      rw [hq60]
      intro e
      have := congrArg Int32.toInt e
      rw [nI_toInt (by omega), show (99 : Int32).toInt = 99 from rfl] at this
      omega
    by_cases hd : d = 40
    · subst hd
      have F1 : F_X3_quarter σ = some (-2, σ) := by
        unfold F_X3_quarter
        rw [if_pos (nok_y hn hs (by omega)), if_pos g1, if_neg (wo_n d3)]
      have F2 : F_X4_quarter σ = some (-2, σ) := by
        unfold F_X4_quarter
        rw [if_neg (by rw [hm.1]; exact nI_ne0 (by omega) (by omega)), if_neg g2, d4, if_pos (by decide)]
      exact ⟨-2, σ, μ, σ, μ, m_X3_quarter σ μ _ F1, m_X4_quarter σ μ _ F2, hr⟩
    · have hd40 : d < 40 := by omega
      have hc : F_X0_deed 0 0 0 0 = 0 := by decide
      have w1 : wh 0 < nn := by have : wh 0 = 0 := by decide
                                omega
      have w2 : wm 0 < nn := by have : wm 0 = 0 := by decide
                                omega
      obtain ⟨σ1, a1, a2, a3, a4, a5, a6, a7, a8⟩ := c_enter hn hd40 hs d3 0 w1 w2
      have F1 : F_X3_quarter σ = some (gv nn (σ 21) (σ 22) (σ 25) (σ 24), σ1) := by
        unfold F_X3_quarter
        rw [if_pos (nok_y hn hs (by omega)), if_pos g1, if_pos (wo_y hd40 d3), hc, a1, Option.bind_some, a7 (by decide)]
      have h517 : σ1 51 17 = nI d := by rw [a8 _ _ (by omega), d4]
      obtain ⟨τ1, e1, e2, e3, e4⟩ := m_remember hd40 h517
      have hm1 : mv τ1 60 nn (σ 21) (σ 22) (σ 23) (σ 25) (σ 24) := mv_fr hm (fun k j q => by rw [e4 _ _ (by omega) (by omega), a8 k j (by omega)])
      obtain ⟨τ2, k1, k2, k3, k4, k5⟩ := w_goes (Or.inl rfl) hk hm1
      have F2 : F_X4_quarter σ1 = some (gv nn (σ 21) (σ 22) (σ 25) (σ 24), τ2) := by
        unfold F_X4_quarter
        rw [if_neg (by rw [a8 _ _ (by omega), hm.1]; exact nI_ne0 (by omega) (by omega)), if_neg (by rw [a8 _ _ (by omega)]; exact g2), h517, if_neg (by
          intro e
          have := congrArg Int32.toInt e
          rw [nI_toInt (by omega), z40] at this
          omega), e1, Option.bind_some, k1]
        rfl
      generalize gv nn (σ 21) (σ 22) (σ 25) (σ 24) = v at F1 F2
      refine ⟨v, σ1, μ, τ2, μ, m_X3_quarter σ μ _ F1, m_X4_quarter _ μ _ F2, ?_⟩
      have dsz : ∀ x : tr, ds nn (σ 14) (σ 15) (σ 16) 0 x = (sP nn (σ 14) (σ 15) (σ 16) x.2.1 x.1, x.2.1, x.2.2 + 1) := fun x => by unfold ds; rw [if_pos (by decide)]
      have kk := q4.2.2.2.2.2
      refine Rel_deed q1 q2 q3 q4 q5 q6 hd40 (by omega) w1 w2 ?_ a2 a3 a4 a5 a6 a8 (by rw [k5 _ _ (by omega) (by omega), e2]) (fun x => by rw [k5 _ _ (by omega) (by omega), e3, a8 _ _ (by omega), a8 _ _ (by omega)]) ?_ (fun k j h => by rw [k5 _ _ (by omega) (by omega), e4 _ _ (by omega) (by omega)])
      · rw [dsz]
        refine ⟨fun i hi => ?_, b2, ⟨q + 1, by omega, ?_⟩⟩
        · show ∃ a, a < 100 ∧ (if i < nn then _ else _) = nI a
          rw [if_pos hi]
          exact cp_in _
        · dsimp only
          rw [eq, nI_1]
      · rw [dsz]
        refine ⟨fun i hi => ?_, fun i hi => ?_, ?_⟩
        · dsimp only
          rw [(k2.2 i hi).2.2.2.2]
          exact sP_congr (fun i hi => (kk i hi).2.2.2.2.2.1) (fun i hi => (kk i hi).2.2.2.2.2.2.1) (fun i hi => (kk i hi).2.2.2.2.2.2.2.1) d6.2.1 d6.1 i hi
        · dsimp only
          rw [(k2.2 i hi).2.2.2.1]
          exact d6.2.1 i hi
        · dsimp only
          rw [k3, e4 _ _ (by omega) (by omega), a8 _ _ (by omega), hq60, eq]
