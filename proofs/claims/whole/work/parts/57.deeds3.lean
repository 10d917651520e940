theorem Rel_all {σ : fsS} {μ : fsL} (hr : Rel σ μ) : ∃ n d, RA σ μ ∧ RR σ ∧ RT σ ∧ RK n σ ∧ RD n d σ ∧ RP n σ ∧ nowk n σ := by
  obtain ⟨nn, hnow⟩ := Rel_now hr
  obtain ⟨n, d, q1, q2, q3, q4, q5, q6⟩ := hr
  have hnn : nn = n := by
    have e : nI nn = nI n := hnow.2.1.symm.trans q4.2.2.2.1
    exact (nI_eq (by have := hnow.2.2.1.1; omega) (by have := q4.2.1; omega)).mp e
  subst hnn
  exact ⟨nn, d, q1, q2, q3, q4, q5, q6, hnow⟩
theorem nI40 {d : Nat} (h : d < 40) : ¬ nI d = 40 := by
  intro e
  have := congrArg Int32.toInt e
  rw [nI_toInt (by omega), z40] at this
  omega
theorem sd1 : ∀ i, i < 6 → F_X0_deed 1 (nI i) 0 0 &&& 7 = 1 ∧ wh (F_X0_deed 1 (nI i) 0 0) = i ∧ wm (F_X0_deed 1 (nI i) 0 0) = 0 := by decide +kernel
theorem sd2 : ∀ i, i < 6 → F_X0_deed 2 (nI i) 0 0 &&& 7 = 2 ∧ wh (F_X0_deed 2 (nI i) 0 0) = i ∧ wm (F_X0_deed 2 (nI i) 0 0) = 0 := by decide +kernel
theorem ds1 {n : Nat} {kd lk wa : Nat → Int32} {c : Int32} {i : Nat} (h : c &&& 7 = 1) (hw : wh c = i) (x : tr) : ds n kd lk wa c x = (x.1, upd x.2.1 i (x.2.1 i + 1), x.2.2) := by
  unfold ds
  rw [if_neg (by rw [h]; decide), if_pos h, hw]
theorem ds2 {n : Nat} {kd lk wa : Nat → Int32} {c : Int32} {i : Nat} (h : c &&& 7 = 2) (hw : wh c = i) (x : tr) : ds n kd lk wa c x = (x.1, upd x.2.1 i 0, x.2.2) := by
  unfold ds
  rw [if_neg (by rw [h]; decide), if_neg (by rw [h]; decide), if_pos h, hw]
theorem upd_g (f : Nat → Int32) (k : Nat) (x : Int32) (j : Nat) : upd f k x j = if j = k then x else f j := rfl
set_option maxHeartbeats 4000000 in
theorem e_soot : ec_soot Rel := by
  intro x σ μ hr
  obtain ⟨n, d, q1, q2, q3, q4, q5, q6, hn0, hs, hk, hm⟩ := Rel_all hr
  have hn := hk.1
  obtain ⟨d1, d2, d3, d4, d5, d6, d7, d8⟩ := id q5
  by_cases hx : 0 ≤ x.toInt ∧ x.toInt < n
  · obtain ⟨i, hi, rfl⟩ := ix (n := n) (by omega) hx.1 hx.2
    have y1 := isk_y hn hi hs
    have y2 := iso_y hn hi hm.1
    have c2 : fs_in (nI i) 6 := vp_in_nI (by omega) (by omega)
    have c3 : (nI i).toNatClampNeg = i := nI_clamp (by omega)
    have c4 : (7 : Int32) + nI i = nI (7 + i) := nI_add 7 i
    have c6 : fs_in (nI (7 + i)) 13 := vp_in_nI (by omega) (by omega)
    have c8 : (nI (7 + i)).toNatClampNeg = 7 + i := nI_clamp (by omega)
    obtain ⟨-, -, -, ⟨a, ha, ea⟩, -⟩ := hk.2 i hi
    obtain ⟨-, -, -, m4, -⟩ := hm.2 i hi
    by_cases h3 : a = 3
    · subst h3
      have F1 : F_X3_soot (nI i) σ = some (-4, σ) := by
        unfold F_X3_soot
        simp only [y1, if_neg i10, fs_gp c2, c3, ea, if_neg (show ¬ nI 3 < 3 by decide)]
      have F2 : F_X4_soot (nI i) σ = some (-4, σ) := by
        unfold F_X4_soot
        simp only [y2, if_neg i10, c4, fs_gp c6, c8, m4, ea, if_pos (show nI 3 = 3 by decide)]
      exact ⟨-4, σ, μ, σ, μ, m_X3_soot _ σ μ _ F1, m_X4_soot _ σ μ _ F2, hr⟩
    · have g1 : nI a < 3 := by rw [i_lt, nI_toInt (by omega), show (3 : Int32).toInt = 3 from rfl]; omega
      have g2 : ¬ nI a = 3 := fun e => by
        have := congrArg Int32.toInt e
        rw [nI_toInt (by omega), show (3 : Int32).toInt = 3 from rfl] at this
        omega
      by_cases hd : d = 40
      · subst hd
        have F1 : F_X3_soot (nI i) σ = some (-2, σ) := by
          unfold F_X3_soot
          simp only [y1, if_neg i10, fs_gp c2, c3, ea, if_pos g1, if_neg (wo_n d3)]
        have F2 : F_X4_soot (nI i) σ = some (-2, σ) := by
          unfold F_X4_soot
          simp only [y2, if_neg i10, c4, fs_gp c6, c8, m4, ea, if_neg g2, d4, if_pos (show nI 40 = 40 by decide)]
        exact ⟨-2, σ, μ, σ, μ, m_X3_soot _ σ μ _ F1, m_X4_soot _ σ μ _ F2, hr⟩
      · have hd40 : d < 40 := by omega
        obtain ⟨s1, s2, s3⟩ := sd1 i (by omega)
        generalize hc : F_X0_deed 1 (nI i) 0 0 = c at s1 s2 s3
        have w1 : wh c < n := by omega
        have w2 : wm c < n := by omega
        obtain ⟨σ1, a1, a2, a3, a4, a5, a6, a7, a8⟩ := c_enter hn hd40 hs d3 c w1 w2
        have hv : σ1 25 i = nI (a + 1) := by
          rw [a5, ds1 s1 s2]
          show upd (σ 25) i (σ 25 i + 1) i = _
          rw [upd_g, if_pos rfl, ea, nI_1]
        have F1 : F_X3_soot (nI i) σ = some (nI (a + 1), σ1) := by
          unfold F_X3_soot
          simp only [y1, if_neg i10, fs_gp c2, c3, ea, if_pos g1, if_pos (wo_y hd40 d3), hc, a1, Option.bind_some, hv]
        have h517 : σ1 51 17 = nI d := by rw [a8 _ _ (by omega), d4]
        obtain ⟨τ1, e1, e2, e3, e4⟩ := m_remember hd40 h517
        have t60 : ∀ j, τ1 60 j = σ 60 j := fun j => by rw [e4 _ _ (by omega) (by omega), a8 _ _ (by omega)]
        have u7 : τ1 60 (7 + i) = nI a := by rw [t60, m4, ea]
        have F2 : F_X4_soot (nI i) σ1 = some (nI (a + 1), fs_u τ1 60 (7 + i) (nI (a + 1))) := by
          have z1 : F_X4_isOne (nI i) σ1 = 1 := iso_y hn hi (by rw [a8 _ _ (by omega), hm.1])
          have z2 : σ1 60 (7 + i) = nI a := by rw [a8 _ _ (by omega), m4, ea]
          have z3 : fs_u τ1 60 (7 + i) (nI (a + 1)) 60 (7 + i) = nI (a + 1) := by rw [fs_ug, if_pos ⟨rfl, rfl⟩]
          unfold F_X4_soot
          simp only [z1, if_neg i10, c4, fs_gp c6, c8, z2, if_neg g2, h517, if_neg (nI40 hd40), e1, Option.bind_some, u7, nI_1, z3]
        refine ⟨nI (a + 1), σ1, μ, _, μ, m_X3_soot _ σ μ _ F1, m_X4_soot _ _ μ _ F2, ?_⟩
        obtain ⟨b1, b2, b3⟩ := d5.1 d (Nat.le_refl d)
        refine Rel_deed q1 q2 q3 q4 q5 q6 hd40 (by omega) w1 w2 ?_ a2 a3 a4 a5 a6 a8 (by dsimp only; rw [fs_ug, if_neg (by omega), e2]) (fun x => by dsimp only; rw [fs_ug, if_neg (by omega), e3, a8 _ _ (by omega), a8 _ _ (by omega)]) ?_ (fun k j h => by dsimp only; rw [fs_ug, if_neg (by omega), e4 _ _ (by omega) (by omega)])
        · rw [ds1 s1 s2]
          refine ⟨b1, fun k hk => ?_, ?_⟩
          · show ∃ a, a < 4 ∧ upd _ _ _ k = nI a
            rw [upd_g]
            by_cases e : k = i
            · rw [if_pos e, ← d6.2.1 i hi, ea, nI_1]; exact ⟨a + 1, by omega, rfl⟩
            · rw [if_neg e]; exact b2 k hk
          · obtain ⟨q, h1, h2⟩ := b3
            exact ⟨q, by omega, h2⟩
        · rw [ds1 s1 s2]
          refine ⟨fun k hk => ?_, fun k hk => ?_, ?_⟩
          · dsimp only; rw [fs_ug, if_neg (by omega), t60]; exact d7.1 k hk
          · show fs_u τ1 60 (7 + i) (nI (a + 1)) 60 (7 + k) = upd _ _ _ k
            rw [fs_ug, upd_g]
            by_cases e : k = i
            · rw [if_pos ⟨rfl, by omega⟩, if_pos e, ← d6.2.1 i hi, ea, nI_1]
            · rw [if_neg (by omega), if_neg e, t60]; exact d7.2.1 k hk
          · dsimp only; rw [fs_ug, if_neg (by omega), t60]; exact d7.2.2
  · have F1 : F_X3_soot x σ = some (-1, σ) := by
      unfold F_X3_soot
      rw [isk_n hn hx hs, if_pos rfl]
    have F2 : F_X4_soot x σ = some (-1, σ) := by
      unfold F_X4_soot
      rw [iso_n hn hx hm.1, if_pos rfl]
    exact ⟨-1, σ, μ, σ, μ, m_X3_soot _ σ μ _ F1, m_X4_soot _ σ μ _ F2, hr⟩
set_option maxHeartbeats 4000000 in
theorem e_wash : ec_wash Rel := by
  intro x σ μ hr
  obtain ⟨n, d, q1, q2, q3, q4, q5, q6, hn0, hs, hk, hm⟩ := Rel_all hr
  have hn := hk.1
  obtain ⟨d1, d2, d3, d4, d5, d6, d7, d8⟩ := id q5
  by_cases hx : 0 ≤ x.toInt ∧ x.toInt < n
  · obtain ⟨i, hi, rfl⟩ := ix (n := n) (by omega) hx.1 hx.2
    have y1 := isk_y hn hi hs
    have y2 := iso_y hn hi hm.1
    have c2 : fs_in (nI i) 6 := vp_in_nI (by omega) (by omega)
    have c3 : (nI i).toNatClampNeg = i := nI_clamp (by omega)
    have c4 : (7 : Int32) + nI i = nI (7 + i) := nI_add 7 i
    have c6 : fs_in (nI (7 + i)) 13 := vp_in_nI (by omega) (by omega)
    have c8 : (nI (7 + i)).toNatClampNeg = 7 + i := nI_clamp (by omega)
    obtain ⟨-, -, -, ⟨a, ha, ea⟩, -⟩ := hk.2 i hi
    obtain ⟨-, -, -, m4, -⟩ := hm.2 i hi
    by_cases h3 : a = 0
    · subst h3
      have F1 : F_X3_wash (nI i) σ = some (-4, σ) := by
        unfold F_X3_wash
        simp only [y1, if_neg i10, fs_gp c2, c3, ea, if_pos (show nI 0 = 0 by decide)]
      have F2 : F_X4_wash (nI i) σ = some (-4, σ) := by
        unfold F_X4_wash
        simp only [y2, if_neg i10, c4, fs_gp c6, c8, m4, ea, if_pos (show nI 0 = 0 by decide)]
      exact ⟨-4, σ, μ, σ, μ, m_X3_wash _ σ μ _ F1, m_X4_wash _ σ μ _ F2, hr⟩
    · have g2 : ¬ nI a = 0 := nI_ne0 (by omega) (by omega)
      by_cases hd : d = 40
      · subst hd
        have F1 : F_X3_wash (nI i) σ = some (-2, σ) := by
          unfold F_X3_wash
          simp only [y1, if_neg i10, fs_gp c2, c3, ea, if_neg g2, if_neg (wo_n d3)]
        have F2 : F_X4_wash (nI i) σ = some (-2, σ) := by
          unfold F_X4_wash
          simp only [y2, if_neg i10, c4, fs_gp c6, c8, m4, ea, if_neg g2, d4, if_pos (show nI 40 = 40 by decide)]
        exact ⟨-2, σ, μ, σ, μ, m_X3_wash _ σ μ _ F1, m_X4_wash _ σ μ _ F2, hr⟩
      · have hd40 : d < 40 := by omega
        obtain ⟨s1, s2, s3⟩ := sd2 i (by omega)
        generalize hc : F_X0_deed 2 (nI i) 0 0 = c at s1 s2 s3
        have w1 : wh c < n := by omega
        have w2 : wm c < n := by omega
        obtain ⟨σ1, a1, a2, a3, a4, a5, a6, a7, a8⟩ := c_enter hn hd40 hs d3 c w1 w2
        have F1 : F_X3_wash (nI i) σ = some (nI a, σ1) := by
          unfold F_X3_wash
          simp only [y1, if_neg i10, fs_gp c2, c3, ea, if_neg g2, if_pos (wo_y hd40 d3), hc, a1, Option.bind_some]
        have h517 : σ1 51 17 = nI d := by rw [a8 _ _ (by omega), d4]
        obtain ⟨τ1, e1, e2, e3, e4⟩ := m_remember hd40 h517
        have t60 : ∀ j, τ1 60 j = σ 60 j := fun j => by rw [e4 _ _ (by omega) (by omega), a8 _ _ (by omega)]
        have u7 : τ1 60 (7 + i) = nI a := by rw [t60, m4, ea]
        have F2 : F_X4_wash (nI i) σ1 = some (nI a, fs_u τ1 60 (7 + i) 0) := by
          have z1 : F_X4_isOne (nI i) σ1 = 1 := iso_y hn hi (by rw [a8 _ _ (by omega), hm.1])
          have z2 : σ1 60 (7 + i) = nI a := by rw [a8 _ _ (by omega), m4, ea]
          unfold F_X4_wash
          simp only [z1, if_neg i10, c4, fs_gp c6, c8, z2, if_neg g2, h517, if_neg (nI40 hd40), e1, Option.bind_some, u7]
        refine ⟨nI a, σ1, μ, _, μ, m_X3_wash _ σ μ _ F1, m_X4_wash _ _ μ _ F2, ?_⟩
        obtain ⟨b1, b2, b3⟩ := d5.1 d (Nat.le_refl d)
        refine Rel_deed q1 q2 q3 q4 q5 q6 hd40 (by omega) w1 w2 ?_ a2 a3 a4 a5 a6 a8 (by dsimp only; rw [fs_ug, if_neg (by omega), e2]) (fun x => by dsimp only; rw [fs_ug, if_neg (by omega), e3, a8 _ _ (by omega), a8 _ _ (by omega)]) ?_ (fun k j h => by dsimp only; rw [fs_ug, if_neg (by omega), e4 _ _ (by omega) (by omega)])
        · rw [ds2 s1 s2]
          refine ⟨b1, fun k hk => ?_, ?_⟩
          · show ∃ a, a < 4 ∧ upd _ _ _ k = nI a
            rw [upd_g]
            by_cases e : k = i
            · rw [if_pos e]; exact ⟨0, by omega, rfl⟩
            · rw [if_neg e]; exact b2 k hk
          · obtain ⟨q, h1, h2⟩ := b3
            exact ⟨q, by omega, h2⟩
        · rw [ds2 s1 s2]
          refine ⟨fun k hk => ?_, fun k hk => ?_, ?_⟩
          · dsimp only; rw [fs_ug, if_neg (by omega), t60]; exact d7.1 k hk
          · show fs_u τ1 60 (7 + i) 0 60 (7 + k) = upd _ _ _ k
            rw [fs_ug, upd_g]
            by_cases e : k = i
            · rw [if_pos ⟨rfl, by omega⟩, if_pos e]
            · rw [if_neg (by omega), if_neg e, t60]; exact d7.2.1 k hk
          · dsimp only; rw [fs_ug, if_neg (by omega), t60]; exact d7.2.2
  · have F1 : F_X3_wash x σ = some (-1, σ) := by
      unfold F_X3_wash
      rw [isk_n hn hx hs, if_pos rfl]
    have F2 : F_X4_wash x σ = some (-1, σ) := by
      unfold F_X4_wash
      rw [iso_n hn hx hm.1, if_pos rfl]
    exact ⟨-1, σ, μ, σ, μ, m_X3_wash _ σ μ _ F1, m_X4_wash _ σ μ _ F2, hr⟩
