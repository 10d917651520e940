set_option maxRecDepth 100000 in
theorem sd3_all : ((List.range 6).all fun i => (List.range 6).all fun j => (List.range 100).all fun v => decide (F_X0_deed 3 (nI i) (nI j) (nI v) &&& 7 = 3) && decide (wh (F_X0_deed 3 (nI i) (nI j) (nI v)) = i) && decide (wm (F_X0_deed 3 (nI i) (nI j) (nI v)) = j) && decide (mh (F_X0_deed 3 (nI i) (nI j) (nI v)) = nI v)) = true := by decide +kernel
theorem sd3 {i j v : Nat} (hi : i < 6) (hj : j < 6) (hv : v < 100) : F_X0_deed 3 (nI i) (nI j) (nI v) &&& 7 = 3 ∧ wh (F_X0_deed 3 (nI i) (nI j) (nI v)) = i ∧ wm (F_X0_deed 3 (nI i) (nI j) (nI v)) = j ∧ mh (F_X0_deed 3 (nI i) (nI j) (nI v)) = nI v := by
  have h1 := List.all_eq_true.mp sd3_all i (List.mem_range.mpr hi)
  have h2 := List.all_eq_true.mp h1 j (List.mem_range.mpr hj)
  have h3 := List.all_eq_true.mp h2 v (List.mem_range.mpr hv)
  simp only [Bool.and_eq_true, decide_eq_true_eq] at h3
  exact ⟨h3.1.1.1, h3.1.1.2, h3.1.2, h3.2⟩
theorem ds3 {n : Nat} {kd lk wa : Nat → Int32} {c : Int32} {i j : Nat} {v : Int32} (h : c &&& 7 = 3) (hw : wh c = i) (hm : wm c = j) (hv : mh c = v) (hij : ¬ i = j) (x : tr) : ds n kd lk wa c x = (upd (upd x.1 i (x.1 i - v)) j (if x.1 j + v < 99 then x.1 j + v else 99), x.2.1, x.2.2) := by
  have e : upd x.1 i (x.1 i - v) j = x.1 j := by rw [upd_g, if_neg (fun q => hij q.symm)]
  unfold ds
  rw [if_neg (by rw [h]; decide), if_neg (by rw [h]; decide), if_neg (by rw [h]; decide), if_pos h, hw, hm, hv, e]
theorem min_eq (z : Int32) : F_X4_lesser 99 z = if z < 99 then z else 99 := by
  unfold F_X4_lesser
  by_cases h : z < 99
  · rw [if_pos h, if_pos (by rw [i_le]; rw [i_lt] at h; omega)]
  · rw [if_neg h]
    by_cases h2 : z ≤ 99
    · rw [if_pos h2]
      apply Int32.toInt_inj.mp
      rw [i_lt] at h
      rw [i_le] at h2
      omega
    · rw [if_neg h2]
theorem min_in (b v : Nat) (hb : b < 100) (hv : v < 100) : ∃ a, a < 100 ∧ (if nI b + nI v < 99 then nI b + nI v else 99) = nI a := by
  rw [nI_add]
  by_cases h : nI (b + v) < 99
  · rw [if_pos h]
    rw [i_lt, nI_toInt (by omega), show (99 : Int32).toInt = 99 from rfl] at h
    exact ⟨b + v, by omega, rfl⟩
  · rw [if_neg h]
    exact ⟨99, by omega, rfl⟩
theorem two_y {n i j : Nat} (hn : n ≤ 6) (hi : i < n) (hj : j < n) (hij : ¬ i = j) {σ : fsS} (h : σ 5 0 = nI n) : F_X3_areTwo (nI i) (nI j) σ = 1 := by
  unfold F_X3_areTwo
  rw [isk_y hn hi h, if_neg i10, isk_y hn hj h, if_neg i10, if_neg (fun e => hij ((nI_eq (by omega) (by omega)).mp e))]
theorem two_n {n : Nat} (hn : n ≤ 6) {x y : Int32} {σ : fsS} (h : σ 5 0 = nI n) (hx : ¬ ((0 ≤ x.toInt ∧ x.toInt < n) ∧ (0 ≤ y.toInt ∧ y.toInt < n) ∧ ¬ x = y)) : F_X3_areTwo x y σ = 0 := by
  unfold F_X3_areTwo
  by_cases h1 : 0 ≤ x.toInt ∧ x.toInt < n
  · by_cases h2 : 0 ≤ y.toInt ∧ y.toInt < n
    · have h3 : x = y := Classical.byContradiction (fun q => hx ⟨h1, h2, q⟩)
      by_cases g1 : F_X3_isKin x σ = 0
      · rw [if_pos g1]
      · by_cases g2 : F_X3_isKin y σ = 0
        · rw [if_neg g1, if_pos g2]
        · rw [if_neg g1, if_neg g2, if_pos h3]
    · by_cases g1 : F_X3_isKin x σ = 0
      · rw [if_pos g1]
      · rw [if_neg g1, isk_n hn h2 h, if_pos rfl]
  · rw [isk_n hn h1 h, if_pos rfl]
set_option maxHeartbeats 4000000 in
theorem e_gift : ec_gift Rel := by
  intro x y w σ μ hr
  obtain ⟨n, d, q1, q2, q3, q4, q5, q6, hn0, hs, hk, hm⟩ := Rel_all hr
  have hn := hk.1
  obtain ⟨d1, d2, d3, d4, d5, d6, d7, d8⟩ := id q5
  by_cases hx : (0 ≤ x.toInt ∧ x.toInt < n) ∧ (0 ≤ y.toInt ∧ y.toInt < n) ∧ ¬ x = y
  · obtain ⟨i, hi, rfl⟩ := ix (n := n) (by omega) hx.1.1 hx.1.2
    obtain ⟨j, hj, rfl⟩ := ix (n := n) (by omega) hx.2.1.1 hx.2.1.2
    have hij : ¬ i = j := fun e => hx.2.2 (by rw [e])
    have y1 := two_y hn hi hj hij hs
    have y2 := iso_y hn hi hm.1
    have y3 := iso_y hn hj hm.1
    have c2 : fs_in (nI i) 6 := vp_in_nI (by omega) (by omega)
    have c3 : (nI i).toNatClampNeg = i := nI_clamp (by omega)
    have c2j : fs_in (nI j) 6 := vp_in_nI (by omega) (by omega)
    have c3j : (nI j).toNatClampNeg = j := nI_clamp (by omega)
    have c4 : (1 : Int32) + nI i = nI (1 + i) := nI_add 1 i
    have c6 : fs_in (nI (1 + i)) 13 := vp_in_nI (by omega) (by omega)
    have c8 : (nI (1 + i)).toNatClampNeg = 1 + i := nI_clamp (by omega)
    have c4j : (1 : Int32) + nI j = nI (1 + j) := nI_add 1 j
    have c6j : fs_in (nI (1 + j)) 13 := vp_in_nI (by omega) (by omega)
    have c8j : (nI (1 + j)).toNatClampNeg = 1 + j := nI_clamp (by omega)
    obtain ⟨-, -, -, -, ⟨a, ha, ea⟩⟩ := hk.2 i hi
    obtain ⟨-, -, -, -, ⟨b, hb, eb⟩⟩ := hk.2 j hj
    obtain ⟨-, -, -, -, m5⟩ := hm.2 i hi
    obtain ⟨-, -, -, -, m5j⟩ := hm.2 j hj
    by_cases hw : 1 ≤ w.toInt ∧ w.toInt < 100
    · obtain ⟨v, hv, rfl⟩ := ix (x := w) (n := 100) (by omega) (by omega) hw.2
      have ev : (nI v).toInt = v := nI_toInt (by omega)
      have hv1 : 1 ≤ v := by rw [ev] at hw; omega
      have g1 : ¬ nI v < 1 := by rw [i_lt, ev, show (1 : Int32).toInt = 1 from rfl]; omega
      have g9 : nI v ≤ 99 := by rw [i_le, ev, show (99 : Int32).toInt = 99 from rfl]; omega
      have hin : F_X4_in ((nI v).toInt64) 1 99 = 1 := in_y (by rw [ev, show (1 : Int64).toInt = 1 from rfl, show (99 : Int64).toInt = 99 from rfl]; omega)
      by_cases hav : v ≤ a
      · have g2 : nI v ≤ nI a := nI_le hav (by omega)
        by_cases hd : d = 40
        · subst hd
          have F1 : F_X3_gift (nI i) (nI j) (nI v) σ = some (-2, σ) := by
            unfold F_X3_gift
            simp only [y1, if_neg i10, if_neg g1, if_pos g9, fs_gp c2, c3, ea, if_pos g2, if_neg (wo_n d3)]
          have F2 : F_X4_gift (nI i) (nI j) (nI v) σ = some (-2, σ) := by
            unfold F_X4_gift
            simp only [y2, y3, if_neg i10, if_neg hx.2.2, hin, c4, fs_gp c6, c8, m5, ea, if_pos g2, d4, if_pos (show nI 40 = 40 by decide)]
          exact ⟨-2, σ, μ, σ, μ, m_X3_gift _ _ _ σ μ _ F1, m_X4_gift _ _ _ σ μ _ F2, hr⟩
        · have hd40 : d < 40 := by omega
          obtain ⟨s1, s2, s3, s4⟩ := sd3 (i := i) (j := j) (v := v) (by omega) (by omega) hv
          generalize hc : F_X0_deed 3 (nI i) (nI j) (nI v) = c at s1 s2 s3 s4
          have w1 : wh c < n := by omega
          have w2 : wm c < n := by omega
          obtain ⟨σ1, a1, a2, a3, a4, a5, a6, a7, a8⟩ := c_enter hn hd40 hs d3 c w1 w2
          obtain ⟨r, hr1, er⟩ := min_in b v hb hv
          have hvv : σ1 24 j = nI r := by
            rw [a4, ds3 s1 s2 s3 s4 hij]
            show upd _ _ _ j = _
            rw [upd_g, if_pos rfl]
            show (if σ 24 j + nI v < 99 then σ 24 j + nI v else 99) = _
            rw [eb, er]
          have F1 : F_X3_gift (nI i) (nI j) (nI v) σ = some (nI r, σ1) := by
            unfold F_X3_gift
            simp only [y1, if_neg i10, if_neg g1, if_pos g9, fs_gp c2, c3, ea, if_pos g2, if_pos (wo_y hd40 d3), hc, a1, Option.bind_some, fs_gp c2j, c3j, hvv]
          have h517 : σ1 51 17 = nI d := by rw [a8 _ _ (by omega), d4]
          obtain ⟨τ1, e1, e2, e3, e4⟩ := m_remember hd40 h517
          have t60 : ∀ j, τ1 60 j = σ 60 j := fun j => by rw [e4 _ _ (by omega) (by omega), a8 _ _ (by omega)]
          have u1 : τ1 60 (1 + i) = nI a := by rw [t60, m5, ea]
          have u2 : fs_u τ1 60 (1 + i) (nI a - nI v) 60 (1 + j) = nI b := by rw [fs_ug, if_neg (by omega), t60, m5j, eb]
          have F2 : F_X4_gift (nI i) (nI j) (nI v) σ1 = some (nI r, fs_u (fs_u τ1 60 (1 + i) (nI a - nI v)) 60 (1 + j) (nI r)) := by
            have z1 : F_X4_isOne (nI i) σ1 = 1 := iso_y hn hi (by rw [a8 _ _ (by omega), hm.1])
            have z4 : F_X4_isOne (nI j) σ1 = 1 := iso_y hn hj (by rw [a8 _ _ (by omega), hm.1])
            have z2 : σ1 60 (1 + i) = nI a := by rw [a8 _ _ (by omega), m5, ea]
            have z3 : fs_u (fs_u τ1 60 (1 + i) (nI a - nI v)) 60 (1 + j) (nI r) 60 (1 + j) = nI r := by rw [fs_ug, if_pos ⟨rfl, rfl⟩]
            unfold F_X4_gift
            simp only [z1, z4, if_neg i10, if_neg hx.2.2, hin, c4, c4j, fs_gp c6, fs_gp c6j, c8, c8j, z2, if_pos g2, h517, if_neg (nI40 hd40), e1, Option.bind_some, u1, u2, min_eq, er, z3]
          refine ⟨nI r, σ1, μ, _, μ, m_X3_gift _ _ _ σ μ _ F1, m_X4_gift _ _ _ _ μ _ F2, ?_⟩
          obtain ⟨b1, b2, b3⟩ := d5.1 d (Nat.le_refl d)
          have ei : (sn σ n (σ 12) d).1 i = nI a := by rw [← d6.1 i hi, ea]
          have ej : (sn σ n (σ 12) d).1 j = nI b := by rw [← d6.1 j hj, eb]
          have esub : nI a - nI v = nI (a - v) := pk_sub hav
          refine Rel_deed q1 q2 q3 q4 q5 q6 hd40 (by omega) w1 w2 ?_ a2 a3 a4 a5 a6 a8 (by dsimp only; rw [fs_ug, if_neg (by omega), fs_ug, if_neg (by omega), e2]) (fun x => by dsimp only; rw [fs_ug, if_neg (by omega), fs_ug, if_neg (by omega), e3, a8 _ _ (by omega), a8 _ _ (by omega)]) ?_ (fun k j h => by dsimp only; rw [fs_ug, if_neg (by omega), fs_ug, if_neg (by omega), e4 _ _ (by omega) (by omega)])
          · rw [ds3 s1 s2 s3 s4 hij, ei, ej, er, esub]
            refine ⟨fun k hk => ?_, b2, ?_⟩
            · show ∃ a, a < 100 ∧ upd _ _ _ k = nI a
              rw [upd_g]
              by_cases e : k = j
              · rw [if_pos e]; exact ⟨r, hr1, rfl⟩
              · rw [if_neg e, upd_g]
                by_cases e' : k = i
                · rw [if_pos e']; exact ⟨a - v, by omega, rfl⟩
                · rw [if_neg e']; exact b1 k hk
            · obtain ⟨q, h1, h2⟩ := b3
              exact ⟨q, by omega, h2⟩
          · rw [ds3 s1 s2 s3 s4 hij, ei, ej, er]
            refine ⟨fun k hk => ?_, fun k hk => ?_, ?_⟩
            · show fs_u (fs_u τ1 60 (1 + i) (nI a - nI v)) 60 (1 + j) (nI r) 60 (1 + k) = upd _ _ _ k
              rw [fs_ug, upd_g]
              by_cases e : k = j
              · rw [if_pos ⟨rfl, by omega⟩, if_pos e]
              · rw [if_neg (by omega), if_neg e, fs_ug, upd_g]
                by_cases e' : k = i
                · rw [if_pos ⟨rfl, by omega⟩, if_pos e']
                · rw [if_neg (by omega), if_neg e', t60]; exact d7.1 k hk
            · dsimp only; rw [fs_ug, if_neg (by omega), fs_ug, if_neg (by omega), t60]; exact d7.2.1 k hk
            · dsimp only; rw [fs_ug, if_neg (by omega), fs_ug, if_neg (by omega), t60]; exact d7.2.2
      · have g2 : ¬ nI v ≤ nI a := nI_ge (by omega) (by omega)
        have F1 : F_X3_gift (nI i) (nI j) (nI v) σ = some (-4, σ) := by
          unfold F_X3_gift
          simp only [y1, if_neg i10, if_neg g1, if_pos g9, fs_gp c2, c3, ea, if_neg g2]
        have F2 : F_X4_gift (nI i) (nI j) (nI v) σ = some (-4, σ) := by
          unfold F_X4_gift
          simp only [y2, y3, if_neg i10, if_neg hx.2.2, hin, c4, fs_gp c6, c8, m5, ea, if_neg g2]
        exact ⟨-4, σ, μ, σ, μ, m_X3_gift _ _ _ σ μ _ F1, m_X4_gift _ _ _ σ μ _ F2, hr⟩
    · have F1 : F_X3_gift (nI i) (nI j) w σ = some (-1, σ) := by
        unfold F_X3_gift
        rw [y1, if_neg i10]
        by_cases g : w < 1
        · rw [if_pos g]
        · rw [if_neg g, if_neg]
          rw [i_lt, show (1 : Int32).toInt = 1 from rfl] at g
          rw [i_le, show (99 : Int32).toInt = 99 from rfl]
          omega
      have F2 : F_X4_gift (nI i) (nI j) w σ = some (-1, σ) := by
        unfold F_X4_gift
        rw [y2, if_neg i10, y3, if_neg i10, if_neg hx.2.2, in_n (by rw [show (1 : Int64).toInt = 1 from rfl, show (99 : Int64).toInt = 99 from rfl]; omega), if_pos rfl]
      exact ⟨-1, σ, μ, σ, μ, m_X3_gift _ _ _ σ μ _ F1, m_X4_gift _ _ _ σ μ _ F2, hr⟩
  · have F1 : F_X3_gift x y w σ = some (-1, σ) := by
      unfold F_X3_gift
      rw [two_n hn hs hx, if_pos rfl]
    have F2 : F_X4_gift x y w σ = some (-1, σ) := by
      unfold F_X4_gift
      by_cases h1 : 0 ≤ x.toInt ∧ x.toInt < n
      · by_cases h2 : 0 ≤ y.toInt ∧ y.toInt < n
        · have h3 : x = y := Classical.byContradiction (fun q => hx ⟨h1, h2, q⟩)
          obtain ⟨i, hi, rfl⟩ := ix (n := n) (by omega) h1.1 h1.2
          subst h3
          rw [iso_y hn hi hm.1, if_neg i10, if_neg i10, if_pos rfl]
        · obtain ⟨i, hi, rfl⟩ := ix (n := n) (by omega) h1.1 h1.2
          rw [iso_y hn hi hm.1, if_neg i10, iso_n hn h2 hm.1, if_pos rfl]
      · rw [iso_n hn h1 hm.1, if_pos rfl]
    exact ⟨-1, σ, μ, σ, μ, m_X3_gift _ _ _ σ μ _ F1, m_X4_gift _ _ _ σ μ _ F2, hr⟩
