theorem ka_lt : ∀ q, q < 6 → ∃ a, a < 6 ∧ F_X1_kindAbove (nI q) = nI a := by
  intro q hq
  rcases (show q = 0 ∨ q = 1 ∨ q = 2 ∨ q = 3 ∨ q = 4 ∨ q = 5 by omega) with rfl | rfl | rfl | rfl | rfl | rfl
  · exact ⟨0, by decide, by decide⟩
  · exact ⟨0, by decide, by decide⟩
  · exact ⟨0, by decide, by decide⟩
  · exact ⟨0, by decide, by decide⟩
  · exact ⟨1, by decide, by decide⟩
  · exact ⟨3, by decide, by decide⟩
set_option maxHeartbeats 4000000 in
theorem e_mark : ec_mark Rel := by
  intro a1 a2 σ μ hr
  obtain ⟨n, hn0, hs, hk, hm⟩ := Rel_now hr
  have hn := hk.1
  by_cases hx1 : 0 ≤ a1.toInt ∧ a1.toInt < n
  · obtain ⟨i, hi, rfl⟩ := ix (n := n) (by omega) hx1.1 hx1.2
    have y1 := isk_y hn hi hs
    have y2 := iso_y hn hi hm.1
    have c2 : fs_in (nI i) 6 := vp_in_nI (by omega) (by omega)
    have c3 : (nI i).toNatClampNeg = i := nI_clamp (by omega)
    by_cases h2 : 1 ≤ a2.toInt ∧ a2.toInt < 6
    · obtain ⟨q, hq, rfl⟩ := ix (x := a2) (n := 6) (by omega) (by omega) h2.2
      have ew : (nI q).toInt = q := nI_toInt (by omega)
      have hq1 : 1 ≤ q := by rw [ew] at h2; omega
      have hin : F_X4_in ((nI q).toInt64) 1 5 = 1 := in_y (by rw [ew, show (1 : Int64).toInt = 1 from rfl, show (5 : Int64).toInt = 5 from rfl]; omega)
      obtain ⟨⟨k, hk6, e1⟩, ⟨l, hl, e2⟩, -, ⟨s, hs4, e4⟩, ⟨p, hp, e5⟩⟩ := hk.2 i hi
      obtain ⟨m1, m2, m3, m4, m5⟩ := hm.2 i hi
      have g1 : ¬ nI q ≤ 0 := nI_nle (by omega) (by omega)
      have g2 : nI q < 6 := by rw [i_lt, ew, z6]; omega
      by_cases ho : F_X1_isOf (nI k) (nI q) = 0
      · have F1 : F_X3_mark (nI i) (nI q) σ = some (-3, rf 3 σ) := by
          unfold F_X3_mark
          simp only [y1, if_neg i10, if_neg g1, if_pos g2, fs_gp c2, c3, e1, if_pos ho, rfu3, Option.bind_some]
        have F2 : F_X4_mark (nI i) (nI q) (rf 3 σ) = some (-3, mf 3 (rf 3 σ)) := by
          have y3 : F_X4_isOne (nI i) (rf 3 σ) = 1 := iso_y hn hi (by unfold rf; simp [fs_ug, hm.1])
          have y4 : rf 3 σ 57 i = nI k := by unfold rf; simp [fs_ug, m1, e1]
          unfold F_X4_mark
          simp only [y3, if_neg i10, hin, fs_gp c2, c3, y4, isOf_eq hk6 hq hq1, if_pos ho, mfu3, Option.bind_some]
        exact ⟨-3, rf 3 σ, μ, mf 3 (rf 3 σ), μ, m_X3_mark _ _ σ μ _ F1, m_X4_mark _ _ _ μ _ F2, Rel_rf hr 3 (by decide) (by decide)⟩
      · have ra : ∀ x, F_X1_regardAs 5 (nI i) x σ = some (F_X1_regardOf x (σ 22 i) (σ 25 i) (σ 24 i)) := by
          intro x
          simp only [F_X1_regardAs, fs_gp c2, c3]
        have F1 : F_X3_mark (nI i) (nI q) σ = some (mkv (nI k) (nI q) (nI l) (nI s) (nI p), σ) := by
          unfold F_X3_mark
          simp only [y1, if_neg i10, if_neg g1, if_pos g2, fs_gp c2, c3, e1, if_neg ho, ra, Option.bind_some, e2, e4, e5, mkv]
        have F2 : F_X4_mark (nI i) (nI q) σ = some (mkm (nI k) (nI q) (nI l) (nI s) (nI p), σ) := by
          unfold F_X4_mark
          have r1 : F_X4_regardAs (1 : Int32) (nI i) σ = some (F_X1_regardOf (nI 1) (nI l) (nI s) (nI p)) := by rw [m_regardAs hk hi hm (a := 1) (by decide) (by decide), e2, e4, e5]
          have r3 : F_X4_regardAs (3 : Int32) (nI i) σ = some (F_X1_regardOf (nI 3) (nI l) (nI s) (nI p)) := by rw [m_regardAs hk hi hm (a := 3) (by decide) (by decide), e2, e4, e5]
          have r0 : F_X4_regardAs (0 : Int32) (nI i) σ = some (F_X1_regardOf (nI 0) (nI l) (nI s) (nI p)) := by rw [m_regardAs hk hi hm (a := 0) (by decide) (by decide), e2, e4, e5]
          simp only [y2, if_neg i10, hin, fs_gp c2, c3, m1, e1, isOf_eq hk6 hq hq1, if_neg ho, m_regardAs hk hi hm hk6 rfl, Option.bind_some, r1, r3, r0, e2, e4, e5]
          unfold mkm
          rcases (show q = 1 ∨ q = 2 ∨ q = 3 ∨ q = 4 ∨ q = 5 by omega) with rfl | rfl | rfl | rfl | rfl
          · simp only [if_neg (show ¬ nI 1 = 4 by decide), if_neg (show ¬ nI 1 = 5 by decide), if_neg (show ¬ nI 1 = 3 by decide), if_neg (show ¬ (nI 1 = 3 ∨ nI 1 = 5) by decide), show F_X1_kindAbove (nI 1) = nI 0 by decide]
          · simp only [if_neg (show ¬ nI 2 = 4 by decide), if_neg (show ¬ nI 2 = 5 by decide), if_neg (show ¬ nI 2 = 3 by decide), if_neg (show ¬ (nI 2 = 3 ∨ nI 2 = 5) by decide), show F_X1_kindAbove (nI 2) = nI 0 by decide]
          · simp only [if_neg (show ¬ nI 3 = 4 by decide), if_neg (show ¬ nI 3 = 5 by decide), if_pos (show nI 3 = 3 by decide), if_pos (show nI 3 = 3 ∨ nI 3 = 5 by decide), show F_X1_kindAbove (nI 3) = nI 0 by decide]
          · simp only [if_pos (show nI 4 = 4 by decide), if_neg (show ¬ nI 4 = 3 by decide), if_neg (show ¬ nI 4 = 5 by decide), if_neg (show ¬ (nI 4 = 3 ∨ nI 4 = 5) by decide), show F_X1_kindAbove (nI 4) = nI 1 by decide]
          · simp only [if_neg (show ¬ nI 5 = 4 by decide), if_pos (show nI 5 = 5 by decide), if_neg (show ¬ nI 5 = 3 by decide), if_pos (show nI 5 = 5 by decide), if_pos (show nI 5 = 3 ∨ nI 5 = 5 by decide), show F_X1_kindAbove (nI 5) = nI 3 by decide]
        rw [mk_eq hk6 hq hq1 hl hs4 hp ho] at F2
        generalize mkv (nI k) (nI q) (nI l) (nI s) (nI p) = v at F1 F2
        exact ⟨v, σ, μ, σ, μ, m_X3_mark _ _ σ μ _ F1, m_X4_mark _ _ σ μ _ F2, hr⟩
    · have F1 : F_X3_mark (nI i) a2 σ = some (-1, σ) := by
        unfold F_X3_mark
        rw [y1, if_neg i10]
        by_cases g : a2 ≤ 0
        · rw [if_pos g]
        · rw [if_neg g, if_neg]
          rw [i_le, z0] at g
          rw [i_lt, z6]
          omega
      have F2 : F_X4_mark (nI i) a2 σ = some (-1, σ) := by
        unfold F_X4_mark
        rw [y2, if_neg i10, in_n (by rw [show (1 : Int64).toInt = 1 from rfl, show (5 : Int64).toInt = 5 from rfl]; omega), if_pos rfl]
      exact ⟨-1, σ, μ, σ, μ, m_X3_mark _ _ σ μ _ F1, m_X4_mark _ _ σ μ _ F2, hr⟩
  · have F1 : F_X3_mark a1 a2 σ = some (-1, σ) := by
      unfold F_X3_mark
      rw [isk_n hn hx1 hs, if_pos rfl]
    have F2 : F_X4_mark a1 a2 σ = some (-1, σ) := by
      unfold F_X4_mark
      rw [iso_n hn hx1 hm.1, if_pos rfl]
    exact ⟨-1, σ, μ, σ, μ, m_X3_mark _ _ σ μ _ F1, m_X4_mark _ _ σ μ _ F2, hr⟩
