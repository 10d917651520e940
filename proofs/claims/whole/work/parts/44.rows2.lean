theorem rfu1 (σ : fsS) : F_X3_refuse (1 : Int32) σ = some (-3, rf 1 σ) := rfu 1 (by decide) (by decide) σ
theorem mfu1 (σ : fsS) : F_X4_found (1 : Int32) σ = some (-3, mf 1 σ) := mfu 1 (by decide) (by decide) σ
theorem rfu2 (σ : fsS) : F_X3_refuse (2 : Int32) σ = some (-3, rf 2 σ) := rfu 2 (by decide) (by decide) σ
theorem mfu2 (σ : fsS) : F_X4_found (2 : Int32) σ = some (-3, mf 2 σ) := mfu 2 (by decide) (by decide) σ
theorem rfu3 (σ : fsS) : F_X3_refuse (3 : Int32) σ = some (-3, rf 3 σ) := rfu 3 (by decide) (by decide) σ
theorem mfu3 (σ : fsS) : F_X4_found (3 : Int32) σ = some (-3, mf 3 σ) := mfu 3 (by decide) (by decide) σ
theorem rfu4 (σ : fsS) : F_X3_refuse (4 : Int32) σ = some (-3, rf 4 σ) := rfu 4 (by decide) (by decide) σ
theorem mfu4 (σ : fsS) : F_X4_found (4 : Int32) σ = some (-3, mf 4 σ) := mfu 4 (by decide) (by decide) σ
theorem rfu5 (σ : fsS) : F_X3_refuse (5 : Int32) σ = some (-3, rf 5 σ) := rfu 5 (by decide) (by decide) σ
theorem mfu5 (σ : fsS) : F_X4_found (5 : Int32) σ = some (-3, mf 5 σ) := mfu 5 (by decide) (by decide) σ
theorem sub_t {a b : Int32} (h1 : -2147483648 ≤ a.toInt - b.toInt) (h2 : a.toInt - b.toInt < 2147483648) : (a - b).toInt = a.toInt - b.toInt := by
  rw [Int32.toInt_sub, Int.bmod_def]
  split <;> omega
theorem add_t {a b : Int32} (h1 : -2147483648 ≤ a.toInt + b.toInt) (h2 : a.toInt + b.toInt < 2147483648) : (a + b).toInt = a.toInt + b.toInt := by
  rw [Int32.toInt_add, Int.bmod_def]
  split <;> omega
theorem toI_lt (x : Int32) : x.toInt < 2147483648 := by have := x.toInt_lt; omega
theorem toI_ge (x : Int32) : -2147483648 ≤ x.toInt := by have := x.le_toInt; omega
theorem n1 (z : Nat) (h : z < 2 ^ 31) : ¬ nI z = -1 := by
  intro e
  have := congrArg Int32.toInt e
  rw [nI_toInt h, show (-1 : Int32).toInt = -1 from rfl] at this
  omega
theorem has_g (o N : Nat) (hl : fs_len (9 + o) = N) (hN : N < 100) (r : Nat) (hr : r < N) (σ : fsS) : F_X2_has o (nI r) σ = some (if σ (9 + o) r = -1 then 0 else 1) := by
  have e1 : fs_in (nI r) (fs_len (9 + o)) := by rw [hl]; exact vp_in_nI hr (by omega)
  have e2 : (nI r).toNatClampNeg = r := nI_clamp (by omega)
  simp only [F_X2_has, fs_gp e1, e2]
  by_cases h : σ (9 + o) r = -1
  · rw [if_pos h, if_pos h]
  · rw [if_neg h, if_neg h]
theorem reach_g (o N : Nat) (hl : fs_len (9 + o) = N) (hN : N < 100) (r : Nat) (hr : r < N) (x n : Int32) (σ : fsS) : F_X2_reaches o (nI r) x n σ = some (if x < 0 then 0 else if σ (9 + o) r - x < n then 0 else 1) := by
  have e1 : fs_in (nI r) (fs_len (9 + o)) := by rw [hl]; exact vp_in_nI hr (by omega)
  have e2 : (nI r).toNatClampNeg = r := nI_clamp (by omega)
  simp only [F_X2_reaches, fs_gp e1, e2]
  by_cases h0 : x < 0
  · rw [if_pos h0, if_pos h0]
  · rw [if_neg h0, if_neg h0]
    by_cases h : σ (9 + o) r - x < n
    · rw [if_pos h, if_pos h]
    · rw [if_neg h, if_neg h]
/-- a place among z: there, or not -/
theorem place_y {z i : Nat} (hz : z ≤ 60) (hi : i < z) : (if nI i < 0 then (0 : Int32) else if nI z - nI i < 1 then 0 else 1) = 1 := by
  rw [if_neg (nI_pos (by omega)), if_neg]
  rw [i_lt, sub_t (by rw [nI_toInt (by omega), nI_toInt (by omega)]; omega) (by rw [nI_toInt (by omega), nI_toInt (by omega)]; omega), nI_toInt (by omega), nI_toInt (by omega), show (1 : Int32).toInt = 1 from rfl]
  omega
theorem place_n {z : Nat} {x : Int32} (hz : z ≤ 60) (h : ¬ (0 ≤ x.toInt ∧ x.toInt < z)) : (if x < 0 then (0 : Int32) else if nI z - x < 1 then 0 else 1) = 0 := by
  by_cases h0 : x < 0
  · rw [if_pos h0]
  · rw [if_neg h0, if_pos]
    rw [i_lt, z0] at h0
    have := toI_lt x
    rw [i_lt, sub_t (by rw [nI_toInt (by omega)]; omega) (by rw [nI_toInt (by omega)]; omega), nI_toInt (by omega), show (1 : Int32).toInt = 1 from rfl]
    omega
theorem mplace_y {z i : Nat} (hz : z ≤ 60) (hi : i < z) : F_X4_in ((nI i).toInt64) 0 ((nI z - 1).toInt64) = 1 := by
  refine in_y ?_
  rw [i64, sub_t (by rw [nI_toInt (by omega), show (1 : Int32).toInt = 1 from rfl]; omega) (by rw [nI_toInt (by omega), show (1 : Int32).toInt = 1 from rfl]; omega), nI_toInt (by omega), nI_toInt (by omega), show (1 : Int32).toInt = 1 from rfl, Z0]
  omega
theorem mplace_n {z : Nat} {x : Int32} (hz : z ≤ 60) (h : ¬ (0 ≤ x.toInt ∧ x.toInt < z)) : F_X4_in (x.toInt64) 0 ((nI z - 1).toInt64) = 0 := by
  refine in_n ?_
  rw [i64, sub_t (by rw [nI_toInt (by omega), show (1 : Int32).toInt = 1 from rfl]; omega) (by rw [nI_toInt (by omega), show (1 : Int32).toInt = 1 from rfl]; omega), nI_toInt (by omega), show (1 : Int32).toInt = 1 from rfl, Z0]
  omega
theorem nz (z : Nat) (h : z < 2 ^ 31) : (0 : Int32) ≤ nI z := nI_pos' h
theorem nzn : ¬ (0 : Int32) ≤ -1 := by decide
theorem RR_put {σ σ' : fsS} (hr : RR σ) {r i : Nat} (hr6 : r < 6) (hi : i < 40) (v : Int32) (h1 : σ' (38 + r) i = v) (h2 : σ' 52 (40 * r + i) = v) (h : ∀ k j, (k = 1 ∧ j = 2) ∨ k = 53 ∨ k = 10 ∨ (k = 52 ∧ ¬ j = 40 * r + i) ∨ (38 ≤ k ∧ k < 44 ∧ ¬ (k = 38 + r ∧ j = i)) → σ' k j = σ k j) : RR σ' := by
  obtain ⟨g1, g2⟩ := hr
  refine ⟨by rw [h 1 2 (by omega), g1], fun t ht => ?_⟩
  obtain ⟨w1, w2⟩ := g2 t ht
  rw [h 53 t (by omega), h 10 t (by omega)]
  refine ⟨w1, ?_⟩
  rcases w2 with w2 | ⟨z, v1, v2, v3⟩
  · exact Or.inl w2
  · refine Or.inr ⟨z, v1, v2, fun j hj => ?_⟩
    by_cases q : t = r ∧ j = i
    · obtain ⟨rfl, rfl⟩ := q
      rw [h1, h2]
    · rw [h 52 _ (by omega), h (38 + t) j (by omega), v3 j hj]
theorem RT_put {σ σ' : fsS} (hr : RT σ) {r i : Nat} (hr6 : r < 4) (hi : i < 60) (v : Int32) (h1 : σ' (44 + r) i = v) (h2 : σ' 54 (60 * r + i) = v) (h : ∀ k j, (k = 2 ∧ j = 2) ∨ k = 55 ∨ k = 11 ∨ (k = 54 ∧ ¬ j = 60 * r + i) ∨ (44 ≤ k ∧ k < 48 ∧ ¬ (k = 44 + r ∧ j = i)) → σ' k j = σ k j) : RT σ' := by
  obtain ⟨g1, g2⟩ := hr
  refine ⟨by rw [h 2 2 (by omega), g1], fun t ht => ?_⟩
  obtain ⟨w1, w2⟩ := g2 t ht
  rw [h 55 t (by omega), h 11 t (by omega)]
  refine ⟨w1, ?_⟩
  rcases w2 with w2 | ⟨z, v1, v2, v3⟩
  · exact Or.inl w2
  · refine Or.inr ⟨z, v1, v2, fun j hj => ?_⟩
    by_cases q : t = r ∧ j = i
    · obtain ⟨rfl, rfl⟩ := q
      rw [h1, h2]
    · rw [h 54 _ (by omega), h (44 + t) j (by omega), v3 j hj]
/-- refusePlace by what the ROW is -/
theorem rp_1 {r : Nat} (hr : r < 6) {x : Int32} {σ : fsS} (h : σ 10 r = -1) : F_X3_refusePlace (nI r) x σ = some (-3, rf 1 σ) := by
  unfold F_X3_refusePlace
  simp only [(isRow_y hr).1, if_neg i10, has_g 1 6 rfl (by decide) r hr, if_pos h, Option.bind_some, rfu1, ↓reduceIte]
  all_goals rfl
theorem rp_2 {r z : Nat} (hr : r < 6) (hz : z ≤ 40) {x : Int32} {σ : fsS} (h : σ 10 r = nI z) (hx : ¬ (0 ≤ x.toInt ∧ x.toInt < z)) : F_X3_refusePlace (nI r) x σ = some (-3, rf 2 σ) := by
  have h9 : σ (9 + 1) r = nI z := h
  unfold F_X3_refusePlace
  simp only [(isRow_y hr).1, if_neg i10, has_g 1 6 rfl (by decide) r hr, h9, if_neg (n1 z (by omega)), Option.bind_some, if_neg i10, reach_g 1 6 rfl (by decide) r hr, h9, place_n (by omega) hx, Option.bind_some, rfu2, ↓reduceIte]
  all_goals rfl
theorem rp_0 {r z i : Nat} (hr : r < 6) (hz : z ≤ 40) {σ : fsS} (h : σ 10 r = nI z) (hi : i < z) : F_X3_refusePlace (nI r) (nI i) σ = some (0, σ) := by
  have h9 : σ (9 + 1) r = nI z := h
  unfold F_X3_refusePlace
  simp only [(isRow_y hr).1, if_neg i10, has_g 1 6 rfl (by decide) r hr, h9, if_neg (n1 z (by omega)), Option.bind_some, if_neg i10, reach_g 1 6 rfl (by decide) r hr, h9, place_y (by omega) hi, Option.bind_some, if_neg i10, ↓reduceIte]

set_option maxHeartbeats 4000000 in
theorem e_at : ec_at Rel := by
  intro a1 a2 σ μ hr
  by_cases hrow : 0 ≤ a1.toInt ∧ a1.toInt < 6
  · obtain ⟨r, hr6, rfl⟩ := ix (n := 6) (by decide) hrow.1 hrow.2
    obtain ⟨y1, y2⟩ := isRow_y hr6
    have y1' : ¬ F_X3_isRow (nI r) = 0 := by rw [y1]; exact i10
    have y2' : ¬ F_X4_isRow (nI r) = 0 := by rw [y2]; exact i10
    have c2 : fs_in (nI r) 6 := vp_in_nI hr6 (by omega)
    have c3 : (nI r).toNatClampNeg = r := nI_clamp (by omega)
    obtain ⟨n, d, q1, q2, q3, q4, q5, q6⟩ := id hr
    obtain ⟨w1, w2⟩ := q2.2 r hr6
    rcases w2 with w2 | ⟨z, v1, v2, v3⟩
    · have F1 : F_X3_at (nI r) a2 σ = some (-3, rf 1 σ) := by
        unfold F_X3_at
        simp only [rp_1 hr6 w2, ↓reduceIte]
        all_goals rfl
      have F2 : F_X4_at (nI r) a2 (rf 1 σ) = some (-3, mf 1 (rf 1 σ)) := by
        have u : rf 1 σ 53 r = -1 := by unfold rf; simp [fs_ug, w1, w2]
        unfold F_X4_at
        simp only [if_neg y2', fs_gp c2, c3, u, if_neg nzn, mfu1, ↓reduceIte]
        all_goals rfl
      exact ⟨-3, rf 1 σ, μ, mf 1 (rf 1 σ), μ, m_X3_at _ _ σ μ _ F1, m_X4_at _ _ _ μ _ F2, Rel_rf hr 1 (by decide) (by decide)⟩
    · by_cases hx : 0 ≤ a2.toInt ∧ a2.toInt < z
      · obtain ⟨i, hi, rfl⟩ := ix (n := z) (by omega) hx.1 hx.2
        have d2 : (nI i).toNatClampNeg = i := nI_clamp (by omega)
        have l1 : fs_in (nI i) (fs_len (38 + r)) := by rw [row_len r hr6]; exact vp_in_nI (by omega) (by omega)
        have F1 : F_X3_at (nI r) (nI i) σ = some (1, fs_u σ 0 8 (σ (38 + r) i)) := by
          unfold F_X3_at
          simp only [rp_0 hr6 v1 v2 hi, Option.bind_some, fs_gp c2, c3, fs_gp l1, d2, ↓reduceIte]
          all_goals rfl
        have F2 : F_X4_at (nI r) (nI i) (fs_u σ 0 8 (σ (38 + r) i)) = some (1, fs_u (fs_u σ 0 8 (σ (38 + r) i)) 51 4 (σ (38 + r) i)) := by
          have u : fs_u σ 0 8 (σ (38 + r) i) 53 r = nI z := by simp [fs_ug, w1, v2]
          have u2 : fs_u σ 0 8 (σ (38 + r) i) 52 (40 * r + i) = σ (38 + r) i := by simp [fs_ug, v3 i hi]
          have l2 : fs_in (nI (40 * r + i)) 240 := vp_in_nI (by omega) (by omega)
          have l3 : (nI (40 * r + i)).toNatClampNeg = 40 * r + i := nI_clamp (by omega)
          unfold F_X4_at
          simp only [if_neg y2', fs_gp c2, c3, u, if_pos (nz z (by omega)), fs_gp c2, mplace_y (by omega) hi, if_neg i10, mi_row, fs_gp l2, l3, u2, ↓reduceIte]
          all_goals rfl
        refine ⟨1, _, μ, _, μ, m_X3_at _ _ σ μ _ F1, m_X4_at _ _ _ μ _ F2, Rel_ask hr (σ (38 + r) i) (fun k j q p1 p2 => ?_) ?_ ?_⟩
        · dsimp only
          rw [fs_ug, if_neg p1, fs_ug, if_neg p2]
        · simp [fs_ug]
        · simp [fs_ug]
      · have F1 : F_X3_at (nI r) a2 σ = some (-3, rf 2 σ) := by
          unfold F_X3_at
          simp only [rp_2 hr6 v1 v2 hx, ↓reduceIte]
          all_goals rfl
        have F2 : F_X4_at (nI r) a2 (rf 2 σ) = some (-3, mf 2 (rf 2 σ)) := by
          have u : rf 2 σ 53 r = nI z := by unfold rf; simp [fs_ug, w1, v2]
          unfold F_X4_at
          simp only [if_neg y2', fs_gp c2, c3, u, if_pos (nz z (by omega)), fs_gp c2, mplace_n (by omega) hx, mfu2, ↓reduceIte]
          all_goals rfl
        exact ⟨-3, rf 2 σ, μ, mf 2 (rf 2 σ), μ, m_X3_at _ _ σ μ _ F1, m_X4_at _ _ _ μ _ F2, Rel_rf hr 2 (by decide) (by decide)⟩
  · obtain ⟨y1, y2⟩ := isRow_n hrow
    have F1 : F_X3_at a1 a2 σ = some (-1, σ) := by
      unfold F_X3_at
      unfold F_X3_refusePlace
      rw [if_pos y1]
      rfl
    have F2 : F_X4_at a1 a2 σ = some (-1, σ) := by
      unfold F_X4_at
      rw [if_pos y2]
    exact ⟨-1, σ, μ, σ, μ, m_X3_at _ _ σ μ _ F1, m_X4_at _ _ _ μ _ F2, hr⟩

set_option maxHeartbeats 4000000 in
theorem e_lay : ec_lay Rel := by
  intro a1 a2 a3 σ μ hr
  by_cases hrow : 0 ≤ a1.toInt ∧ a1.toInt < 6
  · obtain ⟨r, hr6, rfl⟩ := ix (n := 6) (by decide) hrow.1 hrow.2
    obtain ⟨y1, y2⟩ := isRow_y hr6
    have y1' : ¬ F_X3_isRow (nI r) = 0 := by rw [y1]; exact i10
    have y2' : ¬ F_X4_isRow (nI r) = 0 := by rw [y2]; exact i10
    have c2 : fs_in (nI r) 6 := vp_in_nI hr6 (by omega)
    have c3 : (nI r).toNatClampNeg = r := nI_clamp (by omega)
    obtain ⟨n, d, q1, q2, q3, q4, q5, q6⟩ := id hr
    obtain ⟨w1, w2⟩ := q2.2 r hr6
    rcases w2 with w2 | ⟨z, v1, v2, v3⟩
    · have F1 : F_X3_lay (nI r) a2 a3 σ = some (-3, rf 1 σ) := by
        unfold F_X3_lay
        simp only [rp_1 hr6 w2, ↓reduceIte]
        all_goals rfl
      have F2 : F_X4_lay (nI r) a2 a3 (rf 1 σ) = some (-3, mf 1 (rf 1 σ)) := by
        have u : rf 1 σ 53 r = -1 := by unfold rf; simp [fs_ug, w1, w2]
        unfold F_X4_lay
        simp only [if_neg y2', fs_gp c2, c3, u, if_neg nzn, mfu1, ↓reduceIte]
        all_goals rfl
      exact ⟨-3, rf 1 σ, μ, mf 1 (rf 1 σ), μ, m_X3_lay _ _ _ σ μ _ F1, m_X4_lay _ _ _ _ μ _ F2, Rel_rf hr 1 (by decide) (by decide)⟩
    · by_cases hx : 0 ≤ a2.toInt ∧ a2.toInt < z
      · obtain ⟨i, hi, rfl⟩ := ix (n := z) (by omega) hx.1 hx.2
        have d2 : (nI i).toNatClampNeg = i := nI_clamp (by omega)
        have l1 : fs_in (nI i) (fs_len (38 + r)) := by rw [row_len r hr6]; exact vp_in_nI (by omega) (by omega)
        have F1 : F_X3_lay (nI r) (nI i) a3 σ = some (1, fs_u (fs_u σ 0 8 (σ (38 + r) i)) (38 + r) i a3) := by
          unfold F_X3_lay
          simp only [rp_0 hr6 v1 v2 hi, Option.bind_some, fs_gp c2, c3, fs_gp l1, fs_gp c2, fs_gp l1, d2, ↓reduceIte]
        have F2 : F_X4_lay (nI r) (nI i) a3 (fs_u (fs_u σ 0 8 (σ (38 + r) i)) (38 + r) i a3) = some (1, fs_u (fs_u (fs_u (fs_u σ 0 8 (σ (38 + r) i)) (38 + r) i a3) 52 (40 * r + i) a3) 51 4 (σ (38 + r) i)) := by
          have u : fs_u (fs_u σ 0 8 (σ (38 + r) i)) (38 + r) i a3 53 r = nI z := by rw [fs_ug, if_neg (by omega), fs_ug, if_neg (by omega), w1, v2]
          have u2 : fs_u (fs_u σ 0 8 (σ (38 + r) i)) (38 + r) i a3 52 (40 * r + i) = σ (38 + r) i := by rw [fs_ug, if_neg (by omega), fs_ug, if_neg (by omega), v3 i hi]
          have l2 : fs_in (nI (40 * r + i)) 240 := vp_in_nI (by omega) (by omega)
          have l3 : (nI (40 * r + i)).toNatClampNeg = 40 * r + i := nI_clamp (by omega)
          unfold F_X4_lay
          simp only [if_neg y2', fs_gp c2, c3, u, if_pos (nz z (by omega)), fs_gp c2, mplace_y (by omega) hi, if_neg i10, mi_row, fs_gp l2, fs_gp l2, l3, u2, ↓reduceIte]
          all_goals rfl
        have fr : ∀ k j, ¬ (k = 38 + r ∧ j = i) → ¬ (k = 52 ∧ j = 40 * r + i) → ¬ (k = 51 ∧ j = 4) → ¬ (k = 0 ∧ j = 8) → fs_u (fs_u (fs_u (fs_u σ 0 8 (σ (38 + r) i)) (38 + r) i a3) 52 (40 * r + i) a3) 51 4 (σ (38 + r) i) k j = σ k j := fun k j p1 p2 p3 p4 => by
          rw [fs_ug, if_neg p3, fs_ug, if_neg p2, fs_ug, if_neg p1, fs_ug, if_neg p4]
        refine ⟨1, _, μ, _, μ, m_X3_lay _ _ _ σ μ _ F1, m_X4_lay _ _ _ _ μ _ F2, n, d, ?_, ?_, ?_, ?_, ?_, ?_⟩
        · obtain ⟨b1, b2, b3, b4, b5⟩ := q1
          dsimp only
          refine ⟨?_, b2, b3, ?_, fun f g1 g2 => ?_⟩
          · rw [fs_ug, if_pos ⟨rfl, rfl⟩, fs_ug, if_neg (by omega), fs_ug, if_neg (by omega), fs_ug, if_neg (by omega), fs_ug, if_pos ⟨rfl, rfl⟩]
          · rw [fr 51 7 (by omega) (by omega) (by omega) (by omega), fr 0 7 (by omega) (by omega) (by omega) (by omega), b4]
          · rw [fr 56 f (by omega) (by omega) (by omega) (by omega), fr 9 f (by omega) (by omega) (by omega) (by omega), b5 f g1 g2]
        · refine RR_put q2 hr6 (i := i) (by omega) a3 ?_ ?_ (fun k j q => fr k j (by omega) (by omega) (by omega) (by omega))
          · dsimp only
            rw [fs_ug, if_neg (by omega), fs_ug, if_neg (by omega), fs_ug, if_pos ⟨rfl, rfl⟩]
          · dsimp only
            rw [fs_ug, if_neg (by omega), fs_ug, if_pos ⟨rfl, rfl⟩]
        · exact RT_fr (fun k j q => fr k j (by omega) (by omega) (by omega) (by omega)) q3
        · exact RK_fr (fun k j q => fr k j (by omega) (by omega) (by omega) (by omega)) q4
        · exact RD_fr (fun k j q => fr k j (by omega) (by omega) (by omega) (by omega)) q5
        · exact RP_fr (fun k j q => fr k j (by omega) (by omega) (by omega) (by omega)) q6
      · have F1 : F_X3_lay (nI r) a2 a3 σ = some (-3, rf 2 σ) := by
          unfold F_X3_lay
          simp only [rp_2 hr6 v1 v2 hx, ↓reduceIte]
          all_goals rfl
        have F2 : F_X4_lay (nI r) a2 a3 (rf 2 σ) = some (-3, mf 2 (rf 2 σ)) := by
          have u : rf 2 σ 53 r = nI z := by unfold rf; simp [fs_ug, w1, v2]
          unfold F_X4_lay
          simp only [if_neg y2', fs_gp c2, c3, u, if_pos (nz z (by omega)), fs_gp c2, mplace_n (by omega) hx, mfu2, ↓reduceIte]
          all_goals rfl
        exact ⟨-3, rf 2 σ, μ, mf 2 (rf 2 σ), μ, m_X3_lay _ _ _ σ μ _ F1, m_X4_lay _ _ _ _ μ _ F2, Rel_rf hr 2 (by decide) (by decide)⟩
  · obtain ⟨y1, y2⟩ := isRow_n hrow
    have F1 : F_X3_lay a1 a2 a3 σ = some (-1, σ) := by
      unfold F_X3_lay
      unfold F_X3_refusePlace
      rw [if_pos y1]
      rfl
    have F2 : F_X4_lay a1 a2 a3 σ = some (-1, σ) := by
      unfold F_X4_lay
      rw [if_pos y2]
    exact ⟨-1, σ, μ, σ, μ, m_X3_lay _ _ _ σ μ _ F1, m_X4_lay _ _ _ _ μ _ F2, hr⟩

set_option maxHeartbeats 4000000 in
theorem e_put : ec_put Rel := by
  intro a1 a2 a3 σ μ hr
  by_cases hrow : 0 ≤ a1.toInt ∧ a1.toInt < 4
  · obtain ⟨r, hr6, rfl⟩ := ix (n := 4) (by decide) hrow.1 hrow.2
    obtain ⟨y1, y2⟩ := isText_y hr6
    have y1' : ¬ F_X3_isText (nI r) = 0 := by rw [y1]; exact i10
    have y2' : ¬ F_X4_isText (nI r) = 0 := by rw [y2]; exact i10
    have c2 : fs_in (nI r) 4 := vp_in_nI hr6 (by omega)
    have c3 : (nI r).toNatClampNeg = r := nI_clamp (by omega)
    obtain ⟨n, d, q1, q2, q3, q4, q5, q6⟩ := id hr
    obtain ⟨w1, w2⟩ := q3.2 r hr6
    rcases w2 with w2 | ⟨z, v1, v2, v3⟩
    · have F1 : F_X3_put (nI r) a2 a3 σ = some (-3, rf 1 σ) := by
        unfold F_X3_put
        simp only [if_neg y1', has_g 2 4 rfl (by decide) r hr6, if_pos (show σ (9 + 2) r = -1 from w2), Option.bind_some, rfu1, ↓reduceIte]
        all_goals rfl
      have F2 : F_X4_put (nI r) a2 a3 (rf 1 σ) = some (-3, mf 1 (rf 1 σ)) := by
        have u : rf 1 σ 55 r = -1 := by unfold rf; simp [fs_ug, w1, w2]
        unfold F_X4_put
        simp only [if_neg y2', fs_gp c2, c3, u, if_neg nzn, mfu1, ↓reduceIte]
        all_goals rfl
      exact ⟨-3, rf 1 σ, μ, mf 1 (rf 1 σ), μ, m_X3_put _ _ _ σ μ _ F1, m_X4_put _ _ _ _ μ _ F2, Rel_rf hr 1 (by decide) (by decide)⟩
    · have h9 : σ (9 + 2) r = nI z := v2
      by_cases hx : 0 ≤ a2.toInt ∧ a2.toInt < z
      · obtain ⟨i, hi, rfl⟩ := ix (n := z) (by omega) hx.1 hx.2
        have d2 : (nI i).toNatClampNeg = i := nI_clamp (by omega)
        have l1 : fs_in (nI i) (fs_len (44 + r)) := by rw [text_len r hr6]; exact vp_in_nI (by omega) (by omega)
        have F1 : F_X3_put (nI r) (nI i) a3 σ = some (σ (44 + r) i + 1000, fs_u σ (44 + r) i (a3.toInt8.toInt32)) := by
          unfold F_X3_put
          simp only [if_neg y1', has_g 2 4 rfl (by decide) r hr6, h9, if_neg (n1 z (by omega)), Option.bind_some, if_neg i10, reach_g 2 4 rfl (by decide) r hr6, h9, place_y (by omega) hi, Option.bind_some, if_neg i10, fs_gp c2, c3, fs_gp l1, fs_gp c2, fs_gp l1, d2, ↓reduceIte]
        have F2 : F_X4_put (nI r) (nI i) a3 (fs_u σ (44 + r) i (a3.toInt8.toInt32)) = some (σ (44 + r) i + 1000, fs_u (fs_u σ (44 + r) i (a3.toInt8.toInt32)) 54 (60 * r + i) (a3.toInt8.toInt32)) := by
          have u : fs_u σ (44 + r) i (a3.toInt8.toInt32) 55 r = nI z := by rw [fs_ug, if_neg (by omega), w1, v2]
          have u2 : fs_u σ (44 + r) i (a3.toInt8.toInt32) 54 (60 * r + i) = σ (44 + r) i := by rw [fs_ug, if_neg (by omega), v3 i hi]
          have l2 : fs_in (nI (60 * r + i)) 240 := vp_in_nI (by omega) (by omega)
          have l3 : (nI (60 * r + i)).toNatClampNeg = 60 * r + i := nI_clamp (by omega)
          unfold F_X4_put
          simp only [if_neg y2', fs_gp c2, c3, u, if_pos (nz z (by omega)), fs_gp c2, mplace_y (by omega) hi, if_neg i10, mi_text, fs_gp l2, fs_gp l2, l3, u2, ↓reduceIte]
        have fr : ∀ k j, ¬ (k = 44 + r ∧ j = i) → ¬ (k = 54 ∧ j = 60 * r + i) → fs_u (fs_u σ (44 + r) i (a3.toInt8.toInt32)) 54 (60 * r + i) (a3.toInt8.toInt32) k j = σ k j := fun k j p1 p2 => by
          rw [fs_ug, if_neg p2, fs_ug, if_neg p1]
        generalize σ (44 + r) i + 1000 = v at F1 F2
        refine ⟨v, fs_u σ (44 + r) i (a3.toInt8.toInt32), μ, fs_u (fs_u σ (44 + r) i (a3.toInt8.toInt32)) 54 (60 * r + i) (a3.toInt8.toInt32), μ, m_X3_put _ _ _ σ μ _ F1, m_X4_put _ _ _ _ μ _ F2, n, d, ?_, ?_, ?_, ?_, ?_, ?_⟩
        · exact RA_fr (fun k j q => fr k j (by omega) (by omega)) q1
        · exact RR_fr (fun k j q => fr k j (by omega) (by omega)) q2
        · refine RT_put q3 hr6 (i := i) (by omega) (a3.toInt8.toInt32) ?_ ?_ (fun k j q => fr k j (by omega) (by omega))
          · rw [fs_ug, if_neg (by omega), fs_ug, if_pos ⟨rfl, rfl⟩]
          · rw [fs_ug, if_pos ⟨rfl, rfl⟩]
        · exact RK_fr (fun k j q => fr k j (by omega) (by omega)) q4
        · exact RD_fr (fun k j q => fr k j (by omega) (by omega)) q5
        · exact RP_fr (fun k j q => fr k j (by omega) (by omega)) q6
      · have F1 : F_X3_put (nI r) a2 a3 σ = some (-3, rf 2 σ) := by
          unfold F_X3_put
          simp only [if_neg y1', has_g 2 4 rfl (by decide) r hr6, h9, if_neg (n1 z (by omega)), Option.bind_some, if_neg i10, reach_g 2 4 rfl (by decide) r hr6, h9, place_n (by omega) hx, Option.bind_some, rfu2, ↓reduceIte]
          all_goals rfl
        have F2 : F_X4_put (nI r) a2 a3 (rf 2 σ) = some (-3, mf 2 (rf 2 σ)) := by
          have u : rf 2 σ 55 r = nI z := by unfold rf; simp [fs_ug, w1, v2]
          unfold F_X4_put
          simp only [if_neg y2', fs_gp c2, c3, u, if_pos (nz z (by omega)), fs_gp c2, mplace_n (by omega) hx, mfu2, ↓reduceIte]
          all_goals rfl
        exact ⟨-3, rf 2 σ, μ, mf 2 (rf 2 σ), μ, m_X3_put _ _ _ σ μ _ F1, m_X4_put _ _ _ _ μ _ F2, Rel_rf hr 2 (by decide) (by decide)⟩
  · obtain ⟨y1, y2⟩ := isText_n hrow
    have F1 : F_X3_put a1 a2 a3 σ = some (-1, σ) := by
      unfold F_X3_put
      rw [if_pos y1]
    have F2 : F_X4_put a1 a2 a3 σ = some (-1, σ) := by
      unfold F_X4_put
      rw [if_pos y2]
    exact ⟨-1, σ, μ, σ, μ, m_X3_put _ _ _ σ μ _ F1, m_X4_put _ _ _ _ μ _ F2, hr⟩

set_option maxHeartbeats 4000000 in
theorem e_tear : ec_tear Rel := by
  intro a1 σ μ hr
  by_cases hrow : 0 ≤ a1.toInt ∧ a1.toInt < 6
  · obtain ⟨r, hr6, rfl⟩ := ix (n := 6) (by decide) hrow.1 hrow.2
    obtain ⟨y1, y2⟩ := isRow_y hr6
    have y1' : ¬ F_X3_isRow (nI r) = 0 := by rw [y1]; exact i10
    have y2' : ¬ F_X4_isRow (nI r) = 0 := by rw [y2]; exact i10
    have c2 : fs_in (nI r) 6 := vp_in_nI hr6 (by omega)
    have c3 : (nI r).toNatClampNeg = r := nI_clamp (by omega)
    obtain ⟨n, d, q1, q2, q3, q4, q5, q6⟩ := id hr
    obtain ⟨w1, w2⟩ := q2.2 r hr6
    rcases w2 with w2 | ⟨z, v1, v2, v3⟩
    · have F1 : F_X3_tear (nI r)  σ = some (-3, rf 1 σ) := by
        unfold F_X3_tear
        simp only [if_neg y1', has_g 1 6 rfl (by decide) r hr6, if_pos (show σ (9 + 1) r = -1 from w2), Option.bind_some, rfu1, ↓reduceIte]
        all_goals rfl
      have F2 : F_X4_tear (nI r)  (rf 1 σ) = some (-3, mf 1 (rf 1 σ)) := by
        have u : rf 1 σ 53 r = -1 := by unfold rf; simp [fs_ug, w1, w2]
        unfold F_X4_tear
        simp only [if_neg y2', fs_gp c2, c3, u, if_neg nzn, mfu1, ↓reduceIte]
        all_goals rfl
      exact ⟨-3, rf 1 σ, μ, mf 1 (rf 1 σ), μ, m_X3_tear _ σ μ _ F1, m_X4_tear _ _ μ _ F2, Rel_rf hr 1 (by decide) (by decide)⟩
    · have F1 : F_X3_tear (nI r) σ = some (1, fs_u σ 10 r (-1)) := by
        unfold F_X3_tear
        simp only [if_neg y1', has_g 1 6 rfl (by decide) r hr6, show σ (9 + 1) r = nI z from v2, if_neg (n1 z (by omega)), Option.bind_some, if_neg i10, fs_gp c2, c3, ↓reduceIte]
      have F2 : F_X4_tear (nI r) (fs_u σ 10 r (-1)) = some (1, fs_u (fs_u σ 10 r (-1)) 53 r (-1)) := by
        have u : fs_u σ 10 r (-1) 53 r = nI z := by rw [fs_ug, if_neg (by omega), w1, v2]
        unfold F_X4_tear
        simp only [if_neg y2', fs_gp c2, c3, u, if_pos (nz z (by omega)), fs_gp c2, ↓reduceIte]
      have fr : ∀ k j, ¬ (k = 10 ∧ j = r) → ¬ (k = 53 ∧ j = r) → fs_u (fs_u σ 10 r (-1)) 53 r (-1) k j = σ k j := fun k j p1 p2 => by
        rw [fs_ug, if_neg p2, fs_ug, if_neg p1]
      refine ⟨1, _, μ, _, μ, m_X3_tear _ σ μ _ F1, m_X4_tear _ _ μ _ F2, n, d, ?_, ?_, ?_, ?_, ?_, ?_⟩
      · exact RA_fr (fun k j q => fr k j (by omega) (by omega)) q1
      · refine ⟨by dsimp only; rw [fr 1 2 (by omega) (by omega), q2.1], fun t ht => ?_⟩
        dsimp only
        by_cases htr : t = r
        · subst htr
          have s1 : fs_u (fs_u σ 10 t (-1)) 53 t (-1) 10 t = -1 := by rw [fs_ug, if_neg (by omega), fs_ug, if_pos ⟨rfl, rfl⟩]
          rw [s1]
          exact ⟨by rw [fs_ug, if_pos ⟨rfl, rfl⟩], Or.inl rfl⟩
        · obtain ⟨u1, u2⟩ := q2.2 t ht
          rw [fr 53 t (by omega) (by omega), fr 10 t (by omega) (by omega)]
          refine ⟨u1, ?_⟩
          rcases u2 with u2 | ⟨z', x1, x2, x3⟩
          · exact Or.inl u2
          · refine Or.inr ⟨z', x1, x2, fun i hi => ?_⟩
            rw [fr 52 _ (by omega) (by omega), fr (38 + t) i (by omega) (by omega), x3 i hi]
      · exact RT_fr (fun k j q => fr k j (by omega) (by omega)) q3
      · exact RK_fr (fun k j q => fr k j (by omega) (by omega)) q4
      · exact RD_fr (fun k j q => fr k j (by omega) (by omega)) q5
      · exact RP_fr (fun k j q => fr k j (by omega) (by omega)) q6
  · obtain ⟨y1, y2⟩ := isRow_n hrow
    have F1 : F_X3_tear a1 σ = some (-1, σ) := by
      unfold F_X3_tear
      rw [if_pos y1]
    have F2 : F_X4_tear a1 σ = some (-1, σ) := by
      unfold F_X4_tear
      rw [if_pos y2]
    exact ⟨-1, σ, μ, σ, μ, m_X3_tear _ σ μ _ F1, m_X4_tear _ _ μ _ F2, hr⟩

