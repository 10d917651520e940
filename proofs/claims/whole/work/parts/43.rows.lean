def rf (f : Nat) (σ : fsS) : fsS := fs_u (fs_u σ 0 7 (nI f)) 9 f (σ 9 f + 1)
def mf (f : Nat) (σ : fsS) : fsS := fs_u (fs_u σ 51 7 (nI f)) 56 f (σ 56 f + 1)
theorem rfu (f : Nat) (h : f < 6) {x : Int32} (hx : x = nI f) (σ : fsS) : F_X3_refuse x σ = some (-3, rf f σ) := by
  subst hx
  have e2 : fs_in (nI f) 6 := vp_in_nI h (by decide)
  have e3 : (nI f).toNatClampNeg = f := nI_clamp (by omega)
  simp only [F_X3_refuse, fs_gp e2, e3, rf]
theorem mfu (f : Nat) (h : f < 6) {x : Int32} (hx : x = nI f) (σ : fsS) : F_X4_found x σ = some (-3, mf f σ) := by
  subst hx
  have e2 : fs_in (nI f) 6 := vp_in_nI h (by decide)
  have e3 : (nI f).toNatClampNeg = f := nI_clamp (by omega)
  simp only [F_X4_found, fs_gp e2, e3, mf]
theorem Rel_A {σ σ' : fsS} {μ μ' : fsL} (hr : Rel σ μ) (h : ∀ k j, ¬ scr k j → ¬ ((k = 51 ∧ (j = 4 ∨ j = 7)) ∨ (k = 0 ∧ (j = 7 ∨ j = 8)) ∨ k = 56 ∨ k = 9) → σ' k j = σ k j) (hA : RA σ' μ') : Rel σ' μ' := by
  obtain ⟨n, d, h1, h2, h3, h4, h5, h6⟩ := hr
  exact ⟨n, d, hA, RR_fr (fun k j q => h k j (by unfold scr; omega) (by omega)) h2, RT_fr (fun k j q => h k j (by unfold scr; omega) (by omega)) h3, RK_fr (fun k j q => h k j (by unfold scr; omega) (by omega)) h4, RD_fr (fun k j q => h k j (by unfold scr; omega) (by omega)) h5, RP_fr (fun k j q => h k j (by unfold scr; omega) (by omega)) h6⟩
theorem Rel_ask {σ σ' : fsS} {μ : fsL} (hr : Rel σ μ) (v : Int32) (h : ∀ k j, ¬ scr k j → ¬ (k = 51 ∧ j = 4) → ¬ (k = 0 ∧ j = 8) → σ' k j = σ k j) (h1 : σ' 0 8 = v) (h2 : σ' 51 4 = v) : Rel σ' μ := by
  refine Rel_A hr (fun k j q1 q2 => h k j q1 (by omega) (by omega)) ?_
  obtain ⟨n, d, ⟨a1, a2, a3, a4, a5⟩, -⟩ := hr
  refine ⟨by rw [h1, h2], a2, a3, ?_, fun f q1 q2 => ?_⟩
  · rw [h 51 7 (by unfold scr; omega) (by omega) (by omega), h 0 7 (by unfold scr; omega) (by omega) (by omega), a4]
  · rw [h 56 f (by unfold scr; omega) (by omega) (by omega), h 9 f (by unfold scr; omega) (by omega) (by omega), a5 f q1 q2]
theorem Rel_rf {σ : fsS} {μ : fsL} (hr : Rel σ μ) (f : Nat) (f1 : 1 ≤ f) (f5 : f ≤ 5) : Rel (mf f (rf f σ)) μ := by
  refine Rel_A hr (fun k j q1 q2 => ?_) ?_
  · unfold mf rf
    rw [fs_ug, if_neg (by omega), fs_ug, if_neg (by omega), fs_ug, if_neg (by omega), fs_ug, if_neg (by omega)]
  · obtain ⟨n, d, ⟨a1, a2, a3, a4, a5⟩, -⟩ := hr
    refine ⟨?_, a2, a3, ?_, fun g q1 q2 => ?_⟩
    · unfold mf rf
      simp [fs_ug, a1]
    · unfold mf rf
      simp [fs_ug]
    · unfold mf rf
      by_cases h : g = f
      · subst h
        simp [fs_ug, a5 g q1 q2]
      · simp [fs_ug, h, a5 g q1 q2]
theorem z0 : (0 : Int32).toInt = 0 := rfl
theorem z4 : (4 : Int32).toInt = 4 := rfl
theorem z6 : (6 : Int32).toInt = 6 := rfl
theorem z40 : (40 : Int32).toInt = 40 := rfl
theorem z60 : (60 : Int32).toInt = 60 := rfl
theorem Z0 : (0 : Int64).toInt = 0 := rfl

theorem isRow_n {x : Int32} (h : ¬ (0 ≤ x.toInt ∧ x.toInt < 6)) : F_X3_isRow x = 0 ∧ F_X4_isRow x = 0 := by
  constructor
  · unfold F_X3_isRow
    by_cases h1 : x < 0
    · rw [if_pos h1]
    · rw [if_neg h1, if_pos]
      rw [i_lt, z0] at h1
      rw [i_le, z6]
      omega
  · exact in_n (by rw [Z0, show (5 : Int64).toInt = 5 from rfl]; omega)
theorem isRow_y {r : Nat} (h : r < 6) : F_X3_isRow (nI r) = 1 ∧ F_X4_isRow (nI r) = 1 := by
  have e : (nI r).toInt = r := nI_toInt (by omega)
  constructor
  · unfold F_X3_isRow
    rw [if_neg (by rw [i_lt, z0, e]; omega), if_neg (by rw [i_le, z6, e]; omega)]
  · exact in_y (by rw [Z0, show (5 : Int64).toInt = 5 from rfl, e]; omega)

theorem isText_n {x : Int32} (h : ¬ (0 ≤ x.toInt ∧ x.toInt < 4)) : F_X3_isText x = 0 ∧ F_X4_isText x = 0 := by
  constructor
  · unfold F_X3_isText
    by_cases h1 : x < 0
    · rw [if_pos h1]
    · rw [if_neg h1, if_pos]
      rw [i_lt, z0] at h1
      rw [i_le, z4]
      omega
  · exact in_n (by rw [Z0, show (3 : Int64).toInt = 3 from rfl]; omega)
theorem isText_y {r : Nat} (h : r < 4) : F_X3_isText (nI r) = 1 ∧ F_X4_isText (nI r) = 1 := by
  have e : (nI r).toInt = r := nI_toInt (by omega)
  constructor
  · unfold F_X3_isText
    rw [if_neg (by rw [i_lt, z0, e]; omega), if_neg (by rw [i_le, z4, e]; omega)]
  · exact in_y (by rw [Z0, show (3 : Int64).toInt = 3 from rfl, e]; omega)

set_option maxHeartbeats 4000000 in
theorem lie_g (o b N cap : Nat) (hb : fs_rb (34 + o) = (b, N)) (hl : fs_len (9 + o) = N) (hc : ∀ r, r < N → fs_len (b + r) = cap) (hN : N < 100) (hcap : cap < 100) (hbo : o < b ∧ 9 + o < b) (r z : Nat) (hr : r < N) (hz : z ≤ cap) (σ : fsS) (e : Int32) (he : σ o 2 = e) : ∃ σ', F_X2_lie o (nI r) (nI z) σ = some σ' ∧ (σ' (9 + o) r = nI z ∧ (∀ i, i < z → σ' (b + r) i = e) ∧ ∀ k j, ¬ k = b + r → ¬ (k = 9 + o ∧ j = r) → σ' k j = σ k j) := by
  have e1 : fs_in (nI r) (fs_len (9 + o)) := by rw [hl]; exact vp_in_nI hr (by omega)
  have e2 : (nI r).toNatClampNeg = r := nI_clamp (by omega)
  have e3 : fs_in (nI r) (fs_rb (34 + o)).2 := by rw [hb]; exact vp_in_nI hr (by omega)
  have e4 : (fs_rb (34 + o)).1 = b := by rw [hb]
  obtain ⟨σ', h1, h2, h3⟩ := fs_loop (fun f (x : Int32 × fsS) => L_X2_lie_9 o f (nI r) (nI z) x.1 x.2) (fun i x => x.1 = nI i ∧ (∀ j, j < i → x.2 (b + r) j = e) ∧ ∀ k j, ¬ k = b + r → x.2 k j = fs_u σ (9 + o) r (nI z) k j) (fun σ' => (∀ j, j < z → σ' (b + r) j = e) ∧ ∀ k j, ¬ k = b + r → σ' k j = fs_u σ (9 + o) r (nI z) k j) z (by
    rintro f i ⟨y, τ⟩ hi ⟨hy, h1, h2⟩
    dsimp only at hy h1 h2 ⊢
    subst hy
    left
    have c1 : ¬ nI z ≤ nI i := nI_ge hi (by omega)
    have c2 : fs_in (nI i) (fs_len (b + r)) := by rw [hc r hr]; exact vp_in_nI (by omega) (by omega)
    have c3 : (nI i).toNatClampNeg = i := nI_clamp (by omega)
    have c4 : τ o 2 = e := by rw [h2 o 2 (by omega), fs_ug, if_neg (by omega), he]
    refine ⟨(nI i + 1, fs_u τ (b + r) i e), ⟨nI_1 i, fun j hj => ?_, fun k j hk => ?_⟩, ?_⟩
    · show fs_u _ _ _ _ _ _ = _
      rw [fs_ug]
      by_cases h : j = i
      · rw [if_pos ⟨rfl, h⟩]
      · rw [if_neg (fun q => h q.2), h1 j (by omega)]
    · show fs_u _ _ _ _ _ _ = _
      rw [fs_ug, if_neg (fun q => hk q.1), h2 k j hk]
    · simp only [L_X2_lie_9, if_neg c1, fs_gp e3, e4, e2, fs_gp c2, c3, c4]) (by
    rintro f ⟨y, τ⟩ ⟨hy, h1, h2⟩
    dsimp only at hy h1 h2 ⊢
    subst hy
    refine ⟨τ, ?_, h1, h2⟩
    simp only [L_X2_lie_9, if_pos (nI_le (Nat.le_refl z) (by omega))]) fs_fu 0 (0, fs_u σ (9 + o) r (nI z)) (Nat.zero_le _) (fs_fub _ (by omega)) ⟨rfl, fun j h => by omega, fun _ _ _ => rfl⟩
  refine ⟨σ', ?_, ?_, h2, fun k j g1 g2 => ?_⟩
  · simp only [F_X2_lie, fs_gp e1, e2]
    dsimp only at h1
    rw [h1]
    rfl
  · rw [h3 _ _ (by omega), fs_ug, if_pos ⟨rfl, rfl⟩]
  · rw [h3 k j g1, fs_ug, if_neg g2]
theorem row_len : ∀ r, r < 6 → fs_len (38 + r) = 40 := by decide
theorem text_len : ∀ r, r < 4 → fs_len (44 + r) = 60 := by decide

theorem mi_row (r i : Nat) : ((40 : Int32) * nI r) + nI i = nI (40 * r + i) := by
  rw [show (40 : Int32) = nI 40 from rfl, pk_mul, nI_add]
set_option maxHeartbeats 4000000 in
theorem ml_row (r : Nat) (hr : r < 6) (y2 : Int32) (σ : fsS) : ∃ σ', L_X4_row_34 fs_fu (nI r) y2 0 σ = some σ' ∧ ((∀ i, i < 40 → σ' 52 (40 * r + i) = 0) ∧ ∀ k j, ¬ (k = 52 ∧ 40 * r ≤ j ∧ j < 40 * r + 40) → σ' k j = σ k j) := by
  refine fs_loop (fun f (x : Int32 × fsS) => L_X4_row_34 f (nI r) y2 x.1 x.2) (fun i x => x.1 = nI i ∧ (∀ j, j < i → x.2 52 (40 * r + j) = 0) ∧ ∀ k j, ¬ (k = 52 ∧ 40 * r ≤ j ∧ j < 40 * r + 40) → x.2 k j = σ k j) (fun σ' => (∀ i, i < 40 → σ' 52 (40 * r + i) = 0) ∧ ∀ k j, ¬ (k = 52 ∧ 40 * r ≤ j ∧ j < 40 * r + 40) → σ' k j = σ k j) 40 ?_ ?_ fs_fu 0 (0, σ) (Nat.zero_le _) (fs_fub _ (by omega)) ⟨rfl, fun j h => by omega, fun _ _ _ => rfl⟩
  · rintro f i ⟨y, τ⟩ hi ⟨hy, h1, h2⟩
    dsimp only at hy h1 h2 ⊢
    subst hy
    left
    have c1 : ¬ (40 : Int32) ≤ nI i := nI_ge (b := 40) hi (by omega)
    have c2 : fs_in (nI (40 * r + i)) 240 := vp_in_nI (by omega) (by omega)
    have c3 : (nI (40 * r + i)).toNatClampNeg = 40 * r + i := nI_clamp (by omega)
    refine ⟨(nI i + 1, fs_u τ 52 (40 * r + i) 0), ⟨nI_1 i, fun j hj => ?_, fun k j hk => ?_⟩, ?_⟩
    · dsimp only
      rw [fs_ug]
      by_cases h : j = i
      · rw [if_pos ⟨rfl, by rw [h]⟩]
      · rw [if_neg (by omega), h1 j (by omega)]
    · dsimp only
      rw [fs_ug, if_neg (by omega), h2 k j hk]
    · simp only [L_X4_row_34, if_neg c1, mi_row, fs_gp c2, c3]
  · rintro f ⟨y, τ⟩ ⟨hy, h1, h2⟩
    dsimp only at hy h1 h2 ⊢
    subst hy
    refine ⟨τ, ?_, h1, h2⟩
    simp only [L_X4_row_34, if_pos (show (40 : Int32) ≤ nI 40 from by decide)]
set_option maxHeartbeats 4000000 in
theorem e_row : ec_row Rel := by
  intro a1 a2 σ μ hr
  by_cases hrow : 0 ≤ a1.toInt ∧ a1.toInt < 6
  · obtain ⟨r, hr6, rfl⟩ := ix (n := 6) (by decide) hrow.1 hrow.2
    obtain ⟨y1, y2⟩ := isRow_y hr6
    have y1' : ¬ F_X3_isRow (nI r) = 0 := by rw [y1]; exact i10
    have y2' : ¬ F_X4_isRow (nI r) = 0 := by rw [y2]; exact i10
    by_cases h40 : a2 ≤ (40 : Int32)
    · by_cases h0 : 0 ≤ a2
      · obtain ⟨z, hz, rfl⟩ : ∃ z, z < 40 + 1 ∧ a2 = nI z := ix (by decide) (by rw [i_le, z0] at h0; omega) (by rw [i_le, z40] at h40; omega)
        obtain ⟨n, d, q1, q2, q3, q4, q5, q6⟩ := hr
        obtain ⟨σ1, f1, f2, f3, f4⟩ := lie_g 1 38 6 40 rfl rfl row_len (by decide) (by decide) (by decide) r z hr6 (by omega) σ 0 q2.1
        obtain ⟨σ2, g1, g2, g3⟩ := ml_row r hr6 (nI z) (fs_u σ1 53 r (nI z))
        have c2 : fs_in (nI r) 6 := vp_in_nI hr6 (by omega)
        have c3 : (nI r).toNatClampNeg = r := nI_clamp (by omega)
        have F1 : F_X3_row (nI r) (nI z) σ = some (nI z, σ1) := by
          unfold F_X3_row
          rw [if_neg y1', if_pos h40, if_pos h0, f1]
          rfl
        have F2 : F_X4_row (nI r) (nI z) σ1 = some (nI z, σ2) := by
          unfold F_X4_row
          rw [if_neg y2', if_pos h40, if_pos h0, fs_gp c2, c3, g1]
          rfl
        have fr : ∀ k j, ¬ k = 38 + r → ¬ (k = 10 ∧ j = r) → ¬ (k = 52 ∧ 40 * r ≤ j ∧ j < 40 * r + 40) → ¬ (k = 53 ∧ j = r) → σ2 k j = σ k j := fun k j w1 w2 w3 w4 => by
          rw [g3 k j w3, fs_ug, if_neg w4, f4 k j w1 (by omega)]
        refine ⟨nI z, σ1, μ, σ2, μ, m_X3_row _ _ σ μ _ F1, m_X4_row _ _ σ1 μ _ F2, n, d, ?_, ?_, ?_, ?_, ?_, ?_⟩
        · exact RA_fr (fun k j q => fr k j (by omega) (by omega) (by omega) (by omega)) q1
        · refine ⟨by rw [fr _ _ (by omega) (by omega) (by omega) (by omega), q2.1], fun t ht => ?_⟩
          by_cases htr : t = r
          · subst htr
            have s1 : σ2 10 t = nI z := by rw [g3 _ _ (by omega), fs_ug, if_neg (by omega)]; exact f2
            refine ⟨by rw [g3 _ _ (by omega), fs_ug, if_pos ⟨rfl, rfl⟩, s1], Or.inr ⟨z, by omega, s1, fun i hi => ?_⟩⟩
            rw [g2 i (by omega), g3 _ _ (by omega), fs_ug, if_neg (by omega), f3 i hi]
          · obtain ⟨w1, w2⟩ := q2.2 t ht
            rw [fr 53 t (by omega) (by omega) (by omega) (by omega), fr 10 t (by omega) (by omega) (by omega) (by omega)]
            refine ⟨w1, ?_⟩
            rcases w2 with w2 | ⟨z', v1, v2, v3⟩
            · exact Or.inl w2
            · refine Or.inr ⟨z', v1, v2, fun i hi => ?_⟩
              rw [fr 52 _ (by omega) (by omega) (by omega) (by omega), fr (38 + t) i (by omega) (by omega) (by omega) (by omega), v3 i hi]
        · exact RT_fr (fun k j q => fr k j (by omega) (by omega) (by omega) (by omega)) q3
        · exact RK_fr (fun k j q => fr k j (by omega) (by omega) (by omega) (by omega)) q4
        · exact RD_fr (fun k j q => fr k j (by omega) (by omega) (by omega) (by omega)) q5
        · exact RP_fr (fun k j q => fr k j (by omega) (by omega) (by omega) (by omega)) q6
      · have F1 : F_X3_row (nI r) a2 σ = some (-3, rf 5 σ) := by
          unfold F_X3_row
          rw [if_neg y1', if_pos h40, if_neg h0, rfu 5 (by decide) (by decide)]
          rfl
        have F2 : F_X4_row (nI r) a2 (rf 5 σ) = some (-3, mf 5 (rf 5 σ)) := by
          unfold F_X4_row
          rw [if_neg y2', if_pos h40, if_neg h0, mfu 5 (by decide) (by decide)]
          rfl
        exact ⟨-3, rf 5 σ, μ, mf 5 (rf 5 σ), μ, m_X3_row _ _ σ μ _ F1, m_X4_row _ _ _ μ _ F2, Rel_rf hr 5 (by decide) (by decide)⟩
    · have F1 : F_X3_row (nI r) a2 σ = some (-1, σ) := by
        unfold F_X3_row
        rw [if_neg y1', if_neg h40]
      have F2 : F_X4_row (nI r) a2 σ = some (-1, σ) := by
        unfold F_X4_row
        rw [if_neg y2', if_neg h40]
      exact ⟨-1, σ, μ, σ, μ, m_X3_row _ _ σ μ _ F1, m_X4_row _ _ _ μ _ F2, hr⟩
  · obtain ⟨y1, y2⟩ := isRow_n hrow
    have F1 : F_X3_row a1 a2 σ = some (-1, σ) := by
      unfold F_X3_row
      rw [if_pos y1]
    have F2 : F_X4_row a1 a2 σ = some (-1, σ) := by
      unfold F_X4_row
      rw [if_pos y2]
    exact ⟨-1, σ, μ, σ, μ, m_X3_row _ _ σ μ _ F1, m_X4_row _ _ _ μ _ F2, hr⟩

theorem mi_text (r i : Nat) : ((60 : Int32) * nI r) + nI i = nI (60 * r + i) := by
  rw [show (60 : Int32) = nI 60 from rfl, pk_mul, nI_add]
set_option maxHeartbeats 4000000 in
theorem ml_text (r : Nat) (hr : r < 4) (y2 : Int32) (σ : fsS) : ∃ σ', L_X4_text_34 fs_fu (nI r) y2 0 σ = some σ' ∧ ((∀ i, i < 60 → σ' 54 (60 * r + i) = 32) ∧ ∀ k j, ¬ (k = 54 ∧ 60 * r ≤ j ∧ j < 60 * r + 60) → σ' k j = σ k j) := by
  refine fs_loop (fun f (x : Int32 × fsS) => L_X4_text_34 f (nI r) y2 x.1 x.2) (fun i x => x.1 = nI i ∧ (∀ j, j < i → x.2 54 (60 * r + j) = 32) ∧ ∀ k j, ¬ (k = 54 ∧ 60 * r ≤ j ∧ j < 60 * r + 60) → x.2 k j = σ k j) (fun σ' => (∀ i, i < 60 → σ' 54 (60 * r + i) = 32) ∧ ∀ k j, ¬ (k = 54 ∧ 60 * r ≤ j ∧ j < 60 * r + 60) → σ' k j = σ k j) 60 ?_ ?_ fs_fu 0 (0, σ) (Nat.zero_le _) (fs_fub _ (by omega)) ⟨rfl, fun j h => by omega, fun _ _ _ => rfl⟩
  · rintro f i ⟨y, τ⟩ hi ⟨hy, h1, h2⟩
    dsimp only at hy h1 h2 ⊢
    subst hy
    left
    have c1 : ¬ (60 : Int32) ≤ nI i := nI_ge (b := 60) hi (by omega)
    have c2 : fs_in (nI (60 * r + i)) 240 := vp_in_nI (by omega) (by omega)
    have c3 : (nI (60 * r + i)).toNatClampNeg = 60 * r + i := nI_clamp (by omega)
    refine ⟨(nI i + 1, fs_u τ 54 (60 * r + i) 32), ⟨nI_1 i, fun j hj => ?_, fun k j hk => ?_⟩, ?_⟩
    · dsimp only
      rw [fs_ug]
      by_cases h : j = i
      · rw [if_pos ⟨rfl, by rw [h]⟩]
      · rw [if_neg (by omega), h1 j (by omega)]
    · dsimp only
      rw [fs_ug, if_neg (by omega), h2 k j hk]
    · simp only [L_X4_text_34, if_neg c1, mi_text, fs_gp c2, c3]
  · rintro f ⟨y, τ⟩ ⟨hy, h1, h2⟩
    dsimp only at hy h1 h2 ⊢
    subst hy
    refine ⟨τ, ?_, h1, h2⟩
    simp only [L_X4_text_34, if_pos (show (60 : Int32) ≤ nI 60 from by decide)]
set_option maxHeartbeats 4000000 in
theorem e_text : ec_text Rel := by
  intro a1 a2 σ μ hr
  by_cases hrow : 0 ≤ a1.toInt ∧ a1.toInt < 4
  · obtain ⟨r, hr6, rfl⟩ := ix (n := 4) (by decide) hrow.1 hrow.2
    obtain ⟨y1, y2⟩ := isText_y hr6
    have y1' : ¬ F_X3_isText (nI r) = 0 := by rw [y1]; exact i10
    have y2' : ¬ F_X4_isText (nI r) = 0 := by rw [y2]; exact i10
    by_cases h40 : a2 ≤ (60 : Int32)
    · by_cases h0 : 0 ≤ a2
      · obtain ⟨z, hz, rfl⟩ : ∃ z, z < 60 + 1 ∧ a2 = nI z := ix (by decide) (by rw [i_le, z0] at h0; omega) (by rw [i_le, z60] at h40; omega)
        obtain ⟨n, d, q1, q2, q3, q4, q5, q6⟩ := hr
        obtain ⟨σ1, f1, f2, f3, f4⟩ := lie_g 2 44 4 60 rfl rfl text_len (by decide) (by decide) (by decide) r z hr6 (by omega) σ 32 q3.1
        obtain ⟨σ2, g1, g2, g3⟩ := ml_text r hr6 (nI z) (fs_u σ1 55 r (nI z))
        have c2 : fs_in (nI r) 4 := vp_in_nI hr6 (by omega)
        have c3 : (nI r).toNatClampNeg = r := nI_clamp (by omega)
        have F1 : F_X3_text (nI r) (nI z) σ = some (nI z, σ1) := by
          unfold F_X3_text
          rw [if_neg y1', if_pos h40, if_pos h0, f1]
          rfl
        have F2 : F_X4_text (nI r) (nI z) σ1 = some (nI z, σ2) := by
          unfold F_X4_text
          rw [if_neg y2', if_pos h40, if_pos h0, fs_gp c2, c3, g1]
          rfl
        have fr : ∀ k j, ¬ k = 44 + r → ¬ (k = 11 ∧ j = r) → ¬ (k = 54 ∧ 60 * r ≤ j ∧ j < 60 * r + 60) → ¬ (k = 55 ∧ j = r) → σ2 k j = σ k j := fun k j w1 w2 w3 w4 => by
          rw [g3 k j w3, fs_ug, if_neg w4, f4 k j w1 (by omega)]
        refine ⟨nI z, σ1, μ, σ2, μ, m_X3_text _ _ σ μ _ F1, m_X4_text _ _ σ1 μ _ F2, n, d, ?_, ?_, ?_, ?_, ?_, ?_⟩
        · exact RA_fr (fun k j q => fr k j (by omega) (by omega) (by omega) (by omega)) q1
        · exact RR_fr (fun k j q => fr k j (by omega) (by omega) (by omega) (by omega)) q2
        · refine ⟨by rw [fr _ _ (by omega) (by omega) (by omega) (by omega), q3.1], fun t ht => ?_⟩
          by_cases htr : t = r
          · subst htr
            have s1 : σ2 11 t = nI z := by rw [g3 _ _ (by omega), fs_ug, if_neg (by omega)]; exact f2
            refine ⟨by rw [g3 _ _ (by omega), fs_ug, if_pos ⟨rfl, rfl⟩, s1], Or.inr ⟨z, by omega, s1, fun i hi => ?_⟩⟩
            rw [g2 i (by omega), g3 _ _ (by omega), fs_ug, if_neg (by omega), f3 i hi]
          · obtain ⟨w1, w2⟩ := q3.2 t ht
            rw [fr 55 t (by omega) (by omega) (by omega) (by omega), fr 11 t (by omega) (by omega) (by omega) (by omega)]
            refine ⟨w1, ?_⟩
            rcases w2 with w2 | ⟨z', v1, v2, v3⟩
            · exact Or.inl w2
            · refine Or.inr ⟨z', v1, v2, fun i hi => ?_⟩
              rw [fr 54 _ (by omega) (by omega) (by omega) (by omega), fr (44 + t) i (by omega) (by omega) (by omega) (by omega), v3 i hi]
        · exact RK_fr (fun k j q => fr k j (by omega) (by omega) (by omega) (by omega)) q4
        · exact RD_fr (fun k j q => fr k j (by omega) (by omega) (by omega) (by omega)) q5
        · exact RP_fr (fun k j q => fr k j (by omega) (by omega) (by omega) (by omega)) q6
      · have F1 : F_X3_text (nI r) a2 σ = some (-3, rf 5 σ) := by
          unfold F_X3_text
          rw [if_neg y1', if_pos h40, if_neg h0, rfu 5 (by decide) (by decide)]
          rfl
        have F2 : F_X4_text (nI r) a2 (rf 5 σ) = some (-3, mf 5 (rf 5 σ)) := by
          unfold F_X4_text
          rw [if_neg y2', if_pos h40, if_neg h0, mfu 5 (by decide) (by decide)]
          rfl
        exact ⟨-3, rf 5 σ, μ, mf 5 (rf 5 σ), μ, m_X3_text _ _ σ μ _ F1, m_X4_text _ _ _ μ _ F2, Rel_rf hr 5 (by decide) (by decide)⟩
    · have F1 : F_X3_text (nI r) a2 σ = some (-1, σ) := by
        unfold F_X3_text
        rw [if_neg y1', if_neg h40]
      have F2 : F_X4_text (nI r) a2 σ = some (-1, σ) := by
        unfold F_X4_text
        rw [if_neg y2', if_neg h40]
      exact ⟨-1, σ, μ, σ, μ, m_X3_text _ _ σ μ _ F1, m_X4_text _ _ _ μ _ F2, hr⟩
  · obtain ⟨y1, y2⟩ := isText_n hrow
    have F1 : F_X3_text a1 a2 σ = some (-1, σ) := by
      unfold F_X3_text
      rw [if_pos y1]
    have F2 : F_X4_text a1 a2 σ = some (-1, σ) := by
      unfold F_X4_text
      rw [if_pos y2]
    exact ⟨-1, σ, μ, σ, μ, m_X3_text _ _ σ μ _ F1, m_X4_text _ _ _ μ _ F2, hr⟩

theorem e_asked : ec_asked Rel := by
  intro σ μ hr
  obtain ⟨n, d, q1, q2⟩ := id hr
  have h2 := m_X4_asked σ μ _ rfl
  rw [show F_X4_asked σ = F_X3_asked σ from q1.1] at h2
  exact ⟨F_X3_asked σ, σ, μ, σ, μ, m_X3_asked σ μ _ rfl, h2, hr⟩
theorem e_upper : ec_upper Rel := by
  intro σ μ hr
  obtain ⟨n, d, q1, q2⟩ := id hr
  have h2 := m_X4_upper σ μ _ rfl
  rw [show F_X4_upper μ = F_X3_upper μ from q1.2.1] at h2
  exact ⟨F_X3_upper μ, σ, μ, σ, μ, m_X3_upper σ μ _ rfl, h2, hr⟩
theorem e_lower : ec_lower Rel := by
  intro σ μ hr
  obtain ⟨n, d, q1, q2⟩ := id hr
  have h2 := m_X4_lower σ μ _ rfl
  rw [show F_X4_lower μ = F_X3_lower μ from q1.2.2.1] at h2
  exact ⟨F_X3_lower μ, σ, μ, σ, μ, m_X3_lower σ μ _ rfl, h2, hr⟩
theorem e_finding : ec_finding Rel := by
  intro σ μ hr
  obtain ⟨n, d, q1, q2⟩ := id hr
  have h2 := m_X4_finding σ μ _ rfl
  rw [show F_X4_finding σ = F_X3_finding σ from q1.2.2.2.1] at h2
  exact ⟨F_X3_finding σ, σ, μ, σ, μ, m_X3_finding σ μ _ rfl, h2, hr⟩
theorem e_findings : ec_findings Rel := by
  intro a σ μ hr
  by_cases h : 1 ≤ a.toInt ∧ a.toInt ≤ 5
  · obtain ⟨f, hf, rfl⟩ : ∃ f, f < 6 ∧ a = nI f := ix (by decide) (by omega) (by omega)
    have e : (nI f).toInt = f := nI_toInt (by omega)
    rw [e] at h
    obtain ⟨n, d, q1, q2⟩ := id hr
    have c2 : fs_in (nI f) 6 := vp_in_nI hf (by omega)
    have c3 : (nI f).toNatClampNeg = f := nI_clamp (by omega)
    have F1 : F_X3_findings (nI f) σ = some (σ 9 f) := by
      unfold F_X3_findings
      rw [if_neg (by rw [i_lt, e, show (1 : Int32).toInt = 1 from rfl]; omega), if_pos (by rw [i_le, e, show (5 : Int32).toInt = 5 from rfl]; omega), fs_gp c2, c3]
    have F2 : F_X4_findings (nI f) σ = some (σ 9 f) := by
      unfold F_X4_findings
      rw [in_y (by rw [e, show (1 : Int64).toInt = 1 from rfl, show (5 : Int64).toInt = 5 from rfl]; omega), if_neg i10, fs_gp c2, c3, q1.2.2.2.2 f (by omega) (by omega)]
    exact ⟨σ 9 f, σ, μ, σ, μ, m_X3_findings _ σ μ _ F1, m_X4_findings _ σ μ _ F2, hr⟩
  · have F1 : F_X3_findings a σ = some (-1) := by
      unfold F_X3_findings
      by_cases h1 : a < 1
      · rw [if_pos h1]
      · rw [if_neg h1, if_neg]
        rw [i_lt, show (1 : Int32).toInt = 1 from rfl] at h1
        rw [i_le, show (5 : Int32).toInt = 5 from rfl]
        omega
    have F2 : F_X4_findings a σ = some (-1) := by
      unfold F_X4_findings
      rw [in_n (by rw [show (1 : Int64).toInt = 1 from rfl, show (5 : Int64).toInt = 5 from rfl]; exact h), if_pos rfl]
    exact ⟨-1, σ, μ, σ, μ, m_X3_findings _ σ μ _ F1, m_X4_findings _ σ μ _ F2, hr⟩

