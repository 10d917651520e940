/-! mean -/
def sL (c : Nat → Int32) : Nat → Int64
  | 0 => 0
  | i + 1 => sL c i + (c i).toInt64
theorem sL_congr {c c' : Nat → Int32} : ∀ {n : Nat}, (∀ i, i < n → c i = c' i) → sL c n = sL c' n
  | 0, _ => rfl
  | n + 1, h => by
    show sL c n + (c n).toInt64 = sL c' n + (c' n).toInt64
    rw [sL_congr (fun i hi => h i (by omega)), h n (by omega)]
theorem c_sum {r z : Nat} (hr : r < 6) (hz : z ≤ 40) {σ : fsS} (h : σ 10 r = nI z) : F_X2_sum 1 (nI r) σ = some (sL (σ (38 + r)) z) := by
  have c2 : fs_in (nI r) 6 := vp_in_nI hr (by omega)
  have c3 : (nI r).toNatClampNeg = r := nI_clamp (by omega)
  obtain ⟨o, h1, h2⟩ := fs_loop (fun f (x : Int64 × Int32) => L_X2_sum_5 1 f (nI r) x.1 x.2 σ) (fun i x => x.2 = nI i ∧ x.1 = sL (σ (38 + r)) i) (fun o => o = sL (σ (38 + r)) z) z (by
    rintro f i ⟨a, y⟩ hi ⟨hy, ha⟩
    dsimp only at hy ha ⊢
    subst hy ha
    left
    have d1 : ¬ nI z ≤ nI i := nI_ge hi (by omega)
    have d2 : fs_in (nI i) (fs_len (38 + r)) := by rw [row_len r hr]; exact vp_in_nI (by omega) (by omega)
    have d3 : (nI i).toNatClampNeg = i := nI_clamp (by omega)
    refine ⟨(sL (σ (38 + r)) (i + 1), nI (i + 1)), ⟨rfl, rfl⟩, ?_⟩
    show L_X2_sum_5 1 (f + 1) (nI r) _ (nI i) σ = L_X2_sum_5 1 f (nI r) (sL (σ (38 + r)) i + (σ (38 + r) i).toInt64) (nI (i + 1)) σ
    simp only [L_X2_sum_5, show fs_len (9 + 1) = 6 from rfl, show fs_rb (34 + 1) = (38, 6) from rfl, fs_gp c2, c3, show (9 + 1 : Nat) = 10 from rfl, h, if_neg d1, fs_gp d2, d3, nI_1]) (by
    rintro f ⟨a, y⟩ ⟨hy, ha⟩
    dsimp only at hy ha ⊢
    subst hy ha
    refine ⟨_, ?_, rfl⟩
    simp only [L_X2_sum_5, show fs_len (9 + 1) = 6 from rfl, fs_gp c2, c3, show (9 + 1 : Nat) = 10 from rfl, h, if_pos (nI_le (Nat.le_refl z) (by omega))]) fs_fu 0 (0, 0) (Nat.zero_le _) (fs_fub _ (by omega)) ⟨rfl, rfl⟩
  unfold F_X2_sum
  dsimp only at h1
  rw [h1, h2]
  rfl
theorem m_sum {r z : Nat} (hr : r < 6) (hz : z ≤ 40) {σ : fsS} (h : σ 53 r = nI z) {c : Nat → Int32} (hc : ∀ i, i < z → σ 52 (40 * r + i) = c i) : L_X4_mean_44 fs_fu (nI r) 0 0 σ = some (sL c z) := by
  have c2 : fs_in (nI r) 6 := vp_in_nI hr (by omega)
  have c3 : (nI r).toNatClampNeg = r := nI_clamp (by omega)
  obtain ⟨o, h1, h2⟩ := fs_loop (fun f (x : Int64 × Int32) => L_X4_mean_44 f (nI r) x.1 x.2 σ) (fun i x => x.2 = nI i ∧ x.1 = sL c i) (fun o => o = sL c z) z (by
    rintro f i ⟨a, y⟩ hi ⟨hy, ha⟩
    dsimp only at hy ha ⊢
    subst hy ha
    left
    have d1 : ¬ nI z ≤ nI i := nI_ge hi (by omega)
    have d2 : fs_in (nI (40 * r + i)) 240 := vp_in_nI (by omega) (by omega)
    have d3 : (nI (40 * r + i)).toNatClampNeg = 40 * r + i := nI_clamp (by omega)
    refine ⟨(sL c (i + 1), nI (i + 1)), ⟨rfl, rfl⟩, ?_⟩
    show L_X4_mean_44 (f + 1) (nI r) _ (nI i) σ = L_X4_mean_44 f (nI r) (sL c i + (c i).toInt64) (nI (i + 1)) σ
    simp only [L_X4_mean_44, fs_gp c2, c3, h, if_neg d1, mi_row, fs_gp d2, d3, nI_1, hc i hi]) (by
    rintro f ⟨a, y⟩ ⟨hy, ha⟩
    dsimp only at hy ha ⊢
    subst hy ha
    refine ⟨_, ?_, rfl⟩
    simp only [L_X4_mean_44, fs_gp c2, c3, h, if_pos (nI_le (Nat.le_refl z) (by omega))]) fs_fu 0 (0, 0) (Nat.zero_le _) (fs_fub _ (by omega)) ⟨rfl, rfl⟩
  dsimp only at h1
  rw [h1, h2]
theorem l0 {z : Nat} (h0 : 0 < z) (h : z < 2 ^ 31) : ¬ (nI z).toInt64 = 0 := fun e => by
  have := congrArg Int64.toInt e
  rw [i64, nI_toInt h, Z0] at this
  omega
theorem e_mean : ec_mean Rel := by
  intro a1 σ μ hr
  by_cases hrow : 0 ≤ a1.toInt ∧ a1.toInt < 6
  · obtain ⟨r, hr6, rfl⟩ := ix (n := 6) (by decide) hrow.1 hrow.2
    obtain ⟨y1, y2⟩ := isRow_y hr6
    have y1' : ¬ F_X3_isRow (nI r) = 0 := by rw [y1]; exact i10
    have y2' : ¬ F_X4_isRow (nI r) = 0 := by rw [y2]; exact i10
    have c2 : fs_in (nI r) 6 := vp_in_nI hr6 (by omega)
    have c3 : (nI r).toNatClampNeg = r := nI_clamp (by omega)
    obtain ⟨n, d, q1, q2, q3, q4, q5, q6⟩ := id hr
    obtain ⟨w1, w2⟩ := q2.2 r hr6
    rcases w2 with w2 | ⟨z, v1, v2, v3⟩
    · have F1 : F_X3_mean (nI r) σ = some (-3, rf 1 σ) := by
        unfold F_X3_mean
        simp only [if_neg y1', has_g 1 6 rfl (by decide) r hr6, if_pos (show σ (9 + 1) r = -1 from w2), Option.bind_some, rfu1, ↓reduceIte]
        all_goals rfl
      have F2 : F_X4_mean (nI r) (rf 1 σ) = some (-3, mf 1 (rf 1 σ)) := by
        have u : rf 1 σ 53 r = -1 := by unfold rf; simp [fs_ug, w1, w2]
        unfold F_X4_mean
        simp only [if_neg y2', fs_gp c2, c3, u, if_neg nzn, mfu1, ↓reduceIte]
        all_goals rfl
      exact ⟨-3, rf 1 σ, μ, mf 1 (rf 1 σ), μ, m_X3_mean _ σ μ _ F1, m_X4_mean _ _ μ _ F2, Rel_rf hr 1 (by decide) (by decide)⟩
    · by_cases hz0 : z = 0
      · subst hz0
        have F1 : F_X3_mean (nI r) σ = some (-3, rf 4 σ) := by
          unfold F_X3_mean
          simp only [if_neg y1', has_g 1 6 rfl (by decide) r hr6, show σ (9 + 1) r = nI 0 from v2, if_neg (n1 0 (by omega)), Option.bind_some, if_neg i10, fs_gp c2, c3, v2, if_neg (show ¬ (0 : Int32) < nI 0 by decide), rfu4, ↓reduceIte]
          all_goals rfl
        have F2 : F_X4_mean (nI r) (rf 4 σ) = some (-3, mf 4 (rf 4 σ)) := by
          have u : rf 4 σ 53 r = nI 0 := by unfold rf; simp [fs_ug, w1, v2]
          unfold F_X4_mean
          simp only [if_neg y2', fs_gp c2, c3, u, if_pos (nz 0 (by omega)), if_pos nI_0, mfu4, ↓reduceIte]
          all_goals rfl
        exact ⟨-3, rf 4 σ, μ, mf 4 (rf 4 σ), μ, m_X3_mean _ σ μ _ F1, m_X4_mean _ _ μ _ F2, Rel_rf hr 4 (by decide) (by decide)⟩
      · have hp : (0 : Int32) < nI z := nI_lt (a := 0) (by omega) (by omega)
        obtain ⟨w, hw⟩ : ∃ w, (sL (σ (38 + r)) z / (nI z).toInt64).toInt32 = w := ⟨_, rfl⟩
        have F1 : F_X3_mean (nI r) σ = some (1, fs_u σ 0 8 w) := by
          unfold F_X3_mean
          simp only [if_neg y1', has_g 1 6 rfl (by decide) r hr6, show σ (9 + 1) r = nI z from v2, if_neg (n1 z (by omega)), Option.bind_some, if_neg i10, fs_gp c2, c3, v2, if_pos hp, c_sum hr6 v1 v2, fs_gp (l0 (z := z) (by omega) (by omega)), hw, ↓reduceIte]
          rfl
        have F2 : F_X4_mean (nI r) (fs_u σ 0 8 w) = some (1, fs_u (fs_u σ 0 8 w) 51 4 w) := by
          have u : fs_u σ 0 8 w 53 r = nI z := by rw [fs_ug, if_neg (by omega), w1, v2]
          have u2 := m_sum hr6 v1 u (c := σ (38 + r)) (fun i hi => by rw [fs_ug, if_neg (by omega), v3 i hi])
          unfold F_X4_mean
          simp only [if_neg y2', fs_gp c2, c3, u, if_pos (nz z (by omega)), if_neg (nI_ne0 (n := z) (by omega) (by omega)), u2, Option.bind_some, fs_gp (l0 (z := z) (by omega) (by omega)), hw, ↓reduceIte]
          rfl
        refine ⟨1, fs_u σ 0 8 w, μ, fs_u (fs_u σ 0 8 w) 51 4 w, μ, m_X3_mean _ σ μ _ F1, m_X4_mean _ _ μ _ F2, Rel_ask hr w (fun k j _ p1 p2 => ?_) ?_ ?_⟩
        · rw [fs_ug, if_neg p1, fs_ug, if_neg p2]
        · rw [fs_ug, if_neg (by omega), fs_ug, if_pos ⟨rfl, rfl⟩]
        · rw [fs_ug, if_pos ⟨rfl, rfl⟩]
  · obtain ⟨y1, y2⟩ := isRow_n hrow
    have F1 : F_X3_mean a1 σ = some (-1, σ) := by
      unfold F_X3_mean
      rw [if_pos y1]
    have F2 : F_X4_mean a1 σ = some (-1, σ) := by
      unfold F_X4_mean
      rw [if_pos y2]
    exact ⟨-1, σ, μ, σ, μ, m_X3_mean _ σ μ _ F1, m_X4_mean _ _ μ _ F2, hr⟩
