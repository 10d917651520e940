/-! copy -/
theorem mi_rowp (r i p : Nat) : (((40 : Int32) * nI r) + nI i) + nI p = nI (40 * r + i + p) := by
  rw [mi_row, nI_add]
theorem m_cf {r t i j m : Nat} (hr : r < 6) (ht : t < 6) (hi : i + m ≤ 40) (hj : j + m ≤ 40) (hji : j ≤ i) (σ : fsS) : ∃ σ', L_X4_copy_104 fs_fu (nI r) (nI i) (nI t) (nI j) (nI m) 0 σ = some σ' ∧ ∀ k x, σ' k x = if k = 52 ∧ 40 * t + j ≤ x ∧ x < 40 * t + j + m then σ 52 (40 * r + i + (x - (40 * t + j))) else σ k x := by
  refine fs_loop (fun f (x : Int32 × fsS) => L_X4_copy_104 f (nI r) (nI i) (nI t) (nI j) (nI m) x.1 x.2) (fun q y => y.1 = nI q ∧ ∀ k x, y.2 k x = if k = 52 ∧ 40 * t + j ≤ x ∧ x < 40 * t + j + q then σ 52 (40 * r + i + (x - (40 * t + j))) else σ k x) _ m ?_ ?_ fs_fu 0 (0, σ) (Nat.zero_le _) (fs_fub _ (by omega)) ⟨rfl, fun k x => by rw [if_neg (by omega)]⟩
  · rintro f q ⟨y, τ⟩ hq ⟨hy, h1⟩
    dsimp only at hy h1 ⊢
    subst hy
    left
    have d1 : ¬ nI m ≤ nI q := nI_ge hq (by omega)
    have d0 : nI j ≤ nI i := nI_le hji (by omega)
    have d2 : fs_in (nI (40 * r + i + q)) 240 := vp_in_nI (by omega) (by omega)
    have d3 : (nI (40 * r + i + q)).toNatClampNeg = 40 * r + i + q := nI_clamp (by omega)
    have d4 : fs_in (nI (40 * t + j + q)) 240 := vp_in_nI (by omega) (by omega)
    have d5 : (nI (40 * t + j + q)).toNatClampNeg = 40 * t + j + q := nI_clamp (by omega)
    refine ⟨(nI q + 1, fs_u τ 52 (40 * t + j + q) (τ 52 (40 * r + i + q))), ⟨nI_1 q, fun k x => ?_⟩, ?_⟩
    · dsimp only
      rw [fs_ug]
      by_cases hx : k = 52 ∧ x = 40 * t + j + q
      · rw [if_pos hx, if_pos (by omega), h1, if_neg (by omega)]
        congr 1
        omega
      · rw [if_neg hx, h1]
        by_cases hx2 : k = 52 ∧ 40 * t + j ≤ x ∧ x < 40 * t + j + q
        · rw [if_pos hx2, if_pos (by omega)]
        · rw [if_neg hx2, if_neg (by omega)]
    · simp only [L_X4_copy_104, if_neg d1, if_pos d0, mi_rowp, fs_gp d2, d3, fs_gp d4, d5]
  · rintro f ⟨y, τ⟩ ⟨hy, h1⟩
    dsimp only at hy h1 ⊢
    subst hy
    refine ⟨τ, ?_, h1⟩
    simp only [L_X4_copy_104, if_pos (nI_le (Nat.le_refl m) (by omega))]
theorem back_n {m q : Nat} (hq : q < m) : (nI m - (1 : Int32)) - nI q = nI (m - 1 - q) := by
  obtain ⟨e, rfl⟩ : ∃ e, m = e + 1 + q := ⟨m - 1 - q, by omega⟩
  rw [show e + 1 + q - 1 - q = e by omega, show e + 1 + q = (e + q) + 1 by omega, nI_pred, ← nI_add, Int32.add_sub_cancel]
theorem m_cb {r t i j m : Nat} (hr : r < 6) (ht : t < 6) (hi : i + m ≤ 40) (hj : j + m ≤ 40) (hji : i < j) (σ : fsS) : ∃ σ', L_X4_copy_104 fs_fu (nI r) (nI i) (nI t) (nI j) (nI m) 0 σ = some σ' ∧ ∀ k x, σ' k x = if k = 52 ∧ 40 * t + j ≤ x ∧ x < 40 * t + j + m then σ 52 (40 * r + i + (x - (40 * t + j))) else σ k x := by
  have H := fs_loop (fun f (x : Int32 × fsS) => L_X4_copy_104 f (nI r) (nI i) (nI t) (nI j) (nI m) x.1 x.2) (fun q y => y.1 = nI q ∧ ∀ k x, y.2 k x = if k = 52 ∧ 40 * t + j + (m - q) ≤ x ∧ x < 40 * t + j + m then σ 52 (40 * r + i + (x - (40 * t + j))) else σ k x) (fun σ' => ∀ k x, σ' k x = if k = 52 ∧ 40 * t + j + (m - m) ≤ x ∧ x < 40 * t + j + m then σ 52 (40 * r + i + (x - (40 * t + j))) else σ k x) m ?_ ?_ fs_fu 0 (0, σ) (Nat.zero_le _) (fs_fub _ (by omega)) ⟨rfl, fun k x => by rw [if_neg (by omega)]⟩
  · obtain ⟨σ', h1, h2⟩ := H
    exact ⟨σ', h1, fun k x => by rw [h2 k x, Nat.sub_self]; rfl⟩
  · rintro f q ⟨y, τ⟩ hq ⟨hy, h1⟩
    dsimp only at hy h1 ⊢
    subst hy
    left
    have d1 : ¬ nI m ≤ nI q := nI_ge hq (by omega)
    have d0 : ¬ nI j ≤ nI i := nI_ge hji (by omega)
    have d2 : fs_in (nI (40 * r + i + (m - 1 - q))) 240 := vp_in_nI (by omega) (by omega)
    have d3 : (nI (40 * r + i + (m - 1 - q))).toNatClampNeg = 40 * r + i + (m - 1 - q) := nI_clamp (by omega)
    have d4 : fs_in (nI (40 * t + j + (m - 1 - q))) 240 := vp_in_nI (by omega) (by omega)
    have d5 : (nI (40 * t + j + (m - 1 - q))).toNatClampNeg = 40 * t + j + (m - 1 - q) := nI_clamp (by omega)
    refine ⟨(nI q + 1, fs_u τ 52 (40 * t + j + (m - 1 - q)) (τ 52 (40 * r + i + (m - 1 - q)))), ⟨nI_1 q, fun k x => ?_⟩, ?_⟩
    · dsimp only
      rw [fs_ug]
      by_cases hx : k = 52 ∧ x = 40 * t + j + (m - 1 - q)
      · rw [if_pos hx, if_pos (by omega), h1, if_neg (by omega)]
        congr 1
        omega
      · rw [if_neg hx, h1]
        by_cases hx2 : k = 52 ∧ 40 * t + j + (m - q) ≤ x ∧ x < 40 * t + j + m
        · rw [if_pos hx2, if_pos (by omega)]
        · rw [if_neg hx2, if_neg (by omega)]
    · simp only [L_X4_copy_104, if_neg d1, if_neg d0, back_n hq, mi_rowp, fs_gp d2, d3, fs_gp d4, d5]
  · rintro f ⟨y, τ⟩ ⟨hy, h1⟩
    dsimp only at hy h1 ⊢
    subst hy
    refine ⟨τ, ?_, h1⟩
    simp only [L_X4_copy_104, if_pos (nI_le (Nat.le_refl m) (by omega))]
theorem add64 (a b : Int32) : (a.toInt64 + b.toInt64).toInt = a.toInt + b.toInt := by
  have h1 := toI_lt a; have h2 := toI_ge a; have h3 := toI_lt b; have h4 := toI_ge b
  rw [Int64.toInt_add, i64, i64, Int.bmod_def]
  split <;> omega
theorem cp_rows : ∀ r, r < 6 → ∀ t, t < 6 → fs_len (38 + r) = 40 ∧ fs_len (38 + t) = 40 := fun r hr t ht => ⟨row_len r hr, row_len t ht⟩
