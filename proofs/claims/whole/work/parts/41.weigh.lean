set_option maxHeartbeats 4000000 in
theorem w7 (o : Nat) (ho : fs_K o) (n : Nat) (hn : n ≤ 6) (σ : fsS) (hs : σ o 0 = nI n) (h8 : σ o 8 = 0) : ∃ σ', L_X1_weigh_7 o fs_fu 0 σ = some σ' ∧ (σ' o 8 = nI (fo (rg σ o) n) ∧ (∀ j, j < n → σ' (7 * o - 14 + 5) j = rg σ o j) ∧ ∀ k j, ¬ (k = 7 * o - 14 + 5 ∨ (k = o ∧ j = 8)) → σ' k j = σ k j) := by
  have hb : 4 ≤ o ∧ o ≤ 6 := by rcases ho with rfl | rfl | rfl <;> omega
  refine fs_loop (fun f (x : Int32 × fsS) => L_X1_weigh_7 o f x.1 x.2) (fun i x => x.1 = nI i ∧ x.2 o 8 = nI (fo (rg σ o) i) ∧ (∀ j, j < i → x.2 (7 * o - 14 + 5) j = rg σ o j) ∧ ∀ k j, ¬ (k = 7 * o - 14 + 5 ∨ (k = o ∧ j = 8)) → x.2 k j = σ k j) (fun σ' => σ' o 8 = nI (fo (rg σ o) n) ∧ (∀ j, j < n → σ' (7 * o - 14 + 5) j = rg σ o j) ∧ ∀ k j, ¬ (k = 7 * o - 14 + 5 ∨ (k = o ∧ j = 8)) → σ' k j = σ k j) n ?_ ?_ fs_fu 0 (0, σ) (Nat.zero_le _) (fs_fub _ (by omega)) ⟨rfl, h8, fun j h => by omega, fun _ _ _ => rfl⟩
  · rintro f i ⟨y, τ⟩ hi ⟨hy, h8, hr, hf⟩
    dsimp only at hy h8 hr hf ⊢
    subst hy
    left
    have e1 : ¬ τ o 0 ≤ nI i := by
      rw [hf o 0 (by omega), hs]
      exact nI_ge hi (by omega)
    have e2 : fs_in (nI i) 6 := vp_in_nI (by omega) (by omega)
    have e3 : (nI i).toNatClampNeg = i := nI_clamp (by omega)
    have hfo : fo (rg σ o) i ≤ i := fo_le _ _
    have e4 : F_X1_regardOf (τ (7 * o - 14 + 0) i) (τ (7 * o - 14 + 1) i) (τ (7 * o - 14 + 4) i) (τ (7 * o - 14 + 3) i) = rg σ o i := by
      unfold rg
      rw [hf _ _ (by omega), hf _ _ (by omega), hf _ _ (by omega), hf _ _ (by omega)]
    have e5 : (fs_u τ (7 * o - 14 + 5) i (rg σ o i)) o 8 = nI (fo (rg σ o) i) := by
      rw [fs_ug, if_neg (by omega), h8]
    have e6 : (fs_u τ (7 * o - 14 + 5) i (rg σ o i)) (7 * o - 14 + 5) i = rg σ o i := by
      rw [fs_ug, if_pos ⟨rfl, rfl⟩]
    have e7 : (fs_u τ (7 * o - 14 + 5) i (rg σ o i)) (7 * o - 14 + 5) (fo (rg σ o) i) = rg σ o (fo (rg σ o) i) := by
      rw [fs_ug]
      by_cases h : fo (rg σ o) i = i
      · rw [if_pos ⟨rfl, h⟩, h]
      · rw [if_neg (fun q => h q.2), hr _ (by omega)]
    have e8 : fs_in (nI (fo (rg σ o) i)) 6 := vp_in_nI (by omega) (by omega)
    have e9 : (nI (fo (rg σ o) i)).toNatClampNeg = fo (rg σ o) i := nI_clamp (by omega)
    simp only [L_X1_weigh_7, if_neg e1, fs_gp e2, e3, e4, e5, fs_gp e8, e9, e6, e7]
    by_cases hc : rg σ o i ≤ rg σ o (fo (rg σ o) i)
    · refine ⟨(nI i + 1, fs_u τ (7 * o - 14 + 5) i (rg σ o i)), ⟨nI_1 i, ?_, ?_, ?_⟩, ?_⟩
      · show fs_u _ _ _ _ _ _ = _
        rw [e5]
        show _ = nI (if _ then _ else _)
        rw [if_neg (Int32.not_lt.mpr hc)]
      · intro j hj
        show fs_u _ _ _ _ _ _ = _
        rw [fs_ug]
        by_cases h : j = i
        · rw [if_pos ⟨rfl, h⟩, h]
        · rw [if_neg (fun q => h q.2), hr _ (by omega)]
      · intro k j h
        show fs_u _ _ _ _ _ _ = _
        rw [fs_ug, if_neg (fun q => h (Or.inl q.1)), hf _ _ h]
      · rw [if_pos hc]
    · refine ⟨(nI i + 1, fs_u (fs_u τ (7 * o - 14 + 5) i (rg σ o i)) o 8 (nI i)), ⟨nI_1 i, ?_, ?_, ?_⟩, ?_⟩
      · show fs_u _ _ _ _ _ _ = _
        rw [fs_ug, if_pos ⟨rfl, rfl⟩]
        show _ = nI (if _ then _ else _)
        rw [if_pos (Int32.not_le.mp hc)]
      · intro j hj
        show fs_u _ _ _ _ _ _ = _
        rw [fs_ug, if_neg (by omega), fs_ug]
        by_cases h : j = i
        · rw [if_pos ⟨rfl, h⟩, h]
        · rw [if_neg (fun q => h q.2), hr _ (by omega)]
      · intro k j h
        show fs_u _ _ _ _ _ _ = _
        rw [fs_ug, if_neg (fun q => h (Or.inr q)), fs_ug, if_neg (fun q => h (Or.inl q.1)), hf _ _ h]
      · rw [if_neg hc]
  · rintro f ⟨y, τ⟩ ⟨hy, h8, hr, hf⟩
    dsimp only at hy h8 hr hf ⊢
    subst hy
    refine ⟨τ, ?_, h8, hr, hf⟩
    have e1 : τ o 0 ≤ nI n := by
      rw [hf o 0 (by omega), hs]
      exact nI_le (Nat.le_refl _) (by omega)
    simp only [L_X1_weigh_7, if_pos e1]
