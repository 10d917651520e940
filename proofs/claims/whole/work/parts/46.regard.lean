set_option maxRecDepth 100000 in
theorem rg_all : ((List.range 6).all fun k => (List.range 10).all fun l => (List.range 4).all fun s => (List.range 100).all fun p => decide (F_X4_regardBy (nI k) (nI l) (nI s) (nI p) = F_X1_regardOf (nI k) (nI l) (nI s) (nI p)) && decide (0 ≤ F_X1_regardOf (nI k) (nI l) (nI s) (nI p)) && decide (F_X1_regardOf (nI k) (nI l) (nI s) (nI p) ≤ 30)) = true := by decide +kernel
theorem rg_eq {k l s p : Nat} (hk : k < 6) (hl : l < 10) (hs : s < 4) (hp : p < 100) : F_X4_regardBy (nI k) (nI l) (nI s) (nI p) = F_X1_regardOf (nI k) (nI l) (nI s) (nI p) ∧ 0 ≤ F_X1_regardOf (nI k) (nI l) (nI s) (nI p) ∧ F_X1_regardOf (nI k) (nI l) (nI s) (nI p) ≤ 30 := by
  have h := rg_all
  have h1 := List.all_eq_true.mp h k (List.mem_range.mpr hk)
  have h2 := List.all_eq_true.mp h1 l (List.mem_range.mpr hl)
  have h3 := List.all_eq_true.mp h2 s (List.mem_range.mpr hs)
  have h4 := List.all_eq_true.mp h3 p (List.mem_range.mpr hp)
  simp only [Bool.and_eq_true, decide_eq_true_eq] at h4
  exact ⟨h4.1.1, h4.1.2, h4.2⟩
