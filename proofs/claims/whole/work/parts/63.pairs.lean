/-- whether what is told fits, among the first so many pairs -/
def ftb (k l s : Int32) (c : Nat → Int32) : Nat → Int32
  | 0 => 1
  | t + 1 => if F_X1_regardOf k l s (c (2 * t)) = c (2 * t + 1) then ftb k l s c t else 0
theorem ftb_01 (k l s : Int32) (c : Nat → Int32) : ∀ t, ftb k l s c t = 0 ∨ ftb k l s c t = 1
  | 0 => Or.inr rfl
  | t + 1 => by
    unfold ftb
    by_cases h : F_X1_regardOf k l s (c (2 * t)) = c (2 * t + 1)
    · rw [if_pos h]; exact ftb_01 k l s c t
    · rw [if_neg h]; exact Or.inl rfl
theorem ftb_1 {k l s : Int32} {c : Nat → Int32} : ∀ {h : Nat}, (∀ t, t < h → F_X1_regardOf k l s (c (2 * t)) = c (2 * t + 1)) → ftb k l s c h = 1
  | 0, _ => rfl
  | h + 1, hh => by
    unfold ftb
    rw [if_pos (hh h (by omega)), ftb_1 (fun t ht => hh t (by omega))]
theorem ftb_0 {k l s : Int32} {c : Nat → Int32} {t : Nat} (ht : ¬ F_X1_regardOf k l s (c (2 * t)) = c (2 * t + 1)) : ∀ {h : Nat}, t < h → ftb k l s c h = 0
  | 0, q => by omega
  | h + 1, q => by
    unfold ftb
    by_cases e : t = h
    · subst e
      rw [if_neg ht]
    · rw [ftb_0 ht (by omega)]
      split <;> rfl
theorem nI2 (t : Nat) : nI (2 * t) + (2 : Int32) = nI (2 * (t + 1)) := by
  rw [show (2 : Int32) = nI 2 from rfl, nI_add]
  congr 1
set_option maxHeartbeats 4000000 in
theorem c_fits {r h : Nat} (hr : r < 6) (hh : h ≤ 20) {σ : fsS} (hz : σ 10 r = nI (2 * h)) (k l s : Int32) : F_X3_fitsPairs (nI r) k l s σ = some (ftb k l s (σ (38 + r)) h) := by
  have c2 : fs_in (nI r) 6 := vp_in_nI (by omega) (by omega)
  have c3 : (nI r).toNatClampNeg = r := nI_clamp (by omega)
  obtain ⟨N, n1, n2, n3⟩ := upto (fun t => ¬ F_X1_regardOf k l s (σ (38 + r) (2 * t)) = σ (38 + r) (2 * t + 1)) h
  obtain ⟨q, b1, b2⟩ := fs_loop (fun f (x : Int32) => L_X3_fitsPairs_14 (38 + r) f (nI r) k l s x σ) (fun t x => x = nI (2 * t)) (fun (q : Nat) => N = h ∧ q = 1 ∨ N < h ∧ q = 0) N (by
    rintro f t y ht hy
    subst hy
    left
    have e1 : nI (2 * t) + (1 : Int32) = nI (2 * t + 1) := nI_1 _
    have c1 : ¬ σ 10 r ≤ nI (2 * t + 1) := by rw [hz]; exact nI_ge (by omega) (by omega)
    have c4 : fs_in (nI (2 * t)) (fs_len (38 + r)) := by rw [row_len r hr]; exact vp_in_nI (by omega) (by omega)
    have c5 : fs_in (nI (2 * t + 1)) (fs_len (38 + r)) := by rw [row_len r hr]; exact vp_in_nI (by omega) (by omega)
    have c6 : (nI (2 * t)).toNatClampNeg = 2 * t := nI_clamp (by omega)
    have c7 : (nI (2 * t + 1)).toNatClampNeg = 2 * t + 1 := nI_clamp (by omega)
    have c8 : F_X1_regardOf k l s (σ (38 + r) (2 * t)) = σ (38 + r) (2 * t + 1) := Classical.byContradiction (n2 t ht)
    refine ⟨nI (2 * t) + 2, nI2 t, ?_⟩
    simp only [L_X3_fitsPairs_14, fs_gp c2, c3, e1, if_neg c1, fs_gp c4, fs_gp c5, c6, c7, if_pos c8]) (by
    rintro f y hy
    subst hy
    by_cases e : N = h
    · refine ⟨1, ?_, Or.inl ⟨e, rfl⟩⟩
      have e1 : nI (2 * N) + (1 : Int32) = nI (2 * N + 1) := nI_1 _
      have c1 : σ 10 r ≤ nI (2 * N + 1) := by rw [hz]; exact nI_le (by omega) (by omega)
      simp only [L_X3_fitsPairs_14, fs_gp c2, c3, e1, if_pos c1]
    · refine ⟨0, ?_, Or.inr ⟨by omega, rfl⟩⟩
      have e1 : nI (2 * N) + (1 : Int32) = nI (2 * N + 1) := nI_1 _
      have c1 : ¬ σ 10 r ≤ nI (2 * N + 1) := by rw [hz]; exact nI_ge (by omega) (by omega)
      have c4 : fs_in (nI (2 * N)) (fs_len (38 + r)) := by rw [row_len r hr]; exact vp_in_nI (by omega) (by omega)
      have c5 : fs_in (nI (2 * N + 1)) (fs_len (38 + r)) := by rw [row_len r hr]; exact vp_in_nI (by omega) (by omega)
      have c6 : (nI (2 * N)).toNatClampNeg = 2 * N := nI_clamp (by omega)
      have c7 : (nI (2 * N + 1)).toNatClampNeg = 2 * N + 1 := nI_clamp (by omega)
      simp only [L_X3_fitsPairs_14, fs_gp c2, c3, e1, if_neg c1, fs_gp c4, fs_gp c5, c6, c7, if_neg (n3.resolve_left e)]) fs_fu 0 0 (Nat.zero_le _) (fs_fub _ (by omega)) rfl
  unfold F_X3_fitsPairs
  simp only [fs_gp c2, c3]
  rw [b1, Option.bind_some]
  rcases b2 with ⟨e1, e2⟩ | ⟨e1, e2⟩
  · rw [e2, if_neg (by decide), ftb_1 (fun t ht => Classical.byContradiction (n2 t (by omega)))]
  · rw [e2, if_pos rfl, ftb_0 (n3.resolve_left (by omega)) e1]
theorem mi_row1 (r i : Nat) : nI (40 * r + i) + (1 : Int32) = nI (40 * r + i + 1) := nI_1 _
set_option maxHeartbeats 4000000 in
/-- the reference: whether what is told fits -/
theorem m_fits {r h i : Nat} (hr : r < 6) (hh : h ≤ 20) (hi : i < 6) {σ : fsS} (hz : σ 53 r = nI (2 * h)) {c : Nat → Int32} (hc : ∀ j, j < 2 * h → σ 52 (40 * r + j) = c j) {k l s : Nat} (hk : k < 6) (hl : l < 10) (hs : s < 4) (h60 : σ 60 (7 + i) = nI s) (hp : ∀ t, t < h → ∃ p, p < 100 ∧ c (2 * t) = nI p) : F_X4_isSo (nI k) (nI l) (nI i) (nI r) σ = some (ftb (nI k) (nI l) (nI s) c h) := by
  have c2 : fs_in (nI r) 6 := vp_in_nI (by omega) (by omega)
  have c3 : (nI r).toNatClampNeg = r := nI_clamp (by omega)
  have c4 : (7 : Int32) + nI i = nI (7 + i) := nI_add 7 i
  have c5 : fs_in (nI (7 + i)) 13 := vp_in_nI (by omega) (by omega)
  have c6 : (nI (7 + i)).toNatClampNeg = 7 + i := nI_clamp (by omega)
  obtain ⟨q, b1, b2⟩ := fs_loop (fun f (x : Int32 × Int32) => L_X4_isSo_6 f (nI k) (nI l) (nI i) (nI r) x.1 x.2 σ) (fun t x => x.1 = ftb (nI k) (nI l) (nI s) c t ∧ x.2 = nI (2 * t)) (fun q => q = ftb (nI k) (nI l) (nI s) c h) h (by
    rintro f t ⟨q, y⟩ ht ⟨h1, h2⟩
    dsimp only at h1 h2 ⊢
    subst h2
    left
    have d1 : ¬ σ 53 r ≤ nI (2 * t) := by rw [hz]; exact nI_ge (by omega) (by omega)
    have d2 : fs_in (nI (40 * r + 2 * t)) 240 := vp_in_nI (by omega) (by omega)
    have d3 : fs_in (nI (40 * r + 2 * t + 1)) 240 := vp_in_nI (by omega) (by omega)
    have d4 : (nI (40 * r + 2 * t)).toNatClampNeg = 40 * r + 2 * t := nI_clamp (by omega)
    have d5 : (nI (40 * r + 2 * t + 1)).toNatClampNeg = 40 * r + 2 * t + 1 := nI_clamp (by omega)
    have d6 : σ 52 (40 * r + 2 * t) = c (2 * t) := hc _ (by omega)
    have d7 : σ 52 (40 * r + 2 * t + 1) = c (2 * t + 1) := hc (2 * t + 1) (by omega)
    refine ⟨(ftb (nI k) (nI l) (nI s) c (t + 1), nI (2 * t) + 2), ⟨rfl, nI2 t⟩, ?_⟩
    by_cases h0 : q = 0
    · have e : ftb (nI k) (nI l) (nI s) c (t + 1) = 0 := by
        unfold ftb
        rw [← h1, h0]
        split <;> rfl
      simp only [L_X4_isSo_6, fs_gp c2, c3, if_neg d1, if_pos h0, e]
    · obtain ⟨p, hp1, hp2⟩ := hp t ht
      have e1 : q = 1 := by
        rcases ftb_01 (nI k) (nI l) (nI s) c t with e | e
        · exact absurd (h1.trans e) h0
        · exact h1.trans e
      have e2 : F_X4_regardBy (nI k) (nI l) (nI s) (c (2 * t)) = F_X1_regardOf (nI k) (nI l) (nI s) (c (2 * t)) := by
        rw [hp2]
        exact (rg_eq hk hl hs hp1).1
      by_cases hq : F_X1_regardOf (nI k) (nI l) (nI s) (c (2 * t)) = c (2 * t + 1)
      · have e : ftb (nI k) (nI l) (nI s) c (t + 1) = 1 := by
          unfold ftb
          rw [if_pos hq, ← h1, e1]
        simp only [L_X4_isSo_6, fs_gp c2, c3, if_neg d1, if_neg h0, c4, fs_gp c5, c6, h60, mi_row, fs_gp d2, mi_row1, fs_gp d3, d4, d5, d6, d7, e2, if_pos hq, e]
      · have e : ftb (nI k) (nI l) (nI s) c (t + 1) = 0 := by
          unfold ftb
          rw [if_neg hq]
        simp only [L_X4_isSo_6, fs_gp c2, c3, if_neg d1, if_neg h0, c4, fs_gp c5, c6, h60, mi_row, fs_gp d2, mi_row1, fs_gp d3, d4, d5, d6, d7, e2, if_neg hq, e]) (by
    rintro f ⟨q, y⟩ ⟨h1, h2⟩
    dsimp only at h1 h2 ⊢
    subst h2
    refine ⟨q, ?_, h1⟩
    have d1 : σ 53 r ≤ nI (2 * h) := by rw [hz]; exact nI_le (Nat.le_refl _) (by omega)
    simp only [L_X4_isSo_6, fs_gp c2, c3, if_pos d1]) fs_fu 0 (1, 0) (Nat.zero_le _) (fs_fub _ (by omega)) ⟨rfl, rfl⟩
  dsimp only at b1
  unfold F_X4_isSo
  rw [b1, b2, Option.bind_some, fs_gp (ftb_01 _ _ _ _ _)]
/-- a number of a pair that is one -/
def okj (c : Nat → Int32) (j : Nat) : Prop := 0 ≤ (c j).toInt ∧ (c j).toInt ≤ if j % 2 = 0 then 99 else 30
set_option maxHeartbeats 4000000 in
theorem c_pairs {r z : Nat} (hr : r < 6) (hz40 : z ≤ 40) {σ : fsS} (hz : σ 10 r = nI z) {N : Nat} (hN : N ≤ z) (h1 : ∀ j, j < N → okj (σ (38 + r)) j) (h2 : N = z ∨ ¬ okj (σ (38 + r)) N) : L_X3_refusePairs_56 fs_fu (nI r) 0 σ = some (if N = z then 1 else 0) := by
  have c2 : fs_in (nI r) 6 := vp_in_nI (by omega) (by omega)
  have c3 : (nI r).toNatClampNeg = r := nI_clamp (by omega)
  have rem : ∀ t, t < 40 → nI t - nI t / (2 : Int32) * (2 : Int32) = nI (t % 2) := fun t ht => pk_rem (d := 2) (by omega) (by omega) (by omega)
  obtain ⟨q, b1, b2⟩ := fs_loop (fun f (x : Int32) => L_X3_refusePairs_56 f (nI r) x σ) (fun t x => x = nI t) (fun (q : Nat) => q = if N = z then 1 else 0) N (by
    rintro f t y ht hy
    subst hy
    left
    have c1 : ¬ σ 10 r ≤ nI t := by rw [hz]; exact nI_ge (by omega) (by omega)
    have c4 : fs_in (nI t) (fs_len (38 + r)) := by rw [row_len r hr]; exact vp_in_nI (by omega) (by omega)
    have c6 : (nI t).toNatClampNeg = t := nI_clamp (by omega)
    obtain ⟨o1, o2⟩ := h1 t ht
    have g0 : ¬ σ (38 + r) t < 0 := by rw [i_lt, z0]; omega
    refine ⟨nI t + 1, nI_1 t, ?_⟩
    simp only [L_X3_refusePairs_56, fs_gp c2, c3, if_neg c1, fs_gp c4, c6, if_neg g0, rem t (by omega)]
    by_cases hp : t % 2 = 0
    · rw [if_pos hp] at o2
      rw [hp, if_pos (by decide), if_pos (by rw [i_le, show (99 : Int32).toInt = 99 from rfl]; exact o2)]
    · rw [if_neg hp] at o2
      rw [show t % 2 = 1 by omega, if_neg (by decide), if_pos (by rw [i_le, show (30 : Int32).toInt = 30 from rfl]; exact o2)]) (by
    rintro f y hy
    subst hy
    by_cases e : N = z
    · refine ⟨1, ?_, by rw [if_pos e]⟩
      have c1 : σ 10 r ≤ nI N := by rw [hz]; exact nI_le (by omega) (by omega)
      simp only [L_X3_refusePairs_56, fs_gp c2, c3, if_pos c1]
    · refine ⟨0, ?_, by rw [if_neg e]⟩
      have c1 : ¬ σ 10 r ≤ nI N := by rw [hz]; exact nI_ge (by omega) (by omega)
      have c4 : fs_in (nI N) (fs_len (38 + r)) := by rw [row_len r hr]; exact vp_in_nI (by omega) (by omega)
      have c6 : (nI N).toNatClampNeg = N := nI_clamp (by omega)
      have ho := h2.resolve_left e
      simp only [L_X3_refusePairs_56, fs_gp c2, c3, if_neg c1, fs_gp c4, c6, rem N (by omega)]
      by_cases g0 : σ (38 + r) N < 0
      · rw [if_pos g0]
      · rw [if_neg g0]
        rw [i_lt, z0] at g0
        unfold okj at ho
        by_cases hp : N % 2 = 0
        · rw [if_pos hp] at ho
          rw [hp, if_pos (by decide), if_neg (by rw [i_le, show (99 : Int32).toInt = 99 from rfl]; omega)]
        · rw [if_neg hp] at ho
          rw [show N % 2 = 1 by omega, if_neg (by decide), if_neg (by rw [i_le, show (30 : Int32).toInt = 30 from rfl]; omega)]) fs_fu 0 0 (Nat.zero_le _) (fs_fub _ (by omega)) rfl
  rw [b1, b2]
set_option maxHeartbeats 4000000 in
theorem m_pairs {r h : Nat} (hr : r < 6) (hh : h ≤ 20) {σ : fsS} (hz : σ 53 r = nI (2 * h)) {c : Nat → Int32} (hc : ∀ j, j < 2 * h → σ 52 (40 * r + j) = c j) {N : Nat} (hN : N ≤ 2 * h) (h1 : ∀ j, j < N → okj c j) (h2 : N = 2 * h ∨ ¬ okj c N) : L_X4_refusesPairs_35 fs_fu (nI r) 0 σ = some (if N = 2 * h then 1 else 0) := by
  have c2 : fs_in (nI r) 6 := vp_in_nI (by omega) (by omega)
  have c3 : (nI r).toNatClampNeg = r := nI_clamp (by omega)
  have bits : ∀ t, t < h → fs_in (nI (40 * r + 2 * t)) 240 ∧ fs_in (nI (40 * r + 2 * t + 1)) 240 ∧ (nI (40 * r + 2 * t)).toNatClampNeg = 40 * r + 2 * t ∧ (nI (40 * r + 2 * t + 1)).toNatClampNeg = 40 * r + 2 * t + 1 ∧ σ 52 (40 * r + 2 * t) = c (2 * t) ∧ σ 52 (40 * r + 2 * t + 1) = c (2 * t + 1) ∧ ¬ σ 53 r ≤ nI (2 * t) := fun t ht => ⟨vp_in_nI (by omega) (by omega), vp_in_nI (by omega) (by omega), nI_clamp (by omega), nI_clamp (by omega), hc _ (by omega), hc (2 * t + 1) (by omega), by rw [hz]; exact nI_ge (by omega) (by omega)⟩
  have y0 : ∀ t, okj c (2 * t) → F_X4_in (c (2 * t)).toInt64 0 99 = 1 := fun t ho => by
    unfold okj at ho
    rw [if_pos (by omega)] at ho
    exact in_y (by rw [Z0, show (99 : Int64).toInt = 99 from rfl]; exact ho)
  have y1 : ∀ t, okj c (2 * t + 1) → F_X4_in (c (2 * t + 1)).toInt64 0 30 = 1 := fun t ho => by
    unfold okj at ho
    rw [if_neg (by omega)] at ho
    exact in_y (by rw [Z0, show (30 : Int64).toInt = 30 from rfl]; exact ho)
  have x0 : ∀ t, ¬ okj c (2 * t) → F_X4_in (c (2 * t)).toInt64 0 99 = 0 := fun t ho => by
    unfold okj at ho
    rw [if_pos (by omega)] at ho
    exact in_n (by rw [Z0, show (99 : Int64).toInt = 99 from rfl]; exact ho)
  have x1 : ∀ t, ¬ okj c (2 * t + 1) → F_X4_in (c (2 * t + 1)).toInt64 0 30 = 0 := fun t ho => by
    unfold okj at ho
    rw [if_neg (by omega)] at ho
    exact in_n (by rw [Z0, show (30 : Int64).toInt = 30 from rfl]; exact ho)
  obtain ⟨q, b1, b2⟩ := fs_loop (fun f (x : Int32) => L_X4_refusesPairs_35 f (nI r) x σ) (fun t x => x = nI (2 * t)) (fun (q : Nat) => q = if N = 2 * h then 1 else 0) (N / 2) (by
    rintro f t y ht hy
    subst hy
    left
    obtain ⟨d2, d3, d4, d5, d6, d7, d1⟩ := bits t (by omega)
    refine ⟨nI (2 * t) + 2, nI2 t, ?_⟩
    simp only [L_X4_refusesPairs_35, fs_gp c2, c3, if_neg d1, mi_row, fs_gp d2, mi_row1, fs_gp d3, d4, d5, d6, d7, y0 t (h1 _ (by omega)), y1 t (h1 _ (by omega)), if_neg i10]) (by
    rintro f y hy
    subst hy
    by_cases e : N = 2 * h
    · refine ⟨1, ?_, by rw [if_pos e]⟩
      have d1 : σ 53 r ≤ nI (2 * (N / 2)) := by rw [hz]; exact nI_le (by omega) (by omega)
      simp only [L_X4_refusesPairs_35, fs_gp c2, c3, if_pos d1]
    · refine ⟨0, ?_, by rw [if_neg e]⟩
      obtain ⟨d2, d3, d4, d5, d6, d7, d1⟩ := bits (N / 2) (by omega)
      have ho := h2.resolve_left e
      by_cases hp : N % 2 = 0
      · have e2 : ¬ okj c (2 * (N / 2)) := by rw [show 2 * (N / 2) = N by omega]; exact ho
        simp only [L_X4_refusesPairs_35, fs_gp c2, c3, if_neg d1, mi_row, fs_gp d2, d4, d6, x0 _ e2, ↓reduceIte]
      · have e2 : ¬ okj c (2 * (N / 2) + 1) := by rw [show 2 * (N / 2) + 1 = N by omega]; exact ho
        simp only [L_X4_refusesPairs_35, fs_gp c2, c3, if_neg d1, mi_row, fs_gp d2, mi_row1, fs_gp d3, d4, d5, d6, d7, y0 (N / 2) (h1 _ (by omega)), x1 _ e2, if_neg i10, ↓reduceIte]) fs_fu 0 0 (Nat.zero_le _) (fs_fub _ (by omega)) rfl
  rw [b1, b2]
