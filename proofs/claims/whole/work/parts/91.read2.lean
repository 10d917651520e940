/-- the reference's reader: where it is, how far the TEXT goes, which one, how many KIN -/
def mr (X : Nat → Int32) (L t p z : Nat) (τ : fsS) : Prop := τ 51 19 = nI p ∧ τ 51 20 = nI L ∧ τ 51 21 = nI t ∧ τ 51 23 = nI z ∧ ∀ x, x < L → τ 54 (60 * t + x) = X x
theorem m_here {X : Nat → Int32} {L t p z : Nat} {τ : fsS} (hL : L ≤ 60) (ht : t < 4) (h : mr X L t p z τ) (hp : p < L) : F_X4_here τ = some (X p) := by
  obtain ⟨h1, h2, h3, h4, h5⟩ := h
  unfold F_X4_here
  rw [h1, h2, h3, if_neg (nI_ge hp (by omega)), mi_text, fs_gp (inI (by omega) (by omega)), nI_clamp (by omega), h5 p hp]
theorem m_hereE {X : Nat → Int32} {L t z : Nat} {τ : fsS} (hL : L ≤ 60) (h : mr X L t L z τ) : F_X4_here τ = some (-1) := by
  obtain ⟨h1, h2, h3, h4, h5⟩ := h
  unfold F_X4_here
  rw [h1, h2, if_pos (nI_le (Nat.le_refl L) (by omega))]
/-- the cells that the reference's reader writes -/
def mrs (k j : Nat) : Prop := (k = 51 ∧ 19 ≤ j ∧ j ≤ 23) ∨ k = 65
theorem m_digits {X : Nat → Int32} {L t p z K : Nat} (hL : L ≤ 60) (ht : t < 4) (hz : z < 6) (hK : K ≤ 4) (hg : ∀ j, j < K → p + 1 + j < L ∧ dg (X (p + 1 + j))) (hb : K < 4 → ¬ (p + 1 + K < L ∧ dg (X (p + 1 + K)))) (hp : p < L) {τ : fsS} (h : mr X L t (p + 1) z τ) : ∃ τ', L_X4_readsOne_49 fs_fu 1 τ = some (if K = 4 then 1 else 0, τ') ∧ mr X L t (p + 1 + K) z τ' ∧ (∀ j, j < K → τ' 65 (5 * z + 1 + j) = X (p + 1 + j) - 48) ∧ ∀ k j, ¬ (k = 51 ∧ 19 ≤ j ∧ j ≤ 23) → ¬ (k = 65 ∧ 5 * z + 1 ≤ j ∧ j < 5 * z + 5) → τ' k j = τ k j := by
  obtain ⟨⟨o, τ'⟩, h1, h2, h3, h4, h5⟩ := fs_loop (fun f (x : Int32 × fsS) => L_X4_readsOne_49 f x.1 x.2) (fun i x => x.1 = nI (1 + i) ∧ mr X L t (p + 1 + i) z x.2 ∧ (∀ j, j < i → x.2 65 (5 * z + 1 + j) = X (p + 1 + j) - 48) ∧ ∀ k j, ¬ (k = 51 ∧ 19 ≤ j ∧ j ≤ 23) → ¬ (k = 65 ∧ 5 * z + 1 ≤ j ∧ j < 5 * z + 5) → x.2 k j = τ k j) (fun (o : Nat × fsS) => o.1 = (if K = 4 then 1 else 0) ∧ mr X L t (p + 1 + K) z o.2 ∧ (∀ j, j < K → o.2 65 (5 * z + 1 + j) = X (p + 1 + j) - 48) ∧ ∀ k j, ¬ (k = 51 ∧ 19 ≤ j ∧ j ≤ 23) → ¬ (k = 65 ∧ 5 * z + 1 ≤ j ∧ j < 5 * z + 5) → o.2 k j = τ k j) K (by
    rintro f i ⟨y, ρ⟩ hi ⟨hy, g1, g2, g3⟩
    dsimp only at hy g1 g2 g3 ⊢
    subst hy
    left
    obtain ⟨d1, d2⟩ := hg i hi
    have e1 := m_here hL ht g1 d1
    obtain ⟨r1, r2, r3, r4, r5⟩ := g1
    have F : F_X4_isFigure ρ = some (1, fs_u (fs_u ρ 51 22 (X (p + 1 + i) - 48)) 51 19 (nI (p + 1 + i + 1))) := by
      unfold F_X4_isFigure
      rw [e1, Option.bind_some, dg_in d2, if_neg i10, Option.bind_some, r1, nI_1]
    generalize hρ' : fs_u (fs_u ρ 51 22 (X (p + 1 + i) - 48)) 51 19 (nI (p + 1 + i + 1)) = ρ' at F
    have s19 : ρ' 51 19 = nI (p + 1 + i + 1) := by rw [← hρ', fs_ug, if_pos ⟨rfl, rfl⟩]
    have s22 : ρ' 51 22 = X (p + 1 + i) - 48 := by rw [← hρ', fs_ug, if_neg (by omega), fs_ug, if_pos ⟨rfl, rfl⟩]
    have so : ∀ k j, ¬ (k = 51 ∧ (j = 19 ∨ j = 22)) → ρ' k j = ρ k j := fun k j q => by rw [← hρ', fs_ug, if_neg (by omega), fs_ug, if_neg (by omega)]
    have s23 : ρ' 51 23 = nI z := by rw [so _ _ (by omega), r4]
    have ei : ((5 : Int32) * nI z) + nI (1 + i) = nI (5 * z + 1 + i) := by rw [show (5 : Int32) = nI 5 from rfl, pk_mul, nI_add]; congr 1; omega
    refine ⟨(nI (1 + i) + 1, fs_u ρ' 65 (5 * z + 1 + i) (X (p + 1 + i) - 48)), ⟨nI_1 (1 + i), ⟨?_, ?_, ?_, ?_, fun x hx => ?_⟩, fun j hj => ?_, fun k j q1 q2 => ?_⟩, ?_⟩
    · dsimp only
      rw [fs_ug, if_neg (by omega), s19]
      rfl
    · dsimp only
      rw [fs_ug, if_neg (by omega), so _ _ (by omega), r2]
    · dsimp only
      rw [fs_ug, if_neg (by omega), so _ _ (by omega), r3]
    · dsimp only
      rw [fs_ug, if_neg (by omega), s23]
    · dsimp only
      rw [fs_ug, if_neg (by omega), so _ _ (by omega), r5 x hx]
    · dsimp only
      rw [fs_ug]
      by_cases e : j = i
      · rw [if_pos ⟨rfl, by omega⟩, e]
      · rw [if_neg (by omega), so _ _ (by omega), g2 j (by omega)]
    · dsimp only
      rw [fs_ug, if_neg (by omega), so _ _ (by omega), g3 k j q1 q2]
    · rw [L_X4_readsOne_49, if_neg (show ¬ (5 : Int32) ≤ nI (1 + i) from nI_ge (b := 5) (by omega) (by omega)), F, Option.bind_some, if_neg i10]
      dsimp only
      have ci : fs_in (nI (5 * z + 1 + i)) 30 := inI (by omega) (by omega)
      have cl : (nI (5 * z + 1 + i)).toNatClampNeg = 5 * z + 1 + i := nI_clamp (by omega)
      simp only [s23, ei, fs_gp ci, cl, s22]) (by
    rintro f ⟨y, ρ⟩ ⟨hy, g1, g2, g3⟩
    dsimp only at hy g1 g2 g3 ⊢
    subst hy
    refine ⟨(if K = 4 then 1 else 0, ρ), ?_, rfl, g1, g2, g3⟩
    by_cases e : K = 4
    · subst e
      rw [L_X4_readsOne_49, if_pos (by decide), if_pos rfl]
    · have hF : F_X4_isFigure ρ = some (0, ρ) := by
        unfold F_X4_isFigure
        by_cases e2 : p + 1 + K < L
        · rw [m_here hL ht g1 e2, Option.bind_some, dg_ni (fun q => hb (by omega) ⟨e2, q⟩), if_pos rfl]
        · have e3 : p + 1 + K = L := by
            by_cases e4 : K = 0
            · omega
            · have := (hg (K - 1) (by omega)).1
              omega
          rw [e3] at g1
          rw [m_hereE hL g1, Option.bind_some, dg_ni (by unfold dg; decide), if_pos rfl]
      rw [L_X4_readsOne_49, if_neg (show ¬ (5 : Int32) ≤ nI (1 + K) from nI_ge (b := 5) (by omega) (by omega)), hF, Option.bind_some, if_pos rfl, if_neg e]) fs_fu 0 (1, τ) (Nat.zero_le _) (fs_fub _ (by omega)) ⟨rfl, h, fun j hj => by omega, fun _ _ _ _ => rfl⟩
  dsimp only at h1 h2 h3 h4 h5
  subst h2
  exact ⟨τ', h1, h3, h4, h5⟩
/-- one of KIN on the reference's side -/
theorem m_item {X : Nat → Int32} {L t p z k K : Nat} (hL : L ≤ 60) (ht : t < 4) (hz : z < 6) (hK : K ≤ 4) (hg : ∀ j, j < K → p + 1 + j < L ∧ dg (X (p + 1 + j))) (hb : K < 4 → ¬ (p + 1 + K < L ∧ dg (X (p + 1 + K)))) (hp : p < L) (hk : F_X4_kindOf (X p) = nI k) (hk6 : k < 6) {τ : fsS} (h : mr X L t p z τ) : ∃ τ', F_X4_readsOne τ = some (if K = 4 then 1 else 0, τ') ∧ mr X L t (p + 1 + K) (if K = 4 then z + 1 else z) τ' ∧ τ' 65 (5 * z) = nI k ∧ (∀ j, j < K → τ' 65 (5 * z + 1 + j) = X (p + 1 + j) - 48) ∧ ∀ k j, ¬ (k = 51 ∧ 19 ≤ j ∧ j ≤ 23) → ¬ (k = 65 ∧ 5 * z ≤ j ∧ j < 5 * z + 5) → τ' k j = τ k j := by
  have e1 := m_here hL ht h hp
  obtain ⟨r1, r2, r3, r4, r5⟩ := id h
  have e5 : (5 : Int32) * nI z = nI (5 * z) := by rw [show (5 : Int32) = nI 5 from rfl, pk_mul]
  obtain ⟨τ', b1, b2, b3, b4⟩ := m_digits (τ := fs_u (fs_u τ 51 19 (nI (p + 1))) 65 (5 * z) (nI k)) hL ht hz hK hg hb hp ⟨by rw [fs_ug, if_neg (by omega), fs_ug, if_pos ⟨rfl, rfl⟩], by rw [fs_ug, if_neg (by omega), fs_ug, if_neg (by omega), r2], by rw [fs_ug, if_neg (by omega), fs_ug, if_neg (by omega), r3], by rw [fs_ug, if_neg (by omega), fs_ug, if_neg (by omega), r4], fun x hx => by rw [fs_ug, if_neg (by omega), fs_ug, if_neg (by omega), r5 x hx]⟩
  have hk9 : ¬ nI k = (-9 : Int32) := ni9 hk6
  have hz6 : ¬ nI z = (6 : Int32) := fun q => by
    rw [show (6 : Int32) = nI 6 from rfl, nI_eq (by omega) (by omega)] at q
    omega
  have U : ∀ v, (if (if K = 4 then 1 else 0) = 0 then some ((0 : Int32), τ') else some ((1 : Int32), fs_u τ' 51 23 (τ' 51 23 + 1))) = v → F_X4_readsOne τ = v := fun v hv => by
    unfold F_X4_readsOne
    have ci : fs_in (nI (5 * z)) 30 := inI (by omega) (by omega)
    have cl : (nI (5 * z)).toNatClampNeg = 5 * z := nI_clamp (by omega)
    rw [e1, Option.bind_some, hk, if_neg hk9, if_neg (by rw [r4]; exact hz6)]
    simp only [r4, e5, fs_gp ci, r1, nI_1, cl, b1, Option.bind_some]
    exact hv
  have k65 : τ' 65 (5 * z) = nI k := by rw [b4 _ _ (by omega) (by omega), fs_ug, if_pos ⟨rfl, rfl⟩]
  have fr : ∀ k j, ¬ (k = 51 ∧ 19 ≤ j ∧ j ≤ 23) → ¬ (k = 65 ∧ 5 * z ≤ j ∧ j < 5 * z + 5) → τ' k j = τ k j := fun k j q1 q2 => by rw [b4 k j q1 (by omega), fs_ug, if_neg (by omega), fs_ug, if_neg (by omega)]
  by_cases e : K = 4
  · rw [if_pos e] at U ⊢
    rw [if_pos e]
    obtain ⟨s1, s2, s3, s4, s5⟩ := b2
    refine ⟨fs_u τ' 51 23 (τ' 51 23 + 1), U _ (if_neg (by omega)), ⟨?_, ?_, ?_, ?_, fun x hx => ?_⟩, ?_, fun j hj => ?_, fun k j q1 q2 => ?_⟩
    · rw [fs_ug, if_neg (by omega), s1]
    · rw [fs_ug, if_neg (by omega), s2]
    · rw [fs_ug, if_neg (by omega), s3]
    · rw [fs_ug, if_pos ⟨rfl, rfl⟩, s4, nI_1]
    · rw [fs_ug, if_neg (by omega), s5 x hx]
    · rw [fs_ug, if_neg (by omega), k65]
    · rw [fs_ug, if_neg (by omega), b3 j hj]
    · rw [fs_ug, if_neg (by omega), fr k j q1 q2]
  · rw [if_neg e] at U ⊢
    rw [if_neg e]
    exact ⟨τ', U _ (if_pos rfl), b2, k65, b3, fr⟩
