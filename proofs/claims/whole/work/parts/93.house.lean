theorem rd_from {σ : fsS} {L t : Nat} (ht : t < 4) (hL : L ≤ 60) (h55 : σ 55 t = nI L) (hx : ∀ i, i < L → σ 54 (60 * t + i) = σ (44 + t) i) (ρ : fsS) (h51 : ∀ k j, 51 ≤ k → ρ k j = σ k j) : ∃ v σ1 τ1, F_X1_read 6 (44 + t) (nI L) σ = some (v, σ1) ∧ F_X4_reads (nI t) ρ = some (v, τ1) ∧ rdC σ σ1 ∧ rdM ρ τ1 ∧ ((∃ q, q ≤ L ∧ v = nI q) ∨ (v = -9 ∧ ∃ z, 2 ≤ z ∧ z ≤ 6 ∧ σ1 6 0 = nI z ∧ τ1 51 23 = nI z ∧ ∀ q, q < z → rc σ1 τ1 q)) := by
  have ct : fs_in (nI t) 4 := inI ht (by omega)
  have cl : (nI t).toNatClampNeg = t := nI_clamp (by omega)
  have hmr : ∀ ρ : fsS, (∀ k j, 51 ≤ k → ρ k j = σ k j) → mr (σ (44 + t)) L t 0 0 (fs_u (fs_u (fs_u (fs_u ρ 51 21 (nI t)) 51 20 (nI L)) 51 19 0) 51 23 0) := fun ρ hρ =>
    ⟨by rw [fs_ug, if_neg (by omega), fs_ug, if_pos ⟨rfl, rfl⟩]; rfl, by rw [fs_ug, if_neg (by omega), fs_ug, if_neg (by omega), fs_ug, if_pos ⟨rfl, rfl⟩], by rw [fs_ug, if_neg (by omega), fs_ug, if_neg (by omega), fs_ug, if_neg (by omega), fs_ug, if_pos ⟨rfl, rfl⟩], by rw [fs_ug, if_pos ⟨rfl, rfl⟩]; rfl, fun x h => by rw [fs_ug, if_neg (by omega), fs_ug, if_neg (by omega), fs_ug, if_neg (by omega), fs_ug, if_neg (by omega), hρ _ _ (by omega), hx x h]⟩
  have J := fun (ρ : fsS) (hρ : ∀ k j, 51 ≤ k → ρ k j = σ k j) => rd_joint (X := σ (44 + t)) ht hL L 0 0 (fs_u σ 6 0 0) (fs_u (fs_u (fs_u (fs_u ρ 51 21 (nI t)) 51 20 (nI L)) 51 19 0) 51 23 0) (by omega) (Nat.zero_le _) (by omega) (by rw [fs_ug, if_pos ⟨rfl, rfl⟩]; rfl) (fun x _ => by rw [fs_ug, if_neg (by omega)]) (hmr ρ hρ) (fun q h => by omega) fs_fu fs_fu fs_fu (fs_fub _ (by omega)) (fs_fub _ (by omega)) (fs_fub _ (by omega))
  have hu : ∀ σ', rdC (fs_u σ 6 0 0) σ' → rdC σ σ' := fun σ' w k j p1 p2 => by rw [w k j p1 p2, fs_ug, if_neg (by omega)]
  have hm : ∀ ρ τ' : fsS, rdM (fs_u (fs_u (fs_u (fs_u ρ 51 21 (nI t)) 51 20 (nI L)) 51 19 0) 51 23 0) τ' → rdM ρ τ' := fun ρ τ' w k j q => by
    rw [w k j q, fs_ug, if_neg (by unfold mrs at q; omega), fs_ug, if_neg (by unfold mrs at q; omega), fs_ug, if_neg (by unfold mrs at q; omega), fs_ug, if_neg (by unfold mrs at q; omega)]
  have R : ∀ (ρ : fsS), ρ 55 t = nI L → ∀ b τ', (L_X4_skips_0 fs_fu (fs_u (fs_u (fs_u (fs_u ρ 51 21 (nI t)) 51 20 (nI L)) 51 19 0) 51 23 0)).bind (fun x => L_X4_reads_31 fs_fu 1 x) = some (b, τ') → F_X4_reads (nI t) ρ = (if b = 0 then some ((τ' 51 19), τ') else if (τ' 51 23) ≤ (1 : Int32) then some ((τ' 51 19), τ') else some ((-9 : Int32), τ')) := fun ρ hρ b τ' w => by
    obtain ⟨a, w1, w2⟩ := fs_bind w
    unfold F_X4_reads
    rw [fs_gp ct, cl, hρ, m_skips, w1, Option.bind_some, w2, Option.bind_some]
  rcases J ρ h51 with ⟨q, σ', τ', w1, w2, w3, w4, w5, w6⟩ | ⟨z', σ', τ', w0, w1, w2, w3, w4, w5, w6, w7, w8⟩
  · have h0 : L_X1_read_7 6 (44 + t) fs_fu (nI L) 0 (fs_u σ 6 0 0) = some (0, nI q, σ') := w2
    refine ⟨nI q, σ', τ', ?_, ?_, hu σ' w5, hm ρ τ' w6, Or.inl ⟨q, w1, rfl⟩⟩
    · unfold F_X1_read
      rw [h0, Option.bind_some, if_pos rfl]
    · rw [R ρ ((h51 55 t (by omega)).trans h55) _ _ w3, if_pos rfl, w4]
  · have h0 : L_X1_read_7 6 (44 + t) fs_fu (nI L) 0 (fs_u σ 6 0 0) = some (1, 0, σ') := w1
    have h10 : ¬ ((1 : Nat) = 0) := by omega
    have F1 : F_X1_read 6 (44 + t) (nI L) σ = if (2 : Int32) ≤ nI z' then some ((-9 : Int32), σ') else some (nI L, σ') := by
      unfold F_X1_read
      rw [h0, Option.bind_some, if_neg h10]
      simp only [w5]
    have F2 := R ρ ((h51 55 t (by omega)).trans h55) _ _ w2
    rw [if_neg i10, w4, w3] at F2
    by_cases e : 2 ≤ z'
    · rw [if_pos (show (2 : Int32) ≤ nI z' from nI_le (a := 2) e (by omega))] at F1
      rw [if_neg (show ¬ nI z' ≤ (1 : Int32) from nI_ge (a := 1) (by omega) (by omega))] at F2
      exact ⟨-9, σ', τ', F1, F2, hu σ' w7, hm ρ τ' w8, Or.inr ⟨rfl, z', e, w0, w5, w4, w6⟩⟩
    · rw [if_neg (show ¬ (2 : Int32) ≤ nI z' from nI_ge (b := 2) (by omega) (by omega))] at F1
      rw [if_pos (show nI z' ≤ (1 : Int32) from nI_le (b := 1) (by omega) (by omega))] at F2
      exact ⟨nI L, σ', τ', F1, F2, hu σ' w7, hm ρ τ' w8, Or.inl ⟨L, Nat.le_refl L, rfl⟩⟩
theorem rd_both {σ : fsS} {L t : Nat} (ht : t < 4) (hL : L ≤ 60) (h55 : σ 55 t = nI L) (hx : ∀ i, i < L → σ 54 (60 * t + i) = σ (44 + t) i) : ∃ v σ1 τ1, F_X1_read 6 (44 + t) (nI L) σ = some (v, σ1) ∧ F_X4_reads (nI t) σ1 = some (v, τ1) ∧ rdC σ σ1 ∧ rdM σ1 τ1 ∧ ((∃ q, q ≤ L ∧ v = nI q) ∨ (v = -9 ∧ ∃ z, 2 ≤ z ∧ z ≤ 6 ∧ σ1 6 0 = nI z ∧ τ1 51 23 = nI z ∧ ∀ q, q < z → rc σ1 τ1 q)) := by
  obtain ⟨v0, σ0, τ0, a1, -, a3, -⟩ := rd_from ht hL h55 hx σ (fun _ _ _ => rfl)
  obtain ⟨v, σ1, τ1, b1, b2, b3, b4, b5⟩ := rd_from ht hL h55 hx σ0 (fun k j q => a3 k j (by omega) (by omega))
  have e : (v0, σ0) = (v, σ1) := Option.some.inj (a1.symm.trans b1)
  cases e
  exact ⟨v0, σ0, τ1, b1, b2, b3, b4, b5⟩
theorem Rel_rd {σ σ1 τ1 : fsS} {μ : fsL} (hr : Rel σ μ) (h1 : rdC σ σ1) (h2 : rdM σ1 τ1) : Rel τ1 μ :=
  Rel_q hr (fun k j q => h1 k j (by unfold sC at q; omega) (by unfold sC at q; omega)) (fun k j q => h2 k j (by unfold mrs; unfold sM at q; omega))
theorem rf_55 (f : Nat) (σ : fsS) (t : Nat) : rf f σ 55 t = σ 55 t := by
  unfold rf
  rw [fs_ug, if_neg (by omega), fs_ug, if_neg (by omega)]
theorem e_fault : ec_fault Rel := by
  intro a1 σ μ hr
  obtain ⟨n, d, q1, q2, q3, q4, q5, q6, hn0, hs, hk, hm⟩ := Rel_all hr
  by_cases hx : 0 ≤ a1.toInt ∧ a1.toInt < 4
  · obtain ⟨t, ht, rfl⟩ := ix (n := 4) (by decide) hx.1 hx.2
    obtain ⟨y1, y2⟩ := isText_y ht
    have c1 : fs_in (nI t) 4 := inI ht (by omega)
    have cl : (nI t).toNatClampNeg = t := nI_clamp (by omega)
    have hh := has_g 2 4 rfl (by decide) t ht σ
    obtain ⟨w1, w2⟩ := q3.2 t ht
    rcases w2 with w2 | ⟨L, v1, v2, v3⟩
    · rw [if_pos w2] at hh
      have F1 : F_X3_fault (nI t) σ = some (-3, rf 1 σ) := by
        unfold F_X3_fault
        rw [y1, if_neg i10, hh, Option.bind_some, if_pos rfl, rfu1, Option.bind_some]
      have F2 : F_X4_fault (nI t) (rf 1 σ) = some (-3, mf 1 (rf 1 σ)) := by
        unfold F_X4_fault
        rw [y2, if_neg i10, fs_gp c1, if_neg (by rw [cl, rf_55, w1, w2]; exact nzn), mfu1, Option.bind_some]
      exact ⟨-3, rf 1 σ, μ, mf 1 (rf 1 σ), μ, m_X3_fault _ σ μ _ F1, m_X4_fault _ _ μ _ F2, Rel_rf hr 1 (by decide) (by decide)⟩
    · rw [if_neg (by show ¬ σ 11 t = -1; rw [v2]; exact n1 L (by omega))] at hh
      obtain ⟨v, σ1, τ1, r1, r2, r3, r4, -⟩ := rd_both ht v1 (by rw [w1, v2]) v3
      have F1 : F_X3_fault (nI t) σ = some (v, σ1) := by
        unfold F_X3_fault
        rw [y1, if_neg i10, hh, Option.bind_some, if_neg i10, fs_gp c1, fs_gp c1, cl, v2, r1, Option.bind_some]
      have F2 : F_X4_fault (nI t) σ1 = some (v, τ1) := by
        unfold F_X4_fault
        rw [y2, if_neg i10, fs_gp c1, if_pos (by rw [cl, r3 _ _ (by omega) (by omega), w1, v2]; exact nz L (by omega)), r2, Option.bind_some]
      exact ⟨v, σ1, μ, τ1, μ, m_X3_fault _ σ μ _ F1, m_X4_fault _ _ μ _ F2, Rel_rd hr r3 r4⟩
  · obtain ⟨y1, y2⟩ := isText_n hx
    have F1 : F_X3_fault a1 σ = some (-1, σ) := by
      unfold F_X3_fault
      rw [y1, if_pos rfl]
    have F2 : F_X4_fault a1 σ = some (-1, σ) := by
      unfold F_X4_fault
      rw [y2, if_pos rfl]
    exact ⟨-1, σ, μ, σ, μ, m_X3_fault _ σ μ _ F1, m_X4_fault _ σ μ _ F2, hr⟩
/-- forgets -/
theorem w_forgets (σ : fsS) : ∃ σ', F_X4_forgets σ = some σ' ∧ σ' 60 0 = 0 ∧ (∀ i, i < 6 → σ' 60 (7 + i) = 0) ∧ σ' 51 17 = 0 ∧ (∀ k, k < 3 → σ' 64 (534 * k) = -1) ∧ ∀ k j, ¬ (k = 60 ∧ (j = 0 ∨ 7 ≤ j)) → ¬ (k = 51 ∧ j = 17) → ¬ k = 64 → σ' k j = σ k j := by
  obtain ⟨σ1, a1, a2, a3⟩ := fs_loop (fun f (x : Int32 × fsS) => L_X4_forgets_9 f x.1 x.2) (fun i x => x.1 = nI i ∧ (∀ j, j < i → x.2 60 (7 + j) = 0) ∧ ∀ k j, ¬ (k = 60 ∧ 7 ≤ j) → x.2 k j = fs_u σ 60 0 0 k j) (fun τ => (∀ j, j < 6 → τ 60 (7 + j) = 0) ∧ ∀ k j, ¬ (k = 60 ∧ 7 ≤ j) → τ k j = fs_u σ 60 0 0 k j) 6 (by
    rintro f i ⟨y, τ⟩ hi ⟨hy, g1, g2⟩
    dsimp only at hy g1 g2 ⊢
    subst hy
    left
    have e1 : (7 : Int32) + nI i = nI (7 + i) := nI_add 7 i
    refine ⟨(nI i + 1, fs_u τ 60 (7 + i) 0), ⟨nI_1 i, fun j hj => ?_, fun k j q => ?_⟩, ?_⟩
    · dsimp only
      rw [fs_ug]
      by_cases e : j = i
      · rw [if_pos ⟨rfl, by omega⟩]
      · rw [if_neg (by omega), g1 j (by omega)]
    · dsimp only
      rw [fs_ug, if_neg (by omega), g2 k j q]
    · rw [L_X4_forgets_9, if_neg (show ¬ (6 : Int32) ≤ nI i from nI_ge (b := 6) hi (by omega)), e1, fs_gp (inI (by omega) (by omega)), nI_clamp (by omega)]) (by
    rintro f ⟨y, τ⟩ ⟨hy, g1, g2⟩
    dsimp only at hy g1 g2 ⊢
    subst hy
    refine ⟨τ, ?_, g1, g2⟩
    rw [L_X4_forgets_9, if_pos (by decide)]) fs_fu 0 (0, fs_u σ 60 0 0) (Nat.zero_le _) (fs_fub _ (by omega)) ⟨rfl, fun j h => by omega, fun _ _ _ => rfl⟩
  obtain ⟨σ2, b1, b2, b3⟩ := fs_loop (fun f (x : Int32 × fsS) => L_X4_forgets_38 f x.1 x.2) (fun i x => x.1 = nI i ∧ (∀ j, j < i → x.2 64 (534 * j) = -1) ∧ ∀ k j, ¬ k = 64 → x.2 k j = fs_u σ1 51 17 0 k j) (fun τ => (∀ j, j < 3 → τ 64 (534 * j) = -1) ∧ ∀ k j, ¬ k = 64 → τ k j = fs_u σ1 51 17 0 k j) 3 (by
    rintro f i ⟨y, τ⟩ hi ⟨hy, g1, g2⟩
    dsimp only at hy g1 g2 ⊢
    subst hy
    left
    have e1 : (534 : Int32) * nI i = nI (534 * i) := pk_mul 534 i
    refine ⟨(nI i + 1, fs_u τ 64 (534 * i) (-1)), ⟨nI_1 i, fun j hj => ?_, fun k j q => ?_⟩, ?_⟩
    · dsimp only
      rw [fs_ug]
      by_cases e : j = i
      · rw [if_pos ⟨rfl, by omega⟩]
      · rw [if_neg (by omega), g1 j (by omega)]
    · dsimp only
      rw [fs_ug, if_neg (by omega), g2 k j q]
    · rw [L_X4_forgets_38, if_neg (show ¬ (3 : Int32) ≤ nI i from nI_ge (b := 3) hi (by omega)), e1, fs_gp (inI (by omega) (by omega)), nI_clamp (by omega)]) (by
    rintro f ⟨y, τ⟩ ⟨hy, g1, g2⟩
    dsimp only at hy g1 g2 ⊢
    subst hy
    refine ⟨τ, ?_, g1, g2⟩
    rw [L_X4_forgets_38, if_pos (by decide)]) fs_fu 0 (0, fs_u σ1 51 17 0) (Nat.zero_le _) (fs_fub _ (by omega)) ⟨rfl, fun j h => by omega, fun _ _ _ => rfl⟩
  dsimp only at a1 b1
  refine ⟨σ2, ?_, ?_, fun i hi => ?_, ?_, b2, fun k j h1 h2 h3 => ?_⟩
  · unfold F_X4_forgets
    rw [a1, Option.bind_some, b1, Option.bind_some]
  · rw [b3 _ _ (by omega), fs_ug, if_neg (by omega), a3 _ _ (by omega), fs_ug, if_pos ⟨rfl, rfl⟩]
  · rw [b3 _ _ (by omega), fs_ug, if_neg (by omega), a2 i hi]
  · rw [b3 _ _ (by omega), fs_ug, if_pos ⟨rfl, rfl⟩]
  · rw [b3 k j h3, fs_ug, if_neg h2, a3 k j (by omega), fs_ug, if_neg (by omega)]
