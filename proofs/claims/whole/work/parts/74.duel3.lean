def dM (k : Nat) : Prop := k = 61 ∨ k = 62 ∨ 65 ≤ k
theorem kb_dS {n i j w : Nat} {kd lk wa s p : Nat → Int32} (h : kb n kd lk wa s p) (hw : w < 16) : kb n kd lk wa (dS s i j w) p := by
  refine ⟨h.1, fun x hx => ?_⟩
  obtain ⟨h1, h2, h3, h4, h5⟩ := h.2 x hx
  refine ⟨h1, h2, h3, ?_, h5⟩
  rw [dS_g]
  by_cases e : x = j
  · rw [if_pos e]; exact ⟨w % 4, by omega, rfl⟩
  · rw [if_neg e]
    by_cases e2 : x = i
    · rw [if_pos e2]; exact ⟨w / 4, by omega, rfl⟩
    · rw [if_neg e2]; exact h4
theorem m_l38 {n i j : Nat} {kd lk wa s p : Nat → Int32} (hk : kb n kd lk wa s p) (hi : i < n) (hj : j < n) (y3 : Int32) {σ : fsS} (hv : mv σ 60 n kd lk wa s p) : ∃ τ, L_X4_duel_38 fs_fu (nI i) (nI j) y3 0 σ = some τ ∧ (∀ w, w < 16 → τ 66 w = dE n kd lk wa s p i j w) ∧ ∀ k x, ¬ dM k → τ k x = σ k x := by
  have hn := hk.1
  have a1 : (7 : Int32) + nI i = nI (7 + i) := nI_add 7 i
  have a2 : (7 : Int32) + nI j = nI (7 + j) := nI_add 7 j
  have a3 : (1 : Int32) + nI i = nI (1 + i) := nI_add 1 i
  have a4 : (1 : Int32) + nI j = nI (1 + j) := nI_add 1 j
  have c1 : fs_in (nI (7 + i)) 13 := vp_in_nI (by omega) (by omega)
  have c2 : fs_in (nI (7 + j)) 13 := vp_in_nI (by omega) (by omega)
  have c3 : fs_in (nI (1 + i)) 13 := vp_in_nI (by omega) (by omega)
  have c4 : fs_in (nI (1 + j)) 13 := vp_in_nI (by omega) (by omega)
  have d5 : (nI (7 + i)).toNatClampNeg = 7 + i := nI_clamp (by omega)
  have d6 : (nI (7 + j)).toNatClampNeg = 7 + j := nI_clamp (by omega)
  have d7 : (nI (1 + i)).toNatClampNeg = 1 + i := nI_clamp (by omega)
  have d8 : (nI (1 + j)).toNatClampNeg = 1 + j := nI_clamp (by omega)
  refine fs_loop (fun f (x : Int32 × fsS) => L_X4_duel_38 f (nI i) (nI j) y3 x.1 x.2) (fun w x => x.1 = nI w ∧ (∀ v, v < w → x.2 66 v = dE n kd lk wa s p i j v) ∧ ∀ k y, ¬ dM k → x.2 k y = σ k y) (fun τ => (∀ w, w < 16 → τ 66 w = dE n kd lk wa s p i j w) ∧ ∀ k x, ¬ dM k → τ k x = σ k x) 16 ?_ ?_ fs_fu 0 (0, σ) (Nat.zero_le _) (fs_fub _ (by omega)) ⟨rfl, fun v h => by omega, fun _ _ _ => rfl⟩
  · rintro f w ⟨y, ρ⟩ hw ⟨hy, hvv, hf⟩
    dsimp only at hy hvv hf ⊢
    subst hy
    left
    have d1 : ¬ (16 : Int32) ≤ nI w := nI_ge (b := 16) hw (by omega)
    have d2 : fs_in (nI w) 16 := vp_in_nI hw (by omega)
    have d3 : (nI w).toNatClampNeg = w := nI_clamp (by omega)
    have hv' : mv ρ 60 n kd lk wa s p := mv_fr hv (fun k j q => hf k j (by unfold dM; omega))
    obtain ⟨q6, g1, g2⟩ := m_aside hn hv'
    obtain ⟨qb, hqb⟩ : ∃ q, q = fs_u (fs_u q6 61 (7 + i) (nI (w / 4))) 61 (7 + j) (nI (w % 4)) := ⟨_, rfl⟩
    have hB : ∀ k x, qb k x = if k = 61 ∧ x = 7 + j then nI (w % 4) else if k = 61 ∧ x = 7 + i then nI (w / 4) else q6 k x := fun k x => by
      rw [hqb, fs_ug, fs_ug]
    have hA : am n kd lk wa (dS s i j w) p ρ 0 qb := by
      refine ⟨⟨?_, fun x hx => ?_⟩, fun k x k1 k2 => ?_⟩
      · rw [hB, if_neg (by omega), if_neg (by omega), g2.1.1]
      · obtain ⟨p1, p2, p3, p4, p5⟩ := g2.1.2 x hx
        refine ⟨?_, ?_, ?_, ?_, ?_⟩
        · rw [hB, if_neg (by omega), if_neg (by omega), p1]
        · rw [hB, if_neg (by omega), if_neg (by omega), p2]
        · rw [hB, if_neg (by omega), if_neg (by omega), p3]
        · rw [hB, dS_g]
          by_cases e1 : x = j
          · rw [if_pos (by omega), if_pos e1]
          · rw [if_neg (by omega), if_neg e1]
            by_cases e2 : x = i
            · rw [if_pos (by omega), if_pos e2]
            · rw [if_neg (by omega), if_neg e2, p4]
        · rw [hB, if_neg (by omega), if_neg (by omega), p5]
          rfl
      · rw [hB, if_neg (by omega), if_neg (by omega), g2.2 k x k1 k2]
    obtain ⟨q9, b1, b2⟩ := w_givesIn (kb_dS hk hw) hA (m := 4) (by omega)
    refine ⟨(nI w + 1, fs_u q9 66 w (dE n kd lk wa s p i j w)), ⟨nI_1 w, fun v hvw => ?_, fun k x hk' => ?_⟩, ?_⟩
    · dsimp only
      rw [fs_ug]
      by_cases e : v = w
      · rw [if_pos ⟨rfl, e⟩, e]
      · rw [if_neg (fun q => e q.2), b2.2 66 v (by omega) (by omega), hvv v (by omega)]
    · dsimp only
      unfold dM at hk'
      rw [fs_ug, if_neg (by omega), b2.2 k x (by omega) (by omega), hf k x (by unfold dM; omega)]
    · rw [L_X4_duel_38, if_neg d1, g1, Option.bind_some]
      simp only [a1, a2, a3, a4, fs_gp c1, fs_gp c2, fs_gp c3, fs_gp c4, d5, d6, d7, d8, fs_gp d2, d3, (t4 w hw).1, t4e hw]
      rw [← hqb, show (4 : Int32) = nI 4 from rfl, b1, Option.bind_some]
      dsimp only
      rw [(b2.1.2 i hi).2.2.2.2, (b2.1.2 j hj).2.2.2.2]
      rfl
  · rintro f ⟨y, ρ⟩ ⟨hy, hvv, hf⟩
    dsimp only at hy hvv hf ⊢
    subst hy
    refine ⟨ρ, ?_, hvv, hf⟩
    rw [L_X4_duel_38, if_pos (show (16 : Int32) ≤ nI 16 by decide)]
theorem m_l123 {t : Nat} (ht : t < 100) (y1 y2 : Int32) (σ : fsS) : ∃ τ, L_X4_duel_123 fs_fu y1 y2 (nI (t + 1)) 0 σ = some τ ∧ (∀ w, w < 16 → τ 67 w = dstep t (σ 66) w) ∧ ∀ k x, ¬ k = 67 → τ k x = σ k x := by
  refine fs_loop (fun f (x : Int32 × fsS) => L_X4_duel_123 f y1 y2 (nI (t + 1)) x.1 x.2) (fun w x => x.1 = nI w ∧ (∀ v, v < w → x.2 67 v = dstep t (σ 66) v) ∧ ∀ k y, ¬ k = 67 → x.2 k y = σ k y) (fun τ => (∀ w, w < 16 → τ 67 w = dstep t (σ 66) w) ∧ ∀ k x, ¬ k = 67 → τ k x = σ k x) 16 ?_ ?_ fs_fu 0 (0, σ) (Nat.zero_le _) (fs_fub _ (by omega)) ⟨rfl, fun v h => by omega, fun _ _ _ => rfl⟩
  · rintro f w ⟨y, ρ⟩ hw ⟨hy, hv, hf⟩
    dsimp only at hy hv hf ⊢
    subst hy
    left
    have d1 : ¬ (16 : Int32) ≤ nI w := nI_ge (b := 16) hw (by omega)
    have d2 : fs_in (nI w) 16 := vp_in_nI hw (by omega)
    have e8 : ρ 66 = σ 66 := funext fun j => hf 66 j (by omega)
    refine ⟨(nI w + 1, fs_u ρ 67 w (dstep t (σ 66) w)), ⟨nI_1 w, fun v hvw => ?_, fun k x hk => ?_⟩, ?_⟩
    · dsimp only
      rw [fs_ug]
      by_cases e : v = w
      · rw [if_pos ⟨rfl, e⟩, e]
      · rw [if_neg (fun q => e q.2), hv v (by omega)]
    · dsimp only
      rw [fs_ug, if_neg (fun q => hk q.1), hf k x hk]
    · rw [L_X4_duel_123, if_neg d1, show nI (t + 1) - nI (t + 1) / (2 : Int32) * (2 : Int32) = nI ((t + 1) % 2) from pk_rem (d := 2) (by omega) (by omega) (by omega), m_w1 hw, m_w2 hw, Option.bind_some, Option.bind_some, fs_gp d2, fs_gp d2, nI_clamp (by omega), e8]
      unfold dstep
      by_cases e : t % 2 = 0
      · rw [if_pos e, if_pos (by rw [show (t + 1) % 2 = 1 by omega]; rfl)]
      · rw [if_neg e, if_neg (by rw [show (t + 1) % 2 = 0 by omega]; decide)]
  · rintro f ⟨y, ρ⟩ ⟨hy, hv, hf⟩
    dsimp only at hy hv hf ⊢
    subst hy
    refine ⟨ρ, ?_, hv, hf⟩
    rw [L_X4_duel_123, if_pos (show (16 : Int32) ≤ nI 16 by decide)]
theorem m_l115 {N : Nat} (hN : N ≤ 6) (y1 y2 : Int32) {D : Nat → Int32} {σ : fsS} (h7 : ∀ w, w < 16 → σ 66 w = D w) : ∃ τ, L_X4_duel_115 fs_fu y1 y2 (nI N) σ = some τ ∧ (∀ w, w < 16 → τ 66 w = dv D N N w) ∧ ∀ k x, ¬ dM k → τ k x = σ k x := by
  refine fs_loop (fun f (x : Int32 × fsS) => L_X4_duel_115 f y1 y2 x.1 x.2) (fun t x => x.1 = nI (N - t) ∧ (∀ v, v < 16 → x.2 66 v = dv D N t v) ∧ ∀ k y, ¬ dM k → x.2 k y = σ k y) (fun τ => (∀ w, w < 16 → τ 66 w = dv D N N w) ∧ ∀ k x, ¬ dM k → τ k x = σ k x) N ?_ ?_ fs_fu 0 (nI N, σ) (Nat.zero_le _) (fs_fub _ (by omega)) ⟨rfl, h7, fun _ _ _ => rfl⟩
  · rintro f t ⟨y, ρ⟩ ht ⟨hy, hv, hf⟩
    dsimp only at hy hv hf ⊢
    have hy' : y = nI (N - t - 1 + 1) := by rw [hy, show N - t = (N - t - 1) + 1 by omega]; rfl
    left
    obtain ⟨ρ', r1, r2, r3⟩ := m_l123 (t := N - t - 1) (by omega) y1 y2 ρ
    obtain ⟨ρ2, s1, s2⟩ := w_copies (a0 := 67) (a2 := 66) (by omega) (i := 0) (j := 0) (m := 16) (by decide) (by decide) (by decide) (by decide) ρ'
    refine ⟨(y + -1, ρ2), ⟨?_, fun v hvw => ?_, fun k x hk => ?_⟩, ?_⟩
    · dsimp only
      rw [hy', ← Int32.sub_eq_add_neg, nI_pred, show N - (t + 1) = N - t - 1 by omega]
    · dsimp only
      rw [s2, if_pos (by omega), show 0 + (v - 0) = v by omega, r2 v hvw]
      exact dstep_congr (fun w hw => hv w hw) _ hvw
    · dsimp only
      unfold dM at hk
      rw [s2, if_neg (by omega), r3 k x (by omega), hf k x (by unfold dM; omega)]
    · rw [L_X4_duel_115, hy', if_neg (nI_nle (by omega) (by omega)), r1, Option.bind_some, show (0 : Int32) = nI 0 from rfl, show (16 : Int32) = nI 16 from rfl, s1, Option.bind_some]
  · rintro f ⟨y, ρ⟩ ⟨hy, hv, hf⟩
    dsimp only at hy hv hf ⊢
    refine ⟨ρ, ?_, hv, hf⟩
    rw [L_X4_duel_115, hy, Nat.sub_self, if_pos (by decide)]
