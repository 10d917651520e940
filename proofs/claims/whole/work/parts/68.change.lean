/-! change -/
def sw (lk : Nat → Int32) (a b : Nat) : Nat → Int32 := fun i => if i = b then lk a else if i = a then lk b else lk i
def chI (g tg : Nat → Int32) : Nat → Int32 × Int32 → Int32 × Int32
  | 0, x => x
  | k + 1, x => if (chI g tg k x).1 ≤ g k then chI g tg k x else (g k, tg k)
def chO (n : Nat) (G : Nat → Nat → Int32) (x : Int32) : Nat → Int32 × Int32
  | 0 => (x, -9)
  | a + 1 => chI (fun k => G a (a + 1 + k)) (fun k => ((10 : Int32) * nI a) + nI (a + 1 + k)) (n - (a + 1)) (chO n G x a)
theorem kb_sw {n a b : Nat} {kd lk wa s p : Nat → Int32} (h : kb n kd lk wa s p) (ha : a < n) (hb : b < n) : kb n kd (sw lk a b) wa s p := by
  refine ⟨h.1, fun i hi => ?_⟩
  obtain ⟨h1, h2, h3, h4, h5⟩ := h.2 i hi
  refine ⟨h1, ?_, h3, h4, h5⟩
  unfold sw
  by_cases e : i = b
  · rw [if_pos e]; exact (h.2 a ha).2.1
  · rw [if_neg e]
    by_cases e2 : i = a
    · rw [if_pos e2]; exact (h.2 b hb).2.1
    · rw [if_neg e2]; exact h2
theorem c_gic {n a b m : Nat} (hn : n ≤ 6) (ha : a < 6) (hb : b < 6) (hm : m ≤ 100) {τ : fsS} (hs : τ 5 0 = nI n) : ∃ τ', F_X3_givenIfChanged (nI a) (nI b) (nI m) τ = some (gs n (τ 21) (sw (τ 22) a b) (τ 23) (τ 25) (τ 24) m, τ') ∧ ∀ k j, ¬ (k = 6 ∨ (28 ≤ k ∧ k < 35)) → τ' k j = τ k j := by
  obtain ⟨σa, h1, h2, h3, h4⟩ := c_aside hn hs
  have c1 : fs_in (nI a) 6 := vp_in_nI ha (by omega)
  have c2 : fs_in (nI b) 6 := vp_in_nI hb (by omega)
  have c3 : (nI a).toNatClampNeg = a := nI_clamp (by omega)
  have c4 : (nI b).toNatClampNeg = b := nI_clamp (by omega)
  obtain ⟨σb, hσb⟩ : ∃ σb, σb = fs_u (fs_u σa 29 a (σa 22 b)) 29 b (σa 22 a) := ⟨_, rfl⟩
  have hB : ∀ k j, σb k j = if k = 29 ∧ j = b then τ 22 a else if k = 29 ∧ j = a then τ 22 b else σa k j := fun k j => by
    rw [hσb, fs_ug, fs_ug, h4 22 a (by omega), h4 22 b (by omega)]
  obtain ⟨σ', g1, g2⟩ := w_passAll (o := 6) (Or.inr (Or.inr rfl)) hn (σ := σb) (by rw [hB, if_neg (by omega), if_neg (by omega), h2]) hm
  have e : gso σb 6 n m = gs n (τ 21) (sw (τ 22) a b) (τ 23) (τ 25) (τ 24) m := by
    unfold gso
    refine gs_congr (fun i hi => ?_) (fun i hi => ?_) (fun i hi => ?_) (fun i hi => ?_) (fun i hi => ?_) m
    · show σb 28 i = _
      rw [hB, if_neg (by omega), if_neg (by omega), (h3 i (by omega)).1]
    · show σb 29 i = _
      rw [hB]
      unfold sw
      by_cases e1 : i = b
      · rw [if_pos ⟨rfl, e1⟩, if_pos e1]
      · rw [if_neg (fun q => e1 q.2), if_neg e1]
        by_cases e2 : i = a
        · rw [if_pos ⟨rfl, e2⟩, if_pos e2]
        · rw [if_neg (fun q => e2 q.2), if_neg e2, (h3 i (by omega)).2.1]
    · show σb 30 i = _
      rw [hB, if_neg (by omega), if_neg (by omega), (h3 i (by omega)).2.2.1]
    · show σb 32 i = _
      rw [hB, if_neg (by omega), if_neg (by omega), (h3 i (by omega)).2.2.2.2]
    · show σb 31 i = _
      rw [hB, if_neg (by omega), if_neg (by omega), (h3 i (by omega)).2.2.2.1]
  refine ⟨σ', ?_, fun k j hk => ?_⟩
  · unfold F_X3_givenIfChanged
    rw [h1, Option.bind_some, fs_gp c2, fs_gp c1, fs_gp c1, fs_gp c2, c3, c4, ← hσb, g1, Option.bind_some, e]
  · rw [g2.2 k j (by omega), hB, if_neg (by omega), if_neg (by omega), h4 k j hk]
theorem c_ch1 {n m a : Nat} (hn : n ≤ 6) (hm : m ≤ 100) (ha : a < n) {σ : fsS} (hs : σ 5 0 = nI n) {G : Nat → Nat → Int32} (hG : ∀ a b, G a b = gs n (σ 21) (sw (σ 22) a b) (σ 23) (σ 25) (σ 24) m) (x : Int32 × Int32) {τ : fsS} (hτ : ∀ k j, ¬ (k = 6 ∨ (28 ≤ k ∧ k < 35)) → τ k j = σ k j) : ∃ τ', L_X3_change_61 fs_fu (nI m) (nI n) x.1 x.2 (nI a) (nI (a + 1)) τ = some ((chI (fun k => G a (a + 1 + k)) (fun k => ((10 : Int32) * nI a) + nI (a + 1 + k)) (n - (a + 1)) x).1, (chI (fun k => G a (a + 1 + k)) (fun k => ((10 : Int32) * nI a) + nI (a + 1 + k)) (n - (a + 1)) x).2, τ') ∧ ∀ k j, ¬ (k = 6 ∨ (28 ≤ k ∧ k < 35)) → τ' k j = σ k j := by
  obtain ⟨g, hg⟩ : ∃ g : Nat → Int32, g = fun k => G a (a + 1 + k) := ⟨_, rfl⟩
  obtain ⟨tg, htg⟩ : ∃ g : Nat → Int32, g = fun k => ((10 : Int32) * nI a) + nI (a + 1 + k) := ⟨_, rfl⟩
  rw [← hg, ← htg]
  obtain ⟨o, h1, τ', h2, h3⟩ := fs_loop (fun f (x : Int32 × Int32 × Int32 × fsS) => L_X3_change_61 f (nI m) (nI n) x.1 x.2.1 (nI a) x.2.2.1 x.2.2.2) (fun k y => y.2.2.1 = nI (a + 1 + k) ∧ y.1 = (chI g tg k x).1 ∧ y.2.1 = (chI g tg k x).2 ∧ ∀ k j, ¬ (k = 6 ∨ (28 ≤ k ∧ k < 35)) → y.2.2.2 k j = σ k j) (fun o => ∃ τ', o = ((chI g tg (n - (a + 1)) x).1, (chI g tg (n - (a + 1)) x).2, τ') ∧ ∀ k j, ¬ (k = 6 ∨ (28 ≤ k ∧ k < 35)) → τ' k j = σ k j) (n - (a + 1)) (by
    rintro f k ⟨u, v, y, ρ⟩ hk ⟨hy, hu, hv, hf⟩
    dsimp only at hy hu hv hf ⊢
    subst hy hu hv
    left
    have d1 : ¬ nI n ≤ nI (a + 1 + k) := nI_ge (by omega) (by omega)
    obtain ⟨ρ', r1, r2⟩ := c_gic hn (a := a) (b := a + 1 + k) (by omega) (by omega) hm (τ := ρ) (by rw [hf 5 0 (by omega), hs])
    have eG : gs n (ρ 21) (sw (ρ 22) a (a + 1 + k)) (ρ 23) (ρ 25) (ρ 24) m = g k := by
      rw [hg]
      dsimp only
      rw [hG, show ρ 21 = σ 21 from funext fun j => hf 21 j (by omega), show ρ 22 = σ 22 from funext fun j => hf 22 j (by omega), show ρ 23 = σ 23 from funext fun j => hf 23 j (by omega), show ρ 24 = σ 24 from funext fun j => hf 24 j (by omega), show ρ 25 = σ 25 from funext fun j => hf 25 j (by omega)]
    rw [eG] at r1
    have ft : ((10 : Int32) * nI a) + nI (a + 1 + k) = tg k := by rw [htg]
    have fr : ∀ k j, ¬ (k = 6 ∨ (28 ≤ k ∧ k < 35)) → ρ' k j = σ k j := fun k j q => by rw [r2 k j q, hf k j q]
    by_cases hc : (chI g tg k x).1 ≤ g k
    · have e : chI g tg (k + 1) x = chI g tg k x := if_pos hc
      refine ⟨((chI g tg k x).1, (chI g tg k x).2, nI (a + 1 + k) + 1, ρ'), ⟨nI_1 _, by rw [e], by rw [e], fr⟩, ?_⟩
      simp only [L_X3_change_61, if_neg d1, r1, Option.bind_some, if_pos hc]
    · have e : chI g tg (k + 1) x = (g k, tg k) := if_neg hc
      refine ⟨(g k, tg k, nI (a + 1 + k) + 1, ρ'), ⟨nI_1 _, by rw [e], by rw [e], fr⟩, ?_⟩
      simp only [L_X3_change_61, if_neg d1, r1, Option.bind_some, if_neg hc, ft]) (by
    rintro f ⟨u, v, y, ρ⟩ ⟨hy, hu, hv, hf⟩
    dsimp only at hy hu hv hf ⊢
    subst hy hu hv
    refine ⟨_, ?_, ρ, rfl, hf⟩
    simp only [L_X3_change_61, show a + 1 + (n - (a + 1)) = n by omega, if_pos (nI_le (Nat.le_refl n) (by omega))]) fs_fu 0 (x.1, x.2, nI (a + 1), τ) (Nat.zero_le _) (fs_fub _ (by omega)) ⟨rfl, rfl, rfl, hτ⟩
  exact ⟨τ', by dsimp only at h1; rw [h1, h2], h3⟩
theorem c_ch2 {n m : Nat} (hn : n ≤ 6) (hm : m ≤ 100) {σ : fsS} (hs : σ 5 0 = nI n) {G : Nat → Nat → Int32} (hG : ∀ a b, G a b = gs n (σ 21) (sw (σ 22) a b) (σ 23) (σ 25) (σ 24) m) (x : Int32) {τ : fsS} (hτ : ∀ k j, ¬ (k = 6 ∨ (28 ≤ k ∧ k < 35)) → τ k j = σ k j) : ∃ τ', L_X3_change_49 fs_fu (nI m) (nI n) x (-9) 0 τ = some ((chO n G x n).1, (chO n G x n).2, τ') ∧ ∀ k j, ¬ (k = 6 ∨ (28 ≤ k ∧ k < 35)) → τ' k j = σ k j := by
  obtain ⟨o, h1, τ', h2, h3⟩ := fs_loop (fun f (x : Int32 × Int32 × Int32 × fsS) => L_X3_change_49 f (nI m) (nI n) x.1 x.2.1 x.2.2.1 x.2.2.2) (fun a y => y.2.2.1 = nI a ∧ y.1 = (chO n G x a).1 ∧ y.2.1 = (chO n G x a).2 ∧ ∀ k j, ¬ (k = 6 ∨ (28 ≤ k ∧ k < 35)) → y.2.2.2 k j = σ k j) (fun o => ∃ τ', o = ((chO n G x n).1, (chO n G x n).2, τ') ∧ ∀ k j, ¬ (k = 6 ∨ (28 ≤ k ∧ k < 35)) → τ' k j = σ k j) n (by
    rintro f a ⟨u, v, y, ρ⟩ ha ⟨hy, hu, hv, hf⟩
    dsimp only at hy hu hv hf ⊢
    subst hy hu hv
    left
    have d1 : ¬ nI n ≤ nI a := nI_ge (by omega) (by omega)
    obtain ⟨ρ', r1, r2⟩ := c_ch1 hn hm ha hs hG (chO n G x a) hf
    refine ⟨((chO n G x (a + 1)).1, (chO n G x (a + 1)).2, nI (a + 1), ρ'), ⟨rfl, rfl, rfl, r2⟩, ?_⟩
    simp only [L_X3_change_49, if_neg d1, nI_1, r1, Option.bind_some]
    rfl) (by
    rintro f ⟨u, v, y, ρ⟩ ⟨hy, hu, hv, hf⟩
    dsimp only at hy hu hv hf ⊢
    subst hy hu hv
    refine ⟨_, ?_, ρ, rfl, hf⟩
    simp only [L_X3_change_49, if_pos (nI_le (Nat.le_refl n) (by omega))]) fs_fu 0 (x, -9, 0, τ) (Nat.zero_le _) (fs_fub _ (by omega)) ⟨rfl, rfl, rfl, hτ⟩
  exact ⟨τ', by dsimp only at h1; rw [h1, h2], h3⟩
