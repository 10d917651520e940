/-! digest -/
def dh (f : Nat → Int32) (h : Int64) : Nat → Int64
  | 0 => h
  | i + 1 => ((31 : Int64) * dh f h i) + (f i).toInt64
theorem dh_congr {f g : Nat → Int32} {h : Int64} : ∀ {n : Nat}, (∀ i, i < n → f i = g i) → dh f h n = dh g h n
  | 0, _ => rfl
  | n + 1, e => by
    show ((31 : Int64) * dh f h n) + (f n).toInt64 = ((31 : Int64) * dh g h n) + (g n).toInt64
    rw [dh_congr (fun i hi => e i (by omega)), e n (by omega)]
def dk (F : Nat → Nat → Int32) (h : Int64) : Nat → Int64
  | 0 => h
  | i + 1 => dh (F i) (dk F h i) 7
def dr (sz : Nat → Int32) (c : Nat → Nat → Int32) (h : Int64) : Nat → Int64
  | 0 => h
  | r + 1 => dh (c r) (((31 : Int64) * dr sz c h r) + (sz r).toInt64) (sz r).toNatClampNeg
theorem ov_fr {σ σ' : fsS} (h : ∀ k j, ¬ c5 k j → σ' k j = σ k j) (n i w : Nat) : ov σ' n i w = ov σ n i w := by
  unfold ov
  rw [show σ' 24 = σ 24 from funext fun j => h 24 j (by unfold c5; omega), show σ' 25 = σ 25 from funext fun j => h 25 j (by unfold c5; omega), show σ' 21 = σ 21 from funext fun j => h 21 j (by unfold c5; omega), show σ' 22 = σ 22 from funext fun j => h 22 j (by unfold c5; omega), show σ' 23 = σ 23 from funext fun j => h 23 j (by unfold c5; omega)]
theorem c_d6 {n : Nat} (hn : n ≤ 6) {σ : fsS} (hs : σ 5 0 = nI n) (h : Int64) : ∃ σ1, L_X3_digest_6 fs_fu h 0 σ = some (dh (cv σ n) h 11, σ1) ∧ ∀ k j, ¬ c5 k j → σ1 k j = σ k j := by
  obtain ⟨o, h1, σ1, h2, h3⟩ := fs_loop (fun f (x : Int64 × Int32 × fsS) => L_X3_digest_6 f x.1 x.2.1 x.2.2) (fun i x => x.2.1 = nI i ∧ x.1 = dh (cv σ n) h i ∧ ∀ k j, ¬ c5 k j → x.2.2 k j = σ k j) (fun o => ∃ σ1, o = (dh (cv σ n) h 11, σ1) ∧ ∀ k j, ¬ c5 k j → σ1 k j = σ k j) 11 (by
    rintro f i ⟨a, y, ρ⟩ hi ⟨hy, ha, hf⟩
    dsimp only at hy ha hf ⊢
    subst hy ha
    left
    obtain ⟨ρ', r1, r2⟩ := c_counted hn hi (σ := ρ) (by rw [hf 5 0 (by unfold c5; omega), hs])
    rw [cv_fr hf] at r1
    refine ⟨(dh (cv σ n) h (i + 1), nI i + 1, ρ'), ⟨nI_1 i, rfl, fun k j q => (r2 k j q).trans (hf k j q)⟩, ?_⟩
    rw [L_X3_digest_6, if_neg (show ¬ (10 : Int32) < nI i from nI_nlt (a := 10) (by omega) (by omega)), r1, Option.bind_some]
    rfl) (by
    rintro f ⟨a, y, ρ⟩ ⟨hy, ha, hf⟩
    dsimp only at hy ha hf ⊢
    subst hy ha
    refine ⟨_, ?_, ρ, rfl, hf⟩
    rw [L_X3_digest_6, if_pos (show (10 : Int32) < nI 11 by decide)]) fs_fu 0 (h, 0, σ) (Nat.zero_le _) (fs_fub _ (by omega)) ⟨rfl, rfl, fun _ _ _ => rfl⟩
  exact ⟨σ1, by dsimp only at h1; rw [h1, h2], h3⟩
theorem c_d50 {n i : Nat} (hn : n ≤ 6) (hi : i < n) {σ ρ0 : fsS} (hs : σ 5 0 = nI n) (h : Int64) (hρ : ∀ k j, ¬ c5 k j → ρ0 k j = σ k j) : ∃ σ1, L_X3_digest_50 fs_fu h (nI i) 0 ρ0 = some (dh (ov σ n i) h 7, σ1) ∧ ∀ k j, ¬ c5 k j → σ1 k j = σ k j := by
  obtain ⟨o, h1, σ1, h2, h3⟩ := fs_loop (fun f (x : Int64 × Int32 × fsS) => L_X3_digest_50 f x.1 (nI i) x.2.1 x.2.2) (fun w x => x.2.1 = nI w ∧ x.1 = dh (ov σ n i) h w ∧ ∀ k j, ¬ c5 k j → x.2.2 k j = σ k j) (fun o => ∃ σ1, o = (dh (ov σ n i) h 7, σ1) ∧ ∀ k j, ¬ c5 k j → σ1 k j = σ k j) 7 (by
    rintro f w ⟨a, y, ρ⟩ hw ⟨hy, ha, hf⟩
    dsimp only at hy ha hf ⊢
    subst hy ha
    left
    obtain ⟨ρ', r1, r2⟩ := c_ofOne hn hi hw (σ := ρ) (by rw [hf 5 0 (by unfold c5; omega), hs])
    rw [ov_fr hf] at r1
    refine ⟨(dh (ov σ n i) h (w + 1), nI w + 1, ρ'), ⟨nI_1 w, rfl, fun k j q => (r2 k j q).trans (hf k j q)⟩, ?_⟩
    rw [L_X3_digest_50, if_neg (show ¬ (6 : Int32) < nI w from nI_nlt (a := 6) (by omega) (by omega)), r1, Option.bind_some, dh]) (by
    rintro f ⟨a, y, ρ⟩ ⟨hy, ha, hf⟩
    dsimp only at hy ha hf ⊢
    subst hy ha
    refine ⟨_, ?_, ρ, rfl, hf⟩
    rw [L_X3_digest_50, if_pos (show (6 : Int32) < nI 7 by decide)]) fs_fu 0 (h, 0, ρ0) (Nat.zero_le _) (fs_fub _ (by omega)) ⟨rfl, rfl, hρ⟩
  exact ⟨σ1, by dsimp only at h1; rw [h1, h2], h3⟩
theorem c_d33 {n : Nat} (hn : n ≤ 6) {σ ρ0 : fsS} (hs : σ 5 0 = nI n) (h : Int64) (hρ : ∀ k j, ¬ c5 k j → ρ0 k j = σ k j) : ∃ σ1, L_X3_digest_33 fs_fu h 0 ρ0 = some (dk (ov σ n) h n, σ1) ∧ ∀ k j, ¬ c5 k j → σ1 k j = σ k j := by
  obtain ⟨o, h1, σ1, h2, h3⟩ := fs_loop (fun f (x : Int64 × Int32 × fsS) => L_X3_digest_33 f x.1 x.2.1 x.2.2) (fun i x => x.2.1 = nI i ∧ x.1 = dk (ov σ n) h i ∧ ∀ k j, ¬ c5 k j → x.2.2 k j = σ k j) (fun o => ∃ σ1, o = (dk (ov σ n) h n, σ1) ∧ ∀ k j, ¬ c5 k j → σ1 k j = σ k j) n (by
    rintro f i ⟨a, y, ρ⟩ hi ⟨hy, ha, hf⟩
    dsimp only at hy ha hf ⊢
    subst hy ha
    left
    obtain ⟨ρ', r1, r2⟩ := c_d50 hn hi hs (dk (ov σ n) h i) hf
    refine ⟨(dk (ov σ n) h (i + 1), nI i + 1, ρ'), ⟨nI_1 i, rfl, r2⟩, ?_⟩
    rw [L_X3_digest_33, hf 5 0 (by unfold c5; omega), hs, if_neg (nI_ge hi (by omega)), r1, Option.bind_some, dk]) (by
    rintro f ⟨a, y, ρ⟩ ⟨hy, ha, hf⟩
    dsimp only at hy ha hf ⊢
    subst hy ha
    refine ⟨_, ?_, ρ, rfl, hf⟩
    rw [L_X3_digest_33, hf 5 0 (by unfold c5; omega), hs, if_pos (nI_le (Nat.le_refl n) (by omega))]) fs_fu 0 (h, 0, ρ0) (Nat.zero_le _) (fs_fub _ (by omega)) ⟨rfl, rfl, hρ⟩
  exact ⟨σ1, by dsimp only at h1; rw [h1, h2], h3⟩
theorem c_d86 (σ : fsS) (h : Int64) : L_X3_digest_86 fs_fu h 0 σ = some (dh (σ 13) h 3) := by
  obtain ⟨o, h1, h2⟩ := fs_loop (fun f (x : Int64 × Int32) => L_X3_digest_86 f x.1 x.2 σ) (fun i x => x.2 = nI i ∧ x.1 = dh (σ 13) h i) (fun o => o = dh (σ 13) h 3) 3 (by
    rintro f i ⟨a, y⟩ hi ⟨hy, ha⟩
    dsimp only at hy ha ⊢
    subst hy ha
    left
    refine ⟨(dh (σ 13) h (i + 1), nI i + 1), ⟨nI_1 i, rfl⟩, ?_⟩
    rw [L_X3_digest_86, if_neg (show ¬ (3 : Int32) ≤ nI i from nI_ge (b := 3) hi (by omega)), fs_gp (inI (by omega) (by omega)), nI_clamp (by omega), dh]) (by
    rintro f ⟨a, y⟩ ⟨hy, ha⟩
    dsimp only at hy ha ⊢
    subst hy ha
    refine ⟨_, ?_, rfl⟩
    rw [L_X3_digest_86, if_pos (show (3 : Int32) ≤ nI 3 by decide)]) fs_fu 0 (h, 0) (Nat.zero_le _) (fs_fub _ (by omega)) ⟨rfl, rfl⟩
  dsimp only at h1
  rw [h1, h2]
theorem c_mix (o b N cap : Nat) (hb : fs_rb (34 + o) = (b, N)) (hl : fs_len (9 + o) = N) (hc : ∀ r, r < N → fs_len (b + r) = cap) (hN : N < 100) (hcap : cap < 100) {σ : fsS} (hz : ∀ r, r < N → σ (9 + o) r = -1 ∨ ∃ z, z ≤ cap ∧ σ (9 + o) r = nI z) (h : Int64) : F_X2_mixInto o h σ = some (dr (σ (9 + o)) (fun r => σ (b + r)) h N) := by
  have inner : ∀ r, r < N → ∀ h0 : Int64, L_X2_mixInto_33 o fs_fu h0 (nI r) 0 σ = some (dh (σ (b + r)) h0 (σ (9 + o) r).toNatClampNeg) := by
    intro r hr h0
    have c1 : fs_in (nI r) N := inI hr (by omega)
    have c2 : (nI r).toNatClampNeg = r := nI_clamp (by omega)
    rcases hz r hr with e | ⟨z, hz', e⟩
    · have : ∀ f, L_X2_mixInto_33 o (f + 1) h0 (nI r) 0 σ = some h0 := fun f => by
        rw [L_X2_mixInto_33]
        simp only [hl, fs_gp c1, c2, e, if_pos (show (-1 : Int32) ≤ 0 by decide)]
      rw [e]
      exact this 99999
    · rw [e, nI_clamp (by omega)]
      obtain ⟨v, h1, h2⟩ := fs_loop (fun f (x : Int64 × Int32) => L_X2_mixInto_33 o f x.1 (nI r) x.2 σ) (fun i x => x.2 = nI i ∧ x.1 = dh (σ (b + r)) h0 i) (fun v => v = dh (σ (b + r)) h0 z) z (by
        rintro f i ⟨a, y⟩ hi ⟨hy, ha⟩
        dsimp only at hy ha ⊢
        subst hy ha
        left
        refine ⟨(dh (σ (b + r)) h0 (i + 1), nI i + 1), ⟨nI_1 i, rfl⟩, ?_⟩
        have c3 : fs_in (nI i) (fs_len (b + r)) := by rw [hc r hr]; exact inI (by omega) (by omega)
        rw [L_X2_mixInto_33]
        simp only [hb, hl, fs_gp c1, c2, e, if_neg (nI_ge hi (by omega : z < 2 ^ 31)), fs_gp c3, nI_clamp (n := i) (by omega)]
        rw [dh]) (by
        rintro f ⟨a, y⟩ ⟨hy, ha⟩
        dsimp only at hy ha ⊢
        subst hy ha
        refine ⟨_, ?_, rfl⟩
        rw [L_X2_mixInto_33]
        simp only [hl, fs_gp c1, c2, e, if_pos (nI_le (Nat.le_refl z) (by omega : z < 2 ^ 31))]) fs_fu 0 (h0, 0) (Nat.zero_le _) (fs_fub _ (by omega)) ⟨rfl, rfl⟩
      dsimp only at h1
      rw [h1, h2]
  obtain ⟨c, hcc⟩ : ∃ c : Nat → Nat → Int32, c = fun r => σ (b + r) := ⟨_, rfl⟩
  rw [← hcc]
  obtain ⟨v, h1, h2⟩ := fs_loop (fun f (x : Int64 × Int32) => L_X2_mixInto_5 o f x.1 x.2 σ) (fun r x => x.2 = nI r ∧ x.1 = dr (σ (9 + o)) c h r) (fun v => v = dr (σ (9 + o)) c h N) N (by
    rintro f r ⟨a, y⟩ hr ⟨hy, ha⟩
    dsimp only at hy ha ⊢
    subst hy ha
    left
    refine ⟨(dr (σ (9 + o)) c h (r + 1), nI r + 1), ⟨nI_1 r, rfl⟩, ?_⟩
    have c1 : fs_in (nI r) N := inI hr (by omega)
    rw [L_X2_mixInto_5]
    simp only [hl, if_neg (show ¬ Int32.ofNat N ≤ nI r from nI_ge hr (by omega)), fs_gp c1, nI_clamp (n := r) (by omega), inner r hr, Option.bind_some]
    rw [dr, hcc]) (by
    rintro f ⟨a, y⟩ ⟨hy, ha⟩
    dsimp only at hy ha ⊢
    subst hy ha
    refine ⟨_, ?_, rfl⟩
    rw [L_X2_mixInto_5, hl, if_pos (show Int32.ofNat N ≤ nI N from nI_le (Nat.le_refl N) (by omega))]) fs_fu 0 (h, 0) (Nat.zero_le _) (fs_fub _ (by omega)) ⟨rfl, rfl⟩
  unfold F_X2_mixInto
  dsimp only at h1
  rw [h1, h2, Option.bind_some]
