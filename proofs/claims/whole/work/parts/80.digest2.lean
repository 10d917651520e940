theorem m_d6 {n : Nat} {σ τ : fsS} (hc : cm σ τ n) (h : Int64) : ∃ τ1, L_X4_digest_6 fs_fu h 0 τ = some (dh (cv σ n) h 11, τ1) ∧ ∀ k j, ¬ k = 62 → τ1 k j = τ k j := by
  obtain ⟨o, h1, σ1, h2, h3⟩ := fs_loop (fun f (x : Int64 × Int32 × fsS) => L_X4_digest_6 f x.1 x.2.1 x.2.2) (fun i x => x.2.1 = nI i ∧ x.1 = dh (cv σ n) h i ∧ ∀ k j, ¬ k = 62 → x.2.2 k j = τ k j) (fun o => ∃ σ1, o = (dh (cv σ n) h 11, σ1) ∧ ∀ k j, ¬ k = 62 → σ1 k j = τ k j) 11 (by
    rintro f i ⟨a, y, ρ⟩ hi ⟨hy, ha, hf⟩
    dsimp only at hy ha hf ⊢
    subst hy ha
    left
    obtain ⟨ρ', r1, r2⟩ := m_count hi (cm_fr hc hf)
    refine ⟨(dh (cv σ n) h (i + 1), nI i + 1, ρ'), ⟨nI_1 i, rfl, fun k j q => (r2 k j q).trans (hf k j q)⟩, ?_⟩
    rw [L_X4_digest_6, if_neg (show ¬ (11 : Int32) ≤ nI i from nI_ge (b := 11) (by omega) (by omega)), r1, Option.bind_some]
    rfl) (by
    rintro f ⟨a, y, ρ⟩ ⟨hy, ha, hf⟩
    dsimp only at hy ha hf ⊢
    subst hy ha
    refine ⟨_, ?_, ρ, rfl, hf⟩
    rw [L_X4_digest_6, if_pos (show (11 : Int32) ≤ nI 11 by decide)]) fs_fu 0 (h, 0, τ) (Nat.zero_le _) (fs_fub _ (by omega)) ⟨rfl, rfl, fun _ _ _ => rfl⟩
  exact ⟨σ1, by dsimp only at h1; rw [h1, h2], h3⟩
theorem dh7 (f : Nat → Int32) (h : Int64) : dh f h 7 = (((31 : Int64) * (((31 : Int64) * (((31 : Int64) * (((31 : Int64) * (((31 : Int64) * (((31 : Int64) * (((31 : Int64) * h) + ((f 0).toInt64))) + ((f 1).toInt64))) + ((f 2).toInt64))) + ((f 3).toInt64))) + ((f 4).toInt64))) + ((f 5).toInt64))) + ((f 6).toInt64)) := rfl
theorem m_d33 {n : Nat} {σ τ : fsS} (hc : cm σ τ n) (h : Int64) : ∃ τ1, L_X4_digest_33 fs_fu h 0 τ = some (dk (ov σ n) h n, τ1) ∧ ∀ k j, ¬ k = 62 → τ1 k j = τ k j := by
  have hn := hc.1.1
  obtain ⟨o, h1, σ1, h2, h3⟩ := fs_loop (fun f (x : Int64 × Int32 × fsS) => L_X4_digest_33 f x.1 x.2.1 x.2.2) (fun i x => x.2.1 = nI i ∧ x.1 = dk (ov σ n) h i ∧ ∀ k j, ¬ k = 62 → x.2.2 k j = τ k j) (fun o => ∃ σ1, o = (dk (ov σ n) h n, σ1) ∧ ∀ k j, ¬ k = 62 → σ1 k j = τ k j) n (by
    rintro f i ⟨a, y, ρ⟩ hi ⟨hy, ha, hf⟩
    dsimp only at hy ha hf ⊢
    subst hy ha
    left
    have hc' := cm_fr hc hf
    have hk := hc'.1
    have hm := hc'.2.1
    obtain ⟨p1, p2, p3, p4, p5⟩ := hm.2 i hi
    obtain ⟨⟨b, hb, eb⟩, -⟩ := hk.2 i hi
    have r1 := m_regardAs hk hi hm hb (x := ρ 57 i) (by rw [p1, eb])
    obtain ⟨ρ', s1, s2⟩ := m_paid hk hi hm
    have e5 : F_X1_regardOf (nI b) (σ 22 i) (σ 25 i) (σ 24 i) = ov σ n i 5 := by
      rw [ov5, ← eb]
      rfl
    rw [e5] at r1
    rw [← ov6] at s1
    refine ⟨(dk (ov σ n) h (i + 1), nI i + 1, ρ'), ⟨nI_1 i, rfl, fun k j q => (s2 k j q).trans (hf k j q)⟩, ?_⟩
    have c1 : fs_in (nI i) 6 := inI (by omega) (by omega)
    have c2 : fs_in (nI (1 + i)) 13 := inI (by omega) (by omega)
    have c3 : fs_in (nI (7 + i)) 13 := inI (by omega) (by omega)
    rw [L_X4_digest_33, hm.1, if_neg (nI_ge hi (by omega)), show (1 : Int32) + nI i = nI (1 + i) from nI_add 1 i, show (7 : Int32) + nI i = nI (7 + i) from nI_add 7 i]
    simp only [fs_gp c1, fs_gp c2, fs_gp c3, nI_clamp (n := i) (by omega), nI_clamp (n := 1 + i) (by omega), nI_clamp (n := 7 + i) (by omega), r1, s1, Option.bind_some]
    rw [p1, p2, p3, p4, p5, dk, dh7, ov0, ov1, ov2, ov3, ov4]) (by
    rintro f ⟨a, y, ρ⟩ ⟨hy, ha, hf⟩
    dsimp only at hy ha hf ⊢
    subst hy ha
    refine ⟨_, ?_, ρ, rfl, hf⟩
    rw [L_X4_digest_33, hf 51 9 (by omega), hc.2.1.1, if_pos (nI_le (Nat.le_refl n) (by omega))]) fs_fu 0 (h, 0, τ) (Nat.zero_le _) (fs_fub _ (by omega)) ⟨rfl, rfl, fun _ _ _ => rfl⟩
  exact ⟨σ1, by dsimp only at h1; rw [h1, h2], h3⟩
theorem m_d146 {n : Nat} {σ τ : fsS} (hc : cm σ τ n) (h : Int64) : L_X4_digest_146 fs_fu h 0 τ = some (dh (σ 13) h 3) := by
  obtain ⟨o, h1, h2⟩ := fs_loop (fun f (x : Int64 × Int32) => L_X4_digest_146 f x.1 x.2 τ) (fun i x => x.2 = nI i ∧ x.1 = dh (σ 13) h i) (fun o => o = dh (σ 13) h 3) 3 (by
    rintro f i ⟨a, y⟩ hi ⟨hy, ha⟩
    dsimp only at hy ha ⊢
    subst hy ha
    left
    refine ⟨(dh (σ 13) h (i + 1), nI i + 1), ⟨nI_1 i, rfl⟩, ?_⟩
    rw [L_X4_digest_146, if_neg (show ¬ (3 : Int32) ≤ nI i from nI_ge (b := 3) hi (by omega)), show (534 : Int32) * nI i = nI (534 * i) from pk_mul 534 i, fs_gp (inI (by omega) (by omega)), nI_clamp (by omega), (hc.2.2.2.2.2.2 i hi).1, dh]) (by
    rintro f ⟨a, y⟩ ⟨hy, ha⟩
    dsimp only at hy ha ⊢
    subst hy ha
    refine ⟨_, ?_, rfl⟩
    rw [L_X4_digest_146, if_pos (show (3 : Int32) ≤ nI 3 by decide)]) fs_fu 0 (h, 0) (Nat.zero_le _) (fs_fub _ (by omega)) ⟨rfl, rfl⟩
  dsimp only at h1
  rw [h1, h2]
theorem m_d177 {n : Nat} {σ τ : fsS} (hc : cm σ τ n) (h : Int64) : L_X4_digest_177 fs_fu h 0 τ = some (dr (σ 10) (fun r => σ (38 + r)) h 6) := by
  have inner : ∀ r, r < 6 → ∀ h0 : Int64, L_X4_digest_200 fs_fu h0 (nI r) 0 τ = some (dh (σ (38 + r)) h0 (σ 10 r).toNatClampNeg) := by
    intro r hr h0
    obtain ⟨w1, w2⟩ := hc.2.2.2.2.1 r hr
    have c1 : fs_in (nI r) 6 := inI hr (by omega)
    have c2 : (nI r).toNatClampNeg = r := nI_clamp (by omega)
    rcases w2 with e | ⟨z, hz', e, hcc⟩
    · have : ∀ f, L_X4_digest_200 (f + 1) h0 (nI r) 0 τ = some h0 := fun f => by
        rw [L_X4_digest_200]
        simp only [fs_gp c1, c2, w1, e, if_pos (show (-1 : Int32) ≤ 0 by decide)]
      rw [e]
      exact this 99999
    · rw [e, nI_clamp (by omega)]
      obtain ⟨v, h1, h2⟩ := fs_loop (fun f (x : Int64 × Int32) => L_X4_digest_200 f x.1 (nI r) x.2 τ) (fun i x => x.2 = nI i ∧ x.1 = dh (σ (38 + r)) h0 i) (fun v => v = dh (σ (38 + r)) h0 z) z (by
        rintro f i ⟨a, y⟩ hi ⟨hy, ha⟩
        dsimp only at hy ha ⊢
        subst hy ha
        left
        refine ⟨(dh (σ (38 + r)) h0 (i + 1), nI i + 1), ⟨nI_1 i, rfl⟩, ?_⟩
        have c3 : fs_in (nI (40 * r + i)) 240 := inI (by omega) (by omega)
        rw [L_X4_digest_200]
        simp only [fs_gp c1, c2, w1, e, if_neg (nI_ge hi (by omega : z < 2 ^ 31)), mi_row, fs_gp c3, nI_clamp (n := 40 * r + i) (by omega), hcc i hi]
        rw [dh]) (by
        rintro f ⟨a, y⟩ ⟨hy, ha⟩
        dsimp only at hy ha ⊢
        subst hy ha
        refine ⟨_, ?_, rfl⟩
        rw [L_X4_digest_200]
        simp only [fs_gp c1, c2, w1, e, if_pos (nI_le (Nat.le_refl z) (by omega : z < 2 ^ 31))]) fs_fu 0 (h0, 0) (Nat.zero_le _) (fs_fub _ (by omega)) ⟨rfl, rfl⟩
      dsimp only at h1
      rw [h1, h2]
  obtain ⟨c, hcc⟩ : ∃ c : Nat → Nat → Int32, c = fun r => σ (38 + r) := ⟨_, rfl⟩
  rw [← hcc]
  obtain ⟨v, h1, h2⟩ := fs_loop (fun f (x : Int64 × Int32) => L_X4_digest_177 f x.1 x.2 τ) (fun r x => x.2 = nI r ∧ x.1 = dr (σ 10) c h r) (fun v => v = dr (σ 10) c h 6) 6 (by
    rintro f r ⟨a, y⟩ hr ⟨hy, ha⟩
    dsimp only at hy ha ⊢
    subst hy ha
    left
    refine ⟨(dr (σ 10) c h (r + 1), nI r + 1), ⟨nI_1 r, rfl⟩, ?_⟩
    have c1 : fs_in (nI r) 6 := inI hr (by omega)
    rw [L_X4_digest_177]
    simp only [if_neg (show ¬ (6 : Int32) ≤ nI r from nI_ge (b := 6) hr (by omega)), fs_gp c1, nI_clamp (n := r) (by omega), (hc.2.2.2.2.1 r hr).1, inner r hr, Option.bind_some]
    rw [dr, hcc]) (by
    rintro f ⟨a, y⟩ ⟨hy, ha⟩
    dsimp only at hy ha ⊢
    subst hy ha
    refine ⟨_, ?_, rfl⟩
    rw [L_X4_digest_177, if_pos (show (6 : Int32) ≤ nI 6 by decide)]) fs_fu 0 (h, 0) (Nat.zero_le _) (fs_fub _ (by omega)) ⟨rfl, rfl⟩
  dsimp only at h1
  rw [h1, h2]
theorem m_d245 {n : Nat} {σ τ : fsS} (hc : cm σ τ n) (h : Int64) : L_X4_digest_245 fs_fu h 0 τ = some (dr (σ 11) (fun r => σ (44 + r)) h 4) := by
  have inner : ∀ r, r < 4 → ∀ h0 : Int64, L_X4_digest_267 fs_fu h0 (nI r) 0 τ = some (dh (σ (44 + r)) h0 (σ 11 r).toNatClampNeg) := by
    intro r hr h0
    obtain ⟨w1, w2⟩ := hc.2.2.2.2.2.1 r hr
    have c1 : fs_in (nI r) 4 := inI hr (by omega)
    have c2 : (nI r).toNatClampNeg = r := nI_clamp (by omega)
    rcases w2 with e | ⟨z, hz', e, hcc⟩
    · have : ∀ f, L_X4_digest_267 (f + 1) h0 (nI r) 0 τ = some h0 := fun f => by
        rw [L_X4_digest_267]
        simp only [fs_gp c1, c2, w1, e, if_pos (show (-1 : Int32) ≤ 0 by decide)]
      rw [e]
      exact this 99999
    · rw [e, nI_clamp (by omega)]
      obtain ⟨v, h1, h2⟩ := fs_loop (fun f (x : Int64 × Int32) => L_X4_digest_267 f x.1 (nI r) x.2 τ) (fun i x => x.2 = nI i ∧ x.1 = dh (σ (44 + r)) h0 i) (fun v => v = dh (σ (44 + r)) h0 z) z (by
        rintro f i ⟨a, y⟩ hi ⟨hy, ha⟩
        dsimp only at hy ha ⊢
        subst hy ha
        left
        refine ⟨(dh (σ (44 + r)) h0 (i + 1), nI i + 1), ⟨nI_1 i, rfl⟩, ?_⟩
        have c3 : fs_in (nI (60 * r + i)) 240 := inI (by omega) (by omega)
        rw [L_X4_digest_267]
        simp only [fs_gp c1, c2, w1, e, if_neg (nI_ge hi (by omega : z < 2 ^ 31)), mi_text, fs_gp c3, nI_clamp (n := 60 * r + i) (by omega), hcc i hi]
        rw [dh]) (by
        rintro f ⟨a, y⟩ ⟨hy, ha⟩
        dsimp only at hy ha ⊢
        subst hy ha
        refine ⟨_, ?_, rfl⟩
        rw [L_X4_digest_267]
        simp only [fs_gp c1, c2, w1, e, if_pos (nI_le (Nat.le_refl z) (by omega : z < 2 ^ 31))]) fs_fu 0 (h0, 0) (Nat.zero_le _) (fs_fub _ (by omega)) ⟨rfl, rfl⟩
      dsimp only at h1
      rw [h1, h2]
  obtain ⟨c, hcc⟩ : ∃ c : Nat → Nat → Int32, c = fun r => σ (44 + r) := ⟨_, rfl⟩
  rw [← hcc]
  obtain ⟨v, h1, h2⟩ := fs_loop (fun f (x : Int64 × Int32) => L_X4_digest_245 f x.1 x.2 τ) (fun r x => x.2 = nI r ∧ x.1 = dr (σ 11) c h r) (fun v => v = dr (σ 11) c h 4) 4 (by
    rintro f r ⟨a, y⟩ hr ⟨hy, ha⟩
    dsimp only at hy ha ⊢
    subst hy ha
    left
    refine ⟨(dr (σ 11) c h (r + 1), nI r + 1), ⟨nI_1 r, rfl⟩, ?_⟩
    have c1 : fs_in (nI r) 4 := inI hr (by omega)
    rw [L_X4_digest_245]
    simp only [if_neg (show ¬ (4 : Int32) ≤ nI r from nI_ge (b := 4) hr (by omega)), fs_gp c1, nI_clamp (n := r) (by omega), (hc.2.2.2.2.2.1 r hr).1, inner r hr, Option.bind_some]
    rw [dr, hcc]) (by
    rintro f ⟨a, y⟩ ⟨hy, ha⟩
    dsimp only at hy ha ⊢
    subst hy ha
    refine ⟨_, ?_, rfl⟩
    rw [L_X4_digest_245, if_pos (show (4 : Int32) ≤ nI 4 by decide)]) fs_fu 0 (h, 0) (Nat.zero_le _) (fs_fub _ (by omega)) ⟨rfl, rfl⟩
  dsimp only at h1
  rw [h1, h2]
theorem e_digest : ec_digest Rel := by
  intro σ μ hr
  obtain ⟨n, d, q1, q2, q3, q4, q5, q6, hn0, hs, hk, hm⟩ := Rel_all hr
  have hn := hk.1
  obtain ⟨σ1, f1, f2⟩ := c_d6 hn hs 17
  obtain ⟨h1, hh1⟩ : ∃ h, h = dh (cv σ n) 17 11 := ⟨_, rfl⟩
  rw [← hh1] at f1
  obtain ⟨σ2, g1, g2⟩ := c_d33 hn hs h1 f2
  obtain ⟨h2, hh2⟩ : ∃ h, h = dk (ov σ n) h1 n := ⟨_, rfl⟩
  rw [← hh2] at g1
  have E : ∀ k, ¬ (k = 5 ∨ k = 26 ∨ k = 27) → σ2 k = σ k := fun k q => funext fun j => g2 k j (by unfold c5; omega)
  have g3 := c_d86 σ2 h2
  rw [E 13 (by omega)] at g3
  obtain ⟨h3, hh3⟩ : ∃ h, h = dh (σ 13) h2 3 := ⟨_, rfl⟩
  rw [← hh3] at g3
  have z1 : ∀ r, r < 6 → σ2 (9 + 1) r = -1 ∨ ∃ z, z ≤ 40 ∧ σ2 (9 + 1) r = nI z := fun r hr => by
    rw [E (9 + 1) (by omega)]
    rcases (q2.2 r hr).2 with q | ⟨z, z1, z2, _⟩
    · exact Or.inl q
    · exact Or.inr ⟨z, z1, z2⟩
  have z2 : ∀ r, r < 4 → σ2 (9 + 2) r = -1 ∨ ∃ z, z ≤ 60 ∧ σ2 (9 + 2) r = nI z := fun r hr => by
    rw [E (9 + 2) (by omega)]
    rcases (q3.2 r hr).2 with q | ⟨z, z1, z2, _⟩
    · exact Or.inl q
    · exact Or.inr ⟨z, z1, z2⟩
  have g4 := c_mix 1 38 6 40 rfl rfl row_len (by decide) (by decide) z1 h3
  rw [E (9 + 1) (by omega), show (fun r => σ2 (38 + r)) = fun r => σ (38 + r) from funext fun r => E (38 + r) (by omega)] at g4
  obtain ⟨h4, hh4⟩ : ∃ h, h = dr (σ 10) (fun r => σ (38 + r)) h3 6 := ⟨_, rfl⟩
  rw [show dr (σ (9 + 1)) (fun r => σ (38 + r)) h3 6 = h4 from hh4.symm] at g4
  have g5 := c_mix 2 44 4 60 rfl rfl text_len (by decide) (by decide) z2 h4
  rw [E (9 + 2) (by omega), show (fun r => σ2 (44 + r)) = fun r => σ (44 + r) from funext fun r => E (44 + r) (by omega)] at g5
  obtain ⟨h5, hh5⟩ : ∃ h, h = dr (σ 11) (fun r => σ (44 + r)) h4 4 := ⟨_, rfl⟩
  rw [show dr (σ (9 + 2)) (fun r => σ (44 + r)) h4 4 = h5 from hh5.symm] at g5
  have F1 : F_X3_digest σ = some (h5, σ2) := by
    unfold F_X3_digest
    rw [f1, Option.bind_some]
    dsimp only
    rw [g1, Option.bind_some]
    dsimp only
    rw [g3, Option.bind_some, g4, Option.bind_some, g5, Option.bind_some]
  have hc : cm σ σ2 n := cm_of q2 q3 q5 q6 hk hm (fun k j q => g2 k j (by unfold c5; omega))
  obtain ⟨τ1, u1, u2⟩ := m_d6 hc 17
  rw [← hh1] at u1
  obtain ⟨τ2, v1, v2⟩ := m_d33 (cm_fr hc u2) h1
  rw [← hh2] at v1
  have hc2 := cm_fr (cm_fr hc u2) v2
  have v3 := m_d146 hc2 h2
  rw [← hh3] at v3
  have v4 := m_d177 hc2 h3
  rw [← hh4] at v4
  have v5 := m_d245 hc2 h4
  rw [← hh5] at v5
  have F2 : F_X4_digest σ2 = some (h5, τ2) := by
    unfold F_X4_digest
    rw [u1, Option.bind_some]
    dsimp only
    rw [v1, Option.bind_some]
    dsimp only
    rw [v3, Option.bind_some, v4, Option.bind_some, v5, Option.bind_some]
  exact ⟨h5, σ2, μ, τ2, μ, m_X3_digest σ μ _ F1, m_X4_digest σ2 μ _ F2, Rel_q hr (fun k j q => g2 k j (by unfold sC at q; unfold c5; omega)) (fun k j q => (v2 k j (by unfold sM at q; omega)).trans (u2 k j (by unfold sM at q; omega)))⟩
