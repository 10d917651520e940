theorem m_purses {n : Nat} (hn : n ≤ 6) {τ : fsS} (hs : τ 51 9 = nI n) {p : Nat → Int32} (hp : ∀ i, i < n → τ 60 (1 + i) = p i) : F_X4_purses τ = some (sm p n) := by
  obtain ⟨o, h1, h2⟩ := fs_loop (fun f (x : Int32 × Int32) => L_X4_purses_4 f x.1 x.2 τ) (fun i x => x.2 = nI i ∧ x.1 = sm p i) (fun o => o = sm p n) n (by
    rintro f i ⟨a, y⟩ hi ⟨hy, ha⟩
    dsimp only at hy ha ⊢
    subst hy ha
    left
    refine ⟨(sm p i + p i, nI i + 1), ⟨nI_1 i, rfl⟩, ?_⟩
    rw [L_X4_purses_4, hs, if_neg (nI_ge hi (by omega)), show (1 : Int32) + nI i = nI (1 + i) from nI_add 1 i, fs_gp (inI (by omega) (by omega)), nI_clamp (by omega), hp i hi]) (by
    rintro f ⟨a, y⟩ ⟨hy, ha⟩
    dsimp only at hy ha ⊢
    subst hy ha
    refine ⟨_, ?_, rfl⟩
    rw [L_X4_purses_4, hs, if_pos (nI_le (Nat.le_refl n) (by omega))]) fs_fu 0 (0, 0) (Nat.zero_le _) (fs_fub _ (by omega)) ⟨rfl, rfl⟩
  unfold F_X4_purses
  dsimp only at h1
  rw [h1, h2, Option.bind_some]
theorem m_sooted {n : Nat} (hn : n ≤ 6) {τ : fsS} (hs : τ 51 9 = nI n) {s : Nat → Int32} (hp : ∀ i, i < n → τ 60 (7 + i) = s i) : F_X4_sooted τ = some (st1 (fun i => le0 (s i)) n) := by
  obtain ⟨g, hg⟩ : ∃ g : Nat → Int32, g = fun i => le0 (s i) := ⟨_, rfl⟩
  rw [← hg]
  obtain ⟨o, h1, h2⟩ := fs_loop (fun f (x : Int32 × Int32) => L_X4_sooted_4 f x.1 x.2 τ) (fun i x => x.2 = nI i ∧ x.1 = st1 g i) (fun o => o = st1 g n) n (by
    rintro f i ⟨a, y⟩ hi ⟨hy, ha⟩
    dsimp only at hy ha ⊢
    subst hy ha
    left
    refine ⟨(st1 g (i + 1), nI i + 1), ⟨nI_1 i, rfl⟩, ?_⟩
    rw [L_X4_sooted_4, hs, if_neg (nI_ge hi (by omega)), show (7 : Int32) + nI i = nI (7 + i) from nI_add 7 i, fs_gp (inI (by omega) (by omega)), nI_clamp (by omega), hp i hi, st1, or_0]
    have e : g i = le0 (s i) := by rw [hg]
    by_cases h : s i ≤ 0
    · rw [if_pos h, if_pos (by rw [e, le0, if_pos h])]
    · rw [if_neg h, if_neg (by rw [e, le0, if_neg h]; decide)]) (by
    rintro f ⟨a, y⟩ ⟨hy, ha⟩
    dsimp only at hy ha ⊢
    subst hy ha
    refine ⟨_, ?_, rfl⟩
    rw [L_X4_sooted_4, hs, if_pos (nI_le (Nat.le_refl n) (by omega))]) fs_fu 0 (0, 0) (Nat.zero_le _) (fs_fub _ (by omega)) ⟨rfl, rfl⟩
  unfold F_X4_sooted
  dsimp only at h1
  rw [h1, h2, Option.bind_some]
theorem m_ofKind {n q : Nat} (hn : n ≤ 6) (hq : q < 6) (hq1 : 1 ≤ q) {τ : fsS} (hs : τ 51 9 = nI n) {kd : Nat → Int32} (hkd : ∀ i, i < n → ∃ a, a < 6 ∧ kd i = nI a) (hp : ∀ i, i < n → τ 57 i = kd i) : F_X4_ofKind (nI q) τ = some (ctI (fun i => F_X1_isOf (kd i) (nI q)) n) := by
  obtain ⟨g, hg⟩ : ∃ g : Nat → Int32, g = fun i => F_X1_isOf (kd i) (nI q) := ⟨_, rfl⟩
  rw [← hg]
  obtain ⟨o, h1, h2⟩ := fs_loop (fun f (x : Int32 × Int32) => L_X4_ofKind_4 f (nI q) x.1 x.2 τ) (fun i x => x.2 = nI i ∧ x.1 = ctI g i) (fun o => o = ctI g n) n (by
    rintro f i ⟨a, y⟩ hi ⟨hy, ha⟩
    dsimp only at hy ha ⊢
    subst hy ha
    left
    refine ⟨(ctI g (i + 1), nI i + 1), ⟨nI_1 i, rfl⟩, ?_⟩
    have e : F_X4_isOf (kd i) (nI q) = g i := by
      obtain ⟨a, ha, ea⟩ := hkd i hi
      rw [hg]
      dsimp only
      rw [ea, isOf_eq ha hq hq1]
    rw [L_X4_ofKind_4, hs, if_neg (nI_ge hi (by omega)), fs_gp (inI (by omega) (by omega)), nI_clamp (by omega), hp i hi, e, ctI, Int32.add_zero]
    by_cases h : g i = 0
    · rw [if_pos h, if_pos h]
    · rw [if_neg h, if_neg h]) (by
    rintro f ⟨a, y⟩ ⟨hy, ha⟩
    dsimp only at hy ha ⊢
    subst hy ha
    refine ⟨_, ?_, rfl⟩
    rw [L_X4_ofKind_4, hs, if_pos (nI_le (Nat.le_refl n) (by omega))]) fs_fu 0 (0, 0) (Nat.zero_le _) (fs_fub _ (by omega)) ⟨rfl, rfl⟩
  unfold F_X4_ofKind
  dsimp only at h1
  rw [h1, h2, Option.bind_some]
theorem m_there {a N st : Nat} (hN : N < 100) (hst : st < 1000) (hl : ∀ i, i < N → st * i < fs_len a) (hl2 : fs_len a < 10000) {τ : fsS} {c : Nat → Int32} (hc : ∀ i, i < N → τ a (st * i) = c i ∧ (c i = -1 ∨ ∃ z, z ≤ 100 ∧ c i = nI z)) : F_X4_there a (nI N) (nI st) τ = some (ctI (fun r => neg1 (c r)) N) := by
  obtain ⟨g, hg⟩ : ∃ g : Nat → Int32, g = fun r => neg1 (c r) := ⟨_, rfl⟩
  rw [← hg]
  obtain ⟨o, h1, h2⟩ := fs_loop (fun f (x : Int32 × Int32) => L_X4_there_5 a f (nI N) (nI st) x.1 x.2 τ) (fun i x => x.2 = nI i ∧ x.1 = ctI g i) (fun o => o = ctI g N) N (by
    rintro f i ⟨b, y⟩ hi ⟨hy, ha⟩
    dsimp only at hy ha ⊢
    subst hy ha
    left
    refine ⟨(ctI g (i + 1), nI i + 1), ⟨nI_1 i, rfl⟩, ?_⟩
    have e : g i = neg1 (c i) := by rw [hg]
    have hb := hl i hi
    rw [L_X4_there_5, if_neg (nI_ge hi (by omega)), pk_mul, fs_gp (inI hb (by omega)), nI_clamp (by omega), (hc i hi).1, ctI, Int32.add_zero]
    rcases (hc i hi).2 with h | ⟨z, hz, h⟩
    · rw [e, h, if_neg nzn, if_pos (by decide)]
    · rw [e, h, if_pos (nz z (by omega)), if_neg (by rw [neg1, if_neg (n1 z (by omega))]; decide)]) (by
    rintro f ⟨b, y⟩ ⟨hy, ha⟩
    dsimp only at hy ha ⊢
    subst hy ha
    refine ⟨_, ?_, rfl⟩
    rw [L_X4_there_5, if_pos (nI_le (Nat.le_refl N) (by omega))]) fs_fu 0 (0, 0) (Nat.zero_le _) (fs_fub _ (by omega)) ⟨rfl, rfl⟩
  unfold F_X4_there
  dsimp only at h1
  rw [h1, h2, Option.bind_some]
/-- what is COUNTED -/
def cv (σ : fsS) (n w : Nat) : Int32 :=
  if w = 0 then nI n else if w = 1 then σ 3 2 else if w = 2 then σ 3 3 else if w = 3 then sm (σ 24) n
  else if w = 4 then st1 (fun i => le0 (σ 25 i)) n else if w = 5 then hRg n (sR (σ 21) (σ 22) (σ 25) (σ 24))
  else if w = 6 then ctI (fun r => neg1 (σ 10 r)) 6 else if w = 7 then ctI (fun r => neg1 (σ 11 r)) 4
  else if w = 8 then ctI (fun r => neg1 (σ 13 r)) 3 else if w = 9 then ctI (fun i => F_X1_isOf (σ 21 i) 1) n
  else ctI (fun i => F_X1_isOf (σ 21 i) 3) n
def c5 (k j : Nat) : Prop := k = 26 ∨ k = 27 ∨ (k = 5 ∧ (j = 8 ∨ j = 9))
theorem cv_fr {σ σ' : fsS} (h : ∀ k j, ¬ c5 k j → σ' k j = σ k j) (n w : Nat) : cv σ' n w = cv σ n w := by
  unfold cv
  rw [h 3 2 (by unfold c5; omega), h 3 3 (by unfold c5; omega), show σ' 24 = σ 24 from funext fun j => h 24 j (by unfold c5; omega), show σ' 25 = σ 25 from funext fun j => h 25 j (by unfold c5; omega), show σ' 21 = σ 21 from funext fun j => h 21 j (by unfold c5; omega), show σ' 22 = σ 22 from funext fun j => h 22 j (by unfold c5; omega), show σ' 10 = σ 10 from funext fun j => h 10 j (by unfold c5; omega), show σ' 11 = σ 11 from funext fun j => h 11 j (by unfold c5; omega), show σ' 13 = σ 13 from funext fun j => h 13 j (by unfold c5; omega)]
theorem ne_w {a b : Nat} (ha : a < 100) (hb : b < 100) (h : ¬ a = b) : ¬ nI a = nI b := fun q => h ((nI_eq (by omega) (by omega)).mp q)
theorem c_counted {n w : Nat} (hn : n ≤ 6) (hw : w < 11) {σ : fsS} (hs : σ 5 0 = nI n) : ∃ σ1, F_X3_counted (nI w) σ = some (cv σ n w, σ1) ∧ ∀ k j, ¬ c5 k j → σ1 k j = σ k j := by
  rcases (by omega : w = 0 ∨ w = 1 ∨ w = 2 ∨ w = 3 ∨ w = 4 ∨ w = 5 ∨ w = 6 ∨ w = 7 ∨ w = 8 ∨ w = 9 ∨ w = 10) with rfl | rfl | rfl | rfl | rfl | rfl | rfl | rfl | rfl | rfl | rfl
  · exact ⟨σ, by rw [F_X3_counted, if_pos (by decide), hs]; rfl, fun _ _ _ => rfl⟩
  · exact ⟨σ, rfl, fun _ _ _ => rfl⟩
  · exact ⟨σ, rfl, fun _ _ _ => rfl⟩
  · refine ⟨σ, ?_, fun _ _ _ => rfl⟩
    rw [F_X3_counted, if_neg (by decide), if_neg (by decide), if_neg (by decide), if_pos (by decide), c_purses hn hs]; rfl
  · refine ⟨σ, ?_, fun _ _ _ => rfl⟩
    rw [F_X3_counted, if_neg (by decide), if_neg (by decide), if_neg (by decide), if_neg (by decide), if_pos (by decide), c_sooted hn hs]; rfl
  · obtain ⟨σ', h1, h2⟩ := c_high hn hs
    refine ⟨σ', ?_, h2⟩
    rw [F_X3_counted, if_neg (by decide), if_neg (by decide), if_neg (by decide), if_neg (by decide), if_neg (by decide), if_pos (by decide), h1, Option.bind_some]
    simp [cv]
  · refine ⟨σ, ?_, fun _ _ _ => rfl⟩
    rw [F_X3_counted, if_neg (by decide), if_neg (by decide), if_neg (by decide), if_neg (by decide), if_neg (by decide), if_neg (by decide), if_pos (by decide), c_present 1 6 rfl (by decide)]; rfl
  · refine ⟨σ, ?_, fun _ _ _ => rfl⟩
    rw [F_X3_counted, if_neg (by decide), if_neg (by decide), if_neg (by decide), if_neg (by decide), if_neg (by decide), if_neg (by decide), if_neg (by decide), if_pos (by decide), c_present 2 4 rfl (by decide)]; rfl
  · refine ⟨σ, ?_, fun _ _ _ => rfl⟩
    rw [F_X3_counted, if_neg (by decide), if_neg (by decide), if_neg (by decide), if_neg (by decide), if_neg (by decide), if_neg (by decide), if_neg (by decide), if_neg (by decide), if_pos (by decide), c_kept]; rfl
  · refine ⟨σ, ?_, fun _ _ _ => rfl⟩
    rw [F_X3_counted, if_neg (by decide), if_neg (by decide), if_neg (by decide), if_neg (by decide), if_neg (by decide), if_neg (by decide), if_neg (by decide), if_neg (by decide), if_neg (by decide), if_pos (by decide), c_allOf hn hs, Option.bind_some]
    simp [cv]
  · refine ⟨σ, ?_, fun _ _ _ => rfl⟩
    rw [F_X3_counted, if_neg (by decide), if_neg (by decide), if_neg (by decide), if_neg (by decide), if_neg (by decide), if_neg (by decide), if_neg (by decide), if_neg (by decide), if_neg (by decide), if_neg (by decide), c_allOf hn hs, Option.bind_some]
    simp [cv]
def cm (σ τ : fsS) (n : Nat) : Prop := kb n (σ 21) (σ 22) (σ 23) (σ 25) (σ 24) ∧ mv τ 60 n (σ 21) (σ 22) (σ 23) (σ 25) (σ 24) ∧ τ 60 0 = σ 3 2 ∧ τ 51 17 = σ 3 3 ∧ (∀ r, r < 6 → τ 53 r = σ 10 r ∧ (σ 10 r = -1 ∨ ∃ z, z ≤ 40 ∧ σ 10 r = nI z ∧ ∀ i, i < z → τ 52 (40 * r + i) = σ (38 + r) i)) ∧ (∀ r, r < 4 → τ 55 r = σ 11 r ∧ (σ 11 r = -1 ∨ ∃ z, z ≤ 60 ∧ σ 11 r = nI z ∧ ∀ i, i < z → τ 54 (60 * r + i) = σ (44 + r) i)) ∧ ∀ k, k < 3 → τ 64 (534 * k) = σ 13 k ∧ (σ 13 k = -1 ∨ ∃ z, z ≤ 40 ∧ σ 13 k = nI z)
theorem cm_of {σ τ : fsS} {n d : Nat} (q2 : RR σ) (q3 : RT σ) (q5 : RD n d σ) (q6 : RP n σ) (hk : kb n (σ 21) (σ 22) (σ 23) (σ 25) (σ 24)) (hm : mv σ 60 n (σ 21) (σ 22) (σ 23) (σ 25) (σ 24)) (h : ∀ k j, (k = 51 ∧ (j = 9 ∨ j = 17)) ∨ (52 ≤ k ∧ k < 61) ∨ k = 64 → τ k j = σ k j) : cm σ τ n := by
  refine ⟨hk, mv_fr hm (fun k j q => h k j (by omega)), ?_, ?_, fun r hr => ?_, fun r hr => ?_, fun k hk' => ?_⟩
  · rw [h 60 0 (by omega), q5.2.2.2.2.2.2.1.2.2, q5.2.2.2.2.2.1.2.2]
  · rw [h 51 17 (by omega), q5.2.2.2.1, q5.2.2.1]
  · obtain ⟨w1, w2⟩ := q2.2 r hr
    refine ⟨by rw [h 53 r (by omega), w1], ?_⟩
    rcases w2 with w2 | ⟨z, v1, v2, v3⟩
    · exact Or.inl w2
    · exact Or.inr ⟨z, v1, v2, fun i hi => by rw [h 52 _ (by omega), v3 i hi]⟩
  · obtain ⟨w1, w2⟩ := q3.2 r hr
    refine ⟨by rw [h 55 r (by omega), w1], ?_⟩
    rcases w2 with w2 | ⟨z, v1, v2, v3⟩
    · exact Or.inl w2
    · exact Or.inr ⟨z, v1, v2, fun i hi => by rw [h 54 _ (by omega), v3 i hi]⟩
  · obtain ⟨w1, w2⟩ := q6 k hk'
    refine ⟨by rw [h 64 _ (by omega), w1], ?_⟩
    rcases w2 with w2 | ⟨z, v1, _, v2, _⟩
    · exact Or.inl w2
    · exact Or.inr ⟨z, v1, v2⟩
theorem cm_fr {σ τ τ' : fsS} {n : Nat} (h : cm σ τ n) (hf : ∀ k j, ¬ k = 62 → τ' k j = τ k j) : cm σ τ' n := by
  obtain ⟨h1, h2, h3, h4, h5, h6, h7⟩ := h
  refine ⟨h1, mv_fr h2 (fun k j q => hf k j (by omega)), by rw [hf _ _ (by omega), h3], by rw [hf _ _ (by omega), h4], fun r hr => ?_, fun r hr => ?_, fun k hk => ?_⟩
  · obtain ⟨w1, w2⟩ := h5 r hr
    refine ⟨by rw [hf _ _ (by omega), w1], ?_⟩
    rcases w2 with w2 | ⟨z, v1, v2, v3⟩
    · exact Or.inl w2
    · exact Or.inr ⟨z, v1, v2, fun i hi => by rw [hf 52 _ (by omega), v3 i hi]⟩
  · obtain ⟨w1, w2⟩ := h6 r hr
    refine ⟨by rw [hf _ _ (by omega), w1], ?_⟩
    rcases w2 with w2 | ⟨z, v1, v2, v3⟩
    · exact Or.inl w2
    · exact Or.inr ⟨z, v1, v2, fun i hi => by rw [hf 54 _ (by omega), v3 i hi]⟩
  · obtain ⟨w1, w2⟩ := h7 k hk
    exact ⟨by rw [hf _ _ (by omega), w1], w2⟩
