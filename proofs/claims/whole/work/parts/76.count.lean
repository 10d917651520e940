/-! count -/
theorem inI {n N : Nat} (h : n < N) (hN : N < 2 ^ 31) : fs_in (nI n) N := vp_in_nI h hN
def ctI (f : Nat → Int32) : Nat → Int32
  | 0 => 0
  | i + 1 => if f i = 0 then ctI f i else ctI f i + 1
theorem ctI_congr {f g : Nat → Int32} : ∀ {n : Nat}, (∀ i, i < n → f i = g i) → ctI f n = ctI g n
  | 0, _ => rfl
  | n + 1, h => by
    show (if f n = 0 then ctI f n else ctI f n + 1) = if g n = 0 then ctI g n else ctI g n + 1
    rw [ctI_congr (fun i hi => h i (by omega)), h n (by omega)]
def neg1 (x : Int32) : Int32 := if x = -1 then 0 else 1
def le0 (x : Int32) : Int32 := if x ≤ 0 then 0 else 1
theorem c_purses {n : Nat} (hn : n ≤ 6) {σ : fsS} (hs : σ 5 0 = nI n) : F_X1_allPurses 5 σ = some (sm (σ 24) n) := by
  obtain ⟨o, h1, h2⟩ := fs_loop (fun f (x : Int32 × Int32) => L_X1_allPurses_4 5 f x.1 x.2 σ) (fun i x => x.2 = nI i ∧ x.1 = sm (σ 24) i) (fun o => o = sm (σ 24) n) n (by
    rintro f i ⟨a, y⟩ hi ⟨hy, ha⟩
    dsimp only at hy ha ⊢
    subst hy ha
    left
    refine ⟨(sm (σ 24) i + σ 24 i, nI i + 1), ⟨nI_1 i, rfl⟩, ?_⟩
    rw [L_X1_allPurses_4, hs, if_neg (nI_ge hi (by omega)), fs_gp (inI (by omega) (by omega)), nI_clamp (by omega)]) (by
    rintro f ⟨a, y⟩ ⟨hy, ha⟩
    dsimp only at hy ha ⊢
    subst hy ha
    refine ⟨_, ?_, rfl⟩
    rw [L_X1_allPurses_4, hs, if_pos (nI_le (Nat.le_refl n) (by omega))]) fs_fu 0 (0, 0) (Nat.zero_le _) (fs_fub _ (by omega)) ⟨rfl, rfl⟩
  unfold F_X1_allPurses
  dsimp only at h1
  rw [h1, h2, Option.bind_some]
theorem c_sooted {n : Nat} (hn : n ≤ 6) {σ : fsS} (hs : σ 5 0 = nI n) : F_X1_allSooted 5 σ = some (st1 (fun i => le0 (σ 25 i)) n) := by
  obtain ⟨g, hg⟩ : ∃ g : Nat → Int32, g = fun i => le0 (σ 25 i) := ⟨_, rfl⟩
  rw [← hg]
  obtain ⟨o, h1, h2⟩ := fs_loop (fun f (x : Int32 × Int32) => L_X1_allSooted_4 5 f x.1 x.2 σ) (fun i x => x.2 = nI i ∧ x.1 = st1 g i) (fun o => o = st1 g n) n (by
    rintro f i ⟨a, y⟩ hi ⟨hy, ha⟩
    dsimp only at hy ha ⊢
    subst hy ha
    left
    refine ⟨(st1 g (i + 1), nI i + 1), ⟨nI_1 i, rfl⟩, ?_⟩
    rw [L_X1_allSooted_4, hs, if_neg (nI_ge hi (by omega)), fs_gp (inI (by omega) (by omega)), nI_clamp (by omega), st1]
    have e : g i = le0 (σ 25 i) := by rw [hg]
    by_cases h : σ 25 i ≤ 0
    · rw [if_pos (show σ (7 * 5 - 14 + 4) i ≤ 0 from h), if_pos (by rw [e, le0, if_pos h])]
    · rw [if_neg (show ¬ σ (7 * 5 - 14 + 4) i ≤ 0 from h), if_neg (by rw [e, le0, if_neg h]; decide)]) (by
    rintro f ⟨a, y⟩ ⟨hy, ha⟩
    dsimp only at hy ha ⊢
    subst hy ha
    refine ⟨_, ?_, rfl⟩
    rw [L_X1_allSooted_4, hs, if_pos (nI_le (Nat.le_refl n) (by omega))]) fs_fu 0 (0, 0) (Nat.zero_le _) (fs_fub _ (by omega)) ⟨rfl, rfl⟩
  unfold F_X1_allSooted
  dsimp only at h1
  rw [h1, h2, Option.bind_some]
theorem c_allOf {n : Nat} (hn : n ≤ 6) {σ : fsS} (hs : σ 5 0 = nI n) (q : Int32) : F_X1_allOf 5 q σ = some (ctI (fun i => F_X1_isOf (σ 21 i) q) n) := by
  obtain ⟨g, hg⟩ : ∃ g : Nat → Int32, g = fun i => F_X1_isOf (σ 21 i) q := ⟨_, rfl⟩
  rw [← hg]
  obtain ⟨o, h1, h2⟩ := fs_loop (fun f (x : Int32 × Int32) => L_X1_allOf_4 5 f q x.1 x.2 σ) (fun i x => x.2 = nI i ∧ x.1 = ctI g i) (fun o => o = ctI g n) n (by
    rintro f i ⟨a, y⟩ hi ⟨hy, ha⟩
    dsimp only at hy ha ⊢
    subst hy ha
    left
    refine ⟨(ctI g (i + 1), nI i + 1), ⟨nI_1 i, rfl⟩, ?_⟩
    have e : F_X1_isOf (σ (7 * 5 - 14 + 0) i) q = g i := by rw [hg]
    rw [L_X1_allOf_4, hs, if_neg (nI_ge hi (by omega)), fs_gp (inI (by omega) (by omega)), nI_clamp (by omega), e, ctI]
    by_cases h : g i = 0
    · rw [if_pos h, if_pos h]
    · rw [if_neg h, if_neg h]) (by
    rintro f ⟨a, y⟩ ⟨hy, ha⟩
    dsimp only at hy ha ⊢
    subst hy ha
    refine ⟨_, ?_, rfl⟩
    rw [L_X1_allOf_4, hs, if_pos (nI_le (Nat.le_refl n) (by omega))]) fs_fu 0 (0, 0) (Nat.zero_le _) (fs_fub _ (by omega)) ⟨rfl, rfl⟩
  unfold F_X1_allOf
  dsimp only at h1
  rw [h1, h2, Option.bind_some]
theorem c_present (o N : Nat) (hl : fs_len (9 + o) = N) (hN : N < 100) (σ : fsS) : F_X2_present o σ = some (ctI (fun r => neg1 (σ (9 + o) r)) N) := by
  obtain ⟨g, hg⟩ : ∃ g : Nat → Int32, g = fun r => neg1 (σ (9 + o) r) := ⟨_, rfl⟩
  rw [← hg]
  obtain ⟨v, h1, h2⟩ := fs_loop (fun f (x : Int32 × Int32) => L_X2_present_4 o f x.1 x.2 σ) (fun i x => x.2 = nI i ∧ x.1 = ctI g i) (fun v => v = ctI g N) N (by
    rintro f i ⟨a, y⟩ hi ⟨hy, ha⟩
    dsimp only at hy ha ⊢
    subst hy ha
    left
    refine ⟨(ctI g (i + 1), nI i + 1), ⟨nI_1 i, rfl⟩, ?_⟩
    have e : (if σ (9 + o) i = -1 then (0 : Int32) else 1) = g i := by rw [hg]; rfl
    rw [L_X2_present_4, hl, if_neg (show ¬ Int32.ofNat N ≤ nI i from nI_ge hi (by omega)), has_g o N hl hN i hi, Option.bind_some, e, ctI]
    by_cases h : g i = 0
    · rw [if_pos h, if_pos h]
    · rw [if_neg h, if_neg h]) (by
    rintro f ⟨a, y⟩ ⟨hy, ha⟩
    dsimp only at hy ha ⊢
    subst hy ha
    refine ⟨_, ?_, rfl⟩
    rw [L_X2_present_4, hl, if_pos (show Int32.ofNat N ≤ nI N from nI_le (Nat.le_refl N) (by omega))]) fs_fu 0 (0, 0) (Nat.zero_le _) (fs_fub _ (by omega)) ⟨rfl, rfl⟩
  unfold F_X2_present
  dsimp only at h1
  rw [h1, h2, Option.bind_some]
theorem c_kept (σ : fsS) : F_X0_allKept σ = some (ctI (fun r => neg1 (σ 13 r)) 3) := by
  obtain ⟨g, hg⟩ : ∃ g : Nat → Int32, g = fun r => neg1 (σ 13 r) := ⟨_, rfl⟩
  rw [← hg]
  obtain ⟨v, h1, h2⟩ := fs_loop (fun f (x : Int32 × Int32) => L_X0_allKept_4 f x.1 x.2 σ) (fun i x => x.2 = nI i ∧ x.1 = ctI g i) (fun v => v = ctI g 3) 3 (by
    rintro f i ⟨a, y⟩ hi ⟨hy, ha⟩
    dsimp only at hy ha ⊢
    subst hy ha
    left
    refine ⟨(ctI g (i + 1), nI i + 1), ⟨nI_1 i, rfl⟩, ?_⟩
    have e : g i = neg1 (σ 13 i) := by rw [hg]
    rw [L_X0_allKept_4, if_neg (show ¬ (3 : Int32) ≤ nI i from nI_ge (b := 3) hi (by omega)), fs_gp (inI (by omega) (by omega)), nI_clamp (by omega), ctI, e]
    by_cases h : σ 13 i = -1
    · rw [if_pos h, if_pos (by rw [neg1, if_pos h])]
    · rw [if_neg h, if_neg (by rw [neg1, if_neg h]; decide)]) (by
    rintro f ⟨a, y⟩ ⟨hy, ha⟩
    dsimp only at hy ha ⊢
    subst hy ha
    refine ⟨_, ?_, rfl⟩
    rw [L_X0_allKept_4, if_pos (show (3 : Int32) ≤ nI 3 by decide)]) fs_fu 0 (0, 0) (Nat.zero_le _) (fs_fub _ (by omega)) ⟨rfl, rfl⟩
  unfold F_X0_allKept
  dsimp only at h1
  rw [h1, h2, Option.bind_some]
def hRg (n : Nat) (R : Nat → Int32) : Int32 := if n = 0 then 0 else R (fo R n)
theorem c_high {n : Nat} (hn : n ≤ 6) {σ : fsS} (hs : σ 5 0 = nI n) : ∃ σ', F_X1_highestRegard 5 σ = some (hRg n (sR (σ 21) (σ 22) (σ 25) (σ 24)), σ') ∧ ∀ k j, ¬ (k = 26 ∨ k = 27 ∨ (k = 5 ∧ (j = 8 ∨ j = 9))) → σ' k j = σ k j := by
  obtain ⟨σ', h1, h2, h3, h4, h5, h6⟩ := w_weigh5 hn hs
  refine ⟨σ', ?_, h6⟩
  unfold F_X1_highestRegard hRg
  rw [h1, Option.bind_some, h6 5 0 (by omega), hs, h2]
  by_cases h0 : n = 0
  · rw [if_pos h0, if_pos (by rw [h0]; rfl)]
  · rw [if_neg h0, if_neg (nI_ne0 (by omega) (by omega))]
    generalize hR : sR (σ 21) (σ 22) (σ 25) (σ 24) = R at *
    have := fo_lt R n (by omega)
    rw [fs_gp (inI (by omega) (by omega)), nI_clamp (by omega), show 7 * 5 - 14 + 5 = 26 from rfl, h4 _ this]
