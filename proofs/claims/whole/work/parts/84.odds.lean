/-! odds, mid -/
def ru (r : Nat → Nat) (S k : Nat) : Nat := if hb (nI S) k then 0 else r k
def mxN (r : Nat → Nat) (S : Nat) : Nat → Nat
  | 0 => 0
  | k + 1 => max (mxN r S k) (ru r S k)
def ch (p S : Nat) : Nat → Nat
  | 0 => 1
  | k + 1 => ch p S k * (if hb (nI S) k then p else 12 - p)
def gu (r : Nat → Nat) (S n : Nat) : Nat → Nat
  | 0 => 0
  | i + 1 => gu r S n i + (mxN r S n - ru r S i)
def so (r : Nat → Nat) (n i v p : Nat) : Nat → Nat
  | 0 => 0
  | S + 1 => so r n i v p S + (if v ≤ mxN r S n - ru r S i then ch p S n else 0)
def sd (r : Nat → Nat) (n p : Nat) : Nat → Nat
  | 0 => 0
  | S + 1 => sd r n p S + ch p S n * gu r S n n
theorem ru_le {r : Nat → Nat} {S k : Nat} (h : r k ≤ 30) : ru r S k ≤ 30 := by
  unfold ru
  by_cases e : hb (nI S) k
  · rw [if_pos e]; omega
  · rw [if_neg e]; exact h
theorem mxN_le {r : Nat → Nat} {S : Nat} : ∀ {n : Nat}, (∀ k, k < n → r k ≤ 30) → mxN r S n ≤ 30
  | 0, _ => by unfold mxN; omega
  | n + 1, h => by
    have h1 := mxN_le (S := S) (n := n) (fun k hk => h k (by omega))
    have h2 := ru_le (S := S) (h n (by omega))
    unfold mxN
    omega
theorem ru_mx (r : Nat → Nat) (S : Nat) : ∀ {n i : Nat}, i < n → ru r S i ≤ mxN r S n
  | 0, i, h => by omega
  | n + 1, i, h => by
    unfold mxN
    by_cases e : i = n
    · rw [e]; omega
    · have := ru_mx r S (n := n) (i := i) (by omega)
      omega
theorem ch_le {p : Nat} (hp : p ≤ 12) (S : Nat) : ∀ k, ch p S k ≤ 12 ^ k
  | 0 => Nat.le_refl _
  | k + 1 => by
    have h := ch_le hp S k
    unfold ch
    rw [Nat.pow_succ]
    apply Nat.mul_le_mul h
    by_cases e : hb (nI S) k
    · rw [if_pos e]; exact hp
    · rw [if_neg e]; omega
theorem gu_le {r : Nat → Nat} {S n : Nat} (h : ∀ k, k < n → r k ≤ 30) : ∀ i, gu r S n i ≤ 30 * i
  | 0 => Nat.le_refl _
  | i + 1 => by
    have := gu_le (S := S) h i
    have := mxN_le (S := S) h
    unfold gu
    omega
theorem pow_le6 {n : Nat} (hn : n ≤ 6) : 12 ^ n ≤ 2985984 := Nat.le_trans (Nat.pow_le_pow_right (by omega) hn) (by decide)
theorem so_le {r : Nat → Nat} {n i v p : Nat} (hn : n ≤ 6) (hp : p ≤ 12) : ∀ S, so r n i v p S ≤ 2985984 * S
  | 0 => Nat.le_refl _
  | S + 1 => by
    have h1 := so_le (r := r) (n := n) (i := i) (v := v) hn hp S
    have h2 := Nat.le_trans (ch_le hp S n) (pow_le6 hn)
    unfold so
    by_cases e : v ≤ mxN r S n - ru r S i
    · rw [if_pos e]; omega
    · rw [if_neg e]; omega
theorem sd_le {r : Nat → Nat} {n p : Nat} (hn : n ≤ 6) (hp : p ≤ 12) (h : ∀ k, k < n → r k ≤ 30) : ∀ S, sd r n p S ≤ 2985984 * 180 * S
  | 0 => Nat.le_refl _
  | S + 1 => by
    have h1 := sd_le hn hp h S
    have h2 := Nat.le_trans (ch_le hp S n) (pow_le6 hn)
    have h3 : gu r S n n ≤ 180 := Nat.le_trans (gu_le h n) (by omega)
    have h4 := Nat.mul_le_mul h2 h3
    unfold sd
    omega
theorem nI_subN {a b : Nat} (h : b ≤ a) : nI a - nI b = nI (a - b) := by
  rw [show a = (a - b) + b by omega, ← nI_add, Int32.add_sub_cancel, Nat.add_sub_cancel]
theorem shl1 : ∀ n, n ≤ 6 → (1 : Int32) <<< (nI n &&& 31) = nI (2 ^ n) := by decide +kernel
theorem pow64 {n : Nat} (hn : n ≤ 6) : 2 ^ n ≤ 64 := Nat.le_trans (Nat.pow_le_pow_right (by omega) hn) (by decide)
/-! the class -/
theorem c_ru {n : Nat} (hn : n ≤ 6) {r : Nat → Nat} {σ : fsS} (hR : ∀ k, k < n → σ 26 k = nI (r k)) (S : Nat) {k : Nat} (hk : k < n) : F_X1_regardedUnless 5 (nI S) (nI k) σ = some (nI (ru r S k)) := by
  unfold F_X1_regardedUnless ru
  by_cases e : hb (nI S) k
  · rw [if_neg e, if_pos e]; rfl
  · rw [if_pos (Decidable.not_not.mp e), if_neg e, fs_gp (inI (by omega) (by omega)), nI_clamp (by omega), show 7 * 5 - 14 + 5 = 26 from rfl, hR k hk]
theorem c_pu {n : Nat} (hn : n ≤ 6) {r : Nat → Nat} (hr : ∀ k, k < n → r k ≤ 30) {σ : fsS} (hs : σ 5 0 = nI n) (hR : ∀ k, k < n → σ 26 k = nI (r k)) (S : Nat) {i : Nat} (hi : i < n) : F_X1_paidUnless 5 (nI S) (nI i) σ = some (nI (mxN r S n - ru r S i)) := by
  obtain ⟨o, h1, h2⟩ := fs_loop (fun f (x : Int32 × Int32) => L_X1_paidUnless_5 5 f (nI S) (nI i) x.1 x.2 σ) (fun k x => x.2 = nI k ∧ x.1 = nI (mxN r S k)) (fun o => o = nI (mxN r S n)) n (by
    rintro f k ⟨a, y⟩ hk ⟨hy, ha⟩
    dsimp only at hy ha ⊢
    subst hy ha
    left
    have m1 := mxN_le (S := S) (n := k) (fun j hj => hr j (by omega))
    have m2 := ru_le (S := S) (hr k hk)
    refine ⟨(nI (mxN r S (k + 1)), nI k + 1), ⟨nI_1 k, rfl⟩, ?_⟩
    rw [L_X1_paidUnless_5, hs, if_neg (nI_ge hk (by omega)), c_ru hn hR S hk, Option.bind_some, maxI (by omega) (by omega), mxN]) (by
    rintro f ⟨a, y⟩ ⟨hy, ha⟩
    dsimp only at hy ha ⊢
    subst hy ha
    refine ⟨_, ?_, rfl⟩
    rw [L_X1_paidUnless_5, hs, if_pos (nI_le (Nat.le_refl n) (by omega))]) fs_fu 0 (0, 0) (Nat.zero_le _) (fs_fub _ (by omega)) ⟨rfl, rfl⟩
  unfold F_X1_paidUnless
  dsimp only at h1
  rw [h1, h2, Option.bind_some, c_ru hn hR S hi, Option.bind_some, nI_subN (ru_mx r S hi)]
theorem c_gu {n : Nat} (hn : n ≤ 6) {r : Nat → Nat} (hr : ∀ k, k < n → r k ≤ 30) {σ : fsS} (hs : σ 5 0 = nI n) (hR : ∀ k, k < n → σ 26 k = nI (r k)) (S : Nat) : F_X3_givenUnless (nI S) σ = some (nI (gu r S n n)) := by
  obtain ⟨o, h1, h2⟩ := fs_loop (fun f (x : Int32 × Int32) => L_X3_givenUnless_4 f (nI S) x.1 x.2 σ) (fun k x => x.2 = nI k ∧ x.1 = nI (gu r S n k)) (fun o => o = nI (gu r S n n)) n (by
    rintro f k ⟨a, y⟩ hk ⟨hy, ha⟩
    dsimp only at hy ha ⊢
    subst hy ha
    left
    refine ⟨(nI (gu r S n (k + 1)), nI k + 1), ⟨nI_1 k, rfl⟩, ?_⟩
    rw [L_X3_givenUnless_4, hs, if_neg (nI_ge hk (by omega)), c_pu hn hr hs hR S hk, Option.bind_some, nI_add, gu]) (by
    rintro f ⟨a, y⟩ ⟨hy, ha⟩
    dsimp only at hy ha ⊢
    subst hy ha
    refine ⟨_, ?_, rfl⟩
    rw [L_X3_givenUnless_4, hs, if_pos (nI_le (Nat.le_refl n) (by omega))]) fs_fu 0 (0, 0) (Nat.zero_le _) (fs_fub _ (by omega)) ⟨rfl, rfl⟩
  unfold F_X3_givenUnless
  dsimp only at h1
  rw [h1, h2, Option.bind_some]
theorem c_ch {n p : Nat} (hn : n ≤ 6) (hp : p ≤ 12) {σ : fsS} (hs : σ 5 0 = nI n) (S : Nat) : F_X3_chanceOf (nI S) (nI p) σ = some (lN (ch p S n)) := by
  have e12 : ((12 : Int32) - nI p).toInt64 = lN (12 - p) := by
    rw [show (12 : Int32) = nI 12 from rfl, nI_subN hp, nI_l (by omega)]
  obtain ⟨o, h1, h2⟩ := fs_loop (fun f (x : Int64 × Int32) => L_X3_chanceOf_5 f (nI S) (nI p) x.1 x.2 σ) (fun k x => x.2 = nI k ∧ x.1 = lN (ch p S k)) (fun o => o = lN (ch p S n)) n (by
    rintro f k ⟨a, y⟩ hk ⟨hy, ha⟩
    dsimp only at hy ha ⊢
    subst hy ha
    left
    refine ⟨(lN (ch p S (k + 1)), nI k + 1), ⟨nI_1 k, rfl⟩, ?_⟩
    rw [L_X3_chanceOf_5, hs, if_neg (nI_ge hk (by omega)), ch, e12, nI_l (n := p) (by omega), lN_mul, lN_mul]
    by_cases e : hb (nI S) k
    · rw [if_neg e, if_pos e]
    · rw [if_pos (Decidable.not_not.mp e), if_neg e]) (by
    rintro f ⟨a, y⟩ ⟨hy, ha⟩
    dsimp only at hy ha ⊢
    subst hy ha
    refine ⟨_, ?_, rfl⟩
    rw [L_X3_chanceOf_5, hs, if_pos (nI_le (Nat.le_refl n) (by omega))]) fs_fu 0 (1, 0) (Nat.zero_le _) (fs_fub _ (by omega)) ⟨rfl, rfl⟩
  unfold F_X3_chanceOf
  dsimp only at h1
  rw [h1, h2, Option.bind_some]
theorem c_so {n i v p : Nat} (hn : n ≤ 6) (hp : p ≤ 12) (hv : v ≤ 40) {r : Nat → Nat} (hr : ∀ k, k < n → r k ≤ 30) {σ : fsS} (hs : σ 5 0 = nI n) (hR : ∀ k, k < n → σ 26 k = nI (r k)) (hi : i < n) : L_X3_odds_46 fs_fu (nI i) (nI v) (nI p) 0 0 σ = some (lN (so r n i v p (2 ^ n))) := by
  have h64 := pow64 hn
  obtain ⟨o, h1, h2⟩ := fs_loop (fun f (x : Int64 × Int32) => L_X3_odds_46 f (nI i) (nI v) (nI p) x.1 x.2 σ) (fun k x => x.2 = nI k ∧ x.1 = lN (so r n i v p k)) (fun o => o = lN (so r n i v p (2 ^ n))) (2 ^ n) (by
    rintro f k ⟨a, y⟩ hk ⟨hy, ha⟩
    dsimp only at hy ha ⊢
    subst hy ha
    left
    have m1 := mxN_le (S := k) hr
    refine ⟨(lN (so r n i v p (k + 1)), nI k + 1), ⟨nI_1 k, rfl⟩, ?_⟩
    rw [L_X3_odds_46, hs, shl1 n hn, if_neg (nI_ge hk (by omega)), c_pu hn hr hs hR k hi, Option.bind_some, so]
    by_cases e : v ≤ mxN r k n - ru r k i
    · rw [if_neg (nI_nlt e (by omega)), c_ch hn hp hs, Option.bind_some, if_pos e, lN_add]
    · rw [if_pos (nI_lt (by omega) (by omega)), if_neg e, Nat.add_zero]) (by
    rintro f ⟨a, y⟩ ⟨hy, ha⟩
    dsimp only at hy ha ⊢
    subst hy ha
    refine ⟨_, ?_, rfl⟩
    rw [L_X3_odds_46, hs, shl1 n hn, if_pos (nI_le (Nat.le_refl _) (by omega))]) fs_fu 0 (0, 0) (Nat.zero_le _) (fs_fub _ (by omega)) ⟨rfl, rfl⟩
  dsimp only at h1
  rw [h1, h2]
theorem c_sd {n p : Nat} (hn : n ≤ 6) (hp : p ≤ 12) {r : Nat → Nat} (hr : ∀ k, k < n → r k ≤ 30) {σ : fsS} (hs : σ 5 0 = nI n) (hR : ∀ k, k < n → σ 26 k = nI (r k)) : L_X3_mid_37 fs_fu (nI p) 0 0 σ = some (lN (sd r n p (2 ^ n))) := by
  have h64 := pow64 hn
  obtain ⟨o, h1, h2⟩ := fs_loop (fun f (x : Int64 × Int32) => L_X3_mid_37 f (nI p) x.1 x.2 σ) (fun k x => x.2 = nI k ∧ x.1 = lN (sd r n p k)) (fun o => o = lN (sd r n p (2 ^ n))) (2 ^ n) (by
    rintro f k ⟨a, y⟩ hk ⟨hy, ha⟩
    dsimp only at hy ha ⊢
    subst hy ha
    left
    have h3 : gu r k n n ≤ 180 := Nat.le_trans (gu_le hr n) (by omega)
    refine ⟨(lN (sd r n p (k + 1)), nI k + 1), ⟨nI_1 k, rfl⟩, ?_⟩
    rw [L_X3_mid_37, hs, shl1 n hn, if_neg (nI_ge hk (by omega)), c_ch hn hp hs, Option.bind_some, c_gu hn hr hs hR, Option.bind_some, nI_l (by omega), lN_mul, lN_add, sd]) (by
    rintro f ⟨a, y⟩ ⟨hy, ha⟩
    dsimp only at hy ha ⊢
    subst hy ha
    refine ⟨_, ?_, rfl⟩
    rw [L_X3_mid_37, hs, shl1 n hn, if_pos (nI_le (Nat.le_refl _) (by omega))]) fs_fu 0 (0, 0) (Nat.zero_le _) (fs_fub _ (by omega)) ⟨rfl, rfl⟩
  dsimp only at h1
  rw [h1, h2]
