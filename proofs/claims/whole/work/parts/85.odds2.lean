/-! the greatest common divisor, both sides; the reference's ways -/
theorem gcd_st (a b : Nat) : Nat.gcd b (a % b) = Nat.gcd a b := by
  rw [Nat.gcd_comm b (a % b), ← Nat.gcd_rec, Nat.gcd_comm]
theorem half_st {b r m : Nat} (h0 : 0 < r) (hr : r < b) (hb : b < 2 ^ (m + 1)) : b % r < 2 ^ m := by
  have e : 2 ^ (m + 1) = 2 * 2 ^ m := by rw [Nat.pow_succ, Nat.mul_comm]
  have h1 := Nat.mod_lt b h0
  by_cases h : 2 * r ≤ b
  · omega
  · have h2 : b % r = b - r := by
      rw [Nat.mod_eq_sub_mod (by omega), Nat.mod_eq_of_lt (by omega)]
    omega
theorem lN_z : lN 0 = 0 := rfl
theorem lN_n0 {b : Nat} (h0 : 0 < b) (hb : b < 2 ^ 63) : ¬ lN b = 0 := fun h => by
  rw [← lN_z, pk_lEQ hb (by decide)] at h
  omega
theorem cd3 : ∀ m f k a b, a < 2 ^ 63 → b < 2 ^ m → m ≤ 60 → k + 2 * m < 200 → 2 * m < f → L_X3_commonDivisor_3 f (lN a) (lN b) (nI k) = some (lN (Nat.gcd a b)) := by
  intro m
  induction m with
  | zero =>
    intro f k a b ha hb hm hk hf
    obtain ⟨f, rfl⟩ : ∃ f', f = f' + 1 := ⟨f - 1, by omega⟩
    have e : b = 0 := by have : b < 1 := hb; omega
    subst e
    rw [L_X3_commonDivisor_3, if_neg (show ¬ (200 : Int32) ≤ nI k from nI_ge (b := 200) (by omega) (by omega)), if_pos lN_z, Nat.gcd_zero_right]
  | succ m ih =>
    intro f k a b ha hb hm hk hf
    obtain ⟨f, rfl⟩ : ∃ f', f = f' + 1 + 1 := ⟨f - 2, by omega⟩
    have hbig : b < 2 ^ 63 := Nat.lt_of_lt_of_le hb (Nat.pow_le_pow_right (by omega) (by omega))
    rw [L_X3_commonDivisor_3, if_neg (show ¬ (200 : Int32) ≤ nI k from nI_ge (b := 200) (by omega) (by omega))]
    by_cases e : b = 0
    · subst e
      rw [if_pos lN_z, Nat.gcd_zero_right]
    · have b0 : 0 < b := by omega
      have hr := Nat.mod_lt a b0
      rw [if_neg (lN_n0 b0 hbig), fs_gp (lN_n0 b0 hbig), pk_lRem ha b0 hbig, nI_1, L_X3_commonDivisor_3, if_neg (show ¬ (200 : Int32) ≤ nI (k + 1) from nI_ge (b := 200) (by omega) (by omega)), ← gcd_st a b]
      by_cases e2 : a % b = 0
      · rw [e2, if_pos lN_z, Nat.gcd_zero_right]
      · have r0 : 0 < a % b := by omega
        have rb : a % b < 2 ^ 63 := Nat.lt_trans hr hbig
        rw [if_neg (lN_n0 r0 rb), fs_gp (lN_n0 r0 rb), pk_lRem hbig r0 rb, nI_1, ← gcd_st b (a % b)]
        exact ih f (k + 1 + 1) (a % b) (b % (a % b)) rb (half_st r0 hr hb) (by omega) (by omega) (by omega)
theorem fr6 (y1 y3 : Int64) : ∀ m f a b, a < 2 ^ 63 → b < 2 ^ m → m ≤ 60 → 2 * m < f → L_X4_fraction_6 f y1 y3 (lN a) (lN b) = some (lN (Nat.gcd a b)) := by
  intro m
  induction m with
  | zero =>
    intro f a b ha hb hm hf
    obtain ⟨f, rfl⟩ : ∃ f', f = f' + 1 := ⟨f - 1, by omega⟩
    have e : b = 0 := by have : b < 1 := hb; omega
    subst e
    rw [L_X4_fraction_6, if_pos lN_z, Nat.gcd_zero_right]
  | succ m ih =>
    intro f a b ha hb hm hf
    obtain ⟨f, rfl⟩ : ∃ f', f = f' + 1 + 1 := ⟨f - 2, by omega⟩
    have hbig : b < 2 ^ 63 := Nat.lt_of_lt_of_le hb (Nat.pow_le_pow_right (by omega) (by omega))
    rw [L_X4_fraction_6]
    by_cases e : b = 0
    · subst e
      rw [if_pos lN_z, Nat.gcd_zero_right]
    · have b0 : 0 < b := by omega
      have hr := Nat.mod_lt a b0
      rw [if_neg (lN_n0 b0 hbig), fs_gp (lN_n0 b0 hbig), pk_lRem ha b0 hbig, L_X4_fraction_6, ← gcd_st a b]
      by_cases e2 : a % b = 0
      · rw [e2, if_pos lN_z, Nat.gcd_zero_right]
      · have r0 : 0 < a % b := by omega
        have rb : a % b < 2 ^ 63 := Nat.lt_trans hr hbig
        rw [if_neg (lN_n0 r0 rb), fs_gp (lN_n0 r0 rb), pk_lRem hbig r0 rb, ← gcd_st b (a % b)]
        exact ih f (a % b) (b % (a % b)) rb (half_st r0 hr hb) (by omega) (by omega)
theorem c_all {n : Nat} (hn : n ≤ 6) (x : Int64) {σ : fsS} (hs : σ 5 0 = nI n) : L_X3_tellPart_5 fs_fu x 1 0 σ = some (lN (12 ^ n)) := by
  obtain ⟨o, h1, h2⟩ := fs_loop (fun f (y : Int64 × Int32) => L_X3_tellPart_5 f x y.1 y.2 σ) (fun k y => y.2 = nI k ∧ y.1 = lN (12 ^ k)) (fun o => o = lN (12 ^ n)) n (by
    rintro f k ⟨a, y⟩ hk ⟨hy, ha⟩
    dsimp only at hy ha ⊢
    subst hy ha
    left
    refine ⟨(lN (12 ^ (k + 1)), nI k + 1), ⟨nI_1 k, rfl⟩, ?_⟩
    rw [L_X3_tellPart_5, hs, if_neg (nI_ge hk (by omega)), show (12 : Int64) = lN 12 from rfl, lN_mul, Nat.pow_succ]) (by
    rintro f ⟨a, y⟩ ⟨hy, ha⟩
    dsimp only at hy ha ⊢
    subst hy ha
    refine ⟨_, ?_, rfl⟩
    rw [L_X3_tellPart_5, hs, if_pos (nI_le (Nat.le_refl n) (by omega))]) fs_fu 0 (1, 0) (Nat.zero_le _) (fs_fub _ (by omega)) ⟨rfl, rfl⟩
  dsimp only at h1
  rw [h1, h2]
theorem m_all {n : Nat} (hn : n ≤ 6) {σ : fsS} (hs : σ 51 9 = nI n) : F_X4_allWays σ = some (lN (12 ^ n)) := by
  obtain ⟨o, h1, h2⟩ := fs_loop (fun f (y : Int64 × Int32) => L_X4_allWays_4 f y.1 y.2 σ) (fun k y => y.2 = nI k ∧ y.1 = lN (12 ^ k)) (fun o => o = lN (12 ^ n)) n (by
    rintro f k ⟨a, y⟩ hk ⟨hy, ha⟩
    dsimp only at hy ha ⊢
    subst hy ha
    left
    refine ⟨(lN (12 ^ (k + 1)), nI k + 1), ⟨nI_1 k, rfl⟩, ?_⟩
    rw [L_X4_allWays_4, hs, if_neg (nI_ge hk (by omega)), show (12 : Int64) = lN 12 from rfl, lN_mul, Nat.pow_succ]) (by
    rintro f ⟨a, y⟩ ⟨hy, ha⟩
    dsimp only at hy ha ⊢
    subst hy ha
    refine ⟨_, ?_, rfl⟩
    rw [L_X4_allWays_4, hs, if_pos (nI_le (Nat.le_refl n) (by omega))]) fs_fu 0 (1, 0) (Nat.zero_le _) (fs_fub _ (by omega)) ⟨rfl, rfl⟩
  unfold F_X4_allWays
  dsimp only at h1
  rw [h1, h2, Option.bind_some]
/-- what is told of the part x of 12 to the power n -/
def tlC (n x : Nat) (μ : fsL) : fsL := fs_ul (fs_ul μ 0 9 (lN x / lN (Nat.gcd (12 ^ n) x))) 0 10 (lN (12 ^ n) / lN (Nat.gcd (12 ^ n) x))
def mlM (n x : Nat) (μ : fsL) : fsL := fs_ul (fs_ul μ 51 5 (lN x / lN (Nat.gcd (12 ^ n) x))) 51 6 (lN (12 ^ n) / lN (Nat.gcd (12 ^ n) x))
theorem g_pos (n x : Nat) : 0 < Nat.gcd (12 ^ n) x := Nat.gcd_pos_of_pos_left _ (Nat.pow_pos (by omega))
theorem g_le {n : Nat} (hn : n ≤ 6) (x : Nat) : Nat.gcd (12 ^ n) x ≤ 2985984 := Nat.le_trans (Nat.gcd_le_left _ (Nat.pow_pos (by omega))) (pow_le6 hn)
theorem c_tell {n x : Nat} (hn : n ≤ 6) (hx : x < 2 ^ 60) {σ : fsS} (hs : σ 5 0 = nI n) (μ : fsL) : F_X3_tellPart (lN x) σ μ = some (tlC n x μ) := by
  have h1 := g_pos n x
  have h2 := g_le hn x
  have hp := pow_le6 hn
  have hg : ¬ lN (Nat.gcd (12 ^ n) x) = 0 := lN_n0 h1 (by omega)
  have hc : F_X3_commonDivisor (lN (12 ^ n)) (lN x) = some (lN (Nat.gcd (12 ^ n) x)) := by
    unfold F_X3_commonDivisor
    rw [show (0 : Int32) = nI 0 from rfl, cd3 60 fs_fu 0 (12 ^ n) x (by omega) hx (by omega) (by omega) (fs_fub _ (by omega)), Option.bind_some]
  have hl : (0 : Int64) < lN (Nat.gcd (12 ^ n) x) := by
    rw [show (0 : Int64) = lN 0 from rfl, pk_lLT (by omega) (by omega)]
    exact h1
  unfold F_X3_tellPart
  rw [c_all hn _ hs, Option.bind_some, hc, Option.bind_some, if_pos hl, fs_gp hg, fs_gp hg]
  rfl
theorem m_tell {n x : Nat} (hn : n ≤ 6) (hx : x < 2 ^ 60) (μ : fsL) : F_X4_fraction (lN x) (lN (12 ^ n)) μ = some (1, mlM n x μ) := by
  have h1 := g_pos n x
  have h2 := g_le hn x
  have hp := pow_le6 hn
  have hg : ¬ lN (Nat.gcd (12 ^ n) x) = 0 := lN_n0 h1 (by omega)
  unfold F_X4_fraction
  rw [fr6 (lN x) (lN (12 ^ n)) 60 fs_fu x (12 ^ n) (by omega) (by omega) (by omega) (fs_fub _ (by omega)), Option.bind_some, Nat.gcd_comm x, fs_gp hg, fs_gp hg]
  rfl
/-- one set, on the reference's side -/
theorem m_set {n p : Nat} (hn : n ≤ 6) (hp : p ≤ 12) {r : Nat → Nat} (hr : ∀ k, k < n → r k ≤ 30) {σ : fsS} (hs : σ 51 9 = nI n) (hR : ∀ k, k < n → σ 62 k = nI (r k)) (y1 y2 : Int32) (y4 : Int64) (S : Nat) : ∃ σ', L_X4_ways_36 fs_fu y1 y2 (nI p) y4 (nI S) 0 1 0 σ = some (nI (mxN r S n), lN (ch p S n), σ') ∧ (∀ k, k < n → σ' 62 k = nI (ru r S k)) ∧ ∀ k j, ¬ k = 62 → σ' k j = σ k j := by
  have e12 : (12 : Int64) - (nI p).toInt64 = lN (12 - p) := by
    rw [nI_l (by omega), show (12 : Int64) = lN 12 from rfl, lN_sub hp]
  have ep : (nI p).toInt64 = lN p := nI_l (by omega)
  obtain ⟨⟨a, b, σ'⟩, h1, h2, h3, h4, h5⟩ := fs_loop (fun f (x : Int32 × Int64 × Int32 × fsS) => L_X4_ways_36 f y1 y2 (nI p) y4 (nI S) x.1 x.2.1 x.2.2.1 x.2.2.2) (fun k x => x.2.2.1 = nI k ∧ x.1 = nI (mxN r S k) ∧ x.2.1 = lN (ch p S k) ∧ (∀ j, j < k → x.2.2.2 62 j = nI (ru r S j)) ∧ (∀ j, k ≤ j → x.2.2.2 62 j = σ 62 j) ∧ ∀ q j, ¬ q = 62 → x.2.2.2 q j = σ q j) (fun (x : Int32 × Int64 × fsS) => x.1 = nI (mxN r S n) ∧ x.2.1 = lN (ch p S n) ∧ (∀ j, j < n → x.2.2 62 j = nI (ru r S j)) ∧ ∀ q j, ¬ q = 62 → x.2.2 q j = σ q j) n (by
    rintro f k ⟨a, b, y, τ⟩ hk ⟨hy, ha, hb, g1, g2, g3⟩
    dsimp only at hy ha hb g1 g2 g3 ⊢
    subst hy ha hb
    left
    have m1 := mxN_le (S := S) (n := k) (fun j hj => hr j (by omega))
    have m2 := ru_le (S := S) (hr k hk)
    have c1 : ¬ τ 51 9 ≤ nI k := by rw [g3 _ _ (by omega), hs]; exact nI_ge hk (by omega)
    have c2 : fs_in (nI k) 6 := inI (by omega) (by omega)
    have c3 : (nI k).toNatClampNeg = k := nI_clamp (by omega)
    have c4 : τ 62 k = nI (r k) := by rw [g2 k (Nat.le_refl k), hR k hk]
    have c5 : ∀ v, fs_u τ 62 k v 62 k = v := fun v => by rw [fs_ug, if_pos ⟨rfl, rfl⟩]
    refine ⟨(nI (mxN r S (k + 1)), lN (ch p S (k + 1)), nI k + 1, fs_u τ 62 k (nI (ru r S k))), ⟨nI_1 k, rfl, rfl, fun j hj => ?_, fun j hj => ?_, fun q j hq => ?_⟩, ?_⟩
    · dsimp only
      rw [fs_ug]
      by_cases e : j = k
      · rw [if_pos ⟨rfl, e⟩, e]
      · rw [if_neg (fun w => e w.2), g1 j (by omega)]
    · dsimp only
      rw [fs_ug, if_neg (by omega), g2 j (by omega)]
    · dsimp only
      rw [fs_ug, if_neg (fun w => hq w.1), g3 q j hq]
    · rw [L_X4_ways_36, if_neg c1]
      by_cases e : hb (nI S) k
      · have er : ru r S k = 0 := if_pos e
        rw [has_y e, if_neg i10, if_neg i10, fs_gp c2, fs_gp c2, c3, c5, ep, lN_mul, show (0 : Int32) = nI 0 from rfl, greaterI (by omega) (by omega), mxN, ch, er, if_pos e]
      · have er : ru r S k = r k := if_neg e
        rw [has_n e, if_pos rfl, if_pos rfl, fs_gp c2, fs_gp c2, fs_gp c2, c3, c5, c4, e12, lN_mul, greaterI (by omega) (by omega), mxN, ch, er, if_neg e]) (by
    rintro f ⟨a, b, y, τ⟩ ⟨hy, ha, hb, g1, g2, g3⟩
    dsimp only at hy ha hb g1 g2 g3 ⊢
    subst hy
    refine ⟨(a, b, τ), ?_, ha, hb, g1, g3⟩
    have c1 : τ 51 9 ≤ nI n := by rw [g3 _ _ (by omega), hs]; exact nI_le (Nat.le_refl n) (by omega)
    rw [L_X4_ways_36, if_pos c1]) fs_fu 0 (0, 1, 0, σ) (Nat.zero_le _) (fs_fub _ (by omega)) ⟨rfl, rfl, rfl, fun j hj => by omega, fun _ _ => rfl, fun _ _ _ => rfl⟩
  dsimp only at h1 h2 h3 h4 h5
  subst h2 h3
  exact ⟨σ', h1, h4, h5⟩
theorem sm_gu {r : Nat → Nat} {S n : Nat} : ∀ k, k ≤ n → sm (fun i => nI (mxN r S n) - nI (ru r S i)) k = nI (gu r S n k)
  | 0, _ => rfl
  | k + 1, h => by
    unfold sm gu
    rw [sm_gu k (by omega), nI_subN (ru_mx r S (by omega)), nI_add]
