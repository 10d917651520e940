theorem fs_ug (σ : fsS) (k j : Nat) (x : Int32) (a b : Nat) : fs_u σ k j x a b = if a = k ∧ b = j then x else σ a b := by
  unfold fs_u fs_s upd
  by_cases h : a = k
  · subst h
    by_cases h2 : b = j
    · subst h2; simp
    · simp [h2]
  · simp [h]
theorem fs_ulg (σ : fsL) (k j : Nat) (x : Int64) (a b : Nat) : fs_ul σ k j x a b = if a = k ∧ b = j then x else σ a b := by
  unfold fs_ul fs_s vp_updL
  by_cases h : a = k
  · subst h
    by_cases h2 : b = j
    · subst h2; simp
    · simp [h2]
  · simp [h]
theorem fs_cyg (σ : fsS) (a b : Nat) (sp dp n : Int32) (k j : Nat) : fs_cy σ a b sp dp n k j = if k = b ∧ dp.toNatClampNeg ≤ j ∧ j < dp.toNatClampNeg + n.toNatClampNeg then σ a (sp.toNatClampNeg + (j - dp.toNatClampNeg)) else σ k j := by
  unfold fs_cy fs_s va_cpy
  by_cases h : k = b
  · subst h
    simp
  · simp [h]
/-- a loop that counts up to N, or leaves early -/
theorem fs_loop {τ ω : Type} (L : Nat → τ → Option ω) (I : Nat → τ → Prop) (Post : ω → Prop) (N : Nat)
    (hs : ∀ f i x, i < N → I i x → (∃ x', I (i + 1) x' ∧ L (f + 1) x = L f x') ∨ ∃ o, L (f + 1) x = some o ∧ Post o)
    (he : ∀ f x, I N x → ∃ o, L (f + 1) x = some o ∧ Post o) : ∀ f i x, i ≤ N → N - i < f → I i x → ∃ o, L f x = some o ∧ Post o := by
  intro f
  induction f with
  | zero => intro i x h1 h2; omega
  | succ f ih =>
    intro i x h1 h2 hI
    by_cases hi : i = N
    · subst hi
      exact he f x hI
    · rcases hs f i x (by omega) hI with ⟨x', hx, e⟩ | h
      · rw [e]
        exact ih (i + 1) x' (by omega) (by omega) hx
      · exact h
/-- the first with the most, among the first so many -/
def fo (R : Nat → Int32) : Nat → Nat
  | 0 => 0
  | i + 1 => if R (fo R i) < R i then i else fo R i
def sm (f : Nat → Int32) : Nat → Int32
  | 0 => 0
  | i + 1 => sm f i + f i
theorem fo_lt (R : Nat → Int32) : ∀ n, 0 < n → fo R n < n
  | 0, h => by omega
  | n + 1, _ => by
    unfold fo
    by_cases h : R (fo R n) < R n
    · rw [if_pos h]; omega
    · rw [if_neg h]
      cases n with
      | zero => unfold fo; omega
      | succ n => have := fo_lt R (n + 1) (by omega); omega
theorem fo_le (R : Nat → Int32) (n : Nat) : fo R n ≤ n := by
  cases n with
  | zero => exact Nat.le_refl _
  | succ n => exact Nat.le_of_lt (fo_lt R (n + 1) (by omega))
theorem sm_congr {f g : Nat → Int32} : ∀ {n : Nat}, (∀ i, i < n → f i = g i) → sm f n = sm g n
  | 0, _ => rfl
  | n + 1, h => by
    unfold sm
    rw [sm_congr (fun i hi => h i (by omega)), h n (by omega)]
/-- how REGARDED one of KIN is, by the cells of object o -/
def rg (σ : fsS) (o i : Nat) : Int32 := F_X1_regardOf (σ (7 * o - 14 + 0) i) (σ (7 * o - 14 + 1) i) (σ (7 * o - 14 + 4) i) (σ (7 * o - 14 + 3) i)
theorem fs_fub (n : Nat) (h : n < 100000) : n < fs_fu := h
