set_option maxHeartbeats 4000000 in
theorem w84 (o : Nat) (ho : fs_K o) (n fr : Nat) (hn : n ≤ 6) (hfr : n = 0 ∨ fr < n) (R : Nat → Int32) (σ : fsS) (hs : σ o 0 = nI n) (h8 : σ o 8 = nI fr) (h9 : σ o 9 = 0) (hR : ∀ j, j < n → σ (7 * o - 14 + 5) j = R j) : ∃ σ', L_X1_weigh_84 o fs_fu 0 σ = some σ' ∧ (σ' o 9 = sm (fun i => R fr - R i) n ∧ (∀ j, j < n → σ' (7 * o - 14 + 6) j = R fr - R j) ∧ ∀ k j, ¬ (k = 7 * o - 14 + 6 ∨ (k = o ∧ j = 9)) → σ' k j = σ k j) := by
  have hb : 4 ≤ o ∧ o ≤ 6 := by rcases ho with rfl | rfl | rfl <;> omega
  refine fs_loop (fun f (x : Int32 × fsS) => L_X1_weigh_84 o f x.1 x.2) (fun i x => x.1 = nI i ∧ x.2 o 9 = sm (fun i => R fr - R i) i ∧ (∀ j, j < i → x.2 (7 * o - 14 + 6) j = R fr - R j) ∧ ∀ k j, ¬ (k = 7 * o - 14 + 6 ∨ (k = o ∧ j = 9)) → x.2 k j = σ k j) (fun σ' => σ' o 9 = sm (fun i => R fr - R i) n ∧ (∀ j, j < n → σ' (7 * o - 14 + 6) j = R fr - R j) ∧ ∀ k j, ¬ (k = 7 * o - 14 + 6 ∨ (k = o ∧ j = 9)) → σ' k j = σ k j) n ?_ ?_ fs_fu 0 (0, σ) (Nat.zero_le _) (fs_fub _ (by omega)) ⟨rfl, h9, fun j h => by omega, fun _ _ _ => rfl⟩
  · rintro f i ⟨y, τ⟩ hi ⟨hy, g9, hr, hf⟩
    dsimp only at hy g9 hr hf ⊢
    subst hy
    left
    have e1 : ¬ τ o 0 ≤ nI i := by
      rw [hf o 0 (by omega), hs]
      exact nI_ge hi (by omega)
    have e2 : fs_in (nI i) 6 := vp_in_nI (by omega) (by omega)
    have e3 : (nI i).toNatClampNeg = i := nI_clamp (by omega)
    have e5 : τ o 8 = nI fr := by rw [hf o 8 (by omega), h8]
    have e8 : fs_in (nI fr) 6 := vp_in_nI (by omega) (by omega)
    have e9 : (nI fr).toNatClampNeg = fr := nI_clamp (by omega)
    have e10 : τ (7 * o - 14 + 5) fr = R fr := by rw [hf _ _ (by omega), hR fr (by omega)]
    have e11 : τ (7 * o - 14 + 5) i = R i := by rw [hf _ _ (by omega), hR i hi]
    have e12 : (fs_u τ (7 * o - 14 + 6) i (R fr - R i)) o 9 = sm (fun i => R fr - R i) i := by rw [fs_ug, if_neg (by omega), g9]
    have e13 : (fs_u τ (7 * o - 14 + 6) i (R fr - R i)) (7 * o - 14 + 6) i = R fr - R i := by rw [fs_ug, if_pos ⟨rfl, rfl⟩]
    refine ⟨(nI i + 1, fs_u (fs_u τ (7 * o - 14 + 6) i (R fr - R i)) o 9 (sm (fun i => R fr - R i) i + (R fr - R i))), ⟨nI_1 i, ?_, ?_, ?_⟩, ?_⟩
    · dsimp only
      rw [fs_ug, if_pos ⟨rfl, rfl⟩]
      rfl
    · intro j hj
      dsimp only
      rw [fs_ug, if_neg (by omega), fs_ug]
      by_cases h : j = i
      · rw [if_pos ⟨rfl, h⟩, h]
      · rw [if_neg (fun q => h q.2), hr _ (by omega)]
    · intro k j h
      dsimp only
      rw [fs_ug, if_neg (fun q => h (Or.inr q)), fs_ug, if_neg (fun q => h (Or.inl q.1)), hf _ _ h]
    · simp only [L_X1_weigh_84, if_neg e1, e5, fs_gp e8, fs_gp e2, e3, e9, e10, e11, e12, e13]
  · rintro f ⟨y, τ⟩ ⟨hy, g9, hr, hf⟩
    dsimp only at hy g9 hr hf ⊢
    subst hy
    refine ⟨τ, ?_, g9, hr, hf⟩
    have e1 : τ o 0 ≤ nI n := by
      rw [hf o 0 (by omega), hs]
      exact nI_le (Nat.le_refl _) (by omega)
    simp only [L_X1_weigh_84, if_pos e1]
/-- weigh(): how each is REGARDED, what each would be PAID, who is first, what the BOX gives -/
theorem w_weigh (o : Nat) (ho : fs_K o) (n : Nat) (hn : n ≤ 6) (σ : fsS) (hs : σ o 0 = nI n) : ∃ σ', F_X1_weigh o σ = some σ' ∧ (σ' o 8 = nI (fo (rg σ o) n) ∧ σ' o 9 = sm (fun i => rg σ o (fo (rg σ o) n) - rg σ o i) n ∧ (∀ j, j < n → σ' (7 * o - 14 + 5) j = rg σ o j) ∧ (∀ j, j < n → σ' (7 * o - 14 + 6) j = rg σ o (fo (rg σ o) n) - rg σ o j) ∧ ∀ k j, ¬ (k = 7 * o - 14 + 5 ∨ k = 7 * o - 14 + 6 ∨ (k = o ∧ (j = 8 ∨ j = 9))) → σ' k j = σ k j) := by
  have hb : 4 ≤ o ∧ o ≤ 6 := by rcases ho with rfl | rfl | rfl <;> omega
  have hrg : ∀ i, rg (fs_u σ o 8 0) o i = rg σ o i := by
    intro i
    unfold rg
    rw [fs_ug, if_neg (by omega), fs_ug, if_neg (by omega), fs_ug, if_neg (by omega), fs_ug, if_neg (by omega)]
  have hrg' : rg (fs_u σ o 8 0) o = rg σ o := funext hrg
  obtain ⟨σ1, a1, a2, a3, a4⟩ := w7 o ho n hn (fs_u σ o 8 0) (by rw [fs_ug, if_neg (by omega), hs]) (by rw [fs_ug, if_pos ⟨rfl, rfl⟩])
  rw [hrg'] at a2 a3
  have hfo : n = 0 ∨ fo (rg σ o) n < n := by
    cases n with
    | zero => exact Or.inl rfl
    | succ n => exact Or.inr (fo_lt _ _ (by omega))
  obtain ⟨σ2, b1, b2, b3, b4⟩ := w84 o ho n (fo (rg σ o) n) hn hfo (rg σ o) (fs_u σ1 o 9 0) (by rw [fs_ug, if_neg (by omega), a4 _ _ (by omega), fs_ug, if_neg (by omega), hs]) (by rw [fs_ug, if_neg (by omega), a2]) (by rw [fs_ug, if_pos ⟨rfl, rfl⟩]) (fun j hj => by rw [fs_ug, if_neg (by omega), a3 j hj])
  refine ⟨σ2, ?_, ?_, b2, ?_, b3, ?_⟩
  · unfold F_X1_weigh
    rw [a1, Option.bind_some, b1]
    rfl
  · rw [b4 _ _ (by omega), fs_ug, if_neg (by omega), a2]
  · intro j hj
    rw [b4 _ _ (by omega), fs_ug, if_neg (by omega), a3 j hj]
  · intro k j h
    rw [b4 _ _ (by omega), fs_ug, if_neg (by omega), a4 _ _ (by omega), fs_ug, if_neg (by omega)]
theorem cp_in (z : Int32) : ∃ a, a < 100 ∧ cp z = nI a := by
  have h : 0 ≤ (cp z).toInt ∧ (cp z).toInt < 100 := by
    unfold cp
    by_cases h1 : z < 99
    · rw [if_pos h1]
      by_cases h2 : 0 < z
      · rw [if_pos h2]
        rw [i_lt, show (99 : Int32).toInt = 99 from rfl] at h1
        rw [i_lt, z0] at h2
        omega
      · rw [if_neg h2, z0]; omega
    · rw [if_neg h1, if_pos (by decide), show (99 : Int32).toInt = 99 from rfl]
      omega
  obtain ⟨a, h1, h2⟩ := ix (n := 100) (by decide) h.1 h.2
  exact ⟨a, h1, h2⟩
/-- whether a QUARTER changes a PURSE -/
def chg (p q : Nat → Int32) : Nat → Int32
  | 0 => 0
  | i + 1 => if q i = p i then chg p q i else 1
theorem chg_01 (p q : Nat → Int32) : ∀ n, chg p q n = 0 ∨ chg p q n = 1
  | 0 => Or.inl rfl
  | n + 1 => by
    unfold chg
    by_cases h : q n = p n
    · rw [if_pos h]; exact chg_01 p q n
    · rw [if_neg h]; exact Or.inr rfl
/-- the PURSES behind a QUARTER, by the cells of object o -/
def nx (σ : fsS) (o n : Nat) : Nat → Int32 := sP n (σ (7 * o - 14 + 0)) (σ (7 * o - 14 + 1)) (σ (7 * o - 14 + 2)) (σ (7 * o - 14 + 4)) (σ (7 * o - 14 + 3))
theorem nx_in (σ : fsS) (o : Nat) {n i : Nat} (hi : i < n) : nx σ o n i = cp ((σ (7 * o - 14 + 3) i + (rg σ o (fo (rg σ o) n) - rg σ o i)) - σ (7 * o - 14 + 2) i) := by
  show (if i < n then _ else _) = _
  rw [if_pos hi]
  rfl
theorem nx_out (σ : fsS) (o : Nat) {n i : Nat} (hi : ¬ i < n) : nx σ o n i = σ (7 * o - 14 + 3) i := by
  show (if i < n then _ else _) = _
  rw [if_neg hi]
set_option maxHeartbeats 4000000 in
theorem w_pass (o : Nat) (ho : fs_K o) (n : Nat) (hn : n ≤ 6) (σ : fsS) (hs : σ o 0 = nI n) : ∃ σ', F_X1_pass o σ = some (chg (σ (7 * o - 14 + 3)) (nx σ o n) n, σ') ∧ (σ' o 8 = nI (fo (rg σ o) n) ∧ σ' o 9 = sm (fun i => rg σ o (fo (rg σ o) n) - rg σ o i) n ∧ (∀ j, j < n → σ' (7 * o - 14 + 6) j = rg σ o (fo (rg σ o) n) - rg σ o j) ∧ (∀ j, σ' (7 * o - 14 + 3) j = nx σ o n j) ∧ ∀ k j, ¬ (k = 7 * o - 14 + 3 ∨ k = 7 * o - 14 + 5 ∨ k = 7 * o - 14 + 6 ∨ (k = o ∧ (j = 8 ∨ j = 9))) → σ' k j = σ k j) := by
  have hb : 4 ≤ o ∧ o ≤ 6 := by rcases ho with rfl | rfl | rfl <;> omega
  obtain ⟨σ1, a1, a2, a3, a4, a5, a6⟩ := w_weigh o ho n hn σ hs
  obtain ⟨⟨r, σ2⟩, b1, b2, b3, b4⟩ := fs_loop (fun f (x : Int32 × Int32 × fsS) => L_X1_pass_8 o f x.1 x.2.1 x.2.2) (fun i x => x.1 = chg (σ (7 * o - 14 + 3)) (nx σ o n) i ∧ x.2.1 = nI i ∧ (∀ j, x.2.2 (7 * o - 14 + 3) j = if j < i then nx σ o n j else σ (7 * o - 14 + 3) j) ∧ ∀ k j, ¬ k = 7 * o - 14 + 3 → x.2.2 k j = σ1 k j) (fun (x : Int32 × fsS) => x.1 = chg (σ (7 * o - 14 + 3)) (nx σ o n) n ∧ (∀ j, x.2 (7 * o - 14 + 3) j = if j < n then nx σ o n j else σ (7 * o - 14 + 3) j) ∧ ∀ k j, ¬ k = 7 * o - 14 + 3 → x.2 k j = σ1 k j) n (by
    rintro f i ⟨r, y, τ⟩ hi ⟨hr, hy, h1, h2⟩
    dsimp only at hr hy h1 h2 ⊢
    subst hy
    subst hr
    left
    have e1 : ¬ τ o 0 ≤ nI i := by
      rw [h2 o 0 (by omega), a6 _ _ (by omega), hs]
      exact nI_ge hi (by omega)
    have e2 : fs_in (nI i) 6 := vp_in_nI (by omega) (by omega)
    have e3 : (nI i).toNatClampNeg = i := nI_clamp (by omega)
    have e4 : τ (7 * o - 14 + 3) i = σ (7 * o - 14 + 3) i := by rw [h1 i, if_neg (by omega)]
    have e5 : τ (7 * o - 14 + 6) i = rg σ o (fo (rg σ o) n) - rg σ o i := by rw [h2 _ _ (by omega), a5 i hi]
    have e6 : τ (7 * o - 14 + 2) i = σ (7 * o - 14 + 2) i := by rw [h2 _ _ (by omega), a6 _ _ (by omega)]
    have e7 := nx_in σ o hi
    unfold cp at e7
    refine ⟨(chg (σ (7 * o - 14 + 3)) (nx σ o n) (i + 1), nI i + 1, fs_u τ (7 * o - 14 + 3) i (nx σ o n i)), ⟨rfl, nI_1 i, fun j => ?_, fun k j hk => ?_⟩, ?_⟩
    · dsimp only
      rw [fs_ug]
      by_cases h : j = i
      · rw [if_pos ⟨rfl, h⟩, if_pos (by omega), h]
      · rw [if_neg (fun q => h q.2), h1 j]
        by_cases hj : j < i
        · rw [if_pos hj, if_pos (by omega)]
        · rw [if_neg hj, if_neg (by omega)]
    · dsimp only
      rw [fs_ug, if_neg (fun q => hk q.1), h2 k j hk]
    · simp only [L_X1_pass_8, if_neg e1, fs_gp e2, e3, e4, e5, e6, ← e7]
      by_cases hc : nx σ o n i = σ (7 * o - 14 + 3) i
      · simp only [if_pos hc, chg]
      · simp only [if_neg hc, chg]) (by
    rintro f ⟨r, y, τ⟩ ⟨hr, hy, h1, h2⟩
    dsimp only at hr hy h1 h2 ⊢
    subst hy
    refine ⟨(r, τ), ?_, hr, h1, h2⟩
    have e1 : τ o 0 ≤ nI n := by
      rw [h2 o 0 (by omega), a6 _ _ (by omega), hs]
      exact nI_le (Nat.le_refl _) (by omega)
    simp only [L_X1_pass_8, if_pos e1]) fs_fu 0 (0, 0, σ1) (Nat.zero_le _) (fs_fub _ (by omega)) ⟨rfl, rfl, fun j => by dsimp only; rw [if_neg (by omega), a6 _ _ (by omega)], fun _ _ _ => rfl⟩
  dsimp only at b1 b2 b3 b4
  subst b2
  refine ⟨σ2, ?_, ?_, ?_, ?_, ?_, ?_⟩
  · unfold F_X1_pass
    rw [a1, Option.bind_some, b1, Option.bind_some, fs_gp (chg_01 _ _ n)]
  · rw [b4 _ _ (by omega), a2]
  · rw [b4 _ _ (by omega), a3]
  · intro j hj
    rw [b4 _ _ (by omega), a5 j hj]
  · intro j
    rw [b3 j]
    by_cases h : j < n
    · rw [if_pos h]
    · rw [if_neg h, nx_out σ o h]
  · intro k j h
    rw [b4 _ _ (by omega), a6 _ _ (by omega)]
