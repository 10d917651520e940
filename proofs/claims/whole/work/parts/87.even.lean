/-! even: a way w tells the SOOT of all KIN -/
def ev_w (n w i : Nat) : Nat := w / 4 ^ (n - 1 - i) % 4
def ev_f (n w : Nat) : Nat → Int32 := fun i => nI (ev_w n w i)
def ev_d (n w : Nat) (s : Nat → Int32) (i : Nat) : Nat := if ev_f n w i = s i then 0 else 1
def ev_c (n w : Nat) (s : Nat → Int32) : Nat → Nat
  | 0 => 0
  | k + 1 => ev_c n w s k + ev_d n w s k
theorem ev_d_le (n w : Nat) (s : Nat → Int32) (i : Nat) : ev_d n w s i ≤ 1 := by
  unfold ev_d
  by_cases h : ev_f n w i = s i
  · rw [if_pos h]; omega
  · rw [if_neg h]; omega
theorem ev_c_le (n w : Nat) (s : Nat → Int32) : ∀ k, ev_c n w s k ≤ k
  | 0 => Nat.le_refl _
  | k + 1 => by
    have h1 := ev_c_le n w s k
    have h2 := ev_d_le n w s k
    unfold ev_c
    omega
theorem ev_c_mono (n w : Nat) (s : Nat → Int32) : ∀ k t, ev_c n w s k ≤ ev_c n w s (k + t)
  | k, 0 => Nat.le_refl _
  | k, t + 1 => Nat.le_trans (ev_c_mono n w s k t) (Nat.le_add_right _ _)
theorem ev_c_congr {n w : Nat} {s s' : Nat → Int32} : ∀ {k : Nat}, (∀ i, i < k → s i = s' i) → ev_c n w s k = ev_c n w s' k
  | 0, _ => rfl
  | k + 1, h => by
    unfold ev_c ev_d
    rw [ev_c_congr (fun i hi => h i (by omega)), h k (by omega)]
theorem ev_w_lt (n w i : Nat) : ev_w n w i < 4 := Nat.mod_lt _ (by omega)
theorem ev_sb_h : ∀ e, e < 6 → ((((2 : Int32) * nI e) &&& 31).toBitVec.smod 32).toNat = 2 * e := by decide +kernel
theorem ev_sb {w e : Nat} (hw : w < 4096) (he : e < 6) : (nI w >>> (((2 : Int32) * nI e) &&& 31)) &&& (3 : Int32) = nI (w / 4 ^ e % 4) := by
  have h1 : w / 2 ^ (2 * e) < 2 ^ 32 := Nat.lt_of_le_of_lt (Nat.div_le_self _ _) (by omega)
  rw [pk_shrN (by omega) _ (2 * e) (ev_sb_h e he), pk_andN h1 2 (by decide), Nat.pow_mul]
theorem sootBy_e {n w i : Nat} (hn : n ≤ 6) (hw : w < 4096) (hi : i < n) {σ : fsS} (hs : σ 5 0 = nI n) : F_X3_sootBy (nI w) (nI i) σ = ev_f n w i := by
  unfold F_X3_sootBy ev_f ev_w
  rw [hs, show (1 : Int32) = nI 1 from rfl, pk_sub (by omega), pk_sub (by omega), ev_sb hw (by omega)]
theorem c_ev_chg {n w : Nat} (hn : n ≤ 6) (hw : w < 4096) {σ : fsS} (hs : σ 5 0 = nI n) : F_X3_changedBy (nI w) σ = some (nI (ev_c n w (σ 25) n)) := by
  obtain ⟨o, h1, h2⟩ := fs_loop (fun f (x : Int32 × Int32) => L_X3_changedBy_4 f (nI w) x.1 x.2 σ) (fun k x => x.2 = nI k ∧ x.1 = nI (ev_c n w (σ 25) k)) (fun o => o = nI (ev_c n w (σ 25) n)) n (by
    rintro f k ⟨a, y⟩ hk ⟨hy, ha⟩
    dsimp only at hy ha ⊢
    subst hy ha
    left
    refine ⟨(nI (ev_c n w (σ 25) (k + 1)), nI k + 1), ⟨nI_1 k, rfl⟩, ?_⟩
    rw [L_X3_changedBy_4, if_neg (by rw [hs]; exact nI_ge hk (by omega)), fs_gp (inI (by omega) (by omega)), nI_clamp (by omega), sootBy_e hn hw hk hs, ev_c, ev_d]
    by_cases e : ev_f n w k = σ 25 k
    · rw [if_pos e, if_pos e, Nat.add_zero]
    · rw [if_neg e, if_neg e, nI_1]) (by
    rintro f ⟨a, y⟩ ⟨hy, ha⟩
    dsimp only at hy ha ⊢
    subst hy ha
    refine ⟨_, ?_, rfl⟩
    rw [L_X3_changedBy_4, if_pos (by rw [hs]; exact nI_le (Nat.le_refl n) (by omega))]) fs_fu 0 (0, 0) (Nat.zero_le _) (fs_fub _ (by omega)) ⟨rfl, rfl⟩
  unfold F_X3_changedBy
  dsimp only at h1
  rw [h1, h2, Option.bind_some]
/-- whether two are even behind m QUARTERS, by the way w -/
def ev_b (n : Nat) (kd lk wa p : Nat → Int32) (i j m w : Nat) : Prop := it n kd lk wa (ev_f n w) p m i = it n kd lk wa (ev_f n w) p m j
theorem c_ev_b {n w i j m : Nat} (hn : n ≤ 6) (hw : w < 4096) (hi : i < n) (hj : j < n) (hm : m ≤ 20) {σ : fsS} (hs : σ 5 0 = nI n) : ∃ v σ', F_X3_evenBy (nI w) (nI i) (nI j) (nI m) σ = some (v, σ') ∧ ((v = 1 ∧ ev_b n (σ 21) (σ 22) (σ 23) (σ 24) i j m w) ∨ (v = 0 ∧ ¬ ev_b n (σ 21) (σ 22) (σ 23) (σ 24) i j m w)) ∧ ∀ k x, ¬ (k = 6 ∨ (28 ≤ k ∧ k < 35)) → σ' k x = σ k x := by
  obtain ⟨σa, a1, a2, a3, a4⟩ := c_aside hn hs
  obtain ⟨σb, b1, b2, b3⟩ := fs_loop (fun f (x : Int32 × fsS) => L_X3_evenBy_17 f (nI w) (nI i) (nI j) (nI m) x.1 x.2) (fun k x => x.1 = nI k ∧ (∀ q, q < k → x.2 32 q = ev_f n w q) ∧ ∀ q y, ¬ q = 32 → x.2 q y = σa q y) (fun τ => (∀ q, q < n → τ 32 q = ev_f n w q) ∧ ∀ q y, ¬ q = 32 → τ q y = σa q y) n (by
    rintro f k ⟨y, τ⟩ hk ⟨hy, g1, g2⟩
    dsimp only at hy g1 g2 ⊢
    subst hy
    left
    have c0 : τ 5 0 = nI n := by rw [g2 _ _ (by omega), a4 _ _ (by omega), hs]
    refine ⟨(nI k + 1, fs_u τ 32 k (ev_f n w k)), ⟨nI_1 k, fun q hq => ?_, fun q y hq => ?_⟩, ?_⟩
    · dsimp only
      rw [fs_ug]
      by_cases e : q = k
      · rw [if_pos ⟨rfl, e⟩, e]
      · rw [if_neg (fun z => e z.2), g1 q (by omega)]
    · dsimp only
      rw [fs_ug, if_neg (fun z => hq z.1), g2 q y hq]
    · rw [L_X3_evenBy_17, if_neg (by rw [g2 _ _ (by omega), a2]; exact nI_ge hk (by omega)), fs_gp (inI (by omega) (by omega)), nI_clamp (by omega), sootBy_e hn hw hk c0]) (by
    rintro f ⟨y, τ⟩ ⟨hy, g1, g2⟩
    dsimp only at hy g1 g2 ⊢
    subst hy
    refine ⟨τ, ?_, g1, g2⟩
    rw [L_X3_evenBy_17, if_pos (by rw [g2 _ _ (by omega), a2]; exact nI_le (Nat.le_refl n) (by omega))]) fs_fu 0 (0, σa) (Nat.zero_le _) (fs_fub _ (by omega)) ⟨rfl, fun q hq => by omega, fun _ _ _ => rfl⟩
  dsimp only at b1
  obtain ⟨σc, d1, d2⟩ := w_passAll fs_K6 hn (σ := σb) (by rw [b3 _ _ (by omega), a2]) (m := m) (by omega)
  have key : ∀ q, q < n → σc 31 q = it n (σ 21) (σ 22) (σ 23) (ev_f n w) (σ 24) m q := fun q hq => by
    refine (d2.1 q).trans ?_
    refine it_congr ?_ ?_ ?_ ?_ ?_ m q hq
    · intro i hi
      exact (b3 28 i (by omega)).trans (a3 i (by omega)).1
    · intro i hi
      exact (b3 29 i (by omega)).trans (a3 i (by omega)).2.1
    · intro i hi
      exact (b3 30 i (by omega)).trans (a3 i (by omega)).2.2.1
    · intro i hi
      exact b2 i hi
    · intro i hi
      exact (b3 31 i (by omega)).trans (a3 i (by omega)).2.2.2.1
  have fr : ∀ k x, ¬ (k = 6 ∨ (28 ≤ k ∧ k < 35)) → σc k x = σ k x := fun k x q => by rw [d2.2 k x (by omega), b3 k x (by omega), a4 k x q]
  have F : ∀ v, (if σc 31 i = σc 31 j then some ((1 : Int32), σc) else some ((0 : Int32), σc)) = v → F_X3_evenBy (nI w) (nI i) (nI j) (nI m) σ = v := fun v h => by
    unfold F_X3_evenBy
    rw [a1, Option.bind_some, b1, Option.bind_some, d1, Option.bind_some, fs_gp (inI (by omega) (by omega)), fs_gp (inI (by omega) (by omega)), nI_clamp (by omega), nI_clamp (by omega)]
    exact h
  by_cases e : σc 31 i = σc 31 j
  · refine ⟨1, σc, F _ (if_pos e), Or.inl ⟨rfl, ?_⟩, fr⟩
    unfold ev_b
    rw [← key i hi, ← key j hj]
    exact e
  · refine ⟨0, σc, F _ (if_neg e), Or.inr ⟨rfl, ?_⟩, fr⟩
    unfold ev_b
    rw [← key i hi, ← key j hj]
    exact e
/-- one number of sooted noses: the first way, if there is one -/
theorem c_e62 {n i j m u : Nat} (hn : n ≤ 6) (hi : i < n) (hj : j < n) (hm : m ≤ 20) (hu : u ≤ 6) (y4 y5 : Int32) {N : Nat} (hN : N ≤ 4096) {σ ρ : fsS} (hs : σ 5 0 = nI n) (hρ : ∀ k x, ¬ (k = 6 ∨ (28 ≤ k ∧ k < 35)) → ρ k x = σ k x) : ∃ o, L_X3_even_62 fs_fu (nI i) (nI j) (nI m) y4 y5 (nI N) (nI u) 0 ρ = some o ∧ (∀ k x, ¬ (k = 6 ∨ (28 ≤ k ∧ k < 35)) → o.2.2 k x = σ k x) ∧ ((o.1 = 1 ∧ ∀ w, w < N → ev_c n w (σ 25) n = u → ¬ ev_b n (σ 21) (σ 22) (σ 23) (σ 24) i j m w) ∨ (o.1 = 0 ∧ ∃ w, w < N ∧ o.2.1 = nI w ∧ ev_c n w (σ 25) n = u ∧ ev_b n (σ 21) (σ 22) (σ 23) (σ 24) i j m w ∧ ∀ v, v < w → ev_c n v (σ 25) n = u → ¬ ev_b n (σ 21) (σ 22) (σ 23) (σ 24) i j m v)) := by
  refine fs_loop (fun f (x : Int32 × fsS) => L_X3_even_62 f (nI i) (nI j) (nI m) y4 y5 (nI N) (nI u) x.1 x.2) (fun w x => x.1 = nI w ∧ (∀ k y, ¬ (k = 6 ∨ (28 ≤ k ∧ k < 35)) → x.2 k y = σ k y) ∧ ∀ v, v < w → ev_c n v (σ 25) n = u → ¬ ev_b n (σ 21) (σ 22) (σ 23) (σ 24) i j m v) (fun (o : Nat × Int32 × fsS) => (∀ k x, ¬ (k = 6 ∨ (28 ≤ k ∧ k < 35)) → o.2.2 k x = σ k x) ∧ ((o.1 = 1 ∧ ∀ w, w < N → ev_c n w (σ 25) n = u → ¬ ev_b n (σ 21) (σ 22) (σ 23) (σ 24) i j m w) ∨ (o.1 = 0 ∧ ∃ w, w < N ∧ o.2.1 = nI w ∧ ev_c n w (σ 25) n = u ∧ ev_b n (σ 21) (σ 22) (σ 23) (σ 24) i j m w ∧ ∀ v, v < w → ev_c n v (σ 25) n = u → ¬ ev_b n (σ 21) (σ 22) (σ 23) (σ 24) i j m v))) N ?_ ?_ fs_fu 0 (0, ρ) (Nat.zero_le _) (fs_fub _ (by omega)) ⟨rfl, hρ, fun v hv => by omega⟩
  · rintro f w ⟨y, τ⟩ hw ⟨hy, g1, g2⟩
    dsimp only at hy g1 g2 ⊢
    subst hy
    have e25 : τ 25 = σ 25 := funext fun x => g1 25 x (by omega)
    have e21 : τ 21 = σ 21 := funext fun x => g1 21 x (by omega)
    have e22 : τ 22 = σ 22 := funext fun x => g1 22 x (by omega)
    have e23 : τ 23 = σ 23 := funext fun x => g1 23 x (by omega)
    have e24 : τ 24 = σ 24 := funext fun x => g1 24 x (by omega)
    have hs2 : τ 5 0 = nI n := by rw [g1 _ _ (by omega), hs]
    have hc := ev_c_le n w (σ 25) n
    have c1 : ¬ nI N ≤ nI w := nI_ge hw (by omega)
    have c2 := c_ev_chg hn (show w < 4096 by omega) hs2
    rw [e25] at c2
    by_cases e : ev_c n w (σ 25) n = u
    · obtain ⟨v, τ', b1, b2, b3⟩ := c_ev_b hn (show w < 4096 by omega) hi hj hm hs2
      rw [e21, e22, e23, e24] at b2
      have g1' : ∀ k y, ¬ (k = 6 ∨ (28 ≤ k ∧ k < 35)) → τ' k y = σ k y := fun k y q => by rw [b3 k y q, g1 k y q]
      rcases b2 with ⟨rfl, b2⟩ | ⟨rfl, b2⟩
      · right
        refine ⟨(0, nI w, τ'), ?_, g1', Or.inr ⟨rfl, w, hw, rfl, e, b2, g2⟩⟩
        rw [L_X3_even_62, if_neg c1, c2, Option.bind_some, e, if_pos rfl, b1, Option.bind_some, if_neg i10]
      · left
        refine ⟨(nI w + 1, τ'), ⟨nI_1 w, g1', fun v hv hc => ?_⟩, ?_⟩
        · by_cases ev : v = w
          · rw [ev]; exact b2
          · exact g2 v (by omega) hc
        · rw [L_X3_even_62, if_neg c1, c2, Option.bind_some, e, if_pos rfl, b1, Option.bind_some, if_pos rfl]
    · left
      refine ⟨(nI w + 1, τ), ⟨nI_1 w, g1, fun v hv hc => ?_⟩, ?_⟩
      · by_cases ev : v = w
        · rw [ev] at hc; exact absurd hc e
        · exact g2 v (by omega) hc
      · rw [L_X3_even_62, if_neg c1, c2, Option.bind_some, if_neg (fun q => e ((nI_eq (by omega) (by omega)).mp q))]
  · rintro f ⟨y, τ⟩ ⟨hy, g1, g2⟩
    dsimp only at hy g1 g2 ⊢
    subst hy
    refine ⟨(1, 0, τ), ?_, g1, Or.inl ⟨rfl, g2⟩⟩
    rw [L_X3_even_62, if_pos (nI_le (Nat.le_refl N) (by omega))]
/-- the least number, and the first way of it -/
theorem c_e52 {n i j m : Nat} (hn : n ≤ 6) (hi : i < n) (hj : j < n) (hm : m ≤ 20) (y4 : Int32) {N : Nat} (hN : N ≤ 4096) {σ : fsS} (hs : σ 5 0 = nI n) : ∃ o, L_X3_even_52 fs_fu (nI i) (nI j) (nI m) y4 (nI n) (nI N) 0 σ = some o ∧ (∀ k x, ¬ (k = 6 ∨ (28 ≤ k ∧ k < 35)) → o.2.2.2 k x = σ k x) ∧ ((o.1 = 1 ∧ ∀ w, w < N → ¬ ev_b n (σ 21) (σ 22) (σ 23) (σ 24) i j m w) ∨ (o.1 = 0 ∧ ∃ w, w < N ∧ o.2.2.1 = nI w ∧ o.2.1 = nI (ev_c n w (σ 25) n) ∧ ev_b n (σ 21) (σ 22) (σ 23) (σ 24) i j m w ∧ ∀ v, v < N → ev_b n (σ 21) (σ 22) (σ 23) (σ 24) i j m v → ev_c n w (σ 25) n < ev_c n v (σ 25) n ∨ (ev_c n w (σ 25) n = ev_c n v (σ 25) n ∧ w ≤ v))) := by
  refine fs_loop (fun f (x : Int32 × fsS) => L_X3_even_52 f (nI i) (nI j) (nI m) y4 (nI n) (nI N) x.1 x.2) (fun u x => x.1 = nI u ∧ (∀ k y, ¬ (k = 6 ∨ (28 ≤ k ∧ k < 35)) → x.2 k y = σ k y) ∧ ∀ v, v < N → ev_c n v (σ 25) n < u → ¬ ev_b n (σ 21) (σ 22) (σ 23) (σ 24) i j m v) (fun (o : Nat × Int32 × Int32 × fsS) => (∀ k x, ¬ (k = 6 ∨ (28 ≤ k ∧ k < 35)) → o.2.2.2 k x = σ k x) ∧ ((o.1 = 1 ∧ ∀ w, w < N → ¬ ev_b n (σ 21) (σ 22) (σ 23) (σ 24) i j m w) ∨ (o.1 = 0 ∧ ∃ w, w < N ∧ o.2.2.1 = nI w ∧ o.2.1 = nI (ev_c n w (σ 25) n) ∧ ev_b n (σ 21) (σ 22) (σ 23) (σ 24) i j m w ∧ ∀ v, v < N → ev_b n (σ 21) (σ 22) (σ 23) (σ 24) i j m v → ev_c n w (σ 25) n < ev_c n v (σ 25) n ∨ (ev_c n w (σ 25) n = ev_c n v (σ 25) n ∧ w ≤ v)))) (n + 1) ?_ ?_ fs_fu 0 (0, σ) (Nat.zero_le _) (fs_fub _ (by omega)) ⟨rfl, fun _ _ _ => rfl, fun v _ hv => by omega⟩
  · rintro f u ⟨y, τ⟩ hu ⟨hy, g1, g2⟩
    dsimp only at hy g1 g2 ⊢
    subst hy
    have c1 : ¬ nI n < nI u := nI_nlt (by omega) (by omega)
    obtain ⟨⟨o, y, τ'⟩, b1, b2, b3⟩ := c_e62 hn hi hj hm (u := u) (by omega) y4 (nI n) hN hs g1
    dsimp only at b2 b3
    rcases b3 with ⟨rfl, b3⟩ | ⟨rfl, w, w1, rfl, w3, w4, w5⟩
    · left
      refine ⟨(nI u + 1, τ'), ⟨nI_1 u, b2, fun v hv hc => ?_⟩, ?_⟩
      · by_cases ev : ev_c n v (σ 25) n = u
        · exact b3 v hv ev
        · exact g2 v hv (by omega)
      · rw [L_X3_even_52, if_neg c1, b1, Option.bind_some, if_neg (show ¬ (1 : Nat) = 0 by omega)]
    · right
      refine ⟨(0, nI u, nI w, τ'), ?_, b2, Or.inr ⟨rfl, w, w1, rfl, by rw [w3], w4, fun v hv he => ?_⟩⟩
      · rw [L_X3_even_52, if_neg c1, b1, Option.bind_some, if_pos rfl]
      · have h1 : ¬ ev_c n v (σ 25) n < u := fun h => g2 v hv h he
        have h2 : ev_c n v (σ 25) n = u → ¬ v < w := fun h h' => w5 v h' h he
        by_cases e : ev_c n v (σ 25) n = u
        · have := h2 e
          right
          exact ⟨by omega, by omega⟩
        · left
          omega
  · rintro f ⟨y, τ⟩ ⟨hy, g1, g2⟩
    dsimp only at hy g1 g2 ⊢
    subst hy
    refine ⟨(1, 0, 0, τ), ?_, g1, Or.inl ⟨rfl, fun w hw => ?_⟩⟩
    · rw [L_X3_even_52, if_pos (nI_lt (by omega) (by omega))]
    · have := ev_c_le n w (σ 25) n
      exact g2 w hw (by omega)
