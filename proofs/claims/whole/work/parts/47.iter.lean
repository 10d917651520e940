def it (n : Nat) (kd lk wa s p : Nat → Int32) : Nat → Nat → Int32
  | 0 => p
  | m + 1 => sP n kd lk wa s (it n kd lk wa s p m)
def gv (n : Nat) (kd lk s p : Nat → Int32) : Int32 := sm (fun i => sR kd lk s p (fo (sR kd lk s p) n) - sR kd lk s p i) n
def gs (n : Nat) (kd lk wa s p : Nat → Int32) : Nat → Int32
  | 0 => 0
  | m + 1 => gs n kd lk wa s p m + gv n kd lk s (it n kd lk wa s p m)
/-- KIN as they must be -/
def kb (n : Nat) (kd lk wa s p : Nat → Int32) : Prop := n ≤ 6 ∧ ∀ i, i < n → (∃ a, a < 6 ∧ kd i = nI a) ∧ (∃ a, a < 10 ∧ lk i = nI a) ∧ (∃ a, a < 10 ∧ wa i = nI a) ∧ (∃ a, a < 4 ∧ s i = nI a) ∧ ∃ a, a < 100 ∧ p i = nI a
theorem kb_sP {n : Nat} {kd lk wa s p : Nat → Int32} (h : kb n kd lk wa s p) : kb n kd lk wa s (sP n kd lk wa s p) := by
  refine ⟨h.1, fun i hi => ?_⟩
  obtain ⟨h1, h2, h3, h4, h5⟩ := h.2 i hi
  refine ⟨h1, h2, h3, h4, ?_⟩
  show ∃ a, a < 100 ∧ (if i < n then _ else _) = nI a
  rw [if_pos hi]
  exact cp_in _
theorem kb_it {n : Nat} {kd lk wa s p : Nat → Int32} (h : kb n kd lk wa s p) : ∀ m, kb n kd lk wa s (it n kd lk wa s p m)
  | 0 => h
  | m + 1 => kb_sP (kb_it h m)
theorem kb_R {n : Nat} {kd lk wa s p : Nat → Int32} (h : kb n kd lk wa s p) {i : Nat} (hi : i < n) : F_X4_regardBy (kd i) (lk i) (s i) (p i) = sR kd lk s p i ∧ 0 ≤ (sR kd lk s p i).toInt ∧ (sR kd lk s p i).toInt ≤ 30 := by
  obtain ⟨⟨a, ha, e1⟩, ⟨b, hb, e2⟩, -, ⟨c, hc, e4⟩, ⟨d, hd, e5⟩⟩ := h.2 i hi
  unfold sR
  rw [e1, e2, e4, e5]
  obtain ⟨h1, h2, h3⟩ := rg_eq ha hb hc hd
  refine ⟨h1, ?_, ?_⟩
  · rw [i_le, z0] at h2; exact h2
  · rw [i_le, show (30 : Int32).toInt = 30 from rfl] at h3; exact h3
/-! agreement on the first n gives agreement -/
theorem fo_congr {R R' : Nat → Int32} : ∀ {n : Nat}, (∀ i, i < n → R i = R' i) → fo R n = fo R' n
  | 0, _ => rfl
  | n + 1, h => by
    have ih := fo_congr (R := R) (R' := R') (n := n) (fun i hi => h i (by omega))
    unfold fo
    rw [ih, h n (by omega)]
    by_cases h0 : n = 0
    · subst h0
      have e : fo R' 0 = 0 := rfl
      rw [e, h 0 (by omega)]
    · have := fo_lt R' n (by omega)
      rw [h (fo R' n) (by omega)]
theorem sR_congr {kd lk s p kd' lk' s' p' : Nat → Int32} {i : Nat} (h1 : kd i = kd' i) (h2 : lk i = lk' i) (h3 : s i = s' i) (h4 : p i = p' i) : sR kd lk s p i = sR kd' lk' s' p' i := by
  unfold sR
  rw [h1, h2, h3, h4]
theorem sP_congr {n : Nat} {kd lk wa s p kd' lk' wa' s' p' : Nat → Int32} (h1 : ∀ i, i < n → kd i = kd' i) (h2 : ∀ i, i < n → lk i = lk' i) (h3 : ∀ i, i < n → wa i = wa' i) (h4 : ∀ i, i < n → s i = s' i) (h5 : ∀ i, i < n → p i = p' i) : ∀ i, i < n → sP n kd lk wa s p i = sP n kd' lk' wa' s' p' i := by
  intro i hi
  have hR : ∀ j, j < n → sR kd lk s p j = sR kd' lk' s' p' j := fun j hj => sR_congr (h1 j hj) (h2 j hj) (h4 j hj) (h5 j hj)
  show (if i < n then _ else _) = (if i < n then _ else _)
  rw [if_pos hi, if_pos hi, fo_congr hR, hR _ (fo_lt _ n (by omega)), hR i hi, h3 i hi, h5 i hi]
theorem gv_congr {n : Nat} {kd lk s p kd' lk' s' p' : Nat → Int32} (h1 : ∀ i, i < n → kd i = kd' i) (h2 : ∀ i, i < n → lk i = lk' i) (h4 : ∀ i, i < n → s i = s' i) (h5 : ∀ i, i < n → p i = p' i) : gv n kd lk s p = gv n kd' lk' s' p' := by
  have hR : ∀ j, j < n → sR kd lk s p j = sR kd' lk' s' p' j := fun j hj => sR_congr (h1 j hj) (h2 j hj) (h4 j hj) (h5 j hj)
  unfold gv
  exact sm_congr (fun i hi => by rw [fo_congr hR, hR _ (fo_lt _ n (by omega)), hR i hi])
theorem it_congr {n : Nat} {kd lk wa s p kd' lk' wa' s' p' : Nat → Int32} (h1 : ∀ i, i < n → kd i = kd' i) (h2 : ∀ i, i < n → lk i = lk' i) (h3 : ∀ i, i < n → wa i = wa' i) (h4 : ∀ i, i < n → s i = s' i) (h5 : ∀ i, i < n → p i = p' i) : ∀ m i, i < n → it n kd lk wa s p m i = it n kd' lk' wa' s' p' m i
  | 0 => h5
  | m + 1 => sP_congr h1 h2 h3 h4 (it_congr h1 h2 h3 h4 h5 m)
theorem gs_congr {n : Nat} {kd lk wa s p kd' lk' wa' s' p' : Nat → Int32} (h1 : ∀ i, i < n → kd i = kd' i) (h2 : ∀ i, i < n → lk i = lk' i) (h3 : ∀ i, i < n → wa i = wa' i) (h4 : ∀ i, i < n → s i = s' i) (h5 : ∀ i, i < n → p i = p' i) : ∀ m, gs n kd lk wa s p m = gs n kd' lk' wa' s' p' m
  | 0 => rfl
  | m + 1 => by
    unfold gs
    rw [gs_congr h1 h2 h3 h4 h5 m, gv_congr h1 h2 h4 (it_congr h1 h2 h3 h4 h5 m)]
/-! the class: many QUARTERS -/
def ito (σ : fsS) (o n : Nat) : Nat → Nat → Int32 := it n (σ (7 * o - 14 + 0)) (σ (7 * o - 14 + 1)) (σ (7 * o - 14 + 2)) (σ (7 * o - 14 + 4)) (σ (7 * o - 14 + 3))
def gso (σ : fsS) (o n : Nat) : Nat → Int32 := gs n (σ (7 * o - 14 + 0)) (σ (7 * o - 14 + 1)) (σ (7 * o - 14 + 2)) (σ (7 * o - 14 + 4)) (σ (7 * o - 14 + 3))
/-- the object o stands m QUARTERS behind σ -/
def at_m (σ : fsS) (o n m : Nat) (τ : fsS) : Prop := (∀ j, τ (7 * o - 14 + 3) j = ito σ o n m j) ∧ ∀ k j, ¬ (k = 7 * o - 14 + 3 ∨ k = 7 * o - 14 + 5 ∨ k = 7 * o - 14 + 6 ∨ (k = o ∧ (j = 8 ∨ j = 9))) → τ k j = σ k j
theorem at_0 (σ : fsS) (o n : Nat) : at_m σ o n 0 σ := ⟨fun _ => rfl, fun _ _ _ => rfl⟩
theorem at_fun {σ τ : fsS} {o n m : Nat} (hb : 4 ≤ o ∧ o ≤ 6) (h : at_m σ o n m τ) : τ (7 * o - 14 + 0) = σ (7 * o - 14 + 0) ∧ τ (7 * o - 14 + 1) = σ (7 * o - 14 + 1) ∧ τ (7 * o - 14 + 2) = σ (7 * o - 14 + 2) ∧ τ (7 * o - 14 + 4) = σ (7 * o - 14 + 4) ∧ τ (7 * o - 14 + 3) = ito σ o n m :=
  ⟨funext fun j => h.2 _ j (by omega), funext fun j => h.2 _ j (by omega), funext fun j => h.2 _ j (by omega), funext fun j => h.2 _ j (by omega), funext h.1⟩
theorem at_nx {σ τ : fsS} {o n m : Nat} (hb : 4 ≤ o ∧ o ≤ 6) (h : at_m σ o n m τ) : nx τ o n = ito σ o n (m + 1) := by
  obtain ⟨h0, h1, h2, h4, h3⟩ := at_fun hb h
  unfold nx
  rw [h0, h1, h2, h4, h3]
  rfl
theorem at_rg {σ τ : fsS} {o n m : Nat} (hb : 4 ≤ o ∧ o ≤ 6) (h : at_m σ o n m τ) : rg τ o = sR (σ (7 * o - 14 + 0)) (σ (7 * o - 14 + 1)) (σ (7 * o - 14 + 4)) (ito σ o n m) := by
  obtain ⟨h0, h1, h2, h4, h3⟩ := at_fun hb h
  funext i
  unfold rg sR
  rw [h0, h1, h4, h3]
/-- one more QUARTER -/
theorem w_pass_m {o : Nat} (ho : fs_K o) {n : Nat} (hn : n ≤ 6) {σ τ : fsS} (hs : σ o 0 = nI n) {m : Nat} (h : at_m σ o n m τ) : ∃ τ', F_X1_pass o τ = some (chg (ito σ o n m) (ito σ o n (m + 1)) n, τ') ∧ at_m σ o n (m + 1) τ' ∧ τ' o 9 = gv n (σ (7 * o - 14 + 0)) (σ (7 * o - 14 + 1)) (σ (7 * o - 14 + 4)) (ito σ o n m) ∧ ∀ j, j < n → τ' (7 * o - 14 + 6) j = sR (σ (7 * o - 14 + 0)) (σ (7 * o - 14 + 1)) (σ (7 * o - 14 + 4)) (ito σ o n m) (fo (sR (σ (7 * o - 14 + 0)) (σ (7 * o - 14 + 1)) (σ (7 * o - 14 + 4)) (ito σ o n m)) n) - sR (σ (7 * o - 14 + 0)) (σ (7 * o - 14 + 1)) (σ (7 * o - 14 + 4)) (ito σ o n m) j := by
  have hb : 4 ≤ o ∧ o ≤ 6 := by rcases ho with rfl | rfl | rfl <;> omega
  obtain ⟨τ', a1, a2, a3, a4, a5, a6⟩ := w_pass o ho n hn τ (by rw [h.2 _ _ (by omega), hs])
  rw [at_nx hb h, (at_fun hb h).2.2.2.2] at a1
  rw [at_nx hb h] at a5
  rw [at_rg hb h] at a3 a4
  refine ⟨τ', a1, ⟨a5, fun k j hk => by rw [a6 k j hk, h.2 k j hk]⟩, a3, a4⟩
theorem w_passAll {o : Nat} (ho : fs_K o) {n : Nat} (hn : n ≤ 6) {σ : fsS} (hs : σ o 0 = nI n) {m : Nat} (hm : m ≤ 100) : ∃ σ', F_X1_passAll o (nI m) σ = some (gso σ o n m, σ') ∧ at_m σ o n m σ' := by
  obtain ⟨⟨r, σ'⟩, a1, a2, a3⟩ := fs_loop (fun f (x : Int32 × Int32 × fsS) => L_X1_passAll_4 o f (nI m) x.1 x.2.1 x.2.2) (fun i x => x.1 = gso σ o n i ∧ x.2.1 = nI i ∧ at_m σ o n i x.2.2) (fun (x : Int32 × fsS) => x.1 = gso σ o n m ∧ at_m σ o n m x.2) m (by
    rintro f i ⟨r, y, τ⟩ hi ⟨hr, hy, h⟩
    dsimp only at hr hy h ⊢
    subst hy
    subst hr
    left
    obtain ⟨τ', b1, b2, b3, -⟩ := w_pass_m ho hn hs h
    refine ⟨(gso σ o n (i + 1), nI i + 1, τ'), ⟨rfl, nI_1 i, b2⟩, ?_⟩
    have c1 : ¬ nI m ≤ nI i := nI_ge hi (by omega)
    simp only [L_X1_passAll_4, if_neg c1, b1, Option.bind_some, b3]
    rfl) (by
    rintro f ⟨r, y, τ⟩ ⟨hr, hy, h⟩
    dsimp only at hr hy h ⊢
    subst hy
    refine ⟨(r, τ), ?_, hr, h⟩
    simp only [L_X1_passAll_4, if_pos (nI_le (Nat.le_refl m) (by omega))]) fs_fu 0 (0, 0, σ) (Nat.zero_le _) (fs_fub _ (by omega)) ⟨rfl, rfl, at_0 σ o n⟩
  dsimp only at a1 a2 a3
  subst a2
  refine ⟨σ', ?_, a3⟩
  unfold F_X1_passAll
  rw [show (0 : Int32) = 0 from rfl, a1]
  rfl
/-! take -/
theorem c06 (σ : fsS) (a b k j : Nat) : fs_cy σ a b 0 0 6 k j = if k = b ∧ j < 6 then σ a j else σ k j := by
  rw [fs_cyg, show (0 : Int32).toNatClampNeg = 0 from rfl, show (6 : Int32).toNatClampNeg = 6 from rfl]
  simp
theorem cpK {o o1 : Nat} (ho : fs_K o) (ho1 : fs_K o1) : (fs_cp (7 * o1 - 14 + 0) (7 * o - 14 + 0) 0 0 6) ∧ (fs_cp (7 * o1 - 14 + 1) (7 * o - 14 + 1) 0 0 6) ∧ (fs_cp (7 * o1 - 14 + 2) (7 * o - 14 + 2) 0 0 6) ∧ (fs_cp (7 * o1 - 14 + 3) (7 * o - 14 + 3) 0 0 6) ∧ (fs_cp (7 * o1 - 14 + 4) (7 * o - 14 + 4) 0 0 6) := by
  rcases ho with rfl | rfl | rfl <;> rcases ho1 with rfl | rfl | rfl <;> decide
theorem w_take {o o1 : Nat} (ho : fs_K o) (ho1 : fs_K o1) (hne : ¬ o = o1) (σ : fsS) : ∃ σ', F_X1_take o o1 σ = some σ' ∧ σ' o 0 = σ o1 0 ∧ (∀ q j, q < 5 → j < 6 → σ' (7 * o - 14 + q) j = σ (7 * o1 - 14 + q) j) ∧ ∀ k j, ¬ (k = o ∧ j = 0) → ¬ (7 * o - 14 ≤ k ∧ k < 7 * o - 14 + 5 ∧ j < 6) → σ' k j = σ k j := by
  have hb : 4 ≤ o ∧ o ≤ 6 := by rcases ho with rfl | rfl | rfl <;> omega
  have hb1 : 4 ≤ o1 ∧ o1 ≤ 6 := by rcases ho1 with rfl | rfl | rfl <;> omega
  obtain ⟨g0, g1, g2, g3, g4⟩ := cpK ho ho1
  refine ⟨_, by unfold F_X1_take; rw [fs_gp g0, fs_gp g1, fs_gp g2, fs_gp g3, fs_gp g4], ?_, ?_, ?_⟩
  · rw [c06, if_neg (by omega), c06, if_neg (by omega), c06, if_neg (by omega), c06, if_neg (by omega), c06, if_neg (by omega), fs_ug, if_pos ⟨rfl, rfl⟩]
  · intro q j hq hj
    rcases (show q = 0 ∨ q = 1 ∨ q = 2 ∨ q = 3 ∨ q = 4 by omega) with rfl | rfl | rfl | rfl | rfl
    · rw [c06, if_neg (by omega), c06, if_neg (by omega), c06, if_neg (by omega), c06, if_neg (by omega), c06, if_pos ⟨rfl, hj⟩, fs_ug, if_neg (by omega)]
    · rw [c06, if_neg (by omega), c06, if_neg (by omega), c06, if_neg (by omega), c06, if_pos ⟨rfl, hj⟩, c06, if_neg (by omega), fs_ug, if_neg (by omega)]
    · rw [c06, if_neg (by omega), c06, if_neg (by omega), c06, if_pos ⟨rfl, hj⟩, c06, if_neg (by omega), c06, if_neg (by omega), fs_ug, if_neg (by omega)]
    · rw [c06, if_neg (by omega), c06, if_pos ⟨rfl, hj⟩, c06, if_neg (by omega), c06, if_neg (by omega), c06, if_neg (by omega), fs_ug, if_neg (by omega)]
    · rw [c06, if_pos ⟨rfl, hj⟩, c06, if_neg (by omega), c06, if_neg (by omega), c06, if_neg (by omega), c06, if_neg (by omega), fs_ug, if_neg (by omega)]
  · intro k j h1 h2
    rw [c06, if_neg (by omega), c06, if_neg (by omega), c06, if_neg (by omega), c06, if_neg (by omega), c06, if_neg (by omega), fs_ug, if_neg (by omega)]
/-! the reference -/
set_option maxHeartbeats 4000000 in
theorem w_copies {a0 a2 : Nat} (hne : ¬ a0 = a2) {i j m : Nat} (hi : i + m ≤ fs_len a0) (hj : j + m ≤ fs_len a2) (h1 : fs_len a0 < 5000) (h2 : fs_len a2 < 5000) (σ : fsS) : ∃ σ', F_X4_copies a0 (nI i) a2 (nI j) (nI m) σ = some σ' ∧ ∀ k x, σ' k x = if k = a2 ∧ j ≤ x ∧ x < j + m then σ a0 (i + (x - j)) else σ k x := by
  obtain ⟨σ', b1, b2⟩ := fs_loop (fun f (x : Int32 × fsS) => L_X4_copies_3 a0 a2 f (nI i) (nI j) (nI m) x.1 x.2) (fun t x => x.1 = nI t ∧ ∀ k y, x.2 k y = if k = a2 ∧ j ≤ y ∧ y < j + t then σ a0 (i + (y - j)) else σ k y) (fun σ' => ∀ k x, σ' k x = if k = a2 ∧ j ≤ x ∧ x < j + m then σ a0 (i + (x - j)) else σ k x) m (by
    rintro f t ⟨y, τ⟩ ht ⟨hy, h⟩
    dsimp only at hy h ⊢
    subst hy
    left
    have c1 : ¬ nI m ≤ nI t := nI_ge ht (by omega)
    have c2 : fs_in (nI (i + t)) (fs_len a0) := vp_in_nI (by omega) (by omega)
    have c3 : fs_in (nI (j + t)) (fs_len a2) := vp_in_nI (by omega) (by omega)
    have c4 : (nI (i + t)).toNatClampNeg = i + t := nI_clamp (by omega)
    have c5 : (nI (j + t)).toNatClampNeg = j + t := nI_clamp (by omega)
    have c6 : τ a0 (i + t) = σ a0 (i + t) := by rw [h, if_neg (fun q => hne q.1)]
    refine ⟨(nI t + 1, fs_u τ a2 (j + t) (σ a0 (i + t))), ⟨nI_1 t, fun k y => ?_⟩, ?_⟩
    · dsimp only
      rw [fs_ug]
      by_cases q : k = a2 ∧ y = j + t
      · rw [if_pos q, if_pos ⟨q.1, by omega, by omega⟩, q.2]
        congr 1
        omega
      · rw [if_neg q, h]
        by_cases q2 : k = a2 ∧ j ≤ y ∧ y < j + t
        · rw [if_pos q2, if_pos ⟨q2.1, by omega, by omega⟩]
        · rw [if_neg q2, if_neg (fun w => q2 ⟨w.1, w.2.1, by have := w.2.2; have : ¬ y = j + t := fun e => q ⟨w.1, e⟩; omega⟩)]
    · simp only [L_X4_copies_3, if_neg c1, nI_add, fs_gp c2, fs_gp c3, c4, c5, c6]) (by
    rintro f ⟨y, τ⟩ ⟨hy, h⟩
    dsimp only at hy h ⊢
    subst hy
    refine ⟨τ, ?_, h⟩
    simp only [L_X4_copies_3, if_pos (nI_le (Nat.le_refl m) (by omega))]) fs_fu 0 (0, σ) (Nat.zero_le _) (fs_fub _ (by omega)) ⟨rfl, fun k y => by dsimp only; rw [if_neg (by omega)]⟩
  refine ⟨σ', ?_, b2⟩
  unfold F_X4_copies
  dsimp only at b1
  rw [b1]
  rfl
theorem w_layAside (σ : fsS) : ∃ σ', F_X4_layAside σ = some σ' ∧ ∀ k x, σ' k x = if k = 61 ∧ x < 13 then σ 60 x else σ k x := by
  obtain ⟨σ', h1, h2⟩ := w_copies (a0 := 60) (a2 := 61) (by decide) (i := 0) (j := 0) (m := 13) (by decide) (by decide) (by decide) (by decide) σ
  refine ⟨σ', ?_, fun k x => ?_⟩
  · unfold F_X4_layAside
    rw [show (0 : Int32) = nI 0 from rfl, show (13 : Int32) = nI 13 from rfl, h1]
    rfl
  · rw [h2 k x]
    simp
/-- the reference's KIN, with the stand in the array a -/
def mv (σ : fsS) (a n : Nat) (kd lk wa s p : Nat → Int32) : Prop := σ 51 9 = nI n ∧ ∀ i, i < n → σ 57 i = kd i ∧ σ 58 i = lk i ∧ σ 59 i = wa i ∧ σ a (7 + i) = s i ∧ σ a (1 + i) = p i
def mo (R : Nat → Int32) : Nat → Int32
  | 0 => 0
  | i + 1 => F_X4_greater (mo R i) (R i)
theorem mo_fo (R : Nat → Int32) : ∀ n, 0 < n → (∀ i, i < n → 0 ≤ (R i).toInt) → mo R n = R (fo R n)
  | 0, h, _ => by omega
  | n + 1, _, hR => by
    by_cases h0 : n = 0
    · subst h0
      show F_X4_greater 0 (R 0) = R (if R 0 < R 0 then 0 else 0)
      have : (if R 0 < R 0 then 0 else 0) = 0 := by split <;> rfl
      rw [this]
      unfold F_X4_greater
      rw [if_pos (by rw [i_le, z0]; exact hR 0 (by omega))]
    · have ih := mo_fo R n (by omega) (fun i hi => hR i (by omega))
      show F_X4_greater (mo R n) (R n) = R (if R (fo R n) < R n then n else fo R n)
      rw [ih]
      unfold F_X4_greater
      by_cases h : R (fo R n) < R n
      · rw [if_pos h, if_pos (by rw [i_le]; rw [i_lt] at h; omega)]
      · rw [if_neg h]
        by_cases h2 : R (fo R n) ≤ R n
        · rw [if_pos h2]
          apply Int32.toInt_inj.mp
          rw [i_lt] at h
          rw [i_le] at h2
          omega
        · rw [if_neg h2]
set_option maxHeartbeats 4000000 in
theorem w_lays {a : Nat} (ha : a = 60 ∨ a = 61) {n : Nat} {kd lk wa s p : Nat → Int32} (hk : kb n kd lk wa s p) {σ : fsS} (hm : mv σ a n kd lk wa s p) : ∃ σ', F_X4_laysRegards a σ = some (mo (sR kd lk s p) n, σ') ∧ (∀ i, i < n → σ' 62 i = sR kd lk s p i) ∧ ∀ k j, ¬ k = 62 → σ' k j = σ k j := by
  have hla : fs_len a = 13 := by rcases ha with rfl | rfl <;> rfl
  have hn := hk.1
  obtain ⟨⟨r, σ'⟩, b1, b2, b3, b4⟩ := fs_loop (fun f (x : Int32 × Int32 × fsS) => L_X4_laysRegards_4 a f x.1 x.2.1 x.2.2) (fun t x => x.1 = mo (sR kd lk s p) t ∧ x.2.1 = nI t ∧ (∀ i, i < t → x.2.2 62 i = sR kd lk s p i) ∧ ∀ k j, ¬ k = 62 → x.2.2 k j = σ k j) (fun (x : Int32 × fsS) => x.1 = mo (sR kd lk s p) n ∧ (∀ i, i < n → x.2 62 i = sR kd lk s p i) ∧ ∀ k j, ¬ k = 62 → x.2 k j = σ k j) n (by
    rintro f t ⟨r, y, τ⟩ ht ⟨hr, hy, h1, h2⟩
    dsimp only at hr hy h1 h2 ⊢
    subst hy
    subst hr
    left
    have c1 : ¬ τ 51 9 ≤ nI t := by rw [h2 _ _ (by omega), hm.1]; exact nI_ge ht (by omega)
    have c2 : fs_in (nI t) 6 := vp_in_nI (by omega) (by omega)
    have c3 : (nI t).toNatClampNeg = t := nI_clamp (by omega)
    have c4 : (7 : Int32) + nI t = nI (7 + t) := nI_add 7 t
    have c5 : (1 : Int32) + nI t = nI (1 + t) := nI_add 1 t
    have c6 : fs_in (nI (7 + t)) 13 := vp_in_nI (by omega) (by omega)
    have c7 : fs_in (nI (1 + t)) 13 := vp_in_nI (by omega) (by omega)
    have c8 : (nI (7 + t)).toNatClampNeg = 7 + t := nI_clamp (by omega)
    have c9 : (nI (1 + t)).toNatClampNeg = 1 + t := nI_clamp (by omega)
    obtain ⟨m1, m2, m3, m4, m5⟩ := hm.2 t ht
    have ha2 : ¬ a = 62 := by omega
    have d1 : F_X4_regardBy (τ 57 t) (τ 58 t) (τ a (7 + t)) (τ a (1 + t)) = sR kd lk s p t := by
      rw [h2 _ _ (by omega), h2 _ _ (by omega), h2 _ _ ha2, h2 _ _ ha2, m1, m2, m4, m5]
      exact (kb_R hk ht).1
    have d2 : fs_u τ 62 t (sR kd lk s p t) 62 t = sR kd lk s p t := by rw [fs_ug, if_pos ⟨rfl, rfl⟩]
    refine ⟨(mo (sR kd lk s p) (t + 1), nI t + 1, fs_u τ 62 t (sR kd lk s p t)), ⟨rfl, nI_1 t, fun i hi => ?_, fun k j hk => ?_⟩, ?_⟩
    · dsimp only
      rw [fs_ug]
      by_cases q : i = t
      · rw [if_pos ⟨rfl, q⟩, q]
      · rw [if_neg (fun w => q w.2), h1 i (by omega)]
    · dsimp only
      rw [fs_ug, if_neg (fun w => hk w.1), h2 k j hk]
    · simp only [L_X4_laysRegards_4, if_neg c1, fs_gp c2, c4, c5, hla, fs_gp c6, fs_gp c7, c3, c8, c9, d1, d2]
      rfl) (by
    rintro f ⟨r, y, τ⟩ ⟨hr, hy, h1, h2⟩
    dsimp only at hr hy h1 h2 ⊢
    subst hy
    refine ⟨(r, τ), ?_, hr, h1, h2⟩
    have c1 : τ 51 9 ≤ nI n := by rw [h2 _ _ (by omega), hm.1]; exact nI_le (Nat.le_refl n) (by omega)
    simp only [L_X4_laysRegards_4, if_pos c1]) fs_fu 0 (0, 0, σ) (Nat.zero_le _) (fs_fub _ (by omega)) ⟨rfl, rfl, fun i hi => by omega, fun _ _ _ => rfl⟩
  dsimp only at b1 b2 b3 b4
  subst b2
  refine ⟨σ', ?_, b3, b4⟩
  unfold F_X4_laysRegards
  rw [b1]
  rfl
theorem w_gives {n : Nat} (hn : n ≤ 6) (M : Int32) {R : Nat → Int32} {σ : fsS} (hs : σ 51 9 = nI n) (hR : ∀ i, i < n → σ 62 i = R i) : F_X4_gives M σ = some (sm (fun i => M - R i) n) := by
  obtain ⟨r, b1, b2⟩ := fs_loop (fun f (x : Int32 × Int32) => L_X4_gives_4 f M x.1 x.2 σ) (fun t x => x.1 = sm (fun i => M - R i) t ∧ x.2 = nI t) (fun r => r = sm (fun i => M - R i) n) n (by
    rintro f t ⟨r, y⟩ ht ⟨hr, hy⟩
    dsimp only at hr hy ⊢
    subst hy
    subst hr
    left
    have c1 : ¬ σ 51 9 ≤ nI t := by rw [hs]; exact nI_ge ht (by omega)
    have c2 : fs_in (nI t) 6 := vp_in_nI (by omega) (by omega)
    have c3 : (nI t).toNatClampNeg = t := nI_clamp (by omega)
    refine ⟨(sm (fun i => M - R i) (t + 1), nI t + 1), ⟨rfl, nI_1 t⟩, ?_⟩
    simp only [L_X4_gives_4, if_neg c1, fs_gp c2, c3, hR t ht]
    rfl) (by
    rintro f ⟨r, y⟩ ⟨hr, hy⟩
    dsimp only at hr hy ⊢
    subst hy
    refine ⟨r, ?_, hr⟩
    have c1 : σ 51 9 ≤ nI n := by rw [hs]; exact nI_le (Nat.le_refl n) (by omega)
    simp only [L_X4_gives_4, if_pos c1]) fs_fu 0 (0, 0) (Nat.zero_le _) (fs_fub _ (by omega)) ⟨rfl, rfl⟩
  subst b2
  unfold F_X4_gives
  dsimp only at b1
  rw [b1]
  rfl
theorem clamp_eq (z : Int32) : F_X4_greater 0 (F_X4_lesser 99 z) = cp z := by
  unfold F_X4_greater F_X4_lesser cp
  by_cases h : z < 99
  · rw [if_pos h, if_pos (show z ≤ 99 by rw [i_le]; rw [i_lt] at h; omega)]
    by_cases h2 : 0 < z
    · rw [if_pos h2, if_pos (by rw [i_le]; rw [i_lt] at h2; omega)]
    · rw [if_neg h2]
      by_cases h3 : 0 ≤ z
      · rw [if_pos h3]
        apply Int32.toInt_inj.mp
        rw [i_lt] at h2
        rw [i_le] at h3
        omega
      · rw [if_neg h3]
  · rw [if_neg h, if_pos (show (0 : Int32) < 99 by decide)]
    by_cases h2 : z ≤ 99
    · have : z = 99 := by
        apply Int32.toInt_inj.mp
        rw [i_lt] at h
        rw [i_le] at h2
        omega
      rw [this]
      decide
    · rw [if_neg h2]
      decide
theorem pm_eq (p m r w : Int32) : ((p + m) - r) - w = (p + (m - r)) - w := by
  rw [Int32.sub_eq_add_neg (p + m), Int32.sub_eq_add_neg m, Int32.add_assoc]
