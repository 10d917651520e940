set_option maxHeartbeats 4000000 in
theorem w_goes {a : Nat} (ha : a = 60 ∨ a = 61) {n : Nat} {kd lk wa s p : Nat → Int32} (hk : kb n kd lk wa s p) {σ : fsS} (hm : mv σ a n kd lk wa s p) : ∃ σ', F_X4_goes a σ = some (gv n kd lk s p, σ') ∧ mv σ' a n kd lk wa s (sP n kd lk wa s p) ∧ σ' a 0 = σ a 0 + 1 ∧ (∀ j, n < j → σ' a j = σ a j) ∧ ∀ k j, ¬ k = 62 → ¬ k = a → σ' k j = σ k j := by
  have hla : fs_len a = 13 := by rcases ha with rfl | rfl <;> rfl
  have hn := hk.1
  obtain ⟨σ1, a1, a2, a3⟩ := w_lays ha hk hm
  have hM : ∀ i, i < n → mo (sR kd lk s p) n = sR kd lk s p (fo (sR kd lk s p) n) := fun i hi => mo_fo _ n (by omega) (fun j hj => (kb_R hk hj).2.1)
  obtain ⟨σ2, b1, b2, b3, b4⟩ := fs_loop (fun f (x : Int32 × fsS) => L_X4_goes_8 a f (mo (sR kd lk s p) n) x.1 x.2) (fun t x => x.1 = nI t ∧ (∀ i, i < t → x.2 a (1 + i) = sP n kd lk wa s p i) ∧ (∀ j, (j = 0 ∨ t < j) → x.2 a j = σ a j) ∧ ∀ k j, ¬ k = a → x.2 k j = σ1 k j) (fun σ2 => (∀ i, i < n → σ2 a (1 + i) = sP n kd lk wa s p i) ∧ (∀ j, (j = 0 ∨ n < j) → σ2 a j = σ a j) ∧ ∀ k j, ¬ k = a → σ2 k j = σ1 k j) n (by
    rintro f t ⟨y, τ⟩ ht ⟨hy, h1, h2, h3⟩
    dsimp only at hy h1 h2 h3 ⊢
    subst hy
    left
    have ha2 : ¬ (51 : Nat) = a ∧ ¬ (62 : Nat) = a ∧ ¬ (59 : Nat) = a := by omega
    have c1 : ¬ τ 51 9 ≤ nI t := by rw [h3 _ _ ha2.1, a3 _ _ (by omega), hm.1]; exact nI_ge ht (by omega)
    have c2 : fs_in (nI t) 6 := vp_in_nI (by omega) (by omega)
    have c3 : (nI t).toNatClampNeg = t := nI_clamp (by omega)
    have c5 : (1 : Int32) + nI t = nI (1 + t) := nI_add 1 t
    have c7 : fs_in (nI (1 + t)) 13 := vp_in_nI (by omega) (by omega)
    have c9 : (nI (1 + t)).toNatClampNeg = 1 + t := nI_clamp (by omega)
    obtain ⟨m1, m2, m3, m4, m5⟩ := hm.2 t ht
    have d1 : τ a (1 + t) = p t := by rw [h2 _ (by omega), m5]
    have d2 : τ 62 t = sR kd lk s p t := by rw [h3 _ _ ha2.2.1, a2 t ht]
    have d3 : τ 59 t = wa t := by rw [h3 _ _ ha2.2.2, a3 _ _ (by omega), m3]
    have d4 : sP n kd lk wa s p t = cp ((p t + (sR kd lk s p (fo (sR kd lk s p) n) - sR kd lk s p t)) - wa t) := by
      show (if t < n then _ else _) = _
      rw [if_pos ht]
    refine ⟨(nI t + 1, fs_u τ a (1 + t) (sP n kd lk wa s p t)), ⟨nI_1 t, fun i hi => ?_, fun j hj => ?_, fun k j hk => ?_⟩, ?_⟩
    · dsimp only
      rw [fs_ug]
      by_cases q : i = t
      · rw [if_pos ⟨rfl, by omega⟩, q]
      · rw [if_neg (by omega), h1 i (by omega)]
    · dsimp only
      rw [fs_ug, if_neg (by omega), h2 j (by omega)]
    · dsimp only
      rw [fs_ug, if_neg (fun w => hk w.1), h3 k j hk]
    · simp only [L_X4_goes_8, if_neg c1, c5, hla, fs_gp c7, fs_gp c2, c3, c9, d1, d2, d3, clamp_eq, pm_eq, hM t ht, d4]) (by
    rintro f ⟨y, τ⟩ ⟨hy, h1, h2, h3⟩
    dsimp only at hy h1 h2 h3 ⊢
    subst hy
    refine ⟨τ, ?_, h1, h2, h3⟩
    have c1 : τ 51 9 ≤ nI n := by rw [h3 _ _ (by omega), a3 _ _ (by omega), hm.1]; exact nI_le (Nat.le_refl n) (by omega)
    simp only [L_X4_goes_8, if_pos c1]) fs_fu 0 (0, σ1) (Nat.zero_le _) (fs_fub _ (by omega)) ⟨rfl, fun i hi => by omega, fun j hj => by dsimp only; rw [a3 _ _ (by omega)], fun _ _ _ => rfl⟩
  have g1 : F_X4_gives (mo (sR kd lk s p) n) (fs_u σ2 a 0 (σ2 a 0 + 1)) = some (gv n kd lk s p) := by
    rw [w_gives hn (mo (sR kd lk s p) n) (R := sR kd lk s p) (by rw [fs_ug, if_neg (by omega), b4 _ _ (by omega), a3 _ _ (by omega), hm.1]) (fun i hi => by rw [fs_ug, if_neg (by omega), b4 _ _ (by omega), a2 i hi])]
    unfold gv
    rw [sm_congr (fun i hi => by rw [hM i hi])]
  have c0 : fs_in (0 : Int32) 13 := by decide
  refine ⟨fs_u σ2 a 0 (σ2 a 0 + 1), ?_, ⟨?_, fun i hi => ?_⟩, ?_, ?_, ?_⟩
  · unfold F_X4_goes
    dsimp only at b1
    rw [a1, Option.bind_some]
    dsimp only
    rw [b1, Option.bind_some, hla, fs_gp c0, fs_gp c0, g1]
    rfl
  · rw [fs_ug, if_neg (by omega), b4 _ _ (by omega), a3 _ _ (by omega), hm.1]
  · obtain ⟨m1, m2, m3, m4, m5⟩ := hm.2 i hi
    refine ⟨?_, ?_, ?_, ?_, ?_⟩
    · rw [fs_ug, if_neg (by omega), b4 _ _ (by omega), a3 _ _ (by omega), m1]
    · rw [fs_ug, if_neg (by omega), b4 _ _ (by omega), a3 _ _ (by omega), m2]
    · rw [fs_ug, if_neg (by omega), b4 _ _ (by omega), a3 _ _ (by omega), m3]
    · rw [fs_ug, if_neg (by omega), b3 _ (by omega), m4]
    · rw [fs_ug, if_neg (by omega), b2 i hi]
  · rw [fs_ug, if_pos ⟨rfl, rfl⟩, b3 0 (by omega)]
  · intro j hj
    rw [fs_ug, if_neg (by omega), b3 j (by omega)]
  · intro k j h1 h2
    rw [fs_ug, if_neg (fun w => h2 w.1), b4 _ _ h2, a3 _ _ h1]
/-- the reference stands m QUARTERS on, in the array aside -/
def am (n : Nat) (kd lk wa s p : Nat → Int32) (σ : fsS) (m : Nat) (τ : fsS) : Prop := mv τ 61 n kd lk wa s (it n kd lk wa s p m) ∧ ∀ k j, ¬ k = 62 → ¬ k = 61 → τ k j = σ k j
theorem w_goes_m {n : Nat} {kd lk wa s p : Nat → Int32} (hk : kb n kd lk wa s p) {σ τ : fsS} {m : Nat} (h : am n kd lk wa s p σ m τ) : ∃ τ', F_X4_goes 61 τ = some (gv n kd lk s (it n kd lk wa s p m), τ') ∧ am n kd lk wa s p σ (m + 1) τ' := by
  obtain ⟨τ', b1, b2, -, -, b5⟩ := w_goes (Or.inr rfl) (kb_it hk m) h.1
  exact ⟨τ', b1, b2, fun k j h1 h2 => by rw [b5 k j h1 h2, h.2 k j h1 h2]⟩
theorem w_givesIn {n : Nat} {kd lk wa s p : Nat → Int32} (hk : kb n kd lk wa s p) {σ τ : fsS} (h : am n kd lk wa s p σ 0 τ) {m : Nat} (hm : m ≤ 100) : ∃ τ', F_X4_givesIn (nI m) τ = some (gs n kd lk wa s p m, τ') ∧ am n kd lk wa s p σ m τ' := by
  obtain ⟨⟨r, σ'⟩, a1, a2, a3⟩ := fs_loop (fun f (x : Int32 × Int32 × fsS) => L_X4_givesIn_4 f (nI m) x.1 x.2.1 x.2.2) (fun i x => x.1 = gs n kd lk wa s p i ∧ x.2.1 = nI i ∧ am n kd lk wa s p σ i x.2.2) (fun (x : Int32 × fsS) => x.1 = gs n kd lk wa s p m ∧ am n kd lk wa s p σ m x.2) m (by
    rintro f i ⟨r, y, τ⟩ hi ⟨hr, hy, h⟩
    dsimp only at hr hy h ⊢
    subst hy
    subst hr
    left
    obtain ⟨τ', b1, b2⟩ := w_goes_m hk h
    refine ⟨(gs n kd lk wa s p (i + 1), nI i + 1, τ'), ⟨rfl, nI_1 i, b2⟩, ?_⟩
    have c1 : ¬ nI m ≤ nI i := nI_ge hi (by omega)
    simp only [L_X4_givesIn_4, if_neg c1, b1, Option.bind_some]
    rfl) (by
    rintro f ⟨r, y, τ⟩ ⟨hr, hy, h⟩
    dsimp only at hr hy h ⊢
    subst hy
    refine ⟨(r, τ), ?_, hr, h⟩
    simp only [L_X4_givesIn_4, if_pos (nI_le (Nat.le_refl m) (by omega))]) fs_fu 0 (0, 0, τ) (Nat.zero_le _) (fs_fub _ (by omega)) ⟨rfl, rfl, h⟩
  dsimp only at a1 a2 a3
  subst a2
  refine ⟨σ', ?_, a3⟩
  unfold F_X4_givesIn
  rw [show (0 : Int32) = 0 from rfl, a1]
  rfl
/-! the KIN as they are now -/
def nowk (n : Nat) (σ : fsS) : Prop := (n = 0 ∨ 2 ≤ n) ∧ σ 5 0 = nI n ∧ kb n (σ 21) (σ 22) (σ 23) (σ 25) (σ 24) ∧ mv σ 60 n (σ 21) (σ 22) (σ 23) (σ 25) (σ 24)
theorem Rel_now {σ : fsS} {μ : fsL} (hr : Rel σ μ) : ∃ n, nowk n σ := by
  obtain ⟨n, d, q1, q2, q3, q4, q5, q6⟩ := hr
  obtain ⟨k1, k2, k3, k4, k5, k6⟩ := q4
  obtain ⟨d1, d2, d3, d4, d5, d6, d7, d8⟩ := q5
  obtain ⟨p1, p2, p3⟩ := d5.1 d (Nat.le_refl d)
  refine ⟨n, k1, k4, ⟨k2, fun i hi => ?_⟩, k5, fun i hi => ?_⟩
  · obtain ⟨g1, g2, g3, g4, g5, g6, g7, g8, g9, g10, g11⟩ := k6 i hi
    rw [g6, g7, g8, d6.1 i hi, d6.2.1 i hi]
    exact ⟨g1, g2, g3, p2 i hi, p1 i hi⟩
  · obtain ⟨g1, g2, g3, g4, g5, g6, g7, g8, g9, g10, g11⟩ := k6 i hi
    rw [g6, g7, g8, g9, g10, g11, d6.1 i hi, d6.2.1 i hi]
    exact ⟨rfl, rfl, rfl, d7.2.1 i hi, d7.1 i hi⟩
theorem isk_y {n i : Nat} (hn : n ≤ 6) (hi : i < n) {σ : fsS} (h : σ 5 0 = nI n) : F_X3_isKin (nI i) σ = 1 := by
  unfold F_X3_isKin
  rw [if_neg (nI_pos (by omega)), h, if_neg (nI_ge hi (by omega))]
theorem iso_y {n i : Nat} (hn : n ≤ 6) (hi : i < n) {σ : fsS} (h : σ 51 9 = nI n) : F_X4_isOne (nI i) σ = 1 := by
  unfold F_X4_isOne
  rw [h]
  exact mplace_y (by omega) hi
theorem isk_n {n : Nat} (hn : n ≤ 6) {x : Int32} (hx : ¬ (0 ≤ x.toInt ∧ x.toInt < n)) {σ : fsS} (h : σ 5 0 = nI n) : F_X3_isKin x σ = 0 := by
  unfold F_X3_isKin
  by_cases h0 : x < 0
  · rw [if_pos h0]
  · rw [if_neg h0, h, if_pos]
    rw [i_lt, z0] at h0
    rw [i_le, nI_toInt (by omega)]
    omega
theorem iso_n {n : Nat} (hn : n ≤ 6) {x : Int32} (hx : ¬ (0 ≤ x.toInt ∧ x.toInt < n)) {σ : fsS} (h : σ 51 9 = nI n) : F_X4_isOne x σ = 0 := by
  unfold F_X4_isOne
  rw [h]
  exact mplace_n (by omega) hx
/-! scratch, by sides -/
def sC (k j : Nat) : Prop := k = 6 ∨ k = 7 ∨ k = 8 ∨ k = 19 ∨ k = 20 ∨ (26 ≤ k ∧ k < 35) ∨ ((k = 4 ∨ k = 5) ∧ (j = 8 ∨ j = 9))
def sM (k j : Nat) : Prop := k = 61 ∨ k = 62 ∨ 65 ≤ k ∨ (k = 51 ∧ 19 ≤ j ∧ j ≤ 23)
theorem Rel_q {σ σ1 σ2 : fsS} {μ : fsL} (hr : Rel σ μ) (h1 : ∀ k j, ¬ sC k j → σ1 k j = σ k j) (h2 : ∀ k j, ¬ sM k j → σ2 k j = σ1 k j) : Rel σ2 μ :=
  Rel_fr (fun k j q => by rw [h2 k j (by unfold scr at q; unfold sM; omega), h1 k j (by unfold scr at q; unfold sC; omega)]) hr
theorem Rel_qa {σ σ1 σ2 : fsS} {μ : fsL} (hr : Rel σ μ) (v : Int32) (h1 : ∀ k j, ¬ sC k j → σ1 k j = σ k j) (h2 : ∀ k j, ¬ sM k j → σ2 k j = fs_u σ1 0 8 v k j) : Rel (fs_u σ2 51 4 v) μ := by
  refine Rel_ask hr v (fun k j q p1 p2 => ?_) ?_ ?_
  · rw [fs_ug, if_neg p1, h2 k j (by unfold scr at q; unfold sM; omega), fs_ug, if_neg p2, h1 k j (by unfold scr at q; unfold sC; omega)]
  · rw [fs_ug, if_neg (by omega), h2 0 8 (by unfold sM; omega), fs_ug, if_pos ⟨rfl, rfl⟩]
  · rw [fs_ug, if_pos ⟨rfl, rfl⟩]
theorem mv_fr {σ σ' : fsS} {n : Nat} {kd lk wa s p : Nat → Int32} (h : mv σ 60 n kd lk wa s p) (hf : ∀ k j, (k = 51 ∧ j = 9) ∨ (57 ≤ k ∧ k < 61) → σ' k j = σ k j) : mv σ' 60 n kd lk wa s p := by
  refine ⟨by rw [hf _ _ (by omega), h.1], fun i hi => ?_⟩
  rw [hf 57 i (by omega), hf 58 i (by omega), hf 59 i (by omega), hf 60 _ (by omega), hf 60 _ (by omega)]
  exact h.2 i hi
theorem rg5 (σ : fsS) : rg σ 5 = sR (σ 21) (σ 22) (σ 25) (σ 24) := rfl
/-- weigh of the KIN as they are now -/
theorem w_weigh5 {n : Nat} {σ : fsS} (hn : n ≤ 6) (hs : σ 5 0 = nI n) : ∃ σ', F_X1_weigh 5 σ = some σ' ∧ σ' 5 8 = nI (fo (sR (σ 21) (σ 22) (σ 25) (σ 24)) n) ∧ σ' 5 9 = gv n (σ 21) (σ 22) (σ 25) (σ 24) ∧ (∀ j, j < n → σ' 26 j = sR (σ 21) (σ 22) (σ 25) (σ 24) j) ∧ (∀ j, j < n → σ' 27 j = sR (σ 21) (σ 22) (σ 25) (σ 24) (fo (sR (σ 21) (σ 22) (σ 25) (σ 24)) n) - sR (σ 21) (σ 22) (σ 25) (σ 24) j) ∧ ∀ k j, ¬ (k = 26 ∨ k = 27 ∨ (k = 5 ∧ (j = 8 ∨ j = 9))) → σ' k j = σ k j := by
  obtain ⟨σ', a1, a2, a3, a4, a5, a6⟩ := w_weigh 5 fs_K5 n hn σ hs
  exact ⟨σ', a1, a2, a3, a4, a5, a6⟩
theorem e_regard : ec_regard Rel := by
  intro a1 a2 a3 σ μ hr
  obtain ⟨n, hn0, hs, hk, hm⟩ := Rel_now hr
  have hn := hk.1
  by_cases hx1 : 0 ≤ a1.toInt ∧ a1.toInt < n
  · obtain ⟨i, hi, rfl⟩ := ix (n := n) (by omega) hx1.1 hx1.2
    have y1 := isk_y hn hi hs
    have y2 := iso_y hn hi hm.1
    by_cases h2 : 0 ≤ a2.toInt ∧ a2.toInt < 4
    · obtain ⟨u, hu, rfl⟩ := ix (n := 4) (by omega) h2.1 h2.2
      have eu : (nI u).toInt = u := nI_toInt (by omega)
      by_cases h3 : 0 ≤ a3.toInt ∧ a3.toInt < 100
      · obtain ⟨v, hv, rfl⟩ := ix (n := 100) (by omega) h3.1 h3.2
        have ev : (nI v).toInt = v := nI_toInt (by omega)
        have c2 : fs_in (nI i) 6 := vp_in_nI (by omega) (by omega)
        have c3 : (nI i).toNatClampNeg = i := nI_clamp (by omega)
        have F1 : F_X3_regard (nI i) (nI u) (nI v) σ = some (F_X1_regardOf (σ 21 i) (σ 22 i) (nI u) (nI v)) := by
          unfold F_X3_regard
          rw [y1, if_neg i10, if_neg (nI_pos (by omega)), if_neg (by rw [i_lt, eu, show (3 : Int32).toInt = 3 from rfl]; omega), if_neg (nI_pos (by omega)), if_pos (by rw [i_le, ev, show (99 : Int32).toInt = 99 from rfl]; omega), fs_gp c2, fs_gp c2, c3]
        obtain ⟨m1, m2, -⟩ := hm.2 i hi
        obtain ⟨⟨a, ha, e1⟩, ⟨b, hb, e2⟩, -⟩ := hk.2 i hi
        have F2 : F_X4_regard (nI i) (nI u) (nI v) σ = some (F_X1_regardOf (σ 21 i) (σ 22 i) (nI u) (nI v)) := by
          unfold F_X4_regard
          rw [y2, if_neg i10, in_y (by rw [eu, Z0, show (3 : Int64).toInt = 3 from rfl]; omega), if_neg i10, in_y (by rw [ev, Z0, show (99 : Int64).toInt = 99 from rfl]; omega), if_neg i10, fs_gp c2, fs_gp c2, c3, m1, m2, e1, e2, (rg_eq ha hb hu hv).1]
        exact ⟨_, σ, μ, σ, μ, m_X3_regard _ _ _ σ μ _ F1, m_X4_regard _ _ _ σ μ _ F2, hr⟩
      · have F1 : F_X3_regard (nI i) (nI u) a3 σ = some (-1) := by
          unfold F_X3_regard
          rw [y1, if_neg i10, if_neg (nI_pos (by omega)), if_neg (by rw [i_lt, eu, show (3 : Int32).toInt = 3 from rfl]; omega)]
          by_cases g : a3 < 0
          · rw [if_pos g]
          · rw [if_neg g, if_neg]
            rw [i_lt, z0] at g
            rw [i_le, show (99 : Int32).toInt = 99 from rfl]
            omega
        have F2 : F_X4_regard (nI i) (nI u) a3 σ = some (-1) := by
          unfold F_X4_regard
          rw [y2, if_neg i10, in_y (by rw [eu, Z0, show (3 : Int64).toInt = 3 from rfl]; omega), if_neg i10, in_n (by rw [Z0, show (99 : Int64).toInt = 99 from rfl]; omega), if_pos rfl]
        exact ⟨-1, σ, μ, σ, μ, m_X3_regard _ _ _ σ μ _ F1, m_X4_regard _ _ _ σ μ _ F2, hr⟩
    · have F1 : F_X3_regard (nI i) a2 a3 σ = some (-1) := by
        unfold F_X3_regard
        rw [y1, if_neg i10]
        by_cases g : a2 < 0
        · rw [if_pos g]
        · rw [if_neg g, if_pos]
          rw [i_lt, z0] at g
          rw [i_lt, show (3 : Int32).toInt = 3 from rfl]
          omega
      have F2 : F_X4_regard (nI i) a2 a3 σ = some (-1) := by
        unfold F_X4_regard
        rw [y2, if_neg i10, in_n (by rw [Z0, show (3 : Int64).toInt = 3 from rfl]; omega), if_pos rfl]
      exact ⟨-1, σ, μ, σ, μ, m_X3_regard _ _ _ σ μ _ F1, m_X4_regard _ _ _ σ μ _ F2, hr⟩
  · have F1 : F_X3_regard a1 a2 a3 σ = some (-1) := by
      unfold F_X3_regard
      rw [isk_n hn hx1 hs, if_pos rfl]
    have F2 : F_X4_regard a1 a2 a3 σ = some (-1) := by
      unfold F_X4_regard
      rw [iso_n hn hx1 hm.1, if_pos rfl]
    exact ⟨-1, σ, μ, σ, μ, m_X3_regard _ _ _ σ μ _ F1, m_X4_regard _ _ _ σ μ _ F2, hr⟩
