/-! the pure words: how all are PAID, what DEEDS do; and what ties the class' cells to the reference's -/
def sR (kd lk s p : Nat → Int32) (i : Nat) : Int32 := F_X1_regardOf (kd i) (lk i) (s i) (p i)
def cp (z : Int32) : Int32 := if 0 < (if z < 99 then z else 99) then (if z < 99 then z else 99) else 0
def sP (n : Nat) (kd lk wa s p : Nat → Int32) : Nat → Int32 := fun i => if i < n then cp ((p i + (sR kd lk s p (fo (sR kd lk s p) n) - sR kd lk s p i)) - wa i) else p i
abbrev tr : Type := (Nat → Int32) × (Nat → Int32) × Int32
def wh (c : Int32) : Nat := ((c >>> ((3 : Int32) &&& 31)) &&& 7).toNatClampNeg
def wm (c : Int32) : Nat := ((c >>> ((6 : Int32) &&& 31)) &&& 7).toNatClampNeg
def mh (c : Int32) : Int32 := c >>> ((9 : Int32) &&& 31)
def ds (n : Nat) (kd lk wa : Nat → Int32) (c : Int32) (x : tr) : tr :=
  if c &&& 7 = 0 then (sP n kd lk wa x.2.1 x.1, x.2.1, x.2.2 + 1)
  else if c &&& 7 = 1 then (x.1, upd x.2.1 (wh c) (x.2.1 (wh c) + 1), x.2.2)
  else if c &&& 7 = 2 then (x.1, upd x.2.1 (wh c) 0, x.2.2)
  else if c &&& 7 = 3 then (upd (upd x.1 (wh c) (x.1 (wh c) - mh c)) (wm c) (if upd x.1 (wh c) (x.1 (wh c) - mh c) (wm c) + mh c < 99 then upd x.1 (wh c) (x.1 (wh c) - mh c) (wm c) + mh c else 99), x.2.1, x.2.2)
  else x
def snap (n : Nat) (kd lk wa p0 : Nat → Int32) (cs : Nat → Int32) : Nat → tr
  | 0 => (p0, fun _ => 0, 0)
  | j + 1 => ds n kd lk wa (cs j) (snap n kd lk wa p0 cs j)
def sn (σ : fsS) (n : Nat) (cs : Nat → Int32) (j : Nat) : tr := snap n (σ 14) (σ 15) (σ 16) (σ 17) cs j
def bd (n : Nat) (x : tr) (j : Nat) : Prop := (∀ i, i < n → ∃ a, a < 100 ∧ x.1 i = nI a) ∧ (∀ i, i < n → ∃ a, a < 4 ∧ x.2.1 i = nI a) ∧ ∃ a, a ≤ j ∧ x.2.2 = nI a
def eqs (n : Nat) (x : tr) (p s : Nat → Int32) (q : Int32) : Prop := (∀ i, i < n → p i = x.1 i) ∧ (∀ i, i < n → s i = x.2.1 i) ∧ q = x.2.2
def hsy (n : Nat) (σ : fsS) (cs : Nat → Int32) (d : Nat) : Prop := (∀ j, j ≤ d → bd n (sn σ n cs j) j) ∧ ∀ j, j < d → wh (cs j) < n ∧ wm (cs j) < n
def RA (σ : fsS) (μ : fsL) : Prop := σ 51 4 = σ 0 8 ∧ μ 51 5 = μ 0 9 ∧ μ 51 6 = μ 0 10 ∧ σ 51 7 = σ 0 7 ∧ ∀ f, 1 ≤ f → f ≤ 5 → σ 56 f = σ 9 f
def RR (σ : fsS) : Prop := σ 1 2 = 0 ∧ ∀ r, r < 6 → σ 53 r = σ 10 r ∧ (σ 10 r = -1 ∨ ∃ z, z ≤ 40 ∧ σ 10 r = nI z ∧ ∀ i, i < z → σ 52 (40 * r + i) = σ (38 + r) i)
def RT (σ : fsS) : Prop := σ 2 2 = 32 ∧ ∀ t, t < 4 → σ 55 t = σ 11 t ∧ (σ 11 t = -1 ∨ ∃ z, z ≤ 60 ∧ σ 11 t = nI z ∧ ∀ i, i < z → σ 54 (60 * t + i) = σ (44 + t) i)
def RK (n : Nat) (σ : fsS) : Prop := (n = 0 ∨ 2 ≤ n) ∧ n ≤ 6 ∧ σ 4 0 = nI n ∧ σ 5 0 = nI n ∧ σ 51 9 = nI n ∧ ∀ i, i < n → (∃ a, a < 6 ∧ σ 14 i = nI a) ∧ (∃ a, a < 10 ∧ σ 15 i = nI a) ∧ (∃ a, a < 10 ∧ σ 16 i = nI a) ∧ (∃ a, a < 100 ∧ σ 17 i = nI a) ∧ σ 18 i = 0 ∧ σ 21 i = σ 14 i ∧ σ 22 i = σ 15 i ∧ σ 23 i = σ 16 i ∧ σ 57 i = σ 14 i ∧ σ 58 i = σ 15 i ∧ σ 59 i = σ 16 i
def RD (n d : Nat) (σ : fsS) : Prop := d ≤ 40 ∧ (n = 0 → d = 0) ∧ σ 3 3 = nI d ∧ σ 51 17 = nI d ∧ hsy n σ (σ 12) d ∧ eqs n (sn σ n (σ 12) d) (σ 24) (σ 25) (σ 3 2) ∧ eqs n (sn σ n (σ 12) d) (fun i => σ 60 (1 + i)) (fun i => σ 60 (7 + i)) (σ 60 0) ∧ ∀ j, j < d → eqs n (sn σ n (σ 12) j) (fun i => σ 63 (13 * j + 1 + i)) (fun i => σ 63 (13 * j + 7 + i)) (σ 63 (13 * j))
def RP (n : Nat) (σ : fsS) : Prop := ∀ k, k < 3 → σ 64 (534 * k) = σ 13 k ∧ (σ 13 k = -1 ∨ ∃ e, e ≤ 40 ∧ 0 < n ∧ σ 13 k = nI e ∧ hsy n σ (σ (48 + k)) e ∧ eqs n (sn σ n (σ (48 + k)) e) (fun i => σ 64 (534 * k + 1 + 1 + i)) (fun i => σ 64 (534 * k + 1 + 7 + i)) (σ 64 (534 * k + 1)) ∧ ∀ j, j < e → eqs n (sn σ n (σ (48 + k)) j) (fun i => σ 64 (534 * k + 14 + 13 * j + 1 + i)) (fun i => σ 64 (534 * k + 14 + 13 * j + 7 + i)) (σ 64 (534 * k + 14 + 13 * j)))
def Rel (σ : fsS) (μ : fsL) : Prop := ∃ n d, RA σ μ ∧ RR σ ∧ RT σ ∧ RK n σ ∧ RD n d σ ∧ RP n σ
/-! which cells each of them speaks of -/
theorem RA_fr {σ σ' : fsS} {μ : fsL} (h : ∀ k j, (k = 51 ∧ (j = 4 ∨ j = 7)) ∨ (k = 0 ∧ (j = 7 ∨ j = 8)) ∨ k = 56 ∨ k = 9 → σ' k j = σ k j) (hr : RA σ μ) : RA σ' μ := by
  obtain ⟨h1, h2, h3, h4, h5⟩ := hr
  refine ⟨?_, h2, h3, ?_, fun f a b => ?_⟩
  · rw [h 51 4 (by omega), h 0 8 (by omega), h1]
  · rw [h 51 7 (by omega), h 0 7 (by omega), h4]
  · rw [h 56 f (by omega), h 9 f (by omega), h5 f a b]
theorem RR_fr {σ σ' : fsS} (h : ∀ k j, (k = 1 ∧ j = 2) ∨ k = 53 ∨ k = 10 ∨ k = 52 ∨ (38 ≤ k ∧ k < 44) → σ' k j = σ k j) (hr : RR σ) : RR σ' := by
  obtain ⟨h1, h2⟩ := hr
  refine ⟨by rw [h 1 2 (by omega), h1], fun r hr => ?_⟩
  obtain ⟨g1, g2⟩ := h2 r hr
  refine ⟨by rw [h 53 r (by omega), h 10 r (by omega), g1], ?_⟩
  rw [h 10 r (by omega)]
  rcases g2 with g2 | ⟨z, q1, q2, q3⟩
  · exact Or.inl g2
  · exact Or.inr ⟨z, q1, q2, fun i hi => by rw [h 52 _ (by omega), h (38 + r) i (by omega), q3 i hi]⟩
theorem RT_fr {σ σ' : fsS} (h : ∀ k j, (k = 2 ∧ j = 2) ∨ k = 55 ∨ k = 11 ∨ k = 54 ∨ (44 ≤ k ∧ k < 48) → σ' k j = σ k j) (hr : RT σ) : RT σ' := by
  obtain ⟨h1, h2⟩ := hr
  refine ⟨by rw [h 2 2 (by omega), h1], fun r hr => ?_⟩
  obtain ⟨g1, g2⟩ := h2 r hr
  refine ⟨by rw [h 55 r (by omega), h 11 r (by omega), g1], ?_⟩
  rw [h 11 r (by omega)]
  rcases g2 with g2 | ⟨z, q1, q2, q3⟩
  · exact Or.inl g2
  · exact Or.inr ⟨z, q1, q2, fun i hi => by rw [h 54 _ (by omega), h (44 + r) i (by omega), q3 i hi]⟩
theorem RK_fr {n : Nat} {σ σ' : fsS} (h : ∀ k j, (k = 4 ∧ j = 0) ∨ (k = 5 ∧ j = 0) ∨ (k = 51 ∧ j = 9) ∨ (14 ≤ k ∧ k < 19) ∨ (21 ≤ k ∧ k < 24) ∨ (57 ≤ k ∧ k < 60) → σ' k j = σ k j) (hr : RK n σ) : RK n σ' := by
  obtain ⟨h1, h2, h3, h4, h5, h6⟩ := hr
  refine ⟨h1, h2, by rw [h 4 0 (by omega), h3], by rw [h 5 0 (by omega), h4], by rw [h 51 9 (by omega), h5], fun i hi => ?_⟩
  rw [h 14 i (by omega), h 15 i (by omega), h 16 i (by omega), h 17 i (by omega), h 18 i (by omega), h 21 i (by omega), h 22 i (by omega), h 23 i (by omega), h 57 i (by omega), h 58 i (by omega), h 59 i (by omega)]
  exact h6 i hi
theorem sn_fr {σ σ' : fsS} (h : ∀ k j, 14 ≤ k ∧ k < 18 → σ' k j = σ k j) (n : Nat) (cs : Nat → Int32) (j : Nat) : sn σ' n cs j = sn σ n cs j := by
  unfold sn
  rw [show σ' 14 = σ 14 from funext fun j => h 14 j (by omega), show σ' 15 = σ 15 from funext fun j => h 15 j (by omega), show σ' 16 = σ 16 from funext fun j => h 16 j (by omega), show σ' 17 = σ 17 from funext fun j => h 17 j (by omega)]
theorem hsy_fr {n : Nat} {σ σ' : fsS} (h : ∀ k j, 14 ≤ k ∧ k < 18 → σ' k j = σ k j) {cs : Nat → Int32} {d : Nat} (hr : hsy n σ cs d) : hsy n σ' cs d :=
  ⟨fun j hj => by rw [sn_fr h]; exact hr.1 j hj, hr.2⟩
theorem RD_fr {n d : Nat} {σ σ' : fsS} (h : ∀ k j, (k = 3 ∧ (j = 2 ∨ j = 3)) ∨ (k = 51 ∧ j = 17) ∨ k = 12 ∨ (14 ≤ k ∧ k < 18) ∨ k = 24 ∨ k = 25 ∨ k = 60 ∨ k = 63 → σ' k j = σ k j) (hr : RD n d σ) : RD n d σ' := by
  obtain ⟨h1, h2, h3, h4, h5, h6, h7, h8⟩ := hr
  have hb : ∀ k j, 14 ≤ k ∧ k < 18 → σ' k j = σ k j := fun k j q => h k j (by omega)
  have e12 : σ' 12 = σ 12 := funext fun j => h 12 j (by omega)
  have e24 : σ' 24 = σ 24 := funext fun j => h 24 j (by omega)
  have e25 : σ' 25 = σ 25 := funext fun j => h 25 j (by omega)
  have e60 : σ' 60 = σ 60 := funext fun j => h 60 j (by omega)
  have e63 : σ' 63 = σ 63 := funext fun j => h 63 j (by omega)
  refine ⟨h1, h2, by rw [h 3 3 (by omega), h3], by rw [h 51 17 (by omega), h4], ?_, ?_, ?_, ?_⟩
  · rw [e12]; exact hsy_fr hb h5
  · rw [e12, e24, e25, h 3 2 (by omega), sn_fr hb]; exact h6
  · rw [e12, e60, sn_fr hb]; exact h7
  · intro j hj
    rw [e12, e63, sn_fr hb]; exact h8 j hj
theorem RP_fr {n : Nat} {σ σ' : fsS} (h : ∀ k j, k = 64 ∨ k = 13 ∨ (48 ≤ k ∧ k < 51) ∨ (14 ≤ k ∧ k < 18) → σ' k j = σ k j) (hr : RP n σ) : RP n σ' := by
  have hb : ∀ k j, 14 ≤ k ∧ k < 18 → σ' k j = σ k j := fun k j q => h k j (by omega)
  have e64 : σ' 64 = σ 64 := funext fun j => h 64 j (by omega)
  have e13 : σ' 13 = σ 13 := funext fun j => h 13 j (by omega)
  intro k hk
  have e48 : σ' (48 + k) = σ (48 + k) := funext fun j => h (48 + k) j (by omega)
  obtain ⟨g1, g2⟩ := hr k hk
  rw [e64, e13, e48]
  refine ⟨g1, ?_⟩
  rcases g2 with g2 | ⟨e, q1, q2, q3, q4, q5, q6⟩
  · exact Or.inl g2
  · refine Or.inr ⟨e, q1, q2, q3, hsy_fr hb q4, ?_, fun j hj => ?_⟩
    · rw [sn_fr hb]; exact q5
    · rw [sn_fr hb]; exact q6 j hj
/-- the cells of which nothing is said between calls -/
def scr (k j : Nat) : Prop := k = 6 ∨ k = 7 ∨ k = 8 ∨ k = 19 ∨ k = 20 ∨ (26 ≤ k ∧ k < 35) ∨ k = 61 ∨ k = 62 ∨ (65 ≤ k) ∨ ((k = 4 ∨ k = 5) ∧ (j = 8 ∨ j = 9)) ∨ (k = 51 ∧ 19 ≤ j ∧ j ≤ 23)
theorem Rel_fr {σ σ' : fsS} {μ : fsL} (h : ∀ k j, ¬ scr k j → σ' k j = σ k j) (hr : Rel σ μ) : Rel σ' μ := by
  obtain ⟨n, d, h1, h2, h3, h4, h5, h6⟩ := hr
  exact ⟨n, d, RA_fr (fun k j q => h k j (by unfold scr; omega)) h1, RR_fr (fun k j q => h k j (by unfold scr; omega)) h2, RT_fr (fun k j q => h k j (by unfold scr; omega)) h3, RK_fr (fun k j q => h k j (by unfold scr; omega)) h4, RD_fr (fun k j q => h k j (by unfold scr; omega)) h5, RP_fr (fun k j q => h k j (by unfold scr; omega)) h6⟩
/-! numbers -/
theorem i64 (x : Int32) : (x.toInt64).toInt = x.toInt := Int32.toInt_toInt64 x
theorem in_e (x : Int32) (a b : Int64) : F_X4_in x.toInt64 a b = if a.toInt ≤ x.toInt ∧ x.toInt ≤ b.toInt then 1 else 0 := by
  unfold F_X4_in
  by_cases h1 : x.toInt64 < a
  · rw [if_pos h1, if_neg]
    rw [Int64.lt_iff_toInt_lt, i64] at h1
    omega
  · rw [if_neg h1]
    rw [Int64.lt_iff_toInt_lt, i64] at h1
    by_cases h2 : b < x.toInt64
    · rw [if_pos h2, if_neg]
      rw [Int64.lt_iff_toInt_lt, i64] at h2
      omega
    · rw [if_neg h2, if_pos]
      rw [Int64.lt_iff_toInt_lt, i64] at h2
      omega
theorem in_y {x : Int32} {a b : Int64} (h : a.toInt ≤ x.toInt ∧ x.toInt ≤ b.toInt) : F_X4_in x.toInt64 a b = 1 := by rw [in_e, if_pos h]
theorem in_n {x : Int32} {a b : Int64} (h : ¬ (a.toInt ≤ x.toInt ∧ x.toInt ≤ b.toInt)) : F_X4_in x.toInt64 a b = 0 := by rw [in_e, if_neg h]
theorem i_lt {x y : Int32} : x < y ↔ x.toInt < y.toInt := Int32.lt_iff_toInt_lt
theorem i_le {x y : Int32} : x ≤ y ↔ x.toInt ≤ y.toInt := Int32.le_iff_toInt_le
theorem i10 : ¬ (1 : Int32) = 0 := by decide
theorem ix {x : Int32} {n : Nat} (hn : n < 2 ^ 31) (h0 : 0 ≤ x.toInt) (h1 : x.toInt < n) : ∃ j : Nat, j < n ∧ x = nI j := by
  refine ⟨x.toInt.toNat, by omega, ?_⟩
  apply Int32.toInt_inj.mp
  rw [nI_toInt (by omega)]
  omega
