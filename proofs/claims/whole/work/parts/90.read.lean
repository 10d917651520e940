/-! fault, house: the reading of a TEXT, both sides -/
theorem kq (x : Int32) : (F_X1_kindByLetter x = -1 ∧ F_X4_kindOf x = -9) ∨ ∃ a, a < 6 ∧ F_X1_kindByLetter x = nI a ∧ F_X4_kindOf x = nI a := by
  unfold F_X1_kindByLetter F_X4_kindOf
  by_cases h0 : x = (106 : Int32)
  · rw [if_pos h0, if_pos h0]; exact Or.inr ⟨4, by omega, rfl, rfl⟩
  rw [if_neg h0, if_neg h0]
  by_cases h1 : x = (107 : Int32)
  · rw [if_pos h1, if_pos h1]; exact Or.inr ⟨0, by omega, rfl, rfl⟩
  rw [if_neg h1, if_neg h1]
  by_cases h2 : x = (108 : Int32)
  · rw [if_pos h2, if_pos h2]; exact Or.inl ⟨rfl, rfl⟩
  rw [if_neg h2, if_neg h2]
  by_cases h3 : x = (109 : Int32)
  · rw [if_pos h3, if_pos h3]; exact Or.inr ⟨2, by omega, rfl, rfl⟩
  rw [if_neg h3, if_neg h3]
  by_cases h4 : x = (110 : Int32)
  · rw [if_pos h4, if_pos h4]; exact Or.inl ⟨rfl, rfl⟩
  rw [if_neg h4, if_neg h4]
  by_cases h5 : x = (111 : Int32)
  · rw [if_pos h5, if_pos h5]; exact Or.inl ⟨rfl, rfl⟩
  rw [if_neg h5, if_neg h5]
  by_cases h6 : x = (112 : Int32)
  · rw [if_pos h6, if_pos h6]; exact Or.inr ⟨3, by omega, rfl, rfl⟩
  rw [if_neg h6, if_neg h6]
  by_cases h7 : x = (113 : Int32)
  · rw [if_pos h7, if_pos h7]; exact Or.inl ⟨rfl, rfl⟩
  rw [if_neg h7, if_neg h7]
  by_cases h8 : x = (114 : Int32)
  · rw [if_pos h8, if_pos h8]; exact Or.inl ⟨rfl, rfl⟩
  rw [if_neg h8, if_neg h8]
  by_cases h9 : x = (115 : Int32)
  · rw [if_pos h9, if_pos h9]; exact Or.inr ⟨1, by omega, rfl, rfl⟩
  rw [if_neg h9, if_neg h9]
  by_cases h10 : x = (116 : Int32)
  · rw [if_pos h10, if_pos h10]; exact Or.inl ⟨rfl, rfl⟩
  rw [if_neg h10, if_neg h10]
  by_cases h11 : x = (117 : Int32)
  · rw [if_pos h11, if_pos h11]; exact Or.inr ⟨5, by omega, rfl, rfl⟩
  rw [if_neg h11, if_neg h11]
  exact Or.inl ⟨rfl, rfl⟩
/-- a figure -/
def dg (x : Int32) : Prop := 48 ≤ x.toInt ∧ x.toInt ≤ 57
theorem dg_v {x : Int32} (h : dg x) : ∃ d, d < 10 ∧ x = nI (48 + d) := by
  obtain ⟨j, hj, rfl⟩ := ix (x := x) (n := 58) (by decide) (by unfold dg at h; omega) (by unfold dg at h; omega)
  unfold dg at h
  rw [nI_toInt (by omega)] at h
  refine ⟨j - 48, by omega, ?_⟩
  congr 1
  omega
theorem z48 : (48 : Int32).toInt = 48 := rfl
theorem z57 : (57 : Int32).toInt = 57 := rfl
theorem dg_lt {x : Int32} (h : dg x) : ¬ x < 48 := by rw [i_lt, z48]; unfold dg at h; omega
theorem dg_le {x : Int32} (h : dg x) : x ≤ 57 := by rw [i_le, z57]; unfold dg at h; omega
theorem dg_in {x : Int32} (h : dg x) : F_X4_in x.toInt64 48 57 = 1 := in_y h
theorem dg_ni {x : Int32} (h : ¬ dg x) : F_X4_in x.toInt64 48 57 = 0 := in_n h
theorem c_digits {a L p K : Nat} (hla : fs_len a = 60) (hL : L ≤ 60) (hK : K ≤ 4) (hp : p < L) {σ : fsS} (y4 : Int32) (hg : ∀ j, j < K → p + 1 + j < L ∧ dg (σ a (p + 1 + j))) (hb : K < 4 → ¬ (p + 1 + K < L ∧ dg (σ a (p + 1 + K)))) : L_X1_readItem_21 6 a fs_fu (nI L) (nI p) y4 (nI (p + 1)) σ = some (if K = 4 then (2, 0) else if p + 1 + K < L then (1, nI (p + 1 + K)) else (0, 0)) := by
  obtain ⟨o, h1, h2⟩ := fs_loop (fun f (x : Int32) => L_X1_readItem_21 6 a f (nI L) (nI p) y4 x σ) (fun i x => x = nI (p + 1 + i)) (fun o => o = if K = 4 then (2, 0) else if p + 1 + K < L then (1, nI (p + 1 + K)) else (0, 0)) K (by
    rintro f i y hi rfl
    left
    obtain ⟨g1, g2⟩ := hg i hi
    have c1 : fs_in (nI (p + 1 + i)) (fs_len a) := by rw [hla]; exact inI (by omega) (by omega)
    refine ⟨nI (p + 1 + i) + 1, nI_1 (p + 1 + i), ?_⟩
    rw [L_X1_readItem_21, if_neg (show ¬ nI p + 5 ≤ nI (p + 1 + i) by rw [show (5 : Int32) = nI 5 from rfl, nI_add]; exact nI_ge (by omega) (by omega)), if_pos (nI_lt g1 (by omega)), fs_gp c1, if_neg (by rw [nI_clamp (by omega)]; exact dg_lt g2), fs_gp c1, if_pos (by rw [nI_clamp (by omega)]; exact dg_le g2)]) (by
    rintro f y rfl
    refine ⟨_, ?_, rfl⟩
    by_cases e : K = 4
    · subst e
      rw [L_X1_readItem_21, if_pos rfl, if_pos (show nI p + 5 ≤ nI (p + 1 + 4) by rw [show (5 : Int32) = nI 5 from rfl, nI_add]; exact nI_le (by omega) (by omega))]
    · rw [L_X1_readItem_21, if_neg (show ¬ nI p + 5 ≤ nI (p + 1 + K) by rw [show (5 : Int32) = nI 5 from rfl, nI_add]; exact nI_ge (by omega) (by omega)), if_neg e]
      by_cases e2 : p + 1 + K < L
      · have g := hb (by omega)
        have g2 : ¬ dg (σ a (p + 1 + K)) := fun h => g ⟨e2, h⟩
        have c1 : fs_in (nI (p + 1 + K)) (fs_len a) := by rw [hla]; exact inI (by omega) (by omega)
        have cl : (nI (p + 1 + K)).toNatClampNeg = p + 1 + K := nI_clamp (by omega)
        rw [if_pos (nI_lt e2 (by omega)), if_pos e2, fs_gp c1, fs_gp c1]
        by_cases e3 : σ a (p + 1 + K) < 48
        · rw [if_pos (by rw [cl]; exact e3)]
        · rw [if_neg (by rw [cl]; exact e3), if_neg]
          rw [cl]
          intro e4
          rw [i_lt, z48] at e3
          rw [i_le, z57] at e4
          exact g2 ⟨by omega, by omega⟩
      · rw [if_neg (nI_nlt (by omega) (by omega)), if_neg e2]) fs_fu 0 (nI (p + 1)) (Nat.zero_le _) (fs_fub _ (by omega)) rfl
  rw [h1, h2]
set_option maxHeartbeats 4000000 in
theorem c_item {a L p z k l w d e : Nat} (ha : 44 ≤ a) (hla : fs_len a = 60) (hL : L ≤ 60) (hp : p + 4 < L) (hz : z < 6) {σ : fsS} (h6 : σ 6 0 = nI z) (hk : F_X1_kindByLetter (σ a p) = nI k) (hk6 : k < 6) (x1 : σ a (p + 1) = nI (48 + l)) (x2 : σ a (p + 2) = nI (48 + w)) (x3 : σ a (p + 3) = nI (48 + d)) (x4 : σ a (p + 4) = nI (48 + e)) (hD : L_X1_readItem_21 6 a fs_fu (nI L) (nI p) (nI k) (nI (p + 1)) σ = some (2, 0)) : ∃ S, F_X1_readItem 6 a (nI L) (nI p) σ = some (-9, S) ∧ S 6 0 = nI (z + 1) ∧ S 28 z = nI k ∧ S 29 z = nI l ∧ S 30 z = nI w ∧ S 31 z = nI (10 * d + e) ∧ S 32 z = 0 ∧ ∀ k j, ¬ (k = 6 ∧ j = 0) → ¬ (28 ≤ k ∧ k < 33 ∧ j = z) → S k j = σ k j := by
  have E0 : 7 * 6 - 14 + 0 = 28 := rfl
  have E1 : 7 * 6 - 14 + 1 = 29 := rfl
  have E2 : 7 * 6 - 14 + 2 = 30 := rfl
  have E3 : 7 * 6 - 14 + 3 = 31 := rfl
  have E4 : 7 * 6 - 14 + 4 = 32 := rfl
  have a28 : ∀ (τ : fsS) (j : Nat) (x : Int32), fs_u τ 28 j x 6 0 = τ 6 0 := fun τ j x => by rw [fs_ug, if_neg (by omega)]
  have b28 : ∀ (τ : fsS) (j : Nat) (x : Int32) (y : Nat), fs_u τ 28 j x a y = τ a y := fun τ j x y => by rw [fs_ug, if_neg (by omega)]
  have a29 : ∀ (τ : fsS) (j : Nat) (x : Int32), fs_u τ 29 j x 6 0 = τ 6 0 := fun τ j x => by rw [fs_ug, if_neg (by omega)]
  have b29 : ∀ (τ : fsS) (j : Nat) (x : Int32) (y : Nat), fs_u τ 29 j x a y = τ a y := fun τ j x y => by rw [fs_ug, if_neg (by omega)]
  have a30 : ∀ (τ : fsS) (j : Nat) (x : Int32), fs_u τ 30 j x 6 0 = τ 6 0 := fun τ j x => by rw [fs_ug, if_neg (by omega)]
  have b30 : ∀ (τ : fsS) (j : Nat) (x : Int32) (y : Nat), fs_u τ 30 j x a y = τ a y := fun τ j x y => by rw [fs_ug, if_neg (by omega)]
  have a31 : ∀ (τ : fsS) (j : Nat) (x : Int32), fs_u τ 31 j x 6 0 = τ 6 0 := fun τ j x => by rw [fs_ug, if_neg (by omega)]
  have b31 : ∀ (τ : fsS) (j : Nat) (x : Int32) (y : Nat), fs_u τ 31 j x a y = τ a y := fun τ j x y => by rw [fs_ug, if_neg (by omega)]
  have a32 : ∀ (τ : fsS) (j : Nat) (x : Int32), fs_u τ 32 j x 6 0 = τ 6 0 := fun τ j x => by rw [fs_ug, if_neg (by omega)]
  have b32 : ∀ (τ : fsS) (j : Nat) (x : Int32) (y : Nat), fs_u τ 32 j x a y = τ a y := fun τ j x y => by rw [fs_ug, if_neg (by omega)]
  have p1 : nI p + 1 = nI (p + 1) := nI_1 p
  have p2 : nI p + 2 = nI (p + 2) := nI_add p 2
  have p3 : nI p + 3 = nI (p + 3) := nI_add p 3
  have p4 : nI p + 4 = nI (p + 4) := nI_add p 4
  have nn0 : (nI p).toNatClampNeg = p := nI_clamp (by omega)
  have nn1 : (nI (p + 1)).toNatClampNeg = p + 1 := nI_clamp (by omega)
  have nn2 : (nI (p + 2)).toNatClampNeg = p + 2 := nI_clamp (by omega)
  have nn3 : (nI (p + 3)).toNatClampNeg = p + 3 := nI_clamp (by omega)
  have nn4 : (nI (p + 4)).toNatClampNeg = p + 4 := nI_clamp (by omega)
  have nz : (nI z).toNatClampNeg = z := nI_clamp (by omega)
  have i0 : fs_in (nI p) 60 := inI (by omega) (by omega)
  have i1 : fs_in (nI (p + 1)) 60 := inI (by omega) (by omega)
  have i2 : fs_in (nI (p + 2)) 60 := inI (by omega) (by omega)
  have i3 : fs_in (nI (p + 3)) 60 := inI (by omega) (by omega)
  have i4 : fs_in (nI (p + 4)) 60 := inI (by omega) (by omega)
  have iz : fs_in (nI z) 6 := inI (by omega) (by omega)
  have v1 : nI (48 + l) - 48 = nI l := by rw [show (48 : Int32) = nI 48 from rfl, pk_sub (by omega), Nat.add_sub_cancel_left]
  have v2 : nI (48 + w) - 48 = nI w := by rw [show (48 : Int32) = nI 48 from rfl, pk_sub (by omega), Nat.add_sub_cancel_left]
  have v3 : nI (48 + d) - 48 = nI d := by rw [show (48 : Int32) = nI 48 from rfl, pk_sub (by omega), Nat.add_sub_cancel_left]
  have v4 : ((10 : Int32) * nI d + nI (48 + e)) - 48 = nI (10 * d + e) := by
    rw [show (10 : Int32) = nI 10 from rfl, pk_mul, nI_add, show (48 : Int32) = nI 48 from rfl, pk_sub (by omega)]
    congr 1
    omega
  have hk1 : ¬ nI k = (-1 : Int32) := n1 k (by omega)
  refine ⟨fs_u (fs_u (fs_u (fs_u (fs_u (fs_u σ 28 z (nI k)) 29 z (nI l)) 30 z (nI w)) 31 z (nI (10 * d + e))) 32 z 0) 6 0 (nI z + 1), ?_, ?_, ?_, ?_, ?_, ?_, ?_, ?_⟩
  · unfold F_X1_readItem
    simp only [hla, nn0, hk, p1, hD, fs_gp i0, if_neg hk1, Option.bind_some, if_neg (show ¬ (2 : Nat) = 0 by omega), if_neg (show ¬ (2 : Nat) = 1 by omega), E0, E1, E2, E3, E4, a28, a29, a30, a31, a32, b28, b29, b30, b31, b32, h6, nz, fs_gp iz, p2, p3, p4, fs_gp i1, fs_gp i2, fs_gp i3, fs_gp i4, nn1, nn2, nn3, nn4, x1, x2, x3, x4, v1, v2, v3, v4]
  · rw [fs_ug, if_pos ⟨rfl, rfl⟩, nI_1]
  · rw [fs_ug, if_neg (by omega), fs_ug, if_neg (by omega), fs_ug, if_neg (by omega), fs_ug, if_neg (by omega), fs_ug, if_neg (by omega), fs_ug, if_pos ⟨rfl, rfl⟩]
  · rw [fs_ug, if_neg (by omega), fs_ug, if_neg (by omega), fs_ug, if_neg (by omega), fs_ug, if_neg (by omega), fs_ug, if_pos ⟨rfl, rfl⟩]
  · rw [fs_ug, if_neg (by omega), fs_ug, if_neg (by omega), fs_ug, if_neg (by omega), fs_ug, if_pos ⟨rfl, rfl⟩]
  · rw [fs_ug, if_neg (by omega), fs_ug, if_neg (by omega), fs_ug, if_pos ⟨rfl, rfl⟩]
  · rw [fs_ug, if_neg (by omega), fs_ug, if_pos ⟨rfl, rfl⟩]
  · intro k j h1 h2
    rw [fs_ug, if_neg (by omega), fs_ug, if_neg (by omega), fs_ug, if_neg (by omega), fs_ug, if_neg (by omega), fs_ug, if_neg (by omega), fs_ug, if_neg (by omega)]
