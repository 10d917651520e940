/-! test -/
abbrev hb (S : Int32) (o : Nat) : Prop := ¬ ((S >>> (nI o &&& 31)) &&& (1 : Int32)) = 0
theorem and1 (x : Int32) : x &&& 1 = 0 ∨ x &&& 1 = 1 := by
  have : x.toBitVec &&& 1#32 = 0#32 ∨ x.toBitVec &&& 1#32 = 1#32 := by
    have e : (x.toBitVec &&& 1#32).toNat = x.toBitVec.toNat % 2 := by rw [BitVec.toNat_and]; exact Nat.and_one_is_mod _
    rcases Nat.mod_two_eq_zero_or_one x.toBitVec.toNat with h | h
    · exact Or.inl (BitVec.eq_of_toNat_eq (e.trans h))
    · exact Or.inr (BitVec.eq_of_toNat_eq (e.trans h))
  rcases this with h | h
  · exact Or.inl (Int32.toBitVec_inj.mp h)
  · exact Or.inr (Int32.toBitVec_inj.mp h)
theorem has_y {S : Int32} {o : Nat} (h : hb S o) : F_X4_has S (nI o) = 1 := by
  unfold F_X4_has
  rw [if_pos ((and1 _).resolve_left h)]
theorem has_n {S : Int32} {o : Nat} (h : ¬ hb S o) : F_X4_has S (nI o) = 0 := by
  unfold F_X4_has
  have h' := Decidable.not_not.mp h
  rw [h', if_neg (by decide)]
def pt (S l s p : Int32) (k : Nat) : Nat → Nat
  | 0 => 0
  | o + 1 => if hb S o then (if F_X1_regardOf (nI o) l s p = F_X1_regardOf (nI k) l s p then pt S l s p k o + 1 else pt S l s p k o) else pt S l s p k o
theorem pt_le (S l s p : Int32) (k : Nat) : ∀ o, pt S l s p k o ≤ o
  | 0 => Nat.le_refl _
  | o + 1 => by
    have := pt_le S l s p k o
    unfold pt
    by_cases h : hb S o
    · rw [if_pos h]
      by_cases h2 : F_X1_regardOf (nI o) l s p = F_X1_regardOf (nI k) l s p
      · rw [if_pos h2]; omega
      · rw [if_neg h2]; omega
    · rw [if_neg h]; omega
def gp (S l s p : Int32) : Nat → Nat
  | 0 => 0
  | k + 1 => if hb S k then max (gp S l s p k) (pt S l s p k 6) else gp S l s p k
theorem gp_le (S l s p : Int32) : ∀ k, gp S l s p k ≤ 6
  | 0 => by unfold gp; omega
  | k + 1 => by
    have h1 := gp_le S l s p k
    have h2 := pt_le S l s p k 6
    unfold gp
    by_cases h : hb S k
    · rw [if_pos h]; omega
    · rw [if_neg h]; omega
theorem maxI {a b : Nat} (ha : a < 2 ^ 31) (hb : b < 2 ^ 31) : (if nI a < nI b then nI b else nI a) = nI (max a b) := by
  by_cases h : a < b
  · rw [if_pos (nI_lt h hb), Nat.max_eq_right (by omega)]
  · rw [if_neg (nI_nlt (by omega) ha), Nat.max_eq_left (by omega)]
theorem greaterI {a b : Nat} (ha : a < 2 ^ 31) (hb : b < 2 ^ 31) : F_X4_greater (nI a) (nI b) = nI (max a b) := by
  unfold F_X4_greater
  by_cases h : a ≤ b
  · rw [if_pos (nI_le h hb), Nat.max_eq_right h]
  · rw [if_neg (nI_ge (by omega) ha), Nat.max_eq_left (by omega)]
theorem c_part {n i : Nat} (hn : n ≤ 6) (hi : i < n) (S p : Int32) (k : Nat) (σ : fsS) : F_X3_partLike (nI k) (nI i) S p σ = some (nI (pt S (σ 22 i) (σ 25 i) p k 6)) := by
  have c1 : fs_in (nI i) 6 := vp_in_nI (by omega) (by omega)
  have c3 : (nI i).toNatClampNeg = i := nI_clamp (by omega)
  generalize e1 : σ 22 i = l
  generalize e2 : σ 25 i = s
  obtain ⟨o, h1, h2⟩ := fs_loop (fun f (x : Int32 × Int32) => L_X3_partLike_46 f S p l s (F_X1_regardOf (nI k) l s p) x.1 x.2) (fun o x => x.2 = nI o ∧ x.1 = nI (pt S l s p k o)) (fun v => v = nI (pt S l s p k 6)) 6 (by
    rintro f o ⟨a, y⟩ ho ⟨hy, ha⟩
    dsimp only at hy ha ⊢
    subst hy ha
    left
    have d1 : ¬ (6 : Int32) ≤ nI o := nI_ge (b := 6) ho (by omega)
    by_cases h : hb S o
    · by_cases h2 : F_X1_regardOf (nI o) l s p = F_X1_regardOf (nI k) l s p
      · refine ⟨(nI (pt S l s p k o) + 1, nI o + 1), ⟨nI_1 o, ?_⟩, ?_⟩
        · dsimp only
          rw [pt, if_pos h, if_pos h2, nI_1]
        · rw [L_X3_partLike_46, if_neg d1, if_neg h, if_pos h2]
      · refine ⟨(nI (pt S l s p k o), nI o + 1), ⟨nI_1 o, ?_⟩, ?_⟩
        · dsimp only
          rw [pt, if_pos h, if_neg h2]
        · rw [L_X3_partLike_46, if_neg d1, if_neg h, if_neg h2]
    · refine ⟨(nI (pt S l s p k o), nI o + 1), ⟨nI_1 o, ?_⟩, ?_⟩
      · dsimp only
        rw [pt, if_neg h]
      · rw [L_X3_partLike_46, if_neg d1, if_pos (Decidable.not_not.mp h)]) (by
    rintro f ⟨a, y⟩ ⟨hy, ha⟩
    dsimp only at hy ha ⊢
    subst hy ha
    refine ⟨_, ?_, rfl⟩
    rw [L_X3_partLike_46, if_pos (show (6 : Int32) ≤ nI 6 by decide)]) fs_fu 0 (0, 0) (Nat.zero_le _) (fs_fub _ (by omega)) ⟨rfl, rfl⟩
  unfold F_X3_partLike
  dsimp only at h1
  rw [fs_gp c1, fs_gp c1, c3, e1, e2, h1, h2, Option.bind_some]
theorem c_great {n i : Nat} (hn : n ≤ 6) (hi : i < n) (S p : Int32) (σ : fsS) : F_X3_greatestPart (nI i) S p σ = some (nI (gp S (σ 22 i) (σ 25 i) p 6)) := by
  generalize e1 : σ 22 i = l
  generalize e2 : σ 25 i = s
  obtain ⟨o, h1, h2⟩ := fs_loop (fun f (x : Int32 × Int32) => L_X3_greatestPart_6 f (nI i) S p x.1 x.2 σ) (fun k x => x.2 = nI k ∧ x.1 = nI (gp S l s p k)) (fun v => v = nI (gp S l s p 6)) 6 (by
    rintro f k ⟨a, y⟩ ho ⟨hy, ha⟩
    dsimp only at hy ha ⊢
    subst hy ha
    left
    have d1 : ¬ (6 : Int32) ≤ nI k := nI_ge (b := 6) ho (by omega)
    have g6 := gp_le S l s p k
    have p6 := pt_le S l s p k 6
    by_cases h : hb S k
    · refine ⟨(nI (gp S l s p (k + 1)), nI k + 1), ⟨nI_1 k, rfl⟩, ?_⟩
      rw [L_X3_greatestPart_6, if_neg d1, if_neg h, c_part hn hi, Option.bind_some, e1, e2, maxI (by omega) (by omega), gp, if_pos h]
    · refine ⟨(nI (gp S l s p k), nI k + 1), ⟨nI_1 k, ?_⟩, ?_⟩
      · dsimp only
        rw [gp, if_neg h]
      · rw [L_X3_greatestPart_6, if_neg d1, if_pos (Decidable.not_not.mp h)]) (by
    rintro f ⟨a, y⟩ ⟨hy, ha⟩
    dsimp only at hy ha ⊢
    subst hy ha
    refine ⟨_, ?_, rfl⟩
    rw [L_X3_greatestPart_6, if_pos (show (6 : Int32) ≤ nI 6 by decide)]) fs_fu 0 (0, 0) (Nat.zero_le _) (fs_fub _ (by omega)) ⟨rfl, rfl⟩
  unfold F_X3_greatestPart
  dsimp only at h1
  rw [h1, h2, Option.bind_some]
theorem m_part {n i l s p k : Nat} (hn : n ≤ 6) (hi : i < n) (hl : l < 10) (hs : s < 4) (hp : p < 100) (hk : k < 6) (S : Int32) {σ : fsS} (e1 : σ 58 i = nI l) (e2 : σ 60 (7 + i) = nI s) (y5 y6 y8 : Int32) : L_X4_test_79 fs_fu (nI i) S y5 y6 (nI p) y8 (nI k) 0 0 σ = some (if hb S k then nI (pt S (nI l) (nI s) (nI p) k 6) else 0) := by
  have c1 : fs_in (nI i) 6 := vp_in_nI (by omega) (by omega)
  have c3 : (nI i).toNatClampNeg = i := nI_clamp (by omega)
  have c4 : (7 : Int32) + nI i = nI (7 + i) := nI_add 7 i
  have c5 : fs_in (nI (7 + i)) 13 := vp_in_nI (by omega) (by omega)
  have c6 : (nI (7 + i)).toNatClampNeg = 7 + i := nI_clamp (by omega)
  by_cases hK : hb S k
  · rw [if_pos hK]
    obtain ⟨o, h1, h2⟩ := fs_loop (fun f (x : Int32 × Int32) => L_X4_test_79 f (nI i) S y5 y6 (nI p) y8 (nI k) x.1 x.2 σ) (fun o x => x.2 = nI o ∧ x.1 = nI (pt S (nI l) (nI s) (nI p) k o)) (fun v => v = nI (pt S (nI l) (nI s) (nI p) k 6)) 6 (by
      rintro f o ⟨a, y⟩ ho ⟨hy, ha⟩
      dsimp only at hy ha ⊢
      subst hy ha
      left
      have d1 : ¬ (6 : Int32) ≤ nI o := nI_ge (b := 6) ho (by omega)
      by_cases h : hb S o
      · by_cases h2 : F_X1_regardOf (nI o) (nI l) (nI s) (nI p) = F_X1_regardOf (nI k) (nI l) (nI s) (nI p)
        · refine ⟨(nI (pt S (nI l) (nI s) (nI p) k o) + 1, nI o + 1), ⟨nI_1 o, ?_⟩, ?_⟩
          · dsimp only
            rw [pt, if_pos h, if_pos h2, nI_1]
          · rw [L_X4_test_79, if_neg d1, has_y hK, if_neg i10, has_y h, if_neg i10, fs_gp c1, c4, fs_gp c5, fs_gp c1, fs_gp c5, c3, c6, e1, e2, (rg_eq hk hl hs hp).1, (rg_eq (k := o) ho hl hs hp).1, if_pos h2.symm]
        · refine ⟨(nI (pt S (nI l) (nI s) (nI p) k o) + 0, nI o + 1), ⟨nI_1 o, ?_⟩, ?_⟩
          · dsimp only
            rw [pt, if_pos h, if_neg h2, Int32.add_zero]
          · rw [L_X4_test_79, if_neg d1, has_y hK, if_neg i10, has_y h, if_neg i10, fs_gp c1, c4, fs_gp c5, fs_gp c1, fs_gp c5, c3, c6, e1, e2, (rg_eq hk hl hs hp).1, (rg_eq (k := o) ho hl hs hp).1, if_neg (fun q => h2 q.symm)]
      · refine ⟨(nI (pt S (nI l) (nI s) (nI p) k o) + 0, nI o + 1), ⟨nI_1 o, ?_⟩, ?_⟩
        · dsimp only
          rw [pt, if_neg h, Int32.add_zero]
        · rw [L_X4_test_79, if_neg d1, has_y hK, if_neg i10, has_n h, if_pos rfl]) (by
      rintro f ⟨a, y⟩ ⟨hy, ha⟩
      dsimp only at hy ha ⊢
      subst hy ha
      refine ⟨_, ?_, rfl⟩
      rw [L_X4_test_79, if_pos (show (6 : Int32) ≤ nI 6 by decide)]) fs_fu 0 (0, 0) (Nat.zero_le _) (fs_fub _ (by omega)) ⟨rfl, rfl⟩
    dsimp only at h1
    rw [h1, h2]
  · rw [if_neg hK]
    obtain ⟨o, h1, h2⟩ := fs_loop (fun f (x : Int32 × Int32) => L_X4_test_79 f (nI i) S y5 y6 (nI p) y8 (nI k) x.1 x.2 σ) (fun o x => x.2 = nI o ∧ x.1 = 0) (fun v => v = 0) 6 (by
      rintro f o ⟨a, y⟩ ho ⟨hy, ha⟩
      dsimp only at hy ha ⊢
      subst hy ha
      left
      have d1 : ¬ (6 : Int32) ≤ nI o := nI_ge (b := 6) ho (by omega)
      refine ⟨(0 + 0, nI o + 1), ⟨nI_1 o, rfl⟩, ?_⟩
      rw [L_X4_test_79, if_neg d1, has_n hK, if_pos rfl]) (by
      rintro f ⟨a, y⟩ ⟨hy, ha⟩
      dsimp only at hy ha ⊢
      subst hy ha
      refine ⟨_, ?_, rfl⟩
      rw [L_X4_test_79, if_pos (show (6 : Int32) ≤ nI 6 by decide)]) fs_fu 0 (0, 0) (Nat.zero_le _) (fs_fub _ (by omega)) ⟨rfl, rfl⟩
    dsimp only at h1
    rw [h1, h2]
theorem m_great {n i l s p : Nat} (hn : n ≤ 6) (hi : i < n) (hl : l < 10) (hs : s < 4) (hp : p < 100) (S : Int32) {σ : fsS} (e1 : σ 58 i = nI l) (e2 : σ 60 (7 + i) = nI s) (y5 y6 : Int32) : L_X4_test_66 fs_fu (nI i) S y5 y6 (nI p) 0 0 σ = some (nI (gp S (nI l) (nI s) (nI p) 6)) := by
  obtain ⟨o, h1, h2⟩ := fs_loop (fun f (x : Int32 × Int32) => L_X4_test_66 f (nI i) S y5 y6 (nI p) x.1 x.2 σ) (fun k x => x.2 = nI k ∧ x.1 = nI (gp S (nI l) (nI s) (nI p) k)) (fun v => v = nI (gp S (nI l) (nI s) (nI p) 6)) 6 (by
    rintro f k ⟨a, y⟩ ho ⟨hy, ha⟩
    dsimp only at hy ha ⊢
    subst hy ha
    left
    have d1 : ¬ (6 : Int32) ≤ nI k := nI_ge (b := 6) ho (by omega)
    have g6 := gp_le S (nI l) (nI s) (nI p) k
    have p6 := pt_le S (nI l) (nI s) (nI p) k 6
    refine ⟨(nI (gp S (nI l) (nI s) (nI p) (k + 1)), nI k + 1), ⟨nI_1 k, rfl⟩, ?_⟩
    rw [L_X4_test_66, if_neg d1, m_part hn hi hl hs hp ho S e1 e2, Option.bind_some]
    by_cases h : hb S k
    · rw [if_pos h, greaterI (by omega) (by omega), gp, if_pos h]
    · rw [if_neg h, show (0 : Int32) = nI 0 from rfl, greaterI (by omega) (by omega), gp, if_neg h, Nat.max_eq_left (by omega)]) (by
    rintro f ⟨a, y⟩ ⟨hy, ha⟩
    dsimp only at hy ha ⊢
    subst hy ha
    refine ⟨_, ?_, rfl⟩
    rw [L_X4_test_66, if_pos (show (6 : Int32) ≤ nI 6 by decide)]) fs_fu 0 (0, 0) (Nat.zero_le _) (fs_fub _ (by omega)) ⟨rfl, rfl⟩
  dsimp only at h1
  rw [h1, h2]
