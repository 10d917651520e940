theorem mix_facts {n d : Nat} {σ τ : fsS} {μ : fsL} (hr : Rel (mix σ τ) μ) (hs : σ 5 0 = nI n) (h33 : σ 3 3 = nI d) (hn : n ≤ 6) (hd : d ≤ 40) : τ 51 9 = nI n ∧ (∀ i, i < n → (∃ b, b < 4 ∧ σ 25 i = nI b) ∧ τ 60 (7 + i) = σ 25 i ∧ τ 60 (1 + i) = σ 24 i) ∧ ∃ q, q ≤ d ∧ σ 3 2 = nI q ∧ τ 60 0 = nI q := by
  obtain ⟨n', d', q1, q2, q3, q4, q5, q6, hn0', hs', hk, hm⟩ := Rel_all hr
  have en : n' = n := by
    rw [mixC (k := 5) (by omega), hs] at hs'
    exact ((nI_eq (by omega) (by have := hk.1; omega)).mp hs').symm
  subst en
  obtain ⟨d1, d2, d3, d4, d5, d6, d7, d8⟩ := id q5
  have ed : d' = d := by
    rw [mixC (k := 3) (by omega), h33] at d3
    exact ((nI_eq (by omega) (by omega)).mp d3).symm
  subst ed
  obtain ⟨b1, b2, ⟨q, hq, eq⟩⟩ := d5.1 d' (Nat.le_refl d')
  have e1 := d6.2.2
  have e2 := d7.2.2
  rw [eq] at e1 e2
  rw [mixC (k := 3) (by omega)] at e1
  rw [mixM (k := 60) (by omega)] at e2
  have m1 := hm.1
  rw [mixM (k := 51) (by omega)] at m1
  refine ⟨m1, fun i hi => ?_, q, hq, e1, e2⟩
  obtain ⟨-, -, -, h4, -⟩ := hk.2 i hi
  obtain ⟨-, -, -, g4, g5⟩ := hm.2 i hi
  rw [mixC (k := 25) (by omega)] at h4
  rw [mixC (k := 25) (by omega), mixM (k := 60) (by omega)] at g4
  rw [mixC (k := 24) (by omega), mixM (k := 60) (by omega)] at g5
  exact ⟨h4, g4, g5⟩
theorem lot_step {n d a : Nat} {σ τ : fsS} {μ : fsL} (hr : Rel (mix σ τ) μ) (hs : σ 5 0 = nI n) (h33 : σ 3 3 = nI d) (hn : n ≤ 6) (hn0 : 0 < n) (hd : d < 40) (ha : a < 2 ^ 31) : ∃ c σ' τ', F_X3_deedByLot (nI a) σ = some c ∧ F_X0_enter c σ = some σ' ∧ F_X4_lot (nI a) τ = some τ' ∧ Rel (mix σ' τ') μ ∧ σ' 5 0 = nI n ∧ σ' 3 3 = nI (d + 1) ∧ (∀ k j, 51 ≤ k → σ' k j = σ k j) ∧ ∀ k j, k < 51 → τ' k j = τ k j := by
  obtain ⟨m9, mi, q, hq, eq1, eq2⟩ := mix_facts hr hs h33 hn (by omega)
  have e4 : nI a - nI a / (4 : Int32) * (4 : Int32) = nI (a % 4) := pk_rem (d := 4) ha (by omega) (by omega)
  have e8 : nI a / (8 : Int32) = nI (a / 8) := pk_div (d := 8) ha (by omega) (by omega)
  have er : nI (a / 8) - nI (a / 8) / nI n * nI n = nI (a / 8 % n) := pk_rem (by omega) hn0 (by omega)
  obtain ⟨i, hi0⟩ : ∃ i, i = a / 8 % n := ⟨_, rfl⟩
  have hi : i < n := by rw [hi0]; exact Nat.mod_lt _ hn0
  rw [← hi0] at er
  obtain ⟨⟨b, hb, eb⟩, ms, -⟩ := mi i hi
  have n0 : ¬ nI n = 0 := nI_ne0 hn0 (by omega)
  have np : 0 < nI n := nI_lt (a := 0) hn0 (by omega)
  have c1 : fs_in (nI i) 6 := inI (by omega) (by omega)
  have c2 : (nI i).toNatClampNeg = i := nI_clamp (by omega)
  have c3 : (7 : Int32) + nI i = nI (7 + i) := nI_add 7 i
  have c4 : fs_in (nI (7 + i)) 13 := inI (by omega) (by omega)
  have c5 : (nI (7 + i)).toNatClampNeg = 7 + i := nI_clamp (by omega)
  have W : ∀ c : Int32, c = F_X0_deed 2 (nI i) 0 0 → ∃ σ' τ1, F_X0_enter c σ = some σ' ∧ F_X4_remember τ = some τ1 ∧ (∀ j, τ1 60 j = τ 60 j) ∧ Rel (mix σ' (fs_u τ1 60 (7 + i) 0)) μ ∧ σ' 5 0 = nI n ∧ σ' 3 3 = nI (d + 1) ∧ (∀ k j, 51 ≤ k → σ' k j = σ k j) ∧ ∀ k j, k < 51 → fs_u τ1 60 (7 + i) 0 k j = τ k j := by
    intro c hc
    obtain ⟨s1, s2, s3⟩ := sd2 i (by omega)
    rw [← hc] at s1 s2 s3
    obtain ⟨σ', τ1, g⟩ := mix_soot hr hs h33 hn hi hd (c := c) (by omega) (by omega) (fun _ => 0) (fun kd lk wa x => ds2 s1 s2 x) ⟨0, by omega, rfl⟩
    exact ⟨σ', τ1, g⟩
  by_cases h0 : a % 4 = 0
  · have z : nI (a % 4) = 0 := by rw [h0]; rfl
    by_cases h3 : b = 3
    · obtain ⟨σ', τ1, g1, g2, g3, g4, g5, g6, g7, g8⟩ := W _ rfl
      refine ⟨_, σ', _, ?_, g1, ?_, g4, g5, g6, g7, g8⟩
      · unfold F_X3_deedByLot
        simp only [hs, e4, e8, er, if_pos np, fs_gp n0, if_pos z, fs_gp c1, c2, eb, if_pos (show (3 : Int32) ≤ nI b by rw [h3]; decide)]
      · have u : τ1 60 (7 + i) = 3 := by rw [g3, ms, eb, h3]; rfl
        unfold F_X4_lot
        simp only [m9, e4, e8, er, fs_gp n0, g2, Option.bind_some, if_pos z, c3, fs_gp c4, c5, if_pos u]
    · obtain ⟨s1, s2, s3⟩ := sd1 i (by omega)
      generalize hc : F_X0_deed 1 (nI i) 0 0 = c at s1 s2 s3
      obtain ⟨σ', τ1, g1, g2, g3, g4, g5, g6, g7, g8⟩ := mix_soot hr hs h33 hn hi hd (c := c) (by omega) (by omega) (fun x => x + 1) (fun kd lk wa x => ds1 s1 s2 x) ⟨b + 1, by omega, by rw [eb, nI_1]⟩
      refine ⟨c, σ', _, ?_, g1, ?_, g4, g5, g6, g7, g8⟩
      · unfold F_X3_deedByLot
        simp only [hs, e4, e8, er, if_pos np, fs_gp n0, if_pos z, fs_gp c1, c2, eb, if_neg (show ¬ (3 : Int32) ≤ nI b from nI_ge (b := 3) (by omega) (by omega)), hc]
      · have u : τ1 60 (7 + i) = σ 25 i := by rw [g3, ms]
        have u3 : ¬ σ 25 i = 3 := by rw [eb]; exact fun e => h3 ((nI_eq (b := 3) (by omega) (by omega)).mp e)
        unfold F_X4_lot
        simp only [m9, e4, e8, er, fs_gp n0, g2, Option.bind_some, if_pos z, c3, fs_gp c4, c5, u, if_neg u3]
  · have z : ¬ nI (a % 4) = 0 := nI_ne0 (by omega) (by omega)
    by_cases h1 : a % 4 = 1
    · have z1 : nI (a % 4) = 1 := by rw [h1]; rfl
      obtain ⟨σ', τ1, g1, g2, g3, g4, g5, g6, g7, g8⟩ := W _ rfl
      refine ⟨_, σ', _, ?_, g1, ?_, g4, g5, g6, g7, g8⟩
      · unfold F_X3_deedByLot
        simp only [hs, e4, e8, er, if_pos np, fs_gp n0, if_neg z, if_pos z1]
      · unfold F_X4_lot
        simp only [m9, e4, e8, er, fs_gp n0, g2, Option.bind_some, if_neg z, if_pos z1, c3, fs_gp c4, c5]
    · have z1 : ¬ nI (a % 4) = 1 := fun e => h1 ((nI_eq (b := 1) (by omega) (by omega)).mp e)
      obtain ⟨σ', τ1, v, τ2, g1, g2, g3, g4, g5, g6, g7, g8, g9⟩ := mix_pass hr hs h33 hn hn0 hd
      have q99 : ¬ (99 : Int32) ≤ nI q := nI_ge (b := 99) (by omega) (by omega)
      refine ⟨0, σ', τ2, ?_, g1, ?_, g5, g6, g7, g8, g9⟩
      · unfold F_X3_deedByLot
        simp only [hs, e4, e8, er, if_pos np, fs_gp n0, if_neg z, if_neg z1, eq1, if_neg q99]
        rfl
      · unfold F_X4_lot
        simp only [m9, e4, e8, er, fs_gp n0, g2, Option.bind_some, if_neg z, if_neg z1, g4 0, eq2, if_neg q99, g3]
def nl (a : Nat) : Nat := (a * 48271) % 2147483647
theorem nl_lt (a : Nat) : nl a < 2147483647 := Nat.mod_lt _ (by decide)
theorem nl_e {a : Nat} (ha : a < 2147483647) : (lN a * (48271 : Int64)) - (lN a * (48271 : Int64)) / (2147483647 : Int64) * (2147483647 : Int64) = lN (nl a) := by
  rw [show (48271 : Int64) = lN 48271 from rfl, show (2147483647 : Int64) = lN 2147483647 from rfl, lN_mul]
  exact pk_lRem (by omega) (by omega) (by omega)
theorem lots_joint {n N : Nat} (hn : n ≤ 6) (hn0 : 0 < n) (hN : N ≤ 20) {μ : fsL} : ∀ m k, k + m = N → ∀ (a d : Nat) (σ τ : fsS), a < 2147483647 → d + m ≤ 40 → Rel (mix σ τ) μ → σ 5 0 = nI n → σ 3 3 = nI d → ∀ f, m < f → ∃ σ' τ', L_X3_lots_55 f (nI N) (lN a) (nI k) σ = some σ' ∧ L_X4_lots_45 f (nI N) (lN a) (nI k) τ = some τ' ∧ Rel (mix σ' τ') μ ∧ σ' 5 0 = nI n ∧ σ' 3 3 = nI (d + m) ∧ (∀ k j, 51 ≤ k → σ' k j = σ k j) ∧ ∀ k j, k < 51 → τ' k j = τ k j := by
  intro m
  induction m with
  | zero =>
    intro k hk a d σ τ ha hd hr hs h33 f hf
    obtain ⟨g, rfl⟩ : ∃ g, f = g + 1 := ⟨f - 1, by omega⟩
    refine ⟨σ, τ, ?_, ?_, hr, hs, h33, fun _ _ _ => rfl, fun _ _ _ => rfl⟩
    · rw [L_X3_lots_55, if_pos (nI_le (by omega) (by omega))]
    · rw [L_X4_lots_45, if_pos (nI_le (by omega) (by omega))]
  | succ m ih =>
    intro k hk a d σ τ ha hd hr hs h33 f hf
    obtain ⟨g, rfl⟩ : ∃ g, f = g + 1 := ⟨f - 1, by omega⟩
    have hl := nl_lt a
    obtain ⟨c, σ1, τ1, a1, a2, a3, a4, a5, a6, a7, a8⟩ := lot_step hr hs h33 hn hn0 (by omega) (a := nl a) (by omega)
    obtain ⟨σ', τ', b1, b2, b3, b4, b5, b6, b7⟩ := ih (k + 1) (by omega) (nl a) (d + 1) σ1 τ1 hl (by omega) a4 a5 a6 g (by omega)
    refine ⟨σ', τ', ?_, ?_, b3, b4, by rw [b5]; congr 1; omega, fun k j q => (b6 k j q).trans (a7 k j q), fun k j q => (b7 k j q).trans (a8 k j q)⟩
    · rw [L_X3_lots_55, if_neg (nI_ge (by omega) (by omega)), nl_e ha, lN_i, a1, Option.bind_some, a2, Option.bind_some, nI_1, b1]
    · rw [L_X4_lots_45, if_neg (nI_ge (by omega) (by omega)), nl_e ha, lN_i, a3, Option.bind_some, nI_1, b2]
theorem Rel_ext {σ σ' : fsS} {μ : fsL} (h : ∀ k j, σ' k j = σ k j) (hr : Rel σ μ) : Rel σ' μ := by
  rw [show σ' = σ from funext fun k => funext fun j => h k j]
  exact hr
