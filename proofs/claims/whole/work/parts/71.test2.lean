def tl (g : Nat → Nat) : Nat → Nat × Nat
  | 0 => (0, 7)
  | p + 1 => if (tl g p).2 ≤ g p then tl g p else (p, g p)
theorem tl_le (g : Nat → Nat) : ∀ p, (tl g p).1 ≤ p ∧ (tl g p).2 ≤ 7
  | 0 => ⟨Nat.le_refl _, Nat.le_refl _⟩
  | p + 1 => by
    have h := tl_le g p
    unfold tl
    by_cases e : (tl g p).2 ≤ g p
    · rw [if_pos e]; omega
    · rw [if_neg e]; dsimp only; omega
theorem c_test {n i : Nat} (hn : n ≤ 6) (hi : i < n) (S : Int32) (σ : fsS) {g : Nat → Nat} (hg : ∀ p, g p = gp S (σ 22 i) (σ 25 i) (nI p) 6) : L_X3_test_39 fs_fu (nI i) S 0 7 0 σ = some (nI (tl g 100).1, nI (tl g 100).2) := by
  have g6 : ∀ p, g p ≤ 6 := fun p => by rw [hg]; exact gp_le _ _ _ _ _
  obtain ⟨o, h1, h2⟩ := fs_loop (fun f (x : Int32 × Int32 × Int32) => L_X3_test_39 f (nI i) S x.1 x.2.1 x.2.2 σ) (fun p x => x.2.2 = nI p ∧ x.1 = nI (tl g p).1 ∧ x.2.1 = nI (tl g p).2) (fun v => v = (nI (tl g 100).1, nI (tl g 100).2)) 100 (by
    rintro f p ⟨a, b, y⟩ ho ⟨hy, ha, hb⟩
    dsimp only at hy ha hb ⊢
    subst hy ha hb
    left
    have d1 : ¬ (99 : Int32) < nI p := nI_nlt (a := 99) (by omega) (by omega)
    have t := tl_le g p
    have gp6 := g6 p
    by_cases h : (tl g p).2 ≤ g p
    · refine ⟨(nI (tl g p).1, nI (tl g p).2, nI p + 1), ⟨nI_1 p, ?_, ?_⟩, ?_⟩
      · dsimp only; rw [tl, if_pos h]
      · dsimp only; rw [tl, if_pos h]
      · rw [L_X3_test_39, if_neg d1, c_great hn hi, Option.bind_some, ← hg, if_pos (nI_le h (by omega))]
    · refine ⟨(nI p, nI (g p), nI p + 1), ⟨nI_1 p, ?_, ?_⟩, ?_⟩
      · dsimp only; rw [tl, if_neg h]
      · dsimp only; rw [tl, if_neg h]
      · rw [L_X3_test_39, if_neg d1, c_great hn hi, Option.bind_some, ← hg, if_neg (nI_ge (by omega) (by omega))]) (by
    rintro f ⟨a, b, y⟩ ⟨hy, ha, hb⟩
    dsimp only at hy ha hb ⊢
    subst hy ha hb
    refine ⟨_, ?_, rfl⟩
    rw [L_X3_test_39, if_pos (show (99 : Int32) < nI 100 by decide)]) fs_fu 0 (0, 7, 0) (Nat.zero_le _) (fs_fub _ (by omega)) ⟨rfl, rfl, rfl⟩
  dsimp only at h1
  rw [h1, h2]
theorem m_test {n i l s : Nat} (hn : n ≤ 6) (hi : i < n) (hl : l < 10) (hs : s < 4) {S : Int32} (hS : ¬ S = 0) {σ : fsS} (e1 : σ 58 i = nI l) (e2 : σ 60 (7 + i) = nI s) {g : Nat → Nat} (hg : ∀ p, g p = gp S (nI l) (nI s) (nI p) 6) : L_X4_test_48 fs_fu (nI i) S (-9) 7 0 σ = some (nI (tl g 100).1, nI (tl g 100).2) := by
  have g6 : ∀ p, g p ≤ 6 := fun p => by rw [hg]; exact gp_le _ _ _ _ _
  obtain ⟨o, h1, h2⟩ := fs_loop (fun f (x : Int32 × Int32 × Int32) => L_X4_test_48 f (nI i) S x.1 x.2.1 x.2.2 σ) (fun p x => x.2.2 = nI p ∧ (p = 0 ∨ x.1 = nI (tl g p).1) ∧ x.2.1 = nI (tl g p).2) (fun v => v = (nI (tl g 100).1, nI (tl g 100).2)) 100 (by
    rintro f p ⟨a, b, y⟩ ho ⟨hy, ha, hb⟩
    dsimp only at hy ha hb ⊢
    subst hy hb
    left
    have d1 : ¬ (100 : Int32) ≤ nI p := nI_ge (b := 100) (by omega) (by omega)
    have t := tl_le g p
    have gp6 := g6 p
    by_cases h : (tl g p).2 ≤ g p
    · have hp0 : ¬ p = 0 := fun e => by
        subst e
        have : (tl g 0).2 = 7 := rfl
        omega
      have ha' := ha.resolve_left hp0
      subst ha'
      have hle := nI_le h (by omega)
      refine ⟨(nI (tl g p).1, nI (tl g p).2, nI p + 1), ⟨nI_1 p, Or.inr ?_, ?_⟩, ?_⟩
      · dsimp only; rw [tl, if_pos h]
      · dsimp only; rw [tl, if_pos h]
      · rw [L_X4_test_48, if_neg d1, if_neg hS, m_great hn hi hl hs (by omega) S e1 e2, Option.bind_some, ← hg, if_pos hle, lesser_n hle]
    · have hle : ¬ nI (tl g p).2 ≤ nI (g p) := nI_ge (by omega) (by omega)
      refine ⟨(nI p, nI (g p), nI p + 1), ⟨nI_1 p, Or.inr ?_, ?_⟩, ?_⟩
      · dsimp only; rw [tl, if_neg h]
      · dsimp only; rw [tl, if_neg h]
      · rw [L_X4_test_48, if_neg d1, if_neg hS, m_great hn hi hl hs (by omega) S e1 e2, Option.bind_some, ← hg, if_neg hle, lesser_y hle]) (by
    rintro f ⟨a, b, y⟩ ⟨hy, ha, hb⟩
    dsimp only at hy ha hb ⊢
    have ha' := ha.resolve_left (by decide)
    subst hy ha' hb
    refine ⟨_, ?_, rfl⟩
    rw [L_X4_test_48, if_pos (show (100 : Int32) ≤ nI 100 by decide)]) fs_fu 0 (-9, 7, 0) (Nat.zero_le _) (fs_fub _ (by omega)) ⟨rfl, Or.inl rfl, rfl⟩
  dsimp only at h1
  rw [h1, h2]
theorem m_test0 (y1 : Int32) (σ : fsS) : L_X4_test_48 fs_fu y1 0 (-9) 7 0 σ = some (-9, 7) := by
  have : ∀ f, L_X4_test_48 (f + 1) y1 0 (-9) 7 0 σ = some (-9, 7) := fun f => by
    rw [L_X4_test_48, if_neg (by decide), if_pos rfl]
  exact this 99999
theorem tl_lt (g : Nat → Nat) (h0 : g 0 ≤ 6) : ∀ p, (tl g (p + 1)).1 < p + 1
  | 0 => by
    have e : ¬ (tl g 0).2 ≤ g 0 := by rw [show (tl g 0).2 = 7 from rfl]; omega
    rw [tl, if_neg e]
    exact Nat.lt_succ_self 0
  | p + 1 => by
    have := tl_lt g h0 p
    unfold tl
    by_cases e : (tl g (p + 1)).2 ≤ g (p + 1)
    · rw [if_pos e]; omega
    · rw [if_neg e]; dsimp only; omega
theorem m_pairs_ok {r h : Nat} (hr : r < 6) (hh : h ≤ 20) {σ : fsS} (hz : σ 53 r = nI (2 * h)) {c : Nat → Int32} (hc : ∀ j, j < 2 * h → σ 52 (40 * r + j) = c j) (ho : ∀ j, j < 2 * h → okj c j) : F_X4_refusesPairs (nI r) σ = some (0, σ) := by
  have c2 : fs_in (nI r) 6 := vp_in_nI (by omega) (by omega)
  have c3 : (nI r).toNatClampNeg = r := nI_clamp (by omega)
  have rem : nI (2 * h) - nI (2 * h) / (2 : Int32) * (2 : Int32) = nI ((2 * h) % 2) := pk_rem (d := 2) (by omega) (by omega) (by omega)
  have k2 := m_pairs hr hh hz hc (Nat.le_refl _) ho (Or.inl rfl)
  rw [if_pos rfl] at k2
  unfold F_X4_refusesPairs
  simp only [fs_gp c2, c3, hz, if_pos (nz (2 * h) (by omega)), rem, show 2 * h % 2 = 0 by omega, if_neg (show ¬ nI 0 = 1 by decide), k2, Option.bind_some, if_neg (show ¬ (1 : Nat) = 0 by decide)]
theorem e_test : ec_test Rel := by
  intro x y σ μ hr
  obtain ⟨n, d, q1, q2, q3, q4, q5, q6, hn0, hs, hk, hm⟩ := Rel_all hr
  have hn := hk.1
  by_cases hx : 0 ≤ x.toInt ∧ x.toInt < n
  · obtain ⟨i, hi, rfl⟩ := ix (n := n) (by omega) hx.1 hx.2
    by_cases hy : 0 ≤ y.toInt ∧ y.toInt < 6
    · obtain ⟨r, hr6, rfl⟩ := ix (n := 6) (by omega) hy.1 hy.2
      have z1 := iso_y hn hi hm.1
      have z2 : F_X4_isRow (nI r) = 1 := (isRow_y hr6).2
      rcases pairs_cases hn hi hr6 hs q2 with ⟨f, f1, f5, p1, p2⟩ | ⟨h, h20, p1, p2, p3, p4, p5, p6⟩
      · have F1 : F_X3_test (nI i) (nI r) σ = some (-3, rf f σ) := by
          unfold F_X3_test
          rw [p1, Option.bind_some]
          rfl
        have F2 : F_X4_test (nI i) (nI r) (rf f σ) = some (-3, mf f (rf f σ)) := by
          have z3 : F_X4_isOne (nI i) (rf f σ) = 1 := iso_y hn hi (by unfold rf; rw [fs_ug, if_neg (by omega), fs_ug, if_neg (by omega), hm.1])
          unfold F_X4_test
          rw [z3, if_neg i10, z2, if_neg i10, p2, Option.bind_some]
          rfl
        exact ⟨-3, rf f σ, μ, mf f (rf f σ), μ, m_X3_test _ _ σ μ _ F1, m_X4_test _ _ _ μ _ F2, Rel_rf hr f f1 f5⟩
      · obtain ⟨g, hg⟩ : ∃ g : Nat → Int32, ∀ t, g t = ftb (nI t) (σ 22 i) (σ 25 i) (σ (38 + r)) h := ⟨_, fun _ => rfl⟩
        have k1 := c_kinds hn hi hr6 h20 p1 hg
        obtain ⟨S, hS⟩ : ∃ S, st1 g 6 = S := ⟨_, rfl⟩
        rw [hS] at k1
        by_cases h0 : S = 0
        · subst h0
          have k2 := m_kinds hi hr6 h20 hk hm p2 p3 p4 hg
          rw [hS] at k2
          have F1 : F_X3_test (nI i) (nI r) σ = some (-9, σ) := by
            unfold F_X3_test
            rw [p5, Option.bind_some]
            dsimp only
            rw [if_pos rfl, k1, Option.bind_some, if_pos rfl]
          have F2 : F_X4_test (nI i) (nI r) σ = some (-9, σ) := by
            unfold F_X4_test
            rw [z1, if_neg i10, z2, if_neg i10, p6, Option.bind_some]
            dsimp only
            rw [if_pos rfl, k2, Option.bind_some, m_test0, Option.bind_some]
            dsimp only
            rw [if_pos rfl]
          exact ⟨-9, σ, μ, σ, μ, m_X3_test _ _ σ μ _ F1, m_X4_test _ _ σ μ _ F2, hr⟩
        · obtain ⟨-, ⟨l, hl, el⟩, -, ⟨s, hs4, es⟩, -⟩ := hk.2 i hi
          obtain ⟨G, hG⟩ : ∃ G : Nat → Nat, ∀ p, G p = gp S (nI l) (nI s) (nI p) 6 := ⟨_, fun _ => rfl⟩
          have t1 := c_test hn hi S σ (g := G) (fun p => by rw [hG, el, es])
          have b := tl_le G 100
          obtain ⟨u, hu⟩ : ∃ u, u = (tl G 100).1 := ⟨_, rfl⟩
          obtain ⟨v, hv⟩ : ∃ v, v = (tl G 100).2 := ⟨_, rfl⟩
          have F1 : F_X3_test (nI i) (nI r) σ = some (nI u, fs_u σ 0 8 (nI v)) := by
            unfold F_X3_test
            rw [p5, Option.bind_some]
            dsimp only
            rw [if_pos rfl, k1, Option.bind_some, if_neg h0, t1, Option.bind_some, ← hu, ← hv]
            rfl
          obtain ⟨τ, hτ⟩ : ∃ τ, τ = fs_u σ 0 8 (nI v) := ⟨_, rfl⟩
          have T : ∀ k j, ¬ k = 0 → τ k j = σ k j := fun k j q => by rw [hτ, fs_ug, if_neg (fun w => q w.1)]
          have hm' : mv τ 60 n (σ 21) (σ 22) (σ 23) (σ 25) (σ 24) := mv_fr hm (fun k j q => T k j (by omega))
          have k2 := m_kinds (σ := τ) hi hr6 h20 hk hm' (by rw [T _ _ (by omega), p2]) (c := σ (38 + r)) (fun j hj => by rw [T _ _ (by omega), p3 j hj]) p4 hg
          rw [hS] at k2
          have t2 := m_test hn hi hl hs4 h0 (σ := τ) (by rw [(hm'.2 i hi).2.1, el]) (by rw [(hm'.2 i hi).2.2.2.1, es]) hG
          have p6' : F_X4_refusesPairs (nI r) τ = some (0, τ) := m_pairs_ok hr6 h20 (by rw [T _ _ (by omega), p2]) (c := σ (38 + r)) (fun j hj => by rw [T _ _ (by omega), p3 j hj]) p4
          have F2 : F_X4_test (nI i) (nI r) τ = some (nI u, fs_u τ 51 4 (nI v)) := by
            unfold F_X4_test
            rw [iso_y hn hi hm'.1, if_neg i10, z2, if_neg i10, p6', Option.bind_some]
            dsimp only
            rw [if_pos rfl, k2, Option.bind_some, t2, Option.bind_some, ← hu, ← hv]
            dsimp only
            rw [if_neg (nI9 u (by have : (tl G 100).1 < 100 := tl_lt G (by rw [hG]; exact gp_le _ _ _ _ _) 99; omega))]
            rfl
          subst hτ
          exact ⟨nI u, _, μ, _, μ, m_X3_test _ _ σ μ _ F1, m_X4_test _ _ _ μ _ F2, Rel_qa hr (nI v) (fun _ _ _ => rfl) (fun _ _ _ => rfl)⟩
    · obtain ⟨z1, z2⟩ := isRow_n hy
      have F1 : F_X3_test (nI i) y σ = some (-1, σ) := by
        unfold F_X3_test F_X3_refusePairs
        rw [isk_y hn hi hs, if_neg i10, z1, if_pos rfl]
        rfl
      have F2 : F_X4_test (nI i) y σ = some (-1, σ) := by
        unfold F_X4_test
        rw [iso_y hn hi hm.1, if_neg i10, z2, if_pos rfl]
      exact ⟨-1, σ, μ, σ, μ, m_X3_test _ _ σ μ _ F1, m_X4_test _ _ σ μ _ F2, hr⟩
  · have F1 : F_X3_test x y σ = some (-1, σ) := by
      unfold F_X3_test F_X3_refusePairs
      rw [isk_n hn hx hs, if_pos rfl]
      rfl
    have F2 : F_X4_test x y σ = some (-1, σ) := by
      unfold F_X4_test
      rw [iso_n hn hx hm.1, if_pos rfl]
    exact ⟨-1, σ, μ, σ, μ, m_X3_test _ _ σ μ _ F1, m_X4_test _ _ σ μ _ F2, hr⟩
