set_option maxHeartbeats 4000000 in
/-- a ROW of pairs: refused alike, or well on both sides -/
theorem pairs_cases {n i r : Nat} (hn : n ≤ 6) (hi : i < n) (hr : r < 6) {σ : fsS} (hs : σ 5 0 = nI n) (q2 : RR σ) :
    (∃ f, 1 ≤ f ∧ f ≤ 5 ∧ F_X3_refusePairs (nI i) (nI r) σ = some (-3, rf f σ) ∧ F_X4_refusesPairs (nI r) (rf f σ) = some (-3, mf f (rf f σ))) ∨
    (∃ h, h ≤ 20 ∧ σ 10 r = nI (2 * h) ∧ σ 53 r = nI (2 * h) ∧ (∀ j, j < 2 * h → σ 52 (40 * r + j) = σ (38 + r) j) ∧ (∀ j, j < 2 * h → okj (σ (38 + r)) j) ∧ F_X3_refusePairs (nI i) (nI r) σ = some (0, σ) ∧ F_X4_refusesPairs (nI r) σ = some (0, σ)) := by
  have y1 := isk_y hn hi hs
  have y2 := (isRow_y hr).1
  have c2 : fs_in (nI r) 6 := vp_in_nI (by omega) (by omega)
  have c3 : (nI r).toNatClampNeg = r := nI_clamp (by omega)
  obtain ⟨w1, w2⟩ := q2.2 r hr
  rcases w2 with w2 | ⟨z, v1, v2, v3⟩
  · refine Or.inl ⟨1, by omega, by omega, ?_, ?_⟩
    · unfold F_X3_refusePairs
      rw [y1, if_neg i10, y2, if_neg i10, has_g 1 6 rfl (by decide) r hr, if_pos (show σ (9 + 1) r = -1 from w2), Option.bind_some, if_pos rfl, rfu1]
      rfl
    · have u : rf 1 σ 53 r = -1 := by unfold rf; simp [fs_ug, w1, w2]
      unfold F_X4_refusesPairs
      simp only [fs_gp c2, c3, u, if_neg nzn, mfu1, Option.bind_some]
  · have h9 : σ (9 + 1) r = nI z := v2
    have hC : F_X3_refusePairs (nI i) (nI r) σ = fs_g (fs_in (nI r) 6) (if (nI z - nI z / (2 : Int32) * (2 : Int32)) = 0 then (L_X3_refusePairs_56 fs_fu (nI r) (0 : Int32) σ).bind (fun q15 => if q15 = 0 then (F_X3_refuse (3 : Int32) σ).bind (fun q17 => some (q17.1, q17.2)) else some ((0 : Int32), σ)) else (F_X3_refuse (5 : Int32) σ).bind (fun q18 => some (q18.1, q18.2))) := by
      unfold F_X3_refusePairs
      rw [y1, if_neg i10, y2, if_neg i10, has_g 1 6 rfl (by decide) r hr, h9, if_neg (n1 z (by omega)), Option.bind_some, if_neg i10]
      simp only [c3, v2]
    have rem : nI z - nI z / (2 : Int32) * (2 : Int32) = nI (z % 2) := pk_rem (d := 2) (by omega) (by omega) (by omega)
    by_cases hz : z % 2 = 0
    · obtain ⟨h, rfl⟩ : ∃ h, z = 2 * h := ⟨z / 2, by omega⟩
      obtain ⟨N, n1', n2, n3⟩ := upto (fun j => ¬ okj (σ (38 + r)) j) (2 * h)
      have n2' : ∀ j, j < N → okj (σ (38 + r)) j := fun j hj => Classical.byContradiction (n2 j hj)
      have k1 := c_pairs hr v1 v2 n1' n2' n3
      by_cases e : N = 2 * h
      · subst e
        rw [if_pos rfl] at k1
        refine Or.inr ⟨h, by omega, v2, by rw [w1, v2], v3, n2', ?_, ?_⟩
        · rw [hC, fs_gp c2, rem, hz, if_pos (by decide), k1, Option.bind_some, if_neg (by decide)]
        · have k2 := m_pairs hr (h := h) (by omega) (σ := σ) (by rw [w1, v2]) (c := σ (38 + r)) v3 (Nat.le_refl _) n2' (Or.inl rfl)
          rw [if_pos rfl] at k2
          unfold F_X4_refusesPairs
          simp only [fs_gp c2, c3, w1, v2, if_pos (nz (2 * h) (by omega)), rem, hz, if_neg (show ¬ nI 0 = 1 by decide), k2, Option.bind_some, if_neg (show ¬ (1 : Nat) = 0 by decide)]
      · rw [if_neg e] at k1
        refine Or.inl ⟨3, by omega, by omega, ?_, ?_⟩
        · rw [hC, fs_gp c2, rem, hz, if_pos (by decide), k1, Option.bind_some, if_pos rfl, rfu3]
          rfl
        · have u : rf 3 σ 53 r = nI (2 * h) := by unfold rf; simp [fs_ug, w1, v2]
          have k2 := m_pairs hr (h := h) (by omega) (σ := rf 3 σ) u (c := σ (38 + r)) (fun j hj => by unfold rf; rw [fs_ug, if_neg (by omega), fs_ug, if_neg (by omega)]; exact v3 j hj) n1' n2' n3
          rw [if_neg e] at k2
          unfold F_X4_refusesPairs
          simp only [fs_gp c2, c3, u, if_pos (nz (2 * h) (by omega)), rem, hz, if_neg (show ¬ nI 0 = 1 by decide), k2, Option.bind_some, mfu3, ↓reduceIte]
    · refine Or.inl ⟨5, by omega, by omega, ?_, ?_⟩
      · rw [hC, fs_gp c2, rem, show z % 2 = 1 by omega, if_neg (by decide), rfu5]
        rfl
      · have u : rf 5 σ 53 r = nI z := by unfold rf; simp [fs_ug, w1, v2]
        unfold F_X4_refusesPairs
        simp only [fs_gp c2, c3, u, if_pos (nz z (by omega)), rem, show z % 2 = 1 by omega, if_pos (show nI 1 = 1 by decide), mfu5, Option.bind_some]
/-- a set of those t for which f t isn't 0 -/
def st1 (f : Nat → Int32) : Nat → Int32
  | 0 => 0
  | t + 1 => if f t = 0 then st1 f t else st1 f t ||| ((1 : Int32) <<< (nI t &&& 31))
theorem okj_p {c : Nat → Int32} {h : Nat} (ho : ∀ j, j < 2 * h → okj c j) : ∀ t, t < h → ∃ p, p < 100 ∧ c (2 * t) = nI p := by
  intro t ht
  have o := ho (2 * t) (by omega)
  unfold okj at o
  rw [if_pos (by omega)] at o
  obtain ⟨p, h1, h2⟩ := ix (n := 100) (by omega) o.1 (by omega)
  exact ⟨p, h1, h2⟩
set_option maxHeartbeats 4000000 in
theorem e_looks : ec_looks Rel := by
  intro x y σ μ hr
  obtain ⟨n, d, q1, q2, q3, q4, q5, q6, hn0, hs, hk, hm⟩ := Rel_all hr
  have hn := hk.1
  by_cases hx : 0 ≤ x.toInt ∧ x.toInt < n
  · obtain ⟨i, hi, rfl⟩ := ix (n := n) (by omega) hx.1 hx.2
    by_cases hy : 0 ≤ y.toInt ∧ y.toInt < 6
    · obtain ⟨r, hr6, rfl⟩ := ix (n := 6) (by omega) hy.1 hy.2
      have z1 := iso_y hn hi hm.1
      have z2 : F_X4_isRow (nI r) = 1 := (isRow_y hr6).2
      rcases pairs_cases hn hi hr6 hs q2 with ⟨f, f1, f5, p1, p2⟩ | ⟨h, h20, p1, p2, p3, p4, p5, p6⟩
      · have F1 : F_X3_looks (nI i) (nI r) σ = some (-3, rf f σ) := by
          unfold F_X3_looks
          rw [p1, Option.bind_some]
          rfl
        have F2 : F_X4_looks (nI i) (nI r) (rf f σ) = some (-3, mf f (rf f σ)) := by
          have z3 : F_X4_isOne (nI i) (rf f σ) = 1 := iso_y hn hi (by unfold rf; rw [fs_ug, if_neg (by omega), fs_ug, if_neg (by omega), hm.1])
          unfold F_X4_looks
          rw [z3, if_neg i10, z2, if_neg i10, p2, Option.bind_some]
          rfl
        exact ⟨-3, rf f σ, μ, mf f (rf f σ), μ, m_X3_looks _ _ σ μ _ F1, m_X4_looks _ _ _ μ _ F2, Rel_rf hr f f1 f5⟩
      · have c2 : fs_in (nI i) 6 := vp_in_nI (by omega) (by omega)
        have c3 : (nI i).toNatClampNeg = i := nI_clamp (by omega)
        obtain ⟨⟨k, hk6, ek⟩, -, -, ⟨s, hs4, es⟩, -⟩ := hk.2 i hi
        obtain ⟨m1, m2, m3, m4, m5⟩ := hm.2 i hi
        obtain ⟨g, hg⟩ : ∃ g : Nat → Int32, ∀ t, g t = ftb (nI k) (nI t) (nI s) (σ (38 + r)) h := ⟨_, fun _ => rfl⟩
        obtain ⟨v, b1, b2⟩ := fs_loop (fun f (x : Int32 × Int32) => L_X3_looks_19 f (nI i) (nI r) x.1 x.2 σ) (fun t x => x.1 = st1 g t ∧ x.2 = nI t) (fun v => v = st1 g 10) 10 (by
          rintro f t ⟨q, y⟩ ht ⟨h1, h2⟩
          dsimp only at h1 h2 ⊢
          subst h2
          subst h1
          left
          have c1 : ¬ (9 : Int32) < nI t := by rw [i_lt, nI_toInt (by omega), show (9 : Int32).toInt = 9 from rfl]; omega
          refine ⟨(st1 g (t + 1), nI t + 1), ⟨rfl, nI_1 t⟩, ?_⟩
          simp only [L_X3_looks_19, if_neg c1, fs_gp c2, c3, ek, es, c_fits hr6 h20 p1, ← hg, Option.bind_some, st1]
          by_cases hc : g t = 0
          · simp only [if_pos hc]
          · simp only [if_neg hc]) (by
          rintro f ⟨q, y⟩ ⟨h1, h2⟩
          dsimp only at h1 h2 ⊢
          subst h2
          refine ⟨q, ?_, h1⟩
          simp only [L_X3_looks_19, if_pos (show (9 : Int32) < nI 10 by decide)]) fs_fu 0 (0, 0) (Nat.zero_le _) (fs_fub _ (by omega)) ⟨rfl, rfl⟩
        obtain ⟨v2, k1, k2⟩ := fs_loop (fun f (x : Int32 × Int32) => L_X4_looks_35 f (nI i) (nI r) x.1 x.2 σ) (fun t x => x.1 = st1 g t ∧ x.2 = nI t) (fun v => v = st1 g 10) 10 (by
          rintro f t ⟨q, y⟩ ht ⟨h1, h2⟩
          dsimp only at h1 h2 ⊢
          subst h2
          subst h1
          left
          have c1 : ¬ (10 : Int32) ≤ nI t := nI_ge (b := 10) (by omega) (by omega)
          refine ⟨(st1 g (t + 1), nI t + 1), ⟨rfl, nI_1 t⟩, ?_⟩
          simp only [L_X4_looks_35, if_neg c1, fs_gp c2, c3, m1, ek, m_fits (i := i) hr6 h20 (by omega) p2 p3 hk6 (show t < 10 from ht) hs4 (by rw [m4, es]) (okj_p p4), ← hg, Option.bind_some, st1]
          by_cases hc : g t = 0
          · simp only [if_pos hc, or_0]
          · simp only [if_neg hc]) (by
          rintro f ⟨q, y⟩ ⟨h1, h2⟩
          dsimp only at h1 h2 ⊢
          subst h2
          refine ⟨q, ?_, h1⟩
          simp only [L_X4_looks_35, if_pos (show (10 : Int32) ≤ nI 10 by decide)]) fs_fu 0 (0, 0) (Nat.zero_le _) (fs_fub _ (by omega)) ⟨rfl, rfl⟩
        dsimp only at b1 k1
        subst b2
        subst k2
        have F1 : F_X3_looks (nI i) (nI r) σ = some (st1 g 10, σ) := by
          unfold F_X3_looks
          rw [p5, Option.bind_some]
          dsimp only
          rw [if_pos rfl, b1]
          rfl
        have F2 : F_X4_looks (nI i) (nI r) σ = some (st1 g 10, σ) := by
          unfold F_X4_looks
          rw [z1, if_neg i10, z2, if_neg i10, p6, Option.bind_some]
          dsimp only
          rw [if_pos rfl, k1]
          rfl
        generalize st1 g 10 = v at F1 F2
        exact ⟨v, σ, μ, σ, μ, m_X3_looks _ _ σ μ _ F1, m_X4_looks _ _ σ μ _ F2, hr⟩
    · obtain ⟨z1, z2⟩ := isRow_n hy
      have F1 : F_X3_looks (nI i) y σ = some (-1, σ) := by
        unfold F_X3_looks F_X3_refusePairs
        rw [isk_y hn hi hs, if_neg i10, z1, if_pos rfl]
        rfl
      have F2 : F_X4_looks (nI i) y σ = some (-1, σ) := by
        unfold F_X4_looks
        rw [iso_y hn hi hm.1, if_neg i10, z2, if_pos rfl]
      exact ⟨-1, σ, μ, σ, μ, m_X3_looks _ _ σ μ _ F1, m_X4_looks _ _ σ μ _ F2, hr⟩
  · have F1 : F_X3_looks x y σ = some (-1, σ) := by
      unfold F_X3_looks F_X3_refusePairs
      rw [isk_n hn hx hs, if_pos rfl]
      rfl
    have F2 : F_X4_looks x y σ = some (-1, σ) := by
      unfold F_X4_looks
      rw [iso_n hn hx hm.1, if_pos rfl]
    exact ⟨-1, σ, μ, σ, μ, m_X3_looks _ _ σ μ _ F1, m_X4_looks _ _ σ μ _ F2, hr⟩
/-- of which KINDS one can be -/
theorem c_kinds {n i r h : Nat} (hn : n ≤ 6) (hi : i < n) (hr : r < 6) (h20 : h ≤ 20) {σ : fsS} (hz : σ 10 r = nI (2 * h)) {g : Nat → Int32} (hg : ∀ t, g t = ftb (nI t) (σ 22 i) (σ 25 i) (σ (38 + r)) h) : F_X3_kindsByPairs (nI i) (nI r) σ = some (st1 g 6) := by
  have c2 : fs_in (nI i) 6 := vp_in_nI (by omega) (by omega)
  have c3 : (nI i).toNatClampNeg = i := nI_clamp (by omega)
  obtain ⟨v, b1, b2⟩ := fs_loop (fun f (x : Int32 × Int32) => L_X3_kindsByPairs_5 f (nI i) (nI r) x.1 x.2 σ) (fun t x => x.1 = st1 g t ∧ x.2 = nI t) (fun v => v = st1 g 6) 6 (by
    rintro f t ⟨q, y⟩ ht ⟨h1, h2⟩
    dsimp only at h1 h2 ⊢
    subst h2
    subst h1
    left
    have c1 : ¬ (6 : Int32) ≤ nI t := nI_ge (b := 6) (by omega) (by omega)
    refine ⟨(st1 g (t + 1), nI t + 1), ⟨rfl, nI_1 t⟩, ?_⟩
    simp only [L_X3_kindsByPairs_5, if_neg c1, fs_gp c2, c3, c_fits hr h20 hz, ← hg, Option.bind_some, st1]
    by_cases hc : g t = 0
    · simp only [if_pos hc]
    · simp only [if_neg hc]) (by
    rintro f ⟨q, y⟩ ⟨h1, h2⟩
    dsimp only at h1 h2 ⊢
    subst h2
    refine ⟨q, ?_, h1⟩
    simp only [L_X3_kindsByPairs_5, if_pos (show (6 : Int32) ≤ nI 6 by decide)]) fs_fu 0 (0, 0) (Nat.zero_le _) (fs_fub _ (by omega)) ⟨rfl, rfl⟩
  dsimp only at b1
  unfold F_X3_kindsByPairs
  rw [b1, b2]
  rfl
theorem m_kinds {n i r h : Nat} (hi : i < n) (hr : r < 6) (h20 : h ≤ 20) {kd lk wa s p : Nat → Int32} (hk : kb n kd lk wa s p) {σ : fsS} (hm : mv σ 60 n kd lk wa s p) (hz : σ 53 r = nI (2 * h)) {c : Nat → Int32} (hc : ∀ j, j < 2 * h → σ 52 (40 * r + j) = c j) (ho : ∀ j, j < 2 * h → okj c j) {g : Nat → Int32} (hg : ∀ t, g t = ftb (nI t) (lk i) (s i) c h) : F_X4_kindsOf (nI i) (nI r) σ = some (st1 g 6) := by
  have hn := hk.1
  have c2 : fs_in (nI i) 6 := vp_in_nI (by omega) (by omega)
  have c3 : (nI i).toNatClampNeg = i := nI_clamp (by omega)
  obtain ⟨-, ⟨l, hl, el⟩, -, ⟨s', hs4, es⟩, -⟩ := hk.2 i hi
  obtain ⟨m1, m2, m3, m4, m5⟩ := hm.2 i hi
  obtain ⟨v, b1, b2⟩ := fs_loop (fun f (x : Int32 × Int32) => L_X4_kindsOf_5 f (nI i) (nI r) x.1 x.2 σ) (fun t x => x.1 = st1 g t ∧ x.2 = nI t) (fun v => v = st1 g 6) 6 (by
    rintro f t ⟨q, y⟩ ht ⟨h1, h2⟩
    dsimp only at h1 h2 ⊢
    subst h2
    subst h1
    left
    have c1 : ¬ (6 : Int32) ≤ nI t := nI_ge (b := 6) (by omega) (by omega)
    have e : F_X4_isSo (nI t) (nI l) (nI i) (nI r) σ = some (g t) := by
      rw [m_fits (i := i) hr h20 (by omega) hz hc (show t < 6 from ht) hl hs4 (by rw [m4, es]) (okj_p ho), hg, el, es]
    refine ⟨(st1 g (t + 1), nI t + 1), ⟨rfl, nI_1 t⟩, ?_⟩
    simp only [L_X4_kindsOf_5, if_neg c1, fs_gp c2, c3, m2, el, e, Option.bind_some, st1]
    by_cases hc : g t = 0
    · simp only [if_pos hc, or_0]
    · simp only [if_neg hc]) (by
    rintro f ⟨q, y⟩ ⟨h1, h2⟩
    dsimp only at h1 h2 ⊢
    subst h2
    refine ⟨q, ?_, h1⟩
    simp only [L_X4_kindsOf_5, if_pos (show (6 : Int32) ≤ nI 6 by decide)]) fs_fu 0 (0, 0) (Nat.zero_le _) (fs_fub _ (by omega)) ⟨rfl, rfl⟩
  dsimp only at b1
  unfold F_X4_kindsOf
  rw [b1, b2]
  rfl
set_option maxHeartbeats 4000000 in
theorem e_kinds : ec_kinds Rel := by
  intro x y σ μ hr
  obtain ⟨n, d, q1, q2, q3, q4, q5, q6, hn0, hs, hk, hm⟩ := Rel_all hr
  have hn := hk.1
  by_cases hx : 0 ≤ x.toInt ∧ x.toInt < n
  · obtain ⟨i, hi, rfl⟩ := ix (n := n) (by omega) hx.1 hx.2
    by_cases hy : 0 ≤ y.toInt ∧ y.toInt < 6
    · obtain ⟨r, hr6, rfl⟩ := ix (n := 6) (by omega) hy.1 hy.2
      have z1 := iso_y hn hi hm.1
      have z2 : F_X4_isRow (nI r) = 1 := (isRow_y hr6).2
      rcases pairs_cases hn hi hr6 hs q2 with ⟨f, f1, f5, p1, p2⟩ | ⟨h, h20, p1, p2, p3, p4, p5, p6⟩
      · have F1 : F_X3_kinds (nI i) (nI r) σ = some (-3, rf f σ) := by
          unfold F_X3_kinds
          rw [p1, Option.bind_some]
          rfl
        have F2 : F_X4_kinds (nI i) (nI r) (rf f σ) = some (-3, mf f (rf f σ)) := by
          have z3 : F_X4_isOne (nI i) (rf f σ) = 1 := iso_y hn hi (by unfold rf; rw [fs_ug, if_neg (by omega), fs_ug, if_neg (by omega), hm.1])
          unfold F_X4_kinds
          rw [z3, if_neg i10, z2, if_neg i10, p2, Option.bind_some]
          rfl
        exact ⟨-3, rf f σ, μ, mf f (rf f σ), μ, m_X3_kinds _ _ σ μ _ F1, m_X4_kinds _ _ _ μ _ F2, Rel_rf hr f f1 f5⟩
      · obtain ⟨g, hg⟩ : ∃ g : Nat → Int32, ∀ t, g t = ftb (nI t) (σ 22 i) (σ 25 i) (σ (38 + r)) h := ⟨_, fun _ => rfl⟩
        have F1 : F_X3_kinds (nI i) (nI r) σ = some (st1 g 6, σ) := by
          unfold F_X3_kinds
          rw [p5, Option.bind_some]
          dsimp only
          rw [if_pos rfl, c_kinds hn hi hr6 h20 p1 hg]
          rfl
        have F2 : F_X4_kinds (nI i) (nI r) σ = some (st1 g 6, σ) := by
          unfold F_X4_kinds
          rw [z1, if_neg i10, z2, if_neg i10, p6, Option.bind_some]
          dsimp only
          rw [if_pos rfl, m_kinds hi hr6 h20 hk hm p2 p3 p4 hg]
          rfl
        generalize st1 g 6 = v at F1 F2
        exact ⟨v, σ, μ, σ, μ, m_X3_kinds _ _ σ μ _ F1, m_X4_kinds _ _ σ μ _ F2, hr⟩
    · obtain ⟨z1, z2⟩ := isRow_n hy
      have F1 : F_X3_kinds (nI i) y σ = some (-1, σ) := by
        unfold F_X3_kinds F_X3_refusePairs
        rw [isk_y hn hi hs, if_neg i10, z1, if_pos rfl]
        rfl
      have F2 : F_X4_kinds (nI i) y σ = some (-1, σ) := by
        unfold F_X4_kinds
        rw [iso_y hn hi hm.1, if_neg i10, z2, if_pos rfl]
      exact ⟨-1, σ, μ, σ, μ, m_X3_kinds _ _ σ μ _ F1, m_X4_kinds _ _ σ μ _ F2, hr⟩
  · have F1 : F_X3_kinds x y σ = some (-1, σ) := by
      unfold F_X3_kinds F_X3_refusePairs
      rw [isk_n hn hx hs, if_pos rfl]
      rfl
    have F2 : F_X4_kinds x y σ = some (-1, σ) := by
      unfold F_X4_kinds
      rw [iso_n hn hx hm.1, if_pos rfl]
    exact ⟨-1, σ, μ, σ, μ, m_X3_kinds _ _ σ μ _ F1, m_X4_kinds _ _ σ μ _ F2, hr⟩
