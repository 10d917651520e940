theorem kb_r {n : Nat} {kd lk wa s p : Nat → Int32} (hk : kb n kd lk wa s p) : ∃ r : Nat → Nat, (∀ k, k < n → r k ≤ 30) ∧ ∀ k, k < n → sR kd lk s p k = nI (r k) := by
  refine ⟨fun k => (sR kd lk s p k).toInt.toNat, fun k h => ?_, fun k h => ?_⟩
  · obtain ⟨-, h1, h2⟩ := kb_R hk h
    dsimp only
    omega
  · obtain ⟨-, h1, h2⟩ := kb_R hk h
    apply Int32.toInt_inj.mp
    dsimp only
    rw [nI_toInt (by omega)]
    omega
theorem ni9 {i : Nat} (hi : i < 6) : ¬ nI i = (-9 : Int32) := fun h => by
  have h2 := congrArg Int32.toInt h
  rw [nI_toInt (by omega), show (-9 : Int32).toInt = -9 from rfl] at h2
  omega
theorem m_lays60 {n : Nat} {kd lk wa s p : Nat → Int32} (hk : kb n kd lk wa s p) {r : Nat → Nat} (hr : ∀ k, k < n → sR kd lk s p k = nI (r k)) {σ : fsS} (hm : mv σ 60 n kd lk wa s p) : ∃ v σ', F_X4_laysRegards 60 σ = some (v, σ') ∧ (∀ i, i < n → σ' 62 i = nI (r i)) ∧ ∀ k j, ¬ k = 62 → σ' k j = σ k j := by
  obtain ⟨σ', h1, h2, h3⟩ := w_lays (Or.inl rfl) hk hm
  exact ⟨_, σ', h1, fun i hi => by rw [h2 i hi, hr i hi], h3⟩
theorem m_so {n i v P : Nat} {kd lk wa s p : Nat → Int32} (hk : kb n kd lk wa s p) (hp : P ≤ 12) (hv : v ≤ 40) (hi : i < n) {r : Nat → Nat} (hr : ∀ k, k < n → r k ≤ 30) (hR : ∀ k, k < n → sR kd lk s p k = nI (r k)) {σ : fsS} (hm : mv σ 60 n kd lk wa s p) : ∃ σ', F_X4_ways (nI i) (nI v) (nI P) σ = some (lN (so r n i v P (2 ^ n)), σ') ∧ ∀ k j, ¬ k = 62 → σ' k j = σ k j := by
  have hn := hk.1
  have h64 := pow64 hn
  obtain ⟨⟨a, σ'⟩, h1, h2, h3⟩ := fs_loop (fun f (x : Int64 × Int32 × fsS) => L_X4_ways_6 f (nI i) (nI v) (nI P) x.1 x.2.1 x.2.2) (fun k x => x.2.1 = nI k ∧ x.1 = lN (so r n i v P k) ∧ ∀ q j, ¬ q = 62 → x.2.2 q j = σ q j) (fun (x : Int64 × fsS) => x.1 = lN (so r n i v P (2 ^ n)) ∧ ∀ q j, ¬ q = 62 → x.2 q j = σ q j) (2 ^ n) (by
    rintro f k ⟨a, y, τ⟩ hk2 ⟨hy, ha, g⟩
    dsimp only at hy ha g ⊢
    subst hy ha
    left
    have m1 := mxN_le (S := k) hr
    have c1 : τ 51 9 = nI n := by rw [g _ _ (by omega), hm.1]
    obtain ⟨w, τ1, a1, a2, a3⟩ := m_lays60 hk hR (mv_fr hm (fun q j h => g q j (by omega)))
    obtain ⟨τ2, b1, b2, b3⟩ := m_set hn hp hr (σ := τ1) (by rw [a3 _ _ (by omega), c1]) a2 (nI i) (nI v) (lN (so r n i v P k)) k
    refine ⟨(lN (so r n i v P (k + 1)), nI k + 1, τ2), ⟨nI_1 k, rfl, fun q j h => by dsimp only; rw [b3 q j h, a3 q j h, g q j h]⟩, ?_⟩
    rw [L_X4_ways_6, c1, shl1 n hn, if_neg (nI_ge hk2 (by omega)), a1, Option.bind_some]
    dsimp only
    rw [b1, Option.bind_some]
    dsimp only
    rw [if_neg (ni9 (by omega)), fs_gp (inI (by omega) (by omega)), nI_clamp (by omega), so]
    have cc : nI (mxN r k n) - τ2 62 i = nI (mxN r k n - ru r k i) := by rw [b2 i hi, nI_subN (ru_mx r k hi)]
    by_cases e : v ≤ mxN r k n - ru r k i
    · rw [if_neg (by rw [cc]; exact nI_nlt e (by omega)), show ((1 : Int32).toInt64) = lN 1 from by decide, lN_mul, lN_add, if_pos e, Nat.mul_one]
    · rw [if_pos (by rw [cc]; exact nI_lt (by omega) (by omega)), show ((0 : Int32).toInt64) = lN 0 from by decide, lN_mul, lN_add, if_neg e, Nat.mul_zero]) (by
    rintro f ⟨a, y, τ⟩ ⟨hy, ha, g⟩
    dsimp only at hy ha g ⊢
    subst hy
    refine ⟨(a, τ), ?_, ha, g⟩
    rw [L_X4_ways_6, g _ _ (by omega), hm.1, shl1 n hn, if_pos (nI_le (Nat.le_refl _) (by omega))]) fs_fu 0 (0, 0, σ) (Nat.zero_le _) (fs_fub _ (by omega)) ⟨rfl, rfl, fun _ _ _ => rfl⟩
  dsimp only at h1 h2 h3
  subst h2
  refine ⟨σ', ?_, h3⟩
  unfold F_X4_ways
  rw [h1, Option.bind_some]
theorem m_sd {n P : Nat} {kd lk wa s p : Nat → Int32} (hk : kb n kd lk wa s p) (hp : P ≤ 12) {r : Nat → Nat} (hr : ∀ k, k < n → r k ≤ 30) (hR : ∀ k, k < n → sR kd lk s p k = nI (r k)) {σ : fsS} (hm : mv σ 60 n kd lk wa s p) : ∃ σ', F_X4_ways (-9) 0 (nI P) σ = some (lN (sd r n P (2 ^ n)), σ') ∧ ∀ k j, ¬ k = 62 → σ' k j = σ k j := by
  have hn := hk.1
  have h64 := pow64 hn
  obtain ⟨⟨a, σ'⟩, h1, h2, h3⟩ := fs_loop (fun f (x : Int64 × Int32 × fsS) => L_X4_ways_6 f (-9) 0 (nI P) x.1 x.2.1 x.2.2) (fun k x => x.2.1 = nI k ∧ x.1 = lN (sd r n P k) ∧ ∀ q j, ¬ q = 62 → x.2.2 q j = σ q j) (fun (x : Int64 × fsS) => x.1 = lN (sd r n P (2 ^ n)) ∧ ∀ q j, ¬ q = 62 → x.2 q j = σ q j) (2 ^ n) (by
    rintro f k ⟨a, y, τ⟩ hk2 ⟨hy, ha, g⟩
    dsimp only at hy ha g ⊢
    subst hy ha
    left
    have c1 : τ 51 9 = nI n := by rw [g _ _ (by omega), hm.1]
    have h3 : gu r k n n ≤ 180 := Nat.le_trans (gu_le hr n) (by omega)
    obtain ⟨w, τ1, a1, a2, a3⟩ := m_lays60 hk hR (mv_fr hm (fun q j h => g q j (by omega)))
    obtain ⟨τ2, b1, b2, b3⟩ := m_set hn hp hr (σ := τ1) (by rw [a3 _ _ (by omega), c1]) a2 (-9) 0 (lN (sd r n P k)) k
    refine ⟨(lN (sd r n P (k + 1)), nI k + 1, τ2), ⟨nI_1 k, rfl, fun q j h => by dsimp only; rw [b3 q j h, a3 q j h, g q j h]⟩, ?_⟩
    rw [L_X4_ways_6, c1, shl1 n hn, if_neg (nI_ge hk2 (by omega)), a1, Option.bind_some]
    dsimp only
    rw [b1, Option.bind_some]
    dsimp only
    rw [if_pos rfl, w_gives hn _ (R := fun i => nI (ru r k i)) (by rw [b3 _ _ (by omega), a3 _ _ (by omega), c1]) b2, Option.bind_some, sm_gu n (Nat.le_refl n), nI_l (by omega), lN_mul, lN_add, sd]) (by
    rintro f ⟨a, y, τ⟩ ⟨hy, ha, g⟩
    dsimp only at hy ha g ⊢
    subst hy
    refine ⟨(a, τ), ?_, ha, g⟩
    rw [L_X4_ways_6, g _ _ (by omega), hm.1, shl1 n hn, if_pos (nI_le (Nat.le_refl _) (by omega))]) fs_fu 0 (0, 0, σ) (Nat.zero_le _) (fs_fub _ (by omega)) ⟨rfl, rfl, fun _ _ _ => rfl⟩
  dsimp only at h1 h2 h3
  subst h2
  refine ⟨σ', ?_, h3⟩
  unfold F_X4_ways
  rw [h1, Option.bind_some]
/-- a part is told on both sides -/
theorem Rel_part {σ σ1 σ2 : fsS} {μ : fsL} (hr : Rel σ μ) (h1 : ∀ k j, ¬ sC k j → σ1 k j = σ k j) (h2 : ∀ k j, ¬ sM k j → σ2 k j = σ1 k j) (n x : Nat) : Rel σ2 (mlM n x (tlC n x μ)) := by
  have hf : ∀ k j, ¬ scr k j → σ2 k j = σ k j := fun k j q => by rw [h2 k j (by unfold scr at q; unfold sM; omega), h1 k j (by unfold scr at q; unfold sC; omega)]
  refine Rel_A hr (fun k j q _ => hf k j q) ?_
  obtain ⟨m, d, ⟨a1, a2, a3, a4, a5⟩, -⟩ := hr
  refine ⟨?_, ?_, ?_, ?_, fun f q1 q2 => ?_⟩
  · rw [hf 51 4 (by unfold scr; omega), hf 0 8 (by unfold scr; omega), a1]
  · unfold mlM tlC
    simp [fs_ulg]
  · unfold mlM tlC
    simp [fs_ulg]
  · rw [hf 51 7 (by unfold scr; omega), hf 0 7 (by unfold scr; omega), a4]
  · rw [hf 56 f (by unfold scr; omega), hf 9 f (by unfold scr; omega), a5 f q1 q2]
theorem e_odds : ec_odds Rel := by
  intro a1 a2 a3 σ μ hr
  obtain ⟨n, hn0, hs, hk, hm⟩ := Rel_now hr
  have hn := hk.1
  have t40 : (40 : Int32).toInt = 40 := rfl
  have t12 : (12 : Int32).toInt = 12 := rfl
  have T40 : (40 : Int64).toInt = 40 := rfl
  have T12 : (12 : Int64).toInt = 12 := rfl
  by_cases hx1 : 0 ≤ a1.toInt ∧ a1.toInt < n
  · obtain ⟨i, hi, rfl⟩ := ix (n := n) (by omega) hx1.1 hx1.2
    have y1 := isk_y hn hi hs
    have y2 := iso_y hn hi hm.1
    by_cases h2 : 0 ≤ a2.toInt ∧ a2.toInt < 41
    · obtain ⟨v, hv, rfl⟩ := ix (n := 41) (by omega) h2.1 h2.2
      have ev : (nI v).toInt = v := nI_toInt (by omega)
      have v1 : ¬ nI v < 0 := nI_pos (by omega)
      have v2 : ¬ (40 : Int32) < nI v := by rw [i_lt, ev, t40]; omega
      have v3 : F_X4_in (nI v).toInt64 0 40 = 1 := in_y (by rw [ev, Z0, T40]; omega)
      by_cases h3 : 0 ≤ a3.toInt ∧ a3.toInt < 13
      · obtain ⟨p, hp, rfl⟩ := ix (n := 13) (by omega) h3.1 h3.2
        have ep : (nI p).toInt = p := nI_toInt (by omega)
        have p1 : ¬ nI p < 0 := nI_pos (by omega)
        have p2 : nI p ≤ (12 : Int32) := by rw [i_le, ep, t12]; omega
        have p3 : F_X4_in (nI p).toInt64 0 12 = 1 := in_y (by rw [ep, Z0, T12]; omega)
        obtain ⟨r, r1, r2⟩ := kb_r hk
        obtain ⟨σ1, b1, b2, b3, b4, b5, b6⟩ := w_weigh5 hn hs
        have hle : so r n i v p (2 ^ n) < 2 ^ 60 := by
          have := so_le (r := r) (n := n) (i := i) (v := v) (p := p) hn (by omega) (2 ^ n)
          have := pow64 hn
          omega
        have hs1 : σ1 5 0 = nI n := by rw [b6 _ _ (by omega), hs]
        have F1 : F_X3_odds (nI i) (nI v) (nI p) σ μ = some (1, σ1, tlC n (so r n i v p (2 ^ n)) μ) := by
          unfold F_X3_odds
          rw [y1, if_neg i10, if_neg v1, if_neg v2, if_neg p1, if_pos p2, b1, Option.bind_some, c_so hn (by omega) (by omega) r1 hs1 (fun k hk => by rw [b4 k hk, r2 k hk]) hi, Option.bind_some, c_tell hn hle hs1, Option.bind_some]
        have hm1 : mv σ1 60 n (σ 21) (σ 22) (σ 23) (σ 25) (σ 24) := mv_fr hm (fun k j q => b6 k j (by omega))
        obtain ⟨σ2, d1, d2⟩ := m_so hk (P := p) (by omega) (v := v) (by omega) hi r1 r2 hm1
        have F2 : F_X4_odds (nI i) (nI v) (nI p) σ1 (tlC n (so r n i v p (2 ^ n)) μ) = some (1, σ2, mlM n (so r n i v p (2 ^ n)) (tlC n (so r n i v p (2 ^ n)) μ)) := by
          unfold F_X4_odds
          rw [iso_y hn hi hm1.1, if_neg i10, v3, if_neg i10, p3, if_neg i10, d1, Option.bind_some]
          dsimp only
          rw [m_all hn (by rw [d2 _ _ (by omega), hm1.1]), Option.bind_some, m_tell hn hle, Option.bind_some]
        exact ⟨1, σ1, _, σ2, _, m_X3_odds _ _ _ σ μ _ F1, m_X4_odds _ _ _ σ1 _ _ F2, Rel_part hr (fun k j q => b6 k j (by unfold sC at q; omega)) (fun k j q => d2 k j (by unfold sM at q; omega)) _ _⟩
      · have F1 : F_X3_odds (nI i) (nI v) a3 σ μ = some (-1, σ, μ) := by
          unfold F_X3_odds
          rw [y1, if_neg i10, if_neg v1, if_neg v2]
          by_cases g : a3 < 0
          · rw [if_pos g]
          · rw [if_neg g, if_neg]
            rw [i_lt, z0] at g
            rw [i_le, t12]
            omega
        have F2 : F_X4_odds (nI i) (nI v) a3 σ μ = some (-1, σ, μ) := by
          unfold F_X4_odds
          rw [y2, if_neg i10, v3, if_neg i10, in_n (by rw [Z0, T12]; omega), if_pos rfl]
        exact ⟨-1, σ, μ, σ, μ, m_X3_odds _ _ _ σ μ _ F1, m_X4_odds _ _ _ σ μ _ F2, hr⟩
    · have F1 : F_X3_odds (nI i) a2 a3 σ μ = some (-1, σ, μ) := by
        unfold F_X3_odds
        rw [y1, if_neg i10]
        by_cases g : a2 < 0
        · rw [if_pos g]
        · rw [if_neg g, if_pos]
          rw [i_lt, z0] at g
          rw [i_lt, t40]
          omega
      have F2 : F_X4_odds (nI i) a2 a3 σ μ = some (-1, σ, μ) := by
        unfold F_X4_odds
        rw [y2, if_neg i10, in_n (by rw [Z0, T40]; omega), if_pos rfl]
      exact ⟨-1, σ, μ, σ, μ, m_X3_odds _ _ _ σ μ _ F1, m_X4_odds _ _ _ σ μ _ F2, hr⟩
  · have F1 : F_X3_odds a1 a2 a3 σ μ = some (-1, σ, μ) := by
      unfold F_X3_odds
      rw [isk_n hn hx1 hs, if_pos rfl]
    have F2 : F_X4_odds a1 a2 a3 σ μ = some (-1, σ, μ) := by
      unfold F_X4_odds
      rw [iso_n hn hx1 hm.1, if_pos rfl]
    exact ⟨-1, σ, μ, σ, μ, m_X3_odds _ _ _ σ μ _ F1, m_X4_odds _ _ _ σ μ _ F2, hr⟩
theorem e_mid : ec_mid Rel := by
  intro a3 σ μ hr
  obtain ⟨n, hn0, hs, hk, hm⟩ := Rel_now hr
  have hn := hk.1
  have t12 : (12 : Int32).toInt = 12 := rfl
  have T12 : (12 : Int64).toInt = 12 := rfl
  by_cases h3 : 0 ≤ a3.toInt ∧ a3.toInt < 13
  · obtain ⟨p, hp, rfl⟩ := ix (n := 13) (by omega) h3.1 h3.2
    have ep : (nI p).toInt = p := nI_toInt (by omega)
    have p1 : ¬ nI p < 0 := nI_pos (by omega)
    have p2 : nI p ≤ (12 : Int32) := by rw [i_le, ep, t12]; omega
    have p3 : F_X4_in (nI p).toInt64 0 12 = 1 := in_y (by rw [ep, Z0, T12]; omega)
    by_cases h0 : n = 0
    · subst h0
      have F1 : F_X3_mid (nI p) σ μ = some (-4, σ, μ) := by
        unfold F_X3_mid
        rw [if_neg p1, if_pos p2, if_neg (nok_n hs)]
      have F2 : F_X4_mid (nI p) σ μ = some (-4, σ, μ) := by
        unfold F_X4_mid
        rw [p3, if_neg i10, hm.1, if_pos nI_0]
      exact ⟨-4, σ, μ, σ, μ, m_X3_mid _ σ μ _ F1, m_X4_mid _ σ μ _ F2, hr⟩
    · obtain ⟨r, r1, r2⟩ := kb_r hk
      obtain ⟨σ1, b1, b2, b3, b4, b5, b6⟩ := w_weigh5 hn hs
      have hle : sd r n p (2 ^ n) < 2 ^ 60 := by
        have := sd_le (r := r) (n := n) (p := p) hn (by omega) r1 (2 ^ n)
        have := pow64 hn
        omega
      have hs1 : σ1 5 0 = nI n := by rw [b6 _ _ (by omega), hs]
      have F1 : F_X3_mid (nI p) σ μ = some (1, σ1, tlC n (sd r n p (2 ^ n)) μ) := by
        unfold F_X3_mid
        rw [if_neg p1, if_pos p2, nok_y hn hs (by omega), if_pos rfl, b1, Option.bind_some, c_sd hn (by omega) r1 hs1 (fun k hk => by rw [b4 k hk, r2 k hk]), Option.bind_some, c_tell hn hle hs1, Option.bind_some]
      have hm1 : mv σ1 60 n (σ 21) (σ 22) (σ 23) (σ 25) (σ 24) := mv_fr hm (fun k j q => b6 k j (by omega))
      obtain ⟨σ2, d1, d2⟩ := m_sd hk (P := p) (by omega) r1 r2 hm1
      have F2 : F_X4_mid (nI p) σ1 (tlC n (sd r n p (2 ^ n)) μ) = some (1, σ2, mlM n (sd r n p (2 ^ n)) (tlC n (sd r n p (2 ^ n)) μ)) := by
        unfold F_X4_mid
        rw [p3, if_neg i10, hm1.1, if_neg (nI_ne0 (by omega) (by omega)), d1, Option.bind_some]
        dsimp only
        rw [m_all hn (by rw [d2 _ _ (by omega), hm1.1]), Option.bind_some, m_tell hn hle, Option.bind_some]
      exact ⟨1, σ1, _, σ2, _, m_X3_mid _ σ μ _ F1, m_X4_mid _ σ1 _ _ F2, Rel_part hr (fun k j q => b6 k j (by unfold sC at q; omega)) (fun k j q => d2 k j (by unfold sM at q; omega)) _ _⟩
  · have F1 : F_X3_mid a3 σ μ = some (-1, σ, μ) := by
      unfold F_X3_mid
      by_cases g : a3 < 0
      · rw [if_pos g]
      · rw [if_neg g, if_neg]
        rw [i_lt, z0] at g
        rw [i_le, t12]
        omega
    have F2 : F_X4_mid a3 σ μ = some (-1, σ, μ) := by
      unfold F_X4_mid
      rw [in_n (by rw [Z0, T12]; omega), if_pos rfl]
    exact ⟨-1, σ, μ, σ, μ, m_X3_mid _ σ μ _ F1, m_X4_mid _ σ μ _ F2, hr⟩
