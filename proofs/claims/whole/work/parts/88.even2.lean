theorem ev_f_b (n w i : Nat) : ∃ a, a < 4 ∧ ev_f n w i = nI a := ⟨_, ev_w_lt n w i, rfl⟩
theorem kb_ev {n w : Nat} {kd lk wa s p : Nat → Int32} (h : kb n kd lk wa s p) : kb n kd lk wa (ev_f n w) p :=
  ⟨h.1, fun i hi => ⟨(h.2 i hi).1, (h.2 i hi).2.1, (h.2 i hi).2.2.1, ev_f_b n w i, (h.2 i hi).2.2.2.2⟩⟩
theorem nI_s1 (i : Nat) : nI (i + 1) - 1 = nI i := by
  rw [show (1 : Int32) = nI 1 from rfl, pk_sub (by omega), Nat.add_sub_cancel]
theorem m_lays {n w : Nat} {kd lk wa s p : Nat → Int32} (hk : kb n kd lk wa s p) (hw : w < 4096) {σ : fsS} (hm : mv σ 60 n kd lk wa s p) : ∃ τ, F_X4_laysSoot (nI w) σ = some (nI (ev_c n w s n), τ) ∧ am n kd lk wa (ev_f n w) p σ 0 τ := by
  have hn := hk.1
  obtain ⟨σa, a1, a2⟩ := m_aside hn hm
  have hm0 : σa 51 9 = nI n := a2.1.1
  have h60 : ∀ i, i < n → σa 60 (7 + i) = s i := fun i hi => by rw [a2.2 _ _ (by omega) (by omega)]; exact (hm.2 i hi).2.2.2.1
  obtain ⟨⟨v, τ⟩, b1, b2, b3, b4⟩ := fs_loop (fun f (x : Int32 × Int32 × Int32 × fsS) => L_X4_laysSoot_16 f x.1 x.2.1 x.2.2.1 x.2.2.2) (fun t x => x.1 = nI (ev_c n w s n - ev_c n w s (n - t)) ∧ x.2.1 = nI (w / 4 ^ t) ∧ x.2.2.1 = nI (n - t) - 1 ∧ (∀ i, n - t ≤ i → i < n → x.2.2.2 61 (7 + i) = ev_f n w i) ∧ ∀ k j, ¬ (k = 61 ∧ 7 ≤ j) → x.2.2.2 k j = σa k j) (fun (x : Int32 × fsS) => x.1 = nI (ev_c n w s n) ∧ (∀ i, i < n → x.2 61 (7 + i) = ev_f n w i) ∧ ∀ k j, ¬ (k = 61 ∧ 7 ≤ j) → x.2 k j = σa k j) n (by
    rintro f t ⟨a, b, y, τ⟩ ht ⟨ha, hb, hy, g1, g2⟩
    dsimp only at ha hb hy g1 g2 ⊢
    obtain ⟨i, hi⟩ : ∃ i, n - t = i + 1 := ⟨n - t - 1, by omega⟩
    rw [hi] at ha hy
    rw [nI_s1] at hy
    subst ha hb hy
    left
    have hx : w / 4 ^ t < 2 ^ 31 := Nat.lt_of_le_of_lt (Nat.div_le_self _ _) (by omega)
    have e1 : (7 : Int32) + nI i = nI (7 + i) := nI_add 7 i
    have e2 : fs_in (nI (7 + i)) 13 := inI (by omega) (by omega)
    have e3 : (nI (7 + i)).toNatClampNeg = 7 + i := nI_clamp (by omega)
    have e4 : nI (w / 4 ^ t) - nI (w / 4 ^ t) / (4 : Int32) * (4 : Int32) = ev_f n w i := by
      rw [show (4 : Int32) = nI 4 from rfl, pk_rem hx (by omega) (by omega)]
      unfold ev_f ev_w
      rw [show n - 1 - i = t by omega]
    have e5 : nI (w / 4 ^ t) / (4 : Int32) = nI (w / 4 ^ (t + 1)) := by
      rw [show (4 : Int32) = nI 4 from rfl, pk_div hx (by omega) (by omega), Nat.div_div_eq_div_mul, Nat.pow_succ]
    have e6 : τ 60 (7 + i) = s i := by rw [g2 _ _ (by omega), h60 i (by omega)]
    have e7 : fs_u τ 61 (7 + i) (ev_f n w i) 61 (7 + i) = ev_f n w i := by rw [fs_ug, if_pos ⟨rfl, rfl⟩]
    have hmono := ev_c_mono n w s (i + 1) t
    rw [show i + 1 + t = n by omega] at hmono
    have hst : ev_c n w s (i + 1) = ev_c n w s i + ev_d n w s i := rfl
    have hnt : n - (t + 1) = i := by omega
    refine ⟨(nI (ev_c n w s n - ev_c n w s i), nI (w / 4 ^ (t + 1)), nI i + (-1), fs_u τ 61 (7 + i) (ev_f n w i)), ⟨?_, rfl, ?_, fun q h1 h2 => ?_, fun k j h => ?_⟩, ?_⟩
    · dsimp only
      rw [hnt]
    · dsimp only
      rw [hnt, Int32.sub_eq_add_neg]
    · dsimp only
      rw [fs_ug]
      by_cases e : q = i
      · rw [if_pos ⟨rfl, by omega⟩, e]
      · rw [if_neg (by omega), g1 q (by omega) h2]
    · dsimp only
      rw [fs_ug, if_neg (by omega), g2 k j h]
    · rw [L_X4_laysSoot_16, if_neg (nI_pos (by omega)), e1, fs_gp e2, fs_gp e2, fs_gp e2, e3, e4, e5, e6]
      have hd : ev_d n w s i = if ev_f n w i = s i then 0 else 1 := rfl
      by_cases e : ev_f n w i = s i
      · rw [if_pos e] at hd
        rw [if_pos (e7.trans e), show (0 : Int32) = nI 0 from rfl, nI_add]
        congr 2
        omega
      · rw [if_neg e] at hd
        rw [if_neg (fun q => e (e7.symm.trans q)), nI_1]
        congr 2
        omega) (by
    rintro f ⟨a, b, y, τ⟩ ⟨ha, hb, hy, g1, g2⟩
    dsimp only at ha hb hy g1 g2 ⊢
    rw [Nat.sub_self] at ha hy g1
    subst ha hb hy
    refine ⟨(nI (ev_c n w s n - ev_c n w s 0), τ), ?_, rfl, fun i hi => g1 i (Nat.zero_le i) hi, g2⟩
    rw [L_X4_laysSoot_16, if_pos (by decide)]) fs_fu 0 (0, nI w, nI n - 1, σa) (Nat.zero_le _) (fs_fub _ (by omega)) ⟨by dsimp only; rw [Nat.sub_zero, Nat.sub_self]; rfl, by dsimp only; rw [Nat.pow_zero, Nat.div_one], rfl, fun i h1 h2 => by omega, fun _ _ _ => rfl⟩
  dsimp only at b1 b2 b3 b4
  subst b2
  refine ⟨τ, ?_, ⟨by rw [b4 _ _ (by omega), hm0], fun i hi => ?_⟩, fun k j h1 h2 => by rw [b4 k j (by omega), a2.2 k j h1 h2]⟩
  · unfold F_X4_laysSoot
    rw [a1, Option.bind_some, hm0, b1, Option.bind_some]
  · obtain ⟨m1, m2, m3, m4, m5⟩ := a2.1.2 i hi
    exact ⟨(b4 _ _ (by omega)).trans m1, (b4 _ _ (by omega)).trans m2, (b4 _ _ (by omega)).trans m3, b3 i hi, (b4 _ _ (by omega)).trans m5⟩
theorem shl2 : ∀ n, n ≤ 6 → (1 : Int32) <<< (((2 : Int32) * nI n) &&& 31) = nI (4 ^ n) := by decide +kernel
theorem pow46 {n : Nat} (hn : n ≤ 6) : 4 ^ n ≤ 4096 := Nat.le_trans (Nat.pow_le_pow_right (by omega) hn) (by decide)
theorem ni9' {w : Nat} (hw : w < 4096) : ¬ nI w = (-9 : Int32) := fun h => by
  have h2 := congrArg Int32.toInt h
  rw [nI_toInt (by omega), show (-9 : Int32).toInt = -9 from rfl] at h2
  omega
theorem m_e54 {n i j m : Nat} {kd lk wa s p : Nat → Int32} (hk : kb n kd lk wa s p) (hi : i < n) (hj : j < n) (hm : m ≤ 20) (y4 : Int32) {σ : fsS} (hv : mv σ 60 n kd lk wa s p) : ∃ o, L_X4_even_54 fs_fu (nI i) (nI j) (nI m) y4 (-9) 1000000 0 σ = some o ∧ (∀ k x, ¬ k = 61 → ¬ k = 62 → o.2.2 k x = σ k x) ∧ ((o.1 = -9 ∧ ∀ w, w < 4 ^ n → ¬ ev_b n kd lk wa p i j m w) ∨ ∃ b, b < 4 ^ n ∧ o.1 = nI b ∧ o.2.1 = nI (ev_c n b s n) ∧ ev_b n kd lk wa p i j m b ∧ ∀ v, v < 4 ^ n → ev_b n kd lk wa p i j m v → ev_c n b s n < ev_c n v s n ∨ (ev_c n b s n = ev_c n v s n ∧ b ≤ v)) := by
  have hn := hk.1
  have h46 := pow46 hn
  refine fs_loop (fun f (x : Int32 × Int32 × Int32 × fsS) => L_X4_even_54 f (nI i) (nI j) (nI m) y4 x.1 x.2.1 x.2.2.1 x.2.2.2) (fun w x => x.2.2.1 = nI w ∧ (∀ k y, ¬ k = 61 → ¬ k = 62 → x.2.2.2 k y = σ k y) ∧ ((x.1 = -9 ∧ x.2.1 = 1000000 ∧ ∀ v, v < w → ¬ ev_b n kd lk wa p i j m v) ∨ ∃ b, b < w ∧ x.1 = nI b ∧ x.2.1 = nI (ev_c n b s n) ∧ ev_b n kd lk wa p i j m b ∧ ∀ v, v < w → ev_b n kd lk wa p i j m v → ev_c n b s n < ev_c n v s n ∨ (ev_c n b s n = ev_c n v s n ∧ b ≤ v))) (fun (o : Int32 × Int32 × fsS) => (∀ k x, ¬ k = 61 → ¬ k = 62 → o.2.2 k x = σ k x) ∧ ((o.1 = -9 ∧ ∀ w, w < 4 ^ n → ¬ ev_b n kd lk wa p i j m w) ∨ ∃ b, b < 4 ^ n ∧ o.1 = nI b ∧ o.2.1 = nI (ev_c n b s n) ∧ ev_b n kd lk wa p i j m b ∧ ∀ v, v < 4 ^ n → ev_b n kd lk wa p i j m v → ev_c n b s n < ev_c n v s n ∨ (ev_c n b s n = ev_c n v s n ∧ b ≤ v))) (4 ^ n) ?_ ?_ fs_fu 0 (-9, 1000000, 0, σ) (Nat.zero_le _) (fs_fub _ (by omega)) ⟨rfl, fun _ _ _ _ => rfl, Or.inl ⟨rfl, rfl, fun v hv => by omega⟩⟩
  · rintro f w ⟨a, b, y, τ⟩ hw ⟨hy, g1, g2⟩
    dsimp only at hy g1 g2 ⊢
    subst hy
    left
    have hc := ev_c_le n w s n
    have c1 : ¬ (1 : Int32) <<< (((2 : Int32) * (τ 51 9)) &&& 31) ≤ nI w := by rw [g1 _ _ (by omega) (by omega), hv.1, shl2 n hn]; exact nI_ge hw (by omega)
    obtain ⟨τ1, b1, b2⟩ := m_lays hk (show w < 4096 by omega) (mv_fr hv (fun k y q => g1 k y (by omega) (by omega)))
    have g1' : ∀ k y, ¬ k = 61 → ¬ k = 62 → τ1 k y = σ k y := fun k y q1 q2 => by rw [b2.2 k y q2 q1, g1 k y q1 q2]
    by_cases hle : b ≤ nI (ev_c n w s n)
    · refine ⟨(a, b, nI w + 1, τ1), ⟨nI_1 w, g1', ?_⟩, ?_⟩
      · rcases g2 with ⟨rfl, rfl, -⟩ | ⟨x, x1, rfl, rfl, x4, x5⟩
        · exfalso
          rw [i_le, nI_toInt (by omega), show (1000000 : Int32).toInt = 1000000 from rfl] at hle
          omega
        · right
          rw [nI_leI (by have := ev_c_le n x s n; omega) (by omega)] at hle
          refine ⟨x, by omega, rfl, rfl, x4, fun v h1 h2 => ?_⟩
          by_cases e : v = w
          · rw [e]; omega
          · exact x5 v (by omega) h2
      · rw [L_X4_even_54, if_neg c1, b1, Option.bind_some]
        dsimp only
        rw [if_pos hle]
    · obtain ⟨τ2, d1, d2⟩ := w_givesIn (kb_ev hk) b2 (m := m) (by omega)
      have g1'' : ∀ k y, ¬ k = 61 → ¬ k = 62 → τ2 k y = σ k y := fun k y q1 q2 => by rw [d2.2 k y q2 q1, g1 k y q1 q2]
      have ki : τ2 61 (1 + i) = it n kd lk wa (ev_f n w) p m i := (d2.1.2 i hi).2.2.2.2
      have kj : τ2 61 (1 + j) = it n kd lk wa (ev_f n w) p m j := (d2.1.2 j hj).2.2.2.2
      have e1 : (1 : Int32) + nI i = nI (1 + i) := nI_add 1 i
      have e2 : (1 : Int32) + nI j = nI (1 + j) := nI_add 1 j
      have U : ∀ o, (if τ2 61 (1 + i) = τ2 61 (1 + j) then L_X4_even_54 f (nI i) (nI j) (nI m) y4 (nI w) (nI (ev_c n w s n)) (nI w + 1) τ2 else L_X4_even_54 f (nI i) (nI j) (nI m) y4 a b (nI w + 1) τ2) = o → L_X4_even_54 (f + 1) (nI i) (nI j) (nI m) y4 a b (nI w) τ = o := fun o h => by
        rw [L_X4_even_54, if_neg c1, b1, Option.bind_some]
        dsimp only
        rw [if_neg hle, d1, Option.bind_some]
        dsimp only
        rw [e1, e2, fs_gp (inI (by omega) (by omega)), fs_gp (inI (by omega) (by omega)), nI_clamp (by omega), nI_clamp (by omega)]
        exact h
      by_cases e : τ2 61 (1 + i) = τ2 61 (1 + j)
      · refine ⟨(nI w, nI (ev_c n w s n), nI w + 1, τ2), ⟨nI_1 w, g1'', Or.inr ⟨w, by omega, rfl, rfl, by unfold ev_b; rw [← ki, ← kj]; exact e, fun v h1 h2 => ?_⟩⟩, U _ (if_pos e)⟩
        by_cases ev : v = w
        · rw [ev]; right; omega
        · left
          rcases g2 with ⟨-, -, g2⟩ | ⟨x, x1, -, rfl, x4, x5⟩
          · exact absurd h2 (g2 v (by omega))
          · have h3 := x5 v (by omega) h2
            rw [nI_leI (by have := ev_c_le n x s n; omega) (by omega)] at hle
            omega
      · have hne : ¬ ev_b n kd lk wa p i j m w := by unfold ev_b; rw [← ki, ← kj]; exact e
        refine ⟨(a, b, nI w + 1, τ2), ⟨nI_1 w, g1'', ?_⟩, U _ (if_neg e)⟩
        rcases g2 with ⟨rfl, rfl, g2⟩ | ⟨x, x1, rfl, rfl, x4, x5⟩
        · left
          refine ⟨rfl, rfl, fun v h1 => ?_⟩
          by_cases ev : v = w
          · rw [ev]; exact hne
          · exact g2 v (by omega)
        · right
          refine ⟨x, by omega, rfl, rfl, x4, fun v h1 h2 => ?_⟩
          by_cases ev : v = w
          · rw [ev] at h2; exact absurd h2 hne
          · exact x5 v (by omega) h2
  · rintro f ⟨a, b, y, τ⟩ ⟨hy, g1, g2⟩
    dsimp only at hy g1 g2 ⊢
    subst hy
    refine ⟨(a, b, τ), ?_, g1, ?_⟩
    · rw [L_X4_even_54, if_pos (by rw [g1 _ _ (by omega) (by omega), hv.1, shl2 n hn]; exact nI_le (Nat.le_refl _) (by omega))]
    · rcases g2 with ⟨rfl, rfl, g2⟩ | g2
      · exact Or.inl ⟨rfl, g2⟩
      · exact Or.inr g2
