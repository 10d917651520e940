theorem lesser_n {q y : Int32} (h : y ≤ q) : F_X4_lesser q y = y := by unfold F_X4_lesser; rw [if_pos h]
theorem lesser_y {q y : Int32} (h : ¬ y ≤ q) : F_X4_lesser q y = q := by unfold F_X4_lesser; rw [if_neg h]
theorem m_gic {n a b m : Nat} {kd lk wa s p : Nat → Int32} (hk : kb n kd lk wa s p) (ha : a < n) (hb : b < n) (hab : ¬ a = b) (hm : m ≤ 100) {σ τ : fsS} (hv : mv σ 60 n kd lk wa s p) (hτ : ∀ k j, ¬ k = 61 → ¬ k = 62 → τ k j = σ k j) : ∃ q7 q8 q9 q10, F_X4_changes (nI a) (nI b) τ = some q7 ∧ F_X4_layAside q7 = some q8 ∧ F_X4_givesIn (nI m) q8 = some (gs n kd (sw lk a b) wa s p m, q9) ∧ F_X4_changes (nI a) (nI b) q9 = some q10 ∧ ∀ k j, ¬ k = 61 → ¬ k = 62 → q10 k j = σ k j := by
  have hn := hk.1
  have c1 : fs_in (nI a) 6 := vp_in_nI (by omega) (by omega)
  have c2 : fs_in (nI b) 6 := vp_in_nI (by omega) (by omega)
  have c3 : (nI a).toNatClampNeg = a := nI_clamp (by omega)
  have c4 : (nI b).toNatClampNeg = b := nI_clamp (by omega)
  have X : ∀ τ, F_X4_changes (nI a) (nI b) τ = some (fs_u (fs_u τ 58 a (τ 58 b)) 58 b (τ 58 a)) := fun τ => by
    unfold F_X4_changes
    rw [fs_gp c1, fs_gp c2, fs_gp c1, fs_gp c2, c3, c4]
  obtain ⟨q7, h7⟩ : ∃ q, q = fs_u (fs_u τ 58 a (τ 58 b)) 58 b (τ 58 a) := ⟨_, rfl⟩
  have H7 : ∀ k j, q7 k j = if k = 58 ∧ j = b then τ 58 a else if k = 58 ∧ j = a then τ 58 b else τ k j := fun k j => by
    rw [h7, fs_ug, fs_ug]
  have v7 : mv q7 60 n kd (sw lk a b) wa s p := by
    refine ⟨?_, fun i hi => ?_⟩
    · rw [H7, if_neg (by omega), if_neg (by omega), hτ _ _ (by omega) (by omega), hv.1]
    · obtain ⟨p1, p2, p3, p4, p5⟩ := hv.2 i hi
      refine ⟨?_, ?_, ?_, ?_, ?_⟩
      · rw [H7, if_neg (by omega), if_neg (by omega), hτ _ _ (by omega) (by omega), p1]
      · rw [H7]
        unfold sw
        by_cases e1 : i = b
        · rw [if_pos ⟨rfl, e1⟩, if_pos e1, hτ _ _ (by omega) (by omega), (hv.2 a ha).2.1]
        · rw [if_neg (fun q => e1 q.2), if_neg e1]
          by_cases e2 : i = a
          · rw [if_pos ⟨rfl, e2⟩, if_pos e2, hτ _ _ (by omega) (by omega), (hv.2 b hb).2.1]
          · rw [if_neg (fun q => e2 q.2), if_neg e2, hτ _ _ (by omega) (by omega), p2]
      · rw [H7, if_neg (by omega), if_neg (by omega), hτ _ _ (by omega) (by omega), p3]
      · rw [H7, if_neg (by omega), if_neg (by omega), hτ _ _ (by omega) (by omega), p4]
      · rw [H7, if_neg (by omega), if_neg (by omega), hτ _ _ (by omega) (by omega), p5]
  obtain ⟨q8, a1, a2⟩ := m_aside hn v7
  obtain ⟨q9, b1, b2⟩ := w_givesIn (kb_sw hk ha hb) a2 hm
  refine ⟨q7, q8, q9, _, by rw [X, h7], a1, b1, X q9, fun k j k1 k2 => ?_⟩
  have F : ∀ j, q9 58 j = q7 58 j := fun j => b2.2 58 j (by omega) (by omega)
  have A : q7 58 a = τ 58 b := by rw [H7, if_neg (by omega), if_pos ⟨rfl, rfl⟩]
  have B : q7 58 b = τ 58 a := by rw [H7, if_pos ⟨rfl, rfl⟩]
  rw [fs_ug, fs_ug, F, F, A, B]
  by_cases e1 : k = 58 ∧ j = b
  · rw [if_pos e1, e1.1, e1.2, hτ _ _ (by omega) (by omega)]
  · rw [if_neg e1]
    by_cases e2 : k = 58 ∧ j = a
    · rw [if_pos e2, e2.1, e2.2, hτ _ _ (by omega) (by omega)]
    · rw [if_neg e2, b2.2 k j k2 k1, H7, if_neg e1, if_neg e2, hτ k j k1 k2]
theorem m_ch1 {n m a : Nat} {kd lk wa s p : Nat → Int32} (hk : kb n kd lk wa s p) (hm : m ≤ 100) (ha : a < n) {σ : fsS} (hv : mv σ 60 n kd lk wa s p) {G : Nat → Nat → Int32} (hG : ∀ a b, G a b = gs n kd (sw lk a b) wa s p m) (x : Int32 × Int32) {τ : fsS} (hτ : ∀ k j, ¬ k = 61 → ¬ k = 62 → τ k j = σ k j) : ∃ τ', L_X4_change_55 fs_fu (nI m) x.1 x.2 (nI a) (nI (a + 1)) τ = some ((chI (fun k => G a (a + 1 + k)) (fun k => ((10 : Int32) * nI a) + nI (a + 1 + k)) (n - (a + 1)) x).1, (chI (fun k => G a (a + 1 + k)) (fun k => ((10 : Int32) * nI a) + nI (a + 1 + k)) (n - (a + 1)) x).2, τ') ∧ ∀ k j, ¬ k = 61 → ¬ k = 62 → τ' k j = σ k j := by
  have hn := hk.1
  obtain ⟨g, hg⟩ : ∃ g : Nat → Int32, g = fun k => G a (a + 1 + k) := ⟨_, rfl⟩
  obtain ⟨tg, htg⟩ : ∃ g : Nat → Int32, g = fun k => ((10 : Int32) * nI a) + nI (a + 1 + k) := ⟨_, rfl⟩
  rw [← hg, ← htg]
  obtain ⟨o, h1, τ', h2, h3⟩ := fs_loop (fun f (x : Int32 × Int32 × Int32 × fsS) => L_X4_change_55 f (nI m) x.1 x.2.1 (nI a) x.2.2.1 x.2.2.2) (fun k y => y.2.2.1 = nI (a + 1 + k) ∧ y.1 = (chI g tg k x).1 ∧ y.2.1 = (chI g tg k x).2 ∧ ∀ k j, ¬ k = 61 → ¬ k = 62 → y.2.2.2 k j = σ k j) (fun o => ∃ τ', o = ((chI g tg (n - (a + 1)) x).1, (chI g tg (n - (a + 1)) x).2, τ') ∧ ∀ k j, ¬ k = 61 → ¬ k = 62 → τ' k j = σ k j) (n - (a + 1)) (by
    rintro f k ⟨u, v, y, ρ⟩ hkk ⟨hy, hu, hvv, hf⟩
    dsimp only at hy hu hvv hf ⊢
    subst hy hu hvv
    left
    have d1 : ¬ ρ 51 9 ≤ nI (a + 1 + k) := by rw [hf 51 9 (by omega) (by omega), hv.1]; exact nI_ge (by omega) (by omega)
    obtain ⟨q7, q8, q9, q10, r7, r8, r9, r10, r11⟩ := m_gic hk ha (b := a + 1 + k) (by omega) (by omega) hm hv hf
    have eG : gs n kd (sw lk a (a + 1 + k)) wa s p m = g k := by
      rw [hg]
      dsimp only
      rw [hG]
    rw [eG] at r9
    have ft : ((10 : Int32) * nI a) + nI (a + 1 + k) = tg k := by rw [htg]
    by_cases hc : (chI g tg k x).1 ≤ g k
    · have e : chI g tg (k + 1) x = chI g tg k x := if_pos hc
      refine ⟨((chI g tg k x).1, (chI g tg k x).2, nI (a + 1 + k) + 1, q10), ⟨nI_1 _, by rw [e], by rw [e], r11⟩, ?_⟩
      rw [L_X4_change_55, if_neg d1, r7, Option.bind_some, r8, Option.bind_some, r9, Option.bind_some]
      dsimp only
      rw [r10, Option.bind_some, if_pos hc, lesser_n hc]
    · have e : chI g tg (k + 1) x = (g k, tg k) := if_neg hc
      refine ⟨(g k, tg k, nI (a + 1 + k) + 1, q10), ⟨nI_1 _, by rw [e], by rw [e], r11⟩, ?_⟩
      rw [L_X4_change_55, if_neg d1, r7, Option.bind_some, r8, Option.bind_some, r9, Option.bind_some]
      dsimp only
      rw [r10, Option.bind_some, if_neg hc, lesser_y hc, ft]) (by
    rintro f ⟨u, v, y, ρ⟩ ⟨hy, hu, hvv, hf⟩
    dsimp only at hy hu hvv hf ⊢
    subst hy hu hvv
    refine ⟨_, ?_, ρ, rfl, hf⟩
    have d1 : ρ 51 9 ≤ nI n := by rw [hf 51 9 (by omega) (by omega), hv.1]; exact nI_le (Nat.le_refl n) (by omega)
    simp only [L_X4_change_55, show a + 1 + (n - (a + 1)) = n by omega, if_pos d1]) fs_fu 0 (x.1, x.2, nI (a + 1), τ) (Nat.zero_le _) (fs_fub _ (by omega)) ⟨rfl, rfl, rfl, hτ⟩
  exact ⟨τ', by dsimp only at h1; rw [h1, h2], h3⟩
theorem m_ch2 {n m : Nat} {kd lk wa s p : Nat → Int32} (hk : kb n kd lk wa s p) (hm : m ≤ 100) {σ : fsS} (hv : mv σ 60 n kd lk wa s p) {G : Nat → Nat → Int32} (hG : ∀ a b, G a b = gs n kd (sw lk a b) wa s p m) (x : Int32) {τ : fsS} (hτ : ∀ k j, ¬ k = 61 → ¬ k = 62 → τ k j = σ k j) : ∃ τ', L_X4_change_40 fs_fu (nI m) x (-9) 0 τ = some ((chO n G x n).1, (chO n G x n).2, τ') ∧ ∀ k j, ¬ k = 61 → ¬ k = 62 → τ' k j = σ k j := by
  have hn := hk.1
  obtain ⟨o, h1, τ', h2, h3⟩ := fs_loop (fun f (x : Int32 × Int32 × Int32 × fsS) => L_X4_change_40 f (nI m) x.1 x.2.1 x.2.2.1 x.2.2.2) (fun a y => y.2.2.1 = nI a ∧ y.1 = (chO n G x a).1 ∧ y.2.1 = (chO n G x a).2 ∧ ∀ k j, ¬ k = 61 → ¬ k = 62 → y.2.2.2 k j = σ k j) (fun o => ∃ τ', o = ((chO n G x n).1, (chO n G x n).2, τ') ∧ ∀ k j, ¬ k = 61 → ¬ k = 62 → τ' k j = σ k j) n (by
    rintro f a ⟨u, v, y, ρ⟩ ha ⟨hy, hu, hvv, hf⟩
    dsimp only at hy hu hvv hf ⊢
    subst hy hu hvv
    left
    have d1 : ¬ ρ 51 9 ≤ nI a := by rw [hf 51 9 (by omega) (by omega), hv.1]; exact nI_ge (by omega) (by omega)
    obtain ⟨ρ', r1, r2⟩ := m_ch1 hk hm ha hv hG (chO n G x a) hf
    refine ⟨((chO n G x (a + 1)).1, (chO n G x (a + 1)).2, nI (a + 1), ρ'), ⟨rfl, rfl, rfl, r2⟩, ?_⟩
    simp only [L_X4_change_40, if_neg d1, nI_1, r1, Option.bind_some]
    rfl) (by
    rintro f ⟨u, v, y, ρ⟩ ⟨hy, hu, hvv, hf⟩
    dsimp only at hy hu hvv hf ⊢
    subst hy hu hvv
    refine ⟨_, ?_, ρ, rfl, hf⟩
    have d1 : ρ 51 9 ≤ nI n := by rw [hf 51 9 (by omega) (by omega), hv.1]; exact nI_le (Nat.le_refl n) (by omega)
    simp only [L_X4_change_40, if_pos d1]) fs_fu 0 (x, -9, 0, τ) (Nat.zero_le _) (fs_fub _ (by omega)) ⟨rfl, rfl, rfl, hτ⟩
  exact ⟨τ', by dsimp only at h1; rw [h1, h2], h3⟩
theorem e_change : ec_change Rel := by
  intro x σ μ hr
  obtain ⟨n, d, q1, q2, q3, q4, q5, q6, hn0, hs, hk, hv⟩ := Rel_all hr
  have hn := hk.1
  by_cases hx : 1 ≤ x.toInt ∧ x.toInt ≤ 20
  · obtain ⟨m, hm, rfl⟩ : ∃ m, m < 21 ∧ x = nI m := ix (by decide) (by omega) (by omega)
    have em : (nI m).toInt = m := nI_toInt (by omega)
    rw [em] at hx
    have b1 : ¬ nI m < 1 := by rw [i_lt, em, show (1 : Int32).toInt = 1 from rfl]; omega
    have b2 : nI m ≤ 20 := by rw [i_le, em, show (20 : Int32).toInt = 20 from rfl]; omega
    have b3 : F_X4_in (nI m).toInt64 1 20 = 1 := in_y (by rw [em, show (1 : Int64).toInt = 1 from rfl, show (20 : Int64).toInt = 20 from rfl]; omega)
    by_cases h0 : n = 0
    · subst h0
      have F1 : F_X3_change (nI m) σ = some (-4, σ) := by
        unfold F_X3_change
        rw [if_neg b1, if_pos b2, if_neg (nok_n hs)]
      have F2 : F_X4_change (nI m) σ = some (-4, σ) := by
        unfold F_X4_change
        rw [b3, if_neg i10, hv.1, if_pos nI_0]
      exact ⟨-4, σ, μ, σ, μ, m_X3_change _ σ μ _ F1, m_X4_change _ _ μ _ F2, hr⟩
    · obtain ⟨G, hG⟩ : ∃ G : Nat → Nat → Int32, ∀ a b, G a b = gs n (σ 21) (sw (σ 22) a b) (σ 23) (σ 25) (σ 24) m := ⟨_, fun _ _ => rfl⟩
      obtain ⟨σ1, f1, f2⟩ := c_gic hn (a := 0) (b := 0) (by omega) (by omega) (m := m) (by omega) hs
      rw [← hG] at f1
      have e0 : gs n (σ 21) (σ 22) (σ 23) (σ 25) (σ 24) m = G 0 0 := by
        rw [hG]
        refine gs_congr (fun i hi => rfl) (fun i hi => ?_) (fun i hi => rfl) (fun i hi => rfl) (fun i hi => rfl) m
        unfold sw
        by_cases e : i = 0
        · rw [if_pos e, e]
        · rw [if_neg e, if_neg e]
      obtain ⟨σ2, g1, g2⟩ := c_ch2 hn (m := m) (by omega) hs hG (G 0 0) f2
      obtain ⟨w, hw⟩ : ∃ w, w = chO n G (G 0 0) n := ⟨_, rfl⟩
      have M : ∀ ρ, (∀ k j, (k = 51 ∧ j = 9) ∨ (57 ≤ k ∧ k < 61) → ρ k j = σ k j) → ∃ τ1 τ2 τ3, F_X4_layAside ρ = some τ1 ∧ F_X4_givesIn (nI m) τ1 = some (G 0 0, τ2) ∧ L_X4_change_40 fs_fu (nI m) (G 0 0) (-9) 0 τ2 = some (w.1, w.2, τ3) ∧ ∀ k j, ¬ k = 61 → ¬ k = 62 → τ3 k j = ρ k j := by
        intro ρ hρ
        have hv' := mv_fr hv hρ
        obtain ⟨τ1, t1, t2⟩ := m_aside hn hv'
        obtain ⟨τ2, t3, t4⟩ := w_givesIn hk t2 (m := m) (by omega)
        rw [e0] at t3
        obtain ⟨τ3, t5, t6⟩ := m_ch2 hk (m := m) (by omega) hv' hG (G 0 0) (τ := τ2) (fun k j k1 k2 => t4.2 k j k2 k1)
        rw [← hw] at t5
        exact ⟨τ1, τ2, τ3, t1, t3, t5, t6⟩
      have nk : ¬ σ 51 9 = 0 := by rw [hv.1]; exact nI_ne0 (by omega) (by omega)
      rw [← hw] at g1
      by_cases h9 : w.2 = -9
      · have F1 : F_X3_change (nI m) σ = some (-9, σ2) := by
          unfold F_X3_change
          rw [if_neg b1, if_pos b2, nok_y hn hs (by omega), if_pos rfl, show (0 : Int32) = nI 0 from rfl, f1, Option.bind_some, hs]
          dsimp only
          rw [show nI 0 = 0 from rfl, g1, Option.bind_some]
          dsimp only
          rw [if_pos h9]
        obtain ⟨τ1, τ2, τ3, t1, t2, t3, t4⟩ := M σ2 (fun k j q => g2 k j (by omega))
        have F2 : F_X4_change (nI m) σ2 = some (-9, τ3) := by
          unfold F_X4_change
          rw [b3, if_neg i10, g2 51 9 (by omega), if_neg nk, t1, Option.bind_some, t2, Option.bind_some]
          dsimp only
          rw [t3, Option.bind_some]
          dsimp only
          rw [if_pos h9]
        exact ⟨-9, σ2, μ, τ3, μ, m_X3_change _ σ μ _ F1, m_X4_change _ _ μ _ F2, Rel_q hr (fun k j q => g2 k j (by unfold sC at q; omega)) (fun k j q => t4 k j (by unfold sM at q; omega) (by unfold sM at q; omega))⟩
      · obtain ⟨u, v⟩ := w
        dsimp only at h9 g1
        have F1 : F_X3_change (nI m) σ = some (v, fs_u σ2 0 8 u) := by
          unfold F_X3_change
          rw [if_neg b1, if_pos b2, nok_y hn hs (by omega), if_pos rfl, show (0 : Int32) = nI 0 from rfl, f1, Option.bind_some, hs]
          dsimp only
          rw [show nI 0 = 0 from rfl, g1, Option.bind_some]
          dsimp only
          rw [if_neg h9]
          rfl
        obtain ⟨τ1, τ2, τ3, t1, t2, t3, t4⟩ := M (fs_u σ2 0 8 u) (fun k j q => by rw [fs_ug, if_neg (by omega), g2 k j (by omega)])
        have F2 : F_X4_change (nI m) (fs_u σ2 0 8 u) = some (v, fs_u τ3 51 4 u) := by
          unfold F_X4_change
          rw [b3, if_neg i10, show fs_u σ2 0 8 u 51 9 = σ 51 9 by rw [fs_ug, if_neg (by omega), g2 51 9 (by omega)], if_neg nk, t1, Option.bind_some, t2, Option.bind_some]
          dsimp only
          rw [t3, Option.bind_some]
          dsimp only
          rw [if_neg h9]
          rfl
        exact ⟨v, _, μ, _, μ, m_X3_change _ σ μ _ F1, m_X4_change _ _ μ _ F2, Rel_qa hr u (fun k j q => g2 k j (by unfold sC at q; omega)) (fun k j q => t4 k j (by unfold sM at q; omega) (by unfold sM at q; omega))⟩
  · have F1 : F_X3_change x σ = some (-1, σ) := by
      unfold F_X3_change
      by_cases h1 : x < 1
      · rw [if_pos h1]
      · rw [if_neg h1, if_neg]
        rw [i_lt, show (1 : Int32).toInt = 1 from rfl] at h1
        rw [i_le, show (20 : Int32).toInt = 20 from rfl]
        omega
    have F2 : F_X4_change x σ = some (-1, σ) := by
      unfold F_X4_change
      rw [in_n (by rw [show (1 : Int64).toInt = 1 from rfl, show (20 : Int64).toInt = 20 from rfl]; exact hx), if_pos rfl]
    exact ⟨-1, σ, μ, σ, μ, m_X3_change _ σ μ _ F1, m_X4_change _ _ μ _ F2, hr⟩
