/-- the class: one's PURSE behind m QUARTERS with so much more SOOT -/
theorem c_pb {n i m : Nat} (hn : n ≤ 6) (hi : i < n) (hm : m ≤ 100) (e : Int32) {σ : fsS} (hs : σ 5 0 = nI n) : ∃ σ', F_X3_purseBehind (nI i) e (nI m) σ = some (it n (σ 21) (σ 22) (σ 23) (upd (σ 25) i (σ 25 i + e)) (σ 24) m i, σ') ∧ ∀ k j, ¬ (k = 6 ∨ (28 ≤ k ∧ k < 35)) → σ' k j = σ k j := by
  obtain ⟨σa, b1, b2, b3, b4⟩ := c_aside hn hs
  have c2 : fs_in (nI i) 6 := vp_in_nI (by omega) (by omega)
  have c3 : (nI i).toNatClampNeg = i := nI_clamp (by omega)
  obtain ⟨σ', a1, a2⟩ := w_passAll (o := 6) fs_K6 hn (σ := fs_u σa 32 i (σa 32 i + e)) (by rw [fs_ug, if_neg (by omega), b2]) hm
  have hp : σ' 31 i = it n (σ 21) (σ 22) (σ 23) (upd (σ 25) i (σ 25 i + e)) (σ 24) m i := by
    refine (a2.1 i).trans (it_congr (fun k hk => ?_) (fun k hk => ?_) (fun k hk => ?_) (fun k hk => ?_) (fun k hk => ?_) m i hi)
    · show fs_u σa 32 i _ 28 k = _
      rw [fs_ug, if_neg (by omega)]; exact (b3 k (by omega)).1
    · show fs_u σa 32 i _ 29 k = _
      rw [fs_ug, if_neg (by omega)]; exact (b3 k (by omega)).2.1
    · show fs_u σa 32 i _ 30 k = _
      rw [fs_ug, if_neg (by omega)]; exact (b3 k (by omega)).2.2.1
    · show fs_u σa 32 i _ 32 k = upd _ _ _ k
      rw [fs_ug, upd_g]
      by_cases e' : k = i
      · rw [if_pos ⟨rfl, e'⟩, if_pos e', (b3 i (by omega)).2.2.2.2]
      · rw [if_neg (by omega), if_neg e']; exact (b3 k (by omega)).2.2.2.2
    · show fs_u σa 32 i _ 31 k = _
      rw [fs_ug, if_neg (by omega)]; exact (b3 k (by omega)).2.2.2.1
  refine ⟨σ', ?_, fun k j h => ?_⟩
  · unfold F_X3_purseBehind
    simp only [b1, Option.bind_some, fs_gp c2, c3, a1, hp]
  · rw [a2.2 k j (by omega), fs_ug, if_neg (by omega), b4 k j h]
theorem m_pb {n i m : Nat} {kd lk wa s p : Nat → Int32} (hk : kb n kd lk wa s p) (hi : i < n) (hm : m ≤ 100) {σ τ : fsS} (h : am n kd lk wa s p σ 0 τ) : ∃ τ', F_X4_purseBehind (nI i) (nI m) τ = some (it n kd lk wa s p m i, τ') ∧ am n kd lk wa s p σ m τ' := by
  have hn := hk.1
  obtain ⟨τ', a1, a2⟩ := w_givesIn hk h hm
  refine ⟨τ', ?_, a2⟩
  have c4 : (1 : Int32) + nI i = nI (1 + i) := nI_add 1 i
  have c6 : fs_in (nI (1 + i)) 13 := vp_in_nI (by omega) (by omega)
  have c8 : (nI (1 + i)).toNatClampNeg = 1 + i := nI_clamp (by omega)
  unfold F_X4_purseBehind
  simp only [a1, Option.bind_some, c4, fs_gp c6, c8, (a2.1.2 i hi).2.2.2.2]
/-- who gains by SOOT, among the first so many -/
def gn (s : Nat → Int32) (f g : Nat → Int32) : Nat → Int32
  | 0 => 0
  | t + 1 => if 3 ≤ s t then gn s f g t else if f t ≤ g t then gn s f g t else gn s f g t ||| ((1 : Int32) <<< (nI t &&& 31))
theorem upd_0 (s : Nat → Int32) (i : Nat) : ∀ k, upd s i (s i + 0) k = s k := by
  intro k
  rw [upd_g]
  by_cases e : k = i
  · rw [if_pos e, e, Int32.add_zero]
  · rw [if_neg e]
theorem or_0 (x : Int32) : x ||| 0 = x := Int32.or_zero
set_option maxHeartbeats 4000000 in
theorem e_gains : ec_gains Rel := by
  intro x σ μ hr
  obtain ⟨n, hn0, hs, hk, hm⟩ := Rel_now hr
  have hn := hk.1
  by_cases hx : 1 ≤ x.toInt ∧ x.toInt < 41
  · obtain ⟨w, hw, rfl⟩ := ix (x := x) (n := 41) (by omega) (by omega) hx.2
    have ew : (nI w).toInt = w := nI_toInt (by omega)
    have g0 : ¬ nI w < 1 := by rw [i_lt, show (1 : Int32).toInt = 1 from rfl]; omega
    have g9 : nI w ≤ 40 := by rw [i_le, z40]; omega
    have hin : F_X4_in ((nI w).toInt64) 1 40 = 1 := in_y (by rw [show (1 : Int64).toInt = 1 from rfl, show (40 : Int64).toInt = 40 from rfl]; omega)
    by_cases h0 : n = 0
    · subst h0
      have F1 : F_X3_gains (nI w) σ = some (-4, σ) := by
        unfold F_X3_gains
        rw [if_neg g0, if_pos g9, if_neg (nok_n hs)]
      have F2 : F_X4_gains (nI w) σ = some (-4, σ) := by
        unfold F_X4_gains
        rw [hin, if_neg i10, hm.1, if_pos (by decide)]
      exact ⟨-4, σ, μ, σ, μ, m_X3_gains _ σ μ _ F1, m_X4_gains _ σ μ _ F2, hr⟩
    · obtain ⟨f, hf⟩ : ∃ f : Nat → Int32, ∀ i, f i = it n (σ 21) (σ 22) (σ 23) (upd (σ 25) i (σ 25 i + 1)) (σ 24) w i := ⟨_, fun _ => rfl⟩
      obtain ⟨g, hg⟩ : ∃ g : Nat → Int32, ∀ i, g i = it n (σ 21) (σ 22) (σ 23) (σ 25) (σ 24) w i := ⟨_, fun _ => rfl⟩
      obtain ⟨⟨r, σ1⟩, b1, b2, b3⟩ := fs_loop (fun q (x : Int32 × Int32 × fsS) => L_X3_gains_27 q (nI w) x.1 x.2.1 x.2.2) (fun t x => x.1 = gn (σ 25) f g t ∧ x.2.1 = nI t ∧ ∀ k j, ¬ (k = 6 ∨ (28 ≤ k ∧ k < 35)) → x.2.2 k j = σ k j) (fun (x : Int32 × fsS) => x.1 = gn (σ 25) f g n ∧ ∀ k j, ¬ (k = 6 ∨ (28 ≤ k ∧ k < 35)) → x.2 k j = σ k j) n (by
        rintro q t ⟨r, y, τ⟩ ht ⟨h1, h2, h3⟩
        dsimp only at h1 h2 h3 ⊢
        subst h2
        subst h1
        left
        have c1 : ¬ τ 5 0 ≤ nI t := by rw [h3 _ _ (by omega), hs]; exact nI_ge ht (by omega)
        have c2 : fs_in (nI t) 6 := vp_in_nI (by omega) (by omega)
        have c3 : (nI t).toNatClampNeg = t := nI_clamp (by omega)
        have c4 : τ 25 t = σ 25 t := h3 _ _ (by omega)
        by_cases h3s : 3 ≤ σ 25 t
        · refine ⟨(gn (σ 25) f g (t + 1), nI t + 1, τ), ⟨rfl, nI_1 t, h3⟩, ?_⟩
          simp only [L_X3_gains_27, if_neg c1, fs_gp c2, c3, c4, if_pos h3s, gn]
        · have fe : τ 21 = σ 21 ∧ τ 22 = σ 22 ∧ τ 23 = σ 23 ∧ τ 24 = σ 24 ∧ τ 25 = σ 25 := ⟨funext fun j => h3 _ _ (by omega), funext fun j => h3 _ _ (by omega), funext fun j => h3 _ _ (by omega), funext fun j => h3 _ _ (by omega), funext fun j => h3 _ _ (by omega)⟩
          obtain ⟨e1, e2, e3, e4, e5⟩ := fe
          obtain ⟨τ1, p1, p2⟩ := c_pb (m := w) hn ht (by omega) 1 (σ := τ) (by rw [h3 _ _ (by omega), hs])
          rw [e1, e2, e3, e4, e5, ← hf] at p1
          have h31 : ∀ k j, ¬ (k = 6 ∨ (28 ≤ k ∧ k < 35)) → τ1 k j = σ k j := fun k j q => by rw [p2 k j q, h3 k j q]
          have fe : τ1 21 = σ 21 ∧ τ1 22 = σ 22 ∧ τ1 23 = σ 23 ∧ τ1 24 = σ 24 ∧ τ1 25 = σ 25 := ⟨funext fun j => h31 _ _ (by omega), funext fun j => h31 _ _ (by omega), funext fun j => h31 _ _ (by omega), funext fun j => h31 _ _ (by omega), funext fun j => h31 _ _ (by omega)⟩
          obtain ⟨k1, k2, k3, k4, k5⟩ := fe
          obtain ⟨τ2, r1, r2⟩ := c_pb (m := w) hn ht (by omega) 0 (σ := τ1) (by rw [h31 _ _ (by omega), hs])
          rw [k1, k2, k3, k4, k5, show upd (σ 25) t (σ 25 t + 0) = σ 25 from funext (upd_0 (σ 25) t), ← hg] at r1
          refine ⟨(gn (σ 25) f g (t + 1), nI t + 1, τ2), ⟨rfl, nI_1 t, fun k j q => by dsimp only; rw [r2 k j q, h31 k j q]⟩, ?_⟩
          simp only [L_X3_gains_27, if_neg c1, fs_gp c2, c3, c4, if_neg h3s, p1, r1, Option.bind_some, gn]
          by_cases hc : f t ≤ g t
          · simp only [if_pos hc]
          · simp only [if_neg hc]) (by
        rintro q ⟨r, y, τ⟩ ⟨h1, h2, h3⟩
        dsimp only at h1 h2 h3 ⊢
        subst h2
        refine ⟨(r, τ), ?_, h1, h3⟩
        have c1 : τ 5 0 ≤ nI n := by rw [h3 _ _ (by omega), hs]; exact nI_le (Nat.le_refl n) (by omega)
        simp only [L_X3_gains_27, if_pos c1]) fs_fu 0 (0, 0, σ) (Nat.zero_le _) (fs_fub _ (by omega)) ⟨rfl, rfl, fun _ _ _ => rfl⟩
      dsimp only at b1 b2 b3
      subst b2
      have F1 : F_X3_gains (nI w) σ = some (gn (σ 25) f g n, σ1) := by
        unfold F_X3_gains
        rw [if_neg g0, if_pos g9, if_pos (nok_y hn hs (by omega)), b1]
        rfl
      have hm1 : mv σ1 60 n (σ 21) (σ 22) (σ 23) (σ 25) (σ 24) := mv_fr hm (fun k j q => b3 k j (by omega))
      obtain ⟨⟨r, τ1⟩, k1, k2, k3⟩ := fs_loop (fun q (x : Int32 × Int32 × fsS) => L_X4_gains_28 q (nI w) x.1 x.2.1 x.2.2) (fun t x => x.1 = gn (σ 25) f g t ∧ x.2.1 = nI t ∧ ∀ k j, ¬ k = 61 → ¬ k = 62 → x.2.2 k j = σ1 k j) (fun (x : Int32 × fsS) => x.1 = gn (σ 25) f g n ∧ ∀ k j, ¬ k = 61 → ¬ k = 62 → x.2 k j = σ1 k j) n (by
        rintro q t ⟨r, y, τ⟩ ht ⟨h1, h2, h3⟩
        dsimp only at h1 h2 h3 ⊢
        subst h2
        subst h1
        left
        have hmt : mv τ 60 n (σ 21) (σ 22) (σ 23) (σ 25) (σ 24) := mv_fr hm1 (fun k j q => h3 k j (by omega) (by omega))
        have c1 : ¬ τ 51 9 ≤ nI t := by rw [hmt.1]; exact nI_ge ht (by omega)
        have c4 : (7 : Int32) + nI t = nI (7 + t) := nI_add 7 t
        have c6 : fs_in (nI (7 + t)) 13 := vp_in_nI (by omega) (by omega)
        have c8 : (nI (7 + t)).toNatClampNeg = 7 + t := nI_clamp (by omega)
        have m4 := (hmt.2 t ht).2.2.2.1
        by_cases h3s : 3 ≤ σ 25 t
        · refine ⟨(gn (σ 25) f g (t + 1), nI t + 1, τ), ⟨rfl, nI_1 t, h3⟩, ?_⟩
          simp only [L_X4_gains_28, if_neg c1, c4, fs_gp c6, c8, m4, if_pos h3s, gn]
        · obtain ⟨τa, a1, a2⟩ := m_aside hn hmt
          obtain ⟨τb, p1, p2⟩ := m_pb hk ht (m := w) (by omega) a2
          rw [← hg] at p1
          have hmb : mv τb 60 n (σ 21) (σ 22) (σ 23) (σ 25) (σ 24) := mv_fr hmt (fun k j q => p2.2 k j (by omega) (by omega))
          obtain ⟨τc, a3, a4⟩ := m_aside hn hmb
          have u7 : τc 61 (7 + t) = σ 25 t := (a4.1.2 t ht).2.2.2.1
          have hk1 : kb n (σ 21) (σ 22) (σ 23) (upd (σ 25) t (σ 25 t + 1)) (σ 24) := by
            refine ⟨hn, fun i hi => ?_⟩
            obtain ⟨z1, z2, z3, z4, z5⟩ := hk.2 i hi
            refine ⟨z1, z2, z3, ?_, z5⟩
            rw [upd_g]
            by_cases e : i = t
            · subst e
              obtain ⟨a, ha, ea⟩ := z4
              rw [if_pos rfl, ea, nI_1]
              refine ⟨a + 1, ?_, rfl⟩
              rw [ea, i_le, nI_toInt (by omega), show (3 : Int32).toInt = 3 from rfl] at h3s
              omega
            · rw [if_neg e]; exact z4
          have a5 : am n (σ 21) (σ 22) (σ 23) (upd (σ 25) t (σ 25 t + 1)) (σ 24) τb 0 (fs_u τc 61 (7 + t) (σ 25 t + 1)) := by
            refine ⟨⟨by rw [fs_ug, if_neg (by omega)]; exact a4.1.1, fun i hi => ?_⟩, fun k j q1 q2 => by rw [fs_ug, if_neg (by omega), a4.2 k j q1 q2]⟩
            obtain ⟨z1, z2, z3, z4, z5⟩ := a4.1.2 i hi
            refine ⟨?_, ?_, ?_, ?_, ?_⟩
            · rw [fs_ug, if_neg (by omega), z1]
            · rw [fs_ug, if_neg (by omega), z2]
            · rw [fs_ug, if_neg (by omega), z3]
            · rw [fs_ug, upd_g]
              by_cases e : i = t
              · rw [if_pos ⟨rfl, by omega⟩, if_pos e]
              · rw [if_neg (by omega), if_neg e, z4]
            · rw [fs_ug, if_neg (by omega), z5]; rfl
          obtain ⟨τd, p3, p4⟩ := m_pb hk1 ht (m := w) (by omega) a5
          rw [← hf] at p3
          refine ⟨(gn (σ 25) f g (t + 1), nI t + 1, τd), ⟨rfl, nI_1 t, fun k j q1 q2 => by dsimp only; rw [p4.2 k j q2 q1, p2.2 k j q2 q1, h3 k j q1 q2]⟩, ?_⟩
          simp only [L_X4_gains_28, if_neg c1, c4, fs_gp c6, c8, m4, if_neg h3s, a1, p1, a3, u7, p3, Option.bind_some, gn]
          by_cases hc : f t ≤ g t
          · simp only [if_pos hc, or_0]
          · simp only [if_neg hc]) (by
        rintro q ⟨r, y, τ⟩ ⟨h1, h2, h3⟩
        dsimp only at h1 h2 h3 ⊢
        subst h2
        refine ⟨(r, τ), ?_, h1, h3⟩
        have c1 : τ 51 9 ≤ nI n := by rw [h3 _ _ (by omega) (by omega), hm1.1]; exact nI_le (Nat.le_refl n) (by omega)
        simp only [L_X4_gains_28, if_pos c1]) fs_fu 0 (0, 0, σ1) (Nat.zero_le _) (fs_fub _ (by omega)) ⟨rfl, rfl, fun _ _ _ _ => rfl⟩
      dsimp only at k1 k2 k3
      subst k2
      have F2 : F_X4_gains (nI w) σ1 = some (gn (σ 25) f g n, τ1) := by
        unfold F_X4_gains
        rw [hin, if_neg i10, if_neg (by rw [hm1.1]; exact nI_ne0 (by omega) (by omega)), k1]
        rfl
      generalize gn (σ 25) f g n = v at F1 F2
      exact ⟨v, σ1, μ, τ1, μ, m_X3_gains _ σ μ _ F1, m_X4_gains _ _ μ _ F2, Rel_q hr (fun k j q => b3 k j (by unfold sC at q; omega)) (fun k j q => k3 k j (by unfold sM at q; omega) (by unfold sM at q; omega))⟩
  · have F1 : F_X3_gains x σ = some (-1, σ) := by
      unfold F_X3_gains
      by_cases g : x < 1
      · rw [if_pos g]
      · rw [if_neg g, if_neg]
        rw [i_lt, show (1 : Int32).toInt = 1 from rfl] at g
        rw [i_le, z40]
        omega
    have F2 : F_X4_gains x σ = some (-1, σ) := by
      unfold F_X4_gains
      rw [in_n (by rw [show (1 : Int64).toInt = 1 from rfl, show (40 : Int64).toInt = 40 from rfl]; omega), if_pos rfl]
    exact ⟨-1, σ, μ, σ, μ, m_X3_gains _ σ μ _ F1, m_X4_gains _ σ μ _ F2, hr⟩
