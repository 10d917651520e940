theorem c_run {n m : Nat} (hn : n ≤ 6) (hm : m ≤ 100) {kd lk wa s p : Nat → Int32} {τ : fsS} (h0 : τ 6 0 = nI n) (h : ∀ i, i < n → τ 28 i = kd i ∧ τ 29 i = lk i ∧ τ 30 i = wa i ∧ τ 31 i = p i ∧ τ 32 i = s i) : ∃ τ', F_X1_passAll 6 (nI m) τ = some (gs n kd lk wa s p m, τ') ∧ (∀ i, i < n → τ' 31 i = it n kd lk wa s p m i) ∧ ∀ k j, ¬ (k = 6 ∨ (28 ≤ k ∧ k < 35)) → τ' k j = τ k j := by
  obtain ⟨τ', a1, a2⟩ := w_passAll (o := 6) fs_K6 hn (σ := τ) h0 hm
  refine ⟨τ', ?_, fun i hi => ?_, fun k j q => a2.2 k j (by omega)⟩
  · rw [a1]
    have : gso τ 6 n m = gs n kd lk wa s p m := gs_congr (fun k hk => (h k hk).1) (fun k hk => (h k hk).2.1) (fun k hk => (h k hk).2.2.1) (fun k hk => (h k hk).2.2.2.2) (fun k hk => (h k hk).2.2.2.1) m
    rw [this]
  · exact (a2.1 i).trans (it_congr (fun k hk => (h k hk).1) (fun k hk => (h k hk).2.1) (fun k hk => (h k hk).2.2.1) (fun k hk => (h k hk).2.2.2.2) (fun k hk => (h k hk).2.2.2.1) m i hi)
theorem t4e {w : Nat} (hw : w < 16) : nI w - nI (w / 4) * (4 : Int32) = nI (w % 4) := by rw [← (t4 w hw).1]; exact (t4 w hw).2
def dS (s : Nat → Int32) (i j w : Nat) : Nat → Int32 := upd (upd s i (nI (w / 4))) j (nI (w % 4))
def dE (n : Nat) (kd lk wa s p : Nat → Int32) (i j w : Nat) : Int32 := it n kd lk wa (dS s i j w) p 4 i - it n kd lk wa (dS s i j w) p 4 j
theorem dS_g (s : Nat → Int32) (i j w x : Nat) : dS s i j w x = if x = j then nI (w % 4) else if x = i then nI (w / 4) else s x := rfl
theorem c_end {n i j w : Nat} (hn : n ≤ 6) (hi : i < n) (hj : j < n) (hw : w < 16) {τ : fsS} (hs : τ 5 0 = nI n) : ∃ τ', F_X3_duelEnd (nI i) (nI j) (nI w) τ = some (dE n (τ 21) (τ 22) (τ 23) (τ 25) (τ 24) i j w, τ') ∧ ∀ k j, ¬ (k = 6 ∨ (28 ≤ k ∧ k < 35)) → τ' k j = τ k j := by
  obtain ⟨σa, h1, h2, h3, h4⟩ := c_aside hn hs
  have c1 : fs_in (nI i) 6 := vp_in_nI (by omega) (by omega)
  have c2 : fs_in (nI j) 6 := vp_in_nI (by omega) (by omega)
  have c3 : (nI i).toNatClampNeg = i := nI_clamp (by omega)
  have c4 : (nI j).toNatClampNeg = j := nI_clamp (by omega)
  obtain ⟨σb, hσb⟩ : ∃ σb, σb = fs_u (fs_u σa 32 i (nI (w / 4))) 32 j (nI (w % 4)) := ⟨_, rfl⟩
  have hB : ∀ k x, σb k x = if k = 32 ∧ x = j then nI (w % 4) else if k = 32 ∧ x = i then nI (w / 4) else σa k x := fun k x => by
    rw [hσb, fs_ug, fs_ug]
  obtain ⟨τ', g1, g2, g3⟩ := c_run hn (m := 4) (by omega) (kd := τ 21) (lk := τ 22) (wa := τ 23) (s := dS (τ 25) i j w) (p := τ 24) (τ := σb) (by rw [hB, if_neg (by omega), if_neg (by omega), h2]) (fun x hx => by
    obtain ⟨p1, p2, p3, p4, p5⟩ := h3 x (by omega)
    refine ⟨?_, ?_, ?_, ?_, ?_⟩
    · rw [hB, if_neg (by omega), if_neg (by omega), p1]
    · rw [hB, if_neg (by omega), if_neg (by omega), p2]
    · rw [hB, if_neg (by omega), if_neg (by omega), p3]
    · rw [hB, if_neg (by omega), if_neg (by omega), p4]
    · rw [hB, dS_g]
      by_cases e1 : x = j
      · rw [if_pos ⟨rfl, e1⟩, if_pos e1]
      · rw [if_neg (fun q => e1 q.2), if_neg e1]
        by_cases e2 : x = i
        · rw [if_pos ⟨rfl, e2⟩, if_pos e2]
        · rw [if_neg (fun q => e2 q.2), if_neg e2, p5])
  refine ⟨τ', ?_, fun k x hk => ?_⟩
  · unfold F_X3_duelEnd
    rw [h1, Option.bind_some]
    simp only [fs_gp c1, fs_gp c2, c3, c4, (t4 w hw).1, t4e hw]
    rw [← hσb, show (4 : Int32) = nI 4 from rfl, g1, Option.bind_some]
    dsimp only
    rw [g2 i hi, g2 j hj]
    rfl
  · rw [g3 k x hk, hB, if_neg (by omega), if_neg (by omega), h4 k x hk]
def dC (k : Nat) : Prop := k = 6 ∨ k = 7 ∨ k = 8 ∨ (28 ≤ k ∧ k < 35)
theorem c_l24 {n i j : Nat} (hn : n ≤ 6) (hi : i < n) (hj : j < n) (y3 : Int32) {σ : fsS} (hs : σ 5 0 = nI n) : ∃ τ, L_X3_duel_24 fs_fu (nI i) (nI j) y3 0 σ = some τ ∧ (∀ w, w < 16 → τ 7 w = dE n (σ 21) (σ 22) (σ 23) (σ 25) (σ 24) i j w) ∧ ∀ k x, ¬ dC k → τ k x = σ k x := by
  refine fs_loop (fun f (x : Int32 × fsS) => L_X3_duel_24 f (nI i) (nI j) y3 x.1 x.2) (fun w x => x.1 = nI w ∧ (∀ v, v < w → x.2 7 v = dE n (σ 21) (σ 22) (σ 23) (σ 25) (σ 24) i j v) ∧ ∀ k y, ¬ dC k → x.2 k y = σ k y) (fun τ => (∀ w, w < 16 → τ 7 w = dE n (σ 21) (σ 22) (σ 23) (σ 25) (σ 24) i j w) ∧ ∀ k x, ¬ dC k → τ k x = σ k x) 16 ?_ ?_ fs_fu 0 (0, σ) (Nat.zero_le _) (fs_fub _ (by omega)) ⟨rfl, fun v h => by omega, fun _ _ _ => rfl⟩
  · rintro f w ⟨y, ρ⟩ hw ⟨hy, hv, hf⟩
    dsimp only at hy hv hf ⊢
    subst hy
    left
    have d1 : ¬ (16 : Int32) ≤ nI w := nI_ge (b := 16) hw (by omega)
    have d2 : fs_in (nI w) 16 := vp_in_nI hw (by omega)
    obtain ⟨ρ', r1, r2⟩ := c_end hn hi hj hw (τ := ρ) (by rw [hf 5 0 (by unfold dC; omega), hs])
    rw [show ρ 21 = σ 21 from funext fun j => hf 21 j (by unfold dC; omega), show ρ 22 = σ 22 from funext fun j => hf 22 j (by unfold dC; omega), show ρ 23 = σ 23 from funext fun j => hf 23 j (by unfold dC; omega), show ρ 24 = σ 24 from funext fun j => hf 24 j (by unfold dC; omega), show ρ 25 = σ 25 from funext fun j => hf 25 j (by unfold dC; omega)] at r1
    refine ⟨(nI w + 1, fs_u ρ' 7 w (dE n (σ 21) (σ 22) (σ 23) (σ 25) (σ 24) i j w)), ⟨nI_1 w, fun v hvw => ?_, fun k x hk => ?_⟩, ?_⟩
    · dsimp only
      rw [fs_ug]
      by_cases e : v = w
      · rw [if_pos ⟨rfl, e⟩, e]
      · rw [if_neg (fun q => e q.2), r2 7 v (by omega), hv v (by omega)]
    · dsimp only
      unfold dC at hk
      rw [fs_ug, if_neg (by omega), r2 k x (by omega), hf k x (by unfold dC; omega)]
    · rw [L_X3_duel_24, if_neg d1, r1, Option.bind_some, fs_gp d2, nI_clamp (by omega)]
  · rintro f ⟨y, ρ⟩ ⟨hy, hv, hf⟩
    dsimp only at hy hv hf ⊢
    subst hy
    refine ⟨ρ, ?_, hv, hf⟩
    rw [L_X3_duel_24, if_pos (show (16 : Int32) ≤ nI 16 by decide)]
def dstep (t : Nat) (V : Nat → Int32) (w : Nat) : Int32 := if t % 2 = 0 then b1 V w else b2 V w
theorem dstep_congr {V V' : Nat → Int32} (h : ∀ w, w < 16 → V w = V' w) (t : Nat) {w : Nat} (hw : w < 16) : dstep t V w = dstep t V' w := by
  unfold dstep b1 b2
  rw [h w hw, h (w % 4) (by omega), h (4 * min (w / 4 + 1) 3 + w % 4) (by omega), h (4 * (w / 4)) (by omega), h (4 * (w / 4) + min (w % 4 + 1) 3) (by omega)]
theorem rem2 {t : Nat} (ht : t < 100) : nI t - nI t / (2 : Int32) * (2 : Int32) = nI (t % 2) := pk_rem (d := 2) (by omega) (by omega) (by omega)
theorem c_l80 {t : Nat} (ht : t < 100) (y1 y2 : Int32) (σ : fsS) : ∃ τ, L_X3_duel_80 fs_fu y1 y2 (nI t) 0 σ = some τ ∧ (∀ w, w < 16 → τ 7 w = dstep t (σ 8) w) ∧ ∀ k x, ¬ k = 7 → τ k x = σ k x := by
  refine fs_loop (fun f (x : Int32 × fsS) => L_X3_duel_80 f y1 y2 (nI t) x.1 x.2) (fun w x => x.1 = nI w ∧ (∀ v, v < w → x.2 7 v = dstep t (σ 8) v) ∧ ∀ k y, ¬ k = 7 → x.2 k y = σ k y) (fun τ => (∀ w, w < 16 → τ 7 w = dstep t (σ 8) w) ∧ ∀ k x, ¬ k = 7 → τ k x = σ k x) 16 ?_ ?_ fs_fu 0 (0, σ) (Nat.zero_le _) (fs_fub _ (by omega)) ⟨rfl, fun v h => by omega, fun _ _ _ => rfl⟩
  · rintro f w ⟨y, ρ⟩ hw ⟨hy, hv, hf⟩
    dsimp only at hy hv hf ⊢
    subst hy
    left
    have d1 : ¬ (16 : Int32) ≤ nI w := nI_ge (b := 16) hw (by omega)
    have d2 : fs_in (nI w) 16 := vp_in_nI hw (by omega)
    have e8 : ρ 8 = σ 8 := funext fun j => hf 8 j (by omega)
    refine ⟨(nI w + 1, fs_u ρ 7 w (dstep t (σ 8) w)), ⟨nI_1 w, fun v hvw => ?_, fun k x hk => ?_⟩, ?_⟩
    · dsimp only
      rw [fs_ug]
      by_cases e : v = w
      · rw [if_pos ⟨rfl, e⟩, e]
      · rw [if_neg (fun q => e q.2), hv v (by omega)]
    · dsimp only
      rw [fs_ug, if_neg (fun q => hk q.1), hf k x hk]
    · rw [L_X3_duel_80, if_neg d1, rem2 ht, c_b1 hw, c_b2 hw, Option.bind_some, Option.bind_some, fs_gp d2, fs_gp d2, nI_clamp (by omega), e8]
      unfold dstep
      by_cases e : t % 2 = 0
      · rw [if_pos e, if_pos (by rw [e]; rfl)]
      · rw [if_neg e, if_neg (by rw [show t % 2 = 1 by omega]; decide)]
  · rintro f ⟨y, ρ⟩ ⟨hy, hv, hf⟩
    dsimp only at hy hv hf ⊢
    subst hy
    refine ⟨ρ, ?_, hv, hf⟩
    rw [L_X3_duel_80, if_pos (show (16 : Int32) ≤ nI 16 by decide)]
def dv (D : Nat → Int32) (n : Nat) : Nat → Nat → Int32
  | 0 => D
  | k + 1 => fun w => dstep (n - k - 1) (dv D n k) w
theorem c16 (σ : fsS) (a b k j : Nat) : fs_cy σ a b 0 0 16 k j = if k = b ∧ j < 16 then σ a j else σ k j := by
  rw [fs_cyg, show (0 : Int32).toNatClampNeg = 0 from rfl, show (16 : Int32).toNatClampNeg = 16 from rfl]
  by_cases h : k = b ∧ j < 16
  · rw [if_pos h, if_pos (by omega)]
    congr 1
    omega
  · rw [if_neg h, if_neg (by omega)]
theorem c_l57 {N : Nat} (hN : N ≤ 6) (y1 y2 : Int32) {D : Nat → Int32} {σ : fsS} (h7 : ∀ w, w < 16 → σ 7 w = D w) : ∃ τ, L_X3_duel_57 fs_fu y1 y2 (nI N - 1) σ = some τ ∧ (∀ w, w < 16 → τ 7 w = dv D N N w) ∧ ∀ k x, ¬ dC k → τ k x = σ k x := by
  refine fs_loop (fun f (x : Int32 × fsS) => L_X3_duel_57 f y1 y2 x.1 x.2) (fun t x => x.1 = nI (N - t) - 1 ∧ (∀ v, v < 16 → x.2 7 v = dv D N t v) ∧ ∀ k y, ¬ dC k → x.2 k y = σ k y) (fun τ => (∀ w, w < 16 → τ 7 w = dv D N N w) ∧ ∀ k x, ¬ dC k → τ k x = σ k x) N ?_ ?_ fs_fu 0 (nI N - 1, σ) (Nat.zero_le _) (fs_fub _ (by omega)) ⟨rfl, h7, fun _ _ _ => rfl⟩
  · rintro f t ⟨y, ρ⟩ ht ⟨hy, hv, hf⟩
    dsimp only at hy hv hf ⊢
    have hy' : y = nI (N - t - 1) := by rw [hy, show N - t = (N - t - 1) + 1 by omega, nI_pred]; rfl
    left
    obtain ⟨ρ', r1, r2, r3⟩ := c_l80 (t := N - t - 1) (by omega) y1 y2 (fs_cy ρ 7 8 0 0 16)
    refine ⟨(y + -1, ρ'), ⟨?_, fun v hvw => ?_, fun k x hk => ?_⟩, ?_⟩
    · dsimp only
      rw [hy', show N - (t + 1) = N - t - 1 by omega, ← Int32.sub_eq_add_neg]
    · dsimp only
      rw [r2 v hvw]
      exact dstep_congr (fun w hw => by rw [c16, if_pos ⟨rfl, hw⟩, hv w hw]) _ hvw
    · dsimp only
      unfold dC at hk
      rw [r3 k x (by omega), c16, if_neg (by omega), hf k x (by unfold dC; omega)]
    · rw [L_X3_duel_57, hy', if_neg (nI_pos (by omega)), fs_gp (by decide), r1, Option.bind_some]
  · rintro f ⟨y, ρ⟩ ⟨hy, hv, hf⟩
    dsimp only at hy hv hf ⊢
    refine ⟨ρ, ?_, hv, hf⟩
    rw [L_X3_duel_57, hy, Nat.sub_self, if_pos (by decide)]
