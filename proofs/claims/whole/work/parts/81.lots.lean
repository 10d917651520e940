/-! lots: the class does all its lots, then the reference does all of its own: a store of both halves -/
def mix (σ τ : fsS) : fsS := fun k => if 51 ≤ k then τ k else σ k
theorem mixC {σ τ : fsS} {k : Nat} (h : k < 51) : mix σ τ k = σ k := if_neg (by omega)
theorem mixM {σ τ : fsS} {k : Nat} (h : 51 ≤ k) : mix σ τ k = τ k := if_pos h
theorem mix_soot {n d i : Nat} {σ τ : fsS} {μ : fsL} (hr : Rel (mix σ τ) μ) (hs : σ 5 0 = nI n) (h33 : σ 3 3 = nI d) (hn : n ≤ 6) (hi : i < n) (hd : d < 40) {c : Int32} (w1 : wh c < n) (w2 : wm c < n) (g : Int32 → Int32) (hds : ∀ (kd lk wa : Nat → Int32) (x : tr), ds n kd lk wa c x = (x.1, upd x.2.1 i (g (x.2.1 i)), x.2.2)) (hg : ∃ b, b < 4 ∧ g (σ 25 i) = nI b) : ∃ σ1 τ1, F_X0_enter c σ = some σ1 ∧ F_X4_remember τ = some τ1 ∧ (∀ j, τ1 60 j = τ 60 j) ∧ Rel (mix σ1 (fs_u τ1 60 (7 + i) (g (σ 25 i)))) μ ∧ σ1 5 0 = nI n ∧ σ1 3 3 = nI (d + 1) ∧ (∀ k j, 51 ≤ k → σ1 k j = σ k j) ∧ ∀ k j, k < 51 → fs_u τ1 60 (7 + i) (g (σ 25 i)) k j = τ k j := by
  obtain ⟨n', d', q1, q2, q3, q4, q5, q6, hn0, hs', hk, hm⟩ := Rel_all hr
  have en : n' = n := by
    rw [mixC (k := 5) (by omega), hs] at hs'
    exact ((nI_eq (by omega) (by have := hk.1; omega)).mp hs').symm
  subst en
  obtain ⟨d1, d2, d3, d4, d5, d6, d7, d8⟩ := id q5
  have ed : d' = d := by
    rw [mixC (k := 3) (by omega), h33] at d3
    exact ((nI_eq (by omega) (by omega)).mp d3).symm
  subst ed
  rw [mixM (k := 51) (by omega)] at d4
  rw [mixC (k := 24) (by omega), mixC (k := 25) (by omega), mixC (k := 3) (by omega)] at d6
  rw [mixM (k := 60) (by omega)] at d7
  obtain ⟨σ1, a1, a2, a3, a4, a5, a6, a7, a8⟩ := c_enter hn hd hs h33 c w1 w2
  obtain ⟨τ1, e1, e2, e3, e4⟩ := m_remember hd d4
  have t60 : ∀ j, τ1 60 j = τ 60 j := fun j => e4 _ _ (by omega) (by omega)
  refine ⟨σ1, τ1, a1, e1, t60, ?_, by rw [a8 _ _ (by omega), hs], a3, fun k j q => a8 k j (by omega), fun k j q => by rw [fs_ug, if_neg (by omega), e4 _ _ (by omega) (by omega)]⟩
  obtain ⟨b1, b2, b3⟩ := d5.1 d' (Nat.le_refl d')
  have key := d6.2.1 i hi
  refine Rel_deed (σ1 := mix σ1 τ) q1 q2 q3 q4 q5 q6 hd (by omega) w1 w2 ?_ (fun j => by rw [mixC (k := 12) (by omega), mixC (k := 12) (by omega)]; exact a2 j) (by rw [mixC (k := 3) (by omega)]; exact a3) (fun j => ?_) (fun j => ?_) ?_ (fun k j q => ?_) (by rw [mixM (k := 51) (by omega), fs_ug, if_neg (by omega), e2]) (fun x => by rw [mixM (k := 63) (by omega), mixM (k := 63) (by omega), mixM (k := 60) (by omega), fs_ug, if_neg (by omega), e3]) ?_ (fun k j q => ?_)
  · rw [hds]
    refine ⟨b1, fun k hk' => ?_, ?_⟩
    · show ∃ a, a < 4 ∧ upd _ _ _ k = nI a
      rw [upd_g]
      by_cases e : k = i
      · rw [if_pos e, ← key]; exact hg
      · rw [if_neg e]; exact b2 k hk'
    · obtain ⟨q, h1, h2⟩ := b3
      exact ⟨q, by omega, h2⟩
  · simp only [mixC (k := 24) (by omega), mixC (k := 25) (by omega), mixC (k := 21) (by omega), mixC (k := 22) (by omega), mixC (k := 23) (by omega), mixC (k := 3) (by omega)]; exact a4 j
  · simp only [mixC (k := 24) (by omega), mixC (k := 25) (by omega), mixC (k := 21) (by omega), mixC (k := 22) (by omega), mixC (k := 23) (by omega), mixC (k := 3) (by omega)]; exact a5 j
  · simp only [mixC (k := 24) (by omega), mixC (k := 25) (by omega), mixC (k := 21) (by omega), mixC (k := 22) (by omega), mixC (k := 23) (by omega), mixC (k := 3) (by omega)]; exact a6
  · by_cases e : 51 ≤ k
    · rw [mixM e, mixM e]
    · rw [mixC (show k < 51 by omega), mixC (show k < 51 by omega)]; exact a8 k j q
  · rw [hds]
    refine ⟨fun k hk' => ?_, fun k hk' => ?_, ?_⟩
    · rw [mixM (k := 60) (by omega)]; dsimp only; rw [fs_ug, if_neg (by omega), t60]; exact d7.1 k hk'
    · rw [mixM (k := 60) (by omega)]
      show fs_u τ1 60 (7 + i) _ 60 (7 + k) = upd _ _ _ k
      rw [fs_ug, upd_g]
      by_cases e : k = i
      · rw [if_pos ⟨rfl, by omega⟩, if_pos e, ← key]
      · rw [if_neg (by omega), if_neg e, t60]; exact d7.2.1 k hk'
    · rw [mixM (k := 60) (by omega)]; dsimp only; rw [fs_ug, if_neg (by omega), t60]; exact d7.2.2
  · by_cases e : 51 ≤ k
    · rw [mixM e, mixM e, fs_ug, if_neg (by omega), e4 _ _ (by omega) (by omega)]
    · rw [mixC (show k < 51 by omega), mixC (show k < 51 by omega)]
theorem mix_pass {n d : Nat} {σ τ : fsS} {μ : fsL} (hr : Rel (mix σ τ) μ) (hs : σ 5 0 = nI n) (h33 : σ 3 3 = nI d) (hn : n ≤ 6) (hn0 : 0 < n) (hd : d < 40) : ∃ σ1 τ1 v τ2, F_X0_enter 0 σ = some σ1 ∧ F_X4_remember τ = some τ1 ∧ F_X4_goes 60 τ1 = some (v, τ2) ∧ (∀ j, τ1 60 j = τ 60 j) ∧ Rel (mix σ1 τ2) μ ∧ σ1 5 0 = nI n ∧ σ1 3 3 = nI (d + 1) ∧ (∀ k j, 51 ≤ k → σ1 k j = σ k j) ∧ ∀ k j, k < 51 → τ2 k j = τ k j := by
  obtain ⟨n', d', q1, q2, q3, q4, q5, q6, hn0', hs', hk, hm⟩ := Rel_all hr
  have en : n' = n := by
    rw [mixC (k := 5) (by omega), hs] at hs'
    exact ((nI_eq (by omega) (by have := hk.1; omega)).mp hs').symm
  subst en
  obtain ⟨d1, d2, d3, d4, d5, d6, d7, d8⟩ := id q5
  have ed : d' = d := by
    rw [mixC (k := 3) (by omega), h33] at d3
    exact ((nI_eq (by omega) (by omega)).mp d3).symm
  subst ed
  rw [mixM (k := 51) (by omega)] at d4
  rw [mixC (k := 24) (by omega), mixC (k := 25) (by omega), mixC (k := 3) (by omega)] at d6
  rw [mixM (k := 60) (by omega)] at d7
  have w1 : wh 0 < n' := by have : wh 0 = 0 := by decide
                            omega
  have w2 : wm 0 < n' := by have : wm 0 = 0 := by decide
                            omega
  obtain ⟨σ1, a1, a2, a3, a4, a5, a6, a7, a8⟩ := c_enter hn hd hs h33 0 w1 w2
  obtain ⟨τ1, e1, e2, e3, e4⟩ := m_remember hd d4
  have t60 : ∀ j, τ1 60 j = τ 60 j := fun j => e4 _ _ (by omega) (by omega)
  have hm1 : mv τ1 60 n' (mix σ τ 21) (mix σ τ 22) (mix σ τ 23) (mix σ τ 25) (mix σ τ 24) := mv_fr hm (fun k j q => by rw [e4 _ _ (by omega) (by omega), mixM (show 51 ≤ k by omega)])
  obtain ⟨τ2, k1, k2, k3, k4, k5⟩ := w_goes (Or.inl rfl) hk hm1
  refine ⟨σ1, τ1, _, τ2, a1, e1, k1, t60, ?_, by rw [a8 _ _ (by omega), hs], a3, fun k j q => a8 k j (by omega), fun k j q => by rw [k5 _ _ (by omega) (by omega), e4 _ _ (by omega) (by omega)]⟩
  obtain ⟨b1, b2, ⟨q, hq, eq⟩⟩ := d5.1 d' (Nat.le_refl d')
  have dsz : ∀ x : tr, ds n' (mix σ τ 14) (mix σ τ 15) (mix σ τ 16) 0 x = (sP n' (mix σ τ 14) (mix σ τ 15) (mix σ τ 16) x.2.1 x.1, x.2.1, x.2.2 + 1) := fun x => by unfold ds; rw [if_pos (by decide)]
  have kk := q4.2.2.2.2.2
  refine Rel_deed (σ1 := mix σ1 τ) (c := 0) q1 q2 q3 q4 q5 q6 hd (by omega) w1 w2 ?_ (fun j => by rw [mixC (k := 12) (by omega), mixC (k := 12) (by omega)]; exact a2 j) (by rw [mixC (k := 3) (by omega)]; exact a3) (fun j => ?_) (fun j => ?_) ?_ (fun k j q => ?_) (by rw [mixM (k := 51) (by omega), k5 _ _ (by omega) (by omega), e2]) (fun x => by rw [mixM (k := 63) (by omega), mixM (k := 63) (by omega), mixM (k := 60) (by omega), k5 _ _ (by omega) (by omega), e3]) ?_ (fun k j q => ?_)
  · rw [dsz]
    refine ⟨fun i hi => ?_, b2, ⟨q + 1, by omega, ?_⟩⟩
    · show ∃ a, a < 100 ∧ (if i < n' then _ else _) = nI a
      rw [if_pos hi]
      exact cp_in _
    · dsimp only
      rw [eq, nI_1]
  · simp only [mixC (k := 24) (by omega), mixC (k := 25) (by omega), mixC (k := 21) (by omega), mixC (k := 22) (by omega), mixC (k := 23) (by omega), mixC (k := 3) (by omega)]; exact a4 j
  · simp only [mixC (k := 24) (by omega), mixC (k := 25) (by omega), mixC (k := 21) (by omega), mixC (k := 22) (by omega), mixC (k := 23) (by omega), mixC (k := 3) (by omega)]; exact a5 j
  · simp only [mixC (k := 24) (by omega), mixC (k := 25) (by omega), mixC (k := 21) (by omega), mixC (k := 22) (by omega), mixC (k := 23) (by omega), mixC (k := 3) (by omega)]; exact a6
  · by_cases e : 51 ≤ k
    · rw [mixM e, mixM e]
    · rw [mixC (show k < 51 by omega), mixC (show k < 51 by omega)]; exact a8 k j q
  · rw [dsz]
    rw [mixC (k := 24) (by omega), mixC (k := 25) (by omega)] at k2
    refine ⟨fun i hi => ?_, fun i hi => ?_, ?_⟩
    · rw [mixM (k := 60) (by omega)]
      dsimp only
      rw [(k2.2 i hi).2.2.2.2]
      exact sP_congr (fun i hi => (kk i hi).2.2.2.2.2.1) (fun i hi => (kk i hi).2.2.2.2.2.2.1) (fun i hi => (kk i hi).2.2.2.2.2.2.2.1) d6.2.1 d6.1 i hi
    · rw [mixM (k := 60) (by omega)]
      dsimp only
      rw [(k2.2 i hi).2.2.2.1]
      exact d6.2.1 i hi
    · rw [mixM (k := 60) (by omega)]
      dsimp only
      rw [k3, t60, d7.2.2]
  · by_cases e : 51 ≤ k
    · rw [mixM e, mixM e, k5 _ _ (by omega) (by omega), e4 _ _ (by omega) (by omega)]
    · rw [mixC (show k < 51 by omega), mixC (show k < 51 by omega)]
