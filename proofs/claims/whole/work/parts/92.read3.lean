theorem firstK (P : Nat → Prop) : ∀ N, ∃ K, K ≤ N ∧ (∀ j, j < K → P j) ∧ (K < N → ¬ P K)
  | 0 => ⟨0, Nat.le_refl _, fun j h => by omega, fun h => by omega⟩
  | N + 1 => by
    obtain ⟨K, h1, h2, h3⟩ := firstK P N
    by_cases e : K < N
    · exact ⟨K, by omega, h2, fun _ => h3 e⟩
    · have e2 : K = N := by omega
      subst e2
      by_cases p : P K
      · refine ⟨K + 1, Nat.le_refl _, fun j hj => ?_, fun h => by omega⟩
        by_cases e3 : j = K
        · rw [e3]; exact p
        · exact h2 j (by omega)
      · exact ⟨K, by omega, h2, fun _ => p⟩
/-- one of KIN as both sides have read it -/
def rc (σ τ : fsS) (q : Nat) : Prop := ∃ k l w d e, (k < 6 ∧ l < 10 ∧ w < 10 ∧ d < 10 ∧ e < 10) ∧ (σ 28 q = nI k ∧ σ 29 q = nI l ∧ σ 30 q = nI w ∧ σ 31 q = nI (10 * d + e) ∧ σ 32 q = 0) ∧ τ 65 (5 * q) = nI k ∧ τ 65 (5 * q + 1) = nI l ∧ τ 65 (5 * q + 2) = nI w ∧ τ 65 (5 * q + 3) = nI d ∧ τ 65 (5 * q + 4) = nI e
theorem rc_fr {σ τ σ' τ' : fsS} {q : Nat} (h1 : ∀ k, 28 ≤ k → k < 33 → σ' k q = σ k q) (h2 : ∀ j, j < 5 → τ' 65 (5 * q + j) = τ 65 (5 * q + j)) (h : rc σ τ q) : rc σ' τ' q := by
  obtain ⟨k, l, w, d, e, hb, hc, hm⟩ := h
  refine ⟨k, l, w, d, e, hb, ?_, ?_⟩
  · rw [h1 28 (by omega) (by omega), h1 29 (by omega) (by omega), h1 30 (by omega) (by omega), h1 31 (by omega) (by omega), h1 32 (by omega) (by omega)]
    exact hc
  · rw [show 5 * q = 5 * q + 0 from rfl, h2 0 (by omega), h2 1 (by omega), h2 2 (by omega), h2 3 (by omega), h2 4 (by omega)]
    exact hm
theorem n9 {q : Nat} (h : q ≤ 60) : ¬ nI q = (-9 : Int32) := ni9' (by omega)
theorem m_stop {h : Nat} (hh : 0 < h) (τ : fsS) : L_X4_reads_31 h 0 τ = some (0, τ) := by
  obtain ⟨h, rfl⟩ : ∃ h', h = h' + 1 := ⟨h - 1, by omega⟩
  rw [L_X4_reads_31]
  by_cases e : τ 51 20 ≤ τ 51 19
  · rw [if_pos e]
  · rw [if_neg e, if_pos rfl]
theorem m_skips (τ : fsS) : F_X4_skips τ = L_X4_skips_0 fs_fu τ := by
  unfold F_X4_skips
  cases L_X4_skips_0 fs_fu τ <;> rfl
def rdC (σ σ' : fsS) : Prop := ∀ k j, ¬ k = 6 → ¬ (28 ≤ k ∧ k < 33) → σ' k j = σ k j
def rdM (τ τ' : fsS) : Prop := ∀ k j, ¬ mrs k j → τ' k j = τ k j
set_option maxHeartbeats 4000000 in
theorem rd_joint {X : Nat → Int32} {L t : Nat} (ht : t < 4) (hL : L ≤ 60) : ∀ m p z (σ τ : fsS), L - p ≤ m → p ≤ L → z ≤ 6 → σ 6 0 = nI z → (∀ x, x < L → σ (44 + t) x = X x) → mr X L t p z τ → (∀ q, q < z → rc σ τ q) → ∀ f g h, L - p < f → L - p < g → L - p < h →
    (∃ q σ' τ', q ≤ L ∧ L_X1_read_7 6 (44 + t) f (nI L) (nI p) σ = some (0, nI q, σ') ∧ (L_X4_skips_0 g τ).bind (fun x => L_X4_reads_31 h 1 x) = some (0, τ') ∧ τ' 51 19 = nI q ∧ rdC σ σ' ∧ rdM τ τ') ∨
    (∃ z' σ' τ', z' ≤ 6 ∧ L_X1_read_7 6 (44 + t) f (nI L) (nI p) σ = some (1, 0, σ') ∧ (L_X4_skips_0 g τ).bind (fun x => L_X4_reads_31 h 1 x) = some (1, τ') ∧ τ' 51 19 = nI L ∧ τ' 51 23 = nI z' ∧ σ' 6 0 = nI z' ∧ (∀ q, q < z' → rc σ' τ' q) ∧ rdC σ σ' ∧ rdM τ τ') := by
  have hla : fs_len (44 + t) = 60 := text_len t ht
  intro m
  induction m with
  | zero =>
    intro p z σ τ hm hp hz h6 hx hr hq f g h hf hg hh
    obtain ⟨f, rfl⟩ : ∃ f', f = f' + 1 := ⟨f - 1, by omega⟩
    obtain ⟨g, rfl⟩ : ∃ g', g = g' + 1 := ⟨g - 1, by omega⟩
    obtain ⟨h, rfl⟩ : ∃ h', h = h' + 1 := ⟨h - 1, by omega⟩
    have e : p = L := by omega
    subst e
    right
    refine ⟨z, σ, τ, hz, ?_, ?_, hr.1, hr.2.2.2.1, h6, hq, fun _ _ _ _ => rfl, fun _ _ _ => rfl⟩
    · rw [L_X1_read_7, if_pos (nI_le (Nat.le_refl p) (by omega))]
    · rw [L_X4_skips_0, m_hereE hL hr, Option.bind_some, if_neg (by decide), Option.bind_some, L_X4_reads_31, if_pos (by rw [hr.1, hr.2.1]; exact nI_le (Nat.le_refl p) (by omega))]
  | succ m ih =>
    intro p z σ τ hm hp hz h6 hx hr hq f g h hf hg hh
    by_cases e : p = L
    · exact ih p z σ τ (by omega) hp hz h6 hx hr hq f g h hf hg hh
    have hpL : p < L := by omega
    obtain ⟨f, rfl⟩ : ∃ f', f = f' + 1 := ⟨f - 1, by omega⟩
    obtain ⟨g, rfl⟩ : ∃ g', g = g' + 1 := ⟨g - 1, by omega⟩
    have c0 : ¬ nI L ≤ nI p := nI_ge hpL (by omega)
    have c1 : fs_in (nI p) (fs_len (44 + t)) := by rw [hla]; exact inI (by omega) (by omega)
    have cl : (nI p).toNatClampNeg = p := nI_clamp (by omega)
    have hxp := hx p hpL
    have here := m_here hL ht hr hpL
    by_cases hb : X p = 32
    · have hr' : mr X L t (p + 1) z (fs_u τ 51 19 (nI (p + 1))) := ⟨by rw [fs_ug, if_pos ⟨rfl, rfl⟩], by rw [fs_ug, if_neg (by omega), hr.2.1], by rw [fs_ug, if_neg (by omega), hr.2.2.1], by rw [fs_ug, if_neg (by omega), hr.2.2.2.1], fun x h => by rw [fs_ug, if_neg (by omega), hr.2.2.2.2 x h]⟩
      have E1 : L_X1_read_7 6 (44 + t) (f + 1) (nI L) (nI p) σ = L_X1_read_7 6 (44 + t) f (nI L) (nI (p + 1)) σ := by
        rw [L_X1_read_7, if_neg c0, fs_gp c1, if_pos (by rw [cl, hxp, hb]), nI_1]
      have E2 : L_X4_skips_0 (g + 1) τ = L_X4_skips_0 g (fs_u τ 51 19 (nI (p + 1))) := by
        rw [L_X4_skips_0, here, Option.bind_some, if_pos hb, hr.1, nI_1]
      rw [E1, E2]
      have fr1 : ∀ τ', rdM (fs_u τ 51 19 (nI (p + 1))) τ' → rdM τ τ' := fun τ' w k j q => by rw [w k j q, fs_ug, if_neg (by unfold mrs at q; omega)]
      rcases ih (p + 1) z σ (fs_u τ 51 19 (nI (p + 1))) (by omega) (by omega) hz h6 hx hr' (fun q hz2 => rc_fr (fun _ _ _ => rfl) (fun j _ => by rw [fs_ug, if_neg (by omega)]) (hq q hz2)) f g h (by omega) (by omega) (by omega) with ⟨q, σ', τ', w1, w2, w3, w4, w5, w6⟩ | ⟨z', σ', τ', w0, w1, w2, w3, w4, w5, w6, w7, w8⟩
      · exact Or.inl ⟨q, σ', τ', w1, w2, w3, w4, w5, fr1 τ' w6⟩
      · exact Or.inr ⟨z', σ', τ', w0, w1, w2, w3, w4, w5, w6, w7, fr1 τ' w8⟩
    · obtain ⟨h, rfl⟩ : ∃ h', h = h' + 1 := ⟨h - 1, by omega⟩
      have E2 : (L_X4_skips_0 (g + 1) τ).bind (fun x => L_X4_reads_31 (h + 1) 1 x) = (F_X4_readsOne τ).bind (fun q5 => if q5.1 = 0 then L_X4_reads_31 h q5.1 q5.2 else (F_X4_skips q5.2).bind (fun q7 => L_X4_reads_31 h q5.1 q7)) := by
        rw [L_X4_skips_0, here, Option.bind_some, if_neg hb, Option.bind_some, L_X4_reads_31, if_neg (by rw [hr.1, hr.2.1]; exact c0), if_neg i10]
      rw [E2]
      have hno : F_X4_readsOne τ = some (0, τ) → (F_X4_readsOne τ).bind (fun q5 => if q5.1 = 0 then L_X4_reads_31 h q5.1 q5.2 else (F_X4_skips q5.2).bind (fun q7 => L_X4_reads_31 h q5.1 q7)) = some (0, τ) := fun w => by
        rw [w, Option.bind_some, if_pos rfl]
        exact m_stop (by omega) τ
      by_cases z6 : z = 6
      · subst z6
        left
        refine ⟨p, σ, τ, by omega, ?_, hno ?_, hr.1, fun _ _ _ _ => rfl, fun _ _ _ => rfl⟩
        · rw [L_X1_read_7, if_neg c0, fs_gp c1, if_neg (by rw [cl, hxp]; exact hb), if_pos (by rw [h6]; rfl), if_neg (n9 (by omega))]
        · unfold F_X4_readsOne
          rw [here, Option.bind_some]
          by_cases e9 : F_X4_kindOf (X p) = -9
          · rw [if_pos e9]
          · rw [if_neg e9, if_pos (by rw [hr.2.2.2.1]; rfl)]
      · have hz6 : ¬ nI z = (6 : Int32) := fun q => by
          rw [show (6 : Int32) = nI 6 from rfl, nI_eq (by omega) (by omega)] at q
          omega
        have E1 : L_X1_read_7 6 (44 + t) (f + 1) (nI L) (nI p) σ = (F_X1_readItem 6 (44 + t) (nI L) (nI p) σ).bind (fun q5 => if q5.1 = (-9 : Int32) then L_X1_read_7 6 (44 + t) f (nI L) (nI p + (5 : Int32)) q5.2 else some (0, q5.1, q5.2)) := by
          rw [L_X1_read_7, if_neg c0, fs_gp c1, if_neg (by rw [cl, hxp]; exact hb), if_neg (by rw [h6]; exact hz6)]
        rw [E1]
        rcases kq (X p) with ⟨k1, k2⟩ | ⟨k, hk6, k1, k2⟩
        · left
          have I1 : F_X1_readItem 6 (44 + t) (nI L) (nI p) σ = some (nI p, σ) := by
            unfold F_X1_readItem
            rw [fs_gp c1, if_pos (by rw [cl, hxp, k1])]
          refine ⟨p, σ, τ, by omega, ?_, hno ?_, hr.1, fun _ _ _ _ => rfl, fun _ _ _ => rfl⟩
          · rw [I1, Option.bind_some, if_neg (n9 (by omega))]
          · unfold F_X4_readsOne
            rw [here, Option.bind_some, if_pos k2]
        · obtain ⟨K, hK, hg1, hb1⟩ := firstK (fun j => p + 1 + j < L ∧ dg (X (p + 1 + j))) 4
          have hk1 : ¬ nI k = (-1 : Int32) := n1 k (by omega)
          have hD := c_digits (a := 44 + t) (p := p) (σ := σ) hla hL hK hpL (nI k) (fun j hj => ⟨(hg1 j hj).1, by rw [hx _ (hg1 j hj).1]; exact (hg1 j hj).2⟩) (fun q1 q2 => hb1 q1 ⟨q2.1, by rw [← hx _ q2.1]; exact q2.2⟩)
          obtain ⟨τ1, b1, b2, b3, b4, b5⟩ := m_item (k := k) hL ht (show z < 6 by omega) hK hg1 hb1 hpL k2 hk6 hr
          by_cases e4 : K = 4
          · subst e4
            rw [if_pos rfl] at hD b1 b2
            obtain ⟨l, hl, xl⟩ := dg_v (hg1 0 (by omega)).2
            obtain ⟨w, hw, xw⟩ := dg_v (hg1 1 (by omega)).2
            obtain ⟨d, hd, xd⟩ := dg_v (hg1 2 (by omega)).2
            obtain ⟨y, hy, xy⟩ := dg_v (hg1 3 (by omega)).2
            have q1 := (hg1 0 (by omega)).1
            have q2 := (hg1 1 (by omega)).1
            have q3 := (hg1 2 (by omega)).1
            have q4 := (hg1 3 (by omega)).1
            obtain ⟨S, s1, s2, s3, s4, s5, s6, s7, s8⟩ := c_item (a := 44 + t) (by omega) hla hL (by omega) (show z < 6 by omega) h6 (by rw [hxp]; exact k1) hk6 (by rw [hx _ (by omega)]; exact xl) (by rw [hx _ (by omega)]; exact xw) (by rw [hx _ (by omega)]; exact xd) (by rw [hx _ (by omega)]; exact xy) hD
            have v48 : ∀ n : Nat, nI (48 + n) - 48 = nI n := fun n => by rw [show (48 : Int32) = nI 48 from rfl, pk_sub (by omega), Nat.add_sub_cancel_left]
            have E3 : (F_X1_readItem 6 (44 + t) (nI L) (nI p) σ).bind (fun q5 => if q5.1 = (-9 : Int32) then L_X1_read_7 6 (44 + t) f (nI L) (nI p + (5 : Int32)) q5.2 else some (0, q5.1, q5.2)) = L_X1_read_7 6 (44 + t) f (nI L) (nI (p + 5)) S := by
              rw [s1, Option.bind_some, if_pos rfl, show nI p + (5 : Int32) = nI (p + 5) from nI_add p 5]
            have E4 : (F_X4_readsOne τ).bind (fun q5 => if q5.1 = 0 then L_X4_reads_31 h q5.1 q5.2 else (F_X4_skips q5.2).bind (fun q7 => L_X4_reads_31 h q5.1 q7)) = (L_X4_skips_0 fs_fu τ1).bind (fun x => L_X4_reads_31 h 1 x) := by
              rw [b1, Option.bind_some, if_neg i10, m_skips]
            rw [E3, E4]
            have hrec : ∀ q, q < z + 1 → rc S τ1 q := fun q hq1 => by
              by_cases eq : q = z
              · subst eq
                refine ⟨k, l, w, d, y, ⟨hk6, hl, hw, hd, hy⟩, ⟨s3, s4, s5, s6, s7⟩, b3, ?_, ?_, ?_, ?_⟩
                · have := b4 0 (by omega)
                  rw [xl, v48] at this
                  exact this
                · have := b4 1 (by omega)
                  rw [xw, v48] at this
                  exact this
                · have := b4 2 (by omega)
                  rw [xd, v48] at this
                  exact this
                · have := b4 3 (by omega)
                  rw [xy, v48] at this
                  exact this
              · exact rc_fr (fun k _ _ => s8 k q (by omega) (by omega)) (fun j _ => b5 65 _ (by omega) (by omega)) (hq q (by omega))
            have frC : ∀ σ', rdC S σ' → rdC σ σ' := fun σ' w k j p1 p2 => by rw [w k j p1 p2, s8 k j (by omega) (by omega)]
            have frM : ∀ τ', rdM τ1 τ' → rdM τ τ' := fun τ' w k j q => by rw [w k j q, b5 k j (by unfold mrs at q; omega) (by unfold mrs at q; omega)]
            rcases ih (p + 5) (z + 1) S τ1 (by omega) (by omega) (by omega) s2 (fun x hx1 => by rw [s8 _ _ (by omega) (by omega), hx x hx1]) b2 hrec f fs_fu h (by omega) (fs_fub _ (by omega)) (by omega) with ⟨q, σ', τ', w1, w2, w3, w4, w5, w6⟩ | ⟨z', σ', τ', w0, w1, w2, w3, w4, w5, w6, w7, w8⟩
            · exact Or.inl ⟨q, σ', τ', w1, w2, w3, w4, frC σ' w5, frM τ' w6⟩
            · exact Or.inr ⟨z', σ', τ', w0, w1, w2, w3, w4, w5, w6, frC σ' w7, frM τ' w8⟩
          · rw [if_neg e4] at hD b1 b2
            have hle : p + 1 + K ≤ L := by
              by_cases e5 : K = 0
              · omega
              · have := (hg1 (K - 1) (by omega)).1
                omega
            have I1 : F_X1_readItem 6 (44 + t) (nI L) (nI p) σ = some (nI (p + 1 + K), σ) := by
              unfold F_X1_readItem
              rw [fs_gp c1, if_neg (by rw [cl, hxp, k1]; exact hk1)]
              simp only [cl, hxp, k1, nI_1, hD, Option.bind_some]
              by_cases e5 : p + 1 + K < L
              · simp only [if_pos e5, if_neg (show ¬ (1 : Nat) = 0 by omega), if_true]
              · have e6 : p + 1 + K = L := by omega
                simp only [if_neg e5, eq_self, if_true]
                rw [e6]
            left
            refine ⟨p + 1 + K, σ, τ1, hle, ?_, ?_, b2.1, fun _ _ _ _ => rfl, fun k j q => b5 k j (by unfold mrs at q; omega) (by unfold mrs at q; omega)⟩
            · rw [I1, Option.bind_some, if_neg (n9 (by omega))]
            · rw [b1, Option.bind_some, if_pos rfl]
              exact m_stop (by omega) τ1
