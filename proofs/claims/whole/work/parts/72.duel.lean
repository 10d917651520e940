/-! duel -/
def mx (a b : Int32) : Int32 := if a < b then b else a
def mn (a b : Int32) : Int32 := if b < a then b else a
theorem mx_le {a b : Int32} (h : b ≤ a) : mx a b = a := by unfold mx; rw [if_neg (Int32.not_lt.mpr h)]
theorem mx_nle {a b : Int32} (h : ¬ b ≤ a) : mx a b = b := by unfold mx; rw [if_pos (Int32.not_le.mp h)]
theorem mn_le {a b : Int32} (h : b ≤ a) : mn a b = b := by
  unfold mn
  by_cases h2 : b < a
  · rw [if_pos h2]
  · rw [if_neg h2]; exact Int32.le_antisymm (Int32.not_lt.mp h2) h
theorem mn_nle {a b : Int32} (h : ¬ b ≤ a) : mn a b = a := by
  unfold mn
  rw [if_neg (fun q => h (Int32.le_of_lt q))]
theorem mx_aa (a : Int32) : mx a a = a := mx_le (Int32.le_refl a)
theorem mn_aa (a : Int32) : mn a a = a := mn_le (Int32.le_refl a)
theorem mx_aba (a b : Int32) : mx (mx a b) a = mx a b := by
  apply mx_le
  by_cases h : b ≤ a
  · rw [mx_le h]; exact Int32.le_refl a
  · rw [mx_nle h]; exact Int32.le_of_lt (Int32.not_le.mp h)
theorem mn_aba (a b : Int32) : mn (mn a b) a = mn a b := by
  by_cases h : b ≤ a
  · rw [mn_le h]
    by_cases h2 : a ≤ b
    · rw [mn_le h2]; exact Int32.le_antisymm h2 h
    · rw [mn_nle h2]
  · rw [mn_nle h, mn_aa]
def b1 (V : Nat → Int32) (w : Nat) : Int32 := mx (mx (V w) (V (w % 4))) (V (4 * min (w / 4 + 1) 3 + w % 4))
def b2 (V : Nat → Int32) (w : Nat) : Int32 := mn (mn (V w) (V (4 * (w / 4)))) (V (4 * (w / 4) + min (w % 4 + 1) 3))
theorem t4 : ∀ w, w < 16 → nI w / 4 = nI (w / 4) ∧ nI w - nI w / (4 : Int32) * 4 = nI (w % 4) := by decide +kernel
theorem t4a : ∀ w, w < 16 → F_X3_duelWay (0 : Int32) (nI w - nI w / (4 : Int32) * (4 : Int32)) = nI (w % 4) ∧ F_X3_duelWay (if (3 : Int32) < ((nI w / (4 : Int32)) + (1 : Int32)) then (3 : Int32) else ((nI w / (4 : Int32)) + (1 : Int32))) (nI w - nI w / (4 : Int32) * (4 : Int32)) = nI (4 * min (w / 4 + 1) 3 + w % 4) := by decide +kernel
theorem t4b : ∀ w, w < 16 → F_X3_duelWay (nI w / (4 : Int32)) (0 : Int32) = nI (4 * (w / 4)) ∧ F_X3_duelWay (nI w / (4 : Int32)) (if (3 : Int32) < ((nI w - nI w / (4 : Int32) * (4 : Int32)) + (1 : Int32)) then (3 : Int32) else ((nI w - nI w / (4 : Int32) * (4 : Int32)) + (1 : Int32))) = nI (4 * (w / 4) + min (w % 4 + 1) 3) := by decide +kernel
theorem t4c : ∀ w, w < 16 → (nI w / (4 : Int32)) - (nI w / (4 : Int32)) / (4 : Int32) * (4 : Int32) = nI (w / 4) ∧ (nI w / (1 : Int32)) - (nI w / (1 : Int32)) / (4 : Int32) * (4 : Int32) = nI (w % 4) := by decide +kernel
theorem t4d : ∀ w, w < 16 → ∀ t, t < 4 → nI w + ((4 : Int32) * (nI t - nI (w / 4))) = nI (4 * t + w % 4) ∧ nI w + ((1 : Int32) * (nI t - nI (w % 4))) = nI (4 * (w / 4) + t) := by decide +kernel
theorem c_b1 {w : Nat} (hw : w < 16) (σ : fsS) : F_X3_bestForFirst (nI w) σ = some (b1 (σ 8) w) := by
  obtain ⟨e1, e2⟩ := t4a w hw
  have c1 : fs_in (nI w) 16 := vp_in_nI hw (by omega)
  have c2 : fs_in (nI (w % 4)) 16 := vp_in_nI (by omega) (by omega)
  have c3 : fs_in (nI (4 * min (w / 4 + 1) 3 + w % 4)) 16 := vp_in_nI (by omega) (by omega)
  unfold F_X3_bestForFirst
  simp only [e1, e2, fs_gp c1, fs_gp c2, fs_gp c3, nI_clamp (n := w) (by omega), nI_clamp (n := w % 4) (by omega), nI_clamp (n := 4 * min (w / 4 + 1) 3 + w % 4) (by omega)]
  rfl
theorem c_b2 {w : Nat} (hw : w < 16) (σ : fsS) : F_X3_bestForSecond (nI w) σ = some (b2 (σ 8) w) := by
  obtain ⟨e1, e2⟩ := t4b w hw
  have c1 : fs_in (nI w) 16 := vp_in_nI hw (by omega)
  have c2 : fs_in (nI (4 * (w / 4))) 16 := vp_in_nI (by omega) (by omega)
  have c3 : fs_in (nI (4 * (w / 4) + min (w % 4 + 1) 3)) 16 := vp_in_nI (by omega) (by omega)
  unfold F_X3_bestForSecond
  simp only [e1, e2, fs_gp c1, fs_gp c2, fs_gp c3, nI_clamp (n := w) (by omega), nI_clamp (n := 4 * (w / 4)) (by omega), nI_clamp (n := 4 * (w / 4) + min (w % 4 + 1) 3) (by omega)]
  rfl
def wb (m : Int32 → Int32 → Int32) (o : Nat) (x : Nat → Int32) (a : Int32) : Nat → Int32
  | 0 => a
  | t + 1 => if t = o + 1 then m (wb m o x a t) (x t) else if t = 0 ∧ 0 < o then m (wb m o x a t) (x t) else wb m o x a t
theorem m_wl (y2 : Int32) (m : Int32 → Int32 → Int32) (hy : (y2 = 1 ∧ m = mx) ∨ (y2 = 0 ∧ m = mn)) {o : Nat} (ho : o < 4) (w u : Int32) (ix : Nat → Nat) (σ : fsS) (hI : ∀ t, t < 4 → ix t < 16 ∧ w + (u * (nI t - nI o)) = nI (ix t)) (a : Int32) : L_X4_weighs_28 fs_fu w y2 u (nI o) a 0 σ = some (wb m o (fun t => σ 66 (ix t)) a 4) := by
  obtain ⟨v, h1, h2⟩ := fs_loop (fun f (x : Int32 × Int32) => L_X4_weighs_28 f w y2 u (nI o) x.1 x.2 σ) (fun t x => x.2 = nI t ∧ x.1 = wb m o (fun t => σ 66 (ix t)) a t) (fun v => v = wb m o (fun t => σ 66 (ix t)) a 4) 4 (by
    rintro f t ⟨b, y⟩ ht ⟨hy', hb⟩
    dsimp only at hy' hb ⊢
    left
    obtain ⟨i1, i2⟩ := hI t ht
    have d1 : ¬ (4 : Int32) ≤ nI t := nI_ge (b := 4) ht (by omega)
    have g1 : fs_in (nI (ix t)) 16 := vp_in_nI i1 (by omega)
    have g2 : (nI (ix t)).toNatClampNeg = ix t := nI_clamp (by omega)
    have key : ∀ c : Int32, (if t = o + 1 then m b (σ 66 (ix t)) else if t = 0 ∧ 0 < o then m b (σ 66 (ix t)) else b) = c → L_X4_weighs_28 (f + 1) w y2 u (nI o) b (nI t) σ = L_X4_weighs_28 f w y2 u (nI o) c (nI t + 1) σ := by
      intro c hc
      rw [L_X4_weighs_28, if_neg d1, i2]
      simp only [fs_gp g1, g2]
      rw [nI_1 o]
      by_cases e : t = o + 1
      · rw [if_pos e] at hc
        rw [if_pos (show nI t = nI (o + 1) by rw [e])]
        rcases hy with ⟨rfl, rfl⟩ | ⟨rfl, rfl⟩
        · by_cases hle : σ 66 (ix t) ≤ b
          · rw [mx_le hle] at hc
            rw [if_pos hle, if_neg (by decide), hc]
          · rw [mx_nle hle] at hc
            rw [if_neg hle, if_pos rfl, hc]
        · by_cases hle : σ 66 (ix t) ≤ b
          · rw [mn_le hle] at hc
            rw [if_pos hle, if_pos rfl, hc]
          · rw [mn_nle hle] at hc
            rw [if_neg hle, if_neg (by decide), hc]
      · rw [if_neg e] at hc
        rw [if_neg (show ¬ nI t = nI (o + 1) from fun q => e ((nI_eq (by omega) (by omega)).mp q))]
        by_cases e2 : t = 0
        · rw [if_pos (show nI t = 0 by rw [e2]; rfl)]
          by_cases e3 : 0 < o
          · rw [if_pos ⟨e2, e3⟩] at hc
            rw [if_neg (nI_nle e3 (by omega))]
            rcases hy with ⟨rfl, rfl⟩ | ⟨rfl, rfl⟩
            · by_cases hle : σ 66 (ix t) ≤ b
              · rw [mx_le hle] at hc
                rw [if_pos hle, if_neg (by decide), hc]
              · rw [mx_nle hle] at hc
                rw [if_neg hle, if_pos rfl, hc]
            · by_cases hle : σ 66 (ix t) ≤ b
              · rw [mn_le hle] at hc
                rw [if_pos hle, if_pos rfl, hc]
              · rw [mn_nle hle] at hc
                rw [if_neg hle, if_neg (by decide), hc]
          · rw [if_neg (fun q => e3 q.2)] at hc
            rw [if_pos (show nI o ≤ 0 by rw [show o = 0 by omega]; decide), hc]
        · rw [if_neg (fun q => e2 q.1)] at hc
          rw [if_neg (nI_ne0 (by omega) (by omega)), hc]
    subst hy' hb
    exact ⟨(wb m o (fun t => σ 66 (ix t)) a (t + 1), nI t + 1), ⟨nI_1 t, rfl⟩, key _ rfl⟩) (by
    rintro f ⟨b, y⟩ ⟨hy', hb⟩
    dsimp only at hy' hb ⊢
    subst hy' hb
    refine ⟨_, ?_, rfl⟩
    rw [L_X4_weighs_28, if_pos (show (4 : Int32) ≤ nI 4 by decide)]) fs_fu 0 (a, 0) (Nat.zero_le _) (fs_fub _ (by omega)) ⟨rfl, rfl⟩
  dsimp only at h1
  rw [h1, h2]
theorem wb_e (m : Int32 → Int32 → Int32) (haa : ∀ a, m a a = a) (haba : ∀ a b, m (m a b) a = m a b) {o : Nat} (ho : o < 4) (x : Nat → Int32) : wb m o x (x o) 4 = m (m (x o) (x 0)) (x (min (o + 1) 3)) := by
  rcases (by omega : o = 0 ∨ o = 1 ∨ o = 2 ∨ o = 3) with rfl | rfl | rfl | rfl
  · simp [wb, haa]
  · simp [wb]
  · simp [wb]
  · simp [wb, haba]
theorem m_w1 {w : Nat} (hw : w < 16) (σ : fsS) : F_X4_weighs (nI w) 1 σ = some (b1 (σ 66) w) := by
  have c1 : fs_in (nI w) 16 := vp_in_nI hw (by omega)
  have h := m_wl 1 mx (Or.inl ⟨rfl, rfl⟩) (o := w / 4) (by omega) (nI w) 4 (fun t => 4 * t + w % 4) σ (fun t ht => ⟨by omega, (t4d w hw t ht).1⟩) (σ 66 w)
  unfold F_X4_weighs
  rw [if_neg (by decide), fs_gp c1, (t4c w hw).1, nI_clamp (by omega), h, Option.bind_some]
  have e := wb_e mx mx_aa mx_aba (o := w / 4) (by omega) (fun t => σ 66 (4 * t + w % 4))
  rw [show 4 * (w / 4) + w % 4 = w by omega] at e
  rw [e, show 4 * 0 + w % 4 = w % 4 by omega]
  rfl
theorem m_w2 {w : Nat} (hw : w < 16) (σ : fsS) : F_X4_weighs (nI w) 0 σ = some (b2 (σ 66) w) := by
  have c1 : fs_in (nI w) 16 := vp_in_nI hw (by omega)
  have h := m_wl 0 mn (Or.inr ⟨rfl, rfl⟩) (o := w % 4) (by omega) (nI w) 1 (fun t => 4 * (w / 4) + t) σ (fun t ht => ⟨by omega, (t4d w hw t ht).2⟩) (σ 66 w)
  unfold F_X4_weighs
  rw [if_pos rfl, fs_gp c1, (t4c w hw).2, nI_clamp (by omega), h, Option.bind_some]
  have e := wb_e mn mn_aa mn_aba (o := w % 4) (by omega) (fun t => σ 66 (4 * (w / 4) + t))
  rw [show 4 * (w / 4) + w % 4 = w by omega] at e
  rw [e]
  rfl
