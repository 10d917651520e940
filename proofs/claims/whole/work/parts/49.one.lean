/-- what one() tells of one of KIN -/
def ov (σ : fsS) (n i w : Nat) : Int32 :=
  if w = 0 then σ 21 i else if w = 1 then σ 22 i else if w = 2 then σ 23 i else if w = 3 then σ 24 i else if w = 4 then σ 25 i
  else if w = 5 then sR (σ 21) (σ 22) (σ 25) (σ 24) i else sR (σ 21) (σ 22) (σ 25) (σ 24) (fo (sR (σ 21) (σ 22) (σ 25) (σ 24)) n) - sR (σ 21) (σ 22) (σ 25) (σ 24) i
theorem ov0 (σ : fsS) (n i : Nat) : ov σ n i 0 = σ 21 i := rfl
theorem ov1 (σ : fsS) (n i : Nat) : ov σ n i 1 = σ 22 i := rfl
theorem ov2 (σ : fsS) (n i : Nat) : ov σ n i 2 = σ 23 i := rfl
theorem ov3 (σ : fsS) (n i : Nat) : ov σ n i 3 = σ 24 i := rfl
theorem ov4 (σ : fsS) (n i : Nat) : ov σ n i 4 = σ 25 i := rfl
theorem ov5 (σ : fsS) (n i : Nat) : ov σ n i 5 = sR (σ 21) (σ 22) (σ 25) (σ 24) i := by simp [ov]
theorem ov6 (σ : fsS) (n i : Nat) : ov σ n i 6 = sR (σ 21) (σ 22) (σ 25) (σ 24) (fo (sR (σ 21) (σ 22) (σ 25) (σ 24)) n) - sR (σ 21) (σ 22) (σ 25) (σ 24) i := by simp [ov]
theorem c_ofOne {n i w : Nat} {σ : fsS} (hn : n ≤ 6) (hi : i < n) (hw : w < 7) (hs : σ 5 0 = nI n) : ∃ σ1, F_X3_ofOne (nI i) (nI w) σ = some (ov σ n i w, σ1) ∧ ∀ k j, ¬ (k = 26 ∨ k = 27 ∨ (k = 5 ∧ (j = 8 ∨ j = 9))) → σ1 k j = σ k j := by
  obtain ⟨σ1, a1, a2, a3, a4, a5, a6⟩ := w_weigh5 hn hs
  refine ⟨σ1, ?_, a6⟩
  have c2 : fs_in (nI i) 6 := vp_in_nI (by omega) (by omega)
  have c3 : (nI i).toNatClampNeg = i := nI_clamp (by omega)
  unfold F_X3_ofOne
  rw [a1, Option.bind_some]
  rcases (show w = 0 ∨ w = 1 ∨ w = 2 ∨ w = 3 ∨ w = 4 ∨ w = 5 ∨ w = 6 by omega) with rfl | rfl | rfl | rfl | rfl | rfl | rfl
  · rw [if_pos (by decide), fs_gp c2, c3, a6 _ _ (by omega), ov0]
  · rw [if_neg (by decide), if_pos (by decide), fs_gp c2, c3, a6 _ _ (by omega), ov1]
  · rw [if_neg (by decide), if_neg (by decide), if_pos (by decide), fs_gp c2, c3, a6 _ _ (by omega), ov2]
  · rw [if_neg (by decide), if_neg (by decide), if_neg (by decide), if_pos (by decide), fs_gp c2, c3, a6 _ _ (by omega), ov3]
  · rw [if_neg (by decide), if_neg (by decide), if_neg (by decide), if_neg (by decide), if_pos (by decide), fs_gp c2, c3, a6 _ _ (by omega), ov4]
  · rw [if_neg (by decide), if_neg (by decide), if_neg (by decide), if_neg (by decide), if_neg (by decide), if_pos (by decide), fs_gp c2, c3, a4 i hi, ov5]
  · rw [if_neg (by decide), if_neg (by decide), if_neg (by decide), if_neg (by decide), if_neg (by decide), if_neg (by decide), fs_gp c2, c3, a5 i hi, ov6]
/-- the reference's words on one of KIN -/
theorem m_regardAs {n i : Nat} {kd lk wa s p : Nat → Int32} (hk : kb n kd lk wa s p) (hi : i < n) {σ : fsS} (hm : mv σ 60 n kd lk wa s p) {a : Nat} (ha : a < 6) {x : Int32} (hx : x = nI a) : F_X4_regardAs x (nI i) σ = some (F_X1_regardOf (nI a) (lk i) (s i) (p i)) := by
  subst hx
  have hn := hk.1
  have c2 : fs_in (nI i) 6 := vp_in_nI (by omega) (by omega)
  have c3 : (nI i).toNatClampNeg = i := nI_clamp (by omega)
  have c4 : (7 : Int32) + nI i = nI (7 + i) := nI_add 7 i
  have c5 : (1 : Int32) + nI i = nI (1 + i) := nI_add 1 i
  have c6 : fs_in (nI (7 + i)) 13 := vp_in_nI (by omega) (by omega)
  have c7 : fs_in (nI (1 + i)) 13 := vp_in_nI (by omega) (by omega)
  have c8 : (nI (7 + i)).toNatClampNeg = 7 + i := nI_clamp (by omega)
  have c9 : (nI (1 + i)).toNatClampNeg = 1 + i := nI_clamp (by omega)
  obtain ⟨m1, m2, m3, m4, m5⟩ := hm.2 i hi
  obtain ⟨-, ⟨b, hb, e2⟩, -, ⟨c, hc, e4⟩, ⟨d, hd, e5⟩⟩ := hk.2 i hi
  simp only [F_X4_regardAs, fs_gp c2, c4, c5, fs_gp c6, fs_gp c7, c3, c8, c9, m2, m4, m5, e2, e4, e5, (rg_eq ha hb hc hd).1]
theorem m_paid {n i : Nat} {kd lk wa s p : Nat → Int32} (hk : kb n kd lk wa s p) (hi : i < n) {σ : fsS} (hm : mv σ 60 n kd lk wa s p) : ∃ σ', F_X4_paid (nI i) σ = some (sR kd lk s p (fo (sR kd lk s p) n) - sR kd lk s p i, σ') ∧ ∀ k j, ¬ k = 62 → σ' k j = σ k j := by
  have hn := hk.1
  obtain ⟨σ', a1, a2, a3⟩ := w_lays (Or.inl rfl) hk hm
  refine ⟨σ', ?_, a3⟩
  have c2 : fs_in (nI i) 6 := vp_in_nI (by omega) (by omega)
  have c3 : (nI i).toNatClampNeg = i := nI_clamp (by omega)
  simp only [F_X4_paid, a1, Option.bind_some, fs_gp c2, c3, a2 i hi, mo_fo _ n (by omega) (fun j hj => (kb_R hk hj).2.1)]
theorem m_one {n i w : Nat} {σ τ : fsS} (hk : kb n (σ 21) (σ 22) (σ 23) (σ 25) (σ 24)) (hi : i < n) (hw : w < 7) (hm : mv τ 60 n (σ 21) (σ 22) (σ 23) (σ 25) (σ 24)) : ∃ τ', F_X4_one (nI i) (nI w) τ = some (1, fs_u τ' 51 4 (ov σ n i w)) ∧ ∀ k j, ¬ k = 62 → τ' k j = τ k j := by
  have hn := hk.1
  have y2 := iso_y hn hi hm.1
  have c2 : fs_in (nI i) 6 := vp_in_nI (by omega) (by omega)
  have c3 : (nI i).toNatClampNeg = i := nI_clamp (by omega)
  have c4 : (7 : Int32) + nI i = nI (7 + i) := nI_add 7 i
  have c5 : (1 : Int32) + nI i = nI (1 + i) := nI_add 1 i
  have c6 : fs_in (nI (7 + i)) 13 := vp_in_nI (by omega) (by omega)
  have c7 : fs_in (nI (1 + i)) 13 := vp_in_nI (by omega) (by omega)
  have c8 : (nI (7 + i)).toNatClampNeg = 7 + i := nI_clamp (by omega)
  have c9 : (nI (1 + i)).toNatClampNeg = 1 + i := nI_clamp (by omega)
  obtain ⟨m1, m2, m3, m4, m5⟩ := hm.2 i hi
  have ew : (nI w).toInt = w := nI_toInt (by omega)
  have hin : F_X4_in ((nI w).toInt64) 0 6 = 1 := in_y (by rw [ew, Z0, show (6 : Int64).toInt = 6 from rfl]; omega)
  rcases (show w = 0 ∨ w = 1 ∨ w = 2 ∨ w = 3 ∨ w = 4 ∨ w = 5 ∨ w = 6 by omega) with rfl | rfl | rfl | rfl | rfl | rfl | rfl
  · refine ⟨τ, ?_, fun _ _ _ => rfl⟩
    unfold F_X4_one
    rw [y2, if_neg i10, hin, if_neg i10, if_pos (by decide), fs_gp c2, c3, m1]
    simp only [F_X4_tell, ov0]
  · refine ⟨τ, ?_, fun _ _ _ => rfl⟩
    unfold F_X4_one
    rw [y2, if_neg i10, hin, if_neg i10, if_neg (by decide), if_pos (by decide), fs_gp c2, c3, m2]
    simp only [F_X4_tell, ov1]
  · refine ⟨τ, ?_, fun _ _ _ => rfl⟩
    unfold F_X4_one
    rw [y2, if_neg i10, hin, if_neg i10, if_neg (by decide), if_neg (by decide), if_pos (by decide), fs_gp c2, c3, m3]
    simp only [F_X4_tell, ov2]
  · refine ⟨τ, ?_, fun _ _ _ => rfl⟩
    unfold F_X4_one
    rw [y2, if_neg i10, hin, if_neg i10, if_neg (by decide), if_neg (by decide), if_neg (by decide), if_pos (by decide)]
    simp only [c5, fs_gp c7, c9, m5]
    simp only [F_X4_tell, ov3]
  · refine ⟨τ, ?_, fun _ _ _ => rfl⟩
    unfold F_X4_one
    rw [y2, if_neg i10, hin, if_neg i10, if_neg (by decide), if_neg (by decide), if_neg (by decide), if_neg (by decide), if_pos (by decide)]
    simp only [c4, fs_gp c6, c8, m4]
    simp only [F_X4_tell, ov4]
  · refine ⟨τ, ?_, fun _ _ _ => rfl⟩
    obtain ⟨⟨a, ha, e1⟩, -⟩ := hk.2 i hi
    have r5 : F_X4_regardAs (σ 21 i) (nI i) τ = some (sR (σ 21) (σ 22) (σ 25) (σ 24) i) := by
      rw [m_regardAs hk hi hm ha e1]
      unfold sR
      rw [e1]
    unfold F_X4_one
    rw [y2, if_neg i10, hin, if_neg i10, if_neg (by decide), if_neg (by decide), if_neg (by decide), if_neg (by decide), if_neg (by decide), if_pos (by decide), fs_gp c2, c3, m1, r5, Option.bind_some]
    simp only [F_X4_tell, ov5]
  · obtain ⟨τ', b1, b2⟩ := m_paid hk hi hm
    refine ⟨τ', ?_, b2⟩
    unfold F_X4_one
    rw [y2, if_neg i10, hin, if_neg i10, if_neg (by decide), if_neg (by decide), if_neg (by decide), if_neg (by decide), if_neg (by decide), if_neg (by decide), b1, Option.bind_some]
    simp only [F_X4_tell, ov6]
theorem e_one : ec_one Rel := by
  intro a1 a2 σ μ hr
  obtain ⟨n, hn0, hs, hk, hm⟩ := Rel_now hr
  have hn := hk.1
  by_cases hx1 : 0 ≤ a1.toInt ∧ a1.toInt < n
  · obtain ⟨i, hi, rfl⟩ := ix (n := n) (by omega) hx1.1 hx1.2
    have y1 := isk_y hn hi hs
    have y2 := iso_y hn hi hm.1
    by_cases h2 : 0 ≤ a2.toInt ∧ a2.toInt < 7
    · obtain ⟨w, hw, rfl⟩ := ix (n := 7) (by omega) h2.1 h2.2
      have ew : (nI w).toInt = w := nI_toInt (by omega)
      obtain ⟨σ1, b1, b2⟩ := c_ofOne hn hi hw hs
      have F1 : F_X3_one (nI i) (nI w) σ = some (1, fs_u σ1 0 8 (ov σ n i w)) := by
        unfold F_X3_one
        rw [y1, if_neg i10, if_neg (nI_pos (by omega)), if_pos (by rw [i_le, ew, z6]; omega), b1]
        rfl
      obtain ⟨τ', d1, d2⟩ := m_one (τ := fs_u σ1 0 8 (ov σ n i w)) hk hi hw (mv_fr hm (fun k j q => by rw [fs_ug, if_neg (by omega), b2 k j (by omega)]))
      refine ⟨1, _, μ, _, μ, m_X3_one _ _ σ μ _ F1, m_X4_one _ _ _ μ _ d1, ?_⟩
      exact Rel_qa hr (ov σ n i w) (fun k j q => b2 k j (by unfold sC at q; omega)) (fun k j q => d2 k j (by unfold sM at q; omega))
    · have F1 : F_X3_one (nI i) a2 σ = some (-1, σ) := by
        unfold F_X3_one
        rw [y1, if_neg i10]
        by_cases g : a2 < 0
        · rw [if_pos g]
        · rw [if_neg g, if_neg]
          rw [i_lt, z0] at g
          rw [i_le, z6]
          omega
      have F2 : F_X4_one (nI i) a2 σ = some (-1, σ) := by
        unfold F_X4_one
        rw [y2, if_neg i10, in_n (by rw [Z0, show (6 : Int64).toInt = 6 from rfl]; omega), if_pos rfl]
      exact ⟨-1, σ, μ, σ, μ, m_X3_one _ _ σ μ _ F1, m_X4_one _ _ σ μ _ F2, hr⟩
  · have F1 : F_X3_one a1 a2 σ = some (-1, σ) := by
      unfold F_X3_one
      rw [isk_n hn hx1 hs, if_pos rfl]
    have F2 : F_X4_one a1 a2 σ = some (-1, σ) := by
      unfold F_X4_one
      rw [iso_n hn hx1 hm.1, if_pos rfl]
    exact ⟨-1, σ, μ, σ, μ, m_X3_one _ _ σ μ _ F1, m_X4_one _ _ σ μ _ F2, hr⟩
