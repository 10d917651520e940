theorem wh_e (c : Int32) : ((c >>> ((3 : Int32) &&& 31)) &&& (7 : Int32)) = nI (wh c) ∧ wh c < 8 := by
  obtain ⟨j, h1, h2⟩ := pk_andE (c >>> ((3 : Int32) &&& 31)) (m := 7) 3 (by decide)
  unfold wh
  rw [h2, nI_clamp (by omega)]
  exact ⟨rfl, h1⟩
theorem wm_e (c : Int32) : ((c >>> ((6 : Int32) &&& 31)) &&& (7 : Int32)) = nI (wm c) ∧ wm c < 8 := by
  obtain ⟨j, h1, h2⟩ := pk_andE (c >>> ((6 : Int32) &&& 31)) (m := 7) 3 (by decide)
  unfold wm
  rw [h2, nI_clamp (by omega)]
  exact ⟨rfl, h1⟩
theorem fs_uf (σ : fsS) (k j : Nat) (x : Int32) : fs_u σ k j x k = upd (σ k) j x := by
  unfold fs_u
  rw [fs_s_self]
set_option maxHeartbeats 4000000 in
/-- a DEED on the KIN as they are now -/
theorem c_perform {n : Nat} (hn : n ≤ 6) {σ : fsS} (hs : σ 5 0 = nI n) (c : Int32) (h1 : wh c < n) (h2 : wm c < n) : ∃ σ', F_X0_perform c σ = some σ' ∧ (∀ j, σ' 24 j = (ds n (σ 21) (σ 22) (σ 23) c (σ 24, σ 25, σ 3 2)).1 j) ∧ (∀ j, σ' 25 j = (ds n (σ 21) (σ 22) (σ 23) c (σ 24, σ 25, σ 3 2)).2.1 j) ∧ σ' 3 2 = (ds n (σ 21) (σ 22) (σ 23) c (σ 24, σ 25, σ 3 2)).2.2 ∧ (c &&& 7 = 0 → σ' 5 9 = gv n (σ 21) (σ 22) (σ 25) (σ 24)) ∧ ∀ k j, ¬ (k = 24 ∨ k = 25 ∨ k = 26 ∨ k = 27 ∨ (k = 5 ∧ (j = 8 ∨ j = 9)) ∨ (k = 3 ∧ j = 2)) → σ' k j = σ k j := by
  obtain ⟨e1, -⟩ := wh_e c
  obtain ⟨e2, -⟩ := wm_e c
  have c1 : ¬ σ 5 0 ≤ nI (wh c) := by rw [hs]; exact nI_ge h1 (by omega)
  have c2 : nI (wm c) < σ 5 0 := by rw [hs]; exact nI_lt h2 (by omega)
  have c3 : fs_in (nI (wh c)) 6 := vp_in_nI (by omega) (by omega)
  have c4 : (nI (wh c)).toNatClampNeg = wh c := nI_clamp (by omega)
  have c5 : fs_in (nI (wm c)) 6 := vp_in_nI (by omega) (by omega)
  have c6 : (nI (wm c)).toNatClampNeg = wm c := nI_clamp (by omega)
  unfold F_X0_perform
  simp only [e1, e2, if_neg c1, if_pos c2]
  by_cases k0 : c &&& 7 = 0
  · obtain ⟨σ1, a1, a2, a3, a4, a5, a6⟩ := w_pass 5 fs_K5 n hn σ hs
    refine ⟨fs_u σ1 3 2 (σ1 3 2 + 1), ?_, ?_, ?_, ?_, ?_, ?_⟩
    · rw [if_pos k0, a1]; rfl
    · intro j
      unfold ds
      rw [if_pos k0, fs_ug, if_neg (by omega)]
      exact a5 j
    · intro j
      unfold ds
      rw [if_pos k0, fs_ug, if_neg (by omega), a6 _ _ (by omega)]
    · unfold ds
      rw [if_pos k0, fs_ug, if_pos ⟨rfl, rfl⟩, a6 _ _ (by omega)]
    · intro _
      rw [fs_ug, if_neg (by omega)]
      exact a3
    · intro k j h
      rw [fs_ug, if_neg (by omega), a6 _ _ (by omega)]
  · by_cases k1 : c &&& 7 = 1
    · refine ⟨fs_u σ 25 (wh c) (σ 25 (wh c) + 1), ?_, ?_, ?_, ?_, fun q => absurd q k0, ?_⟩
      · rw [if_neg k0, if_pos k1, fs_gp c3, fs_gp c3, c4]
      · intro j
        unfold ds
        rw [if_neg k0, if_pos k1, fs_ug, if_neg (by omega)]
      · intro j
        unfold ds
        rw [if_neg k0, if_pos k1, fs_uf]
      · unfold ds
        rw [if_neg k0, if_pos k1, fs_ug, if_neg (by omega)]
      · intro k j h
        rw [fs_ug, if_neg (by omega)]
    · by_cases k2 : c &&& 7 = 2
      · refine ⟨fs_u σ 25 (wh c) 0, ?_, ?_, ?_, ?_, fun q => absurd q k0, ?_⟩
        · rw [if_neg k0, if_neg k1, if_pos k2, fs_gp c3, c4]
        · intro j
          unfold ds
          rw [if_neg k0, if_neg k1, if_pos k2, fs_ug, if_neg (by omega)]
        · intro j
          unfold ds
          rw [if_neg k0, if_neg k1, if_pos k2, fs_uf]
        · unfold ds
          rw [if_neg k0, if_neg k1, if_pos k2, fs_ug, if_neg (by omega)]
        · intro k j h
          rw [fs_ug, if_neg (by omega)]
      · by_cases k3 : c &&& 7 = 3
        · refine ⟨fs_u (fs_u σ 24 (wh c) (σ 24 (wh c) - mh c)) 24 (wm c) (if upd (σ 24) (wh c) (σ 24 (wh c) - mh c) (wm c) + mh c < 99 then upd (σ 24) (wh c) (σ 24 (wh c) - mh c) (wm c) + mh c else 99), ?_, ?_, ?_, ?_, fun q => absurd q k0, ?_⟩
          · rw [if_neg k0, if_neg k1, if_neg k2, if_pos k3, fs_gp c3, fs_gp c3, fs_gp c5, fs_gp c5, c4, c6]
            simp only [fs_uf]
            rfl
          · intro j
            unfold ds
            rw [if_neg k0, if_neg k1, if_neg k2, if_pos k3, fs_uf, fs_uf]
          · intro j
            unfold ds
            rw [if_neg k0, if_neg k1, if_neg k2, if_pos k3, fs_ug, if_neg (by omega), fs_ug, if_neg (by omega)]
          · unfold ds
            rw [if_neg k0, if_neg k1, if_neg k2, if_pos k3, fs_ug, if_neg (by omega), fs_ug, if_neg (by omega)]
          · intro k j h
            rw [fs_ug, if_neg (by omega), fs_ug, if_neg (by omega)]
        · refine ⟨σ, ?_, ?_, ?_, ?_, fun q => absurd q k0, fun _ _ _ => rfl⟩
          · rw [if_neg k0, if_neg k1, if_neg k2, if_neg k3]
          · intro j
            unfold ds
            rw [if_neg k0, if_neg k1, if_neg k2, if_neg k3]
          · intro j
            unfold ds
            rw [if_neg k0, if_neg k1, if_neg k2, if_neg k3]
          · unfold ds
            rw [if_neg k0, if_neg k1, if_neg k2, if_neg k3]
theorem ds_eqs {n : Nat} {kd lk wa kd' lk' wa' : Nat → Int32} (h1 : ∀ i, i < n → kd' i = kd i) (h2 : ∀ i, i < n → lk' i = lk i) (h3 : ∀ i, i < n → wa' i = wa i) {x : tr} {p s : Nat → Int32} {q : Int32} (h : eqs n x p s q) (c : Int32) (w1 : wh c < n) (w2 : wm c < n) : eqs n (ds n kd lk wa c x) (ds n kd' lk' wa' c (p, s, q)).1 (ds n kd' lk' wa' c (p, s, q)).2.1 (ds n kd' lk' wa' c (p, s, q)).2.2 := by
  obtain ⟨g1, g2, g3⟩ := h
  subst g3
  unfold ds
  by_cases k0 : c &&& 7 = 0
  · simp only [if_pos k0]
    exact ⟨sP_congr h1 h2 h3 g2 g1, g2, rfl⟩
  · by_cases k1 : c &&& 7 = 1
    · simp only [if_neg k0, if_pos k1]
      refine ⟨g1, fun i hi => ?_, rfl⟩
      dsimp only [upd]
      by_cases e : i = wh c
      · rw [if_pos e, if_pos e, g2 _ w1]
      · rw [if_neg e, if_neg e, g2 i hi]
    · by_cases k2 : c &&& 7 = 2
      · simp only [if_neg k0, if_neg k1, if_pos k2]
        refine ⟨g1, fun i hi => ?_, rfl⟩
        dsimp only [upd]
        by_cases e : i = wh c
        · rw [if_pos e, if_pos e]
        · rw [if_neg e, if_neg e, g2 i hi]
      · by_cases k3 : c &&& 7 = 3
        · simp only [if_neg k0, if_neg k1, if_neg k2, if_pos k3]
          have hu : ∀ i, i < n → upd p (wh c) (p (wh c) - mh c) i = upd x.1 (wh c) (x.1 (wh c) - mh c) i := by
            intro i hi
            dsimp only [upd]
            by_cases e : i = wh c
            · rw [if_pos e, if_pos e, g1 _ w1]
            · rw [if_neg e, if_neg e, g1 i hi]
          refine ⟨fun i hi => ?_, g2, rfl⟩
          show upd _ _ _ i = upd _ _ _ i
          rw [hu _ w2]
          by_cases e : i = wm c
          · rw [e]; simp [upd]
          · have := hu i hi
            simp only [upd, if_neg e] at this ⊢
            exact this
        · simp only [if_neg k0, if_neg k1, if_neg k2, if_neg k3]
          exact ⟨g1, g2, rfl⟩
theorem snap_pre {n : Nat} {kd lk wa p0 cs cs' : Nat → Int32} : ∀ {d : Nat}, (∀ j, j < d → cs j = cs' j) → snap n kd lk wa p0 cs d = snap n kd lk wa p0 cs' d
  | 0, _ => rfl
  | d + 1, h => by
    unfold snap
    rw [snap_pre (fun j hj => h j (by omega)), h d (by omega)]
theorem sn_pre {σ : fsS} {n : Nat} {cs cs' : Nat → Int32} {d : Nat} (h : ∀ j, j < d → cs j = cs' j) : sn σ n cs d = sn σ n cs' d := snap_pre h
/-- one DEED more: the relation goes on -/
theorem RD_push {n d : Nat} {σ σ' : fsS} (hr : RD n d σ) (hd : d < 40) (hn : 0 < n) (hN6 : n ≤ 6) {c : Int32} (w1 : wh c < n) (w2 : wm c < n) (hb : bd n (ds n (σ 14) (σ 15) (σ 16) c (sn σ n (σ 12) d)) (d + 1))
    (f : ∀ k j, 14 ≤ k ∧ k < 18 → σ' k j = σ k j) (f12 : ∀ j, σ' 12 j = if j = d then c else σ 12 j) (f33 : σ' 3 3 = nI (d + 1)) (f51 : σ' 51 17 = nI (d + 1))
    (g1 : eqs n (ds n (σ 14) (σ 15) (σ 16) c (sn σ n (σ 12) d)) (σ' 24) (σ' 25) (σ' 3 2)) (g2 : eqs n (ds n (σ 14) (σ 15) (σ 16) c (sn σ n (σ 12) d)) (fun i => σ' 60 (1 + i)) (fun i => σ' 60 (7 + i)) (σ' 60 0))
    (g3 : ∀ x, σ' 63 x = if 13 * d ≤ x ∧ x < 13 * d + 13 then σ 60 (x - 13 * d) else σ 63 x) : RD n (d + 1) σ' := by
  obtain ⟨h1, h2, h3, h4, h5, h6, h7, h8⟩ := hr
  have hsn : ∀ j, j ≤ d → sn σ' n (σ' 12) j = sn σ n (σ 12) j := fun j hj => by
    rw [sn_fr f]
    exact sn_pre (fun i hi => by rw [f12, if_neg (by omega)])
  have hsd : sn σ' n (σ' 12) (d + 1) = ds n (σ 14) (σ 15) (σ 16) c (sn σ n (σ 12) d) := by
    have e : sn σ' n (σ' 12) (d + 1) = ds n (σ' 14) (σ' 15) (σ' 16) (σ' 12 d) (sn σ' n (σ' 12) d) := rfl
    rw [e, hsn d (Nat.le_refl d), f12, if_pos rfl, show σ' 14 = σ 14 from funext fun j => f 14 j (by omega), show σ' 15 = σ 15 from funext fun j => f 15 j (by omega), show σ' 16 = σ 16 from funext fun j => f 16 j (by omega)]
  refine ⟨by omega, fun q => by omega, f33, f51, ⟨fun j hj => ?_, fun j hj => ?_⟩, ?_, ?_, fun j hj => ?_⟩
  · by_cases e : j = d + 1
    · rw [e, hsd]; exact hb
    · rw [hsn j (by omega)]; exact h5.1 j (by omega)
  · rw [f12]
    by_cases e : j = d
    · rw [if_pos e]; exact ⟨w1, w2⟩
    · rw [if_neg e]; exact h5.2 j (by omega)
  · rw [hsd]; exact g1
  · rw [hsd]; exact g2
  · rw [hsn j (by omega)]
    by_cases e : j = d
    · subst e
      refine ⟨fun i hi => ?_, fun i hi => ?_, ?_⟩
      · have hn6 : ∀ q : Nat, q < 6 → (if 13 * j ≤ 13 * j + 1 + q ∧ 13 * j + 1 + q < 13 * j + 13 then σ 60 (13 * j + 1 + q - 13 * j) else σ 63 (13 * j + 1 + q)) = σ 60 (1 + q) := fun q hq => by rw [if_pos (by omega)]; congr 1; omega
        by_cases hi6 : i < 6
        · dsimp only; rw [g3, hn6 i hi6]; exact h7.1 i hi
        · exact absurd hi (by have := h7; omega)
      · by_cases hi6 : i < 6
        · dsimp only
          rw [g3, if_pos (by omega), show 13 * j + 7 + i - 13 * j = 7 + i by omega]
          exact h7.2.1 i hi
        · exact absurd hi (by omega)
      · rw [g3, if_pos (by omega), Nat.sub_self]
        exact h7.2.2
    · have hx : ∀ x, ¬ (13 * d ≤ x ∧ x < 13 * d + 13) → σ' 63 x = σ 63 x := fun x hx => by rw [g3, if_neg hx]
      obtain ⟨q1, q2, q3⟩ := h8 j (by omega)
      refine ⟨fun i hi => ?_, fun i hi => ?_, ?_⟩
      · by_cases hi6 : i < 6
        · dsimp only; rw [hx _ (by omega)]; exact q1 i hi
        · exact absurd hi (by omega)
      · by_cases hi6 : i < 6
        · dsimp only; rw [hx _ (by omega)]; exact q2 i hi
        · exact absurd hi (by omega)
      · rw [hx _ (by omega)]; exact q3
