theorem m_high {n : Nat} {kd lk wa s p : Nat → Int32} (hk : kb n kd lk wa s p) {τ : fsS} (hm : mv τ 60 n kd lk wa s p) : ∃ τ', F_X4_laysRegards 60 τ = some (hRg n (sR kd lk s p), τ') ∧ ∀ k j, ¬ k = 62 → τ' k j = τ k j := by
  obtain ⟨τ', h1, h2, h3⟩ := w_lays (Or.inl rfl) hk hm
  refine ⟨τ', ?_, h3⟩
  rw [h1]
  unfold hRg
  by_cases h0 : n = 0
  · subst h0
    rw [if_pos rfl]
    rfl
  · rw [if_neg h0, mo_fo _ n (by omega) (fun i hi => (kb_R hk hi).2.1)]
theorem m_count {n w : Nat} (hw : w < 11) {σ τ : fsS} (hc : cm σ τ n) : ∃ τ', F_X4_count (nI w) τ = some (cv σ n w, τ') ∧ ∀ k j, ¬ k = 62 → τ' k j = τ k j := by
  obtain ⟨hk, hm, h3, h4, h5, h6, h7⟩ := hc
  have hn := hk.1
  rcases (by omega : w = 0 ∨ w = 1 ∨ w = 2 ∨ w = 3 ∨ w = 4 ∨ w = 5 ∨ w = 6 ∨ w = 7 ∨ w = 8 ∨ w = 9 ∨ w = 10) with rfl | rfl | rfl | rfl | rfl | rfl | rfl | rfl | rfl | rfl | rfl
  · exact ⟨τ, by rw [F_X4_count, if_pos (by decide), hm.1]; rfl, fun _ _ _ => rfl⟩
  · exact ⟨τ, by rw [F_X4_count, if_neg (by decide), if_pos (by decide), h3]; rfl, fun _ _ _ => rfl⟩
  · exact ⟨τ, by rw [F_X4_count, if_neg (by decide), if_neg (by decide), if_pos (by decide), h4]; rfl, fun _ _ _ => rfl⟩
  · refine ⟨τ, ?_, fun _ _ _ => rfl⟩
    rw [F_X4_count, if_neg (by decide), if_neg (by decide), if_neg (by decide), if_pos (by decide), m_purses hn hm.1 (fun i hi => (hm.2 i hi).2.2.2.2)]; rfl
  · refine ⟨τ, ?_, fun _ _ _ => rfl⟩
    rw [F_X4_count, if_neg (by decide), if_neg (by decide), if_neg (by decide), if_neg (by decide), if_pos (by decide), m_sooted hn hm.1 (fun i hi => (hm.2 i hi).2.2.2.1)]; rfl
  · obtain ⟨τ', h1, h2⟩ := m_high hk hm
    refine ⟨τ', ?_, h2⟩
    rw [F_X4_count, if_neg (by decide), if_neg (by decide), if_neg (by decide), if_neg (by decide), if_neg (by decide), if_pos (by decide), h1, Option.bind_some]
    simp [cv]
  · refine ⟨τ, ?_, fun _ _ _ => rfl⟩
    have e := m_there (a := 53) (N := 6) (st := 1) (by decide) (by decide) (by decide) (by decide) (τ := τ) (c := σ 10) (fun i hi => ⟨by rw [Nat.one_mul]; exact (h5 i hi).1, by
      rcases (h5 i hi).2 with q | ⟨z, z1, z2, _⟩
      · exact Or.inl q
      · exact Or.inr ⟨z, by omega, z2⟩⟩)
    rw [F_X4_count, if_neg (by decide), if_neg (by decide), if_neg (by decide), if_neg (by decide), if_neg (by decide), if_neg (by decide), if_pos (by decide), show (6 : Int32) = nI 6 from rfl, show (1 : Int32) = nI 1 from rfl, e]; rfl
  · refine ⟨τ, ?_, fun _ _ _ => rfl⟩
    have e := m_there (a := 55) (N := 4) (st := 1) (by decide) (by decide) (by decide) (by decide) (τ := τ) (c := σ 11) (fun i hi => ⟨by rw [Nat.one_mul]; exact (h6 i hi).1, by
      rcases (h6 i hi).2 with q | ⟨z, z1, z2, _⟩
      · exact Or.inl q
      · exact Or.inr ⟨z, by omega, z2⟩⟩)
    rw [F_X4_count, if_neg (by decide), if_neg (by decide), if_neg (by decide), if_neg (by decide), if_neg (by decide), if_neg (by decide), if_neg (by decide), if_pos (by decide), show (4 : Int32) = nI 4 from rfl, show (1 : Int32) = nI 1 from rfl, e]; rfl
  · refine ⟨τ, ?_, fun _ _ _ => rfl⟩
    have e := m_there (a := 64) (N := 3) (st := 534) (by decide) (by decide) (by decide) (by decide) (τ := τ) (c := σ 13) (fun i hi => ⟨(h7 i hi).1, by
      rcases (h7 i hi).2 with q | ⟨z, z1, z2⟩
      · exact Or.inl q
      · exact Or.inr ⟨z, by omega, z2⟩⟩)
    rw [F_X4_count, if_neg (by decide), if_neg (by decide), if_neg (by decide), if_neg (by decide), if_neg (by decide), if_neg (by decide), if_neg (by decide), if_neg (by decide), if_pos (by decide), show (3 : Int32) = nI 3 from rfl, show (534 : Int32) = nI 534 from rfl, e]; rfl
  · refine ⟨τ, ?_, fun _ _ _ => rfl⟩
    rw [F_X4_count, if_neg (by decide), if_neg (by decide), if_neg (by decide), if_neg (by decide), if_neg (by decide), if_neg (by decide), if_neg (by decide), if_neg (by decide), if_neg (by decide), if_pos (by decide), show (1 : Int32) = nI 1 from rfl, m_ofKind hn (by decide) (by decide) hm.1 (kd := σ 21) (fun i hi => (hk.2 i hi).1) (fun i hi => (hm.2 i hi).1), Option.bind_some]
    simp [cv]
    rfl
  · refine ⟨τ, ?_, fun _ _ _ => rfl⟩
    rw [F_X4_count, if_neg (by decide), if_neg (by decide), if_neg (by decide), if_neg (by decide), if_neg (by decide), if_neg (by decide), if_neg (by decide), if_neg (by decide), if_neg (by decide), if_neg (by decide), if_pos (by decide), show (3 : Int32) = nI 3 from rfl, m_ofKind hn (by decide) (by decide) hm.1 (kd := σ 21) (fun i hi => (hk.2 i hi).1) (fun i hi => (hm.2 i hi).1), Option.bind_some]
    simp [cv]
    rfl
theorem e_count : ec_count Rel := by
  intro x σ μ hr
  obtain ⟨n, d, q1, q2, q3, q4, q5, q6, hn0, hs, hk, hm⟩ := Rel_all hr
  have hn := hk.1
  by_cases hx : 0 ≤ x.toInt ∧ x.toInt ≤ 10
  · obtain ⟨w, hw, rfl⟩ : ∃ w, w < 11 ∧ x = nI w := ix (by decide) hx.1 (by omega)
    obtain ⟨σ1, f1, f2⟩ := c_counted hn hw hs
    obtain ⟨v, hv⟩ : ∃ v, v = cv σ n w := ⟨_, rfl⟩
    have F1 : F_X3_count (nI w) σ = some (v, σ1) := by
      unfold F_X3_count
      rw [if_neg (nI_pos (by omega)), if_pos (show nI w ≤ (10 : Int32) from nI_le (b := 10) (by omega) (by omega)), f1, Option.bind_some, hv]
    have hc : cm σ σ1 n := cm_of q2 q3 q5 q6 hk hm (fun k j q => f2 k j (by unfold c5; omega))
    obtain ⟨τ, g1, g2⟩ := m_count hw hc
    rw [← hv] at g1
    exact ⟨v, σ1, μ, τ, μ, m_X3_count _ σ μ _ F1, m_X4_count _ σ1 μ _ g1, Rel_q hr (fun k j q => f2 k j (by unfold sC at q; unfold c5; omega)) (fun k j q => g2 k j (by unfold sM at q; omega))⟩
  · have F1 : F_X3_count x σ = some (-1, σ) := by
      unfold F_X3_count
      by_cases h1 : x < 0
      · rw [if_pos h1]
      · rw [if_neg h1, if_neg]
        rw [i_lt, z0] at h1
        rw [i_le, show (10 : Int32).toInt = 10 from rfl]
        omega
    have ne : ∀ w : Nat, w < 11 → ¬ x = nI w := fun w hw e => hx (by rw [e, nI_toInt (by omega)]; omega)
    have F2 : F_X4_count x σ = some (-1, σ) := by
      unfold F_X4_count
      rw [if_neg (show ¬ x = (0 : Int32) from ne 0 (by omega)), if_neg (show ¬ x = (1 : Int32) from ne 1 (by omega)), if_neg (show ¬ x = (2 : Int32) from ne 2 (by omega)), if_neg (show ¬ x = (3 : Int32) from ne 3 (by omega)), if_neg (show ¬ x = (4 : Int32) from ne 4 (by omega)), if_neg (show ¬ x = (5 : Int32) from ne 5 (by omega)), if_neg (show ¬ x = (6 : Int32) from ne 6 (by omega)), if_neg (show ¬ x = (7 : Int32) from ne 7 (by omega)), if_neg (show ¬ x = (8 : Int32) from ne 8 (by omega)), if_neg (show ¬ x = (9 : Int32) from ne 9 (by omega)), if_neg (show ¬ x = (10 : Int32) from ne 10 (by omega))]
    exact ⟨-1, σ, μ, σ, μ, m_X3_count _ σ μ _ F1, m_X4_count _ σ μ _ F2, hr⟩
