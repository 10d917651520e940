/-! mark -/
theorem isOf_all : ((List.range 6).all fun k => (List.range 5).all fun q => decide (F_X4_isOf (nI k) (nI (q + 1)) = F_X1_isOf (nI k) (nI (q + 1)))) = true := by decide +kernel
theorem isOf_eq {k q : Nat} (hk : k < 6) (hq : q < 6) (hq1 : 1 ≤ q) : F_X4_isOf (nI k) (nI q) = F_X1_isOf (nI k) (nI q) := by
  obtain ⟨q, rfl⟩ : ∃ q', q = q' + 1 := ⟨q - 1, by omega⟩
  have h1 := List.all_eq_true.mp isOf_all k (List.mem_range.mpr hk)
  have h2 := List.all_eq_true.mp h1 q (List.mem_range.mpr (by omega))
  exact of_decide_eq_true h2
/-- what a mark is: by the KIND q asked for, one who is of KIND k -/
def mkv (k q l s p : Int32) : Int32 := if 0 ≤ (F_X1_regardOf k l s p - F_X1_regardOf (F_X1_kindAbove q) l s p) then (F_X1_regardOf k l s p - F_X1_regardOf (F_X1_kindAbove q) l s p) else 0 - (F_X1_regardOf k l s p - F_X1_regardOf (F_X1_kindAbove q) l s p)
def mkm (k q l s p : Int32) : Int32 := if q = 3 ∨ q = 5 then F_X1_regardOf (F_X1_kindAbove q) l s p - F_X1_regardOf k l s p else F_X1_regardOf k l s p - F_X1_regardOf (F_X1_kindAbove q) l s p
set_option maxRecDepth 100000 in
theorem mk_all : ([(1, 1), (4, 1), (2, 2), (3, 3), (5, 3), (4, 4), (5, 5)].all fun (kq : Nat × Nat) => (List.range 10).all fun l => (List.range 4).all fun s => (List.range 100).all fun p => decide (mkm (nI kq.1) (nI kq.2) (nI l) (nI s) (nI p) = mkv (nI kq.1) (nI kq.2) (nI l) (nI s) (nI p))) = true := by decide +kernel
theorem mk_of0 : ((List.range 6).all fun k => (List.range 5).all fun q => decide (F_X1_isOf (nI k) (nI (q + 1)) = 0) || decide ((k, q + 1) ∈ [((1 : Nat), (1 : Nat)), (4, 1), (2, 2), (3, 3), (5, 3), (4, 4), (5, 5)])) = true := by decide +kernel
theorem mk_of {k q : Nat} (hk : k < 6) (hq : q < 6) (hq1 : 1 ≤ q) (ho : ¬ F_X1_isOf (nI k) (nI q) = 0) : (k, q) ∈ [((1 : Nat), (1 : Nat)), (4, 1), (2, 2), (3, 3), (5, 3), (4, 4), (5, 5)] := by
  obtain ⟨q, rfl⟩ : ∃ q', q = q' + 1 := ⟨q - 1, by omega⟩
  have h1 := List.all_eq_true.mp mk_of0 k (List.mem_range.mpr hk)
  have h2 := List.all_eq_true.mp h1 q (List.mem_range.mpr (by omega))
  rcases (Bool.or_eq_true _ _).mp h2 with h | h
  · exact absurd (of_decide_eq_true h) ho
  · exact of_decide_eq_true h
theorem mk_eq {k q l s p : Nat} (hk : k < 6) (hq : q < 6) (hq1 : 1 ≤ q) (hl : l < 10) (hs : s < 4) (hp : p < 100) (ho : ¬ F_X1_isOf (nI k) (nI q) = 0) : mkm (nI k) (nI q) (nI l) (nI s) (nI p) = mkv (nI k) (nI q) (nI l) (nI s) (nI p) := by
  have h1 := List.all_eq_true.mp mk_all (k, q) (mk_of hk hq hq1 ho)
  have h2 := List.all_eq_true.mp h1 l (List.mem_range.mpr hl)
  have h3 := List.all_eq_true.mp h2 s (List.mem_range.mpr hs)
  have h4 := List.all_eq_true.mp h3 p (List.mem_range.mpr hp)
  exact of_decide_eq_true h4
