/-! the class' and the reference's cells as one flat store: σ k j is the int at place j of cell k, μ k j the long there -/
abbrev fsS : Type := Nat → Nat → Int32
abbrev fsL : Type := Nat → Nat → Int64
/-- a cell's shape: an object (its class; its fields: a reference to a cell, an int, a long), an array of ints, an array of so many references to the cells from one on -/
abbrev fsT : Type := (Nat × List (Nat ⊕ Bool)) ⊕ (Nat ⊕ (Nat × Nat))
def fs_tp : List fsT := [
  .inl (3, [.inl 1, .inl 2, .inl 3, .inl 6, .inl 7, .inl 8, .inl 9, .inr false, .inr false, .inr true, .inr true]),
  .inl (2, [.inl 35, .inl 10, .inr false]),
  .inl (2, [.inl 36, .inl 11, .inr false]),
  .inl (0, [.inl 4, .inl 5, .inr false, .inr false, .inl 12, .inl 37, .inl 13]),
  .inl (1, [.inr false, .inl 14, .inl 15, .inl 16, .inl 17, .inl 18, .inl 19, .inl 20, .inr false, .inr false]),
  .inl (1, [.inr false, .inl 21, .inl 22, .inl 23, .inl 24, .inl 25, .inl 26, .inl 27, .inr false, .inr false]),
  .inl (1, [.inr false, .inl 28, .inl 29, .inl 30, .inl 31, .inl 32, .inl 33, .inl 34, .inr false, .inr false]),
  .inr (.inl 16),
  .inr (.inl 16),
  .inr (.inl 6),
  .inr (.inl 6),
  .inr (.inl 4),
  .inr (.inl 40),
  .inr (.inl 3),
  .inr (.inl 6),
  .inr (.inl 6),
  .inr (.inl 6),
  .inr (.inl 6),
  .inr (.inl 6),
  .inr (.inl 6),
  .inr (.inl 6),
  .inr (.inl 6),
  .inr (.inl 6),
  .inr (.inl 6),
  .inr (.inl 6),
  .inr (.inl 6),
  .inr (.inl 6),
  .inr (.inl 6),
  .inr (.inl 6),
  .inr (.inl 6),
  .inr (.inl 6),
  .inr (.inl 6),
  .inr (.inl 6),
  .inr (.inl 6),
  .inr (.inl 6),
  .inr (.inr (38, 6)),
  .inr (.inr (44, 4)),
  .inr (.inr (48, 3)),
  .inr (.inl 40),
  .inr (.inl 40),
  .inr (.inl 40),
  .inr (.inl 40),
  .inr (.inl 40),
  .inr (.inl 40),
  .inr (.inl 60),
  .inr (.inl 60),
  .inr (.inl 60),
  .inr (.inl 60),
  .inr (.inl 40),
  .inr (.inl 40),
  .inr (.inl 40),
  .inl (4, [.inl 52, .inl 53, .inl 54, .inl 55, .inr false, .inr true, .inr true, .inr false, .inl 56, .inr false, .inl 57, .inl 58, .inl 59, .inl 60, .inl 61, .inl 62, .inl 63, .inr false, .inl 64, .inr false, .inr false, .inr false, .inr false, .inr false, .inl 65, .inl 66, .inl 67]),
  .inr (.inl 240),
  .inr (.inl 6),
  .inr (.inl 240),
  .inr (.inl 4),
  .inr (.inl 6),
  .inr (.inl 6),
  .inr (.inl 6),
  .inr (.inl 6),
  .inr (.inl 13),
  .inr (.inl 13),
  .inr (.inl 6),
  .inr (.inl 520),
  .inr (.inl 1602),
  .inr (.inl 30),
  .inr (.inl 16),
  .inr (.inl 16)]
def fs_s {τ : Type} (σ : Nat → Nat → τ) (k : Nat) (f : Nat → τ) : Nat → Nat → τ := fun a => if a = k then f else σ a
def fs_u (σ : fsS) (k j : Nat) (x : Int32) : fsS := fs_s σ k (upd (σ k) j x)
def fs_ul (μ : fsL) (k j : Nat) (x : Int64) : fsL := fs_s μ k (vp_updL (μ k) j x)
def fs_v (α : Nat → Nat) (v : Value) : Value := match v with
  | .ref k => .ref (α k)
  | v => v
def fs_f (σ : fsS) (μ : fsL) (k j : Nat) (f : Nat ⊕ Bool) : Value := match f with
  | .inl r => .ref r
  | .inr false => .int (σ k j)
  | .inr true => .long (μ k j)
def fs_e (cI cII : ClassId) (α : Nat → Nat) (σ : fsS) (μ : fsL) (k : Nat) (t : fsT) : va_E := match t with
  | .inl o => .inr (o.1, o.2.mapIdx (fun j f => fs_v α (fs_f σ μ k j f)))
  | .inr (.inl n) => .inl (cI, n, .inl (σ k))
  | .inr (.inr q) => .inl (cII, q.2, .inr (.inr (.inr (.inr (fun i => if i < q.2 then some (α (q.1 + i)) else none)))))
def fs_w (cI cII : ClassId) (α : Nat → Nat) (σ : fsS) (μ : fsL) : va_W := fs_tp.mapIdx (fun k t => (α k, fs_e cI cII α σ μ k t))
theorem fs_w_get {cI cII : ClassId} {α : Nat → Nat} {σ : fsS} {μ : fsL} {k : Nat} {t : fsT} (h : fs_tp[k]? = some t) : (fs_w cI cII α σ μ)[k]? = some (α k, fs_e cI cII α σ μ k t) := by
  unfold fs_w
  rw [List.getElem?_mapIdx, h]
  rfl
theorem fs_w_key {cI cII : ClassId} {α : Nat → Nat} {σ : fsS} {μ : fsL} {k : Nat} {q : Nat × va_E} (h : (fs_w cI cII α σ μ)[k]? = some q) : k < 68 ∧ q.1 = α k := by
  unfold fs_w at h
  rw [List.getElem?_mapIdx] at h
  cases ht : fs_tp[k]? with
  | none => rw [ht] at h; cases h
  | some t =>
    rw [ht] at h
    cases h
    exact ⟨(List.getElem?_eq_some_iff.mp ht).1, rfl⟩
theorem fs_D {cI cII : ClassId} {α : Nat → Nat} {A : Nat → Prop} (inj : ∀ i j, i < 68 → j < 68 → α i = α j → i = j) (hA : ∀ i, i < 68 → A (α i)) (σ : fsS) (μ : fsL) : va_D A (fs_w cI cII α σ μ) := by
  refine ⟨fun i j p q hi hj h => ?_, fun k q hk => ?_⟩
  · obtain ⟨h1, h2⟩ := fs_w_key hi
    obtain ⟨h3, h4⟩ := fs_w_key hj
    exact inj i j h1 h3 (by rw [← h2, ← h4, h])
  · obtain ⟨h1, h2⟩ := fs_w_key hk
    rw [h2]
    exact hA k h1
theorem fs_e_s {cI cII : ClassId} {α : Nat → Nat} {σ : fsS} {μ : fsL} {k i : Nat} (h : ¬ i = k) (f : Nat → Int32) (t : fsT) : fs_e cI cII α (fs_s σ k f) μ i t = fs_e cI cII α σ μ i t := by
  have e : fs_s σ k f i = σ i := by simp [fs_s, h]
  rcases t with o | n | q
  · show (Sum.inr (o.1, _) : va_E) = Sum.inr (o.1, _)
    congr 2
    congr 1
    funext j g
    rcases g with r | b | b
    · rfl
    · show Value.int (fs_s σ k f i j) = Value.int (σ i j)
      rw [e]
    · rfl
  · show (Sum.inl (cI, n, .inl (fs_s σ k f i)) : va_E) = Sum.inl (cI, n, .inl (σ i))
    rw [e]
  · rfl
theorem fs_e_sl {cI cII : ClassId} {α : Nat → Nat} {σ : fsS} {μ : fsL} {k i : Nat} (h : ¬ i = k) (f : Nat → Int64) (t : fsT) : fs_e cI cII α σ (fs_s μ k f) i t = fs_e cI cII α σ μ i t := by
  have e : fs_s μ k f i = μ i := by simp [fs_s, h]
  rcases t with o | n | q
  · show (Sum.inr (o.1, _) : va_E) = Sum.inr (o.1, _)
    congr 2
    congr 1
    funext j g
    rcases g with r | b | b
    · rfl
    · rfl
    · show Value.long (fs_s μ k f i j) = Value.long (μ i j)
      rw [e]
  · rfl
  · rfl
theorem fs_s_self {τ : Type} (σ : Nat → Nat → τ) (k : Nat) (f : Nat → τ) : fs_s σ k f k = f := by simp [fs_s]
theorem fs_s_ne {τ : Type} (σ : Nat → Nat → τ) {k a : Nat} (h : ¬ a = k) (f : Nat → τ) : fs_s σ k f a = σ a := by simp [fs_s, h]
theorem fs_w_setA {cI cII : ClassId} {α : Nat → Nat} {σ : fsS} {μ : fsL} {k n : Nat} (h : fs_tp[k]? = some (.inr (.inl n))) (f : Nat → Int32) : (fs_w cI cII α σ μ).set k (α k, .inl (cI, n, .inl f)) = fs_w cI cII α (fs_s σ k f) μ := by
  have hg := fs_w_get (cI := cI) (cII := cII) (α := α) (σ := σ) (μ := μ) h
  have hlt := (List.getElem?_eq_some_iff.mp hg).1
  apply List.ext_getElem?
  intro i
  by_cases hi : i = k
  · subst hi
    rw [List.getElem?_set_self hlt, fs_w_get h]
    show _ = some (α i, (Sum.inl (cI, n, .inl (fs_s σ i f i)) : va_E))
    rw [fs_s_self]
  · rw [List.getElem?_set_ne (Ne.symm hi)]
    unfold fs_w
    rw [List.getElem?_mapIdx, List.getElem?_mapIdx]
    cases fs_tp[i]? with
    | none => rfl
    | some t => show some (α i, _) = some (α i, _); rw [fs_e_s hi]
theorem fs_w_setI {cI cII : ClassId} {α : Nat → Nat} {σ : fsS} {μ : fsL} {k ci j : Nat} {fs : List (Nat ⊕ Bool)} (h : fs_tp[k]? = some (.inl (ci, fs))) (hj : fs[j]? = some (.inr false)) (x : Int32) : (fs_w cI cII α σ μ).set k (α k, .inr (ci, (fs.mapIdx (fun j f => fs_v α (fs_f σ μ k j f))).set j (.int x))) = fs_w cI cII α (fs_u σ k j x) μ := by
  have hg := fs_w_get (cI := cI) (cII := cII) (α := α) (σ := σ) (μ := μ) h
  have hlt := (List.getElem?_eq_some_iff.mp hg).1
  apply List.ext_getElem?
  intro i
  by_cases hi : i = k
  · subst hi
    rw [List.getElem?_set_self hlt, fs_w_get h]
    show _ = some (α i, (Sum.inr (ci, fs.mapIdx (fun j' f => fs_v α (fs_f (fs_u σ i j x) μ i j' f))) : va_E))
    refine congrArg (fun l => some (α i, (Sum.inr (ci, l) : va_E))) ?_
    apply List.ext_getElem?
    intro a
    by_cases ha : a = j
    · subst ha
      have hl2 : a < (fs.mapIdx (fun j f => fs_v α (fs_f σ μ i j f))).length := by
        rw [List.length_mapIdx]
        exact (List.getElem?_eq_some_iff.mp hj).1
      rw [List.getElem?_set_self hl2, List.getElem?_mapIdx, hj]
      show some (Value.int x) = some (Value.int (fs_s σ i (upd (σ i) a x) i a))
      rw [fs_s_self]
      simp [upd]
    · rw [List.getElem?_set_ne (Ne.symm ha), List.getElem?_mapIdx, List.getElem?_mapIdx]
      cases fs[a]? with
      | none => rfl
      | some g =>
        rcases g with r | b | b
        · rfl
        · show some (Value.int (σ i a)) = some (Value.int (fs_s σ i (upd (σ i) j x) i a))
          rw [fs_s_self]
          simp [upd, ha]
        · rfl
  · rw [List.getElem?_set_ne (Ne.symm hi)]
    unfold fs_w
    rw [List.getElem?_mapIdx, List.getElem?_mapIdx]
    cases fs_tp[i]? with
    | none => rfl
    | some t => show some (α i, _) = some (α i, _); unfold fs_u; rw [fs_e_s hi]
theorem fs_w_setL {cI cII : ClassId} {α : Nat → Nat} {σ : fsS} {μ : fsL} {k ci j : Nat} {fs : List (Nat ⊕ Bool)} (h : fs_tp[k]? = some (.inl (ci, fs))) (hj : fs[j]? = some (.inr true)) (x : Int64) : (fs_w cI cII α σ μ).set k (α k, .inr (ci, (fs.mapIdx (fun j f => fs_v α (fs_f σ μ k j f))).set j (.long x))) = fs_w cI cII α σ (fs_ul μ k j x) := by
  have hg := fs_w_get (cI := cI) (cII := cII) (α := α) (σ := σ) (μ := μ) h
  have hlt := (List.getElem?_eq_some_iff.mp hg).1
  apply List.ext_getElem?
  intro i
  by_cases hi : i = k
  · subst hi
    rw [List.getElem?_set_self hlt, fs_w_get h]
    show _ = some (α i, (Sum.inr (ci, fs.mapIdx (fun j' f => fs_v α (fs_f σ (fs_ul μ i j x) i j' f))) : va_E))
    refine congrArg (fun l => some (α i, (Sum.inr (ci, l) : va_E))) ?_
    apply List.ext_getElem?
    intro a
    by_cases ha : a = j
    · subst ha
      have hl2 : a < (fs.mapIdx (fun j f => fs_v α (fs_f σ μ i j f))).length := by
        rw [List.length_mapIdx]
        exact (List.getElem?_eq_some_iff.mp hj).1
      rw [List.getElem?_set_self hl2, List.getElem?_mapIdx, hj]
      show some (Value.long x) = some (Value.long (fs_s μ i (vp_updL (μ i) a x) i a))
      rw [fs_s_self]
      simp [vp_updL]
    · rw [List.getElem?_set_ne (Ne.symm ha), List.getElem?_mapIdx, List.getElem?_mapIdx]
      cases fs[a]? with
      | none => rfl
      | some g =>
        rcases g with r | b | b
        · rfl
        · rfl
        · show some (Value.long (μ i a)) = some (Value.long (fs_s μ i (vp_updL (μ i) j x) i a))
          rw [fs_s_self]
          simp [vp_updL, ha]
  · rw [List.getElem?_set_ne (Ne.symm hi)]
    unfold fs_w
    rw [List.getElem?_mapIdx, List.getElem?_mapIdx]
    cases fs_tp[i]? with
    | none => rfl
    | some t => show some (α i, _) = some (α i, _); unfold fs_ul; rw [fs_e_sl hi]
/-! locals by their places -/
theorem fs_v_cat (α : Nat → Nat) (v : Value) : (fs_v α v).category = v.category := by cases v <;> rfl
def fs_lv (α : Nat → Nat) (L : List (Option Value)) : List (Nat × Value) := L.zipIdx.filterMap (fun q => q.1.map (fun v => (q.2, fs_v α v)))
theorem fs_lv_mem {α : Nat → Nat} {L : List (Option Value)} {i : Nat} {v : Value} (h : L[i]? = some (some v)) : (i, fs_v α v) ∈ fs_lv α L :=
  List.mem_filterMap.mpr ⟨(some v, i), List.mk_mem_zipIdx_iff_getElem?.mpr h, rfl⟩
theorem fs_lv_of {α : Nat → Nat} {L : List (Option Value)} {q : Nat × Value} (h : q ∈ fs_lv α L) : ∃ v, L[q.1]? = some (some v) ∧ q.2 = fs_v α v := by
  obtain ⟨⟨o, i⟩, h1, h2⟩ := List.mem_filterMap.mp h
  have h3 := List.mk_mem_zipIdx_iff_getElem?.mp h1
  cases o with
  | none => cases h2
  | some v =>
    cases h2
    exact ⟨v, h3, rfl⟩
theorem fs_at {α : Nat → Nat} {L : List (Option Value)} {ls : Array Slot} {n i : Nat} {v : Value} (h : lv_has ls n (fs_lv α L)) (hi : L[i]? = some (some v)) : ls[i]? = some (.val (fs_v α v)) := h.2.2 _ (fs_lv_mem hi)
def fs_cl (L : List (Option Value)) (i : Nat) : List (Option Value) := match L[i]? with
  | some (some (.long _)) => L.set i none
  | some (some (.double _)) => L.set i none
  | _ => L
def fs_st (L : List (Option Value)) (i : Nat) (v : Value) : List (Option Value) := match i with
  | 0 => L.set 0 (some v)
  | i + 1 => (fs_cl L i).set (i + 1) (some v)
def fs_st2 (L : List (Option Value)) (i : Nat) (v : Value) : List (Option Value) := (fs_st L i v).set (i + 1) none
theorem fs_cl_len (L : List (Option Value)) (i : Nat) : (fs_cl L i).length = L.length := by
  unfold fs_cl
  split <;> simp
theorem fs_st_len (L : List (Option Value)) (i : Nat) (v : Value) : (fs_st L i v).length = L.length := by
  unfold fs_st
  split <;> simp [fs_cl_len]
theorem fs_st2_len (L : List (Option Value)) (i : Nat) (v : Value) : (fs_st2 L i v).length = L.length := by
  unfold fs_st2
  simp [fs_st_len]
theorem fs_cl_get {L : List (Option Value)} {i j : Nat} {w : Value} (h : (fs_cl L i)[j]? = some (some w)) : L[j]? = some (some w) ∧ ¬ (j = i ∧ w.category = 2) := by
  unfold fs_cl at h
  have key : (L.set i none)[j]? = some (some w) → L[j]? = some (some w) ∧ ¬ (j = i ∧ w.category = 2) := by
    intro h
    by_cases hj : j = i
    · subst hj
      by_cases hl : j < L.length
      · rw [List.getElem?_set_self hl] at h; cases h
      · rw [List.getElem?_eq_none (by simp; omega)] at h; cases h
    · rw [List.getElem?_set_ne (Ne.symm hj)] at h
      exact ⟨h, fun q => hj q.1⟩
  split at h
  · exact key h
  · exact key h
  · rename_i h1 h2
    refine ⟨h, fun ⟨q1, q2⟩ => ?_⟩
    subst q1
    cases w with
    | long x => exact h1 x h
    | double x => exact h2 x h
    | _ => cases q2
theorem fs_st_get {L : List (Option Value)} {i j : Nat} {v w : Value} (hj : ¬ j = i) (h : (fs_st L i v)[j]? = some (some w)) : L[j]? = some (some w) ∧ ¬ (j + 1 = i ∧ w.category = 2) := by
  cases i with
  | zero =>
    have h : (L.set 0 (some v))[j]? = some (some w) := h
    rw [List.getElem?_set_ne (Ne.symm hj)] at h
    exact ⟨h, fun q => by omega⟩
  | succ i =>
    have h : ((fs_cl L i).set (i + 1) (some v))[j]? = some (some w) := h
    rw [List.getElem?_set_ne (Ne.symm hj)] at h
    obtain ⟨h1, h2⟩ := fs_cl_get h
    exact ⟨h1, fun q => h2 ⟨by omega, q.2⟩⟩
theorem fs_st_self {L : List (Option Value)} {i : Nat} {v w : Value} (h : (fs_st L i v)[i]? = some (some w)) : w = v := by
  have hl : i < (fs_st L i v).length := (List.getElem?_eq_some_iff.mp h).1
  cases i with
  | zero =>
    have h : (L.set 0 (some v))[0]? = some (some w) := h
    rw [List.getElem?_set_self (by rw [fs_st_len] at hl; exact hl)] at h
    cases h; rfl
  | succ i =>
    have h : ((fs_cl L i).set (i + 1) (some v))[i + 1]? = some (some w) := h
    rw [List.getElem?_set_self (by rw [fs_st_len] at hl; rw [fs_cl_len]; exact hl)] at h
    cases h; rfl
theorem fs_st_has {α : Nat → Nat} {ls : Array Slot} {n i : Nat} {L : List (Option Value)} {v : Value} (h : lv_has ls n ((i, fs_v α v) :: (fs_lv α L).filter (fun q => !(q.1 == i) && !(q.1 + 1 == i && q.2.category == 2)))) : lv_has ls n (fs_lv α (fs_st L i v)) := by
  refine ⟨h.1, h.2.1, fun q hq => h.2.2 q ?_⟩
  obtain ⟨w, hw, hq2⟩ := fs_lv_of hq
  by_cases hi : q.1 = i
  · rw [hi] at hw
    have e := fs_st_self hw
    have : q = (i, fs_v α v) := by rw [← hi, ← e, ← hq2]
    rw [this]
    exact List.mem_cons_self
  · obtain ⟨h1, h2⟩ := fs_st_get hi hw
    refine List.mem_cons_of_mem _ (List.mem_filter.mpr ⟨?_, ?_⟩)
    · have := fs_lv_mem (α := α) h1
      rw [← hq2] at this
      exact this
    · have h3 : ¬ (q.1 + 1 = i ∧ q.2.category = 2) := by rw [hq2, fs_v_cat]; exact h2
      simp [hi]
      by_cases h4 : q.1 + 1 = i
      · exact Or.inr (fun h5 => h3 ⟨h4, h5⟩)
      · exact Or.inl h4
theorem fs_st2_has {α : Nat → Nat} {ls : Array Slot} {n i : Nat} {L : List (Option Value)} {v : Value} (h : lv_has ls n ((i, fs_v α v) :: (fs_lv α L).filter (fun q => !(q.1 == i) && (!(q.1 == i + 1) && !(q.1 + 1 == i && q.2.category == 2))))) : lv_has ls n (fs_lv α (fs_st2 L i v)) := by
  refine ⟨h.1, h.2.1, fun q hq => h.2.2 q ?_⟩
  obtain ⟨w, hw0, hq2⟩ := fs_lv_of hq
  unfold fs_st2 at hw0
  have hne : ¬ q.1 = i + 1 := by
    intro hc
    rw [hc] at hw0
    by_cases hl : i + 1 < (fs_st L i v).length
    · rw [List.getElem?_set_self hl] at hw0; cases hw0
    · rw [List.getElem?_eq_none (by simp; omega)] at hw0; cases hw0
  rw [List.getElem?_set_ne (Ne.symm hne)] at hw0
  by_cases hi : q.1 = i
  · rw [hi] at hw0
    have e := fs_st_self hw0
    have : q = (i, fs_v α v) := by rw [← hi, ← e, ← hq2]
    rw [this]
    exact List.mem_cons_self
  · obtain ⟨h1, h2⟩ := fs_st_get hi hw0
    refine List.mem_cons_of_mem _ (List.mem_filter.mpr ⟨?_, ?_⟩)
    · have := fs_lv_mem (α := α) h1
      rw [← hq2] at this
      exact this
    · have h3 : ¬ (q.1 + 1 = i ∧ q.2.category = 2) := by rw [hq2, fs_v_cat]; exact h2
      simp [hi, hne]
      by_cases h4 : q.1 + 1 = i
      · exact Or.inr (fun h5 => h3 ⟨h4, h5⟩)
      · exact Or.inl h4
def fs_en : List Value → List (Option Value)
  | [] => []
  | v :: vs => if v.category = 2 then some v :: none :: fs_en vs else some v :: fs_en vs
def fs_ent (n : Nat) (as : List Value) : List (Option Value) := fs_en as ++ List.replicate (n - (fs_en as).length) none
theorem fs_en_args (α : Nat → Nat) : ∀ (as : List Value) (i j : Nat) (v : Value), (fs_en as)[j]? = some (some v) → (i + j, fs_v α v) ∈ lv_args i (as.map (fs_v α))
  | [], i, j, v, h => by simp [fs_en] at h
  | a :: as, i, j, v, h => by
    simp only [fs_en] at h
    show _ ∈ (i, fs_v α a) :: lv_args (if (fs_v α a).category = 2 then i + 2 else i + 1) (as.map (fs_v α))
    rw [fs_v_cat]
    by_cases hc : a.category = 2
    · rw [if_pos hc] at h ⊢
      match j, h with
      | 0, h => cases h; exact List.mem_cons_self
      | 1, h => cases h
      | j + 2, h =>
        have := fs_en_args α as (i + 2) j v h
        rw [show i + (j + 2) = i + 2 + j by omega]
        exact List.mem_cons_of_mem _ this
    · rw [if_neg hc] at h ⊢
      match j, h with
      | 0, h => cases h; exact List.mem_cons_self
      | j + 1, h =>
        have := fs_en_args α as (i + 1) j v h
        rw [show i + (j + 1) = i + 1 + j by omega]
        exact List.mem_cons_of_mem _ this
theorem fs_en_sl (α : Nat → Nat) : ∀ as : List Value, (lg_sl (as.map (fs_v α))).length = (fs_en as).length
  | [] => rfl
  | a :: as => by
    have ih := fs_en_sl α as
    unfold lg_sl at ih ⊢
    rw [List.map_cons, List.flatMap_cons, List.length_append, ih, fs_v_cat]
    simp only [fs_en]
    by_cases hc : a.category = 2
    · rw [if_pos hc, if_pos hc]; simp; omega
    · rw [if_neg hc, if_neg hc]; simp; omega
theorem fs_ent_has {α : Nat → Nat} {as : List Value} {n : Nat} {ls : Array Slot} (h : lv_has ls n (lv_args 0 (as.map (fs_v α)))) : lv_has ls n (fs_lv α (fs_ent n as)) := by
  refine ⟨h.1, h.2.1, fun q hq => h.2.2 q ?_⟩
  obtain ⟨w, hw, hq2⟩ := fs_lv_of hq
  unfold fs_ent at hw
  by_cases hl : q.1 < (fs_en as).length
  · rw [List.getElem?_append_left hl] at hw
    have := fs_en_args α as 0 q.1 w hw
    rw [Nat.zero_add, ← hq2] at this
    exact this
  · rw [List.getElem?_append_right (by omega)] at hw
    have := List.mem_of_getElem? hw
    rw [List.mem_replicate] at this
    cases this.2
/-! the judgement -/
/-- the words that hold at every call below the law -/
def fs_ws : List Cond := lw_tbl.filter goodWord
abbrev fsC : Type := Program × Launch × Env × Room × State × MethodId × Array Value × List Frame × Method × Code × Nat × Nat × (State → Prop) × (Nat → ClassId) × (Nat → Nat → Nat) × (Nat → Nat) × ClassId × ClassId × (Nat → Prop)
def fs_A (α : Nat → Nat) : Nat → Prop := fun q => ∃ k, k < 68 ∧ q = α k
abbrev fs_ty (cI cII : ClassId) : List (ClassId × FieldType) := [(cI, .int), (cII, .array .int)]
def fs_PW (X : fsC) (pc : Nat) (L : List (Option Value)) (st : List Value) (σ : fsS) (μ : fsL) : Prop := match X with
  | (p, l, e, R, s, m, args, below, meth, c, cells, slots, Q, dC, dI, α, cI, cII, A) => ∀ (H : Heap) (locs : List Loc) (ls : Array Slot), lv_has ls L.length (fs_lv α L) → va_P (dC, dI) vwCl (fs_w cI cII α σ μ) H → va_S A s.heap H locs → W p l e R s m args below meth c H locs cells slots Q (F0 m pc ls (st.map (fs_v α)))
def fs_ok (cc : ByteArray) (own : String) (nL : Nat) (rm : Room) (X : fsC) : Prop := match X with
  | (p, l, e, R, s, m, args, below, meth, c, cells, slots, Q, dC, dI, α, cI, cII, A) => p.tables.exec = Jvm.exec ∧ c.code = cc ∧ c.maxLocals = nL ∧ s.vm.findClass own = some m.cls ∧ (∀ w ∈ fs_ws, w.before args s = true) ∧ va_K (dC, dI) vwCl (fs_ty cI cII) s ∧ (∀ i j, i < 68 → j < 68 → α i = α j → i = j) ∧ (∀ i, i < 68 → A (α i)) ∧ R = rm ∧ cells ≤ rm.cells ∧ slots ≤ rm.slots
def fs_Q (dC : Nat → ClassId) (dI : Nat → Nat → Nat) (α : Nat → Nat) (cI cII : ClassId) (r : Option Value) (σ : fsS) (μ : fsL) : Array Value → State → Outcome → State → Prop := fun _ st oc t => (oc = .returned (r.map (fs_v α)) ∧ va_P (dC, dI) vwCl (fs_w cI cII α σ μ) t.heap) ∧ va_F (fs_A α) st t
def fs_ret (ret : Option FieldType) (r : Option Value) (σ : fsS) (μ : fsL) (X : fsC) : Prop := match X with
  | (p, l, e, R, s, m, args, below, meth, c, cells, slots, Q, dC, dI, α, cI, cII, A) => meth.sig.returnType = ret ∧ meth.locks = false ∧ cells = 0 ∧ slots = 0 ∧ A = fs_A α ∧ Q = MQ below (fs_Q dC dI α cI cII r σ μ) args s 0 0 (fs_A α)
/-- a method's contract: from these arguments and this store it comes back with this answer and that store -/
def fs_Met (y : MethodName) (code : ByteArray) (maxL : Nat) (ret : Option FieldType) (rm : Room) (as : List Value) (σ : fsS) (μ : fsL) (r : Option Value) (σ' : fsS) (μ' : fsL) : Prop :=
  ∀ (l : Launch) (dC : Nat → ClassId) (dI : Nat → Nat → Nat) (α : Nat → Nat) (cI cII : ClassId), (∀ i j, i < 68 → j < 68 → α i = α j → i = j) →
    Met l y (.code y code maxL ret :: fs_ws) rm (va_Pc (as.map (fs_v α)) (fun U => va_P (dC, dI) vwCl (fs_w cI cII α σ μ) U.heap ∧ va_K (dC, dI) vwCl (fs_ty cI cII) U)) (fs_Q dC dI α cI cII r σ' μ') 0 0 (fs_A α)
set_option maxHeartbeats 4000000 in
theorem fs_intro {y : MethodName} {code : ByteArray} {maxL : Nat} {ret : Option FieldType} {rm : Room} {as : List Value} {σ : fsS} {μ : fsL} {r : Option Value} {σ' : fsS} {μ' : fsL} (hy : plainName y.cls = true) (hlen : (fs_en as).length ≤ maxL)
    (body : ∀ X : fsC, fs_ok code y.cls maxL rm X → fs_ret ret r σ' μ' X → fs_PW X 0 (fs_ent maxL as) [] σ μ) : fs_Met y code maxL ret rm as σ μ r σ' μ' := by
  intro l dC dI α cI cII inj
  refine Met.ofW (cc := code) (maxL := maxL) (ret := ret) hy rfl ?_
  intro p e s m args below meth c s₁ B hml hv
  obtain ⟨rfl, hP, hK⟩ := hv
  have hx := B.exec
  have hb := B.bytes
  have hr := B.returns
  have hts := atoms_spec (ws := .code y code maxL ret :: fs_ws) B.pre
  have hown : s.vm.findClass y.cls = some m.cls := findClass_of_methodNamed B.named
  have hlocks := B.notSynchronized
  have key := body (p, l, e, rm, s, m, (as.map (fs_v α)).toArray, below, meth, c, 0, 0, MQ below (fs_Q dC dI α cI cII r σ' μ') (as.map (fs_v α)).toArray s 0 0 (fs_A α), dC, dI, α, cI, cII, fs_A α)
    ⟨hx, hb, hml, hown, fun w hw => hts w (List.mem_cons_of_mem _ hw), hK, inj, fun i hi => ⟨i, hi, rfl⟩, rfl, Nat.zero_le _, Nat.zero_le _⟩ ⟨hr, hlocks, rfl, rfl, rfl, rfl⟩
  have hl := lv_entry (as.map (fs_v α)) (n := maxL) (by rw [fs_en_sl]; exact hlen)
  rw [lg_entry_eq]
  have hn : (fs_ent maxL as).length = maxL := by unfold fs_ent; simp; omega
  refine key s.heap [] _ ?_ hP va_S.rf
  rw [hn]
  exact fs_ent_has hl

theorem s_iconst {cc : ByteArray} {own : String} {nL : Nat} {rm : Room} {X : fsC} (hX : fs_ok cc own nL rm X) {pc : Nat} {L : List (Option Value)} {st : List Value} {σ : fsS} {μ : fsL} {n : Int} (hd : decode cc pc = .ok (.iconst n, 1)) (k : fs_PW X (pc + 1) L (.int (Int32.ofInt n) :: st) σ μ) : fs_PW X pc L (st) σ μ := by
  obtain ⟨p, l, e, R, s, m, args, below, meth, c, cells, slots, Q, dC, dI, α, cI, cII, A⟩ := X
  intro H locs ls hl hP hS
  exact lv_iconst hX.1 hX.2.1 hd rfl (k H locs ls hl hP hS)
theorem s_bipush {cc : ByteArray} {own : String} {nL : Nat} {rm : Room} {X : fsC} (hX : fs_ok cc own nL rm X) {pc : Nat} {L : List (Option Value)} {st : List Value} {σ : fsS} {μ : fsL} {n : Int} (hd : decode cc pc = .ok (.bipush n, 2)) (k : fs_PW X (pc + 2) L (.int ((Int8.ofInt n).toInt32) :: st) σ μ) : fs_PW X pc L (st) σ μ := by
  obtain ⟨p, l, e, R, s, m, args, below, meth, c, cells, slots, Q, dC, dI, α, cI, cII, A⟩ := X
  intro H locs ls hl hP hS
  exact lv_bipush hX.1 hX.2.1 hd rfl (k H locs ls hl hP hS)
theorem s_sipush {cc : ByteArray} {own : String} {nL : Nat} {rm : Room} {X : fsC} (hX : fs_ok cc own nL rm X) {pc : Nat} {L : List (Option Value)} {st : List Value} {σ : fsS} {μ : fsL} {n : Int} (hd : decode cc pc = .ok (.sipush n, 3)) (k : fs_PW X (pc + 3) L (.int ((Int16.ofInt n).toInt32) :: st) σ μ) : fs_PW X pc L (st) σ μ := by
  obtain ⟨p, l, e, R, s, m, args, below, meth, c, cells, slots, Q, dC, dI, α, cI, cII, A⟩ := X
  intro H locs ls hl hP hS
  exact lv_sipush hX.1 hX.2.1 hd rfl (k H locs ls hl hP hS)
theorem s_lconst {cc : ByteArray} {own : String} {nL : Nat} {rm : Room} {X : fsC} (hX : fs_ok cc own nL rm X) {pc : Nat} {L : List (Option Value)} {st : List Value} {σ : fsS} {μ : fsL} {n : Fin 2} (hd : decode cc pc = .ok (.lconst n, 1)) (k : fs_PW X (pc + 1) L (.long (Int64.ofNat (n : Nat)) :: st) σ μ) : fs_PW X pc L (st) σ μ := by
  obtain ⟨p, l, e, R, s, m, args, below, meth, c, cells, slots, Q, dC, dI, α, cI, cII, A⟩ := X
  intro H locs ls hl hP hS
  exact lv_lconst hX.1 hX.2.1 hd rfl (k H locs ls hl hP hS)
theorem s_ic {cc : ByteArray} {own : String} {nL : Nat} {rm : Room} {X : fsC} (hX : fs_ok cc own nL rm X) {pc : Nat} {L : List (Option Value)} {st : List Value} {σ : fsS} {μ : fsL} {n : Int} (v : Int32) (hd : decode cc pc = .ok (.iconst n, 1)) (hv : Int32.ofInt n = v) (k : fs_PW X (pc + 1) L (.int v :: st) σ μ) : fs_PW X pc L (st) σ μ := by
  obtain ⟨p, l, e, R, s, m, args, below, meth, c, cells, slots, Q, dC, dI, α, cI, cII, A⟩ := X
  intro H locs ls hl hP hS
  exact lv_iconst hX.1 hX.2.1 hd hv (k H locs ls hl hP hS)
theorem s_bi {cc : ByteArray} {own : String} {nL : Nat} {rm : Room} {X : fsC} (hX : fs_ok cc own nL rm X) {pc : Nat} {L : List (Option Value)} {st : List Value} {σ : fsS} {μ : fsL} {n : Int} (v : Int32) (hd : decode cc pc = .ok (.bipush n, 2)) (hv : (Int8.ofInt n).toInt32 = v) (k : fs_PW X (pc + 2) L (.int v :: st) σ μ) : fs_PW X pc L (st) σ μ := by
  obtain ⟨p, l, e, R, s, m, args, below, meth, c, cells, slots, Q, dC, dI, α, cI, cII, A⟩ := X
  intro H locs ls hl hP hS
  exact lv_bipush hX.1 hX.2.1 hd hv (k H locs ls hl hP hS)
theorem s_si {cc : ByteArray} {own : String} {nL : Nat} {rm : Room} {X : fsC} (hX : fs_ok cc own nL rm X) {pc : Nat} {L : List (Option Value)} {st : List Value} {σ : fsS} {μ : fsL} {n : Int} (v : Int32) (hd : decode cc pc = .ok (.sipush n, 3)) (hv : (Int16.ofInt n).toInt32 = v) (k : fs_PW X (pc + 3) L (.int v :: st) σ μ) : fs_PW X pc L (st) σ μ := by
  obtain ⟨p, l, e, R, s, m, args, below, meth, c, cells, slots, Q, dC, dI, α, cI, cII, A⟩ := X
  intro H locs ls hl hP hS
  exact lv_sipush hX.1 hX.2.1 hd hv (k H locs ls hl hP hS)
theorem s_lc {cc : ByteArray} {own : String} {nL : Nat} {rm : Room} {X : fsC} (hX : fs_ok cc own nL rm X) {pc : Nat} {L : List (Option Value)} {st : List Value} {σ : fsS} {μ : fsL} {n : Fin 2} (v : Int64) (hd : decode cc pc = .ok (.lconst n, 1)) (hv : Int64.ofNat (n : Nat) = v) (k : fs_PW X (pc + 1) L (.long v :: st) σ μ) : fs_PW X pc L (st) σ μ := by
  obtain ⟨p, l, e, R, s, m, args, below, meth, c, cells, slots, Q, dC, dI, α, cI, cII, A⟩ := X
  intro H locs ls hl hP hS
  exact lv_lconst hX.1 hX.2.1 hd hv (k H locs ls hl hP hS)
theorem s_iload_n {cc : ByteArray} {own : String} {nL : Nat} {rm : Room} {X : fsC} (hX : fs_ok cc own nL rm X) {pc : Nat} {L : List (Option Value)} {st : List Value} {σ : fsS} {μ : fsL} {n : Fin 4} {x : Int32} (hd : decode cc pc = .ok (.iload_n n, 1)) (hi : L[(n : Nat)]? = some (some (.int x))) (k : fs_PW X (pc + 1) L (.int x :: st) σ μ) : fs_PW X pc L (st) σ μ := by
  obtain ⟨p, l, e, R, s, m, args, below, meth, c, cells, slots, Q, dC, dI, α, cI, cII, A⟩ := X
  intro H locs ls hl hP hS
  exact lv_iload_n hX.1 hX.2.1 hd rfl (fs_at hl hi) (k H locs ls hl hP hS)
theorem s_iload {cc : ByteArray} {own : String} {nL : Nat} {rm : Room} {X : fsC} (hX : fs_ok cc own nL rm X) {pc : Nat} {L : List (Option Value)} {st : List Value} {σ : fsS} {μ : fsL} {i : Nat} {x : Int32} (hd : decode cc pc = .ok (.iload i, 2)) (hi : L[i]? = some (some (.int x))) (k : fs_PW X (pc + 2) L (.int x :: st) σ μ) : fs_PW X pc L (st) σ μ := by
  obtain ⟨p, l, e, R, s, m, args, below, meth, c, cells, slots, Q, dC, dI, α, cI, cII, A⟩ := X
  intro H locs ls hl hP hS
  exact lv_iload hX.1 hX.2.1 hd (fs_at hl hi) (k H locs ls hl hP hS)
theorem s_istore_n {cc : ByteArray} {own : String} {nL : Nat} {rm : Room} {X : fsC} (hX : fs_ok cc own nL rm X) {pc : Nat} {L : List (Option Value)} {st : List Value} {σ : fsS} {μ : fsL} {n : Fin 4} {x : Int32} (hd : decode cc pc = .ok (.istore_n n, 1)) (hn : (n : Nat) < L.length) (k : fs_PW X (pc + 1) (fs_st L (n : Nat) (.int x)) st σ μ) : fs_PW X pc L (.int x :: st) σ μ := by
  obtain ⟨p, l, e, R, s, m, args, below, meth, c, cells, slots, Q, dC, dI, α, cI, cII, A⟩ := X
  intro H locs ls hl hP hS
  exact lv_istore_n hX.1 hX.2.1 hd rfl hl hn rfl (fun ls2 h2 => k H locs ls2 (by rw [fs_st_len]; exact fs_st_has (v := .int x) h2) hP hS)
theorem s_istore {cc : ByteArray} {own : String} {nL : Nat} {rm : Room} {X : fsC} (hX : fs_ok cc own nL rm X) {pc : Nat} {L : List (Option Value)} {st : List Value} {σ : fsS} {μ : fsL} {i : Nat} {x : Int32} (hd : decode cc pc = .ok (.istore i, 2)) (hn : i < L.length) (k : fs_PW X (pc + 2) (fs_st L i (.int x)) st σ μ) : fs_PW X pc L (.int x :: st) σ μ := by
  obtain ⟨p, l, e, R, s, m, args, below, meth, c, cells, slots, Q, dC, dI, α, cI, cII, A⟩ := X
  intro H locs ls hl hP hS
  exact lv_istore hX.1 hX.2.1 hd hl hn rfl (fun ls2 h2 => k H locs ls2 (by rw [fs_st_len]; exact fs_st_has (v := .int x) h2) hP hS)
theorem s_lload_n {cc : ByteArray} {own : String} {nL : Nat} {rm : Room} {X : fsC} (hX : fs_ok cc own nL rm X) {pc : Nat} {L : List (Option Value)} {st : List Value} {σ : fsS} {μ : fsL} {n : Fin 4} {x : Int64} (hd : decode cc pc = .ok (.lload_n n, 1)) (hi : L[(n : Nat)]? = some (some (.long x))) (k : fs_PW X (pc + 1) L (.long x :: st) σ μ) : fs_PW X pc L (st) σ μ := by
  obtain ⟨p, l, e, R, s, m, args, below, meth, c, cells, slots, Q, dC, dI, α, cI, cII, A⟩ := X
  intro H locs ls hl hP hS
  exact lv_lload_n hX.1 hX.2.1 hd rfl (fs_at hl hi) (k H locs ls hl hP hS)
theorem s_lload {cc : ByteArray} {own : String} {nL : Nat} {rm : Room} {X : fsC} (hX : fs_ok cc own nL rm X) {pc : Nat} {L : List (Option Value)} {st : List Value} {σ : fsS} {μ : fsL} {i : Nat} {x : Int64} (hd : decode cc pc = .ok (.lload i, 2)) (hi : L[i]? = some (some (.long x))) (k : fs_PW X (pc + 2) L (.long x :: st) σ μ) : fs_PW X pc L (st) σ μ := by
  obtain ⟨p, l, e, R, s, m, args, below, meth, c, cells, slots, Q, dC, dI, α, cI, cII, A⟩ := X
  intro H locs ls hl hP hS
  exact lv_lload hX.1 hX.2.1 hd (fs_at hl hi) (k H locs ls hl hP hS)
theorem s_lstore_n {cc : ByteArray} {own : String} {nL : Nat} {rm : Room} {X : fsC} (hX : fs_ok cc own nL rm X) {pc : Nat} {L : List (Option Value)} {st : List Value} {σ : fsS} {μ : fsL} {n : Fin 4} {x : Int64} (hd : decode cc pc = .ok (.lstore_n n, 1)) (hn : (n : Nat) + 1 < L.length) (k : fs_PW X (pc + 1) (fs_st2 L (n : Nat) (.long x)) st σ μ) : fs_PW X pc L (.long x :: st) σ μ := by
  obtain ⟨p, l, e, R, s, m, args, below, meth, c, cells, slots, Q, dC, dI, α, cI, cII, A⟩ := X
  intro H locs ls hl hP hS
  exact lv_lstore_n hX.1 hX.2.1 hd rfl hl hn rfl (fun ls2 h2 => k H locs ls2 (by rw [fs_st2_len]; exact fs_st2_has (v := .long x) h2) hP hS)
theorem s_lstore {cc : ByteArray} {own : String} {nL : Nat} {rm : Room} {X : fsC} (hX : fs_ok cc own nL rm X) {pc : Nat} {L : List (Option Value)} {st : List Value} {σ : fsS} {μ : fsL} {i : Nat} {x : Int64} (hd : decode cc pc = .ok (.lstore i, 2)) (hn : i + 1 < L.length) (k : fs_PW X (pc + 2) (fs_st2 L i (.long x)) st σ μ) : fs_PW X pc L (.long x :: st) σ μ := by
  obtain ⟨p, l, e, R, s, m, args, below, meth, c, cells, slots, Q, dC, dI, α, cI, cII, A⟩ := X
  intro H locs ls hl hP hS
  exact lv_lstore hX.1 hX.2.1 hd hl hn rfl (fun ls2 h2 => k H locs ls2 (by rw [fs_st2_len]; exact fs_st2_has (v := .long x) h2) hP hS)
theorem s_aload_n {cc : ByteArray} {own : String} {nL : Nat} {rm : Room} {X : fsC} (hX : fs_ok cc own nL rm X) {pc : Nat} {L : List (Option Value)} {st : List Value} {σ : fsS} {μ : fsL} {n : Fin 4} {x : Nat} (hd : decode cc pc = .ok (.aload_n n, 1)) (hi : L[(n : Nat)]? = some (some (.ref x))) (k : fs_PW X (pc + 1) L (.ref x :: st) σ μ) : fs_PW X pc L (st) σ μ := by
  obtain ⟨p, l, e, R, s, m, args, below, meth, c, cells, slots, Q, dC, dI, α, cI, cII, A⟩ := X
  intro H locs ls hl hP hS
  exact lv_aload_n hX.1 hX.2.1 hd rfl (fs_at hl hi) (k H locs ls hl hP hS)
theorem s_aload {cc : ByteArray} {own : String} {nL : Nat} {rm : Room} {X : fsC} (hX : fs_ok cc own nL rm X) {pc : Nat} {L : List (Option Value)} {st : List Value} {σ : fsS} {μ : fsL} {i : Nat} {x : Nat} (hd : decode cc pc = .ok (.aload i, 2)) (hi : L[i]? = some (some (.ref x))) (k : fs_PW X (pc + 2) L (.ref x :: st) σ μ) : fs_PW X pc L (st) σ μ := by
  obtain ⟨p, l, e, R, s, m, args, below, meth, c, cells, slots, Q, dC, dI, α, cI, cII, A⟩ := X
  intro H locs ls hl hP hS
  exact lv_aload hX.1 hX.2.1 hd (fs_at hl hi) (k H locs ls hl hP hS)
theorem s_astore_n {cc : ByteArray} {own : String} {nL : Nat} {rm : Room} {X : fsC} (hX : fs_ok cc own nL rm X) {pc : Nat} {L : List (Option Value)} {st : List Value} {σ : fsS} {μ : fsL} {n : Fin 4} {x : Nat} (hd : decode cc pc = .ok (.astore_n n, 1)) (hn : (n : Nat) < L.length) (k : fs_PW X (pc + 1) (fs_st L (n : Nat) (.ref x)) st σ μ) : fs_PW X pc L (.ref x :: st) σ μ := by
  obtain ⟨p, l, e, R, s, m, args, below, meth, c, cells, slots, Q, dC, dI, α, cI, cII, A⟩ := X
  intro H locs ls hl hP hS
  exact lv_astore_n hX.1 hX.2.1 hd rfl hl hn rfl (fun ls2 h2 => k H locs ls2 (by rw [fs_st_len]; exact fs_st_has (v := .ref x) h2) hP hS)
theorem s_astore {cc : ByteArray} {own : String} {nL : Nat} {rm : Room} {X : fsC} (hX : fs_ok cc own nL rm X) {pc : Nat} {L : List (Option Value)} {st : List Value} {σ : fsS} {μ : fsL} {i : Nat} {x : Nat} (hd : decode cc pc = .ok (.astore i, 2)) (hn : i < L.length) (k : fs_PW X (pc + 2) (fs_st L i (.ref x)) st σ μ) : fs_PW X pc L (.ref x :: st) σ μ := by
  obtain ⟨p, l, e, R, s, m, args, below, meth, c, cells, slots, Q, dC, dI, α, cI, cII, A⟩ := X
  intro H locs ls hl hP hS
  exact lv_astore hX.1 hX.2.1 hd hl hn rfl (fun ls2 h2 => k H locs ls2 (by rw [fs_st_len]; exact fs_st_has (v := .ref x) h2) hP hS)
theorem fs_iinc {l : List (Nat × Value)} {q : Nat × Value} (h : q ∈ l) : ∃ k : Nat, l[k]? = some q := by
  obtain ⟨k, hk⟩ := List.getElem?_of_mem h
  exact ⟨k, hk⟩
theorem s_iinc {cc : ByteArray} {own : String} {nL : Nat} {rm : Room} {X : fsC} (hX : fs_ok cc own nL rm X) {pc : Nat} {L : List (Option Value)} {st : List Value} {σ : fsS} {μ : fsL} {i : Nat} {n : Int} {x : Int32} (v : Int32) (hd : decode cc pc = .ok (.iinc i n, 3)) (hi : L[i]? = some (some (.int x))) (hv : x + Int32.ofInt n = v) (hn : i < L.length) (k : fs_PW X (pc + 3) (fs_st L i (.int v)) st σ μ) : fs_PW X pc L (st) σ μ := by
  obtain ⟨p, l, e, R, s, m, args, below, meth, c, cells, slots, Q, dC, dI, α, cI, cII, A⟩ := X
  intro H locs ls hl hP hS
  obtain ⟨k9, hk9⟩ := fs_iinc (fs_lv_mem (α := α) hi)
  exact lv_iinc hX.1 hX.2.1 hd hl hk9 hv hn rfl (fun ls2 h2 => k H locs ls2 (by rw [fs_st_len]; exact fs_st_has (v := .int v) h2) hP hS)
theorem s_iadd {cc : ByteArray} {own : String} {nL : Nat} {rm : Room} {X : fsC} (hX : fs_ok cc own nL rm X) {pc : Nat} {L : List (Option Value)} {st : List Value} {σ : fsS} {μ : fsL} {x y : Int32} (hd : decode cc pc = .ok (.iadd, 1)) (k : fs_PW X (pc + 1) L (.int (x + y) :: st) σ μ) : fs_PW X pc L (.int y :: .int x :: st) σ μ := by
  obtain ⟨p, l, e, R, s, m, args, below, meth, c, cells, slots, Q, dC, dI, α, cI, cII, A⟩ := X
  intro H locs ls hl hP hS
  exact lv_iadd hX.1 hX.2.1 hd (k H locs ls hl hP hS)
theorem s_isub {cc : ByteArray} {own : String} {nL : Nat} {rm : Room} {X : fsC} (hX : fs_ok cc own nL rm X) {pc : Nat} {L : List (Option Value)} {st : List Value} {σ : fsS} {μ : fsL} {x y : Int32} (hd : decode cc pc = .ok (.isub, 1)) (k : fs_PW X (pc + 1) L (.int (x - y) :: st) σ μ) : fs_PW X pc L (.int y :: .int x :: st) σ μ := by
  obtain ⟨p, l, e, R, s, m, args, below, meth, c, cells, slots, Q, dC, dI, α, cI, cII, A⟩ := X
  intro H locs ls hl hP hS
  exact lv_isub hX.1 hX.2.1 hd (k H locs ls hl hP hS)
theorem s_imul {cc : ByteArray} {own : String} {nL : Nat} {rm : Room} {X : fsC} (hX : fs_ok cc own nL rm X) {pc : Nat} {L : List (Option Value)} {st : List Value} {σ : fsS} {μ : fsL} {x y : Int32} (hd : decode cc pc = .ok (.imul, 1)) (k : fs_PW X (pc + 1) L (.int (x * y) :: st) σ μ) : fs_PW X pc L (.int y :: .int x :: st) σ μ := by
  obtain ⟨p, l, e, R, s, m, args, below, meth, c, cells, slots, Q, dC, dI, α, cI, cII, A⟩ := X
  intro H locs ls hl hP hS
  exact lv_imul hX.1 hX.2.1 hd (k H locs ls hl hP hS)
theorem s_iand {cc : ByteArray} {own : String} {nL : Nat} {rm : Room} {X : fsC} (hX : fs_ok cc own nL rm X) {pc : Nat} {L : List (Option Value)} {st : List Value} {σ : fsS} {μ : fsL} {x y : Int32} (hd : decode cc pc = .ok (.iand, 1)) (k : fs_PW X (pc + 1) L (.int (x &&& y) :: st) σ μ) : fs_PW X pc L (.int y :: .int x :: st) σ μ := by
  obtain ⟨p, l, e, R, s, m, args, below, meth, c, cells, slots, Q, dC, dI, α, cI, cII, A⟩ := X
  intro H locs ls hl hP hS
  exact lv_iand hX.1 hX.2.1 hd (k H locs ls hl hP hS)
theorem s_ior {cc : ByteArray} {own : String} {nL : Nat} {rm : Room} {X : fsC} (hX : fs_ok cc own nL rm X) {pc : Nat} {L : List (Option Value)} {st : List Value} {σ : fsS} {μ : fsL} {x y : Int32} (hd : decode cc pc = .ok (.ior, 1)) (k : fs_PW X (pc + 1) L (.int (x ||| y) :: st) σ μ) : fs_PW X pc L (.int y :: .int x :: st) σ μ := by
  obtain ⟨p, l, e, R, s, m, args, below, meth, c, cells, slots, Q, dC, dI, α, cI, cII, A⟩ := X
  intro H locs ls hl hP hS
  exact lv_ior hX.1 hX.2.1 hd (k H locs ls hl hP hS)
theorem s_ishl {cc : ByteArray} {own : String} {nL : Nat} {rm : Room} {X : fsC} (hX : fs_ok cc own nL rm X) {pc : Nat} {L : List (Option Value)} {st : List Value} {σ : fsS} {μ : fsL} {x y : Int32} (hd : decode cc pc = .ok (.ishl, 1)) (k : fs_PW X (pc + 1) L (.int (x <<< (y &&& 31)) :: st) σ μ) : fs_PW X pc L (.int y :: .int x :: st) σ μ := by
  obtain ⟨p, l, e, R, s, m, args, below, meth, c, cells, slots, Q, dC, dI, α, cI, cII, A⟩ := X
  intro H locs ls hl hP hS
  exact lv_ishl hX.1 hX.2.1 hd (k H locs ls hl hP hS)
theorem s_ishr {cc : ByteArray} {own : String} {nL : Nat} {rm : Room} {X : fsC} (hX : fs_ok cc own nL rm X) {pc : Nat} {L : List (Option Value)} {st : List Value} {σ : fsS} {μ : fsL} {x y : Int32} (hd : decode cc pc = .ok (.ishr, 1)) (k : fs_PW X (pc + 1) L (.int (x >>> (y &&& 31)) :: st) σ μ) : fs_PW X pc L (.int y :: .int x :: st) σ μ := by
  obtain ⟨p, l, e, R, s, m, args, below, meth, c, cells, slots, Q, dC, dI, α, cI, cII, A⟩ := X
  intro H locs ls hl hP hS
  exact lv_ishr hX.1 hX.2.1 hd (k H locs ls hl hP hS)
theorem s_idiv {cc : ByteArray} {own : String} {nL : Nat} {rm : Room} {X : fsC} (hX : fs_ok cc own nL rm X) {pc : Nat} {L : List (Option Value)} {st : List Value} {σ : fsS} {μ : fsL} {x y : Int32} (hd : decode cc pc = .ok (.idiv, 1)) (hne : ¬ y = 0) (k : fs_PW X (pc + 1) L (.int (x / y) :: st) σ μ) : fs_PW X pc L (.int y :: .int x :: st) σ μ := by
  obtain ⟨p, l, e, R, s, m, args, below, meth, c, cells, slots, Q, dC, dI, α, cI, cII, A⟩ := X
  intro H locs ls hl hP hS
  exact lv_idiv hX.1 hX.2.1 hd hne (k H locs ls hl hP hS)
theorem s_irem {cc : ByteArray} {own : String} {nL : Nat} {rm : Room} {X : fsC} (hX : fs_ok cc own nL rm X) {pc : Nat} {L : List (Option Value)} {st : List Value} {σ : fsS} {μ : fsL} {x y : Int32} (hd : decode cc pc = .ok (.irem, 1)) (hne : ¬ y = 0) (k : fs_PW X (pc + 1) L (.int (x - x / y * y) :: st) σ μ) : fs_PW X pc L (.int y :: .int x :: st) σ μ := by
  obtain ⟨p, l, e, R, s, m, args, below, meth, c, cells, slots, Q, dC, dI, α, cI, cII, A⟩ := X
  intro H locs ls hl hP hS
  exact lv_irem hX.1 hX.2.1 hd hne (k H locs ls hl hP hS)
theorem s_ladd {cc : ByteArray} {own : String} {nL : Nat} {rm : Room} {X : fsC} (hX : fs_ok cc own nL rm X) {pc : Nat} {L : List (Option Value)} {st : List Value} {σ : fsS} {μ : fsL} {x y : Int64} (hd : decode cc pc = .ok (.ladd, 1)) (k : fs_PW X (pc + 1) L (.long (x + y) :: st) σ μ) : fs_PW X pc L (.long y :: .long x :: st) σ μ := by
  obtain ⟨p, l, e, R, s, m, args, below, meth, c, cells, slots, Q, dC, dI, α, cI, cII, A⟩ := X
  intro H locs ls hl hP hS
  exact lv_ladd hX.1 hX.2.1 hd (k H locs ls hl hP hS)
theorem s_lsub {cc : ByteArray} {own : String} {nL : Nat} {rm : Room} {X : fsC} (hX : fs_ok cc own nL rm X) {pc : Nat} {L : List (Option Value)} {st : List Value} {σ : fsS} {μ : fsL} {x y : Int64} (hd : decode cc pc = .ok (.lsub, 1)) (k : fs_PW X (pc + 1) L (.long (x - y) :: st) σ μ) : fs_PW X pc L (.long y :: .long x :: st) σ μ := by
  obtain ⟨p, l, e, R, s, m, args, below, meth, c, cells, slots, Q, dC, dI, α, cI, cII, A⟩ := X
  intro H locs ls hl hP hS
  exact lv_lsub hX.1 hX.2.1 hd (k H locs ls hl hP hS)
theorem s_lmul {cc : ByteArray} {own : String} {nL : Nat} {rm : Room} {X : fsC} (hX : fs_ok cc own nL rm X) {pc : Nat} {L : List (Option Value)} {st : List Value} {σ : fsS} {μ : fsL} {x y : Int64} (hd : decode cc pc = .ok (.lmul, 1)) (k : fs_PW X (pc + 1) L (.long (x * y) :: st) σ μ) : fs_PW X pc L (.long y :: .long x :: st) σ μ := by
  obtain ⟨p, l, e, R, s, m, args, below, meth, c, cells, slots, Q, dC, dI, α, cI, cII, A⟩ := X
  intro H locs ls hl hP hS
  exact lv_lmul hX.1 hX.2.1 hd (k H locs ls hl hP hS)
theorem s_ldiv {cc : ByteArray} {own : String} {nL : Nat} {rm : Room} {X : fsC} (hX : fs_ok cc own nL rm X) {pc : Nat} {L : List (Option Value)} {st : List Value} {σ : fsS} {μ : fsL} {x y : Int64} (hd : decode cc pc = .ok (.ldiv, 1)) (hne : ¬ y = 0) (k : fs_PW X (pc + 1) L (.long (x / y) :: st) σ μ) : fs_PW X pc L (.long y :: .long x :: st) σ μ := by
  obtain ⟨p, l, e, R, s, m, args, below, meth, c, cells, slots, Q, dC, dI, α, cI, cII, A⟩ := X
  intro H locs ls hl hP hS
  exact lv_ldiv hX.1 hX.2.1 hd hne (k H locs ls hl hP hS)
theorem s_lrem {cc : ByteArray} {own : String} {nL : Nat} {rm : Room} {X : fsC} (hX : fs_ok cc own nL rm X) {pc : Nat} {L : List (Option Value)} {st : List Value} {σ : fsS} {μ : fsL} {x y : Int64} (hd : decode cc pc = .ok (.lrem, 1)) (hne : ¬ y = 0) (k : fs_PW X (pc + 1) L (.long (x - x / y * y) :: st) σ μ) : fs_PW X pc L (.long y :: .long x :: st) σ μ := by
  obtain ⟨p, l, e, R, s, m, args, below, meth, c, cells, slots, Q, dC, dI, α, cI, cII, A⟩ := X
  intro H locs ls hl hP hS
  exact lv_lrem hX.1 hX.2.1 hd hne (k H locs ls hl hP hS)
theorem s_lcmp {cc : ByteArray} {own : String} {nL : Nat} {rm : Room} {X : fsC} (hX : fs_ok cc own nL rm X) {pc : Nat} {L : List (Option Value)} {st : List Value} {σ : fsS} {μ : fsL} {x y : Int64} (hd : decode cc pc = .ok (.lcmp, 1)) (k : fs_PW X (pc + 1) L (.int (lg_cmp x y) :: st) σ μ) : fs_PW X pc L (.long y :: .long x :: st) σ μ := by
  obtain ⟨p, l, e, R, s, m, args, below, meth, c, cells, slots, Q, dC, dI, α, cI, cII, A⟩ := X
  intro H locs ls hl hP hS
  exact W.lcmp hX.1 hX.2.1 hd (k H locs ls hl hP hS)
theorem s_i2l {cc : ByteArray} {own : String} {nL : Nat} {rm : Room} {X : fsC} (hX : fs_ok cc own nL rm X) {pc : Nat} {L : List (Option Value)} {st : List Value} {σ : fsS} {μ : fsL} {x : Int32} (hd : decode cc pc = .ok (.i2l, 1)) (k : fs_PW X (pc + 1) L (.long x.toInt64 :: st) σ μ) : fs_PW X pc L (.int x :: st) σ μ := by
  obtain ⟨p, l, e, R, s, m, args, below, meth, c, cells, slots, Q, dC, dI, α, cI, cII, A⟩ := X
  intro H locs ls hl hP hS
  exact lv_i2l hX.1 hX.2.1 hd rfl (k H locs ls hl hP hS)
theorem s_l2i {cc : ByteArray} {own : String} {nL : Nat} {rm : Room} {X : fsC} (hX : fs_ok cc own nL rm X) {pc : Nat} {L : List (Option Value)} {st : List Value} {σ : fsS} {μ : fsL} {x : Int64} (hd : decode cc pc = .ok (.l2i, 1)) (k : fs_PW X (pc + 1) L (.int x.toInt32 :: st) σ μ) : fs_PW X pc L (.long x :: st) σ μ := by
  obtain ⟨p, l, e, R, s, m, args, below, meth, c, cells, slots, Q, dC, dI, α, cI, cII, A⟩ := X
  intro H locs ls hl hP hS
  exact lv_l2i hX.1 hX.2.1 hd rfl (k H locs ls hl hP hS)
theorem s_i2b {cc : ByteArray} {own : String} {nL : Nat} {rm : Room} {X : fsC} (hX : fs_ok cc own nL rm X) {pc : Nat} {L : List (Option Value)} {st : List Value} {σ : fsS} {μ : fsL} {x : Int32} (hd : decode cc pc = .ok (.i2b, 1)) (k : fs_PW X (pc + 1) L (.int x.toInt8.toInt32 :: st) σ μ) : fs_PW X pc L (.int x :: st) σ μ := by
  obtain ⟨p, l, e, R, s, m, args, below, meth, c, cells, slots, Q, dC, dI, α, cI, cII, A⟩ := X
  intro H locs ls hl hP hS
  exact lv_i2b hX.1 hX.2.1 hd rfl (k H locs ls hl hP hS)
theorem s_dup {cc : ByteArray} {own : String} {nL : Nat} {rm : Room} {X : fsC} (hX : fs_ok cc own nL rm X) {pc : Nat} {L : List (Option Value)} {st : List Value} {σ : fsS} {μ : fsL} {v : Value} (hd : decode cc pc = .ok (.dup, 1)) (hc : v.category = 1) (k : fs_PW X (pc + 1) L (v :: v :: st) σ μ) : fs_PW X pc L (v :: st) σ μ := by
  obtain ⟨p, l, e, R, s, m, args, below, meth, c, cells, slots, Q, dC, dI, α, cI, cII, A⟩ := X
  intro H locs ls hl hP hS
  exact lv_dup hX.1 hX.2.1 hd (by rw [fs_v_cat]; exact hc) (k H locs ls hl hP hS)
theorem s_pop {cc : ByteArray} {own : String} {nL : Nat} {rm : Room} {X : fsC} (hX : fs_ok cc own nL rm X) {pc : Nat} {L : List (Option Value)} {st : List Value} {σ : fsS} {μ : fsL} {v : Value} (hd : decode cc pc = .ok (.pop, 1)) (hc : v.category = 1) (k : fs_PW X (pc + 1) L (st) σ μ) : fs_PW X pc L (v :: st) σ μ := by
  obtain ⟨p, l, e, R, s, m, args, below, meth, c, cells, slots, Q, dC, dI, α, cI, cII, A⟩ := X
  intro H locs ls hl hP hS
  exact lv_pop hX.1 hX.2.1 hd (by rw [fs_v_cat]; exact hc) (k H locs ls hl hP hS)
theorem s_dup2 {cc : ByteArray} {own : String} {nL : Nat} {rm : Room} {X : fsC} (hX : fs_ok cc own nL rm X) {pc : Nat} {L : List (Option Value)} {st : List Value} {σ : fsS} {μ : fsL} {v v2 : Value} (hd : decode cc pc = .ok (.dup2, 1)) (hc : v.category = 1) (hc2 : v2.category = 1) (k : fs_PW X (pc + 1) L (v :: v2 :: v :: v2 :: st) σ μ) : fs_PW X pc L (v :: v2 :: st) σ μ := by
  obtain ⟨p, l, e, R, s, m, args, below, meth, c, cells, slots, Q, dC, dI, α, cI, cII, A⟩ := X
  intro H locs ls hl hP hS
  exact lv_dup2_11 hX.1 hX.2.1 hd (by rw [fs_v_cat]; exact hc) (by rw [fs_v_cat]; exact hc2) (k H locs ls hl hP hS)
theorem s_goto {cc : ByteArray} {own : String} {nL : Nat} {rm : Room} {X : fsC} (hX : fs_ok cc own nL rm X) {pc : Nat} {L : List (Option Value)} {st : List Value} {σ : fsS} {μ : fsL} {off : Int} (tgt : Nat) (hd : decode cc pc = .ok (.goto off, 3)) (ht : (pc : Int) + off = (tgt : Int)) (k : fs_PW X tgt L st σ μ) : fs_PW X pc L (st) σ μ := by
  obtain ⟨p, l, e, R, s, m, args, below, meth, c, cells, slots, Q, dC, dI, α, cI, cII, A⟩ := X
  intro H locs ls hl hP hS
  exact lv_goto hX.1 hX.2.1 hd ht (k H locs ls hl hP hS)
theorem s_if_eq {cc : ByteArray} {own : String} {nL : Nat} {rm : Room} {X : fsC} (hX : fs_ok cc own nL rm X) {pc : Nat} {L : List (Option Value)} {st : List Value} {σ : fsS} {μ : fsL} {x : Int32} {off : Int} (tgt : Nat) (hd : decode cc pc = .ok (.ifCond .eq off, 3)) (ht : (pc : Int) + off = (tgt : Int)) (kt : x = 0 → fs_PW X tgt L st σ μ) (kf : ¬ x = 0 → fs_PW X (pc + 3) L st σ μ) : fs_PW X pc L (.int x :: st) σ μ := by
  obtain ⟨p, l, e, R, s, m, args, below, meth, c, cells, slots, Q, dC, dI, α, cI, cII, A⟩ := X
  intro H locs ls hl hP hS
  exact lv_if_eq hX.1 hX.2.1 hd ht (fun h => kt h H locs ls hl hP hS) (fun h => kf h H locs ls hl hP hS)
theorem s_ic_eq {cc : ByteArray} {own : String} {nL : Nat} {rm : Room} {X : fsC} (hX : fs_ok cc own nL rm X) {pc : Nat} {L : List (Option Value)} {st : List Value} {σ : fsS} {μ : fsL} {x y : Int32} {off : Int} (tgt : Nat) (hd : decode cc pc = .ok (.if_icmp .eq off, 3)) (ht : (pc : Int) + off = (tgt : Int)) (kt : x = y → fs_PW X tgt L st σ μ) (kf : ¬ x = y → fs_PW X (pc + 3) L st σ μ) : fs_PW X pc L (.int y :: .int x :: st) σ μ := by
  obtain ⟨p, l, e, R, s, m, args, below, meth, c, cells, slots, Q, dC, dI, α, cI, cII, A⟩ := X
  intro H locs ls hl hP hS
  exact lv_icmp_eq hX.1 hX.2.1 hd ht (fun h => kt h H locs ls hl hP hS) (fun h => kf h H locs ls hl hP hS)
theorem s_if_ne {cc : ByteArray} {own : String} {nL : Nat} {rm : Room} {X : fsC} (hX : fs_ok cc own nL rm X) {pc : Nat} {L : List (Option Value)} {st : List Value} {σ : fsS} {μ : fsL} {x : Int32} {off : Int} (tgt : Nat) (hd : decode cc pc = .ok (.ifCond .ne off, 3)) (ht : (pc : Int) + off = (tgt : Int)) (kt : ¬ x = 0 → fs_PW X tgt L st σ μ) (kf : x = 0 → fs_PW X (pc + 3) L st σ μ) : fs_PW X pc L (.int x :: st) σ μ := by
  obtain ⟨p, l, e, R, s, m, args, below, meth, c, cells, slots, Q, dC, dI, α, cI, cII, A⟩ := X
  intro H locs ls hl hP hS
  exact lv_if_ne hX.1 hX.2.1 hd ht (fun h => kt h H locs ls hl hP hS) (fun h => kf h H locs ls hl hP hS)
theorem s_ic_ne {cc : ByteArray} {own : String} {nL : Nat} {rm : Room} {X : fsC} (hX : fs_ok cc own nL rm X) {pc : Nat} {L : List (Option Value)} {st : List Value} {σ : fsS} {μ : fsL} {x y : Int32} {off : Int} (tgt : Nat) (hd : decode cc pc = .ok (.if_icmp .ne off, 3)) (ht : (pc : Int) + off = (tgt : Int)) (kt : ¬ x = y → fs_PW X tgt L st σ μ) (kf : x = y → fs_PW X (pc + 3) L st σ μ) : fs_PW X pc L (.int y :: .int x :: st) σ μ := by
  obtain ⟨p, l, e, R, s, m, args, below, meth, c, cells, slots, Q, dC, dI, α, cI, cII, A⟩ := X
  intro H locs ls hl hP hS
  exact lv_icmp_ne hX.1 hX.2.1 hd ht (fun h => kt h H locs ls hl hP hS) (fun h => kf h H locs ls hl hP hS)
theorem s_if_lt {cc : ByteArray} {own : String} {nL : Nat} {rm : Room} {X : fsC} (hX : fs_ok cc own nL rm X) {pc : Nat} {L : List (Option Value)} {st : List Value} {σ : fsS} {μ : fsL} {x : Int32} {off : Int} (tgt : Nat) (hd : decode cc pc = .ok (.ifCond .lt off, 3)) (ht : (pc : Int) + off = (tgt : Int)) (kt : x < 0 → fs_PW X tgt L st σ μ) (kf : ¬ x < 0 → fs_PW X (pc + 3) L st σ μ) : fs_PW X pc L (.int x :: st) σ μ := by
  obtain ⟨p, l, e, R, s, m, args, below, meth, c, cells, slots, Q, dC, dI, α, cI, cII, A⟩ := X
  intro H locs ls hl hP hS
  exact lv_if_lt hX.1 hX.2.1 hd ht (fun h => kt h H locs ls hl hP hS) (fun h => kf h H locs ls hl hP hS)
theorem s_ic_lt {cc : ByteArray} {own : String} {nL : Nat} {rm : Room} {X : fsC} (hX : fs_ok cc own nL rm X) {pc : Nat} {L : List (Option Value)} {st : List Value} {σ : fsS} {μ : fsL} {x y : Int32} {off : Int} (tgt : Nat) (hd : decode cc pc = .ok (.if_icmp .lt off, 3)) (ht : (pc : Int) + off = (tgt : Int)) (kt : x < y → fs_PW X tgt L st σ μ) (kf : ¬ x < y → fs_PW X (pc + 3) L st σ μ) : fs_PW X pc L (.int y :: .int x :: st) σ μ := by
  obtain ⟨p, l, e, R, s, m, args, below, meth, c, cells, slots, Q, dC, dI, α, cI, cII, A⟩ := X
  intro H locs ls hl hP hS
  exact lv_icmp_lt hX.1 hX.2.1 hd ht (fun h => kt h H locs ls hl hP hS) (fun h => kf h H locs ls hl hP hS)
theorem s_if_ge {cc : ByteArray} {own : String} {nL : Nat} {rm : Room} {X : fsC} (hX : fs_ok cc own nL rm X) {pc : Nat} {L : List (Option Value)} {st : List Value} {σ : fsS} {μ : fsL} {x : Int32} {off : Int} (tgt : Nat) (hd : decode cc pc = .ok (.ifCond .ge off, 3)) (ht : (pc : Int) + off = (tgt : Int)) (kt : 0 ≤ x → fs_PW X tgt L st σ μ) (kf : ¬ 0 ≤ x → fs_PW X (pc + 3) L st σ μ) : fs_PW X pc L (.int x :: st) σ μ := by
  obtain ⟨p, l, e, R, s, m, args, below, meth, c, cells, slots, Q, dC, dI, α, cI, cII, A⟩ := X
  intro H locs ls hl hP hS
  exact lv_if_ge hX.1 hX.2.1 hd ht (fun h => kt h H locs ls hl hP hS) (fun h => kf h H locs ls hl hP hS)
theorem s_ic_ge {cc : ByteArray} {own : String} {nL : Nat} {rm : Room} {X : fsC} (hX : fs_ok cc own nL rm X) {pc : Nat} {L : List (Option Value)} {st : List Value} {σ : fsS} {μ : fsL} {x y : Int32} {off : Int} (tgt : Nat) (hd : decode cc pc = .ok (.if_icmp .ge off, 3)) (ht : (pc : Int) + off = (tgt : Int)) (kt : y ≤ x → fs_PW X tgt L st σ μ) (kf : ¬ y ≤ x → fs_PW X (pc + 3) L st σ μ) : fs_PW X pc L (.int y :: .int x :: st) σ μ := by
  obtain ⟨p, l, e, R, s, m, args, below, meth, c, cells, slots, Q, dC, dI, α, cI, cII, A⟩ := X
  intro H locs ls hl hP hS
  exact lv_icmp_ge hX.1 hX.2.1 hd ht (fun h => kt h H locs ls hl hP hS) (fun h => kf h H locs ls hl hP hS)
theorem s_if_gt {cc : ByteArray} {own : String} {nL : Nat} {rm : Room} {X : fsC} (hX : fs_ok cc own nL rm X) {pc : Nat} {L : List (Option Value)} {st : List Value} {σ : fsS} {μ : fsL} {x : Int32} {off : Int} (tgt : Nat) (hd : decode cc pc = .ok (.ifCond .gt off, 3)) (ht : (pc : Int) + off = (tgt : Int)) (kt : 0 < x → fs_PW X tgt L st σ μ) (kf : ¬ 0 < x → fs_PW X (pc + 3) L st σ μ) : fs_PW X pc L (.int x :: st) σ μ := by
  obtain ⟨p, l, e, R, s, m, args, below, meth, c, cells, slots, Q, dC, dI, α, cI, cII, A⟩ := X
  intro H locs ls hl hP hS
  exact lv_if_gt hX.1 hX.2.1 hd ht (fun h => kt h H locs ls hl hP hS) (fun h => kf h H locs ls hl hP hS)
theorem s_ic_gt {cc : ByteArray} {own : String} {nL : Nat} {rm : Room} {X : fsC} (hX : fs_ok cc own nL rm X) {pc : Nat} {L : List (Option Value)} {st : List Value} {σ : fsS} {μ : fsL} {x y : Int32} {off : Int} (tgt : Nat) (hd : decode cc pc = .ok (.if_icmp .gt off, 3)) (ht : (pc : Int) + off = (tgt : Int)) (kt : y < x → fs_PW X tgt L st σ μ) (kf : ¬ y < x → fs_PW X (pc + 3) L st σ μ) : fs_PW X pc L (.int y :: .int x :: st) σ μ := by
  obtain ⟨p, l, e, R, s, m, args, below, meth, c, cells, slots, Q, dC, dI, α, cI, cII, A⟩ := X
  intro H locs ls hl hP hS
  exact lv_icmp_gt hX.1 hX.2.1 hd ht (fun h => kt h H locs ls hl hP hS) (fun h => kf h H locs ls hl hP hS)
theorem s_if_le {cc : ByteArray} {own : String} {nL : Nat} {rm : Room} {X : fsC} (hX : fs_ok cc own nL rm X) {pc : Nat} {L : List (Option Value)} {st : List Value} {σ : fsS} {μ : fsL} {x : Int32} {off : Int} (tgt : Nat) (hd : decode cc pc = .ok (.ifCond .le off, 3)) (ht : (pc : Int) + off = (tgt : Int)) (kt : x ≤ 0 → fs_PW X tgt L st σ μ) (kf : ¬ x ≤ 0 → fs_PW X (pc + 3) L st σ μ) : fs_PW X pc L (.int x :: st) σ μ := by
  obtain ⟨p, l, e, R, s, m, args, below, meth, c, cells, slots, Q, dC, dI, α, cI, cII, A⟩ := X
  intro H locs ls hl hP hS
  exact lv_if_le hX.1 hX.2.1 hd ht (fun h => kt h H locs ls hl hP hS) (fun h => kf h H locs ls hl hP hS)
theorem s_ic_le {cc : ByteArray} {own : String} {nL : Nat} {rm : Room} {X : fsC} (hX : fs_ok cc own nL rm X) {pc : Nat} {L : List (Option Value)} {st : List Value} {σ : fsS} {μ : fsL} {x y : Int32} {off : Int} (tgt : Nat) (hd : decode cc pc = .ok (.if_icmp .le off, 3)) (ht : (pc : Int) + off = (tgt : Int)) (kt : x ≤ y → fs_PW X tgt L st σ μ) (kf : ¬ x ≤ y → fs_PW X (pc + 3) L st σ μ) : fs_PW X pc L (.int y :: .int x :: st) σ μ := by
  obtain ⟨p, l, e, R, s, m, args, below, meth, c, cells, slots, Q, dC, dI, α, cI, cII, A⟩ := X
  intro H locs ls hl hP hS
  exact lv_icmp_le hX.1 hX.2.1 hd ht (fun h => kt h H locs ls hl hP hS) (fun h => kf h H locs ls hl hP hS)
theorem s_ldc {cc : ByteArray} {own : String} {nL : Nat} {rm : Room} {X : fsC} (hX : fs_ok cc own nL rm X) {pc : Nat} {L : List (Option Value)} {st : List Value} {σ : fsS} {μ : fsL} {i : Nat} (v : Int32) (hd : decode cc pc = .ok (.ldc i, 2)) (hc : Cond.constant own i v ∈ fs_ws) (k : fs_PW X (pc + 2) L (.int v :: st) σ μ) : fs_PW X pc L (st) σ μ := by
  obtain ⟨p, l, e, R, s, m, args, below, meth, c, cells, slots, Q, dC, dI, α, cI, cII, A⟩ := X
  intro H locs ls hl hP hS
  exact lv_ldc hX.1 hX.2.1 hX.2.2.2.1 (hX.2.2.2.2.1 _ hc) hd (k H locs ls hl hP hS)
theorem s_ldc_w {cc : ByteArray} {own : String} {nL : Nat} {rm : Room} {X : fsC} (hX : fs_ok cc own nL rm X) {pc : Nat} {L : List (Option Value)} {st : List Value} {σ : fsS} {μ : fsL} {i : Nat} (v : Int32) (hd : decode cc pc = .ok (.ldc_w i, 3)) (hc : Cond.constant own i v ∈ fs_ws) (k : fs_PW X (pc + 3) L (.int v :: st) σ μ) : fs_PW X pc L (st) σ μ := by
  obtain ⟨p, l, e, R, s, m, args, below, meth, c, cells, slots, Q, dC, dI, α, cI, cII, A⟩ := X
  intro H locs ls hl hP hS
  exact lv_ldcw hX.1 hX.2.1 hX.2.2.2.1 (hX.2.2.2.2.1 _ hc) hd (k H locs ls hl hP hS)
theorem s_ldc2 {cc : ByteArray} {own : String} {nL : Nat} {rm : Room} {X : fsC} (hX : fs_ok cc own nL rm X) {pc : Nat} {L : List (Option Value)} {st : List Value} {σ : fsS} {μ : fsL} {i : Nat} (v : Int64) (hd : decode cc pc = .ok (.ldc2_w i, 3)) (hc : Cond.constantLong own i v ∈ fs_ws) (k : fs_PW X (pc + 3) L (.long v :: st) σ μ) : fs_PW X pc L (st) σ μ := by
  obtain ⟨p, l, e, R, s, m, args, below, meth, c, cells, slots, Q, dC, dI, α, cI, cII, A⟩ := X
  intro H locs ls hl hP hS
  exact lv_ldc2 hX.1 hX.2.1 hX.2.2.2.1 (hX.2.2.2.2.1 _ hc) hd (k H locs ls hl hP hS)
/-- entry 'index' of class own's constants names the field j of the class ci -/
def fs_fl (own : String) (index ci j : Nat) : Prop := ∃ (C : String) (T : u_T) (N : Nat), vwCl[ci]? = some (C, T, N) ∧ (∀ w ∈ u_ws C T N, w ∈ fs_ws) ∧ j < N ∧ Cond.fieldLink own index C (T j).2.1 (T j).2.2.1 ∈ fs_ws ∧ (T j).1 = C
def fs_fp (own : String) (index ci j : Nat) (ty : FieldType) : Prop := ∃ (C : String) (T : u_T) (N : Nat) (ty0 : Nat → FieldType), vwCl[ci]? = some (C, T, N) ∧ (∀ w ∈ u_ws C T N, w ∈ fs_ws) ∧ j < N ∧ Cond.fieldLink own index C (T j).2.1 (T j).2.2.1 ∈ fs_ws ∧ (T j).1 = C ∧ (∀ k, k < N → parseFieldDescriptor (T k).2.2.1 = some (ty0 k)) ∧ (∀ a, a < N → ∀ b, b < N → a ≠ b → (T a).2.1 ≠ (T b).2.1) ∧ (T j).2.2.2 = false ∧ parseFieldDescriptor (T j).2.2.1 = some ty
def fs_fd (k ci j : Nat) : Option (Nat ⊕ Bool) := match fs_tp[k]? with
  | some (.inl (c, fs)) => if c = ci then fs[j]? else none
  | _ => none
theorem fs_fd_of {k ci j : Nat} {f : Nat ⊕ Bool} (h : fs_fd k ci j = some f) : ∃ fs, fs_tp[k]? = some (.inl (ci, fs)) ∧ fs[j]? = some f := by
  unfold fs_fd at h
  split at h
  · rename_i c fs he
    by_cases hc : c = ci
    · rw [if_pos hc] at h
      subst hc
      exact ⟨fs, he, h⟩
    · rw [if_neg hc] at h; cases h
  · cases h
def fs_len (k : Nat) : Nat := match fs_tp[k]? with
  | some (.inr (.inl n)) => n
  | _ => 0
theorem fs_len_of {k : Nat} {i : Int32} (h : vp_in i (fs_len k)) : fs_tp[k]? = some (.inr (.inl (fs_len k))) := by
  have h0 : ¬ fs_len k = 0 := fun e => h (Or.inr (by rw [e]; exact Nat.zero_le _))
  unfold fs_len at h0 ⊢
  split at h0
  · rename_i n he
    exact he
  · exact absurd rfl h0
def fs_rb (k : Nat) : Nat × Nat := match fs_tp[k]? with
  | some (.inr (.inr q)) => q
  | _ => (0, 0)
theorem fs_rb_of {k : Nat} {i : Int32} (h : vp_in i (fs_rb k).2) : fs_tp[k]? = some (.inr (.inr (fs_rb k))) := by
  have h0 : ¬ (fs_rb k).2 = 0 := fun e => h (Or.inr (by rw [e]; exact Nat.zero_le _))
  unfold fs_rb at h0 ⊢
  split at h0
  · rename_i n he
    exact he
  · exact absurd rfl h0
theorem s_get {cc : ByteArray} {own : String} {nL : Nat} {rm : Room} {X : fsC} (hX : fs_ok cc own nL rm X) {pc : Nat} {L : List (Option Value)} {st : List Value} {σ : fsS} {μ : fsL} {o index ci j : Nat} {f : Nat ⊕ Bool} (hd : decode cc pc = .ok (.getfield index, 3)) (hf : fs_fl own index ci j) (hv : fs_fd o ci j = some f) (k : fs_PW X (pc + 3) L (fs_f σ μ o j f :: st) σ μ) : fs_PW X pc L (.ref o :: st) σ μ := by
  obtain ⟨p, l, e, R, s, m, args, below, meth, c, cells, slots, Q, dC, dI, α, cI, cII, A⟩ := X
  intro H locs ls hl hP hS
  obtain ⟨C, T, N, h1, h2, h3, h4, h5⟩ := hf
  obtain ⟨fs, g1, g2⟩ := fs_fd_of hv
  refine va_get (D := (dC, dI)) (v := fs_v α (fs_f σ μ o j f)) hX.1 hX.2.1 hX.2.2.2.2.1 h2 hX.2.2.2.1 hX.2.2.2.2.2.1 hP o (fs_w_get g1) h1 j h3 (hX.2.2.2.2.1 _ h4) (fun x hx => by rw [← h5]; exact hx) (by rw [List.getElem?_mapIdx, g2]; rfl) hd (k H locs ls hl hP hS)
theorem s_puti {cc : ByteArray} {own : String} {nL : Nat} {rm : Room} {X : fsC} (hX : fs_ok cc own nL rm X) {pc : Nat} {L : List (Option Value)} {st : List Value} {σ : fsS} {μ : fsL} {o index ci j : Nat} {x : Int32} (hd : decode cc pc = .ok (.putfield index, 3)) (hf : fs_fp own index ci j .int) (hv : fs_fd o ci j = some (.inr false)) (k : fs_PW X (pc + 3) L st (fs_u σ o j x) μ) : fs_PW X pc L (.int x :: .ref o :: st) σ μ := by
  obtain ⟨p, l, e, R, s, m, args, below, meth, c, cells, slots, Q, dC, dI, α, cI, cII, A⟩ := X
  intro H locs ls hl hP hS
  obtain ⟨C, T, N, ty0, h1, h2, h3, h4, h5, h6, h7, h8, h9⟩ := hf
  obtain ⟨fs, g1, g2⟩ := fs_fd_of hv
  refine va_put (D := (dC, dI)) (A := A) (v := .int x) (ty := .int) hX.1 hX.2.1 hX.2.2.2.2.1 h2 ty0 h6 h7 hX.2.2.2.1 hX.2.2.2.2.2.1 hP (fs_D hX.2.2.2.2.2.2.1 hX.2.2.2.2.2.2.2.1 σ μ) hS o (fs_w_get g1) h1 j h3 (hX.2.2.2.2.1 _ h4) (fun x hx => by rw [← h5]; exact hx) h8 h9 rfl rfl (by rw [List.length_mapIdx]; exact (List.getElem?_eq_some_iff.mp g2).1) hd (fun H1 locs1 hP1 _ hS1 => k H1 locs1 ls hl (by rw [fs_w_setI g1 g2] at hP1; exact hP1) hS1)
theorem s_putl {cc : ByteArray} {own : String} {nL : Nat} {rm : Room} {X : fsC} (hX : fs_ok cc own nL rm X) {pc : Nat} {L : List (Option Value)} {st : List Value} {σ : fsS} {μ : fsL} {o index ci j : Nat} {x : Int64} (hd : decode cc pc = .ok (.putfield index, 3)) (hf : fs_fp own index ci j .long) (hv : fs_fd o ci j = some (.inr true)) (k : fs_PW X (pc + 3) L st σ (fs_ul μ o j x)) : fs_PW X pc L (.long x :: .ref o :: st) σ μ := by
  obtain ⟨p, l, e, R, s, m, args, below, meth, c, cells, slots, Q, dC, dI, α, cI, cII, A⟩ := X
  intro H locs ls hl hP hS
  obtain ⟨C, T, N, ty0, h1, h2, h3, h4, h5, h6, h7, h8, h9⟩ := hf
  obtain ⟨fs, g1, g2⟩ := fs_fd_of hv
  refine va_put (D := (dC, dI)) (A := A) (v := .long x) (ty := .long) hX.1 hX.2.1 hX.2.2.2.2.1 h2 ty0 h6 h7 hX.2.2.2.1 hX.2.2.2.2.2.1 hP (fs_D hX.2.2.2.2.2.2.1 hX.2.2.2.2.2.2.2.1 σ μ) hS o (fs_w_get g1) h1 j h3 (hX.2.2.2.2.1 _ h4) (fun x hx => by rw [← h5]; exact hx) h8 h9 rfl rfl (by rw [List.length_mapIdx]; exact (List.getElem?_eq_some_iff.mp g2).1) hd (fun H1 locs1 hP1 _ hS1 => k H1 locs1 ls hl (by rw [fs_w_setL g1 g2] at hP1; exact hP1) hS1)
theorem s_iald {cc : ByteArray} {own : String} {nL : Nat} {rm : Room} {X : fsC} (hX : fs_ok cc own nL rm X) {pc : Nat} {L : List (Option Value)} {st : List Value} {σ : fsS} {μ : fsL} {a : Nat} {i : Int32} (hd : decode cc pc = .ok (.iaload, 1)) (hin : vp_in i (fs_len a)) (k : fs_PW X (pc + 1) L (.int (σ a i.toNatClampNeg) :: st) σ μ) : fs_PW X pc L (.int i :: .ref a :: st) σ μ := by
  obtain ⟨p, l, e, R, s, m, args, below, meth, c, cells, slots, Q, dC, dI, α, cI, cII, A⟩ := X
  intro H locs ls hl hP hS
  exact va_iald (D := (dC, dI)) hX.1 hX.2.1 hX.2.2.2.2.2.1 hP a 0 (fs_w_get (fs_len_of hin)) rfl hin hd (k H locs ls hl hP hS)
theorem s_iast {cc : ByteArray} {own : String} {nL : Nat} {rm : Room} {X : fsC} (hX : fs_ok cc own nL rm X) {pc : Nat} {L : List (Option Value)} {st : List Value} {σ : fsS} {μ : fsL} {a : Nat} {i x : Int32} (hd : decode cc pc = .ok (.iastore, 1)) (hin : vp_in i (fs_len a)) (k : fs_PW X (pc + 1) L st (fs_u σ a i.toNatClampNeg x) μ) : fs_PW X pc L (.int x :: .int i :: .ref a :: st) σ μ := by
  obtain ⟨p, l, e, R, s, m, args, below, meth, c, cells, slots, Q, dC, dI, α, cI, cII, A⟩ := X
  intro H locs ls hl hP hS
  refine va_iast (D := (dC, dI)) (A := A) hX.1 hX.2.1 hX.2.2.2.2.2.1 hP (fs_D hX.2.2.2.2.2.2.1 hX.2.2.2.2.2.2.2.1 σ μ) hS a 0 (fs_w_get (fs_len_of hin)) rfl hin hd (fun H1 locs1 hP1 _ hS1 => k H1 locs1 ls hl ?_ hS1)
  rw [fs_w_setA (fs_len_of hin)] at hP1
  exact hP1
theorem s_aald {cc : ByteArray} {own : String} {nL : Nat} {rm : Room} {X : fsC} (hX : fs_ok cc own nL rm X) {pc : Nat} {L : List (Option Value)} {st : List Value} {σ : fsS} {μ : fsL} {a : Nat} {i : Int32} (hd : decode cc pc = .ok (.aaload, 1)) (hin : vp_in i (fs_rb a).2) (k : fs_PW X (pc + 1) L (.ref ((fs_rb a).1 + i.toNatClampNeg) :: st) σ μ) : fs_PW X pc L (.int i :: .ref a :: st) σ μ := by
  obtain ⟨p, l, e, R, s, m, args, below, meth, c, cells, slots, Q, dC, dI, α, cI, cII, A⟩ := X
  intro H locs ls hl hP hS
  have hlt : i.toNatClampNeg < (fs_rb a).2 := Nat.not_le.mp fun q => hin (Or.inr q)
  have hw := fs_w_get (cI := cI) (cII := cII) (α := α) (σ := σ) (μ := μ) (fs_rb_of hin)
  refine W.aald (v := .ref (α ((fs_rb a).1 + i.toNatClampNeg))) (ty := .array .int) hX.1 hX.2.1 (hP a _ hw) ((hX.2.2.2.2.2.1.2 1 _ rfl).1 (fs_rb a).2 (fun j => va_rf (if j < (fs_rb a).2 then some (α ((fs_rb a).1 + j)) else none))) rfl (fun q => by cases q) (by show ¬ (i < 0 ∨ (arrV _ _ _).slots.size ≤ _); rw [arrV_size]; exact hin) (by show (arrV _ _ _).slots[_]? = _; rw [arrV_read _ _ hlt]; show some (va_rf (if i.toNatClampNeg < (fs_rb a).2 then some (α ((fs_rb a).1 + i.toNatClampNeg)) else none)) = _; rw [if_pos hlt]; rfl) rfl rfl hd (k H locs ls hl hP hS)
theorem s_alen {cc : ByteArray} {own : String} {nL : Nat} {rm : Room} {X : fsC} (hX : fs_ok cc own nL rm X) {pc : Nat} {L : List (Option Value)} {st : List Value} {σ : fsS} {μ : fsL} {a : Nat} (hd : decode cc pc = .ok (.arraylength, 1)) (hn : ¬ fs_len a = 0) (k : fs_PW X (pc + 1) L (.int (Int32.ofNat (fs_len a)) :: st) σ μ) : fs_PW X pc L (.ref a :: st) σ μ := by
  obtain ⟨p, l, e, R, s, m, args, below, meth, c, cells, slots, Q, dC, dI, α, cI, cII, A⟩ := X
  intro H locs ls hl hP hS
  have hin : vp_in 0 (fs_len a) := by
    rintro (h | h)
    · exact absurd h (by decide)
    · exact hn (Nat.le_zero.mp h)
  exact va_alen (D := (dC, dI)) hX.1 hX.2.1 hX.2.2.2.2.2.1 hP a 0 (fs_w_get (fs_len_of hin)) (ty := .int) rfl rfl hd (k H locs ls hl hP hS)
def fs_m1 (own : String) (index : Nat) (y : MethodName) (code : ByteArray) (n : Nat) : Prop := Cond.methodLink own index y ∈ fs_ws ∧ Cond.static y ∈ fs_ws ∧ Cond.initialized "java/lang/Math" ∈ fs_ws ∧ Cond.code y code n (some .int) ∈ fs_ws
theorem fs_cat_map (α : Nat → Nat) (st : List Value) : ((st.map (fs_v α)).map fun v => v.category) = st.map fun v => v.category := by
  rw [List.map_map]
  congr 1
  funext v
  exact fs_v_cat α v
theorem s_mmax {cc : ByteArray} {own : String} {nL : Nat} {rm : Room} {X : fsC} (hX : fs_ok cc own nL rm X) {pc : Nat} {L : List (Option Value)} {st : List Value} {σ : fsS} {μ : fsL} {index : Nat} {x y : Int32} (hd : decode cc pc = .ok (.invokestatic index, 3)) (hw : fs_m1 own index Lib.Math.max.name Lib.Math.max.code 2) (hL : L.length = nL) (hf : 1 ≤ rm.frames) (hlo : (st.map fun v => v.category).sum + 13 ≤ rm.locals) (k : fs_PW X (pc + 3) L (.int (if x < y then y else x) :: st) σ μ) : fs_PW X pc L (.int y :: .int x :: st) σ μ := by
  obtain ⟨p, l, e, R, s, m, args, below, meth, c, cells, slots, Q, dC, dI, α, cI, cII, A⟩ := X
  intro H locs ls hl hP hS
  obtain ⟨hx, hb, hml, hown, hts, hK, hinj, hA, rfl, hce, hsl⟩ := hX
  refine va_mmax hx hb (by rw [hml, hl.1, hL]) hown (hts _ hw.1) (hts _ hw.2.1) (hts _ hw.2.2.1) (hts _ hw.2.2.2) hf (by rw [fs_cat_map]; exact hlo) hce hsl hd (k H locs ls hl hP hS)
theorem s_mmin {cc : ByteArray} {own : String} {nL : Nat} {rm : Room} {X : fsC} (hX : fs_ok cc own nL rm X) {pc : Nat} {L : List (Option Value)} {st : List Value} {σ : fsS} {μ : fsL} {index : Nat} {x y : Int32} (hd : decode cc pc = .ok (.invokestatic index, 3)) (hw : fs_m1 own index Lib.Math.min.name Lib.Math.min.code 2) (hL : L.length = nL) (hf : 1 ≤ rm.frames) (hlo : (st.map fun v => v.category).sum + 13 ≤ rm.locals) (k : fs_PW X (pc + 3) L (.int (if y < x then y else x) :: st) σ μ) : fs_PW X pc L (.int y :: .int x :: st) σ μ := by
  obtain ⟨p, l, e, R, s, m, args, below, meth, c, cells, slots, Q, dC, dI, α, cI, cII, A⟩ := X
  intro H locs ls hl hP hS
  obtain ⟨hx, hb, hml, hown, hts, hK, hinj, hA, rfl, hce, hsl⟩ := hX
  refine va_mmin hx hb (by rw [hml, hl.1, hL]) hown (hts _ hw.1) (hts _ hw.2.1) (hts _ hw.2.2.1) (hts _ hw.2.2.2) hf (by rw [fs_cat_map]; exact hlo) hce hsl hd (k H locs ls hl hP hS)
theorem s_mabs {cc : ByteArray} {own : String} {nL : Nat} {rm : Room} {X : fsC} (hX : fs_ok cc own nL rm X) {pc : Nat} {L : List (Option Value)} {st : List Value} {σ : fsS} {μ : fsL} {index : Nat} {x : Int32} (hd : decode cc pc = .ok (.invokestatic index, 3)) (hw : fs_m1 own index Lib.Math.abs.name Lib.Math.abs.code 1) (hL : L.length = nL) (hf : 1 ≤ rm.frames) (hlo : (st.map fun v => v.category).sum + 13 ≤ rm.locals) (k : fs_PW X (pc + 3) L (.int (if 0 ≤ x then x else 0 - x) :: st) σ μ) : fs_PW X pc L (.int x :: st) σ μ := by
  obtain ⟨p, l, e, R, s, m, args, below, meth, c, cells, slots, Q, dC, dI, α, cI, cII, A⟩ := X
  intro H locs ls hl hP hS
  obtain ⟨hx, hb, hml, hown, hts, hK, hinj, hA, rfl, hce, hsl⟩ := hX
  refine va_mabs hx hb (by rw [hml, hl.1, hL]) hown (hts _ hw.1) (hts _ hw.2.1) (hts _ hw.2.2.1) (hts _ hw.2.2.2) hf (by rw [fs_cat_map]; exact hlo) hce hsl hd (k H locs ls hl hP hS)
def fs_ac (own : String) (index : Nat) : Prop := Cond.methodLink own index arraycopyName ∈ fs_ws ∧ Cond.native arraycopyName ∈ fs_ws ∧ Cond.static arraycopyName ∈ fs_ws ∧ Cond.initialized "java/lang/System" ∈ fs_ws
theorem s_acopy {cc : ByteArray} {own : String} {nL : Nat} {rm : Room} {X : fsC} (hX : fs_ok cc own nL rm X) {pc : Nat} {L : List (Option Value)} {st : List Value} {σ : fsS} {μ : fsL} {index a b : Nat} {sp dp n : Int32} (hd : decode cc pc = .ok (.invokestatic index, 3)) (hw : fs_ac own index) (h1 : ¬ sp < 0) (h2 : ¬ dp < 0) (h3 : ¬ n < 0) (h40 : ¬ fs_len a = 0) (h50 : ¬ fs_len b = 0) (h4 : sp.toNatClampNeg + n.toNatClampNeg ≤ fs_len a) (h5 : dp.toNatClampNeg + n.toNatClampNeg ≤ fs_len b) (hL : L.length = nL) (hf : 1 ≤ rm.frames) (hlo : (st.map fun v => v.category).sum + (nativeFrameWords "java/lang/System" "arraycopy" 5 + 11) ≤ rm.locals) (k : fs_PW X (pc + 3) L st (fs_s σ b (va_cpy (σ a) (σ b) sp.toNatClampNeg dp.toNatClampNeg n.toNatClampNeg)) μ) : fs_PW X pc L (.int n :: .int dp :: .ref b :: .int sp :: .ref a :: st) σ μ := by
  obtain ⟨p, l, e, R, s, m, args, below, meth, c, cells, slots, Q, dC, dI, α, cI, cII, A⟩ := X
  intro H locs ls hl hP hS
  obtain ⟨hx, hb, hml, hown, hts, hK, hinj, hA, rfl, hce, hsl⟩ := hX
  have ta : fs_tp[a]? = some (.inr (.inl (fs_len a))) := fs_len_of (i := 0) (by
    rintro (h | h)
    · exact absurd h (by decide)
    · exact h40 (Nat.le_zero.mp h))
  have tb : fs_tp[b]? = some (.inr (.inl (fs_len b))) := fs_len_of (i := 0) (by
    rintro (h | h)
    · exact absurd h (by decide)
    · exact h50 (Nat.le_zero.mp h))
  refine va_copyi (D := (dC, dI)) (A := A) (ty := .int) hx hb (by rw [hml, hl.1, hL]) hown (hts _ hw.1) (hts _ hw.2.1) (hts _ hw.2.2.1) (hts _ hw.2.2.2) hK hP (fs_D hinj hA σ μ) hS a b 0 0 (fs_w_get ta) (fs_w_get tb) rfl rfl rfl h1 h2 h3 h4 h5 (fun _ _ => rfl) hf (by rw [fs_cat_map]; exact hlo) hd (fun H1 locs1 hP1 _ hS1 => k H1 locs1 ls hl ?_ hS1)
  rw [fs_w_setA tb] at hP1
  exact hP1
theorem s_tabOut {cc : ByteArray} {own : String} {nL : Nat} {rm : Room} {X : fsC} (hX : fs_ok cc own nL rm X) {pc : Nat} {L : List (Option Value)} {st : List Value} {σ : fsS} {μ : fsL} {dflt lo hi : Int} {offs : Array Int} {len : Nat} {x : Int32} (tgt : Nat) (hd : decode cc pc = .ok (.tableswitch dflt lo hi offs, len)) (h : x.toInt < lo ∨ hi < x.toInt) (ht : (pc : Int) + dflt = (tgt : Int)) (k : fs_PW X tgt L st σ μ) : fs_PW X pc L (.int x :: st) σ μ := by
  obtain ⟨p, l, e, R, s, m, args, below, meth, c, cells, slots, Q, dC, dI, α, cI, cII, A⟩ := X
  intro H locs ls hl hP hS
  exact lv_tableOut hX.1 hX.2.1 hd h ht (k H locs ls hl hP hS)
theorem s_tabIn {cc : ByteArray} {own : String} {nL : Nat} {rm : Room} {X : fsC} (hX : fs_ok cc own nL rm X) {pc : Nat} {L : List (Option Value)} {st : List Value} {σ : fsS} {μ : fsL} {dflt lo hi : Int} {offs : Array Int} {len : Nat} {x : Int32} {off : Int} (tgt : Nat) (hd : decode cc pc = .ok (.tableswitch dflt lo hi offs, len)) (h1 : ¬ x.toInt < lo) (h2 : ¬ hi < x.toInt) (ho : offs[(x.toInt - lo).toNat]? = some off) (ht : (pc : Int) + off = (tgt : Int)) (k : fs_PW X tgt L st σ μ) : fs_PW X pc L (.int x :: st) σ μ := by
  obtain ⟨p, l, e, R, s, m, args, below, meth, c, cells, slots, Q, dC, dI, α, cI, cII, A⟩ := X
  intro H locs ls hl hP hS
  exact lv_tableIn hX.1 hX.2.1 hd h1 h2 ho ht (k H locs ls hl hP hS)
theorem s_look {cc : ByteArray} {own : String} {nL : Nat} {rm : Room} {X : fsC} (hX : fs_ok cc own nL rm X) {pc : Nat} {L : List (Option Value)} {st : List Value} {σ : fsS} {μ : fsL} {dflt : Int} {ps : Array (Int × Int)} {len : Nat} {x : Int32} {off : Int} (tgt : Nat) (hd : decode cc pc = .ok (.lookupswitch dflt ps, len)) (hp : (ps.toList.zip (ps.toList.drop 1)).all (fun (a, next) => a.1 < next.1) = true) (ho : Op.lookupswitch.offset ps.toList dflt x.toInt = off) (ht : (pc : Int) + off = (tgt : Int)) (k : fs_PW X tgt L st σ μ) : fs_PW X pc L (.int x :: st) σ μ := by
  obtain ⟨p, l, e, R, s, m, args, below, meth, c, cells, slots, Q, dC, dI, α, cI, cII, A⟩ := X
  intro H locs ls hl hP hS
  exact lv_lookup hX.1 hX.2.1 hd hp ho ht (k H locs ls hl hP hS)
theorem s_iret {cc : ByteArray} {own : String} {nL : Nat} {rm : Room} {X : fsC} (hX : fs_ok cc own nL rm X) {pc : Nat} {L : List (Option Value)} {σ : fsS} {μ : fsL} {v : Int32} (hR : fs_ret (some .int) (some (.int v)) σ μ X) (hd : decode cc pc = .ok (.ireturn, 1)) : fs_PW X pc L ([.int v]) σ μ := by
  obtain ⟨p, l, e, R, s, m, args, below, meth, c, cells, slots, Q, dC, dI, α, cI, cII, A⟩ := X
  intro H locs ls hl hP hS
  obtain ⟨h1, h2, rfl, rfl, rfl, rfl⟩ := hR
  exact W.iret (Qc := fs_Q dC dI α cI cII (some (.int v)) σ μ) hX.1 hX.2.1 h1 (fun t ht hW => ⟨⟨rfl, by rw [ht]; exact hP⟩, hS.F ht⟩) hS.2.2 hd h2
theorem s_lret {cc : ByteArray} {own : String} {nL : Nat} {rm : Room} {X : fsC} (hX : fs_ok cc own nL rm X) {pc : Nat} {L : List (Option Value)} {σ : fsS} {μ : fsL} {v : Int64} (hR : fs_ret (some .long) (some (.long v)) σ μ X) (hd : decode cc pc = .ok (.lreturn, 1)) : fs_PW X pc L ([.long v]) σ μ := by
  obtain ⟨p, l, e, R, s, m, args, below, meth, c, cells, slots, Q, dC, dI, α, cI, cII, A⟩ := X
  intro H locs ls hl hP hS
  obtain ⟨h1, h2, rfl, rfl, rfl, rfl⟩ := hR
  exact W.lret (Qc := fs_Q dC dI α cI cII (some (.long v)) σ μ) hX.1 hX.2.1 h1 (fun t ht hW => ⟨⟨rfl, by rw [ht]; exact hP⟩, hS.F ht⟩) hS.2.2 hd h2
theorem s_zret {cc : ByteArray} {own : String} {nL : Nat} {rm : Room} {X : fsC} (hX : fs_ok cc own nL rm X) {pc : Nat} {L : List (Option Value)} {σ : fsS} {μ : fsL} {v : Int32} (hn : v = 0 ∨ v = 1) (hR : fs_ret (some .boolean) (some (.int v)) σ μ X) (hd : decode cc pc = .ok (.ireturn, 1)) : fs_PW X pc L ([.int v]) σ μ := by
  obtain ⟨p, l, e, R, s, m, args, below, meth, c, cells, slots, Q, dC, dI, α, cI, cII, A⟩ := X
  intro H locs ls hl hP hS
  obtain ⟨h1, h2, rfl, rfl, rfl, rfl⟩ := hR
  exact W.zret (Qc := fs_Q dC dI α cI cII (some (.int v)) σ μ) hX.1 hX.2.1 h1 (by rcases hn with rfl | rfl <;> rfl) (fun t ht hW => ⟨⟨rfl, by rw [ht]; exact hP⟩, hS.F ht⟩) hS.2.2 hd h2
theorem s_vret {cc : ByteArray} {own : String} {nL : Nat} {rm : Room} {X : fsC} (hX : fs_ok cc own nL rm X) {pc : Nat} {L : List (Option Value)} {σ : fsS} {μ : fsL} (hR : fs_ret none (none) σ μ X) (hd : decode cc pc = .ok (.return_, 1)) : fs_PW X pc L ([]) σ μ := by
  obtain ⟨p, l, e, R, s, m, args, below, meth, c, cells, slots, Q, dC, dI, α, cI, cII, A⟩ := X
  intro H locs ls hl hP hS
  obtain ⟨h1, h2, rfl, rfl, rfl, rfl⟩ := hR
  exact W.vret (Qc := fs_Q dC dI α cI cII none σ μ) hX.1 hX.2.1 h1 (fun t ht hW => ⟨⟨rfl, by rw [ht]; exact hP⟩, hS.F ht⟩) hS.2.2 hd h2
theorem fs_good : fs_ws.all goodWord = true := List.all_eq_true.mpr (fun _ h => (List.mem_filter.mp h).2)
/-- what a call of y wants of the tables -/
def fs_yV (y : MethodName) (code : ByteArray) (maxL : Nat) (ret : Option FieldType) (n : Nat) : Prop := Cond.instanceMethod y ∈ fs_ws ∧ Cond.selects y.cls y y ∈ fs_ws ∧ Cond.initialized y.cls ∈ fs_ws ∧ Cond.code y code maxL ret ∈ fs_ws ∧ y.cls ≠ "java/lang/invoke/MethodHandle" ∧ y.cls ≠ "java/lang/invoke/VarHandle" ∧ (parseMethodDescriptor y.desc).map (fun d => d.parameters.length) = some n
def fs_yS (y : MethodName) (code : ByteArray) (maxL : Nat) (ret : Option FieldType) (n : Nat) : Prop := Cond.static y ∈ fs_ws ∧ Cond.initialized y.cls ∈ fs_ws ∧ Cond.code y code maxL ret ∈ fs_ws ∧ y.cls ≠ "java/lang/invoke/MethodHandle" ∧ y.cls ≠ "java/lang/invoke/VarHandle" ∧ (parseMethodDescriptor y.desc).map (fun d => d.parameters.length) = some n
theorem fs_gi {ws : List Cond} (h : ∀ w ∈ ws, w ∈ fs_ws) : GoodIn fs_ws ws := fun w hw => ⟨h w hw, good_of_word (List.all_eq_true.mp fs_good w (h w hw))⟩
theorem fs_blind {α : Nat → Nat} {as : List Value} {dC : Nat → ClassId} {dI : Nat → Nat → Nat} {cI cII : ClassId} {σ : fsS} {μ : fsL} : FrameBlind (va_Pc (as.map (fs_v α)) (fun U => va_P (dC, dI) vwCl (fs_w cI cII α σ μ) U.heap ∧ va_K (dC, dI) vwCl (fs_ty cI cII) U)) :=
  fun a U g mk q => by
    obtain ⟨q0, qP, qK⟩ := q
    exact ⟨q0, qP, va_K.moved (u := U) (U := U.calling g mk a) (Vm.Alike.refl U.vm) qK⟩
set_option maxHeartbeats 4000000 in
/-- behind a run of a call -/
theorem fs_goes {p : Program} {l : Launch} {e : Env} {R : Room} {s : State} {m : MethodId} {args : Array Value} {below : List Frame} {meth : Method} {c : Code} {H : Heap} {locs : List Loc} {cells slots : Nat} {Q : State → Prop} {dC : Nat → ClassId} {dI : Nat → Nat → Nat} {α : Nat → Nat} {cI cII : ClassId} {A : Nat → Prop} {r : Option Value} {σ : fsS} {μ : fsL} {pc : Nat} {ls : Array Slot} {st0 rest : List Value} {a : Array Value}
    (hr : va_Run p l e R s m args below meth c H locs cells slots 0 0 (F0 m pc ls st0) (rest.map (fs_v α)) (fs_Q dC dI α cI cII r σ μ a) (fs_A α)) (hS : va_S A s.heap H locs) (hA : ∀ i, i < 68 → A (α i))
    (kk : ∀ (H1 : Heap) (locs1 : List Loc), va_P (dC, dI) vwCl (fs_w cI cII α σ μ) H1 → va_S A s.heap H1 locs1 → W p l e R s m args below meth c H1 locs1 cells slots Q (F0 m (pc + 3) ls ((r.toList ++ rest).map (fs_v α)))) : W p l e R s m args below meth c H locs cells slots Q (F0 m pc ls st0) := by
  have hAA : ∀ q, fs_A α q → A q := fun q ⟨k, hk, e⟩ => by rw [e]; exact hA k hk
  intro T hT X
  obtain ⟨v, st₀, t, T', L, h0, X', hL, e1, e2, ⟨⟨hv, hp⟩, hz, hk⟩, st⟩ := hr T hT X
  cases hv
  rw [h0] at hz hk
  obtain ⟨t2, a1, b1⟩ := kk T'.heap (locs ++ L) (by rw [e1]; exact hp)
    ⟨Nat.le_trans hS.1 (by rw [e1]; exact hz), fun q h1 h2 => by rw [e1, hk q (Nat.lt_of_lt_of_le h1 hS.1) (fun z => h2 (hAA q z))]; exact hS.2.1 q h1 h2, fun q hq => by
      rcases List.mem_append.mp hq with h | h
      · exact hS.2.2 q h
      · exact hAA _ (hL q h)⟩ T' rfl X'
  refine ⟨t2, st t2 ?_, b1⟩
  have e3 : (r.toList ++ rest).map (fs_v α) = (r.map (fs_v α)).toList ++ rest.map (fs_v α) := by cases r <;> simp
  rw [e3] at a1
  exact a1

set_option maxHeartbeats 4000000 in
theorem s_callV {cc : ByteArray} {own : String} {nL : Nat} {rm : Room} {X : fsC} (hX : fs_ok cc own nL rm X) {pc : Nat} {L : List (Option Value)} {st : List Value} {σ : fsS} {μ : fsL} {y : MethodName} {code : ByteArray} {maxL index : Nat} {ret : Option FieldType} {rmc : Room} {k ci : Nat} {as rest : List Value} {r : Option Value} {σ' : fsS} {μ' : fsL} {T : u_T} {N : Nat} {fs : List (Nat ⊕ Bool)}
    (hd : decode cc pc = .ok (.invokevirtual index, 3)) (hlink : Cond.methodLink own index y ∈ fs_ws) (hy : fs_yV y code maxL ret as.length) (hM : fs_Met y code maxL ret rmc (.ref k :: as) σ μ r σ' μ') (ht : fs_tp[k]? = some (.inl (ci, fs))) (hc : vwCl[ci]? = some (y.cls, T, N)) (hcells : rmc.cells = 0 ∧ rmc.slots = 0) (hR : rmc.frames + 1 ≤ rm.frames ∧ 8 + (maxL + 11) + rmc.locals ≤ rm.locals)
    (hst : st = as.reverse ++ .ref k :: rest) (hL : L.length = nL) (hW : (rest.map fun v => v.category).sum ≤ 8)
    (kk : fs_PW X (pc + 3) L (r.toList ++ rest) σ' μ') : fs_PW X pc L st σ μ := by
  obtain ⟨p, l, e, R, s, m, args, below, meth, c, cells, slots, Q, dC, dI, α, cI, cII, A⟩ := X
  intro H locs ls hl hP hS
  obtain ⟨hx, hb, hml, hown, hts, hK, hinj, hA, rfl, hce, hsl⟩ := hX
  obtain ⟨y1, y2, y3, y4, y5, y6, y7⟩ := hy
  have hgi : GoodIn fs_ws (wsV own index y.cls y (.code y code maxL ret :: fs_ws)) := fs_gi (fun w hw => by
    simp only [wsV, List.cons_append, List.nil_append, List.mem_cons] at hw
    rcases hw with rfl | rfl | rfl | rfl | rfl | hw
    · exact hlink
    · exact y1
    · exact y2
    · exact y3
    · exact y4
    · exact hw)
  refine fs_goes (va_runV (nL := nL) (As := as.map (fs_v α)) (rest := rest.map (fs_v α)) (b := α k) ⟨hx, hb, hml, hown, hts⟩ (hM l dC dI α cI cII hinj) (cwV as.length hts hgi rfl hcells.1 hcells.2 ⟨rfl, y5, y6, y7⟩ hR) ⟨fs_blind, va_recv hK hP hc (fs_w_get ht), fun U hU hW => ⟨rfl, by rw [hU]; exact hP, va_K.moved hW.alike hK⟩⟩ rfl (by simp) (by rw [hl.1, hL]) (by rw [hst]; simp [fs_v]) ?_ hd ⟨hce, hsl⟩) hS hA (fun H1 locs1 hP1 hS1 => kk H1 locs1 ls hl hP1 hS1)
  exact lv_room (by rw [fs_cat_map]; exact hW)
set_option maxHeartbeats 4000000 in
theorem s_callS {cc : ByteArray} {own : String} {nL : Nat} {rm : Room} {X : fsC} (hX : fs_ok cc own nL rm X) {pc : Nat} {L : List (Option Value)} {st : List Value} {σ : fsS} {μ : fsL} {y : MethodName} {code : ByteArray} {maxL index : Nat} {ret : Option FieldType} {rmc : Room} {as rest : List Value} {r : Option Value} {σ' : fsS} {μ' : fsL}
    (hd : decode cc pc = .ok (.invokestatic index, 3)) (hlink : Cond.methodLink own index y ∈ fs_ws) (hy : fs_yS y code maxL ret as.length) (hM : fs_Met y code maxL ret rmc as σ μ r σ' μ') (hcells : rmc.cells = 0 ∧ rmc.slots = 0) (hR : rmc.frames + 1 ≤ rm.frames ∧ 8 + (maxL + 11) + rmc.locals ≤ rm.locals)
    (hst : st = as.reverse ++ rest) (hL : L.length = nL) (hW : (rest.map fun v => v.category).sum ≤ 8)
    (kk : fs_PW X (pc + 3) L (r.toList ++ rest) σ' μ') : fs_PW X pc L st σ μ := by
  obtain ⟨p, l, e, R, s, m, args, below, meth, c, cells, slots, Q, dC, dI, α, cI, cII, A⟩ := X
  intro H locs ls hl hP hS
  obtain ⟨hx, hb, hml, hown, hts, hK, hinj, hA, rfl, hce, hsl⟩ := hX
  obtain ⟨y1, y3, y4, y5, y6, y7⟩ := hy
  have hgi : GoodIn fs_ws (va_wsS own index y (.code y code maxL ret :: fs_ws)) := fs_gi (fun w hw => by
    simp only [va_wsS, List.cons_append, List.nil_append, List.mem_cons] at hw
    rcases hw with rfl | rfl | rfl | rfl | hw
    · exact hlink
    · exact y1
    · exact y3
    · exact y4
    · exact hw)
  refine fs_goes (va_runS (nL := nL) (As := as.map (fs_v α)) (rest := rest.map (fs_v α)) ⟨hx, hb, hml, hown, hts⟩ (hM l dC dI α cI cII hinj) (va_cwS as.length hts hgi rfl hcells.1 hcells.2 ⟨y5, y6, y7⟩ hR) ⟨fs_blind, fun U hU hW => ⟨rfl, by rw [hU]; exact hP, va_K.moved hW.alike hK⟩⟩ rfl (by simp) (by rw [hl.1, hL]) (by rw [hst]; simp) ?_ hd ⟨hce, hsl⟩) hS hA (fun H1 locs1 hP1 hS1 => kk H1 locs1 ls hl hP1 hS1)
  exact lv_room (by rw [fs_cat_map]; exact hW)

