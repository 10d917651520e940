/-! new int[N][M] from the machine's own make. The state with i rows in the outer one is written down at once, as T with one list of cells behind its heap (mS); the loop goes from one such state to the next, and the walk's own count of its room pays for each row. -/
def mO (cA : ClassId) (N h i : Nat) : Cell := arrV cA N (fun j => va_rf (if j < i then some (h + 1 + j) else none))
def mI (cB : ClassId) (M : Nat) : Cell := arrV cB M (fun _ => .int 0)
theorem mO_none (cA : ClassId) (N h : Nat) : ({ cls := cA, slots := Array.replicate N .null } : Cell) = mO cA N h 0 :=
  (arrV_new cA N .null).trans (congrArg (arrV cA N) (funext fun j => show Value.null = va_rf (if j < 0 then some (h + 1 + j) else none) by rw [if_neg (Nat.not_lt_zero j)]; rfl))
theorem mO_one (cA : ClassId) (N h i : Nat) : (mO cA N h i).setSlot i (.ref (h + 1 + i)) = mO cA N h (i + 1) := by
  refine (arrV_store _ _ _ _ _).trans (congrArg (arrV cA N) (funext fun j => ?_))
  rcases Nat.lt_trichotomy j i with h1 | h1 | h1
  · simp [updV, Nat.ne_of_lt h1, h1, Nat.lt_succ_of_lt h1]
  · simp [updV, h1, va_rf]
  · simp [updV, Nat.ne_of_gt h1, Nat.lt_asymm h1, show ¬ j < i + 1 by omega]
/-- T, and behind its heap the outer row and i rows of it -/
def mS (T : State) (cA cB : ClassId) (N M i : Nat) : State :=
  { T with heap := (T.heap.toList ++ mO cA N T.heap.size i :: List.replicate i (mI cB M)).toArray, slotsUsed := T.slotsUsed + N + i * M }
section
variable (T : State) (cA cB : ClassId) (N M i : Nat)
theorem mS_at (a : Nat) : (mS T cA cB N M i).heap[a]? = (T.heap.toList ++ mO cA N T.heap.size i :: List.replicate i (mI cB M))[a]? := List.getElem?_toArray
theorem mS_size : (mS T cA cB N M i).heap.size = T.heap.size + 1 + i := by
  show (T.heap.toList ++ mO cA N T.heap.size i :: List.replicate i (mI cB M)).length = _
  rw [List.length_append, List.length_cons, List.length_replicate, Array.length_toList]
  omega
theorem mS_old {a : Addr} (ha : a < T.heap.size) : (mS T cA cB N M i).heap[a]? = T.heap[a]? := by
  rw [mS_at, List.getElem?_append_left (by rw [Array.length_toList]; exact ha), Array.getElem?_toList]
theorem mS_out : (mS T cA cB N M i).heap[T.heap.size]? = some (mO cA N T.heap.size i) := by
  rw [mS_at, List.getElem?_append_right (by rw [Array.length_toList]; exact Nat.le_refl _), Array.length_toList, Nat.sub_self]
  rfl
theorem mS_put (x : Cell) : ((mS T cA cB N M i).pushCell x).heap[T.heap.size]? = some (mO cA N T.heap.size i) := by
  have h : T.heap.size < (mS T cA cB N M i).heap.size := by rw [mS_size]; omega
  exact (State.heap_pushCell_of_lt _ _ h).trans (mS_out T cA cB N M i)
theorem mS_row {i j : Nat} (hj : j < i) : (mS T cA cB N M i).heap[T.heap.size + 1 + j]? = some (mI cB M) := by
  rw [mS_at, List.getElem?_append_right (by rw [Array.length_toList]; omega), Array.length_toList, show T.heap.size + 1 + j - T.heap.size = j + 1 by omega, List.getElem?_cons_succ, List.getElem?_replicate, if_pos hj]
theorem mS_zero : T.pushCell (mO cA N T.heap.size 0) = mS T cA cB N M 0 := by
  have h1 : T.heap.push (mO cA N T.heap.size 0) = (T.heap.toList ++ mO cA N T.heap.size 0 :: List.replicate 0 (mI cB M)).toArray := Array.toList_inj.mp Array.toList_push
  have h2 : T.slotsUsed + (mO cA N T.heap.size 0).slots.size = T.slotsUsed + N + 0 * M := by rw [show (mO cA N T.heap.size 0).slots.size = N from arrV_size _ _ _, Nat.zero_mul]; rfl
  unfold State.pushCell mS
  rw [h1, h2]
theorem mS_succ : ((mS T cA cB N M i).pushCell (mI cB M)).setCell T.heap.size (mO cA N T.heap.size (i + 1)) = mS T cA cB N M (i + 1) := by
  have h1 : ((T.heap.toList ++ mO cA N T.heap.size i :: List.replicate i (mI cB M)).toArray.push (mI cB M)).setIfInBounds T.heap.size (mO cA N T.heap.size (i + 1)) = (T.heap.toList ++ mO cA N T.heap.size (i + 1) :: List.replicate (i + 1) (mI cB M)).toArray := by
    refine Array.toList_inj.mp ?_
    rw [Array.toList_setIfInBounds, Array.toList_push, List.append_assoc, List.cons_append, ← List.replicate_succ', List.set_append_right _ _ (by rw [Array.length_toList]; exact Nat.le_refl _), Array.length_toList, Nat.sub_self, List.set_cons_zero]
  have h2 : T.slotsUsed + N + i * M + (mI cB M).slots.size = T.slotsUsed + N + (i + 1) * M := by rw [show (mI cB M).slots.size = M from arrV_size _ _ _, Nat.succ_mul, Nat.add_assoc]
  unfold State.pushCell State.setCell mS
  rw [← h1, ← h2]
end
section
variable {p : Program} {l : Launch} {e : Env} {R : Room} {s : State} {m : MethodId} {args : Array Value} {below : List Frame} {meth : Method} {c : Code} {T : State} {locs : List Loc} {cells slots : Nat}
variable {E : CtlPost} {d : Bool} {acts : List Action} {cA cB cc : ClassId} {kA kB : Class} {n k : Int32} {N M : Nat} {f : JFrame}
/-- the walk's count at each of them -/
theorem mq_count (X : Stand p l e R s m args below meth c T locs cells slots) (cA cB : ClassId) (N M i : Nat) : Stand p l e R s m args below meth c (mS T cA cB N M i) locs (cells + 1 + i) (slots + (N + i * M)) := by
  induction i with
  | zero =>
    have g := X.pushed (mO cA N T.heap.size 0)
    rw [mS_zero T cA cB N M, show (mO cA N T.heap.size 0).slots.size = N from arrV_size _ _ _] at g
    rw [Nat.zero_mul]
    exact g
  | succ i ih =>
    have g := (ih.pushed (mI cB M)).stored (mS_put T cA cB N M i _) i (.ref (T.heap.size + 1 + i))
    rw [mO_one, mS_succ, show (mI cB M).slots.size = M from arrV_size _ _ _] at g
    have g := g.dropFresh (fun x hx => by cases List.mem_singleton.mp hx; exact X.heapGrown)
    rw [show slots + (N + i * M) + M = slots + (N + (i + 1) * M) by rw [Nat.succ_mul]; omega] at g
    exact g
theorem mq_make (X : Stand p l e R s m args below meth c T locs cells slots) (hkA : T.vm.classes[cA]? = some kA) (hA : kA.kind = .array cB (.array .int)) (hkB : T.vm.classes[cB]? = some kB) (hB : kB.kind = .array cc .int)
    (hn : ¬ n < 0) (hk : ¬ k < 0) (hN : n.toNatClampNeg = N) (hM : k.toNatClampNeg = M) (hN1 : N ≤ 1000) (hM1 : M ≤ 1000) (hcells : cells + (1 + N) ≤ R.cells) (hslots : slots + (N + N * M) ≤ R.slots) {Q : Addr → Pre}
    (hq : ∀ d' a', Q T.heap.size d' a' ((mS T cA cB N M N).setTop f)) : wp (multianewarray.make cA [n, k]) Q E e d acts (T.setTop f) := by
  have lim : ∀ x : Nat, x ≤ 1000 → ¬ x > e.platform.arrayLengthLimit ∧ ¬ x * 4 > e.platform.maxHeapBytes := fun x hx => by
    rw [Launch.admits_arrayLengthLimit X.admits, Launch.admits_maxHeapBytes X.admits]
    omega
  have pay : ∀ i, i < N → (mS T cA cB N M i).heap.size + 1 ≤ e.platform.maxCells ∧ (mS T cA cB N M i).slotsUsed + M ≤ e.platform.maxSlots := fun i hi => by
    have h1 : (i + 1) * M ≤ N * M := Nat.mul_le_mul_right M hi
    rw [Nat.succ_mul] at h1
    exact (mq_count X cA cB N M i).roomAbove (by omega) (by omega)
  have row : ∀ (i : Nat) (d' : Bool) (a' : List Action) (Q' : Addr → Pre), i < N → (∀ a2, Q' (T.heap.size + 1 + i) d' a2 (((mS T cA cB N M i).pushCell (mI cB M)).setTop f)) → wp (multianewarray.make cB [k]) Q' E e d' a' ((mS T cA cB N M i).setTop f) := by
    intro i d' a' Q' hi h
    have hb : ((mS T cA cB N M i).setTop f).vm.classes[cB]? = some kB := hkB
    rw [multianewarray.make]
    simp only [wp_bind', W.ite, hk, if_false, wp_pure', W.theClass, hb, hB, Option.some.injEq, exists_eq_left', hM]
    refine W.newArray_of hb hB (lim M hM1).1 (lim M hM1).2 (pay i hi).1 (pay i hi).2 rfl (fun a2 => ?_)
    rw [show defaultValue FieldType.int = Value.int 0 from rfl, arrV_new]
    have h3 := h a2
    rw [← mS_size T cA cB N M i] at h3
    exact h3
  have ha : (T.setTop f).vm.classes[cA]? = some kA := hkA
  obtain ⟨r1, r2⟩ := X.roomAbove (a := 1) (b := N) (by omega) (by have := Nat.zero_le (N * M); omega)
  rw [multianewarray.make]
  simp only [wp_bind', W.ite, hn, if_false, wp_pure', W.theClass, ha, hA, Option.some.injEq, exists_eq_left', hN]
  refine W.newArray_of ha hA (lim N hN1).1 (lim N hN1).2 r1 r2 rfl (fun a1 => ?_)
  have hneg : [k].find? (· < 0) = none := List.find?_eq_none.mpr (fun x hx => by cases List.mem_singleton.mp hx; simpa using hk)
  simp only [hneg, ite_self, wp_bind', Std.Legacy.Range.forIn_eq_forIn_range', Std.Legacy.Range.size, Nat.sub_zero, Nat.add_sub_cancel, Nat.div_one]
  refine wp_forIn_inv (fun r u => ∃ i, i ≤ N ∧ r = List.range' i (N - i) ∧ u = (mS T cA cB N M i).setTop f) _ _ ⟨0, Nat.zero_le _, rfl, ?_⟩ ?_ ?_
  · rw [mO_none cA N T.heap.size, ← mS_zero]
    rfl
  · rintro x r u d' a' Q' ⟨i, hi, hr, rfl⟩ next
    have hlt : i < N := Nat.lt_of_le_of_ne hi (fun e1 => by rw [e1, Nat.sub_self] at hr; cases hr)
    rw [show N - i = (N - (i + 1)) + 1 by omega, List.range'_succ] at hr
    obtain ⟨rfl, rfl⟩ := List.cons.inj hr
    simp only [wp_bind']
    refine row x d' a' _ hlt (fun a2 => ?_)
    simp only [wp_bind', W.writeLoc, wp_pure']
    refine ⟨mO cA N T.heap.size x, mS_put T cA cB N M x _, ?_, ?_, ?_, next _ _ _ ⟨x + 1, hlt, rfl, ?_⟩⟩
    · simp [mO, arrV]
    · rw [show (mO cA N T.heap.size x).slots.size = N from arrV_size _ _ _]
      exact hlt
    · show State.fitsSlot _ cA .none x _ = true
      simp [State.fitsSlot, State.slotType?, mS, hkA, hA, fits]
    · rw [mO_one, ← mS_succ]
      rfl
  · rintro u d' a' ⟨i, hi, hr, rfl⟩
    have e1 : i = N := by
      have := congrArg List.length hr
      rw [List.length_range', List.length_nil] at this
      omega
    subst e1
    simp only [wp_pure']
    exact hq _ _
set_option maxHeartbeats 1000000 in
/-- the instruction -/
theorem mq_step (X : Stand p l e R s m args below meth c T locs cells slots) (hexec : p.tables.exec = Jvm.exec) {own : String} {index : Nat} (hown : s.vm.findClass own = some m.cls) (hcl : (Cond.classLink own index "[[I").before args s = true) (fA : s.vm.findClass "[[I" = some cA)
    (hkA : s.vm.classes[cA]? = some kA) (hA : kA.kind = .array cB (.array .int)) (hkB : s.vm.classes[cB]? = some kB) (hB : kB.kind = .array cc .int) {g : JFrame} (hg : g.method = m) (hdg : decode c.code g.pc = .ok (.multianewarray index 2, 4)) {rest : List Value} (hst : g.stack = .int k :: .int n :: rest)
    (hn : ¬ n < 0) (hk : ¬ k < 0) (hN : n.toNatClampNeg = N) (hM : k.toNatClampNeg = M) (hN1 : N ≤ 1000) (hM1 : M ≤ 1000) (hcells : cells + (1 + N) ≤ R.cells) (hslots : slots + (N + N * M) ≤ R.slots) :
    ∃ vm1 : Vm, Stand p l e R s m args below meth c (mS (T.setVm vm1) cA cB N M N) locs (cells + 1 + N) (slots + N + N * M) ∧
      ∀ z, Steps p.tables e below ((mS (T.setVm vm1) cA cB N M N).setTop { g with pc := g.pc + 4, stack := .ref T.heap.size :: rest }) z → Steps p.tables e below (T.setTop g) z := by
  subst hg
  obtain ⟨c1, q1, q2⟩ := Cond.classLink_spec hown hcl e.platform (by rw [X.admits.platform])
  cases q1.symm.trans fA
  obtain ⟨w1, w2, -⟩ := State.classEntry (e := e) X.warmed q2
  generalize T.vm.noted g.method.cls index (.cls cA) = vm1 at w1 w2
  obtain ⟨kA1, jA, eA⟩ := w2.alike.2.2 _ _ hkA
  obtain ⟨kB1, jB, eB⟩ := w2.alike.2.2 _ _ hkB
  have X1 := X.noted w2
  have XN := mq_count X1 cA cB N M N
  refine ⟨vm1, by rw [Nat.add_assoc slots]; exact XN, fun z hz => ?_⟩
  have top := X.here.top
  have fin := XN.here.top
  jvm_step X.here [hexec, hdg]
  rw [multianewarray.sem, wp_bind', W.resolveClassAt_links (State.method?_setTop g top) w1, wp_bind', W.popN, if_neg (by decide)]
  refine ⟨g, State.topJava?_setTop' (s := T.setVm vm1) g top, [.int n, .int k], rest, rfl, hst, ?_⟩
  simp only [List.mapM_cons, List.mapM_nil, wp_bind', wp_pure']
  have back : ((T.setTop g).setVm vm1).setTop { g with stack := rest } = (T.setVm vm1).setTop { g with stack := rest } := State.setTop_setTop (T.setVm vm1) g _
  rw [back]
  refine mq_make X1 jA (by rw [eA]; exact hA) jB (by rw [eB]; exact hB) hn hk hN hM hN1 hM1 hcells hslots (fun d' a' => ?_)
  simp only [wp_bind', W.mark, W.pushRef, State.topJava?_setTop' _ fin, Option.some.injEq, exists_eq_left', State.setTop_setTop]
  intro a2
  simp [jvm, fin]
  exact hz
end
theorem fs_over {args : Array Value} {s : State} (h : (Cond.arrayOver (.array .int)).before args s = true) : ∃ (cB cA : ClassId) (kA : Class), s.vm.findClass "[I" = some cB ∧ s.vm.findClass "[[I" = some cA ∧ s.vm.classes[cA]? = some kA ∧ kA.kind = .array cB (.array .int) := by
  unfold Cond.before Cond.holds at h
  simp only [Cond.value] at h
  have e1 : (FieldType.array .int).toString = "[I" := by decide
  have e2 : "[" ++ (FieldType.array .int).toString = "[[I" := by decide
  rw [e1] at h
  cases hc : s.vm.findClass "[I" with
  | none => rw [hc] at h; cases h
  | some cB =>
    rw [hc, Option.bind_some] at h
    have h := eq_of_beq h
    obtain ⟨cA, hi, h⟩ := Option.bind_eq_some_iff.mp h
    obtain ⟨kA, hk, h⟩ := Option.map_eq_some_iff.mp h
    obtain ⟨hlt, hp, -⟩ := Array.findIdx?_eq_some_iff_getElem.mp hi
    rw [(Array.getElem?_eq_some_iff.mp hk).2] at hp
    refine ⟨cB, cA, kA, rfl, ?_, hk, ?_⟩
    · cases hq : kA.kind <;> rw [hq] at h <;> simp at h
      exact h.2
    · cases hq : kA.kind <;> rw [hq] at h hp <;> simp at h hp
      rw [hp, h.1]
/-- the new cells: the outer row, then the rows in it -/
def mW (cI cII : ClassId) (q N M : Nat) : va_W := (q, .inl (cII, N, .inr (.inr (.inr (.inr (fun i => if i < N then some (q + 1 + i) else none)))))) :: (List.range N).map (fun i => (q + 1 + i, .inl (cI, M, .inl (fun _ => 0))))
theorem mW_key {cI cII : ClassId} {q N M k : Nat} {x : Nat × va_E} (h : (mW cI cII q N M)[k]? = some x) : x.1 = q + k := by
  cases k with
  | zero => cases h; rfl
  | succ k =>
    have h : ((List.range N).map (fun i => ((q + 1 + i, .inl (cI, M, .inl (fun _ => 0))) : Nat × va_E)))[k]? = some x := h
    rw [List.getElem?_map] at h
    obtain ⟨i, h1, h2⟩ := Option.map_eq_some_iff.mp h
    have h3 := List.mem_of_getElem? h1
    have h4 := (List.getElem?_eq_some_iff.mp h1).2
    rw [List.getElem_range] at h4
    rw [← h2, ← h4]
    show q + 1 + k = q + (k + 1)
    omega
section
variable {p : Program} {l : Launch} {e : Env} {R : Room} {s : State} {m : MethodId} {args : Array Value} {below : List Frame} {meth : Method} {c : Code} {H : Heap} {locs : List Loc} {cells slots : Nat} {Q : State → Prop}
variable {cc : ByteArray} {pc : Nat} {ls : Array Slot} {rest : List Value} {D : va_G} {cl : List vw_C} {A : Nat → Prop} {ws : va_W} {H0 : Heap} {cI cII : ClassId}
theorem fs_ki (hK : va_K D cl (fs_ty cI cII) s) : s.vm.findClass "[I" = some cI := (hK.2 0 _ rfl).2
theorem fs_kii (hK : va_K D cl (fs_ty cI cII) s) : s.vm.findClass "[[I" = some cII := (hK.2 1 _ rfl).2
/-- new int[N] where the class of such rows is known -/
theorem fs_na (hexec : p.tables.exec = Jvm.exec) (hb : c.code = cc) (har : (Cond.arrayClass .int).before args s = true) (hK : va_K D cl (fs_ty cI cII) s) (hP : va_P D cl ws H) (hD : va_D A ws) (hS : va_S A H0 H locs) (hA : ∀ q, H0.size ≤ q → A q)
    {n : Int32} {N : Nat} (hn : ¬ n < 0) (hN : n.toNatClampNeg = N) (hN1 : N ≤ 100000) (hcells : cells + 1 ≤ R.cells) (hslots : slots + N ≤ R.slots) (hdg : decode cc pc = .ok (.newarray .int, 2))
    (kk : ∀ (q : Nat) (H1 : Heap), va_P D cl (ws ++ [(q, .inl (cI, N, .inl (fun _ => 0)))]) H1 → va_D A (ws ++ [(q, .inl (cI, N, .inl (fun _ => 0)))]) → va_S A H0 H1 locs → W p l e R s m args below meth c H1 locs (cells + 1) (slots + N) Q (F0 m (pc + 2) ls (.ref q :: rest))) : W p l e R s m args below meth c H locs cells slots Q (F0 m pc ls (.int n :: rest)) := by
  refine va_newa (atype := .int) hexec hb har (ty := .int) rfl hK hP hD hS hA (a0 := (N, .inl (fun _ => 0))) (fun cA => rfl) hn hN (by show N * 4 ≤ _; omega) hcells hslots hdg (fun q cA H1 hK1 hP1 hD1 hS1 => ?_)
  have h1 : s.vm.findClass "[I" = some cA := (hK1.2 2 _ rfl).2
  have h2 : cA = cI := Option.some.inj (h1.symm.trans (fs_ki hK))
  subst h2
  exact kk q H1 hP1 hD1 hS1
set_option maxHeartbeats 1000000 in
/-- new int[N][M] -/
theorem fs_mna (hexec : p.tables.exec = Jvm.exec) (hb : c.code = cc) {own : String} {index : Nat} (hown : s.vm.findClass own = some m.cls) (hcl : (Cond.classLink own index "[[I").before args s = true) (hO : ∃ kA : Class, s.vm.classes[cII]? = some kA ∧ kA.kind = .array cI (.array .int)) (har : (Cond.arrayClass .int).before args s = true)
    (hK : va_K D cl (fs_ty cI cII) s) (hP : va_P D cl ws H) (hD : va_D A ws) (hS : va_S A H0 H locs) (hA : ∀ q, H0.size ≤ q → A q) {n k : Int32} {N M : Nat} (hn : ¬ n < 0) (hk : ¬ k < 0) (hN : n.toNatClampNeg = N) (hM : k.toNatClampNeg = M) (hN1 : N ≤ 1000) (hM1 : M ≤ 1000)
    (hcells : cells + (1 + N) ≤ R.cells) (hslots : slots + (N + N * M) ≤ R.slots) (hdg : decode cc pc = .ok (.multianewarray index 2, 4))
    (kk : ∀ (q : Nat) (H1 : Heap), va_P D cl (ws ++ mW cI cII q N M) H1 → va_D A (ws ++ mW cI cII q N M) → va_S A H0 H1 locs → W p l e R s m args below meth c H1 locs (cells + 1 + N) (slots + N + N * M) Q (F0 m (pc + 4) ls (.ref q :: rest))) : W p l e R s m args below meth c H locs cells slots Q (F0 m pc ls (.int k :: .int n :: rest)) := by
  subst hN
  subst hM
  intro T hT X
  obtain ⟨kA, hkA, hkindA⟩ := hO
  obtain ⟨cB', kB, c3, f3, hkB, hkindB⟩ := Cond.arrayClass_spec har
  have f2 := fs_kii hK
  have e3 : cB' = cI := Option.some.inj (f3.symm.trans (fs_ki hK))
  subst e3
  obtain ⟨vm₁, X', step⟩ := mq_step X hexec hown hcl f2 hkA hkindA hkB hkindB (g := F0 m pc ls (.int k :: .int n :: rest)) rfl (by rw [hb]; exact hdg) rfl hn hk rfl rfl hN1 hM1 hcells hslots
  have hTs : (T.setVm vm₁).heap = H := hT
  have hz := mS_size (T.setVm vm₁) cII cB' n.toNatClampNeg k.toNatClampNeg n.toNatClampNeg
  have ho := mS_out (T.setVm vm₁) cII cB' n.toNatClampNeg k.toNatClampNeg n.toNatClampNeg
  have hr : ∀ j, j < n.toNatClampNeg → _ := fun j => mS_row (T.setVm vm₁) cII cB' n.toNatClampNeg k.toNatClampNeg (i := n.toNatClampNeg) (j := j)
  have hold : ∀ a, a < H.size → (mS (T.setVm vm₁) cII cB' n.toNatClampNeg k.toNatClampNeg n.toNatClampNeg).heap[a]? = H[a]? := fun a ha => by
    rw [mS_old _ _ _ _ _ _ (by rw [hTs]; exact ha), hTs]
  rw [hTs] at hz ho
  simp only [hTs] at hr
  generalize mS (T.setVm vm₁) cII cB' n.toNatClampNeg k.toNatClampNeg n.toNatClampNeg = F at X' step hz ho hr hold
  have hnew : ∀ (k9 : Nat) (x : Nat × va_E), (mW cB' cII H.size n.toNatClampNeg k.toNatClampNeg)[k9]? = some x → va_at D cl x F.heap := by
    intro k9 x hx
    cases k9 with
    | zero => cases hx; exact ho
    | succ j =>
      have hx : ((List.range n.toNatClampNeg).map (fun i => ((H.size + 1 + i, .inl (cB', k.toNatClampNeg, .inl (fun _ => 0))) : Nat × va_E)))[j]? = some x := hx
      obtain ⟨i, hi, rfl⟩ := List.mem_map.mp (List.mem_of_getElem? hx)
      exact hr i (List.mem_range.mp hi)
  have hP1 : va_P D cl (ws ++ mW cB' cII H.size n.toNatClampNeg k.toNatClampNeg) F.heap := (hP.kept (fun k9 x hx => hold x.1 ((hP k9 x hx).lt))).app hnew
  have hD1 : va_D A (ws ++ mW cB' cII H.size n.toNatClampNeg k.toNatClampNeg) := by
    have hlt : ∀ (k9 : Nat) (x : Nat × va_E), ws[k9]? = some x → x.1 < H.size := fun k9 x hx => (hP k9 x hx).lt
    refine ⟨fun i j x y hi hj hxy => ?_, fun k9 x hx => ?_⟩
    · by_cases h1 : i < ws.length
      · rw [List.getElem?_append_left h1] at hi
        by_cases h2 : j < ws.length
        · rw [List.getElem?_append_left h2] at hj
          exact hD.1 i j x y hi hj hxy
        · rw [List.getElem?_append_right (by omega)] at hj
          have := hlt _ _ hi
          have := mW_key hj
          omega
      · rw [List.getElem?_append_right (by omega)] at hi
        have := mW_key hi
        by_cases h2 : j < ws.length
        · rw [List.getElem?_append_left h2] at hj
          have := hlt _ _ hj
          omega
        · rw [List.getElem?_append_right (by omega)] at hj
          have := mW_key hj
          omega
    · by_cases h1 : k9 < ws.length
      · rw [List.getElem?_append_left h1] at hx
        exact hD.2 k9 x hx
      · rw [List.getElem?_append_right (by omega)] at hx
        refine hA _ ?_
        have := mW_key hx
        have := hS.1
        omega
  obtain ⟨t, a1, b1⟩ := kk H.size F.heap hP1 hD1 ⟨by have := hS.1; omega, fun x h1 h2 => (hold x (Nat.lt_of_lt_of_le h1 hS.1)).trans (hS.2.1 x h1 h2), hS.2.2⟩ F rfl X'
  refine ⟨t, step t ?_, b1⟩
  rw [show T.heap.size = H.size by rw [hT]]
  exact a1
end
