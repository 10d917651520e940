/-! new int[N][M] over the machine's own make -/
def mO (cA : ClassId) (N h i : Nat) : Cell := arrV cA N (fun j => va_rf (if j < i then some (h + 1 + j) else none))
def mI (cB : ClassId) (M : Nat) : Cell := arrV cB M (fun _ => .int 0)
theorem mO_cls (cA : ClassId) (N h i : Nat) : (mO cA N h i).cls = cA := rfl
theorem mO_vm (cA : ClassId) (N h i : Nat) : (mO cA N h i).vm = .none := rfl
theorem mO_size (cA : ClassId) (N h i : Nat) : (mO cA N h i).slots.size = N := arrV_size _ _ _
theorem mI_size (cB : ClassId) (M : Nat) : (mI cB M).slots.size = M := arrV_size _ _ _
theorem mO_new (cA : ClassId) (N h : Nat) : ({ cls := cA, slots := Array.replicate N .null } : Cell) = mO cA N h 0 := by
  rw [arrV_new]
  refine congrArg (arrV cA N) (funext fun j => ?_)
  rw [if_neg (Nat.not_lt_zero j)]
  rfl
theorem mI_new (cB : ClassId) (M : Nat) : ({ cls := cB, slots := Array.replicate M (.int 0) } : Cell) = mI cB M := arrV_new cB M (.int 0)
theorem mO_set (cA : ClassId) (N h i : Nat) : (mO cA N h i).setSlot i (.ref (h + 1 + i)) = mO cA N h (i + 1) := by
  unfold mO
  rw [arrV_store]
  refine congrArg (arrV cA N) (funext fun j => ?_)
  unfold updV
  by_cases e : j = i
  · subst e
    rw [if_pos rfl, if_pos (Nat.lt_succ_self j)]
    rfl
  · rw [if_neg e]
    show va_rf (if j < i then some (h + 1 + j) else none) = va_rf (if j < i + 1 then some (h + 1 + j) else none)
    by_cases h1 : j < i
    · rw [if_pos h1, if_pos (by omega)]
    · rw [if_neg h1, if_neg (by omega)]
/-- the state when so many rows lie in the outer one -/
def mT (T : State) (cA cB : ClassId) (N M : Nat) : Nat → State
  | 0 => T.pushCell (mO cA N T.heap.size 0)
  | i + 1 => ((mT T cA cB N M i).pushCell (mI cB M)).setCell T.heap.size (mO cA N T.heap.size (i + 1))
theorem mT_top (T : State) (f : JFrame) (cA cB : ClassId) (N M : Nat) : ∀ i, mT (T.setTop f) cA cB N M i = (mT T cA cB N M i).setTop f
  | 0 => rfl
  | i + 1 => by
    show ((mT (T.setTop f) cA cB N M i).pushCell (mI cB M)).setCell T.heap.size _ = _
    rw [mT_top T f cA cB N M i]
    rfl
theorem mT_vm (T : State) (cA cB : ClassId) (N M : Nat) : ∀ i, (mT T cA cB N M i).vm = T.vm
  | 0 => rfl
  | i + 1 => mT_vm T cA cB N M i
theorem mT_used (T : State) (cA cB : ClassId) (N M : Nat) : ∀ i, (mT T cA cB N M i).slotsUsed = T.slotsUsed + N + i * M
  | 0 => by
    show T.slotsUsed + (mO cA N T.heap.size 0).slots.size = _
    rw [mO_size]; omega
  | i + 1 => by
    show (mT T cA cB N M i).slotsUsed + (mI cB M).slots.size = _
    rw [mI_size, mT_used T cA cB N M i, Nat.succ_mul]; omega
theorem mT_size (T : State) (cA cB : ClassId) (N M : Nat) : ∀ i, (mT T cA cB N M i).heap.size = T.heap.size + 1 + i
  | 0 => by
    show (T.heap.push _).size = _
    rw [Array.size_push]
  | i + 1 => by
    show (((mT T cA cB N M i).heap.push _).setIfInBounds _ _).size = _
    rw [Array.size_setIfInBounds, Array.size_push, mT_size T cA cB N M i]; omega
theorem mT_lt (T : State) (cA cB : ClassId) (N M : Nat) (i a : Nat) (h : a ≤ T.heap.size + i) : a < (mT T cA cB N M i).heap.size := by
  rw [mT_size]; omega
theorem mT_out (T : State) (cA cB : ClassId) (N M : Nat) : ∀ i, (mT T cA cB N M i).heap[T.heap.size]? = some (mO cA N T.heap.size i)
  | 0 => State.heap_pushCell_size _ _
  | i + 1 => by
    refine State.heap_setCell_self (c := mO cA N T.heap.size i) ?_
    rw [State.heap_pushCell_of_lt _ _ (mT_lt T cA cB N M i _ (Nat.le_add_right _ _))]
    exact mT_out T cA cB N M i
theorem mT_old (T : State) (cA cB : ClassId) (N M : Nat) {a : Addr} (ha : a < T.heap.size) : ∀ i, (mT T cA cB N M i).heap[a]? = T.heap[a]?
  | 0 => State.heap_pushCell_of_lt _ _ ha
  | i + 1 => by
    refine (State.heap_setCell_other (Nat.ne_of_gt ha)).trans ?_
    rw [State.heap_pushCell_of_lt _ _ (mT_lt T cA cB N M i _ (Nat.le_trans (Nat.le_of_lt ha) (Nat.le_add_right _ _)))]
    exact mT_old T cA cB N M ha i
theorem mT_row (T : State) (cA cB : ClassId) (N M : Nat) : ∀ i j, j < i → (mT T cA cB N M i).heap[T.heap.size + 1 + j]? = some (mI cB M)
  | 0, j, h => absurd h (Nat.not_lt_zero j)
  | i + 1, j, h => by
    refine (State.heap_setCell_other (show T.heap.size ≠ T.heap.size + 1 + j by omega)).trans ?_
    by_cases hj : j = i
    · subst hj
      rw [← mT_size T cA cB N M j]
      exact State.heap_pushCell_size _ _
    · rw [State.heap_pushCell_of_lt _ _ (mT_lt T cA cB N M i _ (show T.heap.size + 1 + j ≤ T.heap.size + i by omega))]
      exact mT_row T cA cB N M i j (by omega)
theorem mT_stand {p : Program} {l : Launch} {e : Env} {R : Room} {s : State} {m : MethodId} {args : Array Value} {below : List Frame} {meth : Method} {c : Code} {T : State} {locs : List Loc} {cells slots : Nat} (X : Stand p l e R s m args below meth c T locs cells slots) (cA cB : ClassId) (N M : Nat) :
    ∀ i, Stand p l e R s m args below meth c (mT T cA cB N M i) locs (cells + 1 + i) (slots + N + i * M)
  | 0 => by
    have h := X.pushed (mO cA N T.heap.size 0)
    rw [mO_size] at h
    rw [Nat.zero_mul]
    exact h
  | i + 1 => by
    have h := (mT_stand X cA cB N M i).pushed (mI cB M)
    rw [mI_size] at h
    have hc : ((mT T cA cB N M i).pushCell (mI cB M)).heap[T.heap.size]? = some (mO cA N T.heap.size i) := by
      rw [State.heap_pushCell_of_lt _ _ (mT_lt T cA cB N M i _ (Nat.le_add_right _ _))]
      exact mT_out T cA cB N M i
    have h2 := h.stored hc i (.ref (T.heap.size + 1 + i))
    rw [mO_set] at h2
    have h3 := Stand.dropFresh h2 (fun x hx => by
      rw [List.mem_singleton] at hx
      rw [hx]
      exact X.heapGrown)
    rw [show slots + N + (i + 1) * M = slots + N + i * M + M by rw [Nat.succ_mul]; omega]
    exact h3
section
variable {E : CtlPost} {e : Env} {d : Bool} {acts : List Action} {s : State}
theorem mq_row {cB cc : ClassId} {kB : Class} {m : Int32} (hkB : s.vm.classes[cB]? = some kB) (hkind : kB.kind = .array cc .int) (hm : ¬ m < 0) (hl : ¬ m.toNatClampNeg > e.platform.arrayLengthLimit) (hh : ¬ m.toNatClampNeg * 4 > e.platform.maxHeapBytes)
    (h1 : s.heap.size < e.platform.maxCells) (h2 : s.slotsUsed + m.toNatClampNeg ≤ e.platform.maxSlots) {Q : Addr → Pre} (hq : ∀ acts', Q s.heap.size d acts' (s.pushCell (mI cB m.toNatClampNeg))) : wp (multianewarray.make cB [m]) Q E e d acts s := by
  rw [multianewarray.make]
  simp only [wp_bind', W.ite, hm, if_false, wp_pure', W.theClass, hkB, hkind, Option.some.injEq, exists_eq_left']
  exact W.newArray_of hkB hkind hl hh h1 h2 rfl (fun acts' => by rw [show defaultValue FieldType.int = Value.int 0 from rfl, mI_new]; exact hq acts')
set_option maxHeartbeats 1000000 in
theorem mq_all {cA cB cc : ClassId} {kA kB : Class} {n m : Int32} (hkA : s.vm.classes[cA]? = some kA) (hkindA : kA.kind = .array cB (.array .int)) (hkB : s.vm.classes[cB]? = some kB) (hkind : kB.kind = .array cc .int) (hn : ¬ n < 0) (hm : ¬ m < 0)
    (hl1 : ¬ n.toNatClampNeg > e.platform.arrayLengthLimit) (hh1 : ¬ n.toNatClampNeg * 4 > e.platform.maxHeapBytes) (hl : ¬ m.toNatClampNeg > e.platform.arrayLengthLimit) (hh : ¬ m.toNatClampNeg * 4 > e.platform.maxHeapBytes)
    (h1 : s.heap.size + (1 + n.toNatClampNeg) ≤ e.platform.maxCells) (h2 : s.slotsUsed + (n.toNatClampNeg + n.toNatClampNeg * m.toNatClampNeg) ≤ e.platform.maxSlots) {Q : Addr → Pre}
    (hq : ∀ d' acts', Q s.heap.size d' acts' (mT s cA cB n.toNatClampNeg m.toNatClampNeg n.toNatClampNeg)) : wp (multianewarray.make cA [n, m]) Q E e d acts s := by
  rw [multianewarray.make]
  simp only [wp_bind', W.ite, hn, if_false, wp_pure', W.theClass, hkA, hkindA, Option.some.injEq, exists_eq_left']
  refine W.newArray_of hkA hkindA hl1 hh1 (by omega) (by have := Nat.zero_le (n.toNatClampNeg * m.toNatClampNeg); omega) rfl (fun acts' => ?_)
  rw [mO_new cA n.toNatClampNeg s.heap.size]
  have hf : ([m].find? (· < 0)) = none := by simp [hm]
  simp only [hf]
  rw [ite_self, wp_bind', Std.Legacy.Range.forIn_eq_forIn_range']
  have hz : ([:n.toNatClampNeg] : Std.Legacy.Range).size = n.toNatClampNeg := by simp [Std.Legacy.Range.size]
  rw [hz]
  generalize hN : n.toNatClampNeg = N at hq h1 h2 ⊢
  generalize hM : m.toNatClampNeg = M at hq h2 ⊢
  refine wp_forIn_inv (fun r t => ∃ i, i + r.length = N ∧ r = List.range' i r.length ∧ t = mT s cA cB N M i) _ _ ⟨0, by simp, by simp, rfl⟩ ?_ ?_
  · rintro x r t d' a' Q' ⟨i, hi, hr, rfl⟩ hnext
    rw [List.length_cons] at hi hr
    rw [List.range'_succ] at hr
    obtain ⟨hx, hr⟩ := List.cons.inj hr
    subst hx
    have hu := mT_used s cA cB N M x
    have hs := mT_size s cA cB N M x
    have hmul : x * M + M ≤ N * M := by
      have := Nat.mul_le_mul_right M (show x + 1 ≤ N by omega)
      rw [Nat.succ_mul] at this
      exact this
    simp only [wp_bind']
    refine mq_row (by rw [mT_vm]; exact hkB) hkind hm hl hh (by rw [hs]; omega) (by rw [hu, hM]; omega) (fun a'' => ?_)
    rw [hM]
    simp only [wp_bind', W.writeLoc, wp_pure']
    refine ⟨mO cA N s.heap.size x, ?_, by rw [mO_vm]; simp, by rw [mO_size]; omega, ?_, hnext _ _ _ ⟨x + 1, by omega, hr, ?_⟩⟩
    · rw [State.heap_pushCell_of_lt _ _ (mT_lt s cA cB N M x _ (Nat.le_add_right _ _))]
      exact mT_out s cA cB N M x
    · rw [mO_cls, mO_vm]
      simp [State.fitsSlot, State.slotType?, mT_vm, hkA, hkindA, fits]
    · rw [hs, mO_set]
      rfl
  · rintro t d' a' ⟨i, hi, -, rfl⟩
    simp only [wp_pure']
    rw [show i = N by simpa using hi]
    exact hq _ _
end
theorem fs_over {args : Array Value} {s : State} (h : (Cond.arrayOver (.array .int)).before args s = true) : ∃ (cB cA : ClassId) (kA : Class), s.vm.findClass "[I" = some cB ∧ s.vm.findClass "[[I" = some cA ∧ s.vm.classes[cA]? = some kA ∧ kA.kind = .array cB (.array .int) := by
  unfold Cond.before Cond.holds at h
  simp only [Cond.value] at h
  have e1 : (FieldType.array .int).toString = "[I" := by decide
  have e2 : "[" ++ (FieldType.array .int).toString = "[[I" := by decide
  rw [e1] at h
  cases hc : s.vm.findClass "[I" with
  | none => rw [hc] at h; cases h
  | some cB =>
    rw [hc, Option.bind_some] at h
    have h := eq_of_beq h
    obtain ⟨cA, hi, h⟩ := Option.bind_eq_some_iff.mp h
    obtain ⟨kA, hk, h⟩ := Option.map_eq_some_iff.mp h
    obtain ⟨hlt, hp, -⟩ := Array.findIdx?_eq_some_iff_getElem.mp hi
    rw [(Array.getElem?_eq_some_iff.mp hk).2] at hp
    refine ⟨cB, cA, kA, rfl, ?_, hk, ?_⟩
    · cases hq : kA.kind <;> rw [hq] at h <;> simp at h
      exact h.2
    · cases hq : kA.kind <;> rw [hq] at h hp <;> simp at h hp
      rw [hp, h.1]
/-- the new cells: the outer row, then the rows in it -/
def mW (cI cII : ClassId) (q N M : Nat) : va_W := (q, .inl (cII, N, .inr (.inr (.inr (.inr (fun i => if i < N then some (q + 1 + i) else none)))))) :: (List.range N).map (fun i => (q + 1 + i, .inl (cI, M, .inl (fun _ => 0))))
theorem mW_key {cI cII : ClassId} {q N M k : Nat} {x : Nat × va_E} (h : (mW cI cII q N M)[k]? = some x) : x.1 = q + k := by
  cases k with
  | zero => cases h; rfl
  | succ k =>
    have h : ((List.range N).map (fun i => ((q + 1 + i, .inl (cI, M, .inl (fun _ => 0))) : Nat × va_E)))[k]? = some x := h
    rw [List.getElem?_map] at h
    obtain ⟨i, h1, h2⟩ := Option.map_eq_some_iff.mp h
    have h3 := List.mem_of_getElem? h1
    have h4 := (List.getElem?_eq_some_iff.mp h1).2
    rw [List.getElem_range] at h4
    rw [← h2, ← h4]
    show q + 1 + k = q + (k + 1)
    omega
set_option maxHeartbeats 2000000 in
theorem mq_stand {p : Program} {l : Launch} {e : Env} {R : Room} {s : State} {m : MethodId} {args : Array Value} {below : List Frame} {meth : Method} {c : Code} {T : State} {locs : List Loc} {cells slots : Nat} (X : Stand p l e R s m args below meth c T locs cells slots) (hexec : p.tables.exec = Jvm.exec) {own : String} {index : Nat}
    (hown : s.vm.findClass own = some m.cls) (hcl : (Cond.classLink own index "[[I").before args s = true) {cI cII cc : ClassId} {kA kB : Class} (fA : s.vm.findClass "[[I" = some cII) (hkA : s.vm.classes[cII]? = some kA) (hkindA : kA.kind = .array cI (.array .int)) (hkB : s.vm.classes[cI]? = some kB) (hkindB : kB.kind = .array cc .int)
    {g : JFrame} (hg : g.method = m) (hdg : decode c.code g.pc = .ok (.multianewarray index 2, 4)) {n k : Int32} {rest : List Value} (hst : g.stack = .int k :: .int n :: rest) (hn : ¬ n < 0) (hk : ¬ k < 0) (hN : n.toNatClampNeg ≤ 1000) (hM : k.toNatClampNeg ≤ 1000)
    (hcells : cells + (1 + n.toNatClampNeg) ≤ R.cells) (hslots : slots + (n.toNatClampNeg + n.toNatClampNeg * k.toNatClampNeg) ≤ R.slots) :
    ∃ vm₁ : Vm, Stand p l e R s m args below meth c (mT (T.setVm vm₁) cII cI n.toNatClampNeg k.toNatClampNeg n.toNatClampNeg) locs (cells + 1 + n.toNatClampNeg) (slots + n.toNatClampNeg + n.toNatClampNeg * k.toNatClampNeg) ∧
      ∀ target, Steps p.tables e below ((mT (T.setVm vm₁) cII cI n.toNatClampNeg k.toNatClampNeg n.toNatClampNeg).setTop { g with pc := g.pc + 4, stack := .ref T.heap.size :: rest }) target → Steps p.tables e below (T.setTop g) target := by
  subst hg
  have hpl : e.platform.magicAccessors = ({} : Platform).magicAccessors := by rw [X.admits.platform]
  obtain ⟨c0, g1, g2⟩ := Cond.classLink_spec hown hcl e.platform hpl
  have ec : c0 = cII := Option.some.inj (g1.symm.trans fA)
  subst ec
  obtain ⟨w1, w2, w3⟩ := State.classEntry (e := e) X.warmed g2
  generalize T.vm.noted g.method.cls index (.cls c0) = vm₁ at w1 w2 w3
  obtain ⟨kA₁, qA, eA⟩ := w2.alike.2.2 _ _ hkA
  obtain ⟨kB₁, qB, eB⟩ := w2.alike.2.2 _ _ hkB
  have hkindA₁ : kA₁.kind = .array cI (.array .int) := by rw [eA]; exact hkindA
  have hkindB₁ : kB₁.kind = .array cc .int := by rw [eB]; exact hkindB
  have X₁ := X.noted w2
  have XF := mT_stand X₁ c0 cI n.toNatClampNeg k.toNatClampNeg n.toNatClampNeg
  obtain ⟨r1, r2⟩ := X.roomAbove hcells hslots
  refine ⟨vm₁, XF, fun target hrest => ?_⟩
  have hl1 : ¬ n.toNatClampNeg > e.platform.arrayLengthLimit := by rw [Launch.admits_arrayLengthLimit X.admits]; omega
  have hh1 : ¬ n.toNatClampNeg * 4 > e.platform.maxHeapBytes := by rw [Launch.admits_maxHeapBytes X.admits]; omega
  have hl2 : ¬ k.toNatClampNeg > e.platform.arrayLengthLimit := by rw [Launch.admits_arrayLengthLimit X.admits]; omega
  have hh2 : ¬ k.toNatClampNeg * 4 > e.platform.maxHeapBytes := by rw [Launch.admits_maxHeapBytes X.admits]; omega
  jvm_step X.here [hexec, hdg]
  simp only [multianewarray.sem, wp_bind', W.resolveClassAt_links (State.method?_setTop g X.here.top) w1]
  rw [W.popN, if_neg (by decide)]
  refine ⟨g, State.topJava?_setTop' (s := T.setVm vm₁) g X.here.top, [.int n, .int k], rest, rfl, hst, ?_⟩
  simp only [List.mapM_cons, List.mapM_nil, wp_bind', wp_pure']
  refine mq_all (kA := kA₁) (kB := kB₁) (by exact qA) hkindA₁ (by exact qB) hkindB₁ hn hk hl1 hh1 hl2 hh2 (by exact r1) (by exact r2) (fun d' a' => ?_)
  rw [show ((T.setTop g).setVm vm₁).setTop { g with stack := rest } = (T.setVm vm₁).setTop { g with stack := rest } from by
    show ((T.setVm vm₁).setTop g).setTop _ = _
    rw [State.setTop_setTop], mT_top]
  simp only [wp_bind', W.mark, W.pushRef, State.topJava?_setTop' _ XF.here.top, Option.some.injEq, exists_eq_left', State.setTop_setTop, State.heap_setTop]
  intro a2
  simp [jvm, XF.here.top]
  exact hrest
section
variable {p : Program} {l : Launch} {e : Env} {R : Room} {s : State} {m : MethodId} {args : Array Value} {below : List Frame} {meth : Method} {c : Code} {H : Heap} {locs : List Loc} {cells slots : Nat} {Q : State → Prop}
variable {cc : ByteArray} {pc : Nat} {ls : Array Slot} {rest : List Value} {D : va_G} {cl : List vw_C} {A : Nat → Prop} {ws : va_W} {H0 : Heap} {cI cII : ClassId}
theorem fs_ki (hK : va_K D cl (fs_ty cI cII) s) : s.vm.findClass "[I" = some cI := (hK.2 0 _ rfl).2
theorem fs_kii (hK : va_K D cl (fs_ty cI cII) s) : s.vm.findClass "[[I" = some cII := (hK.2 1 _ rfl).2
/-- new int[N] where the class of such rows is known -/
theorem fs_na (hexec : p.tables.exec = Jvm.exec) (hb : c.code = cc) (har : (Cond.arrayClass .int).before args s = true) (hK : va_K D cl (fs_ty cI cII) s) (hP : va_P D cl ws H) (hD : va_D A ws) (hS : va_S A H0 H locs) (hA : ∀ q, H0.size ≤ q → A q)
    {n : Int32} {N : Nat} (hn : ¬ n < 0) (hN : n.toNatClampNeg = N) (hN1 : N ≤ 100000) (hcells : cells + 1 ≤ R.cells) (hslots : slots + N ≤ R.slots) (hdg : decode cc pc = .ok (.newarray .int, 2))
    (kk : ∀ (q : Nat) (H1 : Heap), va_P D cl (ws ++ [(q, .inl (cI, N, .inl (fun _ => 0)))]) H1 → va_D A (ws ++ [(q, .inl (cI, N, .inl (fun _ => 0)))]) → va_S A H0 H1 locs → W p l e R s m args below meth c H1 locs (cells + 1) (slots + N) Q (F0 m (pc + 2) ls (.ref q :: rest))) : W p l e R s m args below meth c H locs cells slots Q (F0 m pc ls (.int n :: rest)) := by
  refine va_newa (atype := .int) hexec hb har (ty := .int) rfl hK hP hD hS hA (a0 := (N, .inl (fun _ => 0))) (fun cA => rfl) hn hN (by show N * 4 ≤ _; omega) hcells hslots hdg (fun q cA H1 hK1 hP1 hD1 hS1 => ?_)
  have h1 : s.vm.findClass "[I" = some cA := (hK1.2 2 _ rfl).2
  have h2 : cA = cI := Option.some.inj (h1.symm.trans (fs_ki hK))
  subst h2
  exact kk q H1 hP1 hD1 hS1
set_option maxHeartbeats 1000000 in
/-- new int[N][M] -/
theorem fs_mna (hexec : p.tables.exec = Jvm.exec) (hb : c.code = cc) {own : String} {index : Nat} (hown : s.vm.findClass own = some m.cls) (hcl : (Cond.classLink own index "[[I").before args s = true) (hO : ∃ kA : Class, s.vm.classes[cII]? = some kA ∧ kA.kind = .array cI (.array .int)) (har : (Cond.arrayClass .int).before args s = true)
    (hK : va_K D cl (fs_ty cI cII) s) (hP : va_P D cl ws H) (hD : va_D A ws) (hS : va_S A H0 H locs) (hA : ∀ q, H0.size ≤ q → A q) {n k : Int32} {N M : Nat} (hn : ¬ n < 0) (hk : ¬ k < 0) (hN : n.toNatClampNeg = N) (hM : k.toNatClampNeg = M) (hN1 : N ≤ 1000) (hM1 : M ≤ 1000)
    (hcells : cells + (1 + N) ≤ R.cells) (hslots : slots + (N + N * M) ≤ R.slots) (hdg : decode cc pc = .ok (.multianewarray index 2, 4))
    (kk : ∀ (q : Nat) (H1 : Heap), va_P D cl (ws ++ mW cI cII q N M) H1 → va_D A (ws ++ mW cI cII q N M) → va_S A H0 H1 locs → W p l e R s m args below meth c H1 locs (cells + 1 + N) (slots + N + N * M) Q (F0 m (pc + 4) ls (.ref q :: rest))) : W p l e R s m args below meth c H locs cells slots Q (F0 m pc ls (.int k :: .int n :: rest)) := by
  subst hN
  subst hM
  intro T hT X
  obtain ⟨kA, hkA, hkindA⟩ := hO
  obtain ⟨cB', kB, c3, f3, hkB, hkindB⟩ := Cond.arrayClass_spec har
  have f2 := fs_kii hK
  have e3 : cB' = cI := Option.some.inj (f3.symm.trans (fs_ki hK))
  subst e3
  obtain ⟨vm₁, X', step⟩ := mq_stand X hexec hown hcl f2 hkA hkindA hkB hkindB (g := F0 m pc ls (.int k :: .int n :: rest)) rfl (by rw [hb]; exact hdg) rfl hn hk hN1 hM1 hcells hslots
  have hz := mT_size (T.setVm vm₁) cII cB' n.toNatClampNeg k.toNatClampNeg n.toNatClampNeg
  have ho := mT_out (T.setVm vm₁) cII cB' n.toNatClampNeg k.toNatClampNeg n.toNatClampNeg
  have hr := mT_row (T.setVm vm₁) cII cB' n.toNatClampNeg k.toNatClampNeg n.toNatClampNeg
  have hold : ∀ a, a < H.size → (mT (T.setVm vm₁) cII cB' n.toNatClampNeg k.toNatClampNeg n.toNatClampNeg).heap[a]? = H[a]? := fun a ha => (mT_old (T.setVm vm₁) cII cB' n.toNatClampNeg k.toNatClampNeg (by show a < T.heap.size; rw [hT]; exact ha) n.toNatClampNeg).trans (by show T.heap[a]? = _; rw [hT])
  have hTs : (T.setVm vm₁).heap.size = H.size := by show T.heap.size = _; rw [hT]
  rw [hTs] at hz ho
  simp only [hTs] at hr
  generalize hF : mT (T.setVm vm₁) cII cB' n.toNatClampNeg k.toNatClampNeg n.toNatClampNeg = F at X' step hz ho hr hold
  have hnew : ∀ (k9 : Nat) (x : Nat × va_E), (mW cB' cII H.size n.toNatClampNeg k.toNatClampNeg)[k9]? = some x → va_at D cl x F.heap := by
    intro k9 x hx
    cases k9 with
    | zero => cases hx; exact ho
    | succ j =>
      have hx : ((List.range n.toNatClampNeg).map (fun i => ((H.size + 1 + i, .inl (cB', k.toNatClampNeg, .inl (fun _ => 0))) : Nat × va_E)))[j]? = some x := hx
      obtain ⟨i, hi, rfl⟩ := List.mem_map.mp (List.mem_of_getElem? hx)
      exact hr i (List.mem_range.mp hi)
  have hP1 : va_P D cl (ws ++ mW cB' cII H.size n.toNatClampNeg k.toNatClampNeg) F.heap := (hP.kept (fun k9 x hx => hold x.1 ((hP k9 x hx).lt))).app hnew
  have hD1 : va_D A (ws ++ mW cB' cII H.size n.toNatClampNeg k.toNatClampNeg) := by
    have hlt : ∀ (k9 : Nat) (x : Nat × va_E), ws[k9]? = some x → x.1 < H.size := fun k9 x hx => (hP k9 x hx).lt
    refine ⟨fun i j x y hi hj hxy => ?_, fun k9 x hx => ?_⟩
    · by_cases h1 : i < ws.length
      · rw [List.getElem?_append_left h1] at hi
        by_cases h2 : j < ws.length
        · rw [List.getElem?_append_left h2] at hj
          exact hD.1 i j x y hi hj hxy
        · rw [List.getElem?_append_right (by omega)] at hj
          have := hlt _ _ hi
          have := mW_key hj
          omega
      · rw [List.getElem?_append_right (by omega)] at hi
        have := mW_key hi
        by_cases h2 : j < ws.length
        · rw [List.getElem?_append_left h2] at hj
          have := hlt _ _ hj
          omega
        · rw [List.getElem?_append_right (by omega)] at hj
          have := mW_key hj
          omega
    · by_cases h1 : k9 < ws.length
      · rw [List.getElem?_append_left h1] at hx
        exact hD.2 k9 x hx
      · rw [List.getElem?_append_right (by omega)] at hx
        refine hA _ ?_
        have := mW_key hx
        have := hS.1
        omega
  obtain ⟨t, a1, b1⟩ := kk H.size F.heap hP1 hD1 ⟨by have := hS.1; omega, fun x h1 h2 => (hold x (Nat.lt_of_lt_of_le h1 hS.1)).trans (hS.2.1 x h1 h2), hS.2.2⟩ F rfl X'
  refine ⟨t, step t ?_, b1⟩
  rw [show T.heap.size = H.size by rw [hT]]
  exact a1
end
