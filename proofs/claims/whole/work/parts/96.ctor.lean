/-! constructors: a judgement over a list of cells -/
abbrev iC : Type := Program × Launch × Env × Room × State × MethodId × Array Value × List Frame × Method × Code × (State → Prop) × (Nat → Prop)
def iW (G : va_G) (X : iC) (pc nL : Nat) (lv : List (Nat × Value)) (st : List Value) (w : va_W) (cells slots : Nat) : Prop := match X with
  | (p, l, e, R, s, m, args, below, meth, c, Q, A) => ∀ (H : Heap) (locs : List Loc) (ls : Array Slot), lv_has ls nL lv → va_P G vwCl w H → va_D A w → va_S A s.heap H locs → W p l e R s m args below meth c H locs cells slots Q (F0 m pc ls st)
/-- what isn't in the list of words: the two links to KIN's own constructor, the class of rows of rows -/
def iZ (cI cII : ClassId) (U : State) : Prop := va_Nw (.methodLinkNest RX0 11 yX1_init "FiddleShares") U ∧ va_Nw (.methodLinkNest RX3 30 yX1_init "FiddleShares") U ∧ ∃ kA : Class, U.vm.classes[cII]? = some kA ∧ kA.kind = .array cI (.array .int)
theorem iZ.warm {cI cII : ClassId} {s U : State} (hW : s.WarmedH U.vm) (h : iZ cI cII s) : iZ cI cII U := by
  obtain ⟨h1, h2, kA, h3, h4⟩ := h
  obtain ⟨k', q1, q2⟩ := hW.alike.2.2 _ _ h3
  exact ⟨h1.warmM hW, h2.warmM hW, k', q1, by rw [q2]; exact h4⟩
theorem iZ.same {cI cII : ClassId} {s U : State} (hv : s.vm = U.vm) (h : iZ cI cII s) : iZ cI cII U := by
  obtain ⟨h1, h2, kA, h3, h4⟩ := h
  exact ⟨h1.same rfl hv, h2.same rfl hv, kA, by rw [← hv]; exact h3, h4⟩
def iOk (G : va_G) (cI cII : ClassId) (cc : ByteArray) (own : String) (nL : Nat) (rm : Room) (X : iC) : Prop := match X with
  | (p, l, e, R, s, m, args, below, meth, c, Q, A) => p.tables.exec = Jvm.exec ∧ c.code = cc ∧ c.maxLocals = nL ∧ s.vm.findClass own = some m.cls ∧ (∀ w ∈ fs_ws, w.before args s = true) ∧ va_K G vwCl (fs_ty cI cII) s ∧ iZ cI cII s ∧ (∀ q, s.heap.size ≤ q → A q) ∧ R = rm
def iIn (X : iC) : Prop := match X with
  | (p, l, e, R, s, m, args, below, meth, c, Q, A) => meth.name = "<init>"
/-- a constructor's contract: from the cells w0 it comes to the cells that tm tells of some u -/
abbrev iMet {S : Type} (l : Launch) (G : va_G) (cI cII : ClassId) (sz : Nat) (y : MethodName) (code : ByteArray) (maxL : Nat) (rm : Room) (as : List Value) (w0 : va_W) (post : S → Prop) (tm : S → va_W) : Prop :=
  Met l y (.code y code maxL none :: fs_ws) rm (va_Pc as (fun U => U.heap.size = sz ∧ va_P G vwCl w0 U.heap ∧ va_K G vwCl (fs_ty cI cII) U ∧ va_D (fun _ => True) w0 ∧ iZ cI cII U)) (va_Qv post (fun u t => va_P G vwCl (tm u) t.heap ∧ va_D (va_A w0 sz) (tm u)) (va_A w0 sz)) rm.cells rm.slots (va_A w0 sz)
theorem i_blind {G : va_G} {cI cII : ClassId} {sz : Nat} {as : List Value} {w0 : va_W} : FrameBlind (va_Pc as (fun U => U.heap.size = sz ∧ va_P G vwCl w0 U.heap ∧ va_K G vwCl (fs_ty cI cII) U ∧ va_D (fun _ => True) w0 ∧ iZ cI cII U)) := by
  intro a U g mk q
  obtain ⟨q0, q1, q2, q3, q4, q5⟩ := q
  exact ⟨q0, q1, q2, va_K.moved (u := U) (U := U.calling g mk a) (Vm.Alike.refl U.vm) q3, q4, q5.same rfl⟩
def iRet {S : Type} (G : va_G) (post : S → Prop) (tm : S → va_W) (X : iC) : Prop := match X with
  | (p, l, e, R, s, m, args, below, meth, c, Q, A) => ∀ (H : Heap) (locs : List Loc) (ls : Array Slot) (pc : Nat) (u : S), post u → va_P G vwCl (tm u) H → va_D A (tm u) → va_S A s.heap H locs → decode c.code pc = .ok (.return_, 1) → W p l e R s m args below meth c H locs R.cells R.slots Q (F0 m pc ls [])
set_option maxHeartbeats 4000000 in
theorem i_intro {S : Type} {l : Launch} {G : va_G} {cI cII : ClassId} {sz : Nat} {y : MethodName} {code : ByteArray} {maxL : Nat} {rm : Room} {as : List Value} {w0 : va_W} {post : S → Prop} {tm : S → va_W} (hy : plainName y.cls = true) (hlen : (lg_sl as).length ≤ maxL)
    (body : ∀ X : iC, iOk G cI cII code y.cls maxL rm X → (y.name = "<init>" → iIn X) → iRet G post tm X → iW G X 0 maxL (lv_args 0 as) [] w0 0 0) : iMet l G cI cII sz y code maxL rm as w0 post tm := by
  refine Met.ofW (cc := code) (maxL := maxL) (ret := none) hy rfl ?_
  intro p e s m args below meth c s₁ B hml hv
  obtain ⟨rfl, hsz, hP, hK, hD0, hZ⟩ := hv
  have hx := B.exec
  have hb := B.bytes
  have hr := B.returns
  have hts := atoms_spec (ws := .code y code maxL none :: fs_ws) B.pre
  have hown : s.vm.findClass y.cls = some m.cls := findClass_of_methodNamed B.named
  have hlocks := B.notSynchronized
  have hin : meth.name = y.name := (name_of_methodNamed B.named B.method).1
  subst hsz
  have hD := hD0.self (sz := s.heap.size)
  have key := body (p, l, e, rm, s, m, as.toArray, below, meth, c, MQ below (va_Qv post (fun u t => va_P G vwCl (tm u) t.heap ∧ va_D (va_A w0 s.heap.size) (tm u)) (va_A w0 s.heap.size)) as.toArray s rm.cells rm.slots (va_A w0 s.heap.size), va_A w0 s.heap.size)
    ⟨hx, hb, hml, hown, fun w hw => hts w (List.mem_cons_of_mem _ hw), hK, hZ, fun q h => Or.inr h, rfl⟩ (fun h => hin.trans h)
    (fun H locs ls pc u hu hP1 hD1 hS1 hd => W.vret hx hb hr (fun t ht hW => ⟨⟨u, rfl, hu, by rw [ht]; exact hP1, hD1⟩, hS1.F ht⟩) hS1.2.2 (by rw [← hb]; exact hd))
  have hl := lv_entry as (n := maxL) hlen
  rw [lg_entry_eq]
  exact key s.heap [] _ hl hP hD va_S.rf
section
variable {G : va_G} {cI cII : ClassId} {cc : ByteArray} {own : String} {nL : Nat} {rm : Room} {X : iC} {pc : Nat} {lv : List (Nat × Value)} {st : List Value} {w : va_W} {cells slots : Nat}
theorem i_al (hX : iOk G cI cII cc own nL rm X) {k : Fin 4} {i x : Nat} (hd : decode cc pc = .ok (.aload_n k, 1)) (q : Nat) (hi : (k : Nat) = i) (hl : lv[q]? = some (i, .ref x)) (kk : iW G X (pc + 1) nL lv (.ref x :: st) w cells slots) : iW G X pc nL lv st w cells slots := by
  obtain ⟨p, l, e, R, s, m, args, below, meth, c, Q, A⟩ := X
  intro H locs ls h1 h2 h3 h4
  exact lv_aload_n hX.1 hX.2.1 hd hi (lv_at h1 q hl) (kk H locs ls h1 h2 h3 h4)
theorem i_il (hX : iOk G cI cII cc own nL rm X) {k : Fin 4} {i : Nat} {x : Int32} (hd : decode cc pc = .ok (.iload_n k, 1)) (q : Nat) (hi : (k : Nat) = i) (hl : lv[q]? = some (i, .int x)) (kk : iW G X (pc + 1) nL lv (.int x :: st) w cells slots) : iW G X pc nL lv st w cells slots := by
  obtain ⟨p, l, e, R, s, m, args, below, meth, c, Q, A⟩ := X
  intro H locs ls h1 h2 h3 h4
  exact lv_iload_n hX.1 hX.2.1 hd hi (lv_at h1 q hl) (kk H locs ls h1 h2 h3 h4)
theorem i_as (hX : iOk G cI cII cc own nL rm X) {k : Fin 4} {i x : Nat} {lv' : List (Nat × Value)} (hd : decode cc pc = .ok (.astore_n k, 1)) (hi : (k : Nat) = i) (hn : i < nL) (hl : (i, Value.ref x) :: lv.filter (fun q => !(q.1 == i) && !(q.1 + 1 == i && q.2.category == 2)) = lv') (kk : iW G X (pc + 1) nL lv' st w cells slots) : iW G X pc nL lv (.ref x :: st) w cells slots := by
  obtain ⟨p, l, e, R, s, m, args, below, meth, c, Q, A⟩ := X
  intro H locs ls h1 h2 h3 h4
  exact lv_astore_n hX.1 hX.2.1 hd hi h1 hn hl (fun ls' h5 => kk H locs ls' h5 h2 h3 h4)
theorem i_is (hX : iOk G cI cII cc own nL rm X) {k : Fin 4} {i : Nat} {x : Int32} {lv' : List (Nat × Value)} (hd : decode cc pc = .ok (.istore_n k, 1)) (hi : (k : Nat) = i) (hn : i < nL) (hl : (i, Value.int x) :: lv.filter (fun q => !(q.1 == i) && !(q.1 + 1 == i && q.2.category == 2)) = lv') (kk : iW G X (pc + 1) nL lv' st w cells slots) : iW G X pc nL lv (.int x :: st) w cells slots := by
  obtain ⟨p, l, e, R, s, m, args, below, meth, c, Q, A⟩ := X
  intro H locs ls h1 h2 h3 h4
  exact lv_istore_n hX.1 hX.2.1 hd hi h1 hn hl (fun ls' h5 => kk H locs ls' h5 h2 h3 h4)
theorem i_ic (hX : iOk G cI cII cc own nL rm X) {n : Int} (v : Int32) (hd : decode cc pc = .ok (.iconst n, 1)) (hv : Int32.ofInt n = v) (kk : iW G X (pc + 1) nL lv (.int v :: st) w cells slots) : iW G X pc nL lv st w cells slots := by
  obtain ⟨p, l, e, R, s, m, args, below, meth, c, Q, A⟩ := X
  intro H locs ls h1 h2 h3 h4
  exact lv_iconst hX.1 hX.2.1 hd hv (kk H locs ls h1 h2 h3 h4)
theorem i_bi (hX : iOk G cI cII cc own nL rm X) {n : Int} (v : Int32) (hd : decode cc pc = .ok (.bipush n, 2)) (hv : (Int8.ofInt n).toInt32 = v) (kk : iW G X (pc + 2) nL lv (.int v :: st) w cells slots) : iW G X pc nL lv st w cells slots := by
  obtain ⟨p, l, e, R, s, m, args, below, meth, c, Q, A⟩ := X
  intro H locs ls h1 h2 h3 h4
  exact lv_bipush hX.1 hX.2.1 hd hv (kk H locs ls h1 h2 h3 h4)
theorem i_si (hX : iOk G cI cII cc own nL rm X) {n : Int} (v : Int32) (hd : decode cc pc = .ok (.sipush n, 3)) (hv : (Int16.ofInt n).toInt32 = v) (kk : iW G X (pc + 3) nL lv (.int v :: st) w cells slots) : iW G X pc nL lv st w cells slots := by
  obtain ⟨p, l, e, R, s, m, args, below, meth, c, Q, A⟩ := X
  intro H locs ls h1 h2 h3 h4
  exact lv_sipush hX.1 hX.2.1 hd hv (kk H locs ls h1 h2 h3 h4)
theorem i_lc (hX : iOk G cI cII cc own nL rm X) {n : Fin 2} (v : Int64) (hd : decode cc pc = .ok (.lconst n, 1)) (hv : Int64.ofNat (n : Nat) = v) (kk : iW G X (pc + 1) nL lv (.long v :: st) w cells slots) : iW G X pc nL lv st w cells slots := by
  obtain ⟨p, l, e, R, s, m, args, below, meth, c, Q, A⟩ := X
  intro H locs ls h1 h2 h3 h4
  exact lv_lconst hX.1 hX.2.1 hd hv (kk H locs ls h1 h2 h3 h4)
theorem i_dup (hX : iOk G cI cII cc own nL rm X) {v : Value} (hd : decode cc pc = .ok (.dup, 1)) (hv : v.category = 1) (kk : iW G X (pc + 1) nL lv (v :: v :: st) w cells slots) : iW G X pc nL lv (v :: st) w cells slots := by
  obtain ⟨p, l, e, R, s, m, args, below, meth, c, Q, A⟩ := X
  intro H locs ls h1 h2 h3 h4
  exact lv_dup hX.1 hX.2.1 hd hv (kk H locs ls h1 h2 h3 h4)
theorem i_oi (hX : iOk G cI cII cc own nL rm X) {index a : Nat} (hd : decode cc pc = .ok (.invokespecial index, 3)) (hl : Cond.methodLink own index objectInit ∈ fs_ws) (hi : Cond.instanceMethod objectInit ∈ fs_ws) (hc : Cond.code objectInit ⟨#[0xb1]⟩ 1 none ∈ fs_ws) (hf : 1 ≤ rm.frames) (hlo : (st.map fun v => v.category).sum + 12 ≤ rm.locals) (kk : iW G X (pc + 3) nL lv st w cells slots) : iW G X pc nL lv (.ref a :: st) w cells slots := by
  obtain ⟨p, l, e, R, s, m, args, below, meth, c, Q, A⟩ := X
  obtain ⟨hx, hb, hml, hown, hts, hK, hZ, hA, rfl⟩ := hX
  intro H locs ls h1 h2 h3 h4
  exact W.objInit hx hb hown (hts _ hl) (hts _ hi) (hts _ hc) rfl (by rw [hml]; exact h1.1) rfl hd hf (by show 2 * 0 + _ + 12 ≤ _; omega) (W.eq (g2 := F0 m (pc + 3) ls st) rfl (kk H locs ls h1 h2 h3 h4))
theorem i_new (hX : iOk G cI cII cc own nL rm X) {index ci N : Nat} {C : String} {T : u_T} {fs : List Value} (hd : decode cc pc = .ok (.new index, 3)) (hc : vwCl[ci]? = some (C, T, N)) (hin : ∀ w ∈ u_ws C T N, w ∈ fs_ws) (ty : Nat → FieldType) (hty : ∀ k, k < N → parseFieldDescriptor (T k).2.2.1 = some (ty k)) (hcl : Cond.classLink own index C ∈ fs_ws) (hinst : Cond.instantiable C N ∈ fs_ws) (hini : Cond.initialized C ∈ fs_ws) (hfs : ∀ j, j < N → defaultValue (ty j) = vp_V fs j) (hcells : cells + 1 ≤ rm.cells) (hslots : slots + N ≤ rm.slots)
    (kk : ∀ q : Nat, iW G X (pc + 3) nL lv (.ref q :: st) (w ++ [(q, .inr (ci, fs))]) (cells + 1) (slots + N)) : iW G X pc nL lv st w cells slots := by
  obtain ⟨p, l, e, R, s, m, args, below, meth, c, Q, A⟩ := X
  obtain ⟨hx, hb, hml, hown, hts, hK, hZ, hA, rfl⟩ := hX
  intro H locs ls h1 h2 h3 h4
  exact va_new hx hb hts hin ty hty hown (hts _ hcl) (hts _ hinst) (hts _ hini) hK h2 h3 h4 hA hc hfs hcells hslots hd (fun q H1 hP1 hD1 hS1 => kk q H1 locs ls h1 hP1 hD1 hS1)
theorem i_na (hX : iOk G cI cII cc own nL rm X) {n : Int32} {N : Nat} (hd : decode cc pc = .ok (.newarray .int, 2)) (hn : ¬ n < 0) (hN : n.toNatClampNeg = N) (hN1 : N ≤ 100000) (har : Cond.arrayClass .int ∈ fs_ws) (hcells : cells + 1 ≤ rm.cells) (hslots : slots + N ≤ rm.slots) (kk : ∀ q : Nat, iW G X (pc + 2) nL lv (.ref q :: st) (w ++ [(q, .inl (cI, N, .inl (fun _ => 0)))]) (cells + 1) (slots + N)) : iW G X pc nL lv (.int n :: st) w cells slots := by
  obtain ⟨p, l, e, R, s, m, args, below, meth, c, Q, A⟩ := X
  obtain ⟨hx, hb, hml, hown, hts, hK, hZ, hA, rfl⟩ := hX
  intro H locs ls h1 h2 h3 h4
  exact fs_na hx hb (hts _ har) hK h2 h3 h4 hA hn hN hN1 hcells hslots hd (fun q H1 hP1 hD1 hS1 => kk q H1 locs ls h1 hP1 hD1 hS1)
theorem i_mna (hX : iOk G cI cII cc own nL rm X) {index : Nat} {n k : Int32} {N M : Nat} (hd : decode cc pc = .ok (.multianewarray index 2, 4)) (hcl : Cond.classLink own index "[[I" ∈ fs_ws) (hn : ¬ n < 0) (hk : ¬ k < 0) (hN : n.toNatClampNeg = N) (hM : k.toNatClampNeg = M) (hN1 : N ≤ 1000) (hM1 : M ≤ 1000) (har : Cond.arrayClass .int ∈ fs_ws) (hcells : cells + (1 + N) ≤ rm.cells) (hslots : slots + (N + N * M) ≤ rm.slots) (kk : ∀ q : Nat, iW G X (pc + 4) nL lv (.ref q :: st) (w ++ mW cI cII q N M) (cells + 1 + N) (slots + N + N * M)) : iW G X pc nL lv (.int k :: .int n :: st) w cells slots := by
  obtain ⟨p, l, e, R, s, m, args, below, meth, c, Q, A⟩ := X
  obtain ⟨hx, hb, hml, hown, hts, hK, hZ, hA, rfl⟩ := hX
  intro H locs ls h1 h2 h3 h4
  exact fs_mna hx hb hown (hts _ hcl) hZ.2.2 (hts _ har) hK h2 h3 h4 hA hn hk hN hM hN1 hM1 hcells hslots hd (fun q H1 hP1 hD1 hS1 => kk q H1 locs ls h1 hP1 hD1 hS1)
/-- a final field of one's own -/
def fs_ff (own : String) (index ci j : Nat) (ty : FieldType) : Prop := ∃ (T : u_T) (N : Nat) (ty0 : Nat → FieldType), vwCl[ci]? = some (own, T, N) ∧ (∀ w ∈ u_ws own T N, w ∈ fs_ws) ∧ j < N ∧ Cond.fieldLink own index own (T j).2.1 (T j).2.2.1 ∈ fs_ws ∧ (T j).1 = own ∧ (∀ k, k < N → parseFieldDescriptor (T k).2.2.1 = some (ty0 k)) ∧ (∀ a, a < N → ∀ b, b < N → a ≠ b → (T a).2.1 ≠ (T b).2.1) ∧ (T j).2.2.2 = true ∧ parseFieldDescriptor (T j).2.2.1 = some ty
theorem i_pf (hX : iOk G cI cII cc own nL rm X) (hI : iIn X) {index ci j q0 a : Nat} {ty : FieldType} {v : Value} {fs : List Value} {w' : va_W} (hd : decode cc pc = .ok (.putfield index, 3)) (hf : fs_ff own index ci j ty) (he : w[q0]? = some (a, .inr (ci, fs))) (hn : narrow ty v = v) (hfit : fits ty v = true) (hl : j < fs.length) (hw : w.set q0 (a, .inr (ci, fs.set j v)) = w') (kk : iW G X (pc + 3) nL lv st w' cells slots) : iW G X pc nL lv (v :: .ref a :: st) w cells slots := by
  subst hw
  obtain ⟨p, l, e, R, s, m, args, below, meth, c, Q, A⟩ := X
  obtain ⟨hx, hb, hml, hown, hts, hK, hZ, hA, rfl⟩ := hX
  intro H locs ls h1 h2 h3 h4
  obtain ⟨T, N, ty0, g1, g2, g3, g4, g5, g6, g7, g8, g9⟩ := hf
  exact va_putF (ref := own) hx hb hts g2 ty0 g6 g7 hown hK h2 h3 h4 q0 he g1 j g3 (hts _ g4) (fun x hx => by rw [g5] at hx; exact hx) g8 hI g5 g9 hn hfit hl hd (fun H1 locs1 hP1 hD1 hS1 => kk H1 locs1 ls h1 hP1 hD1 hS1)
theorem i_p (hX : iOk G cI cII cc own nL rm X) {index ci j q0 a : Nat} {ty : FieldType} {v : Value} {fs : List Value} {w' : va_W} (hd : decode cc pc = .ok (.putfield index, 3)) (hf : fs_fp own index ci j ty) (he : w[q0]? = some (a, .inr (ci, fs))) (hn : narrow ty v = v) (hfit : fits ty v = true) (hl : j < fs.length) (hw : w.set q0 (a, .inr (ci, fs.set j v)) = w') (kk : iW G X (pc + 3) nL lv st w' cells slots) : iW G X pc nL lv (v :: .ref a :: st) w cells slots := by
  subst hw
  obtain ⟨p, l, e, R, s, m, args, below, meth, c, Q, A⟩ := X
  obtain ⟨hx, hb, hml, hown, hts, hK, hZ, hA, rfl⟩ := hX
  intro H locs ls h1 h2 h3 h4
  obtain ⟨C, T, N, ty0, g1, g2, g3, g4, g5, g6, g7, g8, g9⟩ := hf
  exact va_put hx hb hts g2 ty0 g6 g7 hown hK h2 h3 h4 q0 he g1 j g3 (hts _ g4) (fun x hx => by rw [← g5]; exact hx) g8 g9 hn hfit hl hd (fun H1 locs1 hP1 hD1 hS1 => kk H1 locs1 ls h1 hP1 hD1 hS1)
theorem i_g (hX : iOk G cI cII cc own nL rm X) {index ci j q0 a : Nat} {v : Value} {fs : List Value} (hd : decode cc pc = .ok (.getfield index, 3)) (hf : fs_fl own index ci j) (he : w[q0]? = some (a, .inr (ci, fs))) (hv : fs[j]? = some v) (kk : iW G X (pc + 3) nL lv (v :: st) w cells slots) : iW G X pc nL lv (.ref a :: st) w cells slots := by
  obtain ⟨p, l, e, R, s, m, args, below, meth, c, Q, A⟩ := X
  obtain ⟨hx, hb, hml, hown, hts, hK, hZ, hA, rfl⟩ := hX
  intro H locs ls h1 h2 h3 h4
  obtain ⟨C, T, N, g1, g2, g3, g4, g5⟩ := hf
  exact va_get hx hb hts g2 hown hK h2 q0 he g1 j g3 (hts _ g4) (fun x hx => by rw [← g5]; exact hx) hv hd (kk H locs ls h1 h2 h3 h4)
theorem i_mx (hX : iOk G cI cII cc own nL rm X) {index : Nat} {x y : Int32} (hd : decode cc pc = .ok (.invokestatic index, 3)) (hm : fs_m1 own index Lib.Math.max.name Lib.Math.max.code 2) (hf : 1 ≤ rm.frames) (hlo : (st.map fun v => v.category).sum + 13 ≤ rm.locals) (hc : cells ≤ rm.cells) (hs : slots ≤ rm.slots) (v : Int32) (hv : (if x < y then y else x) = v) (kk : iW G X (pc + 3) nL lv (.int v :: st) w cells slots) : iW G X pc nL lv (.int y :: .int x :: st) w cells slots := by
  subst hv
  obtain ⟨p, l, e, R, s, m, args, below, meth, c, Q, A⟩ := X
  obtain ⟨hx, hb, hml, hown, hts, hK, hZ, hA, rfl⟩ := hX
  intro H locs ls h1 h2 h3 h4
  obtain ⟨g1, g2, g3, g4⟩ := hm
  exact va_mmax hx hb (by rw [hml, h1.1]) hown (hts _ g1) (hts _ g2) (hts _ g3) (hts _ g4) hf hlo hc hs hd (kk H locs ls h1 h2 h3 h4)
theorem i_rt {S : Type} {post : S → Prop} {tm : S → va_W} (hX : iOk G cI cII cc own nL rm X) (hR : iRet G post tm X) (u : S) (hd : decode cc pc = .ok (.return_, 1)) (hu : post u) (hw : w = tm u) (hc : cells ≤ rm.cells) (hs : slots ≤ rm.slots) : iW G X pc nL lv [] w cells slots := by
  subst hw
  obtain ⟨p, l, e, R, s, m, args, below, meth, c, Q, A⟩ := X
  obtain ⟨hx, hb, hml, hown, hts, hK, hZ, hA, rfl⟩ := hX
  intro H locs ls h1 h2 h3 h4
  exact W.widen hc hs (hR H locs ls pc u hu h2 h3 h4 (by rw [hb]; exact hd))
end
