/-! calls of constructors, and of Arrays.fill on a single row -/
section
variable {p : Program} {l : Launch} {e : Env} {R : Room} {s : State} {m : MethodId} {args : Array Value} {below : List Frame} {meth : Method} {c : Code} {H : Heap} {locs : List Loc} {cells slots : Nat} {Q : State → Prop} {G : va_G} {A : Nat → Prop} {pc : Nat} {ls : Array Slot} {rest st0 : List Value} {a : Array Value} {mc ms : Nat} {w wr : va_W} {x : Nat × va_E}
theorem i_goes {S : Type} {post : S → Prop} {tm : S → va_W}
    (hr : va_Run p l e R s m args below meth c H locs cells slots mc ms (F0 m pc ls st0) rest (va_Qv post (fun u t => va_P G vwCl (tm u) t.heap ∧ va_D (va_A [x] H.size) (tm u)) (va_A [x] H.size) a) (va_A [x] H.size))
    (hP : va_P G vwCl w H) (hD : va_D A w) (hS : va_S A s.heap H locs) (hA : ∀ q, s.heap.size ≤ q → A q) (i : Nat) (isR : List Nat) (hi : w[i]? = some x) (hR : isR.map (fun i => w[i]?) = wr.map some) (hn : va_nd isR = true) (hdis : i ∉ isR)
    (kk : ∀ (u : S) (H1 : Heap) (locs1 : List Loc), post u → va_P G vwCl (wr ++ tm u) H1 → va_D A (wr ++ tm u) → va_S A s.heap H1 locs1 → W p l e R s m args below meth c H1 locs1 (cells + mc) (slots + ms) Q (F0 m (pc + 3) ls rest)) : W p l e R s m args below meth c H locs cells slots Q (F0 m pc ls st0) := by
  have hC : [i].map (fun i => w[i]?) = [x].map some := by rw [List.map_cons, hi]; rfl
  have hF := va_free (wc := [x]) hD hS hA [i] hC
  refine va_callv hr hS (fun q _ h => hF q h) hF (fun u t H1 locs1 ht hvm hw hB hz1 hk1 hS1 => ?_)
  obtain ⟨hP1, hD1⟩ := hB
  rw [ht] at hP1
  obtain ⟨hP2, hD2⟩ := va_join hP hD [i] isR hC hR hn (fun j hj hc => by rw [List.mem_singleton] at hc; rw [hc] at hj; exact hdis hj) hk1 hF hP1 hD1
  exact kk u H1 locs1 hw hP2 hD2 hS1
theorem i_one {i : Nat} (hP : va_P G vwCl w H) (hi : w[i]? = some x) : va_P G vwCl [x] H := by
  intro k q hk
  have h0 : k < 1 := (List.getElem?_eq_some_iff.mp hk).1
  rw [show k = 0 by omega] at hk
  cases hk
  exact hP i x hi
theorem i_oneD : va_D (fun _ => True) [x] := by
  refine ⟨fun i j p q hi hj _ => ?_, fun _ _ _ => trivial⟩
  have h1 : i < 1 := (List.getElem?_eq_some_iff.mp hi).1
  have h2 : j < 1 := (List.getElem?_eq_some_iff.mp hj).1
  omega
end
section
variable {G : va_G} {cI cII : ClassId} {cc : ByteArray} {own : String} {nL : Nat} {rm : Room} {X : iC} {pc : Nat} {lv : List (Nat × Value)} {st : List Value} {w : va_W} {cells slots : Nat}
abbrev i_plain (y : MethodName) (n : Nat) : Prop := y.cls ≠ "java/lang/invoke/MethodHandle" ∧ y.cls ≠ "java/lang/invoke/VarHandle" ∧ (parseMethodDescriptor y.desc).map (fun d => d.parameters.length) = some n
/-- a constructor's call -/
theorem i_cI {S : Type} {post : S → Prop} {tm : S → va_W} (hX : iOk G cI cII cc own nL rm X) {y : MethodName} {code : ByteArray} {maxL index b : Nat} {rmc : Room} (as : List Value) {rest : List Value} {x : Nat × va_E} {wr : va_W} (hd : decode cc pc = .ok (.invokespecial index, 3)) (hM : ∀ (l : Launch) (sz : Nat), iMet l G cI cII sz y code maxL rmc (.ref b :: as) [x] post tm)
    (hl : Cond.methodLink own index y ∈ fs_ws) (hin : Cond.instanceMethod y ∈ fs_ws) (hini : Cond.initialized y.cls ∈ fs_ws) (hco : Cond.code y code maxL none ∈ fs_ws) (hy : y.name = "<init>") (hp : i_plain y as.length) (hR : rmc.frames + 1 ≤ rm.frames ∧ 8 + (maxL + 11) + rmc.locals ≤ rm.locals) (hst : st = as.reverse ++ .ref b :: rest) (hW : (rest.map fun v => v.category).sum ≤ 8) (hf : cells + rmc.cells ≤ rm.cells ∧ slots + rmc.slots ≤ rm.slots)
    (i : Nat) (isR : List Nat) (hi : w[i]? = some x) (hr : isR.map (fun i => w[i]?) = wr.map some) (hn : va_nd isR = true) (hdis : i ∉ isR) (kk : ∀ u : S, post u → iW G X (pc + 3) nL lv rest (wr ++ tm u) (cells + rmc.cells) (slots + rmc.slots)) : iW G X pc nL lv st w cells slots := by
  obtain ⟨p, l, e, R, s, m, args, below, meth, c, Q, A⟩ := X
  obtain ⟨hx, hb, hml, hown, hts, hK, hZ, hA, rfl⟩ := hX
  intro H locs ls h1 h2 h3 h4
  have hgi : GoodIn fs_ws (.code y code maxL none :: fs_ws) := fs_gi (fun w hw => by
    rcases List.mem_cons.mp hw with rfl | hw
    · exact hco
    · exact hw)
  refine i_goes (va_runI (nL := nL) (As := as) (rest := rest) (b := b) ⟨hx, hb, hml, hown, hts⟩ (hM l H.size) (cwI as.length hts hgi rfl rfl rfl (hts _ hini) (hts _ hl) (hts _ hin) hy hp hR) ⟨i_blind, fun U hU hW => ⟨rfl, by rw [hU], by rw [hU]; exact i_one h2 hi, va_K.moved hW.alike hK, i_oneD, hZ.warm hW⟩⟩ rfl rfl h1.1 hst (lv_room hW) hd hf) h2 h3 h4 hA i isR hi hr hn hdis (fun u H1 locs1 hu hP1 hD1 hS1 => kk u hu H1 locs1 ls h1 hP1 hD1 hS1)
/-- the same where the constructor is a nest mate's own -/
theorem i_cN {S : Type} {post : S → Prop} {tm : S → va_W} (hX : iOk G cI cII cc own nL rm X) {y : MethodName} {code : ByteArray} {maxL index b : Nat} {rmc : Room} (as : List Value) {rest : List Value} {x : Nat × va_E} {wr : va_W} {host : String} (hd : decode cc pc = .ok (.invokespecial index, 3)) (hM : ∀ (l : Launch) (sz : Nat), iMet l G cI cII sz y code maxL rmc (.ref b :: as) [x] post tm)
    (hl : ∀ U : State, iZ cI cII U → va_Nw (.methodLinkNest own index y host) U) (hin : Cond.instanceMethod y ∈ fs_ws) (hini : Cond.initialized y.cls ∈ fs_ws) (hco : Cond.code y code maxL none ∈ fs_ws) (hy : y.name = "<init>") (hp : i_plain y as.length) (hR : rmc.frames + 1 ≤ rm.frames ∧ 8 + (maxL + 11) + rmc.locals ≤ rm.locals) (hst : st = as.reverse ++ .ref b :: rest) (hW : (rest.map fun v => v.category).sum ≤ 8) (hf : cells + rmc.cells ≤ rm.cells ∧ slots + rmc.slots ≤ rm.slots)
    (i : Nat) (isR : List Nat) (hi : w[i]? = some x) (hr : isR.map (fun i => w[i]?) = wr.map some) (hn : va_nd isR = true) (hdis : i ∉ isR) (kk : ∀ u : S, post u → iW G X (pc + 3) nL lv rest (wr ++ tm u) (cells + rmc.cells) (slots + rmc.slots)) : iW G X pc nL lv st w cells slots := by
  obtain ⟨p, l, e, R, s, m, args, below, meth, c, Q, A⟩ := X
  obtain ⟨hx, hb, hml, hown, hts, hK, hZ, hA, rfl⟩ := hX
  intro H locs ls h1 h2 h3 h4
  have hgi : GoodIn fs_ws (.code y code maxL none :: fs_ws) := fs_gi (fun w hw => by
    rcases List.mem_cons.mp hw with rfl | hw
    · exact hco
    · exact hw)
  refine i_goes (va_runIN (nL := nL) (As := as) (rest := rest) (b := b) (host := host) ⟨hx, hb, hml, hown, hts⟩ (hM l H.size) ⟨va_cnB as.length hts hgi rfl rfl rfl (hl s hZ) (hts _ hini) hp hR, hy, hts _ hin⟩ ⟨i_blind, fun U hU hW => ⟨rfl, by rw [hU], by rw [hU]; exact i_one h2 hi, va_K.moved hW.alike hK, i_oneD, hZ.warm hW⟩⟩ rfl rfl h1.1 hst (lv_room hW) hd hf) h2 h3 h4 hA i isR hi hr hn hdis (fun u H1 locs1 hu hP1 hD1 hS1 => kk u hu H1 locs1 ls h1 hP1 hD1 hS1)
/-- a static method's call -/
theorem i_cS {S : Type} {post : S → Prop} {tm : S → va_W} (hX : iOk G cI cII cc own nL rm X) {y : MethodName} {code : ByteArray} {maxL index : Nat} {rmc : Room} (as : List Value) {rest : List Value} {x : Nat × va_E} {wr : va_W} (hd : decode cc pc = .ok (.invokestatic index, 3)) (hM : ∀ (l : Launch) (sz : Nat), iMet l G cI cII sz y code maxL rmc as [x] post tm)
    (hl : Cond.methodLink own index y ∈ fs_ws) (hy : fs_yS y code maxL none as.length) (hR : rmc.frames + 1 ≤ rm.frames ∧ 8 + (maxL + 11) + rmc.locals ≤ rm.locals) (hst : st = as.reverse ++ rest) (hW : (rest.map fun v => v.category).sum ≤ 8) (hf : cells + rmc.cells ≤ rm.cells ∧ slots + rmc.slots ≤ rm.slots)
    (i : Nat) (isR : List Nat) (hi : w[i]? = some x) (hr : isR.map (fun i => w[i]?) = wr.map some) (hn : va_nd isR = true) (hdis : i ∉ isR) (kk : ∀ u : S, post u → iW G X (pc + 3) nL lv rest (wr ++ tm u) (cells + rmc.cells) (slots + rmc.slots)) : iW G X pc nL lv st w cells slots := by
  obtain ⟨p, l, e, R, s, m, args, below, meth, c, Q, A⟩ := X
  obtain ⟨hx, hb, hml, hown, hts, hK, hZ, hA, rfl⟩ := hX
  intro H locs ls h1 h2 h3 h4
  obtain ⟨y1, y3, y4, y5, y6, y7⟩ := hy
  have hgi : GoodIn fs_ws (va_wsS own index y (.code y code maxL none :: fs_ws)) := fs_gi (fun w hw => by
    simp only [va_wsS, List.cons_append, List.nil_append, List.mem_cons] at hw
    rcases hw with rfl | rfl | rfl | rfl | hw
    · exact hl
    · exact y1
    · exact y3
    · exact y4
    · exact hw)
  refine i_goes (va_runS (nL := nL) (As := as) (rest := rest) ⟨hx, hb, hml, hown, hts⟩ (hM l H.size) (va_cwS as.length hts hgi rfl rfl rfl ⟨y5, y6, y7⟩ hR) ⟨i_blind, fun U hU hW => ⟨rfl, by rw [hU], by rw [hU]; exact i_one h2 hi, va_K.moved hW.alike hK, i_oneD, hZ.warm hW⟩⟩ rfl rfl h1.1 hst (lv_room hW) hd hf) h2 h3 h4 hA i isR hi hr hn hdis (fun u H1 locs1 hu hP1 hD1 hS1 => kk u hu H1 locs1 ls h1 hP1 hD1 hS1)
end
theorem arrV_agree {cA : ClassId} {N : Nat} {f g : Nat → Value} (h : ∀ j, j < N → f j = g j) : arrV cA N f = arrV cA N g := by
  unfold arrV
  congr 1
  congr 1
  funext j
  exact h j.val j.isLt
theorem i_agree {G : va_G} {H : Heap} {h : Nat} {cI : ClassId} {N : Nat} {f g : Nat → Int32} (hfg : ∀ j, j < N → f j = g j) (hP : va_P G vwCl [(h, .inl (cI, N, .inl f))] H) : va_P G vwCl [(h, .inl (cI, N, .inl g))] H := by
  intro k q hk
  have h0 : k < 1 := (List.getElem?_eq_some_iff.mp hk).1
  rw [show k = 0 by omega] at hk
  cases hk
  have h1 : H[h]? = some (arrV cI N (fun j => .int (f j))) := hP 0 _ rfl
  show H[h]? = some (arrV cI N (fun j => .int (g j)))
  rw [h1, arrV_agree (fun j hj => by rw [hfg j hj])]
theorem i_key {A : Nat → Prop} {h : Nat} {a b : va_E} (hD : va_D A [(h, a)]) : va_D A [(h, b)] := by
  refine ⟨fun i j p q hi hj _ => ?_, fun k q hk => ?_⟩
  · have h1 : i < 1 := (List.getElem?_eq_some_iff.mp hi).1
    have h2 : j < 1 := (List.getElem?_eq_some_iff.mp hj).1
    omega
  · have h0 : k < 1 := (List.getElem?_eq_some_iff.mp hk).1
    rw [show k = 0 by omega] at hk
    cases hk
    exact hD.2 0 (h, a) rfl
set_option maxHeartbeats 4000000 in
/-- Arrays.fill -/
theorem i_fill (l : Launch) (G : va_G) (cI cII : ClassId) (sz h N : Nat) (f : Nat → Int32) (v : Int32) (hN : N ≤ 1000) : iMet l G cI cII sz yJ7_fill_53178 cJ7_fill_53178 4 { frames := 0, cells := 0, slots := 0, locals := 0 } [.ref h, .int v] [(h, .inl (cI, N, .inl f))] (fun _ : Unit => True) (fun _ => [(h, .inl (cI, N, .inl (fun _ => v)))]) := by
  refine i_intro (by decide +kernel) (Nat.le_of_ble_eq_true rfl) (fun X hX _ hR => ?_)
  obtain ⟨p, l', e, R, s, m, args, below, meth, c, Q, A⟩ := X
  obtain ⟨hx, hb, hml, hown, hts, hK, hZ, hA, rfl⟩ := hX
  intro H locs ls hl hP hD hS
  have hl : lv_has ls 4 [(0, .ref h), (1, .int v)] := hl
  refine lv_iconst (v := 0) hx hb dJ7_fill_53178_0 (by decide) ?_
  refine lv_istore_n (lv' := [(2, .int 0), (0, .ref h), (1, .int v)]) hx hb dJ7_fill_53178_1 rfl hl (by decide) rfl (fun ls hl => ?_)
  refine lv_aload_n hx hb dJ7_fill_53178_2 rfl (lv_at hl 1 rfl) ?_
  refine va_alen hx hb hK hP 0 0 rfl rfl (v := nI N) rfl dJ7_fill_53178_3 ?_
  refine lv_istore_n (lv' := [(3, .int (nI N)), (2, .int (nI 0)), (0, .ref h), (1, .int v)]) hx hb dJ7_fill_53178_4 rfl hl (by decide) rfl (fun ls hl => ?_)
  have key : ∀ (n i : Nat) (f : Nat → Int32) (H : Heap) (locs : List Loc) (ls : Array Slot), i + n = N → (∀ j, j < i → f j = v) → lv_has ls 4 [(3, .int (nI N)), (2, .int (nI i)), (0, .ref h), (1, .int v)] → va_P G vwCl [(h, .inl (cI, N, .inl f))] H → va_D A [(h, .inl (cI, N, .inl f))] → va_S A s.heap H locs → W p l' e { frames := 0, cells := 0, slots := 0, locals := 0 } s m args below meth c H locs 0 0 Q (F0 m 5 ls []) := by
    intro n
    induction n with
    | zero =>
      intro i f H locs ls hi hf hl hP hD hS
      have hi : i = N := by omega
      subst hi
      refine lv_iload_n hx hb dJ7_fill_53178_5 rfl (lv_at hl 1 rfl) ?_
      refine lv_iload_n hx hb dJ7_fill_53178_6 rfl (lv_at hl 0 rfl) ?_
      refine lv_icmp_ge (tgt := 20) hx hb dJ7_fill_53178_7 (by decide) (fun _ => ?_) (fun q => absurd (nI_le (Nat.le_refl i) (by omega)) q)
      exact hR H locs ls 20 () trivial (i_agree hf hP) (i_key hD) hS (by rw [hb]; exact dJ7_fill_53178_20)
    | succ n ih =>
      intro i f H locs ls hi hf hl hP hD hS
      refine lv_iload_n hx hb dJ7_fill_53178_5 rfl (lv_at hl 1 rfl) ?_
      refine lv_iload_n hx hb dJ7_fill_53178_6 rfl (lv_at hl 0 rfl) ?_
      refine lv_icmp_ge (tgt := 20) hx hb dJ7_fill_53178_7 (by decide) (fun q => absurd q (nI_ge (show i < N by omega) (by omega))) (fun _ => ?_)
      refine lv_aload_n hx hb dJ7_fill_53178_10 rfl (lv_at hl 2 rfl) ?_
      refine lv_iload_n hx hb dJ7_fill_53178_11 rfl (lv_at hl 1 rfl) ?_
      refine lv_iload_n hx hb dJ7_fill_53178_12 rfl (lv_at hl 3 rfl) ?_
      refine va_iast hx hb hK hP hD hS 0 0 rfl rfl (vp_in_nI (show i < N by omega) (by omega)) dJ7_fill_53178_13 (fun H locs hP hD hS => ?_)
      refine lv_iinc (k := 1) (v := nI (i + 1)) (lv' := [(2, .int (nI (i + 1))), (3, .int (nI N)), (0, .ref h), (1, .int v)]) hx hb dJ7_fill_53178_14 hl rfl (nI_add i 1) (by decide) rfl (fun ls hl => ?_)
      refine lv_goto (tgt := 5) hx hb dJ7_fill_53178_17 (by decide) ?_
      refine ih (i + 1) (upd f (nI i).toNatClampNeg v) H locs ls (by omega) (fun j hj => ?_) (lv_sub hl [1, 0, 2, 3] rfl) hP hD hS
      rw [nI_clamp (by omega)]
      unfold upd
      by_cases e : j = i
      · rw [if_pos e]
      · rw [if_neg e]
        exact hf j (by omega)
  exact key N 0 f H locs ls (by omega) (fun j hj => absurd hj (Nat.not_lt_zero j)) hl hP hD hS
