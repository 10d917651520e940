theorem i_allC (w : va_W) : (List.range w.length).map (fun i => w[i]?) = w.map some := by
  apply List.ext_getElem?
  intro i
  rw [List.getElem?_map, List.getElem?_map]
  by_cases h : i < w.length
  · rw [List.getElem?_range h, List.getElem?_eq_getElem h]
    show some (w[i]?) = some (some w[i])
    rw [List.getElem?_eq_getElem h]
  · rw [List.getElem?_eq_none (by rw [List.length_range]; omega), List.getElem?_eq_none (by omega)]
    rfl
/-- a constructor's call to which all cells go -/
theorem i_cA {G : va_G} {cI cII : ClassId} {cc : ByteArray} {own : String} {nL : Nat} {rm : Room} {X : iC} {pc : Nat} {lv : List (Nat × Value)} {st : List Value} {w : va_W} {cells slots : Nat} {S : Type} {post : S → Prop} {tm : S → va_W} (hX : iOk G cI cII cc own nL rm X) {y : MethodName} {code : ByteArray} {maxL index b : Nat} {rmc : Room} (as : List Value) {rest : List Value} (hd : decode cc pc = .ok (.invokespecial index, 3)) (hM : ∀ (l : Launch) (sz : Nat), iMet l G cI cII sz y code maxL rmc (.ref b :: as) w post tm)
    (hl : Cond.methodLink own index y ∈ fs_ws) (hin : Cond.instanceMethod y ∈ fs_ws) (hini : Cond.initialized y.cls ∈ fs_ws) (hco : Cond.code y code maxL none ∈ fs_ws) (hy : y.name = "<init>") (hp : i_plain y as.length) (hR : rmc.frames + 1 ≤ rm.frames ∧ 8 + (maxL + 11) + rmc.locals ≤ rm.locals) (hst : st = as.reverse ++ .ref b :: rest) (hW : (rest.map fun v => v.category).sum ≤ 8) (hf : cells + rmc.cells ≤ rm.cells ∧ slots + rmc.slots ≤ rm.slots)
    (kk : ∀ u : S, post u → iW G X (pc + 3) nL lv rest (tm u) (cells + rmc.cells) (slots + rmc.slots)) : iW G X pc nL lv st w cells slots := by
  obtain ⟨p, l, e, R, s, m, args, below, meth, c, Q, A⟩ := X
  obtain ⟨hx, hb, hml, hown, hts, hK, hZ, hA, rfl⟩ := hX
  intro H locs ls h1 h2 h3 h4
  have hgi : GoodIn fs_ws (.code y code maxL none :: fs_ws) := fs_gi (fun w hw => by
    rcases List.mem_cons.mp hw with rfl | hw
    · exact hco
    · exact hw)
  have hF := va_free (wc := w) h3 h4 hA (List.range w.length) (i_allC w)
  refine va_callv (va_runI (nL := nL) (As := as) (rest := rest) (b := b) ⟨hx, hb, hml, hown, hts⟩ (hM l H.size) (cwI as.length hts hgi rfl rfl rfl (hts _ hini) (hts _ hl) (hts _ hin) hy hp hR) ⟨i_blind, fun U hU hW => ⟨rfl, by rw [hU], by rw [hU]; exact h2, va_K.moved hW.alike hK, ⟨h3.1, fun _ _ _ => trivial⟩, hZ.warm hW⟩⟩ rfl rfl h1.1 hst (lv_room hW) hd hf) h4 (fun q _ h => hF q h) hF (fun u t H1 locs1 ht hvm hw hB hz1 hk1 hS1 => ?_)
  obtain ⟨hP1, hD1⟩ := hB
  rw [ht] at hP1
  exact kk u hw H1 locs1 ls h1 hP1 ⟨hD1.1, fun k q hk => hF _ (hD1.2 k q hk)⟩ hS1
theorem lw_me1 {w : Cond} (i : Nat) (h : tables_1_1[i]? = some w) : w ∈ lw_tbl := List.mem_append_right _ (List.mem_append_left _ (List.mem_of_getElem? h))
set_option maxRecDepth 20000 in
set_option maxHeartbeats 40000000 in
/-- from the entry to the loop: the two objects are made, and all is as it must be between two calls -/
theorem whole_start {p : Program} {e : Env} {s : State} {m : MethodId} {below : List Frame} {meth : Method} {c : Code} (l : Launch) {b L : Nat} {xs : Nat → Int32} (hL : L ≤ 384) (C0 : lw_At p s m meth c b L xs) : W p l e room_1 s m #[Value.ref b] below meth c s.heap [] 0 0 (lw_Z below #[Value.ref b] s) (entryFrame m ([Value.ref b] : List Value).toArray 4) := by
  obtain ⟨hx, hb, hr, hml, hown, hts, hV, hbl, hlocks, -⟩ := C0
  have hf : ∀ w ∈ fs_ws, w.before #[Value.ref b] s = true := fun w hw => hts w (List.mem_filter.mp hw).1
  obtain ⟨c0, i0, K0⟩ := u_known hf infX0 (hf (.instantiable RX0 7) (fs_me1 45 rfl rfl))
  obtain ⟨c1, i1, K1⟩ := u_known hf infX1 (hf (.instantiable RX1 10) (fs_me1 51 rfl rfl))
  obtain ⟨c2, i2, K2⟩ := u_known hf infX2 (hf (.instantiable RX2 3) (fs_me1 18 rfl rfl))
  obtain ⟨c3, i3, K3⟩ := u_known hf infX3 (hf (.instantiable RX3 11) (fs_me1 10 rfl rfl))
  obtain ⟨c4, i4, K4⟩ := u_known hf infX4 (hf (.instantiable RX4 27) (fs_me3 127 rfl rfl))
  obtain ⟨cI, kB, c9, f3, hkB, hkindB⟩ := Cond.arrayClass_spec (hf (.arrayClass .int) (fs_me1 43 rfl rfl))
  obtain ⟨cB, cII, kA, f1, f2, hkA, hkindA⟩ := fs_over (hts (.arrayOver (.array .int)) (lw_me1 27 rfl))
  have eB : cI = cB := Option.some.inj (f3.symm.trans f1)
  subst eB
  obtain ⟨dC, a0, a1, a2, a3, a4⟩ : ∃ dC : Nat → ClassId, dC 0 = c0 ∧ dC 1 = c1 ∧ dC 2 = c2 ∧ dC 3 = c3 ∧ dC 4 = c4 := ⟨fun k => match k with
    | 0 => c0
    | 1 => c1
    | 2 => c2
    | 3 => c3
    | _ => c4, rfl, rfl, rfl, rfl, rfl⟩
  obtain ⟨dI, b0, b1, b2, b3, b4⟩ : ∃ dI : Nat → Nat → Nat, dI 0 = i0 ∧ dI 1 = i1 ∧ dI 2 = i2 ∧ dI 3 = i3 ∧ dI 4 = i4 := ⟨fun k => match k with
    | 0 => i0
    | 1 => i1
    | 2 => i2
    | 3 => i3
    | _ => i4, rfl, rfl, rfl, rfl, rfl⟩
  have hK : va_K (dC, dI) vwCl (fs_ty cI cII) s := by
    refine ⟨fun k q hq => ?_, fun k q hq => ?_⟩
    · match k, hq with
      | 0, hq => cases hq; show u_Kn s RX0 TX0 7 (dC 0) (dI 0); rw [a0, b0]; exact K0
      | 1, hq => cases hq; show u_Kn s RX1 TX1 10 (dC 1) (dI 1); rw [a1, b1]; exact K1
      | 2, hq => cases hq; show u_Kn s RX2 TX2 3 (dC 2) (dI 2); rw [a2, b2]; exact K2
      | 3, hq => cases hq; show u_Kn s RX3 TX3 11 (dC 3) (dI 3); rw [a3, b3]; exact K3
      | 4, hq => cases hq; show u_Kn s RX4 TX4 27 (dC 4) (dI 4); rw [a4, b4]; exact K4
      | k + 5, hq => cases hq
    · match k, hq with
      | 0, hq => cases hq; exact ⟨fun n z => ⟨fun k h => (by cases h), kB, hkB, c9, hkindB⟩, f3⟩
      | 1, hq => cases hq; exact ⟨fun n z => ⟨fun k h => (by cases h), kA, hkA, cI, hkindA⟩, f2⟩
      | k + 2, hq => cases hq
  have hZ : iZ cI cII s := ⟨va_Nw.of rfl (hts (.methodLinkNest RX0 11 yX1_init "FiddleShares") (lw_me1 52 rfl)), va_Nw.of rfl (hts (.methodLinkNest RX3 30 yX1_init "FiddleShares") (lw_me1 129 rfl)), kA, hkA, hkindA⟩
  have hX : iOk (dC, dI) cI cII cL_law RL 4 room_1 (p, l, e, room_1, s, m, #[Value.ref b], below, meth, c, lw_Z below #[Value.ref b] s, fun q : Nat => s.heap.size ≤ q) := ⟨hx, hb, hml, hown, hf, hK, hZ, fun q h => h, rfl⟩
  have key : iW (dC, dI) (p, l, e, room_1, s, m, #[Value.ref b], below, meth, c, lw_Z below #[Value.ref b] s, fun q : Nat => s.heap.size ≤ q) 0 4 [(0, .ref b)] [] [] 0 0 := by
    refine i_new (ci := 3) (fs := [.null, .null, .null, .null, .null, .null, .null, .int 0, .int 0, .long 0, .long 0]) hX dL_law_0 rfl infX3 tyX3 tyX3_ok (fs_me1 9 rfl rfl) (fs_me1 10 rfl rfl) (fs_me1 1 rfl rfl) (by decide +kernel) (Nat.le_of_ble_eq_true rfl) (Nat.le_of_ble_eq_true rfl) (fun q0 => ?_)
    refine i_dup hX dL_law_3 rfl ?_
    refine i_cI (wr := []) hX [] dL_law_4 (fun l sz => c_Fs l (dC, dI) cI cII sz q0) (fs_me1 11 rfl rfl) (fs_me1 12 rfl rfl) (fs_me1 1 rfl rfl) (fs_me1 13 rfl rfl) rfl (by decide +kernel) ⟨(Nat.le_of_ble_eq_true rfl), (Nat.le_of_ble_eq_true rfl)⟩ rfl (Nat.le_of_ble_eq_true rfl) ⟨(Nat.le_of_ble_eq_true rfl), (Nat.le_of_ble_eq_true rfl)⟩ 0 [] rfl rfl (by decide) (by decide) (fun α (ha : α 0 = q0) => ?_)
    subst ha
    refine i_as (lv' := [(1, .ref (α 0)), (0, .ref b)]) hX dL_law_7 rfl (by decide) rfl ?_
    refine i_new (ci := 4) (fs := [.null, .null, .null, .null, .int 0, .long 0, .long 0, .int 0, .null, .int 0, .null, .null, .null, .null, .null, .null, .null, .int 0, .null, .int 0, .int 0, .int 0, .int 0, .int 0, .null, .null, .null]) hX dL_law_8 rfl infX4 tyX4 tyX4_ok (fs_me3 126 rfl rfl) (fs_me3 127 rfl rfl) (fs_me1 7 rfl rfl) (by decide +kernel) (Nat.le_of_ble_eq_true rfl) (Nat.le_of_ble_eq_true rfl) (fun q8 => ?_)
    refine i_dup hX dL_law_11 rfl ?_
    refine i_sub [51, 0, 1, 2, 3, 4, 5, 6, 7, 8, 9, 10, 11, 12, 13, 14, 15, 16, 17, 18, 19, 20, 21, 22, 23, 24, 25, 26, 27, 28, 29, 30, 31, 32, 33, 34, 35, 36, 37, 38, 39, 40, 41, 42, 43, 44, 45, 46, 47, 48, 49, 50] (w' := (q8, .inr (4, [.null, .null, .null, .null, .int 0, .long 0, .long 0, .int 0, .null, .int 0, .null, .null, .null, .null, .null, .null, .null, .int 0, .null, .int 0, .int 0, .int 0, .int 0, .int 0, .null, .null, .null])) :: tmFs cI cII α) (by decide) rfl ?_
    refine i_cA hX [] dL_law_12 (fun l sz => c_Model l dC dI cI cII sz q8 b α) (fs_me3 128 rfl rfl) (fs_me3 129 rfl rfl) (fs_me1 7 rfl rfl) (fs_me3 130 rfl rfl) rfl (by decide +kernel) ⟨(Nat.le_of_ble_eq_true rfl), (Nat.le_of_ble_eq_true rfl)⟩ rfl (Nat.le_of_ble_eq_true rfl) ⟨(Nat.le_of_ble_eq_true rfl), (Nat.le_of_ble_eq_true rfl)⟩ (fun u hu => ?_)
    obtain ⟨β, σ, μ⟩ := u
    obtain ⟨h0, h51, h1k, hr0⟩ := hu
    have h0 : β 0 = α 0 := h0
    have h51 : β 51 = q8 := h51
    have h1k : β 1000 = b := h1k
    have hr0 : Rel σ μ := hr0
    refine i_as (lv' := [(2, .ref q8), (1, .ref (α 0)), (0, .ref b)]) hX dL_law_15 rfl (by decide) rfl ?_
    refine i_ic hX (0 : Int32) dL_law_16 (by decide) ?_
    refine i_is (lv' := [(3, .int 0), (2, .ref q8), (1, .ref (α 0)), (0, .ref b)]) hX dL_law_17 rfl (by decide) rfl ?_
    show iW (dC, dI) (p, l, e, room_1, s, m, #[Value.ref b], below, meth, c, lw_Z below #[Value.ref b] s, fun q : Nat => s.heap.size ≤ q) 18 4 [(3, .int 0), (2, .ref q8), (1, .ref (α 0)), (0, .ref b)] [] (fs_w cI cII β σ μ) _ _
    refine i_flat [some (.ref 1000), some (.ref 0), some (.ref 51), some (.int (nI 0))] [] rfl rfl (fun q hq => ?_) (fun inj hA2 => ?_)
    · have hq : q ∈ [(0, Value.ref (β 1000)), (1, Value.ref (β 0)), (2, Value.ref (β 51)), (3, Value.int (nI 0))] := hq
      rw [h0, h51, h1k, nI_0] at hq
      simp only [List.mem_cons, List.not_mem_nil, or_false] at hq ⊢
      rcases hq with h | h | h | h
      · exact Or.inr (Or.inr (Or.inr h))
      · exact Or.inr (Or.inr (Or.inl h))
      · exact Or.inr (Or.inl h)
      · exact Or.inl h
    · exact law_loop e_row e_lay e_at e_tear e_copy e_mean e_text e_put e_fault e_house e_one e_mark e_regard e_quarter e_soot e_wash e_gift e_undo e_keep e_on e_box e_later e_settles e_mill e_gains e_even e_change e_looks e_kinds e_test e_duel e_odds e_mid e_lots e_asked e_upper e_lower e_count e_finding e_findings e_digest ⟨hx, hb, hml, hown, hf, hK, inj, hA2, rfl, (Nat.le_of_ble_eq_true rfl), (Nat.le_of_ble_eq_true rfl)⟩ (b := b) (Ln := L) (xs := xs) ⟨h1k, hV, hbl, by omega⟩ ⟨rfl, rfl, hr, hlocks, rfl⟩ hL (L + 7) 0 σ μ (by omega) (by omega) hr0
  have hl := lv_entry [Value.ref b] (n := 4) (Nat.le_of_ble_eq_true rfl)
  rw [lg_entry_eq]
  exact key s.heap [] _ hl (fun k q hk => by cases hk) ⟨fun i j p q hi _ _ => (by cases hi), fun k q hk => (by cases hk)⟩ va_S.rf
