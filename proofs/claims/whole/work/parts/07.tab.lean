theorem fs_me0 {w : Cond} (i : Nat) (h : (k2_sels lw_privs)[i]? = some w) (g : goodWord w = true) : w ∈ fs_ws := List.mem_filter.mpr ⟨List.mem_append_left _ (List.mem_of_getElem? h), g⟩
theorem fs_me1 {w : Cond} (i : Nat) (h : tables_1_1[i]? = some w) (g : goodWord w = true) : w ∈ fs_ws := List.mem_filter.mpr ⟨List.mem_append_right _ (List.mem_append_left _ (List.mem_of_getElem? h)), g⟩
theorem fs_me2 {w : Cond} (i : Nat) (h : tables_1_2[i]? = some w) (g : goodWord w = true) : w ∈ fs_ws := List.mem_filter.mpr ⟨List.mem_append_right _ (List.mem_append_right _ (List.mem_append_left _ (List.mem_of_getElem? h))), g⟩
theorem fs_me3 {w : Cond} (i : Nat) (h : tables_1_3[i]? = some w) (g : goodWord w = true) : w ∈ fs_ws := List.mem_filter.mpr ⟨List.mem_append_right _ (List.mem_append_right _ (List.mem_append_right _ (List.mem_append_left _ (List.mem_of_getElem? h)))), g⟩
theorem fs_me4 {w : Cond} (i : Nat) (h : tables_1_4[i]? = some w) (g : goodWord w = true) : w ∈ fs_ws := List.mem_filter.mpr ⟨List.mem_append_right _ (List.mem_append_right _ (List.mem_append_right _ (List.mem_append_right _ (List.mem_append_left _ (List.mem_of_getElem? h))))), g⟩
theorem fs_me5 {w : Cond} (i : Nat) (h : tables_1_5[i]? = some w) (g : goodWord w = true) : w ∈ fs_ws := List.mem_filter.mpr ⟨List.mem_append_right _ (List.mem_append_right _ (List.mem_append_right _ (List.mem_append_right _ (List.mem_append_right _ (List.mem_of_getElem? h))))), g⟩
theorem fs_keep {X : fsC} {pc : Nat} {L : List (Option Value)} {st : List Value} {σ : fsS} {μ : fsL} (L' : List (Option Value)) (hn : L'.length = L.length) (hs : ∀ (i : Nat) (v : Value), L'[i]? = some (some v) → L[i]? = some (some v)) (k : fs_PW X pc L' st σ μ) : fs_PW X pc L st σ μ := by
  obtain ⟨p, l, e, R, s, m, args, below, meth, c, cells, slots, Q, dC, dI, α, cI, cII, A⟩ := X
  intro H locs ls hl hP hS
  refine k H locs ls ?_ hP hS
  rw [hn]
  refine ⟨hl.1, hl.2.1, fun q hq => hl.2.2 q ?_⟩
  obtain ⟨w, hw, hq2⟩ := fs_lv_of hq
  have := fs_lv_mem (α := α) (hs _ _ hw)
  rw [← hq2] at this
  exact this
def fs_mk : List Bool → List (Option Value) → List (Option Value)
  | true :: b, v :: l => v :: fs_mk b l
  | false :: b, _ :: l => none :: fs_mk b l
  | _, l => l
theorem fs_mk_len : ∀ (b : List Bool) (l : List (Option Value)), (fs_mk b l).length = l.length
  | [], _ => rfl
  | true :: _, [] => rfl
  | false :: _, [] => rfl
  | true :: b, _ :: l => by simp [fs_mk, fs_mk_len b l]
  | false :: b, _ :: l => by simp [fs_mk, fs_mk_len b l]
theorem fs_mk_get : ∀ (b : List Bool) (l : List (Option Value)) (i : Nat) (v : Value), (fs_mk b l)[i]? = some (some v) → l[i]? = some (some v)
  | [], _, _, _, h => h
  | true :: _, [], _, _, h => h
  | false :: _, [], _, _, h => h
  | true :: b, x :: l, 0, v, h => h
  | true :: b, x :: l, i + 1, v, h => fs_mk_get b l i v h
  | false :: b, x :: l, 0, v, h => by cases h
  | false :: b, x :: l, i + 1, v, h => fs_mk_get b l i v h
/-- forget the locals that nobody reads any more -/
theorem fs_ma {X : fsC} {pc : Nat} {L : List (Option Value)} {st : List Value} {σ : fsS} {μ : fsL} (b : List Bool) (k : fs_PW X pc (fs_mk b L) st σ μ) : fs_PW X pc L st σ μ := fs_keep _ (fs_mk_len b L) (fs_mk_get b L) k
theorem fs_bind {τ υ : Type} {o : Option τ} {f : τ → Option υ} {b : υ} (h : o.bind f = some b) : ∃ a, o = some a ∧ f a = some b := by
  cases o with
  | none => cases h
  | some a => exact ⟨a, rfl, h⟩
def fs_g {τ : Type} (p : Prop) [Decidable p] (x : Option τ) : Option τ := if p then x else none
theorem fs_gd {τ : Type} {p : Prop} [Decidable p] {x : Option τ} {b : τ} (h : fs_g p x = some b) : p ∧ x = some b := by
  unfold fs_g at h
  by_cases hp : p
  · rw [if_pos hp] at h; exact ⟨hp, h⟩
  · rw [if_neg hp] at h; cases h
theorem fs_gp {τ : Type} {p : Prop} [Decidable p] {x : Option τ} (h : p) : fs_g p x = x := if_pos h
abbrev fs_in (i : Int32) (n : Nat) : Prop := ¬ (i < 0 ∨ n ≤ i.toNatClampNeg)
def fs_fu : Nat := 100000
theorem fs_ne {x k : Int32} {z : Int} (h : ¬ x = k) (hk : k.toInt = z) : ¬ x.toInt = z := fun e => h (Int32.toInt_inj.mp (e.trans hk.symm))
theorem fs_cmp_lt {x y : Int64} : lg_cmp x y < 0 ↔ x < y := by
  unfold lg_cmp
  by_cases h1 : y < x
  · rw [if_pos h1]
    exact ⟨fun h => absurd h (by decide), fun h => absurd h (Int64.lt_asymm h1)⟩
  · rw [if_neg h1]
    by_cases h2 : x = y
    · rw [if_pos h2]
      exact ⟨fun h => absurd h (by decide), fun h => absurd h (by rw [h2]; exact Int64.lt_irrefl)⟩
    · rw [if_neg h2]
      exact ⟨fun _ => Int64.lt_iff_toInt_lt.mpr (by
        have a1 : ¬ y.toInt < x.toInt := fun h => h1 (Int64.lt_iff_toInt_lt.mpr h)
        have a2 : ¬ x.toInt = y.toInt := fun h => h2 (Int64.toInt_inj.mp h)
        omega), fun _ => by decide⟩
theorem fs_cmp_gt {x y : Int64} : 0 < lg_cmp x y ↔ y < x := by
  unfold lg_cmp
  by_cases h1 : y < x
  · rw [if_pos h1]
    exact ⟨fun _ => h1, fun _ => by decide⟩
  · rw [if_neg h1]
    by_cases h2 : x = y
    · rw [if_pos h2]
      exact ⟨fun h => absurd h (by decide), fun h => absurd h h1⟩
    · rw [if_neg h2]
      exact ⟨fun h => absurd h (by decide), fun h => absurd h h1⟩
theorem fs_cmp_eq {x y : Int64} : lg_cmp x y = 0 ↔ x = y := by
  unfold lg_cmp
  by_cases h1 : y < x
  · rw [if_pos h1]
    exact ⟨fun h => absurd h (by decide), fun h => absurd h1 (by rw [h]; exact Int64.lt_irrefl)⟩
  · rw [if_neg h1]
    by_cases h2 : x = y
    · rw [if_pos h2]
      exact ⟨fun _ => h2, fun _ => rfl⟩
    · rw [if_neg h2]
      exact ⟨fun h => absurd h (by decide), fun h => absurd h h2⟩
/-- a class' object: KIN 4, 5, 6; a Shelf 1, 2 -/
def fs_K (o : Nat) : Prop := o = 4 ∨ o = 5 ∨ o = 6
def fs_H (o : Nat) : Prop := o = 1 ∨ o = 2
def fs_is (k ci : Nat) : Prop := ∃ fs, fs_tp[k]? = some (.inl (ci, fs))
theorem fs_K_is {o : Nat} (h : fs_K o) : fs_is o 1 := by rcases h with rfl | rfl | rfl <;> exact ⟨_, rfl⟩
theorem fs_H_is {o : Nat} (h : fs_H o) : fs_is o 2 := by rcases h with rfl | rfl <;> exact ⟨_, rfl⟩
theorem fs_K4 : fs_K 4 := Or.inl rfl
theorem fs_K5 : fs_K 5 := Or.inr (Or.inl rfl)
theorem fs_K6 : fs_K 6 := Or.inr (Or.inr rfl)
theorem fs_H1 : fs_H 1 := Or.inl rfl
theorem fs_H2 : fs_H 2 := Or.inr rfl

theorem fs_kd0 {o : Nat} (h : fs_K o) : fs_fd o 1 0 = some (.inr false) := by rcases h with rfl | rfl | rfl <;> rfl
theorem fs_kd8 {o : Nat} (h : fs_K o) : fs_fd o 1 8 = some (.inr false) := by rcases h with rfl | rfl | rfl <;> rfl
theorem fs_kd9 {o : Nat} (h : fs_K o) : fs_fd o 1 9 = some (.inr false) := by rcases h with rfl | rfl | rfl <;> rfl
theorem fs_kd1 {o : Nat} (h : fs_K o) : fs_fd o 1 1 = some (.inl (7 * o - 14 + 0)) := by rcases h with rfl | rfl | rfl <;> rfl
theorem fs_kd2 {o : Nat} (h : fs_K o) : fs_fd o 1 2 = some (.inl (7 * o - 14 + 1)) := by rcases h with rfl | rfl | rfl <;> rfl
theorem fs_kd3 {o : Nat} (h : fs_K o) : fs_fd o 1 3 = some (.inl (7 * o - 14 + 2)) := by rcases h with rfl | rfl | rfl <;> rfl
theorem fs_kd4 {o : Nat} (h : fs_K o) : fs_fd o 1 4 = some (.inl (7 * o - 14 + 3)) := by rcases h with rfl | rfl | rfl <;> rfl
theorem fs_kd5 {o : Nat} (h : fs_K o) : fs_fd o 1 5 = some (.inl (7 * o - 14 + 4)) := by rcases h with rfl | rfl | rfl <;> rfl
theorem fs_kd6 {o : Nat} (h : fs_K o) : fs_fd o 1 6 = some (.inl (7 * o - 14 + 5)) := by rcases h with rfl | rfl | rfl <;> rfl
theorem fs_kd7 {o : Nat} (h : fs_K o) : fs_fd o 1 7 = some (.inl (7 * o - 14 + 6)) := by rcases h with rfl | rfl | rfl <;> rfl
theorem fs_hd0 {o : Nat} (h : fs_H o) : fs_fd o 2 0 = some (.inl (34 + o)) := by rcases h with rfl | rfl <;> rfl
theorem fs_hd1 {o : Nat} (h : fs_H o) : fs_fd o 2 1 = some (.inl (9 + o)) := by rcases h with rfl | rfl <;> rfl
theorem fs_hd2 {o : Nat} (h : fs_H o) : fs_fd o 2 2 = some (.inr false) := by rcases h with rfl | rfl <;> rfl
theorem fs_hl {o : Nat} (h : fs_H o) : ¬ fs_len (9 + o) = 0 := by rcases h with rfl | rfl <;> decide
abbrev fs_cp (a b : Nat) (sp dp n : Int32) : Prop := ¬ sp < 0 ∧ ¬ dp < 0 ∧ ¬ n < 0 ∧ ¬ fs_len a = 0 ∧ ¬ fs_len b = 0 ∧ sp.toNatClampNeg + n.toNatClampNeg ≤ fs_len a ∧ dp.toNatClampNeg + n.toNatClampNeg ≤ fs_len b
def fs_cy (σ : fsS) (a b : Nat) (sp dp n : Int32) : fsS := fs_s σ b (va_cpy (σ a) (σ b) sp.toNatClampNeg dp.toNatClampNeg n.toNatClampNeg)
theorem s_ac {cc : ByteArray} {own : String} {nL : Nat} {rm : Room} {X : fsC} (hX : fs_ok cc own nL rm X) {pc : Nat} {L : List (Option Value)} {st : List Value} {σ : fsS} {μ : fsL} {index a b : Nat} {sp dp n : Int32} (hd : decode cc pc = .ok (.invokestatic index, 3)) (hw : fs_ac own index) (hg : fs_cp a b sp dp n) (hL : L.length = nL) (hf : 1 ≤ rm.frames) (hlo : (st.map fun v => v.category).sum + (nativeFrameWords "java/lang/System" "arraycopy" 5 + 11) ≤ rm.locals) (k : fs_PW X (pc + 3) L st (fs_cy σ a b sp dp n) μ) : fs_PW X pc L (.int n :: .int dp :: .ref b :: .int sp :: .ref a :: st) σ μ :=
  s_acopy hX hd hw hg.1 hg.2.1 hg.2.2.1 hg.2.2.2.1 hg.2.2.2.2.1 hg.2.2.2.2.2.1 hg.2.2.2.2.2.2 hL hf hlo k
theorem fs_ik0 {o : Nat} {i : Int32} (ho : fs_K o) (h : fs_in i 6) : vp_in i (fs_len (7 * o - 14 + 0)) := by rcases ho with rfl | rfl | rfl <;> exact h
theorem fs_ik1 {o : Nat} {i : Int32} (ho : fs_K o) (h : fs_in i 6) : vp_in i (fs_len (7 * o - 14 + 1)) := by rcases ho with rfl | rfl | rfl <;> exact h
theorem fs_ik2 {o : Nat} {i : Int32} (ho : fs_K o) (h : fs_in i 6) : vp_in i (fs_len (7 * o - 14 + 2)) := by rcases ho with rfl | rfl | rfl <;> exact h
theorem fs_ik3 {o : Nat} {i : Int32} (ho : fs_K o) (h : fs_in i 6) : vp_in i (fs_len (7 * o - 14 + 3)) := by rcases ho with rfl | rfl | rfl <;> exact h
theorem fs_ik4 {o : Nat} {i : Int32} (ho : fs_K o) (h : fs_in i 6) : vp_in i (fs_len (7 * o - 14 + 4)) := by rcases ho with rfl | rfl | rfl <;> exact h
theorem fs_ik5 {o : Nat} {i : Int32} (ho : fs_K o) (h : fs_in i 6) : vp_in i (fs_len (7 * o - 14 + 5)) := by rcases ho with rfl | rfl | rfl <;> exact h
theorem fs_ik6 {o : Nat} {i : Int32} (ho : fs_K o) (h : fs_in i 6) : vp_in i (fs_len (7 * o - 14 + 6)) := by rcases ho with rfl | rfl | rfl <;> exact h
theorem s_geti {cc : ByteArray} {own : String} {nL : Nat} {rm : Room} {X : fsC} (hX : fs_ok cc own nL rm X) {pc : Nat} {L : List (Option Value)} {st : List Value} {σ : fsS} {μ : fsL} {o index ci j : Nat} (hd : decode cc pc = .ok (.getfield index, 3)) (hf : fs_fl own index ci j) (hv : fs_fd o ci j = some (.inr false)) (k : fs_PW X (pc + 3) L (.int (σ o j) :: st) σ μ) : fs_PW X pc L (.ref o :: st) σ μ := s_get hX hd hf hv k
theorem s_getl {cc : ByteArray} {own : String} {nL : Nat} {rm : Room} {X : fsC} (hX : fs_ok cc own nL rm X) {pc : Nat} {L : List (Option Value)} {st : List Value} {σ : fsS} {μ : fsL} {o index ci j : Nat} (hd : decode cc pc = .ok (.getfield index, 3)) (hf : fs_fl own index ci j) (hv : fs_fd o ci j = some (.inr true)) (k : fs_PW X (pc + 3) L (.long (μ o j) :: st) σ μ) : fs_PW X pc L (.ref o :: st) σ μ := s_get hX hd hf hv k
theorem s_getr {cc : ByteArray} {own : String} {nL : Nat} {rm : Room} {X : fsC} (hX : fs_ok cc own nL rm X) {pc : Nat} {L : List (Option Value)} {st : List Value} {σ : fsS} {μ : fsL} {o index ci j r : Nat} (hd : decode cc pc = .ok (.getfield index, 3)) (hf : fs_fl own index ci j) (hv : fs_fd o ci j = some (.inl r)) (k : fs_PW X (pc + 3) L (.ref r :: st) σ μ) : fs_PW X pc L (.ref o :: st) σ μ := s_get hX hd hf hv k
theorem s_tabK {cc : ByteArray} {own : String} {nL : Nat} {rm : Room} {X : fsC} (hX : fs_ok cc own nL rm X) {pc : Nat} {L : List (Option Value)} {st : List Value} {σ : fsS} {μ : fsL} {dflt lo hi : Int} {offs : Array Int} {len : Nat} {x : Int32} {off : Int} (tgt : Nat) (kx : Int32) (hx : x = kx) (hd : decode cc pc = .ok (.tableswitch dflt lo hi offs, len)) (h1 : ¬ kx.toInt < lo) (h2 : ¬ hi < kx.toInt) (ho : offs[(kx.toInt - lo).toNat]? = some off) (ht : (pc : Int) + off = (tgt : Int)) (k : fs_PW X tgt L st σ μ) : fs_PW X pc L (.int x :: st) σ μ := by
  rw [hx]
  exact s_tabIn hX tgt hd h1 h2 ho ht k
theorem s_lookK {cc : ByteArray} {own : String} {nL : Nat} {rm : Room} {X : fsC} (hX : fs_ok cc own nL rm X) {pc : Nat} {L : List (Option Value)} {st : List Value} {σ : fsS} {μ : fsL} {dflt : Int} {ps : Array (Int × Int)} {len : Nat} {x : Int32} {off : Int} (tgt : Nat) (kx : Int32) (hx : x = kx) (hd : decode cc pc = .ok (.lookupswitch dflt ps, len)) (hp : (ps.toList.zip (ps.toList.drop 1)).all (fun (a, next) => a.1 < next.1) = true) (ho : Op.lookupswitch.offset ps.toList dflt kx.toInt = off) (ht : (pc : Int) + off = (tgt : Int)) (k : fs_PW X tgt L st σ μ) : fs_PW X pc L (.int x :: st) σ μ := by
  rw [hx]
  exact s_look hX tgt hd hp ho ht k
theorem s_cV {cc : ByteArray} {own : String} {nL : Nat} {rm : Room} {X : fsC} (hX : fs_ok cc own nL rm X) {pc : Nat} {L : List (Option Value)} {st : List Value} {σ : fsS} {μ : fsL} {y : MethodName} {code : ByteArray} {maxL index : Nat} {ret : Option FieldType} {rmc : Room} {o ci : Nat} (as : List Value) {rest : List Value} {r : Option Value} {σ' : fsS} {μ' : fsL}
    (hd : decode cc pc = .ok (.invokevirtual index, 3)) (hlink : Cond.methodLink own index y ∈ fs_ws) (hy : fs_yV y code maxL ret as.length) (hM : fs_Met y code maxL ret rmc (.ref o :: as) σ μ r σ' μ') (ht : fs_is o ci) (hc : ∃ T N, vwCl[ci]? = some (y.cls, T, N)) (hcells : rmc.cells = 0 ∧ rmc.slots = 0) (hR : rmc.frames + 1 ≤ rm.frames ∧ 8 + (maxL + 11) + rmc.locals ≤ rm.locals)
    (hst : st = as.reverse ++ .ref o :: rest) (hL : L.length = nL) (hW : (rest.map fun v => v.category).sum ≤ 8)
    (kk : fs_PW X (pc + 3) L (r.toList ++ rest) σ' μ') : fs_PW X pc L st σ μ := by
  obtain ⟨fs, ht⟩ := ht
  obtain ⟨T, N, hc⟩ := hc
  exact s_callV hX hd hlink hy hM ht hc hcells hR hst hL hW kk
theorem fs_c0 : ∃ T N, vwCl[0]? = some (RX0, T, N) := ⟨_, _, rfl⟩
theorem fs_c1 : ∃ T N, vwCl[1]? = some (RX1, T, N) := ⟨_, _, rfl⟩
theorem fs_c2 : ∃ T N, vwCl[2]? = some (RX2, T, N) := ⟨_, _, rfl⟩
theorem fs_c3 : ∃ T N, vwCl[3]? = some (RX3, T, N) := ⟨_, _, rfl⟩
theorem fs_c4 : ∃ T N, vwCl[4]? = some (RX4, T, N) := ⟨_, _, rfl⟩
theorem infX0 : ∀ w ∈ wsX00, w ∈ fs_ws := fun w h => List.mem_filter.mpr ⟨inX0 w h, List.all_eq_true.mp (show wsX00.all goodWord = true by decide +kernel) w h⟩
theorem infX1 : ∀ w ∈ wsX10, w ∈ fs_ws := fun w h => List.mem_filter.mpr ⟨inX1 w h, List.all_eq_true.mp (show wsX10.all goodWord = true by decide +kernel) w h⟩
theorem infX2 : ∀ w ∈ wsX20, w ∈ fs_ws := fun w h => List.mem_filter.mpr ⟨inX2 w h, List.all_eq_true.mp (show wsX20.all goodWord = true by decide +kernel) w h⟩
theorem infX3 : ∀ w ∈ wsX30, w ∈ fs_ws := fun w h => List.mem_filter.mpr ⟨inX3 w h, List.all_eq_true.mp (show wsX30.all goodWord = true by decide +kernel) w h⟩
theorem infX4 : ∀ w ∈ wsX40, w ∈ fs_ws := fun w h => List.mem_filter.mpr ⟨inX4 w h, List.all_eq_true.mp (show wsX40.all goodWord = true by decide +kernel) w h⟩
theorem f_X0_12 : fs_fl RX0 12 0 0 := ⟨RX0, TX0, 7, rfl, infX0, by decide, (fs_me1 102 rfl rfl), rfl⟩
theorem f_X0_18 : fs_fl RX0 18 0 1 := ⟨RX0, TX0, 7, rfl, infX0, by decide, (fs_me1 103 rfl rfl), rfl⟩
theorem f_X0_21 : fs_fl RX0 21 0 2 := ⟨RX0, TX0, 7, rfl, infX0, by decide, (fs_me1 105 rfl rfl), rfl⟩
theorem p_X0_21 : fs_fp RX0 21 0 2 .int := ⟨RX0, TX0, 7, tyX0, rfl, infX0, by decide, (fs_me1 105 rfl rfl), rfl, tyX0_ok, nmX0, rfl, by decide +kernel⟩
theorem f_X0_25 : fs_fl RX0 25 0 3 := ⟨RX0, TX0, 7, rfl, infX0, by decide, (fs_me1 107 rfl rfl), rfl⟩
theorem p_X0_25 : fs_fp RX0 25 0 3 .int := ⟨RX0, TX0, 7, tyX0, rfl, infX0, by decide, (fs_me1 107 rfl rfl), rfl, tyX0_ok, nmX0, rfl, by decide +kernel⟩
theorem f_X0_28 : fs_fl RX0 28 0 4 := ⟨RX0, TX0, 7, rfl, infX0, by decide, (fs_me1 109 rfl rfl), rfl⟩
theorem f_X0_34 : fs_fl RX0 34 0 5 := ⟨RX0, TX0, 7, rfl, infX0, by decide, (fs_me1 110 rfl rfl), rfl⟩
theorem f_X0_37 : fs_fl RX0 37 0 6 := ⟨RX0, TX0, 7, rfl, infX0, by decide, (fs_me1 111 rfl rfl), rfl⟩
theorem f_X0_61 : fs_fl RX0 61 1 0 := ⟨RX1, TX1, 10, rfl, infX1, by decide, (fs_me1 57 rfl rfl), rfl⟩
theorem p_X0_61 : fs_fp RX0 61 1 0 .int := ⟨RX1, TX1, 10, tyX1, rfl, infX1, by decide, (fs_me1 57 rfl rfl), rfl, tyX1_ok, nmX1, rfl, by decide +kernel⟩
theorem f_X0_68 : fs_fl RX0 68 1 5 := ⟨RX1, TX1, 10, rfl, infX1, by decide, (fs_me1 69 rfl rfl), rfl⟩
theorem f_X0_71 : fs_fl RX0 71 1 4 := ⟨RX1, TX1, 10, rfl, infX1, by decide, (fs_me1 66 rfl rfl), rfl⟩
theorem f_X1_9 : fs_fl RX1 9 1 0 := ⟨RX1, TX1, 10, rfl, infX1, by decide, (fs_me1 56 rfl rfl), rfl⟩
theorem p_X1_9 : fs_fp RX1 9 1 0 .int := ⟨RX1, TX1, 10, tyX1, rfl, infX1, by decide, (fs_me1 56 rfl rfl), rfl, tyX1_ok, nmX1, rfl, by decide +kernel⟩
theorem f_X1_15 : fs_fl RX1 15 1 1 := ⟨RX1, TX1, 10, rfl, infX1, by decide, (fs_me1 59 rfl rfl), rfl⟩
theorem f_X1_19 : fs_fl RX1 19 1 2 := ⟨RX1, TX1, 10, rfl, infX1, by decide, (fs_me1 61 rfl rfl), rfl⟩
theorem f_X1_22 : fs_fl RX1 22 1 3 := ⟨RX1, TX1, 10, rfl, infX1, by decide, (fs_me1 63 rfl rfl), rfl⟩
theorem f_X1_25 : fs_fl RX1 25 1 4 := ⟨RX1, TX1, 10, rfl, infX1, by decide, (fs_me1 65 rfl rfl), rfl⟩
theorem f_X1_28 : fs_fl RX1 28 1 5 := ⟨RX1, TX1, 10, rfl, infX1, by decide, (fs_me1 68 rfl rfl), rfl⟩
theorem f_X1_31 : fs_fl RX1 31 1 6 := ⟨RX1, TX1, 10, rfl, infX1, by decide, (fs_me1 71 rfl rfl), rfl⟩
theorem f_X1_34 : fs_fl RX1 34 1 7 := ⟨RX1, TX1, 10, rfl, infX1, by decide, (fs_me1 73 rfl rfl), rfl⟩
theorem f_X1_37 : fs_fl RX1 37 1 8 := ⟨RX1, TX1, 10, rfl, infX1, by decide, (fs_me1 75 rfl rfl), rfl⟩
theorem p_X1_37 : fs_fp RX1 37 1 8 .int := ⟨RX1, TX1, 10, tyX1, rfl, infX1, by decide, (fs_me1 75 rfl rfl), rfl, tyX1_ok, nmX1, rfl, by decide +kernel⟩
theorem f_X1_40 : fs_fl RX1 40 1 9 := ⟨RX1, TX1, 10, rfl, infX1, by decide, (fs_me1 77 rfl rfl), rfl⟩
theorem p_X1_40 : fs_fp RX1 40 1 9 .int := ⟨RX1, TX1, 10, tyX1, rfl, infX1, by decide, (fs_me1 77 rfl rfl), rfl, tyX1_ok, nmX1, rfl, by decide +kernel⟩
theorem f_X2_17 : fs_fl RX2 17 2 0 := ⟨RX2, TX2, 3, rfl, infX2, by decide, (fs_me1 31 rfl rfl), rfl⟩
theorem f_X2_22 : fs_fl RX2 22 2 1 := ⟨RX2, TX2, 3, rfl, infX2, by decide, (fs_me1 33 rfl rfl), rfl⟩
theorem f_X2_26 : fs_fl RX2 26 2 2 := ⟨RX2, TX2, 3, rfl, infX2, by decide, (fs_me1 35 rfl rfl), rfl⟩
theorem f_X3_14 : fs_fl RX3 14 3 0 := ⟨RX3, TX3, 11, rfl, infX3, by decide, (fs_me1 130 rfl rfl), rfl⟩
theorem f_X3_18 : fs_fl RX3 18 3 1 := ⟨RX3, TX3, 11, rfl, infX3, by decide, (fs_me1 131 rfl rfl), rfl⟩
theorem f_X3_24 : fs_fl RX3 24 3 2 := ⟨RX3, TX3, 11, rfl, infX3, by decide, (fs_me1 132 rfl rfl), rfl⟩
theorem f_X3_31 : fs_fl RX3 31 3 3 := ⟨RX3, TX3, 11, rfl, infX3, by decide, (fs_me1 133 rfl rfl), rfl⟩
theorem f_X3_35 : fs_fl RX3 35 3 4 := ⟨RX3, TX3, 11, rfl, infX3, by decide, (fs_me1 134 rfl rfl), rfl⟩
theorem f_X3_39 : fs_fl RX3 39 3 5 := ⟨RX3, TX3, 11, rfl, infX3, by decide, (fs_me1 135 rfl rfl), rfl⟩
theorem f_X3_42 : fs_fl RX3 42 3 6 := ⟨RX3, TX3, 11, rfl, infX3, by decide, (fs_me1 136 rfl rfl), rfl⟩
theorem f_X3_45 : fs_fl RX3 45 3 7 := ⟨RX3, TX3, 11, rfl, infX3, by decide, (fs_me1 137 rfl rfl), rfl⟩
theorem p_X3_45 : fs_fp RX3 45 3 7 .int := ⟨RX3, TX3, 11, tyX3, rfl, infX3, by decide, (fs_me1 137 rfl rfl), rfl, tyX3_ok, nmX3, rfl, by decide +kernel⟩
theorem f_X3_49 : fs_fl RX3 49 3 8 := ⟨RX3, TX3, 11, rfl, infX3, by decide, (fs_me1 138 rfl rfl), rfl⟩
theorem p_X3_49 : fs_fp RX3 49 3 8 .int := ⟨RX3, TX3, 11, tyX3, rfl, infX3, by decide, (fs_me1 138 rfl rfl), rfl, tyX3_ok, nmX3, rfl, by decide +kernel⟩
theorem f_X3_52 : fs_fl RX3 52 3 9 := ⟨RX3, TX3, 11, rfl, infX3, by decide, (fs_me1 139 rfl rfl), rfl⟩
theorem p_X3_52 : fs_fp RX3 52 3 9 .long := ⟨RX3, TX3, 11, tyX3, rfl, infX3, by decide, (fs_me1 139 rfl rfl), rfl, tyX3_ok, nmX3, rfl, by decide +kernel⟩
theorem f_X3_56 : fs_fl RX3 56 3 10 := ⟨RX3, TX3, 11, rfl, infX3, by decide, (fs_me1 140 rfl rfl), rfl⟩
theorem p_X3_56 : fs_fp RX3 56 3 10 .long := ⟨RX3, TX3, 11, tyX3, rfl, infX3, by decide, (fs_me1 140 rfl rfl), rfl, tyX3_ok, nmX3, rfl, by decide +kernel⟩
theorem f_X3_75 : fs_fl RX3 75 2 0 := ⟨RX2, TX2, 3, rfl, infX2, by decide, (fs_me1 32 rfl rfl), rfl⟩
theorem f_X3_85 : fs_fl RX3 85 2 1 := ⟨RX2, TX2, 3, rfl, infX2, by decide, (fs_me1 34 rfl rfl), rfl⟩
theorem f_X3_113 : fs_fl RX3 113 0 1 := ⟨RX0, TX0, 7, rfl, infX0, by decide, (fs_me1 104 rfl rfl), rfl⟩
theorem f_X3_116 : fs_fl RX3 116 1 0 := ⟨RX1, TX1, 10, rfl, infX1, by decide, (fs_me1 58 rfl rfl), rfl⟩
theorem p_X3_116 : fs_fp RX3 116 1 0 .int := ⟨RX1, TX1, 10, tyX1, rfl, infX1, by decide, (fs_me1 58 rfl rfl), rfl, tyX1_ok, nmX1, rfl, by decide +kernel⟩
theorem f_X3_125 : fs_fl RX3 125 1 1 := ⟨RX1, TX1, 10, rfl, infX1, by decide, (fs_me1 60 rfl rfl), rfl⟩
theorem f_X3_143 : fs_fl RX3 143 1 2 := ⟨RX1, TX1, 10, rfl, infX1, by decide, (fs_me1 62 rfl rfl), rfl⟩
theorem f_X3_154 : fs_fl RX3 154 0 2 := ⟨RX0, TX0, 7, rfl, infX0, by decide, (fs_me1 106 rfl rfl), rfl⟩
theorem p_X3_154 : fs_fp RX3 154 0 2 .int := ⟨RX0, TX0, 7, tyX0, rfl, infX0, by decide, (fs_me1 106 rfl rfl), rfl, tyX0_ok, nmX0, rfl, by decide +kernel⟩
theorem f_X3_167 : fs_fl RX3 167 1 9 := ⟨RX1, TX1, 10, rfl, infX1, by decide, (fs_me1 78 rfl rfl), rfl⟩
theorem p_X3_167 : fs_fp RX3 167 1 9 .int := ⟨RX1, TX1, 10, tyX1, rfl, infX1, by decide, (fs_me1 78 rfl rfl), rfl, tyX1_ok, nmX1, rfl, by decide +kernel⟩
theorem f_X3_170 : fs_fl RX3 170 1 5 := ⟨RX1, TX1, 10, rfl, infX1, by decide, (fs_me1 70 rfl rfl), rfl⟩
theorem f_X3_176 : fs_fl RX3 176 1 4 := ⟨RX1, TX1, 10, rfl, infX1, by decide, (fs_me1 67 rfl rfl), rfl⟩
theorem f_X3_179 : fs_fl RX3 179 0 3 := ⟨RX0, TX0, 7, rfl, infX0, by decide, (fs_me1 108 rfl rfl), rfl⟩
theorem p_X3_179 : fs_fp RX3 179 0 3 .int := ⟨RX0, TX0, 7, tyX0, rfl, infX0, by decide, (fs_me1 108 rfl rfl), rfl, tyX0_ok, nmX0, rfl, by decide +kernel⟩
theorem f_X3_191 : fs_fl RX3 191 0 6 := ⟨RX0, TX0, 7, rfl, infX0, by decide, (fs_me1 112 rfl rfl), rfl⟩
theorem f_X3_200 : fs_fl RX3 200 1 8 := ⟨RX1, TX1, 10, rfl, infX1, by decide, (fs_me1 76 rfl rfl), rfl⟩
theorem p_X3_200 : fs_fp RX3 200 1 8 .int := ⟨RX1, TX1, 10, tyX1, rfl, infX1, by decide, (fs_me1 76 rfl rfl), rfl, tyX1_ok, nmX1, rfl, by decide +kernel⟩
theorem f_X3_209 : fs_fl RX3 209 1 7 := ⟨RX1, TX1, 10, rfl, infX1, by decide, (fs_me1 74 rfl rfl), rfl⟩
theorem f_X3_299 : fs_fl RX3 299 1 3 := ⟨RX1, TX1, 10, rfl, infX1, by decide, (fs_me1 64 rfl rfl), rfl⟩
theorem f_X3_302 : fs_fl RX3 302 1 6 := ⟨RX1, TX1, 10, rfl, infX1, by decide, (fs_me1 72 rfl rfl), rfl⟩
theorem f_X4_7 : fs_fl RX4 7 4 0 := ⟨RX4, TX4, 27, rfl, infX4, by decide, (fs_me3 136 rfl rfl), rfl⟩
theorem f_X4_13 : fs_fl RX4 13 4 1 := ⟨RX4, TX4, 27, rfl, infX4, by decide, (fs_me3 137 rfl rfl), rfl⟩
theorem f_X4_16 : fs_fl RX4 16 4 2 := ⟨RX4, TX4, 27, rfl, infX4, by decide, (fs_me3 138 rfl rfl), rfl⟩
theorem f_X4_19 : fs_fl RX4 19 4 3 := ⟨RX4, TX4, 27, rfl, infX4, by decide, (fs_me3 139 rfl rfl), rfl⟩
theorem f_X4_22 : fs_fl RX4 22 4 6 := ⟨RX4, TX4, 27, rfl, infX4, by decide, (fs_me3 142 rfl rfl), rfl⟩
theorem p_X4_22 : fs_fp RX4 22 4 6 .long := ⟨RX4, TX4, 27, tyX4, rfl, infX4, by decide, (fs_me3 142 rfl rfl), rfl, tyX4_ok, nmX4, rfl, by decide +kernel⟩
theorem f_X4_26 : fs_fl RX4 26 4 8 := ⟨RX4, TX4, 27, rfl, infX4, by decide, (fs_me3 144 rfl rfl), rfl⟩
theorem f_X4_29 : fs_fl RX4 29 4 10 := ⟨RX4, TX4, 27, rfl, infX4, by decide, (fs_me3 146 rfl rfl), rfl⟩
theorem f_X4_32 : fs_fl RX4 32 4 11 := ⟨RX4, TX4, 27, rfl, infX4, by decide, (fs_me3 147 rfl rfl), rfl⟩
theorem f_X4_35 : fs_fl RX4 35 4 12 := ⟨RX4, TX4, 27, rfl, infX4, by decide, (fs_me3 148 rfl rfl), rfl⟩
theorem f_X4_38 : fs_fl RX4 38 4 13 := ⟨RX4, TX4, 27, rfl, infX4, by decide, (fs_me3 149 rfl rfl), rfl⟩
theorem f_X4_41 : fs_fl RX4 41 4 14 := ⟨RX4, TX4, 27, rfl, infX4, by decide, (fs_me3 150 rfl rfl), rfl⟩
theorem f_X4_44 : fs_fl RX4 44 4 15 := ⟨RX4, TX4, 27, rfl, infX4, by decide, (fs_me3 151 rfl rfl), rfl⟩
theorem f_X4_47 : fs_fl RX4 47 4 16 := ⟨RX4, TX4, 27, rfl, infX4, by decide, (fs_me3 152 rfl rfl), rfl⟩
theorem f_X4_50 : fs_fl RX4 50 4 18 := ⟨RX4, TX4, 27, rfl, infX4, by decide, (fs_me3 154 rfl rfl), rfl⟩
theorem f_X4_53 : fs_fl RX4 53 4 24 := ⟨RX4, TX4, 27, rfl, infX4, by decide, (fs_me3 160 rfl rfl), rfl⟩
theorem f_X4_56 : fs_fl RX4 56 4 25 := ⟨RX4, TX4, 27, rfl, infX4, by decide, (fs_me3 161 rfl rfl), rfl⟩
theorem f_X4_59 : fs_fl RX4 59 4 26 := ⟨RX4, TX4, 27, rfl, infX4, by decide, (fs_me3 162 rfl rfl), rfl⟩
theorem f_X4_65 : fs_fl RX4 65 4 7 := ⟨RX4, TX4, 27, rfl, infX4, by decide, (fs_me3 143 rfl rfl), rfl⟩
theorem p_X4_65 : fs_fp RX4 65 4 7 .int := ⟨RX4, TX4, 27, tyX4, rfl, infX4, by decide, (fs_me3 143 rfl rfl), rfl, tyX4_ok, nmX4, rfl, by decide +kernel⟩
theorem f_X4_69 : fs_fl RX4 69 4 4 := ⟨RX4, TX4, 27, rfl, infX4, by decide, (fs_me3 140 rfl rfl), rfl⟩
theorem p_X4_69 : fs_fp RX4 69 4 4 .int := ⟨RX4, TX4, 27, tyX4, rfl, infX4, by decide, (fs_me3 140 rfl rfl), rfl, tyX4_ok, nmX4, rfl, by decide +kernel⟩
theorem f_X4_94 : fs_fl RX4 94 4 17 := ⟨RX4, TX4, 27, rfl, infX4, by decide, (fs_me3 153 rfl rfl), rfl⟩
theorem p_X4_94 : fs_fp RX4 94 4 17 .int := ⟨RX4, TX4, 27, tyX4, rfl, infX4, by decide, (fs_me3 153 rfl rfl), rfl, tyX4_ok, nmX4, rfl, by decide +kernel⟩
theorem f_X4_97 : fs_fl RX4 97 4 19 := ⟨RX4, TX4, 27, rfl, infX4, by decide, (fs_me3 155 rfl rfl), rfl⟩
theorem p_X4_97 : fs_fp RX4 97 4 19 .int := ⟨RX4, TX4, 27, tyX4, rfl, infX4, by decide, (fs_me3 155 rfl rfl), rfl, tyX4_ok, nmX4, rfl, by decide +kernel⟩
theorem f_X4_100 : fs_fl RX4 100 4 20 := ⟨RX4, TX4, 27, rfl, infX4, by decide, (fs_me3 156 rfl rfl), rfl⟩
theorem p_X4_100 : fs_fp RX4 100 4 20 .int := ⟨RX4, TX4, 27, tyX4, rfl, infX4, by decide, (fs_me3 156 rfl rfl), rfl, tyX4_ok, nmX4, rfl, by decide +kernel⟩
theorem f_X4_103 : fs_fl RX4 103 4 21 := ⟨RX4, TX4, 27, rfl, infX4, by decide, (fs_me3 157 rfl rfl), rfl⟩
theorem p_X4_103 : fs_fp RX4 103 4 21 .int := ⟨RX4, TX4, 27, tyX4, rfl, infX4, by decide, (fs_me3 157 rfl rfl), rfl, tyX4_ok, nmX4, rfl, by decide +kernel⟩
theorem f_X4_114 : fs_fl RX4 114 4 22 := ⟨RX4, TX4, 27, rfl, infX4, by decide, (fs_me3 158 rfl rfl), rfl⟩
theorem p_X4_114 : fs_fp RX4 114 4 22 .int := ⟨RX4, TX4, 27, tyX4, rfl, infX4, by decide, (fs_me3 158 rfl rfl), rfl, tyX4_ok, nmX4, rfl, by decide +kernel⟩
theorem f_X4_120 : fs_fl RX4 120 4 23 := ⟨RX4, TX4, 27, rfl, infX4, by decide, (fs_me3 159 rfl rfl), rfl⟩
theorem p_X4_120 : fs_fp RX4 120 4 23 .int := ⟨RX4, TX4, 27, tyX4, rfl, infX4, by decide, (fs_me3 159 rfl rfl), rfl, tyX4_ok, nmX4, rfl, by decide +kernel⟩
theorem f_X4_136 : fs_fl RX4 136 4 9 := ⟨RX4, TX4, 27, rfl, infX4, by decide, (fs_me3 145 rfl rfl), rfl⟩
theorem p_X4_136 : fs_fp RX4 136 4 9 .int := ⟨RX4, TX4, 27, tyX4, rfl, infX4, by decide, (fs_me3 145 rfl rfl), rfl, tyX4_ok, nmX4, rfl, by decide +kernel⟩
theorem f_X4_234 : fs_fl RX4 234 4 5 := ⟨RX4, TX4, 27, rfl, infX4, by decide, (fs_me3 141 rfl rfl), rfl⟩
theorem p_X4_234 : fs_fp RX4 234 4 5 .long := ⟨RX4, TX4, 27, tyX4, rfl, infX4, by decide, (fs_me3 141 rfl rfl), rfl, tyX4_ok, nmX4, rfl, by decide +kernel⟩
theorem k_L_13 : Cond.methodLink RL 13 yX3_row ∈ fs_ws := (fs_me1 164 rfl rfl)
theorem k_L_17 : Cond.methodLink RL 17 yX4_row ∈ fs_ws := (fs_me3 218 rfl rfl)
theorem k_L_18 : Cond.methodLink RL 18 yX3_lay ∈ fs_ws := (fs_me1 179 rfl rfl)
theorem k_L_22 : Cond.methodLink RL 22 yX4_lay ∈ fs_ws := (fs_me3 233 rfl rfl)
theorem k_L_23 : Cond.methodLink RL 23 yX3_at ∈ fs_ws := (fs_me1 195 rfl rfl)
theorem k_L_26 : Cond.methodLink RL 26 yX4_at ∈ fs_ws := (fs_me4 1 rfl rfl)
theorem k_L_27 : Cond.methodLink RL 27 yX3_tear ∈ fs_ws := (fs_me1 203 rfl rfl)
theorem k_L_31 : Cond.methodLink RL 31 yX4_tear ∈ fs_ws := (fs_me4 5 rfl rfl)
theorem k_L_32 : Cond.methodLink RL 32 yX3_copy ∈ fs_ws := (fs_me1 207 rfl rfl)
theorem k_L_36 : Cond.methodLink RL 36 yX4_copy ∈ fs_ws := (fs_me4 9 rfl rfl)
theorem k_L_37 : Cond.methodLink RL 37 yX3_mean ∈ fs_ws := (fs_me1 214 rfl rfl)
theorem k_L_40 : Cond.methodLink RL 40 yX4_mean ∈ fs_ws := (fs_me4 13 rfl rfl)
theorem k_L_41 : Cond.methodLink RL 41 yX3_text ∈ fs_ws := (fs_me1 222 rfl rfl)
theorem k_L_44 : Cond.methodLink RL 44 yX4_text ∈ fs_ws := (fs_me4 17 rfl rfl)
theorem k_L_45 : Cond.methodLink RL 45 yX3_put ∈ fs_ws := (fs_me1 229 rfl rfl)
theorem k_L_48 : Cond.methodLink RL 48 yX4_put ∈ fs_ws := (fs_me4 25 rfl rfl)
theorem k_L_49 : Cond.methodLink RL 49 yX3_fault ∈ fs_ws := (fs_me1 233 rfl rfl)
theorem k_L_52 : Cond.methodLink RL 52 yX4_fault ∈ fs_ws := (fs_me4 29 rfl rfl)
theorem k_L_53 : Cond.methodLink RL 53 yX3_house ∈ fs_ws := (fs_me2 8 rfl rfl)
theorem k_L_56 : Cond.methodLink RL 56 yX4_house ∈ fs_ws := (fs_me4 58 rfl rfl)
theorem k_L_57 : Cond.methodLink RL 57 yX3_one ∈ fs_ws := (fs_me2 45 rfl rfl)
theorem k_L_60 : Cond.methodLink RL 60 yX4_one ∈ fs_ws := (fs_me4 62 rfl rfl)
theorem k_L_61 : Cond.methodLink RL 61 yX3_mark ∈ fs_ws := (fs_me2 58 rfl rfl)
theorem k_L_64 : Cond.methodLink RL 64 yX4_mark ∈ fs_ws := (fs_me4 92 rfl rfl)
theorem k_L_65 : Cond.methodLink RL 65 yX3_regard ∈ fs_ws := (fs_me2 76 rfl rfl)
theorem k_L_68 : Cond.methodLink RL 68 yX4_regard ∈ fs_ws := (fs_me4 99 rfl rfl)
theorem k_L_69 : Cond.methodLink RL 69 yX3_quarter ∈ fs_ws := (fs_me2 81 rfl rfl)
theorem k_L_73 : Cond.methodLink RL 73 yX4_quarter ∈ fs_ws := (fs_me4 104 rfl rfl)
theorem k_L_74 : Cond.methodLink RL 74 yX3_soot ∈ fs_ws := (fs_me2 101 rfl rfl)
theorem k_L_77 : Cond.methodLink RL 77 yX4_soot ∈ fs_ws := (fs_me4 123 rfl rfl)
theorem k_L_78 : Cond.methodLink RL 78 yX3_wash ∈ fs_ws := (fs_me2 105 rfl rfl)
theorem k_L_81 : Cond.methodLink RL 81 yX4_wash ∈ fs_ws := (fs_me4 127 rfl rfl)
theorem k_L_82 : Cond.methodLink RL 82 yX3_gift ∈ fs_ws := (fs_me2 109 rfl rfl)
theorem k_L_85 : Cond.methodLink RL 85 yX4_gift ∈ fs_ws := (fs_me4 131 rfl rfl)
theorem k_L_86 : Cond.methodLink RL 86 yX3_undo ∈ fs_ws := (fs_me2 117 rfl rfl)
theorem k_L_89 : Cond.methodLink RL 89 yX4_undo ∈ fs_ws := (fs_me4 135 rfl rfl)
theorem k_L_90 : Cond.methodLink RL 90 yX3_keep ∈ fs_ws := (fs_me2 122 rfl rfl)
theorem k_L_93 : Cond.methodLink RL 93 yX4_keep ∈ fs_ws := (fs_me4 139 rfl rfl)
theorem k_L_94 : Cond.methodLink RL 94 yX3_on ∈ fs_ws := (fs_me2 134 rfl rfl)
theorem k_L_97 : Cond.methodLink RL 97 yX4_on ∈ fs_ws := (fs_me4 144 rfl rfl)
theorem k_L_98 : Cond.methodLink RL 98 yX3_box ∈ fs_ws := (fs_me2 142 rfl rfl)
theorem k_L_101 : Cond.methodLink RL 101 yX4_box ∈ fs_ws := (fs_me4 148 rfl rfl)
theorem k_L_102 : Cond.methodLink RL 102 yX3_later ∈ fs_ws := (fs_me2 146 rfl rfl)
theorem k_L_105 : Cond.methodLink RL 105 yX4_later ∈ fs_ws := (fs_me4 156 rfl rfl)
theorem k_L_106 : Cond.methodLink RL 106 yX3_settles ∈ fs_ws := (fs_me2 152 rfl rfl)
theorem k_L_109 : Cond.methodLink RL 109 yX4_settles ∈ fs_ws := (fs_me4 165 rfl rfl)
theorem k_L_110 : Cond.methodLink RL 110 yX3_mill ∈ fs_ws := (fs_me2 156 rfl rfl)
theorem k_L_113 : Cond.methodLink RL 113 yX4_mill ∈ fs_ws := (fs_me4 169 rfl rfl)
theorem k_L_114 : Cond.methodLink RL 114 yX3_gains ∈ fs_ws := (fs_me2 164 rfl rfl)
theorem k_L_117 : Cond.methodLink RL 117 yX4_gains ∈ fs_ws := (fs_me4 173 rfl rfl)
theorem k_L_118 : Cond.methodLink RL 118 yX3_even ∈ fs_ws := (fs_me2 177 rfl rfl)
theorem k_L_122 : Cond.methodLink RL 122 yX4_even ∈ fs_ws := (fs_me4 186 rfl rfl)
theorem k_L_123 : Cond.methodLink RL 123 yX3_change ∈ fs_ws := (fs_me2 197 rfl rfl)
theorem k_L_126 : Cond.methodLink RL 126 yX4_change ∈ fs_ws := (fs_me4 197 rfl rfl)
theorem k_L_127 : Cond.methodLink RL 127 yX3_looks ∈ fs_ws := (fs_me2 205 rfl rfl)
theorem k_L_130 : Cond.methodLink RL 130 yX4_looks ∈ fs_ws := (fs_me4 205 rfl rfl)
theorem k_L_131 : Cond.methodLink RL 131 yX3_kinds ∈ fs_ws := (fs_me2 217 rfl rfl)
theorem k_L_134 : Cond.methodLink RL 134 yX4_kinds ∈ fs_ws := (fs_me4 218 rfl rfl)
theorem k_L_135 : Cond.methodLink RL 135 yX3_test ∈ fs_ws := (fs_me2 225 rfl rfl)
theorem k_L_138 : Cond.methodLink RL 138 yX4_test ∈ fs_ws := (fs_me4 226 rfl rfl)
theorem k_L_139 : Cond.methodLink RL 139 yX3_duel ∈ fs_ws := (fs_me2 238 rfl rfl)
theorem k_L_142 : Cond.methodLink RL 142 yX4_duel ∈ fs_ws := (fs_me4 233 rfl rfl)
theorem k_L_143 : Cond.methodLink RL 143 yX3_odds ∈ fs_ws := (fs_me3 18 rfl rfl)
theorem k_L_146 : Cond.methodLink RL 146 yX4_odds ∈ fs_ws := (fs_me5 1 rfl rfl)
theorem k_L_147 : Cond.methodLink RL 147 yX3_mid ∈ fs_ws := (fs_me3 42 rfl rfl)
theorem k_L_150 : Cond.methodLink RL 150 yX4_mid ∈ fs_ws := (fs_me5 18 rfl rfl)
theorem k_L_151 : Cond.methodLink RL 151 yX3_lots ∈ fs_ws := (fs_me3 50 rfl rfl)
theorem k_L_154 : Cond.methodLink RL 154 yX4_lots ∈ fs_ws := (fs_me5 22 rfl rfl)
theorem k_L_155 : Cond.methodLink RL 155 yX3_asked ∈ fs_ws := (fs_me3 65 rfl rfl)
theorem k_L_158 : Cond.methodLink RL 158 yX4_asked ∈ fs_ws := (fs_me5 41 rfl rfl)
theorem k_L_159 : Cond.methodLink RL 159 yX3_upper ∈ fs_ws := (fs_me3 69 rfl rfl)
theorem k_L_163 : Cond.methodLink RL 163 yX4_upper ∈ fs_ws := (fs_me5 45 rfl rfl)
theorem k_L_164 : Cond.methodLink RL 164 yX3_lower ∈ fs_ws := (fs_me3 73 rfl rfl)
theorem k_L_167 : Cond.methodLink RL 167 yX4_lower ∈ fs_ws := (fs_me5 49 rfl rfl)
theorem k_L_168 : Cond.methodLink RL 168 yX3_count ∈ fs_ws := (fs_me3 77 rfl rfl)
theorem k_L_171 : Cond.methodLink RL 171 yX4_count ∈ fs_ws := (fs_me5 53 rfl rfl)
theorem k_L_172 : Cond.methodLink RL 172 yX3_finding ∈ fs_ws := (fs_me3 107 rfl rfl)
theorem k_L_175 : Cond.methodLink RL 175 yX4_finding ∈ fs_ws := (fs_me5 68 rfl rfl)
theorem k_L_176 : Cond.methodLink RL 176 yX3_findings ∈ fs_ws := (fs_me3 111 rfl rfl)
theorem k_L_179 : Cond.methodLink RL 179 yX4_findings ∈ fs_ws := (fs_me5 72 rfl rfl)
theorem k_L_180 : Cond.methodLink RL 180 yX3_digest ∈ fs_ws := (fs_me3 115 rfl rfl)
theorem k_L_183 : Cond.methodLink RL 183 yX4_digest ∈ fs_ws := (fs_me5 76 rfl rfl)
theorem k_X0_40 : Cond.methodLink RX0 40 yJ7_fill_53178 ∈ fs_ws := (fs_me1 101 rfl rfl)
theorem k_X0_46 : Cond.methodLink RX0 46 yX1_take ∈ fs_ws := (fs_me2 16 rfl rfl)
theorem k_X0_50 : Cond.methodLink RX0 50 yX0_replay ∈ fs_ws := (fs_me2 21 rfl rfl)
theorem k_X0_54 : Cond.methodLink RX0 54 yX0_wouldOverflow ∈ fs_ws := (fs_me2 100 rfl rfl)
theorem k_X0_58 : Cond.methodLink RX0 58 yX0_perform ∈ fs_ws := (fs_me2 25 rfl rfl)
theorem k_X0_64 : Cond.methodLink RX0 64 yX1_pass ∈ fs_ws := (fs_me2 29 rfl rfl)
theorem k_X0_74 : fs_m1 RX0 74 Lib.Math.min.name Lib.Math.min.code 2 := ⟨(fs_me2 44 rfl rfl), (fs_me2 41 rfl rfl), (fs_me1 3 rfl rfl), (fs_me2 42 rfl rfl)⟩
theorem k_X0_80 : fs_ac RX0 80 := ⟨(fs_me2 133 rfl rfl), (fs_me1 213 rfl rfl), (fs_me1 212 rfl rfl), (fs_me1 8 rfl rfl)⟩
theorem k_X1_43 : fs_ac RX1 43 := ⟨(fs_me2 20 rfl rfl), (fs_me1 213 rfl rfl), (fs_me1 212 rfl rfl), (fs_me1 8 rfl rfl)⟩
theorem k_X1_49 : Cond.methodLink RX1 49 yX1_readItem ∈ fs_ws := (fs_me2 1 rfl rfl)
theorem k_X1_53 : Cond.methodLink RX1 53 yX1_kindByLetter ∈ fs_ws := (fs_me2 5 rfl rfl)
theorem k_X1_57 : Cond.methodLink RX1 57 yX1_kindAbove ∈ fs_ws := (fs_me2 65 rfl rfl)
theorem k_X1_60 : Cond.methodLink RX1 60 yX1_regardOf ∈ fs_ws := (fs_me2 37 rfl rfl)
theorem k_X1_64 : Cond.methodLink RX1 64 yX1_weigh ∈ fs_ws := (fs_me2 33 rfl rfl)
theorem k_X1_67 : fs_m1 RX1 67 Lib.Math.min.name Lib.Math.min.code 2 := ⟨(fs_me2 40 rfl rfl), (fs_me2 41 rfl rfl), (fs_me1 3 rfl rfl), (fs_me2 42 rfl rfl)⟩
theorem k_X1_73 : fs_m1 RX1 73 Lib.Math.max.name Lib.Math.max.code 2 := ⟨(fs_me2 43 rfl rfl), (fs_me1 24 rfl rfl), (fs_me1 3 rfl rfl), (fs_me1 25 rfl rfl)⟩
theorem k_X1_76 : Cond.methodLink RX1 76 yX1_pass ∈ fs_ws := (fs_me2 176 rfl rfl)
theorem k_X1_80 : Cond.methodLink RX1 80 yX1_regardedUnless ∈ fs_ws := (fs_me3 26 rfl rfl)
theorem k_X1_83 : Cond.methodLink RX1 83 yX1_isOf ∈ fs_ws := (fs_me3 106 rfl rfl)
theorem k_X2_9 : fs_m1 RX2 9 Lib.Math.max.name Lib.Math.max.code 2 := ⟨(fs_me1 23 rfl rfl), (fs_me1 24 rfl rfl), (fs_me1 3 rfl rfl), (fs_me1 25 rfl rfl)⟩
theorem k_X2_30 : Cond.methodLink RX2 30 yJ7_fill_53178 ∈ fs_ws := (fs_me1 28 rfl rfl)
theorem k_X2_36 : Cond.methodLink RX2 36 yX2_has ∈ fs_ws := (fs_me3 97 rfl rfl)
theorem k_X3_59 : Cond.methodLink RX3 59 yX3_isRow ∈ fs_ws := (fs_me1 168 rfl rfl)
theorem k_X3_63 : Cond.methodLink RX3 63 yX3_refuse ∈ fs_ws := (fs_me1 171 rfl rfl)
theorem k_X3_67 : Cond.methodLink RX3 67 yX2_lie ∈ fs_ws := (fs_me1 175 rfl rfl)
theorem k_X3_71 : Cond.methodLink RX3 71 yX3_refusePlace ∈ fs_ws := (fs_me1 183 rfl rfl)
theorem k_X3_79 : Cond.methodLink RX3 79 yX3_tell ∈ fs_ws := (fs_me1 199 rfl rfl)
theorem k_X3_82 : Cond.methodLink RX3 82 yX2_has ∈ fs_ws := (fs_me1 187 rfl rfl)
theorem k_X3_88 : Cond.methodLink RX3 88 yX2_reaches ∈ fs_ws := (fs_me1 191 rfl rfl)
theorem k_X3_92 : fs_ac RX3 92 := ⟨(fs_me1 211 rfl rfl), (fs_me1 213 rfl rfl), (fs_me1 212 rfl rfl), (fs_me1 8 rfl rfl)⟩
theorem k_X3_98 : Cond.methodLink RX3 98 yX2_sum ∈ fs_ws := (fs_me1 218 rfl rfl)
theorem k_X3_102 : Cond.methodLink RX3 102 yX3_isText ∈ fs_ws := (fs_me1 226 rfl rfl)
theorem k_X3_105 : Cond.methodLink RX3 105 yX1_read ∈ fs_ws := (fs_me1 237 rfl rfl)
theorem k_X3_109 : Cond.methodLink RX3 109 yX0_found ∈ fs_ws := (fs_me2 12 rfl rfl)
theorem k_X3_119 : Cond.methodLink RX3 119 yX3_isKin ∈ fs_ws := (fs_me2 49 rfl rfl)
theorem k_X3_122 : Cond.methodLink RX3 122 yX3_ofOne ∈ fs_ws := (fs_me2 53 rfl rfl)
theorem k_X3_128 : Cond.methodLink RX3 128 yX1_isOf ∈ fs_ws := (fs_me2 62 rfl rfl)
theorem k_X3_132 : Cond.methodLink RX3 132 yX1_regardAs ∈ fs_ws := (fs_me2 68 rfl rfl)
theorem k_X3_135 : Cond.methodLink RX3 135 yX1_kindAbove ∈ fs_ws := (fs_me2 72 rfl rfl)
theorem k_X3_138 : fs_m1 RX3 138 Lib.Math.abs.name Lib.Math.abs.code 1 := ⟨(fs_me2 73 rfl rfl), (fs_me2 74 rfl rfl), (fs_me1 3 rfl rfl), (fs_me2 75 rfl rfl)⟩
theorem k_X3_146 : Cond.methodLink RX3 146 yX1_regardOf ∈ fs_ws := (fs_me2 80 rfl rfl)
theorem k_X3_150 : Cond.methodLink RX3 150 yX3_noKin ∈ fs_ws := (fs_me2 85 rfl rfl)
theorem k_X3_157 : Cond.methodLink RX3 157 yX0_wouldOverflow ∈ fs_ws := (fs_me2 89 rfl rfl)
theorem k_X3_160 : Cond.methodLink RX3 160 yX0_deed ∈ fs_ws := (fs_me2 93 rfl rfl)
theorem k_X3_163 : Cond.methodLink RX3 163 yX0_enter ∈ fs_ws := (fs_me2 96 rfl rfl)
theorem k_X3_173 : Cond.methodLink RX3 173 yX3_areTwo ∈ fs_ws := (fs_me2 113 rfl rfl)
theorem k_X3_182 : Cond.methodLink RX3 182 yX0_replay ∈ fs_ws := (fs_me2 121 rfl rfl)
theorem k_X3_185 : Cond.methodLink RX3 185 yX3_isKept ∈ fs_ws := (fs_me2 126 rfl rfl)
theorem k_X3_188 : Cond.methodLink RX3 188 yX0_store ∈ fs_ws := (fs_me2 129 rfl rfl)
theorem k_X3_194 : Cond.methodLink RX3 194 yX0_restore ∈ fs_ws := (fs_me2 138 rfl rfl)
theorem k_X3_197 : Cond.methodLink RX3 197 yX1_weigh ∈ fs_ws := (fs_me2 57 rfl rfl)
theorem k_X3_203 : Cond.methodLink RX3 203 yX1_take ∈ fs_ws := (fs_me2 150 rfl rfl)
theorem k_X3_206 : Cond.methodLink RX3 206 yX1_pass ∈ fs_ws := (fs_me2 151 rfl rfl)
theorem k_X3_212 : Cond.methodLink RX3 212 yX1_firstWith ∈ fs_ws := (fs_me2 160 rfl rfl)
theorem k_X3_215 : Cond.methodLink RX3 215 yX3_purseBehind ∈ fs_ws := (fs_me2 168 rfl rfl)
theorem k_X3_219 : Cond.methodLink RX3 219 yX3_changedBy ∈ fs_ws := (fs_me2 181 rfl rfl)
theorem k_X3_222 : Cond.methodLink RX3 222 yX3_evenBy ∈ fs_ws := (fs_me2 189 rfl rfl)
theorem k_X3_226 : Cond.methodLink RX3 226 yX3_laySoot ∈ fs_ws := (fs_me2 193 rfl rfl)
theorem k_X3_229 : Cond.methodLink RX3 229 yX3_givenIfChanged ∈ fs_ws := (fs_me2 201 rfl rfl)
theorem k_X3_232 : Cond.methodLink RX3 232 yX3_refusePairs ∈ fs_ws := (fs_me2 209 rfl rfl)
theorem k_X3_235 : Cond.methodLink RX3 235 yX3_fitsPairs ∈ fs_ws := (fs_me2 213 rfl rfl)
theorem k_X3_238 : Cond.methodLink RX3 238 yX3_kindsByPairs ∈ fs_ws := (fs_me2 221 rfl rfl)
theorem k_X3_241 : Cond.methodLink RX3 241 yX3_greatestPart ∈ fs_ws := (fs_me2 229 rfl rfl)
theorem k_X3_244 : Cond.methodLink RX3 244 yX3_duelEnd ∈ fs_ws := (fs_me3 2 rfl rfl)
theorem k_X3_247 : Cond.methodLink RX3 247 yX3_bestForFirst ∈ fs_ws := (fs_me3 6 rfl rfl)
theorem k_X3_250 : Cond.methodLink RX3 250 yX3_bestForSecond ∈ fs_ws := (fs_me3 14 rfl rfl)
theorem k_X3_253 : Cond.methodLink RX3 253 yX3_duelWay ∈ fs_ws := (fs_me3 11 rfl rfl)
theorem k_X3_256 : Cond.methodLink RX3 256 yX1_paidUnless ∈ fs_ws := (fs_me3 22 rfl rfl)
theorem k_X3_259 : Cond.methodLink RX3 259 yX3_chanceOf ∈ fs_ws := (fs_me3 30 rfl rfl)
theorem k_X3_263 : Cond.methodLink RX3 263 yX3_tellPart ∈ fs_ws := (fs_me3 34 rfl rfl)
theorem k_X3_267 : Cond.methodLink RX3 267 yX3_givenUnless ∈ fs_ws := (fs_me3 46 rfl rfl)
theorem k_X3_275 : Cond.methodLink RX3 275 yX3_deedByLot ∈ fs_ws := (fs_me3 57 rfl rfl)
theorem k_X3_278 : Cond.methodLink RX3 278 yX1_allPurses ∈ fs_ws := (fs_me3 61 rfl rfl)
theorem k_X3_282 : Cond.methodLink RX3 282 yX3_counted ∈ fs_ws := (fs_me3 81 rfl rfl)
theorem k_X3_289 : Cond.methodLink RX3 289 yX2_mixInto ∈ fs_ws := (fs_me3 121 rfl rfl)
theorem k_X3_295 : Cond.methodLink RX3 295 yX3_commonDivisor ∈ fs_ws := (fs_me3 39 rfl rfl)
theorem k_X3_305 : Cond.methodLink RX3 305 yX1_allSooted ∈ fs_ws := (fs_me3 85 rfl rfl)
theorem k_X3_308 : Cond.methodLink RX3 308 yX1_highestRegard ∈ fs_ws := (fs_me3 89 rfl rfl)
theorem k_X3_311 : Cond.methodLink RX3 311 yX2_present ∈ fs_ws := (fs_me3 93 rfl rfl)
theorem k_X3_314 : Cond.methodLink RX3 314 yX0_allKept ∈ fs_ws := (fs_me3 98 rfl rfl)
theorem k_X3_317 : Cond.methodLink RX3 317 yX1_allOf ∈ fs_ws := (fs_me3 102 rfl rfl)
theorem k_X3_320 : Cond.methodLink RX3 320 yX1_passAll ∈ fs_ws := (fs_me2 172 rfl rfl)
theorem k_X3_323 : Cond.methodLink RX3 323 yX3_sootBy ∈ fs_ws := (fs_me2 185 rfl rfl)
theorem k_X3_326 : Cond.methodLink RX3 326 yX3_partLike ∈ fs_ws := (fs_me2 233 rfl rfl)
theorem k_X3_329 : fs_m1 RX3 329 Lib.Math.max.name Lib.Math.max.code 2 := ⟨(fs_me2 237 rfl rfl), (fs_me1 24 rfl rfl), (fs_me1 3 rfl rfl), (fs_me1 25 rfl rfl)⟩
theorem k_X3_332 : fs_m1 RX3 332 Lib.Math.min.name Lib.Math.min.code 2 := ⟨(fs_me3 10 rfl rfl), (fs_me2 41 rfl rfl), (fs_me1 3 rfl rfl), (fs_me2 42 rfl rfl)⟩
theorem k_X4_62 : Cond.methodLink RX4 62 yX4_forgets ∈ fs_ws := (fs_me3 132 rfl rfl)
theorem k_X4_74 : Cond.methodLink RX4 74 yX4_in ∈ fs_ws := (fs_me3 226 rfl rfl)
theorem k_X4_80 : Cond.methodLink RX4 80 yX4_isRow ∈ fs_ws := (fs_me3 222 rfl rfl)
theorem k_X4_84 : Cond.methodLink RX4 84 yX4_found ∈ fs_ws := (fs_me3 229 rfl rfl)
theorem k_X4_88 : Cond.methodLink RX4 88 yX4_tell ∈ fs_ws := (fs_me3 237 rfl rfl)
theorem k_X4_91 : Cond.methodLink RX4 91 yX4_isText ∈ fs_ws := (fs_me4 21 rfl rfl)
theorem k_X4_106 : Cond.methodLink RX4 106 yX4_here ∈ fs_ws := (fs_me4 41 rfl rfl)
theorem k_X4_117 : Cond.methodLink RX4 117 yX4_kindOf ∈ fs_ws := (fs_me4 49 rfl rfl)
theorem k_X4_123 : Cond.methodLink RX4 123 yX4_isFigure ∈ fs_ws := (fs_me4 52 rfl rfl)
theorem k_X4_127 : Cond.methodLink RX4 127 yX4_skips ∈ fs_ws := (fs_me4 37 rfl rfl)
theorem k_X4_130 : Cond.methodLink RX4 130 yX4_readsOne ∈ fs_ws := (fs_me4 45 rfl rfl)
theorem k_X4_133 : Cond.methodLink RX4 133 yX4_reads ∈ fs_ws := (fs_me4 33 rfl rfl)
theorem k_X4_139 : Cond.methodLink RX4 139 yX4_greater ∈ fs_ws := (fs_me4 78 rfl rfl)
theorem k_X4_143 : Cond.methodLink RX4 143 yX4_lesser ∈ fs_ws := (fs_me4 81 rfl rfl)
theorem k_X4_146 : Cond.methodLink RX4 146 yX4_regardBy ∈ fs_ws := (fs_me4 75 rfl rfl)
theorem k_X4_150 : Cond.methodLink RX4 150 yX4_laysRegards ∈ fs_ws := (fs_me4 88 rfl rfl)
theorem k_X4_154 : Cond.methodLink RX4 154 yX4_gives ∈ fs_ws := (fs_me4 119 rfl rfl)
theorem k_X4_157 : Cond.methodLink RX4 157 yX4_isOne ∈ fs_ws := (fs_me4 66 rfl rfl)
theorem k_X4_162 : Cond.methodLink RX4 162 yX4_regardAs ∈ fs_ws := (fs_me4 71 rfl rfl)
theorem k_X4_165 : Cond.methodLink RX4 165 yX4_paid ∈ fs_ws := (fs_me4 84 rfl rfl)
theorem k_X4_168 : Cond.methodLink RX4 168 yX4_isOf ∈ fs_ws := (fs_me4 96 rfl rfl)
theorem k_X4_174 : Cond.methodLink RX4 174 yX4_copies ∈ fs_ws := (fs_me4 112 rfl rfl)
theorem k_X4_178 : Cond.methodLink RX4 178 yX4_remember ∈ fs_ws := (fs_me4 108 rfl rfl)
theorem k_X4_181 : Cond.methodLink RX4 181 yX4_goes ∈ fs_ws := (fs_me4 115 rfl rfl)
theorem k_X4_186 : Cond.methodLink RX4 186 yX4_answer ∈ fs_ws := (fs_me4 152 rfl rfl)
theorem k_X4_191 : Cond.methodLink RX4 191 yX4_layAside ∈ fs_ws := (fs_me4 161 rfl rfl)
theorem k_X4_194 : Cond.methodLink RX4 194 yX4_givesIn ∈ fs_ws := (fs_me4 182 rfl rfl)
theorem k_X4_199 : Cond.methodLink RX4 199 yX4_purseBehind ∈ fs_ws := (fs_me4 178 rfl rfl)
theorem k_X4_205 : Cond.methodLink RX4 205 yX4_laysSoot ∈ fs_ws := (fs_me4 192 rfl rfl)
theorem k_X4_208 : Cond.methodLink RX4 208 yX4_row ∈ fs_ws := (fs_me4 196 rfl rfl)
theorem k_X4_211 : Cond.methodLink RX4 211 yX4_changes ∈ fs_ws := (fs_me4 201 rfl rfl)
theorem k_X4_217 : Cond.methodLink RX4 217 yX4_refusesPairs ∈ fs_ws := (fs_me4 209 rfl rfl)
theorem k_X4_220 : Cond.methodLink RX4 220 yX4_isSo ∈ fs_ws := (fs_me4 214 rfl rfl)
theorem k_X4_224 : Cond.methodLink RX4 224 yX4_kindsOf ∈ fs_ws := (fs_me4 222 rfl rfl)
theorem k_X4_227 : Cond.methodLink RX4 227 yX4_has ∈ fs_ws := (fs_me4 230 rfl rfl)
theorem k_X4_230 : Cond.methodLink RX4 230 yX4_weighs ∈ fs_ws := (fs_me4 237 rfl rfl)
theorem k_X4_239 : Cond.methodLink RX4 239 yX4_ways ∈ fs_ws := (fs_me5 6 rfl rfl)
theorem k_X4_243 : Cond.methodLink RX4 243 yX4_allWays ∈ fs_ws := (fs_me5 10 rfl rfl)
theorem k_X4_247 : Cond.methodLink RX4 247 yX4_fraction ∈ fs_ws := (fs_me5 14 rfl rfl)
theorem k_X4_253 : Cond.methodLink RX4 253 yX4_refuses ∈ fs_ws := (fs_me5 27 rfl rfl)
theorem k_X4_260 : Cond.methodLink RX4 260 yX4_lot ∈ fs_ws := (fs_me5 33 rfl rfl)
theorem k_X4_264 : Cond.methodLink RX4 264 yX4_purses ∈ fs_ws := (fs_me5 37 rfl rfl)
theorem k_X4_267 : Cond.methodLink RX4 267 yX4_sooted ∈ fs_ws := (fs_me5 57 rfl rfl)
theorem k_X4_270 : Cond.methodLink RX4 270 yX4_there ∈ fs_ws := (fs_me5 61 rfl rfl)
theorem k_X4_274 : Cond.methodLink RX4 274 yX4_ofKind ∈ fs_ws := (fs_me5 64 rfl rfl)
theorem k_X4_281 : Cond.methodLink RX4 281 yX4_count ∈ fs_ws := (fs_me5 82 rfl rfl)
theorem v_J7_fill_53178 : fs_yS yJ7_fill_53178 cJ7_fill_53178 4 none 2 := ⟨(fs_me1 29 rfl rfl), (fs_me1 4 rfl rfl), (fs_me1 30 rfl rfl), by decide +kernel, by decide +kernel, by decide +kernel⟩
theorem v_X0_allKept : fs_yV yX0_allKept cX0_allKept 3 (some .int) 0 := ⟨(fs_me3 99 rfl rfl), (fs_me3 100 rfl rfl), (fs_me1 5 rfl rfl), (fs_me3 101 rfl rfl), by decide +kernel, by decide +kernel, by decide +kernel⟩
theorem v_X0_deed : fs_yS yX0_deed cX0_deed 4 (some .int) 4 := ⟨(fs_me2 94 rfl rfl), (fs_me1 5 rfl rfl), (fs_me2 95 rfl rfl), by decide +kernel, by decide +kernel, by decide +kernel⟩
theorem v_X0_enter : fs_yV yX0_enter cX0_enter 2 none 1 := ⟨(fs_me2 97 rfl rfl), (fs_me2 98 rfl rfl), (fs_me1 5 rfl rfl), (fs_me2 99 rfl rfl), by decide +kernel, by decide +kernel, by decide +kernel⟩
theorem v_X0_found : fs_yV yX0_found cX0_found 2 none 1 := ⟨(fs_me2 13 rfl rfl), (fs_me2 14 rfl rfl), (fs_me1 5 rfl rfl), (fs_me2 15 rfl rfl), by decide +kernel, by decide +kernel, by decide +kernel⟩
theorem v_X0_perform : fs_yV yX0_perform cX0_perform 5 none 1 := ⟨(fs_me2 26 rfl rfl), (fs_me2 27 rfl rfl), (fs_me1 5 rfl rfl), (fs_me2 28 rfl rfl), by decide +kernel, by decide +kernel, by decide +kernel⟩
theorem v_X0_replay : fs_yV yX0_replay cX0_replay 3 none 1 := ⟨(fs_me2 22 rfl rfl), (fs_me2 23 rfl rfl), (fs_me1 5 rfl rfl), (fs_me2 24 rfl rfl), by decide +kernel, by decide +kernel, by decide +kernel⟩
theorem v_X0_restore : fs_yV yX0_restore cX0_restore 2 none 1 := ⟨(fs_me2 139 rfl rfl), (fs_me2 140 rfl rfl), (fs_me1 5 rfl rfl), (fs_me2 141 rfl rfl), by decide +kernel, by decide +kernel, by decide +kernel⟩
theorem v_X0_store : fs_yV yX0_store cX0_store 2 none 1 := ⟨(fs_me2 130 rfl rfl), (fs_me2 131 rfl rfl), (fs_me1 5 rfl rfl), (fs_me2 132 rfl rfl), by decide +kernel, by decide +kernel, by decide +kernel⟩
theorem v_X0_wouldOverflow : fs_yV yX0_wouldOverflow cX0_wouldOverflow 2 (some .boolean) 1 := ⟨(fs_me2 90 rfl rfl), (fs_me2 91 rfl rfl), (fs_me1 5 rfl rfl), (fs_me2 92 rfl rfl), by decide +kernel, by decide +kernel, by decide +kernel⟩
theorem v_X1_allOf : fs_yV yX1_allOf cX1_allOf 4 (some .int) 1 := ⟨(fs_me3 103 rfl rfl), (fs_me3 104 rfl rfl), (fs_me1 6 rfl rfl), (fs_me3 105 rfl rfl), by decide +kernel, by decide +kernel, by decide +kernel⟩
theorem v_X1_allPurses : fs_yV yX1_allPurses cX1_allPurses 3 (some .int) 0 := ⟨(fs_me3 62 rfl rfl), (fs_me3 63 rfl rfl), (fs_me1 6 rfl rfl), (fs_me3 64 rfl rfl), by decide +kernel, by decide +kernel, by decide +kernel⟩
theorem v_X1_allSooted : fs_yV yX1_allSooted cX1_allSooted 3 (some .int) 0 := ⟨(fs_me3 86 rfl rfl), (fs_me3 87 rfl rfl), (fs_me1 6 rfl rfl), (fs_me3 88 rfl rfl), by decide +kernel, by decide +kernel, by decide +kernel⟩
theorem v_X1_firstWith : fs_yV yX1_firstWith cX1_firstWith 3 (some .int) 1 := ⟨(fs_me2 161 rfl rfl), (fs_me2 162 rfl rfl), (fs_me1 6 rfl rfl), (fs_me2 163 rfl rfl), by decide +kernel, by decide +kernel, by decide +kernel⟩
theorem v_X1_highestRegard : fs_yV yX1_highestRegard cX1_highestRegard 1 (some .int) 0 := ⟨(fs_me3 90 rfl rfl), (fs_me3 91 rfl rfl), (fs_me1 6 rfl rfl), (fs_me3 92 rfl rfl), by decide +kernel, by decide +kernel, by decide +kernel⟩
theorem v_X1_isOf : fs_yS yX1_isOf cX1_isOf 2 (some .boolean) 2 := ⟨(fs_me2 63 rfl rfl), (fs_me1 6 rfl rfl), (fs_me2 64 rfl rfl), by decide +kernel, by decide +kernel, by decide +kernel⟩
theorem v_X1_kindAbove : fs_yS yX1_kindAbove cX1_kindAbove 1 (some .int) 1 := ⟨(fs_me2 66 rfl rfl), (fs_me1 6 rfl rfl), (fs_me2 67 rfl rfl), by decide +kernel, by decide +kernel, by decide +kernel⟩
theorem v_X1_kindByLetter : fs_yS yX1_kindByLetter cX1_kindByLetter 1 (some .int) 1 := ⟨(fs_me2 6 rfl rfl), (fs_me1 6 rfl rfl), (fs_me2 7 rfl rfl), by decide +kernel, by decide +kernel, by decide +kernel⟩
theorem v_X1_paidUnless : fs_yV yX1_paidUnless cX1_paidUnless 5 (some .int) 2 := ⟨(fs_me3 23 rfl rfl), (fs_me3 24 rfl rfl), (fs_me1 6 rfl rfl), (fs_me3 25 rfl rfl), by decide +kernel, by decide +kernel, by decide +kernel⟩
theorem v_X1_pass : fs_yV yX1_pass cX1_pass 4 (some .boolean) 0 := ⟨(fs_me2 30 rfl rfl), (fs_me2 31 rfl rfl), (fs_me1 6 rfl rfl), (fs_me2 32 rfl rfl), by decide +kernel, by decide +kernel, by decide +kernel⟩
theorem v_X1_passAll : fs_yV yX1_passAll cX1_passAll 4 (some .int) 1 := ⟨(fs_me2 173 rfl rfl), (fs_me2 174 rfl rfl), (fs_me1 6 rfl rfl), (fs_me2 175 rfl rfl), by decide +kernel, by decide +kernel, by decide +kernel⟩
theorem v_X1_read : fs_yV yX1_read cX1_read 5 (some .int) 2 := ⟨(fs_me1 238 rfl rfl), (fs_me1 239 rfl rfl), (fs_me1 6 rfl rfl), (fs_me2 0 rfl rfl), by decide +kernel, by decide +kernel, by decide +kernel⟩
theorem v_X1_readItem : fs_yV yX1_readItem cX1_readItem 6 (some .int) 3 := ⟨(fs_me2 2 rfl rfl), (fs_me2 3 rfl rfl), (fs_me1 6 rfl rfl), (fs_me2 4 rfl rfl), by decide +kernel, by decide +kernel, by decide +kernel⟩
theorem v_X1_regardAs : fs_yV yX1_regardAs cX1_regardAs 3 (some .int) 2 := ⟨(fs_me2 69 rfl rfl), (fs_me2 70 rfl rfl), (fs_me1 6 rfl rfl), (fs_me2 71 rfl rfl), by decide +kernel, by decide +kernel, by decide +kernel⟩
theorem v_X1_regardOf : fs_yS yX1_regardOf cX1_regardOf 7 (some .int) 4 := ⟨(fs_me2 38 rfl rfl), (fs_me1 6 rfl rfl), (fs_me2 39 rfl rfl), by decide +kernel, by decide +kernel, by decide +kernel⟩
theorem v_X1_regardedUnless : fs_yV yX1_regardedUnless cX1_regardedUnless 3 (some .int) 2 := ⟨(fs_me3 27 rfl rfl), (fs_me3 28 rfl rfl), (fs_me1 6 rfl rfl), (fs_me3 29 rfl rfl), by decide +kernel, by decide +kernel, by decide +kernel⟩
theorem v_X1_take : fs_yV yX1_take cX1_take 2 none 1 := ⟨(fs_me2 17 rfl rfl), (fs_me2 18 rfl rfl), (fs_me1 6 rfl rfl), (fs_me2 19 rfl rfl), by decide +kernel, by decide +kernel, by decide +kernel⟩
theorem v_X1_weigh : fs_yV yX1_weigh cX1_weigh 2 none 0 := ⟨(fs_me2 34 rfl rfl), (fs_me2 35 rfl rfl), (fs_me1 6 rfl rfl), (fs_me2 36 rfl rfl), by decide +kernel, by decide +kernel, by decide +kernel⟩
theorem v_X2_has : fs_yV yX2_has cX2_has 2 (some .boolean) 1 := ⟨(fs_me1 188 rfl rfl), (fs_me1 189 rfl rfl), (fs_me1 2 rfl rfl), (fs_me1 190 rfl rfl), by decide +kernel, by decide +kernel, by decide +kernel⟩
theorem v_X2_lie : fs_yV yX2_lie cX2_lie 4 none 2 := ⟨(fs_me1 176 rfl rfl), (fs_me1 177 rfl rfl), (fs_me1 2 rfl rfl), (fs_me1 178 rfl rfl), by decide +kernel, by decide +kernel, by decide +kernel⟩
theorem v_X2_mixInto : fs_yV yX2_mixInto cX2_mixInto 7 (some .long) 1 := ⟨(fs_me3 122 rfl rfl), (fs_me3 123 rfl rfl), (fs_me1 2 rfl rfl), (fs_me3 124 rfl rfl), by decide +kernel, by decide +kernel, by decide +kernel⟩
theorem v_X2_present : fs_yV yX2_present cX2_present 3 (some .int) 0 := ⟨(fs_me3 94 rfl rfl), (fs_me3 95 rfl rfl), (fs_me1 2 rfl rfl), (fs_me3 96 rfl rfl), by decide +kernel, by decide +kernel, by decide +kernel⟩
theorem v_X2_reaches : fs_yV yX2_reaches cX2_reaches 4 (some .boolean) 3 := ⟨(fs_me1 192 rfl rfl), (fs_me1 193 rfl rfl), (fs_me1 2 rfl rfl), (fs_me1 194 rfl rfl), by decide +kernel, by decide +kernel, by decide +kernel⟩
theorem v_X2_sum : fs_yV yX2_sum cX2_sum 5 (some .long) 1 := ⟨(fs_me1 219 rfl rfl), (fs_me1 220 rfl rfl), (fs_me1 2 rfl rfl), (fs_me1 221 rfl rfl), by decide +kernel, by decide +kernel, by decide +kernel⟩
theorem v_X3_areTwo : fs_yV yX3_areTwo cX3_areTwo 3 (some .boolean) 2 := ⟨(fs_me2 115 rfl rfl), (fs_me0 6 rfl rfl), (fs_me1 1 rfl rfl), (fs_me2 116 rfl rfl), by decide +kernel, by decide +kernel, by decide +kernel⟩
theorem v_X3_asked : fs_yV yX3_asked cX3_asked 1 (some .int) 0 := ⟨(fs_me3 66 rfl rfl), (fs_me3 67 rfl rfl), (fs_me1 1 rfl rfl), (fs_me3 68 rfl rfl), by decide +kernel, by decide +kernel, by decide +kernel⟩
theorem v_X3_at : fs_yV yX3_at cX3_at 4 (some .int) 2 := ⟨(fs_me1 196 rfl rfl), (fs_me1 197 rfl rfl), (fs_me1 1 rfl rfl), (fs_me1 198 rfl rfl), by decide +kernel, by decide +kernel, by decide +kernel⟩
theorem v_X3_bestForFirst : fs_yV yX3_bestForFirst cX3_bestForFirst 6 (some .int) 1 := ⟨(fs_me3 8 rfl rfl), (fs_me0 19 rfl rfl), (fs_me1 1 rfl rfl), (fs_me3 9 rfl rfl), by decide +kernel, by decide +kernel, by decide +kernel⟩
theorem v_X3_bestForSecond : fs_yV yX3_bestForSecond cX3_bestForSecond 6 (some .int) 1 := ⟨(fs_me3 16 rfl rfl), (fs_me0 20 rfl rfl), (fs_me1 1 rfl rfl), (fs_me3 17 rfl rfl), by decide +kernel, by decide +kernel, by decide +kernel⟩
theorem v_X3_box : fs_yV yX3_box cX3_box 1 (some .int) 0 := ⟨(fs_me2 143 rfl rfl), (fs_me2 144 rfl rfl), (fs_me1 1 rfl rfl), (fs_me2 145 rfl rfl), by decide +kernel, by decide +kernel, by decide +kernel⟩
theorem v_X3_chanceOf : fs_yV yX3_chanceOf cX3_chanceOf 6 (some .long) 2 := ⟨(fs_me3 32 rfl rfl), (fs_me0 21 rfl rfl), (fs_me1 1 rfl rfl), (fs_me3 33 rfl rfl), by decide +kernel, by decide +kernel, by decide +kernel⟩
theorem v_X3_change : fs_yV yX3_change cX3_change 8 (some .int) 1 := ⟨(fs_me2 198 rfl rfl), (fs_me2 199 rfl rfl), (fs_me1 1 rfl rfl), (fs_me2 200 rfl rfl), by decide +kernel, by decide +kernel, by decide +kernel⟩
theorem v_X3_changedBy : fs_yV yX3_changedBy cX3_changedBy 4 (some .int) 1 := ⟨(fs_me2 183 rfl rfl), (fs_me0 8 rfl rfl), (fs_me1 1 rfl rfl), (fs_me2 184 rfl rfl), by decide +kernel, by decide +kernel, by decide +kernel⟩
theorem v_X3_commonDivisor : fs_yS yX3_commonDivisor cX3_commonDivisor 7 (some .long) 2 := ⟨(fs_me3 40 rfl rfl), (fs_me1 1 rfl rfl), (fs_me3 41 rfl rfl), by decide +kernel, by decide +kernel, by decide +kernel⟩
theorem v_X3_copy : fs_yV yX3_copy cX3_copy 6 (some .int) 5 := ⟨(fs_me1 208 rfl rfl), (fs_me1 209 rfl rfl), (fs_me1 1 rfl rfl), (fs_me1 210 rfl rfl), by decide +kernel, by decide +kernel, by decide +kernel⟩
theorem v_X3_count : fs_yV yX3_count cX3_count 2 (some .int) 1 := ⟨(fs_me3 78 rfl rfl), (fs_me3 79 rfl rfl), (fs_me1 1 rfl rfl), (fs_me3 80 rfl rfl), by decide +kernel, by decide +kernel, by decide +kernel⟩
theorem v_X3_counted : fs_yV yX3_counted cX3_counted 3 (some .int) 1 := ⟨(fs_me3 83 rfl rfl), (fs_me0 25 rfl rfl), (fs_me1 1 rfl rfl), (fs_me3 84 rfl rfl), by decide +kernel, by decide +kernel, by decide +kernel⟩
theorem v_X3_deedByLot : fs_yV yX3_deedByLot cX3_deedByLot 4 (some .int) 1 := ⟨(fs_me3 59 rfl rfl), (fs_me0 24 rfl rfl), (fs_me1 1 rfl rfl), (fs_me3 60 rfl rfl), by decide +kernel, by decide +kernel, by decide +kernel⟩
theorem v_X3_digest : fs_yV yX3_digest cX3_digest 5 (some .long) 0 := ⟨(fs_me3 116 rfl rfl), (fs_me3 117 rfl rfl), (fs_me1 1 rfl rfl), (fs_me3 118 rfl rfl), by decide +kernel, by decide +kernel, by decide +kernel⟩
theorem v_X3_duel : fs_yV yX3_duel cX3_duel 6 (some .int) 3 := ⟨(fs_me2 239 rfl rfl), (fs_me3 0 rfl rfl), (fs_me1 1 rfl rfl), (fs_me3 1 rfl rfl), by decide +kernel, by decide +kernel, by decide +kernel⟩
theorem v_X3_duelEnd : fs_yV yX3_duelEnd cX3_duelEnd 4 (some .int) 3 := ⟨(fs_me3 4 rfl rfl), (fs_me0 18 rfl rfl), (fs_me1 1 rfl rfl), (fs_me3 5 rfl rfl), by decide +kernel, by decide +kernel, by decide +kernel⟩
theorem v_X3_duelWay : fs_yS yX3_duelWay cX3_duelWay 2 (some .int) 2 := ⟨(fs_me3 12 rfl rfl), (fs_me1 1 rfl rfl), (fs_me3 13 rfl rfl), by decide +kernel, by decide +kernel, by decide +kernel⟩
theorem v_X3_even : fs_yV yX3_even cX3_even 9 (some .int) 4 := ⟨(fs_me2 178 rfl rfl), (fs_me2 179 rfl rfl), (fs_me1 1 rfl rfl), (fs_me2 180 rfl rfl), by decide +kernel, by decide +kernel, by decide +kernel⟩
theorem v_X3_evenBy : fs_yV yX3_evenBy cX3_evenBy 6 (some .boolean) 4 := ⟨(fs_me2 191 rfl rfl), (fs_me0 10 rfl rfl), (fs_me1 1 rfl rfl), (fs_me2 192 rfl rfl), by decide +kernel, by decide +kernel, by decide +kernel⟩
theorem v_X3_fault : fs_yV yX3_fault cX3_fault 2 (some .int) 1 := ⟨(fs_me1 234 rfl rfl), (fs_me1 235 rfl rfl), (fs_me1 1 rfl rfl), (fs_me1 236 rfl rfl), by decide +kernel, by decide +kernel, by decide +kernel⟩
theorem v_X3_finding : fs_yV yX3_finding cX3_finding 1 (some .int) 0 := ⟨(fs_me3 108 rfl rfl), (fs_me3 109 rfl rfl), (fs_me1 1 rfl rfl), (fs_me3 110 rfl rfl), by decide +kernel, by decide +kernel, by decide +kernel⟩
theorem v_X3_findings : fs_yV yX3_findings cX3_findings 2 (some .int) 1 := ⟨(fs_me3 112 rfl rfl), (fs_me3 113 rfl rfl), (fs_me1 1 rfl rfl), (fs_me3 114 rfl rfl), by decide +kernel, by decide +kernel, by decide +kernel⟩
theorem v_X3_fitsPairs : fs_yV yX3_fitsPairs cX3_fitsPairs 7 (some .boolean) 4 := ⟨(fs_me2 215 rfl rfl), (fs_me0 14 rfl rfl), (fs_me1 1 rfl rfl), (fs_me2 216 rfl rfl), by decide +kernel, by decide +kernel, by decide +kernel⟩
theorem v_X3_gains : fs_yV yX3_gains cX3_gains 4 (some .int) 1 := ⟨(fs_me2 165 rfl rfl), (fs_me2 166 rfl rfl), (fs_me1 1 rfl rfl), (fs_me2 167 rfl rfl), by decide +kernel, by decide +kernel, by decide +kernel⟩
theorem v_X3_gift : fs_yV yX3_gift cX3_gift 4 (some .int) 3 := ⟨(fs_me2 110 rfl rfl), (fs_me2 111 rfl rfl), (fs_me1 1 rfl rfl), (fs_me2 112 rfl rfl), by decide +kernel, by decide +kernel, by decide +kernel⟩
theorem v_X3_givenIfChanged : fs_yV yX3_givenIfChanged cX3_givenIfChanged 4 (some .int) 3 := ⟨(fs_me2 203 rfl rfl), (fs_me0 12 rfl rfl), (fs_me1 1 rfl rfl), (fs_me2 204 rfl rfl), by decide +kernel, by decide +kernel, by decide +kernel⟩
theorem v_X3_givenUnless : fs_yV yX3_givenUnless cX3_givenUnless 4 (some .int) 1 := ⟨(fs_me3 48 rfl rfl), (fs_me0 23 rfl rfl), (fs_me1 1 rfl rfl), (fs_me3 49 rfl rfl), by decide +kernel, by decide +kernel, by decide +kernel⟩
theorem v_X3_greatestPart : fs_yV yX3_greatestPart cX3_greatestPart 6 (some .int) 3 := ⟨(fs_me2 231 rfl rfl), (fs_me0 16 rfl rfl), (fs_me1 1 rfl rfl), (fs_me2 232 rfl rfl), by decide +kernel, by decide +kernel, by decide +kernel⟩
theorem v_X3_house : fs_yV yX3_house cX3_house 2 (some .int) 1 := ⟨(fs_me2 9 rfl rfl), (fs_me2 10 rfl rfl), (fs_me1 1 rfl rfl), (fs_me2 11 rfl rfl), by decide +kernel, by decide +kernel, by decide +kernel⟩
theorem v_X3_isKept : fs_yS yX3_isKept cX3_isKept 1 (some .boolean) 1 := ⟨(fs_me2 127 rfl rfl), (fs_me1 1 rfl rfl), (fs_me2 128 rfl rfl), by decide +kernel, by decide +kernel, by decide +kernel⟩
theorem v_X3_isKin : fs_yV yX3_isKin cX3_isKin 2 (some .boolean) 1 := ⟨(fs_me2 51 rfl rfl), (fs_me0 3 rfl rfl), (fs_me1 1 rfl rfl), (fs_me2 52 rfl rfl), by decide +kernel, by decide +kernel, by decide +kernel⟩
theorem v_X3_isRow : fs_yS yX3_isRow cX3_isRow 1 (some .boolean) 1 := ⟨(fs_me1 169 rfl rfl), (fs_me1 1 rfl rfl), (fs_me1 170 rfl rfl), by decide +kernel, by decide +kernel, by decide +kernel⟩
theorem v_X3_isText : fs_yS yX3_isText cX3_isText 1 (some .boolean) 1 := ⟨(fs_me1 227 rfl rfl), (fs_me1 1 rfl rfl), (fs_me1 228 rfl rfl), by decide +kernel, by decide +kernel, by decide +kernel⟩
theorem v_X3_keep : fs_yV yX3_keep cX3_keep 2 (some .int) 1 := ⟨(fs_me2 123 rfl rfl), (fs_me2 124 rfl rfl), (fs_me1 1 rfl rfl), (fs_me2 125 rfl rfl), by decide +kernel, by decide +kernel, by decide +kernel⟩
theorem v_X3_kinds : fs_yV yX3_kinds cX3_kinds 4 (some .int) 2 := ⟨(fs_me2 218 rfl rfl), (fs_me2 219 rfl rfl), (fs_me1 1 rfl rfl), (fs_me2 220 rfl rfl), by decide +kernel, by decide +kernel, by decide +kernel⟩
theorem v_X3_kindsByPairs : fs_yV yX3_kindsByPairs cX3_kindsByPairs 5 (some .int) 2 := ⟨(fs_me2 223 rfl rfl), (fs_me0 15 rfl rfl), (fs_me1 1 rfl rfl), (fs_me2 224 rfl rfl), by decide +kernel, by decide +kernel, by decide +kernel⟩
theorem v_X3_later : fs_yV yX3_later cX3_later 5 (some .int) 2 := ⟨(fs_me2 147 rfl rfl), (fs_me2 148 rfl rfl), (fs_me1 1 rfl rfl), (fs_me2 149 rfl rfl), by decide +kernel, by decide +kernel, by decide +kernel⟩
theorem v_X3_lay : fs_yV yX3_lay cX3_lay 5 (some .int) 3 := ⟨(fs_me1 180 rfl rfl), (fs_me1 181 rfl rfl), (fs_me1 1 rfl rfl), (fs_me1 182 rfl rfl), by decide +kernel, by decide +kernel, by decide +kernel⟩
theorem v_X3_laySoot : fs_yV yX3_laySoot cX3_laySoot 4 none 2 := ⟨(fs_me2 195 rfl rfl), (fs_me0 11 rfl rfl), (fs_me1 1 rfl rfl), (fs_me2 196 rfl rfl), by decide +kernel, by decide +kernel, by decide +kernel⟩
theorem v_X3_looks : fs_yV yX3_looks cX3_looks 6 (some .int) 2 := ⟨(fs_me2 206 rfl rfl), (fs_me2 207 rfl rfl), (fs_me1 1 rfl rfl), (fs_me2 208 rfl rfl), by decide +kernel, by decide +kernel, by decide +kernel⟩
theorem v_X3_lots : fs_yV yX3_lots cX3_lots 6 (some .int) 2 := ⟨(fs_me3 51 rfl rfl), (fs_me3 52 rfl rfl), (fs_me1 1 rfl rfl), (fs_me3 53 rfl rfl), by decide +kernel, by decide +kernel, by decide +kernel⟩
theorem v_X3_lower : fs_yV yX3_lower cX3_lower 1 (some .long) 0 := ⟨(fs_me3 74 rfl rfl), (fs_me3 75 rfl rfl), (fs_me1 1 rfl rfl), (fs_me3 76 rfl rfl), by decide +kernel, by decide +kernel, by decide +kernel⟩
theorem v_X3_mark : fs_yV yX3_mark cX3_mark 4 (some .int) 2 := ⟨(fs_me2 59 rfl rfl), (fs_me2 60 rfl rfl), (fs_me1 1 rfl rfl), (fs_me2 61 rfl rfl), by decide +kernel, by decide +kernel, by decide +kernel⟩
theorem v_X3_mean : fs_yV yX3_mean cX3_mean 3 (some .int) 1 := ⟨(fs_me1 215 rfl rfl), (fs_me1 216 rfl rfl), (fs_me1 1 rfl rfl), (fs_me1 217 rfl rfl), by decide +kernel, by decide +kernel, by decide +kernel⟩
theorem v_X3_mid : fs_yV yX3_mid cX3_mid 5 (some .int) 1 := ⟨(fs_me3 43 rfl rfl), (fs_me3 44 rfl rfl), (fs_me1 1 rfl rfl), (fs_me3 45 rfl rfl), by decide +kernel, by decide +kernel, by decide +kernel⟩
theorem v_X3_mill : fs_yV yX3_mill cX3_mill 4 (some .int) 1 := ⟨(fs_me2 157 rfl rfl), (fs_me2 158 rfl rfl), (fs_me1 1 rfl rfl), (fs_me2 159 rfl rfl), by decide +kernel, by decide +kernel, by decide +kernel⟩
theorem v_X3_noKin : fs_yV yX3_noKin cX3_noKin 1 (some .boolean) 0 := ⟨(fs_me2 87 rfl rfl), (fs_me0 5 rfl rfl), (fs_me1 1 rfl rfl), (fs_me2 88 rfl rfl), by decide +kernel, by decide +kernel, by decide +kernel⟩
theorem v_X3_odds : fs_yV yX3_odds cX3_odds 7 (some .int) 3 := ⟨(fs_me3 19 rfl rfl), (fs_me3 20 rfl rfl), (fs_me1 1 rfl rfl), (fs_me3 21 rfl rfl), by decide +kernel, by decide +kernel, by decide +kernel⟩
theorem v_X3_ofOne : fs_yV yX3_ofOne cX3_ofOne 4 (some .int) 2 := ⟨(fs_me2 55 rfl rfl), (fs_me0 4 rfl rfl), (fs_me1 1 rfl rfl), (fs_me2 56 rfl rfl), by decide +kernel, by decide +kernel, by decide +kernel⟩
theorem v_X3_on : fs_yV yX3_on cX3_on 2 (some .int) 1 := ⟨(fs_me2 135 rfl rfl), (fs_me2 136 rfl rfl), (fs_me1 1 rfl rfl), (fs_me2 137 rfl rfl), by decide +kernel, by decide +kernel, by decide +kernel⟩
theorem v_X3_one : fs_yV yX3_one cX3_one 3 (some .int) 2 := ⟨(fs_me2 46 rfl rfl), (fs_me2 47 rfl rfl), (fs_me1 1 rfl rfl), (fs_me2 48 rfl rfl), by decide +kernel, by decide +kernel, by decide +kernel⟩
theorem v_X3_partLike : fs_yV yX3_partLike cX3_partLike 10 (some .int) 4 := ⟨(fs_me2 235 rfl rfl), (fs_me0 17 rfl rfl), (fs_me1 1 rfl rfl), (fs_me2 236 rfl rfl), by decide +kernel, by decide +kernel, by decide +kernel⟩
theorem v_X3_purseBehind : fs_yV yX3_purseBehind cX3_purseBehind 4 (some .int) 3 := ⟨(fs_me2 170 rfl rfl), (fs_me0 7 rfl rfl), (fs_me1 1 rfl rfl), (fs_me2 171 rfl rfl), by decide +kernel, by decide +kernel, by decide +kernel⟩
theorem v_X3_put : fs_yV yX3_put cX3_put 5 (some .int) 3 := ⟨(fs_me1 230 rfl rfl), (fs_me1 231 rfl rfl), (fs_me1 1 rfl rfl), (fs_me1 232 rfl rfl), by decide +kernel, by decide +kernel, by decide +kernel⟩
theorem v_X3_quarter : fs_yV yX3_quarter cX3_quarter 1 (some .int) 0 := ⟨(fs_me2 82 rfl rfl), (fs_me2 83 rfl rfl), (fs_me1 1 rfl rfl), (fs_me2 84 rfl rfl), by decide +kernel, by decide +kernel, by decide +kernel⟩
theorem v_X3_refuse : fs_yV yX3_refuse cX3_refuse 2 (some .int) 1 := ⟨(fs_me1 173 rfl rfl), (fs_me0 0 rfl rfl), (fs_me1 1 rfl rfl), (fs_me1 174 rfl rfl), by decide +kernel, by decide +kernel, by decide +kernel⟩
theorem v_X3_refusePairs : fs_yV yX3_refusePairs cX3_refusePairs 5 (some .int) 2 := ⟨(fs_me2 211 rfl rfl), (fs_me0 13 rfl rfl), (fs_me1 1 rfl rfl), (fs_me2 212 rfl rfl), by decide +kernel, by decide +kernel, by decide +kernel⟩
theorem v_X3_refusePlace : fs_yV yX3_refusePlace cX3_refusePlace 3 (some .int) 2 := ⟨(fs_me1 185 rfl rfl), (fs_me0 1 rfl rfl), (fs_me1 1 rfl rfl), (fs_me1 186 rfl rfl), by decide +kernel, by decide +kernel, by decide +kernel⟩
theorem v_X3_regard : fs_yV yX3_regard cX3_regard 4 (some .int) 3 := ⟨(fs_me2 77 rfl rfl), (fs_me2 78 rfl rfl), (fs_me1 1 rfl rfl), (fs_me2 79 rfl rfl), by decide +kernel, by decide +kernel, by decide +kernel⟩
theorem v_X3_row : fs_yV yX3_row cX3_row 3 (some .int) 2 := ⟨(fs_me1 165 rfl rfl), (fs_me1 166 rfl rfl), (fs_me1 1 rfl rfl), (fs_me1 167 rfl rfl), by decide +kernel, by decide +kernel, by decide +kernel⟩
theorem v_X3_settles : fs_yV yX3_settles cX3_settles 2 (some .int) 0 := ⟨(fs_me2 153 rfl rfl), (fs_me2 154 rfl rfl), (fs_me1 1 rfl rfl), (fs_me2 155 rfl rfl), by decide +kernel, by decide +kernel, by decide +kernel⟩
theorem v_X3_soot : fs_yV yX3_soot cX3_soot 2 (some .int) 1 := ⟨(fs_me2 102 rfl rfl), (fs_me2 103 rfl rfl), (fs_me1 1 rfl rfl), (fs_me2 104 rfl rfl), by decide +kernel, by decide +kernel, by decide +kernel⟩
theorem v_X3_sootBy : fs_yV yX3_sootBy cX3_sootBy 3 (some .int) 2 := ⟨(fs_me2 187 rfl rfl), (fs_me0 9 rfl rfl), (fs_me1 1 rfl rfl), (fs_me2 188 rfl rfl), by decide +kernel, by decide +kernel, by decide +kernel⟩
theorem v_X3_tear : fs_yV yX3_tear cX3_tear 2 (some .int) 1 := ⟨(fs_me1 204 rfl rfl), (fs_me1 205 rfl rfl), (fs_me1 1 rfl rfl), (fs_me1 206 rfl rfl), by decide +kernel, by decide +kernel, by decide +kernel⟩
theorem v_X3_tell : fs_yV yX3_tell cX3_tell 3 (some .int) 2 := ⟨(fs_me1 201 rfl rfl), (fs_me0 2 rfl rfl), (fs_me1 1 rfl rfl), (fs_me1 202 rfl rfl), by decide +kernel, by decide +kernel, by decide +kernel⟩
theorem v_X3_tellPart : fs_yV yX3_tellPart cX3_tellPart 7 none 1 := ⟨(fs_me3 36 rfl rfl), (fs_me0 22 rfl rfl), (fs_me1 1 rfl rfl), (fs_me3 37 rfl rfl), by decide +kernel, by decide +kernel, by decide +kernel⟩
theorem v_X3_test : fs_yV yX3_test cX3_test 9 (some .int) 2 := ⟨(fs_me2 226 rfl rfl), (fs_me2 227 rfl rfl), (fs_me1 1 rfl rfl), (fs_me2 228 rfl rfl), by decide +kernel, by decide +kernel, by decide +kernel⟩
theorem v_X3_text : fs_yV yX3_text cX3_text 3 (some .int) 2 := ⟨(fs_me1 223 rfl rfl), (fs_me1 224 rfl rfl), (fs_me1 1 rfl rfl), (fs_me1 225 rfl rfl), by decide +kernel, by decide +kernel, by decide +kernel⟩
theorem v_X3_undo : fs_yV yX3_undo cX3_undo 3 (some .int) 1 := ⟨(fs_me2 118 rfl rfl), (fs_me2 119 rfl rfl), (fs_me1 1 rfl rfl), (fs_me2 120 rfl rfl), by decide +kernel, by decide +kernel, by decide +kernel⟩
theorem v_X3_upper : fs_yV yX3_upper cX3_upper 1 (some .long) 0 := ⟨(fs_me3 70 rfl rfl), (fs_me3 71 rfl rfl), (fs_me1 1 rfl rfl), (fs_me3 72 rfl rfl), by decide +kernel, by decide +kernel, by decide +kernel⟩
theorem v_X3_wash : fs_yV yX3_wash cX3_wash 3 (some .int) 1 := ⟨(fs_me2 106 rfl rfl), (fs_me2 107 rfl rfl), (fs_me1 1 rfl rfl), (fs_me2 108 rfl rfl), by decide +kernel, by decide +kernel, by decide +kernel⟩
theorem v_X4_allWays : fs_yV yX4_allWays cX4_allWays 4 (some .long) 0 := ⟨(fs_me5 12 rfl rfl), (fs_me0 52 rfl rfl), (fs_me1 7 rfl rfl), (fs_me5 13 rfl rfl), by decide +kernel, by decide +kernel, by decide +kernel⟩
theorem v_X4_answer : fs_yV yX4_answer cX4_answer 3 (some .int) 2 := ⟨(fs_me4 154 rfl rfl), (fs_me0 41 rfl rfl), (fs_me1 7 rfl rfl), (fs_me4 155 rfl rfl), by decide +kernel, by decide +kernel, by decide +kernel⟩
theorem v_X4_asked : fs_yV yX4_asked cX4_asked 1 (some .int) 0 := ⟨(fs_me5 42 rfl rfl), (fs_me5 43 rfl rfl), (fs_me1 7 rfl rfl), (fs_me5 44 rfl rfl), by decide +kernel, by decide +kernel, by decide +kernel⟩
theorem v_X4_at : fs_yV yX4_at cX4_at 3 (some .int) 2 := ⟨(fs_me4 2 rfl rfl), (fs_me4 3 rfl rfl), (fs_me1 7 rfl rfl), (fs_me4 4 rfl rfl), by decide +kernel, by decide +kernel, by decide +kernel⟩
theorem v_X4_box : fs_yV yX4_box cX4_box 3 (some .int) 0 := ⟨(fs_me4 149 rfl rfl), (fs_me4 150 rfl rfl), (fs_me1 7 rfl rfl), (fs_me4 151 rfl rfl), by decide +kernel, by decide +kernel, by decide +kernel⟩
theorem v_X4_change : fs_yV yX4_change cX4_change 7 (some .int) 1 := ⟨(fs_me4 198 rfl rfl), (fs_me4 199 rfl rfl), (fs_me1 7 rfl rfl), (fs_me4 200 rfl rfl), by decide +kernel, by decide +kernel, by decide +kernel⟩
theorem v_X4_changes : fs_yV yX4_changes cX4_changes 4 none 2 := ⟨(fs_me4 203 rfl rfl), (fs_me0 46 rfl rfl), (fs_me1 7 rfl rfl), (fs_me4 204 rfl rfl), by decide +kernel, by decide +kernel, by decide +kernel⟩
theorem v_X4_copies : fs_yS yX4_copies cX4_copies 6 none 5 := ⟨(fs_me4 113 rfl rfl), (fs_me1 7 rfl rfl), (fs_me4 114 rfl rfl), by decide +kernel, by decide +kernel, by decide +kernel⟩
theorem v_X4_copy : fs_yV yX4_copy cX4_copy 8 (some .int) 5 := ⟨(fs_me4 10 rfl rfl), (fs_me4 11 rfl rfl), (fs_me1 7 rfl rfl), (fs_me4 12 rfl rfl), by decide +kernel, by decide +kernel, by decide +kernel⟩
theorem v_X4_count : fs_yV yX4_count cX4_count 2 (some .int) 1 := ⟨(fs_me5 54 rfl rfl), (fs_me5 55 rfl rfl), (fs_me1 7 rfl rfl), (fs_me5 56 rfl rfl), by decide +kernel, by decide +kernel, by decide +kernel⟩
theorem v_X4_digest : fs_yV yX4_digest cX4_digest 5 (some .long) 0 := ⟨(fs_me5 77 rfl rfl), (fs_me5 78 rfl rfl), (fs_me1 7 rfl rfl), (fs_me5 79 rfl rfl), by decide +kernel, by decide +kernel, by decide +kernel⟩
theorem v_X4_duel : fs_yV yX4_duel cX4_duel 6 (some .int) 3 := ⟨(fs_me4 234 rfl rfl), (fs_me4 235 rfl rfl), (fs_me1 7 rfl rfl), (fs_me4 236 rfl rfl), by decide +kernel, by decide +kernel, by decide +kernel⟩
theorem v_X4_even : fs_yV yX4_even cX4_even 11 (some .int) 4 := ⟨(fs_me4 187 rfl rfl), (fs_me4 188 rfl rfl), (fs_me1 7 rfl rfl), (fs_me4 189 rfl rfl), by decide +kernel, by decide +kernel, by decide +kernel⟩
theorem v_X4_fault : fs_yV yX4_fault cX4_fault 2 (some .int) 1 := ⟨(fs_me4 30 rfl rfl), (fs_me4 31 rfl rfl), (fs_me1 7 rfl rfl), (fs_me4 32 rfl rfl), by decide +kernel, by decide +kernel, by decide +kernel⟩
theorem v_X4_finding : fs_yV yX4_finding cX4_finding 1 (some .int) 0 := ⟨(fs_me5 69 rfl rfl), (fs_me5 70 rfl rfl), (fs_me1 7 rfl rfl), (fs_me5 71 rfl rfl), by decide +kernel, by decide +kernel, by decide +kernel⟩
theorem v_X4_findings : fs_yV yX4_findings cX4_findings 2 (some .int) 1 := ⟨(fs_me5 73 rfl rfl), (fs_me5 74 rfl rfl), (fs_me1 7 rfl rfl), (fs_me5 75 rfl rfl), by decide +kernel, by decide +kernel, by decide +kernel⟩
theorem v_X4_forgets : fs_yV yX4_forgets cX4_forgets 2 none 0 := ⟨(fs_me3 134 rfl rfl), (fs_me0 26 rfl rfl), (fs_me1 7 rfl rfl), (fs_me3 135 rfl rfl), by decide +kernel, by decide +kernel, by decide +kernel⟩
theorem v_X4_found : fs_yV yX4_found cX4_found 2 (some .int) 1 := ⟨(fs_me3 231 rfl rfl), (fs_me0 27 rfl rfl), (fs_me1 7 rfl rfl), (fs_me3 232 rfl rfl), by decide +kernel, by decide +kernel, by decide +kernel⟩
theorem v_X4_fraction : fs_yV yX4_fraction cX4_fraction 11 (some .int) 2 := ⟨(fs_me5 16 rfl rfl), (fs_me0 53 rfl rfl), (fs_me1 7 rfl rfl), (fs_me5 17 rfl rfl), by decide +kernel, by decide +kernel, by decide +kernel⟩
theorem v_X4_gains : fs_yV yX4_gains cX4_gains 5 (some .int) 1 := ⟨(fs_me4 174 rfl rfl), (fs_me4 175 rfl rfl), (fs_me1 7 rfl rfl), (fs_me4 176 rfl rfl), by decide +kernel, by decide +kernel, by decide +kernel⟩
theorem v_X4_gift : fs_yV yX4_gift cX4_gift 4 (some .int) 3 := ⟨(fs_me4 132 rfl rfl), (fs_me4 133 rfl rfl), (fs_me1 7 rfl rfl), (fs_me4 134 rfl rfl), by decide +kernel, by decide +kernel, by decide +kernel⟩
theorem v_X4_gives : fs_yV yX4_gives cX4_gives 4 (some .int) 1 := ⟨(fs_me4 121 rfl rfl), (fs_me0 40 rfl rfl), (fs_me1 7 rfl rfl), (fs_me4 122 rfl rfl), by decide +kernel, by decide +kernel, by decide +kernel⟩
theorem v_X4_givesIn : fs_yV yX4_givesIn cX4_givesIn 4 (some .int) 1 := ⟨(fs_me4 184 rfl rfl), (fs_me0 44 rfl rfl), (fs_me1 7 rfl rfl), (fs_me4 185 rfl rfl), by decide +kernel, by decide +kernel, by decide +kernel⟩
theorem v_X4_goes : fs_yV yX4_goes cX4_goes 4 (some .int) 1 := ⟨(fs_me4 117 rfl rfl), (fs_me0 39 rfl rfl), (fs_me1 7 rfl rfl), (fs_me4 118 rfl rfl), by decide +kernel, by decide +kernel, by decide +kernel⟩
theorem v_X4_greater : fs_yS yX4_greater cX4_greater 2 (some .int) 2 := ⟨(fs_me4 79 rfl rfl), (fs_me1 7 rfl rfl), (fs_me4 80 rfl rfl), by decide +kernel, by decide +kernel, by decide +kernel⟩
theorem v_X4_has : fs_yS yX4_has cX4_has 2 (some .boolean) 2 := ⟨(fs_me4 231 rfl rfl), (fs_me1 7 rfl rfl), (fs_me4 232 rfl rfl), by decide +kernel, by decide +kernel, by decide +kernel⟩
theorem v_X4_here : fs_yV yX4_here cX4_here 1 (some .int) 0 := ⟨(fs_me4 43 rfl rfl), (fs_me0 31 rfl rfl), (fs_me1 7 rfl rfl), (fs_me4 44 rfl rfl), by decide +kernel, by decide +kernel, by decide +kernel⟩
theorem v_X4_house : fs_yV yX4_house cX4_house 3 (some .int) 1 := ⟨(fs_me4 59 rfl rfl), (fs_me4 60 rfl rfl), (fs_me1 7 rfl rfl), (fs_me4 61 rfl rfl), by decide +kernel, by decide +kernel, by decide +kernel⟩
theorem v_X4_in : fs_yS yX4_in cX4_in 6 (some .boolean) 3 := ⟨(fs_me3 227 rfl rfl), (fs_me1 7 rfl rfl), (fs_me3 228 rfl rfl), by decide +kernel, by decide +kernel, by decide +kernel⟩
theorem v_X4_isFigure : fs_yV yX4_isFigure cX4_isFigure 1 (some .boolean) 0 := ⟨(fs_me4 54 rfl rfl), (fs_me0 33 rfl rfl), (fs_me1 7 rfl rfl), (fs_me4 55 rfl rfl), by decide +kernel, by decide +kernel, by decide +kernel⟩
theorem v_X4_isOf : fs_yS yX4_isOf cX4_isOf 2 (some .boolean) 2 := ⟨(fs_me4 97 rfl rfl), (fs_me1 7 rfl rfl), (fs_me4 98 rfl rfl), by decide +kernel, by decide +kernel, by decide +kernel⟩
theorem v_X4_isOne : fs_yV yX4_isOne cX4_isOne 2 (some .boolean) 1 := ⟨(fs_me4 68 rfl rfl), (fs_me0 34 rfl rfl), (fs_me1 7 rfl rfl), (fs_me4 69 rfl rfl), by decide +kernel, by decide +kernel, by decide +kernel⟩
theorem v_X4_isRow : fs_yS yX4_isRow cX4_isRow 1 (some .boolean) 1 := ⟨(fs_me3 223 rfl rfl), (fs_me1 7 rfl rfl), (fs_me3 224 rfl rfl), by decide +kernel, by decide +kernel, by decide +kernel⟩
theorem v_X4_isSo : fs_yV yX4_isSo cX4_isSo 7 (some .boolean) 4 := ⟨(fs_me4 216 rfl rfl), (fs_me0 48 rfl rfl), (fs_me1 7 rfl rfl), (fs_me4 217 rfl rfl), by decide +kernel, by decide +kernel, by decide +kernel⟩
theorem v_X4_isText : fs_yS yX4_isText cX4_isText 1 (some .boolean) 1 := ⟨(fs_me4 22 rfl rfl), (fs_me1 7 rfl rfl), (fs_me4 23 rfl rfl), by decide +kernel, by decide +kernel, by decide +kernel⟩
theorem v_X4_keep : fs_yV yX4_keep cX4_keep 2 (some .int) 1 := ⟨(fs_me4 140 rfl rfl), (fs_me4 141 rfl rfl), (fs_me1 7 rfl rfl), (fs_me4 142 rfl rfl), by decide +kernel, by decide +kernel, by decide +kernel⟩
theorem v_X4_kindOf : fs_yS yX4_kindOf cX4_kindOf 1 (some .int) 1 := ⟨(fs_me4 50 rfl rfl), (fs_me1 7 rfl rfl), (fs_me4 51 rfl rfl), by decide +kernel, by decide +kernel, by decide +kernel⟩
theorem v_X4_kinds : fs_yV yX4_kinds cX4_kinds 4 (some .int) 2 := ⟨(fs_me4 219 rfl rfl), (fs_me4 220 rfl rfl), (fs_me1 7 rfl rfl), (fs_me4 221 rfl rfl), by decide +kernel, by decide +kernel, by decide +kernel⟩
theorem v_X4_kindsOf : fs_yV yX4_kindsOf cX4_kindsOf 5 (some .int) 2 := ⟨(fs_me4 224 rfl rfl), (fs_me0 49 rfl rfl), (fs_me1 7 rfl rfl), (fs_me4 225 rfl rfl), by decide +kernel, by decide +kernel, by decide +kernel⟩
theorem v_X4_later : fs_yV yX4_later cX4_later 7 (some .int) 2 := ⟨(fs_me4 157 rfl rfl), (fs_me4 158 rfl rfl), (fs_me1 7 rfl rfl), (fs_me4 159 rfl rfl), by decide +kernel, by decide +kernel, by decide +kernel⟩
theorem v_X4_lay : fs_yV yX4_lay cX4_lay 5 (some .int) 3 := ⟨(fs_me3 234 rfl rfl), (fs_me3 235 rfl rfl), (fs_me1 7 rfl rfl), (fs_me3 236 rfl rfl), by decide +kernel, by decide +kernel, by decide +kernel⟩
theorem v_X4_layAside : fs_yV yX4_layAside cX4_layAside 1 none 0 := ⟨(fs_me4 163 rfl rfl), (fs_me0 42 rfl rfl), (fs_me1 7 rfl rfl), (fs_me4 164 rfl rfl), by decide +kernel, by decide +kernel, by decide +kernel⟩
theorem v_X4_laysRegards : fs_yV yX4_laysRegards cX4_laysRegards 4 (some .int) 1 := ⟨(fs_me4 90 rfl rfl), (fs_me0 37 rfl rfl), (fs_me1 7 rfl rfl), (fs_me4 91 rfl rfl), by decide +kernel, by decide +kernel, by decide +kernel⟩
theorem v_X4_laysSoot : fs_yV yX4_laysSoot cX4_laysSoot 5 (some .int) 1 := ⟨(fs_me4 194 rfl rfl), (fs_me0 45 rfl rfl), (fs_me1 7 rfl rfl), (fs_me4 195 rfl rfl), by decide +kernel, by decide +kernel, by decide +kernel⟩
theorem v_X4_lesser : fs_yS yX4_lesser cX4_lesser 2 (some .int) 2 := ⟨(fs_me4 82 rfl rfl), (fs_me1 7 rfl rfl), (fs_me4 83 rfl rfl), by decide +kernel, by decide +kernel, by decide +kernel⟩
theorem v_X4_looks : fs_yV yX4_looks cX4_looks 6 (some .int) 2 := ⟨(fs_me4 206 rfl rfl), (fs_me4 207 rfl rfl), (fs_me1 7 rfl rfl), (fs_me4 208 rfl rfl), by decide +kernel, by decide +kernel, by decide +kernel⟩
theorem v_X4_lot : fs_yV yX4_lot cX4_lot 4 none 1 := ⟨(fs_me5 35 rfl rfl), (fs_me0 55 rfl rfl), (fs_me1 7 rfl rfl), (fs_me5 36 rfl rfl), by decide +kernel, by decide +kernel, by decide +kernel⟩
theorem v_X4_lots : fs_yV yX4_lots cX4_lots 7 (some .int) 2 := ⟨(fs_me5 23 rfl rfl), (fs_me5 24 rfl rfl), (fs_me1 7 rfl rfl), (fs_me5 25 rfl rfl), by decide +kernel, by decide +kernel, by decide +kernel⟩
theorem v_X4_lower : fs_yV yX4_lower cX4_lower 1 (some .long) 0 := ⟨(fs_me5 50 rfl rfl), (fs_me5 51 rfl rfl), (fs_me1 7 rfl rfl), (fs_me5 52 rfl rfl), by decide +kernel, by decide +kernel, by decide +kernel⟩
theorem v_X4_mark : fs_yV yX4_mark cX4_mark 5 (some .int) 2 := ⟨(fs_me4 93 rfl rfl), (fs_me4 94 rfl rfl), (fs_me1 7 rfl rfl), (fs_me4 95 rfl rfl), by decide +kernel, by decide +kernel, by decide +kernel⟩
theorem v_X4_mean : fs_yV yX4_mean cX4_mean 5 (some .int) 1 := ⟨(fs_me4 14 rfl rfl), (fs_me4 15 rfl rfl), (fs_me1 7 rfl rfl), (fs_me4 16 rfl rfl), by decide +kernel, by decide +kernel, by decide +kernel⟩
theorem v_X4_mid : fs_yV yX4_mid cX4_mid 2 (some .int) 1 := ⟨(fs_me5 19 rfl rfl), (fs_me5 20 rfl rfl), (fs_me1 7 rfl rfl), (fs_me5 21 rfl rfl), by decide +kernel, by decide +kernel, by decide +kernel⟩
theorem v_X4_mill : fs_yV yX4_mill cX4_mill 4 (some .int) 1 := ⟨(fs_me4 170 rfl rfl), (fs_me4 171 rfl rfl), (fs_me1 7 rfl rfl), (fs_me4 172 rfl rfl), by decide +kernel, by decide +kernel, by decide +kernel⟩
theorem v_X4_odds : fs_yV yX4_odds cX4_odds 4 (some .int) 3 := ⟨(fs_me5 2 rfl rfl), (fs_me5 3 rfl rfl), (fs_me1 7 rfl rfl), (fs_me5 4 rfl rfl), by decide +kernel, by decide +kernel, by decide +kernel⟩
theorem v_X4_ofKind : fs_yV yX4_ofKind cX4_ofKind 4 (some .int) 1 := ⟨(fs_me5 66 rfl rfl), (fs_me0 58 rfl rfl), (fs_me1 7 rfl rfl), (fs_me5 67 rfl rfl), by decide +kernel, by decide +kernel, by decide +kernel⟩
theorem v_X4_on : fs_yV yX4_on cX4_on 2 (some .int) 1 := ⟨(fs_me4 145 rfl rfl), (fs_me4 146 rfl rfl), (fs_me1 7 rfl rfl), (fs_me4 147 rfl rfl), by decide +kernel, by decide +kernel, by decide +kernel⟩
theorem v_X4_one : fs_yV yX4_one cX4_one 3 (some .int) 2 := ⟨(fs_me4 63 rfl rfl), (fs_me4 64 rfl rfl), (fs_me1 7 rfl rfl), (fs_me4 65 rfl rfl), by decide +kernel, by decide +kernel, by decide +kernel⟩
theorem v_X4_paid : fs_yV yX4_paid cX4_paid 3 (some .int) 1 := ⟨(fs_me4 86 rfl rfl), (fs_me0 36 rfl rfl), (fs_me1 7 rfl rfl), (fs_me4 87 rfl rfl), by decide +kernel, by decide +kernel, by decide +kernel⟩
theorem v_X4_purseBehind : fs_yV yX4_purseBehind cX4_purseBehind 4 (some .int) 2 := ⟨(fs_me4 180 rfl rfl), (fs_me0 43 rfl rfl), (fs_me1 7 rfl rfl), (fs_me4 181 rfl rfl), by decide +kernel, by decide +kernel, by decide +kernel⟩
theorem v_X4_purses : fs_yV yX4_purses cX4_purses 3 (some .int) 0 := ⟨(fs_me5 39 rfl rfl), (fs_me0 56 rfl rfl), (fs_me1 7 rfl rfl), (fs_me5 40 rfl rfl), by decide +kernel, by decide +kernel, by decide +kernel⟩
theorem v_X4_put : fs_yV yX4_put cX4_put 5 (some .int) 3 := ⟨(fs_me4 26 rfl rfl), (fs_me4 27 rfl rfl), (fs_me1 7 rfl rfl), (fs_me4 28 rfl rfl), by decide +kernel, by decide +kernel, by decide +kernel⟩
theorem v_X4_quarter : fs_yV yX4_quarter cX4_quarter 1 (some .int) 0 := ⟨(fs_me4 105 rfl rfl), (fs_me4 106 rfl rfl), (fs_me1 7 rfl rfl), (fs_me4 107 rfl rfl), by decide +kernel, by decide +kernel, by decide +kernel⟩
theorem v_X4_reads : fs_yV yX4_reads cX4_reads 3 (some .int) 1 := ⟨(fs_me4 35 rfl rfl), (fs_me0 29 rfl rfl), (fs_me1 7 rfl rfl), (fs_me4 36 rfl rfl), by decide +kernel, by decide +kernel, by decide +kernel⟩
theorem v_X4_readsOne : fs_yV yX4_readsOne cX4_readsOne 3 (some .boolean) 0 := ⟨(fs_me4 47 rfl rfl), (fs_me0 32 rfl rfl), (fs_me1 7 rfl rfl), (fs_me4 48 rfl rfl), by decide +kernel, by decide +kernel, by decide +kernel⟩
theorem v_X4_refuses : fs_yV yX4_refuses cX4_refuses 2 (some .int) 1 := ⟨(fs_me5 29 rfl rfl), (fs_me0 54 rfl rfl), (fs_me1 7 rfl rfl), (fs_me5 30 rfl rfl), by decide +kernel, by decide +kernel, by decide +kernel⟩
theorem v_X4_refusesPairs : fs_yV yX4_refusesPairs cX4_refusesPairs 3 (some .int) 1 := ⟨(fs_me4 211 rfl rfl), (fs_me0 47 rfl rfl), (fs_me1 7 rfl rfl), (fs_me4 212 rfl rfl), by decide +kernel, by decide +kernel, by decide +kernel⟩
theorem v_X4_regard : fs_yV yX4_regard cX4_regard 4 (some .int) 3 := ⟨(fs_me4 100 rfl rfl), (fs_me4 101 rfl rfl), (fs_me1 7 rfl rfl), (fs_me4 102 rfl rfl), by decide +kernel, by decide +kernel, by decide +kernel⟩
theorem v_X4_regardAs : fs_yV yX4_regardAs cX4_regardAs 3 (some .int) 2 := ⟨(fs_me4 73 rfl rfl), (fs_me0 35 rfl rfl), (fs_me1 7 rfl rfl), (fs_me4 74 rfl rfl), by decide +kernel, by decide +kernel, by decide +kernel⟩
theorem v_X4_regardBy : fs_yS yX4_regardBy cX4_regardBy 7 (some .int) 4 := ⟨(fs_me4 76 rfl rfl), (fs_me1 7 rfl rfl), (fs_me4 77 rfl rfl), by decide +kernel, by decide +kernel, by decide +kernel⟩
theorem v_X4_remember : fs_yV yX4_remember cX4_remember 1 none 0 := ⟨(fs_me4 110 rfl rfl), (fs_me0 38 rfl rfl), (fs_me1 7 rfl rfl), (fs_me4 111 rfl rfl), by decide +kernel, by decide +kernel, by decide +kernel⟩
theorem v_X4_row : fs_yV yX4_row cX4_row 4 (some .int) 2 := ⟨(fs_me3 219 rfl rfl), (fs_me3 220 rfl rfl), (fs_me1 7 rfl rfl), (fs_me3 221 rfl rfl), by decide +kernel, by decide +kernel, by decide +kernel⟩
theorem v_X4_settles : fs_yV yX4_settles cX4_settles 6 (some .int) 0 := ⟨(fs_me4 166 rfl rfl), (fs_me4 167 rfl rfl), (fs_me1 7 rfl rfl), (fs_me4 168 rfl rfl), by decide +kernel, by decide +kernel, by decide +kernel⟩
theorem v_X4_skips : fs_yV yX4_skips cX4_skips 1 none 0 := ⟨(fs_me4 39 rfl rfl), (fs_me0 30 rfl rfl), (fs_me1 7 rfl rfl), (fs_me4 40 rfl rfl), by decide +kernel, by decide +kernel, by decide +kernel⟩
theorem v_X4_soot : fs_yV yX4_soot cX4_soot 2 (some .int) 1 := ⟨(fs_me4 124 rfl rfl), (fs_me4 125 rfl rfl), (fs_me1 7 rfl rfl), (fs_me4 126 rfl rfl), by decide +kernel, by decide +kernel, by decide +kernel⟩
theorem v_X4_sooted : fs_yV yX4_sooted cX4_sooted 3 (some .int) 0 := ⟨(fs_me5 59 rfl rfl), (fs_me0 57 rfl rfl), (fs_me1 7 rfl rfl), (fs_me5 60 rfl rfl), by decide +kernel, by decide +kernel, by decide +kernel⟩
theorem v_X4_tear : fs_yV yX4_tear cX4_tear 2 (some .int) 1 := ⟨(fs_me4 6 rfl rfl), (fs_me4 7 rfl rfl), (fs_me1 7 rfl rfl), (fs_me4 8 rfl rfl), by decide +kernel, by decide +kernel, by decide +kernel⟩
theorem v_X4_tell : fs_yV yX4_tell cX4_tell 2 (some .int) 1 := ⟨(fs_me3 239 rfl rfl), (fs_me0 28 rfl rfl), (fs_me1 7 rfl rfl), (fs_me4 0 rfl rfl), by decide +kernel, by decide +kernel, by decide +kernel⟩
theorem v_X4_test : fs_yV yX4_test cX4_test 13 (some .int) 2 := ⟨(fs_me4 227 rfl rfl), (fs_me4 228 rfl rfl), (fs_me1 7 rfl rfl), (fs_me4 229 rfl rfl), by decide +kernel, by decide +kernel, by decide +kernel⟩
theorem v_X4_text : fs_yV yX4_text cX4_text 4 (some .int) 2 := ⟨(fs_me4 18 rfl rfl), (fs_me4 19 rfl rfl), (fs_me1 7 rfl rfl), (fs_me4 20 rfl rfl), by decide +kernel, by decide +kernel, by decide +kernel⟩
theorem v_X4_there : fs_yS yX4_there cX4_there 5 (some .int) 3 := ⟨(fs_me5 62 rfl rfl), (fs_me1 7 rfl rfl), (fs_me5 63 rfl rfl), by decide +kernel, by decide +kernel, by decide +kernel⟩
theorem v_X4_undo : fs_yV yX4_undo cX4_undo 3 (some .int) 1 := ⟨(fs_me4 136 rfl rfl), (fs_me4 137 rfl rfl), (fs_me1 7 rfl rfl), (fs_me4 138 rfl rfl), by decide +kernel, by decide +kernel, by decide +kernel⟩
theorem v_X4_upper : fs_yV yX4_upper cX4_upper 1 (some .long) 0 := ⟨(fs_me5 46 rfl rfl), (fs_me5 47 rfl rfl), (fs_me1 7 rfl rfl), (fs_me5 48 rfl rfl), by decide +kernel, by decide +kernel, by decide +kernel⟩
theorem v_X4_wash : fs_yV yX4_wash cX4_wash 3 (some .int) 1 := ⟨(fs_me4 128 rfl rfl), (fs_me4 129 rfl rfl), (fs_me1 7 rfl rfl), (fs_me4 130 rfl rfl), by decide +kernel, by decide +kernel, by decide +kernel⟩
theorem v_X4_ways : fs_yV yX4_ways cX4_ways 11 (some .long) 3 := ⟨(fs_me5 8 rfl rfl), (fs_me0 51 rfl rfl), (fs_me1 7 rfl rfl), (fs_me5 9 rfl rfl), by decide +kernel, by decide +kernel, by decide +kernel⟩
theorem v_X4_weighs : fs_yV yX4_weighs cX4_weighs 9 (some .int) 2 := ⟨(fs_me4 239 rfl rfl), (fs_me0 50 rfl rfl), (fs_me1 7 rfl rfl), (fs_me5 0 rfl rfl), by decide +kernel, by decide +kernel, by decide +kernel⟩
theorem q_X2_40 : Cond.constantLong RX2 40 (31) ∈ fs_ws := (fs_me3 125 rfl rfl)
theorem q_X3_271 : Cond.constantLong RX3 271 (48271) ∈ fs_ws := (fs_me3 55 rfl rfl)
theorem q_X3_273 : Cond.constantLong RX3 273 (2147483647) ∈ fs_ws := (fs_me3 56 rfl rfl)
theorem q_X3_285 : Cond.constantLong RX3 285 (17) ∈ fs_ws := (fs_me3 119 rfl rfl)
theorem q_X3_287 : Cond.constantLong RX3 287 (31) ∈ fs_ws := (fs_me3 120 rfl rfl)
theorem q_X3_293 : Cond.constantLong RX3 293 (12) ∈ fs_ws := (fs_me3 38 rfl rfl)
theorem q_X4_110 : Cond.constantLong RX4 110 (48) ∈ fs_ws := (fs_me4 56 rfl rfl)
theorem q_X4_112 : Cond.constantLong RX4 112 (57) ∈ fs_ws := (fs_me4 57 rfl rfl)
theorem q_X4_160 : Cond.constantLong RX4 160 (6) ∈ fs_ws := (fs_me4 70 rfl rfl)
theorem q_X4_172 : Cond.constantLong RX4 172 (99) ∈ fs_ws := (fs_me4 103 rfl rfl)
theorem q_X4_184 : Cond.constantLong RX4 184 (2) ∈ fs_ws := (fs_me4 143 rfl rfl)
theorem q_X4_189 : Cond.constantLong RX4 189 (60) ∈ fs_ws := (fs_me4 160 rfl rfl)
theorem q_X4_197 : Cond.constantLong RX4 197 (40) ∈ fs_ws := (fs_me4 177 rfl rfl)
theorem q_X4_202 : Cond.constantLong RX4 202 (20) ∈ fs_ws := (fs_me4 190 rfl rfl)
theorem q_X4_215 : Cond.constantLong RX4 215 (30) ∈ fs_ws := (fs_me4 213 rfl rfl)
theorem q_X4_237 : Cond.constantLong RX4 237 (12) ∈ fs_ws := (fs_me5 5 rfl rfl)
theorem q_X4_251 : Cond.constantLong RX4 251 (2147483646) ∈ fs_ws := (fs_me5 26 rfl rfl)
theorem q_X4_256 : Cond.constantLong RX4 256 (48271) ∈ fs_ws := (fs_me5 31 rfl rfl)
theorem q_X4_258 : Cond.constantLong RX4 258 (2147483647) ∈ fs_ws := (fs_me5 32 rfl rfl)
theorem q_X4_277 : Cond.constantLong RX4 277 (17) ∈ fs_ws := (fs_me5 80 rfl rfl)
theorem q_X4_279 : Cond.constantLong RX4 279 (31) ∈ fs_ws := (fs_me5 81 rfl rfl)
theorem q_X4_72 : Cond.constantLong RX4 72 (5) ∈ fs_ws := (fs_me3 225 rfl rfl)
theorem q_X4_78 : Cond.constantLong RX4 78 (3) ∈ fs_ws := (fs_me4 24 rfl rfl)
theorem q_X3_270 : Cond.constant RX3 270 (2147483647) ∈ fs_ws := (fs_me3 54 rfl rfl)
theorem q_X4_204 : Cond.constant RX4 204 (1000000) ∈ fs_ws := (fs_me4 191 rfl rfl)
