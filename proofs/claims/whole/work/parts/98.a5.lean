/-! the store as it is first, the end of the reference's constructor -/
def zS0 : fsS := fun k => if k = 10 then fun _ => -1 else if k = 11 then fun _ => -1 else if k = 13 then fun _ => -1 else if k = 2 then fun j => if j = 2 then 32 else 0 else fun _ => 0
def zL0 : fsL := fun k => if k = 0 then fun j => if j = 10 then 1 else 0 else if k = 51 then fun j => if j = 6 then 1 else 0 else fun _ => 0
def bet (bb : Nat) (α : Nat → Nat) (l : List Nat) : Nat → Nat := fun k => if k < 51 then α k else lk bb l (k - 51)
theorem bet_lo {bb : Nat} {α : Nat → Nat} {l : List Nat} {k : Nat} (h : k < 51) : bet bb α l k = α k := if_pos h
theorem i_cast {G : va_G} {X : iC} {pc nL : Nat} {lv : List (Nat × Value)} {st : List Value} {w w' : va_W} {cells slots : Nat} (h : w = w') (kk : iW G X pc nL lv st w' cells slots) : iW G X pc nL lv st w cells slots := by
  rw [h]
  exact kk
theorem fs_tp_at {i : Nat} (h : i < 68) : ∃ t, fs_tp[i]? = some t := ⟨fs_tp[i]'h, List.getElem?_eq_getElem h⟩
theorem fs_inj {cI cII : ClassId} {α : Nat → Nat} {A : Nat → Prop} {σ : fsS} {μ : fsL} (h : va_D A (fs_w cI cII α σ μ)) : (∀ i j, i < 68 → j < 68 → α i = α j → i = j) ∧ ∀ i, i < 68 → A (α i) := by
  refine ⟨fun i j hi hj e => ?_, fun i hi => ?_⟩
  · obtain ⟨t, ht⟩ := fs_tp_at hi
    obtain ⟨t', ht'⟩ := fs_tp_at hj
    exact h.1 i j _ _ (fs_w_get ht) (fs_w_get ht') e
  · obtain ⟨t, ht⟩ := fs_tp_at hi
    exact h.2 i _ (fs_w_get ht)
/-- from the list of cells to the flat store -/
theorem i_flat {p : Program} {l : Launch} {e : Env} {R : Room} {s : State} {m : MethodId} {args : Array Value} {below : List Frame} {meth : Method} {c : Code} {Q : State → Prop} {A : Nat → Prop} {dC : Nat → ClassId} {dI : Nat → Nat → Nat} {cI cII : ClassId} {α : Nat → Nat} {σ : fsS} {μ : fsL} {pc nL : Nat} {lv : List (Nat × Value)} {cells slots : Nat} (L : List (Option Value)) (st : List Value) {st' : List Value} (hst : st' = st.map (fs_v α)) (hn : L.length = nL) (hl : ∀ q ∈ fs_lv α L, q ∈ lv)
    (kk : (∀ i j, i < 68 → j < 68 → α i = α j → i = j) → (∀ i, i < 68 → A (α i)) → fs_PW (p, l, e, R, s, m, args, below, meth, c, cells, slots, Q, dC, dI, α, cI, cII, A) pc L st σ μ) : iW (dC, dI) (p, l, e, R, s, m, args, below, meth, c, Q, A) pc nL lv st' (fs_w cI cII α σ μ) cells slots := by
  subst hst
  intro H locs ls h1 h2 h3 h4
  obtain ⟨hi, hA⟩ := fs_inj h3
  refine kk hi hA H locs ls ?_ h2 h4
  rw [hn]
  exact ⟨h1.1, h1.2.1, fun q hq => h1.2.2 q (hl q hq)⟩
theorem l_init1 {rm : Room} {X : fsC} (hX : fs_ok cX4_init RX4 2 rm X) : ∀ (n i : Nat) (σ : fsS) (μ : fsL), i + n = 6 → (∀ j, j < i → σ 53 j = -1) → (∀ σ' : fsS, (∀ j, j < 6 → σ' 53 j = -1) → (∀ k j, ¬ k = 53 → σ' k j = σ k j) → fs_PW X 161 [some (.ref 51), none] [] σ' μ) → fs_PW X 142 [some (.ref 51), some (.int (nI i))] [] σ μ := by
  intro n
  induction n with
  | zero =>
    intro i σ μ hi hf kk
    have hi : i = 6 := by omega
    subst hi
    refine s_iload_n hX dX4_init_142 rfl ?_
    refine s_bi hX (6 : Int32) dX4_init_143 (by decide) ?_
    refine s_ic_ge hX 161 dX4_init_145 (by decide) (fun _ => ?_) (fun c1 => absurd (show (6 : Int32) ≤ nI 6 from nI_le (Nat.le_refl 6) (by omega)) c1)
    refine fs_ma [true, false] ?_
    exact kk σ hf (fun _ _ _ => rfl)
  | succ n ih =>
    intro i σ μ hi hf kk
    refine s_iload_n hX dX4_init_142 rfl ?_
    refine s_bi hX (6 : Int32) dX4_init_143 (by decide) ?_
    refine s_ic_ge hX 161 dX4_init_145 (by decide) (fun c1 => absurd c1 (show ¬ (6 : Int32) ≤ nI i from nI_ge (b := 6) (by omega) (by omega))) (fun _ => ?_)
    refine s_aload_n hX dX4_init_148 rfl ?_
    refine s_getr hX dX4_init_149 f_X4_13 rfl ?_
    refine s_iload_n hX dX4_init_152 rfl ?_
    refine s_ic hX (-1 : Int32) dX4_init_153 (by decide) ?_
    refine s_iast hX dX4_init_154 (show fs_in (nI i) 6 from inI (by omega) (by omega)) ?_
    refine s_iinc hX (nI (i + 1)) dX4_init_155 rfl (nI_add i 1) (Nat.le_of_ble_eq_true rfl) ?_
    refine s_goto hX 142 dX4_init_158 (by decide) ?_
    refine ih (i + 1) _ μ (by omega) (fun j hj => ?_) (fun σ' h1 h2 => kk σ' h1 (fun k j hk => (h2 k j hk).trans (by unfold fs_u; rw [fs_s_ne _ hk])))
    unfold fs_u
    rw [fs_s_self, nI_clamp (by omega)]
    unfold upd
    by_cases e : j = i
    · rw [if_pos e]
    · rw [if_neg e]
      exact hf j (by omega)
theorem l_init2 {rm : Room} {X : fsC} (hX : fs_ok cX4_init RX4 2 rm X) : ∀ (n i : Nat) (σ : fsS) (μ : fsL), i + n = 4 → (∀ j, j < i → σ 55 j = -1) → (∀ σ' : fsS, (∀ j, j < 4 → σ' 55 j = -1) → (∀ k j, ¬ k = 55 → σ' k j = σ k j) → fs_PW X 181 [some (.ref 51), none] [] σ' μ) → fs_PW X 163 [some (.ref 51), some (.int (nI i))] [] σ μ := by
  intro n
  induction n with
  | zero =>
    intro i σ μ hi hf kk
    have hi : i = 4 := by omega
    subst hi
    refine s_iload_n hX dX4_init_163 rfl ?_
    refine s_ic hX (4 : Int32) dX4_init_164 (by decide) ?_
    refine s_ic_ge hX 181 dX4_init_165 (by decide) (fun _ => ?_) (fun c1 => absurd (show (4 : Int32) ≤ nI 4 from nI_le (Nat.le_refl 4) (by omega)) c1)
    refine fs_ma [true, false] ?_
    exact kk σ hf (fun _ _ _ => rfl)
  | succ n ih =>
    intro i σ μ hi hf kk
    refine s_iload_n hX dX4_init_163 rfl ?_
    refine s_ic hX (4 : Int32) dX4_init_164 (by decide) ?_
    refine s_ic_ge hX 181 dX4_init_165 (by decide) (fun c1 => absurd c1 (show ¬ (4 : Int32) ≤ nI i from nI_ge (b := 4) (by omega) (by omega))) (fun _ => ?_)
    refine s_aload_n hX dX4_init_168 rfl ?_
    refine s_getr hX dX4_init_169 f_X4_19 rfl ?_
    refine s_iload_n hX dX4_init_172 rfl ?_
    refine s_ic hX (-1 : Int32) dX4_init_173 (by decide) ?_
    refine s_iast hX dX4_init_174 (show fs_in (nI i) 4 from inI (by omega) (by omega)) ?_
    refine s_iinc hX (nI (i + 1)) dX4_init_175 rfl (nI_add i 1) (Nat.le_of_ble_eq_true rfl) ?_
    refine s_goto hX 163 dX4_init_178 (by decide) ?_
    refine ih (i + 1) _ μ (by omega) (fun j hj => ?_) (fun σ' h1 h2 => kk σ' h1 (fun k j hk => (h2 k j hk).trans (by unfold fs_u; rw [fs_s_ne _ hk])))
    unfold fs_u
    rw [fs_s_self, nI_clamp (by omega)]
    unfold upd
    by_cases e : j = i
    · rw [if_pos e]
    · rw [if_neg e]
      exact hf j (by omega)
/-- between two new ones all is as it must be -/
theorem Rel_new {σ : fsS} (h53 : ∀ j, j < 6 → σ 53 j = -1) (h55 : ∀ j, j < 4 → σ 55 j = -1) (h60 : σ 60 0 = 0) (h17 : σ 51 17 = 0) (h64 : ∀ k, k < 3 → σ 64 (534 * k) = -1) (g : ∀ k j, ¬ k = 53 → ¬ k = 55 → ¬ k = 60 → ¬ k = 64 → ¬ (k = 51 ∧ j = 17) → σ k j = zS0 k j) : Rel σ zL0 := by
  have zz : ∀ k j, ¬ k = 10 → ¬ k = 11 → ¬ k = 13 → ¬ k = 2 → zS0 k j = 0 := fun k j a b c d => by
    unfold zS0
    rw [if_neg a, if_neg b, if_neg c, if_neg d]
  have g0 : ∀ k j, ¬ k = 10 → ¬ k = 11 → ¬ k = 13 → ¬ k = 2 → ¬ k = 53 → ¬ k = 55 → ¬ k = 60 → ¬ k = 64 → ¬ (k = 51 ∧ j = 17) → σ k j = 0 := fun k j a b c d e f i l m => (g k j e f i l m).trans (zz k j a b c d)
  have m10 : ∀ j, σ 10 j = -1 := fun j => g 10 j (by omega) (by omega) (by omega) (by omega) (by omega)
  have m11 : ∀ j, σ 11 j = -1 := fun j => g 11 j (by omega) (by omega) (by omega) (by omega) (by omega)
  have m13 : ∀ j, σ 13 j = -1 := fun j => g 13 j (by omega) (by omega) (by omega) (by omega) (by omega)
  have hb : ∀ (cs : Nat → Int32), hsy 0 σ cs 0 := fun cs => ⟨fun j hj => by
    have hj : j = 0 := by omega
    subst hj
    exact ⟨fun i hi => absurd hi (Nat.not_lt_zero i), fun i hi => absurd hi (Nat.not_lt_zero i), 0, Nat.le_refl 0, nI_0.symm⟩, fun j hj => absurd hj (Nat.not_lt_zero j)⟩
  have he : ∀ (cs p s : Nat → Int32) (q : Int32), q = 0 → eqs 0 (sn σ 0 cs 0) p s q := fun cs p s q hq => ⟨fun i hi => absurd hi (Nat.not_lt_zero i), fun i hi => absurd hi (Nat.not_lt_zero i), hq⟩
  refine ⟨0, 0, ⟨?_, rfl, rfl, ?_, fun f h1 h2 => ?_⟩, ⟨?_, fun r hr => ⟨?_, Or.inl (m10 r)⟩⟩, ⟨?_, fun t ht => ⟨?_, Or.inl (m11 t)⟩⟩, ⟨Or.inl rfl, by omega, ?_, ?_, ?_, fun i hi => absurd hi (Nat.not_lt_zero i)⟩, ⟨by omega, fun _ => rfl, ?_, ?_, hb _, he _ _ _ _ ?_, he _ _ _ _ h60, fun j hj => absurd hj (Nat.not_lt_zero j)⟩, fun k hk => ⟨?_, Or.inl (m13 k)⟩⟩
  · rw [g0 51 4 (by omega) (by omega) (by omega) (by omega) (by omega) (by omega) (by omega) (by omega) (by omega), g0 0 8 (by omega) (by omega) (by omega) (by omega) (by omega) (by omega) (by omega) (by omega) (by omega)]
  · rw [g0 51 7 (by omega) (by omega) (by omega) (by omega) (by omega) (by omega) (by omega) (by omega) (by omega), g0 0 7 (by omega) (by omega) (by omega) (by omega) (by omega) (by omega) (by omega) (by omega) (by omega)]
  · rw [g0 56 f (by omega) (by omega) (by omega) (by omega) (by omega) (by omega) (by omega) (by omega) (by omega), g0 9 f (by omega) (by omega) (by omega) (by omega) (by omega) (by omega) (by omega) (by omega) (by omega)]
  · exact g0 1 2 (by omega) (by omega) (by omega) (by omega) (by omega) (by omega) (by omega) (by omega) (by omega)
  · rw [h53 r hr, m10]
  · exact g 2 2 (by omega) (by omega) (by omega) (by omega) (by omega)
  · rw [h55 t ht, m11]
  · rw [nI_0]; exact g0 4 0 (by omega) (by omega) (by omega) (by omega) (by omega) (by omega) (by omega) (by omega) (by omega)
  · rw [nI_0]; exact g0 5 0 (by omega) (by omega) (by omega) (by omega) (by omega) (by omega) (by omega) (by omega) (by omega)
  · rw [nI_0]; exact g0 51 9 (by omega) (by omega) (by omega) (by omega) (by omega) (by omega) (by omega) (by omega) (by omega)
  · rw [nI_0]; exact g0 3 3 (by omega) (by omega) (by omega) (by omega) (by omega) (by omega) (by omega) (by omega) (by omega)
  · rw [nI_0]; exact h17
  · exact g0 3 2 (by omega) (by omega) (by omega) (by omega) (by omega) (by omega) (by omega) (by omega) (by omega)
  · rw [h64 k hk, m13]
set_option maxHeartbeats 4000000 in
theorem c_Model2 {dC : Nat → ClassId} {dI : Nat → Nat → Nat} {cI cII : ClassId} {X : iC} {β : Nat → Nat} {a0 h bb cells slots : Nat} (hX : iOk (dC, dI) cI cII cX4_init RX4 2 { frames := 4, cells := 16, slots := 2730, locals := 120 } X) (hR : iRet (dC, dI) (fun u : (Nat → Nat) × fsS × fsL => u.1 0 = a0 ∧ u.1 51 = h ∧ u.1 1000 = bb ∧ Rel u.2.1 u.2.2) (fun u => fs_w cI cII u.1 u.2.1 u.2.2) X) (h0 : β 0 = a0) (h51 : β 51 = h) (h1k : β 1000 = bb) (hce : cells ≤ 16) (hsl : slots ≤ 2730) : iW (dC, dI) X 140 2 [(0, .ref h)] [] (fs_w cI cII β zS0 zL0) cells slots := by
  obtain ⟨p, l, e, R, s, m, args, below, meth, c, Q, A⟩ := X
  obtain ⟨hx, hb, hml, hown, hts, hK, hZ, hA, rfl⟩ := hX
  refine i_flat [some (.ref 51), none] [] rfl rfl (fun q hq => by
    have hq : q ∈ [(0, Value.ref (β 51))] := hq
    rw [h51] at hq
    exact hq) (fun inj hA2 => ?_)
  have hX' : fs_ok cX4_init RX4 2 { frames := 4, cells := 16, slots := 2730, locals := 120 } (p, l, e, { frames := 4, cells := 16, slots := 2730, locals := 120 }, s, m, args, below, meth, c, cells, slots, Q, dC, dI, β, cI, cII, A) := ⟨hx, hb, hml, hown, hts, hK, inj, hA2, rfl, hce, hsl⟩
  refine s_ic hX' (0 : Int32) dX4_init_140 (by decide) ?_
  refine s_istore_n hX' dX4_init_141 (Nat.le_of_ble_eq_true rfl) ?_
  refine l_init1 hX' 6 0 zS0 zL0 rfl (fun j hj => absurd hj (Nat.not_lt_zero j)) (fun σ1 a1 a2 => ?_)
  refine s_ic hX' (0 : Int32) dX4_init_161 (by decide) ?_
  refine s_istore_n hX' dX4_init_162 (Nat.le_of_ble_eq_true rfl) ?_
  refine l_init2 hX' 4 0 σ1 zL0 rfl (fun j hj => absurd hj (Nat.not_lt_zero j)) (fun σ2 b1 b2 => ?_)
  obtain ⟨σ3, e3, f1, f2, f3, f4, f5⟩ := w_forgets σ2
  refine s_aload_n hX' dX4_init_181 rfl ?_
  refine s_cV hX' [] dX4_init_182 k_X4_62 v_X4_forgets (m_X4_forgets σ2 zL0 σ3 e3) ⟨_, rfl⟩ fs_c4 ⟨rfl, rfl⟩ ⟨(Nat.le_of_ble_eq_true rfl), (Nat.le_of_ble_eq_true rfl)⟩ rfl rfl (Nat.le_of_ble_eq_true rfl) ?_
  intro H locs ls hl hP hS
  refine W.widen hce hsl (hR H locs ls 185 (β, σ3, zL0) ⟨h0, h51, h1k, ?_⟩ hP (fs_D inj hA2 σ3 zL0) hS (by rw [hb]; exact dX4_init_185))
  show Rel σ3 zL0
  refine Rel_new (fun j hj => ?_) (fun j hj => ?_) f1 f3 f4 (fun k j q1 q2 q3 q4 q5 => ?_)
  · rw [f5 53 j (by omega) (by omega) (by omega), b2 53 j (by omega)]
    exact a1 j hj
  · rw [f5 55 j (by omega) (by omega) (by omega)]
    exact b1 j hj
  · rw [f5 k j (fun q => q3 q.1) q5 q4, b2 k j q2, a2 k j q1]
/-! the flat store's list of cells, cell by cell -/
def mI2 {τ υ : Type} (f : Nat → τ → υ) : Nat → List τ → List υ
  | _, [] => []
  | k, a :: l => f k a :: mI2 f (k + 1) l
theorem mI2_eq {τ υ : Type} (f : Nat → τ → υ) : ∀ (l : List τ) (k : Nat), l.mapIdx (fun i => f (i + k)) = mI2 f k l
  | [], _ => rfl
  | a :: l, k => by
    rw [List.mapIdx_cons, Nat.zero_add]
    show _ = f k a :: mI2 f (k + 1) l
    rw [← mI2_eq f l (k + 1)]
    congr 1
    congr 1
    funext i
    rw [show i + 1 + k = i + (k + 1) by omega]
theorem mI2_0 {τ υ : Type} (f : Nat → τ → υ) (l : List τ) : l.mapIdx f = mI2 f 0 l := mI2_eq f l 0
def fs_e2 (cI cII : ClassId) (α : Nat → Nat) (σ : fsS) (μ : fsL) (k : Nat) (t : fsT) : va_E := match t with
  | .inl o => .inr (o.1, mI2 (fun j f => fs_v α (fs_f σ μ k j f)) 0 o.2)
  | .inr (.inl n) => .inl (cI, n, .inl (σ k))
  | .inr (.inr q) => .inl (cII, q.2, .inr (.inr (.inr (.inr (fun i => if i < q.2 then some (α (q.1 + i)) else none)))))
theorem fs_e2_eq (cI cII : ClassId) (α : Nat → Nat) (σ : fsS) (μ : fsL) (k : Nat) (t : fsT) : fs_e cI cII α σ μ k t = fs_e2 cI cII α σ μ k t := by
  rcases t with o | n | q
  · show (Sum.inr (o.1, _) : va_E) = Sum.inr (o.1, _)
    rw [mI2_0]
  · rfl
  · rfl
theorem fs_w2 (cI cII : ClassId) (α : Nat → Nat) (σ : fsS) (μ : fsL) : fs_w cI cII α σ μ = mI2 (fun k t => (α k, fs_e2 cI cII α σ μ k t)) 0 fs_tp := by
  unfold fs_w
  rw [mI2_0]
  congr 1
  funext k t
  rw [fs_e2_eq]
set_option maxRecDepth 20000 in
set_option maxHeartbeats 4000000 in
theorem fs_w_new (cI cII : ClassId) (α : Nat → Nat) : fs_w cI cII α zS0 zL0 = tmFs cI cII α ++ tmMo cI α := by
  rw [fs_w2]
  rfl
