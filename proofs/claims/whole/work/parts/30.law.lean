/-! THE CLAIM OUT OF ONE WALK OF THE LAW'S BODY. Your part is whole_start (and what it stands on); all else here is the same for every law, but numbers. -/
def R_law : String := "FiddleSharesLaw"
def lw_P (b : Addr) (xs : List Int32) (args : Array Value) (s : State) : Prop := args = #[.ref b] ∧ s.IntsAt b xs ∧ xs.length ≤ 384 ∧ (Jvm.Cond.and given_1 narrow_1).before args s = true
def lw_Q (_ : Array Value) (s : State) (o : Outcome) (t : State) : Prop := o = .returned (some (.int 1)) ∧ Framed s o t [] 600000 7302250
def lw_Z (below : List Frame) (a : Array Value) (s : State) : State → Prop := fun t => ∃ o, t.status = .running ∧ Ended t below o ∧ lw_Q a s o t
/-- the law's own end, with 1 on the stack, nothing written that was there before, its room as the claim has it -/
theorem lw_ret {p : Program} {l : Launch} {e : Env} {s : State} {m : MethodId} {below : List Frame} {meth : Method} {c : Code} {b : Nat} (hx : p.tables.exec = Jvm.exec) (hb : c.code = code) (hr : meth.sig.returnType = ret) (hlocks : meth.locks = false) {pc : Nat} {H : Heap} {ls : Array Slot} (hdg : decode code pc = .ok (.ireturn, 1)) : W p l e room_1 s m #[Value.ref b] below meth c H [] 600000 7302250 (lw_Z below #[Value.ref b] s) (F0 m pc ls [.int 1]) := by
  intro T hT X
  obtain ⟨fs, hret, hrun, hended, hW, hframe⟩ := X.leave (v := some (.int 1)) (hlocks := hlocks) (fun h => by rw [hr] at h; cases h)
  have hmeth' : T.vm.method? m = some meth := X.method'
  refine ⟨T.setFrames fs, ?_, .returned (some (.int 1)), hrun, hended, rfl, ⟨_, rfl⟩, hW, hframe⟩
  jvm_step X.here [X.here.top, hx, hb, hdg, hmeth', hr, ret, narrow_b1]
  (try refine ⟨rfl, ?_⟩); (try refine ⟨rfl, ?_⟩)
  first | (intro acts; rw [hret _ acts rfl rfl rfl]) | rw [hret _ _ rfl rfl rfl]
  exact Steps.refl _
/-- what holds at the law's entry: the machine, the code, the tables' words (any of lw_tbl by 'hts w (by decide +kernel)'), the script of L ints xs at the cell b, what the Statement gives of the start (any of its parts by flat_of_before) -/
def lw_At (p : Program) (s : State) (m : MethodId) (meth : Method) (c : Code) (b L : Nat) (xs : Nat → Int32) : Prop :=
  p.tables.exec = Jvm.exec ∧ c.code = code ∧ meth.sig.returnType = ret ∧ c.maxLocals = 4 ∧ s.vm.findClass R_law = some m.cls ∧ (∀ w ∈ lw_tbl, w.before #[Value.ref b] s = true) ∧ va_X b L xs s s.heap ∧ b < s.heap.size ∧ meth.locks = false ∧ (Jvm.Cond.and given_1 narrow_1).before #[Value.ref b] s = true

/-- the script: the cell b, of Ln ints xs; among the references it is number 1000 -/
def fs_scr (b Ln : Nat) (xs : Nat → Int32) (X : fsC) : Prop := match X with
  | (p, l, e, R, s, m, args, below, meth, c, cells, slots, Q, dC, dI, α, cI, cII, A) => α 1000 = b ∧ va_X b Ln xs s s.heap ∧ b < s.heap.size ∧ ¬ A b
def fs_law (b : Nat) (X : fsC) : Prop := match X with
  | (p, l, e, R, s, m, args, below, meth, c, cells, slots, Q, dC, dI, α, cI, cII, A) => args = #[Value.ref b] ∧ Q = lw_Z below #[Value.ref b] s ∧ meth.sig.returnType = ret ∧ meth.locks = false ∧ A = (fun q : Nat => s.heap.size ≤ q)
theorem s_sld {cc : ByteArray} {own : String} {nL : Nat} {rm : Room} {X : fsC} (hX : fs_ok cc own nL rm X) {pc : Nat} {L : List (Option Value)} {st : List Value} {σ : fsS} {μ : fsL} {b Ln : Nat} {xs : Nat → Int32} (hs : fs_scr b Ln xs X) {i : Int32} (hd : decode cc pc = .ok (.iaload, 1)) (hin : vp_in i Ln) (k : fs_PW X (pc + 1) L (.int (xs i.toNatClampNeg) :: st) σ μ) : fs_PW X pc L (.int i :: .ref 1000 :: st) σ μ := by
  obtain ⟨p, l, e, R, s, m, args, below, meth, c, cells, slots, Q, dC, dI, α, cI, cII, A⟩ := X
  intro H locs ls hl hP hS
  obtain ⟨e1, hV, hbl, hbA⟩ := hs
  subst e1
  exact va_sld (A := A) hX.1 hX.2.1 hV hbl hbA hS hin hd (k H locs ls hl hP hS)
theorem s_slen {cc : ByteArray} {own : String} {nL : Nat} {rm : Room} {X : fsC} (hX : fs_ok cc own nL rm X) {pc : Nat} {L : List (Option Value)} {st : List Value} {σ : fsS} {μ : fsL} {b Ln : Nat} {xs : Nat → Int32} (hs : fs_scr b Ln xs X) (hd : decode cc pc = .ok (.arraylength, 1)) (k : fs_PW X (pc + 1) L (.int (Int32.ofNat Ln) :: st) σ μ) : fs_PW X pc L (.ref 1000 :: st) σ μ := by
  obtain ⟨p, l, e, R, s, m, args, below, meth, c, cells, slots, Q, dC, dI, α, cI, cII, A⟩ := X
  intro H locs ls hl hP hS
  obtain ⟨e1, hV, hbl, hbA⟩ := hs
  subst e1
  exact va_slen (A := A) hX.1 hX.2.1 hV hbl hbA hS hd (k H locs ls hl hP hS)
theorem s_lawret {own : String} {nL : Nat} {X : fsC} (hX : fs_ok code own nL room_1 X) {b : Nat} (hl : fs_law b X) {pc : Nat} {L : List (Option Value)} {σ : fsS} {μ : fsL} (hd : decode code pc = .ok (.ireturn, 1)) : fs_PW X pc L [.int 1] σ μ := by
  obtain ⟨p, l, e, R, s, m, args, below, meth, c, cells, slots, Q, dC, dI, α, cI, cII, A⟩ := X
  intro H locs ls hlv hP hS
  obtain ⟨rfl, rfl, hr, hlocks, rfl⟩ := hl
  obtain ⟨hx, hb, hml, hown, hts, hK, hinj, hA, rfl, hce, hsl⟩ := hX
  refine va_forget (fun q hq => hS.2.2 q hq) ?_
  refine W.widen (k := 600000) (n := 7302250) hce hsl ?_
  exact lw_ret hx hb hr hlocks hd

set_option maxRecDepth 20000 in
set_option maxHeartbeats 40000000 in
theorem lc_row {X : fsC} (hX : fs_ok cL_law RL 4 room_1 X) {b Ln : Nat} {xs : Nat → Int32} (hs : fs_scr b Ln xs X) {y3 : Int32} (hb1 : vp_in (y3 + (1 : Int32)) Ln) (hb2 : vp_in (y3 + (2 : Int32)) Ln) {σ σ1 σ2 : fsS} {μ μ1 μ2 : fsL} {r : Int32} (h1 : fs_Met yX3_row cX3_row 3 (some .int) { frames := 1, cells := 0, slots := 0, locals := 23 } [.ref 0, .int (xs (y3 + (1 : Int32)).toNatClampNeg), .int (xs (y3 + (2 : Int32)).toNatClampNeg)] σ μ (some (.int r)) σ1 μ1) (h2 : fs_Met yX4_row cX4_row 4 (some .int) { frames := 2, cells := 0, slots := 0, locals := 45 } [.ref 51, .int (xs (y3 + (1 : Int32)).toNatClampNeg), .int (xs (y3 + (2 : Int32)).toNatClampNeg)] σ1 μ1 (some (.int r)) σ2 μ2) (k : fs_PW X 1368 [some (.ref 1000), some (.ref 0), some (.ref 51), some (.int y3)] [] σ2 μ2) : fs_PW X 212 [some (.ref 1000), some (.ref 0), some (.ref 51), some (.int y3)] [] σ μ := by
  refine s_aload_n hX dL_law_212 rfl ?_
  refine s_aload_n hX dL_law_213 rfl ?_
  refine s_iload_n hX dL_law_214 rfl ?_
  refine s_ic hX (1 : Int32) dL_law_215 (by decide) ?_
  refine s_iadd hX dL_law_216 ?_
  refine s_sld hX hs dL_law_217 hb1 ?_
  refine s_aload_n hX dL_law_218 rfl ?_
  refine s_iload_n hX dL_law_219 rfl ?_
  refine s_ic hX (2 : Int32) dL_law_220 (by decide) ?_
  refine s_iadd hX dL_law_221 ?_
  refine s_sld hX hs dL_law_222 hb2 ?_
  refine s_cV hX [.int (xs (y3 + (1 : Int32)).toNatClampNeg), .int (xs (y3 + (2 : Int32)).toNatClampNeg)] dL_law_223 k_L_13 v_X3_row h1 ⟨_, rfl⟩ fs_c3 ⟨rfl, rfl⟩ ⟨(Nat.le_of_ble_eq_true rfl), (Nat.le_of_ble_eq_true rfl)⟩ rfl rfl (Nat.le_of_ble_eq_true rfl) ?_
  refine s_aload_n hX dL_law_226 rfl ?_
  refine s_aload_n hX dL_law_227 rfl ?_
  refine s_iload_n hX dL_law_228 rfl ?_
  refine s_ic hX (1 : Int32) dL_law_229 (by decide) ?_
  refine s_iadd hX dL_law_230 ?_
  refine s_sld hX hs dL_law_231 hb1 ?_
  refine s_aload_n hX dL_law_232 rfl ?_
  refine s_iload_n hX dL_law_233 rfl ?_
  refine s_ic hX (2 : Int32) dL_law_234 (by decide) ?_
  refine s_iadd hX dL_law_235 ?_
  refine s_sld hX hs dL_law_236 hb2 ?_
  refine s_cV hX [.int (xs (y3 + (1 : Int32)).toNatClampNeg), .int (xs (y3 + (2 : Int32)).toNatClampNeg)] dL_law_237 k_L_17 v_X4_row h2 ⟨_, rfl⟩ fs_c4 ⟨rfl, rfl⟩ ⟨(Nat.le_of_ble_eq_true rfl), (Nat.le_of_ble_eq_true rfl)⟩ rfl rfl (Nat.le_of_ble_eq_true rfl) ?_
  exact s_ic_eq hX 1368 dL_law_240 (by decide) (fun _ => k) (fun z => absurd rfl z)
set_option maxRecDepth 20000 in
set_option maxHeartbeats 40000000 in
theorem lc_lay {X : fsC} (hX : fs_ok cL_law RL 4 room_1 X) {b Ln : Nat} {xs : Nat → Int32} (hs : fs_scr b Ln xs X) {y3 : Int32} (hb1 : vp_in (y3 + (1 : Int32)) Ln) (hb2 : vp_in (y3 + (2 : Int32)) Ln) (hb3 : vp_in (y3 + (3 : Int32)) Ln) {σ σ1 σ2 : fsS} {μ μ1 μ2 : fsL} {r : Int32} (h1 : fs_Met yX3_lay cX3_lay 5 (some .int) { frames := 2, cells := 0, slots := 0, locals := 45 } [.ref 0, .int (xs (y3 + (1 : Int32)).toNatClampNeg), .int (xs (y3 + (2 : Int32)).toNatClampNeg), .int (xs (y3 + (3 : Int32)).toNatClampNeg)] σ μ (some (.int r)) σ1 μ1) (h2 : fs_Met yX4_lay cX4_lay 5 (some .int) { frames := 2, cells := 0, slots := 0, locals := 45 } [.ref 51, .int (xs (y3 + (1 : Int32)).toNatClampNeg), .int (xs (y3 + (2 : Int32)).toNatClampNeg), .int (xs (y3 + (3 : Int32)).toNatClampNeg)] σ1 μ1 (some (.int r)) σ2 μ2) (k : fs_PW X 1368 [some (.ref 1000), some (.ref 0), some (.ref 51), some (.int y3)] [] σ2 μ2) : fs_PW X 245 [some (.ref 1000), some (.ref 0), some (.ref 51), some (.int y3)] [] σ μ := by
  refine s_aload_n hX dL_law_245 rfl ?_
  refine s_aload_n hX dL_law_246 rfl ?_
  refine s_iload_n hX dL_law_247 rfl ?_
  refine s_ic hX (1 : Int32) dL_law_248 (by decide) ?_
  refine s_iadd hX dL_law_249 ?_
  refine s_sld hX hs dL_law_250 hb1 ?_
  refine s_aload_n hX dL_law_251 rfl ?_
  refine s_iload_n hX dL_law_252 rfl ?_
  refine s_ic hX (2 : Int32) dL_law_253 (by decide) ?_
  refine s_iadd hX dL_law_254 ?_
  refine s_sld hX hs dL_law_255 hb2 ?_
  refine s_aload_n hX dL_law_256 rfl ?_
  refine s_iload_n hX dL_law_257 rfl ?_
  refine s_ic hX (3 : Int32) dL_law_258 (by decide) ?_
  refine s_iadd hX dL_law_259 ?_
  refine s_sld hX hs dL_law_260 hb3 ?_
  refine s_cV hX [.int (xs (y3 + (1 : Int32)).toNatClampNeg), .int (xs (y3 + (2 : Int32)).toNatClampNeg), .int (xs (y3 + (3 : Int32)).toNatClampNeg)] dL_law_261 k_L_18 v_X3_lay h1 ⟨_, rfl⟩ fs_c3 ⟨rfl, rfl⟩ ⟨(Nat.le_of_ble_eq_true rfl), (Nat.le_of_ble_eq_true rfl)⟩ rfl rfl (Nat.le_of_ble_eq_true rfl) ?_
  refine s_aload_n hX dL_law_264 rfl ?_
  refine s_aload_n hX dL_law_265 rfl ?_
  refine s_iload_n hX dL_law_266 rfl ?_
  refine s_ic hX (1 : Int32) dL_law_267 (by decide) ?_
  refine s_iadd hX dL_law_268 ?_
  refine s_sld hX hs dL_law_269 hb1 ?_
  refine s_aload_n hX dL_law_270 rfl ?_
  refine s_iload_n hX dL_law_271 rfl ?_
  refine s_ic hX (2 : Int32) dL_law_272 (by decide) ?_
  refine s_iadd hX dL_law_273 ?_
  refine s_sld hX hs dL_law_274 hb2 ?_
  refine s_aload_n hX dL_law_275 rfl ?_
  refine s_iload_n hX dL_law_276 rfl ?_
  refine s_ic hX (3 : Int32) dL_law_277 (by decide) ?_
  refine s_iadd hX dL_law_278 ?_
  refine s_sld hX hs dL_law_279 hb3 ?_
  refine s_cV hX [.int (xs (y3 + (1 : Int32)).toNatClampNeg), .int (xs (y3 + (2 : Int32)).toNatClampNeg), .int (xs (y3 + (3 : Int32)).toNatClampNeg)] dL_law_280 k_L_22 v_X4_lay h2 ⟨_, rfl⟩ fs_c4 ⟨rfl, rfl⟩ ⟨(Nat.le_of_ble_eq_true rfl), (Nat.le_of_ble_eq_true rfl)⟩ rfl rfl (Nat.le_of_ble_eq_true rfl) ?_
  exact s_ic_eq hX 1368 dL_law_283 (by decide) (fun _ => k) (fun z => absurd rfl z)
set_option maxRecDepth 20000 in
set_option maxHeartbeats 40000000 in
theorem lc_at {X : fsC} (hX : fs_ok cL_law RL 4 room_1 X) {b Ln : Nat} {xs : Nat → Int32} (hs : fs_scr b Ln xs X) {y3 : Int32} (hb1 : vp_in (y3 + (1 : Int32)) Ln) (hb2 : vp_in (y3 + (2 : Int32)) Ln) {σ σ1 σ2 : fsS} {μ μ1 μ2 : fsL} {r : Int32} (h1 : fs_Met yX3_at cX3_at 4 (some .int) { frames := 2, cells := 0, slots := 0, locals := 45 } [.ref 0, .int (xs (y3 + (1 : Int32)).toNatClampNeg), .int (xs (y3 + (2 : Int32)).toNatClampNeg)] σ μ (some (.int r)) σ1 μ1) (h2 : fs_Met yX4_at cX4_at 3 (some .int) { frames := 2, cells := 0, slots := 0, locals := 45 } [.ref 51, .int (xs (y3 + (1 : Int32)).toNatClampNeg), .int (xs (y3 + (2 : Int32)).toNatClampNeg)] σ1 μ1 (some (.int r)) σ2 μ2) (k : fs_PW X 1368 [some (.ref 1000), some (.ref 0), some (.ref 51), some (.int y3)] [] σ2 μ2) : fs_PW X 288 [some (.ref 1000), some (.ref 0), some (.ref 51), some (.int y3)] [] σ μ := by
  refine s_aload_n hX dL_law_288 rfl ?_
  refine s_aload_n hX dL_law_289 rfl ?_
  refine s_iload_n hX dL_law_290 rfl ?_
  refine s_ic hX (1 : Int32) dL_law_291 (by decide) ?_
  refine s_iadd hX dL_law_292 ?_
  refine s_sld hX hs dL_law_293 hb1 ?_
  refine s_aload_n hX dL_law_294 rfl ?_
  refine s_iload_n hX dL_law_295 rfl ?_
  refine s_ic hX (2 : Int32) dL_law_296 (by decide) ?_
  refine s_iadd hX dL_law_297 ?_
  refine s_sld hX hs dL_law_298 hb2 ?_
  refine s_cV hX [.int (xs (y3 + (1 : Int32)).toNatClampNeg), .int (xs (y3 + (2 : Int32)).toNatClampNeg)] dL_law_299 k_L_23 v_X3_at h1 ⟨_, rfl⟩ fs_c3 ⟨rfl, rfl⟩ ⟨(Nat.le_of_ble_eq_true rfl), (Nat.le_of_ble_eq_true rfl)⟩ rfl rfl (Nat.le_of_ble_eq_true rfl) ?_
  refine s_aload_n hX dL_law_302 rfl ?_
  refine s_aload_n hX dL_law_303 rfl ?_
  refine s_iload_n hX dL_law_304 rfl ?_
  refine s_ic hX (1 : Int32) dL_law_305 (by decide) ?_
  refine s_iadd hX dL_law_306 ?_
  refine s_sld hX hs dL_law_307 hb1 ?_
  refine s_aload_n hX dL_law_308 rfl ?_
  refine s_iload_n hX dL_law_309 rfl ?_
  refine s_ic hX (2 : Int32) dL_law_310 (by decide) ?_
  refine s_iadd hX dL_law_311 ?_
  refine s_sld hX hs dL_law_312 hb2 ?_
  refine s_cV hX [.int (xs (y3 + (1 : Int32)).toNatClampNeg), .int (xs (y3 + (2 : Int32)).toNatClampNeg)] dL_law_313 k_L_26 v_X4_at h2 ⟨_, rfl⟩ fs_c4 ⟨rfl, rfl⟩ ⟨(Nat.le_of_ble_eq_true rfl), (Nat.le_of_ble_eq_true rfl)⟩ rfl rfl (Nat.le_of_ble_eq_true rfl) ?_
  exact s_ic_eq hX 1368 dL_law_316 (by decide) (fun _ => k) (fun z => absurd rfl z)
set_option maxRecDepth 20000 in
set_option maxHeartbeats 40000000 in
theorem lc_tear {X : fsC} (hX : fs_ok cL_law RL 4 room_1 X) {b Ln : Nat} {xs : Nat → Int32} (hs : fs_scr b Ln xs X) {y3 : Int32} (hb1 : vp_in (y3 + (1 : Int32)) Ln) {σ σ1 σ2 : fsS} {μ μ1 μ2 : fsL} {r : Int32} (h1 : fs_Met yX3_tear cX3_tear 2 (some .int) { frames := 1, cells := 0, slots := 0, locals := 21 } [.ref 0, .int (xs (y3 + (1 : Int32)).toNatClampNeg)] σ μ (some (.int r)) σ1 μ1) (h2 : fs_Met yX4_tear cX4_tear 2 (some .int) { frames := 2, cells := 0, slots := 0, locals := 45 } [.ref 51, .int (xs (y3 + (1 : Int32)).toNatClampNeg)] σ1 μ1 (some (.int r)) σ2 μ2) (k : fs_PW X 1368 [some (.ref 1000), some (.ref 0), some (.ref 51), some (.int y3)] [] σ2 μ2) : fs_PW X 321 [some (.ref 1000), some (.ref 0), some (.ref 51), some (.int y3)] [] σ μ := by
  refine s_aload_n hX dL_law_321 rfl ?_
  refine s_aload_n hX dL_law_322 rfl ?_
  refine s_iload_n hX dL_law_323 rfl ?_
  refine s_ic hX (1 : Int32) dL_law_324 (by decide) ?_
  refine s_iadd hX dL_law_325 ?_
  refine s_sld hX hs dL_law_326 hb1 ?_
  refine s_cV hX [.int (xs (y3 + (1 : Int32)).toNatClampNeg)] dL_law_327 k_L_27 v_X3_tear h1 ⟨_, rfl⟩ fs_c3 ⟨rfl, rfl⟩ ⟨(Nat.le_of_ble_eq_true rfl), (Nat.le_of_ble_eq_true rfl)⟩ rfl rfl (Nat.le_of_ble_eq_true rfl) ?_
  refine s_aload_n hX dL_law_330 rfl ?_
  refine s_aload_n hX dL_law_331 rfl ?_
  refine s_iload_n hX dL_law_332 rfl ?_
  refine s_ic hX (1 : Int32) dL_law_333 (by decide) ?_
  refine s_iadd hX dL_law_334 ?_
  refine s_sld hX hs dL_law_335 hb1 ?_
  refine s_cV hX [.int (xs (y3 + (1 : Int32)).toNatClampNeg)] dL_law_336 k_L_31 v_X4_tear h2 ⟨_, rfl⟩ fs_c4 ⟨rfl, rfl⟩ ⟨(Nat.le_of_ble_eq_true rfl), (Nat.le_of_ble_eq_true rfl)⟩ rfl rfl (Nat.le_of_ble_eq_true rfl) ?_
  exact s_ic_eq hX 1368 dL_law_339 (by decide) (fun _ => k) (fun z => absurd rfl z)
set_option maxRecDepth 20000 in
set_option maxHeartbeats 40000000 in
theorem lc_copy {X : fsC} (hX : fs_ok cL_law RL 4 room_1 X) {b Ln : Nat} {xs : Nat → Int32} (hs : fs_scr b Ln xs X) {y3 : Int32} (hb1 : vp_in (y3 + (1 : Int32)) Ln) (hb2 : vp_in (y3 + (2 : Int32)) Ln) (hb3 : vp_in (y3 + (3 : Int32)) Ln) (hb4 : vp_in (y3 + (4 : Int32)) Ln) (hb5 : vp_in (y3 + (5 : Int32)) Ln) {σ σ1 σ2 : fsS} {μ μ1 μ2 : fsL} {r : Int32} (h1 : fs_Met yX3_copy cX3_copy 6 (some .int) { frames := 1, cells := 0, slots := 0, locals := 26 } [.ref 0, .int (xs (y3 + (1 : Int32)).toNatClampNeg), .int (xs (y3 + (2 : Int32)).toNatClampNeg), .int (xs (y3 + (3 : Int32)).toNatClampNeg), .int (xs (y3 + (4 : Int32)).toNatClampNeg), .int (xs (y3 + (5 : Int32)).toNatClampNeg)] σ μ (some (.int r)) σ1 μ1) (h2 : fs_Met yX4_copy cX4_copy 8 (some .int) { frames := 2, cells := 0, slots := 0, locals := 45 } [.ref 51, .int (xs (y3 + (1 : Int32)).toNatClampNeg), .int (xs (y3 + (2 : Int32)).toNatClampNeg), .int (xs (y3 + (3 : Int32)).toNatClampNeg), .int (xs (y3 + (4 : Int32)).toNatClampNeg), .int (xs (y3 + (5 : Int32)).toNatClampNeg)] σ1 μ1 (some (.int r)) σ2 μ2) (k : fs_PW X 1368 [some (.ref 1000), some (.ref 0), some (.ref 51), some (.int y3)] [] σ2 μ2) : fs_PW X 344 [some (.ref 1000), some (.ref 0), some (.ref 51), some (.int y3)] [] σ μ := by
  refine s_aload_n hX dL_law_344 rfl ?_
  refine s_aload_n hX dL_law_345 rfl ?_
  refine s_iload_n hX dL_law_346 rfl ?_
  refine s_ic hX (1 : Int32) dL_law_347 (by decide) ?_
  refine s_iadd hX dL_law_348 ?_
  refine s_sld hX hs dL_law_349 hb1 ?_
  refine s_aload_n hX dL_law_350 rfl ?_
  refine s_iload_n hX dL_law_351 rfl ?_
  refine s_ic hX (2 : Int32) dL_law_352 (by decide) ?_
  refine s_iadd hX dL_law_353 ?_
  refine s_sld hX hs dL_law_354 hb2 ?_
  refine s_aload_n hX dL_law_355 rfl ?_
  refine s_iload_n hX dL_law_356 rfl ?_
  refine s_ic hX (3 : Int32) dL_law_357 (by decide) ?_
  refine s_iadd hX dL_law_358 ?_
  refine s_sld hX hs dL_law_359 hb3 ?_
  refine s_aload_n hX dL_law_360 rfl ?_
  refine s_iload_n hX dL_law_361 rfl ?_
  refine s_ic hX (4 : Int32) dL_law_362 (by decide) ?_
  refine s_iadd hX dL_law_363 ?_
  refine s_sld hX hs dL_law_364 hb4 ?_
  refine s_aload_n hX dL_law_365 rfl ?_
  refine s_iload_n hX dL_law_366 rfl ?_
  refine s_ic hX (5 : Int32) dL_law_367 (by decide) ?_
  refine s_iadd hX dL_law_368 ?_
  refine s_sld hX hs dL_law_369 hb5 ?_
  refine s_cV hX [.int (xs (y3 + (1 : Int32)).toNatClampNeg), .int (xs (y3 + (2 : Int32)).toNatClampNeg), .int (xs (y3 + (3 : Int32)).toNatClampNeg), .int (xs (y3 + (4 : Int32)).toNatClampNeg), .int (xs (y3 + (5 : Int32)).toNatClampNeg)] dL_law_370 k_L_32 v_X3_copy h1 ⟨_, rfl⟩ fs_c3 ⟨rfl, rfl⟩ ⟨(Nat.le_of_ble_eq_true rfl), (Nat.le_of_ble_eq_true rfl)⟩ rfl rfl (Nat.le_of_ble_eq_true rfl) ?_
  refine s_aload_n hX dL_law_373 rfl ?_
  refine s_aload_n hX dL_law_374 rfl ?_
  refine s_iload_n hX dL_law_375 rfl ?_
  refine s_ic hX (1 : Int32) dL_law_376 (by decide) ?_
  refine s_iadd hX dL_law_377 ?_
  refine s_sld hX hs dL_law_378 hb1 ?_
  refine s_aload_n hX dL_law_379 rfl ?_
  refine s_iload_n hX dL_law_380 rfl ?_
  refine s_ic hX (2 : Int32) dL_law_381 (by decide) ?_
  refine s_iadd hX dL_law_382 ?_
  refine s_sld hX hs dL_law_383 hb2 ?_
  refine s_aload_n hX dL_law_384 rfl ?_
  refine s_iload_n hX dL_law_385 rfl ?_
  refine s_ic hX (3 : Int32) dL_law_386 (by decide) ?_
  refine s_iadd hX dL_law_387 ?_
  refine s_sld hX hs dL_law_388 hb3 ?_
  refine s_aload_n hX dL_law_389 rfl ?_
  refine s_iload_n hX dL_law_390 rfl ?_
  refine s_ic hX (4 : Int32) dL_law_391 (by decide) ?_
  refine s_iadd hX dL_law_392 ?_
  refine s_sld hX hs dL_law_393 hb4 ?_
  refine s_aload_n hX dL_law_394 rfl ?_
  refine s_iload_n hX dL_law_395 rfl ?_
  refine s_ic hX (5 : Int32) dL_law_396 (by decide) ?_
  refine s_iadd hX dL_law_397 ?_
  refine s_sld hX hs dL_law_398 hb5 ?_
  refine s_cV hX [.int (xs (y3 + (1 : Int32)).toNatClampNeg), .int (xs (y3 + (2 : Int32)).toNatClampNeg), .int (xs (y3 + (3 : Int32)).toNatClampNeg), .int (xs (y3 + (4 : Int32)).toNatClampNeg), .int (xs (y3 + (5 : Int32)).toNatClampNeg)] dL_law_399 k_L_36 v_X4_copy h2 ⟨_, rfl⟩ fs_c4 ⟨rfl, rfl⟩ ⟨(Nat.le_of_ble_eq_true rfl), (Nat.le_of_ble_eq_true rfl)⟩ rfl rfl (Nat.le_of_ble_eq_true rfl) ?_
  exact s_ic_eq hX 1368 dL_law_402 (by decide) (fun _ => k) (fun z => absurd rfl z)
set_option maxRecDepth 20000 in
set_option maxHeartbeats 40000000 in
theorem lc_mean {X : fsC} (hX : fs_ok cL_law RL 4 room_1 X) {b Ln : Nat} {xs : Nat → Int32} (hs : fs_scr b Ln xs X) {y3 : Int32} (hb1 : vp_in (y3 + (1 : Int32)) Ln) {σ σ1 σ2 : fsS} {μ μ1 μ2 : fsL} {r : Int32} (h1 : fs_Met yX3_mean cX3_mean 3 (some .int) { frames := 1, cells := 0, slots := 0, locals := 24 } [.ref 0, .int (xs (y3 + (1 : Int32)).toNatClampNeg)] σ μ (some (.int r)) σ1 μ1) (h2 : fs_Met yX4_mean cX4_mean 5 (some .int) { frames := 2, cells := 0, slots := 0, locals := 45 } [.ref 51, .int (xs (y3 + (1 : Int32)).toNatClampNeg)] σ1 μ1 (some (.int r)) σ2 μ2) (k : fs_PW X 1368 [some (.ref 1000), some (.ref 0), some (.ref 51), some (.int y3)] [] σ2 μ2) : fs_PW X 407 [some (.ref 1000), some (.ref 0), some (.ref 51), some (.int y3)] [] σ μ := by
  refine s_aload_n hX dL_law_407 rfl ?_
  refine s_aload_n hX dL_law_408 rfl ?_
  refine s_iload_n hX dL_law_409 rfl ?_
  refine s_ic hX (1 : Int32) dL_law_410 (by decide) ?_
  refine s_iadd hX dL_law_411 ?_
  refine s_sld hX hs dL_law_412 hb1 ?_
  refine s_cV hX [.int (xs (y3 + (1 : Int32)).toNatClampNeg)] dL_law_413 k_L_37 v_X3_mean h1 ⟨_, rfl⟩ fs_c3 ⟨rfl, rfl⟩ ⟨(Nat.le_of_ble_eq_true rfl), (Nat.le_of_ble_eq_true rfl)⟩ rfl rfl (Nat.le_of_ble_eq_true rfl) ?_
  refine s_aload_n hX dL_law_416 rfl ?_
  refine s_aload_n hX dL_law_417 rfl ?_
  refine s_iload_n hX dL_law_418 rfl ?_
  refine s_ic hX (1 : Int32) dL_law_419 (by decide) ?_
  refine s_iadd hX dL_law_420 ?_
  refine s_sld hX hs dL_law_421 hb1 ?_
  refine s_cV hX [.int (xs (y3 + (1 : Int32)).toNatClampNeg)] dL_law_422 k_L_40 v_X4_mean h2 ⟨_, rfl⟩ fs_c4 ⟨rfl, rfl⟩ ⟨(Nat.le_of_ble_eq_true rfl), (Nat.le_of_ble_eq_true rfl)⟩ rfl rfl (Nat.le_of_ble_eq_true rfl) ?_
  exact s_ic_eq hX 1368 dL_law_425 (by decide) (fun _ => k) (fun z => absurd rfl z)
set_option maxRecDepth 20000 in
set_option maxHeartbeats 40000000 in
theorem lc_text {X : fsC} (hX : fs_ok cL_law RL 4 room_1 X) {b Ln : Nat} {xs : Nat → Int32} (hs : fs_scr b Ln xs X) {y3 : Int32} (hb1 : vp_in (y3 + (1 : Int32)) Ln) (hb2 : vp_in (y3 + (2 : Int32)) Ln) {σ σ1 σ2 : fsS} {μ μ1 μ2 : fsL} {r : Int32} (h1 : fs_Met yX3_text cX3_text 3 (some .int) { frames := 1, cells := 0, slots := 0, locals := 23 } [.ref 0, .int (xs (y3 + (1 : Int32)).toNatClampNeg), .int (xs (y3 + (2 : Int32)).toNatClampNeg)] σ μ (some (.int r)) σ1 μ1) (h2 : fs_Met yX4_text cX4_text 4 (some .int) { frames := 2, cells := 0, slots := 0, locals := 45 } [.ref 51, .int (xs (y3 + (1 : Int32)).toNatClampNeg), .int (xs (y3 + (2 : Int32)).toNatClampNeg)] σ1 μ1 (some (.int r)) σ2 μ2) (k : fs_PW X 1368 [some (.ref 1000), some (.ref 0), some (.ref 51), some (.int y3)] [] σ2 μ2) : fs_PW X 430 [some (.ref 1000), some (.ref 0), some (.ref 51), some (.int y3)] [] σ μ := by
  refine s_aload_n hX dL_law_430 rfl ?_
  refine s_aload_n hX dL_law_431 rfl ?_
  refine s_iload_n hX dL_law_432 rfl ?_
  refine s_ic hX (1 : Int32) dL_law_433 (by decide) ?_
  refine s_iadd hX dL_law_434 ?_
  refine s_sld hX hs dL_law_435 hb1 ?_
  refine s_aload_n hX dL_law_436 rfl ?_
  refine s_iload_n hX dL_law_437 rfl ?_
  refine s_ic hX (2 : Int32) dL_law_438 (by decide) ?_
  refine s_iadd hX dL_law_439 ?_
  refine s_sld hX hs dL_law_440 hb2 ?_
  refine s_cV hX [.int (xs (y3 + (1 : Int32)).toNatClampNeg), .int (xs (y3 + (2 : Int32)).toNatClampNeg)] dL_law_441 k_L_41 v_X3_text h1 ⟨_, rfl⟩ fs_c3 ⟨rfl, rfl⟩ ⟨(Nat.le_of_ble_eq_true rfl), (Nat.le_of_ble_eq_true rfl)⟩ rfl rfl (Nat.le_of_ble_eq_true rfl) ?_
  refine s_aload_n hX dL_law_444 rfl ?_
  refine s_aload_n hX dL_law_445 rfl ?_
  refine s_iload_n hX dL_law_446 rfl ?_
  refine s_ic hX (1 : Int32) dL_law_447 (by decide) ?_
  refine s_iadd hX dL_law_448 ?_
  refine s_sld hX hs dL_law_449 hb1 ?_
  refine s_aload_n hX dL_law_450 rfl ?_
  refine s_iload_n hX dL_law_451 rfl ?_
  refine s_ic hX (2 : Int32) dL_law_452 (by decide) ?_
  refine s_iadd hX dL_law_453 ?_
  refine s_sld hX hs dL_law_454 hb2 ?_
  refine s_cV hX [.int (xs (y3 + (1 : Int32)).toNatClampNeg), .int (xs (y3 + (2 : Int32)).toNatClampNeg)] dL_law_455 k_L_44 v_X4_text h2 ⟨_, rfl⟩ fs_c4 ⟨rfl, rfl⟩ ⟨(Nat.le_of_ble_eq_true rfl), (Nat.le_of_ble_eq_true rfl)⟩ rfl rfl (Nat.le_of_ble_eq_true rfl) ?_
  exact s_ic_eq hX 1368 dL_law_458 (by decide) (fun _ => k) (fun z => absurd rfl z)
set_option maxRecDepth 20000 in
set_option maxHeartbeats 40000000 in
theorem lc_put {X : fsC} (hX : fs_ok cL_law RL 4 room_1 X) {b Ln : Nat} {xs : Nat → Int32} (hs : fs_scr b Ln xs X) {y3 : Int32} (hb1 : vp_in (y3 + (1 : Int32)) Ln) (hb2 : vp_in (y3 + (2 : Int32)) Ln) (hb3 : vp_in (y3 + (3 : Int32)) Ln) {σ σ1 σ2 : fsS} {μ μ1 μ2 : fsL} {r : Int32} (h1 : fs_Met yX3_put cX3_put 5 (some .int) { frames := 1, cells := 0, slots := 0, locals := 23 } [.ref 0, .int (xs (y3 + (1 : Int32)).toNatClampNeg), .int (xs (y3 + (2 : Int32)).toNatClampNeg), .int (xs (y3 + (3 : Int32)).toNatClampNeg)] σ μ (some (.int r)) σ1 μ1) (h2 : fs_Met yX4_put cX4_put 5 (some .int) { frames := 2, cells := 0, slots := 0, locals := 45 } [.ref 51, .int (xs (y3 + (1 : Int32)).toNatClampNeg), .int (xs (y3 + (2 : Int32)).toNatClampNeg), .int (xs (y3 + (3 : Int32)).toNatClampNeg)] σ1 μ1 (some (.int r)) σ2 μ2) (k : fs_PW X 1368 [some (.ref 1000), some (.ref 0), some (.ref 51), some (.int y3)] [] σ2 μ2) : fs_PW X 463 [some (.ref 1000), some (.ref 0), some (.ref 51), some (.int y3)] [] σ μ := by
  refine s_aload_n hX dL_law_463 rfl ?_
  refine s_aload_n hX dL_law_464 rfl ?_
  refine s_iload_n hX dL_law_465 rfl ?_
  refine s_ic hX (1 : Int32) dL_law_466 (by decide) ?_
  refine s_iadd hX dL_law_467 ?_
  refine s_sld hX hs dL_law_468 hb1 ?_
  refine s_aload_n hX dL_law_469 rfl ?_
  refine s_iload_n hX dL_law_470 rfl ?_
  refine s_ic hX (2 : Int32) dL_law_471 (by decide) ?_
  refine s_iadd hX dL_law_472 ?_
  refine s_sld hX hs dL_law_473 hb2 ?_
  refine s_aload_n hX dL_law_474 rfl ?_
  refine s_iload_n hX dL_law_475 rfl ?_
  refine s_ic hX (3 : Int32) dL_law_476 (by decide) ?_
  refine s_iadd hX dL_law_477 ?_
  refine s_sld hX hs dL_law_478 hb3 ?_
  refine s_cV hX [.int (xs (y3 + (1 : Int32)).toNatClampNeg), .int (xs (y3 + (2 : Int32)).toNatClampNeg), .int (xs (y3 + (3 : Int32)).toNatClampNeg)] dL_law_479 k_L_45 v_X3_put h1 ⟨_, rfl⟩ fs_c3 ⟨rfl, rfl⟩ ⟨(Nat.le_of_ble_eq_true rfl), (Nat.le_of_ble_eq_true rfl)⟩ rfl rfl (Nat.le_of_ble_eq_true rfl) ?_
  refine s_aload_n hX dL_law_482 rfl ?_
  refine s_aload_n hX dL_law_483 rfl ?_
  refine s_iload_n hX dL_law_484 rfl ?_
  refine s_ic hX (1 : Int32) dL_law_485 (by decide) ?_
  refine s_iadd hX dL_law_486 ?_
  refine s_sld hX hs dL_law_487 hb1 ?_
  refine s_aload_n hX dL_law_488 rfl ?_
  refine s_iload_n hX dL_law_489 rfl ?_
  refine s_ic hX (2 : Int32) dL_law_490 (by decide) ?_
  refine s_iadd hX dL_law_491 ?_
  refine s_sld hX hs dL_law_492 hb2 ?_
  refine s_aload_n hX dL_law_493 rfl ?_
  refine s_iload_n hX dL_law_494 rfl ?_
  refine s_ic hX (3 : Int32) dL_law_495 (by decide) ?_
  refine s_iadd hX dL_law_496 ?_
  refine s_sld hX hs dL_law_497 hb3 ?_
  refine s_cV hX [.int (xs (y3 + (1 : Int32)).toNatClampNeg), .int (xs (y3 + (2 : Int32)).toNatClampNeg), .int (xs (y3 + (3 : Int32)).toNatClampNeg)] dL_law_498 k_L_48 v_X4_put h2 ⟨_, rfl⟩ fs_c4 ⟨rfl, rfl⟩ ⟨(Nat.le_of_ble_eq_true rfl), (Nat.le_of_ble_eq_true rfl)⟩ rfl rfl (Nat.le_of_ble_eq_true rfl) ?_
  exact s_ic_eq hX 1368 dL_law_501 (by decide) (fun _ => k) (fun z => absurd rfl z)
set_option maxRecDepth 20000 in
set_option maxHeartbeats 40000000 in
theorem lc_fault {X : fsC} (hX : fs_ok cL_law RL 4 room_1 X) {b Ln : Nat} {xs : Nat → Int32} (hs : fs_scr b Ln xs X) {y3 : Int32} (hb1 : vp_in (y3 + (1 : Int32)) Ln) {σ σ1 σ2 : fsS} {μ μ1 μ2 : fsL} {r : Int32} (h1 : fs_Met yX3_fault cX3_fault 2 (some .int) { frames := 3, cells := 0, slots := 0, locals := 69 } [.ref 0, .int (xs (y3 + (1 : Int32)).toNatClampNeg)] σ μ (some (.int r)) σ1 μ1) (h2 : fs_Met yX4_fault cX4_fault 2 (some .int) { frames := 4, cells := 0, slots := 0, locals := 89 } [.ref 51, .int (xs (y3 + (1 : Int32)).toNatClampNeg)] σ1 μ1 (some (.int r)) σ2 μ2) (k : fs_PW X 1368 [some (.ref 1000), some (.ref 0), some (.ref 51), some (.int y3)] [] σ2 μ2) : fs_PW X 506 [some (.ref 1000), some (.ref 0), some (.ref 51), some (.int y3)] [] σ μ := by
  refine s_aload_n hX dL_law_506 rfl ?_
  refine s_aload_n hX dL_law_507 rfl ?_
  refine s_iload_n hX dL_law_508 rfl ?_
  refine s_ic hX (1 : Int32) dL_law_509 (by decide) ?_
  refine s_iadd hX dL_law_510 ?_
  refine s_sld hX hs dL_law_511 hb1 ?_
  refine s_cV hX [.int (xs (y3 + (1 : Int32)).toNatClampNeg)] dL_law_512 k_L_49 v_X3_fault h1 ⟨_, rfl⟩ fs_c3 ⟨rfl, rfl⟩ ⟨(Nat.le_of_ble_eq_true rfl), (Nat.le_of_ble_eq_true rfl)⟩ rfl rfl (Nat.le_of_ble_eq_true rfl) ?_
  refine s_aload_n hX dL_law_515 rfl ?_
  refine s_aload_n hX dL_law_516 rfl ?_
  refine s_iload_n hX dL_law_517 rfl ?_
  refine s_ic hX (1 : Int32) dL_law_518 (by decide) ?_
  refine s_iadd hX dL_law_519 ?_
  refine s_sld hX hs dL_law_520 hb1 ?_
  refine s_cV hX [.int (xs (y3 + (1 : Int32)).toNatClampNeg)] dL_law_521 k_L_52 v_X4_fault h2 ⟨_, rfl⟩ fs_c4 ⟨rfl, rfl⟩ ⟨(Nat.le_of_ble_eq_true rfl), (Nat.le_of_ble_eq_true rfl)⟩ rfl rfl (Nat.le_of_ble_eq_true rfl) ?_
  exact s_ic_eq hX 1368 dL_law_524 (by decide) (fun _ => k) (fun z => absurd rfl z)
set_option maxRecDepth 20000 in
set_option maxHeartbeats 40000000 in
theorem lc_house {X : fsC} (hX : fs_ok cL_law RL 4 room_1 X) {b Ln : Nat} {xs : Nat → Int32} (hs : fs_scr b Ln xs X) {y3 : Int32} (hb1 : vp_in (y3 + (1 : Int32)) Ln) {σ σ1 σ2 : fsS} {μ μ1 μ2 : fsL} {r : Int32} (h1 : fs_Met yX3_house cX3_house 2 (some .int) { frames := 6, cells := 0, slots := 0, locals := 137 } [.ref 0, .int (xs (y3 + (1 : Int32)).toNatClampNeg)] σ μ (some (.int r)) σ1 μ1) (h2 : fs_Met yX4_house cX4_house 3 (some .int) { frames := 4, cells := 0, slots := 0, locals := 89 } [.ref 51, .int (xs (y3 + (1 : Int32)).toNatClampNeg)] σ1 μ1 (some (.int r)) σ2 μ2) (k : fs_PW X 1368 [some (.ref 1000), some (.ref 0), some (.ref 51), some (.int y3)] [] σ2 μ2) : fs_PW X 529 [some (.ref 1000), some (.ref 0), some (.ref 51), some (.int y3)] [] σ μ := by
  refine s_aload_n hX dL_law_529 rfl ?_
  refine s_aload_n hX dL_law_530 rfl ?_
  refine s_iload_n hX dL_law_531 rfl ?_
  refine s_ic hX (1 : Int32) dL_law_532 (by decide) ?_
  refine s_iadd hX dL_law_533 ?_
  refine s_sld hX hs dL_law_534 hb1 ?_
  refine s_cV hX [.int (xs (y3 + (1 : Int32)).toNatClampNeg)] dL_law_535 k_L_53 v_X3_house h1 ⟨_, rfl⟩ fs_c3 ⟨rfl, rfl⟩ ⟨(Nat.le_of_ble_eq_true rfl), (Nat.le_of_ble_eq_true rfl)⟩ rfl rfl (Nat.le_of_ble_eq_true rfl) ?_
  refine s_aload_n hX dL_law_538 rfl ?_
  refine s_aload_n hX dL_law_539 rfl ?_
  refine s_iload_n hX dL_law_540 rfl ?_
  refine s_ic hX (1 : Int32) dL_law_541 (by decide) ?_
  refine s_iadd hX dL_law_542 ?_
  refine s_sld hX hs dL_law_543 hb1 ?_
  refine s_cV hX [.int (xs (y3 + (1 : Int32)).toNatClampNeg)] dL_law_544 k_L_56 v_X4_house h2 ⟨_, rfl⟩ fs_c4 ⟨rfl, rfl⟩ ⟨(Nat.le_of_ble_eq_true rfl), (Nat.le_of_ble_eq_true rfl)⟩ rfl rfl (Nat.le_of_ble_eq_true rfl) ?_
  exact s_ic_eq hX 1368 dL_law_547 (by decide) (fun _ => k) (fun z => absurd rfl z)
set_option maxRecDepth 20000 in
set_option maxHeartbeats 40000000 in
theorem lc_one {X : fsC} (hX : fs_ok cL_law RL 4 room_1 X) {b Ln : Nat} {xs : Nat → Int32} (hs : fs_scr b Ln xs X) {y3 : Int32} (hb1 : vp_in (y3 + (1 : Int32)) Ln) (hb2 : vp_in (y3 + (2 : Int32)) Ln) {σ σ1 σ2 : fsS} {μ μ1 μ2 : fsL} {r : Int32} (h1 : fs_Met yX3_one cX3_one 3 (some .int) { frames := 3, cells := 0, slots := 0, locals := 70 } [.ref 0, .int (xs (y3 + (1 : Int32)).toNatClampNeg), .int (xs (y3 + (2 : Int32)).toNatClampNeg)] σ μ (some (.int r)) σ1 μ1) (h2 : fs_Met yX4_one cX4_one 3 (some .int) { frames := 4, cells := 0, slots := 0, locals := 92 } [.ref 51, .int (xs (y3 + (1 : Int32)).toNatClampNeg), .int (xs (y3 + (2 : Int32)).toNatClampNeg)] σ1 μ1 (some (.int r)) σ2 μ2) (k : fs_PW X 1368 [some (.ref 1000), some (.ref 0), some (.ref 51), some (.int y3)] [] σ2 μ2) : fs_PW X 552 [some (.ref 1000), some (.ref 0), some (.ref 51), some (.int y3)] [] σ μ := by
  refine s_aload_n hX dL_law_552 rfl ?_
  refine s_aload_n hX dL_law_553 rfl ?_
  refine s_iload_n hX dL_law_554 rfl ?_
  refine s_ic hX (1 : Int32) dL_law_555 (by decide) ?_
  refine s_iadd hX dL_law_556 ?_
  refine s_sld hX hs dL_law_557 hb1 ?_
  refine s_aload_n hX dL_law_558 rfl ?_
  refine s_iload_n hX dL_law_559 rfl ?_
  refine s_ic hX (2 : Int32) dL_law_560 (by decide) ?_
  refine s_iadd hX dL_law_561 ?_
  refine s_sld hX hs dL_law_562 hb2 ?_
  refine s_cV hX [.int (xs (y3 + (1 : Int32)).toNatClampNeg), .int (xs (y3 + (2 : Int32)).toNatClampNeg)] dL_law_563 k_L_57 v_X3_one h1 ⟨_, rfl⟩ fs_c3 ⟨rfl, rfl⟩ ⟨(Nat.le_of_ble_eq_true rfl), (Nat.le_of_ble_eq_true rfl)⟩ rfl rfl (Nat.le_of_ble_eq_true rfl) ?_
  refine s_aload_n hX dL_law_566 rfl ?_
  refine s_aload_n hX dL_law_567 rfl ?_
  refine s_iload_n hX dL_law_568 rfl ?_
  refine s_ic hX (1 : Int32) dL_law_569 (by decide) ?_
  refine s_iadd hX dL_law_570 ?_
  refine s_sld hX hs dL_law_571 hb1 ?_
  refine s_aload_n hX dL_law_572 rfl ?_
  refine s_iload_n hX dL_law_573 rfl ?_
  refine s_ic hX (2 : Int32) dL_law_574 (by decide) ?_
  refine s_iadd hX dL_law_575 ?_
  refine s_sld hX hs dL_law_576 hb2 ?_
  refine s_cV hX [.int (xs (y3 + (1 : Int32)).toNatClampNeg), .int (xs (y3 + (2 : Int32)).toNatClampNeg)] dL_law_577 k_L_60 v_X4_one h2 ⟨_, rfl⟩ fs_c4 ⟨rfl, rfl⟩ ⟨(Nat.le_of_ble_eq_true rfl), (Nat.le_of_ble_eq_true rfl)⟩ rfl rfl (Nat.le_of_ble_eq_true rfl) ?_
  exact s_ic_eq hX 1368 dL_law_580 (by decide) (fun _ => k) (fun z => absurd rfl z)
set_option maxRecDepth 20000 in
set_option maxHeartbeats 40000000 in
theorem lc_mark {X : fsC} (hX : fs_ok cL_law RL 4 room_1 X) {b Ln : Nat} {xs : Nat → Int32} (hs : fs_scr b Ln xs X) {y3 : Int32} (hb1 : vp_in (y3 + (1 : Int32)) Ln) (hb2 : vp_in (y3 + (2 : Int32)) Ln) {σ σ1 σ2 : fsS} {μ μ1 μ2 : fsL} {r : Int32} (h1 : fs_Met yX3_mark cX3_mark 4 (some .int) { frames := 2, cells := 0, slots := 0, locals := 48 } [.ref 0, .int (xs (y3 + (1 : Int32)).toNatClampNeg), .int (xs (y3 + (2 : Int32)).toNatClampNeg)] σ μ (some (.int r)) σ1 μ1) (h2 : fs_Met yX4_mark cX4_mark 5 (some .int) { frames := 3, cells := 0, slots := 0, locals := 69 } [.ref 51, .int (xs (y3 + (1 : Int32)).toNatClampNeg), .int (xs (y3 + (2 : Int32)).toNatClampNeg)] σ1 μ1 (some (.int r)) σ2 μ2) (k : fs_PW X 1368 [some (.ref 1000), some (.ref 0), some (.ref 51), some (.int y3)] [] σ2 μ2) : fs_PW X 585 [some (.ref 1000), some (.ref 0), some (.ref 51), some (.int y3)] [] σ μ := by
  refine s_aload_n hX dL_law_585 rfl ?_
  refine s_aload_n hX dL_law_586 rfl ?_
  refine s_iload_n hX dL_law_587 rfl ?_
  refine s_ic hX (1 : Int32) dL_law_588 (by decide) ?_
  refine s_iadd hX dL_law_589 ?_
  refine s_sld hX hs dL_law_590 hb1 ?_
  refine s_aload_n hX dL_law_591 rfl ?_
  refine s_iload_n hX dL_law_592 rfl ?_
  refine s_ic hX (2 : Int32) dL_law_593 (by decide) ?_
  refine s_iadd hX dL_law_594 ?_
  refine s_sld hX hs dL_law_595 hb2 ?_
  refine s_cV hX [.int (xs (y3 + (1 : Int32)).toNatClampNeg), .int (xs (y3 + (2 : Int32)).toNatClampNeg)] dL_law_596 k_L_61 v_X3_mark h1 ⟨_, rfl⟩ fs_c3 ⟨rfl, rfl⟩ ⟨(Nat.le_of_ble_eq_true rfl), (Nat.le_of_ble_eq_true rfl)⟩ rfl rfl (Nat.le_of_ble_eq_true rfl) ?_
  refine s_aload_n hX dL_law_599 rfl ?_
  refine s_aload_n hX dL_law_600 rfl ?_
  refine s_iload_n hX dL_law_601 rfl ?_
  refine s_ic hX (1 : Int32) dL_law_602 (by decide) ?_
  refine s_iadd hX dL_law_603 ?_
  refine s_sld hX hs dL_law_604 hb1 ?_
  refine s_aload_n hX dL_law_605 rfl ?_
  refine s_iload_n hX dL_law_606 rfl ?_
  refine s_ic hX (2 : Int32) dL_law_607 (by decide) ?_
  refine s_iadd hX dL_law_608 ?_
  refine s_sld hX hs dL_law_609 hb2 ?_
  refine s_cV hX [.int (xs (y3 + (1 : Int32)).toNatClampNeg), .int (xs (y3 + (2 : Int32)).toNatClampNeg)] dL_law_610 k_L_64 v_X4_mark h2 ⟨_, rfl⟩ fs_c4 ⟨rfl, rfl⟩ ⟨(Nat.le_of_ble_eq_true rfl), (Nat.le_of_ble_eq_true rfl)⟩ rfl rfl (Nat.le_of_ble_eq_true rfl) ?_
  exact s_ic_eq hX 1368 dL_law_613 (by decide) (fun _ => k) (fun z => absurd rfl z)
set_option maxRecDepth 20000 in
set_option maxHeartbeats 40000000 in
theorem lc_regard {X : fsC} (hX : fs_ok cL_law RL 4 room_1 X) {b Ln : Nat} {xs : Nat → Int32} (hs : fs_scr b Ln xs X) {y3 : Int32} (hb1 : vp_in (y3 + (1 : Int32)) Ln) (hb2 : vp_in (y3 + (2 : Int32)) Ln) (hb3 : vp_in (y3 + (3 : Int32)) Ln) {σ σ1 σ2 : fsS} {μ μ1 μ2 : fsL} {r : Int32} (h1 : fs_Met yX3_regard cX3_regard 4 (some .int) { frames := 1, cells := 0, slots := 0, locals := 26 } [.ref 0, .int (xs (y3 + (1 : Int32)).toNatClampNeg), .int (xs (y3 + (2 : Int32)).toNatClampNeg), .int (xs (y3 + (3 : Int32)).toNatClampNeg)] σ μ (some (.int r)) σ1 μ1) (h2 : fs_Met yX4_regard cX4_regard 4 (some .int) { frames := 2, cells := 0, slots := 0, locals := 47 } [.ref 51, .int (xs (y3 + (1 : Int32)).toNatClampNeg), .int (xs (y3 + (2 : Int32)).toNatClampNeg), .int (xs (y3 + (3 : Int32)).toNatClampNeg)] σ1 μ1 (some (.int r)) σ2 μ2) (k : fs_PW X 1368 [some (.ref 1000), some (.ref 0), some (.ref 51), some (.int y3)] [] σ2 μ2) : fs_PW X 618 [some (.ref 1000), some (.ref 0), some (.ref 51), some (.int y3)] [] σ μ := by
  refine s_aload_n hX dL_law_618 rfl ?_
  refine s_aload_n hX dL_law_619 rfl ?_
  refine s_iload_n hX dL_law_620 rfl ?_
  refine s_ic hX (1 : Int32) dL_law_621 (by decide) ?_
  refine s_iadd hX dL_law_622 ?_
  refine s_sld hX hs dL_law_623 hb1 ?_
  refine s_aload_n hX dL_law_624 rfl ?_
  refine s_iload_n hX dL_law_625 rfl ?_
  refine s_ic hX (2 : Int32) dL_law_626 (by decide) ?_
  refine s_iadd hX dL_law_627 ?_
  refine s_sld hX hs dL_law_628 hb2 ?_
  refine s_aload_n hX dL_law_629 rfl ?_
  refine s_iload_n hX dL_law_630 rfl ?_
  refine s_ic hX (3 : Int32) dL_law_631 (by decide) ?_
  refine s_iadd hX dL_law_632 ?_
  refine s_sld hX hs dL_law_633 hb3 ?_
  refine s_cV hX [.int (xs (y3 + (1 : Int32)).toNatClampNeg), .int (xs (y3 + (2 : Int32)).toNatClampNeg), .int (xs (y3 + (3 : Int32)).toNatClampNeg)] dL_law_634 k_L_65 v_X3_regard h1 ⟨_, rfl⟩ fs_c3 ⟨rfl, rfl⟩ ⟨(Nat.le_of_ble_eq_true rfl), (Nat.le_of_ble_eq_true rfl)⟩ rfl rfl (Nat.le_of_ble_eq_true rfl) ?_
  refine s_aload_n hX dL_law_637 rfl ?_
  refine s_aload_n hX dL_law_638 rfl ?_
  refine s_iload_n hX dL_law_639 rfl ?_
  refine s_ic hX (1 : Int32) dL_law_640 (by decide) ?_
  refine s_iadd hX dL_law_641 ?_
  refine s_sld hX hs dL_law_642 hb1 ?_
  refine s_aload_n hX dL_law_643 rfl ?_
  refine s_iload_n hX dL_law_644 rfl ?_
  refine s_ic hX (2 : Int32) dL_law_645 (by decide) ?_
  refine s_iadd hX dL_law_646 ?_
  refine s_sld hX hs dL_law_647 hb2 ?_
  refine s_aload_n hX dL_law_648 rfl ?_
  refine s_iload_n hX dL_law_649 rfl ?_
  refine s_ic hX (3 : Int32) dL_law_650 (by decide) ?_
  refine s_iadd hX dL_law_651 ?_
  refine s_sld hX hs dL_law_652 hb3 ?_
  refine s_cV hX [.int (xs (y3 + (1 : Int32)).toNatClampNeg), .int (xs (y3 + (2 : Int32)).toNatClampNeg), .int (xs (y3 + (3 : Int32)).toNatClampNeg)] dL_law_653 k_L_68 v_X4_regard h2 ⟨_, rfl⟩ fs_c4 ⟨rfl, rfl⟩ ⟨(Nat.le_of_ble_eq_true rfl), (Nat.le_of_ble_eq_true rfl)⟩ rfl rfl (Nat.le_of_ble_eq_true rfl) ?_
  exact s_ic_eq hX 1368 dL_law_656 (by decide) (fun _ => k) (fun z => absurd rfl z)
set_option maxRecDepth 20000 in
set_option maxHeartbeats 40000000 in
theorem lc_quarter {X : fsC} (hX : fs_ok cL_law RL 4 room_1 X) {b Ln : Nat} {xs : Nat → Int32} (hs : fs_scr b Ln xs X) {y3 : Int32}  {σ σ1 σ2 : fsS} {μ μ1 μ2 : fsL} {r : Int32} (h1 : fs_Met yX3_quarter cX3_quarter 1 (some .int) { frames := 5, cells := 0, slots := 0, locals := 115 } [.ref 0] σ μ (some (.int r)) σ1 μ1) (h2 : fs_Met yX4_quarter cX4_quarter 1 (some .int) { frames := 4, cells := 0, slots := 0, locals := 93 } [.ref 51] σ1 μ1 (some (.int r)) σ2 μ2) (k : fs_PW X 1368 [some (.ref 1000), some (.ref 0), some (.ref 51), some (.int y3)] [] σ2 μ2) : fs_PW X 661 [some (.ref 1000), some (.ref 0), some (.ref 51), some (.int y3)] [] σ μ := by
  refine s_aload_n hX dL_law_661 rfl ?_
  refine s_cV hX [] dL_law_662 k_L_69 v_X3_quarter h1 ⟨_, rfl⟩ fs_c3 ⟨rfl, rfl⟩ ⟨(Nat.le_of_ble_eq_true rfl), (Nat.le_of_ble_eq_true rfl)⟩ rfl rfl (Nat.le_of_ble_eq_true rfl) ?_
  refine s_aload_n hX dL_law_665 rfl ?_
  refine s_cV hX [] dL_law_666 k_L_73 v_X4_quarter h2 ⟨_, rfl⟩ fs_c4 ⟨rfl, rfl⟩ ⟨(Nat.le_of_ble_eq_true rfl), (Nat.le_of_ble_eq_true rfl)⟩ rfl rfl (Nat.le_of_ble_eq_true rfl) ?_
  exact s_ic_eq hX 1368 dL_law_669 (by decide) (fun _ => k) (fun z => absurd rfl z)
set_option maxRecDepth 20000 in
set_option maxHeartbeats 40000000 in
theorem lc_soot {X : fsC} (hX : fs_ok cL_law RL 4 room_1 X) {b Ln : Nat} {xs : Nat → Int32} (hs : fs_scr b Ln xs X) {y3 : Int32} (hb1 : vp_in (y3 + (1 : Int32)) Ln) {σ σ1 σ2 : fsS} {μ μ1 μ2 : fsL} {r : Int32} (h1 : fs_Met yX3_soot cX3_soot 2 (some .int) { frames := 5, cells := 0, slots := 0, locals := 115 } [.ref 0, .int (xs (y3 + (1 : Int32)).toNatClampNeg)] σ μ (some (.int r)) σ1 μ1) (h2 : fs_Met yX4_soot cX4_soot 2 (some .int) { frames := 2, cells := 0, slots := 0, locals := 46 } [.ref 51, .int (xs (y3 + (1 : Int32)).toNatClampNeg)] σ1 μ1 (some (.int r)) σ2 μ2) (k : fs_PW X 1368 [some (.ref 1000), some (.ref 0), some (.ref 51), some (.int y3)] [] σ2 μ2) : fs_PW X 674 [some (.ref 1000), some (.ref 0), some (.ref 51), some (.int y3)] [] σ μ := by
  refine s_aload_n hX dL_law_674 rfl ?_
  refine s_aload_n hX dL_law_675 rfl ?_
  refine s_iload_n hX dL_law_676 rfl ?_
  refine s_ic hX (1 : Int32) dL_law_677 (by decide) ?_
  refine s_iadd hX dL_law_678 ?_
  refine s_sld hX hs dL_law_679 hb1 ?_
  refine s_cV hX [.int (xs (y3 + (1 : Int32)).toNatClampNeg)] dL_law_680 k_L_74 v_X3_soot h1 ⟨_, rfl⟩ fs_c3 ⟨rfl, rfl⟩ ⟨(Nat.le_of_ble_eq_true rfl), (Nat.le_of_ble_eq_true rfl)⟩ rfl rfl (Nat.le_of_ble_eq_true rfl) ?_
  refine s_aload_n hX dL_law_683 rfl ?_
  refine s_aload_n hX dL_law_684 rfl ?_
  refine s_iload_n hX dL_law_685 rfl ?_
  refine s_ic hX (1 : Int32) dL_law_686 (by decide) ?_
  refine s_iadd hX dL_law_687 ?_
  refine s_sld hX hs dL_law_688 hb1 ?_
  refine s_cV hX [.int (xs (y3 + (1 : Int32)).toNatClampNeg)] dL_law_689 k_L_77 v_X4_soot h2 ⟨_, rfl⟩ fs_c4 ⟨rfl, rfl⟩ ⟨(Nat.le_of_ble_eq_true rfl), (Nat.le_of_ble_eq_true rfl)⟩ rfl rfl (Nat.le_of_ble_eq_true rfl) ?_
  exact s_ic_eq hX 1368 dL_law_692 (by decide) (fun _ => k) (fun z => absurd rfl z)
set_option maxRecDepth 20000 in
set_option maxHeartbeats 40000000 in
theorem lc_wash {X : fsC} (hX : fs_ok cL_law RL 4 room_1 X) {b Ln : Nat} {xs : Nat → Int32} (hs : fs_scr b Ln xs X) {y3 : Int32} (hb1 : vp_in (y3 + (1 : Int32)) Ln) {σ σ1 σ2 : fsS} {μ μ1 μ2 : fsL} {r : Int32} (h1 : fs_Met yX3_wash cX3_wash 3 (some .int) { frames := 5, cells := 0, slots := 0, locals := 115 } [.ref 0, .int (xs (y3 + (1 : Int32)).toNatClampNeg)] σ μ (some (.int r)) σ1 μ1) (h2 : fs_Met yX4_wash cX4_wash 3 (some .int) { frames := 2, cells := 0, slots := 0, locals := 46 } [.ref 51, .int (xs (y3 + (1 : Int32)).toNatClampNeg)] σ1 μ1 (some (.int r)) σ2 μ2) (k : fs_PW X 1368 [some (.ref 1000), some (.ref 0), some (.ref 51), some (.int y3)] [] σ2 μ2) : fs_PW X 697 [some (.ref 1000), some (.ref 0), some (.ref 51), some (.int y3)] [] σ μ := by
  refine s_aload_n hX dL_law_697 rfl ?_
  refine s_aload_n hX dL_law_698 rfl ?_
  refine s_iload_n hX dL_law_699 rfl ?_
  refine s_ic hX (1 : Int32) dL_law_700 (by decide) ?_
  refine s_iadd hX dL_law_701 ?_
  refine s_sld hX hs dL_law_702 hb1 ?_
  refine s_cV hX [.int (xs (y3 + (1 : Int32)).toNatClampNeg)] dL_law_703 k_L_78 v_X3_wash h1 ⟨_, rfl⟩ fs_c3 ⟨rfl, rfl⟩ ⟨(Nat.le_of_ble_eq_true rfl), (Nat.le_of_ble_eq_true rfl)⟩ rfl rfl (Nat.le_of_ble_eq_true rfl) ?_
  refine s_aload_n hX dL_law_706 rfl ?_
  refine s_aload_n hX dL_law_707 rfl ?_
  refine s_iload_n hX dL_law_708 rfl ?_
  refine s_ic hX (1 : Int32) dL_law_709 (by decide) ?_
  refine s_iadd hX dL_law_710 ?_
  refine s_sld hX hs dL_law_711 hb1 ?_
  refine s_cV hX [.int (xs (y3 + (1 : Int32)).toNatClampNeg)] dL_law_712 k_L_81 v_X4_wash h2 ⟨_, rfl⟩ fs_c4 ⟨rfl, rfl⟩ ⟨(Nat.le_of_ble_eq_true rfl), (Nat.le_of_ble_eq_true rfl)⟩ rfl rfl (Nat.le_of_ble_eq_true rfl) ?_
  exact s_ic_eq hX 1368 dL_law_715 (by decide) (fun _ => k) (fun z => absurd rfl z)
set_option maxRecDepth 20000 in
set_option maxHeartbeats 40000000 in
theorem lc_gift {X : fsC} (hX : fs_ok cL_law RL 4 room_1 X) {b Ln : Nat} {xs : Nat → Int32} (hs : fs_scr b Ln xs X) {y3 : Int32} (hb1 : vp_in (y3 + (1 : Int32)) Ln) (hb2 : vp_in (y3 + (2 : Int32)) Ln) (hb3 : vp_in (y3 + (3 : Int32)) Ln) {σ σ1 σ2 : fsS} {μ μ1 μ2 : fsL} {r : Int32} (h1 : fs_Met yX3_gift cX3_gift 4 (some .int) { frames := 5, cells := 0, slots := 0, locals := 115 } [.ref 0, .int (xs (y3 + (1 : Int32)).toNatClampNeg), .int (xs (y3 + (2 : Int32)).toNatClampNeg), .int (xs (y3 + (3 : Int32)).toNatClampNeg)] σ μ (some (.int r)) σ1 μ1) (h2 : fs_Met yX4_gift cX4_gift 4 (some .int) { frames := 2, cells := 0, slots := 0, locals := 46 } [.ref 51, .int (xs (y3 + (1 : Int32)).toNatClampNeg), .int (xs (y3 + (2 : Int32)).toNatClampNeg), .int (xs (y3 + (3 : Int32)).toNatClampNeg)] σ1 μ1 (some (.int r)) σ2 μ2) (k : fs_PW X 1368 [some (.ref 1000), some (.ref 0), some (.ref 51), some (.int y3)] [] σ2 μ2) : fs_PW X 720 [some (.ref 1000), some (.ref 0), some (.ref 51), some (.int y3)] [] σ μ := by
  refine s_aload_n hX dL_law_720 rfl ?_
  refine s_aload_n hX dL_law_721 rfl ?_
  refine s_iload_n hX dL_law_722 rfl ?_
  refine s_ic hX (1 : Int32) dL_law_723 (by decide) ?_
  refine s_iadd hX dL_law_724 ?_
  refine s_sld hX hs dL_law_725 hb1 ?_
  refine s_aload_n hX dL_law_726 rfl ?_
  refine s_iload_n hX dL_law_727 rfl ?_
  refine s_ic hX (2 : Int32) dL_law_728 (by decide) ?_
  refine s_iadd hX dL_law_729 ?_
  refine s_sld hX hs dL_law_730 hb2 ?_
  refine s_aload_n hX dL_law_731 rfl ?_
  refine s_iload_n hX dL_law_732 rfl ?_
  refine s_ic hX (3 : Int32) dL_law_733 (by decide) ?_
  refine s_iadd hX dL_law_734 ?_
  refine s_sld hX hs dL_law_735 hb3 ?_
  refine s_cV hX [.int (xs (y3 + (1 : Int32)).toNatClampNeg), .int (xs (y3 + (2 : Int32)).toNatClampNeg), .int (xs (y3 + (3 : Int32)).toNatClampNeg)] dL_law_736 k_L_82 v_X3_gift h1 ⟨_, rfl⟩ fs_c3 ⟨rfl, rfl⟩ ⟨(Nat.le_of_ble_eq_true rfl), (Nat.le_of_ble_eq_true rfl)⟩ rfl rfl (Nat.le_of_ble_eq_true rfl) ?_
  refine s_aload_n hX dL_law_739 rfl ?_
  refine s_aload_n hX dL_law_740 rfl ?_
  refine s_iload_n hX dL_law_741 rfl ?_
  refine s_ic hX (1 : Int32) dL_law_742 (by decide) ?_
  refine s_iadd hX dL_law_743 ?_
  refine s_sld hX hs dL_law_744 hb1 ?_
  refine s_aload_n hX dL_law_745 rfl ?_
  refine s_iload_n hX dL_law_746 rfl ?_
  refine s_ic hX (2 : Int32) dL_law_747 (by decide) ?_
  refine s_iadd hX dL_law_748 ?_
  refine s_sld hX hs dL_law_749 hb2 ?_
  refine s_aload_n hX dL_law_750 rfl ?_
  refine s_iload_n hX dL_law_751 rfl ?_
  refine s_ic hX (3 : Int32) dL_law_752 (by decide) ?_
  refine s_iadd hX dL_law_753 ?_
  refine s_sld hX hs dL_law_754 hb3 ?_
  refine s_cV hX [.int (xs (y3 + (1 : Int32)).toNatClampNeg), .int (xs (y3 + (2 : Int32)).toNatClampNeg), .int (xs (y3 + (3 : Int32)).toNatClampNeg)] dL_law_755 k_L_85 v_X4_gift h2 ⟨_, rfl⟩ fs_c4 ⟨rfl, rfl⟩ ⟨(Nat.le_of_ble_eq_true rfl), (Nat.le_of_ble_eq_true rfl)⟩ rfl rfl (Nat.le_of_ble_eq_true rfl) ?_
  exact s_ic_eq hX 1368 dL_law_758 (by decide) (fun _ => k) (fun z => absurd rfl z)
set_option maxRecDepth 20000 in
set_option maxHeartbeats 40000000 in
theorem lc_undo {X : fsC} (hX : fs_ok cL_law RL 4 room_1 X) {b Ln : Nat} {xs : Nat → Int32} (hs : fs_scr b Ln xs X) {y3 : Int32} (hb1 : vp_in (y3 + (1 : Int32)) Ln) {σ σ1 σ2 : fsS} {μ μ1 μ2 : fsL} {r : Int32} (h1 : fs_Met yX3_undo cX3_undo 3 (some .int) { frames := 5, cells := 0, slots := 0, locals := 116 } [.ref 0, .int (xs (y3 + (1 : Int32)).toNatClampNeg)] σ μ (some (.int r)) σ1 μ1) (h2 : fs_Met yX4_undo cX4_undo 3 (some .int) { frames := 1, cells := 0, slots := 0, locals := 25 } [.ref 51, .int (xs (y3 + (1 : Int32)).toNatClampNeg)] σ1 μ1 (some (.int r)) σ2 μ2) (k : fs_PW X 1368 [some (.ref 1000), some (.ref 0), some (.ref 51), some (.int y3)] [] σ2 μ2) : fs_PW X 763 [some (.ref 1000), some (.ref 0), some (.ref 51), some (.int y3)] [] σ μ := by
  refine s_aload_n hX dL_law_763 rfl ?_
  refine s_aload_n hX dL_law_764 rfl ?_
  refine s_iload_n hX dL_law_765 rfl ?_
  refine s_ic hX (1 : Int32) dL_law_766 (by decide) ?_
  refine s_iadd hX dL_law_767 ?_
  refine s_sld hX hs dL_law_768 hb1 ?_
  refine s_cV hX [.int (xs (y3 + (1 : Int32)).toNatClampNeg)] dL_law_769 k_L_86 v_X3_undo h1 ⟨_, rfl⟩ fs_c3 ⟨rfl, rfl⟩ ⟨(Nat.le_of_ble_eq_true rfl), (Nat.le_of_ble_eq_true rfl)⟩ rfl rfl (Nat.le_of_ble_eq_true rfl) ?_
  refine s_aload_n hX dL_law_772 rfl ?_
  refine s_aload_n hX dL_law_773 rfl ?_
  refine s_iload_n hX dL_law_774 rfl ?_
  refine s_ic hX (1 : Int32) dL_law_775 (by decide) ?_
  refine s_iadd hX dL_law_776 ?_
  refine s_sld hX hs dL_law_777 hb1 ?_
  refine s_cV hX [.int (xs (y3 + (1 : Int32)).toNatClampNeg)] dL_law_778 k_L_89 v_X4_undo h2 ⟨_, rfl⟩ fs_c4 ⟨rfl, rfl⟩ ⟨(Nat.le_of_ble_eq_true rfl), (Nat.le_of_ble_eq_true rfl)⟩ rfl rfl (Nat.le_of_ble_eq_true rfl) ?_
  exact s_ic_eq hX 1368 dL_law_781 (by decide) (fun _ => k) (fun z => absurd rfl z)
set_option maxRecDepth 20000 in
set_option maxHeartbeats 40000000 in
theorem lc_keep {X : fsC} (hX : fs_ok cL_law RL 4 room_1 X) {b Ln : Nat} {xs : Nat → Int32} (hs : fs_scr b Ln xs X) {y3 : Int32} (hb1 : vp_in (y3 + (1 : Int32)) Ln) {σ σ1 σ2 : fsS} {μ μ1 μ2 : fsL} {r : Int32} (h1 : fs_Met yX3_keep cX3_keep 2 (some .int) { frames := 2, cells := 0, slots := 0, locals := 47 } [.ref 0, .int (xs (y3 + (1 : Int32)).toNatClampNeg)] σ μ (some (.int r)) σ1 μ1) (h2 : fs_Met yX4_keep cX4_keep 2 (some .int) { frames := 1, cells := 0, slots := 0, locals := 25 } [.ref 51, .int (xs (y3 + (1 : Int32)).toNatClampNeg)] σ1 μ1 (some (.int r)) σ2 μ2) (k : fs_PW X 1368 [some (.ref 1000), some (.ref 0), some (.ref 51), some (.int y3)] [] σ2 μ2) : fs_PW X 786 [some (.ref 1000), some (.ref 0), some (.ref 51), some (.int y3)] [] σ μ := by
  refine s_aload_n hX dL_law_786 rfl ?_
  refine s_aload_n hX dL_law_787 rfl ?_
  refine s_iload_n hX dL_law_788 rfl ?_
  refine s_ic hX (1 : Int32) dL_law_789 (by decide) ?_
  refine s_iadd hX dL_law_790 ?_
  refine s_sld hX hs dL_law_791 hb1 ?_
  refine s_cV hX [.int (xs (y3 + (1 : Int32)).toNatClampNeg)] dL_law_792 k_L_90 v_X3_keep h1 ⟨_, rfl⟩ fs_c3 ⟨rfl, rfl⟩ ⟨(Nat.le_of_ble_eq_true rfl), (Nat.le_of_ble_eq_true rfl)⟩ rfl rfl (Nat.le_of_ble_eq_true rfl) ?_
  refine s_aload_n hX dL_law_795 rfl ?_
  refine s_aload_n hX dL_law_796 rfl ?_
  refine s_iload_n hX dL_law_797 rfl ?_
  refine s_ic hX (1 : Int32) dL_law_798 (by decide) ?_
  refine s_iadd hX dL_law_799 ?_
  refine s_sld hX hs dL_law_800 hb1 ?_
  refine s_cV hX [.int (xs (y3 + (1 : Int32)).toNatClampNeg)] dL_law_801 k_L_93 v_X4_keep h2 ⟨_, rfl⟩ fs_c4 ⟨rfl, rfl⟩ ⟨(Nat.le_of_ble_eq_true rfl), (Nat.le_of_ble_eq_true rfl)⟩ rfl rfl (Nat.le_of_ble_eq_true rfl) ?_
  exact s_ic_eq hX 1368 dL_law_804 (by decide) (fun _ => k) (fun z => absurd rfl z)
set_option maxRecDepth 20000 in
set_option maxHeartbeats 40000000 in
theorem lc_on {X : fsC} (hX : fs_ok cL_law RL 4 room_1 X) {b Ln : Nat} {xs : Nat → Int32} (hs : fs_scr b Ln xs X) {y3 : Int32} (hb1 : vp_in (y3 + (1 : Int32)) Ln) {σ σ1 σ2 : fsS} {μ μ1 μ2 : fsL} {r : Int32} (h1 : fs_Met yX3_on cX3_on 2 (some .int) { frames := 6, cells := 0, slots := 0, locals := 137 } [.ref 0, .int (xs (y3 + (1 : Int32)).toNatClampNeg)] σ μ (some (.int r)) σ1 μ1) (h2 : fs_Met yX4_on cX4_on 2 (some .int) { frames := 1, cells := 0, slots := 0, locals := 25 } [.ref 51, .int (xs (y3 + (1 : Int32)).toNatClampNeg)] σ1 μ1 (some (.int r)) σ2 μ2) (k : fs_PW X 1368 [some (.ref 1000), some (.ref 0), some (.ref 51), some (.int y3)] [] σ2 μ2) : fs_PW X 809 [some (.ref 1000), some (.ref 0), some (.ref 51), some (.int y3)] [] σ μ := by
  refine s_aload_n hX dL_law_809 rfl ?_
  refine s_aload_n hX dL_law_810 rfl ?_
  refine s_iload_n hX dL_law_811 rfl ?_
  refine s_ic hX (1 : Int32) dL_law_812 (by decide) ?_
  refine s_iadd hX dL_law_813 ?_
  refine s_sld hX hs dL_law_814 hb1 ?_
  refine s_cV hX [.int (xs (y3 + (1 : Int32)).toNatClampNeg)] dL_law_815 k_L_94 v_X3_on h1 ⟨_, rfl⟩ fs_c3 ⟨rfl, rfl⟩ ⟨(Nat.le_of_ble_eq_true rfl), (Nat.le_of_ble_eq_true rfl)⟩ rfl rfl (Nat.le_of_ble_eq_true rfl) ?_
  refine s_aload_n hX dL_law_818 rfl ?_
  refine s_aload_n hX dL_law_819 rfl ?_
  refine s_iload_n hX dL_law_820 rfl ?_
  refine s_ic hX (1 : Int32) dL_law_821 (by decide) ?_
  refine s_iadd hX dL_law_822 ?_
  refine s_sld hX hs dL_law_823 hb1 ?_
  refine s_cV hX [.int (xs (y3 + (1 : Int32)).toNatClampNeg)] dL_law_824 k_L_97 v_X4_on h2 ⟨_, rfl⟩ fs_c4 ⟨rfl, rfl⟩ ⟨(Nat.le_of_ble_eq_true rfl), (Nat.le_of_ble_eq_true rfl)⟩ rfl rfl (Nat.le_of_ble_eq_true rfl) ?_
  exact s_ic_eq hX 1368 dL_law_827 (by decide) (fun _ => k) (fun z => absurd rfl z)
set_option maxRecDepth 20000 in
set_option maxHeartbeats 40000000 in
theorem lc_box {X : fsC} (hX : fs_ok cL_law RL 4 room_1 X) {b Ln : Nat} {xs : Nat → Int32} (hs : fs_scr b Ln xs X) {y3 : Int32}  {σ σ1 σ2 : fsS} {μ μ1 μ2 : fsL} {r : Int32} (h1 : fs_Met yX3_box cX3_box 1 (some .int) { frames := 2, cells := 0, slots := 0, locals := 47 } [.ref 0] σ μ (some (.int r)) σ1 μ1) (h2 : fs_Met yX4_box cX4_box 3 (some .int) { frames := 3, cells := 0, slots := 0, locals := 70 } [.ref 51] σ1 μ1 (some (.int r)) σ2 μ2) (k : fs_PW X 1368 [some (.ref 1000), some (.ref 0), some (.ref 51), some (.int y3)] [] σ2 μ2) : fs_PW X 832 [some (.ref 1000), some (.ref 0), some (.ref 51), some (.int y3)] [] σ μ := by
  refine s_aload_n hX dL_law_832 rfl ?_
  refine s_cV hX [] dL_law_833 k_L_98 v_X3_box h1 ⟨_, rfl⟩ fs_c3 ⟨rfl, rfl⟩ ⟨(Nat.le_of_ble_eq_true rfl), (Nat.le_of_ble_eq_true rfl)⟩ rfl rfl (Nat.le_of_ble_eq_true rfl) ?_
  refine s_aload_n hX dL_law_836 rfl ?_
  refine s_cV hX [] dL_law_837 k_L_101 v_X4_box h2 ⟨_, rfl⟩ fs_c4 ⟨rfl, rfl⟩ ⟨(Nat.le_of_ble_eq_true rfl), (Nat.le_of_ble_eq_true rfl)⟩ rfl rfl (Nat.le_of_ble_eq_true rfl) ?_
  exact s_ic_eq hX 1368 dL_law_840 (by decide) (fun _ => k) (fun z => absurd rfl z)
set_option maxRecDepth 20000 in
set_option maxHeartbeats 40000000 in
theorem lc_later {X : fsC} (hX : fs_ok cL_law RL 4 room_1 X) {b Ln : Nat} {xs : Nat → Int32} (hs : fs_scr b Ln xs X) {y3 : Int32} (hb1 : vp_in (y3 + (1 : Int32)) Ln) (hb2 : vp_in (y3 + (2 : Int32)) Ln) {σ σ1 σ2 : fsS} {μ μ1 μ2 : fsL} {r : Int32} (h1 : fs_Met yX3_later cX3_later 5 (some .int) { frames := 3, cells := 0, slots := 0, locals := 70 } [.ref 0, .int (xs (y3 + (1 : Int32)).toNatClampNeg), .int (xs (y3 + (2 : Int32)).toNatClampNeg)] σ μ (some (.int r)) σ1 μ1) (h2 : fs_Met yX4_later cX4_later 7 (some .int) { frames := 4, cells := 0, slots := 0, locals := 93 } [.ref 51, .int (xs (y3 + (1 : Int32)).toNatClampNeg), .int (xs (y3 + (2 : Int32)).toNatClampNeg)] σ1 μ1 (some (.int r)) σ2 μ2) (k : fs_PW X 1368 [some (.ref 1000), some (.ref 0), some (.ref 51), some (.int y3)] [] σ2 μ2) : fs_PW X 845 [some (.ref 1000), some (.ref 0), some (.ref 51), some (.int y3)] [] σ μ := by
  refine s_aload_n hX dL_law_845 rfl ?_
  refine s_aload_n hX dL_law_846 rfl ?_
  refine s_iload_n hX dL_law_847 rfl ?_
  refine s_ic hX (1 : Int32) dL_law_848 (by decide) ?_
  refine s_iadd hX dL_law_849 ?_
  refine s_sld hX hs dL_law_850 hb1 ?_
  refine s_aload_n hX dL_law_851 rfl ?_
  refine s_iload_n hX dL_law_852 rfl ?_
  refine s_ic hX (2 : Int32) dL_law_853 (by decide) ?_
  refine s_iadd hX dL_law_854 ?_
  refine s_sld hX hs dL_law_855 hb2 ?_
  refine s_cV hX [.int (xs (y3 + (1 : Int32)).toNatClampNeg), .int (xs (y3 + (2 : Int32)).toNatClampNeg)] dL_law_856 k_L_102 v_X3_later h1 ⟨_, rfl⟩ fs_c3 ⟨rfl, rfl⟩ ⟨(Nat.le_of_ble_eq_true rfl), (Nat.le_of_ble_eq_true rfl)⟩ rfl rfl (Nat.le_of_ble_eq_true rfl) ?_
  refine s_aload_n hX dL_law_859 rfl ?_
  refine s_aload_n hX dL_law_860 rfl ?_
  refine s_iload_n hX dL_law_861 rfl ?_
  refine s_ic hX (1 : Int32) dL_law_862 (by decide) ?_
  refine s_iadd hX dL_law_863 ?_
  refine s_sld hX hs dL_law_864 hb1 ?_
  refine s_aload_n hX dL_law_865 rfl ?_
  refine s_iload_n hX dL_law_866 rfl ?_
  refine s_ic hX (2 : Int32) dL_law_867 (by decide) ?_
  refine s_iadd hX dL_law_868 ?_
  refine s_sld hX hs dL_law_869 hb2 ?_
  refine s_cV hX [.int (xs (y3 + (1 : Int32)).toNatClampNeg), .int (xs (y3 + (2 : Int32)).toNatClampNeg)] dL_law_870 k_L_105 v_X4_later h2 ⟨_, rfl⟩ fs_c4 ⟨rfl, rfl⟩ ⟨(Nat.le_of_ble_eq_true rfl), (Nat.le_of_ble_eq_true rfl)⟩ rfl rfl (Nat.le_of_ble_eq_true rfl) ?_
  exact s_ic_eq hX 1368 dL_law_873 (by decide) (fun _ => k) (fun z => absurd rfl z)
set_option maxRecDepth 20000 in
set_option maxHeartbeats 40000000 in
theorem lc_settles {X : fsC} (hX : fs_ok cL_law RL 4 room_1 X) {b Ln : Nat} {xs : Nat → Int32} (hs : fs_scr b Ln xs X) {y3 : Int32}  {σ σ1 σ2 : fsS} {μ μ1 μ2 : fsL} {r : Int32} (h1 : fs_Met yX3_settles cX3_settles 2 (some .int) { frames := 3, cells := 0, slots := 0, locals := 70 } [.ref 0] σ μ (some (.int r)) σ1 μ1) (h2 : fs_Met yX4_settles cX4_settles 6 (some .int) { frames := 4, cells := 0, slots := 0, locals := 93 } [.ref 51] σ1 μ1 (some (.int r)) σ2 μ2) (k : fs_PW X 1368 [some (.ref 1000), some (.ref 0), some (.ref 51), some (.int y3)] [] σ2 μ2) : fs_PW X 878 [some (.ref 1000), some (.ref 0), some (.ref 51), some (.int y3)] [] σ μ := by
  refine s_aload_n hX dL_law_878 rfl ?_
  refine s_cV hX [] dL_law_879 k_L_106 v_X3_settles h1 ⟨_, rfl⟩ fs_c3 ⟨rfl, rfl⟩ ⟨(Nat.le_of_ble_eq_true rfl), (Nat.le_of_ble_eq_true rfl)⟩ rfl rfl (Nat.le_of_ble_eq_true rfl) ?_
  refine s_aload_n hX dL_law_882 rfl ?_
  refine s_cV hX [] dL_law_883 k_L_109 v_X4_settles h2 ⟨_, rfl⟩ fs_c4 ⟨rfl, rfl⟩ ⟨(Nat.le_of_ble_eq_true rfl), (Nat.le_of_ble_eq_true rfl)⟩ rfl rfl (Nat.le_of_ble_eq_true rfl) ?_
  exact s_ic_eq hX 1368 dL_law_886 (by decide) (fun _ => k) (fun z => absurd rfl z)
set_option maxRecDepth 20000 in
set_option maxHeartbeats 40000000 in
theorem lc_mill {X : fsC} (hX : fs_ok cL_law RL 4 room_1 X) {b Ln : Nat} {xs : Nat → Int32} (hs : fs_scr b Ln xs X) {y3 : Int32} (hb1 : vp_in (y3 + (1 : Int32)) Ln) {σ σ1 σ2 : fsS} {μ μ1 μ2 : fsL} {r : Int32} (h1 : fs_Met yX3_mill cX3_mill 4 (some .int) { frames := 3, cells := 0, slots := 0, locals := 70 } [.ref 0, .int (xs (y3 + (1 : Int32)).toNatClampNeg)] σ μ (some (.int r)) σ1 μ1) (h2 : fs_Met yX4_mill cX4_mill 4 (some .int) { frames := 4, cells := 0, slots := 0, locals := 93 } [.ref 51, .int (xs (y3 + (1 : Int32)).toNatClampNeg)] σ1 μ1 (some (.int r)) σ2 μ2) (k : fs_PW X 1368 [some (.ref 1000), some (.ref 0), some (.ref 51), some (.int y3)] [] σ2 μ2) : fs_PW X 891 [some (.ref 1000), some (.ref 0), some (.ref 51), some (.int y3)] [] σ μ := by
  refine s_aload_n hX dL_law_891 rfl ?_
  refine s_aload_n hX dL_law_892 rfl ?_
  refine s_iload_n hX dL_law_893 rfl ?_
  refine s_ic hX (1 : Int32) dL_law_894 (by decide) ?_
  refine s_iadd hX dL_law_895 ?_
  refine s_sld hX hs dL_law_896 hb1 ?_
  refine s_cV hX [.int (xs (y3 + (1 : Int32)).toNatClampNeg)] dL_law_897 k_L_110 v_X3_mill h1 ⟨_, rfl⟩ fs_c3 ⟨rfl, rfl⟩ ⟨(Nat.le_of_ble_eq_true rfl), (Nat.le_of_ble_eq_true rfl)⟩ rfl rfl (Nat.le_of_ble_eq_true rfl) ?_
  refine s_aload_n hX dL_law_900 rfl ?_
  refine s_aload_n hX dL_law_901 rfl ?_
  refine s_iload_n hX dL_law_902 rfl ?_
  refine s_ic hX (1 : Int32) dL_law_903 (by decide) ?_
  refine s_iadd hX dL_law_904 ?_
  refine s_sld hX hs dL_law_905 hb1 ?_
  refine s_cV hX [.int (xs (y3 + (1 : Int32)).toNatClampNeg)] dL_law_906 k_L_113 v_X4_mill h2 ⟨_, rfl⟩ fs_c4 ⟨rfl, rfl⟩ ⟨(Nat.le_of_ble_eq_true rfl), (Nat.le_of_ble_eq_true rfl)⟩ rfl rfl (Nat.le_of_ble_eq_true rfl) ?_
  exact s_ic_eq hX 1368 dL_law_909 (by decide) (fun _ => k) (fun z => absurd rfl z)
set_option maxRecDepth 20000 in
set_option maxHeartbeats 40000000 in
theorem lc_gains {X : fsC} (hX : fs_ok cL_law RL 4 room_1 X) {b Ln : Nat} {xs : Nat → Int32} (hs : fs_scr b Ln xs X) {y3 : Int32} (hb1 : vp_in (y3 + (1 : Int32)) Ln) {σ σ1 σ2 : fsS} {μ μ1 μ2 : fsL} {r : Int32} (h1 : fs_Met yX3_gains cX3_gains 4 (some .int) { frames := 5, cells := 0, slots := 0, locals := 116 } [.ref 0, .int (xs (y3 + (1 : Int32)).toNatClampNeg)] σ μ (some (.int r)) σ1 μ1) (h2 : fs_Met yX4_gains cX4_gains 5 (some .int) { frames := 6, cells := 0, slots := 0, locals := 139 } [.ref 51, .int (xs (y3 + (1 : Int32)).toNatClampNeg)] σ1 μ1 (some (.int r)) σ2 μ2) (k : fs_PW X 1368 [some (.ref 1000), some (.ref 0), some (.ref 51), some (.int y3)] [] σ2 μ2) : fs_PW X 914 [some (.ref 1000), some (.ref 0), some (.ref 51), some (.int y3)] [] σ μ := by
  refine s_aload_n hX dL_law_914 rfl ?_
  refine s_aload_n hX dL_law_915 rfl ?_
  refine s_iload_n hX dL_law_916 rfl ?_
  refine s_ic hX (1 : Int32) dL_law_917 (by decide) ?_
  refine s_iadd hX dL_law_918 ?_
  refine s_sld hX hs dL_law_919 hb1 ?_
  refine s_cV hX [.int (xs (y3 + (1 : Int32)).toNatClampNeg)] dL_law_920 k_L_114 v_X3_gains h1 ⟨_, rfl⟩ fs_c3 ⟨rfl, rfl⟩ ⟨(Nat.le_of_ble_eq_true rfl), (Nat.le_of_ble_eq_true rfl)⟩ rfl rfl (Nat.le_of_ble_eq_true rfl) ?_
  refine s_aload_n hX dL_law_923 rfl ?_
  refine s_aload_n hX dL_law_924 rfl ?_
  refine s_iload_n hX dL_law_925 rfl ?_
  refine s_ic hX (1 : Int32) dL_law_926 (by decide) ?_
  refine s_iadd hX dL_law_927 ?_
  refine s_sld hX hs dL_law_928 hb1 ?_
  refine s_cV hX [.int (xs (y3 + (1 : Int32)).toNatClampNeg)] dL_law_929 k_L_117 v_X4_gains h2 ⟨_, rfl⟩ fs_c4 ⟨rfl, rfl⟩ ⟨(Nat.le_of_ble_eq_true rfl), (Nat.le_of_ble_eq_true rfl)⟩ rfl rfl (Nat.le_of_ble_eq_true rfl) ?_
  exact s_ic_eq hX 1368 dL_law_932 (by decide) (fun _ => k) (fun z => absurd rfl z)
set_option maxRecDepth 20000 in
set_option maxHeartbeats 40000000 in
theorem lc_even {X : fsC} (hX : fs_ok cL_law RL 4 room_1 X) {b Ln : Nat} {xs : Nat → Int32} (hs : fs_scr b Ln xs X) {y3 : Int32} (hb1 : vp_in (y3 + (1 : Int32)) Ln) (hb2 : vp_in (y3 + (2 : Int32)) Ln) (hb3 : vp_in (y3 + (3 : Int32)) Ln) (hb4 : vp_in (y3 + (4 : Int32)) Ln) {σ σ1 σ2 : fsS} {μ μ1 μ2 : fsL} {r : Int32} (h1 : fs_Met yX3_even cX3_even 9 (some .int) { frames := 5, cells := 0, slots := 0, locals := 118 } [.ref 0, .int (xs (y3 + (1 : Int32)).toNatClampNeg), .int (xs (y3 + (2 : Int32)).toNatClampNeg), .int (xs (y3 + (3 : Int32)).toNatClampNeg), .int (xs (y3 + (4 : Int32)).toNatClampNeg)] σ μ (some (.int r)) σ1 μ1) (h2 : fs_Met yX4_even cX4_even 11 (some .int) { frames := 5, cells := 0, slots := 0, locals := 116 } [.ref 51, .int (xs (y3 + (1 : Int32)).toNatClampNeg), .int (xs (y3 + (2 : Int32)).toNatClampNeg), .int (xs (y3 + (3 : Int32)).toNatClampNeg), .int (xs (y3 + (4 : Int32)).toNatClampNeg)] σ1 μ1 (some (.int r)) σ2 μ2) (k : fs_PW X 1368 [some (.ref 1000), some (.ref 0), some (.ref 51), some (.int y3)] [] σ2 μ2) : fs_PW X 937 [some (.ref 1000), some (.ref 0), some (.ref 51), some (.int y3)] [] σ μ := by
  refine s_aload_n hX dL_law_937 rfl ?_
  refine s_aload_n hX dL_law_938 rfl ?_
  refine s_iload_n hX dL_law_939 rfl ?_
  refine s_ic hX (1 : Int32) dL_law_940 (by decide) ?_
  refine s_iadd hX dL_law_941 ?_
  refine s_sld hX hs dL_law_942 hb1 ?_
  refine s_aload_n hX dL_law_943 rfl ?_
  refine s_iload_n hX dL_law_944 rfl ?_
  refine s_ic hX (2 : Int32) dL_law_945 (by decide) ?_
  refine s_iadd hX dL_law_946 ?_
  refine s_sld hX hs dL_law_947 hb2 ?_
  refine s_aload_n hX dL_law_948 rfl ?_
  refine s_iload_n hX dL_law_949 rfl ?_
  refine s_ic hX (3 : Int32) dL_law_950 (by decide) ?_
  refine s_iadd hX dL_law_951 ?_
  refine s_sld hX hs dL_law_952 hb3 ?_
  refine s_aload_n hX dL_law_953 rfl ?_
  refine s_iload_n hX dL_law_954 rfl ?_
  refine s_ic hX (4 : Int32) dL_law_955 (by decide) ?_
  refine s_iadd hX dL_law_956 ?_
  refine s_sld hX hs dL_law_957 hb4 ?_
  refine s_cV hX [.int (xs (y3 + (1 : Int32)).toNatClampNeg), .int (xs (y3 + (2 : Int32)).toNatClampNeg), .int (xs (y3 + (3 : Int32)).toNatClampNeg), .int (xs (y3 + (4 : Int32)).toNatClampNeg)] dL_law_958 k_L_118 v_X3_even h1 ⟨_, rfl⟩ fs_c3 ⟨rfl, rfl⟩ ⟨(Nat.le_of_ble_eq_true rfl), (Nat.le_of_ble_eq_true rfl)⟩ rfl rfl (Nat.le_of_ble_eq_true rfl) ?_
  refine s_aload_n hX dL_law_961 rfl ?_
  refine s_aload_n hX dL_law_962 rfl ?_
  refine s_iload_n hX dL_law_963 rfl ?_
  refine s_ic hX (1 : Int32) dL_law_964 (by decide) ?_
  refine s_iadd hX dL_law_965 ?_
  refine s_sld hX hs dL_law_966 hb1 ?_
  refine s_aload_n hX dL_law_967 rfl ?_
  refine s_iload_n hX dL_law_968 rfl ?_
  refine s_ic hX (2 : Int32) dL_law_969 (by decide) ?_
  refine s_iadd hX dL_law_970 ?_
  refine s_sld hX hs dL_law_971 hb2 ?_
  refine s_aload_n hX dL_law_972 rfl ?_
  refine s_iload_n hX dL_law_973 rfl ?_
  refine s_ic hX (3 : Int32) dL_law_974 (by decide) ?_
  refine s_iadd hX dL_law_975 ?_
  refine s_sld hX hs dL_law_976 hb3 ?_
  refine s_aload_n hX dL_law_977 rfl ?_
  refine s_iload_n hX dL_law_978 rfl ?_
  refine s_ic hX (4 : Int32) dL_law_979 (by decide) ?_
  refine s_iadd hX dL_law_980 ?_
  refine s_sld hX hs dL_law_981 hb4 ?_
  refine s_cV hX [.int (xs (y3 + (1 : Int32)).toNatClampNeg), .int (xs (y3 + (2 : Int32)).toNatClampNeg), .int (xs (y3 + (3 : Int32)).toNatClampNeg), .int (xs (y3 + (4 : Int32)).toNatClampNeg)] dL_law_982 k_L_122 v_X4_even h2 ⟨_, rfl⟩ fs_c4 ⟨rfl, rfl⟩ ⟨(Nat.le_of_ble_eq_true rfl), (Nat.le_of_ble_eq_true rfl)⟩ rfl rfl (Nat.le_of_ble_eq_true rfl) ?_
  exact s_ic_eq hX 1368 dL_law_985 (by decide) (fun _ => k) (fun z => absurd rfl z)
set_option maxRecDepth 20000 in
set_option maxHeartbeats 40000000 in
theorem lc_change {X : fsC} (hX : fs_ok cL_law RL 4 room_1 X) {b Ln : Nat} {xs : Nat → Int32} (hs : fs_scr b Ln xs X) {y3 : Int32} (hb1 : vp_in (y3 + (1 : Int32)) Ln) {σ σ1 σ2 : fsS} {μ μ1 μ2 : fsL} {r : Int32} (h1 : fs_Met yX3_change cX3_change 8 (some .int) { frames := 5, cells := 0, slots := 0, locals := 116 } [.ref 0, .int (xs (y3 + (1 : Int32)).toNatClampNeg)] σ μ (some (.int r)) σ1 μ1) (h2 : fs_Met yX4_change cX4_change 7 (some .int) { frames := 5, cells := 0, slots := 0, locals := 116 } [.ref 51, .int (xs (y3 + (1 : Int32)).toNatClampNeg)] σ1 μ1 (some (.int r)) σ2 μ2) (k : fs_PW X 1368 [some (.ref 1000), some (.ref 0), some (.ref 51), some (.int y3)] [] σ2 μ2) : fs_PW X 990 [some (.ref 1000), some (.ref 0), some (.ref 51), some (.int y3)] [] σ μ := by
  refine s_aload_n hX dL_law_990 rfl ?_
  refine s_aload_n hX dL_law_991 rfl ?_
  refine s_iload_n hX dL_law_992 rfl ?_
  refine s_ic hX (1 : Int32) dL_law_993 (by decide) ?_
  refine s_iadd hX dL_law_994 ?_
  refine s_sld hX hs dL_law_995 hb1 ?_
  refine s_cV hX [.int (xs (y3 + (1 : Int32)).toNatClampNeg)] dL_law_996 k_L_123 v_X3_change h1 ⟨_, rfl⟩ fs_c3 ⟨rfl, rfl⟩ ⟨(Nat.le_of_ble_eq_true rfl), (Nat.le_of_ble_eq_true rfl)⟩ rfl rfl (Nat.le_of_ble_eq_true rfl) ?_
  refine s_aload_n hX dL_law_999 rfl ?_
  refine s_aload_n hX dL_law_1000 rfl ?_
  refine s_iload_n hX dL_law_1001 rfl ?_
  refine s_ic hX (1 : Int32) dL_law_1002 (by decide) ?_
  refine s_iadd hX dL_law_1003 ?_
  refine s_sld hX hs dL_law_1004 hb1 ?_
  refine s_cV hX [.int (xs (y3 + (1 : Int32)).toNatClampNeg)] dL_law_1005 k_L_126 v_X4_change h2 ⟨_, rfl⟩ fs_c4 ⟨rfl, rfl⟩ ⟨(Nat.le_of_ble_eq_true rfl), (Nat.le_of_ble_eq_true rfl)⟩ rfl rfl (Nat.le_of_ble_eq_true rfl) ?_
  exact s_ic_eq hX 1368 dL_law_1008 (by decide) (fun _ => k) (fun z => absurd rfl z)
set_option maxRecDepth 20000 in
set_option maxHeartbeats 40000000 in
theorem lc_looks {X : fsC} (hX : fs_ok cL_law RL 4 room_1 X) {b Ln : Nat} {xs : Nat → Int32} (hs : fs_scr b Ln xs X) {y3 : Int32} (hb1 : vp_in (y3 + (1 : Int32)) Ln) (hb2 : vp_in (y3 + (2 : Int32)) Ln) {σ σ1 σ2 : fsS} {μ μ1 μ2 : fsL} {r : Int32} (h1 : fs_Met yX3_looks cX3_looks 6 (some .int) { frames := 2, cells := 0, slots := 0, locals := 52 } [.ref 0, .int (xs (y3 + (1 : Int32)).toNatClampNeg), .int (xs (y3 + (2 : Int32)).toNatClampNeg)] σ μ (some (.int r)) σ1 μ1) (h2 : fs_Met yX4_looks cX4_looks 6 (some .int) { frames := 3, cells := 0, slots := 0, locals := 73 } [.ref 51, .int (xs (y3 + (1 : Int32)).toNatClampNeg), .int (xs (y3 + (2 : Int32)).toNatClampNeg)] σ1 μ1 (some (.int r)) σ2 μ2) (k : fs_PW X 1368 [some (.ref 1000), some (.ref 0), some (.ref 51), some (.int y3)] [] σ2 μ2) : fs_PW X 1013 [some (.ref 1000), some (.ref 0), some (.ref 51), some (.int y3)] [] σ μ := by
  refine s_aload_n hX dL_law_1013 rfl ?_
  refine s_aload_n hX dL_law_1014 rfl ?_
  refine s_iload_n hX dL_law_1015 rfl ?_
  refine s_ic hX (1 : Int32) dL_law_1016 (by decide) ?_
  refine s_iadd hX dL_law_1017 ?_
  refine s_sld hX hs dL_law_1018 hb1 ?_
  refine s_aload_n hX dL_law_1019 rfl ?_
  refine s_iload_n hX dL_law_1020 rfl ?_
  refine s_ic hX (2 : Int32) dL_law_1021 (by decide) ?_
  refine s_iadd hX dL_law_1022 ?_
  refine s_sld hX hs dL_law_1023 hb2 ?_
  refine s_cV hX [.int (xs (y3 + (1 : Int32)).toNatClampNeg), .int (xs (y3 + (2 : Int32)).toNatClampNeg)] dL_law_1024 k_L_127 v_X3_looks h1 ⟨_, rfl⟩ fs_c3 ⟨rfl, rfl⟩ ⟨(Nat.le_of_ble_eq_true rfl), (Nat.le_of_ble_eq_true rfl)⟩ rfl rfl (Nat.le_of_ble_eq_true rfl) ?_
  refine s_aload_n hX dL_law_1027 rfl ?_
  refine s_aload_n hX dL_law_1028 rfl ?_
  refine s_iload_n hX dL_law_1029 rfl ?_
  refine s_ic hX (1 : Int32) dL_law_1030 (by decide) ?_
  refine s_iadd hX dL_law_1031 ?_
  refine s_sld hX hs dL_law_1032 hb1 ?_
  refine s_aload_n hX dL_law_1033 rfl ?_
  refine s_iload_n hX dL_law_1034 rfl ?_
  refine s_ic hX (2 : Int32) dL_law_1035 (by decide) ?_
  refine s_iadd hX dL_law_1036 ?_
  refine s_sld hX hs dL_law_1037 hb2 ?_
  refine s_cV hX [.int (xs (y3 + (1 : Int32)).toNatClampNeg), .int (xs (y3 + (2 : Int32)).toNatClampNeg)] dL_law_1038 k_L_130 v_X4_looks h2 ⟨_, rfl⟩ fs_c4 ⟨rfl, rfl⟩ ⟨(Nat.le_of_ble_eq_true rfl), (Nat.le_of_ble_eq_true rfl)⟩ rfl rfl (Nat.le_of_ble_eq_true rfl) ?_
  exact s_ic_eq hX 1368 dL_law_1041 (by decide) (fun _ => k) (fun z => absurd rfl z)
set_option maxRecDepth 20000 in
set_option maxHeartbeats 40000000 in
theorem lc_kinds {X : fsC} (hX : fs_ok cL_law RL 4 room_1 X) {b Ln : Nat} {xs : Nat → Int32} (hs : fs_scr b Ln xs X) {y3 : Int32} (hb1 : vp_in (y3 + (1 : Int32)) Ln) (hb2 : vp_in (y3 + (2 : Int32)) Ln) {σ σ1 σ2 : fsS} {μ μ1 μ2 : fsL} {r : Int32} (h1 : fs_Met yX3_kinds cX3_kinds 4 (some .int) { frames := 3, cells := 0, slots := 0, locals := 76 } [.ref 0, .int (xs (y3 + (1 : Int32)).toNatClampNeg), .int (xs (y3 + (2 : Int32)).toNatClampNeg)] σ μ (some (.int r)) σ1 μ1) (h2 : fs_Met yX4_kinds cX4_kinds 4 (some .int) { frames := 4, cells := 0, slots := 0, locals := 97 } [.ref 51, .int (xs (y3 + (1 : Int32)).toNatClampNeg), .int (xs (y3 + (2 : Int32)).toNatClampNeg)] σ1 μ1 (some (.int r)) σ2 μ2) (k : fs_PW X 1368 [some (.ref 1000), some (.ref 0), some (.ref 51), some (.int y3)] [] σ2 μ2) : fs_PW X 1046 [some (.ref 1000), some (.ref 0), some (.ref 51), some (.int y3)] [] σ μ := by
  refine s_aload_n hX dL_law_1046 rfl ?_
  refine s_aload_n hX dL_law_1047 rfl ?_
  refine s_iload_n hX dL_law_1048 rfl ?_
  refine s_ic hX (1 : Int32) dL_law_1049 (by decide) ?_
  refine s_iadd hX dL_law_1050 ?_
  refine s_sld hX hs dL_law_1051 hb1 ?_
  refine s_aload_n hX dL_law_1052 rfl ?_
  refine s_iload_n hX dL_law_1053 rfl ?_
  refine s_ic hX (2 : Int32) dL_law_1054 (by decide) ?_
  refine s_iadd hX dL_law_1055 ?_
  refine s_sld hX hs dL_law_1056 hb2 ?_
  refine s_cV hX [.int (xs (y3 + (1 : Int32)).toNatClampNeg), .int (xs (y3 + (2 : Int32)).toNatClampNeg)] dL_law_1057 k_L_131 v_X3_kinds h1 ⟨_, rfl⟩ fs_c3 ⟨rfl, rfl⟩ ⟨(Nat.le_of_ble_eq_true rfl), (Nat.le_of_ble_eq_true rfl)⟩ rfl rfl (Nat.le_of_ble_eq_true rfl) ?_
  refine s_aload_n hX dL_law_1060 rfl ?_
  refine s_aload_n hX dL_law_1061 rfl ?_
  refine s_iload_n hX dL_law_1062 rfl ?_
  refine s_ic hX (1 : Int32) dL_law_1063 (by decide) ?_
  refine s_iadd hX dL_law_1064 ?_
  refine s_sld hX hs dL_law_1065 hb1 ?_
  refine s_aload_n hX dL_law_1066 rfl ?_
  refine s_iload_n hX dL_law_1067 rfl ?_
  refine s_ic hX (2 : Int32) dL_law_1068 (by decide) ?_
  refine s_iadd hX dL_law_1069 ?_
  refine s_sld hX hs dL_law_1070 hb2 ?_
  refine s_cV hX [.int (xs (y3 + (1 : Int32)).toNatClampNeg), .int (xs (y3 + (2 : Int32)).toNatClampNeg)] dL_law_1071 k_L_134 v_X4_kinds h2 ⟨_, rfl⟩ fs_c4 ⟨rfl, rfl⟩ ⟨(Nat.le_of_ble_eq_true rfl), (Nat.le_of_ble_eq_true rfl)⟩ rfl rfl (Nat.le_of_ble_eq_true rfl) ?_
  exact s_ic_eq hX 1368 dL_law_1074 (by decide) (fun _ => k) (fun z => absurd rfl z)
set_option maxRecDepth 20000 in
set_option maxHeartbeats 40000000 in
theorem lc_test {X : fsC} (hX : fs_ok cL_law RL 4 room_1 X) {b Ln : Nat} {xs : Nat → Int32} (hs : fs_scr b Ln xs X) {y3 : Int32} (hb1 : vp_in (y3 + (1 : Int32)) Ln) (hb2 : vp_in (y3 + (2 : Int32)) Ln) {σ σ1 σ2 : fsS} {μ μ1 μ2 : fsL} {r : Int32} (h1 : fs_Met yX3_test cX3_test 9 (some .int) { frames := 3, cells := 0, slots := 0, locals := 80 } [.ref 0, .int (xs (y3 + (1 : Int32)).toNatClampNeg), .int (xs (y3 + (2 : Int32)).toNatClampNeg)] σ μ (some (.int r)) σ1 μ1) (h2 : fs_Met yX4_test cX4_test 13 (some .int) { frames := 4, cells := 0, slots := 0, locals := 97 } [.ref 51, .int (xs (y3 + (1 : Int32)).toNatClampNeg), .int (xs (y3 + (2 : Int32)).toNatClampNeg)] σ1 μ1 (some (.int r)) σ2 μ2) (k : fs_PW X 1368 [some (.ref 1000), some (.ref 0), some (.ref 51), some (.int y3)] [] σ2 μ2) : fs_PW X 1079 [some (.ref 1000), some (.ref 0), some (.ref 51), some (.int y3)] [] σ μ := by
  refine s_aload_n hX dL_law_1079 rfl ?_
  refine s_aload_n hX dL_law_1080 rfl ?_
  refine s_iload_n hX dL_law_1081 rfl ?_
  refine s_ic hX (1 : Int32) dL_law_1082 (by decide) ?_
  refine s_iadd hX dL_law_1083 ?_
  refine s_sld hX hs dL_law_1084 hb1 ?_
  refine s_aload_n hX dL_law_1085 rfl ?_
  refine s_iload_n hX dL_law_1086 rfl ?_
  refine s_ic hX (2 : Int32) dL_law_1087 (by decide) ?_
  refine s_iadd hX dL_law_1088 ?_
  refine s_sld hX hs dL_law_1089 hb2 ?_
  refine s_cV hX [.int (xs (y3 + (1 : Int32)).toNatClampNeg), .int (xs (y3 + (2 : Int32)).toNatClampNeg)] dL_law_1090 k_L_135 v_X3_test h1 ⟨_, rfl⟩ fs_c3 ⟨rfl, rfl⟩ ⟨(Nat.le_of_ble_eq_true rfl), (Nat.le_of_ble_eq_true rfl)⟩ rfl rfl (Nat.le_of_ble_eq_true rfl) ?_
  refine s_aload_n hX dL_law_1093 rfl ?_
  refine s_aload_n hX dL_law_1094 rfl ?_
  refine s_iload_n hX dL_law_1095 rfl ?_
  refine s_ic hX (1 : Int32) dL_law_1096 (by decide) ?_
  refine s_iadd hX dL_law_1097 ?_
  refine s_sld hX hs dL_law_1098 hb1 ?_
  refine s_aload_n hX dL_law_1099 rfl ?_
  refine s_iload_n hX dL_law_1100 rfl ?_
  refine s_ic hX (2 : Int32) dL_law_1101 (by decide) ?_
  refine s_iadd hX dL_law_1102 ?_
  refine s_sld hX hs dL_law_1103 hb2 ?_
  refine s_cV hX [.int (xs (y3 + (1 : Int32)).toNatClampNeg), .int (xs (y3 + (2 : Int32)).toNatClampNeg)] dL_law_1104 k_L_138 v_X4_test h2 ⟨_, rfl⟩ fs_c4 ⟨rfl, rfl⟩ ⟨(Nat.le_of_ble_eq_true rfl), (Nat.le_of_ble_eq_true rfl)⟩ rfl rfl (Nat.le_of_ble_eq_true rfl) ?_
  exact s_ic_eq hX 1368 dL_law_1107 (by decide) (fun _ => k) (fun z => absurd rfl z)
set_option maxRecDepth 20000 in
set_option maxHeartbeats 40000000 in
theorem lc_duel {X : fsC} (hX : fs_ok cL_law RL 4 room_1 X) {b Ln : Nat} {xs : Nat → Int32} (hs : fs_scr b Ln xs X) {y3 : Int32} (hb1 : vp_in (y3 + (1 : Int32)) Ln) (hb2 : vp_in (y3 + (2 : Int32)) Ln) (hb3 : vp_in (y3 + (3 : Int32)) Ln) {σ σ1 σ2 : fsS} {μ μ1 μ2 : fsL} {r : Int32} (h1 : fs_Met yX3_duel cX3_duel 6 (some .int) { frames := 5, cells := 0, slots := 0, locals := 116 } [.ref 0, .int (xs (y3 + (1 : Int32)).toNatClampNeg), .int (xs (y3 + (2 : Int32)).toNatClampNeg), .int (xs (y3 + (3 : Int32)).toNatClampNeg)] σ μ (some (.int r)) σ1 μ1) (h2 : fs_Met yX4_duel cX4_duel 6 (some .int) { frames := 5, cells := 0, slots := 0, locals := 116 } [.ref 51, .int (xs (y3 + (1 : Int32)).toNatClampNeg), .int (xs (y3 + (2 : Int32)).toNatClampNeg), .int (xs (y3 + (3 : Int32)).toNatClampNeg)] σ1 μ1 (some (.int r)) σ2 μ2) (k : fs_PW X 1368 [some (.ref 1000), some (.ref 0), some (.ref 51), some (.int y3)] [] σ2 μ2) : fs_PW X 1112 [some (.ref 1000), some (.ref 0), some (.ref 51), some (.int y3)] [] σ μ := by
  refine s_aload_n hX dL_law_1112 rfl ?_
  refine s_aload_n hX dL_law_1113 rfl ?_
  refine s_iload_n hX dL_law_1114 rfl ?_
  refine s_ic hX (1 : Int32) dL_law_1115 (by decide) ?_
  refine s_iadd hX dL_law_1116 ?_
  refine s_sld hX hs dL_law_1117 hb1 ?_
  refine s_aload_n hX dL_law_1118 rfl ?_
  refine s_iload_n hX dL_law_1119 rfl ?_
  refine s_ic hX (2 : Int32) dL_law_1120 (by decide) ?_
  refine s_iadd hX dL_law_1121 ?_
  refine s_sld hX hs dL_law_1122 hb2 ?_
  refine s_aload_n hX dL_law_1123 rfl ?_
  refine s_iload_n hX dL_law_1124 rfl ?_
  refine s_ic hX (3 : Int32) dL_law_1125 (by decide) ?_
  refine s_iadd hX dL_law_1126 ?_
  refine s_sld hX hs dL_law_1127 hb3 ?_
  refine s_cV hX [.int (xs (y3 + (1 : Int32)).toNatClampNeg), .int (xs (y3 + (2 : Int32)).toNatClampNeg), .int (xs (y3 + (3 : Int32)).toNatClampNeg)] dL_law_1128 k_L_139 v_X3_duel h1 ⟨_, rfl⟩ fs_c3 ⟨rfl, rfl⟩ ⟨(Nat.le_of_ble_eq_true rfl), (Nat.le_of_ble_eq_true rfl)⟩ rfl rfl (Nat.le_of_ble_eq_true rfl) ?_
  refine s_aload_n hX dL_law_1131 rfl ?_
  refine s_aload_n hX dL_law_1132 rfl ?_
  refine s_iload_n hX dL_law_1133 rfl ?_
  refine s_ic hX (1 : Int32) dL_law_1134 (by decide) ?_
  refine s_iadd hX dL_law_1135 ?_
  refine s_sld hX hs dL_law_1136 hb1 ?_
  refine s_aload_n hX dL_law_1137 rfl ?_
  refine s_iload_n hX dL_law_1138 rfl ?_
  refine s_ic hX (2 : Int32) dL_law_1139 (by decide) ?_
  refine s_iadd hX dL_law_1140 ?_
  refine s_sld hX hs dL_law_1141 hb2 ?_
  refine s_aload_n hX dL_law_1142 rfl ?_
  refine s_iload_n hX dL_law_1143 rfl ?_
  refine s_ic hX (3 : Int32) dL_law_1144 (by decide) ?_
  refine s_iadd hX dL_law_1145 ?_
  refine s_sld hX hs dL_law_1146 hb3 ?_
  refine s_cV hX [.int (xs (y3 + (1 : Int32)).toNatClampNeg), .int (xs (y3 + (2 : Int32)).toNatClampNeg), .int (xs (y3 + (3 : Int32)).toNatClampNeg)] dL_law_1147 k_L_142 v_X4_duel h2 ⟨_, rfl⟩ fs_c4 ⟨rfl, rfl⟩ ⟨(Nat.le_of_ble_eq_true rfl), (Nat.le_of_ble_eq_true rfl)⟩ rfl rfl (Nat.le_of_ble_eq_true rfl) ?_
  exact s_ic_eq hX 1368 dL_law_1150 (by decide) (fun _ => k) (fun z => absurd rfl z)
set_option maxRecDepth 20000 in
set_option maxHeartbeats 40000000 in
theorem lc_odds {X : fsC} (hX : fs_ok cL_law RL 4 room_1 X) {b Ln : Nat} {xs : Nat → Int32} (hs : fs_scr b Ln xs X) {y3 : Int32} (hb1 : vp_in (y3 + (1 : Int32)) Ln) (hb2 : vp_in (y3 + (2 : Int32)) Ln) (hb3 : vp_in (y3 + (3 : Int32)) Ln) {σ σ1 σ2 : fsS} {μ μ1 μ2 : fsL} {r : Int32} (h1 : fs_Met yX3_odds cX3_odds 7 (some .int) { frames := 2, cells := 0, slots := 0, locals := 52 } [.ref 0, .int (xs (y3 + (1 : Int32)).toNatClampNeg), .int (xs (y3 + (2 : Int32)).toNatClampNeg), .int (xs (y3 + (3 : Int32)).toNatClampNeg)] σ μ (some (.int r)) σ1 μ1) (h2 : fs_Met yX4_odds cX4_odds 4 (some .int) { frames := 4, cells := 0, slots := 0, locals := 100 } [.ref 51, .int (xs (y3 + (1 : Int32)).toNatClampNeg), .int (xs (y3 + (2 : Int32)).toNatClampNeg), .int (xs (y3 + (3 : Int32)).toNatClampNeg)] σ1 μ1 (some (.int r)) σ2 μ2) (k : fs_PW X 1368 [some (.ref 1000), some (.ref 0), some (.ref 51), some (.int y3)] [] σ2 μ2) : fs_PW X 1155 [some (.ref 1000), some (.ref 0), some (.ref 51), some (.int y3)] [] σ μ := by
  refine s_aload_n hX dL_law_1155 rfl ?_
  refine s_aload_n hX dL_law_1156 rfl ?_
  refine s_iload_n hX dL_law_1157 rfl ?_
  refine s_ic hX (1 : Int32) dL_law_1158 (by decide) ?_
  refine s_iadd hX dL_law_1159 ?_
  refine s_sld hX hs dL_law_1160 hb1 ?_
  refine s_aload_n hX dL_law_1161 rfl ?_
  refine s_iload_n hX dL_law_1162 rfl ?_
  refine s_ic hX (2 : Int32) dL_law_1163 (by decide) ?_
  refine s_iadd hX dL_law_1164 ?_
  refine s_sld hX hs dL_law_1165 hb2 ?_
  refine s_aload_n hX dL_law_1166 rfl ?_
  refine s_iload_n hX dL_law_1167 rfl ?_
  refine s_ic hX (3 : Int32) dL_law_1168 (by decide) ?_
  refine s_iadd hX dL_law_1169 ?_
  refine s_sld hX hs dL_law_1170 hb3 ?_
  refine s_cV hX [.int (xs (y3 + (1 : Int32)).toNatClampNeg), .int (xs (y3 + (2 : Int32)).toNatClampNeg), .int (xs (y3 + (3 : Int32)).toNatClampNeg)] dL_law_1171 k_L_143 v_X3_odds h1 ⟨_, rfl⟩ fs_c3 ⟨rfl, rfl⟩ ⟨(Nat.le_of_ble_eq_true rfl), (Nat.le_of_ble_eq_true rfl)⟩ rfl rfl (Nat.le_of_ble_eq_true rfl) ?_
  refine s_aload_n hX dL_law_1174 rfl ?_
  refine s_aload_n hX dL_law_1175 rfl ?_
  refine s_iload_n hX dL_law_1176 rfl ?_
  refine s_ic hX (1 : Int32) dL_law_1177 (by decide) ?_
  refine s_iadd hX dL_law_1178 ?_
  refine s_sld hX hs dL_law_1179 hb1 ?_
  refine s_aload_n hX dL_law_1180 rfl ?_
  refine s_iload_n hX dL_law_1181 rfl ?_
  refine s_ic hX (2 : Int32) dL_law_1182 (by decide) ?_
  refine s_iadd hX dL_law_1183 ?_
  refine s_sld hX hs dL_law_1184 hb2 ?_
  refine s_aload_n hX dL_law_1185 rfl ?_
  refine s_iload_n hX dL_law_1186 rfl ?_
  refine s_ic hX (3 : Int32) dL_law_1187 (by decide) ?_
  refine s_iadd hX dL_law_1188 ?_
  refine s_sld hX hs dL_law_1189 hb3 ?_
  refine s_cV hX [.int (xs (y3 + (1 : Int32)).toNatClampNeg), .int (xs (y3 + (2 : Int32)).toNatClampNeg), .int (xs (y3 + (3 : Int32)).toNatClampNeg)] dL_law_1190 k_L_146 v_X4_odds h2 ⟨_, rfl⟩ fs_c4 ⟨rfl, rfl⟩ ⟨(Nat.le_of_ble_eq_true rfl), (Nat.le_of_ble_eq_true rfl)⟩ rfl rfl (Nat.le_of_ble_eq_true rfl) ?_
  exact s_ic_eq hX 1368 dL_law_1193 (by decide) (fun _ => k) (fun z => absurd rfl z)
set_option maxRecDepth 20000 in
set_option maxHeartbeats 40000000 in
theorem lc_mid {X : fsC} (hX : fs_ok cL_law RL 4 room_1 X) {b Ln : Nat} {xs : Nat → Int32} (hs : fs_scr b Ln xs X) {y3 : Int32} (hb1 : vp_in (y3 + (1 : Int32)) Ln) {σ σ1 σ2 : fsS} {μ μ1 μ2 : fsL} {r : Int32} (h1 : fs_Met yX3_mid cX3_mid 5 (some .int) { frames := 3, cells := 0, slots := 0, locals := 69 } [.ref 0, .int (xs (y3 + (1 : Int32)).toNatClampNeg)] σ μ (some (.int r)) σ1 μ1) (h2 : fs_Met yX4_mid cX4_mid 2 (some .int) { frames := 4, cells := 0, slots := 0, locals := 100 } [.ref 51, .int (xs (y3 + (1 : Int32)).toNatClampNeg)] σ1 μ1 (some (.int r)) σ2 μ2) (k : fs_PW X 1368 [some (.ref 1000), some (.ref 0), some (.ref 51), some (.int y3)] [] σ2 μ2) : fs_PW X 1198 [some (.ref 1000), some (.ref 0), some (.ref 51), some (.int y3)] [] σ μ := by
  refine s_aload_n hX dL_law_1198 rfl ?_
  refine s_aload_n hX dL_law_1199 rfl ?_
  refine s_iload_n hX dL_law_1200 rfl ?_
  refine s_ic hX (1 : Int32) dL_law_1201 (by decide) ?_
  refine s_iadd hX dL_law_1202 ?_
  refine s_sld hX hs dL_law_1203 hb1 ?_
  refine s_cV hX [.int (xs (y3 + (1 : Int32)).toNatClampNeg)] dL_law_1204 k_L_147 v_X3_mid h1 ⟨_, rfl⟩ fs_c3 ⟨rfl, rfl⟩ ⟨(Nat.le_of_ble_eq_true rfl), (Nat.le_of_ble_eq_true rfl)⟩ rfl rfl (Nat.le_of_ble_eq_true rfl) ?_
  refine s_aload_n hX dL_law_1207 rfl ?_
  refine s_aload_n hX dL_law_1208 rfl ?_
  refine s_iload_n hX dL_law_1209 rfl ?_
  refine s_ic hX (1 : Int32) dL_law_1210 (by decide) ?_
  refine s_iadd hX dL_law_1211 ?_
  refine s_sld hX hs dL_law_1212 hb1 ?_
  refine s_cV hX [.int (xs (y3 + (1 : Int32)).toNatClampNeg)] dL_law_1213 k_L_150 v_X4_mid h2 ⟨_, rfl⟩ fs_c4 ⟨rfl, rfl⟩ ⟨(Nat.le_of_ble_eq_true rfl), (Nat.le_of_ble_eq_true rfl)⟩ rfl rfl (Nat.le_of_ble_eq_true rfl) ?_
  exact s_ic_eq hX 1368 dL_law_1216 (by decide) (fun _ => k) (fun z => absurd rfl z)
set_option maxRecDepth 20000 in
set_option maxHeartbeats 40000000 in
theorem lc_lots {X : fsC} (hX : fs_ok cL_law RL 4 room_1 X) {b Ln : Nat} {xs : Nat → Int32} (hs : fs_scr b Ln xs X) {y3 : Int32} (hb1 : vp_in (y3 + (1 : Int32)) Ln) (hb2 : vp_in (y3 + (2 : Int32)) Ln) {σ σ1 σ2 : fsS} {μ μ1 μ2 : fsL} {r : Int32} (h1 : fs_Met yX3_lots cX3_lots 6 (some .int) { frames := 5, cells := 0, slots := 0, locals := 115 } [.ref 0, .int (xs (y3 + (1 : Int32)).toNatClampNeg), .int (xs (y3 + (2 : Int32)).toNatClampNeg)] σ μ (some (.int r)) σ1 μ1) (h2 : fs_Met yX4_lots cX4_lots 7 (some .int) { frames := 5, cells := 0, slots := 0, locals := 116 } [.ref 51, .int (xs (y3 + (1 : Int32)).toNatClampNeg), .int (xs (y3 + (2 : Int32)).toNatClampNeg)] σ1 μ1 (some (.int r)) σ2 μ2) (k : fs_PW X 1368 [some (.ref 1000), some (.ref 0), some (.ref 51), some (.int y3)] [] σ2 μ2) : fs_PW X 1221 [some (.ref 1000), some (.ref 0), some (.ref 51), some (.int y3)] [] σ μ := by
  refine s_aload_n hX dL_law_1221 rfl ?_
  refine s_aload_n hX dL_law_1222 rfl ?_
  refine s_iload_n hX dL_law_1223 rfl ?_
  refine s_ic hX (1 : Int32) dL_law_1224 (by decide) ?_
  refine s_iadd hX dL_law_1225 ?_
  refine s_sld hX hs dL_law_1226 hb1 ?_
  refine s_aload_n hX dL_law_1227 rfl ?_
  refine s_iload_n hX dL_law_1228 rfl ?_
  refine s_ic hX (2 : Int32) dL_law_1229 (by decide) ?_
  refine s_iadd hX dL_law_1230 ?_
  refine s_sld hX hs dL_law_1231 hb2 ?_
  refine s_cV hX [.int (xs (y3 + (1 : Int32)).toNatClampNeg), .int (xs (y3 + (2 : Int32)).toNatClampNeg)] dL_law_1232 k_L_151 v_X3_lots h1 ⟨_, rfl⟩ fs_c3 ⟨rfl, rfl⟩ ⟨(Nat.le_of_ble_eq_true rfl), (Nat.le_of_ble_eq_true rfl)⟩ rfl rfl (Nat.le_of_ble_eq_true rfl) ?_
  refine s_aload_n hX dL_law_1235 rfl ?_
  refine s_aload_n hX dL_law_1236 rfl ?_
  refine s_iload_n hX dL_law_1237 rfl ?_
  refine s_ic hX (1 : Int32) dL_law_1238 (by decide) ?_
  refine s_iadd hX dL_law_1239 ?_
  refine s_sld hX hs dL_law_1240 hb1 ?_
  refine s_aload_n hX dL_law_1241 rfl ?_
  refine s_iload_n hX dL_law_1242 rfl ?_
  refine s_ic hX (2 : Int32) dL_law_1243 (by decide) ?_
  refine s_iadd hX dL_law_1244 ?_
  refine s_sld hX hs dL_law_1245 hb2 ?_
  refine s_cV hX [.int (xs (y3 + (1 : Int32)).toNatClampNeg), .int (xs (y3 + (2 : Int32)).toNatClampNeg)] dL_law_1246 k_L_154 v_X4_lots h2 ⟨_, rfl⟩ fs_c4 ⟨rfl, rfl⟩ ⟨(Nat.le_of_ble_eq_true rfl), (Nat.le_of_ble_eq_true rfl)⟩ rfl rfl (Nat.le_of_ble_eq_true rfl) ?_
  exact s_ic_eq hX 1368 dL_law_1249 (by decide) (fun _ => k) (fun z => absurd rfl z)
set_option maxRecDepth 20000 in
set_option maxHeartbeats 40000000 in
theorem lc_asked {X : fsC} (hX : fs_ok cL_law RL 4 room_1 X) {b Ln : Nat} {xs : Nat → Int32} (hs : fs_scr b Ln xs X) {y3 : Int32}  {σ σ1 σ2 : fsS} {μ μ1 μ2 : fsL} {r : Int32} (h1 : fs_Met yX3_asked cX3_asked 1 (some .int) { frames := 0, cells := 0, slots := 0, locals := 0 } [.ref 0] σ μ (some (.int r)) σ1 μ1) (h2 : fs_Met yX4_asked cX4_asked 1 (some .int) { frames := 0, cells := 0, slots := 0, locals := 0 } [.ref 51] σ1 μ1 (some (.int r)) σ2 μ2) (k : fs_PW X 1368 [some (.ref 1000), some (.ref 0), some (.ref 51), some (.int y3)] [] σ2 μ2) : fs_PW X 1254 [some (.ref 1000), some (.ref 0), some (.ref 51), some (.int y3)] [] σ μ := by
  refine s_aload_n hX dL_law_1254 rfl ?_
  refine s_cV hX [] dL_law_1255 k_L_155 v_X3_asked h1 ⟨_, rfl⟩ fs_c3 ⟨rfl, rfl⟩ ⟨(Nat.le_of_ble_eq_true rfl), (Nat.le_of_ble_eq_true rfl)⟩ rfl rfl (Nat.le_of_ble_eq_true rfl) ?_
  refine s_aload_n hX dL_law_1258 rfl ?_
  refine s_cV hX [] dL_law_1259 k_L_158 v_X4_asked h2 ⟨_, rfl⟩ fs_c4 ⟨rfl, rfl⟩ ⟨(Nat.le_of_ble_eq_true rfl), (Nat.le_of_ble_eq_true rfl)⟩ rfl rfl (Nat.le_of_ble_eq_true rfl) ?_
  exact s_ic_eq hX 1368 dL_law_1262 (by decide) (fun _ => k) (fun z => absurd rfl z)
set_option maxRecDepth 20000 in
set_option maxHeartbeats 40000000 in
theorem lc_upper {X : fsC} (hX : fs_ok cL_law RL 4 room_1 X) {b Ln : Nat} {xs : Nat → Int32} (hs : fs_scr b Ln xs X) {y3 : Int32}  {σ σ1 σ2 : fsS} {μ μ1 μ2 : fsL} {r : Int64} (h1 : fs_Met yX3_upper cX3_upper 1 (some .long) { frames := 0, cells := 0, slots := 0, locals := 0 } [.ref 0] σ μ (some (.long r)) σ1 μ1) (h2 : fs_Met yX4_upper cX4_upper 1 (some .long) { frames := 0, cells := 0, slots := 0, locals := 0 } [.ref 51] σ1 μ1 (some (.long r)) σ2 μ2) (k : fs_PW X 1368 [some (.ref 1000), some (.ref 0), some (.ref 51), some (.int y3)] [] σ2 μ2) : fs_PW X 1267 [some (.ref 1000), some (.ref 0), some (.ref 51), some (.int y3)] [] σ μ := by
  refine s_aload_n hX dL_law_1267 rfl ?_
  refine s_cV hX [] dL_law_1268 k_L_159 v_X3_upper h1 ⟨_, rfl⟩ fs_c3 ⟨rfl, rfl⟩ ⟨(Nat.le_of_ble_eq_true rfl), (Nat.le_of_ble_eq_true rfl)⟩ rfl rfl (Nat.le_of_ble_eq_true rfl) ?_
  refine s_aload_n hX dL_law_1271 rfl ?_
  refine s_cV hX [] dL_law_1272 k_L_163 v_X4_upper h2 ⟨_, rfl⟩ fs_c4 ⟨rfl, rfl⟩ ⟨(Nat.le_of_ble_eq_true rfl), (Nat.le_of_ble_eq_true rfl)⟩ rfl rfl (Nat.le_of_ble_eq_true rfl) ?_
  refine s_lcmp hX dL_law_1275 ?_
  exact s_if_eq hX 1368 dL_law_1276 (by decide) (fun _ => k) (fun z => absurd (fs_cmp_eq.mpr rfl) z)
set_option maxRecDepth 20000 in
set_option maxHeartbeats 40000000 in
theorem lc_lower {X : fsC} (hX : fs_ok cL_law RL 4 room_1 X) {b Ln : Nat} {xs : Nat → Int32} (hs : fs_scr b Ln xs X) {y3 : Int32}  {σ σ1 σ2 : fsS} {μ μ1 μ2 : fsL} {r : Int64} (h1 : fs_Met yX3_lower cX3_lower 1 (some .long) { frames := 0, cells := 0, slots := 0, locals := 0 } [.ref 0] σ μ (some (.long r)) σ1 μ1) (h2 : fs_Met yX4_lower cX4_lower 1 (some .long) { frames := 0, cells := 0, slots := 0, locals := 0 } [.ref 51] σ1 μ1 (some (.long r)) σ2 μ2) (k : fs_PW X 1368 [some (.ref 1000), some (.ref 0), some (.ref 51), some (.int y3)] [] σ2 μ2) : fs_PW X 1281 [some (.ref 1000), some (.ref 0), some (.ref 51), some (.int y3)] [] σ μ := by
  refine s_aload_n hX dL_law_1281 rfl ?_
  refine s_cV hX [] dL_law_1282 k_L_164 v_X3_lower h1 ⟨_, rfl⟩ fs_c3 ⟨rfl, rfl⟩ ⟨(Nat.le_of_ble_eq_true rfl), (Nat.le_of_ble_eq_true rfl)⟩ rfl rfl (Nat.le_of_ble_eq_true rfl) ?_
  refine s_aload_n hX dL_law_1285 rfl ?_
  refine s_cV hX [] dL_law_1286 k_L_167 v_X4_lower h2 ⟨_, rfl⟩ fs_c4 ⟨rfl, rfl⟩ ⟨(Nat.le_of_ble_eq_true rfl), (Nat.le_of_ble_eq_true rfl)⟩ rfl rfl (Nat.le_of_ble_eq_true rfl) ?_
  refine s_lcmp hX dL_law_1289 ?_
  exact s_if_eq hX 1368 dL_law_1290 (by decide) (fun _ => k) (fun z => absurd (fs_cmp_eq.mpr rfl) z)
set_option maxRecDepth 20000 in
set_option maxHeartbeats 40000000 in
theorem lc_count {X : fsC} (hX : fs_ok cL_law RL 4 room_1 X) {b Ln : Nat} {xs : Nat → Int32} (hs : fs_scr b Ln xs X) {y3 : Int32} (hb1 : vp_in (y3 + (1 : Int32)) Ln) {σ σ1 σ2 : fsS} {μ μ1 μ2 : fsL} {r : Int32} (h1 : fs_Met yX3_count cX3_count 2 (some .int) { frames := 4, cells := 0, slots := 0, locals := 89 } [.ref 0, .int (xs (y3 + (1 : Int32)).toNatClampNeg)] σ μ (some (.int r)) σ1 μ1) (h2 : fs_Met yX4_count cX4_count 2 (some .int) { frames := 3, cells := 0, slots := 0, locals := 70 } [.ref 51, .int (xs (y3 + (1 : Int32)).toNatClampNeg)] σ1 μ1 (some (.int r)) σ2 μ2) (k : fs_PW X 1368 [some (.ref 1000), some (.ref 0), some (.ref 51), some (.int y3)] [] σ2 μ2) : fs_PW X 1295 [some (.ref 1000), some (.ref 0), some (.ref 51), some (.int y3)] [] σ μ := by
  refine s_aload_n hX dL_law_1295 rfl ?_
  refine s_aload_n hX dL_law_1296 rfl ?_
  refine s_iload_n hX dL_law_1297 rfl ?_
  refine s_ic hX (1 : Int32) dL_law_1298 (by decide) ?_
  refine s_iadd hX dL_law_1299 ?_
  refine s_sld hX hs dL_law_1300 hb1 ?_
  refine s_cV hX [.int (xs (y3 + (1 : Int32)).toNatClampNeg)] dL_law_1301 k_L_168 v_X3_count h1 ⟨_, rfl⟩ fs_c3 ⟨rfl, rfl⟩ ⟨(Nat.le_of_ble_eq_true rfl), (Nat.le_of_ble_eq_true rfl)⟩ rfl rfl (Nat.le_of_ble_eq_true rfl) ?_
  refine s_aload_n hX dL_law_1304 rfl ?_
  refine s_aload_n hX dL_law_1305 rfl ?_
  refine s_iload_n hX dL_law_1306 rfl ?_
  refine s_ic hX (1 : Int32) dL_law_1307 (by decide) ?_
  refine s_iadd hX dL_law_1308 ?_
  refine s_sld hX hs dL_law_1309 hb1 ?_
  refine s_cV hX [.int (xs (y3 + (1 : Int32)).toNatClampNeg)] dL_law_1310 k_L_171 v_X4_count h2 ⟨_, rfl⟩ fs_c4 ⟨rfl, rfl⟩ ⟨(Nat.le_of_ble_eq_true rfl), (Nat.le_of_ble_eq_true rfl)⟩ rfl rfl (Nat.le_of_ble_eq_true rfl) ?_
  exact s_ic_eq hX 1368 dL_law_1313 (by decide) (fun _ => k) (fun z => absurd rfl z)
set_option maxRecDepth 20000 in
set_option maxHeartbeats 40000000 in
theorem lc_finding {X : fsC} (hX : fs_ok cL_law RL 4 room_1 X) {b Ln : Nat} {xs : Nat → Int32} (hs : fs_scr b Ln xs X) {y3 : Int32}  {σ σ1 σ2 : fsS} {μ μ1 μ2 : fsL} {r : Int32} (h1 : fs_Met yX3_finding cX3_finding 1 (some .int) { frames := 0, cells := 0, slots := 0, locals := 0 } [.ref 0] σ μ (some (.int r)) σ1 μ1) (h2 : fs_Met yX4_finding cX4_finding 1 (some .int) { frames := 0, cells := 0, slots := 0, locals := 0 } [.ref 51] σ1 μ1 (some (.int r)) σ2 μ2) (k : fs_PW X 1368 [some (.ref 1000), some (.ref 0), some (.ref 51), some (.int y3)] [] σ2 μ2) : fs_PW X 1318 [some (.ref 1000), some (.ref 0), some (.ref 51), some (.int y3)] [] σ μ := by
  refine s_aload_n hX dL_law_1318 rfl ?_
  refine s_cV hX [] dL_law_1319 k_L_172 v_X3_finding h1 ⟨_, rfl⟩ fs_c3 ⟨rfl, rfl⟩ ⟨(Nat.le_of_ble_eq_true rfl), (Nat.le_of_ble_eq_true rfl)⟩ rfl rfl (Nat.le_of_ble_eq_true rfl) ?_
  refine s_aload_n hX dL_law_1322 rfl ?_
  refine s_cV hX [] dL_law_1323 k_L_175 v_X4_finding h2 ⟨_, rfl⟩ fs_c4 ⟨rfl, rfl⟩ ⟨(Nat.le_of_ble_eq_true rfl), (Nat.le_of_ble_eq_true rfl)⟩ rfl rfl (Nat.le_of_ble_eq_true rfl) ?_
  exact s_ic_eq hX 1368 dL_law_1326 (by decide) (fun _ => k) (fun z => absurd rfl z)
set_option maxRecDepth 20000 in
set_option maxHeartbeats 40000000 in
theorem lc_findings {X : fsC} (hX : fs_ok cL_law RL 4 room_1 X) {b Ln : Nat} {xs : Nat → Int32} (hs : fs_scr b Ln xs X) {y3 : Int32} (hb1 : vp_in (y3 + (1 : Int32)) Ln) {σ σ1 σ2 : fsS} {μ μ1 μ2 : fsL} {r : Int32} (h1 : fs_Met yX3_findings cX3_findings 2 (some .int) { frames := 0, cells := 0, slots := 0, locals := 0 } [.ref 0, .int (xs (y3 + (1 : Int32)).toNatClampNeg)] σ μ (some (.int r)) σ1 μ1) (h2 : fs_Met yX4_findings cX4_findings 2 (some .int) { frames := 1, cells := 0, slots := 0, locals := 25 } [.ref 51, .int (xs (y3 + (1 : Int32)).toNatClampNeg)] σ1 μ1 (some (.int r)) σ2 μ2) (k : fs_PW X 1368 [some (.ref 1000), some (.ref 0), some (.ref 51), some (.int y3)] [] σ2 μ2) : fs_PW X 1331 [some (.ref 1000), some (.ref 0), some (.ref 51), some (.int y3)] [] σ μ := by
  refine s_aload_n hX dL_law_1331 rfl ?_
  refine s_aload_n hX dL_law_1332 rfl ?_
  refine s_iload_n hX dL_law_1333 rfl ?_
  refine s_ic hX (1 : Int32) dL_law_1334 (by decide) ?_
  refine s_iadd hX dL_law_1335 ?_
  refine s_sld hX hs dL_law_1336 hb1 ?_
  refine s_cV hX [.int (xs (y3 + (1 : Int32)).toNatClampNeg)] dL_law_1337 k_L_176 v_X3_findings h1 ⟨_, rfl⟩ fs_c3 ⟨rfl, rfl⟩ ⟨(Nat.le_of_ble_eq_true rfl), (Nat.le_of_ble_eq_true rfl)⟩ rfl rfl (Nat.le_of_ble_eq_true rfl) ?_
  refine s_aload_n hX dL_law_1340 rfl ?_
  refine s_aload_n hX dL_law_1341 rfl ?_
  refine s_iload_n hX dL_law_1342 rfl ?_
  refine s_ic hX (1 : Int32) dL_law_1343 (by decide) ?_
  refine s_iadd hX dL_law_1344 ?_
  refine s_sld hX hs dL_law_1345 hb1 ?_
  refine s_cV hX [.int (xs (y3 + (1 : Int32)).toNatClampNeg)] dL_law_1346 k_L_179 v_X4_findings h2 ⟨_, rfl⟩ fs_c4 ⟨rfl, rfl⟩ ⟨(Nat.le_of_ble_eq_true rfl), (Nat.le_of_ble_eq_true rfl)⟩ rfl rfl (Nat.le_of_ble_eq_true rfl) ?_
  exact s_ic_eq hX 1368 dL_law_1349 (by decide) (fun _ => k) (fun z => absurd rfl z)
set_option maxRecDepth 20000 in
set_option maxHeartbeats 40000000 in
theorem lc_digest {X : fsC} (hX : fs_ok cL_law RL 4 room_1 X) {b Ln : Nat} {xs : Nat → Int32} (hs : fs_scr b Ln xs X) {y3 : Int32}  {σ σ1 σ2 : fsS} {μ μ1 μ2 : fsL} {r : Int64} (h1 : fs_Met yX3_digest cX3_digest 5 (some .long) { frames := 4, cells := 0, slots := 0, locals := 89 } [.ref 0] σ μ (some (.long r)) σ1 μ1) (h2 : fs_Met yX4_digest cX4_digest 5 (some .long) { frames := 4, cells := 0, slots := 0, locals := 92 } [.ref 51] σ1 μ1 (some (.long r)) σ2 μ2) (k : fs_PW X 1368 [some (.ref 1000), some (.ref 0), some (.ref 51), some (.int y3)] [] σ2 μ2) : fs_PW X 1354 [some (.ref 1000), some (.ref 0), some (.ref 51), some (.int y3)] [] σ μ := by
  refine s_aload_n hX dL_law_1354 rfl ?_
  refine s_cV hX [] dL_law_1355 k_L_180 v_X3_digest h1 ⟨_, rfl⟩ fs_c3 ⟨rfl, rfl⟩ ⟨(Nat.le_of_ble_eq_true rfl), (Nat.le_of_ble_eq_true rfl)⟩ rfl rfl (Nat.le_of_ble_eq_true rfl) ?_
  refine s_aload_n hX dL_law_1358 rfl ?_
  refine s_cV hX [] dL_law_1359 k_L_183 v_X4_digest h2 ⟨_, rfl⟩ fs_c4 ⟨rfl, rfl⟩ ⟨(Nat.le_of_ble_eq_true rfl), (Nat.le_of_ble_eq_true rfl)⟩ rfl rfl (Nat.le_of_ble_eq_true rfl) ?_
  refine s_lcmp hX dL_law_1362 ?_
  exact s_if_eq hX 1368 dL_law_1363 (by decide) (fun _ => k) (fun z => absurd (fs_cmp_eq.mpr rfl) z)
