-- X3_deedByLot
def F_X3_deedByLot (x1 : Int32) (σ : fsS) : Option (Int32) := if 0 < (σ 5 0) then fs_g (¬ (σ 5 0) = 0) (if (x1 - x1 / (4 : Int32) * (4 : Int32)) = (0 : Int32) then fs_g (fs_in ((x1 / (8 : Int32)) - (x1 / (8 : Int32)) / (σ 5 0) * (σ 5 0)) 6) (if (3 : Int32) ≤ (σ 25 ((x1 / (8 : Int32)) - (x1 / (8 : Int32)) / (σ 5 0) * (σ 5 0)).toNatClampNeg) then some (F_X0_deed (2 : Int32) ((x1 / (8 : Int32)) - (x1 / (8 : Int32)) / (σ 5 0) * (σ 5 0)) (0 : Int32) (0 : Int32)) else some (F_X0_deed (1 : Int32) ((x1 / (8 : Int32)) - (x1 / (8 : Int32)) / (σ 5 0) * (σ 5 0)) (0 : Int32) (0 : Int32))) else if (x1 - x1 / (4 : Int32) * (4 : Int32)) = (1 : Int32) then some (F_X0_deed (2 : Int32) ((x1 / (8 : Int32)) - (x1 / (8 : Int32)) / (σ 5 0) * (σ 5 0)) (0 : Int32) (0 : Int32)) else if (99 : Int32) ≤ (σ 3 2) then some (F_X0_deed (4 : Int32) (0 : Int32) (0 : Int32) (0 : Int32)) else some (F_X0_deed (0 : Int32) (0 : Int32) (0 : Int32) (0 : Int32))) else some (F_X0_deed (4 : Int32) (0 : Int32) (0 : Int32) (0 : Int32))
set_option maxRecDepth 20000 in
set_option maxHeartbeats 40000000 in
theorem m_X3_deedByLot (x1 : Int32)  (σ : fsS) (μ : fsL) (out : Int32) (h : F_X3_deedByLot x1 σ = some out) : fs_Met yX3_deedByLot cX3_deedByLot 4 (some .int) { frames := 1, cells := 0, slots := 0, locals := 23 } [.ref 0, .int x1] σ μ (some (.int out)) σ μ := by
  unfold F_X3_deedByLot at h
  refine fs_intro (by decide +kernel) (Nat.le_of_ble_eq_true rfl) (fun X hX hR => ?_)
  show fs_PW X 0 [some (.ref 0), some (.int x1), none, none] [] σ μ
  refine s_aload_n hX dX3_deedByLot_0 rfl ?_
  refine s_getr hX dX3_deedByLot_1 f_X3_24 rfl ?_
  refine s_getr hX dX3_deedByLot_4 f_X3_113 rfl ?_
  refine s_geti hX dX3_deedByLot_7 f_X3_116 rfl ?_
  refine s_istore_n hX dX3_deedByLot_10 (Nat.le_of_ble_eq_true rfl) ?_
  refine s_iload_n hX dX3_deedByLot_11 rfl ?_
  refine s_if_gt hX 23 dX3_deedByLot_12 (by decide) (fun c1 => ?_) (fun c1 => ?_)
  · have h := (if_pos c1).symm.trans h
    refine s_iload_n hX dX3_deedByLot_23 rfl ?_
    refine s_bi hX (8 : Int32) dX3_deedByLot_24 (by decide) ?_
    refine s_idiv hX dX3_deedByLot_26 (by decide) ?_
    refine s_iload_n hX dX3_deedByLot_27 rfl ?_
    obtain ⟨g2, h⟩ := fs_gd h
    refine s_irem hX dX3_deedByLot_28 g2 ?_
    refine s_istore_n hX dX3_deedByLot_29 (Nat.le_of_ble_eq_true rfl) ?_
    refine s_iload_n hX dX3_deedByLot_30 rfl ?_
    refine s_ic hX (4 : Int32) dX3_deedByLot_31 (by decide) ?_
    refine s_irem hX dX3_deedByLot_32 (by decide) ?_
    by_cases c3 : (x1 - x1 / (4 : Int32) * (4 : Int32)) = (0 : Int32)
    · have h := (if_pos c3).symm.trans h
      refine s_lookK hX 60 (0 : Int32) c3 dX3_deedByLot_33 (by decide) rfl (by decide) ?_
      refine s_aload_n hX dX3_deedByLot_60 rfl ?_
      refine s_getr hX dX3_deedByLot_61 f_X3_24 rfl ?_
      refine s_getr hX dX3_deedByLot_64 f_X3_113 rfl ?_
      refine s_getr hX dX3_deedByLot_67 f_X3_170 rfl ?_
      refine s_iload_n hX dX3_deedByLot_70 rfl ?_
      obtain ⟨g4, h⟩ := fs_gd h
      refine s_iald hX dX3_deedByLot_71 g4 ?_
      refine s_ic hX (3 : Int32) dX3_deedByLot_72 (by decide) ?_
      refine s_ic_ge hX 80 dX3_deedByLot_73 (by decide) (fun c5 => ?_) (fun c5 => ?_)
      · have h := (if_pos c5).symm.trans h
        refine s_ic hX (2 : Int32) dX3_deedByLot_80 (by decide) ?_
        refine s_iload_n hX dX3_deedByLot_81 rfl ?_
        refine s_ic hX (0 : Int32) dX3_deedByLot_82 (by decide) ?_
        refine s_ic hX (0 : Int32) dX3_deedByLot_83 (by decide) ?_
        refine s_callS hX (as := [.int (2 : Int32), .int ((x1 / (8 : Int32)) - (x1 / (8 : Int32)) / (σ 5 0) * (σ 5 0)), .int (0 : Int32), .int (0 : Int32)]) dX3_deedByLot_84 k_X3_160 v_X0_deed (m_X0_deed (2 : Int32) ((x1 / (8 : Int32)) - (x1 / (8 : Int32)) / (σ 5 0) * (σ 5 0)) (0 : Int32) (0 : Int32) σ μ _ rfl) ⟨rfl, rfl⟩ ⟨(Nat.le_of_ble_eq_true rfl), (Nat.le_of_ble_eq_true rfl)⟩ rfl rfl (Nat.le_of_ble_eq_true rfl) ?_
        cases h
        exact s_iret hX hR dX3_deedByLot_87
      · have h := (if_neg c5).symm.trans h
        refine s_ic hX (1 : Int32) dX3_deedByLot_76 (by decide) ?_
        refine s_goto hX 81 dX3_deedByLot_77 (by decide) ?_
        refine s_iload_n hX dX3_deedByLot_81 rfl ?_
        refine s_ic hX (0 : Int32) dX3_deedByLot_82 (by decide) ?_
        refine s_ic hX (0 : Int32) dX3_deedByLot_83 (by decide) ?_
        refine s_callS hX (as := [.int (1 : Int32), .int ((x1 / (8 : Int32)) - (x1 / (8 : Int32)) / (σ 5 0) * (σ 5 0)), .int (0 : Int32), .int (0 : Int32)]) dX3_deedByLot_84 k_X3_160 v_X0_deed (m_X0_deed (1 : Int32) ((x1 / (8 : Int32)) - (x1 / (8 : Int32)) / (σ 5 0) * (σ 5 0)) (0 : Int32) (0 : Int32) σ μ _ rfl) ⟨rfl, rfl⟩ ⟨(Nat.le_of_ble_eq_true rfl), (Nat.le_of_ble_eq_true rfl)⟩ rfl rfl (Nat.le_of_ble_eq_true rfl) ?_
        cases h
        exact s_iret hX hR dX3_deedByLot_87
    · have h := (if_neg c3).symm.trans h
      by_cases c6 : (x1 - x1 / (4 : Int32) * (4 : Int32)) = (1 : Int32)
      · have h := (if_pos c6).symm.trans h
        refine s_lookK hX 88 (1 : Int32) c6 dX3_deedByLot_33 (by decide) rfl (by decide) ?_
        refine s_ic hX (2 : Int32) dX3_deedByLot_88 (by decide) ?_
        refine s_iload_n hX dX3_deedByLot_89 rfl ?_
        refine s_ic hX (0 : Int32) dX3_deedByLot_90 (by decide) ?_
        refine s_ic hX (0 : Int32) dX3_deedByLot_91 (by decide) ?_
        refine s_callS hX (as := [.int (2 : Int32), .int ((x1 / (8 : Int32)) - (x1 / (8 : Int32)) / (σ 5 0) * (σ 5 0)), .int (0 : Int32), .int (0 : Int32)]) dX3_deedByLot_92 k_X3_160 v_X0_deed (m_X0_deed (2 : Int32) ((x1 / (8 : Int32)) - (x1 / (8 : Int32)) / (σ 5 0) * (σ 5 0)) (0 : Int32) (0 : Int32) σ μ _ rfl) ⟨rfl, rfl⟩ ⟨(Nat.le_of_ble_eq_true rfl), (Nat.le_of_ble_eq_true rfl)⟩ rfl rfl (Nat.le_of_ble_eq_true rfl) ?_
        cases h
        exact s_iret hX hR dX3_deedByLot_95
      · have h := (if_neg c6).symm.trans h
        refine s_look hX (off := 63) 96 dX3_deedByLot_33 (by decide) (by rw [lv_osw c3 (by decide)]; rw [lv_osw c6 (by decide)]; rfl) (by decide) ?_
        refine s_aload_n hX dX3_deedByLot_96 rfl ?_
        refine s_getr hX dX3_deedByLot_97 f_X3_24 rfl ?_
        refine s_geti hX dX3_deedByLot_100 f_X3_154 rfl ?_
        refine s_bi hX (99 : Int32) dX3_deedByLot_103 (by decide) ?_
        refine s_ic_ge hX 112 dX3_deedByLot_105 (by decide) (fun c7 => ?_) (fun c7 => ?_)
        · have h := (if_pos c7).symm.trans h
          refine s_ic hX (4 : Int32) dX3_deedByLot_112 (by decide) ?_
          refine s_ic hX (0 : Int32) dX3_deedByLot_113 (by decide) ?_
          refine s_ic hX (0 : Int32) dX3_deedByLot_114 (by decide) ?_
          refine s_ic hX (0 : Int32) dX3_deedByLot_115 (by decide) ?_
          refine s_callS hX (as := [.int (4 : Int32), .int (0 : Int32), .int (0 : Int32), .int (0 : Int32)]) dX3_deedByLot_116 k_X3_160 v_X0_deed (m_X0_deed (4 : Int32) (0 : Int32) (0 : Int32) (0 : Int32) σ μ _ rfl) ⟨rfl, rfl⟩ ⟨(Nat.le_of_ble_eq_true rfl), (Nat.le_of_ble_eq_true rfl)⟩ rfl rfl (Nat.le_of_ble_eq_true rfl) ?_
          cases h
          exact s_iret hX hR dX3_deedByLot_119
        · have h := (if_neg c7).symm.trans h
          refine s_ic hX (0 : Int32) dX3_deedByLot_108 (by decide) ?_
          refine s_goto hX 113 dX3_deedByLot_109 (by decide) ?_
          refine s_ic hX (0 : Int32) dX3_deedByLot_113 (by decide) ?_
          refine s_ic hX (0 : Int32) dX3_deedByLot_114 (by decide) ?_
          refine s_ic hX (0 : Int32) dX3_deedByLot_115 (by decide) ?_
          refine s_callS hX (as := [.int (0 : Int32), .int (0 : Int32), .int (0 : Int32), .int (0 : Int32)]) dX3_deedByLot_116 k_X3_160 v_X0_deed (m_X0_deed (0 : Int32) (0 : Int32) (0 : Int32) (0 : Int32) σ μ _ rfl) ⟨rfl, rfl⟩ ⟨(Nat.le_of_ble_eq_true rfl), (Nat.le_of_ble_eq_true rfl)⟩ rfl rfl (Nat.le_of_ble_eq_true rfl) ?_
          cases h
          exact s_iret hX hR dX3_deedByLot_119
  · have h := (if_neg c1).symm.trans h
    refine s_ic hX (4 : Int32) dX3_deedByLot_15 (by decide) ?_
    refine s_ic hX (0 : Int32) dX3_deedByLot_16 (by decide) ?_
    refine s_ic hX (0 : Int32) dX3_deedByLot_17 (by decide) ?_
    refine s_ic hX (0 : Int32) dX3_deedByLot_18 (by decide) ?_
    refine s_callS hX (as := [.int (4 : Int32), .int (0 : Int32), .int (0 : Int32), .int (0 : Int32)]) dX3_deedByLot_19 k_X3_160 v_X0_deed (m_X0_deed (4 : Int32) (0 : Int32) (0 : Int32) (0 : Int32) σ μ _ rfl) ⟨rfl, rfl⟩ ⟨(Nat.le_of_ble_eq_true rfl), (Nat.le_of_ble_eq_true rfl)⟩ rfl rfl (Nat.le_of_ble_eq_true rfl) ?_
    cases h
    exact s_iret hX hR dX3_deedByLot_22

-- X3_lots
def L_X3_lots_55  : Nat → Int32 → Int64 → Int32 → fsS → Option (fsS)
  | 0, _, _, _, _ => none
  | n0 + 1, y1, y3, y5, σ => if y1 ≤ y5 then some σ else (F_X3_deedByLot (((y3 * (48271 : Int64)) - (y3 * (48271 : Int64)) / (2147483647 : Int64) * (2147483647 : Int64)).toInt32) σ).bind (fun q8 => (F_X0_enter q8 σ).bind (fun q9 => L_X3_lots_55  n0 y1 ((y3 * (48271 : Int64)) - (y3 * (48271 : Int64)) / (2147483647 : Int64) * (2147483647 : Int64)) (y5 + (1 : Int32)) q9))
def F_X3_lots (x1 : Int32) (x2 : Int32) (σ : fsS) : Option (Int32 × fsS) := if x1 < (1 : Int32) then some ((-1 : Int32), σ) else if (20 : Int32) < x1 then some ((-1 : Int32), σ) else if x2 < (1 : Int32) then some ((-1 : Int32), σ) else if x2 < (2147483647 : Int32) then if (F_X3_noKin  σ) = 0 then if (F_X0_wouldOverflow x1 σ) = 0 then (L_X3_lots_55  fs_fu x1 (x2.toInt64) (0 : Int32) σ).bind (fun q10 => (F_X1_allPurses 5 q10).bind (fun q11 => some (q11, q10))) else some ((-2 : Int32), σ) else some ((-4 : Int32), σ) else some ((-1 : Int32), σ)
set_option maxRecDepth 20000 in
set_option maxHeartbeats 40000000 in
theorem l_X3_lots_55   {X : fsC} (hX : fs_ok cX3_lots RX3 6 { frames := 5, cells := 0, slots := 0, locals := 115 } X) : ∀ (n : Nat) (y1 : Int32) (y3 : Int64) (y5 : Int32) (σ : fsS) (μ : fsL) (out : fsS) (_ : L_X3_lots_55  n y1 y3 y5 σ = some out) (k0 : fs_PW X 90 [some (.ref 0), none, none, none, none, none] [] out μ), fs_PW X 55 [some (.ref 0), some (.int y1), none, some (.long y3), none, some (.int y5)] [] σ μ := by
  intro n
  induction n with
  | zero =>
    intro y1 y3 y5 σ μ out h
    cases (show (none : Option (fsS)) = some out from h)
  | succ n0 ih =>
    intro y1 y3 y5 σ μ out h k0
    unfold L_X3_lots_55 at h
    refine s_iload hX dX3_lots_55 rfl ?_
    refine s_iload_n hX dX3_lots_57 rfl ?_
    refine s_ic_ge hX 90 dX3_lots_58 (by decide) (fun c7 => ?_) (fun c7 => ?_)
    · have h := (if_pos c7).symm.trans h
      cases h
      refine fs_ma [true, false, false, false, false, false] ?_
      exact k0
    · have h := (if_neg c7).symm.trans h
      refine s_lload_n hX dX3_lots_61 rfl ?_
      refine s_ldc2 hX (48271 : Int64) dX3_lots_62 q_X3_271 ?_
      refine s_lmul hX dX3_lots_65 ?_
      refine s_ldc2 hX (2147483647 : Int64) dX3_lots_66 q_X3_273 ?_
      refine s_lrem hX dX3_lots_69 (by decide) ?_
      refine s_lstore_n hX dX3_lots_70 (Nat.le_of_ble_eq_true rfl) ?_
      refine s_aload_n hX dX3_lots_71 rfl ?_
      refine s_getr hX dX3_lots_72 f_X3_24 rfl ?_
      refine s_aload_n hX dX3_lots_75 rfl ?_
      refine s_lload_n hX dX3_lots_76 rfl ?_
      refine s_l2i hX dX3_lots_77 ?_
      obtain ⟨q8, e8, h⟩ := fs_bind h
      refine s_cV hX [.int (((y3 * (48271 : Int64)) - (y3 * (48271 : Int64)) / (2147483647 : Int64) * (2147483647 : Int64)).toInt32)] dX3_lots_78 k_X3_275 v_X3_deedByLot (m_X3_deedByLot (((y3 * (48271 : Int64)) - (y3 * (48271 : Int64)) / (2147483647 : Int64) * (2147483647 : Int64)).toInt32) σ μ q8 e8) ⟨_, rfl⟩ fs_c3 ⟨rfl, rfl⟩ ⟨(Nat.le_of_ble_eq_true rfl), (Nat.le_of_ble_eq_true rfl)⟩ rfl rfl (Nat.le_of_ble_eq_true rfl) ?_
      obtain ⟨q9, e9, h⟩ := fs_bind h
      refine s_cV hX [.int q8] dX3_lots_81 k_X3_163 v_X0_enter (m_X0_enter q8 σ μ q9 e9) ⟨_, rfl⟩ fs_c0 ⟨rfl, rfl⟩ ⟨(Nat.le_of_ble_eq_true rfl), (Nat.le_of_ble_eq_true rfl)⟩ rfl rfl (Nat.le_of_ble_eq_true rfl) ?_
      refine s_iinc hX (y5 + (1 : Int32)) dX3_lots_84 rfl rfl (Nat.le_of_ble_eq_true rfl) ?_
      refine s_goto hX 55 dX3_lots_87 (by decide) ?_
      refine fs_ma [true, true, false, true, false, true] ?_
      exact ih y1 ((y3 * (48271 : Int64)) - (y3 * (48271 : Int64)) / (2147483647 : Int64) * (2147483647 : Int64)) (y5 + (1 : Int32)) q9 μ out h k0
set_option maxRecDepth 20000 in
set_option maxHeartbeats 40000000 in
theorem m_X3_lots (x1 : Int32) (x2 : Int32)  (σ : fsS) (μ : fsL) (out : Int32 × fsS) (h : F_X3_lots x1 x2 σ = some out) : fs_Met yX3_lots cX3_lots 6 (some .int) { frames := 5, cells := 0, slots := 0, locals := 115 } [.ref 0, .int x1, .int x2] σ μ (some (.int out.1)) out.2 μ := by
  unfold F_X3_lots at h
  refine fs_intro (by decide +kernel) (Nat.le_of_ble_eq_true rfl) (fun X hX hR => ?_)
  show fs_PW X 0 [some (.ref 0), some (.int x1), some (.int x2), none, none, none] [] σ μ
  refine s_iload_n hX dX3_lots_0 rfl ?_
  refine s_ic hX (1 : Int32) dX3_lots_1 (by decide) ?_
  refine s_ic_lt hX 23 dX3_lots_2 (by decide) (fun c1 => ?_) (fun c1 => ?_)
  · have h := (if_pos c1).symm.trans h
    refine s_ic hX (-1 : Int32) dX3_lots_23 (by decide) ?_
    cases h
    exact s_iret hX hR dX3_lots_24
  · have h := (if_neg c1).symm.trans h
    refine s_iload_n hX dX3_lots_5 rfl ?_
    refine s_bi hX (20 : Int32) dX3_lots_6 (by decide) ?_
    refine s_ic_gt hX 23 dX3_lots_8 (by decide) (fun c2 => ?_) (fun c2 => ?_)
    · have h := (if_pos c2).symm.trans h
      refine s_ic hX (-1 : Int32) dX3_lots_23 (by decide) ?_
      cases h
      exact s_iret hX hR dX3_lots_24
    · have h := (if_neg c2).symm.trans h
      refine s_iload_n hX dX3_lots_11 rfl ?_
      refine s_ic hX (1 : Int32) dX3_lots_12 (by decide) ?_
      refine s_ic_lt hX 23 dX3_lots_13 (by decide) (fun c3 => ?_) (fun c3 => ?_)
      · have h := (if_pos c3).symm.trans h
        refine s_ic hX (-1 : Int32) dX3_lots_23 (by decide) ?_
        cases h
        exact s_iret hX hR dX3_lots_24
      · have h := (if_neg c3).symm.trans h
        refine s_iload_n hX dX3_lots_16 rfl ?_
        refine s_ldc_w hX (2147483647 : Int32) dX3_lots_17 q_X3_270 ?_
        refine s_ic_lt hX 25 dX3_lots_20 (by decide) (fun c4 => ?_) (fun c4 => ?_)
        · have h := (if_pos c4).symm.trans h
          refine s_aload_n hX dX3_lots_25 rfl ?_
          refine s_cV hX [] dX3_lots_26 k_X3_150 v_X3_noKin (m_X3_noKin σ μ _ rfl) ⟨_, rfl⟩ fs_c3 ⟨rfl, rfl⟩ ⟨(Nat.le_of_ble_eq_true rfl), (Nat.le_of_ble_eq_true rfl)⟩ rfl rfl (Nat.le_of_ble_eq_true rfl) ?_
          refine s_if_eq hX 35 dX3_lots_29 (by decide) (fun c5 => ?_) (fun c5 => ?_)
          · have h := (if_pos c5).symm.trans h
            refine s_aload_n hX dX3_lots_35 rfl ?_
            refine s_getr hX dX3_lots_36 f_X3_24 rfl ?_
            refine s_iload_n hX dX3_lots_39 rfl ?_
            refine s_cV hX [.int x1] dX3_lots_40 k_X3_157 v_X0_wouldOverflow (m_X0_wouldOverflow x1 σ μ _ rfl) ⟨_, rfl⟩ fs_c0 ⟨rfl, rfl⟩ ⟨(Nat.le_of_ble_eq_true rfl), (Nat.le_of_ble_eq_true rfl)⟩ rfl rfl (Nat.le_of_ble_eq_true rfl) ?_
            refine s_if_eq hX 49 dX3_lots_43 (by decide) (fun c6 => ?_) (fun c6 => ?_)
            · have h := (if_pos c6).symm.trans h
              refine s_iload_n hX dX3_lots_49 rfl ?_
              refine s_i2l hX dX3_lots_50 ?_
              refine s_lstore_n hX dX3_lots_51 (Nat.le_of_ble_eq_true rfl) ?_
              refine s_ic hX (0 : Int32) dX3_lots_52 (by decide) ?_
              refine s_istore hX dX3_lots_53 (Nat.le_of_ble_eq_true rfl) ?_
              obtain ⟨q10, e10, h⟩ := fs_bind h
              refine fs_ma [true, true, false, true, false, true] ?_
              refine l_X3_lots_55  hX fs_fu x1 (x2.toInt64) (0 : Int32) σ μ q10 e10 ?_
              refine s_aload_n hX dX3_lots_90 rfl ?_
              refine s_getr hX dX3_lots_91 f_X3_24 rfl ?_
              refine s_getr hX dX3_lots_94 f_X3_113 rfl ?_
              obtain ⟨q11, e11, h⟩ := fs_bind h
              refine s_cV hX [] dX3_lots_97 k_X3_278 v_X1_allPurses (m_X1_allPurses 5 fs_K5 q10 μ q11 e11) (fs_K_is fs_K5) fs_c1 ⟨rfl, rfl⟩ ⟨(Nat.le_of_ble_eq_true rfl), (Nat.le_of_ble_eq_true rfl)⟩ rfl rfl (Nat.le_of_ble_eq_true rfl) ?_
              cases h
              exact s_iret hX hR dX3_lots_100
            · have h := (if_neg c6).symm.trans h
              refine s_bi hX (-2 : Int32) dX3_lots_46 (by decide) ?_
              cases h
              exact s_iret hX hR dX3_lots_48
          · have h := (if_neg c5).symm.trans h
            refine s_bi hX (-4 : Int32) dX3_lots_32 (by decide) ?_
            cases h
            exact s_iret hX hR dX3_lots_34
        · have h := (if_neg c4).symm.trans h
          refine s_ic hX (-1 : Int32) dX3_lots_23 (by decide) ?_
          cases h
          exact s_iret hX hR dX3_lots_24

-- X3_asked
def F_X3_asked (σ : fsS) : Int32 := (σ 0 8)
set_option maxRecDepth 20000 in
set_option maxHeartbeats 40000000 in
theorem m_X3_asked   (σ : fsS) (μ : fsL) (out : Int32) (h : F_X3_asked  σ = out) : fs_Met yX3_asked cX3_asked 1 (some .int) { frames := 0, cells := 0, slots := 0, locals := 0 } [.ref 0] σ μ (some (.int out)) σ μ := by
  unfold F_X3_asked at h
  refine fs_intro (by decide +kernel) (Nat.le_of_ble_eq_true rfl) (fun X hX hR => ?_)
  show fs_PW X 0 [some (.ref 0)] [] σ μ
  refine s_aload_n hX dX3_asked_0 rfl ?_
  refine s_geti hX dX3_asked_1 f_X3_49 rfl ?_
  subst h
  exact s_iret hX hR dX3_asked_4

-- X3_upper
def F_X3_upper (μ : fsL) : Int64 := (μ 0 9)
set_option maxRecDepth 20000 in
set_option maxHeartbeats 40000000 in
theorem m_X3_upper   (σ : fsS) (μ : fsL) (out : Int64) (h : F_X3_upper  μ = out) : fs_Met yX3_upper cX3_upper 1 (some .long) { frames := 0, cells := 0, slots := 0, locals := 0 } [.ref 0] σ μ (some (.long out)) σ μ := by
  unfold F_X3_upper at h
  refine fs_intro (by decide +kernel) (Nat.le_of_ble_eq_true rfl) (fun X hX hR => ?_)
  show fs_PW X 0 [some (.ref 0)] [] σ μ
  refine s_aload_n hX dX3_upper_0 rfl ?_
  refine s_getl hX dX3_upper_1 f_X3_52 rfl ?_
  subst h
  exact s_lret hX hR dX3_upper_4

-- X3_lower
def F_X3_lower (μ : fsL) : Int64 := (μ 0 10)
set_option maxRecDepth 20000 in
set_option maxHeartbeats 40000000 in
theorem m_X3_lower   (σ : fsS) (μ : fsL) (out : Int64) (h : F_X3_lower  μ = out) : fs_Met yX3_lower cX3_lower 1 (some .long) { frames := 0, cells := 0, slots := 0, locals := 0 } [.ref 0] σ μ (some (.long out)) σ μ := by
  unfold F_X3_lower at h
  refine fs_intro (by decide +kernel) (Nat.le_of_ble_eq_true rfl) (fun X hX hR => ?_)
  show fs_PW X 0 [some (.ref 0)] [] σ μ
  refine s_aload_n hX dX3_lower_0 rfl ?_
  refine s_getl hX dX3_lower_1 f_X3_56 rfl ?_
  subst h
  exact s_lret hX hR dX3_lower_4

-- X3_counted
def F_X3_counted (x1 : Int32) (σ : fsS) : Option (Int32 × fsS) := if x1 = (0 : Int32) then some ((σ 5 0), σ) else if x1 = (1 : Int32) then some ((σ 3 2), σ) else if x1 = (2 : Int32) then some ((σ 3 3), σ) else if x1 = (3 : Int32) then (F_X1_allPurses 5 σ).bind (fun q5 => some (q5, σ)) else if x1 = (4 : Int32) then (F_X1_allSooted 5 σ).bind (fun q7 => some (q7, σ)) else if x1 = (5 : Int32) then (F_X1_highestRegard 5 σ).bind (fun q9 => some (q9.1, q9.2)) else if x1 = (6 : Int32) then (F_X2_present 1 σ).bind (fun q11 => some (q11, σ)) else if x1 = (7 : Int32) then (F_X2_present 2 σ).bind (fun q13 => some (q13, σ)) else if x1 = (8 : Int32) then (F_X0_allKept  σ).bind (fun q15 => some (q15, σ)) else if x1 = (9 : Int32) then (F_X1_allOf 5 (1 : Int32) σ).bind (fun q17 => some (q17, σ)) else (F_X1_allOf 5 (3 : Int32) σ).bind (fun q18 => some (q18, σ))
set_option maxRecDepth 20000 in
set_option maxHeartbeats 40000000 in
theorem m_X3_counted (x1 : Int32)  (σ : fsS) (μ : fsL) (out : Int32 × fsS) (h : F_X3_counted x1 σ = some out) : fs_Met yX3_counted cX3_counted 3 (some .int) { frames := 3, cells := 0, slots := 0, locals := 67 } [.ref 0, .int x1] σ μ (some (.int out.1)) out.2 μ := by
  unfold F_X3_counted at h
  refine fs_intro (by decide +kernel) (Nat.le_of_ble_eq_true rfl) (fun X hX hR => ?_)
  show fs_PW X 0 [some (.ref 0), some (.int x1), none] [] σ μ
  refine s_aload_n hX dX3_counted_0 rfl ?_
  refine s_getr hX dX3_counted_1 f_X3_24 rfl ?_
  refine s_getr hX dX3_counted_4 f_X3_113 rfl ?_
  refine s_astore_n hX dX3_counted_7 (Nat.le_of_ble_eq_true rfl) ?_
  refine s_iload_n hX dX3_counted_8 rfl ?_
  by_cases c1 : x1 = (0 : Int32)
  · have h := (if_pos c1).symm.trans h
    refine s_tabK hX 64 (0 : Int32) c1 dX3_counted_9 (by decide) (by decide) rfl (by decide) ?_
    refine s_aload_n hX dX3_counted_64 rfl ?_
    refine s_geti hX dX3_counted_65 f_X3_116 rfl ?_
    cases h
    exact s_iret hX hR dX3_counted_68
  · have h := (if_neg c1).symm.trans h
    by_cases c2 : x1 = (1 : Int32)
    · have h := (if_pos c2).symm.trans h
      refine s_tabK hX 69 (1 : Int32) c2 dX3_counted_9 (by decide) (by decide) rfl (by decide) ?_
      refine s_aload_n hX dX3_counted_69 rfl ?_
      refine s_getr hX dX3_counted_70 f_X3_24 rfl ?_
      refine s_geti hX dX3_counted_73 f_X3_154 rfl ?_
      cases h
      exact s_iret hX hR dX3_counted_76
    · have h := (if_neg c2).symm.trans h
      by_cases c3 : x1 = (2 : Int32)
      · have h := (if_pos c3).symm.trans h
        refine s_tabK hX 77 (2 : Int32) c3 dX3_counted_9 (by decide) (by decide) rfl (by decide) ?_
        refine s_aload_n hX dX3_counted_77 rfl ?_
        refine s_getr hX dX3_counted_78 f_X3_24 rfl ?_
        refine s_geti hX dX3_counted_81 f_X3_179 rfl ?_
        cases h
        exact s_iret hX hR dX3_counted_84
      · have h := (if_neg c3).symm.trans h
        by_cases c4 : x1 = (3 : Int32)
        · have h := (if_pos c4).symm.trans h
          refine s_tabK hX 85 (3 : Int32) c4 dX3_counted_9 (by decide) (by decide) rfl (by decide) ?_
          refine s_aload_n hX dX3_counted_85 rfl ?_
          obtain ⟨q5, e5, h⟩ := fs_bind h
          refine s_cV hX [] dX3_counted_86 k_X3_278 v_X1_allPurses (m_X1_allPurses 5 fs_K5 σ μ q5 e5) (fs_K_is fs_K5) fs_c1 ⟨rfl, rfl⟩ ⟨(Nat.le_of_ble_eq_true rfl), (Nat.le_of_ble_eq_true rfl)⟩ rfl rfl (Nat.le_of_ble_eq_true rfl) ?_
          cases h
          exact s_iret hX hR dX3_counted_89
        · have h := (if_neg c4).symm.trans h
          by_cases c6 : x1 = (4 : Int32)
          · have h := (if_pos c6).symm.trans h
            refine s_tabK hX 90 (4 : Int32) c6 dX3_counted_9 (by decide) (by decide) rfl (by decide) ?_
            refine s_aload_n hX dX3_counted_90 rfl ?_
            obtain ⟨q7, e7, h⟩ := fs_bind h
            refine s_cV hX [] dX3_counted_91 k_X3_305 v_X1_allSooted (m_X1_allSooted 5 fs_K5 σ μ q7 e7) (fs_K_is fs_K5) fs_c1 ⟨rfl, rfl⟩ ⟨(Nat.le_of_ble_eq_true rfl), (Nat.le_of_ble_eq_true rfl)⟩ rfl rfl (Nat.le_of_ble_eq_true rfl) ?_
            cases h
            exact s_iret hX hR dX3_counted_94
          · have h := (if_neg c6).symm.trans h
            by_cases c8 : x1 = (5 : Int32)
            · have h := (if_pos c8).symm.trans h
              refine s_tabK hX 95 (5 : Int32) c8 dX3_counted_9 (by decide) (by decide) rfl (by decide) ?_
              refine s_aload_n hX dX3_counted_95 rfl ?_
              obtain ⟨q9, e9, h⟩ := fs_bind h
              refine s_cV hX [] dX3_counted_96 k_X3_308 v_X1_highestRegard (m_X1_highestRegard 5 fs_K5 σ μ q9 e9) (fs_K_is fs_K5) fs_c1 ⟨rfl, rfl⟩ ⟨(Nat.le_of_ble_eq_true rfl), (Nat.le_of_ble_eq_true rfl)⟩ rfl rfl (Nat.le_of_ble_eq_true rfl) ?_
              cases h
              exact s_iret hX hR dX3_counted_99
            · have h := (if_neg c8).symm.trans h
              by_cases c10 : x1 = (6 : Int32)
              · have h := (if_pos c10).symm.trans h
                refine s_tabK hX 100 (6 : Int32) c10 dX3_counted_9 (by decide) (by decide) rfl (by decide) ?_
                refine s_aload_n hX dX3_counted_100 rfl ?_
                refine s_getr hX dX3_counted_101 f_X3_14 rfl ?_
                obtain ⟨q11, e11, h⟩ := fs_bind h
                refine s_cV hX [] dX3_counted_104 k_X3_311 v_X2_present (m_X2_present 1 fs_H1 σ μ q11 e11) (fs_H_is fs_H1) fs_c2 ⟨rfl, rfl⟩ ⟨(Nat.le_of_ble_eq_true rfl), (Nat.le_of_ble_eq_true rfl)⟩ rfl rfl (Nat.le_of_ble_eq_true rfl) ?_
                cases h
                exact s_iret hX hR dX3_counted_107
              · have h := (if_neg c10).symm.trans h
                by_cases c12 : x1 = (7 : Int32)
                · have h := (if_pos c12).symm.trans h
                  refine s_tabK hX 108 (7 : Int32) c12 dX3_counted_9 (by decide) (by decide) rfl (by decide) ?_
                  refine s_aload_n hX dX3_counted_108 rfl ?_
                  refine s_getr hX dX3_counted_109 f_X3_18 rfl ?_
                  obtain ⟨q13, e13, h⟩ := fs_bind h
                  refine s_cV hX [] dX3_counted_112 k_X3_311 v_X2_present (m_X2_present 2 fs_H2 σ μ q13 e13) (fs_H_is fs_H2) fs_c2 ⟨rfl, rfl⟩ ⟨(Nat.le_of_ble_eq_true rfl), (Nat.le_of_ble_eq_true rfl)⟩ rfl rfl (Nat.le_of_ble_eq_true rfl) ?_
                  cases h
                  exact s_iret hX hR dX3_counted_115
                · have h := (if_neg c12).symm.trans h
                  by_cases c14 : x1 = (8 : Int32)
                  · have h := (if_pos c14).symm.trans h
                    refine s_tabK hX 116 (8 : Int32) c14 dX3_counted_9 (by decide) (by decide) rfl (by decide) ?_
                    refine s_aload_n hX dX3_counted_116 rfl ?_
                    refine s_getr hX dX3_counted_117 f_X3_24 rfl ?_
                    obtain ⟨q15, e15, h⟩ := fs_bind h
                    refine s_cV hX [] dX3_counted_120 k_X3_314 v_X0_allKept (m_X0_allKept σ μ q15 e15) ⟨_, rfl⟩ fs_c0 ⟨rfl, rfl⟩ ⟨(Nat.le_of_ble_eq_true rfl), (Nat.le_of_ble_eq_true rfl)⟩ rfl rfl (Nat.le_of_ble_eq_true rfl) ?_
                    cases h
                    exact s_iret hX hR dX3_counted_123
                  · have h := (if_neg c14).symm.trans h
                    by_cases c16 : x1 = (9 : Int32)
                    · have h := (if_pos c16).symm.trans h
                      refine s_tabK hX 124 (9 : Int32) c16 dX3_counted_9 (by decide) (by decide) rfl (by decide) ?_
                      refine s_aload_n hX dX3_counted_124 rfl ?_
                      refine s_ic hX (1 : Int32) dX3_counted_125 (by decide) ?_
                      obtain ⟨q17, e17, h⟩ := fs_bind h
                      refine s_cV hX [.int (1 : Int32)] dX3_counted_126 k_X3_317 v_X1_allOf (m_X1_allOf 5 (1 : Int32) fs_K5 σ μ q17 e17) (fs_K_is fs_K5) fs_c1 ⟨rfl, rfl⟩ ⟨(Nat.le_of_ble_eq_true rfl), (Nat.le_of_ble_eq_true rfl)⟩ rfl rfl (Nat.le_of_ble_eq_true rfl) ?_
                      cases h
                      exact s_iret hX hR dX3_counted_129
                    · have h := (if_neg c16).symm.trans h
                      have wc1 := fs_ne (z := 0) c1 (by decide)
                      have wc2 := fs_ne (z := 1) c2 (by decide)
                      have wc3 := fs_ne (z := 2) c3 (by decide)
                      have wc4 := fs_ne (z := 3) c4 (by decide)
                      have wc6 := fs_ne (z := 4) c6 (by decide)
                      have wc8 := fs_ne (z := 5) c8 (by decide)
                      have wc10 := fs_ne (z := 6) c10 (by decide)
                      have wc12 := fs_ne (z := 7) c12 (by decide)
                      have wc14 := fs_ne (z := 8) c14 (by decide)
                      have wc16 := fs_ne (z := 9) c16 (by decide)
                      refine s_tabOut hX 130 dX3_counted_9 (by omega) (by decide) ?_
                      refine s_aload_n hX dX3_counted_130 rfl ?_
                      refine s_ic hX (3 : Int32) dX3_counted_131 (by decide) ?_
                      obtain ⟨q18, e18, h⟩ := fs_bind h
                      refine s_cV hX [.int (3 : Int32)] dX3_counted_132 k_X3_317 v_X1_allOf (m_X1_allOf 5 (3 : Int32) fs_K5 σ μ q18 e18) (fs_K_is fs_K5) fs_c1 ⟨rfl, rfl⟩ ⟨(Nat.le_of_ble_eq_true rfl), (Nat.le_of_ble_eq_true rfl)⟩ rfl rfl (Nat.le_of_ble_eq_true rfl) ?_
                      cases h
                      exact s_iret hX hR dX3_counted_135

-- X3_count
def F_X3_count (x1 : Int32) (σ : fsS) : Option (Int32 × fsS) := if x1 < 0 then some ((-1 : Int32), σ) else if x1 ≤ (10 : Int32) then (F_X3_counted x1 σ).bind (fun q3 => some (q3.1, q3.2)) else some ((-1 : Int32), σ)
set_option maxRecDepth 20000 in
set_option maxHeartbeats 40000000 in
theorem m_X3_count (x1 : Int32)  (σ : fsS) (μ : fsL) (out : Int32 × fsS) (h : F_X3_count x1 σ = some out) : fs_Met yX3_count cX3_count 2 (some .int) { frames := 4, cells := 0, slots := 0, locals := 89 } [.ref 0, .int x1] σ μ (some (.int out.1)) out.2 μ := by
  unfold F_X3_count at h
  refine fs_intro (by decide +kernel) (Nat.le_of_ble_eq_true rfl) (fun X hX hR => ?_)
  show fs_PW X 0 [some (.ref 0), some (.int x1)] [] σ μ
  refine s_iload_n hX dX3_count_0 rfl ?_
  refine s_if_lt hX 10 dX3_count_1 (by decide) (fun c1 => ?_) (fun c1 => ?_)
  · have h := (if_pos c1).symm.trans h
    refine s_ic hX (-1 : Int32) dX3_count_10 (by decide) ?_
    cases h
    exact s_iret hX hR dX3_count_11
  · have h := (if_neg c1).symm.trans h
    refine s_iload_n hX dX3_count_4 rfl ?_
    refine s_bi hX (10 : Int32) dX3_count_5 (by decide) ?_
    refine s_ic_le hX 12 dX3_count_7 (by decide) (fun c2 => ?_) (fun c2 => ?_)
    · have h := (if_pos c2).symm.trans h
      refine s_aload_n hX dX3_count_12 rfl ?_
      refine s_iload_n hX dX3_count_13 rfl ?_
      obtain ⟨q3, e3, h⟩ := fs_bind h
      refine s_cV hX [.int x1] dX3_count_14 k_X3_282 v_X3_counted (m_X3_counted x1 σ μ q3 e3) ⟨_, rfl⟩ fs_c3 ⟨rfl, rfl⟩ ⟨(Nat.le_of_ble_eq_true rfl), (Nat.le_of_ble_eq_true rfl)⟩ rfl rfl (Nat.le_of_ble_eq_true rfl) ?_
      cases h
      exact s_iret hX hR dX3_count_17
    · have h := (if_neg c2).symm.trans h
      refine s_ic hX (-1 : Int32) dX3_count_10 (by decide) ?_
      cases h
      exact s_iret hX hR dX3_count_11

-- X3_finding
def F_X3_finding (σ : fsS) : Int32 := (σ 0 7)
set_option maxRecDepth 20000 in
set_option maxHeartbeats 40000000 in
theorem m_X3_finding   (σ : fsS) (μ : fsL) (out : Int32) (h : F_X3_finding  σ = out) : fs_Met yX3_finding cX3_finding 1 (some .int) { frames := 0, cells := 0, slots := 0, locals := 0 } [.ref 0] σ μ (some (.int out)) σ μ := by
  unfold F_X3_finding at h
  refine fs_intro (by decide +kernel) (Nat.le_of_ble_eq_true rfl) (fun X hX hR => ?_)
  show fs_PW X 0 [some (.ref 0)] [] σ μ
  refine s_aload_n hX dX3_finding_0 rfl ?_
  refine s_geti hX dX3_finding_1 f_X3_45 rfl ?_
  subst h
  exact s_iret hX hR dX3_finding_4

-- X3_findings
def F_X3_findings (x1 : Int32) (σ : fsS) : Option (Int32) := if x1 < (1 : Int32) then some (-1 : Int32) else if x1 ≤ (5 : Int32) then fs_g (fs_in x1 6) (some (σ 9 x1.toNatClampNeg)) else some (-1 : Int32)
set_option maxRecDepth 20000 in
set_option maxHeartbeats 40000000 in
theorem m_X3_findings (x1 : Int32)  (σ : fsS) (μ : fsL) (out : Int32) (h : F_X3_findings x1 σ = some out) : fs_Met yX3_findings cX3_findings 2 (some .int) { frames := 0, cells := 0, slots := 0, locals := 0 } [.ref 0, .int x1] σ μ (some (.int out)) σ μ := by
  unfold F_X3_findings at h
  refine fs_intro (by decide +kernel) (Nat.le_of_ble_eq_true rfl) (fun X hX hR => ?_)
  show fs_PW X 0 [some (.ref 0), some (.int x1)] [] σ μ
  refine s_iload_n hX dX3_findings_0 rfl ?_
  refine s_ic hX (1 : Int32) dX3_findings_1 (by decide) ?_
  refine s_ic_lt hX 10 dX3_findings_2 (by decide) (fun c1 => ?_) (fun c1 => ?_)
  · have h := (if_pos c1).symm.trans h
    refine s_ic hX (-1 : Int32) dX3_findings_10 (by decide) ?_
    cases h
    exact s_iret hX hR dX3_findings_11
  · have h := (if_neg c1).symm.trans h
    refine s_iload_n hX dX3_findings_5 rfl ?_
    refine s_ic hX (5 : Int32) dX3_findings_6 (by decide) ?_
    refine s_ic_le hX 12 dX3_findings_7 (by decide) (fun c2 => ?_) (fun c2 => ?_)
    · have h := (if_pos c2).symm.trans h
      refine s_aload_n hX dX3_findings_12 rfl ?_
      refine s_getr hX dX3_findings_13 f_X3_42 rfl ?_
      refine s_iload_n hX dX3_findings_16 rfl ?_
      obtain ⟨g3, h⟩ := fs_gd h
      refine s_iald hX dX3_findings_17 g3 ?_
      cases h
      exact s_iret hX hR dX3_findings_18
    · have h := (if_neg c2).symm.trans h
      refine s_ic hX (-1 : Int32) dX3_findings_10 (by decide) ?_
      cases h
      exact s_iret hX hR dX3_findings_11

-- X3_digest
def L_X3_digest_6  : Nat → Int64 → Int32 → fsS → Option (Int64 × fsS)
  | 0, _, _, _ => none
  | n0 + 1, y1, y3, σ => if (10 : Int32) < y3 then some (y1, σ) else (F_X3_counted y3 σ).bind (fun q2 => L_X3_digest_6  n0 (((31 : Int64) * y1) + (q2.1.toInt64)) (y3 + (1 : Int32)) q2.2)
def L_X3_digest_50  : Nat → Int64 → Int32 → Int32 → fsS → Option (Int64 × fsS)
  | 0, _, _, _, _ => none
  | n0 + 1, y1, y3, y4, σ => if (6 : Int32) < y4 then some (y1, σ) else (F_X3_ofOne y3 y4 σ).bind (fun q6 => L_X3_digest_50  n0 (((31 : Int64) * y1) + (q6.1.toInt64)) y3 (y4 + (1 : Int32)) q6.2)
def L_X3_digest_33  : Nat → Int64 → Int32 → fsS → Option (Int64 × fsS)
  | 0, _, _, _ => none
  | n0 + 1, y1, y3, σ => if (σ 5 0) ≤ y3 then some (y1, σ) else (L_X3_digest_50  fs_fu y1 y3 (0 : Int32) σ).bind (fun q7 => L_X3_digest_33  n0 q7.1 (y3 + (1 : Int32)) q7.2)
def L_X3_digest_86  : Nat → Int64 → Int32 → fsS → Option (Int64)
  | 0, _, _, _ => none
  | n0 + 1, y1, y3, σ => if (3 : Int32) ≤ y3 then some y1 else fs_g (fs_in y3 3) (L_X3_digest_86  n0 (((31 : Int64) * y1) + ((σ 13 y3.toNatClampNeg).toInt64)) (y3 + (1 : Int32)) σ)
def F_X3_digest (σ : fsS) : Option (Int64 × fsS) := (L_X3_digest_6  fs_fu (17 : Int64) (0 : Int32) σ).bind (fun q3 => (L_X3_digest_33  fs_fu q3.1 (0 : Int32) q3.2).bind (fun q8 => (L_X3_digest_86  fs_fu q8.1 (0 : Int32) q8.2).bind (fun q11 => (F_X2_mixInto 1 q11 q8.2).bind (fun q12 => (F_X2_mixInto 2 q12 q8.2).bind (fun q13 => some (q13, q8.2))))))
set_option maxRecDepth 20000 in
set_option maxHeartbeats 40000000 in
theorem l_X3_digest_6   {X : fsC} (hX : fs_ok cX3_digest RX3 5 { frames := 4, cells := 0, slots := 0, locals := 89 } X) : ∀ (n : Nat) (y1 : Int64) (y3 : Int32) (σ : fsS) (μ : fsL) (out : Int64 × fsS) (_ : L_X3_digest_6  n y1 y3 σ = some out) (k0 : fs_PW X 31 [some (.ref 0), some (.long out.1), none, none, none] [] out.2 μ), fs_PW X 6 [some (.ref 0), some (.long y1), none, some (.int y3), none] [] σ μ := by
  intro n
  induction n with
  | zero =>
    intro y1 y3 σ μ out h
    cases (show (none : Option (Int64 × fsS)) = some out from h)
  | succ n0 ih =>
    intro y1 y3 σ μ out h k0
    unfold L_X3_digest_6 at h
    refine s_iload_n hX dX3_digest_6 rfl ?_
    refine s_bi hX (10 : Int32) dX3_digest_7 (by decide) ?_
    refine s_ic_gt hX 31 dX3_digest_9 (by decide) (fun c1 => ?_) (fun c1 => ?_)
    · have h := (if_pos c1).symm.trans h
      cases h
      refine fs_ma [true, true, false, false, false] ?_
      exact k0
    · have h := (if_neg c1).symm.trans h
      refine s_ldc2 hX (31 : Int64) dX3_digest_12 q_X3_287 ?_
      refine s_lload_n hX dX3_digest_15 rfl ?_
      refine s_lmul hX dX3_digest_16 ?_
      refine s_aload_n hX dX3_digest_17 rfl ?_
      refine s_iload_n hX dX3_digest_18 rfl ?_
      obtain ⟨q2, e2, h⟩ := fs_bind h
      refine s_cV hX [.int y3] dX3_digest_19 k_X3_282 v_X3_counted (m_X3_counted y3 σ μ q2 e2) ⟨_, rfl⟩ fs_c3 ⟨rfl, rfl⟩ ⟨(Nat.le_of_ble_eq_true rfl), (Nat.le_of_ble_eq_true rfl)⟩ rfl rfl (Nat.le_of_ble_eq_true rfl) ?_
      refine s_i2l hX dX3_digest_22 ?_
      refine s_ladd hX dX3_digest_23 ?_
      refine s_lstore_n hX dX3_digest_24 (Nat.le_of_ble_eq_true rfl) ?_
      refine s_iinc hX (y3 + (1 : Int32)) dX3_digest_25 rfl rfl (Nat.le_of_ble_eq_true rfl) ?_
      refine s_goto hX 6 dX3_digest_28 (by decide) ?_
      refine fs_ma [true, true, false, true, false] ?_
      exact ih (((31 : Int64) * y1) + (q2.1.toInt64)) (y3 + (1 : Int32)) q2.2 μ out h k0
set_option maxRecDepth 20000 in
set_option maxHeartbeats 40000000 in
theorem l_X3_digest_50   {X : fsC} (hX : fs_ok cX3_digest RX3 5 { frames := 4, cells := 0, slots := 0, locals := 89 } X) : ∀ (n : Nat) (y1 : Int64) (y3 : Int32) (y4 : Int32) (σ : fsS) (μ : fsL) (out : Int64 × fsS) (_ : L_X3_digest_50  n y1 y3 y4 σ = some out) (k0 : fs_PW X 78 [some (.ref 0), some (.long out.1), none, some (.int y3), none] [] out.2 μ), fs_PW X 50 [some (.ref 0), some (.long y1), none, some (.int y3), some (.int y4)] [] σ μ := by
  intro n
  induction n with
  | zero =>
    intro y1 y3 y4 σ μ out h
    cases (show (none : Option (Int64 × fsS)) = some out from h)
  | succ n0 ih =>
    intro y1 y3 y4 σ μ out h k0
    unfold L_X3_digest_50 at h
    refine s_iload hX dX3_digest_50 rfl ?_
    refine s_bi hX (6 : Int32) dX3_digest_52 (by decide) ?_
    refine s_ic_gt hX 78 dX3_digest_54 (by decide) (fun c5 => ?_) (fun c5 => ?_)
    · have h := (if_pos c5).symm.trans h
      cases h
      refine fs_ma [true, true, false, true, false] ?_
      exact k0
    · have h := (if_neg c5).symm.trans h
      refine s_ldc2 hX (31 : Int64) dX3_digest_57 q_X3_287 ?_
      refine s_lload_n hX dX3_digest_60 rfl ?_
      refine s_lmul hX dX3_digest_61 ?_
      refine s_aload_n hX dX3_digest_62 rfl ?_
      refine s_iload_n hX dX3_digest_63 rfl ?_
      refine s_iload hX dX3_digest_64 rfl ?_
      obtain ⟨q6, e6, h⟩ := fs_bind h
      refine s_cV hX [.int y3, .int y4] dX3_digest_66 k_X3_122 v_X3_ofOne (m_X3_ofOne y3 y4 σ μ q6 e6) ⟨_, rfl⟩ fs_c3 ⟨rfl, rfl⟩ ⟨(Nat.le_of_ble_eq_true rfl), (Nat.le_of_ble_eq_true rfl)⟩ rfl rfl (Nat.le_of_ble_eq_true rfl) ?_
      refine s_i2l hX dX3_digest_69 ?_
      refine s_ladd hX dX3_digest_70 ?_
      refine s_lstore_n hX dX3_digest_71 (Nat.le_of_ble_eq_true rfl) ?_
      refine s_iinc hX (y4 + (1 : Int32)) dX3_digest_72 rfl rfl (Nat.le_of_ble_eq_true rfl) ?_
      refine s_goto hX 50 dX3_digest_75 (by decide) ?_
      refine fs_ma [true, true, false, true, true] ?_
      exact ih (((31 : Int64) * y1) + (q6.1.toInt64)) y3 (y4 + (1 : Int32)) q6.2 μ out h k0
set_option maxRecDepth 20000 in
set_option maxHeartbeats 40000000 in
theorem l_X3_digest_33   {X : fsC} (hX : fs_ok cX3_digest RX3 5 { frames := 4, cells := 0, slots := 0, locals := 89 } X) : ∀ (n : Nat) (y1 : Int64) (y3 : Int32) (σ : fsS) (μ : fsL) (out : Int64 × fsS) (_ : L_X3_digest_33  n y1 y3 σ = some out) (k0 : fs_PW X 84 [some (.ref 0), some (.long out.1), none, none, none] [] out.2 μ), fs_PW X 33 [some (.ref 0), some (.long y1), none, some (.int y3), none] [] σ μ := by
  intro n
  induction n with
  | zero =>
    intro y1 y3 σ μ out h
    cases (show (none : Option (Int64 × fsS)) = some out from h)
  | succ n0 ih =>
    intro y1 y3 σ μ out h k0
    unfold L_X3_digest_33 at h
    refine s_iload_n hX dX3_digest_33 rfl ?_
    refine s_aload_n hX dX3_digest_34 rfl ?_
    refine s_getr hX dX3_digest_35 f_X3_24 rfl ?_
    refine s_getr hX dX3_digest_38 f_X3_113 rfl ?_
    refine s_geti hX dX3_digest_41 f_X3_116 rfl ?_
    refine s_ic_ge hX 84 dX3_digest_44 (by decide) (fun c4 => ?_) (fun c4 => ?_)
    · have h := (if_pos c4).symm.trans h
      cases h
      refine fs_ma [true, true, false, false, false] ?_
      exact k0
    · have h := (if_neg c4).symm.trans h
      refine s_ic hX (0 : Int32) dX3_digest_47 (by decide) ?_
      refine s_istore hX dX3_digest_48 (Nat.le_of_ble_eq_true rfl) ?_
      obtain ⟨q7, e7, h⟩ := fs_bind h
      refine fs_ma [true, true, false, true, true] ?_
      refine l_X3_digest_50  hX fs_fu y1 y3 (0 : Int32) σ μ q7 e7 ?_
      refine s_iinc hX (y3 + (1 : Int32)) dX3_digest_78 rfl rfl (Nat.le_of_ble_eq_true rfl) ?_
      refine s_goto hX 33 dX3_digest_81 (by decide) ?_
      refine fs_ma [true, true, false, true, false] ?_
      exact ih q7.1 (y3 + (1 : Int32)) q7.2 μ out h k0
set_option maxRecDepth 20000 in
set_option maxHeartbeats 40000000 in
theorem l_X3_digest_86   {X : fsC} (hX : fs_ok cX3_digest RX3 5 { frames := 4, cells := 0, slots := 0, locals := 89 } X) : ∀ (n : Nat) (y1 : Int64) (y3 : Int32) (σ : fsS) (μ : fsL) (out : Int64) (_ : L_X3_digest_86  n y1 y3 σ = some out) (k0 : fs_PW X 114 [some (.ref 0), some (.long out), none, none, none] [] σ μ), fs_PW X 86 [some (.ref 0), some (.long y1), none, some (.int y3), none] [] σ μ := by
  intro n
  induction n with
  | zero =>
    intro y1 y3 σ μ out h
    cases (show (none : Option (Int64)) = some out from h)
  | succ n0 ih =>
    intro y1 y3 σ μ out h k0
    unfold L_X3_digest_86 at h
    refine s_iload_n hX dX3_digest_86 rfl ?_
    refine s_ic hX (3 : Int32) dX3_digest_87 (by decide) ?_
    refine s_ic_ge hX 114 dX3_digest_88 (by decide) (fun c9 => ?_) (fun c9 => ?_)
    · have h := (if_pos c9).symm.trans h
      cases h
      refine fs_ma [true, true, false, false, false] ?_
      exact k0
    · have h := (if_neg c9).symm.trans h
      refine s_ldc2 hX (31 : Int64) dX3_digest_91 q_X3_287 ?_
      refine s_lload_n hX dX3_digest_94 rfl ?_
      refine s_lmul hX dX3_digest_95 ?_
      refine s_aload_n hX dX3_digest_96 rfl ?_
      refine s_getr hX dX3_digest_97 f_X3_24 rfl ?_
      refine s_getr hX dX3_digest_100 f_X3_191 rfl ?_
      refine s_iload_n hX dX3_digest_103 rfl ?_
      obtain ⟨g10, h⟩ := fs_gd h
      refine s_iald hX dX3_digest_104 g10 ?_
      refine s_i2l hX dX3_digest_105 ?_
      refine s_ladd hX dX3_digest_106 ?_
      refine s_lstore_n hX dX3_digest_107 (Nat.le_of_ble_eq_true rfl) ?_
      refine s_iinc hX (y3 + (1 : Int32)) dX3_digest_108 rfl rfl (Nat.le_of_ble_eq_true rfl) ?_
      refine s_goto hX 86 dX3_digest_111 (by decide) ?_
      refine fs_ma [true, true, false, true, false] ?_
      exact ih (((31 : Int64) * y1) + ((σ 13 y3.toNatClampNeg).toInt64)) (y3 + (1 : Int32)) σ μ out h k0
set_option maxRecDepth 20000 in
set_option maxHeartbeats 40000000 in
theorem m_X3_digest   (σ : fsS) (μ : fsL) (out : Int64 × fsS) (h : F_X3_digest  σ = some out) : fs_Met yX3_digest cX3_digest 5 (some .long) { frames := 4, cells := 0, slots := 0, locals := 89 } [.ref 0] σ μ (some (.long out.1)) out.2 μ := by
  unfold F_X3_digest at h
  refine fs_intro (by decide +kernel) (Nat.le_of_ble_eq_true rfl) (fun X hX hR => ?_)
  show fs_PW X 0 [some (.ref 0), none, none, none, none] [] σ μ
  refine s_ldc2 hX (17 : Int64) dX3_digest_0 q_X3_285 ?_
  refine s_lstore_n hX dX3_digest_3 (Nat.le_of_ble_eq_true rfl) ?_
  refine s_ic hX (0 : Int32) dX3_digest_4 (by decide) ?_
  refine s_istore_n hX dX3_digest_5 (Nat.le_of_ble_eq_true rfl) ?_
  obtain ⟨q3, e3, h⟩ := fs_bind h
  refine fs_ma [true, true, false, true, false] ?_
  refine l_X3_digest_6  hX fs_fu (17 : Int64) (0 : Int32) σ μ q3 e3 ?_
  refine s_ic hX (0 : Int32) dX3_digest_31 (by decide) ?_
  refine s_istore_n hX dX3_digest_32 (Nat.le_of_ble_eq_true rfl) ?_
  obtain ⟨q8, e8, h⟩ := fs_bind h
  refine fs_ma [true, true, false, true, false] ?_
  refine l_X3_digest_33  hX fs_fu q3.1 (0 : Int32) q3.2 μ q8 e8 ?_
  refine s_ic hX (0 : Int32) dX3_digest_84 (by decide) ?_
  refine s_istore_n hX dX3_digest_85 (Nat.le_of_ble_eq_true rfl) ?_
  obtain ⟨q11, e11, h⟩ := fs_bind h
  refine fs_ma [true, true, false, true, false] ?_
  refine l_X3_digest_86  hX fs_fu q8.1 (0 : Int32) q8.2 μ q11 e11 ?_
  refine s_aload_n hX dX3_digest_114 rfl ?_
  refine s_getr hX dX3_digest_115 f_X3_18 rfl ?_
  refine s_aload_n hX dX3_digest_118 rfl ?_
  refine s_getr hX dX3_digest_119 f_X3_14 rfl ?_
  refine s_lload_n hX dX3_digest_122 rfl ?_
  obtain ⟨q12, e12, h⟩ := fs_bind h
  refine s_cV hX [.long q11] dX3_digest_123 k_X3_289 v_X2_mixInto (m_X2_mixInto 1 q11 fs_H1 q8.2 μ q12 e12) (fs_H_is fs_H1) fs_c2 ⟨rfl, rfl⟩ ⟨(Nat.le_of_ble_eq_true rfl), (Nat.le_of_ble_eq_true rfl)⟩ rfl rfl (Nat.le_of_ble_eq_true rfl) ?_
  obtain ⟨q13, e13, h⟩ := fs_bind h
  refine s_cV hX [.long q12] dX3_digest_126 k_X3_289 v_X2_mixInto (m_X2_mixInto 2 q12 fs_H2 q8.2 μ q13 e13) (fs_H_is fs_H2) fs_c2 ⟨rfl, rfl⟩ ⟨(Nat.le_of_ble_eq_true rfl), (Nat.le_of_ble_eq_true rfl)⟩ rfl rfl (Nat.le_of_ble_eq_true rfl) ?_
  cases h
  exact s_lret hX hR dX3_digest_129

-- X4_in
def F_X4_in (x0 : Int64) (x2 : Int64) (x4 : Int64) : Int32 := if x0 < x2 then (0 : Int32) else if x4 < x0 then (0 : Int32) else (1 : Int32)
theorem z_X4_in (x0 : Int64) (x2 : Int64) (x4 : Int64) : F_X4_in x0 x2 x4 = 0 ∨ F_X4_in x0 x2 x4 = 1 := by
  unfold F_X4_in
  (repeat' split) <;> first | exact Or.inl rfl | exact Or.inr rfl
set_option maxRecDepth 20000 in
set_option maxHeartbeats 40000000 in
theorem m_X4_in (x0 : Int64) (x2 : Int64) (x4 : Int64)  (σ : fsS) (μ : fsL) (out : Int32) (h : F_X4_in x0 x2 x4 = out) : fs_Met yX4_in cX4_in 6 (some .boolean) { frames := 0, cells := 0, slots := 0, locals := 0 } [.long x0, .long x2, .long x4] σ μ (some (.int out)) σ μ := by
  unfold F_X4_in at h
  refine fs_intro (by decide +kernel) (Nat.le_of_ble_eq_true rfl) (fun X hX hR => ?_)
  show fs_PW X 0 [some (.long x0), none, some (.long x2), none, some (.long x4), none] [] σ μ
  refine s_lload_n hX dX4_in_0 rfl ?_
  refine s_lload_n hX dX4_in_1 rfl ?_
  refine s_lcmp hX dX4_in_2 ?_
  refine s_if_lt hX 17 dX4_in_3 (by decide) (fun c1 => ?_) (fun c1 => ?_)
  · have h := (if_pos (fs_cmp_lt.mp c1)).symm.trans h
    refine s_ic hX (0 : Int32) dX4_in_17 (by decide) ?_
    subst h
    exact s_zret hX (Or.inl rfl) hR dX4_in_18
  · have h := (if_neg (fun z => c1 (fs_cmp_lt.mpr z))).symm.trans h
    refine s_lload_n hX dX4_in_6 rfl ?_
    refine s_lload hX dX4_in_7 rfl ?_
    refine s_lcmp hX dX4_in_9 ?_
    refine s_if_gt hX 17 dX4_in_10 (by decide) (fun c2 => ?_) (fun c2 => ?_)
    · have h := (if_pos (fs_cmp_gt.mp c2)).symm.trans h
      refine s_ic hX (0 : Int32) dX4_in_17 (by decide) ?_
      subst h
      exact s_zret hX (Or.inl rfl) hR dX4_in_18
    · have h := (if_neg (fun z => c2 (fs_cmp_gt.mpr z))).symm.trans h
      refine s_ic hX (1 : Int32) dX4_in_13 (by decide) ?_
      refine s_goto hX 18 dX4_in_14 (by decide) ?_
      subst h
      exact s_zret hX (Or.inr rfl) hR dX4_in_18
