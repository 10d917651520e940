-- X4_finding
def F_X4_finding (σ : fsS) : Int32 := (σ 51 7)
set_option maxRecDepth 20000 in
set_option maxHeartbeats 40000000 in
theorem m_X4_finding   (σ : fsS) (μ : fsL) (out : Int32) (h : F_X4_finding  σ = out) : fs_Met yX4_finding cX4_finding 1 (some .int) { frames := 0, cells := 0, slots := 0, locals := 0 } [.ref 51] σ μ (some (.int out)) σ μ := by
  unfold F_X4_finding at h
  refine fs_intro (by decide +kernel) (Nat.le_of_ble_eq_true rfl) (fun X hX hR => ?_)
  show fs_PW X 0 [some (.ref 51)] [] σ μ
  refine s_aload_n hX dX4_finding_0 rfl ?_
  refine s_geti hX dX4_finding_1 f_X4_65 rfl ?_
  subst h
  exact s_iret hX hR dX4_finding_4

-- X4_findings
def F_X4_findings (x1 : Int32) (σ : fsS) : Option (Int32) := if (F_X4_in (x1.toInt64) (1 : Int64) (5 : Int64)) = 0 then some (-1 : Int32) else fs_g (fs_in x1 6) (some (σ 56 x1.toNatClampNeg))
set_option maxRecDepth 20000 in
set_option maxHeartbeats 40000000 in
theorem m_X4_findings (x1 : Int32)  (σ : fsS) (μ : fsL) (out : Int32) (h : F_X4_findings x1 σ = some out) : fs_Met yX4_findings cX4_findings 2 (some .int) { frames := 1, cells := 0, slots := 0, locals := 25 } [.ref 51, .int x1] σ μ (some (.int out)) σ μ := by
  unfold F_X4_findings at h
  refine fs_intro (by decide +kernel) (Nat.le_of_ble_eq_true rfl) (fun X hX hR => ?_)
  show fs_PW X 0 [some (.ref 51), some (.int x1)] [] σ μ
  refine s_iload_n hX dX4_findings_0 rfl ?_
  refine s_i2l hX dX4_findings_1 ?_
  refine s_lc hX (1 : Int64) dX4_findings_2 (by decide) ?_
  refine s_ldc2 hX (5 : Int64) dX4_findings_3 q_X4_72 ?_
  refine s_callS hX (as := [.long (x1.toInt64), .long (1 : Int64), .long (5 : Int64)]) dX4_findings_6 k_X4_74 v_X4_in (m_X4_in (x1.toInt64) (1 : Int64) (5 : Int64) σ μ _ rfl) ⟨rfl, rfl⟩ ⟨(Nat.le_of_ble_eq_true rfl), (Nat.le_of_ble_eq_true rfl)⟩ rfl rfl (Nat.le_of_ble_eq_true rfl) ?_
  refine s_if_eq hX 21 dX4_findings_9 (by decide) (fun c1 => ?_) (fun c1 => ?_)
  · have h := (if_pos c1).symm.trans h
    refine s_ic hX (-1 : Int32) dX4_findings_21 (by decide) ?_
    cases h
    exact s_iret hX hR dX4_findings_22
  · have h := (if_neg c1).symm.trans h
    refine s_aload_n hX dX4_findings_12 rfl ?_
    refine s_getr hX dX4_findings_13 f_X4_26 rfl ?_
    refine s_iload_n hX dX4_findings_16 rfl ?_
    obtain ⟨g2, h⟩ := fs_gd h
    refine s_iald hX dX4_findings_17 g2 ?_
    refine s_goto hX 22 dX4_findings_18 (by decide) ?_
    cases h
    exact s_iret hX hR dX4_findings_22

-- X4_digest
def L_X4_digest_6  : Nat → Int64 → Int32 → fsS → Option (Int64 × fsS)
  | 0, _, _, _ => none
  | n0 + 1, y1, y3, σ => if (11 : Int32) ≤ y3 then some (y1, σ) else (F_X4_count y3 σ).bind (fun q2 => L_X4_digest_6  n0 (((31 : Int64) * y1) + (q2.1.toInt64)) (y3 + (1 : Int32)) q2.2)
def L_X4_digest_33  : Nat → Int64 → Int32 → fsS → Option (Int64 × fsS)
  | 0, _, _, _ => none
  | n0 + 1, y1, y3, σ => if (σ 51 9) ≤ y3 then some (y1, σ) else fs_g (fs_in y3 6) (fs_g (fs_in y3 6) (fs_g (fs_in y3 6) (fs_g (fs_in ((1 : Int32) + y3) 13) (fs_g (fs_in ((7 : Int32) + y3) 13) (fs_g (fs_in y3 6) ((F_X4_regardAs (σ 57 y3.toNatClampNeg) y3 σ).bind (fun q11 => (F_X4_paid y3 σ).bind (fun q12 => L_X4_digest_33  n0 (((31 : Int64) * (((31 : Int64) * (((31 : Int64) * (((31 : Int64) * (((31 : Int64) * (((31 : Int64) * (((31 : Int64) * y1) + ((σ 57 y3.toNatClampNeg).toInt64))) + ((σ 58 y3.toNatClampNeg).toInt64))) + ((σ 59 y3.toNatClampNeg).toInt64))) + ((σ 60 ((1 : Int32) + y3).toNatClampNeg).toInt64))) + ((σ 60 ((7 : Int32) + y3).toNatClampNeg).toInt64))) + (q11.toInt64))) + (q12.1.toInt64)) (y3 + (1 : Int32)) q12.2))))))))
def L_X4_digest_146  : Nat → Int64 → Int32 → fsS → Option (Int64)
  | 0, _, _, _ => none
  | n0 + 1, y1, y3, σ => if (3 : Int32) ≤ y3 then some y1 else fs_g (fs_in ((534 : Int32) * y3) 1602) (L_X4_digest_146  n0 (((31 : Int64) * y1) + ((σ 64 ((534 : Int32) * y3).toNatClampNeg).toInt64)) (y3 + (1 : Int32)) σ)
def L_X4_digest_200  : Nat → Int64 → Int32 → Int32 → fsS → Option (Int64)
  | 0, _, _, _, _ => none
  | n0 + 1, y1, y3, y4, σ => fs_g (fs_in y3 6) (if (σ 53 y3.toNatClampNeg) ≤ y4 then some y1 else fs_g (fs_in (((40 : Int32) * y3) + y4) 240) (L_X4_digest_200  n0 (((31 : Int64) * y1) + ((σ 52 (((40 : Int32) * y3) + y4).toNatClampNeg).toInt64)) y3 (y4 + (1 : Int32)) σ))
def L_X4_digest_177  : Nat → Int64 → Int32 → fsS → Option (Int64)
  | 0, _, _, _ => none
  | n0 + 1, y1, y3, σ => if (6 : Int32) ≤ y3 then some y1 else fs_g (fs_in y3 6) ((L_X4_digest_200  fs_fu (((31 : Int64) * y1) + ((σ 53 y3.toNatClampNeg).toInt64)) y3 (0 : Int32) σ).bind (fun q22 => L_X4_digest_177  n0 q22 (y3 + (1 : Int32)) σ))
def L_X4_digest_267  : Nat → Int64 → Int32 → Int32 → fsS → Option (Int64)
  | 0, _, _, _, _ => none
  | n0 + 1, y1, y3, y4, σ => fs_g (fs_in y3 4) (if (σ 55 y3.toNatClampNeg) ≤ y4 then some y1 else fs_g (fs_in (((60 : Int32) * y3) + y4) 240) (L_X4_digest_267  n0 (((31 : Int64) * y1) + ((σ 54 (((60 : Int32) * y3) + y4).toNatClampNeg).toInt64)) y3 (y4 + (1 : Int32)) σ))
def L_X4_digest_245  : Nat → Int64 → Int32 → fsS → Option (Int64)
  | 0, _, _, _ => none
  | n0 + 1, y1, y3, σ => if (4 : Int32) ≤ y3 then some y1 else fs_g (fs_in y3 4) ((L_X4_digest_267  fs_fu (((31 : Int64) * y1) + ((σ 55 y3.toNatClampNeg).toInt64)) y3 (0 : Int32) σ).bind (fun q29 => L_X4_digest_245  n0 q29 (y3 + (1 : Int32)) σ))
def F_X4_digest (σ : fsS) : Option (Int64 × fsS) := (L_X4_digest_6  fs_fu (17 : Int64) (0 : Int32) σ).bind (fun q3 => (L_X4_digest_33  fs_fu q3.1 (0 : Int32) q3.2).bind (fun q13 => (L_X4_digest_146  fs_fu q13.1 (0 : Int32) q13.2).bind (fun q16 => (L_X4_digest_177  fs_fu q16 (0 : Int32) q13.2).bind (fun q23 => (L_X4_digest_245  fs_fu q23 (0 : Int32) q13.2).bind (fun q30 => some (q30, q13.2))))))
set_option maxRecDepth 20000 in
set_option maxHeartbeats 40000000 in
theorem l_X4_digest_6   {X : fsC} (hX : fs_ok cX4_digest RX4 5 { frames := 4, cells := 0, slots := 0, locals := 92 } X) : ∀ (n : Nat) (y1 : Int64) (y3 : Int32) (σ : fsS) (μ : fsL) (out : Int64 × fsS) (_ : L_X4_digest_6  n y1 y3 σ = some out) (k0 : fs_PW X 31 [some (.ref 51), some (.long out.1), none, none, none] [] out.2 μ), fs_PW X 6 [some (.ref 51), some (.long y1), none, some (.int y3), none] [] σ μ := by
  intro n
  induction n with
  | zero =>
    intro y1 y3 σ μ out h
    cases (show (none : Option (Int64 × fsS)) = some out from h)
  | succ n0 ih =>
    intro y1 y3 σ μ out h k0
    unfold L_X4_digest_6 at h
    refine s_iload_n hX dX4_digest_6 rfl ?_
    refine s_bi hX (11 : Int32) dX4_digest_7 (by decide) ?_
    refine s_ic_ge hX 31 dX4_digest_9 (by decide) (fun c1 => ?_) (fun c1 => ?_)
    · have h := (if_pos c1).symm.trans h
      cases h
      refine fs_ma [true, true, false, false, false] ?_
      exact k0
    · have h := (if_neg c1).symm.trans h
      refine s_ldc2 hX (31 : Int64) dX4_digest_12 q_X4_279 ?_
      refine s_lload_n hX dX4_digest_15 rfl ?_
      refine s_lmul hX dX4_digest_16 ?_
      refine s_aload_n hX dX4_digest_17 rfl ?_
      refine s_iload_n hX dX4_digest_18 rfl ?_
      obtain ⟨q2, e2, h⟩ := fs_bind h
      refine s_cV hX [.int y3] dX4_digest_19 k_X4_281 v_X4_count (m_X4_count y3 σ μ q2 e2) ⟨_, rfl⟩ fs_c4 ⟨rfl, rfl⟩ ⟨(Nat.le_of_ble_eq_true rfl), (Nat.le_of_ble_eq_true rfl)⟩ rfl rfl (Nat.le_of_ble_eq_true rfl) ?_
      refine s_i2l hX dX4_digest_22 ?_
      refine s_ladd hX dX4_digest_23 ?_
      refine s_lstore_n hX dX4_digest_24 (Nat.le_of_ble_eq_true rfl) ?_
      refine s_iinc hX (y3 + (1 : Int32)) dX4_digest_25 rfl rfl (Nat.le_of_ble_eq_true rfl) ?_
      refine s_goto hX 6 dX4_digest_28 (by decide) ?_
      refine fs_ma [true, true, false, true, false] ?_
      exact ih (((31 : Int64) * y1) + (q2.1.toInt64)) (y3 + (1 : Int32)) q2.2 μ out h k0
set_option maxRecDepth 20000 in
set_option maxHeartbeats 40000000 in
theorem l_X4_digest_33   {X : fsC} (hX : fs_ok cX4_digest RX4 5 { frames := 4, cells := 0, slots := 0, locals := 92 } X) : ∀ (n : Nat) (y1 : Int64) (y3 : Int32) (σ : fsS) (μ : fsL) (out : Int64 × fsS) (_ : L_X4_digest_33  n y1 y3 σ = some out) (k0 : fs_PW X 144 [some (.ref 51), some (.long out.1), none, none, none] [] out.2 μ), fs_PW X 33 [some (.ref 51), some (.long y1), none, some (.int y3), none] [] σ μ := by
  intro n
  induction n with
  | zero =>
    intro y1 y3 σ μ out h
    cases (show (none : Option (Int64 × fsS)) = some out from h)
  | succ n0 ih =>
    intro y1 y3 σ μ out h k0
    unfold L_X4_digest_33 at h
    refine s_iload_n hX dX4_digest_33 rfl ?_
    refine s_aload_n hX dX4_digest_34 rfl ?_
    refine s_geti hX dX4_digest_35 f_X4_136 rfl ?_
    refine s_ic_ge hX 144 dX4_digest_38 (by decide) (fun c4 => ?_) (fun c4 => ?_)
    · have h := (if_pos c4).symm.trans h
      cases h
      refine fs_ma [true, true, false, false, false] ?_
      exact k0
    · have h := (if_neg c4).symm.trans h
      refine s_ldc2 hX (31 : Int64) dX4_digest_41 q_X4_279 ?_
      refine s_ldc2 hX (31 : Int64) dX4_digest_44 q_X4_279 ?_
      refine s_ldc2 hX (31 : Int64) dX4_digest_47 q_X4_279 ?_
      refine s_ldc2 hX (31 : Int64) dX4_digest_50 q_X4_279 ?_
      refine s_lload_n hX dX4_digest_53 rfl ?_
      refine s_lmul hX dX4_digest_54 ?_
      refine s_aload_n hX dX4_digest_55 rfl ?_
      refine s_getr hX dX4_digest_56 f_X4_29 rfl ?_
      refine s_iload_n hX dX4_digest_59 rfl ?_
      obtain ⟨g5, h⟩ := fs_gd h
      refine s_iald hX dX4_digest_60 g5 ?_
      refine s_i2l hX dX4_digest_61 ?_
      refine s_ladd hX dX4_digest_62 ?_
      refine s_lmul hX dX4_digest_63 ?_
      refine s_aload_n hX dX4_digest_64 rfl ?_
      refine s_getr hX dX4_digest_65 f_X4_32 rfl ?_
      refine s_iload_n hX dX4_digest_68 rfl ?_
      obtain ⟨g6, h⟩ := fs_gd h
      refine s_iald hX dX4_digest_69 g6 ?_
      refine s_i2l hX dX4_digest_70 ?_
      refine s_ladd hX dX4_digest_71 ?_
      refine s_lmul hX dX4_digest_72 ?_
      refine s_aload_n hX dX4_digest_73 rfl ?_
      refine s_getr hX dX4_digest_74 f_X4_35 rfl ?_
      refine s_iload_n hX dX4_digest_77 rfl ?_
      obtain ⟨g7, h⟩ := fs_gd h
      refine s_iald hX dX4_digest_78 g7 ?_
      refine s_i2l hX dX4_digest_79 ?_
      refine s_ladd hX dX4_digest_80 ?_
      refine s_lmul hX dX4_digest_81 ?_
      refine s_aload_n hX dX4_digest_82 rfl ?_
      refine s_getr hX dX4_digest_83 f_X4_38 rfl ?_
      refine s_ic hX (1 : Int32) dX4_digest_86 (by decide) ?_
      refine s_iload_n hX dX4_digest_87 rfl ?_
      refine s_iadd hX dX4_digest_88 ?_
      obtain ⟨g8, h⟩ := fs_gd h
      refine s_iald hX dX4_digest_89 g8 ?_
      refine s_i2l hX dX4_digest_90 ?_
      refine s_ladd hX dX4_digest_91 ?_
      refine s_lstore_n hX dX4_digest_92 (Nat.le_of_ble_eq_true rfl) ?_
      refine s_ldc2 hX (31 : Int64) dX4_digest_93 q_X4_279 ?_
      refine s_ldc2 hX (31 : Int64) dX4_digest_96 q_X4_279 ?_
      refine s_ldc2 hX (31 : Int64) dX4_digest_99 q_X4_279 ?_
      refine s_lload_n hX dX4_digest_102 rfl ?_
      refine s_lmul hX dX4_digest_103 ?_
      refine s_aload_n hX dX4_digest_104 rfl ?_
      refine s_getr hX dX4_digest_105 f_X4_38 rfl ?_
      refine s_bi hX (7 : Int32) dX4_digest_108 (by decide) ?_
      refine s_iload_n hX dX4_digest_110 rfl ?_
      refine s_iadd hX dX4_digest_111 ?_
      obtain ⟨g9, h⟩ := fs_gd h
      refine s_iald hX dX4_digest_112 g9 ?_
      refine s_i2l hX dX4_digest_113 ?_
      refine s_ladd hX dX4_digest_114 ?_
      refine s_lmul hX dX4_digest_115 ?_
      refine s_aload_n hX dX4_digest_116 rfl ?_
      refine s_aload_n hX dX4_digest_117 rfl ?_
      refine s_getr hX dX4_digest_118 f_X4_29 rfl ?_
      refine s_iload_n hX dX4_digest_121 rfl ?_
      obtain ⟨g10, h⟩ := fs_gd h
      refine s_iald hX dX4_digest_122 g10 ?_
      refine s_iload_n hX dX4_digest_123 rfl ?_
      obtain ⟨q11, e11, h⟩ := fs_bind h
      refine s_cV hX [.int (σ 57 y3.toNatClampNeg), .int y3] dX4_digest_124 k_X4_162 v_X4_regardAs (m_X4_regardAs (σ 57 y3.toNatClampNeg) y3 σ μ q11 e11) ⟨_, rfl⟩ fs_c4 ⟨rfl, rfl⟩ ⟨(Nat.le_of_ble_eq_true rfl), (Nat.le_of_ble_eq_true rfl)⟩ rfl rfl (Nat.le_of_ble_eq_true rfl) ?_
      refine s_i2l hX dX4_digest_127 ?_
      refine s_ladd hX dX4_digest_128 ?_
      refine s_lmul hX dX4_digest_129 ?_
      refine s_aload_n hX dX4_digest_130 rfl ?_
      refine s_iload_n hX dX4_digest_131 rfl ?_
      obtain ⟨q12, e12, h⟩ := fs_bind h
      refine s_cV hX [.int y3] dX4_digest_132 k_X4_165 v_X4_paid (m_X4_paid y3 σ μ q12 e12) ⟨_, rfl⟩ fs_c4 ⟨rfl, rfl⟩ ⟨(Nat.le_of_ble_eq_true rfl), (Nat.le_of_ble_eq_true rfl)⟩ rfl rfl (Nat.le_of_ble_eq_true rfl) ?_
      refine s_i2l hX dX4_digest_135 ?_
      refine s_ladd hX dX4_digest_136 ?_
      refine s_lstore_n hX dX4_digest_137 (Nat.le_of_ble_eq_true rfl) ?_
      refine s_iinc hX (y3 + (1 : Int32)) dX4_digest_138 rfl rfl (Nat.le_of_ble_eq_true rfl) ?_
      refine s_goto hX 33 dX4_digest_141 (by decide) ?_
      refine fs_ma [true, true, false, true, false] ?_
      exact ih (((31 : Int64) * (((31 : Int64) * (((31 : Int64) * (((31 : Int64) * (((31 : Int64) * (((31 : Int64) * (((31 : Int64) * y1) + ((σ 57 y3.toNatClampNeg).toInt64))) + ((σ 58 y3.toNatClampNeg).toInt64))) + ((σ 59 y3.toNatClampNeg).toInt64))) + ((σ 60 ((1 : Int32) + y3).toNatClampNeg).toInt64))) + ((σ 60 ((7 : Int32) + y3).toNatClampNeg).toInt64))) + (q11.toInt64))) + (q12.1.toInt64)) (y3 + (1 : Int32)) q12.2 μ out h k0
set_option maxRecDepth 20000 in
set_option maxHeartbeats 40000000 in
theorem l_X4_digest_146   {X : fsC} (hX : fs_ok cX4_digest RX4 5 { frames := 4, cells := 0, slots := 0, locals := 92 } X) : ∀ (n : Nat) (y1 : Int64) (y3 : Int32) (σ : fsS) (μ : fsL) (out : Int64) (_ : L_X4_digest_146  n y1 y3 σ = some out) (k0 : fs_PW X 175 [some (.ref 51), some (.long out), none, none, none] [] σ μ), fs_PW X 146 [some (.ref 51), some (.long y1), none, some (.int y3), none] [] σ μ := by
  intro n
  induction n with
  | zero =>
    intro y1 y3 σ μ out h
    cases (show (none : Option (Int64)) = some out from h)
  | succ n0 ih =>
    intro y1 y3 σ μ out h k0
    unfold L_X4_digest_146 at h
    refine s_iload_n hX dX4_digest_146 rfl ?_
    refine s_ic hX (3 : Int32) dX4_digest_147 (by decide) ?_
    refine s_ic_ge hX 175 dX4_digest_148 (by decide) (fun c14 => ?_) (fun c14 => ?_)
    · have h := (if_pos c14).symm.trans h
      cases h
      refine fs_ma [true, true, false, false, false] ?_
      exact k0
    · have h := (if_neg c14).symm.trans h
      refine s_ldc2 hX (31 : Int64) dX4_digest_151 q_X4_279 ?_
      refine s_lload_n hX dX4_digest_154 rfl ?_
      refine s_lmul hX dX4_digest_155 ?_
      refine s_aload_n hX dX4_digest_156 rfl ?_
      refine s_getr hX dX4_digest_157 f_X4_50 rfl ?_
      refine s_si hX (534 : Int32) dX4_digest_160 (by decide) ?_
      refine s_iload_n hX dX4_digest_163 rfl ?_
      refine s_imul hX dX4_digest_164 ?_
      obtain ⟨g15, h⟩ := fs_gd h
      refine s_iald hX dX4_digest_165 g15 ?_
      refine s_i2l hX dX4_digest_166 ?_
      refine s_ladd hX dX4_digest_167 ?_
      refine s_lstore_n hX dX4_digest_168 (Nat.le_of_ble_eq_true rfl) ?_
      refine s_iinc hX (y3 + (1 : Int32)) dX4_digest_169 rfl rfl (Nat.le_of_ble_eq_true rfl) ?_
      refine s_goto hX 146 dX4_digest_172 (by decide) ?_
      refine fs_ma [true, true, false, true, false] ?_
      exact ih (((31 : Int64) * y1) + ((σ 64 ((534 : Int32) * y3).toNatClampNeg).toInt64)) (y3 + (1 : Int32)) σ μ out h k0
set_option maxRecDepth 20000 in
set_option maxHeartbeats 40000000 in
theorem l_X4_digest_200   {X : fsC} (hX : fs_ok cX4_digest RX4 5 { frames := 4, cells := 0, slots := 0, locals := 92 } X) : ∀ (n : Nat) (y1 : Int64) (y3 : Int32) (y4 : Int32) (σ : fsS) (μ : fsL) (out : Int64) (_ : L_X4_digest_200  n y1 y3 y4 σ = some out) (k0 : fs_PW X 237 [some (.ref 51), some (.long out), none, some (.int y3), none] [] σ μ), fs_PW X 200 [some (.ref 51), some (.long y1), none, some (.int y3), some (.int y4)] [] σ μ := by
  intro n
  induction n with
  | zero =>
    intro y1 y3 y4 σ μ out h
    cases (show (none : Option (Int64)) = some out from h)
  | succ n0 ih =>
    intro y1 y3 y4 σ μ out h k0
    unfold L_X4_digest_200 at h
    refine s_iload hX dX4_digest_200 rfl ?_
    refine s_aload_n hX dX4_digest_202 rfl ?_
    refine s_getr hX dX4_digest_203 f_X4_13 rfl ?_
    refine s_iload_n hX dX4_digest_206 rfl ?_
    obtain ⟨g19, h⟩ := fs_gd h
    refine s_iald hX dX4_digest_207 g19 ?_
    refine s_ic_ge hX 237 dX4_digest_208 (by decide) (fun c20 => ?_) (fun c20 => ?_)
    · have h := (if_pos c20).symm.trans h
      cases h
      refine fs_ma [true, true, false, true, false] ?_
      exact k0
    · have h := (if_neg c20).symm.trans h
      refine s_ldc2 hX (31 : Int64) dX4_digest_211 q_X4_279 ?_
      refine s_lload_n hX dX4_digest_214 rfl ?_
      refine s_lmul hX dX4_digest_215 ?_
      refine s_aload_n hX dX4_digest_216 rfl ?_
      refine s_getr hX dX4_digest_217 f_X4_7 rfl ?_
      refine s_bi hX (40 : Int32) dX4_digest_220 (by decide) ?_
      refine s_iload_n hX dX4_digest_222 rfl ?_
      refine s_imul hX dX4_digest_223 ?_
      refine s_iload hX dX4_digest_224 rfl ?_
      refine s_iadd hX dX4_digest_226 ?_
      obtain ⟨g21, h⟩ := fs_gd h
      refine s_iald hX dX4_digest_227 g21 ?_
      refine s_i2l hX dX4_digest_228 ?_
      refine s_ladd hX dX4_digest_229 ?_
      refine s_lstore_n hX dX4_digest_230 (Nat.le_of_ble_eq_true rfl) ?_
      refine s_iinc hX (y4 + (1 : Int32)) dX4_digest_231 rfl rfl (Nat.le_of_ble_eq_true rfl) ?_
      refine s_goto hX 200 dX4_digest_234 (by decide) ?_
      refine fs_ma [true, true, false, true, true] ?_
      exact ih (((31 : Int64) * y1) + ((σ 52 (((40 : Int32) * y3) + y4).toNatClampNeg).toInt64)) y3 (y4 + (1 : Int32)) σ μ out h k0
set_option maxRecDepth 20000 in
set_option maxHeartbeats 40000000 in
theorem l_X4_digest_177   {X : fsC} (hX : fs_ok cX4_digest RX4 5 { frames := 4, cells := 0, slots := 0, locals := 92 } X) : ∀ (n : Nat) (y1 : Int64) (y3 : Int32) (σ : fsS) (μ : fsL) (out : Int64) (_ : L_X4_digest_177  n y1 y3 σ = some out) (k0 : fs_PW X 243 [some (.ref 51), some (.long out), none, none, none] [] σ μ), fs_PW X 177 [some (.ref 51), some (.long y1), none, some (.int y3), none] [] σ μ := by
  intro n
  induction n with
  | zero =>
    intro y1 y3 σ μ out h
    cases (show (none : Option (Int64)) = some out from h)
  | succ n0 ih =>
    intro y1 y3 σ μ out h k0
    unfold L_X4_digest_177 at h
    refine s_iload_n hX dX4_digest_177 rfl ?_
    refine s_bi hX (6 : Int32) dX4_digest_178 (by decide) ?_
    refine s_ic_ge hX 243 dX4_digest_180 (by decide) (fun c17 => ?_) (fun c17 => ?_)
    · have h := (if_pos c17).symm.trans h
      cases h
      refine fs_ma [true, true, false, false, false] ?_
      exact k0
    · have h := (if_neg c17).symm.trans h
      refine s_ldc2 hX (31 : Int64) dX4_digest_183 q_X4_279 ?_
      refine s_lload_n hX dX4_digest_186 rfl ?_
      refine s_lmul hX dX4_digest_187 ?_
      refine s_aload_n hX dX4_digest_188 rfl ?_
      refine s_getr hX dX4_digest_189 f_X4_13 rfl ?_
      refine s_iload_n hX dX4_digest_192 rfl ?_
      obtain ⟨g18, h⟩ := fs_gd h
      refine s_iald hX dX4_digest_193 g18 ?_
      refine s_i2l hX dX4_digest_194 ?_
      refine s_ladd hX dX4_digest_195 ?_
      refine s_lstore_n hX dX4_digest_196 (Nat.le_of_ble_eq_true rfl) ?_
      refine s_ic hX (0 : Int32) dX4_digest_197 (by decide) ?_
      refine s_istore hX dX4_digest_198 (Nat.le_of_ble_eq_true rfl) ?_
      obtain ⟨q22, e22, h⟩ := fs_bind h
      refine fs_ma [true, true, false, true, true] ?_
      refine l_X4_digest_200  hX fs_fu (((31 : Int64) * y1) + ((σ 53 y3.toNatClampNeg).toInt64)) y3 (0 : Int32) σ μ q22 e22 ?_
      refine s_iinc hX (y3 + (1 : Int32)) dX4_digest_237 rfl rfl (Nat.le_of_ble_eq_true rfl) ?_
      refine s_goto hX 177 dX4_digest_240 (by decide) ?_
      refine fs_ma [true, true, false, true, false] ?_
      exact ih q22 (y3 + (1 : Int32)) σ μ out h k0
set_option maxRecDepth 20000 in
set_option maxHeartbeats 40000000 in
theorem l_X4_digest_267   {X : fsC} (hX : fs_ok cX4_digest RX4 5 { frames := 4, cells := 0, slots := 0, locals := 92 } X) : ∀ (n : Nat) (y1 : Int64) (y3 : Int32) (y4 : Int32) (σ : fsS) (μ : fsL) (out : Int64) (_ : L_X4_digest_267  n y1 y3 y4 σ = some out) (k0 : fs_PW X 304 [some (.ref 51), some (.long out), none, some (.int y3), none] [] σ μ), fs_PW X 267 [some (.ref 51), some (.long y1), none, some (.int y3), some (.int y4)] [] σ μ := by
  intro n
  induction n with
  | zero =>
    intro y1 y3 y4 σ μ out h
    cases (show (none : Option (Int64)) = some out from h)
  | succ n0 ih =>
    intro y1 y3 y4 σ μ out h k0
    unfold L_X4_digest_267 at h
    refine s_iload hX dX4_digest_267 rfl ?_
    refine s_aload_n hX dX4_digest_269 rfl ?_
    refine s_getr hX dX4_digest_270 f_X4_19 rfl ?_
    refine s_iload_n hX dX4_digest_273 rfl ?_
    obtain ⟨g26, h⟩ := fs_gd h
    refine s_iald hX dX4_digest_274 g26 ?_
    refine s_ic_ge hX 304 dX4_digest_275 (by decide) (fun c27 => ?_) (fun c27 => ?_)
    · have h := (if_pos c27).symm.trans h
      cases h
      refine fs_ma [true, true, false, true, false] ?_
      exact k0
    · have h := (if_neg c27).symm.trans h
      refine s_ldc2 hX (31 : Int64) dX4_digest_278 q_X4_279 ?_
      refine s_lload_n hX dX4_digest_281 rfl ?_
      refine s_lmul hX dX4_digest_282 ?_
      refine s_aload_n hX dX4_digest_283 rfl ?_
      refine s_getr hX dX4_digest_284 f_X4_16 rfl ?_
      refine s_bi hX (60 : Int32) dX4_digest_287 (by decide) ?_
      refine s_iload_n hX dX4_digest_289 rfl ?_
      refine s_imul hX dX4_digest_290 ?_
      refine s_iload hX dX4_digest_291 rfl ?_
      refine s_iadd hX dX4_digest_293 ?_
      obtain ⟨g28, h⟩ := fs_gd h
      refine s_iald hX dX4_digest_294 g28 ?_
      refine s_i2l hX dX4_digest_295 ?_
      refine s_ladd hX dX4_digest_296 ?_
      refine s_lstore_n hX dX4_digest_297 (Nat.le_of_ble_eq_true rfl) ?_
      refine s_iinc hX (y4 + (1 : Int32)) dX4_digest_298 rfl rfl (Nat.le_of_ble_eq_true rfl) ?_
      refine s_goto hX 267 dX4_digest_301 (by decide) ?_
      refine fs_ma [true, true, false, true, true] ?_
      exact ih (((31 : Int64) * y1) + ((σ 54 (((60 : Int32) * y3) + y4).toNatClampNeg).toInt64)) y3 (y4 + (1 : Int32)) σ μ out h k0
set_option maxRecDepth 20000 in
set_option maxHeartbeats 40000000 in
theorem l_X4_digest_245   {X : fsC} (hX : fs_ok cX4_digest RX4 5 { frames := 4, cells := 0, slots := 0, locals := 92 } X) : ∀ (n : Nat) (y1 : Int64) (y3 : Int32) (σ : fsS) (μ : fsL) (out : Int64) (_ : L_X4_digest_245  n y1 y3 σ = some out) (k0 : fs_PW X 310 [none, some (.long out), none, none, none] [] σ μ), fs_PW X 245 [some (.ref 51), some (.long y1), none, some (.int y3), none] [] σ μ := by
  intro n
  induction n with
  | zero =>
    intro y1 y3 σ μ out h
    cases (show (none : Option (Int64)) = some out from h)
  | succ n0 ih =>
    intro y1 y3 σ μ out h k0
    unfold L_X4_digest_245 at h
    refine s_iload_n hX dX4_digest_245 rfl ?_
    refine s_ic hX (4 : Int32) dX4_digest_246 (by decide) ?_
    refine s_ic_ge hX 310 dX4_digest_247 (by decide) (fun c24 => ?_) (fun c24 => ?_)
    · have h := (if_pos c24).symm.trans h
      cases h
      refine fs_ma [false, true, false, false, false] ?_
      exact k0
    · have h := (if_neg c24).symm.trans h
      refine s_ldc2 hX (31 : Int64) dX4_digest_250 q_X4_279 ?_
      refine s_lload_n hX dX4_digest_253 rfl ?_
      refine s_lmul hX dX4_digest_254 ?_
      refine s_aload_n hX dX4_digest_255 rfl ?_
      refine s_getr hX dX4_digest_256 f_X4_19 rfl ?_
      refine s_iload_n hX dX4_digest_259 rfl ?_
      obtain ⟨g25, h⟩ := fs_gd h
      refine s_iald hX dX4_digest_260 g25 ?_
      refine s_i2l hX dX4_digest_261 ?_
      refine s_ladd hX dX4_digest_262 ?_
      refine s_lstore_n hX dX4_digest_263 (Nat.le_of_ble_eq_true rfl) ?_
      refine s_ic hX (0 : Int32) dX4_digest_264 (by decide) ?_
      refine s_istore hX dX4_digest_265 (Nat.le_of_ble_eq_true rfl) ?_
      obtain ⟨q29, e29, h⟩ := fs_bind h
      refine fs_ma [true, true, false, true, true] ?_
      refine l_X4_digest_267  hX fs_fu (((31 : Int64) * y1) + ((σ 55 y3.toNatClampNeg).toInt64)) y3 (0 : Int32) σ μ q29 e29 ?_
      refine s_iinc hX (y3 + (1 : Int32)) dX4_digest_304 rfl rfl (Nat.le_of_ble_eq_true rfl) ?_
      refine s_goto hX 245 dX4_digest_307 (by decide) ?_
      refine fs_ma [true, true, false, true, false] ?_
      exact ih q29 (y3 + (1 : Int32)) σ μ out h k0
set_option maxRecDepth 20000 in
set_option maxHeartbeats 40000000 in
theorem m_X4_digest   (σ : fsS) (μ : fsL) (out : Int64 × fsS) (h : F_X4_digest  σ = some out) : fs_Met yX4_digest cX4_digest 5 (some .long) { frames := 4, cells := 0, slots := 0, locals := 92 } [.ref 51] σ μ (some (.long out.1)) out.2 μ := by
  unfold F_X4_digest at h
  refine fs_intro (by decide +kernel) (Nat.le_of_ble_eq_true rfl) (fun X hX hR => ?_)
  show fs_PW X 0 [some (.ref 51), none, none, none, none] [] σ μ
  refine s_ldc2 hX (17 : Int64) dX4_digest_0 q_X4_277 ?_
  refine s_lstore_n hX dX4_digest_3 (Nat.le_of_ble_eq_true rfl) ?_
  refine s_ic hX (0 : Int32) dX4_digest_4 (by decide) ?_
  refine s_istore_n hX dX4_digest_5 (Nat.le_of_ble_eq_true rfl) ?_
  obtain ⟨q3, e3, h⟩ := fs_bind h
  refine fs_ma [true, true, false, true, false] ?_
  refine l_X4_digest_6  hX fs_fu (17 : Int64) (0 : Int32) σ μ q3 e3 ?_
  refine s_ic hX (0 : Int32) dX4_digest_31 (by decide) ?_
  refine s_istore_n hX dX4_digest_32 (Nat.le_of_ble_eq_true rfl) ?_
  obtain ⟨q13, e13, h⟩ := fs_bind h
  refine fs_ma [true, true, false, true, false] ?_
  refine l_X4_digest_33  hX fs_fu q3.1 (0 : Int32) q3.2 μ q13 e13 ?_
  refine s_ic hX (0 : Int32) dX4_digest_144 (by decide) ?_
  refine s_istore_n hX dX4_digest_145 (Nat.le_of_ble_eq_true rfl) ?_
  obtain ⟨q16, e16, h⟩ := fs_bind h
  refine fs_ma [true, true, false, true, false] ?_
  refine l_X4_digest_146  hX fs_fu q13.1 (0 : Int32) q13.2 μ q16 e16 ?_
  refine s_ic hX (0 : Int32) dX4_digest_175 (by decide) ?_
  refine s_istore_n hX dX4_digest_176 (Nat.le_of_ble_eq_true rfl) ?_
  obtain ⟨q23, e23, h⟩ := fs_bind h
  refine fs_ma [true, true, false, true, false] ?_
  refine l_X4_digest_177  hX fs_fu q16 (0 : Int32) q13.2 μ q23 e23 ?_
  refine s_ic hX (0 : Int32) dX4_digest_243 (by decide) ?_
  refine s_istore_n hX dX4_digest_244 (Nat.le_of_ble_eq_true rfl) ?_
  obtain ⟨q30, e30, h⟩ := fs_bind h
  refine fs_ma [true, true, false, true, false] ?_
  refine l_X4_digest_245  hX fs_fu q23 (0 : Int32) q13.2 μ q30 e30 ?_
  refine s_lload_n hX dX4_digest_310 rfl ?_
  cases h
  exact s_lret hX hR dX4_digest_311
