def ec_row (Rel : fsS → fsL → Prop) : Prop := ∀ (a1 a2 : Int32) (σ : fsS) (μ : fsL), Rel σ μ → ∃ (r : Int32) (σ1 : fsS) (μ1 : fsL) (σ2 : fsS) (μ2 : fsL), fs_Met yX3_row cX3_row 3 (some .int) { frames := 1, cells := 0, slots := 0, locals := 23 } [.ref 0, .int a1, .int a2] σ μ (some (.int r)) σ1 μ1 ∧ fs_Met yX4_row cX4_row 4 (some .int) { frames := 2, cells := 0, slots := 0, locals := 45 } [.ref 51, .int a1, .int a2] σ1 μ1 (some (.int r)) σ2 μ2 ∧ Rel σ2 μ2
def ec_lay (Rel : fsS → fsL → Prop) : Prop := ∀ (a1 a2 a3 : Int32) (σ : fsS) (μ : fsL), Rel σ μ → ∃ (r : Int32) (σ1 : fsS) (μ1 : fsL) (σ2 : fsS) (μ2 : fsL), fs_Met yX3_lay cX3_lay 5 (some .int) { frames := 2, cells := 0, slots := 0, locals := 45 } [.ref 0, .int a1, .int a2, .int a3] σ μ (some (.int r)) σ1 μ1 ∧ fs_Met yX4_lay cX4_lay 5 (some .int) { frames := 2, cells := 0, slots := 0, locals := 45 } [.ref 51, .int a1, .int a2, .int a3] σ1 μ1 (some (.int r)) σ2 μ2 ∧ Rel σ2 μ2
def ec_at (Rel : fsS → fsL → Prop) : Prop := ∀ (a1 a2 : Int32) (σ : fsS) (μ : fsL), Rel σ μ → ∃ (r : Int32) (σ1 : fsS) (μ1 : fsL) (σ2 : fsS) (μ2 : fsL), fs_Met yX3_at cX3_at 4 (some .int) { frames := 2, cells := 0, slots := 0, locals := 45 } [.ref 0, .int a1, .int a2] σ μ (some (.int r)) σ1 μ1 ∧ fs_Met yX4_at cX4_at 3 (some .int) { frames := 2, cells := 0, slots := 0, locals := 45 } [.ref 51, .int a1, .int a2] σ1 μ1 (some (.int r)) σ2 μ2 ∧ Rel σ2 μ2
def ec_tear (Rel : fsS → fsL → Prop) : Prop := ∀ (a1 : Int32) (σ : fsS) (μ : fsL), Rel σ μ → ∃ (r : Int32) (σ1 : fsS) (μ1 : fsL) (σ2 : fsS) (μ2 : fsL), fs_Met yX3_tear cX3_tear 2 (some .int) { frames := 1, cells := 0, slots := 0, locals := 21 } [.ref 0, .int a1] σ μ (some (.int r)) σ1 μ1 ∧ fs_Met yX4_tear cX4_tear 2 (some .int) { frames := 2, cells := 0, slots := 0, locals := 45 } [.ref 51, .int a1] σ1 μ1 (some (.int r)) σ2 μ2 ∧ Rel σ2 μ2
def ec_copy (Rel : fsS → fsL → Prop) : Prop := ∀ (a1 a2 a3 a4 a5 : Int32) (σ : fsS) (μ : fsL), Rel σ μ → ∃ (r : Int32) (σ1 : fsS) (μ1 : fsL) (σ2 : fsS) (μ2 : fsL), fs_Met yX3_copy cX3_copy 6 (some .int) { frames := 1, cells := 0, slots := 0, locals := 26 } [.ref 0, .int a1, .int a2, .int a3, .int a4, .int a5] σ μ (some (.int r)) σ1 μ1 ∧ fs_Met yX4_copy cX4_copy 8 (some .int) { frames := 2, cells := 0, slots := 0, locals := 45 } [.ref 51, .int a1, .int a2, .int a3, .int a4, .int a5] σ1 μ1 (some (.int r)) σ2 μ2 ∧ Rel σ2 μ2
def ec_mean (Rel : fsS → fsL → Prop) : Prop := ∀ (a1 : Int32) (σ : fsS) (μ : fsL), Rel σ μ → ∃ (r : Int32) (σ1 : fsS) (μ1 : fsL) (σ2 : fsS) (μ2 : fsL), fs_Met yX3_mean cX3_mean 3 (some .int) { frames := 1, cells := 0, slots := 0, locals := 24 } [.ref 0, .int a1] σ μ (some (.int r)) σ1 μ1 ∧ fs_Met yX4_mean cX4_mean 5 (some .int) { frames := 2, cells := 0, slots := 0, locals := 45 } [.ref 51, .int a1] σ1 μ1 (some (.int r)) σ2 μ2 ∧ Rel σ2 μ2
def ec_text (Rel : fsS → fsL → Prop) : Prop := ∀ (a1 a2 : Int32) (σ : fsS) (μ : fsL), Rel σ μ → ∃ (r : Int32) (σ1 : fsS) (μ1 : fsL) (σ2 : fsS) (μ2 : fsL), fs_Met yX3_text cX3_text 3 (some .int) { frames := 1, cells := 0, slots := 0, locals := 23 } [.ref 0, .int a1, .int a2] σ μ (some (.int r)) σ1 μ1 ∧ fs_Met yX4_text cX4_text 4 (some .int) { frames := 2, cells := 0, slots := 0, locals := 45 } [.ref 51, .int a1, .int a2] σ1 μ1 (some (.int r)) σ2 μ2 ∧ Rel σ2 μ2
def ec_put (Rel : fsS → fsL → Prop) : Prop := ∀ (a1 a2 a3 : Int32) (σ : fsS) (μ : fsL), Rel σ μ → ∃ (r : Int32) (σ1 : fsS) (μ1 : fsL) (σ2 : fsS) (μ2 : fsL), fs_Met yX3_put cX3_put 5 (some .int) { frames := 1, cells := 0, slots := 0, locals := 23 } [.ref 0, .int a1, .int a2, .int a3] σ μ (some (.int r)) σ1 μ1 ∧ fs_Met yX4_put cX4_put 5 (some .int) { frames := 2, cells := 0, slots := 0, locals := 45 } [.ref 51, .int a1, .int a2, .int a3] σ1 μ1 (some (.int r)) σ2 μ2 ∧ Rel σ2 μ2
def ec_fault (Rel : fsS → fsL → Prop) : Prop := ∀ (a1 : Int32) (σ : fsS) (μ : fsL), Rel σ μ → ∃ (r : Int32) (σ1 : fsS) (μ1 : fsL) (σ2 : fsS) (μ2 : fsL), fs_Met yX3_fault cX3_fault 2 (some .int) { frames := 3, cells := 0, slots := 0, locals := 69 } [.ref 0, .int a1] σ μ (some (.int r)) σ1 μ1 ∧ fs_Met yX4_fault cX4_fault 2 (some .int) { frames := 4, cells := 0, slots := 0, locals := 89 } [.ref 51, .int a1] σ1 μ1 (some (.int r)) σ2 μ2 ∧ Rel σ2 μ2
def ec_house (Rel : fsS → fsL → Prop) : Prop := ∀ (a1 : Int32) (σ : fsS) (μ : fsL), Rel σ μ → ∃ (r : Int32) (σ1 : fsS) (μ1 : fsL) (σ2 : fsS) (μ2 : fsL), fs_Met yX3_house cX3_house 2 (some .int) { frames := 6, cells := 0, slots := 0, locals := 137 } [.ref 0, .int a1] σ μ (some (.int r)) σ1 μ1 ∧ fs_Met yX4_house cX4_house 3 (some .int) { frames := 4, cells := 0, slots := 0, locals := 89 } [.ref 51, .int a1] σ1 μ1 (some (.int r)) σ2 μ2 ∧ Rel σ2 μ2
def ec_one (Rel : fsS → fsL → Prop) : Prop := ∀ (a1 a2 : Int32) (σ : fsS) (μ : fsL), Rel σ μ → ∃ (r : Int32) (σ1 : fsS) (μ1 : fsL) (σ2 : fsS) (μ2 : fsL), fs_Met yX3_one cX3_one 3 (some .int) { frames := 3, cells := 0, slots := 0, locals := 70 } [.ref 0, .int a1, .int a2] σ μ (some (.int r)) σ1 μ1 ∧ fs_Met yX4_one cX4_one 3 (some .int) { frames := 4, cells := 0, slots := 0, locals := 92 } [.ref 51, .int a1, .int a2] σ1 μ1 (some (.int r)) σ2 μ2 ∧ Rel σ2 μ2
def ec_mark (Rel : fsS → fsL → Prop) : Prop := ∀ (a1 a2 : Int32) (σ : fsS) (μ : fsL), Rel σ μ → ∃ (r : Int32) (σ1 : fsS) (μ1 : fsL) (σ2 : fsS) (μ2 : fsL), fs_Met yX3_mark cX3_mark 4 (some .int) { frames := 2, cells := 0, slots := 0, locals := 48 } [.ref 0, .int a1, .int a2] σ μ (some (.int r)) σ1 μ1 ∧ fs_Met yX4_mark cX4_mark 5 (some .int) { frames := 3, cells := 0, slots := 0, locals := 69 } [.ref 51, .int a1, .int a2] σ1 μ1 (some (.int r)) σ2 μ2 ∧ Rel σ2 μ2
def ec_regard (Rel : fsS → fsL → Prop) : Prop := ∀ (a1 a2 a3 : Int32) (σ : fsS) (μ : fsL), Rel σ μ → ∃ (r : Int32) (σ1 : fsS) (μ1 : fsL) (σ2 : fsS) (μ2 : fsL), fs_Met yX3_regard cX3_regard 4 (some .int) { frames := 1, cells := 0, slots := 0, locals := 26 } [.ref 0, .int a1, .int a2, .int a3] σ μ (some (.int r)) σ1 μ1 ∧ fs_Met yX4_regard cX4_regard 4 (some .int) { frames := 2, cells := 0, slots := 0, locals := 47 } [.ref 51, .int a1, .int a2, .int a3] σ1 μ1 (some (.int r)) σ2 μ2 ∧ Rel σ2 μ2
def ec_quarter (Rel : fsS → fsL → Prop) : Prop := ∀ (σ : fsS) (μ : fsL), Rel σ μ → ∃ (r : Int32) (σ1 : fsS) (μ1 : fsL) (σ2 : fsS) (μ2 : fsL), fs_Met yX3_quarter cX3_quarter 1 (some .int) { frames := 5, cells := 0, slots := 0, locals := 115 } [.ref 0] σ μ (some (.int r)) σ1 μ1 ∧ fs_Met yX4_quarter cX4_quarter 1 (some .int) { frames := 4, cells := 0, slots := 0, locals := 93 } [.ref 51] σ1 μ1 (some (.int r)) σ2 μ2 ∧ Rel σ2 μ2
def ec_soot (Rel : fsS → fsL → Prop) : Prop := ∀ (a1 : Int32) (σ : fsS) (μ : fsL), Rel σ μ → ∃ (r : Int32) (σ1 : fsS) (μ1 : fsL) (σ2 : fsS) (μ2 : fsL), fs_Met yX3_soot cX3_soot 2 (some .int) { frames := 5, cells := 0, slots := 0, locals := 115 } [.ref 0, .int a1] σ μ (some (.int r)) σ1 μ1 ∧ fs_Met yX4_soot cX4_soot 2 (some .int) { frames := 2, cells := 0, slots := 0, locals := 46 } [.ref 51, .int a1] σ1 μ1 (some (.int r)) σ2 μ2 ∧ Rel σ2 μ2
def ec_wash (Rel : fsS → fsL → Prop) : Prop := ∀ (a1 : Int32) (σ : fsS) (μ : fsL), Rel σ μ → ∃ (r : Int32) (σ1 : fsS) (μ1 : fsL) (σ2 : fsS) (μ2 : fsL), fs_Met yX3_wash cX3_wash 3 (some .int) { frames := 5, cells := 0, slots := 0, locals := 115 } [.ref 0, .int a1] σ μ (some (.int r)) σ1 μ1 ∧ fs_Met yX4_wash cX4_wash 3 (some .int) { frames := 2, cells := 0, slots := 0, locals := 46 } [.ref 51, .int a1] σ1 μ1 (some (.int r)) σ2 μ2 ∧ Rel σ2 μ2
def ec_gift (Rel : fsS → fsL → Prop) : Prop := ∀ (a1 a2 a3 : Int32) (σ : fsS) (μ : fsL), Rel σ μ → ∃ (r : Int32) (σ1 : fsS) (μ1 : fsL) (σ2 : fsS) (μ2 : fsL), fs_Met yX3_gift cX3_gift 4 (some .int) { frames := 5, cells := 0, slots := 0, locals := 115 } [.ref 0, .int a1, .int a2, .int a3] σ μ (some (.int r)) σ1 μ1 ∧ fs_Met yX4_gift cX4_gift 4 (some .int) { frames := 2, cells := 0, slots := 0, locals := 46 } [.ref 51, .int a1, .int a2, .int a3] σ1 μ1 (some (.int r)) σ2 μ2 ∧ Rel σ2 μ2
def ec_undo (Rel : fsS → fsL → Prop) : Prop := ∀ (a1 : Int32) (σ : fsS) (μ : fsL), Rel σ μ → ∃ (r : Int32) (σ1 : fsS) (μ1 : fsL) (σ2 : fsS) (μ2 : fsL), fs_Met yX3_undo cX3_undo 3 (some .int) { frames := 5, cells := 0, slots := 0, locals := 116 } [.ref 0, .int a1] σ μ (some (.int r)) σ1 μ1 ∧ fs_Met yX4_undo cX4_undo 3 (some .int) { frames := 1, cells := 0, slots := 0, locals := 25 } [.ref 51, .int a1] σ1 μ1 (some (.int r)) σ2 μ2 ∧ Rel σ2 μ2
def ec_keep (Rel : fsS → fsL → Prop) : Prop := ∀ (a1 : Int32) (σ : fsS) (μ : fsL), Rel σ μ → ∃ (r : Int32) (σ1 : fsS) (μ1 : fsL) (σ2 : fsS) (μ2 : fsL), fs_Met yX3_keep cX3_keep 2 (some .int) { frames := 2, cells := 0, slots := 0, locals := 47 } [.ref 0, .int a1] σ μ (some (.int r)) σ1 μ1 ∧ fs_Met yX4_keep cX4_keep 2 (some .int) { frames := 1, cells := 0, slots := 0, locals := 25 } [.ref 51, .int a1] σ1 μ1 (some (.int r)) σ2 μ2 ∧ Rel σ2 μ2
def ec_on (Rel : fsS → fsL → Prop) : Prop := ∀ (a1 : Int32) (σ : fsS) (μ : fsL), Rel σ μ → ∃ (r : Int32) (σ1 : fsS) (μ1 : fsL) (σ2 : fsS) (μ2 : fsL), fs_Met yX3_on cX3_on 2 (some .int) { frames := 6, cells := 0, slots := 0, locals := 137 } [.ref 0, .int a1] σ μ (some (.int r)) σ1 μ1 ∧ fs_Met yX4_on cX4_on 2 (some .int) { frames := 1, cells := 0, slots := 0, locals := 25 } [.ref 51, .int a1] σ1 μ1 (some (.int r)) σ2 μ2 ∧ Rel σ2 μ2
def ec_box (Rel : fsS → fsL → Prop) : Prop := ∀ (σ : fsS) (μ : fsL), Rel σ μ → ∃ (r : Int32) (σ1 : fsS) (μ1 : fsL) (σ2 : fsS) (μ2 : fsL), fs_Met yX3_box cX3_box 1 (some .int) { frames := 2, cells := 0, slots := 0, locals := 47 } [.ref 0] σ μ (some (.int r)) σ1 μ1 ∧ fs_Met yX4_box cX4_box 3 (some .int) { frames := 3, cells := 0, slots := 0, locals := 70 } [.ref 51] σ1 μ1 (some (.int r)) σ2 μ2 ∧ Rel σ2 μ2
def ec_later (Rel : fsS → fsL → Prop) : Prop := ∀ (a1 a2 : Int32) (σ : fsS) (μ : fsL), Rel σ μ → ∃ (r : Int32) (σ1 : fsS) (μ1 : fsL) (σ2 : fsS) (μ2 : fsL), fs_Met yX3_later cX3_later 5 (some .int) { frames := 3, cells := 0, slots := 0, locals := 70 } [.ref 0, .int a1, .int a2] σ μ (some (.int r)) σ1 μ1 ∧ fs_Met yX4_later cX4_later 7 (some .int) { frames := 4, cells := 0, slots := 0, locals := 93 } [.ref 51, .int a1, .int a2] σ1 μ1 (some (.int r)) σ2 μ2 ∧ Rel σ2 μ2
def ec_settles (Rel : fsS → fsL → Prop) : Prop := ∀ (σ : fsS) (μ : fsL), Rel σ μ → ∃ (r : Int32) (σ1 : fsS) (μ1 : fsL) (σ2 : fsS) (μ2 : fsL), fs_Met yX3_settles cX3_settles 2 (some .int) { frames := 3, cells := 0, slots := 0, locals := 70 } [.ref 0] σ μ (some (.int r)) σ1 μ1 ∧ fs_Met yX4_settles cX4_settles 6 (some .int) { frames := 4, cells := 0, slots := 0, locals := 93 } [.ref 51] σ1 μ1 (some (.int r)) σ2 μ2 ∧ Rel σ2 μ2
def ec_mill (Rel : fsS → fsL → Prop) : Prop := ∀ (a1 : Int32) (σ : fsS) (μ : fsL), Rel σ μ → ∃ (r : Int32) (σ1 : fsS) (μ1 : fsL) (σ2 : fsS) (μ2 : fsL), fs_Met yX3_mill cX3_mill 4 (some .int) { frames := 3, cells := 0, slots := 0, locals := 70 } [.ref 0, .int a1] σ μ (some (.int r)) σ1 μ1 ∧ fs_Met yX4_mill cX4_mill 4 (some .int) { frames := 4, cells := 0, slots := 0, locals := 93 } [.ref 51, .int a1] σ1 μ1 (some (.int r)) σ2 μ2 ∧ Rel σ2 μ2
def ec_gains (Rel : fsS → fsL → Prop) : Prop := ∀ (a1 : Int32) (σ : fsS) (μ : fsL), Rel σ μ → ∃ (r : Int32) (σ1 : fsS) (μ1 : fsL) (σ2 : fsS) (μ2 : fsL), fs_Met yX3_gains cX3_gains 4 (some .int) { frames := 5, cells := 0, slots := 0, locals := 116 } [.ref 0, .int a1] σ μ (some (.int r)) σ1 μ1 ∧ fs_Met yX4_gains cX4_gains 5 (some .int) { frames := 6, cells := 0, slots := 0, locals := 139 } [.ref 51, .int a1] σ1 μ1 (some (.int r)) σ2 μ2 ∧ Rel σ2 μ2
def ec_even (Rel : fsS → fsL → Prop) : Prop := ∀ (a1 a2 a3 a4 : Int32) (σ : fsS) (μ : fsL), Rel σ μ → ∃ (r : Int32) (σ1 : fsS) (μ1 : fsL) (σ2 : fsS) (μ2 : fsL), fs_Met yX3_even cX3_even 9 (some .int) { frames := 5, cells := 0, slots := 0, locals := 118 } [.ref 0, .int a1, .int a2, .int a3, .int a4] σ μ (some (.int r)) σ1 μ1 ∧ fs_Met yX4_even cX4_even 11 (some .int) { frames := 5, cells := 0, slots := 0, locals := 116 } [.ref 51, .int a1, .int a2, .int a3, .int a4] σ1 μ1 (some (.int r)) σ2 μ2 ∧ Rel σ2 μ2
def ec_change (Rel : fsS → fsL → Prop) : Prop := ∀ (a1 : Int32) (σ : fsS) (μ : fsL), Rel σ μ → ∃ (r : Int32) (σ1 : fsS) (μ1 : fsL) (σ2 : fsS) (μ2 : fsL), fs_Met yX3_change cX3_change 8 (some .int) { frames := 5, cells := 0, slots := 0, locals := 116 } [.ref 0, .int a1] σ μ (some (.int r)) σ1 μ1 ∧ fs_Met yX4_change cX4_change 7 (some .int) { frames := 5, cells := 0, slots := 0, locals := 116 } [.ref 51, .int a1] σ1 μ1 (some (.int r)) σ2 μ2 ∧ Rel σ2 μ2
def ec_looks (Rel : fsS → fsL → Prop) : Prop := ∀ (a1 a2 : Int32) (σ : fsS) (μ : fsL), Rel σ μ → ∃ (r : Int32) (σ1 : fsS) (μ1 : fsL) (σ2 : fsS) (μ2 : fsL), fs_Met yX3_looks cX3_looks 6 (some .int) { frames := 2, cells := 0, slots := 0, locals := 52 } [.ref 0, .int a1, .int a2] σ μ (some (.int r)) σ1 μ1 ∧ fs_Met yX4_looks cX4_looks 6 (some .int) { frames := 3, cells := 0, slots := 0, locals := 73 } [.ref 51, .int a1, .int a2] σ1 μ1 (some (.int r)) σ2 μ2 ∧ Rel σ2 μ2
def ec_kinds (Rel : fsS → fsL → Prop) : Prop := ∀ (a1 a2 : Int32) (σ : fsS) (μ : fsL), Rel σ μ → ∃ (r : Int32) (σ1 : fsS) (μ1 : fsL) (σ2 : fsS) (μ2 : fsL), fs_Met yX3_kinds cX3_kinds 4 (some .int) { frames := 3, cells := 0, slots := 0, locals := 76 } [.ref 0, .int a1, .int a2] σ μ (some (.int r)) σ1 μ1 ∧ fs_Met yX4_kinds cX4_kinds 4 (some .int) { frames := 4, cells := 0, slots := 0, locals := 97 } [.ref 51, .int a1, .int a2] σ1 μ1 (some (.int r)) σ2 μ2 ∧ Rel σ2 μ2
def ec_test (Rel : fsS → fsL → Prop) : Prop := ∀ (a1 a2 : Int32) (σ : fsS) (μ : fsL), Rel σ μ → ∃ (r : Int32) (σ1 : fsS) (μ1 : fsL) (σ2 : fsS) (μ2 : fsL), fs_Met yX3_test cX3_test 9 (some .int) { frames := 3, cells := 0, slots := 0, locals := 80 } [.ref 0, .int a1, .int a2] σ μ (some (.int r)) σ1 μ1 ∧ fs_Met yX4_test cX4_test 13 (some .int) { frames := 4, cells := 0, slots := 0, locals := 97 } [.ref 51, .int a1, .int a2] σ1 μ1 (some (.int r)) σ2 μ2 ∧ Rel σ2 μ2
def ec_duel (Rel : fsS → fsL → Prop) : Prop := ∀ (a1 a2 a3 : Int32) (σ : fsS) (μ : fsL), Rel σ μ → ∃ (r : Int32) (σ1 : fsS) (μ1 : fsL) (σ2 : fsS) (μ2 : fsL), fs_Met yX3_duel cX3_duel 6 (some .int) { frames := 5, cells := 0, slots := 0, locals := 116 } [.ref 0, .int a1, .int a2, .int a3] σ μ (some (.int r)) σ1 μ1 ∧ fs_Met yX4_duel cX4_duel 6 (some .int) { frames := 5, cells := 0, slots := 0, locals := 116 } [.ref 51, .int a1, .int a2, .int a3] σ1 μ1 (some (.int r)) σ2 μ2 ∧ Rel σ2 μ2
def ec_odds (Rel : fsS → fsL → Prop) : Prop := ∀ (a1 a2 a3 : Int32) (σ : fsS) (μ : fsL), Rel σ μ → ∃ (r : Int32) (σ1 : fsS) (μ1 : fsL) (σ2 : fsS) (μ2 : fsL), fs_Met yX3_odds cX3_odds 7 (some .int) { frames := 2, cells := 0, slots := 0, locals := 52 } [.ref 0, .int a1, .int a2, .int a3] σ μ (some (.int r)) σ1 μ1 ∧ fs_Met yX4_odds cX4_odds 4 (some .int) { frames := 4, cells := 0, slots := 0, locals := 100 } [.ref 51, .int a1, .int a2, .int a3] σ1 μ1 (some (.int r)) σ2 μ2 ∧ Rel σ2 μ2
def ec_mid (Rel : fsS → fsL → Prop) : Prop := ∀ (a1 : Int32) (σ : fsS) (μ : fsL), Rel σ μ → ∃ (r : Int32) (σ1 : fsS) (μ1 : fsL) (σ2 : fsS) (μ2 : fsL), fs_Met yX3_mid cX3_mid 5 (some .int) { frames := 3, cells := 0, slots := 0, locals := 69 } [.ref 0, .int a1] σ μ (some (.int r)) σ1 μ1 ∧ fs_Met yX4_mid cX4_mid 2 (some .int) { frames := 4, cells := 0, slots := 0, locals := 100 } [.ref 51, .int a1] σ1 μ1 (some (.int r)) σ2 μ2 ∧ Rel σ2 μ2
def ec_lots (Rel : fsS → fsL → Prop) : Prop := ∀ (a1 a2 : Int32) (σ : fsS) (μ : fsL), Rel σ μ → ∃ (r : Int32) (σ1 : fsS) (μ1 : fsL) (σ2 : fsS) (μ2 : fsL), fs_Met yX3_lots cX3_lots 6 (some .int) { frames := 5, cells := 0, slots := 0, locals := 115 } [.ref 0, .int a1, .int a2] σ μ (some (.int r)) σ1 μ1 ∧ fs_Met yX4_lots cX4_lots 7 (some .int) { frames := 5, cells := 0, slots := 0, locals := 116 } [.ref 51, .int a1, .int a2] σ1 μ1 (some (.int r)) σ2 μ2 ∧ Rel σ2 μ2
def ec_asked (Rel : fsS → fsL → Prop) : Prop := ∀ (σ : fsS) (μ : fsL), Rel σ μ → ∃ (r : Int32) (σ1 : fsS) (μ1 : fsL) (σ2 : fsS) (μ2 : fsL), fs_Met yX3_asked cX3_asked 1 (some .int) { frames := 0, cells := 0, slots := 0, locals := 0 } [.ref 0] σ μ (some (.int r)) σ1 μ1 ∧ fs_Met yX4_asked cX4_asked 1 (some .int) { frames := 0, cells := 0, slots := 0, locals := 0 } [.ref 51] σ1 μ1 (some (.int r)) σ2 μ2 ∧ Rel σ2 μ2
def ec_upper (Rel : fsS → fsL → Prop) : Prop := ∀ (σ : fsS) (μ : fsL), Rel σ μ → ∃ (r : Int64) (σ1 : fsS) (μ1 : fsL) (σ2 : fsS) (μ2 : fsL), fs_Met yX3_upper cX3_upper 1 (some .long) { frames := 0, cells := 0, slots := 0, locals := 0 } [.ref 0] σ μ (some (.long r)) σ1 μ1 ∧ fs_Met yX4_upper cX4_upper 1 (some .long) { frames := 0, cells := 0, slots := 0, locals := 0 } [.ref 51] σ1 μ1 (some (.long r)) σ2 μ2 ∧ Rel σ2 μ2
def ec_lower (Rel : fsS → fsL → Prop) : Prop := ∀ (σ : fsS) (μ : fsL), Rel σ μ → ∃ (r : Int64) (σ1 : fsS) (μ1 : fsL) (σ2 : fsS) (μ2 : fsL), fs_Met yX3_lower cX3_lower 1 (some .long) { frames := 0, cells := 0, slots := 0, locals := 0 } [.ref 0] σ μ (some (.long r)) σ1 μ1 ∧ fs_Met yX4_lower cX4_lower 1 (some .long) { frames := 0, cells := 0, slots := 0, locals := 0 } [.ref 51] σ1 μ1 (some (.long r)) σ2 μ2 ∧ Rel σ2 μ2
def ec_count (Rel : fsS → fsL → Prop) : Prop := ∀ (a1 : Int32) (σ : fsS) (μ : fsL), Rel σ μ → ∃ (r : Int32) (σ1 : fsS) (μ1 : fsL) (σ2 : fsS) (μ2 : fsL), fs_Met yX3_count cX3_count 2 (some .int) { frames := 4, cells := 0, slots := 0, locals := 89 } [.ref 0, .int a1] σ μ (some (.int r)) σ1 μ1 ∧ fs_Met yX4_count cX4_count 2 (some .int) { frames := 3, cells := 0, slots := 0, locals := 70 } [.ref 51, .int a1] σ1 μ1 (some (.int r)) σ2 μ2 ∧ Rel σ2 μ2
def ec_finding (Rel : fsS → fsL → Prop) : Prop := ∀ (σ : fsS) (μ : fsL), Rel σ μ → ∃ (r : Int32) (σ1 : fsS) (μ1 : fsL) (σ2 : fsS) (μ2 : fsL), fs_Met yX3_finding cX3_finding 1 (some .int) { frames := 0, cells := 0, slots := 0, locals := 0 } [.ref 0] σ μ (some (.int r)) σ1 μ1 ∧ fs_Met yX4_finding cX4_finding 1 (some .int) { frames := 0, cells := 0, slots := 0, locals := 0 } [.ref 51] σ1 μ1 (some (.int r)) σ2 μ2 ∧ Rel σ2 μ2
def ec_findings (Rel : fsS → fsL → Prop) : Prop := ∀ (a1 : Int32) (σ : fsS) (μ : fsL), Rel σ μ → ∃ (r : Int32) (σ1 : fsS) (μ1 : fsL) (σ2 : fsS) (μ2 : fsL), fs_Met yX3_findings cX3_findings 2 (some .int) { frames := 0, cells := 0, slots := 0, locals := 0 } [.ref 0, .int a1] σ μ (some (.int r)) σ1 μ1 ∧ fs_Met yX4_findings cX4_findings 2 (some .int) { frames := 1, cells := 0, slots := 0, locals := 25 } [.ref 51, .int a1] σ1 μ1 (some (.int r)) σ2 μ2 ∧ Rel σ2 μ2
def ec_digest (Rel : fsS → fsL → Prop) : Prop := ∀ (σ : fsS) (μ : fsL), Rel σ μ → ∃ (r : Int64) (σ1 : fsS) (μ1 : fsL) (σ2 : fsS) (μ2 : fsL), fs_Met yX3_digest cX3_digest 5 (some .long) { frames := 4, cells := 0, slots := 0, locals := 89 } [.ref 0] σ μ (some (.long r)) σ1 μ1 ∧ fs_Met yX4_digest cX4_digest 5 (some .long) { frames := 4, cells := 0, slots := 0, locals := 92 } [.ref 51] σ1 μ1 (some (.long r)) σ2 μ2 ∧ Rel σ2 μ2
theorem fs_lx {Ln i : Nat} (hL : Ln ≤ 384) (hi : i ≤ Ln + 6) (h : ¬ (Int32.ofNat Ln - (6 : Int32)) < nI i) : i + 6 ≤ Ln := by
  have e : (nI Ln - nI 6).toInt = (Ln : Int) - 6 := pk_sub_toInt (by omega) (by omega)
  have e2 : (nI i).toInt = (i : Int) := nI_toInt (by omega)
  have h2 : ¬ (nI Ln - nI 6) < nI i := h
  rw [Int32.lt_iff_toInt_lt, e, e2] at h2
  omega
theorem fs_lb {Ln i : Nat} (k : Nat) {z : Int32} (hz : z = nI k) (hL : Ln ≤ 384) (h : i + 6 ≤ Ln) (hk : k < 6) : vp_in (nI i + z) Ln := by
  rw [hz, nI_add]
  exact vp_in_nI (by omega) (by omega)
set_option maxRecDepth 100000 in
set_option maxHeartbeats 400000000 in
theorem law_loop {Rel : fsS → fsL → Prop} (E_row : ec_row Rel) (E_lay : ec_lay Rel) (E_at : ec_at Rel) (E_tear : ec_tear Rel) (E_copy : ec_copy Rel) (E_mean : ec_mean Rel) (E_text : ec_text Rel) (E_put : ec_put Rel) (E_fault : ec_fault Rel) (E_house : ec_house Rel) (E_one : ec_one Rel) (E_mark : ec_mark Rel) (E_regard : ec_regard Rel) (E_quarter : ec_quarter Rel) (E_soot : ec_soot Rel) (E_wash : ec_wash Rel) (E_gift : ec_gift Rel) (E_undo : ec_undo Rel) (E_keep : ec_keep Rel) (E_on : ec_on Rel) (E_box : ec_box Rel) (E_later : ec_later Rel) (E_settles : ec_settles Rel) (E_mill : ec_mill Rel) (E_gains : ec_gains Rel) (E_even : ec_even Rel) (E_change : ec_change Rel) (E_looks : ec_looks Rel) (E_kinds : ec_kinds Rel) (E_test : ec_test Rel) (E_duel : ec_duel Rel) (E_odds : ec_odds Rel) (E_mid : ec_mid Rel) (E_lots : ec_lots Rel) (E_asked : ec_asked Rel) (E_upper : ec_upper Rel) (E_lower : ec_lower Rel) (E_count : ec_count Rel) (E_finding : ec_finding Rel) (E_findings : ec_findings Rel) (E_digest : ec_digest Rel) {X : fsC} (hX : fs_ok cL_law RL 4 room_1 X) {b Ln : Nat} {xs : Nat → Int32} (hs : fs_scr b Ln xs X) (hl : fs_law b X) (hL : Ln ≤ 384) : ∀ (n i : Nat) (σ : fsS) (μ : fsL), i ≤ Ln + 6 → Ln + 7 ≤ i + n → Rel σ μ → fs_PW X 18 [some (.ref 1000), some (.ref 0), some (.ref 51), some (.int (nI i))] [] σ μ := by
  intro n
  induction n with
  | zero =>
    intro i σ μ h1 h2
    exact absurd h2 (by omega)
  | succ n ih =>
    intro i σ μ hi hn hr
    refine s_iload_n hX dL_law_18 rfl ?_
    refine s_aload_n hX dL_law_19 rfl ?_
    refine s_slen hX hs dL_law_20 ?_
    refine s_bi hX (6 : Int32) dL_law_21 (by decide) ?_
    refine s_isub hX dL_law_23 ?_
    refine s_ic_gt hX 1374 dL_law_24 (by decide) (fun c => ?_) (fun c => ?_)
    · refine s_ic hX (1 : Int32) dL_law_1374 (by decide) ?_
      exact s_lawret hX hl dL_law_1375
    · have hb := fs_lx hL hi c
      have nx : ∀ (σ2 : fsS) (μ2 : fsL), Rel σ2 μ2 → fs_PW X 1368 [some (.ref 1000), some (.ref 0), some (.ref 51), some (.int (nI i))] [] σ2 μ2 := by
        intro σ2 μ2 hr2
        refine s_iinc hX (nI (i + 6)) dL_law_1368 rfl (show nI i + nI 6 = nI (i + 6) from nI_add i 6) (Nat.le_of_ble_eq_true rfl) ?_
        refine s_goto hX 18 dL_law_1371 (by decide) ?_
        exact ih (i + 6) σ2 μ2 (by omega) (by omega) hr2
      have hb0 : vp_in (nI i) Ln := vp_in_nI (by omega) (by omega)
      have hb1 : vp_in (nI i + (1 : Int32)) Ln := fs_lb 1 (by decide) hL hb (by omega)
      have hb2 : vp_in (nI i + (2 : Int32)) Ln := fs_lb 2 (by decide) hL hb (by omega)
      have hb3 : vp_in (nI i + (3 : Int32)) Ln := fs_lb 3 (by decide) hL hb (by omega)
      have hb4 : vp_in (nI i + (4 : Int32)) Ln := fs_lb 4 (by decide) hL hb (by omega)
      have hb5 : vp_in (nI i + (5 : Int32)) Ln := fs_lb 5 (by decide) hL hb (by omega)
      refine s_aload_n hX dL_law_27 rfl ?_
      refine s_iload_n hX dL_law_28 rfl ?_
      refine s_sld hX hs dL_law_29 hb0 ?_
      refine s_bi hX (63 : Int32) dL_law_30 (by decide) ?_
      refine s_iand hX dL_law_32 ?_
      generalize xs (nI i).toNatClampNeg &&& (63 : Int32) = x
      by_cases c0 : x = (0 : Int32)
      · refine s_tabK hX 212 (0 : Int32) c0 dL_law_33 (by decide) (by decide) rfl (by decide) ?_
        obtain ⟨r, σ1, μ1, σ2, μ2, h1, h2, hr2⟩ := E_row (xs (nI i + (1 : Int32)).toNatClampNeg) (xs (nI i + (2 : Int32)).toNatClampNeg) σ μ hr
        exact lc_row hX hs hb1 hb2 h1 h2 (nx σ2 μ2 hr2)
      by_cases c1 : x = (1 : Int32)
      · refine s_tabK hX 245 (1 : Int32) c1 dL_law_33 (by decide) (by decide) rfl (by decide) ?_
        obtain ⟨r, σ1, μ1, σ2, μ2, h1, h2, hr2⟩ := E_lay (xs (nI i + (1 : Int32)).toNatClampNeg) (xs (nI i + (2 : Int32)).toNatClampNeg) (xs (nI i + (3 : Int32)).toNatClampNeg) σ μ hr
        exact lc_lay hX hs hb1 hb2 hb3 h1 h2 (nx σ2 μ2 hr2)
      by_cases c2 : x = (2 : Int32)
      · refine s_tabK hX 288 (2 : Int32) c2 dL_law_33 (by decide) (by decide) rfl (by decide) ?_
        obtain ⟨r, σ1, μ1, σ2, μ2, h1, h2, hr2⟩ := E_at (xs (nI i + (1 : Int32)).toNatClampNeg) (xs (nI i + (2 : Int32)).toNatClampNeg) σ μ hr
        exact lc_at hX hs hb1 hb2 h1 h2 (nx σ2 μ2 hr2)
      by_cases c3 : x = (3 : Int32)
      · refine s_tabK hX 321 (3 : Int32) c3 dL_law_33 (by decide) (by decide) rfl (by decide) ?_
        obtain ⟨r, σ1, μ1, σ2, μ2, h1, h2, hr2⟩ := E_tear (xs (nI i + (1 : Int32)).toNatClampNeg) σ μ hr
        exact lc_tear hX hs hb1 h1 h2 (nx σ2 μ2 hr2)
      by_cases c4 : x = (4 : Int32)
      · refine s_tabK hX 344 (4 : Int32) c4 dL_law_33 (by decide) (by decide) rfl (by decide) ?_
        obtain ⟨r, σ1, μ1, σ2, μ2, h1, h2, hr2⟩ := E_copy (xs (nI i + (1 : Int32)).toNatClampNeg) (xs (nI i + (2 : Int32)).toNatClampNeg) (xs (nI i + (3 : Int32)).toNatClampNeg) (xs (nI i + (4 : Int32)).toNatClampNeg) (xs (nI i + (5 : Int32)).toNatClampNeg) σ μ hr
        exact lc_copy hX hs hb1 hb2 hb3 hb4 hb5 h1 h2 (nx σ2 μ2 hr2)
      by_cases c5 : x = (5 : Int32)
      · refine s_tabK hX 407 (5 : Int32) c5 dL_law_33 (by decide) (by decide) rfl (by decide) ?_
        obtain ⟨r, σ1, μ1, σ2, μ2, h1, h2, hr2⟩ := E_mean (xs (nI i + (1 : Int32)).toNatClampNeg) σ μ hr
        exact lc_mean hX hs hb1 h1 h2 (nx σ2 μ2 hr2)
      by_cases c6 : x = (6 : Int32)
      · refine s_tabK hX 430 (6 : Int32) c6 dL_law_33 (by decide) (by decide) rfl (by decide) ?_
        obtain ⟨r, σ1, μ1, σ2, μ2, h1, h2, hr2⟩ := E_text (xs (nI i + (1 : Int32)).toNatClampNeg) (xs (nI i + (2 : Int32)).toNatClampNeg) σ μ hr
        exact lc_text hX hs hb1 hb2 h1 h2 (nx σ2 μ2 hr2)
      by_cases c7 : x = (7 : Int32)
      · refine s_tabK hX 463 (7 : Int32) c7 dL_law_33 (by decide) (by decide) rfl (by decide) ?_
        obtain ⟨r, σ1, μ1, σ2, μ2, h1, h2, hr2⟩ := E_put (xs (nI i + (1 : Int32)).toNatClampNeg) (xs (nI i + (2 : Int32)).toNatClampNeg) (xs (nI i + (3 : Int32)).toNatClampNeg) σ μ hr
        exact lc_put hX hs hb1 hb2 hb3 h1 h2 (nx σ2 μ2 hr2)
      by_cases c8 : x = (8 : Int32)
      · refine s_tabK hX 506 (8 : Int32) c8 dL_law_33 (by decide) (by decide) rfl (by decide) ?_
        obtain ⟨r, σ1, μ1, σ2, μ2, h1, h2, hr2⟩ := E_fault (xs (nI i + (1 : Int32)).toNatClampNeg) σ μ hr
        exact lc_fault hX hs hb1 h1 h2 (nx σ2 μ2 hr2)
      by_cases c9 : x = (9 : Int32)
      · refine s_tabK hX 529 (9 : Int32) c9 dL_law_33 (by decide) (by decide) rfl (by decide) ?_
        obtain ⟨r, σ1, μ1, σ2, μ2, h1, h2, hr2⟩ := E_house (xs (nI i + (1 : Int32)).toNatClampNeg) σ μ hr
        exact lc_house hX hs hb1 h1 h2 (nx σ2 μ2 hr2)
      by_cases c10 : x = (10 : Int32)
      · refine s_tabK hX 552 (10 : Int32) c10 dL_law_33 (by decide) (by decide) rfl (by decide) ?_
        obtain ⟨r, σ1, μ1, σ2, μ2, h1, h2, hr2⟩ := E_one (xs (nI i + (1 : Int32)).toNatClampNeg) (xs (nI i + (2 : Int32)).toNatClampNeg) σ μ hr
        exact lc_one hX hs hb1 hb2 h1 h2 (nx σ2 μ2 hr2)
      by_cases c11 : x = (11 : Int32)
      · refine s_tabK hX 585 (11 : Int32) c11 dL_law_33 (by decide) (by decide) rfl (by decide) ?_
        obtain ⟨r, σ1, μ1, σ2, μ2, h1, h2, hr2⟩ := E_mark (xs (nI i + (1 : Int32)).toNatClampNeg) (xs (nI i + (2 : Int32)).toNatClampNeg) σ μ hr
        exact lc_mark hX hs hb1 hb2 h1 h2 (nx σ2 μ2 hr2)
      by_cases c12 : x = (12 : Int32)
      · refine s_tabK hX 618 (12 : Int32) c12 dL_law_33 (by decide) (by decide) rfl (by decide) ?_
        obtain ⟨r, σ1, μ1, σ2, μ2, h1, h2, hr2⟩ := E_regard (xs (nI i + (1 : Int32)).toNatClampNeg) (xs (nI i + (2 : Int32)).toNatClampNeg) (xs (nI i + (3 : Int32)).toNatClampNeg) σ μ hr
        exact lc_regard hX hs hb1 hb2 hb3 h1 h2 (nx σ2 μ2 hr2)
      by_cases c13 : x = (13 : Int32)
      · refine s_tabK hX 661 (13 : Int32) c13 dL_law_33 (by decide) (by decide) rfl (by decide) ?_
        obtain ⟨r, σ1, μ1, σ2, μ2, h1, h2, hr2⟩ := E_quarter  σ μ hr
        exact lc_quarter hX hs  h1 h2 (nx σ2 μ2 hr2)
      by_cases c14 : x = (14 : Int32)
      · refine s_tabK hX 674 (14 : Int32) c14 dL_law_33 (by decide) (by decide) rfl (by decide) ?_
        obtain ⟨r, σ1, μ1, σ2, μ2, h1, h2, hr2⟩ := E_soot (xs (nI i + (1 : Int32)).toNatClampNeg) σ μ hr
        exact lc_soot hX hs hb1 h1 h2 (nx σ2 μ2 hr2)
      by_cases c15 : x = (15 : Int32)
      · refine s_tabK hX 697 (15 : Int32) c15 dL_law_33 (by decide) (by decide) rfl (by decide) ?_
        obtain ⟨r, σ1, μ1, σ2, μ2, h1, h2, hr2⟩ := E_wash (xs (nI i + (1 : Int32)).toNatClampNeg) σ μ hr
        exact lc_wash hX hs hb1 h1 h2 (nx σ2 μ2 hr2)
      by_cases c16 : x = (16 : Int32)
      · refine s_tabK hX 720 (16 : Int32) c16 dL_law_33 (by decide) (by decide) rfl (by decide) ?_
        obtain ⟨r, σ1, μ1, σ2, μ2, h1, h2, hr2⟩ := E_gift (xs (nI i + (1 : Int32)).toNatClampNeg) (xs (nI i + (2 : Int32)).toNatClampNeg) (xs (nI i + (3 : Int32)).toNatClampNeg) σ μ hr
        exact lc_gift hX hs hb1 hb2 hb3 h1 h2 (nx σ2 μ2 hr2)
      by_cases c17 : x = (17 : Int32)
      · refine s_tabK hX 763 (17 : Int32) c17 dL_law_33 (by decide) (by decide) rfl (by decide) ?_
        obtain ⟨r, σ1, μ1, σ2, μ2, h1, h2, hr2⟩ := E_undo (xs (nI i + (1 : Int32)).toNatClampNeg) σ μ hr
        exact lc_undo hX hs hb1 h1 h2 (nx σ2 μ2 hr2)
      by_cases c18 : x = (18 : Int32)
      · refine s_tabK hX 786 (18 : Int32) c18 dL_law_33 (by decide) (by decide) rfl (by decide) ?_
        obtain ⟨r, σ1, μ1, σ2, μ2, h1, h2, hr2⟩ := E_keep (xs (nI i + (1 : Int32)).toNatClampNeg) σ μ hr
        exact lc_keep hX hs hb1 h1 h2 (nx σ2 μ2 hr2)
      by_cases c19 : x = (19 : Int32)
      · refine s_tabK hX 809 (19 : Int32) c19 dL_law_33 (by decide) (by decide) rfl (by decide) ?_
        obtain ⟨r, σ1, μ1, σ2, μ2, h1, h2, hr2⟩ := E_on (xs (nI i + (1 : Int32)).toNatClampNeg) σ μ hr
        exact lc_on hX hs hb1 h1 h2 (nx σ2 μ2 hr2)
      by_cases c20 : x = (20 : Int32)
      · refine s_tabK hX 832 (20 : Int32) c20 dL_law_33 (by decide) (by decide) rfl (by decide) ?_
        obtain ⟨r, σ1, μ1, σ2, μ2, h1, h2, hr2⟩ := E_box  σ μ hr
        exact lc_box hX hs  h1 h2 (nx σ2 μ2 hr2)
      by_cases c21 : x = (21 : Int32)
      · refine s_tabK hX 845 (21 : Int32) c21 dL_law_33 (by decide) (by decide) rfl (by decide) ?_
        obtain ⟨r, σ1, μ1, σ2, μ2, h1, h2, hr2⟩ := E_later (xs (nI i + (1 : Int32)).toNatClampNeg) (xs (nI i + (2 : Int32)).toNatClampNeg) σ μ hr
        exact lc_later hX hs hb1 hb2 h1 h2 (nx σ2 μ2 hr2)
      by_cases c22 : x = (22 : Int32)
      · refine s_tabK hX 878 (22 : Int32) c22 dL_law_33 (by decide) (by decide) rfl (by decide) ?_
        obtain ⟨r, σ1, μ1, σ2, μ2, h1, h2, hr2⟩ := E_settles  σ μ hr
        exact lc_settles hX hs  h1 h2 (nx σ2 μ2 hr2)
      by_cases c23 : x = (23 : Int32)
      · refine s_tabK hX 891 (23 : Int32) c23 dL_law_33 (by decide) (by decide) rfl (by decide) ?_
        obtain ⟨r, σ1, μ1, σ2, μ2, h1, h2, hr2⟩ := E_mill (xs (nI i + (1 : Int32)).toNatClampNeg) σ μ hr
        exact lc_mill hX hs hb1 h1 h2 (nx σ2 μ2 hr2)
      by_cases c24 : x = (24 : Int32)
      · refine s_tabK hX 914 (24 : Int32) c24 dL_law_33 (by decide) (by decide) rfl (by decide) ?_
        obtain ⟨r, σ1, μ1, σ2, μ2, h1, h2, hr2⟩ := E_gains (xs (nI i + (1 : Int32)).toNatClampNeg) σ μ hr
        exact lc_gains hX hs hb1 h1 h2 (nx σ2 μ2 hr2)
      by_cases c25 : x = (25 : Int32)
      · refine s_tabK hX 937 (25 : Int32) c25 dL_law_33 (by decide) (by decide) rfl (by decide) ?_
        obtain ⟨r, σ1, μ1, σ2, μ2, h1, h2, hr2⟩ := E_even (xs (nI i + (1 : Int32)).toNatClampNeg) (xs (nI i + (2 : Int32)).toNatClampNeg) (xs (nI i + (3 : Int32)).toNatClampNeg) (xs (nI i + (4 : Int32)).toNatClampNeg) σ μ hr
        exact lc_even hX hs hb1 hb2 hb3 hb4 h1 h2 (nx σ2 μ2 hr2)
      by_cases c26 : x = (26 : Int32)
      · refine s_tabK hX 990 (26 : Int32) c26 dL_law_33 (by decide) (by decide) rfl (by decide) ?_
        obtain ⟨r, σ1, μ1, σ2, μ2, h1, h2, hr2⟩ := E_change (xs (nI i + (1 : Int32)).toNatClampNeg) σ μ hr
        exact lc_change hX hs hb1 h1 h2 (nx σ2 μ2 hr2)
      by_cases c27 : x = (27 : Int32)
      · refine s_tabK hX 1013 (27 : Int32) c27 dL_law_33 (by decide) (by decide) rfl (by decide) ?_
        obtain ⟨r, σ1, μ1, σ2, μ2, h1, h2, hr2⟩ := E_looks (xs (nI i + (1 : Int32)).toNatClampNeg) (xs (nI i + (2 : Int32)).toNatClampNeg) σ μ hr
        exact lc_looks hX hs hb1 hb2 h1 h2 (nx σ2 μ2 hr2)
      by_cases c28 : x = (28 : Int32)
      · refine s_tabK hX 1046 (28 : Int32) c28 dL_law_33 (by decide) (by decide) rfl (by decide) ?_
        obtain ⟨r, σ1, μ1, σ2, μ2, h1, h2, hr2⟩ := E_kinds (xs (nI i + (1 : Int32)).toNatClampNeg) (xs (nI i + (2 : Int32)).toNatClampNeg) σ μ hr
        exact lc_kinds hX hs hb1 hb2 h1 h2 (nx σ2 μ2 hr2)
      by_cases c29 : x = (29 : Int32)
      · refine s_tabK hX 1079 (29 : Int32) c29 dL_law_33 (by decide) (by decide) rfl (by decide) ?_
        obtain ⟨r, σ1, μ1, σ2, μ2, h1, h2, hr2⟩ := E_test (xs (nI i + (1 : Int32)).toNatClampNeg) (xs (nI i + (2 : Int32)).toNatClampNeg) σ μ hr
        exact lc_test hX hs hb1 hb2 h1 h2 (nx σ2 μ2 hr2)
      by_cases c30 : x = (30 : Int32)
      · refine s_tabK hX 1112 (30 : Int32) c30 dL_law_33 (by decide) (by decide) rfl (by decide) ?_
        obtain ⟨r, σ1, μ1, σ2, μ2, h1, h2, hr2⟩ := E_duel (xs (nI i + (1 : Int32)).toNatClampNeg) (xs (nI i + (2 : Int32)).toNatClampNeg) (xs (nI i + (3 : Int32)).toNatClampNeg) σ μ hr
        exact lc_duel hX hs hb1 hb2 hb3 h1 h2 (nx σ2 μ2 hr2)
      by_cases c31 : x = (31 : Int32)
      · refine s_tabK hX 1155 (31 : Int32) c31 dL_law_33 (by decide) (by decide) rfl (by decide) ?_
        obtain ⟨r, σ1, μ1, σ2, μ2, h1, h2, hr2⟩ := E_odds (xs (nI i + (1 : Int32)).toNatClampNeg) (xs (nI i + (2 : Int32)).toNatClampNeg) (xs (nI i + (3 : Int32)).toNatClampNeg) σ μ hr
        exact lc_odds hX hs hb1 hb2 hb3 h1 h2 (nx σ2 μ2 hr2)
      by_cases c32 : x = (32 : Int32)
      · refine s_tabK hX 1198 (32 : Int32) c32 dL_law_33 (by decide) (by decide) rfl (by decide) ?_
        obtain ⟨r, σ1, μ1, σ2, μ2, h1, h2, hr2⟩ := E_mid (xs (nI i + (1 : Int32)).toNatClampNeg) σ μ hr
        exact lc_mid hX hs hb1 h1 h2 (nx σ2 μ2 hr2)
      by_cases c33 : x = (33 : Int32)
      · refine s_tabK hX 1221 (33 : Int32) c33 dL_law_33 (by decide) (by decide) rfl (by decide) ?_
        obtain ⟨r, σ1, μ1, σ2, μ2, h1, h2, hr2⟩ := E_lots (xs (nI i + (1 : Int32)).toNatClampNeg) (xs (nI i + (2 : Int32)).toNatClampNeg) σ μ hr
        exact lc_lots hX hs hb1 hb2 h1 h2 (nx σ2 μ2 hr2)
      by_cases c34 : x = (34 : Int32)
      · refine s_tabK hX 1254 (34 : Int32) c34 dL_law_33 (by decide) (by decide) rfl (by decide) ?_
        obtain ⟨r, σ1, μ1, σ2, μ2, h1, h2, hr2⟩ := E_asked  σ μ hr
        exact lc_asked hX hs  h1 h2 (nx σ2 μ2 hr2)
      by_cases c35 : x = (35 : Int32)
      · refine s_tabK hX 1267 (35 : Int32) c35 dL_law_33 (by decide) (by decide) rfl (by decide) ?_
        obtain ⟨r, σ1, μ1, σ2, μ2, h1, h2, hr2⟩ := E_upper  σ μ hr
        exact lc_upper hX hs  h1 h2 (nx σ2 μ2 hr2)
      by_cases c36 : x = (36 : Int32)
      · refine s_tabK hX 1281 (36 : Int32) c36 dL_law_33 (by decide) (by decide) rfl (by decide) ?_
        obtain ⟨r, σ1, μ1, σ2, μ2, h1, h2, hr2⟩ := E_lower  σ μ hr
        exact lc_lower hX hs  h1 h2 (nx σ2 μ2 hr2)
      by_cases c37 : x = (37 : Int32)
      · refine s_tabK hX 1295 (37 : Int32) c37 dL_law_33 (by decide) (by decide) rfl (by decide) ?_
        obtain ⟨r, σ1, μ1, σ2, μ2, h1, h2, hr2⟩ := E_count (xs (nI i + (1 : Int32)).toNatClampNeg) σ μ hr
        exact lc_count hX hs hb1 h1 h2 (nx σ2 μ2 hr2)
      by_cases c38 : x = (38 : Int32)
      · refine s_tabK hX 1318 (38 : Int32) c38 dL_law_33 (by decide) (by decide) rfl (by decide) ?_
        obtain ⟨r, σ1, μ1, σ2, μ2, h1, h2, hr2⟩ := E_finding  σ μ hr
        exact lc_finding hX hs  h1 h2 (nx σ2 μ2 hr2)
      by_cases c39 : x = (39 : Int32)
      · refine s_tabK hX 1331 (39 : Int32) c39 dL_law_33 (by decide) (by decide) rfl (by decide) ?_
        obtain ⟨r, σ1, μ1, σ2, μ2, h1, h2, hr2⟩ := E_findings (xs (nI i + (1 : Int32)).toNatClampNeg) σ μ hr
        exact lc_findings hX hs hb1 h1 h2 (nx σ2 μ2 hr2)
      by_cases c40 : x = (40 : Int32)
      · refine s_tabK hX 1354 (40 : Int32) c40 dL_law_33 (by decide) (by decide) rfl (by decide) ?_
        obtain ⟨r, σ1, μ1, σ2, μ2, h1, h2, hr2⟩ := E_digest  σ μ hr
        exact lc_digest hX hs  h1 h2 (nx σ2 μ2 hr2)
      have w0 := fs_ne (z := 0) c0 (by decide)
      have w1 := fs_ne (z := 1) c1 (by decide)
      have w2 := fs_ne (z := 2) c2 (by decide)
      have w3 := fs_ne (z := 3) c3 (by decide)
      have w4 := fs_ne (z := 4) c4 (by decide)
      have w5 := fs_ne (z := 5) c5 (by decide)
      have w6 := fs_ne (z := 6) c6 (by decide)
      have w7 := fs_ne (z := 7) c7 (by decide)
      have w8 := fs_ne (z := 8) c8 (by decide)
      have w9 := fs_ne (z := 9) c9 (by decide)
      have w10 := fs_ne (z := 10) c10 (by decide)
      have w11 := fs_ne (z := 11) c11 (by decide)
      have w12 := fs_ne (z := 12) c12 (by decide)
      have w13 := fs_ne (z := 13) c13 (by decide)
      have w14 := fs_ne (z := 14) c14 (by decide)
      have w15 := fs_ne (z := 15) c15 (by decide)
      have w16 := fs_ne (z := 16) c16 (by decide)
      have w17 := fs_ne (z := 17) c17 (by decide)
      have w18 := fs_ne (z := 18) c18 (by decide)
      have w19 := fs_ne (z := 19) c19 (by decide)
      have w20 := fs_ne (z := 20) c20 (by decide)
      have w21 := fs_ne (z := 21) c21 (by decide)
      have w22 := fs_ne (z := 22) c22 (by decide)
      have w23 := fs_ne (z := 23) c23 (by decide)
      have w24 := fs_ne (z := 24) c24 (by decide)
      have w25 := fs_ne (z := 25) c25 (by decide)
      have w26 := fs_ne (z := 26) c26 (by decide)
      have w27 := fs_ne (z := 27) c27 (by decide)
      have w28 := fs_ne (z := 28) c28 (by decide)
      have w29 := fs_ne (z := 29) c29 (by decide)
      have w30 := fs_ne (z := 30) c30 (by decide)
      have w31 := fs_ne (z := 31) c31 (by decide)
      have w32 := fs_ne (z := 32) c32 (by decide)
      have w33 := fs_ne (z := 33) c33 (by decide)
      have w34 := fs_ne (z := 34) c34 (by decide)
      have w35 := fs_ne (z := 35) c35 (by decide)
      have w36 := fs_ne (z := 36) c36 (by decide)
      have w37 := fs_ne (z := 37) c37 (by decide)
      have w38 := fs_ne (z := 38) c38 (by decide)
      have w39 := fs_ne (z := 39) c39 (by decide)
      have w40 := fs_ne (z := 40) c40 (by decide)
      refine s_tabOut hX 1368 dL_law_33 (by omega) (by decide) ?_
      exact nx σ μ hr
