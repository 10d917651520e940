set_option maxRecDepth 20000 in
set_option maxHeartbeats 40000000 in
theorem c_Sh4 (l : Launch) (G : va_G) (cI cII : ClassId) (sz h : Nat) : iMet l G cI cII sz yX2_init cX2_init 4 { frames := 1, cells := 6, slots := 248, locals := 60 } [.ref h, .int 4, .int 60, .int 32] [(h, .inr (2, [.null, .null, .int 0]))] (fun α : Nat → Nat => α 0 = h) (tmSh4 cI cII) := by
  refine i_intro (by decide +kernel) (Nat.le_of_ble_eq_true rfl) (fun X hX hI hR => ?_)
  have hI := hI rfl
  show iW G X 0 4 [(0, .ref h), (1, .int 4), (2, .int 60), (3, .int 32)] [] [(h, .inr (2, [.null, .null, .int 0]))] _ _
  refine i_al hX dX2_init_0 0 rfl rfl ?_
  refine i_oi hX dX2_init_1 (fs_me1 22 rfl rfl) (fs_me1 15 rfl rfl) (fs_me1 16 rfl rfl) (Nat.le_of_ble_eq_true rfl) (Nat.le_of_ble_eq_true rfl) ?_
  refine i_al hX dX2_init_4 0 rfl rfl ?_
  refine i_ic hX (0 : Int32) dX2_init_5 (by decide) ?_
  refine i_il hX dX2_init_6 1 rfl rfl ?_
  refine i_mx hX dX2_init_7 k_X2_9 (Nat.le_of_ble_eq_true rfl) (Nat.le_of_ble_eq_true rfl) (Nat.le_of_ble_eq_true rfl) (Nat.le_of_ble_eq_true rfl) (4) (by decide) ?_
  refine i_ic hX (0 : Int32) dX2_init_10 (by decide) ?_
  refine i_il hX dX2_init_11 2 rfl rfl ?_
  refine i_mx hX dX2_init_12 k_X2_9 (Nat.le_of_ble_eq_true rfl) (Nat.le_of_ble_eq_true rfl) (Nat.le_of_ble_eq_true rfl) (Nat.le_of_ble_eq_true rfl) (60) (by decide) ?_
  refine i_mna (N := 4) (M := 60) hX dX2_init_15 (fs_me1 26 rfl rfl) (by decide) (by decide) (by decide) (by decide) (Nat.le_of_ble_eq_true rfl) (Nat.le_of_ble_eq_true rfl) (fs_me1 43 rfl rfl) (Nat.le_of_ble_eq_true rfl) (Nat.le_of_ble_eq_true rfl) (fun q15 => ?_)
  show iW G X 19 4 [(0, .ref h), (1, .int 4), (2, .int 60), (3, .int 32)] [.ref q15, .ref h] [(h, .inr (2, [.null, .null, .int 0])), (q15, .inl (cII, 4, .inr (.inr (.inr (.inr (fun i => if i < 4 then some (q15 + 1 + i) else none)))))), (q15 + 1 + 0, .inl (cI, 60, .inl (fun _ => 0))), (q15 + 1 + 1, .inl (cI, 60, .inl (fun _ => 0))), (q15 + 1 + 2, .inl (cI, 60, .inl (fun _ => 0))), (q15 + 1 + 3, .inl (cI, 60, .inl (fun _ => 0)))] _ _
  refine i_pf (q0 := 0) (w' := [(h, .inr (2, [.ref q15, .null, .int 0])), (q15, .inl (cII, 4, .inr (.inr (.inr (.inr (fun i => if i < 4 then some (q15 + 1 + i) else none)))))), (q15 + 1 + 0, .inl (cI, 60, .inl (fun _ => 0))), (q15 + 1 + 1, .inl (cI, 60, .inl (fun _ => 0))), (q15 + 1 + 2, .inl (cI, 60, .inl (fun _ => 0))), (q15 + 1 + 3, .inl (cI, 60, .inl (fun _ => 0)))]) hX hI dX2_init_19 ff_X2_17 rfl rfl rfl (Nat.le_of_ble_eq_true rfl) rfl ?_
  refine i_al hX dX2_init_22 0 rfl rfl ?_
  refine i_ic hX (0 : Int32) dX2_init_23 (by decide) ?_
  refine i_il hX dX2_init_24 1 rfl rfl ?_
  refine i_mx hX dX2_init_25 k_X2_9 (Nat.le_of_ble_eq_true rfl) (Nat.le_of_ble_eq_true rfl) (Nat.le_of_ble_eq_true rfl) (Nat.le_of_ble_eq_true rfl) (4) (by decide) ?_
  refine i_na (N := 4) hX dX2_init_28 (by decide) (by decide) (Nat.le_of_ble_eq_true rfl) (fs_me1 43 rfl rfl) (Nat.le_of_ble_eq_true rfl) (Nat.le_of_ble_eq_true rfl) (fun q28 => ?_)
  show iW G X 30 4 [(0, .ref h), (1, .int 4), (2, .int 60), (3, .int 32)] [.ref q28, .ref h] [(h, .inr (2, [.ref q15, .null, .int 0])), (q15, .inl (cII, 4, .inr (.inr (.inr (.inr (fun i => if i < 4 then some (q15 + 1 + i) else none)))))), (q15 + 1 + 0, .inl (cI, 60, .inl (fun _ => 0))), (q15 + 1 + 1, .inl (cI, 60, .inl (fun _ => 0))), (q15 + 1 + 2, .inl (cI, 60, .inl (fun _ => 0))), (q15 + 1 + 3, .inl (cI, 60, .inl (fun _ => 0))), (q28, .inl (cI, 4, .inl (fun _ => 0)))] _ _
  refine i_pf (q0 := 0) (w' := [(h, .inr (2, [.ref q15, .ref q28, .int 0])), (q15, .inl (cII, 4, .inr (.inr (.inr (.inr (fun i => if i < 4 then some (q15 + 1 + i) else none)))))), (q15 + 1 + 0, .inl (cI, 60, .inl (fun _ => 0))), (q15 + 1 + 1, .inl (cI, 60, .inl (fun _ => 0))), (q15 + 1 + 2, .inl (cI, 60, .inl (fun _ => 0))), (q15 + 1 + 3, .inl (cI, 60, .inl (fun _ => 0))), (q28, .inl (cI, 4, .inl (fun _ => 0)))]) hX hI dX2_init_30 ff_X2_22 rfl rfl rfl (Nat.le_of_ble_eq_true rfl) rfl ?_
  refine i_al hX dX2_init_33 0 rfl rfl ?_
  refine i_il hX dX2_init_34 3 rfl rfl ?_
  refine i_pf (q0 := 0) (w' := [(h, .inr (2, [.ref q15, .ref q28, .int 32])), (q15, .inl (cII, 4, .inr (.inr (.inr (.inr (fun i => if i < 4 then some (q15 + 1 + i) else none)))))), (q15 + 1 + 0, .inl (cI, 60, .inl (fun _ => 0))), (q15 + 1 + 1, .inl (cI, 60, .inl (fun _ => 0))), (q15 + 1 + 2, .inl (cI, 60, .inl (fun _ => 0))), (q15 + 1 + 3, .inl (cI, 60, .inl (fun _ => 0))), (q28, .inl (cI, 4, .inl (fun _ => 0)))]) hX hI dX2_init_35 ff_X2_26 rfl rfl rfl (Nat.le_of_ble_eq_true rfl) rfl ?_
  refine i_al hX dX2_init_38 0 rfl rfl ?_
  refine i_g (q0 := 0) hX dX2_init_39 f_X2_22 rfl rfl ?_
  refine i_ic hX (-1 : Int32) dX2_init_42 (by decide) ?_
  refine i_cS (wr := [(h, .inr (2, [.ref q15, .ref q28, .int 32])), (q15, .inl (cII, 4, .inr (.inr (.inr (.inr (fun i => if i < 4 then some (q15 + 1 + i) else none)))))), (q15 + 1 + 0, .inl (cI, 60, .inl (fun _ => 0))), (q15 + 1 + 1, .inl (cI, 60, .inl (fun _ => 0))), (q15 + 1 + 2, .inl (cI, 60, .inl (fun _ => 0))), (q15 + 1 + 3, .inl (cI, 60, .inl (fun _ => 0)))]) hX [.ref (q28), .int (-1)] dX2_init_43 (fun l sz => i_fill l G cI cII sz (q28) 4 (fun _ => 0) (-1) (Nat.le_of_ble_eq_true rfl)) k_X2_30 v_J7_fill_53178 ⟨(Nat.le_of_ble_eq_true rfl), (Nat.le_of_ble_eq_true rfl)⟩ rfl (Nat.le_of_ble_eq_true rfl) ⟨(Nat.le_of_ble_eq_true rfl), (Nat.le_of_ble_eq_true rfl)⟩ 6 [0, 1, 2, 3, 4, 5] rfl rfl (by decide) (by decide) (fun _ _ => ?_)
  show iW G X 46 4 [(0, .ref h), (1, .int 4), (2, .int 60), (3, .int 32)] [] [(h, .inr (2, [.ref q15, .ref q28, .int 32])), (q15, .inl (cII, 4, .inr (.inr (.inr (.inr (fun i => if i < 4 then some (q15 + 1 + i) else none)))))), (q15 + 1 + 0, .inl (cI, 60, .inl (fun _ => 0))), (q15 + 1 + 1, .inl (cI, 60, .inl (fun _ => 0))), (q15 + 1 + 2, .inl (cI, 60, .inl (fun _ => 0))), (q15 + 1 + 3, .inl (cI, 60, .inl (fun _ => 0))), (q28, .inl (cI, 4, .inl (fun _ => -1)))] _ _
  refine i_sub [0, 1, 6, 2, 3, 4, 5] (w' := [(h, .inr (2, [.ref q15, .ref q28, .int 32])), (q15, .inl (cII, 4, .inr (.inr (.inr (.inr (fun i => if i < 4 then some (q15 + 1 + i) else none)))))), (q28, .inl (cI, 4, .inl (fun _ => -1))), (q15 + 1 + 0, .inl (cI, 60, .inl (fun _ => 0))), (q15 + 1 + 1, .inl (cI, 60, .inl (fun _ => 0))), (q15 + 1 + 2, .inl (cI, 60, .inl (fun _ => 0))), (q15 + 1 + 3, .inl (cI, 60, .inl (fun _ => 0)))]) (by decide) rfl ?_
  have e0 : (fun i => if i < 4 then some (q15 + 1 + i) else none) = (fun i => if i < 4 then some (lk 0 [h, q15, q28, q15 + 1 + 0, q15 + 1 + 1, q15 + 1 + 2, q15 + 1 + 3] (3 + i)) else none) := i_out (fun i hi => by
    rcases (show i = 0 ∨ i = 1 ∨ i = 2 ∨ i = 3 by omega) with rfl | rfl | rfl | rfl <;> rfl)
  exact i_rt hX hR (lk 0 [h, q15, q28, q15 + 1 + 0, q15 + 1 + 1, q15 + 1 + 2, q15 + 1 + 3]) dX2_init_46 rfl (by rw [e0]; rfl) (Nat.le_of_ble_eq_true rfl) (Nat.le_of_ble_eq_true rfl)
