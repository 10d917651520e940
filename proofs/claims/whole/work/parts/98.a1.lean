set_option maxRecDepth 20000 in
set_option maxHeartbeats 40000000 in
theorem c_Kin (l : Launch) (G : va_G) (cI cII : ClassId) (sz h : Nat) : iMet l G cI cII sz yX1_init cX1_init 1 { frames := 1, cells := 7, slots := 42, locals := 20 } [.ref h] [(h, .inr (1, [.int 0, .null, .null, .null, .null, .null, .null, .null, .int 0, .int 0]))] (fun α : Nat → Nat => α 0 = h) (tmKin cI) := by
  refine i_intro (by decide +kernel) (Nat.le_of_ble_eq_true rfl) (fun X hX hI hR => ?_)
  have hI := hI rfl
  show iW G X 0 1 [(0, .ref h)] [] [(h, .inr (1, [.int 0, .null, .null, .null, .null, .null, .null, .null, .int 0, .int 0]))] _ _
  refine i_al hX dX1_init_0 0 rfl rfl ?_
  refine i_oi hX dX1_init_1 (fs_me1 55 rfl rfl) (fs_me1 15 rfl rfl) (fs_me1 16 rfl rfl) (Nat.le_of_ble_eq_true rfl) (Nat.le_of_ble_eq_true rfl) ?_
  refine i_al hX dX1_init_4 0 rfl rfl ?_
  refine i_ic hX (0 : Int32) dX1_init_5 (by decide) ?_
  refine i_p (q0 := 0) (w' := [(h, .inr (1, [.int (0), .null, .null, .null, .null, .null, .null, .null, .int 0, .int 0]))]) hX dX1_init_6 p_X1_9 rfl rfl rfl (Nat.le_of_ble_eq_true rfl) rfl ?_
  refine i_al hX dX1_init_9 0 rfl rfl ?_
  refine i_bi hX (6 : Int32) dX1_init_10 (by decide) ?_
  refine i_na (N := 6) hX dX1_init_12 (by decide) (by decide) (Nat.le_of_ble_eq_true rfl) (fs_me1 43 rfl rfl) (Nat.le_of_ble_eq_true rfl) (Nat.le_of_ble_eq_true rfl) (fun q12 => ?_)
  show iW G X 14 1 [(0, .ref h)] [.ref q12, .ref h] [(h, .inr (1, [.int (0), .null, .null, .null, .null, .null, .null, .null, .int 0, .int 0])), (q12, .inl (cI, 6, .inl (fun _ => 0)))] _ _
  refine i_pf (q0 := 0) (w' := [(h, .inr (1, [.int (0), .ref q12, .null, .null, .null, .null, .null, .null, .int 0, .int 0])), (q12, .inl (cI, 6, .inl (fun _ => 0)))]) hX hI dX1_init_14 ff_X1_15 rfl rfl rfl (Nat.le_of_ble_eq_true rfl) rfl ?_
  refine i_al hX dX1_init_17 0 rfl rfl ?_
  refine i_bi hX (6 : Int32) dX1_init_18 (by decide) ?_
  refine i_na (N := 6) hX dX1_init_20 (by decide) (by decide) (Nat.le_of_ble_eq_true rfl) (fs_me1 43 rfl rfl) (Nat.le_of_ble_eq_true rfl) (Nat.le_of_ble_eq_true rfl) (fun q20 => ?_)
  show iW G X 22 1 [(0, .ref h)] [.ref q20, .ref h] [(h, .inr (1, [.int (0), .ref q12, .null, .null, .null, .null, .null, .null, .int 0, .int 0])), (q12, .inl (cI, 6, .inl (fun _ => 0))), (q20, .inl (cI, 6, .inl (fun _ => 0)))] _ _
  refine i_pf (q0 := 0) (w' := [(h, .inr (1, [.int (0), .ref q12, .ref q20, .null, .null, .null, .null, .null, .int 0, .int 0])), (q12, .inl (cI, 6, .inl (fun _ => 0))), (q20, .inl (cI, 6, .inl (fun _ => 0)))]) hX hI dX1_init_22 ff_X1_19 rfl rfl rfl (Nat.le_of_ble_eq_true rfl) rfl ?_
  refine i_al hX dX1_init_25 0 rfl rfl ?_
  refine i_bi hX (6 : Int32) dX1_init_26 (by decide) ?_
  refine i_na (N := 6) hX dX1_init_28 (by decide) (by decide) (Nat.le_of_ble_eq_true rfl) (fs_me1 43 rfl rfl) (Nat.le_of_ble_eq_true rfl) (Nat.le_of_ble_eq_true rfl) (fun q28 => ?_)
  show iW G X 30 1 [(0, .ref h)] [.ref q28, .ref h] [(h, .inr (1, [.int (0), .ref q12, .ref q20, .null, .null, .null, .null, .null, .int 0, .int 0])), (q12, .inl (cI, 6, .inl (fun _ => 0))), (q20, .inl (cI, 6, .inl (fun _ => 0))), (q28, .inl (cI, 6, .inl (fun _ => 0)))] _ _
  refine i_pf (q0 := 0) (w' := [(h, .inr (1, [.int (0), .ref q12, .ref q20, .ref q28, .null, .null, .null, .null, .int 0, .int 0])), (q12, .inl (cI, 6, .inl (fun _ => 0))), (q20, .inl (cI, 6, .inl (fun _ => 0))), (q28, .inl (cI, 6, .inl (fun _ => 0)))]) hX hI dX1_init_30 ff_X1_22 rfl rfl rfl (Nat.le_of_ble_eq_true rfl) rfl ?_
  refine i_al hX dX1_init_33 0 rfl rfl ?_
  refine i_bi hX (6 : Int32) dX1_init_34 (by decide) ?_
  refine i_na (N := 6) hX dX1_init_36 (by decide) (by decide) (Nat.le_of_ble_eq_true rfl) (fs_me1 43 rfl rfl) (Nat.le_of_ble_eq_true rfl) (Nat.le_of_ble_eq_true rfl) (fun q36 => ?_)
  show iW G X 38 1 [(0, .ref h)] [.ref q36, .ref h] [(h, .inr (1, [.int (0), .ref q12, .ref q20, .ref q28, .null, .null, .null, .null, .int 0, .int 0])), (q12, .inl (cI, 6, .inl (fun _ => 0))), (q20, .inl (cI, 6, .inl (fun _ => 0))), (q28, .inl (cI, 6, .inl (fun _ => 0))), (q36, .inl (cI, 6, .inl (fun _ => 0)))] _ _
  refine i_pf (q0 := 0) (w' := [(h, .inr (1, [.int (0), .ref q12, .ref q20, .ref q28, .ref q36, .null, .null, .null, .int 0, .int 0])), (q12, .inl (cI, 6, .inl (fun _ => 0))), (q20, .inl (cI, 6, .inl (fun _ => 0))), (q28, .inl (cI, 6, .inl (fun _ => 0))), (q36, .inl (cI, 6, .inl (fun _ => 0)))]) hX hI dX1_init_38 ff_X1_25 rfl rfl rfl (Nat.le_of_ble_eq_true rfl) rfl ?_
  refine i_al hX dX1_init_41 0 rfl rfl ?_
  refine i_bi hX (6 : Int32) dX1_init_42 (by decide) ?_
  refine i_na (N := 6) hX dX1_init_44 (by decide) (by decide) (Nat.le_of_ble_eq_true rfl) (fs_me1 43 rfl rfl) (Nat.le_of_ble_eq_true rfl) (Nat.le_of_ble_eq_true rfl) (fun q44 => ?_)
  show iW G X 46 1 [(0, .ref h)] [.ref q44, .ref h] [(h, .inr (1, [.int (0), .ref q12, .ref q20, .ref q28, .ref q36, .null, .null, .null, .int 0, .int 0])), (q12, .inl (cI, 6, .inl (fun _ => 0))), (q20, .inl (cI, 6, .inl (fun _ => 0))), (q28, .inl (cI, 6, .inl (fun _ => 0))), (q36, .inl (cI, 6, .inl (fun _ => 0))), (q44, .inl (cI, 6, .inl (fun _ => 0)))] _ _
  refine i_pf (q0 := 0) (w' := [(h, .inr (1, [.int (0), .ref q12, .ref q20, .ref q28, .ref q36, .ref q44, .null, .null, .int 0, .int 0])), (q12, .inl (cI, 6, .inl (fun _ => 0))), (q20, .inl (cI, 6, .inl (fun _ => 0))), (q28, .inl (cI, 6, .inl (fun _ => 0))), (q36, .inl (cI, 6, .inl (fun _ => 0))), (q44, .inl (cI, 6, .inl (fun _ => 0)))]) hX hI dX1_init_46 ff_X1_28 rfl rfl rfl (Nat.le_of_ble_eq_true rfl) rfl ?_
  refine i_al hX dX1_init_49 0 rfl rfl ?_
  refine i_bi hX (6 : Int32) dX1_init_50 (by decide) ?_
  refine i_na (N := 6) hX dX1_init_52 (by decide) (by decide) (Nat.le_of_ble_eq_true rfl) (fs_me1 43 rfl rfl) (Nat.le_of_ble_eq_true rfl) (Nat.le_of_ble_eq_true rfl) (fun q52 => ?_)
  show iW G X 54 1 [(0, .ref h)] [.ref q52, .ref h] [(h, .inr (1, [.int (0), .ref q12, .ref q20, .ref q28, .ref q36, .ref q44, .null, .null, .int 0, .int 0])), (q12, .inl (cI, 6, .inl (fun _ => 0))), (q20, .inl (cI, 6, .inl (fun _ => 0))), (q28, .inl (cI, 6, .inl (fun _ => 0))), (q36, .inl (cI, 6, .inl (fun _ => 0))), (q44, .inl (cI, 6, .inl (fun _ => 0))), (q52, .inl (cI, 6, .inl (fun _ => 0)))] _ _
  refine i_pf (q0 := 0) (w' := [(h, .inr (1, [.int (0), .ref q12, .ref q20, .ref q28, .ref q36, .ref q44, .ref q52, .null, .int 0, .int 0])), (q12, .inl (cI, 6, .inl (fun _ => 0))), (q20, .inl (cI, 6, .inl (fun _ => 0))), (q28, .inl (cI, 6, .inl (fun _ => 0))), (q36, .inl (cI, 6, .inl (fun _ => 0))), (q44, .inl (cI, 6, .inl (fun _ => 0))), (q52, .inl (cI, 6, .inl (fun _ => 0)))]) hX hI dX1_init_54 ff_X1_31 rfl rfl rfl (Nat.le_of_ble_eq_true rfl) rfl ?_
  refine i_al hX dX1_init_57 0 rfl rfl ?_
  refine i_bi hX (6 : Int32) dX1_init_58 (by decide) ?_
  refine i_na (N := 6) hX dX1_init_60 (by decide) (by decide) (Nat.le_of_ble_eq_true rfl) (fs_me1 43 rfl rfl) (Nat.le_of_ble_eq_true rfl) (Nat.le_of_ble_eq_true rfl) (fun q60 => ?_)
  show iW G X 62 1 [(0, .ref h)] [.ref q60, .ref h] [(h, .inr (1, [.int (0), .ref q12, .ref q20, .ref q28, .ref q36, .ref q44, .ref q52, .null, .int 0, .int 0])), (q12, .inl (cI, 6, .inl (fun _ => 0))), (q20, .inl (cI, 6, .inl (fun _ => 0))), (q28, .inl (cI, 6, .inl (fun _ => 0))), (q36, .inl (cI, 6, .inl (fun _ => 0))), (q44, .inl (cI, 6, .inl (fun _ => 0))), (q52, .inl (cI, 6, .inl (fun _ => 0))), (q60, .inl (cI, 6, .inl (fun _ => 0)))] _ _
  refine i_pf (q0 := 0) (w' := [(h, .inr (1, [.int (0), .ref q12, .ref q20, .ref q28, .ref q36, .ref q44, .ref q52, .ref q60, .int 0, .int 0])), (q12, .inl (cI, 6, .inl (fun _ => 0))), (q20, .inl (cI, 6, .inl (fun _ => 0))), (q28, .inl (cI, 6, .inl (fun _ => 0))), (q36, .inl (cI, 6, .inl (fun _ => 0))), (q44, .inl (cI, 6, .inl (fun _ => 0))), (q52, .inl (cI, 6, .inl (fun _ => 0))), (q60, .inl (cI, 6, .inl (fun _ => 0)))]) hX hI dX1_init_62 ff_X1_34 rfl rfl rfl (Nat.le_of_ble_eq_true rfl) rfl ?_
  refine i_al hX dX1_init_65 0 rfl rfl ?_
  refine i_ic hX (0 : Int32) dX1_init_66 (by decide) ?_
  refine i_p (q0 := 0) (w' := [(h, .inr (1, [.int (0), .ref q12, .ref q20, .ref q28, .ref q36, .ref q44, .ref q52, .ref q60, .int (0), .int 0])), (q12, .inl (cI, 6, .inl (fun _ => 0))), (q20, .inl (cI, 6, .inl (fun _ => 0))), (q28, .inl (cI, 6, .inl (fun _ => 0))), (q36, .inl (cI, 6, .inl (fun _ => 0))), (q44, .inl (cI, 6, .inl (fun _ => 0))), (q52, .inl (cI, 6, .inl (fun _ => 0))), (q60, .inl (cI, 6, .inl (fun _ => 0)))]) hX dX1_init_67 p_X1_37 rfl rfl rfl (Nat.le_of_ble_eq_true rfl) rfl ?_
  refine i_al hX dX1_init_70 0 rfl rfl ?_
  refine i_ic hX (0 : Int32) dX1_init_71 (by decide) ?_
  refine i_p (q0 := 0) (w' := [(h, .inr (1, [.int (0), .ref q12, .ref q20, .ref q28, .ref q36, .ref q44, .ref q52, .ref q60, .int (0), .int (0)])), (q12, .inl (cI, 6, .inl (fun _ => 0))), (q20, .inl (cI, 6, .inl (fun _ => 0))), (q28, .inl (cI, 6, .inl (fun _ => 0))), (q36, .inl (cI, 6, .inl (fun _ => 0))), (q44, .inl (cI, 6, .inl (fun _ => 0))), (q52, .inl (cI, 6, .inl (fun _ => 0))), (q60, .inl (cI, 6, .inl (fun _ => 0)))]) hX dX1_init_72 p_X1_40 rfl rfl rfl (Nat.le_of_ble_eq_true rfl) rfl ?_
  exact i_rt hX hR (lk 0 [h, q12, q20, q28, q36, q44, q52, q60]) dX1_init_75 rfl rfl (Nat.le_of_ble_eq_true rfl) (Nat.le_of_ble_eq_true rfl)
