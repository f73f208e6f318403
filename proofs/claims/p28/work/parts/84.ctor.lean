theorem kb_X0_init : bFact k_X0_init := ⟨wc_X0_init, rfl, wi_X0, ⟨by decide, by decide⟩, by decide +kernel, rfl, wm_X0_init⟩
theorem ff_X0_9 : gFf RX0 9 0 0 := ⟨_, _, _, tyX0, .array .int, rfl, wu_X0, by decide, wf_X0_9, tyX0_ok, nmX0, rfl, rfl, by decide +kernel, fun _ => ⟨rfl, rfl⟩⟩
theorem kb_X1_init : bFact k_X1_init := ⟨wc_X1_init, rfl, wi_X1, ⟨by decide, by decide⟩, by decide +kernel, rfl, wm_X1_init⟩
theorem ff_X1_9 : gFf RX1 9 1 0 := ⟨_, _, _, tyX1, .array .int, rfl, wu_X1, by decide, wf_X1_9, tyX1_ok, nmX1, rfl, rfl, by decide +kernel, fun _ => ⟨rfl, rfl⟩⟩
theorem ff_X1_15 : gFf RX1 15 1 1 := ⟨_, _, _, tyX1, .array .int, rfl, wu_X1, by decide, wf_X1_15, tyX1_ok, nmX1, rfl, rfl, by decide +kernel, fun _ => ⟨rfl, rfl⟩⟩
theorem ff_X1_18 : gFf RX1 18 1 2 := ⟨_, _, _, tyX1, .array .int, rfl, wu_X1, by decide, wf_X1_18, tyX1_ok, nmX1, rfl, rfl, by decide +kernel, fun _ => ⟨rfl, rfl⟩⟩
theorem ff_X1_21 : gFf RX1 21 1 3 := ⟨_, _, _, tyX1, .array .int, rfl, wu_X1, by decide, wf_X1_21, tyX1_ok, nmX1, rfl, rfl, by decide +kernel, fun _ => ⟨rfl, rfl⟩⟩
theorem ff_X1_24 : gFf RX1 24 1 4 := ⟨_, _, _, tyX1, .array .int, rfl, wu_X1, by decide, wf_X1_24, tyX1_ok, nmX1, rfl, rfl, by decide +kernel, fun _ => ⟨rfl, rfl⟩⟩
theorem ff_X1_27 : gFf RX1 27 1 5 := ⟨_, _, _, tyX1, .array .int, rfl, wu_X1, by decide, wf_X1_27, tyX1_ok, nmX1, rfl, rfl, by decide +kernel, fun _ => ⟨rfl, rfl⟩⟩
theorem ff_X1_30 : gFf RX1 30 1 6 := ⟨_, _, _, tyX1, .array .int, rfl, wu_X1, by decide, wf_X1_30, tyX1_ok, nmX1, rfl, rfl, by decide +kernel, fun _ => ⟨rfl, rfl⟩⟩
theorem ff_X1_33 : gFf RX1 33 1 7 := ⟨_, _, _, tyX1, .array .int, rfl, wu_X1, by decide, wf_X1_33, tyX1_ok, nmX1, rfl, rfl, by decide +kernel, fun _ => ⟨rfl, rfl⟩⟩
theorem kb_X2_init : bFact k_X2_init := ⟨wc_X2_init, rfl, wi_X2, ⟨by decide, by decide⟩, by decide +kernel, rfl, wm_X2_init⟩
theorem ff_X2_9 : gFf RX2 9 2 0 := ⟨_, _, _, tyX2, .array .int, rfl, wu_X2, by decide, wf_X2_9, tyX2_ok, nmX2, rfl, rfl, by decide +kernel, fun _ => ⟨rfl, rfl⟩⟩
theorem ff_X2_15 : gFf RX2 15 2 1 := ⟨_, _, _, tyX2, .array .int, rfl, wu_X2, by decide, wf_X2_15, tyX2_ok, nmX2, rfl, rfl, by decide +kernel, fun _ => ⟨rfl, rfl⟩⟩
theorem ff_X2_18 : gFf RX2 18 2 2 := ⟨_, _, _, tyX2, .array .int, rfl, wu_X2, by decide, wf_X2_18, tyX2_ok, nmX2, rfl, rfl, by decide +kernel, fun _ => ⟨rfl, rfl⟩⟩
theorem ff_X2_21 : gFf RX2 21 2 3 := ⟨_, _, _, tyX2, .array .int, rfl, wu_X2, by decide, wf_X2_21, tyX2_ok, nmX2, rfl, rfl, by decide +kernel, fun _ => ⟨rfl, rfl⟩⟩
theorem ff_X2_24 : gFf RX2 24 2 4 := ⟨_, _, _, tyX2, .array .int, rfl, wu_X2, by decide, wf_X2_24, tyX2_ok, nmX2, rfl, rfl, by decide +kernel, fun _ => ⟨rfl, rfl⟩⟩
theorem ff_X2_27 : gFf RX2 27 2 5 := ⟨_, _, _, tyX2, .array .int, rfl, wu_X2, by decide, wf_X2_27, tyX2_ok, nmX2, rfl, rfl, by decide +kernel, fun _ => ⟨rfl, rfl⟩⟩
theorem kb_X3_init : bFact k_X3_init := ⟨wc_X3_init, rfl, wi_X3, ⟨by decide, by decide⟩, by decide +kernel, rfl, wm_X3_init⟩
theorem ff_X3_11 : gFf RX3 11 3 0 := ⟨_, _, _, tyX3, .array (.object RX5), rfl, wu_X3, by decide, wf_X3_11, tyX3_ok, nmX3, rfl, rfl, by decide +kernel, fun _ => ⟨rfl, rfl⟩⟩
theorem kb_X4_init : bFact k_X4_init := ⟨wc_X4_init, rfl, wi_X4, ⟨by decide, by decide⟩, by decide +kernel, rfl, wm_X4_init⟩
theorem ff_X4_9 : gFf RX4 9 4 0 := ⟨_, _, _, tyX4, .array .int, rfl, wu_X4, by decide, wf_X4_9, tyX4_ok, nmX4, rfl, rfl, by decide +kernel, fun _ => ⟨rfl, rfl⟩⟩
theorem ff_X4_15 : gFf RX4 15 4 1 := ⟨_, _, _, tyX4, .array .int, rfl, wu_X4, by decide, wf_X4_15, tyX4_ok, nmX4, rfl, rfl, by decide +kernel, fun _ => ⟨rfl, rfl⟩⟩
theorem ff_X4_18 : gFf RX4 18 4 2 := ⟨_, _, _, tyX4, .array .int, rfl, wu_X4, by decide, wf_X4_18, tyX4_ok, nmX4, rfl, rfl, by decide +kernel, fun _ => ⟨rfl, rfl⟩⟩
theorem ff_X4_21 : gFf RX4 21 4 3 := ⟨_, _, _, tyX4, .array .int, rfl, wu_X4, by decide, wf_X4_21, tyX4_ok, nmX4, rfl, rfl, by decide +kernel, fun _ => ⟨rfl, rfl⟩⟩
theorem kb_X5_init : bFact k_X5_init := ⟨wc_X5_init, rfl, wi_X5, ⟨by decide, by decide⟩, by decide +kernel, rfl, wm_X5_init⟩
theorem ff_X5_12 : gFf RX5 12 5 0 := ⟨_, _, _, tyX5, .object RX4, rfl, wu_X5, by decide, wf_X5_12, tyX5_ok, nmX5, rfl, rfl, by decide +kernel, fun _ => ⟨rfl, rfl⟩⟩
theorem ff_X5_21 : gFf RX5 21 5 1 := ⟨_, _, _, tyX5, .object RX2, rfl, wu_X5, by decide, wf_X5_21, tyX5_ok, nmX5, rfl, rfl, by decide +kernel, fun _ => ⟨rfl, rfl⟩⟩
theorem ff_X5_28 : gFf RX5 28 5 2 := ⟨_, _, _, tyX5, .object RX0, rfl, wu_X5, by decide, wf_X5_28, tyX5_ok, nmX5, rfl, rfl, by decide +kernel, fun _ => ⟨rfl, rfl⟩⟩
theorem ff_X5_35 : gFf RX5 35 5 3 := ⟨_, _, _, tyX5, .object RX1, rfl, wu_X5, by decide, wf_X5_35, tyX5_ok, nmX5, rfl, rfl, by decide +kernel, fun _ => ⟨rfl, rfl⟩⟩
theorem ff_X5_48 : gFf RX5 48 5 4 := ⟨_, _, _, tyX5, .array .int, rfl, wu_X5, by decide, wf_X5_48, tyX5_ok, nmX5, rfl, rfl, by decide +kernel, fun _ => ⟨rfl, rfl⟩⟩
theorem kb_X6_init : bFact k_X6_init := ⟨wc_X6_init, rfl, wi_X6, ⟨by decide, by decide⟩, by decide +kernel, rfl, wm_X6_init⟩
theorem ff_X6_9 : gFf RX6 9 6 0 := ⟨_, _, _, tyX6, .array .char, rfl, wu_X6, by decide, wf_X6_9, tyX6_ok, nmX6, rfl, rfl, by decide +kernel, fun _ => ⟨rfl, rfl⟩⟩
theorem kb_X7_init : bFact k_X7_init := ⟨wc_X7_init, rfl, wi_X7, ⟨by decide, by decide⟩, by decide +kernel, rfl, wm_X7_init⟩
theorem ff_X7_10 : gFf RX7 10 7 0 := ⟨_, _, _, tyX7, .object RX5, rfl, wu_X7, by decide, wf_X7_10, tyX7_ok, nmX7, rfl, rfl, by decide +kernel, fun _ => ⟨rfl, rfl⟩⟩
theorem ff_X7_19 : gFf RX7 19 7 1 := ⟨_, _, _, tyX7, .object RX3, rfl, wu_X7, by decide, wf_X7_19, tyX7_ok, nmX7, rfl, rfl, by decide +kernel, fun _ => ⟨rfl, rfl⟩⟩
theorem ff_X7_26 : gFf RX7 26 7 2 := ⟨_, _, _, tyX7, .object RX6, rfl, wu_X7, by decide, wf_X7_26, tyX7_ok, nmX7, rfl, rfl, by decide +kernel, fun _ => ⟨rfl, rfl⟩⟩
set_option maxRecDepth 20000 in
theorem c_X0_init (B : bB) : bMet B k_X0_init 1 6 0 [.null, .int 0, .int 0, .int 0, .int 0] 0 shBa zA := by
  refine bMet.of (by decide +kernel) rfl rfl (Nat.le_of_ble_eq_true rfl) (fun h0 sz X hX hI hH => ?_)
  refine b_aload hX 0 rfl dX0_init_0 rfl rfl ?_
  refine b_objInit hX wk_X0_3 dX0_init_1 rfl rfl (Nat.le_of_ble_eq_true rfl) rfl ?_
  refine b_aload hX 0 rfl dX0_init_4 rfl rfl ?_
  refine b_bipush hX (v := 6) dX0_init_5 rfl rfl ?_
  refine b_newaI hX (N := 6) (by decide) rfl rfl rfl rfl dX0_init_7 rfl (fun q1 => ?_)
  refine b_putF hX hI ff_X0_9 0 rfl (Nat.le_of_ble_eq_true rfl) dX0_init_9 rfl ?_
  change bG X B [(h0, .inr (0, [.ref q1, .int 0, .int 0, .int 0, .int 0])), (q1, .inl (B.2.2.1, 6, .inl (fun _ => 0)))] 1 6 12 [(0, .ref h0)] [] _
  exact b_vret hX hI hH dX0_init_12 (fun a => [h0, q1].getD a 0) rfl (fun hP hD => ⟨hP, hD⟩)
set_option maxRecDepth 20000 in
theorem c_X1_init (B : bB) : bMet B k_X1_init 8 240 1 [.null, .null, .null, .null, .null, .null, .null, .null, .int 0, .int 0] 0 shCo zA := by
  refine bMet.of (by decide +kernel) rfl rfl (Nat.le_of_ble_eq_true rfl) (fun h0 sz X hX hI hH => ?_)
  refine b_aload hX 0 rfl dX1_init_0 rfl rfl ?_
  refine b_objInit hX wk_X1_3 dX1_init_1 rfl rfl (Nat.le_of_ble_eq_true rfl) rfl ?_
  refine b_aload hX 0 rfl dX1_init_4 rfl rfl ?_
  refine b_bipush hX (v := 30) dX1_init_5 rfl rfl ?_
  refine b_newaI hX (N := 30) (by decide) rfl rfl rfl rfl dX1_init_7 rfl (fun q1 => ?_)
  refine b_putF hX hI ff_X1_9 0 rfl (Nat.le_of_ble_eq_true rfl) dX1_init_9 rfl ?_
  change bG X B [(h0, .inr (1, [.ref q1, .null, .null, .null, .null, .null, .null, .null, .int 0, .int 0])), (q1, .inl (B.2.2.1, 30, .inl (fun _ => 0)))] 1 30 12 [(0, .ref h0)] [] _
  refine b_aload hX 0 rfl dX1_init_12 rfl rfl ?_
  refine b_bipush hX (v := 30) dX1_init_13 rfl rfl ?_
  refine b_newaI hX (N := 30) (by decide) rfl rfl rfl rfl dX1_init_15 rfl (fun q2 => ?_)
  refine b_putF hX hI ff_X1_15 0 rfl (Nat.le_of_ble_eq_true rfl) dX1_init_17 rfl ?_
  change bG X B [(h0, .inr (1, [.ref q1, .ref q2, .null, .null, .null, .null, .null, .null, .int 0, .int 0])), (q1, .inl (B.2.2.1, 30, .inl (fun _ => 0))), (q2, .inl (B.2.2.1, 30, .inl (fun _ => 0)))] 2 60 20 [(0, .ref h0)] [] _
  refine b_aload hX 0 rfl dX1_init_20 rfl rfl ?_
  refine b_bipush hX (v := 30) dX1_init_21 rfl rfl ?_
  refine b_newaI hX (N := 30) (by decide) rfl rfl rfl rfl dX1_init_23 rfl (fun q3 => ?_)
  refine b_putF hX hI ff_X1_18 0 rfl (Nat.le_of_ble_eq_true rfl) dX1_init_25 rfl ?_
  change bG X B [(h0, .inr (1, [.ref q1, .ref q2, .ref q3, .null, .null, .null, .null, .null, .int 0, .int 0])), (q1, .inl (B.2.2.1, 30, .inl (fun _ => 0))), (q2, .inl (B.2.2.1, 30, .inl (fun _ => 0))), (q3, .inl (B.2.2.1, 30, .inl (fun _ => 0)))] 3 90 28 [(0, .ref h0)] [] _
  refine b_aload hX 0 rfl dX1_init_28 rfl rfl ?_
  refine b_bipush hX (v := 30) dX1_init_29 rfl rfl ?_
  refine b_newaI hX (N := 30) (by decide) rfl rfl rfl rfl dX1_init_31 rfl (fun q4 => ?_)
  refine b_putF hX hI ff_X1_21 0 rfl (Nat.le_of_ble_eq_true rfl) dX1_init_33 rfl ?_
  change bG X B [(h0, .inr (1, [.ref q1, .ref q2, .ref q3, .ref q4, .null, .null, .null, .null, .int 0, .int 0])), (q1, .inl (B.2.2.1, 30, .inl (fun _ => 0))), (q2, .inl (B.2.2.1, 30, .inl (fun _ => 0))), (q3, .inl (B.2.2.1, 30, .inl (fun _ => 0))), (q4, .inl (B.2.2.1, 30, .inl (fun _ => 0)))] 4 120 36 [(0, .ref h0)] [] _
  refine b_aload hX 0 rfl dX1_init_36 rfl rfl ?_
  refine b_bipush hX (v := 30) dX1_init_37 rfl rfl ?_
  refine b_newaI hX (N := 30) (by decide) rfl rfl rfl rfl dX1_init_39 rfl (fun q5 => ?_)
  refine b_putF hX hI ff_X1_24 0 rfl (Nat.le_of_ble_eq_true rfl) dX1_init_41 rfl ?_
  change bG X B [(h0, .inr (1, [.ref q1, .ref q2, .ref q3, .ref q4, .ref q5, .null, .null, .null, .int 0, .int 0])), (q1, .inl (B.2.2.1, 30, .inl (fun _ => 0))), (q2, .inl (B.2.2.1, 30, .inl (fun _ => 0))), (q3, .inl (B.2.2.1, 30, .inl (fun _ => 0))), (q4, .inl (B.2.2.1, 30, .inl (fun _ => 0))), (q5, .inl (B.2.2.1, 30, .inl (fun _ => 0)))] 5 150 44 [(0, .ref h0)] [] _
  refine b_aload hX 0 rfl dX1_init_44 rfl rfl ?_
  refine b_bipush hX (v := 30) dX1_init_45 rfl rfl ?_
  refine b_newaI hX (N := 30) (by decide) rfl rfl rfl rfl dX1_init_47 rfl (fun q6 => ?_)
  refine b_putF hX hI ff_X1_27 0 rfl (Nat.le_of_ble_eq_true rfl) dX1_init_49 rfl ?_
  change bG X B [(h0, .inr (1, [.ref q1, .ref q2, .ref q3, .ref q4, .ref q5, .ref q6, .null, .null, .int 0, .int 0])), (q1, .inl (B.2.2.1, 30, .inl (fun _ => 0))), (q2, .inl (B.2.2.1, 30, .inl (fun _ => 0))), (q3, .inl (B.2.2.1, 30, .inl (fun _ => 0))), (q4, .inl (B.2.2.1, 30, .inl (fun _ => 0))), (q5, .inl (B.2.2.1, 30, .inl (fun _ => 0))), (q6, .inl (B.2.2.1, 30, .inl (fun _ => 0)))] 6 180 52 [(0, .ref h0)] [] _
  refine b_aload hX 0 rfl dX1_init_52 rfl rfl ?_
  refine b_bipush hX (v := 30) dX1_init_53 rfl rfl ?_
  refine b_newaI hX (N := 30) (by decide) rfl rfl rfl rfl dX1_init_55 rfl (fun q7 => ?_)
  refine b_putF hX hI ff_X1_30 0 rfl (Nat.le_of_ble_eq_true rfl) dX1_init_57 rfl ?_
  change bG X B [(h0, .inr (1, [.ref q1, .ref q2, .ref q3, .ref q4, .ref q5, .ref q6, .ref q7, .null, .int 0, .int 0])), (q1, .inl (B.2.2.1, 30, .inl (fun _ => 0))), (q2, .inl (B.2.2.1, 30, .inl (fun _ => 0))), (q3, .inl (B.2.2.1, 30, .inl (fun _ => 0))), (q4, .inl (B.2.2.1, 30, .inl (fun _ => 0))), (q5, .inl (B.2.2.1, 30, .inl (fun _ => 0))), (q6, .inl (B.2.2.1, 30, .inl (fun _ => 0))), (q7, .inl (B.2.2.1, 30, .inl (fun _ => 0)))] 7 210 60 [(0, .ref h0)] [] _
  refine b_aload hX 0 rfl dX1_init_60 rfl rfl ?_
  refine b_bipush hX (v := 30) dX1_init_61 rfl rfl ?_
  refine b_newaI hX (N := 30) (by decide) rfl rfl rfl rfl dX1_init_63 rfl (fun q8 => ?_)
  refine b_putF hX hI ff_X1_33 0 rfl (Nat.le_of_ble_eq_true rfl) dX1_init_65 rfl ?_
  change bG X B [(h0, .inr (1, [.ref q1, .ref q2, .ref q3, .ref q4, .ref q5, .ref q6, .ref q7, .ref q8, .int 0, .int 0])), (q1, .inl (B.2.2.1, 30, .inl (fun _ => 0))), (q2, .inl (B.2.2.1, 30, .inl (fun _ => 0))), (q3, .inl (B.2.2.1, 30, .inl (fun _ => 0))), (q4, .inl (B.2.2.1, 30, .inl (fun _ => 0))), (q5, .inl (B.2.2.1, 30, .inl (fun _ => 0))), (q6, .inl (B.2.2.1, 30, .inl (fun _ => 0))), (q7, .inl (B.2.2.1, 30, .inl (fun _ => 0))), (q8, .inl (B.2.2.1, 30, .inl (fun _ => 0)))] 8 240 68 [(0, .ref h0)] [] _
  exact b_vret hX hI hH dX1_init_68 (fun a => [h0, q1, q2, q3, q4, q5, q6, q7, q8].getD a 0) rfl (fun hP hD => ⟨hP, hD⟩)
set_option maxRecDepth 20000 in
theorem c_X2_init (B : bB) : bMet B k_X2_init 6 552 2 [.null, .null, .null, .null, .null, .null, .int 0, .int 0] 0 shDo zD := by
  refine bMet.of (by decide +kernel) rfl rfl (Nat.le_of_ble_eq_true rfl) (fun h0 sz X hX hI hH => ?_)
  refine b_aload hX 0 rfl dX2_init_0 rfl rfl ?_
  refine b_objInit hX wk_X2_3 dX2_init_1 rfl rfl (Nat.le_of_ble_eq_true rfl) rfl ?_
  refine b_aload hX 0 rfl dX2_init_4 rfl rfl ?_
  refine b_bipush hX (v := 20) dX2_init_5 rfl rfl ?_
  refine b_newaI hX (N := 20) (by decide) rfl rfl rfl rfl dX2_init_7 rfl (fun q1 => ?_)
  refine b_putF hX hI ff_X2_9 0 rfl (Nat.le_of_ble_eq_true rfl) dX2_init_9 rfl ?_
  change bG X B [(h0, .inr (2, [.ref q1, .null, .null, .null, .null, .null, .int 0, .int 0])), (q1, .inl (B.2.2.1, 20, .inl (fun _ => 0)))] 1 20 12 [(0, .ref h0)] [] _
  refine b_aload hX 0 rfl dX2_init_12 rfl rfl ?_
  refine b_bipush hX (v := 20) dX2_init_13 rfl rfl ?_
  refine b_newaI hX (N := 20) (by decide) rfl rfl rfl rfl dX2_init_15 rfl (fun q2 => ?_)
  refine b_putF hX hI ff_X2_15 0 rfl (Nat.le_of_ble_eq_true rfl) dX2_init_17 rfl ?_
  change bG X B [(h0, .inr (2, [.ref q1, .ref q2, .null, .null, .null, .null, .int 0, .int 0])), (q1, .inl (B.2.2.1, 20, .inl (fun _ => 0))), (q2, .inl (B.2.2.1, 20, .inl (fun _ => 0)))] 2 40 20 [(0, .ref h0)] [] _
  refine b_aload hX 0 rfl dX2_init_20 rfl rfl ?_
  refine b_bipush hX (v := 20) dX2_init_21 rfl rfl ?_
  refine b_newaI hX (N := 20) (by decide) rfl rfl rfl rfl dX2_init_23 rfl (fun q3 => ?_)
  refine b_putF hX hI ff_X2_18 0 rfl (Nat.le_of_ble_eq_true rfl) dX2_init_25 rfl ?_
  change bG X B [(h0, .inr (2, [.ref q1, .ref q2, .ref q3, .null, .null, .null, .int 0, .int 0])), (q1, .inl (B.2.2.1, 20, .inl (fun _ => 0))), (q2, .inl (B.2.2.1, 20, .inl (fun _ => 0))), (q3, .inl (B.2.2.1, 20, .inl (fun _ => 0)))] 3 60 28 [(0, .ref h0)] [] _
  refine b_aload hX 0 rfl dX2_init_28 rfl rfl ?_
  refine b_bipush hX (v := 12) dX2_init_29 rfl rfl ?_
  refine b_newaI hX (N := 12) (by decide) rfl rfl rfl rfl dX2_init_31 rfl (fun q4 => ?_)
  refine b_putF hX hI ff_X2_21 0 rfl (Nat.le_of_ble_eq_true rfl) dX2_init_33 rfl ?_
  change bG X B [(h0, .inr (2, [.ref q1, .ref q2, .ref q3, .ref q4, .null, .null, .int 0, .int 0])), (q1, .inl (B.2.2.1, 20, .inl (fun _ => 0))), (q2, .inl (B.2.2.1, 20, .inl (fun _ => 0))), (q3, .inl (B.2.2.1, 20, .inl (fun _ => 0))), (q4, .inl (B.2.2.1, 12, .inl (fun _ => 0)))] 4 72 36 [(0, .ref h0)] [] _
  refine b_aload hX 0 rfl dX2_init_36 rfl rfl ?_
  refine b_sipush hX (v := 240) dX2_init_37 rfl rfl ?_
  refine b_newaI hX (N := 240) (by decide) rfl rfl rfl rfl dX2_init_40 rfl (fun q5 => ?_)
  refine b_putF hX hI ff_X2_24 0 rfl (Nat.le_of_ble_eq_true rfl) dX2_init_42 rfl ?_
  change bG X B [(h0, .inr (2, [.ref q1, .ref q2, .ref q3, .ref q4, .ref q5, .null, .int 0, .int 0])), (q1, .inl (B.2.2.1, 20, .inl (fun _ => 0))), (q2, .inl (B.2.2.1, 20, .inl (fun _ => 0))), (q3, .inl (B.2.2.1, 20, .inl (fun _ => 0))), (q4, .inl (B.2.2.1, 12, .inl (fun _ => 0))), (q5, .inl (B.2.2.1, 240, .inl (fun _ => 0)))] 5 312 45 [(0, .ref h0)] [] _
  refine b_aload hX 0 rfl dX2_init_45 rfl rfl ?_
  refine b_sipush hX (v := 240) dX2_init_46 rfl rfl ?_
  refine b_newaI hX (N := 240) (by decide) rfl rfl rfl rfl dX2_init_49 rfl (fun q6 => ?_)
  refine b_putF hX hI ff_X2_27 0 rfl (Nat.le_of_ble_eq_true rfl) dX2_init_51 rfl ?_
  change bG X B [(h0, .inr (2, [.ref q1, .ref q2, .ref q3, .ref q4, .ref q5, .ref q6, .int 0, .int 0])), (q1, .inl (B.2.2.1, 20, .inl (fun _ => 0))), (q2, .inl (B.2.2.1, 20, .inl (fun _ => 0))), (q3, .inl (B.2.2.1, 20, .inl (fun _ => 0))), (q4, .inl (B.2.2.1, 12, .inl (fun _ => 0))), (q5, .inl (B.2.2.1, 240, .inl (fun _ => 0))), (q6, .inl (B.2.2.1, 240, .inl (fun _ => 0)))] 6 552 54 [(0, .ref h0)] [] _
  refine b_aload hX 0 rfl dX2_init_54 rfl rfl ?_
  refine b_iconst hX (v := 1) dX2_init_55 rfl rfl ?_
  refine b_putI hX fp_X2_30 0 rfl (Nat.le_of_ble_eq_true rfl) dX2_init_56 rfl ?_
  change bG X B [(h0, .inr (2, [.ref q1, .ref q2, .ref q3, .ref q4, .ref q5, .ref q6, .int 0, .int 1])), (q1, .inl (B.2.2.1, 20, .inl (fun _ => 0))), (q2, .inl (B.2.2.1, 20, .inl (fun _ => 0))), (q3, .inl (B.2.2.1, 20, .inl (fun _ => 0))), (q4, .inl (B.2.2.1, 12, .inl (fun _ => 0))), (q5, .inl (B.2.2.1, 240, .inl (fun _ => 0))), (q6, .inl (B.2.2.1, 240, .inl (fun _ => 0)))] 6 552 59 [(0, .ref h0)] [] _
  exact b_vret hX hI hH dX2_init_59 (fun a => [h0, q1, q2, q3, q4, q5, q6].getD a 0) rfl (fun hP hD => ⟨hP, hD⟩)
set_option maxRecDepth 20000 in
theorem c_X4_init (B : bB) : bMet B k_X4_init 4 40 4 [.null, .null, .null, .null, .int 0] 0 shMe zA := by
  refine bMet.of (by decide +kernel) rfl rfl (Nat.le_of_ble_eq_true rfl) (fun h0 sz X hX hI hH => ?_)
  refine b_aload hX 0 rfl dX4_init_0 rfl rfl ?_
  refine b_objInit hX wk_X4_3 dX4_init_1 rfl rfl (Nat.le_of_ble_eq_true rfl) rfl ?_
  refine b_aload hX 0 rfl dX4_init_4 rfl rfl ?_
  refine b_bipush hX (v := 10) dX4_init_5 rfl rfl ?_
  refine b_newaI hX (N := 10) (by decide) rfl rfl rfl rfl dX4_init_7 rfl (fun q1 => ?_)
  refine b_putF hX hI ff_X4_9 0 rfl (Nat.le_of_ble_eq_true rfl) dX4_init_9 rfl ?_
  change bG X B [(h0, .inr (4, [.ref q1, .null, .null, .null, .int 0])), (q1, .inl (B.2.2.1, 10, .inl (fun _ => 0)))] 1 10 12 [(0, .ref h0)] [] _
  refine b_aload hX 0 rfl dX4_init_12 rfl rfl ?_
  refine b_bipush hX (v := 10) dX4_init_13 rfl rfl ?_
  refine b_newaI hX (N := 10) (by decide) rfl rfl rfl rfl dX4_init_15 rfl (fun q2 => ?_)
  refine b_putF hX hI ff_X4_15 0 rfl (Nat.le_of_ble_eq_true rfl) dX4_init_17 rfl ?_
  change bG X B [(h0, .inr (4, [.ref q1, .ref q2, .null, .null, .int 0])), (q1, .inl (B.2.2.1, 10, .inl (fun _ => 0))), (q2, .inl (B.2.2.1, 10, .inl (fun _ => 0)))] 2 20 20 [(0, .ref h0)] [] _
  refine b_aload hX 0 rfl dX4_init_20 rfl rfl ?_
  refine b_bipush hX (v := 10) dX4_init_21 rfl rfl ?_
  refine b_newaI hX (N := 10) (by decide) rfl rfl rfl rfl dX4_init_23 rfl (fun q3 => ?_)
  refine b_putF hX hI ff_X4_18 0 rfl (Nat.le_of_ble_eq_true rfl) dX4_init_25 rfl ?_
  change bG X B [(h0, .inr (4, [.ref q1, .ref q2, .ref q3, .null, .int 0])), (q1, .inl (B.2.2.1, 10, .inl (fun _ => 0))), (q2, .inl (B.2.2.1, 10, .inl (fun _ => 0))), (q3, .inl (B.2.2.1, 10, .inl (fun _ => 0)))] 3 30 28 [(0, .ref h0)] [] _
  refine b_aload hX 0 rfl dX4_init_28 rfl rfl ?_
  refine b_bipush hX (v := 10) dX4_init_29 rfl rfl ?_
  refine b_newaI hX (N := 10) (by decide) rfl rfl rfl rfl dX4_init_31 rfl (fun q4 => ?_)
  refine b_putF hX hI ff_X4_21 0 rfl (Nat.le_of_ble_eq_true rfl) dX4_init_33 rfl ?_
  change bG X B [(h0, .inr (4, [.ref q1, .ref q2, .ref q3, .ref q4, .int 0])), (q1, .inl (B.2.2.1, 10, .inl (fun _ => 0))), (q2, .inl (B.2.2.1, 10, .inl (fun _ => 0))), (q3, .inl (B.2.2.1, 10, .inl (fun _ => 0))), (q4, .inl (B.2.2.1, 10, .inl (fun _ => 0)))] 4 40 36 [(0, .ref h0)] [] _
  exact b_vret hX hI hH dX4_init_36 (fun a => [h0, q1, q2, q3, q4].getD a 0) rfl (fun hP hD => ⟨hP, hD⟩)
set_option maxRecDepth 20000 in
theorem c_X6_init (B : bB) : bMet B k_X6_init 1 80 6 [.null, .int 0, .int 0, .int 0, .int 0, .int 0, .int 0] 0 shTx zA := by
  refine bMet.of (by decide +kernel) rfl rfl (Nat.le_of_ble_eq_true rfl) (fun h0 sz X hX hI hH => ?_)
  refine b_aload hX 0 rfl dX6_init_0 rfl rfl ?_
  refine b_objInit hX wk_X6_3 dX6_init_1 rfl rfl (Nat.le_of_ble_eq_true rfl) rfl ?_
  refine b_aload hX 0 rfl dX6_init_4 rfl rfl ?_
  refine b_bipush hX (v := 80) dX6_init_5 rfl rfl ?_
  refine b_newaC hX (N := 80) (by decide) rfl rfl rfl rfl dX6_init_7 rfl (fun q1 => ?_)
  refine b_putF hX hI ff_X6_9 0 rfl (Nat.le_of_ble_eq_true rfl) dX6_init_9 rfl ?_
  change bG X B [(h0, .inr (6, [.ref q1, .int 0, .int 0, .int 0, .int 0, .int 0, .int 0])), (q1, .inl (B.2.2.2.1, 80, .inl (fun _ => 0)))] 1 80 12 [(0, .ref h0)] [] _
  exact b_vret hX hI hH dX6_init_12 (fun a => [h0, q1].getD a 0) rfl (fun hP hD => ⟨hP, hD⟩)

