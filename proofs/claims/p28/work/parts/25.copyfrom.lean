/-! copyFrom: from the state at cell s to the state at cell d -/
def cpS (M : gM) (d s : Nat) : gM := fun a => if d ≤ a ∧ a < d + 25 then M (s + (a - d)) else M a
theorem c_X4_copyFrom_26_1 (E : gE) (M : gM) : gMet E k_X4_copyFrom [.ref 27, .ref 2] M (gVoid fun M' => M' = gset (gset (gset (gset (gset M 28 (M 3)) 29 (M 4)) 30 (M 5)) 31 (M 6)) 27 (M 2)) := by
  refine gMet.of (by decide +kernel) rfl (Nat.le_of_ble_eq_true rfl) (fun X hX hR => ?_)
  refine g_aload_n (i := 1) hX dX4_copyFrom_0 rfl rfl rfl ?_
  refine g_getR hX fl_X4_9 rfl rfl dX4_copyFrom_1 rfl ?_
  refine g_aload_n (i := 0) hX dX4_copyFrom_4 rfl rfl rfl ?_
  refine g_getR hX fl_X4_9 rfl rfl dX4_copyFrom_5 rfl ?_
  refine g_callNv hX (c_X7_copyAllr E _ 3 28 _ _ _ rfl rfl rfl (M 3) rfl) kf_X7_copyAll rfl (List.mem_of_getElem? (i := 8) rfl) rfl rfl rfl rfl dX4_copyFrom_8 rfl (fun M8 h8 => ?_)
  subst h8
  refine g_aload_n (i := 1) hX dX4_copyFrom_11 rfl rfl rfl ?_
  refine g_getR hX fl_X4_15 rfl rfl dX4_copyFrom_12 rfl ?_
  refine g_aload_n (i := 0) hX dX4_copyFrom_15 rfl rfl rfl ?_
  refine g_getR hX fl_X4_15 rfl rfl dX4_copyFrom_16 rfl ?_
  refine g_callNv hX (c_X7_copyAllr E _ 4 29 _ _ _ rfl rfl rfl (M 4) rfl) kf_X7_copyAll rfl (List.mem_of_getElem? (i := 8) rfl) rfl rfl rfl rfl dX4_copyFrom_19 rfl (fun M19 h19 => ?_)
  subst h19
  refine g_aload_n (i := 1) hX dX4_copyFrom_22 rfl rfl rfl ?_
  refine g_getR hX fl_X4_18 rfl rfl dX4_copyFrom_23 rfl ?_
  refine g_aload_n (i := 0) hX dX4_copyFrom_26 rfl rfl rfl ?_
  refine g_getR hX fl_X4_18 rfl rfl dX4_copyFrom_27 rfl ?_
  refine g_callNv hX (c_X7_copyAllr E _ 5 30 _ _ _ rfl rfl rfl (M 5) rfl) kf_X7_copyAll rfl (List.mem_of_getElem? (i := 8) rfl) rfl rfl rfl rfl dX4_copyFrom_30 rfl (fun M30 h30 => ?_)
  subst h30
  refine g_aload_n (i := 1) hX dX4_copyFrom_33 rfl rfl rfl ?_
  refine g_getR hX fl_X4_21 rfl rfl dX4_copyFrom_34 rfl ?_
  refine g_aload_n (i := 0) hX dX4_copyFrom_37 rfl rfl rfl ?_
  refine g_getR hX fl_X4_21 rfl rfl dX4_copyFrom_38 rfl ?_
  refine g_callNv hX (c_X7_copyAllr E _ 6 31 _ _ _ rfl rfl rfl (M 6) rfl) kf_X7_copyAll rfl (List.mem_of_getElem? (i := 8) rfl) rfl rfl rfl rfl dX4_copyFrom_41 rfl (fun M41 h41 => ?_)
  subst h41
  refine g_aload_n (i := 0) hX dX4_copyFrom_44 rfl rfl rfl ?_
  refine g_aload_n (i := 1) hX dX4_copyFrom_45 rfl rfl rfl ?_
  refine g_getI hX fl_X4_28 rfl rfl dX4_copyFrom_46 rfl ?_
  refine g_putI hX fp_X4_28 rfl rfl dX4_copyFrom_49 rfl ?_
  refine gG_row (sh := _) (r' := M 2) rfl (gEq.obj (fun _ => rfl)) ?_
  refine g_vret hX hR dX4_copyFrom_52 ?_
  first | rfl | (simp only [gset_gset]; done) | (simp only [gset_gset]; rfl)
theorem c_X2_copyFrom_26_1 (E : gE) (M : gM) : gMet E k_X2_copyFrom [.ref 32, .ref 7] M (gVoid fun M' => M' = gset (gset (gset (gset (gset (gset (gset M 33 (M 8)) 34 (M 9)) 35 (M 10)) 36 (M 11)) 37 (M 12)) 38 (M 13)) 32 (M 7)) := by
  refine gMet.of (by decide +kernel) rfl (Nat.le_of_ble_eq_true rfl) (fun X hX hR => ?_)
  refine g_aload_n (i := 1) hX dX2_copyFrom_0 rfl rfl rfl ?_
  refine g_getR hX fl_X2_9 rfl rfl dX2_copyFrom_1 rfl ?_
  refine g_aload_n (i := 0) hX dX2_copyFrom_4 rfl rfl rfl ?_
  refine g_getR hX fl_X2_9 rfl rfl dX2_copyFrom_5 rfl ?_
  refine g_callNv hX (c_X7_copyAllr E _ 8 33 _ _ _ rfl rfl rfl (M 8) rfl) kf_X7_copyAll rfl (List.mem_of_getElem? (i := 9) rfl) rfl rfl rfl rfl dX2_copyFrom_8 rfl (fun M8 h8 => ?_)
  subst h8
  refine g_aload_n (i := 1) hX dX2_copyFrom_11 rfl rfl rfl ?_
  refine g_getR hX fl_X2_15 rfl rfl dX2_copyFrom_12 rfl ?_
  refine g_aload_n (i := 0) hX dX2_copyFrom_15 rfl rfl rfl ?_
  refine g_getR hX fl_X2_15 rfl rfl dX2_copyFrom_16 rfl ?_
  refine g_callNv hX (c_X7_copyAllr E _ 9 34 _ _ _ rfl rfl rfl (M 9) rfl) kf_X7_copyAll rfl (List.mem_of_getElem? (i := 9) rfl) rfl rfl rfl rfl dX2_copyFrom_19 rfl (fun M19 h19 => ?_)
  subst h19
  refine g_aload_n (i := 1) hX dX2_copyFrom_22 rfl rfl rfl ?_
  refine g_getR hX fl_X2_18 rfl rfl dX2_copyFrom_23 rfl ?_
  refine g_aload_n (i := 0) hX dX2_copyFrom_26 rfl rfl rfl ?_
  refine g_getR hX fl_X2_18 rfl rfl dX2_copyFrom_27 rfl ?_
  refine g_callNv hX (c_X7_copyAllr E _ 10 35 _ _ _ rfl rfl rfl (M 10) rfl) kf_X7_copyAll rfl (List.mem_of_getElem? (i := 9) rfl) rfl rfl rfl rfl dX2_copyFrom_30 rfl (fun M30 h30 => ?_)
  subst h30
  refine g_aload_n (i := 1) hX dX2_copyFrom_33 rfl rfl rfl ?_
  refine g_getR hX fl_X2_21 rfl rfl dX2_copyFrom_34 rfl ?_
  refine g_aload_n (i := 0) hX dX2_copyFrom_37 rfl rfl rfl ?_
  refine g_getR hX fl_X2_21 rfl rfl dX2_copyFrom_38 rfl ?_
  refine g_callNv hX (c_X7_copyAllr E _ 11 36 _ _ _ rfl rfl rfl (M 11) rfl) kf_X7_copyAll rfl (List.mem_of_getElem? (i := 9) rfl) rfl rfl rfl rfl dX2_copyFrom_41 rfl (fun M41 h41 => ?_)
  subst h41
  refine g_aload_n (i := 1) hX dX2_copyFrom_44 rfl rfl rfl ?_
  refine g_getR hX fl_X2_24 rfl rfl dX2_copyFrom_45 rfl ?_
  refine g_aload_n (i := 0) hX dX2_copyFrom_48 rfl rfl rfl ?_
  refine g_getR hX fl_X2_24 rfl rfl dX2_copyFrom_49 rfl ?_
  refine g_callNv hX (c_X7_copyAllr E _ 12 37 _ _ _ rfl rfl rfl (M 12) rfl) kf_X7_copyAll rfl (List.mem_of_getElem? (i := 9) rfl) rfl rfl rfl rfl dX2_copyFrom_52 rfl (fun M52 h52 => ?_)
  subst h52
  refine g_aload_n (i := 1) hX dX2_copyFrom_55 rfl rfl rfl ?_
  refine g_getR hX fl_X2_27 rfl rfl dX2_copyFrom_56 rfl ?_
  refine g_aload_n (i := 0) hX dX2_copyFrom_59 rfl rfl rfl ?_
  refine g_getR hX fl_X2_27 rfl rfl dX2_copyFrom_60 rfl ?_
  refine g_callNv hX (c_X7_copyAllr E _ 13 38 _ _ _ rfl rfl rfl (M 13) rfl) kf_X7_copyAll rfl (List.mem_of_getElem? (i := 9) rfl) rfl rfl rfl rfl dX2_copyFrom_63 rfl (fun M63 h63 => ?_)
  subst h63
  refine g_aload_n (i := 0) hX dX2_copyFrom_66 rfl rfl rfl ?_
  refine g_aload_n (i := 1) hX dX2_copyFrom_67 rfl rfl rfl ?_
  refine g_getI hX fl_X2_38 rfl rfl dX2_copyFrom_68 rfl ?_
  refine g_putI hX fp_X2_38 rfl rfl dX2_copyFrom_71 rfl ?_
  refine g_aload_n (i := 0) hX dX2_copyFrom_74 rfl rfl rfl ?_
  refine g_aload_n (i := 1) hX dX2_copyFrom_75 rfl rfl rfl ?_
  refine g_getI hX fl_X2_30 rfl rfl dX2_copyFrom_76 rfl ?_
  refine g_putI hX fp_X2_30 rfl rfl dX2_copyFrom_79 rfl ?_
  refine gG_row (sh := _) (r' := M 7) rfl (gEq.obj (fun _ => rfl)) ?_
  refine g_vret hX hR dX2_copyFrom_82 ?_
  first | rfl | (simp only [gset_gset]; done) | (simp only [gset_gset]; rfl)
theorem c_X0_copyFrom_26_1 (E : gE) (M : gM) (hz1 : M 14 1 = 0 ∨ M 14 1 = 1) (hz2 : M 14 2 = 0 ∨ M 14 2 = 1) : gMet E k_X0_copyFrom [.ref 39, .ref 14] M (gVoid fun M' => M' = gset (gset M 40 (M 15)) 39 (M 14)) := by
  refine gMet.of (by decide +kernel) rfl (Nat.le_of_ble_eq_true rfl) (fun X hX hR => ?_)
  refine g_aload_n (i := 1) hX dX0_copyFrom_0 rfl rfl rfl ?_
  refine g_getR hX fl_X0_9 rfl rfl dX0_copyFrom_1 rfl ?_
  refine g_aload_n (i := 0) hX dX0_copyFrom_4 rfl rfl rfl ?_
  refine g_getR hX fl_X0_9 rfl rfl dX0_copyFrom_5 rfl ?_
  refine g_callNv hX (c_X7_copyAllr E _ 15 40 _ _ _ rfl rfl rfl (M 15) rfl) kf_X7_copyAll rfl (List.mem_of_getElem? (i := 10) rfl) rfl rfl rfl rfl dX0_copyFrom_8 rfl (fun M8 h8 => ?_)
  subst h8
  refine g_aload_n (i := 0) hX dX0_copyFrom_11 rfl rfl rfl ?_
  refine g_aload_n (i := 1) hX dX0_copyFrom_12 rfl rfl rfl ?_
  refine g_getI hX fl_X0_19 rfl rfl dX0_copyFrom_13 rfl ?_
  refine g_putZ hX fp_X0_19 rfl rfl (hz1) dX0_copyFrom_16 rfl ?_
  refine g_aload_n (i := 0) hX dX0_copyFrom_19 rfl rfl rfl ?_
  refine g_aload_n (i := 1) hX dX0_copyFrom_20 rfl rfl rfl ?_
  refine g_getI hX fl_X0_23 rfl rfl dX0_copyFrom_21 rfl ?_
  refine g_putZ hX fp_X0_23 rfl rfl (hz2) dX0_copyFrom_24 rfl ?_
  refine g_aload_n (i := 0) hX dX0_copyFrom_27 rfl rfl rfl ?_
  refine g_aload_n (i := 1) hX dX0_copyFrom_28 rfl rfl rfl ?_
  refine g_getI hX fl_X0_26 rfl rfl dX0_copyFrom_29 rfl ?_
  refine g_putI hX fp_X0_26 rfl rfl dX0_copyFrom_32 rfl ?_
  refine g_aload_n (i := 0) hX dX0_copyFrom_35 rfl rfl rfl ?_
  refine g_aload_n (i := 1) hX dX0_copyFrom_36 rfl rfl rfl ?_
  refine g_getI hX fl_X0_30 rfl rfl dX0_copyFrom_37 rfl ?_
  refine g_putI hX fp_X0_30 rfl rfl dX0_copyFrom_40 rfl ?_
  refine gG_row (sh := _) (r' := M 14) rfl (gEq.obj (fun _ => rfl)) ?_
  refine g_vret hX hR dX0_copyFrom_43 ?_
  first | rfl | (simp only [gset_gset]; done) | (simp only [gset_gset]; rfl)
theorem c_X1_copyFrom_26_1 (E : gE) (M : gM) : gMet E k_X1_copyFrom [.ref 41, .ref 16] M (gVoid fun M' => M' = gset (gset (gset (gset (gset (gset (gset (gset (gset M 42 (M 17)) 43 (M 18)) 44 (M 19)) 45 (M 20)) 46 (M 21)) 47 (M 22)) 48 (M 23)) 49 (M 24)) 41 (M 16)) := by
  refine gMet.of (by decide +kernel) rfl (Nat.le_of_ble_eq_true rfl) (fun X hX hR => ?_)
  refine g_aload_n (i := 1) hX dX1_copyFrom_0 rfl rfl rfl ?_
  refine g_getR hX fl_X1_9 rfl rfl dX1_copyFrom_1 rfl ?_
  refine g_aload_n (i := 0) hX dX1_copyFrom_4 rfl rfl rfl ?_
  refine g_getR hX fl_X1_9 rfl rfl dX1_copyFrom_5 rfl ?_
  refine g_callNv hX (c_X7_copyAllr E _ 17 42 _ _ _ rfl rfl rfl (M 17) rfl) kf_X7_copyAll rfl (List.mem_of_getElem? (i := 11) rfl) rfl rfl rfl rfl dX1_copyFrom_8 rfl (fun M8 h8 => ?_)
  subst h8
  refine g_aload_n (i := 1) hX dX1_copyFrom_11 rfl rfl rfl ?_
  refine g_getR hX fl_X1_15 rfl rfl dX1_copyFrom_12 rfl ?_
  refine g_aload_n (i := 0) hX dX1_copyFrom_15 rfl rfl rfl ?_
  refine g_getR hX fl_X1_15 rfl rfl dX1_copyFrom_16 rfl ?_
  refine g_callNv hX (c_X7_copyAllr E _ 18 43 _ _ _ rfl rfl rfl (M 18) rfl) kf_X7_copyAll rfl (List.mem_of_getElem? (i := 11) rfl) rfl rfl rfl rfl dX1_copyFrom_19 rfl (fun M19 h19 => ?_)
  subst h19
  refine g_aload_n (i := 1) hX dX1_copyFrom_22 rfl rfl rfl ?_
  refine g_getR hX fl_X1_18 rfl rfl dX1_copyFrom_23 rfl ?_
  refine g_aload_n (i := 0) hX dX1_copyFrom_26 rfl rfl rfl ?_
  refine g_getR hX fl_X1_18 rfl rfl dX1_copyFrom_27 rfl ?_
  refine g_callNv hX (c_X7_copyAllr E _ 19 44 _ _ _ rfl rfl rfl (M 19) rfl) kf_X7_copyAll rfl (List.mem_of_getElem? (i := 11) rfl) rfl rfl rfl rfl dX1_copyFrom_30 rfl (fun M30 h30 => ?_)
  subst h30
  refine g_aload_n (i := 1) hX dX1_copyFrom_33 rfl rfl rfl ?_
  refine g_getR hX fl_X1_21 rfl rfl dX1_copyFrom_34 rfl ?_
  refine g_aload_n (i := 0) hX dX1_copyFrom_37 rfl rfl rfl ?_
  refine g_getR hX fl_X1_21 rfl rfl dX1_copyFrom_38 rfl ?_
  refine g_callNv hX (c_X7_copyAllr E _ 20 45 _ _ _ rfl rfl rfl (M 20) rfl) kf_X7_copyAll rfl (List.mem_of_getElem? (i := 11) rfl) rfl rfl rfl rfl dX1_copyFrom_41 rfl (fun M41 h41 => ?_)
  subst h41
  refine g_aload_n (i := 1) hX dX1_copyFrom_44 rfl rfl rfl ?_
  refine g_getR hX fl_X1_24 rfl rfl dX1_copyFrom_45 rfl ?_
  refine g_aload_n (i := 0) hX dX1_copyFrom_48 rfl rfl rfl ?_
  refine g_getR hX fl_X1_24 rfl rfl dX1_copyFrom_49 rfl ?_
  refine g_callNv hX (c_X7_copyAllr E _ 21 46 _ _ _ rfl rfl rfl (M 21) rfl) kf_X7_copyAll rfl (List.mem_of_getElem? (i := 11) rfl) rfl rfl rfl rfl dX1_copyFrom_52 rfl (fun M52 h52 => ?_)
  subst h52
  refine g_aload_n (i := 1) hX dX1_copyFrom_55 rfl rfl rfl ?_
  refine g_getR hX fl_X1_27 rfl rfl dX1_copyFrom_56 rfl ?_
  refine g_aload_n (i := 0) hX dX1_copyFrom_59 rfl rfl rfl ?_
  refine g_getR hX fl_X1_27 rfl rfl dX1_copyFrom_60 rfl ?_
  refine g_callNv hX (c_X7_copyAllr E _ 22 47 _ _ _ rfl rfl rfl (M 22) rfl) kf_X7_copyAll rfl (List.mem_of_getElem? (i := 11) rfl) rfl rfl rfl rfl dX1_copyFrom_63 rfl (fun M63 h63 => ?_)
  subst h63
  refine g_aload_n (i := 1) hX dX1_copyFrom_66 rfl rfl rfl ?_
  refine g_getR hX fl_X1_30 rfl rfl dX1_copyFrom_67 rfl ?_
  refine g_aload_n (i := 0) hX dX1_copyFrom_70 rfl rfl rfl ?_
  refine g_getR hX fl_X1_30 rfl rfl dX1_copyFrom_71 rfl ?_
  refine g_callNv hX (c_X7_copyAllr E _ 23 48 _ _ _ rfl rfl rfl (M 23) rfl) kf_X7_copyAll rfl (List.mem_of_getElem? (i := 11) rfl) rfl rfl rfl rfl dX1_copyFrom_74 rfl (fun M74 h74 => ?_)
  subst h74
  refine g_aload_n (i := 1) hX dX1_copyFrom_77 rfl rfl rfl ?_
  refine g_getR hX fl_X1_33 rfl rfl dX1_copyFrom_78 rfl ?_
  refine g_aload_n (i := 0) hX dX1_copyFrom_81 rfl rfl rfl ?_
  refine g_getR hX fl_X1_33 rfl rfl dX1_copyFrom_82 rfl ?_
  refine g_callNv hX (c_X7_copyAllr E _ 24 49 _ _ _ rfl rfl rfl (M 24) rfl) kf_X7_copyAll rfl (List.mem_of_getElem? (i := 11) rfl) rfl rfl rfl rfl dX1_copyFrom_85 rfl (fun M85 h85 => ?_)
  subst h85
  refine g_aload_n (i := 0) hX dX1_copyFrom_88 rfl rfl rfl ?_
  refine g_aload_n (i := 1) hX dX1_copyFrom_89 rfl rfl rfl ?_
  refine g_getI hX fl_X1_40 rfl rfl dX1_copyFrom_90 rfl ?_
  refine g_putI hX fp_X1_40 rfl rfl dX1_copyFrom_93 rfl ?_
  refine g_aload_n (i := 0) hX dX1_copyFrom_96 rfl rfl rfl ?_
  refine g_aload_n (i := 1) hX dX1_copyFrom_97 rfl rfl rfl ?_
  refine g_getI hX fl_X1_44 rfl rfl dX1_copyFrom_98 rfl ?_
  refine g_putI hX fp_X1_44 rfl rfl dX1_copyFrom_101 rfl ?_
  refine gG_row (sh := _) (r' := M 16) rfl (gEq.obj (fun _ => rfl)) ?_
  refine g_vret hX hR dX1_copyFrom_104 ?_
  first | rfl | (simp only [gset_gset]; done) | (simp only [gset_gset]; rfl)
theorem c_X5_copyFrom_26_1 (E : gE) (M : gM) (hz1 : M 14 1 = 0 ∨ M 14 1 = 1) (hz2 : M 14 2 = 0 ∨ M 14 2 = 1) : gMet E k_X5_copyFrom [.ref 26, .ref 1] M (gVoid fun M' => M' = cpS M 26 1) := by
  refine gMet.of (by decide +kernel) rfl (Nat.le_of_ble_eq_true rfl) (fun X hX hR => ?_)
  refine g_aload_n (i := 0) hX dX5_copyFrom_0 rfl rfl rfl ?_
  refine g_getR hX fl_X5_12 rfl rfl dX5_copyFrom_1 rfl ?_
  refine g_aload_n (i := 1) hX dX5_copyFrom_4 rfl rfl rfl ?_
  refine g_getR hX fl_X5_12 rfl rfl dX5_copyFrom_5 rfl ?_
  refine g_callVv hX (c_X4_copyFrom_26_1 E _) kf_X4_copyFrom rfl wk_X5_51 rfl rfl rfl rfl rfl dX5_copyFrom_8 rfl (fun M8 h8 => ?_)
  subst h8
  refine g_aload_n (i := 0) hX dX5_copyFrom_11 rfl rfl rfl ?_
  refine g_getR hX fl_X5_21 rfl rfl dX5_copyFrom_12 rfl ?_
  refine g_aload_n (i := 1) hX dX5_copyFrom_15 rfl rfl rfl ?_
  refine g_getR hX fl_X5_21 rfl rfl dX5_copyFrom_16 rfl ?_
  refine g_callVv hX (c_X2_copyFrom_26_1 E _) kf_X2_copyFrom rfl wk_X5_55 rfl rfl rfl rfl rfl dX5_copyFrom_19 rfl (fun M19 h19 => ?_)
  subst h19
  refine g_aload_n (i := 0) hX dX5_copyFrom_22 rfl rfl rfl ?_
  refine g_getR hX fl_X5_28 rfl rfl dX5_copyFrom_23 rfl ?_
  refine g_aload_n (i := 1) hX dX5_copyFrom_26 rfl rfl rfl ?_
  refine g_getR hX fl_X5_28 rfl rfl dX5_copyFrom_27 rfl ?_
  refine g_callVv hX (c_X0_copyFrom_26_1 E _ hz1 hz2) kf_X0_copyFrom rfl wk_X5_58 rfl rfl rfl rfl rfl dX5_copyFrom_30 rfl (fun M30 h30 => ?_)
  subst h30
  refine g_aload_n (i := 0) hX dX5_copyFrom_33 rfl rfl rfl ?_
  refine g_getR hX fl_X5_35 rfl rfl dX5_copyFrom_34 rfl ?_
  refine g_aload_n (i := 1) hX dX5_copyFrom_37 rfl rfl rfl ?_
  refine g_getR hX fl_X5_35 rfl rfl dX5_copyFrom_38 rfl ?_
  refine g_callVv hX (c_X1_copyFrom_26_1 E _) kf_X1_copyFrom rfl wk_X5_61 rfl rfl rfl rfl rfl dX5_copyFrom_41 rfl (fun M41 h41 => ?_)
  subst h41
  refine g_aload_n (i := 1) hX dX5_copyFrom_44 rfl rfl rfl ?_
  refine g_getR hX fl_X5_48 rfl rfl dX5_copyFrom_45 rfl ?_
  refine g_aload_n (i := 0) hX dX5_copyFrom_48 rfl rfl rfl ?_
  refine g_getR hX fl_X5_48 rfl rfl dX5_copyFrom_49 rfl ?_
  refine g_callNv hX (c_X7_copyAllr E _ 25 50 _ _ _ rfl rfl rfl (M 25) rfl) kf_X7_copyAll rfl (List.mem_of_getElem? (i := 12) rfl) rfl rfl rfl rfl dX5_copyFrom_52 rfl (fun M52 h52 => ?_)
  subst h52
  refine g_aload_n (i := 0) hX dX5_copyFrom_55 rfl rfl rfl ?_
  refine g_aload_n (i := 1) hX dX5_copyFrom_56 rfl rfl rfl ?_
  refine g_getI hX fl_X5_68 rfl rfl dX5_copyFrom_57 rfl ?_
  refine g_putI hX fp_X5_68 rfl rfl dX5_copyFrom_60 rfl ?_
  refine gG_row (sh := _) (r' := M 1) rfl (gEq.obj (fun _ => rfl)) ?_
  refine g_vret hX hR dX5_copyFrom_63 ?_
  funext b
  by_cases hb : 26 ≤ b ∧ b < 51
  · have : b = 26 ∨ b = 27 ∨ b = 28 ∨ b = 29 ∨ b = 30 ∨ b = 31 ∨ b = 32 ∨ b = 33 ∨ b = 34 ∨ b = 35 ∨ b = 36 ∨ b = 37 ∨ b = 38 ∨ b = 39 ∨ b = 40 ∨ b = 41 ∨ b = 42 ∨ b = 43 ∨ b = 44 ∨ b = 45 ∨ b = 46 ∨ b = 47 ∨ b = 48 ∨ b = 49 ∨ b = 50 := by omega
    rcases this with rfl | rfl | rfl | rfl | rfl | rfl | rfl | rfl | rfl | rfl | rfl | rfl | rfl | rfl | rfl | rfl | rfl | rfl | rfl | rfl | rfl | rfl | rfl | rfl | rfl <;> rfl
  · simp only [cpS, if_neg hb, gset]
    rw [if_neg (show ¬ b = 26 by omega), if_neg (show ¬ b = 50 by omega), if_neg (show ¬ b = 41 by omega), if_neg (show ¬ b = 49 by omega), if_neg (show ¬ b = 48 by omega), if_neg (show ¬ b = 47 by omega), if_neg (show ¬ b = 46 by omega), if_neg (show ¬ b = 45 by omega), if_neg (show ¬ b = 44 by omega), if_neg (show ¬ b = 43 by omega), if_neg (show ¬ b = 42 by omega), if_neg (show ¬ b = 39 by omega), if_neg (show ¬ b = 40 by omega), if_neg (show ¬ b = 32 by omega), if_neg (show ¬ b = 38 by omega), if_neg (show ¬ b = 37 by omega), if_neg (show ¬ b = 36 by omega), if_neg (show ¬ b = 35 by omega), if_neg (show ¬ b = 34 by omega), if_neg (show ¬ b = 33 by omega), if_neg (show ¬ b = 27 by omega), if_neg (show ¬ b = 31 by omega), if_neg (show ¬ b = 30 by omega), if_neg (show ¬ b = 29 by omega), if_neg (show ¬ b = 28 by omega)]
theorem c_X4_copyFrom_51_1 (E : gE) (M : gM) : gMet E k_X4_copyFrom [.ref 52, .ref 2] M (gVoid fun M' => M' = gset (gset (gset (gset (gset M 53 (M 3)) 54 (M 4)) 55 (M 5)) 56 (M 6)) 52 (M 2)) := by
  refine gMet.of (by decide +kernel) rfl (Nat.le_of_ble_eq_true rfl) (fun X hX hR => ?_)
  refine g_aload_n (i := 1) hX dX4_copyFrom_0 rfl rfl rfl ?_
  refine g_getR hX fl_X4_9 rfl rfl dX4_copyFrom_1 rfl ?_
  refine g_aload_n (i := 0) hX dX4_copyFrom_4 rfl rfl rfl ?_
  refine g_getR hX fl_X4_9 rfl rfl dX4_copyFrom_5 rfl ?_
  refine g_callNv hX (c_X7_copyAllr E _ 3 53 _ _ _ rfl rfl rfl (M 3) rfl) kf_X7_copyAll rfl (List.mem_of_getElem? (i := 8) rfl) rfl rfl rfl rfl dX4_copyFrom_8 rfl (fun M8 h8 => ?_)
  subst h8
  refine g_aload_n (i := 1) hX dX4_copyFrom_11 rfl rfl rfl ?_
  refine g_getR hX fl_X4_15 rfl rfl dX4_copyFrom_12 rfl ?_
  refine g_aload_n (i := 0) hX dX4_copyFrom_15 rfl rfl rfl ?_
  refine g_getR hX fl_X4_15 rfl rfl dX4_copyFrom_16 rfl ?_
  refine g_callNv hX (c_X7_copyAllr E _ 4 54 _ _ _ rfl rfl rfl (M 4) rfl) kf_X7_copyAll rfl (List.mem_of_getElem? (i := 8) rfl) rfl rfl rfl rfl dX4_copyFrom_19 rfl (fun M19 h19 => ?_)
  subst h19
  refine g_aload_n (i := 1) hX dX4_copyFrom_22 rfl rfl rfl ?_
  refine g_getR hX fl_X4_18 rfl rfl dX4_copyFrom_23 rfl ?_
  refine g_aload_n (i := 0) hX dX4_copyFrom_26 rfl rfl rfl ?_
  refine g_getR hX fl_X4_18 rfl rfl dX4_copyFrom_27 rfl ?_
  refine g_callNv hX (c_X7_copyAllr E _ 5 55 _ _ _ rfl rfl rfl (M 5) rfl) kf_X7_copyAll rfl (List.mem_of_getElem? (i := 8) rfl) rfl rfl rfl rfl dX4_copyFrom_30 rfl (fun M30 h30 => ?_)
  subst h30
  refine g_aload_n (i := 1) hX dX4_copyFrom_33 rfl rfl rfl ?_
  refine g_getR hX fl_X4_21 rfl rfl dX4_copyFrom_34 rfl ?_
  refine g_aload_n (i := 0) hX dX4_copyFrom_37 rfl rfl rfl ?_
  refine g_getR hX fl_X4_21 rfl rfl dX4_copyFrom_38 rfl ?_
  refine g_callNv hX (c_X7_copyAllr E _ 6 56 _ _ _ rfl rfl rfl (M 6) rfl) kf_X7_copyAll rfl (List.mem_of_getElem? (i := 8) rfl) rfl rfl rfl rfl dX4_copyFrom_41 rfl (fun M41 h41 => ?_)
  subst h41
  refine g_aload_n (i := 0) hX dX4_copyFrom_44 rfl rfl rfl ?_
  refine g_aload_n (i := 1) hX dX4_copyFrom_45 rfl rfl rfl ?_
  refine g_getI hX fl_X4_28 rfl rfl dX4_copyFrom_46 rfl ?_
  refine g_putI hX fp_X4_28 rfl rfl dX4_copyFrom_49 rfl ?_
  refine gG_row (sh := _) (r' := M 2) rfl (gEq.obj (fun _ => rfl)) ?_
  refine g_vret hX hR dX4_copyFrom_52 ?_
  first | rfl | (simp only [gset_gset]; done) | (simp only [gset_gset]; rfl)
theorem c_X2_copyFrom_51_1 (E : gE) (M : gM) : gMet E k_X2_copyFrom [.ref 57, .ref 7] M (gVoid fun M' => M' = gset (gset (gset (gset (gset (gset (gset M 58 (M 8)) 59 (M 9)) 60 (M 10)) 61 (M 11)) 62 (M 12)) 63 (M 13)) 57 (M 7)) := by
  refine gMet.of (by decide +kernel) rfl (Nat.le_of_ble_eq_true rfl) (fun X hX hR => ?_)
  refine g_aload_n (i := 1) hX dX2_copyFrom_0 rfl rfl rfl ?_
  refine g_getR hX fl_X2_9 rfl rfl dX2_copyFrom_1 rfl ?_
  refine g_aload_n (i := 0) hX dX2_copyFrom_4 rfl rfl rfl ?_
  refine g_getR hX fl_X2_9 rfl rfl dX2_copyFrom_5 rfl ?_
  refine g_callNv hX (c_X7_copyAllr E _ 8 58 _ _ _ rfl rfl rfl (M 8) rfl) kf_X7_copyAll rfl (List.mem_of_getElem? (i := 9) rfl) rfl rfl rfl rfl dX2_copyFrom_8 rfl (fun M8 h8 => ?_)
  subst h8
  refine g_aload_n (i := 1) hX dX2_copyFrom_11 rfl rfl rfl ?_
  refine g_getR hX fl_X2_15 rfl rfl dX2_copyFrom_12 rfl ?_
  refine g_aload_n (i := 0) hX dX2_copyFrom_15 rfl rfl rfl ?_
  refine g_getR hX fl_X2_15 rfl rfl dX2_copyFrom_16 rfl ?_
  refine g_callNv hX (c_X7_copyAllr E _ 9 59 _ _ _ rfl rfl rfl (M 9) rfl) kf_X7_copyAll rfl (List.mem_of_getElem? (i := 9) rfl) rfl rfl rfl rfl dX2_copyFrom_19 rfl (fun M19 h19 => ?_)
  subst h19
  refine g_aload_n (i := 1) hX dX2_copyFrom_22 rfl rfl rfl ?_
  refine g_getR hX fl_X2_18 rfl rfl dX2_copyFrom_23 rfl ?_
  refine g_aload_n (i := 0) hX dX2_copyFrom_26 rfl rfl rfl ?_
  refine g_getR hX fl_X2_18 rfl rfl dX2_copyFrom_27 rfl ?_
  refine g_callNv hX (c_X7_copyAllr E _ 10 60 _ _ _ rfl rfl rfl (M 10) rfl) kf_X7_copyAll rfl (List.mem_of_getElem? (i := 9) rfl) rfl rfl rfl rfl dX2_copyFrom_30 rfl (fun M30 h30 => ?_)
  subst h30
  refine g_aload_n (i := 1) hX dX2_copyFrom_33 rfl rfl rfl ?_
  refine g_getR hX fl_X2_21 rfl rfl dX2_copyFrom_34 rfl ?_
  refine g_aload_n (i := 0) hX dX2_copyFrom_37 rfl rfl rfl ?_
  refine g_getR hX fl_X2_21 rfl rfl dX2_copyFrom_38 rfl ?_
  refine g_callNv hX (c_X7_copyAllr E _ 11 61 _ _ _ rfl rfl rfl (M 11) rfl) kf_X7_copyAll rfl (List.mem_of_getElem? (i := 9) rfl) rfl rfl rfl rfl dX2_copyFrom_41 rfl (fun M41 h41 => ?_)
  subst h41
  refine g_aload_n (i := 1) hX dX2_copyFrom_44 rfl rfl rfl ?_
  refine g_getR hX fl_X2_24 rfl rfl dX2_copyFrom_45 rfl ?_
  refine g_aload_n (i := 0) hX dX2_copyFrom_48 rfl rfl rfl ?_
  refine g_getR hX fl_X2_24 rfl rfl dX2_copyFrom_49 rfl ?_
  refine g_callNv hX (c_X7_copyAllr E _ 12 62 _ _ _ rfl rfl rfl (M 12) rfl) kf_X7_copyAll rfl (List.mem_of_getElem? (i := 9) rfl) rfl rfl rfl rfl dX2_copyFrom_52 rfl (fun M52 h52 => ?_)
  subst h52
  refine g_aload_n (i := 1) hX dX2_copyFrom_55 rfl rfl rfl ?_
  refine g_getR hX fl_X2_27 rfl rfl dX2_copyFrom_56 rfl ?_
  refine g_aload_n (i := 0) hX dX2_copyFrom_59 rfl rfl rfl ?_
  refine g_getR hX fl_X2_27 rfl rfl dX2_copyFrom_60 rfl ?_
  refine g_callNv hX (c_X7_copyAllr E _ 13 63 _ _ _ rfl rfl rfl (M 13) rfl) kf_X7_copyAll rfl (List.mem_of_getElem? (i := 9) rfl) rfl rfl rfl rfl dX2_copyFrom_63 rfl (fun M63 h63 => ?_)
  subst h63
  refine g_aload_n (i := 0) hX dX2_copyFrom_66 rfl rfl rfl ?_
  refine g_aload_n (i := 1) hX dX2_copyFrom_67 rfl rfl rfl ?_
  refine g_getI hX fl_X2_38 rfl rfl dX2_copyFrom_68 rfl ?_
  refine g_putI hX fp_X2_38 rfl rfl dX2_copyFrom_71 rfl ?_
  refine g_aload_n (i := 0) hX dX2_copyFrom_74 rfl rfl rfl ?_
  refine g_aload_n (i := 1) hX dX2_copyFrom_75 rfl rfl rfl ?_
  refine g_getI hX fl_X2_30 rfl rfl dX2_copyFrom_76 rfl ?_
  refine g_putI hX fp_X2_30 rfl rfl dX2_copyFrom_79 rfl ?_
  refine gG_row (sh := _) (r' := M 7) rfl (gEq.obj (fun _ => rfl)) ?_
  refine g_vret hX hR dX2_copyFrom_82 ?_
  first | rfl | (simp only [gset_gset]; done) | (simp only [gset_gset]; rfl)
theorem c_X0_copyFrom_51_1 (E : gE) (M : gM) (hz1 : M 14 1 = 0 ∨ M 14 1 = 1) (hz2 : M 14 2 = 0 ∨ M 14 2 = 1) : gMet E k_X0_copyFrom [.ref 64, .ref 14] M (gVoid fun M' => M' = gset (gset M 65 (M 15)) 64 (M 14)) := by
  refine gMet.of (by decide +kernel) rfl (Nat.le_of_ble_eq_true rfl) (fun X hX hR => ?_)
  refine g_aload_n (i := 1) hX dX0_copyFrom_0 rfl rfl rfl ?_
  refine g_getR hX fl_X0_9 rfl rfl dX0_copyFrom_1 rfl ?_
  refine g_aload_n (i := 0) hX dX0_copyFrom_4 rfl rfl rfl ?_
  refine g_getR hX fl_X0_9 rfl rfl dX0_copyFrom_5 rfl ?_
  refine g_callNv hX (c_X7_copyAllr E _ 15 65 _ _ _ rfl rfl rfl (M 15) rfl) kf_X7_copyAll rfl (List.mem_of_getElem? (i := 10) rfl) rfl rfl rfl rfl dX0_copyFrom_8 rfl (fun M8 h8 => ?_)
  subst h8
  refine g_aload_n (i := 0) hX dX0_copyFrom_11 rfl rfl rfl ?_
  refine g_aload_n (i := 1) hX dX0_copyFrom_12 rfl rfl rfl ?_
  refine g_getI hX fl_X0_19 rfl rfl dX0_copyFrom_13 rfl ?_
  refine g_putZ hX fp_X0_19 rfl rfl (hz1) dX0_copyFrom_16 rfl ?_
  refine g_aload_n (i := 0) hX dX0_copyFrom_19 rfl rfl rfl ?_
  refine g_aload_n (i := 1) hX dX0_copyFrom_20 rfl rfl rfl ?_
  refine g_getI hX fl_X0_23 rfl rfl dX0_copyFrom_21 rfl ?_
  refine g_putZ hX fp_X0_23 rfl rfl (hz2) dX0_copyFrom_24 rfl ?_
  refine g_aload_n (i := 0) hX dX0_copyFrom_27 rfl rfl rfl ?_
  refine g_aload_n (i := 1) hX dX0_copyFrom_28 rfl rfl rfl ?_
  refine g_getI hX fl_X0_26 rfl rfl dX0_copyFrom_29 rfl ?_
  refine g_putI hX fp_X0_26 rfl rfl dX0_copyFrom_32 rfl ?_
  refine g_aload_n (i := 0) hX dX0_copyFrom_35 rfl rfl rfl ?_
  refine g_aload_n (i := 1) hX dX0_copyFrom_36 rfl rfl rfl ?_
  refine g_getI hX fl_X0_30 rfl rfl dX0_copyFrom_37 rfl ?_
  refine g_putI hX fp_X0_30 rfl rfl dX0_copyFrom_40 rfl ?_
  refine gG_row (sh := _) (r' := M 14) rfl (gEq.obj (fun _ => rfl)) ?_
  refine g_vret hX hR dX0_copyFrom_43 ?_
  first | rfl | (simp only [gset_gset]; done) | (simp only [gset_gset]; rfl)
theorem c_X1_copyFrom_51_1 (E : gE) (M : gM) : gMet E k_X1_copyFrom [.ref 66, .ref 16] M (gVoid fun M' => M' = gset (gset (gset (gset (gset (gset (gset (gset (gset M 67 (M 17)) 68 (M 18)) 69 (M 19)) 70 (M 20)) 71 (M 21)) 72 (M 22)) 73 (M 23)) 74 (M 24)) 66 (M 16)) := by
  refine gMet.of (by decide +kernel) rfl (Nat.le_of_ble_eq_true rfl) (fun X hX hR => ?_)
  refine g_aload_n (i := 1) hX dX1_copyFrom_0 rfl rfl rfl ?_
  refine g_getR hX fl_X1_9 rfl rfl dX1_copyFrom_1 rfl ?_
  refine g_aload_n (i := 0) hX dX1_copyFrom_4 rfl rfl rfl ?_
  refine g_getR hX fl_X1_9 rfl rfl dX1_copyFrom_5 rfl ?_
  refine g_callNv hX (c_X7_copyAllr E _ 17 67 _ _ _ rfl rfl rfl (M 17) rfl) kf_X7_copyAll rfl (List.mem_of_getElem? (i := 11) rfl) rfl rfl rfl rfl dX1_copyFrom_8 rfl (fun M8 h8 => ?_)
  subst h8
  refine g_aload_n (i := 1) hX dX1_copyFrom_11 rfl rfl rfl ?_
  refine g_getR hX fl_X1_15 rfl rfl dX1_copyFrom_12 rfl ?_
  refine g_aload_n (i := 0) hX dX1_copyFrom_15 rfl rfl rfl ?_
  refine g_getR hX fl_X1_15 rfl rfl dX1_copyFrom_16 rfl ?_
  refine g_callNv hX (c_X7_copyAllr E _ 18 68 _ _ _ rfl rfl rfl (M 18) rfl) kf_X7_copyAll rfl (List.mem_of_getElem? (i := 11) rfl) rfl rfl rfl rfl dX1_copyFrom_19 rfl (fun M19 h19 => ?_)
  subst h19
  refine g_aload_n (i := 1) hX dX1_copyFrom_22 rfl rfl rfl ?_
  refine g_getR hX fl_X1_18 rfl rfl dX1_copyFrom_23 rfl ?_
  refine g_aload_n (i := 0) hX dX1_copyFrom_26 rfl rfl rfl ?_
  refine g_getR hX fl_X1_18 rfl rfl dX1_copyFrom_27 rfl ?_
  refine g_callNv hX (c_X7_copyAllr E _ 19 69 _ _ _ rfl rfl rfl (M 19) rfl) kf_X7_copyAll rfl (List.mem_of_getElem? (i := 11) rfl) rfl rfl rfl rfl dX1_copyFrom_30 rfl (fun M30 h30 => ?_)
  subst h30
  refine g_aload_n (i := 1) hX dX1_copyFrom_33 rfl rfl rfl ?_
  refine g_getR hX fl_X1_21 rfl rfl dX1_copyFrom_34 rfl ?_
  refine g_aload_n (i := 0) hX dX1_copyFrom_37 rfl rfl rfl ?_
  refine g_getR hX fl_X1_21 rfl rfl dX1_copyFrom_38 rfl ?_
  refine g_callNv hX (c_X7_copyAllr E _ 20 70 _ _ _ rfl rfl rfl (M 20) rfl) kf_X7_copyAll rfl (List.mem_of_getElem? (i := 11) rfl) rfl rfl rfl rfl dX1_copyFrom_41 rfl (fun M41 h41 => ?_)
  subst h41
  refine g_aload_n (i := 1) hX dX1_copyFrom_44 rfl rfl rfl ?_
  refine g_getR hX fl_X1_24 rfl rfl dX1_copyFrom_45 rfl ?_
  refine g_aload_n (i := 0) hX dX1_copyFrom_48 rfl rfl rfl ?_
  refine g_getR hX fl_X1_24 rfl rfl dX1_copyFrom_49 rfl ?_
  refine g_callNv hX (c_X7_copyAllr E _ 21 71 _ _ _ rfl rfl rfl (M 21) rfl) kf_X7_copyAll rfl (List.mem_of_getElem? (i := 11) rfl) rfl rfl rfl rfl dX1_copyFrom_52 rfl (fun M52 h52 => ?_)
  subst h52
  refine g_aload_n (i := 1) hX dX1_copyFrom_55 rfl rfl rfl ?_
  refine g_getR hX fl_X1_27 rfl rfl dX1_copyFrom_56 rfl ?_
  refine g_aload_n (i := 0) hX dX1_copyFrom_59 rfl rfl rfl ?_
  refine g_getR hX fl_X1_27 rfl rfl dX1_copyFrom_60 rfl ?_
  refine g_callNv hX (c_X7_copyAllr E _ 22 72 _ _ _ rfl rfl rfl (M 22) rfl) kf_X7_copyAll rfl (List.mem_of_getElem? (i := 11) rfl) rfl rfl rfl rfl dX1_copyFrom_63 rfl (fun M63 h63 => ?_)
  subst h63
  refine g_aload_n (i := 1) hX dX1_copyFrom_66 rfl rfl rfl ?_
  refine g_getR hX fl_X1_30 rfl rfl dX1_copyFrom_67 rfl ?_
  refine g_aload_n (i := 0) hX dX1_copyFrom_70 rfl rfl rfl ?_
  refine g_getR hX fl_X1_30 rfl rfl dX1_copyFrom_71 rfl ?_
  refine g_callNv hX (c_X7_copyAllr E _ 23 73 _ _ _ rfl rfl rfl (M 23) rfl) kf_X7_copyAll rfl (List.mem_of_getElem? (i := 11) rfl) rfl rfl rfl rfl dX1_copyFrom_74 rfl (fun M74 h74 => ?_)
  subst h74
  refine g_aload_n (i := 1) hX dX1_copyFrom_77 rfl rfl rfl ?_
  refine g_getR hX fl_X1_33 rfl rfl dX1_copyFrom_78 rfl ?_
  refine g_aload_n (i := 0) hX dX1_copyFrom_81 rfl rfl rfl ?_
  refine g_getR hX fl_X1_33 rfl rfl dX1_copyFrom_82 rfl ?_
  refine g_callNv hX (c_X7_copyAllr E _ 24 74 _ _ _ rfl rfl rfl (M 24) rfl) kf_X7_copyAll rfl (List.mem_of_getElem? (i := 11) rfl) rfl rfl rfl rfl dX1_copyFrom_85 rfl (fun M85 h85 => ?_)
  subst h85
  refine g_aload_n (i := 0) hX dX1_copyFrom_88 rfl rfl rfl ?_
  refine g_aload_n (i := 1) hX dX1_copyFrom_89 rfl rfl rfl ?_
  refine g_getI hX fl_X1_40 rfl rfl dX1_copyFrom_90 rfl ?_
  refine g_putI hX fp_X1_40 rfl rfl dX1_copyFrom_93 rfl ?_
  refine g_aload_n (i := 0) hX dX1_copyFrom_96 rfl rfl rfl ?_
  refine g_aload_n (i := 1) hX dX1_copyFrom_97 rfl rfl rfl ?_
  refine g_getI hX fl_X1_44 rfl rfl dX1_copyFrom_98 rfl ?_
  refine g_putI hX fp_X1_44 rfl rfl dX1_copyFrom_101 rfl ?_
  refine gG_row (sh := _) (r' := M 16) rfl (gEq.obj (fun _ => rfl)) ?_
  refine g_vret hX hR dX1_copyFrom_104 ?_
  first | rfl | (simp only [gset_gset]; done) | (simp only [gset_gset]; rfl)
theorem c_X5_copyFrom_51_1 (E : gE) (M : gM) (hz1 : M 14 1 = 0 ∨ M 14 1 = 1) (hz2 : M 14 2 = 0 ∨ M 14 2 = 1) : gMet E k_X5_copyFrom [.ref 51, .ref 1] M (gVoid fun M' => M' = cpS M 51 1) := by
  refine gMet.of (by decide +kernel) rfl (Nat.le_of_ble_eq_true rfl) (fun X hX hR => ?_)
  refine g_aload_n (i := 0) hX dX5_copyFrom_0 rfl rfl rfl ?_
  refine g_getR hX fl_X5_12 rfl rfl dX5_copyFrom_1 rfl ?_
  refine g_aload_n (i := 1) hX dX5_copyFrom_4 rfl rfl rfl ?_
  refine g_getR hX fl_X5_12 rfl rfl dX5_copyFrom_5 rfl ?_
  refine g_callVv hX (c_X4_copyFrom_51_1 E _) kf_X4_copyFrom rfl wk_X5_51 rfl rfl rfl rfl rfl dX5_copyFrom_8 rfl (fun M8 h8 => ?_)
  subst h8
  refine g_aload_n (i := 0) hX dX5_copyFrom_11 rfl rfl rfl ?_
  refine g_getR hX fl_X5_21 rfl rfl dX5_copyFrom_12 rfl ?_
  refine g_aload_n (i := 1) hX dX5_copyFrom_15 rfl rfl rfl ?_
  refine g_getR hX fl_X5_21 rfl rfl dX5_copyFrom_16 rfl ?_
  refine g_callVv hX (c_X2_copyFrom_51_1 E _) kf_X2_copyFrom rfl wk_X5_55 rfl rfl rfl rfl rfl dX5_copyFrom_19 rfl (fun M19 h19 => ?_)
  subst h19
  refine g_aload_n (i := 0) hX dX5_copyFrom_22 rfl rfl rfl ?_
  refine g_getR hX fl_X5_28 rfl rfl dX5_copyFrom_23 rfl ?_
  refine g_aload_n (i := 1) hX dX5_copyFrom_26 rfl rfl rfl ?_
  refine g_getR hX fl_X5_28 rfl rfl dX5_copyFrom_27 rfl ?_
  refine g_callVv hX (c_X0_copyFrom_51_1 E _ hz1 hz2) kf_X0_copyFrom rfl wk_X5_58 rfl rfl rfl rfl rfl dX5_copyFrom_30 rfl (fun M30 h30 => ?_)
  subst h30
  refine g_aload_n (i := 0) hX dX5_copyFrom_33 rfl rfl rfl ?_
  refine g_getR hX fl_X5_35 rfl rfl dX5_copyFrom_34 rfl ?_
  refine g_aload_n (i := 1) hX dX5_copyFrom_37 rfl rfl rfl ?_
  refine g_getR hX fl_X5_35 rfl rfl dX5_copyFrom_38 rfl ?_
  refine g_callVv hX (c_X1_copyFrom_51_1 E _) kf_X1_copyFrom rfl wk_X5_61 rfl rfl rfl rfl rfl dX5_copyFrom_41 rfl (fun M41 h41 => ?_)
  subst h41
  refine g_aload_n (i := 1) hX dX5_copyFrom_44 rfl rfl rfl ?_
  refine g_getR hX fl_X5_48 rfl rfl dX5_copyFrom_45 rfl ?_
  refine g_aload_n (i := 0) hX dX5_copyFrom_48 rfl rfl rfl ?_
  refine g_getR hX fl_X5_48 rfl rfl dX5_copyFrom_49 rfl ?_
  refine g_callNv hX (c_X7_copyAllr E _ 25 75 _ _ _ rfl rfl rfl (M 25) rfl) kf_X7_copyAll rfl (List.mem_of_getElem? (i := 12) rfl) rfl rfl rfl rfl dX5_copyFrom_52 rfl (fun M52 h52 => ?_)
  subst h52
  refine g_aload_n (i := 0) hX dX5_copyFrom_55 rfl rfl rfl ?_
  refine g_aload_n (i := 1) hX dX5_copyFrom_56 rfl rfl rfl ?_
  refine g_getI hX fl_X5_68 rfl rfl dX5_copyFrom_57 rfl ?_
  refine g_putI hX fp_X5_68 rfl rfl dX5_copyFrom_60 rfl ?_
  refine gG_row (sh := _) (r' := M 1) rfl (gEq.obj (fun _ => rfl)) ?_
  refine g_vret hX hR dX5_copyFrom_63 ?_
  funext b
  by_cases hb : 51 ≤ b ∧ b < 76
  · have : b = 51 ∨ b = 52 ∨ b = 53 ∨ b = 54 ∨ b = 55 ∨ b = 56 ∨ b = 57 ∨ b = 58 ∨ b = 59 ∨ b = 60 ∨ b = 61 ∨ b = 62 ∨ b = 63 ∨ b = 64 ∨ b = 65 ∨ b = 66 ∨ b = 67 ∨ b = 68 ∨ b = 69 ∨ b = 70 ∨ b = 71 ∨ b = 72 ∨ b = 73 ∨ b = 74 ∨ b = 75 := by omega
    rcases this with rfl | rfl | rfl | rfl | rfl | rfl | rfl | rfl | rfl | rfl | rfl | rfl | rfl | rfl | rfl | rfl | rfl | rfl | rfl | rfl | rfl | rfl | rfl | rfl | rfl <;> rfl
  · simp only [cpS, if_neg hb, gset]
    rw [if_neg (show ¬ b = 51 by omega), if_neg (show ¬ b = 75 by omega), if_neg (show ¬ b = 66 by omega), if_neg (show ¬ b = 74 by omega), if_neg (show ¬ b = 73 by omega), if_neg (show ¬ b = 72 by omega), if_neg (show ¬ b = 71 by omega), if_neg (show ¬ b = 70 by omega), if_neg (show ¬ b = 69 by omega), if_neg (show ¬ b = 68 by omega), if_neg (show ¬ b = 67 by omega), if_neg (show ¬ b = 64 by omega), if_neg (show ¬ b = 65 by omega), if_neg (show ¬ b = 57 by omega), if_neg (show ¬ b = 63 by omega), if_neg (show ¬ b = 62 by omega), if_neg (show ¬ b = 61 by omega), if_neg (show ¬ b = 60 by omega), if_neg (show ¬ b = 59 by omega), if_neg (show ¬ b = 58 by omega), if_neg (show ¬ b = 52 by omega), if_neg (show ¬ b = 56 by omega), if_neg (show ¬ b = 55 by omega), if_neg (show ¬ b = 54 by omega), if_neg (show ¬ b = 53 by omega)]
theorem c_X4_copyFrom_76_1 (E : gE) (M : gM) : gMet E k_X4_copyFrom [.ref 77, .ref 2] M (gVoid fun M' => M' = gset (gset (gset (gset (gset M 78 (M 3)) 79 (M 4)) 80 (M 5)) 81 (M 6)) 77 (M 2)) := by
  refine gMet.of (by decide +kernel) rfl (Nat.le_of_ble_eq_true rfl) (fun X hX hR => ?_)
  refine g_aload_n (i := 1) hX dX4_copyFrom_0 rfl rfl rfl ?_
  refine g_getR hX fl_X4_9 rfl rfl dX4_copyFrom_1 rfl ?_
  refine g_aload_n (i := 0) hX dX4_copyFrom_4 rfl rfl rfl ?_
  refine g_getR hX fl_X4_9 rfl rfl dX4_copyFrom_5 rfl ?_
  refine g_callNv hX (c_X7_copyAllr E _ 3 78 _ _ _ rfl rfl rfl (M 3) rfl) kf_X7_copyAll rfl (List.mem_of_getElem? (i := 8) rfl) rfl rfl rfl rfl dX4_copyFrom_8 rfl (fun M8 h8 => ?_)
  subst h8
  refine g_aload_n (i := 1) hX dX4_copyFrom_11 rfl rfl rfl ?_
  refine g_getR hX fl_X4_15 rfl rfl dX4_copyFrom_12 rfl ?_
  refine g_aload_n (i := 0) hX dX4_copyFrom_15 rfl rfl rfl ?_
  refine g_getR hX fl_X4_15 rfl rfl dX4_copyFrom_16 rfl ?_
  refine g_callNv hX (c_X7_copyAllr E _ 4 79 _ _ _ rfl rfl rfl (M 4) rfl) kf_X7_copyAll rfl (List.mem_of_getElem? (i := 8) rfl) rfl rfl rfl rfl dX4_copyFrom_19 rfl (fun M19 h19 => ?_)
  subst h19
  refine g_aload_n (i := 1) hX dX4_copyFrom_22 rfl rfl rfl ?_
  refine g_getR hX fl_X4_18 rfl rfl dX4_copyFrom_23 rfl ?_
  refine g_aload_n (i := 0) hX dX4_copyFrom_26 rfl rfl rfl ?_
  refine g_getR hX fl_X4_18 rfl rfl dX4_copyFrom_27 rfl ?_
  refine g_callNv hX (c_X7_copyAllr E _ 5 80 _ _ _ rfl rfl rfl (M 5) rfl) kf_X7_copyAll rfl (List.mem_of_getElem? (i := 8) rfl) rfl rfl rfl rfl dX4_copyFrom_30 rfl (fun M30 h30 => ?_)
  subst h30
  refine g_aload_n (i := 1) hX dX4_copyFrom_33 rfl rfl rfl ?_
  refine g_getR hX fl_X4_21 rfl rfl dX4_copyFrom_34 rfl ?_
  refine g_aload_n (i := 0) hX dX4_copyFrom_37 rfl rfl rfl ?_
  refine g_getR hX fl_X4_21 rfl rfl dX4_copyFrom_38 rfl ?_
  refine g_callNv hX (c_X7_copyAllr E _ 6 81 _ _ _ rfl rfl rfl (M 6) rfl) kf_X7_copyAll rfl (List.mem_of_getElem? (i := 8) rfl) rfl rfl rfl rfl dX4_copyFrom_41 rfl (fun M41 h41 => ?_)
  subst h41
  refine g_aload_n (i := 0) hX dX4_copyFrom_44 rfl rfl rfl ?_
  refine g_aload_n (i := 1) hX dX4_copyFrom_45 rfl rfl rfl ?_
  refine g_getI hX fl_X4_28 rfl rfl dX4_copyFrom_46 rfl ?_
  refine g_putI hX fp_X4_28 rfl rfl dX4_copyFrom_49 rfl ?_
  refine gG_row (sh := _) (r' := M 2) rfl (gEq.obj (fun _ => rfl)) ?_
  refine g_vret hX hR dX4_copyFrom_52 ?_
  first | rfl | (simp only [gset_gset]; done) | (simp only [gset_gset]; rfl)
theorem c_X2_copyFrom_76_1 (E : gE) (M : gM) : gMet E k_X2_copyFrom [.ref 82, .ref 7] M (gVoid fun M' => M' = gset (gset (gset (gset (gset (gset (gset M 83 (M 8)) 84 (M 9)) 85 (M 10)) 86 (M 11)) 87 (M 12)) 88 (M 13)) 82 (M 7)) := by
  refine gMet.of (by decide +kernel) rfl (Nat.le_of_ble_eq_true rfl) (fun X hX hR => ?_)
  refine g_aload_n (i := 1) hX dX2_copyFrom_0 rfl rfl rfl ?_
  refine g_getR hX fl_X2_9 rfl rfl dX2_copyFrom_1 rfl ?_
  refine g_aload_n (i := 0) hX dX2_copyFrom_4 rfl rfl rfl ?_
  refine g_getR hX fl_X2_9 rfl rfl dX2_copyFrom_5 rfl ?_
  refine g_callNv hX (c_X7_copyAllr E _ 8 83 _ _ _ rfl rfl rfl (M 8) rfl) kf_X7_copyAll rfl (List.mem_of_getElem? (i := 9) rfl) rfl rfl rfl rfl dX2_copyFrom_8 rfl (fun M8 h8 => ?_)
  subst h8
  refine g_aload_n (i := 1) hX dX2_copyFrom_11 rfl rfl rfl ?_
  refine g_getR hX fl_X2_15 rfl rfl dX2_copyFrom_12 rfl ?_
  refine g_aload_n (i := 0) hX dX2_copyFrom_15 rfl rfl rfl ?_
  refine g_getR hX fl_X2_15 rfl rfl dX2_copyFrom_16 rfl ?_
  refine g_callNv hX (c_X7_copyAllr E _ 9 84 _ _ _ rfl rfl rfl (M 9) rfl) kf_X7_copyAll rfl (List.mem_of_getElem? (i := 9) rfl) rfl rfl rfl rfl dX2_copyFrom_19 rfl (fun M19 h19 => ?_)
  subst h19
  refine g_aload_n (i := 1) hX dX2_copyFrom_22 rfl rfl rfl ?_
  refine g_getR hX fl_X2_18 rfl rfl dX2_copyFrom_23 rfl ?_
  refine g_aload_n (i := 0) hX dX2_copyFrom_26 rfl rfl rfl ?_
  refine g_getR hX fl_X2_18 rfl rfl dX2_copyFrom_27 rfl ?_
  refine g_callNv hX (c_X7_copyAllr E _ 10 85 _ _ _ rfl rfl rfl (M 10) rfl) kf_X7_copyAll rfl (List.mem_of_getElem? (i := 9) rfl) rfl rfl rfl rfl dX2_copyFrom_30 rfl (fun M30 h30 => ?_)
  subst h30
  refine g_aload_n (i := 1) hX dX2_copyFrom_33 rfl rfl rfl ?_
  refine g_getR hX fl_X2_21 rfl rfl dX2_copyFrom_34 rfl ?_
  refine g_aload_n (i := 0) hX dX2_copyFrom_37 rfl rfl rfl ?_
  refine g_getR hX fl_X2_21 rfl rfl dX2_copyFrom_38 rfl ?_
  refine g_callNv hX (c_X7_copyAllr E _ 11 86 _ _ _ rfl rfl rfl (M 11) rfl) kf_X7_copyAll rfl (List.mem_of_getElem? (i := 9) rfl) rfl rfl rfl rfl dX2_copyFrom_41 rfl (fun M41 h41 => ?_)
  subst h41
  refine g_aload_n (i := 1) hX dX2_copyFrom_44 rfl rfl rfl ?_
  refine g_getR hX fl_X2_24 rfl rfl dX2_copyFrom_45 rfl ?_
  refine g_aload_n (i := 0) hX dX2_copyFrom_48 rfl rfl rfl ?_
  refine g_getR hX fl_X2_24 rfl rfl dX2_copyFrom_49 rfl ?_
  refine g_callNv hX (c_X7_copyAllr E _ 12 87 _ _ _ rfl rfl rfl (M 12) rfl) kf_X7_copyAll rfl (List.mem_of_getElem? (i := 9) rfl) rfl rfl rfl rfl dX2_copyFrom_52 rfl (fun M52 h52 => ?_)
  subst h52
  refine g_aload_n (i := 1) hX dX2_copyFrom_55 rfl rfl rfl ?_
  refine g_getR hX fl_X2_27 rfl rfl dX2_copyFrom_56 rfl ?_
  refine g_aload_n (i := 0) hX dX2_copyFrom_59 rfl rfl rfl ?_
  refine g_getR hX fl_X2_27 rfl rfl dX2_copyFrom_60 rfl ?_
  refine g_callNv hX (c_X7_copyAllr E _ 13 88 _ _ _ rfl rfl rfl (M 13) rfl) kf_X7_copyAll rfl (List.mem_of_getElem? (i := 9) rfl) rfl rfl rfl rfl dX2_copyFrom_63 rfl (fun M63 h63 => ?_)
  subst h63
  refine g_aload_n (i := 0) hX dX2_copyFrom_66 rfl rfl rfl ?_
  refine g_aload_n (i := 1) hX dX2_copyFrom_67 rfl rfl rfl ?_
  refine g_getI hX fl_X2_38 rfl rfl dX2_copyFrom_68 rfl ?_
  refine g_putI hX fp_X2_38 rfl rfl dX2_copyFrom_71 rfl ?_
  refine g_aload_n (i := 0) hX dX2_copyFrom_74 rfl rfl rfl ?_
  refine g_aload_n (i := 1) hX dX2_copyFrom_75 rfl rfl rfl ?_
  refine g_getI hX fl_X2_30 rfl rfl dX2_copyFrom_76 rfl ?_
  refine g_putI hX fp_X2_30 rfl rfl dX2_copyFrom_79 rfl ?_
  refine gG_row (sh := _) (r' := M 7) rfl (gEq.obj (fun _ => rfl)) ?_
  refine g_vret hX hR dX2_copyFrom_82 ?_
  first | rfl | (simp only [gset_gset]; done) | (simp only [gset_gset]; rfl)
theorem c_X0_copyFrom_76_1 (E : gE) (M : gM) (hz1 : M 14 1 = 0 ∨ M 14 1 = 1) (hz2 : M 14 2 = 0 ∨ M 14 2 = 1) : gMet E k_X0_copyFrom [.ref 89, .ref 14] M (gVoid fun M' => M' = gset (gset M 90 (M 15)) 89 (M 14)) := by
  refine gMet.of (by decide +kernel) rfl (Nat.le_of_ble_eq_true rfl) (fun X hX hR => ?_)
  refine g_aload_n (i := 1) hX dX0_copyFrom_0 rfl rfl rfl ?_
  refine g_getR hX fl_X0_9 rfl rfl dX0_copyFrom_1 rfl ?_
  refine g_aload_n (i := 0) hX dX0_copyFrom_4 rfl rfl rfl ?_
  refine g_getR hX fl_X0_9 rfl rfl dX0_copyFrom_5 rfl ?_
  refine g_callNv hX (c_X7_copyAllr E _ 15 90 _ _ _ rfl rfl rfl (M 15) rfl) kf_X7_copyAll rfl (List.mem_of_getElem? (i := 10) rfl) rfl rfl rfl rfl dX0_copyFrom_8 rfl (fun M8 h8 => ?_)
  subst h8
  refine g_aload_n (i := 0) hX dX0_copyFrom_11 rfl rfl rfl ?_
  refine g_aload_n (i := 1) hX dX0_copyFrom_12 rfl rfl rfl ?_
  refine g_getI hX fl_X0_19 rfl rfl dX0_copyFrom_13 rfl ?_
  refine g_putZ hX fp_X0_19 rfl rfl (hz1) dX0_copyFrom_16 rfl ?_
  refine g_aload_n (i := 0) hX dX0_copyFrom_19 rfl rfl rfl ?_
  refine g_aload_n (i := 1) hX dX0_copyFrom_20 rfl rfl rfl ?_
  refine g_getI hX fl_X0_23 rfl rfl dX0_copyFrom_21 rfl ?_
  refine g_putZ hX fp_X0_23 rfl rfl (hz2) dX0_copyFrom_24 rfl ?_
  refine g_aload_n (i := 0) hX dX0_copyFrom_27 rfl rfl rfl ?_
  refine g_aload_n (i := 1) hX dX0_copyFrom_28 rfl rfl rfl ?_
  refine g_getI hX fl_X0_26 rfl rfl dX0_copyFrom_29 rfl ?_
  refine g_putI hX fp_X0_26 rfl rfl dX0_copyFrom_32 rfl ?_
  refine g_aload_n (i := 0) hX dX0_copyFrom_35 rfl rfl rfl ?_
  refine g_aload_n (i := 1) hX dX0_copyFrom_36 rfl rfl rfl ?_
  refine g_getI hX fl_X0_30 rfl rfl dX0_copyFrom_37 rfl ?_
  refine g_putI hX fp_X0_30 rfl rfl dX0_copyFrom_40 rfl ?_
  refine gG_row (sh := _) (r' := M 14) rfl (gEq.obj (fun _ => rfl)) ?_
  refine g_vret hX hR dX0_copyFrom_43 ?_
  first | rfl | (simp only [gset_gset]; done) | (simp only [gset_gset]; rfl)
theorem c_X1_copyFrom_76_1 (E : gE) (M : gM) : gMet E k_X1_copyFrom [.ref 91, .ref 16] M (gVoid fun M' => M' = gset (gset (gset (gset (gset (gset (gset (gset (gset M 92 (M 17)) 93 (M 18)) 94 (M 19)) 95 (M 20)) 96 (M 21)) 97 (M 22)) 98 (M 23)) 99 (M 24)) 91 (M 16)) := by
  refine gMet.of (by decide +kernel) rfl (Nat.le_of_ble_eq_true rfl) (fun X hX hR => ?_)
  refine g_aload_n (i := 1) hX dX1_copyFrom_0 rfl rfl rfl ?_
  refine g_getR hX fl_X1_9 rfl rfl dX1_copyFrom_1 rfl ?_
  refine g_aload_n (i := 0) hX dX1_copyFrom_4 rfl rfl rfl ?_
  refine g_getR hX fl_X1_9 rfl rfl dX1_copyFrom_5 rfl ?_
  refine g_callNv hX (c_X7_copyAllr E _ 17 92 _ _ _ rfl rfl rfl (M 17) rfl) kf_X7_copyAll rfl (List.mem_of_getElem? (i := 11) rfl) rfl rfl rfl rfl dX1_copyFrom_8 rfl (fun M8 h8 => ?_)
  subst h8
  refine g_aload_n (i := 1) hX dX1_copyFrom_11 rfl rfl rfl ?_
  refine g_getR hX fl_X1_15 rfl rfl dX1_copyFrom_12 rfl ?_
  refine g_aload_n (i := 0) hX dX1_copyFrom_15 rfl rfl rfl ?_
  refine g_getR hX fl_X1_15 rfl rfl dX1_copyFrom_16 rfl ?_
  refine g_callNv hX (c_X7_copyAllr E _ 18 93 _ _ _ rfl rfl rfl (M 18) rfl) kf_X7_copyAll rfl (List.mem_of_getElem? (i := 11) rfl) rfl rfl rfl rfl dX1_copyFrom_19 rfl (fun M19 h19 => ?_)
  subst h19
  refine g_aload_n (i := 1) hX dX1_copyFrom_22 rfl rfl rfl ?_
  refine g_getR hX fl_X1_18 rfl rfl dX1_copyFrom_23 rfl ?_
  refine g_aload_n (i := 0) hX dX1_copyFrom_26 rfl rfl rfl ?_
  refine g_getR hX fl_X1_18 rfl rfl dX1_copyFrom_27 rfl ?_
  refine g_callNv hX (c_X7_copyAllr E _ 19 94 _ _ _ rfl rfl rfl (M 19) rfl) kf_X7_copyAll rfl (List.mem_of_getElem? (i := 11) rfl) rfl rfl rfl rfl dX1_copyFrom_30 rfl (fun M30 h30 => ?_)
  subst h30
  refine g_aload_n (i := 1) hX dX1_copyFrom_33 rfl rfl rfl ?_
  refine g_getR hX fl_X1_21 rfl rfl dX1_copyFrom_34 rfl ?_
  refine g_aload_n (i := 0) hX dX1_copyFrom_37 rfl rfl rfl ?_
  refine g_getR hX fl_X1_21 rfl rfl dX1_copyFrom_38 rfl ?_
  refine g_callNv hX (c_X7_copyAllr E _ 20 95 _ _ _ rfl rfl rfl (M 20) rfl) kf_X7_copyAll rfl (List.mem_of_getElem? (i := 11) rfl) rfl rfl rfl rfl dX1_copyFrom_41 rfl (fun M41 h41 => ?_)
  subst h41
  refine g_aload_n (i := 1) hX dX1_copyFrom_44 rfl rfl rfl ?_
  refine g_getR hX fl_X1_24 rfl rfl dX1_copyFrom_45 rfl ?_
  refine g_aload_n (i := 0) hX dX1_copyFrom_48 rfl rfl rfl ?_
  refine g_getR hX fl_X1_24 rfl rfl dX1_copyFrom_49 rfl ?_
  refine g_callNv hX (c_X7_copyAllr E _ 21 96 _ _ _ rfl rfl rfl (M 21) rfl) kf_X7_copyAll rfl (List.mem_of_getElem? (i := 11) rfl) rfl rfl rfl rfl dX1_copyFrom_52 rfl (fun M52 h52 => ?_)
  subst h52
  refine g_aload_n (i := 1) hX dX1_copyFrom_55 rfl rfl rfl ?_
  refine g_getR hX fl_X1_27 rfl rfl dX1_copyFrom_56 rfl ?_
  refine g_aload_n (i := 0) hX dX1_copyFrom_59 rfl rfl rfl ?_
  refine g_getR hX fl_X1_27 rfl rfl dX1_copyFrom_60 rfl ?_
  refine g_callNv hX (c_X7_copyAllr E _ 22 97 _ _ _ rfl rfl rfl (M 22) rfl) kf_X7_copyAll rfl (List.mem_of_getElem? (i := 11) rfl) rfl rfl rfl rfl dX1_copyFrom_63 rfl (fun M63 h63 => ?_)
  subst h63
  refine g_aload_n (i := 1) hX dX1_copyFrom_66 rfl rfl rfl ?_
  refine g_getR hX fl_X1_30 rfl rfl dX1_copyFrom_67 rfl ?_
  refine g_aload_n (i := 0) hX dX1_copyFrom_70 rfl rfl rfl ?_
  refine g_getR hX fl_X1_30 rfl rfl dX1_copyFrom_71 rfl ?_
  refine g_callNv hX (c_X7_copyAllr E _ 23 98 _ _ _ rfl rfl rfl (M 23) rfl) kf_X7_copyAll rfl (List.mem_of_getElem? (i := 11) rfl) rfl rfl rfl rfl dX1_copyFrom_74 rfl (fun M74 h74 => ?_)
  subst h74
  refine g_aload_n (i := 1) hX dX1_copyFrom_77 rfl rfl rfl ?_
  refine g_getR hX fl_X1_33 rfl rfl dX1_copyFrom_78 rfl ?_
  refine g_aload_n (i := 0) hX dX1_copyFrom_81 rfl rfl rfl ?_
  refine g_getR hX fl_X1_33 rfl rfl dX1_copyFrom_82 rfl ?_
  refine g_callNv hX (c_X7_copyAllr E _ 24 99 _ _ _ rfl rfl rfl (M 24) rfl) kf_X7_copyAll rfl (List.mem_of_getElem? (i := 11) rfl) rfl rfl rfl rfl dX1_copyFrom_85 rfl (fun M85 h85 => ?_)
  subst h85
  refine g_aload_n (i := 0) hX dX1_copyFrom_88 rfl rfl rfl ?_
  refine g_aload_n (i := 1) hX dX1_copyFrom_89 rfl rfl rfl ?_
  refine g_getI hX fl_X1_40 rfl rfl dX1_copyFrom_90 rfl ?_
  refine g_putI hX fp_X1_40 rfl rfl dX1_copyFrom_93 rfl ?_
  refine g_aload_n (i := 0) hX dX1_copyFrom_96 rfl rfl rfl ?_
  refine g_aload_n (i := 1) hX dX1_copyFrom_97 rfl rfl rfl ?_
  refine g_getI hX fl_X1_44 rfl rfl dX1_copyFrom_98 rfl ?_
  refine g_putI hX fp_X1_44 rfl rfl dX1_copyFrom_101 rfl ?_
  refine gG_row (sh := _) (r' := M 16) rfl (gEq.obj (fun _ => rfl)) ?_
  refine g_vret hX hR dX1_copyFrom_104 ?_
  first | rfl | (simp only [gset_gset]; done) | (simp only [gset_gset]; rfl)
theorem c_X5_copyFrom_76_1 (E : gE) (M : gM) (hz1 : M 14 1 = 0 ∨ M 14 1 = 1) (hz2 : M 14 2 = 0 ∨ M 14 2 = 1) : gMet E k_X5_copyFrom [.ref 76, .ref 1] M (gVoid fun M' => M' = cpS M 76 1) := by
  refine gMet.of (by decide +kernel) rfl (Nat.le_of_ble_eq_true rfl) (fun X hX hR => ?_)
  refine g_aload_n (i := 0) hX dX5_copyFrom_0 rfl rfl rfl ?_
  refine g_getR hX fl_X5_12 rfl rfl dX5_copyFrom_1 rfl ?_
  refine g_aload_n (i := 1) hX dX5_copyFrom_4 rfl rfl rfl ?_
  refine g_getR hX fl_X5_12 rfl rfl dX5_copyFrom_5 rfl ?_
  refine g_callVv hX (c_X4_copyFrom_76_1 E _) kf_X4_copyFrom rfl wk_X5_51 rfl rfl rfl rfl rfl dX5_copyFrom_8 rfl (fun M8 h8 => ?_)
  subst h8
  refine g_aload_n (i := 0) hX dX5_copyFrom_11 rfl rfl rfl ?_
  refine g_getR hX fl_X5_21 rfl rfl dX5_copyFrom_12 rfl ?_
  refine g_aload_n (i := 1) hX dX5_copyFrom_15 rfl rfl rfl ?_
  refine g_getR hX fl_X5_21 rfl rfl dX5_copyFrom_16 rfl ?_
  refine g_callVv hX (c_X2_copyFrom_76_1 E _) kf_X2_copyFrom rfl wk_X5_55 rfl rfl rfl rfl rfl dX5_copyFrom_19 rfl (fun M19 h19 => ?_)
  subst h19
  refine g_aload_n (i := 0) hX dX5_copyFrom_22 rfl rfl rfl ?_
  refine g_getR hX fl_X5_28 rfl rfl dX5_copyFrom_23 rfl ?_
  refine g_aload_n (i := 1) hX dX5_copyFrom_26 rfl rfl rfl ?_
  refine g_getR hX fl_X5_28 rfl rfl dX5_copyFrom_27 rfl ?_
  refine g_callVv hX (c_X0_copyFrom_76_1 E _ hz1 hz2) kf_X0_copyFrom rfl wk_X5_58 rfl rfl rfl rfl rfl dX5_copyFrom_30 rfl (fun M30 h30 => ?_)
  subst h30
  refine g_aload_n (i := 0) hX dX5_copyFrom_33 rfl rfl rfl ?_
  refine g_getR hX fl_X5_35 rfl rfl dX5_copyFrom_34 rfl ?_
  refine g_aload_n (i := 1) hX dX5_copyFrom_37 rfl rfl rfl ?_
  refine g_getR hX fl_X5_35 rfl rfl dX5_copyFrom_38 rfl ?_
  refine g_callVv hX (c_X1_copyFrom_76_1 E _) kf_X1_copyFrom rfl wk_X5_61 rfl rfl rfl rfl rfl dX5_copyFrom_41 rfl (fun M41 h41 => ?_)
  subst h41
  refine g_aload_n (i := 1) hX dX5_copyFrom_44 rfl rfl rfl ?_
  refine g_getR hX fl_X5_48 rfl rfl dX5_copyFrom_45 rfl ?_
  refine g_aload_n (i := 0) hX dX5_copyFrom_48 rfl rfl rfl ?_
  refine g_getR hX fl_X5_48 rfl rfl dX5_copyFrom_49 rfl ?_
  refine g_callNv hX (c_X7_copyAllr E _ 25 100 _ _ _ rfl rfl rfl (M 25) rfl) kf_X7_copyAll rfl (List.mem_of_getElem? (i := 12) rfl) rfl rfl rfl rfl dX5_copyFrom_52 rfl (fun M52 h52 => ?_)
  subst h52
  refine g_aload_n (i := 0) hX dX5_copyFrom_55 rfl rfl rfl ?_
  refine g_aload_n (i := 1) hX dX5_copyFrom_56 rfl rfl rfl ?_
  refine g_getI hX fl_X5_68 rfl rfl dX5_copyFrom_57 rfl ?_
  refine g_putI hX fp_X5_68 rfl rfl dX5_copyFrom_60 rfl ?_
  refine gG_row (sh := _) (r' := M 1) rfl (gEq.obj (fun _ => rfl)) ?_
  refine g_vret hX hR dX5_copyFrom_63 ?_
  funext b
  by_cases hb : 76 ≤ b ∧ b < 101
  · have : b = 76 ∨ b = 77 ∨ b = 78 ∨ b = 79 ∨ b = 80 ∨ b = 81 ∨ b = 82 ∨ b = 83 ∨ b = 84 ∨ b = 85 ∨ b = 86 ∨ b = 87 ∨ b = 88 ∨ b = 89 ∨ b = 90 ∨ b = 91 ∨ b = 92 ∨ b = 93 ∨ b = 94 ∨ b = 95 ∨ b = 96 ∨ b = 97 ∨ b = 98 ∨ b = 99 ∨ b = 100 := by omega
    rcases this with rfl | rfl | rfl | rfl | rfl | rfl | rfl | rfl | rfl | rfl | rfl | rfl | rfl | rfl | rfl | rfl | rfl | rfl | rfl | rfl | rfl | rfl | rfl | rfl | rfl <;> rfl
  · simp only [cpS, if_neg hb, gset]
    rw [if_neg (show ¬ b = 76 by omega), if_neg (show ¬ b = 100 by omega), if_neg (show ¬ b = 91 by omega), if_neg (show ¬ b = 99 by omega), if_neg (show ¬ b = 98 by omega), if_neg (show ¬ b = 97 by omega), if_neg (show ¬ b = 96 by omega), if_neg (show ¬ b = 95 by omega), if_neg (show ¬ b = 94 by omega), if_neg (show ¬ b = 93 by omega), if_neg (show ¬ b = 92 by omega), if_neg (show ¬ b = 89 by omega), if_neg (show ¬ b = 90 by omega), if_neg (show ¬ b = 82 by omega), if_neg (show ¬ b = 88 by omega), if_neg (show ¬ b = 87 by omega), if_neg (show ¬ b = 86 by omega), if_neg (show ¬ b = 85 by omega), if_neg (show ¬ b = 84 by omega), if_neg (show ¬ b = 83 by omega), if_neg (show ¬ b = 77 by omega), if_neg (show ¬ b = 81 by omega), if_neg (show ¬ b = 80 by omega), if_neg (show ¬ b = 79 by omega), if_neg (show ¬ b = 78 by omega)]
theorem c_X4_copyFrom_101_1 (E : gE) (M : gM) : gMet E k_X4_copyFrom [.ref 102, .ref 2] M (gVoid fun M' => M' = gset (gset (gset (gset (gset M 103 (M 3)) 104 (M 4)) 105 (M 5)) 106 (M 6)) 102 (M 2)) := by
  refine gMet.of (by decide +kernel) rfl (Nat.le_of_ble_eq_true rfl) (fun X hX hR => ?_)
  refine g_aload_n (i := 1) hX dX4_copyFrom_0 rfl rfl rfl ?_
  refine g_getR hX fl_X4_9 rfl rfl dX4_copyFrom_1 rfl ?_
  refine g_aload_n (i := 0) hX dX4_copyFrom_4 rfl rfl rfl ?_
  refine g_getR hX fl_X4_9 rfl rfl dX4_copyFrom_5 rfl ?_
  refine g_callNv hX (c_X7_copyAllr E _ 3 103 _ _ _ rfl rfl rfl (M 3) rfl) kf_X7_copyAll rfl (List.mem_of_getElem? (i := 8) rfl) rfl rfl rfl rfl dX4_copyFrom_8 rfl (fun M8 h8 => ?_)
  subst h8
  refine g_aload_n (i := 1) hX dX4_copyFrom_11 rfl rfl rfl ?_
  refine g_getR hX fl_X4_15 rfl rfl dX4_copyFrom_12 rfl ?_
  refine g_aload_n (i := 0) hX dX4_copyFrom_15 rfl rfl rfl ?_
  refine g_getR hX fl_X4_15 rfl rfl dX4_copyFrom_16 rfl ?_
  refine g_callNv hX (c_X7_copyAllr E _ 4 104 _ _ _ rfl rfl rfl (M 4) rfl) kf_X7_copyAll rfl (List.mem_of_getElem? (i := 8) rfl) rfl rfl rfl rfl dX4_copyFrom_19 rfl (fun M19 h19 => ?_)
  subst h19
  refine g_aload_n (i := 1) hX dX4_copyFrom_22 rfl rfl rfl ?_
  refine g_getR hX fl_X4_18 rfl rfl dX4_copyFrom_23 rfl ?_
  refine g_aload_n (i := 0) hX dX4_copyFrom_26 rfl rfl rfl ?_
  refine g_getR hX fl_X4_18 rfl rfl dX4_copyFrom_27 rfl ?_
  refine g_callNv hX (c_X7_copyAllr E _ 5 105 _ _ _ rfl rfl rfl (M 5) rfl) kf_X7_copyAll rfl (List.mem_of_getElem? (i := 8) rfl) rfl rfl rfl rfl dX4_copyFrom_30 rfl (fun M30 h30 => ?_)
  subst h30
  refine g_aload_n (i := 1) hX dX4_copyFrom_33 rfl rfl rfl ?_
  refine g_getR hX fl_X4_21 rfl rfl dX4_copyFrom_34 rfl ?_
  refine g_aload_n (i := 0) hX dX4_copyFrom_37 rfl rfl rfl ?_
  refine g_getR hX fl_X4_21 rfl rfl dX4_copyFrom_38 rfl ?_
  refine g_callNv hX (c_X7_copyAllr E _ 6 106 _ _ _ rfl rfl rfl (M 6) rfl) kf_X7_copyAll rfl (List.mem_of_getElem? (i := 8) rfl) rfl rfl rfl rfl dX4_copyFrom_41 rfl (fun M41 h41 => ?_)
  subst h41
  refine g_aload_n (i := 0) hX dX4_copyFrom_44 rfl rfl rfl ?_
  refine g_aload_n (i := 1) hX dX4_copyFrom_45 rfl rfl rfl ?_
  refine g_getI hX fl_X4_28 rfl rfl dX4_copyFrom_46 rfl ?_
  refine g_putI hX fp_X4_28 rfl rfl dX4_copyFrom_49 rfl ?_
  refine gG_row (sh := _) (r' := M 2) rfl (gEq.obj (fun _ => rfl)) ?_
  refine g_vret hX hR dX4_copyFrom_52 ?_
  first | rfl | (simp only [gset_gset]; done) | (simp only [gset_gset]; rfl)
theorem c_X2_copyFrom_101_1 (E : gE) (M : gM) : gMet E k_X2_copyFrom [.ref 107, .ref 7] M (gVoid fun M' => M' = gset (gset (gset (gset (gset (gset (gset M 108 (M 8)) 109 (M 9)) 110 (M 10)) 111 (M 11)) 112 (M 12)) 113 (M 13)) 107 (M 7)) := by
  refine gMet.of (by decide +kernel) rfl (Nat.le_of_ble_eq_true rfl) (fun X hX hR => ?_)
  refine g_aload_n (i := 1) hX dX2_copyFrom_0 rfl rfl rfl ?_
  refine g_getR hX fl_X2_9 rfl rfl dX2_copyFrom_1 rfl ?_
  refine g_aload_n (i := 0) hX dX2_copyFrom_4 rfl rfl rfl ?_
  refine g_getR hX fl_X2_9 rfl rfl dX2_copyFrom_5 rfl ?_
  refine g_callNv hX (c_X7_copyAllr E _ 8 108 _ _ _ rfl rfl rfl (M 8) rfl) kf_X7_copyAll rfl (List.mem_of_getElem? (i := 9) rfl) rfl rfl rfl rfl dX2_copyFrom_8 rfl (fun M8 h8 => ?_)
  subst h8
  refine g_aload_n (i := 1) hX dX2_copyFrom_11 rfl rfl rfl ?_
  refine g_getR hX fl_X2_15 rfl rfl dX2_copyFrom_12 rfl ?_
  refine g_aload_n (i := 0) hX dX2_copyFrom_15 rfl rfl rfl ?_
  refine g_getR hX fl_X2_15 rfl rfl dX2_copyFrom_16 rfl ?_
  refine g_callNv hX (c_X7_copyAllr E _ 9 109 _ _ _ rfl rfl rfl (M 9) rfl) kf_X7_copyAll rfl (List.mem_of_getElem? (i := 9) rfl) rfl rfl rfl rfl dX2_copyFrom_19 rfl (fun M19 h19 => ?_)
  subst h19
  refine g_aload_n (i := 1) hX dX2_copyFrom_22 rfl rfl rfl ?_
  refine g_getR hX fl_X2_18 rfl rfl dX2_copyFrom_23 rfl ?_
  refine g_aload_n (i := 0) hX dX2_copyFrom_26 rfl rfl rfl ?_
  refine g_getR hX fl_X2_18 rfl rfl dX2_copyFrom_27 rfl ?_
  refine g_callNv hX (c_X7_copyAllr E _ 10 110 _ _ _ rfl rfl rfl (M 10) rfl) kf_X7_copyAll rfl (List.mem_of_getElem? (i := 9) rfl) rfl rfl rfl rfl dX2_copyFrom_30 rfl (fun M30 h30 => ?_)
  subst h30
  refine g_aload_n (i := 1) hX dX2_copyFrom_33 rfl rfl rfl ?_
  refine g_getR hX fl_X2_21 rfl rfl dX2_copyFrom_34 rfl ?_
  refine g_aload_n (i := 0) hX dX2_copyFrom_37 rfl rfl rfl ?_
  refine g_getR hX fl_X2_21 rfl rfl dX2_copyFrom_38 rfl ?_
  refine g_callNv hX (c_X7_copyAllr E _ 11 111 _ _ _ rfl rfl rfl (M 11) rfl) kf_X7_copyAll rfl (List.mem_of_getElem? (i := 9) rfl) rfl rfl rfl rfl dX2_copyFrom_41 rfl (fun M41 h41 => ?_)
  subst h41
  refine g_aload_n (i := 1) hX dX2_copyFrom_44 rfl rfl rfl ?_
  refine g_getR hX fl_X2_24 rfl rfl dX2_copyFrom_45 rfl ?_
  refine g_aload_n (i := 0) hX dX2_copyFrom_48 rfl rfl rfl ?_
  refine g_getR hX fl_X2_24 rfl rfl dX2_copyFrom_49 rfl ?_
  refine g_callNv hX (c_X7_copyAllr E _ 12 112 _ _ _ rfl rfl rfl (M 12) rfl) kf_X7_copyAll rfl (List.mem_of_getElem? (i := 9) rfl) rfl rfl rfl rfl dX2_copyFrom_52 rfl (fun M52 h52 => ?_)
  subst h52
  refine g_aload_n (i := 1) hX dX2_copyFrom_55 rfl rfl rfl ?_
  refine g_getR hX fl_X2_27 rfl rfl dX2_copyFrom_56 rfl ?_
  refine g_aload_n (i := 0) hX dX2_copyFrom_59 rfl rfl rfl ?_
  refine g_getR hX fl_X2_27 rfl rfl dX2_copyFrom_60 rfl ?_
  refine g_callNv hX (c_X7_copyAllr E _ 13 113 _ _ _ rfl rfl rfl (M 13) rfl) kf_X7_copyAll rfl (List.mem_of_getElem? (i := 9) rfl) rfl rfl rfl rfl dX2_copyFrom_63 rfl (fun M63 h63 => ?_)
  subst h63
  refine g_aload_n (i := 0) hX dX2_copyFrom_66 rfl rfl rfl ?_
  refine g_aload_n (i := 1) hX dX2_copyFrom_67 rfl rfl rfl ?_
  refine g_getI hX fl_X2_38 rfl rfl dX2_copyFrom_68 rfl ?_
  refine g_putI hX fp_X2_38 rfl rfl dX2_copyFrom_71 rfl ?_
  refine g_aload_n (i := 0) hX dX2_copyFrom_74 rfl rfl rfl ?_
  refine g_aload_n (i := 1) hX dX2_copyFrom_75 rfl rfl rfl ?_
  refine g_getI hX fl_X2_30 rfl rfl dX2_copyFrom_76 rfl ?_
  refine g_putI hX fp_X2_30 rfl rfl dX2_copyFrom_79 rfl ?_
  refine gG_row (sh := _) (r' := M 7) rfl (gEq.obj (fun _ => rfl)) ?_
  refine g_vret hX hR dX2_copyFrom_82 ?_
  first | rfl | (simp only [gset_gset]; done) | (simp only [gset_gset]; rfl)
theorem c_X0_copyFrom_101_1 (E : gE) (M : gM) (hz1 : M 14 1 = 0 ∨ M 14 1 = 1) (hz2 : M 14 2 = 0 ∨ M 14 2 = 1) : gMet E k_X0_copyFrom [.ref 114, .ref 14] M (gVoid fun M' => M' = gset (gset M 115 (M 15)) 114 (M 14)) := by
  refine gMet.of (by decide +kernel) rfl (Nat.le_of_ble_eq_true rfl) (fun X hX hR => ?_)
  refine g_aload_n (i := 1) hX dX0_copyFrom_0 rfl rfl rfl ?_
  refine g_getR hX fl_X0_9 rfl rfl dX0_copyFrom_1 rfl ?_
  refine g_aload_n (i := 0) hX dX0_copyFrom_4 rfl rfl rfl ?_
  refine g_getR hX fl_X0_9 rfl rfl dX0_copyFrom_5 rfl ?_
  refine g_callNv hX (c_X7_copyAllr E _ 15 115 _ _ _ rfl rfl rfl (M 15) rfl) kf_X7_copyAll rfl (List.mem_of_getElem? (i := 10) rfl) rfl rfl rfl rfl dX0_copyFrom_8 rfl (fun M8 h8 => ?_)
  subst h8
  refine g_aload_n (i := 0) hX dX0_copyFrom_11 rfl rfl rfl ?_
  refine g_aload_n (i := 1) hX dX0_copyFrom_12 rfl rfl rfl ?_
  refine g_getI hX fl_X0_19 rfl rfl dX0_copyFrom_13 rfl ?_
  refine g_putZ hX fp_X0_19 rfl rfl (hz1) dX0_copyFrom_16 rfl ?_
  refine g_aload_n (i := 0) hX dX0_copyFrom_19 rfl rfl rfl ?_
  refine g_aload_n (i := 1) hX dX0_copyFrom_20 rfl rfl rfl ?_
  refine g_getI hX fl_X0_23 rfl rfl dX0_copyFrom_21 rfl ?_
  refine g_putZ hX fp_X0_23 rfl rfl (hz2) dX0_copyFrom_24 rfl ?_
  refine g_aload_n (i := 0) hX dX0_copyFrom_27 rfl rfl rfl ?_
  refine g_aload_n (i := 1) hX dX0_copyFrom_28 rfl rfl rfl ?_
  refine g_getI hX fl_X0_26 rfl rfl dX0_copyFrom_29 rfl ?_
  refine g_putI hX fp_X0_26 rfl rfl dX0_copyFrom_32 rfl ?_
  refine g_aload_n (i := 0) hX dX0_copyFrom_35 rfl rfl rfl ?_
  refine g_aload_n (i := 1) hX dX0_copyFrom_36 rfl rfl rfl ?_
  refine g_getI hX fl_X0_30 rfl rfl dX0_copyFrom_37 rfl ?_
  refine g_putI hX fp_X0_30 rfl rfl dX0_copyFrom_40 rfl ?_
  refine gG_row (sh := _) (r' := M 14) rfl (gEq.obj (fun _ => rfl)) ?_
  refine g_vret hX hR dX0_copyFrom_43 ?_
  first | rfl | (simp only [gset_gset]; done) | (simp only [gset_gset]; rfl)
theorem c_X1_copyFrom_101_1 (E : gE) (M : gM) : gMet E k_X1_copyFrom [.ref 116, .ref 16] M (gVoid fun M' => M' = gset (gset (gset (gset (gset (gset (gset (gset (gset M 117 (M 17)) 118 (M 18)) 119 (M 19)) 120 (M 20)) 121 (M 21)) 122 (M 22)) 123 (M 23)) 124 (M 24)) 116 (M 16)) := by
  refine gMet.of (by decide +kernel) rfl (Nat.le_of_ble_eq_true rfl) (fun X hX hR => ?_)
  refine g_aload_n (i := 1) hX dX1_copyFrom_0 rfl rfl rfl ?_
  refine g_getR hX fl_X1_9 rfl rfl dX1_copyFrom_1 rfl ?_
  refine g_aload_n (i := 0) hX dX1_copyFrom_4 rfl rfl rfl ?_
  refine g_getR hX fl_X1_9 rfl rfl dX1_copyFrom_5 rfl ?_
  refine g_callNv hX (c_X7_copyAllr E _ 17 117 _ _ _ rfl rfl rfl (M 17) rfl) kf_X7_copyAll rfl (List.mem_of_getElem? (i := 11) rfl) rfl rfl rfl rfl dX1_copyFrom_8 rfl (fun M8 h8 => ?_)
  subst h8
  refine g_aload_n (i := 1) hX dX1_copyFrom_11 rfl rfl rfl ?_
  refine g_getR hX fl_X1_15 rfl rfl dX1_copyFrom_12 rfl ?_
  refine g_aload_n (i := 0) hX dX1_copyFrom_15 rfl rfl rfl ?_
  refine g_getR hX fl_X1_15 rfl rfl dX1_copyFrom_16 rfl ?_
  refine g_callNv hX (c_X7_copyAllr E _ 18 118 _ _ _ rfl rfl rfl (M 18) rfl) kf_X7_copyAll rfl (List.mem_of_getElem? (i := 11) rfl) rfl rfl rfl rfl dX1_copyFrom_19 rfl (fun M19 h19 => ?_)
  subst h19
  refine g_aload_n (i := 1) hX dX1_copyFrom_22 rfl rfl rfl ?_
  refine g_getR hX fl_X1_18 rfl rfl dX1_copyFrom_23 rfl ?_
  refine g_aload_n (i := 0) hX dX1_copyFrom_26 rfl rfl rfl ?_
  refine g_getR hX fl_X1_18 rfl rfl dX1_copyFrom_27 rfl ?_
  refine g_callNv hX (c_X7_copyAllr E _ 19 119 _ _ _ rfl rfl rfl (M 19) rfl) kf_X7_copyAll rfl (List.mem_of_getElem? (i := 11) rfl) rfl rfl rfl rfl dX1_copyFrom_30 rfl (fun M30 h30 => ?_)
  subst h30
  refine g_aload_n (i := 1) hX dX1_copyFrom_33 rfl rfl rfl ?_
  refine g_getR hX fl_X1_21 rfl rfl dX1_copyFrom_34 rfl ?_
  refine g_aload_n (i := 0) hX dX1_copyFrom_37 rfl rfl rfl ?_
  refine g_getR hX fl_X1_21 rfl rfl dX1_copyFrom_38 rfl ?_
  refine g_callNv hX (c_X7_copyAllr E _ 20 120 _ _ _ rfl rfl rfl (M 20) rfl) kf_X7_copyAll rfl (List.mem_of_getElem? (i := 11) rfl) rfl rfl rfl rfl dX1_copyFrom_41 rfl (fun M41 h41 => ?_)
  subst h41
  refine g_aload_n (i := 1) hX dX1_copyFrom_44 rfl rfl rfl ?_
  refine g_getR hX fl_X1_24 rfl rfl dX1_copyFrom_45 rfl ?_
  refine g_aload_n (i := 0) hX dX1_copyFrom_48 rfl rfl rfl ?_
  refine g_getR hX fl_X1_24 rfl rfl dX1_copyFrom_49 rfl ?_
  refine g_callNv hX (c_X7_copyAllr E _ 21 121 _ _ _ rfl rfl rfl (M 21) rfl) kf_X7_copyAll rfl (List.mem_of_getElem? (i := 11) rfl) rfl rfl rfl rfl dX1_copyFrom_52 rfl (fun M52 h52 => ?_)
  subst h52
  refine g_aload_n (i := 1) hX dX1_copyFrom_55 rfl rfl rfl ?_
  refine g_getR hX fl_X1_27 rfl rfl dX1_copyFrom_56 rfl ?_
  refine g_aload_n (i := 0) hX dX1_copyFrom_59 rfl rfl rfl ?_
  refine g_getR hX fl_X1_27 rfl rfl dX1_copyFrom_60 rfl ?_
  refine g_callNv hX (c_X7_copyAllr E _ 22 122 _ _ _ rfl rfl rfl (M 22) rfl) kf_X7_copyAll rfl (List.mem_of_getElem? (i := 11) rfl) rfl rfl rfl rfl dX1_copyFrom_63 rfl (fun M63 h63 => ?_)
  subst h63
  refine g_aload_n (i := 1) hX dX1_copyFrom_66 rfl rfl rfl ?_
  refine g_getR hX fl_X1_30 rfl rfl dX1_copyFrom_67 rfl ?_
  refine g_aload_n (i := 0) hX dX1_copyFrom_70 rfl rfl rfl ?_
  refine g_getR hX fl_X1_30 rfl rfl dX1_copyFrom_71 rfl ?_
  refine g_callNv hX (c_X7_copyAllr E _ 23 123 _ _ _ rfl rfl rfl (M 23) rfl) kf_X7_copyAll rfl (List.mem_of_getElem? (i := 11) rfl) rfl rfl rfl rfl dX1_copyFrom_74 rfl (fun M74 h74 => ?_)
  subst h74
  refine g_aload_n (i := 1) hX dX1_copyFrom_77 rfl rfl rfl ?_
  refine g_getR hX fl_X1_33 rfl rfl dX1_copyFrom_78 rfl ?_
  refine g_aload_n (i := 0) hX dX1_copyFrom_81 rfl rfl rfl ?_
  refine g_getR hX fl_X1_33 rfl rfl dX1_copyFrom_82 rfl ?_
  refine g_callNv hX (c_X7_copyAllr E _ 24 124 _ _ _ rfl rfl rfl (M 24) rfl) kf_X7_copyAll rfl (List.mem_of_getElem? (i := 11) rfl) rfl rfl rfl rfl dX1_copyFrom_85 rfl (fun M85 h85 => ?_)
  subst h85
  refine g_aload_n (i := 0) hX dX1_copyFrom_88 rfl rfl rfl ?_
  refine g_aload_n (i := 1) hX dX1_copyFrom_89 rfl rfl rfl ?_
  refine g_getI hX fl_X1_40 rfl rfl dX1_copyFrom_90 rfl ?_
  refine g_putI hX fp_X1_40 rfl rfl dX1_copyFrom_93 rfl ?_
  refine g_aload_n (i := 0) hX dX1_copyFrom_96 rfl rfl rfl ?_
  refine g_aload_n (i := 1) hX dX1_copyFrom_97 rfl rfl rfl ?_
  refine g_getI hX fl_X1_44 rfl rfl dX1_copyFrom_98 rfl ?_
  refine g_putI hX fp_X1_44 rfl rfl dX1_copyFrom_101 rfl ?_
  refine gG_row (sh := _) (r' := M 16) rfl (gEq.obj (fun _ => rfl)) ?_
  refine g_vret hX hR dX1_copyFrom_104 ?_
  first | rfl | (simp only [gset_gset]; done) | (simp only [gset_gset]; rfl)
theorem c_X5_copyFrom_101_1 (E : gE) (M : gM) (hz1 : M 14 1 = 0 ∨ M 14 1 = 1) (hz2 : M 14 2 = 0 ∨ M 14 2 = 1) : gMet E k_X5_copyFrom [.ref 101, .ref 1] M (gVoid fun M' => M' = cpS M 101 1) := by
  refine gMet.of (by decide +kernel) rfl (Nat.le_of_ble_eq_true rfl) (fun X hX hR => ?_)
  refine g_aload_n (i := 0) hX dX5_copyFrom_0 rfl rfl rfl ?_
  refine g_getR hX fl_X5_12 rfl rfl dX5_copyFrom_1 rfl ?_
  refine g_aload_n (i := 1) hX dX5_copyFrom_4 rfl rfl rfl ?_
  refine g_getR hX fl_X5_12 rfl rfl dX5_copyFrom_5 rfl ?_
  refine g_callVv hX (c_X4_copyFrom_101_1 E _) kf_X4_copyFrom rfl wk_X5_51 rfl rfl rfl rfl rfl dX5_copyFrom_8 rfl (fun M8 h8 => ?_)
  subst h8
  refine g_aload_n (i := 0) hX dX5_copyFrom_11 rfl rfl rfl ?_
  refine g_getR hX fl_X5_21 rfl rfl dX5_copyFrom_12 rfl ?_
  refine g_aload_n (i := 1) hX dX5_copyFrom_15 rfl rfl rfl ?_
  refine g_getR hX fl_X5_21 rfl rfl dX5_copyFrom_16 rfl ?_
  refine g_callVv hX (c_X2_copyFrom_101_1 E _) kf_X2_copyFrom rfl wk_X5_55 rfl rfl rfl rfl rfl dX5_copyFrom_19 rfl (fun M19 h19 => ?_)
  subst h19
  refine g_aload_n (i := 0) hX dX5_copyFrom_22 rfl rfl rfl ?_
  refine g_getR hX fl_X5_28 rfl rfl dX5_copyFrom_23 rfl ?_
  refine g_aload_n (i := 1) hX dX5_copyFrom_26 rfl rfl rfl ?_
  refine g_getR hX fl_X5_28 rfl rfl dX5_copyFrom_27 rfl ?_
  refine g_callVv hX (c_X0_copyFrom_101_1 E _ hz1 hz2) kf_X0_copyFrom rfl wk_X5_58 rfl rfl rfl rfl rfl dX5_copyFrom_30 rfl (fun M30 h30 => ?_)
  subst h30
  refine g_aload_n (i := 0) hX dX5_copyFrom_33 rfl rfl rfl ?_
  refine g_getR hX fl_X5_35 rfl rfl dX5_copyFrom_34 rfl ?_
  refine g_aload_n (i := 1) hX dX5_copyFrom_37 rfl rfl rfl ?_
  refine g_getR hX fl_X5_35 rfl rfl dX5_copyFrom_38 rfl ?_
  refine g_callVv hX (c_X1_copyFrom_101_1 E _) kf_X1_copyFrom rfl wk_X5_61 rfl rfl rfl rfl rfl dX5_copyFrom_41 rfl (fun M41 h41 => ?_)
  subst h41
  refine g_aload_n (i := 1) hX dX5_copyFrom_44 rfl rfl rfl ?_
  refine g_getR hX fl_X5_48 rfl rfl dX5_copyFrom_45 rfl ?_
  refine g_aload_n (i := 0) hX dX5_copyFrom_48 rfl rfl rfl ?_
  refine g_getR hX fl_X5_48 rfl rfl dX5_copyFrom_49 rfl ?_
  refine g_callNv hX (c_X7_copyAllr E _ 25 125 _ _ _ rfl rfl rfl (M 25) rfl) kf_X7_copyAll rfl (List.mem_of_getElem? (i := 12) rfl) rfl rfl rfl rfl dX5_copyFrom_52 rfl (fun M52 h52 => ?_)
  subst h52
  refine g_aload_n (i := 0) hX dX5_copyFrom_55 rfl rfl rfl ?_
  refine g_aload_n (i := 1) hX dX5_copyFrom_56 rfl rfl rfl ?_
  refine g_getI hX fl_X5_68 rfl rfl dX5_copyFrom_57 rfl ?_
  refine g_putI hX fp_X5_68 rfl rfl dX5_copyFrom_60 rfl ?_
  refine gG_row (sh := _) (r' := M 1) rfl (gEq.obj (fun _ => rfl)) ?_
  refine g_vret hX hR dX5_copyFrom_63 ?_
  funext b
  by_cases hb : 101 ≤ b ∧ b < 126
  · have : b = 101 ∨ b = 102 ∨ b = 103 ∨ b = 104 ∨ b = 105 ∨ b = 106 ∨ b = 107 ∨ b = 108 ∨ b = 109 ∨ b = 110 ∨ b = 111 ∨ b = 112 ∨ b = 113 ∨ b = 114 ∨ b = 115 ∨ b = 116 ∨ b = 117 ∨ b = 118 ∨ b = 119 ∨ b = 120 ∨ b = 121 ∨ b = 122 ∨ b = 123 ∨ b = 124 ∨ b = 125 := by omega
    rcases this with rfl | rfl | rfl | rfl | rfl | rfl | rfl | rfl | rfl | rfl | rfl | rfl | rfl | rfl | rfl | rfl | rfl | rfl | rfl | rfl | rfl | rfl | rfl | rfl | rfl <;> rfl
  · simp only [cpS, if_neg hb, gset]
    rw [if_neg (show ¬ b = 101 by omega), if_neg (show ¬ b = 125 by omega), if_neg (show ¬ b = 116 by omega), if_neg (show ¬ b = 124 by omega), if_neg (show ¬ b = 123 by omega), if_neg (show ¬ b = 122 by omega), if_neg (show ¬ b = 121 by omega), if_neg (show ¬ b = 120 by omega), if_neg (show ¬ b = 119 by omega), if_neg (show ¬ b = 118 by omega), if_neg (show ¬ b = 117 by omega), if_neg (show ¬ b = 114 by omega), if_neg (show ¬ b = 115 by omega), if_neg (show ¬ b = 107 by omega), if_neg (show ¬ b = 113 by omega), if_neg (show ¬ b = 112 by omega), if_neg (show ¬ b = 111 by omega), if_neg (show ¬ b = 110 by omega), if_neg (show ¬ b = 109 by omega), if_neg (show ¬ b = 108 by omega), if_neg (show ¬ b = 102 by omega), if_neg (show ¬ b = 106 by omega), if_neg (show ¬ b = 105 by omega), if_neg (show ¬ b = 104 by omega), if_neg (show ¬ b = 103 by omega)]
theorem c_X4_copyFrom_1_26 (E : gE) (M : gM) : gMet E k_X4_copyFrom [.ref 2, .ref 27] M (gVoid fun M' => M' = gset (gset (gset (gset (gset M 3 (M 28)) 4 (M 29)) 5 (M 30)) 6 (M 31)) 2 (M 27)) := by
  refine gMet.of (by decide +kernel) rfl (Nat.le_of_ble_eq_true rfl) (fun X hX hR => ?_)
  refine g_aload_n (i := 1) hX dX4_copyFrom_0 rfl rfl rfl ?_
  refine g_getR hX fl_X4_9 rfl rfl dX4_copyFrom_1 rfl ?_
  refine g_aload_n (i := 0) hX dX4_copyFrom_4 rfl rfl rfl ?_
  refine g_getR hX fl_X4_9 rfl rfl dX4_copyFrom_5 rfl ?_
  refine g_callNv hX (c_X7_copyAllr E _ 28 3 _ _ _ rfl rfl rfl (M 28) rfl) kf_X7_copyAll rfl (List.mem_of_getElem? (i := 8) rfl) rfl rfl rfl rfl dX4_copyFrom_8 rfl (fun M8 h8 => ?_)
  subst h8
  refine g_aload_n (i := 1) hX dX4_copyFrom_11 rfl rfl rfl ?_
  refine g_getR hX fl_X4_15 rfl rfl dX4_copyFrom_12 rfl ?_
  refine g_aload_n (i := 0) hX dX4_copyFrom_15 rfl rfl rfl ?_
  refine g_getR hX fl_X4_15 rfl rfl dX4_copyFrom_16 rfl ?_
  refine g_callNv hX (c_X7_copyAllr E _ 29 4 _ _ _ rfl rfl rfl (M 29) rfl) kf_X7_copyAll rfl (List.mem_of_getElem? (i := 8) rfl) rfl rfl rfl rfl dX4_copyFrom_19 rfl (fun M19 h19 => ?_)
  subst h19
  refine g_aload_n (i := 1) hX dX4_copyFrom_22 rfl rfl rfl ?_
  refine g_getR hX fl_X4_18 rfl rfl dX4_copyFrom_23 rfl ?_
  refine g_aload_n (i := 0) hX dX4_copyFrom_26 rfl rfl rfl ?_
  refine g_getR hX fl_X4_18 rfl rfl dX4_copyFrom_27 rfl ?_
  refine g_callNv hX (c_X7_copyAllr E _ 30 5 _ _ _ rfl rfl rfl (M 30) rfl) kf_X7_copyAll rfl (List.mem_of_getElem? (i := 8) rfl) rfl rfl rfl rfl dX4_copyFrom_30 rfl (fun M30 h30 => ?_)
  subst h30
  refine g_aload_n (i := 1) hX dX4_copyFrom_33 rfl rfl rfl ?_
  refine g_getR hX fl_X4_21 rfl rfl dX4_copyFrom_34 rfl ?_
  refine g_aload_n (i := 0) hX dX4_copyFrom_37 rfl rfl rfl ?_
  refine g_getR hX fl_X4_21 rfl rfl dX4_copyFrom_38 rfl ?_
  refine g_callNv hX (c_X7_copyAllr E _ 31 6 _ _ _ rfl rfl rfl (M 31) rfl) kf_X7_copyAll rfl (List.mem_of_getElem? (i := 8) rfl) rfl rfl rfl rfl dX4_copyFrom_41 rfl (fun M41 h41 => ?_)
  subst h41
  refine g_aload_n (i := 0) hX dX4_copyFrom_44 rfl rfl rfl ?_
  refine g_aload_n (i := 1) hX dX4_copyFrom_45 rfl rfl rfl ?_
  refine g_getI hX fl_X4_28 rfl rfl dX4_copyFrom_46 rfl ?_
  refine g_putI hX fp_X4_28 rfl rfl dX4_copyFrom_49 rfl ?_
  refine gG_row (sh := _) (r' := M 27) rfl (gEq.obj (fun _ => rfl)) ?_
  refine g_vret hX hR dX4_copyFrom_52 ?_
  first | rfl | (simp only [gset_gset]; done) | (simp only [gset_gset]; rfl)
theorem c_X2_copyFrom_1_26 (E : gE) (M : gM) : gMet E k_X2_copyFrom [.ref 7, .ref 32] M (gVoid fun M' => M' = gset (gset (gset (gset (gset (gset (gset M 8 (M 33)) 9 (M 34)) 10 (M 35)) 11 (M 36)) 12 (M 37)) 13 (M 38)) 7 (M 32)) := by
  refine gMet.of (by decide +kernel) rfl (Nat.le_of_ble_eq_true rfl) (fun X hX hR => ?_)
  refine g_aload_n (i := 1) hX dX2_copyFrom_0 rfl rfl rfl ?_
  refine g_getR hX fl_X2_9 rfl rfl dX2_copyFrom_1 rfl ?_
  refine g_aload_n (i := 0) hX dX2_copyFrom_4 rfl rfl rfl ?_
  refine g_getR hX fl_X2_9 rfl rfl dX2_copyFrom_5 rfl ?_
  refine g_callNv hX (c_X7_copyAllr E _ 33 8 _ _ _ rfl rfl rfl (M 33) rfl) kf_X7_copyAll rfl (List.mem_of_getElem? (i := 9) rfl) rfl rfl rfl rfl dX2_copyFrom_8 rfl (fun M8 h8 => ?_)
  subst h8
  refine g_aload_n (i := 1) hX dX2_copyFrom_11 rfl rfl rfl ?_
  refine g_getR hX fl_X2_15 rfl rfl dX2_copyFrom_12 rfl ?_
  refine g_aload_n (i := 0) hX dX2_copyFrom_15 rfl rfl rfl ?_
  refine g_getR hX fl_X2_15 rfl rfl dX2_copyFrom_16 rfl ?_
  refine g_callNv hX (c_X7_copyAllr E _ 34 9 _ _ _ rfl rfl rfl (M 34) rfl) kf_X7_copyAll rfl (List.mem_of_getElem? (i := 9) rfl) rfl rfl rfl rfl dX2_copyFrom_19 rfl (fun M19 h19 => ?_)
  subst h19
  refine g_aload_n (i := 1) hX dX2_copyFrom_22 rfl rfl rfl ?_
  refine g_getR hX fl_X2_18 rfl rfl dX2_copyFrom_23 rfl ?_
  refine g_aload_n (i := 0) hX dX2_copyFrom_26 rfl rfl rfl ?_
  refine g_getR hX fl_X2_18 rfl rfl dX2_copyFrom_27 rfl ?_
  refine g_callNv hX (c_X7_copyAllr E _ 35 10 _ _ _ rfl rfl rfl (M 35) rfl) kf_X7_copyAll rfl (List.mem_of_getElem? (i := 9) rfl) rfl rfl rfl rfl dX2_copyFrom_30 rfl (fun M30 h30 => ?_)
  subst h30
  refine g_aload_n (i := 1) hX dX2_copyFrom_33 rfl rfl rfl ?_
  refine g_getR hX fl_X2_21 rfl rfl dX2_copyFrom_34 rfl ?_
  refine g_aload_n (i := 0) hX dX2_copyFrom_37 rfl rfl rfl ?_
  refine g_getR hX fl_X2_21 rfl rfl dX2_copyFrom_38 rfl ?_
  refine g_callNv hX (c_X7_copyAllr E _ 36 11 _ _ _ rfl rfl rfl (M 36) rfl) kf_X7_copyAll rfl (List.mem_of_getElem? (i := 9) rfl) rfl rfl rfl rfl dX2_copyFrom_41 rfl (fun M41 h41 => ?_)
  subst h41
  refine g_aload_n (i := 1) hX dX2_copyFrom_44 rfl rfl rfl ?_
  refine g_getR hX fl_X2_24 rfl rfl dX2_copyFrom_45 rfl ?_
  refine g_aload_n (i := 0) hX dX2_copyFrom_48 rfl rfl rfl ?_
  refine g_getR hX fl_X2_24 rfl rfl dX2_copyFrom_49 rfl ?_
  refine g_callNv hX (c_X7_copyAllr E _ 37 12 _ _ _ rfl rfl rfl (M 37) rfl) kf_X7_copyAll rfl (List.mem_of_getElem? (i := 9) rfl) rfl rfl rfl rfl dX2_copyFrom_52 rfl (fun M52 h52 => ?_)
  subst h52
  refine g_aload_n (i := 1) hX dX2_copyFrom_55 rfl rfl rfl ?_
  refine g_getR hX fl_X2_27 rfl rfl dX2_copyFrom_56 rfl ?_
  refine g_aload_n (i := 0) hX dX2_copyFrom_59 rfl rfl rfl ?_
  refine g_getR hX fl_X2_27 rfl rfl dX2_copyFrom_60 rfl ?_
  refine g_callNv hX (c_X7_copyAllr E _ 38 13 _ _ _ rfl rfl rfl (M 38) rfl) kf_X7_copyAll rfl (List.mem_of_getElem? (i := 9) rfl) rfl rfl rfl rfl dX2_copyFrom_63 rfl (fun M63 h63 => ?_)
  subst h63
  refine g_aload_n (i := 0) hX dX2_copyFrom_66 rfl rfl rfl ?_
  refine g_aload_n (i := 1) hX dX2_copyFrom_67 rfl rfl rfl ?_
  refine g_getI hX fl_X2_38 rfl rfl dX2_copyFrom_68 rfl ?_
  refine g_putI hX fp_X2_38 rfl rfl dX2_copyFrom_71 rfl ?_
  refine g_aload_n (i := 0) hX dX2_copyFrom_74 rfl rfl rfl ?_
  refine g_aload_n (i := 1) hX dX2_copyFrom_75 rfl rfl rfl ?_
  refine g_getI hX fl_X2_30 rfl rfl dX2_copyFrom_76 rfl ?_
  refine g_putI hX fp_X2_30 rfl rfl dX2_copyFrom_79 rfl ?_
  refine gG_row (sh := _) (r' := M 32) rfl (gEq.obj (fun _ => rfl)) ?_
  refine g_vret hX hR dX2_copyFrom_82 ?_
  first | rfl | (simp only [gset_gset]; done) | (simp only [gset_gset]; rfl)
theorem c_X0_copyFrom_1_26 (E : gE) (M : gM) (hz1 : M 39 1 = 0 ∨ M 39 1 = 1) (hz2 : M 39 2 = 0 ∨ M 39 2 = 1) : gMet E k_X0_copyFrom [.ref 14, .ref 39] M (gVoid fun M' => M' = gset (gset M 15 (M 40)) 14 (M 39)) := by
  refine gMet.of (by decide +kernel) rfl (Nat.le_of_ble_eq_true rfl) (fun X hX hR => ?_)
  refine g_aload_n (i := 1) hX dX0_copyFrom_0 rfl rfl rfl ?_
  refine g_getR hX fl_X0_9 rfl rfl dX0_copyFrom_1 rfl ?_
  refine g_aload_n (i := 0) hX dX0_copyFrom_4 rfl rfl rfl ?_
  refine g_getR hX fl_X0_9 rfl rfl dX0_copyFrom_5 rfl ?_
  refine g_callNv hX (c_X7_copyAllr E _ 40 15 _ _ _ rfl rfl rfl (M 40) rfl) kf_X7_copyAll rfl (List.mem_of_getElem? (i := 10) rfl) rfl rfl rfl rfl dX0_copyFrom_8 rfl (fun M8 h8 => ?_)
  subst h8
  refine g_aload_n (i := 0) hX dX0_copyFrom_11 rfl rfl rfl ?_
  refine g_aload_n (i := 1) hX dX0_copyFrom_12 rfl rfl rfl ?_
  refine g_getI hX fl_X0_19 rfl rfl dX0_copyFrom_13 rfl ?_
  refine g_putZ hX fp_X0_19 rfl rfl (hz1) dX0_copyFrom_16 rfl ?_
  refine g_aload_n (i := 0) hX dX0_copyFrom_19 rfl rfl rfl ?_
  refine g_aload_n (i := 1) hX dX0_copyFrom_20 rfl rfl rfl ?_
  refine g_getI hX fl_X0_23 rfl rfl dX0_copyFrom_21 rfl ?_
  refine g_putZ hX fp_X0_23 rfl rfl (hz2) dX0_copyFrom_24 rfl ?_
  refine g_aload_n (i := 0) hX dX0_copyFrom_27 rfl rfl rfl ?_
  refine g_aload_n (i := 1) hX dX0_copyFrom_28 rfl rfl rfl ?_
  refine g_getI hX fl_X0_26 rfl rfl dX0_copyFrom_29 rfl ?_
  refine g_putI hX fp_X0_26 rfl rfl dX0_copyFrom_32 rfl ?_
  refine g_aload_n (i := 0) hX dX0_copyFrom_35 rfl rfl rfl ?_
  refine g_aload_n (i := 1) hX dX0_copyFrom_36 rfl rfl rfl ?_
  refine g_getI hX fl_X0_30 rfl rfl dX0_copyFrom_37 rfl ?_
  refine g_putI hX fp_X0_30 rfl rfl dX0_copyFrom_40 rfl ?_
  refine gG_row (sh := _) (r' := M 39) rfl (gEq.obj (fun _ => rfl)) ?_
  refine g_vret hX hR dX0_copyFrom_43 ?_
  first | rfl | (simp only [gset_gset]; done) | (simp only [gset_gset]; rfl)
theorem c_X1_copyFrom_1_26 (E : gE) (M : gM) : gMet E k_X1_copyFrom [.ref 16, .ref 41] M (gVoid fun M' => M' = gset (gset (gset (gset (gset (gset (gset (gset (gset M 17 (M 42)) 18 (M 43)) 19 (M 44)) 20 (M 45)) 21 (M 46)) 22 (M 47)) 23 (M 48)) 24 (M 49)) 16 (M 41)) := by
  refine gMet.of (by decide +kernel) rfl (Nat.le_of_ble_eq_true rfl) (fun X hX hR => ?_)
  refine g_aload_n (i := 1) hX dX1_copyFrom_0 rfl rfl rfl ?_
  refine g_getR hX fl_X1_9 rfl rfl dX1_copyFrom_1 rfl ?_
  refine g_aload_n (i := 0) hX dX1_copyFrom_4 rfl rfl rfl ?_
  refine g_getR hX fl_X1_9 rfl rfl dX1_copyFrom_5 rfl ?_
  refine g_callNv hX (c_X7_copyAllr E _ 42 17 _ _ _ rfl rfl rfl (M 42) rfl) kf_X7_copyAll rfl (List.mem_of_getElem? (i := 11) rfl) rfl rfl rfl rfl dX1_copyFrom_8 rfl (fun M8 h8 => ?_)
  subst h8
  refine g_aload_n (i := 1) hX dX1_copyFrom_11 rfl rfl rfl ?_
  refine g_getR hX fl_X1_15 rfl rfl dX1_copyFrom_12 rfl ?_
  refine g_aload_n (i := 0) hX dX1_copyFrom_15 rfl rfl rfl ?_
  refine g_getR hX fl_X1_15 rfl rfl dX1_copyFrom_16 rfl ?_
  refine g_callNv hX (c_X7_copyAllr E _ 43 18 _ _ _ rfl rfl rfl (M 43) rfl) kf_X7_copyAll rfl (List.mem_of_getElem? (i := 11) rfl) rfl rfl rfl rfl dX1_copyFrom_19 rfl (fun M19 h19 => ?_)
  subst h19
  refine g_aload_n (i := 1) hX dX1_copyFrom_22 rfl rfl rfl ?_
  refine g_getR hX fl_X1_18 rfl rfl dX1_copyFrom_23 rfl ?_
  refine g_aload_n (i := 0) hX dX1_copyFrom_26 rfl rfl rfl ?_
  refine g_getR hX fl_X1_18 rfl rfl dX1_copyFrom_27 rfl ?_
  refine g_callNv hX (c_X7_copyAllr E _ 44 19 _ _ _ rfl rfl rfl (M 44) rfl) kf_X7_copyAll rfl (List.mem_of_getElem? (i := 11) rfl) rfl rfl rfl rfl dX1_copyFrom_30 rfl (fun M30 h30 => ?_)
  subst h30
  refine g_aload_n (i := 1) hX dX1_copyFrom_33 rfl rfl rfl ?_
  refine g_getR hX fl_X1_21 rfl rfl dX1_copyFrom_34 rfl ?_
  refine g_aload_n (i := 0) hX dX1_copyFrom_37 rfl rfl rfl ?_
  refine g_getR hX fl_X1_21 rfl rfl dX1_copyFrom_38 rfl ?_
  refine g_callNv hX (c_X7_copyAllr E _ 45 20 _ _ _ rfl rfl rfl (M 45) rfl) kf_X7_copyAll rfl (List.mem_of_getElem? (i := 11) rfl) rfl rfl rfl rfl dX1_copyFrom_41 rfl (fun M41 h41 => ?_)
  subst h41
  refine g_aload_n (i := 1) hX dX1_copyFrom_44 rfl rfl rfl ?_
  refine g_getR hX fl_X1_24 rfl rfl dX1_copyFrom_45 rfl ?_
  refine g_aload_n (i := 0) hX dX1_copyFrom_48 rfl rfl rfl ?_
  refine g_getR hX fl_X1_24 rfl rfl dX1_copyFrom_49 rfl ?_
  refine g_callNv hX (c_X7_copyAllr E _ 46 21 _ _ _ rfl rfl rfl (M 46) rfl) kf_X7_copyAll rfl (List.mem_of_getElem? (i := 11) rfl) rfl rfl rfl rfl dX1_copyFrom_52 rfl (fun M52 h52 => ?_)
  subst h52
  refine g_aload_n (i := 1) hX dX1_copyFrom_55 rfl rfl rfl ?_
  refine g_getR hX fl_X1_27 rfl rfl dX1_copyFrom_56 rfl ?_
  refine g_aload_n (i := 0) hX dX1_copyFrom_59 rfl rfl rfl ?_
  refine g_getR hX fl_X1_27 rfl rfl dX1_copyFrom_60 rfl ?_
  refine g_callNv hX (c_X7_copyAllr E _ 47 22 _ _ _ rfl rfl rfl (M 47) rfl) kf_X7_copyAll rfl (List.mem_of_getElem? (i := 11) rfl) rfl rfl rfl rfl dX1_copyFrom_63 rfl (fun M63 h63 => ?_)
  subst h63
  refine g_aload_n (i := 1) hX dX1_copyFrom_66 rfl rfl rfl ?_
  refine g_getR hX fl_X1_30 rfl rfl dX1_copyFrom_67 rfl ?_
  refine g_aload_n (i := 0) hX dX1_copyFrom_70 rfl rfl rfl ?_
  refine g_getR hX fl_X1_30 rfl rfl dX1_copyFrom_71 rfl ?_
  refine g_callNv hX (c_X7_copyAllr E _ 48 23 _ _ _ rfl rfl rfl (M 48) rfl) kf_X7_copyAll rfl (List.mem_of_getElem? (i := 11) rfl) rfl rfl rfl rfl dX1_copyFrom_74 rfl (fun M74 h74 => ?_)
  subst h74
  refine g_aload_n (i := 1) hX dX1_copyFrom_77 rfl rfl rfl ?_
  refine g_getR hX fl_X1_33 rfl rfl dX1_copyFrom_78 rfl ?_
  refine g_aload_n (i := 0) hX dX1_copyFrom_81 rfl rfl rfl ?_
  refine g_getR hX fl_X1_33 rfl rfl dX1_copyFrom_82 rfl ?_
  refine g_callNv hX (c_X7_copyAllr E _ 49 24 _ _ _ rfl rfl rfl (M 49) rfl) kf_X7_copyAll rfl (List.mem_of_getElem? (i := 11) rfl) rfl rfl rfl rfl dX1_copyFrom_85 rfl (fun M85 h85 => ?_)
  subst h85
  refine g_aload_n (i := 0) hX dX1_copyFrom_88 rfl rfl rfl ?_
  refine g_aload_n (i := 1) hX dX1_copyFrom_89 rfl rfl rfl ?_
  refine g_getI hX fl_X1_40 rfl rfl dX1_copyFrom_90 rfl ?_
  refine g_putI hX fp_X1_40 rfl rfl dX1_copyFrom_93 rfl ?_
  refine g_aload_n (i := 0) hX dX1_copyFrom_96 rfl rfl rfl ?_
  refine g_aload_n (i := 1) hX dX1_copyFrom_97 rfl rfl rfl ?_
  refine g_getI hX fl_X1_44 rfl rfl dX1_copyFrom_98 rfl ?_
  refine g_putI hX fp_X1_44 rfl rfl dX1_copyFrom_101 rfl ?_
  refine gG_row (sh := _) (r' := M 41) rfl (gEq.obj (fun _ => rfl)) ?_
  refine g_vret hX hR dX1_copyFrom_104 ?_
  first | rfl | (simp only [gset_gset]; done) | (simp only [gset_gset]; rfl)
theorem c_X5_copyFrom_1_26 (E : gE) (M : gM) (hz1 : M 39 1 = 0 ∨ M 39 1 = 1) (hz2 : M 39 2 = 0 ∨ M 39 2 = 1) : gMet E k_X5_copyFrom [.ref 1, .ref 26] M (gVoid fun M' => M' = cpS M 1 26) := by
  refine gMet.of (by decide +kernel) rfl (Nat.le_of_ble_eq_true rfl) (fun X hX hR => ?_)
  refine g_aload_n (i := 0) hX dX5_copyFrom_0 rfl rfl rfl ?_
  refine g_getR hX fl_X5_12 rfl rfl dX5_copyFrom_1 rfl ?_
  refine g_aload_n (i := 1) hX dX5_copyFrom_4 rfl rfl rfl ?_
  refine g_getR hX fl_X5_12 rfl rfl dX5_copyFrom_5 rfl ?_
  refine g_callVv hX (c_X4_copyFrom_1_26 E _) kf_X4_copyFrom rfl wk_X5_51 rfl rfl rfl rfl rfl dX5_copyFrom_8 rfl (fun M8 h8 => ?_)
  subst h8
  refine g_aload_n (i := 0) hX dX5_copyFrom_11 rfl rfl rfl ?_
  refine g_getR hX fl_X5_21 rfl rfl dX5_copyFrom_12 rfl ?_
  refine g_aload_n (i := 1) hX dX5_copyFrom_15 rfl rfl rfl ?_
  refine g_getR hX fl_X5_21 rfl rfl dX5_copyFrom_16 rfl ?_
  refine g_callVv hX (c_X2_copyFrom_1_26 E _) kf_X2_copyFrom rfl wk_X5_55 rfl rfl rfl rfl rfl dX5_copyFrom_19 rfl (fun M19 h19 => ?_)
  subst h19
  refine g_aload_n (i := 0) hX dX5_copyFrom_22 rfl rfl rfl ?_
  refine g_getR hX fl_X5_28 rfl rfl dX5_copyFrom_23 rfl ?_
  refine g_aload_n (i := 1) hX dX5_copyFrom_26 rfl rfl rfl ?_
  refine g_getR hX fl_X5_28 rfl rfl dX5_copyFrom_27 rfl ?_
  refine g_callVv hX (c_X0_copyFrom_1_26 E _ hz1 hz2) kf_X0_copyFrom rfl wk_X5_58 rfl rfl rfl rfl rfl dX5_copyFrom_30 rfl (fun M30 h30 => ?_)
  subst h30
  refine g_aload_n (i := 0) hX dX5_copyFrom_33 rfl rfl rfl ?_
  refine g_getR hX fl_X5_35 rfl rfl dX5_copyFrom_34 rfl ?_
  refine g_aload_n (i := 1) hX dX5_copyFrom_37 rfl rfl rfl ?_
  refine g_getR hX fl_X5_35 rfl rfl dX5_copyFrom_38 rfl ?_
  refine g_callVv hX (c_X1_copyFrom_1_26 E _) kf_X1_copyFrom rfl wk_X5_61 rfl rfl rfl rfl rfl dX5_copyFrom_41 rfl (fun M41 h41 => ?_)
  subst h41
  refine g_aload_n (i := 1) hX dX5_copyFrom_44 rfl rfl rfl ?_
  refine g_getR hX fl_X5_48 rfl rfl dX5_copyFrom_45 rfl ?_
  refine g_aload_n (i := 0) hX dX5_copyFrom_48 rfl rfl rfl ?_
  refine g_getR hX fl_X5_48 rfl rfl dX5_copyFrom_49 rfl ?_
  refine g_callNv hX (c_X7_copyAllr E _ 50 25 _ _ _ rfl rfl rfl (M 50) rfl) kf_X7_copyAll rfl (List.mem_of_getElem? (i := 12) rfl) rfl rfl rfl rfl dX5_copyFrom_52 rfl (fun M52 h52 => ?_)
  subst h52
  refine g_aload_n (i := 0) hX dX5_copyFrom_55 rfl rfl rfl ?_
  refine g_aload_n (i := 1) hX dX5_copyFrom_56 rfl rfl rfl ?_
  refine g_getI hX fl_X5_68 rfl rfl dX5_copyFrom_57 rfl ?_
  refine g_putI hX fp_X5_68 rfl rfl dX5_copyFrom_60 rfl ?_
  refine gG_row (sh := _) (r' := M 26) rfl (gEq.obj (fun _ => rfl)) ?_
  refine g_vret hX hR dX5_copyFrom_63 ?_
  funext b
  by_cases hb : 1 ≤ b ∧ b < 26
  · have : b = 1 ∨ b = 2 ∨ b = 3 ∨ b = 4 ∨ b = 5 ∨ b = 6 ∨ b = 7 ∨ b = 8 ∨ b = 9 ∨ b = 10 ∨ b = 11 ∨ b = 12 ∨ b = 13 ∨ b = 14 ∨ b = 15 ∨ b = 16 ∨ b = 17 ∨ b = 18 ∨ b = 19 ∨ b = 20 ∨ b = 21 ∨ b = 22 ∨ b = 23 ∨ b = 24 ∨ b = 25 := by omega
    rcases this with rfl | rfl | rfl | rfl | rfl | rfl | rfl | rfl | rfl | rfl | rfl | rfl | rfl | rfl | rfl | rfl | rfl | rfl | rfl | rfl | rfl | rfl | rfl | rfl | rfl <;> rfl
  · simp only [cpS, if_neg hb, gset]
    rw [if_neg (show ¬ b = 1 by omega), if_neg (show ¬ b = 25 by omega), if_neg (show ¬ b = 16 by omega), if_neg (show ¬ b = 24 by omega), if_neg (show ¬ b = 23 by omega), if_neg (show ¬ b = 22 by omega), if_neg (show ¬ b = 21 by omega), if_neg (show ¬ b = 20 by omega), if_neg (show ¬ b = 19 by omega), if_neg (show ¬ b = 18 by omega), if_neg (show ¬ b = 17 by omega), if_neg (show ¬ b = 14 by omega), if_neg (show ¬ b = 15 by omega), if_neg (show ¬ b = 7 by omega), if_neg (show ¬ b = 13 by omega), if_neg (show ¬ b = 12 by omega), if_neg (show ¬ b = 11 by omega), if_neg (show ¬ b = 10 by omega), if_neg (show ¬ b = 9 by omega), if_neg (show ¬ b = 8 by omega), if_neg (show ¬ b = 2 by omega), if_neg (show ¬ b = 6 by omega), if_neg (show ¬ b = 5 by omega), if_neg (show ¬ b = 4 by omega), if_neg (show ¬ b = 3 by omega)]
theorem c_X4_copyFrom_1_51 (E : gE) (M : gM) : gMet E k_X4_copyFrom [.ref 2, .ref 52] M (gVoid fun M' => M' = gset (gset (gset (gset (gset M 3 (M 53)) 4 (M 54)) 5 (M 55)) 6 (M 56)) 2 (M 52)) := by
  refine gMet.of (by decide +kernel) rfl (Nat.le_of_ble_eq_true rfl) (fun X hX hR => ?_)
  refine g_aload_n (i := 1) hX dX4_copyFrom_0 rfl rfl rfl ?_
  refine g_getR hX fl_X4_9 rfl rfl dX4_copyFrom_1 rfl ?_
  refine g_aload_n (i := 0) hX dX4_copyFrom_4 rfl rfl rfl ?_
  refine g_getR hX fl_X4_9 rfl rfl dX4_copyFrom_5 rfl ?_
  refine g_callNv hX (c_X7_copyAllr E _ 53 3 _ _ _ rfl rfl rfl (M 53) rfl) kf_X7_copyAll rfl (List.mem_of_getElem? (i := 8) rfl) rfl rfl rfl rfl dX4_copyFrom_8 rfl (fun M8 h8 => ?_)
  subst h8
  refine g_aload_n (i := 1) hX dX4_copyFrom_11 rfl rfl rfl ?_
  refine g_getR hX fl_X4_15 rfl rfl dX4_copyFrom_12 rfl ?_
  refine g_aload_n (i := 0) hX dX4_copyFrom_15 rfl rfl rfl ?_
  refine g_getR hX fl_X4_15 rfl rfl dX4_copyFrom_16 rfl ?_
  refine g_callNv hX (c_X7_copyAllr E _ 54 4 _ _ _ rfl rfl rfl (M 54) rfl) kf_X7_copyAll rfl (List.mem_of_getElem? (i := 8) rfl) rfl rfl rfl rfl dX4_copyFrom_19 rfl (fun M19 h19 => ?_)
  subst h19
  refine g_aload_n (i := 1) hX dX4_copyFrom_22 rfl rfl rfl ?_
  refine g_getR hX fl_X4_18 rfl rfl dX4_copyFrom_23 rfl ?_
  refine g_aload_n (i := 0) hX dX4_copyFrom_26 rfl rfl rfl ?_
  refine g_getR hX fl_X4_18 rfl rfl dX4_copyFrom_27 rfl ?_
  refine g_callNv hX (c_X7_copyAllr E _ 55 5 _ _ _ rfl rfl rfl (M 55) rfl) kf_X7_copyAll rfl (List.mem_of_getElem? (i := 8) rfl) rfl rfl rfl rfl dX4_copyFrom_30 rfl (fun M30 h30 => ?_)
  subst h30
  refine g_aload_n (i := 1) hX dX4_copyFrom_33 rfl rfl rfl ?_
  refine g_getR hX fl_X4_21 rfl rfl dX4_copyFrom_34 rfl ?_
  refine g_aload_n (i := 0) hX dX4_copyFrom_37 rfl rfl rfl ?_
  refine g_getR hX fl_X4_21 rfl rfl dX4_copyFrom_38 rfl ?_
  refine g_callNv hX (c_X7_copyAllr E _ 56 6 _ _ _ rfl rfl rfl (M 56) rfl) kf_X7_copyAll rfl (List.mem_of_getElem? (i := 8) rfl) rfl rfl rfl rfl dX4_copyFrom_41 rfl (fun M41 h41 => ?_)
  subst h41
  refine g_aload_n (i := 0) hX dX4_copyFrom_44 rfl rfl rfl ?_
  refine g_aload_n (i := 1) hX dX4_copyFrom_45 rfl rfl rfl ?_
  refine g_getI hX fl_X4_28 rfl rfl dX4_copyFrom_46 rfl ?_
  refine g_putI hX fp_X4_28 rfl rfl dX4_copyFrom_49 rfl ?_
  refine gG_row (sh := _) (r' := M 52) rfl (gEq.obj (fun _ => rfl)) ?_
  refine g_vret hX hR dX4_copyFrom_52 ?_
  first | rfl | (simp only [gset_gset]; done) | (simp only [gset_gset]; rfl)
theorem c_X2_copyFrom_1_51 (E : gE) (M : gM) : gMet E k_X2_copyFrom [.ref 7, .ref 57] M (gVoid fun M' => M' = gset (gset (gset (gset (gset (gset (gset M 8 (M 58)) 9 (M 59)) 10 (M 60)) 11 (M 61)) 12 (M 62)) 13 (M 63)) 7 (M 57)) := by
  refine gMet.of (by decide +kernel) rfl (Nat.le_of_ble_eq_true rfl) (fun X hX hR => ?_)
  refine g_aload_n (i := 1) hX dX2_copyFrom_0 rfl rfl rfl ?_
  refine g_getR hX fl_X2_9 rfl rfl dX2_copyFrom_1 rfl ?_
  refine g_aload_n (i := 0) hX dX2_copyFrom_4 rfl rfl rfl ?_
  refine g_getR hX fl_X2_9 rfl rfl dX2_copyFrom_5 rfl ?_
  refine g_callNv hX (c_X7_copyAllr E _ 58 8 _ _ _ rfl rfl rfl (M 58) rfl) kf_X7_copyAll rfl (List.mem_of_getElem? (i := 9) rfl) rfl rfl rfl rfl dX2_copyFrom_8 rfl (fun M8 h8 => ?_)
  subst h8
  refine g_aload_n (i := 1) hX dX2_copyFrom_11 rfl rfl rfl ?_
  refine g_getR hX fl_X2_15 rfl rfl dX2_copyFrom_12 rfl ?_
  refine g_aload_n (i := 0) hX dX2_copyFrom_15 rfl rfl rfl ?_
  refine g_getR hX fl_X2_15 rfl rfl dX2_copyFrom_16 rfl ?_
  refine g_callNv hX (c_X7_copyAllr E _ 59 9 _ _ _ rfl rfl rfl (M 59) rfl) kf_X7_copyAll rfl (List.mem_of_getElem? (i := 9) rfl) rfl rfl rfl rfl dX2_copyFrom_19 rfl (fun M19 h19 => ?_)
  subst h19
  refine g_aload_n (i := 1) hX dX2_copyFrom_22 rfl rfl rfl ?_
  refine g_getR hX fl_X2_18 rfl rfl dX2_copyFrom_23 rfl ?_
  refine g_aload_n (i := 0) hX dX2_copyFrom_26 rfl rfl rfl ?_
  refine g_getR hX fl_X2_18 rfl rfl dX2_copyFrom_27 rfl ?_
  refine g_callNv hX (c_X7_copyAllr E _ 60 10 _ _ _ rfl rfl rfl (M 60) rfl) kf_X7_copyAll rfl (List.mem_of_getElem? (i := 9) rfl) rfl rfl rfl rfl dX2_copyFrom_30 rfl (fun M30 h30 => ?_)
  subst h30
  refine g_aload_n (i := 1) hX dX2_copyFrom_33 rfl rfl rfl ?_
  refine g_getR hX fl_X2_21 rfl rfl dX2_copyFrom_34 rfl ?_
  refine g_aload_n (i := 0) hX dX2_copyFrom_37 rfl rfl rfl ?_
  refine g_getR hX fl_X2_21 rfl rfl dX2_copyFrom_38 rfl ?_
  refine g_callNv hX (c_X7_copyAllr E _ 61 11 _ _ _ rfl rfl rfl (M 61) rfl) kf_X7_copyAll rfl (List.mem_of_getElem? (i := 9) rfl) rfl rfl rfl rfl dX2_copyFrom_41 rfl (fun M41 h41 => ?_)
  subst h41
  refine g_aload_n (i := 1) hX dX2_copyFrom_44 rfl rfl rfl ?_
  refine g_getR hX fl_X2_24 rfl rfl dX2_copyFrom_45 rfl ?_
  refine g_aload_n (i := 0) hX dX2_copyFrom_48 rfl rfl rfl ?_
  refine g_getR hX fl_X2_24 rfl rfl dX2_copyFrom_49 rfl ?_
  refine g_callNv hX (c_X7_copyAllr E _ 62 12 _ _ _ rfl rfl rfl (M 62) rfl) kf_X7_copyAll rfl (List.mem_of_getElem? (i := 9) rfl) rfl rfl rfl rfl dX2_copyFrom_52 rfl (fun M52 h52 => ?_)
  subst h52
  refine g_aload_n (i := 1) hX dX2_copyFrom_55 rfl rfl rfl ?_
  refine g_getR hX fl_X2_27 rfl rfl dX2_copyFrom_56 rfl ?_
  refine g_aload_n (i := 0) hX dX2_copyFrom_59 rfl rfl rfl ?_
  refine g_getR hX fl_X2_27 rfl rfl dX2_copyFrom_60 rfl ?_
  refine g_callNv hX (c_X7_copyAllr E _ 63 13 _ _ _ rfl rfl rfl (M 63) rfl) kf_X7_copyAll rfl (List.mem_of_getElem? (i := 9) rfl) rfl rfl rfl rfl dX2_copyFrom_63 rfl (fun M63 h63 => ?_)
  subst h63
  refine g_aload_n (i := 0) hX dX2_copyFrom_66 rfl rfl rfl ?_
  refine g_aload_n (i := 1) hX dX2_copyFrom_67 rfl rfl rfl ?_
  refine g_getI hX fl_X2_38 rfl rfl dX2_copyFrom_68 rfl ?_
  refine g_putI hX fp_X2_38 rfl rfl dX2_copyFrom_71 rfl ?_
  refine g_aload_n (i := 0) hX dX2_copyFrom_74 rfl rfl rfl ?_
  refine g_aload_n (i := 1) hX dX2_copyFrom_75 rfl rfl rfl ?_
  refine g_getI hX fl_X2_30 rfl rfl dX2_copyFrom_76 rfl ?_
  refine g_putI hX fp_X2_30 rfl rfl dX2_copyFrom_79 rfl ?_
  refine gG_row (sh := _) (r' := M 57) rfl (gEq.obj (fun _ => rfl)) ?_
  refine g_vret hX hR dX2_copyFrom_82 ?_
  first | rfl | (simp only [gset_gset]; done) | (simp only [gset_gset]; rfl)
theorem c_X0_copyFrom_1_51 (E : gE) (M : gM) (hz1 : M 64 1 = 0 ∨ M 64 1 = 1) (hz2 : M 64 2 = 0 ∨ M 64 2 = 1) : gMet E k_X0_copyFrom [.ref 14, .ref 64] M (gVoid fun M' => M' = gset (gset M 15 (M 65)) 14 (M 64)) := by
  refine gMet.of (by decide +kernel) rfl (Nat.le_of_ble_eq_true rfl) (fun X hX hR => ?_)
  refine g_aload_n (i := 1) hX dX0_copyFrom_0 rfl rfl rfl ?_
  refine g_getR hX fl_X0_9 rfl rfl dX0_copyFrom_1 rfl ?_
  refine g_aload_n (i := 0) hX dX0_copyFrom_4 rfl rfl rfl ?_
  refine g_getR hX fl_X0_9 rfl rfl dX0_copyFrom_5 rfl ?_
  refine g_callNv hX (c_X7_copyAllr E _ 65 15 _ _ _ rfl rfl rfl (M 65) rfl) kf_X7_copyAll rfl (List.mem_of_getElem? (i := 10) rfl) rfl rfl rfl rfl dX0_copyFrom_8 rfl (fun M8 h8 => ?_)
  subst h8
  refine g_aload_n (i := 0) hX dX0_copyFrom_11 rfl rfl rfl ?_
  refine g_aload_n (i := 1) hX dX0_copyFrom_12 rfl rfl rfl ?_
  refine g_getI hX fl_X0_19 rfl rfl dX0_copyFrom_13 rfl ?_
  refine g_putZ hX fp_X0_19 rfl rfl (hz1) dX0_copyFrom_16 rfl ?_
  refine g_aload_n (i := 0) hX dX0_copyFrom_19 rfl rfl rfl ?_
  refine g_aload_n (i := 1) hX dX0_copyFrom_20 rfl rfl rfl ?_
  refine g_getI hX fl_X0_23 rfl rfl dX0_copyFrom_21 rfl ?_
  refine g_putZ hX fp_X0_23 rfl rfl (hz2) dX0_copyFrom_24 rfl ?_
  refine g_aload_n (i := 0) hX dX0_copyFrom_27 rfl rfl rfl ?_
  refine g_aload_n (i := 1) hX dX0_copyFrom_28 rfl rfl rfl ?_
  refine g_getI hX fl_X0_26 rfl rfl dX0_copyFrom_29 rfl ?_
  refine g_putI hX fp_X0_26 rfl rfl dX0_copyFrom_32 rfl ?_
  refine g_aload_n (i := 0) hX dX0_copyFrom_35 rfl rfl rfl ?_
  refine g_aload_n (i := 1) hX dX0_copyFrom_36 rfl rfl rfl ?_
  refine g_getI hX fl_X0_30 rfl rfl dX0_copyFrom_37 rfl ?_
  refine g_putI hX fp_X0_30 rfl rfl dX0_copyFrom_40 rfl ?_
  refine gG_row (sh := _) (r' := M 64) rfl (gEq.obj (fun _ => rfl)) ?_
  refine g_vret hX hR dX0_copyFrom_43 ?_
  first | rfl | (simp only [gset_gset]; done) | (simp only [gset_gset]; rfl)
theorem c_X1_copyFrom_1_51 (E : gE) (M : gM) : gMet E k_X1_copyFrom [.ref 16, .ref 66] M (gVoid fun M' => M' = gset (gset (gset (gset (gset (gset (gset (gset (gset M 17 (M 67)) 18 (M 68)) 19 (M 69)) 20 (M 70)) 21 (M 71)) 22 (M 72)) 23 (M 73)) 24 (M 74)) 16 (M 66)) := by
  refine gMet.of (by decide +kernel) rfl (Nat.le_of_ble_eq_true rfl) (fun X hX hR => ?_)
  refine g_aload_n (i := 1) hX dX1_copyFrom_0 rfl rfl rfl ?_
  refine g_getR hX fl_X1_9 rfl rfl dX1_copyFrom_1 rfl ?_
  refine g_aload_n (i := 0) hX dX1_copyFrom_4 rfl rfl rfl ?_
  refine g_getR hX fl_X1_9 rfl rfl dX1_copyFrom_5 rfl ?_
  refine g_callNv hX (c_X7_copyAllr E _ 67 17 _ _ _ rfl rfl rfl (M 67) rfl) kf_X7_copyAll rfl (List.mem_of_getElem? (i := 11) rfl) rfl rfl rfl rfl dX1_copyFrom_8 rfl (fun M8 h8 => ?_)
  subst h8
  refine g_aload_n (i := 1) hX dX1_copyFrom_11 rfl rfl rfl ?_
  refine g_getR hX fl_X1_15 rfl rfl dX1_copyFrom_12 rfl ?_
  refine g_aload_n (i := 0) hX dX1_copyFrom_15 rfl rfl rfl ?_
  refine g_getR hX fl_X1_15 rfl rfl dX1_copyFrom_16 rfl ?_
  refine g_callNv hX (c_X7_copyAllr E _ 68 18 _ _ _ rfl rfl rfl (M 68) rfl) kf_X7_copyAll rfl (List.mem_of_getElem? (i := 11) rfl) rfl rfl rfl rfl dX1_copyFrom_19 rfl (fun M19 h19 => ?_)
  subst h19
  refine g_aload_n (i := 1) hX dX1_copyFrom_22 rfl rfl rfl ?_
  refine g_getR hX fl_X1_18 rfl rfl dX1_copyFrom_23 rfl ?_
  refine g_aload_n (i := 0) hX dX1_copyFrom_26 rfl rfl rfl ?_
  refine g_getR hX fl_X1_18 rfl rfl dX1_copyFrom_27 rfl ?_
  refine g_callNv hX (c_X7_copyAllr E _ 69 19 _ _ _ rfl rfl rfl (M 69) rfl) kf_X7_copyAll rfl (List.mem_of_getElem? (i := 11) rfl) rfl rfl rfl rfl dX1_copyFrom_30 rfl (fun M30 h30 => ?_)
  subst h30
  refine g_aload_n (i := 1) hX dX1_copyFrom_33 rfl rfl rfl ?_
  refine g_getR hX fl_X1_21 rfl rfl dX1_copyFrom_34 rfl ?_
  refine g_aload_n (i := 0) hX dX1_copyFrom_37 rfl rfl rfl ?_
  refine g_getR hX fl_X1_21 rfl rfl dX1_copyFrom_38 rfl ?_
  refine g_callNv hX (c_X7_copyAllr E _ 70 20 _ _ _ rfl rfl rfl (M 70) rfl) kf_X7_copyAll rfl (List.mem_of_getElem? (i := 11) rfl) rfl rfl rfl rfl dX1_copyFrom_41 rfl (fun M41 h41 => ?_)
  subst h41
  refine g_aload_n (i := 1) hX dX1_copyFrom_44 rfl rfl rfl ?_
  refine g_getR hX fl_X1_24 rfl rfl dX1_copyFrom_45 rfl ?_
  refine g_aload_n (i := 0) hX dX1_copyFrom_48 rfl rfl rfl ?_
  refine g_getR hX fl_X1_24 rfl rfl dX1_copyFrom_49 rfl ?_
  refine g_callNv hX (c_X7_copyAllr E _ 71 21 _ _ _ rfl rfl rfl (M 71) rfl) kf_X7_copyAll rfl (List.mem_of_getElem? (i := 11) rfl) rfl rfl rfl rfl dX1_copyFrom_52 rfl (fun M52 h52 => ?_)
  subst h52
  refine g_aload_n (i := 1) hX dX1_copyFrom_55 rfl rfl rfl ?_
  refine g_getR hX fl_X1_27 rfl rfl dX1_copyFrom_56 rfl ?_
  refine g_aload_n (i := 0) hX dX1_copyFrom_59 rfl rfl rfl ?_
  refine g_getR hX fl_X1_27 rfl rfl dX1_copyFrom_60 rfl ?_
  refine g_callNv hX (c_X7_copyAllr E _ 72 22 _ _ _ rfl rfl rfl (M 72) rfl) kf_X7_copyAll rfl (List.mem_of_getElem? (i := 11) rfl) rfl rfl rfl rfl dX1_copyFrom_63 rfl (fun M63 h63 => ?_)
  subst h63
  refine g_aload_n (i := 1) hX dX1_copyFrom_66 rfl rfl rfl ?_
  refine g_getR hX fl_X1_30 rfl rfl dX1_copyFrom_67 rfl ?_
  refine g_aload_n (i := 0) hX dX1_copyFrom_70 rfl rfl rfl ?_
  refine g_getR hX fl_X1_30 rfl rfl dX1_copyFrom_71 rfl ?_
  refine g_callNv hX (c_X7_copyAllr E _ 73 23 _ _ _ rfl rfl rfl (M 73) rfl) kf_X7_copyAll rfl (List.mem_of_getElem? (i := 11) rfl) rfl rfl rfl rfl dX1_copyFrom_74 rfl (fun M74 h74 => ?_)
  subst h74
  refine g_aload_n (i := 1) hX dX1_copyFrom_77 rfl rfl rfl ?_
  refine g_getR hX fl_X1_33 rfl rfl dX1_copyFrom_78 rfl ?_
  refine g_aload_n (i := 0) hX dX1_copyFrom_81 rfl rfl rfl ?_
  refine g_getR hX fl_X1_33 rfl rfl dX1_copyFrom_82 rfl ?_
  refine g_callNv hX (c_X7_copyAllr E _ 74 24 _ _ _ rfl rfl rfl (M 74) rfl) kf_X7_copyAll rfl (List.mem_of_getElem? (i := 11) rfl) rfl rfl rfl rfl dX1_copyFrom_85 rfl (fun M85 h85 => ?_)
  subst h85
  refine g_aload_n (i := 0) hX dX1_copyFrom_88 rfl rfl rfl ?_
  refine g_aload_n (i := 1) hX dX1_copyFrom_89 rfl rfl rfl ?_
  refine g_getI hX fl_X1_40 rfl rfl dX1_copyFrom_90 rfl ?_
  refine g_putI hX fp_X1_40 rfl rfl dX1_copyFrom_93 rfl ?_
  refine g_aload_n (i := 0) hX dX1_copyFrom_96 rfl rfl rfl ?_
  refine g_aload_n (i := 1) hX dX1_copyFrom_97 rfl rfl rfl ?_
  refine g_getI hX fl_X1_44 rfl rfl dX1_copyFrom_98 rfl ?_
  refine g_putI hX fp_X1_44 rfl rfl dX1_copyFrom_101 rfl ?_
  refine gG_row (sh := _) (r' := M 66) rfl (gEq.obj (fun _ => rfl)) ?_
  refine g_vret hX hR dX1_copyFrom_104 ?_
  first | rfl | (simp only [gset_gset]; done) | (simp only [gset_gset]; rfl)
theorem c_X5_copyFrom_1_51 (E : gE) (M : gM) (hz1 : M 64 1 = 0 ∨ M 64 1 = 1) (hz2 : M 64 2 = 0 ∨ M 64 2 = 1) : gMet E k_X5_copyFrom [.ref 1, .ref 51] M (gVoid fun M' => M' = cpS M 1 51) := by
  refine gMet.of (by decide +kernel) rfl (Nat.le_of_ble_eq_true rfl) (fun X hX hR => ?_)
  refine g_aload_n (i := 0) hX dX5_copyFrom_0 rfl rfl rfl ?_
  refine g_getR hX fl_X5_12 rfl rfl dX5_copyFrom_1 rfl ?_
  refine g_aload_n (i := 1) hX dX5_copyFrom_4 rfl rfl rfl ?_
  refine g_getR hX fl_X5_12 rfl rfl dX5_copyFrom_5 rfl ?_
  refine g_callVv hX (c_X4_copyFrom_1_51 E _) kf_X4_copyFrom rfl wk_X5_51 rfl rfl rfl rfl rfl dX5_copyFrom_8 rfl (fun M8 h8 => ?_)
  subst h8
  refine g_aload_n (i := 0) hX dX5_copyFrom_11 rfl rfl rfl ?_
  refine g_getR hX fl_X5_21 rfl rfl dX5_copyFrom_12 rfl ?_
  refine g_aload_n (i := 1) hX dX5_copyFrom_15 rfl rfl rfl ?_
  refine g_getR hX fl_X5_21 rfl rfl dX5_copyFrom_16 rfl ?_
  refine g_callVv hX (c_X2_copyFrom_1_51 E _) kf_X2_copyFrom rfl wk_X5_55 rfl rfl rfl rfl rfl dX5_copyFrom_19 rfl (fun M19 h19 => ?_)
  subst h19
  refine g_aload_n (i := 0) hX dX5_copyFrom_22 rfl rfl rfl ?_
  refine g_getR hX fl_X5_28 rfl rfl dX5_copyFrom_23 rfl ?_
  refine g_aload_n (i := 1) hX dX5_copyFrom_26 rfl rfl rfl ?_
  refine g_getR hX fl_X5_28 rfl rfl dX5_copyFrom_27 rfl ?_
  refine g_callVv hX (c_X0_copyFrom_1_51 E _ hz1 hz2) kf_X0_copyFrom rfl wk_X5_58 rfl rfl rfl rfl rfl dX5_copyFrom_30 rfl (fun M30 h30 => ?_)
  subst h30
  refine g_aload_n (i := 0) hX dX5_copyFrom_33 rfl rfl rfl ?_
  refine g_getR hX fl_X5_35 rfl rfl dX5_copyFrom_34 rfl ?_
  refine g_aload_n (i := 1) hX dX5_copyFrom_37 rfl rfl rfl ?_
  refine g_getR hX fl_X5_35 rfl rfl dX5_copyFrom_38 rfl ?_
  refine g_callVv hX (c_X1_copyFrom_1_51 E _) kf_X1_copyFrom rfl wk_X5_61 rfl rfl rfl rfl rfl dX5_copyFrom_41 rfl (fun M41 h41 => ?_)
  subst h41
  refine g_aload_n (i := 1) hX dX5_copyFrom_44 rfl rfl rfl ?_
  refine g_getR hX fl_X5_48 rfl rfl dX5_copyFrom_45 rfl ?_
  refine g_aload_n (i := 0) hX dX5_copyFrom_48 rfl rfl rfl ?_
  refine g_getR hX fl_X5_48 rfl rfl dX5_copyFrom_49 rfl ?_
  refine g_callNv hX (c_X7_copyAllr E _ 75 25 _ _ _ rfl rfl rfl (M 75) rfl) kf_X7_copyAll rfl (List.mem_of_getElem? (i := 12) rfl) rfl rfl rfl rfl dX5_copyFrom_52 rfl (fun M52 h52 => ?_)
  subst h52
  refine g_aload_n (i := 0) hX dX5_copyFrom_55 rfl rfl rfl ?_
  refine g_aload_n (i := 1) hX dX5_copyFrom_56 rfl rfl rfl ?_
  refine g_getI hX fl_X5_68 rfl rfl dX5_copyFrom_57 rfl ?_
  refine g_putI hX fp_X5_68 rfl rfl dX5_copyFrom_60 rfl ?_
  refine gG_row (sh := _) (r' := M 51) rfl (gEq.obj (fun _ => rfl)) ?_
  refine g_vret hX hR dX5_copyFrom_63 ?_
  funext b
  by_cases hb : 1 ≤ b ∧ b < 26
  · have : b = 1 ∨ b = 2 ∨ b = 3 ∨ b = 4 ∨ b = 5 ∨ b = 6 ∨ b = 7 ∨ b = 8 ∨ b = 9 ∨ b = 10 ∨ b = 11 ∨ b = 12 ∨ b = 13 ∨ b = 14 ∨ b = 15 ∨ b = 16 ∨ b = 17 ∨ b = 18 ∨ b = 19 ∨ b = 20 ∨ b = 21 ∨ b = 22 ∨ b = 23 ∨ b = 24 ∨ b = 25 := by omega
    rcases this with rfl | rfl | rfl | rfl | rfl | rfl | rfl | rfl | rfl | rfl | rfl | rfl | rfl | rfl | rfl | rfl | rfl | rfl | rfl | rfl | rfl | rfl | rfl | rfl | rfl <;> rfl
  · simp only [cpS, if_neg hb, gset]
    rw [if_neg (show ¬ b = 1 by omega), if_neg (show ¬ b = 25 by omega), if_neg (show ¬ b = 16 by omega), if_neg (show ¬ b = 24 by omega), if_neg (show ¬ b = 23 by omega), if_neg (show ¬ b = 22 by omega), if_neg (show ¬ b = 21 by omega), if_neg (show ¬ b = 20 by omega), if_neg (show ¬ b = 19 by omega), if_neg (show ¬ b = 18 by omega), if_neg (show ¬ b = 17 by omega), if_neg (show ¬ b = 14 by omega), if_neg (show ¬ b = 15 by omega), if_neg (show ¬ b = 7 by omega), if_neg (show ¬ b = 13 by omega), if_neg (show ¬ b = 12 by omega), if_neg (show ¬ b = 11 by omega), if_neg (show ¬ b = 10 by omega), if_neg (show ¬ b = 9 by omega), if_neg (show ¬ b = 8 by omega), if_neg (show ¬ b = 2 by omega), if_neg (show ¬ b = 6 by omega), if_neg (show ¬ b = 5 by omega), if_neg (show ¬ b = 4 by omega), if_neg (show ¬ b = 3 by omega)]
theorem c_X4_copyFrom_1_76 (E : gE) (M : gM) : gMet E k_X4_copyFrom [.ref 2, .ref 77] M (gVoid fun M' => M' = gset (gset (gset (gset (gset M 3 (M 78)) 4 (M 79)) 5 (M 80)) 6 (M 81)) 2 (M 77)) := by
  refine gMet.of (by decide +kernel) rfl (Nat.le_of_ble_eq_true rfl) (fun X hX hR => ?_)
  refine g_aload_n (i := 1) hX dX4_copyFrom_0 rfl rfl rfl ?_
  refine g_getR hX fl_X4_9 rfl rfl dX4_copyFrom_1 rfl ?_
  refine g_aload_n (i := 0) hX dX4_copyFrom_4 rfl rfl rfl ?_
  refine g_getR hX fl_X4_9 rfl rfl dX4_copyFrom_5 rfl ?_
  refine g_callNv hX (c_X7_copyAllr E _ 78 3 _ _ _ rfl rfl rfl (M 78) rfl) kf_X7_copyAll rfl (List.mem_of_getElem? (i := 8) rfl) rfl rfl rfl rfl dX4_copyFrom_8 rfl (fun M8 h8 => ?_)
  subst h8
  refine g_aload_n (i := 1) hX dX4_copyFrom_11 rfl rfl rfl ?_
  refine g_getR hX fl_X4_15 rfl rfl dX4_copyFrom_12 rfl ?_
  refine g_aload_n (i := 0) hX dX4_copyFrom_15 rfl rfl rfl ?_
  refine g_getR hX fl_X4_15 rfl rfl dX4_copyFrom_16 rfl ?_
  refine g_callNv hX (c_X7_copyAllr E _ 79 4 _ _ _ rfl rfl rfl (M 79) rfl) kf_X7_copyAll rfl (List.mem_of_getElem? (i := 8) rfl) rfl rfl rfl rfl dX4_copyFrom_19 rfl (fun M19 h19 => ?_)
  subst h19
  refine g_aload_n (i := 1) hX dX4_copyFrom_22 rfl rfl rfl ?_
  refine g_getR hX fl_X4_18 rfl rfl dX4_copyFrom_23 rfl ?_
  refine g_aload_n (i := 0) hX dX4_copyFrom_26 rfl rfl rfl ?_
  refine g_getR hX fl_X4_18 rfl rfl dX4_copyFrom_27 rfl ?_
  refine g_callNv hX (c_X7_copyAllr E _ 80 5 _ _ _ rfl rfl rfl (M 80) rfl) kf_X7_copyAll rfl (List.mem_of_getElem? (i := 8) rfl) rfl rfl rfl rfl dX4_copyFrom_30 rfl (fun M30 h30 => ?_)
  subst h30
  refine g_aload_n (i := 1) hX dX4_copyFrom_33 rfl rfl rfl ?_
  refine g_getR hX fl_X4_21 rfl rfl dX4_copyFrom_34 rfl ?_
  refine g_aload_n (i := 0) hX dX4_copyFrom_37 rfl rfl rfl ?_
  refine g_getR hX fl_X4_21 rfl rfl dX4_copyFrom_38 rfl ?_
  refine g_callNv hX (c_X7_copyAllr E _ 81 6 _ _ _ rfl rfl rfl (M 81) rfl) kf_X7_copyAll rfl (List.mem_of_getElem? (i := 8) rfl) rfl rfl rfl rfl dX4_copyFrom_41 rfl (fun M41 h41 => ?_)
  subst h41
  refine g_aload_n (i := 0) hX dX4_copyFrom_44 rfl rfl rfl ?_
  refine g_aload_n (i := 1) hX dX4_copyFrom_45 rfl rfl rfl ?_
  refine g_getI hX fl_X4_28 rfl rfl dX4_copyFrom_46 rfl ?_
  refine g_putI hX fp_X4_28 rfl rfl dX4_copyFrom_49 rfl ?_
  refine gG_row (sh := _) (r' := M 77) rfl (gEq.obj (fun _ => rfl)) ?_
  refine g_vret hX hR dX4_copyFrom_52 ?_
  first | rfl | (simp only [gset_gset]; done) | (simp only [gset_gset]; rfl)
theorem c_X2_copyFrom_1_76 (E : gE) (M : gM) : gMet E k_X2_copyFrom [.ref 7, .ref 82] M (gVoid fun M' => M' = gset (gset (gset (gset (gset (gset (gset M 8 (M 83)) 9 (M 84)) 10 (M 85)) 11 (M 86)) 12 (M 87)) 13 (M 88)) 7 (M 82)) := by
  refine gMet.of (by decide +kernel) rfl (Nat.le_of_ble_eq_true rfl) (fun X hX hR => ?_)
  refine g_aload_n (i := 1) hX dX2_copyFrom_0 rfl rfl rfl ?_
  refine g_getR hX fl_X2_9 rfl rfl dX2_copyFrom_1 rfl ?_
  refine g_aload_n (i := 0) hX dX2_copyFrom_4 rfl rfl rfl ?_
  refine g_getR hX fl_X2_9 rfl rfl dX2_copyFrom_5 rfl ?_
  refine g_callNv hX (c_X7_copyAllr E _ 83 8 _ _ _ rfl rfl rfl (M 83) rfl) kf_X7_copyAll rfl (List.mem_of_getElem? (i := 9) rfl) rfl rfl rfl rfl dX2_copyFrom_8 rfl (fun M8 h8 => ?_)
  subst h8
  refine g_aload_n (i := 1) hX dX2_copyFrom_11 rfl rfl rfl ?_
  refine g_getR hX fl_X2_15 rfl rfl dX2_copyFrom_12 rfl ?_
  refine g_aload_n (i := 0) hX dX2_copyFrom_15 rfl rfl rfl ?_
  refine g_getR hX fl_X2_15 rfl rfl dX2_copyFrom_16 rfl ?_
  refine g_callNv hX (c_X7_copyAllr E _ 84 9 _ _ _ rfl rfl rfl (M 84) rfl) kf_X7_copyAll rfl (List.mem_of_getElem? (i := 9) rfl) rfl rfl rfl rfl dX2_copyFrom_19 rfl (fun M19 h19 => ?_)
  subst h19
  refine g_aload_n (i := 1) hX dX2_copyFrom_22 rfl rfl rfl ?_
  refine g_getR hX fl_X2_18 rfl rfl dX2_copyFrom_23 rfl ?_
  refine g_aload_n (i := 0) hX dX2_copyFrom_26 rfl rfl rfl ?_
  refine g_getR hX fl_X2_18 rfl rfl dX2_copyFrom_27 rfl ?_
  refine g_callNv hX (c_X7_copyAllr E _ 85 10 _ _ _ rfl rfl rfl (M 85) rfl) kf_X7_copyAll rfl (List.mem_of_getElem? (i := 9) rfl) rfl rfl rfl rfl dX2_copyFrom_30 rfl (fun M30 h30 => ?_)
  subst h30
  refine g_aload_n (i := 1) hX dX2_copyFrom_33 rfl rfl rfl ?_
  refine g_getR hX fl_X2_21 rfl rfl dX2_copyFrom_34 rfl ?_
  refine g_aload_n (i := 0) hX dX2_copyFrom_37 rfl rfl rfl ?_
  refine g_getR hX fl_X2_21 rfl rfl dX2_copyFrom_38 rfl ?_
  refine g_callNv hX (c_X7_copyAllr E _ 86 11 _ _ _ rfl rfl rfl (M 86) rfl) kf_X7_copyAll rfl (List.mem_of_getElem? (i := 9) rfl) rfl rfl rfl rfl dX2_copyFrom_41 rfl (fun M41 h41 => ?_)
  subst h41
  refine g_aload_n (i := 1) hX dX2_copyFrom_44 rfl rfl rfl ?_
  refine g_getR hX fl_X2_24 rfl rfl dX2_copyFrom_45 rfl ?_
  refine g_aload_n (i := 0) hX dX2_copyFrom_48 rfl rfl rfl ?_
  refine g_getR hX fl_X2_24 rfl rfl dX2_copyFrom_49 rfl ?_
  refine g_callNv hX (c_X7_copyAllr E _ 87 12 _ _ _ rfl rfl rfl (M 87) rfl) kf_X7_copyAll rfl (List.mem_of_getElem? (i := 9) rfl) rfl rfl rfl rfl dX2_copyFrom_52 rfl (fun M52 h52 => ?_)
  subst h52
  refine g_aload_n (i := 1) hX dX2_copyFrom_55 rfl rfl rfl ?_
  refine g_getR hX fl_X2_27 rfl rfl dX2_copyFrom_56 rfl ?_
  refine g_aload_n (i := 0) hX dX2_copyFrom_59 rfl rfl rfl ?_
  refine g_getR hX fl_X2_27 rfl rfl dX2_copyFrom_60 rfl ?_
  refine g_callNv hX (c_X7_copyAllr E _ 88 13 _ _ _ rfl rfl rfl (M 88) rfl) kf_X7_copyAll rfl (List.mem_of_getElem? (i := 9) rfl) rfl rfl rfl rfl dX2_copyFrom_63 rfl (fun M63 h63 => ?_)
  subst h63
  refine g_aload_n (i := 0) hX dX2_copyFrom_66 rfl rfl rfl ?_
  refine g_aload_n (i := 1) hX dX2_copyFrom_67 rfl rfl rfl ?_
  refine g_getI hX fl_X2_38 rfl rfl dX2_copyFrom_68 rfl ?_
  refine g_putI hX fp_X2_38 rfl rfl dX2_copyFrom_71 rfl ?_
  refine g_aload_n (i := 0) hX dX2_copyFrom_74 rfl rfl rfl ?_
  refine g_aload_n (i := 1) hX dX2_copyFrom_75 rfl rfl rfl ?_
  refine g_getI hX fl_X2_30 rfl rfl dX2_copyFrom_76 rfl ?_
  refine g_putI hX fp_X2_30 rfl rfl dX2_copyFrom_79 rfl ?_
  refine gG_row (sh := _) (r' := M 82) rfl (gEq.obj (fun _ => rfl)) ?_
  refine g_vret hX hR dX2_copyFrom_82 ?_
  first | rfl | (simp only [gset_gset]; done) | (simp only [gset_gset]; rfl)
theorem c_X0_copyFrom_1_76 (E : gE) (M : gM) (hz1 : M 89 1 = 0 ∨ M 89 1 = 1) (hz2 : M 89 2 = 0 ∨ M 89 2 = 1) : gMet E k_X0_copyFrom [.ref 14, .ref 89] M (gVoid fun M' => M' = gset (gset M 15 (M 90)) 14 (M 89)) := by
  refine gMet.of (by decide +kernel) rfl (Nat.le_of_ble_eq_true rfl) (fun X hX hR => ?_)
  refine g_aload_n (i := 1) hX dX0_copyFrom_0 rfl rfl rfl ?_
  refine g_getR hX fl_X0_9 rfl rfl dX0_copyFrom_1 rfl ?_
  refine g_aload_n (i := 0) hX dX0_copyFrom_4 rfl rfl rfl ?_
  refine g_getR hX fl_X0_9 rfl rfl dX0_copyFrom_5 rfl ?_
  refine g_callNv hX (c_X7_copyAllr E _ 90 15 _ _ _ rfl rfl rfl (M 90) rfl) kf_X7_copyAll rfl (List.mem_of_getElem? (i := 10) rfl) rfl rfl rfl rfl dX0_copyFrom_8 rfl (fun M8 h8 => ?_)
  subst h8
  refine g_aload_n (i := 0) hX dX0_copyFrom_11 rfl rfl rfl ?_
  refine g_aload_n (i := 1) hX dX0_copyFrom_12 rfl rfl rfl ?_
  refine g_getI hX fl_X0_19 rfl rfl dX0_copyFrom_13 rfl ?_
  refine g_putZ hX fp_X0_19 rfl rfl (hz1) dX0_copyFrom_16 rfl ?_
  refine g_aload_n (i := 0) hX dX0_copyFrom_19 rfl rfl rfl ?_
  refine g_aload_n (i := 1) hX dX0_copyFrom_20 rfl rfl rfl ?_
  refine g_getI hX fl_X0_23 rfl rfl dX0_copyFrom_21 rfl ?_
  refine g_putZ hX fp_X0_23 rfl rfl (hz2) dX0_copyFrom_24 rfl ?_
  refine g_aload_n (i := 0) hX dX0_copyFrom_27 rfl rfl rfl ?_
  refine g_aload_n (i := 1) hX dX0_copyFrom_28 rfl rfl rfl ?_
  refine g_getI hX fl_X0_26 rfl rfl dX0_copyFrom_29 rfl ?_
  refine g_putI hX fp_X0_26 rfl rfl dX0_copyFrom_32 rfl ?_
  refine g_aload_n (i := 0) hX dX0_copyFrom_35 rfl rfl rfl ?_
  refine g_aload_n (i := 1) hX dX0_copyFrom_36 rfl rfl rfl ?_
  refine g_getI hX fl_X0_30 rfl rfl dX0_copyFrom_37 rfl ?_
  refine g_putI hX fp_X0_30 rfl rfl dX0_copyFrom_40 rfl ?_
  refine gG_row (sh := _) (r' := M 89) rfl (gEq.obj (fun _ => rfl)) ?_
  refine g_vret hX hR dX0_copyFrom_43 ?_
  first | rfl | (simp only [gset_gset]; done) | (simp only [gset_gset]; rfl)
theorem c_X1_copyFrom_1_76 (E : gE) (M : gM) : gMet E k_X1_copyFrom [.ref 16, .ref 91] M (gVoid fun M' => M' = gset (gset (gset (gset (gset (gset (gset (gset (gset M 17 (M 92)) 18 (M 93)) 19 (M 94)) 20 (M 95)) 21 (M 96)) 22 (M 97)) 23 (M 98)) 24 (M 99)) 16 (M 91)) := by
  refine gMet.of (by decide +kernel) rfl (Nat.le_of_ble_eq_true rfl) (fun X hX hR => ?_)
  refine g_aload_n (i := 1) hX dX1_copyFrom_0 rfl rfl rfl ?_
  refine g_getR hX fl_X1_9 rfl rfl dX1_copyFrom_1 rfl ?_
  refine g_aload_n (i := 0) hX dX1_copyFrom_4 rfl rfl rfl ?_
  refine g_getR hX fl_X1_9 rfl rfl dX1_copyFrom_5 rfl ?_
  refine g_callNv hX (c_X7_copyAllr E _ 92 17 _ _ _ rfl rfl rfl (M 92) rfl) kf_X7_copyAll rfl (List.mem_of_getElem? (i := 11) rfl) rfl rfl rfl rfl dX1_copyFrom_8 rfl (fun M8 h8 => ?_)
  subst h8
  refine g_aload_n (i := 1) hX dX1_copyFrom_11 rfl rfl rfl ?_
  refine g_getR hX fl_X1_15 rfl rfl dX1_copyFrom_12 rfl ?_
  refine g_aload_n (i := 0) hX dX1_copyFrom_15 rfl rfl rfl ?_
  refine g_getR hX fl_X1_15 rfl rfl dX1_copyFrom_16 rfl ?_
  refine g_callNv hX (c_X7_copyAllr E _ 93 18 _ _ _ rfl rfl rfl (M 93) rfl) kf_X7_copyAll rfl (List.mem_of_getElem? (i := 11) rfl) rfl rfl rfl rfl dX1_copyFrom_19 rfl (fun M19 h19 => ?_)
  subst h19
  refine g_aload_n (i := 1) hX dX1_copyFrom_22 rfl rfl rfl ?_
  refine g_getR hX fl_X1_18 rfl rfl dX1_copyFrom_23 rfl ?_
  refine g_aload_n (i := 0) hX dX1_copyFrom_26 rfl rfl rfl ?_
  refine g_getR hX fl_X1_18 rfl rfl dX1_copyFrom_27 rfl ?_
  refine g_callNv hX (c_X7_copyAllr E _ 94 19 _ _ _ rfl rfl rfl (M 94) rfl) kf_X7_copyAll rfl (List.mem_of_getElem? (i := 11) rfl) rfl rfl rfl rfl dX1_copyFrom_30 rfl (fun M30 h30 => ?_)
  subst h30
  refine g_aload_n (i := 1) hX dX1_copyFrom_33 rfl rfl rfl ?_
  refine g_getR hX fl_X1_21 rfl rfl dX1_copyFrom_34 rfl ?_
  refine g_aload_n (i := 0) hX dX1_copyFrom_37 rfl rfl rfl ?_
  refine g_getR hX fl_X1_21 rfl rfl dX1_copyFrom_38 rfl ?_
  refine g_callNv hX (c_X7_copyAllr E _ 95 20 _ _ _ rfl rfl rfl (M 95) rfl) kf_X7_copyAll rfl (List.mem_of_getElem? (i := 11) rfl) rfl rfl rfl rfl dX1_copyFrom_41 rfl (fun M41 h41 => ?_)
  subst h41
  refine g_aload_n (i := 1) hX dX1_copyFrom_44 rfl rfl rfl ?_
  refine g_getR hX fl_X1_24 rfl rfl dX1_copyFrom_45 rfl ?_
  refine g_aload_n (i := 0) hX dX1_copyFrom_48 rfl rfl rfl ?_
  refine g_getR hX fl_X1_24 rfl rfl dX1_copyFrom_49 rfl ?_
  refine g_callNv hX (c_X7_copyAllr E _ 96 21 _ _ _ rfl rfl rfl (M 96) rfl) kf_X7_copyAll rfl (List.mem_of_getElem? (i := 11) rfl) rfl rfl rfl rfl dX1_copyFrom_52 rfl (fun M52 h52 => ?_)
  subst h52
  refine g_aload_n (i := 1) hX dX1_copyFrom_55 rfl rfl rfl ?_
  refine g_getR hX fl_X1_27 rfl rfl dX1_copyFrom_56 rfl ?_
  refine g_aload_n (i := 0) hX dX1_copyFrom_59 rfl rfl rfl ?_
  refine g_getR hX fl_X1_27 rfl rfl dX1_copyFrom_60 rfl ?_
  refine g_callNv hX (c_X7_copyAllr E _ 97 22 _ _ _ rfl rfl rfl (M 97) rfl) kf_X7_copyAll rfl (List.mem_of_getElem? (i := 11) rfl) rfl rfl rfl rfl dX1_copyFrom_63 rfl (fun M63 h63 => ?_)
  subst h63
  refine g_aload_n (i := 1) hX dX1_copyFrom_66 rfl rfl rfl ?_
  refine g_getR hX fl_X1_30 rfl rfl dX1_copyFrom_67 rfl ?_
  refine g_aload_n (i := 0) hX dX1_copyFrom_70 rfl rfl rfl ?_
  refine g_getR hX fl_X1_30 rfl rfl dX1_copyFrom_71 rfl ?_
  refine g_callNv hX (c_X7_copyAllr E _ 98 23 _ _ _ rfl rfl rfl (M 98) rfl) kf_X7_copyAll rfl (List.mem_of_getElem? (i := 11) rfl) rfl rfl rfl rfl dX1_copyFrom_74 rfl (fun M74 h74 => ?_)
  subst h74
  refine g_aload_n (i := 1) hX dX1_copyFrom_77 rfl rfl rfl ?_
  refine g_getR hX fl_X1_33 rfl rfl dX1_copyFrom_78 rfl ?_
  refine g_aload_n (i := 0) hX dX1_copyFrom_81 rfl rfl rfl ?_
  refine g_getR hX fl_X1_33 rfl rfl dX1_copyFrom_82 rfl ?_
  refine g_callNv hX (c_X7_copyAllr E _ 99 24 _ _ _ rfl rfl rfl (M 99) rfl) kf_X7_copyAll rfl (List.mem_of_getElem? (i := 11) rfl) rfl rfl rfl rfl dX1_copyFrom_85 rfl (fun M85 h85 => ?_)
  subst h85
  refine g_aload_n (i := 0) hX dX1_copyFrom_88 rfl rfl rfl ?_
  refine g_aload_n (i := 1) hX dX1_copyFrom_89 rfl rfl rfl ?_
  refine g_getI hX fl_X1_40 rfl rfl dX1_copyFrom_90 rfl ?_
  refine g_putI hX fp_X1_40 rfl rfl dX1_copyFrom_93 rfl ?_
  refine g_aload_n (i := 0) hX dX1_copyFrom_96 rfl rfl rfl ?_
  refine g_aload_n (i := 1) hX dX1_copyFrom_97 rfl rfl rfl ?_
  refine g_getI hX fl_X1_44 rfl rfl dX1_copyFrom_98 rfl ?_
  refine g_putI hX fp_X1_44 rfl rfl dX1_copyFrom_101 rfl ?_
  refine gG_row (sh := _) (r' := M 91) rfl (gEq.obj (fun _ => rfl)) ?_
  refine g_vret hX hR dX1_copyFrom_104 ?_
  first | rfl | (simp only [gset_gset]; done) | (simp only [gset_gset]; rfl)
theorem c_X5_copyFrom_1_76 (E : gE) (M : gM) (hz1 : M 89 1 = 0 ∨ M 89 1 = 1) (hz2 : M 89 2 = 0 ∨ M 89 2 = 1) : gMet E k_X5_copyFrom [.ref 1, .ref 76] M (gVoid fun M' => M' = cpS M 1 76) := by
  refine gMet.of (by decide +kernel) rfl (Nat.le_of_ble_eq_true rfl) (fun X hX hR => ?_)
  refine g_aload_n (i := 0) hX dX5_copyFrom_0 rfl rfl rfl ?_
  refine g_getR hX fl_X5_12 rfl rfl dX5_copyFrom_1 rfl ?_
  refine g_aload_n (i := 1) hX dX5_copyFrom_4 rfl rfl rfl ?_
  refine g_getR hX fl_X5_12 rfl rfl dX5_copyFrom_5 rfl ?_
  refine g_callVv hX (c_X4_copyFrom_1_76 E _) kf_X4_copyFrom rfl wk_X5_51 rfl rfl rfl rfl rfl dX5_copyFrom_8 rfl (fun M8 h8 => ?_)
  subst h8
  refine g_aload_n (i := 0) hX dX5_copyFrom_11 rfl rfl rfl ?_
  refine g_getR hX fl_X5_21 rfl rfl dX5_copyFrom_12 rfl ?_
  refine g_aload_n (i := 1) hX dX5_copyFrom_15 rfl rfl rfl ?_
  refine g_getR hX fl_X5_21 rfl rfl dX5_copyFrom_16 rfl ?_
  refine g_callVv hX (c_X2_copyFrom_1_76 E _) kf_X2_copyFrom rfl wk_X5_55 rfl rfl rfl rfl rfl dX5_copyFrom_19 rfl (fun M19 h19 => ?_)
  subst h19
  refine g_aload_n (i := 0) hX dX5_copyFrom_22 rfl rfl rfl ?_
  refine g_getR hX fl_X5_28 rfl rfl dX5_copyFrom_23 rfl ?_
  refine g_aload_n (i := 1) hX dX5_copyFrom_26 rfl rfl rfl ?_
  refine g_getR hX fl_X5_28 rfl rfl dX5_copyFrom_27 rfl ?_
  refine g_callVv hX (c_X0_copyFrom_1_76 E _ hz1 hz2) kf_X0_copyFrom rfl wk_X5_58 rfl rfl rfl rfl rfl dX5_copyFrom_30 rfl (fun M30 h30 => ?_)
  subst h30
  refine g_aload_n (i := 0) hX dX5_copyFrom_33 rfl rfl rfl ?_
  refine g_getR hX fl_X5_35 rfl rfl dX5_copyFrom_34 rfl ?_
  refine g_aload_n (i := 1) hX dX5_copyFrom_37 rfl rfl rfl ?_
  refine g_getR hX fl_X5_35 rfl rfl dX5_copyFrom_38 rfl ?_
  refine g_callVv hX (c_X1_copyFrom_1_76 E _) kf_X1_copyFrom rfl wk_X5_61 rfl rfl rfl rfl rfl dX5_copyFrom_41 rfl (fun M41 h41 => ?_)
  subst h41
  refine g_aload_n (i := 1) hX dX5_copyFrom_44 rfl rfl rfl ?_
  refine g_getR hX fl_X5_48 rfl rfl dX5_copyFrom_45 rfl ?_
  refine g_aload_n (i := 0) hX dX5_copyFrom_48 rfl rfl rfl ?_
  refine g_getR hX fl_X5_48 rfl rfl dX5_copyFrom_49 rfl ?_
  refine g_callNv hX (c_X7_copyAllr E _ 100 25 _ _ _ rfl rfl rfl (M 100) rfl) kf_X7_copyAll rfl (List.mem_of_getElem? (i := 12) rfl) rfl rfl rfl rfl dX5_copyFrom_52 rfl (fun M52 h52 => ?_)
  subst h52
  refine g_aload_n (i := 0) hX dX5_copyFrom_55 rfl rfl rfl ?_
  refine g_aload_n (i := 1) hX dX5_copyFrom_56 rfl rfl rfl ?_
  refine g_getI hX fl_X5_68 rfl rfl dX5_copyFrom_57 rfl ?_
  refine g_putI hX fp_X5_68 rfl rfl dX5_copyFrom_60 rfl ?_
  refine gG_row (sh := _) (r' := M 76) rfl (gEq.obj (fun _ => rfl)) ?_
  refine g_vret hX hR dX5_copyFrom_63 ?_
  funext b
  by_cases hb : 1 ≤ b ∧ b < 26
  · have : b = 1 ∨ b = 2 ∨ b = 3 ∨ b = 4 ∨ b = 5 ∨ b = 6 ∨ b = 7 ∨ b = 8 ∨ b = 9 ∨ b = 10 ∨ b = 11 ∨ b = 12 ∨ b = 13 ∨ b = 14 ∨ b = 15 ∨ b = 16 ∨ b = 17 ∨ b = 18 ∨ b = 19 ∨ b = 20 ∨ b = 21 ∨ b = 22 ∨ b = 23 ∨ b = 24 ∨ b = 25 := by omega
    rcases this with rfl | rfl | rfl | rfl | rfl | rfl | rfl | rfl | rfl | rfl | rfl | rfl | rfl | rfl | rfl | rfl | rfl | rfl | rfl | rfl | rfl | rfl | rfl | rfl | rfl <;> rfl
  · simp only [cpS, if_neg hb, gset]
    rw [if_neg (show ¬ b = 1 by omega), if_neg (show ¬ b = 25 by omega), if_neg (show ¬ b = 16 by omega), if_neg (show ¬ b = 24 by omega), if_neg (show ¬ b = 23 by omega), if_neg (show ¬ b = 22 by omega), if_neg (show ¬ b = 21 by omega), if_neg (show ¬ b = 20 by omega), if_neg (show ¬ b = 19 by omega), if_neg (show ¬ b = 18 by omega), if_neg (show ¬ b = 17 by omega), if_neg (show ¬ b = 14 by omega), if_neg (show ¬ b = 15 by omega), if_neg (show ¬ b = 7 by omega), if_neg (show ¬ b = 13 by omega), if_neg (show ¬ b = 12 by omega), if_neg (show ¬ b = 11 by omega), if_neg (show ¬ b = 10 by omega), if_neg (show ¬ b = 9 by omega), if_neg (show ¬ b = 8 by omega), if_neg (show ¬ b = 2 by omega), if_neg (show ¬ b = 6 by omega), if_neg (show ¬ b = 5 by omega), if_neg (show ¬ b = 4 by omega), if_neg (show ¬ b = 3 by omega)]
theorem c_X4_copyFrom_1_101 (E : gE) (M : gM) : gMet E k_X4_copyFrom [.ref 2, .ref 102] M (gVoid fun M' => M' = gset (gset (gset (gset (gset M 3 (M 103)) 4 (M 104)) 5 (M 105)) 6 (M 106)) 2 (M 102)) := by
  refine gMet.of (by decide +kernel) rfl (Nat.le_of_ble_eq_true rfl) (fun X hX hR => ?_)
  refine g_aload_n (i := 1) hX dX4_copyFrom_0 rfl rfl rfl ?_
  refine g_getR hX fl_X4_9 rfl rfl dX4_copyFrom_1 rfl ?_
  refine g_aload_n (i := 0) hX dX4_copyFrom_4 rfl rfl rfl ?_
  refine g_getR hX fl_X4_9 rfl rfl dX4_copyFrom_5 rfl ?_
  refine g_callNv hX (c_X7_copyAllr E _ 103 3 _ _ _ rfl rfl rfl (M 103) rfl) kf_X7_copyAll rfl (List.mem_of_getElem? (i := 8) rfl) rfl rfl rfl rfl dX4_copyFrom_8 rfl (fun M8 h8 => ?_)
  subst h8
  refine g_aload_n (i := 1) hX dX4_copyFrom_11 rfl rfl rfl ?_
  refine g_getR hX fl_X4_15 rfl rfl dX4_copyFrom_12 rfl ?_
  refine g_aload_n (i := 0) hX dX4_copyFrom_15 rfl rfl rfl ?_
  refine g_getR hX fl_X4_15 rfl rfl dX4_copyFrom_16 rfl ?_
  refine g_callNv hX (c_X7_copyAllr E _ 104 4 _ _ _ rfl rfl rfl (M 104) rfl) kf_X7_copyAll rfl (List.mem_of_getElem? (i := 8) rfl) rfl rfl rfl rfl dX4_copyFrom_19 rfl (fun M19 h19 => ?_)
  subst h19
  refine g_aload_n (i := 1) hX dX4_copyFrom_22 rfl rfl rfl ?_
  refine g_getR hX fl_X4_18 rfl rfl dX4_copyFrom_23 rfl ?_
  refine g_aload_n (i := 0) hX dX4_copyFrom_26 rfl rfl rfl ?_
  refine g_getR hX fl_X4_18 rfl rfl dX4_copyFrom_27 rfl ?_
  refine g_callNv hX (c_X7_copyAllr E _ 105 5 _ _ _ rfl rfl rfl (M 105) rfl) kf_X7_copyAll rfl (List.mem_of_getElem? (i := 8) rfl) rfl rfl rfl rfl dX4_copyFrom_30 rfl (fun M30 h30 => ?_)
  subst h30
  refine g_aload_n (i := 1) hX dX4_copyFrom_33 rfl rfl rfl ?_
  refine g_getR hX fl_X4_21 rfl rfl dX4_copyFrom_34 rfl ?_
  refine g_aload_n (i := 0) hX dX4_copyFrom_37 rfl rfl rfl ?_
  refine g_getR hX fl_X4_21 rfl rfl dX4_copyFrom_38 rfl ?_
  refine g_callNv hX (c_X7_copyAllr E _ 106 6 _ _ _ rfl rfl rfl (M 106) rfl) kf_X7_copyAll rfl (List.mem_of_getElem? (i := 8) rfl) rfl rfl rfl rfl dX4_copyFrom_41 rfl (fun M41 h41 => ?_)
  subst h41
  refine g_aload_n (i := 0) hX dX4_copyFrom_44 rfl rfl rfl ?_
  refine g_aload_n (i := 1) hX dX4_copyFrom_45 rfl rfl rfl ?_
  refine g_getI hX fl_X4_28 rfl rfl dX4_copyFrom_46 rfl ?_
  refine g_putI hX fp_X4_28 rfl rfl dX4_copyFrom_49 rfl ?_
  refine gG_row (sh := _) (r' := M 102) rfl (gEq.obj (fun _ => rfl)) ?_
  refine g_vret hX hR dX4_copyFrom_52 ?_
  first | rfl | (simp only [gset_gset]; done) | (simp only [gset_gset]; rfl)
theorem c_X2_copyFrom_1_101 (E : gE) (M : gM) : gMet E k_X2_copyFrom [.ref 7, .ref 107] M (gVoid fun M' => M' = gset (gset (gset (gset (gset (gset (gset M 8 (M 108)) 9 (M 109)) 10 (M 110)) 11 (M 111)) 12 (M 112)) 13 (M 113)) 7 (M 107)) := by
  refine gMet.of (by decide +kernel) rfl (Nat.le_of_ble_eq_true rfl) (fun X hX hR => ?_)
  refine g_aload_n (i := 1) hX dX2_copyFrom_0 rfl rfl rfl ?_
  refine g_getR hX fl_X2_9 rfl rfl dX2_copyFrom_1 rfl ?_
  refine g_aload_n (i := 0) hX dX2_copyFrom_4 rfl rfl rfl ?_
  refine g_getR hX fl_X2_9 rfl rfl dX2_copyFrom_5 rfl ?_
  refine g_callNv hX (c_X7_copyAllr E _ 108 8 _ _ _ rfl rfl rfl (M 108) rfl) kf_X7_copyAll rfl (List.mem_of_getElem? (i := 9) rfl) rfl rfl rfl rfl dX2_copyFrom_8 rfl (fun M8 h8 => ?_)
  subst h8
  refine g_aload_n (i := 1) hX dX2_copyFrom_11 rfl rfl rfl ?_
  refine g_getR hX fl_X2_15 rfl rfl dX2_copyFrom_12 rfl ?_
  refine g_aload_n (i := 0) hX dX2_copyFrom_15 rfl rfl rfl ?_
  refine g_getR hX fl_X2_15 rfl rfl dX2_copyFrom_16 rfl ?_
  refine g_callNv hX (c_X7_copyAllr E _ 109 9 _ _ _ rfl rfl rfl (M 109) rfl) kf_X7_copyAll rfl (List.mem_of_getElem? (i := 9) rfl) rfl rfl rfl rfl dX2_copyFrom_19 rfl (fun M19 h19 => ?_)
  subst h19
  refine g_aload_n (i := 1) hX dX2_copyFrom_22 rfl rfl rfl ?_
  refine g_getR hX fl_X2_18 rfl rfl dX2_copyFrom_23 rfl ?_
  refine g_aload_n (i := 0) hX dX2_copyFrom_26 rfl rfl rfl ?_
  refine g_getR hX fl_X2_18 rfl rfl dX2_copyFrom_27 rfl ?_
  refine g_callNv hX (c_X7_copyAllr E _ 110 10 _ _ _ rfl rfl rfl (M 110) rfl) kf_X7_copyAll rfl (List.mem_of_getElem? (i := 9) rfl) rfl rfl rfl rfl dX2_copyFrom_30 rfl (fun M30 h30 => ?_)
  subst h30
  refine g_aload_n (i := 1) hX dX2_copyFrom_33 rfl rfl rfl ?_
  refine g_getR hX fl_X2_21 rfl rfl dX2_copyFrom_34 rfl ?_
  refine g_aload_n (i := 0) hX dX2_copyFrom_37 rfl rfl rfl ?_
  refine g_getR hX fl_X2_21 rfl rfl dX2_copyFrom_38 rfl ?_
  refine g_callNv hX (c_X7_copyAllr E _ 111 11 _ _ _ rfl rfl rfl (M 111) rfl) kf_X7_copyAll rfl (List.mem_of_getElem? (i := 9) rfl) rfl rfl rfl rfl dX2_copyFrom_41 rfl (fun M41 h41 => ?_)
  subst h41
  refine g_aload_n (i := 1) hX dX2_copyFrom_44 rfl rfl rfl ?_
  refine g_getR hX fl_X2_24 rfl rfl dX2_copyFrom_45 rfl ?_
  refine g_aload_n (i := 0) hX dX2_copyFrom_48 rfl rfl rfl ?_
  refine g_getR hX fl_X2_24 rfl rfl dX2_copyFrom_49 rfl ?_
  refine g_callNv hX (c_X7_copyAllr E _ 112 12 _ _ _ rfl rfl rfl (M 112) rfl) kf_X7_copyAll rfl (List.mem_of_getElem? (i := 9) rfl) rfl rfl rfl rfl dX2_copyFrom_52 rfl (fun M52 h52 => ?_)
  subst h52
  refine g_aload_n (i := 1) hX dX2_copyFrom_55 rfl rfl rfl ?_
  refine g_getR hX fl_X2_27 rfl rfl dX2_copyFrom_56 rfl ?_
  refine g_aload_n (i := 0) hX dX2_copyFrom_59 rfl rfl rfl ?_
  refine g_getR hX fl_X2_27 rfl rfl dX2_copyFrom_60 rfl ?_
  refine g_callNv hX (c_X7_copyAllr E _ 113 13 _ _ _ rfl rfl rfl (M 113) rfl) kf_X7_copyAll rfl (List.mem_of_getElem? (i := 9) rfl) rfl rfl rfl rfl dX2_copyFrom_63 rfl (fun M63 h63 => ?_)
  subst h63
  refine g_aload_n (i := 0) hX dX2_copyFrom_66 rfl rfl rfl ?_
  refine g_aload_n (i := 1) hX dX2_copyFrom_67 rfl rfl rfl ?_
  refine g_getI hX fl_X2_38 rfl rfl dX2_copyFrom_68 rfl ?_
  refine g_putI hX fp_X2_38 rfl rfl dX2_copyFrom_71 rfl ?_
  refine g_aload_n (i := 0) hX dX2_copyFrom_74 rfl rfl rfl ?_
  refine g_aload_n (i := 1) hX dX2_copyFrom_75 rfl rfl rfl ?_
  refine g_getI hX fl_X2_30 rfl rfl dX2_copyFrom_76 rfl ?_
  refine g_putI hX fp_X2_30 rfl rfl dX2_copyFrom_79 rfl ?_
  refine gG_row (sh := _) (r' := M 107) rfl (gEq.obj (fun _ => rfl)) ?_
  refine g_vret hX hR dX2_copyFrom_82 ?_
  first | rfl | (simp only [gset_gset]; done) | (simp only [gset_gset]; rfl)
theorem c_X0_copyFrom_1_101 (E : gE) (M : gM) (hz1 : M 114 1 = 0 ∨ M 114 1 = 1) (hz2 : M 114 2 = 0 ∨ M 114 2 = 1) : gMet E k_X0_copyFrom [.ref 14, .ref 114] M (gVoid fun M' => M' = gset (gset M 15 (M 115)) 14 (M 114)) := by
  refine gMet.of (by decide +kernel) rfl (Nat.le_of_ble_eq_true rfl) (fun X hX hR => ?_)
  refine g_aload_n (i := 1) hX dX0_copyFrom_0 rfl rfl rfl ?_
  refine g_getR hX fl_X0_9 rfl rfl dX0_copyFrom_1 rfl ?_
  refine g_aload_n (i := 0) hX dX0_copyFrom_4 rfl rfl rfl ?_
  refine g_getR hX fl_X0_9 rfl rfl dX0_copyFrom_5 rfl ?_
  refine g_callNv hX (c_X7_copyAllr E _ 115 15 _ _ _ rfl rfl rfl (M 115) rfl) kf_X7_copyAll rfl (List.mem_of_getElem? (i := 10) rfl) rfl rfl rfl rfl dX0_copyFrom_8 rfl (fun M8 h8 => ?_)
  subst h8
  refine g_aload_n (i := 0) hX dX0_copyFrom_11 rfl rfl rfl ?_
  refine g_aload_n (i := 1) hX dX0_copyFrom_12 rfl rfl rfl ?_
  refine g_getI hX fl_X0_19 rfl rfl dX0_copyFrom_13 rfl ?_
  refine g_putZ hX fp_X0_19 rfl rfl (hz1) dX0_copyFrom_16 rfl ?_
  refine g_aload_n (i := 0) hX dX0_copyFrom_19 rfl rfl rfl ?_
  refine g_aload_n (i := 1) hX dX0_copyFrom_20 rfl rfl rfl ?_
  refine g_getI hX fl_X0_23 rfl rfl dX0_copyFrom_21 rfl ?_
  refine g_putZ hX fp_X0_23 rfl rfl (hz2) dX0_copyFrom_24 rfl ?_
  refine g_aload_n (i := 0) hX dX0_copyFrom_27 rfl rfl rfl ?_
  refine g_aload_n (i := 1) hX dX0_copyFrom_28 rfl rfl rfl ?_
  refine g_getI hX fl_X0_26 rfl rfl dX0_copyFrom_29 rfl ?_
  refine g_putI hX fp_X0_26 rfl rfl dX0_copyFrom_32 rfl ?_
  refine g_aload_n (i := 0) hX dX0_copyFrom_35 rfl rfl rfl ?_
  refine g_aload_n (i := 1) hX dX0_copyFrom_36 rfl rfl rfl ?_
  refine g_getI hX fl_X0_30 rfl rfl dX0_copyFrom_37 rfl ?_
  refine g_putI hX fp_X0_30 rfl rfl dX0_copyFrom_40 rfl ?_
  refine gG_row (sh := _) (r' := M 114) rfl (gEq.obj (fun _ => rfl)) ?_
  refine g_vret hX hR dX0_copyFrom_43 ?_
  first | rfl | (simp only [gset_gset]; done) | (simp only [gset_gset]; rfl)
theorem c_X1_copyFrom_1_101 (E : gE) (M : gM) : gMet E k_X1_copyFrom [.ref 16, .ref 116] M (gVoid fun M' => M' = gset (gset (gset (gset (gset (gset (gset (gset (gset M 17 (M 117)) 18 (M 118)) 19 (M 119)) 20 (M 120)) 21 (M 121)) 22 (M 122)) 23 (M 123)) 24 (M 124)) 16 (M 116)) := by
  refine gMet.of (by decide +kernel) rfl (Nat.le_of_ble_eq_true rfl) (fun X hX hR => ?_)
  refine g_aload_n (i := 1) hX dX1_copyFrom_0 rfl rfl rfl ?_
  refine g_getR hX fl_X1_9 rfl rfl dX1_copyFrom_1 rfl ?_
  refine g_aload_n (i := 0) hX dX1_copyFrom_4 rfl rfl rfl ?_
  refine g_getR hX fl_X1_9 rfl rfl dX1_copyFrom_5 rfl ?_
  refine g_callNv hX (c_X7_copyAllr E _ 117 17 _ _ _ rfl rfl rfl (M 117) rfl) kf_X7_copyAll rfl (List.mem_of_getElem? (i := 11) rfl) rfl rfl rfl rfl dX1_copyFrom_8 rfl (fun M8 h8 => ?_)
  subst h8
  refine g_aload_n (i := 1) hX dX1_copyFrom_11 rfl rfl rfl ?_
  refine g_getR hX fl_X1_15 rfl rfl dX1_copyFrom_12 rfl ?_
  refine g_aload_n (i := 0) hX dX1_copyFrom_15 rfl rfl rfl ?_
  refine g_getR hX fl_X1_15 rfl rfl dX1_copyFrom_16 rfl ?_
  refine g_callNv hX (c_X7_copyAllr E _ 118 18 _ _ _ rfl rfl rfl (M 118) rfl) kf_X7_copyAll rfl (List.mem_of_getElem? (i := 11) rfl) rfl rfl rfl rfl dX1_copyFrom_19 rfl (fun M19 h19 => ?_)
  subst h19
  refine g_aload_n (i := 1) hX dX1_copyFrom_22 rfl rfl rfl ?_
  refine g_getR hX fl_X1_18 rfl rfl dX1_copyFrom_23 rfl ?_
  refine g_aload_n (i := 0) hX dX1_copyFrom_26 rfl rfl rfl ?_
  refine g_getR hX fl_X1_18 rfl rfl dX1_copyFrom_27 rfl ?_
  refine g_callNv hX (c_X7_copyAllr E _ 119 19 _ _ _ rfl rfl rfl (M 119) rfl) kf_X7_copyAll rfl (List.mem_of_getElem? (i := 11) rfl) rfl rfl rfl rfl dX1_copyFrom_30 rfl (fun M30 h30 => ?_)
  subst h30
  refine g_aload_n (i := 1) hX dX1_copyFrom_33 rfl rfl rfl ?_
  refine g_getR hX fl_X1_21 rfl rfl dX1_copyFrom_34 rfl ?_
  refine g_aload_n (i := 0) hX dX1_copyFrom_37 rfl rfl rfl ?_
  refine g_getR hX fl_X1_21 rfl rfl dX1_copyFrom_38 rfl ?_
  refine g_callNv hX (c_X7_copyAllr E _ 120 20 _ _ _ rfl rfl rfl (M 120) rfl) kf_X7_copyAll rfl (List.mem_of_getElem? (i := 11) rfl) rfl rfl rfl rfl dX1_copyFrom_41 rfl (fun M41 h41 => ?_)
  subst h41
  refine g_aload_n (i := 1) hX dX1_copyFrom_44 rfl rfl rfl ?_
  refine g_getR hX fl_X1_24 rfl rfl dX1_copyFrom_45 rfl ?_
  refine g_aload_n (i := 0) hX dX1_copyFrom_48 rfl rfl rfl ?_
  refine g_getR hX fl_X1_24 rfl rfl dX1_copyFrom_49 rfl ?_
  refine g_callNv hX (c_X7_copyAllr E _ 121 21 _ _ _ rfl rfl rfl (M 121) rfl) kf_X7_copyAll rfl (List.mem_of_getElem? (i := 11) rfl) rfl rfl rfl rfl dX1_copyFrom_52 rfl (fun M52 h52 => ?_)
  subst h52
  refine g_aload_n (i := 1) hX dX1_copyFrom_55 rfl rfl rfl ?_
  refine g_getR hX fl_X1_27 rfl rfl dX1_copyFrom_56 rfl ?_
  refine g_aload_n (i := 0) hX dX1_copyFrom_59 rfl rfl rfl ?_
  refine g_getR hX fl_X1_27 rfl rfl dX1_copyFrom_60 rfl ?_
  refine g_callNv hX (c_X7_copyAllr E _ 122 22 _ _ _ rfl rfl rfl (M 122) rfl) kf_X7_copyAll rfl (List.mem_of_getElem? (i := 11) rfl) rfl rfl rfl rfl dX1_copyFrom_63 rfl (fun M63 h63 => ?_)
  subst h63
  refine g_aload_n (i := 1) hX dX1_copyFrom_66 rfl rfl rfl ?_
  refine g_getR hX fl_X1_30 rfl rfl dX1_copyFrom_67 rfl ?_
  refine g_aload_n (i := 0) hX dX1_copyFrom_70 rfl rfl rfl ?_
  refine g_getR hX fl_X1_30 rfl rfl dX1_copyFrom_71 rfl ?_
  refine g_callNv hX (c_X7_copyAllr E _ 123 23 _ _ _ rfl rfl rfl (M 123) rfl) kf_X7_copyAll rfl (List.mem_of_getElem? (i := 11) rfl) rfl rfl rfl rfl dX1_copyFrom_74 rfl (fun M74 h74 => ?_)
  subst h74
  refine g_aload_n (i := 1) hX dX1_copyFrom_77 rfl rfl rfl ?_
  refine g_getR hX fl_X1_33 rfl rfl dX1_copyFrom_78 rfl ?_
  refine g_aload_n (i := 0) hX dX1_copyFrom_81 rfl rfl rfl ?_
  refine g_getR hX fl_X1_33 rfl rfl dX1_copyFrom_82 rfl ?_
  refine g_callNv hX (c_X7_copyAllr E _ 124 24 _ _ _ rfl rfl rfl (M 124) rfl) kf_X7_copyAll rfl (List.mem_of_getElem? (i := 11) rfl) rfl rfl rfl rfl dX1_copyFrom_85 rfl (fun M85 h85 => ?_)
  subst h85
  refine g_aload_n (i := 0) hX dX1_copyFrom_88 rfl rfl rfl ?_
  refine g_aload_n (i := 1) hX dX1_copyFrom_89 rfl rfl rfl ?_
  refine g_getI hX fl_X1_40 rfl rfl dX1_copyFrom_90 rfl ?_
  refine g_putI hX fp_X1_40 rfl rfl dX1_copyFrom_93 rfl ?_
  refine g_aload_n (i := 0) hX dX1_copyFrom_96 rfl rfl rfl ?_
  refine g_aload_n (i := 1) hX dX1_copyFrom_97 rfl rfl rfl ?_
  refine g_getI hX fl_X1_44 rfl rfl dX1_copyFrom_98 rfl ?_
  refine g_putI hX fp_X1_44 rfl rfl dX1_copyFrom_101 rfl ?_
  refine gG_row (sh := _) (r' := M 116) rfl (gEq.obj (fun _ => rfl)) ?_
  refine g_vret hX hR dX1_copyFrom_104 ?_
  first | rfl | (simp only [gset_gset]; done) | (simp only [gset_gset]; rfl)
theorem c_X5_copyFrom_1_101 (E : gE) (M : gM) (hz1 : M 114 1 = 0 ∨ M 114 1 = 1) (hz2 : M 114 2 = 0 ∨ M 114 2 = 1) : gMet E k_X5_copyFrom [.ref 1, .ref 101] M (gVoid fun M' => M' = cpS M 1 101) := by
  refine gMet.of (by decide +kernel) rfl (Nat.le_of_ble_eq_true rfl) (fun X hX hR => ?_)
  refine g_aload_n (i := 0) hX dX5_copyFrom_0 rfl rfl rfl ?_
  refine g_getR hX fl_X5_12 rfl rfl dX5_copyFrom_1 rfl ?_
  refine g_aload_n (i := 1) hX dX5_copyFrom_4 rfl rfl rfl ?_
  refine g_getR hX fl_X5_12 rfl rfl dX5_copyFrom_5 rfl ?_
  refine g_callVv hX (c_X4_copyFrom_1_101 E _) kf_X4_copyFrom rfl wk_X5_51 rfl rfl rfl rfl rfl dX5_copyFrom_8 rfl (fun M8 h8 => ?_)
  subst h8
  refine g_aload_n (i := 0) hX dX5_copyFrom_11 rfl rfl rfl ?_
  refine g_getR hX fl_X5_21 rfl rfl dX5_copyFrom_12 rfl ?_
  refine g_aload_n (i := 1) hX dX5_copyFrom_15 rfl rfl rfl ?_
  refine g_getR hX fl_X5_21 rfl rfl dX5_copyFrom_16 rfl ?_
  refine g_callVv hX (c_X2_copyFrom_1_101 E _) kf_X2_copyFrom rfl wk_X5_55 rfl rfl rfl rfl rfl dX5_copyFrom_19 rfl (fun M19 h19 => ?_)
  subst h19
  refine g_aload_n (i := 0) hX dX5_copyFrom_22 rfl rfl rfl ?_
  refine g_getR hX fl_X5_28 rfl rfl dX5_copyFrom_23 rfl ?_
  refine g_aload_n (i := 1) hX dX5_copyFrom_26 rfl rfl rfl ?_
  refine g_getR hX fl_X5_28 rfl rfl dX5_copyFrom_27 rfl ?_
  refine g_callVv hX (c_X0_copyFrom_1_101 E _ hz1 hz2) kf_X0_copyFrom rfl wk_X5_58 rfl rfl rfl rfl rfl dX5_copyFrom_30 rfl (fun M30 h30 => ?_)
  subst h30
  refine g_aload_n (i := 0) hX dX5_copyFrom_33 rfl rfl rfl ?_
  refine g_getR hX fl_X5_35 rfl rfl dX5_copyFrom_34 rfl ?_
  refine g_aload_n (i := 1) hX dX5_copyFrom_37 rfl rfl rfl ?_
  refine g_getR hX fl_X5_35 rfl rfl dX5_copyFrom_38 rfl ?_
  refine g_callVv hX (c_X1_copyFrom_1_101 E _) kf_X1_copyFrom rfl wk_X5_61 rfl rfl rfl rfl rfl dX5_copyFrom_41 rfl (fun M41 h41 => ?_)
  subst h41
  refine g_aload_n (i := 1) hX dX5_copyFrom_44 rfl rfl rfl ?_
  refine g_getR hX fl_X5_48 rfl rfl dX5_copyFrom_45 rfl ?_
  refine g_aload_n (i := 0) hX dX5_copyFrom_48 rfl rfl rfl ?_
  refine g_getR hX fl_X5_48 rfl rfl dX5_copyFrom_49 rfl ?_
  refine g_callNv hX (c_X7_copyAllr E _ 125 25 _ _ _ rfl rfl rfl (M 125) rfl) kf_X7_copyAll rfl (List.mem_of_getElem? (i := 12) rfl) rfl rfl rfl rfl dX5_copyFrom_52 rfl (fun M52 h52 => ?_)
  subst h52
  refine g_aload_n (i := 0) hX dX5_copyFrom_55 rfl rfl rfl ?_
  refine g_aload_n (i := 1) hX dX5_copyFrom_56 rfl rfl rfl ?_
  refine g_getI hX fl_X5_68 rfl rfl dX5_copyFrom_57 rfl ?_
  refine g_putI hX fp_X5_68 rfl rfl dX5_copyFrom_60 rfl ?_
  refine gG_row (sh := _) (r' := M 101) rfl (gEq.obj (fun _ => rfl)) ?_
  refine g_vret hX hR dX5_copyFrom_63 ?_
  funext b
  by_cases hb : 1 ≤ b ∧ b < 26
  · have : b = 1 ∨ b = 2 ∨ b = 3 ∨ b = 4 ∨ b = 5 ∨ b = 6 ∨ b = 7 ∨ b = 8 ∨ b = 9 ∨ b = 10 ∨ b = 11 ∨ b = 12 ∨ b = 13 ∨ b = 14 ∨ b = 15 ∨ b = 16 ∨ b = 17 ∨ b = 18 ∨ b = 19 ∨ b = 20 ∨ b = 21 ∨ b = 22 ∨ b = 23 ∨ b = 24 ∨ b = 25 := by omega
    rcases this with rfl | rfl | rfl | rfl | rfl | rfl | rfl | rfl | rfl | rfl | rfl | rfl | rfl | rfl | rfl | rfl | rfl | rfl | rfl | rfl | rfl | rfl | rfl | rfl | rfl <;> rfl
  · simp only [cpS, if_neg hb, gset]
    rw [if_neg (show ¬ b = 1 by omega), if_neg (show ¬ b = 25 by omega), if_neg (show ¬ b = 16 by omega), if_neg (show ¬ b = 24 by omega), if_neg (show ¬ b = 23 by omega), if_neg (show ¬ b = 22 by omega), if_neg (show ¬ b = 21 by omega), if_neg (show ¬ b = 20 by omega), if_neg (show ¬ b = 19 by omega), if_neg (show ¬ b = 18 by omega), if_neg (show ¬ b = 17 by omega), if_neg (show ¬ b = 14 by omega), if_neg (show ¬ b = 15 by omega), if_neg (show ¬ b = 7 by omega), if_neg (show ¬ b = 13 by omega), if_neg (show ¬ b = 12 by omega), if_neg (show ¬ b = 11 by omega), if_neg (show ¬ b = 10 by omega), if_neg (show ¬ b = 9 by omega), if_neg (show ¬ b = 8 by omega), if_neg (show ¬ b = 2 by omega), if_neg (show ¬ b = 6 by omega), if_neg (show ¬ b = 5 by omega), if_neg (show ¬ b = 4 by omega), if_neg (show ¬ b = 3 by omega)]

