theorem df_X0 : ∀ j, j < 5 → defaultValue (tyX0 j) = vp_V [.null, .int 0, .int 0, .int 0, .int 0] j := fun j hj => by rcases (show j = 0 ∨ j = 1 ∨ j = 2 ∨ j = 3 ∨ j = 4 by omega) with rfl | rfl | rfl | rfl | rfl <;> rfl
theorem df_X1 : ∀ j, j < 10 → defaultValue (tyX1 j) = vp_V [.null, .null, .null, .null, .null, .null, .null, .null, .int 0, .int 0] j := fun j hj => by rcases (show j = 0 ∨ j = 1 ∨ j = 2 ∨ j = 3 ∨ j = 4 ∨ j = 5 ∨ j = 6 ∨ j = 7 ∨ j = 8 ∨ j = 9 by omega) with rfl | rfl | rfl | rfl | rfl | rfl | rfl | rfl | rfl | rfl <;> rfl
theorem df_X2 : ∀ j, j < 8 → defaultValue (tyX2 j) = vp_V [.null, .null, .null, .null, .null, .null, .int 0, .int 0] j := fun j hj => by rcases (show j = 0 ∨ j = 1 ∨ j = 2 ∨ j = 3 ∨ j = 4 ∨ j = 5 ∨ j = 6 ∨ j = 7 by omega) with rfl | rfl | rfl | rfl | rfl | rfl | rfl | rfl <;> rfl
theorem df_X3 : ∀ j, j < 3 → defaultValue (tyX3 j) = vp_V [.null, .int 0, .int 0] j := fun j hj => by rcases (show j = 0 ∨ j = 1 ∨ j = 2 by omega) with rfl | rfl | rfl <;> rfl
theorem df_X4 : ∀ j, j < 5 → defaultValue (tyX4 j) = vp_V [.null, .null, .null, .null, .int 0] j := fun j hj => by rcases (show j = 0 ∨ j = 1 ∨ j = 2 ∨ j = 3 ∨ j = 4 by omega) with rfl | rfl | rfl | rfl | rfl <;> rfl
theorem df_X5 : ∀ j, j < 6 → defaultValue (tyX5 j) = vp_V [.null, .null, .null, .null, .null, .int 0] j := fun j hj => by rcases (show j = 0 ∨ j = 1 ∨ j = 2 ∨ j = 3 ∨ j = 4 ∨ j = 5 by omega) with rfl | rfl | rfl | rfl | rfl | rfl <;> rfl
theorem df_X6 : ∀ j, j < 7 → defaultValue (tyX6 j) = vp_V [.null, .int 0, .int 0, .int 0, .int 0, .int 0, .int 0] j := fun j hj => by rcases (show j = 0 ∨ j = 1 ∨ j = 2 ∨ j = 3 ∨ j = 4 ∨ j = 5 ∨ j = 6 by omega) with rfl | rfl | rfl | rfl | rfl | rfl | rfl <;> rfl
theorem df_X7 : ∀ j, j < 3 → defaultValue (tyX7 j) = vp_V [.null, .null, .null] j := fun j hj => by rcases (show j = 0 ∨ j = 1 ∨ j = 2 by omega) with rfl | rfl | rfl <;> rfl
def shSt : List gSh := (0, 5, [some 1, some 6, some 13, some 15, some 24, none]) :: (gcat shMe (gcat shDo (gcat shBa (gcat shCo [(1, 5, [])])))).map (gsf 1)
def zSt : gM := gpre (fun _ => 0) (glu 5 zA (glu 7 zD (glu 2 zA (glu 9 zA (fun _ => gFi)))))
theorem blk_St {B : bB} {h0 q5 : Nat} {ρ1 ρ2 ρ3 ρ4 : Nat → Nat} : blk B (gpre h0 (glu 5 ρ1 (glu 7 ρ2 (glu 2 ρ3 (glu 9 ρ4 (fun _ => q5)))))) shSt zSt = (h0, .inr (5, [.ref (ρ1 0), .ref (ρ2 0), .ref (ρ3 0), .ref (ρ4 0), .ref q5, .int 0])) :: (blk B ρ1 shMe zA ++ (blk B ρ2 shDo zD ++ (blk B ρ3 shBa zA ++ (blk B ρ4 shCo zA ++ [(q5, .inl (B.2.2.1, 5, .inl gFi))])))) := by
  rw [shSt, zSt, blk_cons, blk_cat (n := 5) (s1 := shMe) rfl rfl, blk_cat (n := 7) (s1 := shDo) rfl rfl, blk_cat (n := 2) (s1 := shBa) rfl rfl, blk_cat (n := 9) (s1 := shCo) rfl rfl]
  rfl
set_option maxRecDepth 20000 in
theorem c_X5_init (B : bB) : bMet B k_X5_init 24 871 5 [.null, .null, .null, .null, .null, .int 0] 0 shSt zSt := by
  refine bMet.of (by decide +kernel) rfl rfl (Nat.le_of_ble_eq_true rfl) (fun h0 sz X hX hI hH => ?_)
  refine b_aload hX 0 rfl dX5_init_0 rfl rfl ?_
  refine b_objInit hX wk_X5_3 dX5_init_1 rfl rfl (Nat.le_of_ble_eq_true rfl) rfl ?_
  refine b_aload hX 0 rfl dX5_init_4 rfl rfl ?_
  refine b_new hX tyX4 (T := TX4) (N := 5) (ci := 4) rfl wu_X4 tyX4_ok wn_X5_9 wt_X4 wi_X4 [.null, .null, .null, .null, .int 0] df_X4 rfl rfl dX5_init_5 rfl (fun q1 => ?_)
  refine b_dup hX dX5_init_8 rfl rfl ?_
  refine b_callN hX (c_X4_init B) kb_X4_init rfl (List.mem_of_getElem? (i := 1) rfl) (Nat.le_of_ble_eq_true rfl) rfl rfl dX5_init_9 rfl (fun ρ1 h1 => ?_)
  subst h1
  refine b_putF hX hI ff_X5_12 0 rfl (Nat.le_of_ble_eq_true rfl) dX5_init_12 rfl ?_
  change bG X B ([(h0, .inr (5, [.ref (ρ1 0), .null, .null, .null, .null, .int 0]))] ++ blk B ρ1 shMe zA) 5 45 15 [(0, .ref h0)] [] _
  refine b_aload hX 0 rfl dX5_init_15 rfl rfl ?_
  refine b_new hX tyX2 (T := TX2) (N := 8) (ci := 2) rfl wu_X2 tyX2_ok wn_X5_18 wt_X2 wi_X2 [.null, .null, .null, .null, .null, .null, .int 0, .int 0] df_X2 rfl rfl dX5_init_16 rfl (fun q2 => ?_)
  refine b_dup hX dX5_init_19 rfl rfl ?_
  refine b_callN hX (c_X2_init B) kb_X2_init rfl (List.mem_of_getElem? (i := 2) rfl) (Nat.le_of_ble_eq_true rfl) rfl rfl dX5_init_20 rfl (fun ρ2 h2 => ?_)
  subst h2
  refine b_putF hX hI ff_X5_21 0 rfl (Nat.le_of_ble_eq_true rfl) dX5_init_23 rfl ?_
  change bG X B ([(h0, .inr (5, [.ref (ρ1 0), .ref (ρ2 0), .null, .null, .null, .int 0]))] ++ blk B ρ1 shMe zA ++ blk B ρ2 shDo zD) 12 605 26 [(0, .ref h0)] [] _
  refine b_aload hX 0 rfl dX5_init_26 rfl rfl ?_
  refine b_new hX tyX0 (T := TX0) (N := 5) (ci := 0) rfl wu_X0 tyX0_ok wn_X5_25 wt_X0 wi_X0 [.null, .int 0, .int 0, .int 0, .int 0] df_X0 rfl rfl dX5_init_27 rfl (fun q3 => ?_)
  refine b_dup hX dX5_init_30 rfl rfl ?_
  refine b_callN hX (c_X0_init B) kb_X0_init rfl (List.mem_of_getElem? (i := 3) rfl) (Nat.le_of_ble_eq_true rfl) rfl rfl dX5_init_31 rfl (fun ρ3 h3 => ?_)
  subst h3
  refine b_putF hX hI ff_X5_28 0 rfl (Nat.le_of_ble_eq_true rfl) dX5_init_34 rfl ?_
  change bG X B ([(h0, .inr (5, [.ref (ρ1 0), .ref (ρ2 0), .ref (ρ3 0), .null, .null, .int 0]))] ++ blk B ρ1 shMe zA ++ blk B ρ2 shDo zD ++ blk B ρ3 shBa zA) 14 616 37 [(0, .ref h0)] [] _
  refine b_aload hX 0 rfl dX5_init_37 rfl rfl ?_
  refine b_new hX tyX1 (T := TX1) (N := 10) (ci := 1) rfl wu_X1 tyX1_ok wn_X5_32 wt_X1 wi_X1 [.null, .null, .null, .null, .null, .null, .null, .null, .int 0, .int 0] df_X1 rfl rfl dX5_init_38 rfl (fun q4 => ?_)
  refine b_dup hX dX5_init_41 rfl rfl ?_
  refine b_callN hX (c_X1_init B) kb_X1_init rfl (List.mem_of_getElem? (i := 4) rfl) (Nat.le_of_ble_eq_true rfl) rfl rfl dX5_init_42 rfl (fun ρ4 h4 => ?_)
  subst h4
  refine b_putF hX hI ff_X5_35 0 rfl (Nat.le_of_ble_eq_true rfl) dX5_init_45 rfl ?_
  change bG X B ([(h0, .inr (5, [.ref (ρ1 0), .ref (ρ2 0), .ref (ρ3 0), .ref (ρ4 0), .null, .int 0]))] ++ blk B ρ1 shMe zA ++ blk B ρ2 shDo zD ++ blk B ρ3 shBa zA ++ blk B ρ4 shCo zA) 23 866 48 [(0, .ref h0)] [] _
  refine b_aload hX 0 rfl dX5_init_48 rfl rfl ?_
  refine b_first hX rfl rfl (Nat.le_of_ble_eq_true rfl) rfl rfl dX5_init_49 dX5_init_52 dX5_init_55 rfl (fun q5 => ?_)
  refine b_putF hX hI ff_X5_48 0 rfl (Nat.le_of_ble_eq_true rfl) dX5_init_58 rfl ?_
  change bG X B ([(h0, .inr (5, [.ref (ρ1 0), .ref (ρ2 0), .ref (ρ3 0), .ref (ρ4 0), .ref q5, .int 0]))] ++ blk B ρ1 shMe zA ++ blk B ρ2 shDo zD ++ blk B ρ3 shBa zA ++ blk B ρ4 shCo zA ++ [(q5, .inl (B.2.2.1, 5, .inl gFi))]) 24 871 61 [(0, .ref h0)] [] _
  refine b_vret hX hI hH dX5_init_61 (gpre h0 (glu 5 ρ1 (glu 7 ρ2 (glu 2 ρ3 (glu 9 ρ4 (fun _ => q5)))))) rfl (fun hP hD => ?_)
  rw [blk_St]
  simp only [List.append_assoc, List.cons_append, List.nil_append] at hP hD
  exact ⟨hP, hD⟩

