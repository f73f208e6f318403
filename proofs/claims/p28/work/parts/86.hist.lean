section
variable {X : bX} {B : bB} {cc : ByteArray} {own : String} {nL f lo mc ms : Nat} {ws : va_W} {cells slots pc n : Nat} {ls : List (Nat × Value)} {st : List Value} {Q : State → Prop}
theorem b_ge (hX : bOk X B cc own nL f lo mc ms) {off : Int} {tgt : Nat} {x y : Int32} (hd : decode cc pc = .ok (.if_icmp .ge off, 3)) (ht : (pc : Int) + off = (tgt : Int)) (hn : pc + 3 = n) (k1 : y ≤ x → bG X B ws cells slots tgt ls st Q) (k2 : ¬ y ≤ x → bG X B ws cells slots n ls st Q) : bG X B ws cells slots pc ls (.int y :: .int x :: st) Q := by
  obtain ⟨p, e, R, s, m, args, below, meth, c, A⟩ := X
  intro H locs lsr hP hD hS hL
  subst hn
  exact lv_icmp_ge (tgt := tgt) hX.1.1 hX.1.2.1 hd ht (fun c => k1 c H locs lsr hP hD hS hL) (fun c => k2 c H locs lsr hP hD hS hL)
theorem b_iinc (hX : bOk X B cc own nL f lo mc ms) {i : Nat} {z : Int} {x v : Int32} {ls' : List (Nat × Value)} (j : Nat) (hl : ls[j]? = some (i, .int x)) (hd : decode cc pc = .ok (.iinc i z, 3)) (hv : x + Int32.ofInt z = v) (hlt : i < nL) (hl' : (i, Value.int v) :: ls.filter (fun q => !(q.1 == i) && !(q.1 + 1 == i && q.2.category == 2)) = ls') (hn : pc + 3 = n) (kk : bG X B ws cells slots n ls' st Q) : bG X B ws cells slots pc ls st Q := by
  obtain ⟨p, e, R, s, m, args, below, meth, c, A⟩ := X
  intro H locs lsr hP hD hS hL
  subst hn
  subst hv
  exact lv_iinc hX.1.1 hX.1.2.1 hd hL (k := j) hl rfl (by rw [hX.1.2.2.1]; exact hlt) hl' (fun lsr' h' => kk H locs lsr' hP hD hS h')
end
theorem shSt_len : shSt.length = 25 := rfl
theorem b_head {B : bB} {ρ : Nat → Nat} {M : gM} {w0 : va_W} {n : Nat} (hn : w0.length = n) : (w0 ++ blk B ρ shSt M)[n]? = some (ρ 0, gcell (bE B ρ) (M 0) (0, 5, [some 1, some 6, some 13, some 15, some 24, none])) := by
  subst hn
  rw [List.getElem?_append_right (Nat.le_refl _), Nat.sub_self]
  exact blk_get rfl
def shHi : List gSh := (0, 3, [some 1, none, none]) :: ((3, 4, [some 1, some 26, some 51, some 76]) :: (gcat shSt (gcat shSt (gcat shSt shSt))).map (gsf 1)).map (gsf 1)
def zHi : gM := gpre (fun _ => 0) (gpre (fun _ => 0) (glu 25 zSt (glu 25 zSt (glu 25 zSt zSt))))
theorem shSt_cl : gcl shSt = true := by decide +kernel
theorem blk_Hi {B : bB} {h0 qa : Nat} {ρ1 ρ2 ρ3 ρ4 : Nat → Nat} : blk B (gpre h0 (gpre qa (glu 25 ρ1 (glu 25 ρ2 (glu 25 ρ3 ρ4))))) shHi zHi = (h0, .inr (3, [.ref qa, .int 0, .int 0])) :: (qa, .inl (B.2.2.2.2, 4, .inr (.inr (.inr (.inr (va_up (va_up (va_up (va_up (fun _ => none) 0 (some (ρ1 0))) 1 (some (ρ2 0))) 2 (some (ρ3 0))) 3 (some (ρ4 0)))))))) :: (blk B ρ1 shSt zSt ++ (blk B ρ2 shSt zSt ++ (blk B ρ3 shSt zSt ++ blk B ρ4 shSt zSt))) := by
  rw [shHi, zHi, blk_cons, blk_cons, blk_cat (n := 25) (s1 := shSt) rfl shSt_cl, blk_cat (n := 25) (s1 := shSt) rfl shSt_cl, blk_cat (n := 25) (s1 := shSt) rfl shSt_cl]
  have e : (fun k => (([some 1, some 26, some 51, some 76] : List (Option Nat)).getD k none).map (gpre qa (glu 25 ρ1 (glu 25 ρ2 (glu 25 ρ3 ρ4))))) = va_up (va_up (va_up (va_up (fun _ => none) 0 (some (ρ1 0))) 1 (some (ρ2 0))) 2 (some (ρ3 0))) 3 (some (ρ4 0)) := by
    funext k
    match k with
    | 0 => rfl
    | 1 => rfl
    | 2 => rfl
    | 3 => rfl
    | k + 4 =>
      have h1 : va_up (va_up (va_up (va_up (fun _ => none) 0 (some (ρ1 0))) 1 (some (ρ2 0))) 2 (some (ρ3 0))) 3 (some (ρ4 0)) (k + 4) = none := by simp [va_up]
      rw [h1]
      rfl
  rw [← e]
  rfl
set_option maxRecDepth 20000 in
theorem c_X3_init (B : bB) : bMet B k_X3_init 101 3512 3 [.null, .int 0, .int 0] 0 shHi zHi := by
  refine bMet.of (by decide +kernel) rfl rfl (Nat.le_of_ble_eq_true rfl) (fun h0 sz X hX hI hH => ?_)
  refine b_aload hX 0 rfl dX3_init_0 rfl rfl ?_
  refine b_objInit hX wk_X3_3 dX3_init_1 rfl rfl (Nat.le_of_ble_eq_true rfl) rfl ?_
  refine b_aload hX 0 rfl dX3_init_4 rfl rfl ?_
  refine b_iconst hX (v := 4) dX3_init_5 rfl rfl ?_
  refine b_newq hX (N := 4) wn_X3_9 (by decide) rfl rfl rfl rfl dX3_init_6 rfl (fun qa => ?_)
  refine b_putF hX hI ff_X3_11 0 rfl (Nat.le_of_ble_eq_true rfl) dX3_init_9 rfl ?_
  change bG X B ([(h0, .inr (3, [.ref qa, .int 0, .int 0])), (qa, .inl (B.2.2.2.2, 4, .inr (.inr (.inr (.inr (fun _ => none))))))]) 1 4 12 [(0, .ref h0)] [] _
  refine b_iconst hX (v := 0) dX3_init_12 rfl rfl ?_
  refine b_istore hX (ls' := [(1, .int 0), (0, .ref h0)]) dX3_init_13 rfl (by decide) rfl rfl ?_
  refine b_iload hX 0 rfl dX3_init_14 rfl rfl ?_
  refine b_iconst hX (v := 4) dX3_init_15 rfl rfl ?_
  refine b_ge hX (tgt := 38) dX3_init_16 (by decide) rfl (fun z => absurd z (by decide)) (fun _ => ?_)
  refine b_aload hX 1 rfl dX3_init_19 rfl rfl ?_
  refine b_get hX fl_X3_11 0 rfl rfl dX3_init_20 rfl ?_
  refine b_iload hX 0 rfl dX3_init_23 rfl rfl ?_
  refine b_new hX tyX5 (T := TX5) (N := 6) (ci := 5) rfl wu_X5 tyX5_ok wn_X3_9 wt_X5 wi_X5 [.null, .null, .null, .null, .null, .int 0] df_X5 rfl rfl dX3_init_24 rfl (fun q1 => ?_)
  refine b_dup hX dX3_init_27 rfl rfl ?_
  refine b_callN hX (c_X5_init B) kb_X5_init rfl (List.mem_of_getElem? (i := 6) rfl) (Nat.le_of_ble_eq_true rfl) rfl rfl dX3_init_28 rfl (fun ρ1 h1 => ?_)
  subst h1
  refine b_astq hX (j := 0) 1 2 rfl (b_head (by simp [blk_len, shSt_len])) (by decide) rfl rfl dX3_init_31 rfl ?_
  change bG X B ([(h0, .inr (3, [.ref qa, .int 0, .int 0])), (qa, .inl (B.2.2.2.2, 4, .inr (.inr (.inr (.inr (va_up (fun _ => none) 0 (some (ρ1 0))))))))] ++ blk B ρ1 shSt zSt) 26 881 32 [(1, .int 0), (0, .ref h0)] [] _
  refine b_iinc hX (v := 1) (ls' := [(1, .int 1), (0, .ref h0)]) 0 rfl dX3_init_32 rfl (by decide) rfl rfl ?_
  refine b_goto hX (n := 14) dX3_init_35 (by decide) ?_
  refine b_iload hX 0 rfl dX3_init_14 rfl rfl ?_
  refine b_iconst hX (v := 4) dX3_init_15 rfl rfl ?_
  refine b_ge hX (tgt := 38) dX3_init_16 (by decide) rfl (fun z => absurd z (by decide)) (fun _ => ?_)
  refine b_aload hX 1 rfl dX3_init_19 rfl rfl ?_
  refine b_get hX fl_X3_11 0 rfl rfl dX3_init_20 rfl ?_
  refine b_iload hX 0 rfl dX3_init_23 rfl rfl ?_
  refine b_new hX tyX5 (T := TX5) (N := 6) (ci := 5) rfl wu_X5 tyX5_ok wn_X3_9 wt_X5 wi_X5 [.null, .null, .null, .null, .null, .int 0] df_X5 rfl rfl dX3_init_24 rfl (fun q2 => ?_)
  refine b_dup hX dX3_init_27 rfl rfl ?_
  refine b_callN hX (c_X5_init B) kb_X5_init rfl (List.mem_of_getElem? (i := 6) rfl) (Nat.le_of_ble_eq_true rfl) rfl rfl dX3_init_28 rfl (fun ρ2 h2 => ?_)
  subst h2
  refine b_astq hX (j := 1) 1 27 rfl (b_head (by simp [blk_len, shSt_len])) (by decide) rfl rfl dX3_init_31 rfl ?_
  change bG X B ([(h0, .inr (3, [.ref qa, .int 0, .int 0])), (qa, .inl (B.2.2.2.2, 4, .inr (.inr (.inr (.inr (va_up (va_up (fun _ => none) 0 (some (ρ1 0))) 1 (some (ρ2 0))))))))] ++ blk B ρ1 shSt zSt ++ blk B ρ2 shSt zSt) 51 1758 32 [(1, .int 1), (0, .ref h0)] [] _
  refine b_iinc hX (v := 2) (ls' := [(1, .int 2), (0, .ref h0)]) 0 rfl dX3_init_32 rfl (by decide) rfl rfl ?_
  refine b_goto hX (n := 14) dX3_init_35 (by decide) ?_
  refine b_iload hX 0 rfl dX3_init_14 rfl rfl ?_
  refine b_iconst hX (v := 4) dX3_init_15 rfl rfl ?_
  refine b_ge hX (tgt := 38) dX3_init_16 (by decide) rfl (fun z => absurd z (by decide)) (fun _ => ?_)
  refine b_aload hX 1 rfl dX3_init_19 rfl rfl ?_
  refine b_get hX fl_X3_11 0 rfl rfl dX3_init_20 rfl ?_
  refine b_iload hX 0 rfl dX3_init_23 rfl rfl ?_
  refine b_new hX tyX5 (T := TX5) (N := 6) (ci := 5) rfl wu_X5 tyX5_ok wn_X3_9 wt_X5 wi_X5 [.null, .null, .null, .null, .null, .int 0] df_X5 rfl rfl dX3_init_24 rfl (fun q3 => ?_)
  refine b_dup hX dX3_init_27 rfl rfl ?_
  refine b_callN hX (c_X5_init B) kb_X5_init rfl (List.mem_of_getElem? (i := 6) rfl) (Nat.le_of_ble_eq_true rfl) rfl rfl dX3_init_28 rfl (fun ρ3 h3 => ?_)
  subst h3
  refine b_astq hX (j := 2) 1 52 rfl (b_head (by simp [blk_len, shSt_len])) (by decide) rfl rfl dX3_init_31 rfl ?_
  change bG X B ([(h0, .inr (3, [.ref qa, .int 0, .int 0])), (qa, .inl (B.2.2.2.2, 4, .inr (.inr (.inr (.inr (va_up (va_up (va_up (fun _ => none) 0 (some (ρ1 0))) 1 (some (ρ2 0))) 2 (some (ρ3 0))))))))] ++ blk B ρ1 shSt zSt ++ blk B ρ2 shSt zSt ++ blk B ρ3 shSt zSt) 76 2635 32 [(1, .int 2), (0, .ref h0)] [] _
  refine b_iinc hX (v := 3) (ls' := [(1, .int 3), (0, .ref h0)]) 0 rfl dX3_init_32 rfl (by decide) rfl rfl ?_
  refine b_goto hX (n := 14) dX3_init_35 (by decide) ?_
  refine b_iload hX 0 rfl dX3_init_14 rfl rfl ?_
  refine b_iconst hX (v := 4) dX3_init_15 rfl rfl ?_
  refine b_ge hX (tgt := 38) dX3_init_16 (by decide) rfl (fun z => absurd z (by decide)) (fun _ => ?_)
  refine b_aload hX 1 rfl dX3_init_19 rfl rfl ?_
  refine b_get hX fl_X3_11 0 rfl rfl dX3_init_20 rfl ?_
  refine b_iload hX 0 rfl dX3_init_23 rfl rfl ?_
  refine b_new hX tyX5 (T := TX5) (N := 6) (ci := 5) rfl wu_X5 tyX5_ok wn_X3_9 wt_X5 wi_X5 [.null, .null, .null, .null, .null, .int 0] df_X5 rfl rfl dX3_init_24 rfl (fun q4 => ?_)
  refine b_dup hX dX3_init_27 rfl rfl ?_
  refine b_callN hX (c_X5_init B) kb_X5_init rfl (List.mem_of_getElem? (i := 6) rfl) (Nat.le_of_ble_eq_true rfl) rfl rfl dX3_init_28 rfl (fun ρ4 h4 => ?_)
  subst h4
  refine b_astq hX (j := 3) 1 77 rfl (b_head (by simp [blk_len, shSt_len])) (by decide) rfl rfl dX3_init_31 rfl ?_
  change bG X B ([(h0, .inr (3, [.ref qa, .int 0, .int 0])), (qa, .inl (B.2.2.2.2, 4, .inr (.inr (.inr (.inr (va_up (va_up (va_up (va_up (fun _ => none) 0 (some (ρ1 0))) 1 (some (ρ2 0))) 2 (some (ρ3 0))) 3 (some (ρ4 0))))))))] ++ blk B ρ1 shSt zSt ++ blk B ρ2 shSt zSt ++ blk B ρ3 shSt zSt ++ blk B ρ4 shSt zSt) 101 3512 32 [(1, .int 3), (0, .ref h0)] [] _
  refine b_iinc hX (v := 4) (ls' := [(1, .int 4), (0, .ref h0)]) 0 rfl dX3_init_32 rfl (by decide) rfl rfl ?_
  refine b_goto hX (n := 14) dX3_init_35 (by decide) ?_
  refine b_iload hX 0 rfl dX3_init_14 rfl rfl ?_
  refine b_iconst hX (v := 4) dX3_init_15 rfl rfl ?_
  refine b_ge hX (tgt := 38) dX3_init_16 (by decide) rfl (fun _ => ?_) (fun z => absurd (by decide) z)
  refine b_vret hX hI hH dX3_init_38 (gpre h0 (gpre qa (glu 25 ρ1 (glu 25 ρ2 (glu 25 ρ3 ρ4))))) rfl (fun hP hD => ?_)
  rw [blk_Hi]
  simp only [List.append_assoc, List.cons_append, List.nil_append] at hP hD
  exact ⟨hP, hD⟩
def shCb : List gSh := (0, 7, [some 1, some 26, some 128]) :: (gcat shSt (gcat shHi shTx)).map (gsf 1)
def zCb : gM := gpre (fun _ => 0) (glu 25 zSt (glu 102 zHi zA))
theorem shHi_cl : gcl shHi = true := by decide +kernel
theorem shHi_len : shHi.length = 102 := by decide +kernel
theorem blk_Cb {B : bB} {h0 : Nat} {ρ1 ρ2 ρ3 : Nat → Nat} : blk B (gpre h0 (glu 25 ρ1 (glu 102 ρ2 ρ3))) shCb zCb = (h0, .inr (7, [.ref (ρ1 0), .ref (ρ2 0), .ref (ρ3 0)])) :: (blk B ρ1 shSt zSt ++ (blk B ρ2 shHi zHi ++ blk B ρ3 shTx zA)) := by
  rw [shCb, zCb, blk_cons, blk_cat (n := 25) (s1 := shSt) rfl shSt_cl, blk_cat (n := 102) (s1 := shHi) shHi_len shHi_cl]
  rfl
set_option maxRecDepth 20000 in
theorem c_X7_init (B : bB) : bMet B k_X7_init 129 4479 7 [.null, .null, .null] 0 shCb zCb := by
  refine bMet.of (by decide +kernel) rfl rfl (Nat.le_of_ble_eq_true rfl) (fun h0 sz X hX hI hH => ?_)
  refine b_aload hX 0 rfl dX7_init_0 rfl rfl ?_
  refine b_objInit hX wk_X7_1 dX7_init_1 rfl rfl (Nat.le_of_ble_eq_true rfl) rfl ?_
  refine b_aload hX 0 rfl dX7_init_4 rfl rfl ?_
  refine b_new hX tyX5 (T := TX5) (N := 6) (ci := 5) rfl wu_X5 tyX5_ok wn_X7_7 wt_X5 wi_X5 [.null, .null, .null, .null, .null, .int 0] df_X5 rfl rfl dX7_init_5 rfl (fun q1 => ?_)
  refine b_dup hX dX7_init_8 rfl rfl ?_
  refine b_callN hX (c_X5_init B) kb_X5_init rfl (List.mem_of_getElem? (i := 0) rfl) (Nat.le_of_ble_eq_true rfl) rfl rfl dX7_init_9 rfl (fun ρ1 h1 => ?_)
  subst h1
  refine b_putF hX hI ff_X7_10 0 rfl (Nat.le_of_ble_eq_true rfl) dX7_init_12 rfl ?_
  change bG X B ([(h0, .inr (7, [.ref (ρ1 0), .null, .null]))] ++ blk B ρ1 shSt zSt) 25 877 15 [(0, .ref h0)] [] _
  refine b_aload hX 0 rfl dX7_init_15 rfl rfl ?_
  refine b_new hX tyX3 (T := TX3) (N := 3) (ci := 3) rfl wu_X3 tyX3_ok wn_X7_16 wt_X3 wi_X3 [.null, .int 0, .int 0] df_X3 rfl rfl dX7_init_16 rfl (fun q2 => ?_)
  refine b_dup hX dX7_init_19 rfl rfl ?_
  refine b_callI hX (c_X3_init B) kb_X3_init rfl wk_X7_18 (Nat.le_of_ble_eq_true rfl) rfl rfl dX7_init_20 rfl (fun ρ2 h2 => ?_)
  subst h2
  refine b_putF hX hI ff_X7_19 0 rfl (Nat.le_of_ble_eq_true rfl) dX7_init_23 rfl ?_
  change bG X B ([(h0, .inr (7, [.ref (ρ1 0), .ref (ρ2 0), .null]))] ++ blk B ρ1 shSt zSt ++ blk B ρ2 shHi zHi) 127 4392 26 [(0, .ref h0)] [] _
  refine b_aload hX 0 rfl dX7_init_26 rfl rfl ?_
  refine b_new hX tyX6 (T := TX6) (N := 7) (ci := 6) rfl wu_X6 tyX6_ok wn_X7_23 wt_X6 wi_X6 [.null, .int 0, .int 0, .int 0, .int 0, .int 0, .int 0] df_X6 rfl rfl dX7_init_27 rfl (fun q3 => ?_)
  refine b_dup hX dX7_init_30 rfl rfl ?_
  refine b_callN hX (c_X6_init B) kb_X6_init rfl (List.mem_of_getElem? (i := 7) rfl) (Nat.le_of_ble_eq_true rfl) rfl rfl dX7_init_31 rfl (fun ρ3 h3 => ?_)
  subst h3
  refine b_putF hX hI ff_X7_26 0 rfl (Nat.le_of_ble_eq_true rfl) dX7_init_34 rfl ?_
  change bG X B ([(h0, .inr (7, [.ref (ρ1 0), .ref (ρ2 0), .ref (ρ3 0)]))] ++ blk B ρ1 shSt zSt ++ blk B ρ2 shHi zHi ++ blk B ρ3 shTx zA) 129 4479 37 [(0, .ref h0)] [] _
  refine b_vret hX hI hH dX7_init_37 (gpre h0 (glu 25 ρ1 (glu 102 ρ2 ρ3))) rfl (fun hP hD => ?_)
  rw [blk_Cb]
  simp only [List.append_assoc, List.cons_append, List.nil_append] at hP hD
  exact ⟨hP, hD⟩

