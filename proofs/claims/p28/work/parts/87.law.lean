/-! the law's body over the made objects -/
section
variable {E : gE}
theorem c_L_cell (E : gE) (M : gM) (j : Nat) (hj : j < 1000) : gMet E k_L_cell [.ref 136, .int (nI j)] M (gInt fun _ M' => M' = M) := by
  refine gMet.of (by decide +kernel) rfl (Nat.le_of_ble_eq_true rfl) (fun X hX hR => ?_)
  refine g_iload_n (i := 1) hX dL_cell_0 rfl rfl rfl ?_
  refine g_aload_n (i := 0) hX dL_cell_1 rfl rfl rfl ?_
  refine g_scl hX dL_cell_2 rfl (fun L hL hel => ?_)
  first | refine g_icmp_geN (tgt := 12) hX dL_cell_3 (by decide) rfl (by omega) (by omega) (fun zc3 => ?_) (fun zc3 => ?_) | refine g_icmp_ge (tgt := 12) hX dL_cell_3 (by decide) rfl (fun zc3 => ?_) (fun zc3 => ?_)
  · skip
    refine g_ldc hX wq_L_7 dL_cell_12 rfl ?_
    refine g_iload_n (i := 1) hX dL_cell_14 rfl rfl rfl ?_
    refine g_iconst hX dL_cell_15 ic_3 rfl ?_
    first | refine g_iaddN hX dL_cell_16 rfl ?_ | refine g_iadd hX dL_cell_16 rfl ?_
    first | refine g_imulN hX dL_cell_17 rfl ?_ | refine g_imul hX dL_cell_17 rfl ?_
    refine g_istore_n (i := 2) hX dL_cell_18 rfl (Nat.le_of_ble_eq_true rfl) rfl ?_
    refine g_iload_n (i := 2) hX dL_cell_19 rfl rfl rfl ?_
    refine g_iload_n (i := 2) hX dL_cell_20 rfl rfl rfl ?_
    refine g_bipush hX dL_cell_21 bc_15 rfl ?_
    refine g_iushr hX dL_cell_23 rfl ?_
    refine g_ixor hX dL_cell_24 rfl ?_
    refine g_iret hX hR dL_cell_25 ?_
    rfl
  · skip
    refine g_aload_n (i := 0) hX dL_cell_6 rfl rfl rfl ?_
    refine g_iload_n (i := 1) hX dL_cell_7 rfl rfl rfl ?_
    refine hel _ _ _ _ _ (by omega) dL_cell_8 rfl (fun v => ?_)
    refine g_goto (n := 18) hX dL_cell_9 (by decide) ?_
    refine g_istore_n (i := 2) hX dL_cell_18 rfl (Nat.le_of_ble_eq_true rfl) rfl ?_
    refine g_iload_n (i := 2) hX dL_cell_19 rfl rfl rfl ?_
    refine g_iload_n (i := 2) hX dL_cell_20 rfl rfl rfl ?_
    refine g_bipush hX dL_cell_21 bc_15 rfl ?_
    refine g_iushr hX dL_cell_23 rfl ?_
    refine g_ixor hX dL_cell_24 rfl ?_
    refine g_iret hX hR dL_cell_25 ?_
    rfl
/-- what holds of the committee between the law's turns -/
def LJ (M : gM) : Prop := JE M ∧ (∃ ol hs, WH M ol hs) ∧ ∃ ch : Nat → Nat, TxX M ch 0
def LI (M : gM) : Prop := ∃ (nm nc nk ne nb td ol hs : Nat) (op br : Bool) (mb pl ch : Nat → Nat), J M nm nc nk ne nb td op br mb pl ∧ WH M ol hs ∧ Nz M nk nm op ∧ TxX M ch 0
theorem LI.j {M : gM} (h : LI M) : LJ M := by
  obtain ⟨nm, nc, nk, ne, nb, td, ol, hs, op, br, mb, pl, ch, h1, h2, h3, h4⟩ := h
  exact ⟨⟨_, _, _, _, _, _, _, _, _, _, h1⟩, ⟨ol, hs, h2⟩, ch, h4⟩
theorem LI.rf {M M' : gM} (h : LI M) (g : RF M M') : LI M' := by
  obtain ⟨nm, nc, nk, ne, nb, td, ol, hs, op, br, mb, pl, ch, h1, h2, h3, h4⟩ := h
  exact ⟨nm, nc, nk, ne, nb, td, ol, hs, op, br, mb, pl, ch, h1.congr g.e25, g.WH h2, h3.congr g.e25, g.tx h4⟩
theorem tx_same {M M' : gM} {ch : Nat → Nat} {L : Nat} (h : TxX M ch L) (e1 : M' 128 = M 128) (e2 : M' 129 = M 129) : TxX M' ch L := by
  simp only [TxX, e1, e2]; exact h
theorem LI.rs {M M' : gM} (h : LI M) (g : Rs M M') : LI M' := by
  obtain ⟨nm, nc, nk, ne, nb, td, ol, hs, op, br, mb, pl, ch, h1, h2, h3, h4⟩ := h
  obtain ⟨g1, ⟨ol', hs', g2⟩, g3, g4⟩ := g
  exact ⟨nm, nc, nk, ne, nb, td, ol', hs', op, br, mb, pl, ch, h1.congr g1, g2, h3.congr g1, tx_same h4 g3 g4⟩
abbrev lawL (t : Nat) (a4 a5 a6 a7 a8 a9 a10 a11 : Option Value) : gLs := [some (.ref 136), some (.ref 0), some (.int (nI 1)), some (.int (nI t)), a4, a5, a6, a7, a8, a9, a10, a11]
set_option maxHeartbeats 4000000 in
/-- the checks behind a turn -/
theorem law_chk {X : gX} {Q : State → Prop} (hX : gOk X E code RL 12 9 326) {t : Nat} (ht : t < 100) {x : Int32} {a5 a6 a7 a8 a9 a10 a11 : Option Value} (kk : ∀ M1 : gM, LI M1 → gG X E M1 46 (lawL (t + 1) (some (.int x)) a5 a6 a7 a8 a9 a10 a11) [] Q) {M : gM} (hI : LJ M) : gG X E M 348 (lawL t (some (.int x)) a5 a6 a7 a8 a9 a10 a11) [] Q := by
  have K435 : ∀ M1 : gM, LI M1 → gG X E M1 435 (lawL t (some (.int x)) a5 a6 a7 a8 a9 a10 a11) [] Q := by
    intro M1 h1
    refine g_iconst hX dL_law_435 ic_1 rfl ?_
    refine g_goto (n := 440) hX dL_law_436 (by decide) ?_
    refine g_istore_n (i := 2) hX dL_law_440 rfl (Nat.le_of_ble_eq_true rfl) rfl ?_
    first | refine g_iincN hX dL_law_441 ic_1 rfl (Nat.le_of_ble_eq_true rfl) rfl ?_ | refine g_iinc hX dL_law_441 ic_1 rfl rfl (Nat.le_of_ble_eq_true rfl) rfl ?_
    refine g_goto (n := 46) hX dL_law_444 (by decide) ?_
    exact kk _ h1
  have K420 : ∀ M1 : gM, LI M1 → gG X E M1 420 (lawL t (some (.int x)) a5 a6 a7 a8 a9 a10 a11) [] Q := by
    intro M1 h1
    have hI1 := h1
    obtain ⟨nm, nc, nk, ne, nb, td, ol, hs, op, br, mb, pl, ch, g1, g2, g3, g4⟩ := h1
    refine g_iload_n (i := 3) hX dL_law_420 rfl rfl rfl ?_
    refine g_bipush hX dL_law_421 bc_9 rfl ?_
    refine g_irem hX dL_law_423 (by decide) rfl ?_
    refine g_iconst hX dL_law_424 ic_4 rfl ?_
    refine g_icmp_ne (tgt := 435) hX dL_law_425 (by decide) rfl (fun zc425 => ?_) (fun zc425 => ?_)
    · skip
      first | exact K435 _ (hI1.rf hr) | exact K435 _ hI1
    · skip
      refine g_aload_n (i := 1) hX dL_law_428 rfl rfl rfl ?_
      refine g_callSi hX (c_L_refused g1 g2 g3 g4) kf_L_refused rfl wk_L_109 rfl rfl rfl rfl dL_law_429 rfl (fun x429 M429 h429 => ?_)
      obtain ⟨rfl, hr⟩ := h429
      refine g_if_eq (tgt := 439) hX dL_law_432 (by decide) rfl (fun zc432 => absurd zc432 (by decide)) (fun zc432 => ?_)
      first | exact K435 _ (hI1.rf hr) | exact K435 _ hI1
  have K394 : ∀ M1 : gM, LI M1 → gG X E M1 394 (lawL t (some (.int x)) a5 a6 a7 a8 a9 a10 a11) [] Q := by
    intro M1 h1
    have hI1 := h1
    obtain ⟨nm, nc, nk, ne, nb, td, ol, hs, op, br, mb, pl, ch, g1, g2, g3, g4⟩ := h1
    have hm := g1.ws.1.2
    refine g_iload_n (i := 3) hX dL_law_394 rfl rfl rfl ?_
    refine g_iconst hX dL_law_395 ic_4 rfl ?_
    refine g_irem hX dL_law_396 (by decide) rfl ?_
    refine g_iconst hX dL_law_397 ic_3 rfl ?_
    refine g_icmp_ne (tgt := 420) hX dL_law_398 (by decide) rfl (fun zc398 => ?_) (fun zc398 => ?_)
    · skip
      first | exact K420 _ (hI1.rs hr) | exact K420 _ hI1
    · skip
      refine g_aload_n (i := 1) hX dL_law_401 rfl rfl rfl ?_
      refine g_iconst hX dL_law_402 ic_0 rfl ?_
      refine g_callVi hX (q_cnt g1.ws g2 0 (v := nI nm) rfl rfl) kf_X7_count rfl wk_L_13 rfl rfl rfl rfl rfl dL_law_403 rfl (fun x403 M403 h403 => ?_)
      obtain ⟨rfl, hMq⟩ := h403; have hMq := hMq.symm; subst hMq
      refine g_if_eq (tgt := 420) hX dL_law_406 (by decide) rfl (fun zc406 => ?_) (fun zc406 => ?_)
      · skip
        first | exact K420 _ (hI1.rs hr) | exact K420 _ hI1
      · skip
        have z406 : 0 < nm := Nat.pos_of_ne_zero (fun q => zc406 (by rw [q]; rfl))
        refine g_aload_n (i := 1) hX dL_law_409 rfl rfl rfl ?_
        refine g_iload hX dL_law_410 rfl rfl ?_
        refine g_iconst hX dL_law_412 ic_5 rfl ?_
        refine g_ishr hX dL_law_413 rfl ?_
        refine g_callSi hX (c_L_isAppealed g1 g2 g3 z406 _) kf_L_isAppealed rfl wk_L_128 rfl rfl rfl rfl dL_law_414 rfl (fun x414 M414 h414 => ?_)
        obtain ⟨rfl, hr⟩ := h414
        refine g_if_eq (tgt := 439) hX dL_law_417 (by decide) rfl (fun zc417 => absurd zc417 (by decide)) (fun zc417 => ?_)
        first | exact K420 _ (hI1.rs hr) | exact K420 _ hI1
  have K373 : ∀ M1 : gM, LI M1 → gG X E M1 373 (lawL t (some (.int x)) a5 a6 a7 a8 a9 a10 a11) [] Q := by
    intro M1 h1
    have hI1 := h1
    obtain ⟨nm, nc, nk, ne, nb, td, ol, hs, op, br, mb, pl, ch, g1, g2, g3, g4⟩ := h1
    refine g_aload_n (i := 1) hX dL_law_373 rfl rfl rfl ?_
    refine g_callSi hX (c_L_areComments g1 g2) kf_L_areComments rfl wk_L_102 rfl rfl rfl rfl dL_law_374 rfl (fun x374 M374 h374 => ?_)
    obtain ⟨rfl, hMq⟩ := h374; have hMq := hMq.symm; subst hMq
    refine g_if_eq (tgt := 439) hX dL_law_377 (by decide) rfl (fun zc377 => absurd zc377 (by decide)) (fun zc377 => ?_)
    refine g_iload_n (i := 3) hX dL_law_380 rfl rfl rfl ?_
    refine g_iconst hX dL_law_381 ic_3 rfl ?_
    refine g_irem hX dL_law_382 (by decide) rfl ?_
    refine g_iconst hX dL_law_383 ic_2 rfl ?_
    refine g_icmp_ne (tgt := 394) hX dL_law_384 (by decide) rfl (fun zc384 => ?_) (fun zc384 => ?_)
    · skip
      exact K394 _ hI1
    · skip
      refine g_aload_n (i := 1) hX dL_law_387 rfl rfl rfl ?_
      refine g_callSi hX (c_L_areEditions g1 g2) kf_L_areEditions rfl wk_L_98 rfl rfl rfl rfl dL_law_388 rfl (fun x388 M388 h388 => ?_)
      obtain ⟨rfl, hMq⟩ := h388; have hMq := hMq.symm; subst hMq
      refine g_if_eq (tgt := 439) hX dL_law_391 (by decide) rfl (fun zc391 => absurd zc391 (by decide)) (fun zc391 => ?_)
      exact K394 _ hI1
  obtain ⟨⟨nm, nc, nk, ne, nb, td, op, br, mb, pl, g1⟩, ⟨ol, hs, g2⟩, ch, g4⟩ := hI
  have hI1 : LI (nrm M nk nm op) := ⟨nm, nc, nk, ne, nb, td, ol, hs, op, br, mb, pl, ch, g1.nrm, g2.congr (nrm_ne (by decide)), nrm_Nz _ _ _ _, tx_same g4 (nrm_ne (by decide)) (nrm_ne (by decide))⟩
  have g2n : WH (nrm M nk nm op) ol hs := g2.congr (nrm_ne (by decide))
  have g1n := g1.nrm
  refine g_iload_n (i := 2) hX dL_law_348 rfl rfl rfl ?_
  refine g_if_eq (tgt := 439) hX dL_law_349 (by decide) rfl (fun zc349 => absurd zc349 (by decide)) (fun zc349 => ?_)
  refine g_aload_n (i := 1) hX dL_law_352 rfl rfl rfl ?_
  refine g_callSi hX (c_L_areVotes g1 g2) kf_L_areVotes rfl wk_L_125 rfl rfl rfl rfl dL_law_353 rfl (fun x353 M353 h353 => ?_)
  obtain ⟨rfl, hMq⟩ := h353; have hMq := hMq.symm; subst hMq
  refine g_if_eq (tgt := 439) hX dL_law_356 (by decide) rfl (fun zc356 => absurd zc356 (by decide)) (fun zc356 => ?_)
  refine g_iload_n (i := 3) hX dL_law_359 rfl rfl rfl ?_
  refine g_iconst hX dL_law_360 ic_3 rfl ?_
  refine g_irem hX dL_law_361 (by decide) rfl ?_
  refine g_iconst hX dL_law_362 ic_1 rfl ?_
  refine g_icmp_ne (tgt := 373) hX dL_law_363 (by decide) rfl (fun zc363 => ?_) (fun zc363 => ?_)
  · skip
    exact K373 _ hI1
  · skip
    refine g_aload_n (i := 1) hX dL_law_366 rfl rfl rfl ?_
    refine g_callSi hX (c_L_areMembers g1n g2n) kf_L_areMembers rfl wk_L_112 rfl rfl rfl rfl dL_law_367 rfl (fun x367 M367 h367 => ?_)
    obtain ⟨rfl, hMq⟩ := h367; have hMq := hMq.symm; subst hMq
    refine g_if_eq (tgt := 439) hX dL_law_370 (by decide) rfl (fun zc370 => absurd zc370 (by decide)) (fun zc370 => ?_)
    exact K373 _ hI1
set_option maxHeartbeats 4000000 in
/-- a turn -/
theorem law_turn {X : gX} {Q : State → Prop} (hX : gOk X E code RL 12 9 326) {t : Nat} (ht : t < 100) (kk : ∀ (M1 : gM) (a4 a5 a6 a7 a8 a9 a10 a11 : Option Value), LI M1 → gG X E M1 46 (lawL (t + 1) a4 a5 a6 a7 a8 a9 a10 a11) [] Q) {M : gM} {a4 a5 a6 a7 a8 a9 a10 a11 : Option Value} (hI : LI M) : gG X E M 46 (lawL t a4 a5 a6 a7 a8 a9 a10 a11) [] Q := by
  have hI1 := hI
  obtain ⟨nm, nc, nk, ne, nb, td, ol, hs, op, br, mb, pl, ch, g1, g2, g3, g4⟩ := hI
  have hh4 := g2.2.2.2
  obtain ⟨P, hP⟩ : ∃ P, P = pr M nm nc nk ne op mb := ⟨_, rfl⟩
  have K202 : ∀ x y turn kd : Int32, gG X E M 202 (lawL t (some (.int x)) (some (.int y)) (some (.long P)) none (some (.int (nI hs))) (some (.int turn)) a10 a11) [.int kd] Q := by
    intro x y turn kd
    have K293 : ∀ (M1 : gM) (r : Int32), Out M M1 ol hs r → gG X E M1 293 [some (.ref 136), some (.ref 0), some (.int (nI 1)), some (.int (nI t)), some (.int x), some (.int y), some (.long P), none, some (.int (nI hs)), some (.int turn), some (.int kd), some (.int r)] [.int (nI 1)] Q := by
      intro M1 r ho
      rcases ho with ⟨r1, r2, rfl⟩ | ⟨r0, hj, kp⟩
      · skip
        refine g_istore_n (i := 2) hX dL_law_293 rfl (Nat.le_of_ble_eq_true rfl) rfl ?_
        refine g_iload_n (i := 2) hX dL_law_294 rfl rfl rfl ?_
        refine g_if_eq (tgt := 348) hX dL_law_295 (by decide) rfl (fun zc295 => absurd zc295 (by decide)) (fun zc295 => ?_)
        refine g_iload hX dL_law_298 rfl rfl ?_
        refine g_if_lt (tgt := 348) hX dL_law_300 (by decide) rfl (fun zc300 => ?_) (fun zc300 => absurd r2 zc300)
        exact law_chk hX ht (fun M1 h1 => kk M1 _ _ _ _ _ _ _ _ h1) hI1.j
      · have hJ1 : LJ M1 := ⟨hj, ⟨_, _, kp_WH kp g2⟩, ch, tx_same g4 (by rw [kp 128 (by decide), keep_ne (by omega)]) (by rw [kp 129 (by decide), keep_ne (by omega)])⟩
        have K332 : ∀ M2 : gM, Eq25 M2 M → (∃ ol hs, WH M2 ol hs) → M2 128 = M 128 → M2 129 = M 129 → gG X E M2 332 [some (.ref 136), some (.ref 0), some (.int (nI 1)), some (.int (nI t)), some (.int x), some (.int y), some (.long P), none, some (.int (nI hs)), some (.int turn), some (.int kd), some (.int r)] [] Q := by
          intro M2 e1 e2 e3 e4
          have hI2 : LI M2 := hI1.rs ⟨e1, e2, e3, e4⟩
          obtain ⟨ol2, hs2, e2⟩ := e2
          refine g_aload_n (i := 1) hX dL_law_332 rfl rfl rfl ?_
          refine g_callSl hX (c_L_print (g1.congr e1).ws e2 (g3.congr e1)) kf_L_print rfl wk_L_46 rfl rfl rfl rfl dL_law_333 rfl (fun x333 M333 h333 => ?_)
          obtain ⟨rfl, hMq⟩ := h333; have hMq := hMq.symm; subst hMq
          refine g_lload hX dL_law_336 rfl rfl ?_
          refine g_lcmpE hX (by rw [hP]; exact pr_congr e1) dL_law_338 rfl ?_
          refine g_if_ne (tgt := 346) hX dL_law_339 (by decide) rfl (fun zc339 => absurd rfl zc339) (fun zc339 => ?_)
          refine g_iconst hX dL_law_342 ic_1 rfl ?_
          refine g_goto (n := 347) hX dL_law_343 (by decide) ?_
          refine g_istore_n (i := 2) hX dL_law_347 rfl (Nat.le_of_ble_eq_true rfl) rfl ?_
          exact law_chk hX ht (fun M1 h1 => kk M1 _ _ _ _ _ _ _ _ h1) hI2.j
        by_cases h4 : hs = 4
        · have hk3 : hsK hs - 1 = 3 := by rw [h4]; rfl
          refine g_istore_n (i := 2) hX dL_law_293 rfl (Nat.le_of_ble_eq_true rfl) rfl ?_
          refine g_iload_n (i := 2) hX dL_law_294 rfl rfl rfl ?_
          refine g_if_eq (tgt := 348) hX dL_law_295 (by decide) rfl (fun zc295 => absurd zc295 (by decide)) (fun zc295 => ?_)
          refine g_iload hX dL_law_298 rfl rfl ?_
          refine g_if_lt (tgt := 348) hX dL_law_300 (by decide) rfl (fun zc300 => absurd zc300 (Int32.not_lt.mpr r0)) (fun zc300 => ?_)
          refine g_iload hX dL_law_303 rfl rfl ?_
          refine g_bipush hX dL_law_305 bc_25 rfl ?_
          refine g_ishr hX dL_law_307 rfl ?_
          refine g_iconst hX dL_law_308 ic_3 rfl ?_
          refine g_iand hX dL_law_309 rfl ?_
          refine g_if_ne (tgt := 348) hX dL_law_310 (by decide) rfl (fun zc310 => ?_) (fun zc310 => ?_)
          · skip
            exact law_chk hX ht (fun M1 h1 => kk M1 _ _ _ _ _ _ _ _ h1) hJ1
          · skip
            refine g_aload_n (i := 1) hX dL_law_313 rfl rfl rfl ?_
            refine g_callVi hX (kp_undo_c kp g2 g1.ws) kf_X7_undo rfl wk_L_105 rfl rfl rfl rfl rfl dL_law_314 rfl (fun x314 M314 h314 => ?_)
            obtain ⟨rfl, u1, u2, u3, u4⟩ := kp_undo_r kp g2 h314
            refine g_iload hX dL_law_317 rfl rfl ?_
            refine g_iconst hX dL_law_319 ic_4 rfl ?_
            first | refine g_icmp_neN (tgt := 327) hX dL_law_320 (by decide) rfl (by omega) (by omega) (fun zc320 => absurd zc320 (by omega)) (fun zc320 => ?_) | refine g_icmp_ne (tgt := 327) hX dL_law_320 (by decide) rfl (fun zc320 => absurd zc320 (by omega)) (fun zc320 => ?_)
            refine g_iconst hX dL_law_323 ic_3 rfl ?_
            refine g_goto (n := 329) hX dL_law_324 (by decide) ?_
            refine g_icmp_ne (tgt := 346) hX dL_law_329 (by decide) rfl (fun zc329 => absurd (by rw [hk3]) zc329) (fun zc329 => ?_)
            exact K332 _ u1 ⟨_, _, u2⟩ u3 u4
        · have hk3 : hsK hs - 1 = hs := by unfold hsK; rw [if_pos (by omega)]; omega
          refine g_istore_n (i := 2) hX dL_law_293 rfl (Nat.le_of_ble_eq_true rfl) rfl ?_
          refine g_iload_n (i := 2) hX dL_law_294 rfl rfl rfl ?_
          refine g_if_eq (tgt := 348) hX dL_law_295 (by decide) rfl (fun zc295 => absurd zc295 (by decide)) (fun zc295 => ?_)
          refine g_iload hX dL_law_298 rfl rfl ?_
          refine g_if_lt (tgt := 348) hX dL_law_300 (by decide) rfl (fun zc300 => absurd zc300 (Int32.not_lt.mpr r0)) (fun zc300 => ?_)
          refine g_iload hX dL_law_303 rfl rfl ?_
          refine g_bipush hX dL_law_305 bc_25 rfl ?_
          refine g_ishr hX dL_law_307 rfl ?_
          refine g_iconst hX dL_law_308 ic_3 rfl ?_
          refine g_iand hX dL_law_309 rfl ?_
          refine g_if_ne (tgt := 348) hX dL_law_310 (by decide) rfl (fun zc310 => ?_) (fun zc310 => ?_)
          · skip
            exact law_chk hX ht (fun M1 h1 => kk M1 _ _ _ _ _ _ _ _ h1) hJ1
          · skip
            refine g_aload_n (i := 1) hX dL_law_313 rfl rfl rfl ?_
            refine g_callVi hX (kp_undo_c kp g2 g1.ws) kf_X7_undo rfl wk_L_105 rfl rfl rfl rfl rfl dL_law_314 rfl (fun x314 M314 h314 => ?_)
            obtain ⟨rfl, u1, u2, u3, u4⟩ := kp_undo_r kp g2 h314
            refine g_iload hX dL_law_317 rfl rfl ?_
            refine g_iconst hX dL_law_319 ic_4 rfl ?_
            first | refine g_icmp_neN (tgt := 327) hX dL_law_320 (by decide) rfl (by omega) (by omega) (fun zc320 => ?_) (fun zc320 => absurd zc320 (by omega)) | refine g_icmp_ne (tgt := 327) hX dL_law_320 (by decide) rfl (fun zc320 => ?_) (fun zc320 => absurd zc320 (by omega))
            refine g_iload hX dL_law_327 rfl rfl ?_
            refine g_icmp_ne (tgt := 346) hX dL_law_329 (by decide) rfl (fun zc329 => absurd (by rw [hk3]) zc329) (fun zc329 => ?_)
            exact K332 _ u1 ⟨_, _, u2⟩ u3 u4
    have K227 : ∀ (M1 : gM) (r : Int32), Out M M1 ol hs r → gG X E M1 227 [some (.ref 136), some (.ref 0), some (.int (nI 1)), some (.int (nI t)), some (.int x), some (.int y), some (.long P), none, some (.int (nI hs)), some (.int turn), some (.int kd), some (.int r)] [] Q := by
      intro M1 r ho
      have ho2 := ho
      rcases ho with ⟨r1, r2, rfl⟩ | ⟨r0, hj, kp⟩
      · skip
        refine g_iload hX dL_law_227 rfl rfl ?_
        refine g_bipush hX dL_law_229 bc_m4 rfl ?_
        refine g_icmp_lt (tgt := 292) hX dL_law_231 (by decide) rfl (fun zc231 => absurd zc231 (Int32.not_lt.mpr r1)) (fun zc231 => ?_)
        refine g_iload hX dL_law_234 rfl rfl ?_
        refine g_if_ge (tgt := 260) hX dL_law_236 (by decide) rfl (fun zc236 => absurd zc236 (Int32.not_le.mpr r2)) (fun zc236 => ?_)
        refine g_aload_n (i := 1) hX dL_law_239 rfl rfl rfl ?_
        refine g_callSl hX (c_L_print g1.ws g2 g3) kf_L_print rfl wk_L_46 rfl rfl rfl rfl dL_law_240 rfl (fun x240 M240 h240 => ?_)
        obtain ⟨rfl, hMq⟩ := h240; have hMq := hMq.symm; subst hMq
        refine g_lload hX dL_law_243 rfl rfl ?_
        refine g_lcmpE hX (hP.symm) dL_law_245 rfl ?_
        refine g_if_ne (tgt := 292) hX dL_law_246 (by decide) rfl (fun zc246 => absurd rfl zc246) (fun zc246 => ?_)
        refine g_aload_n (i := 1) hX dL_law_249 rfl rfl rfl ?_
        refine g_bipush hX dL_law_250 bc_9 rfl ?_
        refine g_callVi hX (q_cnt g1.ws g2 9 (v := nI hs) rfl rfl) kf_X7_count rfl wk_L_13 rfl rfl rfl rfl rfl dL_law_252 rfl (fun x252 M252 h252 => ?_)
        obtain ⟨rfl, hMq⟩ := h252; have hMq := hMq.symm; subst hMq
        refine g_iload hX dL_law_255 rfl rfl ?_
        refine g_icmp_ne (tgt := 292) hX dL_law_257 (by decide) rfl (fun zc257 => absurd rfl zc257) (fun zc257 => ?_)
        refine g_iload hX dL_law_260 rfl rfl ?_
        refine g_if_lt (tgt := 288) hX dL_law_262 (by decide) rfl (fun zc262 => ?_) (fun zc262 => absurd r2 zc262)
        refine g_iconst hX dL_law_288 ic_1 rfl ?_
        refine g_goto (n := 293) hX dL_law_289 (by decide) ?_
        exact K293 _ _ ho2
      · have hrm : ¬ r < -4 := Int32.not_lt.mpr (Int32.le_trans (by decide) r0)
        obtain ⟨nm1, nc1, nk1, ne1, nb1, td1, op1, br1, mb1, pl1, hj1⟩ := hj
        have hH1 := kp_WH kp g2
        by_cases h4 : hs = 4
        · have hk3 : hsK hs = 4 := by rw [h4]; rfl
          refine g_iload hX dL_law_227 rfl rfl ?_
          refine g_bipush hX dL_law_229 bc_m4 rfl ?_
          refine g_icmp_lt (tgt := 292) hX dL_law_231 (by decide) rfl (fun zc231 => absurd zc231 hrm) (fun zc231 => ?_)
          refine g_iload hX dL_law_234 rfl rfl ?_
          refine g_if_ge (tgt := 260) hX dL_law_236 (by decide) rfl (fun zc236 => ?_) (fun zc236 => absurd r0 zc236)
          refine g_iload hX dL_law_260 rfl rfl ?_
          refine g_if_lt (tgt := 288) hX dL_law_262 (by decide) rfl (fun zc262 => absurd zc262 (Int32.not_lt.mpr r0)) (fun zc262 => ?_)
          refine g_aload_n (i := 1) hX dL_law_265 rfl rfl rfl ?_
          refine g_bipush hX dL_law_266 bc_9 rfl ?_
          refine g_callVi hX (q_cnt hj1.ws hH1 9 (v := nI 4) rfl (by rw [← hk3]; rfl)) kf_X7_count rfl wk_L_13 rfl rfl rfl rfl rfl dL_law_268 rfl (fun x268 M268 h268 => ?_)
          obtain ⟨rfl, hMq⟩ := h268; have hMq := hMq.symm; subst hMq
          refine g_iload hX dL_law_271 rfl rfl ?_
          refine g_iconst hX dL_law_273 ic_4 rfl ?_
          first | refine g_icmp_neN (tgt := 281) hX dL_law_274 (by decide) rfl (by omega) (by omega) (fun zc274 => absurd zc274 (by omega)) (fun zc274 => ?_) | refine g_icmp_ne (tgt := 281) hX dL_law_274 (by decide) rfl (fun zc274 => absurd zc274 (by omega)) (fun zc274 => ?_)
          refine g_iconst hX dL_law_277 ic_4 rfl ?_
          refine g_goto (n := 285) hX dL_law_278 (by decide) ?_
          refine g_icmp_ne (tgt := 292) hX dL_law_285 (by decide) rfl (fun zc285 => absurd rfl zc285) (fun zc285 => ?_)
          refine g_iconst hX dL_law_288 ic_1 rfl ?_
          refine g_goto (n := 293) hX dL_law_289 (by decide) ?_
          exact K293 _ _ ho2
        · have hk3 : hsK hs = hs + 1 := by unfold hsK; rw [if_pos (by omega)]
          refine g_iload hX dL_law_227 rfl rfl ?_
          refine g_bipush hX dL_law_229 bc_m4 rfl ?_
          refine g_icmp_lt (tgt := 292) hX dL_law_231 (by decide) rfl (fun zc231 => absurd zc231 hrm) (fun zc231 => ?_)
          refine g_iload hX dL_law_234 rfl rfl ?_
          refine g_if_ge (tgt := 260) hX dL_law_236 (by decide) rfl (fun zc236 => ?_) (fun zc236 => absurd r0 zc236)
          refine g_iload hX dL_law_260 rfl rfl ?_
          refine g_if_lt (tgt := 288) hX dL_law_262 (by decide) rfl (fun zc262 => absurd zc262 (Int32.not_lt.mpr r0)) (fun zc262 => ?_)
          refine g_aload_n (i := 1) hX dL_law_265 rfl rfl rfl ?_
          refine g_bipush hX dL_law_266 bc_9 rfl ?_
          refine g_callVi hX (q_cnt hj1.ws hH1 9 (v := nI (hs + 1)) rfl (by rw [← hk3]; rfl)) kf_X7_count rfl wk_L_13 rfl rfl rfl rfl rfl dL_law_268 rfl (fun x268 M268 h268 => ?_)
          obtain ⟨rfl, hMq⟩ := h268; have hMq := hMq.symm; subst hMq
          refine g_iload hX dL_law_271 rfl rfl ?_
          refine g_iconst hX dL_law_273 ic_4 rfl ?_
          first | refine g_icmp_neN (tgt := 281) hX dL_law_274 (by decide) rfl (by omega) (by omega) (fun zc274 => ?_) (fun zc274 => absurd zc274 (by omega)) | refine g_icmp_ne (tgt := 281) hX dL_law_274 (by decide) rfl (fun zc274 => ?_) (fun zc274 => absurd zc274 (by omega))
          refine g_iload hX dL_law_281 rfl rfl ?_
          refine g_iconst hX dL_law_283 ic_1 rfl ?_
          first | refine g_iaddN hX dL_law_284 rfl ?_ | refine g_iadd hX dL_law_284 rfl ?_
          refine g_icmp_ne (tgt := 292) hX dL_law_285 (by decide) rfl (fun zc285 => absurd rfl zc285) (fun zc285 => ?_)
          refine g_iconst hX dL_law_288 ic_1 rfl ?_
          refine g_goto (n := 293) hX dL_law_289 (by decide) ?_
          exact K293 _ _ ho2
    refine g_istore hX dL_law_202 (Nat.le_of_ble_eq_true rfl) rfl ?_
    refine g_aload_n (i := 1) hX dL_law_204 rfl rfl rfl ?_
    refine g_bipush hX dL_law_205 bc_20 rfl ?_
    refine g_iload hX dL_law_207 rfl rfl ?_
    refine g_iconst hX dL_law_209 ic_4 rfl ?_
    refine g_ishr hX dL_law_210 rfl ?_
    refine g_ldc hX wq_L_120 dL_law_211 rfl ?_
    refine g_callSi hX (c_L_low E M _ 99999 (by decide) (by decide)) kf_L_low rfl wk_L_95 rfl rfl rfl rfl dL_law_213 rfl (fun x213 M213 h213 => ?_)
    obtain ⟨⟨j, hj, rfl⟩, hMq⟩ := h213
    have hMq := hMq.symm
    subst hMq
    first | refine g_imulN hX dL_law_216 rfl ?_ | refine g_imul hX dL_law_216 rfl ?_
    refine g_iload hX dL_law_217 rfl rfl ?_
    first | refine g_iaddN hX dL_law_219 rfl ?_ | refine g_iadd hX dL_law_219 rfl ?_
    refine g_iload hX dL_law_220 rfl rfl ?_
    refine g_callSi hX (c_L_acts g1 g2 _ _) kf_L_acts rfl wk_L_121 rfl rfl rfl rfl dL_law_222 rfl (fun x222 M222 h222 => ?_)
    skip
    refine g_istore hX dL_law_225 (Nat.le_of_ble_eq_true rfl) rfl ?_
    exact K227 _ _ h222
  refine g_iload_n (i := 3) hX dL_law_46 rfl rfl rfl ?_
  refine g_bipush hX dL_law_47 bc_100 rfl ?_
  first | refine g_icmp_geN (tgt := 447) hX dL_law_49 (by decide) rfl (by omega) (by omega) (fun zc49 => absurd zc49 (by omega)) (fun zc49 => ?_) | refine g_icmp_ge (tgt := 447) hX dL_law_49 (by decide) rfl (fun zc49 => absurd zc49 (by omega)) (fun zc49 => ?_)
  refine g_iload_n (i := 2) hX dL_law_52 rfl rfl rfl ?_
  refine g_if_eq (tgt := 447) hX dL_law_53 (by decide) rfl (fun zc53 => absurd zc53 (by decide)) (fun zc53 => ?_)
  refine g_aload_n (i := 0) hX dL_law_56 rfl rfl rfl ?_
  refine g_iconst hX dL_law_57 ic_2 rfl ?_
  refine g_iload_n (i := 3) hX dL_law_58 rfl rfl rfl ?_
  first | refine g_imulN hX dL_law_59 rfl ?_ | refine g_imul hX dL_law_59 rfl ?_
  refine g_callSi hX (c_L_cell E M (2 * t) (by omega)) kf_L_cell rfl wk_L_115 rfl rfl rfl rfl dL_law_60 rfl (fun x60 M60 h60 => ?_)
  have hMq := (h60).symm
  subst hMq
  refine g_istore hX dL_law_63 (Nat.le_of_ble_eq_true rfl) rfl ?_
  refine g_aload_n (i := 0) hX dL_law_65 rfl rfl rfl ?_
  refine g_iconst hX dL_law_66 ic_2 rfl ?_
  refine g_iload_n (i := 3) hX dL_law_67 rfl rfl rfl ?_
  first | refine g_imulN hX dL_law_68 rfl ?_ | refine g_imul hX dL_law_68 rfl ?_
  refine g_iconst hX dL_law_69 ic_1 rfl ?_
  first | refine g_iaddN hX dL_law_70 rfl ?_ | refine g_iadd hX dL_law_70 rfl ?_
  refine g_callSi hX (c_L_cell E M (2 * t + 1) (by omega)) kf_L_cell rfl wk_L_115 rfl rfl rfl rfl dL_law_71 rfl (fun x71 M71 h71 => ?_)
  have hMq := (h71).symm
  subst hMq
  refine g_ldc hX wq_L_119 dL_law_74 rfl ?_
  refine g_callSi hX (c_L_low E M _ 1000000 (by decide) (by decide)) kf_L_low rfl wk_L_95 rfl rfl rfl rfl dL_law_76 rfl (fun x76 M76 h76 => ?_)
  obtain ⟨⟨j, hj, rfl⟩, hMq⟩ := h76
  have hMq := hMq.symm
  subst hMq
  refine g_istore hX dL_law_79 (Nat.le_of_ble_eq_true rfl) rfl ?_
  refine g_aload_n (i := 1) hX dL_law_81 rfl rfl rfl ?_
  refine g_callSl hX (c_L_print g1.ws g2 g3) kf_L_print rfl wk_L_46 rfl rfl rfl rfl dL_law_82 rfl (fun x82 M82 h82 => ?_)
  obtain ⟨rfl, hMq⟩ := h82; have hMq := hMq.symm; subst hMq
  rw [← hP]
  refine g_lstore hX dL_law_85 (Nat.le_of_ble_eq_true rfl) rfl ?_
  refine g_aload_n (i := 1) hX dL_law_87 rfl rfl rfl ?_
  refine g_bipush hX dL_law_88 bc_9 rfl ?_
  refine g_callVi hX (q_cnt g1.ws g2 9 (v := nI hs) rfl rfl) kf_X7_count rfl wk_L_13 rfl rfl rfl rfl rfl dL_law_90 rfl (fun x90 M90 h90 => ?_)
  obtain ⟨rfl, hMq⟩ := h90; have hMq := hMq.symm; subst hMq
  refine g_istore hX dL_law_93 (Nat.le_of_ble_eq_true rfl) rfl ?_
  refine g_iload_n (i := 3) hX dL_law_95 rfl rfl rfl ?_
  refine g_bipush hX dL_law_96 bc_23 rfl ?_
  refine g_irem hX dL_law_98 (by decide) rfl ?_
  refine g_istore hX dL_law_99 (Nat.le_of_ble_eq_true rfl) rfl ?_
  refine g_iload_n (i := 3) hX dL_law_101 rfl rfl rfl ?_
  refine g_iconst hX dL_law_102 ic_5 rfl ?_
  refine g_icmp_ge (tgt := 110) hX dL_law_103 (by decide) rfl (fun zc103 => ?_) (fun zc103 => ?_)
  · skip
    refine g_iload_n (i := 3) hX dL_law_110 rfl rfl rfl ?_
    refine g_bipush hX dL_law_111 bc_9 rfl ?_
    refine g_icmp_ge (tgt := 120) hX dL_law_113 (by decide) rfl (fun zc113 => ?_) (fun zc113 => ?_)
    · skip
      refine g_iload hX dL_law_120 rfl rfl ?_
      refine g_bipush hX dL_law_122 bc_20 rfl ?_
      refine g_ishr hX dL_law_124 rfl ?_
      refine g_iconst hX dL_law_125 ic_4 rfl ?_
      refine g_callSi hX (c_L_low E M _ 4 (by decide) (by decide)) kf_L_low rfl wk_L_95 rfl rfl rfl rfl dL_law_126 rfl (fun x126 M126 h126 => ?_)
      obtain ⟨⟨j2, hj2, rfl⟩, hMq⟩ := h126
      have hMq := hMq.symm
      subst hMq
      refine g_if_ne (tgt := 142) hX dL_law_129 (by decide) rfl (fun zc129 => ?_) (fun zc129 => ?_)
      · skip
        refine g_iload hX dL_law_142 rfl rfl ?_
        refine g_bipush hX dL_law_144 bc_9 rfl ?_
        refine g_icmp_ne (tgt := 153) hX dL_law_146 (by decide) rfl (fun zc146 => ?_) (fun zc146 => ?_)
        · skip
          refine g_iload hX dL_law_153 rfl rfl ?_
          refine g_bipush hX dL_law_155 bc_13 rfl ?_
          refine g_icmp_ge (tgt := 164) hX dL_law_157 (by decide) rfl (fun zc157 => ?_) (fun zc157 => ?_)
          · skip
            refine g_iload hX dL_law_164 rfl rfl ?_
            refine g_bipush hX dL_law_166 bc_16 rfl ?_
            refine g_icmp_ge (tgt := 176) hX dL_law_168 (by decide) rfl (fun zc168 => ?_) (fun zc168 => ?_)
            · skip
              refine g_iload hX dL_law_176 rfl rfl ?_
              refine g_bipush hX dL_law_178 bc_16 rfl ?_
              refine g_icmp_ne (tgt := 188) hX dL_law_180 (by decide) rfl (fun zc180 => ?_) (fun zc180 => ?_)
              · skip
                refine g_iload hX dL_law_188 rfl rfl ?_
                refine g_bipush hX dL_law_190 bc_21 rfl ?_
                refine g_icmp_ge (tgt := 200) hX dL_law_192 (by decide) rfl (fun zc192 => ?_) (fun zc192 => ?_)
                · skip
                  refine g_bipush hX dL_law_200 bc_17 rfl ?_
                  exact K202 _ _ _ _
                · skip
                  refine g_bipush hX dL_law_195 bc_14 rfl ?_
                  refine g_goto (n := 202) hX dL_law_197 (by decide) ?_
                  exact K202 _ _ _ _
              · skip
                refine g_bipush hX dL_law_183 bc_12 rfl ?_
                refine g_goto (n := 202) hX dL_law_185 (by decide) ?_
                exact K202 _ _ _ _
            · skip
              refine g_bipush hX dL_law_171 bc_9 rfl ?_
              refine g_goto (n := 202) hX dL_law_173 (by decide) ?_
              exact K202 _ _ _ _
          · skip
            refine g_iconst hX dL_law_160 ic_5 rfl ?_
            refine g_goto (n := 202) hX dL_law_161 (by decide) ?_
            exact K202 _ _ _ _
        · skip
          refine g_iconst hX dL_law_149 ic_3 rfl ?_
          refine g_goto (n := 202) hX dL_law_150 (by decide) ?_
          exact K202 _ _ _ _
      · skip
        refine g_iload hX dL_law_132 rfl rfl ?_
        refine g_bipush hX dL_law_134 bc_20 rfl ?_
        refine g_callSi hX (c_L_low E M _ 20 (by decide) (by decide)) kf_L_low rfl wk_L_95 rfl rfl rfl rfl dL_law_136 rfl (fun x136 M136 h136 => ?_)
        obtain ⟨⟨j3, hj3, rfl⟩, hMq⟩ := h136
        have hMq := hMq.symm
        subst hMq
        refine g_goto (n := 202) hX dL_law_139 (by decide) ?_
        exact K202 _ _ _ _
    · skip
      refine g_iconst hX dL_law_116 ic_1 rfl ?_
      refine g_goto (n := 202) hX dL_law_117 (by decide) ?_
      exact K202 _ _ _ _
  · skip
    refine g_iconst hX dL_law_106 ic_0 rfl ?_
    refine g_goto (n := 202) hX dL_law_107 (by decide) ?_
    exact K202 _ _ _ _
theorem law_loop {X : gX} {Q : State → Prop} (hX : gOk X E code RL 12 9 326) (fin : ∀ (M1 : gM) (ls : gLs), gG X E M1 477 ls [.int (nI 1)] Q) : ∀ t, t ≤ 100 → ∀ (M : gM) (a4 a5 a6 a7 a8 a9 a10 a11 : Option Value), LI M → gG X E M 46 (lawL t a4 a5 a6 a7 a8 a9 a10 a11) [] Q := by
  refine up_loop 100 _ ?_ (fun t ht ih M a4 a5 a6 a7 a8 a9 a10 a11 hI => law_turn hX ht ih hI)
  intro M a4 a5 a6 a7 a8 a9 a10 a11 hI
  obtain ⟨nm, nc, nk, ne, nb, td, ol, hs, op, br, mb, pl, ch, g1, g2, g3, g4⟩ := hI
  refine g_iload_n (i := 3) hX dL_law_46 rfl rfl rfl ?_
  refine g_bipush hX dL_law_47 bc_100 rfl ?_
  first | refine g_icmp_geN (tgt := 447) hX dL_law_49 (by decide) rfl (by omega) (by omega) (fun zc49 => ?_) (fun zc49 => absurd zc49 (by omega)) | refine g_icmp_ge (tgt := 447) hX dL_law_49 (by decide) rfl (fun zc49 => ?_) (fun zc49 => absurd zc49 (by omega))
  refine g_iload_n (i := 2) hX dL_law_447 rfl rfl rfl ?_
  refine g_if_eq (tgt := 476) hX dL_law_448 (by decide) rfl (fun zc448 => absurd zc448 (by decide)) (fun zc448 => ?_)
  refine g_aload_n (i := 1) hX dL_law_451 rfl rfl rfl ?_
  refine g_callSi hX (c_L_refused g1 g2 g3 g4) kf_L_refused rfl wk_L_109 rfl rfl rfl rfl dL_law_452 rfl (fun x452 M452 h452 => ?_)
  obtain ⟨rfl, hr⟩ := h452
  have k1 := g1.congr hr.e25
  have k2 := hr.WH g2
  refine g_if_eq (tgt := 476) hX dL_law_455 (by decide) rfl (fun zc455 => absurd zc455 (by decide)) (fun zc455 => ?_)
  refine g_aload_n (i := 1) hX dL_law_458 rfl rfl rfl ?_
  refine g_callSi hX (c_L_areMembers k1 k2) kf_L_areMembers rfl wk_L_112 rfl rfl rfl rfl dL_law_459 rfl (fun x459 M459 h459 => ?_)
  obtain ⟨rfl, hMq⟩ := h459; have hMq := hMq.symm; subst hMq
  refine g_if_eq (tgt := 476) hX dL_law_462 (by decide) rfl (fun zc462 => absurd zc462 (by decide)) (fun zc462 => ?_)
  refine g_aload_n (i := 1) hX dL_law_465 rfl rfl rfl ?_
  refine g_callSi hX (c_L_areEditions k1 k2) kf_L_areEditions rfl wk_L_98 rfl rfl rfl rfl dL_law_466 rfl (fun x466 M466 h466 => ?_)
  obtain ⟨rfl, hMq⟩ := h466; have hMq := hMq.symm; subst hMq
  refine g_if_eq (tgt := 476) hX dL_law_469 (by decide) rfl (fun zc469 => absurd zc469 (by decide)) (fun zc469 => ?_)
  refine g_iconst hX dL_law_472 ic_1 rfl ?_
  refine g_goto (n := 477) hX dL_law_473 (by decide) ?_
  exact fin _ _
set_option maxHeartbeats 2000000 in
theorem law_all {X : gX} {Q : State → Prop} (hX : gOk X E code RL 12 9 326) (fin : ∀ (M1 : gM) (ls : gLs), gG X E M1 477 ls [.int (nI 1)] Q) {M : gM} (hI : LI M) (h0 : WH M 0 0) : gG X E M 8 [some (.ref 136), some (.ref 0), none, none, none, none, none, none, none, none, none, none] [] Q := by
  have hI1 := hI
  obtain ⟨nm, nc, nk, ne, nb, td, ol, hs, op, br, mb, pl, ch, g1, g2, g3, g4⟩ := hI
  refine g_aload_n (i := 1) hX dL_law_8 rfl rfl rfl ?_
  refine g_callVi hX (c_X7_undo E h0 (fun q => absurd q (Nat.lt_irrefl _))) kf_X7_undo rfl wk_L_105 rfl rfl rfl rfl rfl dL_law_9 rfl (fun x9 M9 h9 => ?_)
  replace h9 := (fun z => pr_e z (by rw [x_undo, if_pos rfl])) h9
  obtain ⟨rfl, hMq⟩ := h9; have hMq := hMq.symm; subst hMq
  refine g_bipush hX dL_law_12 bc_m2 rfl ?_
  refine g_icmp_ne (tgt := 42) hX dL_law_14 (by decide) rfl (fun zc14 => absurd rfl zc14) (fun zc14 => ?_)
  refine g_aload_n (i := 1) hX dL_law_17 rfl rfl rfl ?_
  refine g_callSi hX (c_L_refused g1 g2 g3 g4) kf_L_refused rfl wk_L_109 rfl rfl rfl rfl dL_law_18 rfl (fun x18 M18 h18 => ?_)
  obtain ⟨rfl, hr⟩ := h18
  have k1 := g1.congr hr.e25
  have k2 := hr.WH g2
  refine g_if_eq (tgt := 42) hX dL_law_21 (by decide) rfl (fun zc21 => absurd zc21 (by decide)) (fun zc21 => ?_)
  refine g_aload_n (i := 1) hX dL_law_24 rfl rfl rfl ?_
  refine g_callSi hX (c_L_areMembers k1 k2) kf_L_areMembers rfl wk_L_112 rfl rfl rfl rfl dL_law_25 rfl (fun x25 M25 h25 => ?_)
  obtain ⟨rfl, hMq⟩ := h25; have hMq := hMq.symm; subst hMq
  refine g_if_eq (tgt := 42) hX dL_law_28 (by decide) rfl (fun zc28 => absurd zc28 (by decide)) (fun zc28 => ?_)
  refine g_aload_n (i := 1) hX dL_law_31 rfl rfl rfl ?_
  refine g_callSi hX (c_L_areEditions k1 k2) kf_L_areEditions rfl wk_L_98 rfl rfl rfl rfl dL_law_32 rfl (fun x32 M32 h32 => ?_)
  obtain ⟨rfl, hMq⟩ := h32; have hMq := hMq.symm; subst hMq
  refine g_if_eq (tgt := 42) hX dL_law_35 (by decide) rfl (fun zc35 => absurd zc35 (by decide)) (fun zc35 => ?_)
  refine g_iconst hX dL_law_38 ic_1 rfl ?_
  refine g_goto (n := 43) hX dL_law_39 (by decide) ?_
  refine g_istore_n (i := 2) hX dL_law_43 rfl (Nat.le_of_ble_eq_true rfl) rfl ?_
  refine g_iconst hX dL_law_44 ic_0 rfl ?_
  refine g_istore_n (i := 3) hX dL_law_45 rfl (Nat.le_of_ble_eq_true rfl) rfl ?_
  exact law_loop hX fin 0 (by decide) _ _ _ _ _ _ _ _ _ (hI1.rf hr)
end

