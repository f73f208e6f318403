/-! calls that are refused -/
def RF (M M' : gM) : Prop := (∀ a, a ≠ 128 → M' a = M a) ∧ M' 128 1 = M 128 1
theorem RF.refl (M : gM) : RF M M := ⟨fun _ _ => rfl, rfl⟩
theorem RF.trans {A B C : gM} (h : RF A B) (g : RF B C) : RF A C := ⟨fun a ha => (g.1 a ha).trans (h.1 a ha), g.2.trans h.2⟩
theorem RF.e25 {M M' : gM} (h : RF M M') : Eq25 M' M := fun a _ ha => h.1 a (by omega)
theorem RF.WH {M M' : gM} {ol hs : Nat} (h : RF M M') (g : WH M ol hs) : WH M' ol hs := g.congr (h.1 126 (by decide))
theorem RF.tx {M M' : gM} {ch : Nat → Nat} {L : Nat} (h : RF M M') (g : TxX M ch L) : TxX M' ch L := ⟨h.2.trans g.1, g.2.1, fun i hi => by rw [h.1 129 (by decide)]; exact g.2.2 i hi⟩
theorem pr_e {r v : Int32} {M M' : gM} {p : Int32 × gM} (h : (r, M') = p) (e : p = (v, M)) : r = v ∧ M' = M := by
  rw [e] at h; exact ⟨congrArg Prod.fst h, congrArg Prod.snd h⟩
theorem pr_congr {M N : gM} {nm nc nk ne : Nat} {op : Bool} {mb : Nat → Nat} (e : Eq25 N M) : pr N nm nc nk ne op mb = pr M nm nc nk ne op mb := by
  have e1 := e 1 (by decide) (by decide)
  have e3 := e 3 (by decide) (by decide)
  have e4 := e 4 (by decide) (by decide)
  have e5 := e 5 (by decide) (by decide)
  have e6 := e 6 (by decide) (by decide)
  have e8 := e 8 (by decide) (by decide)
  have e9 := e 9 (by decide) (by decide)
  have e11 := e 11 (by decide) (by decide)
  have e12 := e 12 (by decide) (by decide)
  have e13 := e 13 (by decide) (by decide)
  have e14 := e 14 (by decide) (by decide)
  have e15 := e 15 (by decide) (by decide)
  have e17 := e 17 (by decide) (by decide)
  have e18 := e 18 (by decide) (by decide)
  have e19 := e 19 (by decide) (by decide)
  have e20 := e 20 (by decide) (by decide)
  have e21 := e 21 (by decide) (by decide)
  have e22 := e 22 (by decide) (by decide)
  have e23 := e 23 (by decide) (by decide)
  have e25 := e 25 (by decide) (by decide)
  have E1 : ∀ k h, k < 25 → s1 N nm nc nk ne op k h = s1 M nm nc nk ne op k h := fun k h hk => by
    have a1 : pcn N nm nc nk ne op k = pcn M nm nc nk ne op k := by
      unfold pcn
      split
      · rfl
      · next hn =>
        rw [x_count_v hk, x_count_v hk]
        unfold cnF
        split
        · rcases (show k = 0 ∨ k = 1 ∨ k = 2 ∨ k = 3 ∨ k = 4 ∨ k = 5 ∨ k = 6 ∨ k = 7 ∨ k = 8 ∨ k = 11 by omega) with rfl | rfl | rfl | rfl | rfl | rfl | rfl | rfl | rfl | rfl <;> simp only [cntF, e1, e14, e21, e3, e4, e25]
        · rw [e25]
    have a2 : y_tal N (k % 6) = y_tal M (k % 6) := by simp only [y_tal, e14, e15]
    simp only [s1, a1, a2]
  have E2 : ∀ k w h, s2 N nm nk k w h = s2 M nm nk k w h := fun k w h => by
    have a1 : x_member N nm nk (nI k) (nI w) = x_member M nm nk (nI k) (nI w) := by
      simp only [x_member]
      split
      · generalize (nI w).toNatClampNeg = j
        rcases (show j = 0 ∨ j = 1 ∨ j = 2 ∨ j = 3 ∨ j = 4 ∨ 5 ≤ j by omega) with rfl | rfl | rfl | rfl | rfl | hj
        · simp only [memF, e3]
        · simp only [memF, e4]
        · simp only [memF, e4, e25]
        · simp only [memF, e5]
        · simp only [memF, e17]
        · obtain ⟨q, rfl⟩ : ∃ q, j = q + 5 := ⟨j - 5, by omega⟩
          simp only [memF, e6]
      · rfl
    simp only [s2, a1]
  have E3 : ∀ k h, s3 N nc k h = s3 M nc k h := fun k h => by
    have a1 : x_clause N nc (nI k) = x_clause M nc (nI k) := by simp only [x_clause, e8]
    have a2 : ∀ c, x_value N nc c = x_value M nc c := fun c => by unfold x_value; rw [e8, e9]
    simp only [s3, a1, a2]
  have E4 : ∀ k w h, s4 N nk k w h = s4 M nk k w h := fun k w h => by
    have a1 : x_told N nk (nI k) (nI w) = x_told M nk (nI k) (nI w) := by
      simp only [x_told]
      split
      · generalize (nI w).toNatClampNeg = j
        rcases (show j = 0 ∨ j = 1 ∨ j = 2 ∨ j = 3 ∨ j = 4 ∨ j = 5 ∨ 6 ≤ j by omega) with rfl | rfl | rfl | rfl | rfl | rfl | hj
        · simp only [tolF, e17]
        · simp only [tolF, e8, e18]
        · simp only [tolF, e19]
        · simp only [tolF, e20]
        · simp only [tolF, e21]
        · simp only [tolF, e21, e22]
        · obtain ⟨q, rfl⟩ : ∃ q, j = q + 6 := ⟨j - 6, by omega⟩
          simp only [tolF, e21, e23]
      · rfl
    simp only [s4, a1]
  have E5 : ∀ k h, s5 N nc ne k h = s5 M nc ne k h := fun k h => by
    have a1 : ∀ i w : Int32, x_change N nc ne (nI (k + 1)) i w = x_change M nc ne (nI (k + 1)) i w := fun i w => by
      simp only [x_change, e12]
      split
      · split
        · rfl
        · generalize w.toNatClampNeg = j
          rcases (show j = 0 ∨ j = 1 ∨ 2 ≤ j by omega) with rfl | rfl | hj
          · simp only [chaF, e8]
          · simp only [chaF, e11]
          · obtain ⟨q, rfl⟩ : ∃ q, j = q + 2 := ⟨j - 2, by omega⟩
            simp only [chaF, e13]
      · rfl
    simp only [s5, x_changes, a1, e12]
  have eb : bstX N mb nk = bstX M mb nk := by
    show bestTo nk (pendB (N 21)) (aheadX (N 19) (N 18) (N 3) mb) = bestTo nk (pendB (M 21)) (aheadX (M 19) (M 18) (M 3) mb)
    rw [e21, e19, e18, e3]
  unfold pr
  rw [eb, itr_congr 25 73 E1, itr_congr 10 _ (fun k h _ => itr_congr 6 h (fun w h _ => E2 k w h)), itr_congr 20 _ (fun k h _ => E3 k h), itr_congr 30 _ (fun k h _ => itr_congr 7 h (fun w h _ => E4 k w h)), itr_congr 12 _ (fun k h _ => E5 k h)]
section
variable {E : gE} {M : gM} {nm nc nk ne nb td ol hs : Nat} {op br : Bool} {mb pl ch : Nat → Nat}
theorem inR_self (n : Nat) : inR (nI n) n = false := inR_ge (Int32.le_refl _)
theorem fnd_out (nu : ∀ k, k < nc → ∃ c, M 8 k = nI c ∧ 1 ≤ c ∧ c ≤ 99) {v : Int32} (hv : ∀ c : Nat, 1 ≤ c → c ≤ 99 → nI c ≠ v) : fndTo nc (fun k => decide (M 8 k = v)) = none :=
  fndTo_eqn (fun j hj => by
    obtain ⟨c, e, h1, h2⟩ := nu j hj
    exact decide_eq_false (by rw [e]; exact hv c h1 h2))
theorem rf_clause {c v r : Int32} {M' : gM} (he : inI c (nI 1) (nI 99) = false ∨ inI v (nI 0) (nI 9999) = false) (h : x_addClause M nc ol hs c v r M') : r = -1 ∧ M' = M := by
  rw [x_addClause, if_pos he] at h; exact h
theorem rf_set {w v r : Int32} {M' : gM} (he : ∀ j, j < 5 → w = nI j → setOK j v = false) (h : x_set M ol hs w v r M') : r = -1 ∧ M' = M := by
  rcases h with ⟨j, hj, e, h2, -⟩ | ⟨-, h⟩
  · rw [he j hj e] at h2; cases h2
  · exact h
theorem rf_member (hm : nm ≤ 10) : x_member M nm nk (nI nm) (nI 0) = -1 := by rw [x_member, inR_self]; rfl
theorem rf_vote {v : Int32} : x_vote M nm ol hs op (nI nm) v = (-1, M) := by rw [x_vote, inR_self]; rfl
theorem rf_comment {c k v : Int32} : x_comment M nm nc nk ol hs op (nI nm) c k v = (-1, M) := by
  rw [x_comment]
  split
  · rfl
  · rw [inR_self]; rfl
theorem rf_told {w : Int32} : x_told M nk (nI nk) w = -1 := by rw [x_told, inR_self]; rfl
theorem rf_appeal1 {m s : Int32} : x_appeal M nm nk ne ol hs op br pl (nI nk) m s = (-1, M) := by rw [x_appeal, inR_self]; rfl
theorem rf_appeal2 {c s : Int32} : x_appeal M nm nk ne ol hs op br pl c (nI nm) s = (-1, M) := by rw [x_appeal, inR_self]; simp
theorem rf_enter1 {L : Nat} {r : Int32} {M' : gM} (h : x_enter M ch L nm nc nk ol hs op (nI nm) r M') : r = -1 ∧ RF M M' := by
  rw [x_enter, inR_self] at h
  obtain ⟨h1, h2, h3⟩ := h
  exact ⟨h1, h3, h2⟩
theorem rf_enter2 {L : Nat} {r : Int32} {M' : gM} (ho : op = false) (hm : nm ≤ 10) (h0 : 0 < nm) (h : x_enter M ch L nm nc nk ol hs op (nI 0) r M') : r = -2 ∧ RF M M' := by
  rw [x_enter, if_pos (by rw [inR_nI (by decide) (by omega)]; exact decide_eq_true h0), if_neg (by rw [ho]; simp)] at h
  obtain ⟨h1, h2, h3⟩ := h
  exact ⟨h1, h3, h2⟩
theorem rf_vote2 (ho : op = false) (hm : nm ≤ 10) (h0 : 0 < nm) : x_vote M nm ol hs op (nI 0) (nI 0) = (-2, M) := by
  rw [x_vote, if_pos ⟨by rw [inR_nI (by decide) (by omega)]; exact decide_eq_true h0, by decide⟩, ho]; rfl
theorem neg_ne {v : Int32} (hv : v < 0) : ∀ c : Nat, 1 ≤ c → c ≤ 99 → nI c ≠ v := fun c _ h2 e => nI_pos (n := c) (by omega) (e ▸ hv)
theorem J.resne (h : J M nm nc nk ne nb td op br mb pl) {c : Nat} (q : bstX M mb nk = some c) : ne < 12 := by
  obtain ⟨h1, h2⟩ := bestTo_lt q
  cases hb : br with
  | false => exact h.e12 (by omega) hb
  | true =>
    have h3 := cnt0.mp (h.brp hb).2.1 c h1
    rw [h2] at h3; cases h3
theorem zer_ne : ∀ c : Nat, 1 ≤ c → c ≤ 99 → nI c ≠ nI 0 := fun c h1 h2 e => by
  have := (nI_eq (by omega) (by decide)).mp e
  omega
set_option maxHeartbeats 2000000 in
theorem c_L_refused (h : J M nm nc nk ne nb td op br mb pl) (hH : WH M ol hs) (hz : Nz M nk nm op) (hT : TxX M ch 0) : gMet E k_L_refused [.ref 0] M (gInt fun r M' => r = nI 1 ∧ RF M M') := by
  refine gMet.of (by decide +kernel) rfl (Nat.le_of_ble_eq_true rfl) (fun X hX hR => ?_)
  have hW := h.ws
  have hm := hW.1.2
  have hc := hW.2.1.2
  have hk := hW.2.2.1.2
  have he := hW.2.2.2.1.2
  have K342 : ∀ M1 : gM, RF M M1 → gG X E M1 342 [some (.ref 0), some (.long (pr M nm nc nk ne op mb)), none, some (.int (nI hs)), some (.int (nI nm)), some (.int (nI nk)), some (.int (nI 1))] [] (gQ X E (gInt fun r M' => r = nI 1 ∧ RF M M')) := by
    intro M1 hr
    have h1 := h.congr hr.e25
    have hW1 := h1.ws
    have hH1 := hr.WH hH
    have hz1 := hz.congr hr.e25
    have K377 : gG X E M1 377 [some (.ref 0), some (.long (pr M nm nc nk ne op mb)), none, some (.int (nI hs)), some (.int (nI nm)), some (.int (nI nk)), some (.int (nI 1))] [] (gQ X E (gInt fun r M' => r = nI 1 ∧ RF M M')) := by
      refine g_iconst hX dL_refused_377 ic_1 rfl ?_
      refine g_goto (n := 382) hX dL_refused_378 (by decide) ?_
      refine g_istore hX dL_refused_382 (Nat.le_of_ble_eq_true rfl) rfl ?_
      refine g_iload hX dL_refused_384 rfl rfl ?_
      refine g_if_eq (tgt := 412) hX dL_refused_386 (by decide) rfl (fun zc386 => absurd zc386 (by decide)) (fun zc386 => ?_)
      refine g_aload_n (i := 0) hX dL_refused_389 rfl rfl rfl ?_
      refine g_callSl hX (c_L_print hW1 hH1 hz1) kf_L_print rfl wk_L_46 rfl rfl rfl rfl dL_refused_390 rfl (fun x390 M390 h390 => ?_)
      obtain ⟨rfl, hMq⟩ := h390; have hMq := hMq.symm; subst hMq
      refine g_lload_n (i := 1) hX dL_refused_393 rfl rfl rfl ?_
      refine g_lcmpE hX ((pr_congr hr.e25)) dL_refused_394 rfl ?_
      refine g_if_ne (tgt := 412) hX dL_refused_395 (by decide) rfl (fun zc395 => absurd rfl zc395) (fun zc395 => ?_)
      refine g_aload_n (i := 0) hX dL_refused_398 rfl rfl rfl ?_
      refine g_bipush hX dL_refused_399 bc_9 rfl ?_
      refine g_callVi hX (q_cnt hW1 hH1 9 rfl rfl) kf_X7_count rfl wk_L_13 rfl rfl rfl rfl rfl dL_refused_401 rfl (fun x401 M401 h401 => ?_)
      obtain ⟨rfl, hMq⟩ := h401; have hMq := hMq.symm; subst hMq
      refine g_iload_n (i := 3) hX dL_refused_404 rfl rfl rfl ?_
      refine g_icmp_ne (tgt := 412) hX dL_refused_405 (by decide) rfl (fun zc405 => absurd rfl zc405) (fun zc405 => ?_)
      refine g_iconst hX dL_refused_408 ic_1 rfl ?_
      refine g_goto (n := 413) hX dL_refused_409 (by decide) ?_
      refine g_zret hX hR (by first | exact Or.inl rfl | exact Or.inr rfl | exact gB_01 _) dL_refused_413 ?_
      exact ⟨rfl, hr⟩
    have K359 : gG X E M1 359 [some (.ref 0), some (.long (pr M nm nc nk ne op mb)), none, some (.int (nI hs)), some (.int (nI nm)), some (.int (nI nk)), some (.int (nI 1))] [] (gQ X E (gInt fun r M' => r = nI 1 ∧ RF M M')) := by
      cases hb : bstX M1 mb nk with
      | none =>
        refine g_aload_n (i := 0) hX dL_refused_359 rfl rfl rfl ?_
        refine g_callVi hX (gInt_e (c_X7_next E hW1) (y := -4) (by rw [hb]; rfl)) kf_X7_next rfl wk_L_42 rfl rfl rfl rfl rfl dL_refused_360 rfl (fun x360 M360 h360 => ?_)
        obtain ⟨rfl, hMq⟩ := h360; have hMq := hMq.symm; subst hMq
        refine g_if_ge (tgt := 377) hX dL_refused_363 (by decide) rfl (fun zc363 => absurd zc363 (by decide)) (fun zc363 => ?_)
        refine g_aload_n (i := 0) hX dL_refused_366 rfl rfl rfl ?_
        refine g_iconst hX dL_refused_367 ic_2 rfl ?_
        refine g_iconst hX dL_refused_368 ic_0 rfl ?_
        refine g_callVi hX (c_X7_resolve E (nI 2) (nI 0) hW1 hH1 (fun c q => by rw [hb] at q; cases q)) kf_X7_resolve rfl wk_L_74 rfl rfl rfl rfl rfl dL_refused_369 rfl (fun x369 M369 h369 => ?_)
        replace h369 := (fun z => pr_e z (by rw [x_resolve, if_pos (by decide), hb])) h369
        obtain ⟨rfl, hMq⟩ := h369; have hMq := hMq.symm; subst hMq
        refine g_bipush hX dL_refused_372 bc_m2 rfl ?_
        refine g_icmp_ne (tgt := 381) hX dL_refused_374 (by decide) rfl (fun zc374 => absurd rfl zc374) (fun zc374 => ?_)
        exact K377
      | some b =>
        have hb2 : b < 2 ^ 31 := by have := (bestTo_lt hb).1; omega
        refine g_aload_n (i := 0) hX dL_refused_359 rfl rfl rfl ?_
        refine g_callVi hX (gInt_e (c_X7_next E hW1) (y := nI b) (by rw [hb]; rfl)) kf_X7_next rfl wk_L_42 rfl rfl rfl rfl rfl dL_refused_360 rfl (fun x360 M360 h360 => ?_)
        obtain ⟨rfl, hMq⟩ := h360; have hMq := hMq.symm; subst hMq
        refine g_if_ge (tgt := 377) hX dL_refused_363 (by decide) rfl (fun zc363 => ?_) (fun zc363 => absurd (nI_pos' hb2) zc363)
        exact K377
    cases op with
    | true =>
      refine g_aload_n (i := 0) hX dL_refused_342 rfl rfl rfl ?_
      refine g_iconst hX dL_refused_343 ic_4 rfl ?_
      refine g_callVi hX (q_cnt hW1 hH1 4 (v := gB true) rfl rfl) kf_X7_count rfl wk_L_13 rfl rfl rfl rfl rfl dL_refused_344 rfl (fun x344 M344 h344 => ?_)
      obtain ⟨rfl, hMq⟩ := h344; have hMq := hMq.symm; subst hMq
      refine g_if_eq (tgt := 359) hX dL_refused_347 (by decide) rfl (fun zc347 => absurd zc347 (by decide)) (fun zc347 => ?_)
      refine g_aload_n (i := 0) hX dL_refused_350 rfl rfl rfl ?_
      refine g_callVi hX (c_X7_open E hW1 hH1) kf_X7_open rfl wk_L_92 rfl rfl rfl rfl rfl dL_refused_351 rfl (fun x351 M351 h351 => ?_)
      replace h351 := (fun z => pr_e z (by rw [x_open, if_pos (Or.inl rfl)])) h351
      obtain ⟨rfl, hMq⟩ := h351; have hMq := hMq.symm; subst hMq
      refine g_bipush hX dL_refused_354 bc_m2 rfl ?_
      refine g_icmp_ne (tgt := 381) hX dL_refused_356 (by decide) rfl (fun zc356 => absurd rfl zc356) (fun zc356 => ?_)
      exact K359
    | false =>
      refine g_aload_n (i := 0) hX dL_refused_342 rfl rfl rfl ?_
      refine g_iconst hX dL_refused_343 ic_4 rfl ?_
      refine g_callVi hX (q_cnt hW1 hH1 4 (v := gB false) rfl rfl) kf_X7_count rfl wk_L_13 rfl rfl rfl rfl rfl dL_refused_344 rfl (fun x344 M344 h344 => ?_)
      obtain ⟨rfl, hMq⟩ := h344; have hMq := hMq.symm; subst hMq
      refine g_if_eq (tgt := 359) hX dL_refused_347 (by decide) rfl (fun zc347 => ?_) (fun zc347 => absurd rfl zc347)
      exact K359
  refine g_aload_n (i := 0) hX dL_refused_0 rfl rfl rfl ?_
  refine g_callSl hX (c_L_print hW hH hz) kf_L_print rfl wk_L_46 rfl rfl rfl rfl dL_refused_1 rfl (fun x1 M1 h1 => ?_)
  obtain ⟨rfl, hMq⟩ := h1; have hMq := hMq.symm; subst hMq
  refine g_lstore_n (i := 1) hX dL_refused_4 rfl (Nat.le_of_ble_eq_true rfl) rfl ?_
  refine g_aload_n (i := 0) hX dL_refused_5 rfl rfl rfl ?_
  refine g_bipush hX dL_refused_6 bc_9 rfl ?_
  refine g_callVi hX (q_cnt hW hH 9 rfl rfl) kf_X7_count rfl wk_L_13 rfl rfl rfl rfl rfl dL_refused_8 rfl (fun x8 M8 h8 => ?_)
  obtain ⟨rfl, hMq⟩ := h8; have hMq := hMq.symm; subst hMq
  refine g_istore_n (i := 3) hX dL_refused_11 rfl (Nat.le_of_ble_eq_true rfl) rfl ?_
  refine g_aload_n (i := 0) hX dL_refused_12 rfl rfl rfl ?_
  refine g_iconst hX dL_refused_13 ic_0 rfl ?_
  refine g_callVi hX (q_cnt hW hH 0 rfl rfl) kf_X7_count rfl wk_L_13 rfl rfl rfl rfl rfl dL_refused_14 rfl (fun x14 M14 h14 => ?_)
  obtain ⟨rfl, hMq⟩ := h14; have hMq := hMq.symm; subst hMq
  refine g_istore hX dL_refused_17 (Nat.le_of_ble_eq_true rfl) rfl ?_
  refine g_aload_n (i := 0) hX dL_refused_19 rfl rfl rfl ?_
  refine g_bipush hX dL_refused_20 bc_6 rfl ?_
  refine g_callVi hX (q_cnt hW hH 6 rfl rfl) kf_X7_count rfl wk_L_13 rfl rfl rfl rfl rfl dL_refused_22 rfl (fun x22 M22 h22 => ?_)
  obtain ⟨rfl, hMq⟩ := h22; have hMq := hMq.symm; subst hMq
  refine g_istore hX dL_refused_25 (Nat.le_of_ble_eq_true rfl) rfl ?_
  refine g_aload_n (i := 0) hX dL_refused_27 rfl rfl rfl ?_
  refine g_iconst hX dL_refused_28 ic_m1 rfl ?_
  refine g_callVi hX (c_X7_addMember E (-1) hW hH) kf_X7_addMember rfl wk_L_52 rfl rfl rfl rfl rfl dL_refused_29 rfl (fun x29 M29 h29 => ?_)
  replace h29 := (fun z => pr_e z (by rw [x_addMember, if_pos (by decide)])) h29
  obtain ⟨rfl, hMq⟩ := h29; have hMq := hMq.symm; subst hMq
  refine g_iconst hX dL_refused_32 ic_m1 rfl ?_
  refine g_icmp_ne (tgt := 197) hX dL_refused_33 (by decide) rfl (fun zc33 => absurd rfl zc33) (fun zc33 => ?_)
  refine g_aload_n (i := 0) hX dL_refused_36 rfl rfl rfl ?_
  refine g_bipush hX dL_refused_37 bc_100 rfl ?_
  refine g_iconst hX dL_refused_39 ic_5 rfl ?_
  refine g_callVi hX (c_X7_addClause E (nI 100) (nI 5) hW hH) kf_X7_addClause rfl wk_L_55 rfl rfl rfl rfl rfl dL_refused_40 rfl (fun x40 M40 h40 => ?_)
  replace h40 := (rf_clause (Or.inl (by decide))) h40
  obtain ⟨rfl, hMq⟩ := h40; have hMq := hMq.symm; subst hMq
  refine g_iconst hX dL_refused_43 ic_m1 rfl ?_
  refine g_icmp_ne (tgt := 197) hX dL_refused_44 (by decide) rfl (fun zc44 => absurd rfl zc44) (fun zc44 => ?_)
  refine g_aload_n (i := 0) hX dL_refused_47 rfl rfl rfl ?_
  refine g_iconst hX dL_refused_48 ic_5 rfl ?_
  refine g_iconst hX dL_refused_49 ic_m1 rfl ?_
  refine g_callVi hX (c_X7_addClause E (nI 5) (-1) hW hH) kf_X7_addClause rfl wk_L_55 rfl rfl rfl rfl rfl dL_refused_50 rfl (fun x50 M50 h50 => ?_)
  replace h50 := (rf_clause (Or.inr (by decide))) h50
  obtain ⟨rfl, hMq⟩ := h50; have hMq := hMq.symm; subst hMq
  refine g_iconst hX dL_refused_53 ic_m1 rfl ?_
  refine g_icmp_ne (tgt := 197) hX dL_refused_54 (by decide) rfl (fun zc54 => absurd rfl zc54) (fun zc54 => ?_)
  refine g_aload_n (i := 0) hX dL_refused_57 rfl rfl rfl ?_
  refine g_iconst hX dL_refused_58 ic_5 rfl ?_
  refine g_iconst hX dL_refused_59 ic_1 rfl ?_
  refine g_callVi hX (c_X7_set E (nI 5) (nI 1) hW hH) kf_X7_set rfl wk_L_58 rfl rfl rfl rfl rfl dL_refused_60 rfl (fun x60 M60 h60 => ?_)
  replace h60 := (rf_set (fun j hj e => by have := (nI_eq (by decide) (by omega)).mp e; omega)) h60
  obtain ⟨rfl, hMq⟩ := h60; have hMq := hMq.symm; subst hMq
  refine g_iconst hX dL_refused_63 ic_m1 rfl ?_
  refine g_icmp_ne (tgt := 197) hX dL_refused_64 (by decide) rfl (fun zc64 => absurd rfl zc64) (fun zc64 => ?_)
  refine g_aload_n (i := 0) hX dL_refused_67 rfl rfl rfl ?_
  refine g_iconst hX dL_refused_68 ic_0 rfl ?_
  refine g_bipush hX dL_refused_69 bc_101 rfl ?_
  refine g_callVi hX (c_X7_set E (nI 0) (nI 101) hW hH) kf_X7_set rfl wk_L_58 rfl rfl rfl rfl rfl dL_refused_71 rfl (fun x71 M71 h71 => ?_)
  replace h71 := (rf_set (fun j hj e => by have := (nI_eq (by decide) (by omega)).mp e; subst this; decide)) h71
  obtain ⟨rfl, hMq⟩ := h71; have hMq := hMq.symm; subst hMq
  refine g_iconst hX dL_refused_74 ic_m1 rfl ?_
  refine g_icmp_ne (tgt := 197) hX dL_refused_75 (by decide) rfl (fun zc75 => absurd rfl zc75) (fun zc75 => ?_)
  refine g_aload_n (i := 0) hX dL_refused_78 rfl rfl rfl ?_
  refine g_iload hX dL_refused_79 rfl rfl ?_
  refine g_iconst hX dL_refused_81 ic_0 rfl ?_
  refine g_callVi hX (gInt_e (c_X7_member E (nI nm) (nI 0) hW) (rf_member hm)) kf_X7_member rfl wk_L_22 rfl rfl rfl rfl rfl dL_refused_82 rfl (fun x82 M82 h82 => ?_)
  obtain ⟨rfl, hMq⟩ := h82; have hMq := hMq.symm; subst hMq
  refine g_iconst hX dL_refused_85 ic_m1 rfl ?_
  refine g_icmp_ne (tgt := 197) hX dL_refused_86 (by decide) rfl (fun zc86 => absurd rfl zc86) (fun zc86 => ?_)
  refine g_aload_n (i := 0) hX dL_refused_89 rfl rfl rfl ?_
  refine g_bipush hX dL_refused_90 bc_m5 rfl ?_
  refine g_callVi hX (gInt_e (c_X7_value E (-5) hW) (y := -1) (by rw [x_value, fnd_out h.nu (neg_ne (by decide))])) kf_X7_value rfl wk_L_29 rfl rfl rfl rfl rfl dL_refused_92 rfl (fun x92 M92 h92 => ?_)
  obtain ⟨rfl, hMq⟩ := h92; have hMq := hMq.symm; subst hMq
  refine g_iconst hX dL_refused_95 ic_m1 rfl ?_
  refine g_icmp_ne (tgt := 197) hX dL_refused_96 (by decide) rfl (fun zc96 => absurd rfl zc96) (fun zc96 => ?_)
  refine g_aload_n (i := 0) hX dL_refused_99 rfl rfl rfl ?_
  refine g_iconst hX dL_refused_100 ic_0 rfl ?_
  refine g_iconst hX dL_refused_101 ic_1 rfl ?_
  refine g_callVi hX (gInt_e (c_X7_valueIn E (nI 0) (nI 1) hW) (y := -1) (by rw [x_valueIn, fnd_out h.nu zer_ne])) kf_X7_valueIn rfl wk_L_61 rfl rfl rfl rfl rfl dL_refused_102 rfl (fun x102 M102 h102 => ?_)
  obtain ⟨rfl, hMq⟩ := h102; have hMq := hMq.symm; subst hMq
  refine g_iconst hX dL_refused_105 ic_m1 rfl ?_
  refine g_icmp_ne (tgt := 197) hX dL_refused_106 (by decide) rfl (fun zc106 => absurd rfl zc106) (fun zc106 => ?_)
  refine g_aload_n (i := 0) hX dL_refused_109 rfl rfl rfl ?_
  refine g_bipush hX dL_refused_110 bc_m2 rfl ?_
  refine g_callVi hX (gInt_e (c_X7_clause E (-2) hW) (y := -1) (by rw [x_clause, if_pos (by decide)])) kf_X7_clause rfl wk_L_26 rfl rfl rfl rfl rfl dL_refused_112 rfl (fun x112 M112 h112 => ?_)
  obtain ⟨rfl, hMq⟩ := h112; have hMq := hMq.symm; subst hMq
  refine g_iconst hX dL_refused_115 ic_m1 rfl ?_
  refine g_icmp_ne (tgt := 197) hX dL_refused_116 (by decide) rfl (fun zc116 => absurd rfl zc116) (fun zc116 => ?_)
  refine g_aload_n (i := 0) hX dL_refused_119 rfl rfl rfl ?_
  refine g_bipush hX dL_refused_120 bc_20 rfl ?_
  refine g_callVi hX (gInt_e (c_X7_clause E (nI 20) hW) (y := -4) (by rw [x_clause, if_neg (by decide), if_neg (by rw [inR_nI (by decide) (by omega)]; simp; omega)])) kf_X7_clause rfl wk_L_26 rfl rfl rfl rfl rfl dL_refused_122 rfl (fun x122 M122 h122 => ?_)
  obtain ⟨rfl, hMq⟩ := h122; have hMq := hMq.symm; subst hMq
  refine g_bipush hX dL_refused_125 bc_m4 rfl ?_
  refine g_icmp_ne (tgt := 197) hX dL_refused_127 (by decide) rfl (fun zc127 => absurd rfl zc127) (fun zc127 => ?_)
  refine g_aload_n (i := 0) hX dL_refused_130 rfl rfl rfl ?_
  refine g_bipush hX dL_refused_131 bc_26 rfl ?_
  refine g_callVi hX (gInt_e (c_X7_count E (nI 26) hW hH) (y := -1) (by rw [x_count, if_neg (by decide)])) kf_X7_count rfl wk_L_13 rfl rfl rfl rfl rfl dL_refused_133 rfl (fun x133 M133 h133 => ?_)
  obtain ⟨rfl, hMq⟩ := h133; have hMq := hMq.symm; subst hMq
  refine g_iconst hX dL_refused_136 ic_m1 rfl ?_
  refine g_icmp_ne (tgt := 197) hX dL_refused_137 (by decide) rfl (fun zc137 => absurd rfl zc137) (fun zc137 => ?_)
  refine g_aload_n (i := 0) hX dL_refused_140 rfl rfl rfl ?_
  refine g_iload hX dL_refused_141 rfl rfl ?_
  refine g_iconst hX dL_refused_143 ic_0 rfl ?_
  refine g_callVi hX (c_X7_vote E (nI nm) (nI 0) hW hH) kf_X7_vote rfl wk_L_64 rfl rfl rfl rfl rfl dL_refused_144 rfl (fun x144 M144 h144 => ?_)
  replace h144 := (fun z => pr_e z rf_vote) h144
  obtain ⟨rfl, hMq⟩ := h144; have hMq := hMq.symm; subst hMq
  refine g_iconst hX dL_refused_147 ic_m1 rfl ?_
  refine g_icmp_ne (tgt := 197) hX dL_refused_148 (by decide) rfl (fun zc148 => absurd rfl zc148) (fun zc148 => ?_)
  refine g_aload_n (i := 0) hX dL_refused_151 rfl rfl rfl ?_
  refine g_iconst hX dL_refused_152 ic_m1 rfl ?_
  refine g_callVi hX (c_X7_pass E (-1) hW hH) kf_X7_pass rfl wk_L_67 rfl rfl rfl rfl rfl dL_refused_153 rfl (fun x153 M153 h153 => ?_)
  replace h153 := (fun z => pr_e z (by rw [x_pass, if_neg (by decide)])) h153
  obtain ⟨rfl, hMq⟩ := h153; have hMq := hMq.symm; subst hMq
  refine g_iconst hX dL_refused_156 ic_m1 rfl ?_
  refine g_icmp_ne (tgt := 197) hX dL_refused_157 (by decide) rfl (fun zc157 => absurd rfl zc157) (fun zc157 => ?_)
  refine g_aload_n (i := 0) hX dL_refused_160 rfl rfl rfl ?_
  refine g_iconst hX dL_refused_161 ic_m1 rfl ?_
  refine g_callVi hX (c_X7_tally E (-1) hW) kf_X7_tally rfl wk_L_19 rfl rfl rfl rfl rfl dL_refused_162 rfl (fun x162 M162 h162 => ?_)
  replace h162 := (fun z => pr_e z (by rw [x_tally, if_neg (by decide)])) h162
  obtain ⟨rfl, hMq⟩ := h162; have hMq := hMq.symm; subst hMq
  refine g_iconst hX dL_refused_165 ic_m1 rfl ?_
  refine g_icmp_ne (tgt := 197) hX dL_refused_166 (by decide) rfl (fun zc166 => absurd rfl zc166) (fun zc166 => ?_)
  refine g_aload_n (i := 0) hX dL_refused_169 rfl rfl rfl ?_
  refine g_iload hX dL_refused_170 rfl rfl ?_
  refine g_iconst hX dL_refused_172 ic_5 rfl ?_
  refine g_iconst hX dL_refused_173 ic_0 rfl ?_
  refine g_iconst hX dL_refused_174 ic_0 rfl ?_
  refine g_callVi hX (c_X7_comment E (nI nm) (nI 5) (nI 0) (nI 0) hW hH) kf_X7_comment rfl wk_L_70 rfl rfl rfl rfl rfl dL_refused_175 rfl (fun x175 M175 h175 => ?_)
  replace h175 := (fun z => pr_e z rf_comment) h175
  obtain ⟨rfl, hMq⟩ := h175; have hMq := hMq.symm; subst hMq
  refine g_iconst hX dL_refused_178 ic_m1 rfl ?_
  refine g_icmp_ne (tgt := 197) hX dL_refused_179 (by decide) rfl (fun zc179 => absurd rfl zc179) (fun zc179 => ?_)
  refine g_aload_n (i := 0) hX dL_refused_182 rfl rfl rfl ?_
  refine g_iload hX dL_refused_183 rfl rfl ?_
  refine g_iconst hX dL_refused_185 ic_0 rfl ?_
  refine g_callVi hX (gInt_e (c_X7_told E (nI nk) (nI 0) hW) rf_told) kf_X7_told rfl wk_L_32 rfl rfl rfl rfl rfl dL_refused_186 rfl (fun x186 M186 h186 => ?_)
  obtain ⟨rfl, hMq⟩ := h186; have hMq := hMq.symm; subst hMq
  refine g_iconst hX dL_refused_189 ic_m1 rfl ?_
  refine g_icmp_ne (tgt := 197) hX dL_refused_190 (by decide) rfl (fun zc190 => absurd rfl zc190) (fun zc190 => ?_)
  refine g_iconst hX dL_refused_193 ic_1 rfl ?_
  refine g_goto (n := 198) hX dL_refused_194 (by decide) ?_
  refine g_istore hX dL_refused_198 (Nat.le_of_ble_eq_true rfl) rfl ?_
  refine g_iload hX dL_refused_200 rfl rfl ?_
  refine g_if_eq (tgt := 381) hX dL_refused_202 (by decide) rfl (fun zc202 => absurd zc202 (by decide)) (fun zc202 => ?_)
  refine g_aload_n (i := 0) hX dL_refused_205 rfl rfl rfl ?_
  refine g_iconst hX dL_refused_206 ic_3 rfl ?_
  refine g_iconst hX dL_refused_207 ic_0 rfl ?_
  refine g_callVi hX (c_X7_resolve E (nI 3) (nI 0) hW hH (fun c q => h.resne q)) kf_X7_resolve rfl wk_L_74 rfl rfl rfl rfl rfl dL_refused_208 rfl (fun x208 M208 h208 => ?_)
  replace h208 := (fun z => pr_e z (by rw [x_resolve, if_neg (by decide)])) h208
  obtain ⟨rfl, hMq⟩ := h208; have hMq := hMq.symm; subst hMq
  refine g_iconst hX dL_refused_211 ic_m1 rfl ?_
  refine g_icmp_ne (tgt := 381) hX dL_refused_212 (by decide) rfl (fun zc212 => absurd rfl zc212) (fun zc212 => ?_)
  refine g_aload_n (i := 0) hX dL_refused_215 rfl rfl rfl ?_
  refine g_iconst hX dL_refused_216 ic_2 rfl ?_
  refine g_iconst hX dL_refused_217 ic_1 rfl ?_
  refine g_callVi hX (c_X7_resolve E (nI 2) (nI 1) hW hH (fun c q => h.resne q)) kf_X7_resolve rfl wk_L_74 rfl rfl rfl rfl rfl dL_refused_218 rfl (fun x218 M218 h218 => ?_)
  replace h218 := (fun z => pr_e z (by rw [x_resolve, if_neg (by decide)])) h218
  obtain ⟨rfl, hMq⟩ := h218; have hMq := hMq.symm; subst hMq
  refine g_iconst hX dL_refused_221 ic_m1 rfl ?_
  refine g_icmp_ne (tgt := 381) hX dL_refused_222 (by decide) rfl (fun zc222 => absurd rfl zc222) (fun zc222 => ?_)
  refine g_aload_n (i := 0) hX dL_refused_225 rfl rfl rfl ?_
  refine g_iload hX dL_refused_226 rfl rfl ?_
  refine g_iconst hX dL_refused_228 ic_0 rfl ?_
  refine g_iconst hX dL_refused_229 ic_1 rfl ?_
  refine g_callVi hX (c_X7_appeal E (nI nk) (nI 0) (nI 1) hW hH) kf_X7_appeal rfl wk_L_77 rfl rfl rfl rfl rfl dL_refused_230 rfl (fun x230 M230 h230 => ?_)
  replace h230 := (fun z => pr_e z rf_appeal1) h230
  obtain ⟨rfl, hMq⟩ := h230; have hMq := hMq.symm; subst hMq
  refine g_iconst hX dL_refused_233 ic_m1 rfl ?_
  refine g_icmp_ne (tgt := 381) hX dL_refused_234 (by decide) rfl (fun zc234 => absurd rfl zc234) (fun zc234 => ?_)
  refine g_aload_n (i := 0) hX dL_refused_237 rfl rfl rfl ?_
  refine g_iconst hX dL_refused_238 ic_0 rfl ?_
  refine g_iload hX dL_refused_239 rfl rfl ?_
  refine g_iconst hX dL_refused_241 ic_1 rfl ?_
  refine g_callVi hX (c_X7_appeal E (nI 0) (nI nm) (nI 1) hW hH) kf_X7_appeal rfl wk_L_77 rfl rfl rfl rfl rfl dL_refused_242 rfl (fun x242 M242 h242 => ?_)
  replace h242 := (fun z => pr_e z rf_appeal2) h242
  obtain ⟨rfl, hMq⟩ := h242; have hMq := hMq.symm; subst hMq
  refine g_iconst hX dL_refused_245 ic_m1 rfl ?_
  refine g_icmp_ne (tgt := 381) hX dL_refused_246 (by decide) rfl (fun zc246 => absurd rfl zc246) (fun zc246 => ?_)
  refine g_aload_n (i := 0) hX dL_refused_249 rfl rfl rfl ?_
  refine g_iconst hX dL_refused_250 ic_0 rfl ?_
  refine g_callVi hX (gInt_e (c_X7_changes E (nI 0) hW) (y := -1) (by rw [x_changes, if_neg (fun q => by obtain ⟨j, e1, e2, e3⟩ := inI_n (by decide) (by omega) q; have := (nI_eq (by decide) (by omega)).mp e1; omega)])) kf_X7_changes rfl wk_L_35 rfl rfl rfl rfl rfl dL_refused_251 rfl (fun x251 M251 h251 => ?_)
  obtain ⟨rfl, hMq⟩ := h251; have hMq := hMq.symm; subst hMq
  refine g_iconst hX dL_refused_254 ic_m1 rfl ?_
  refine g_icmp_ne (tgt := 381) hX dL_refused_255 (by decide) rfl (fun zc255 => absurd rfl zc255) (fun zc255 => ?_)
  refine g_aload_n (i := 0) hX dL_refused_258 rfl rfl rfl ?_
  refine g_iconst hX dL_refused_259 ic_1 rfl ?_
  refine g_iconst hX dL_refused_260 ic_m1 rfl ?_
  refine g_iconst hX dL_refused_261 ic_0 rfl ?_
  refine g_callVi hX (gInt_e (c_X7_change E (nI 1) (-1) (nI 0) hW) (y := -1) (by rw [x_change, if_neg (fun q => q.2.1 (by decide))])) kf_X7_change rfl wk_L_38 rfl rfl rfl rfl rfl dL_refused_262 rfl (fun x262 M262 h262 => ?_)
  obtain ⟨rfl, hMq⟩ := h262; have hMq := hMq.symm; subst hMq
  refine g_iconst hX dL_refused_265 ic_m1 rfl ?_
  refine g_icmp_ne (tgt := 381) hX dL_refused_266 (by decide) rfl (fun zc266 => absurd rfl zc266) (fun zc266 => ?_)
  refine g_aload_n (i := 0) hX dL_refused_269 rfl rfl rfl ?_
  refine g_bipush hX dL_refused_270 bc_127 rfl ?_
  refine g_callVi hX (c_X7_type E (nI 127) hT) kf_X7_type rfl wk_L_80 rfl rfl rfl rfl rfl dL_refused_272 rfl (fun x272 M272 h272 => ?_)
  replace h272 := (fun z => pr_e z (by rw [x_type, if_neg (by decide)])) h272
  obtain ⟨rfl, hMq⟩ := h272; have hMq := hMq.symm; subst hMq
  refine g_iconst hX dL_refused_275 ic_m1 rfl ?_
  refine g_icmp_ne (tgt := 381) hX dL_refused_276 (by decide) rfl (fun zc276 => absurd rfl zc276) (fun zc276 => ?_)
  refine g_aload_n (i := 0) hX dL_refused_279 rfl rfl rfl ?_
  refine g_iconst hX dL_refused_280 ic_2 rfl ?_
  refine g_callVi hX (c_X7_fault E (nI 2) hW hT) kf_X7_fault rfl wk_L_83 rfl rfl rfl rfl rfl dL_refused_281 rfl (fun x281 M281 h281 => ?_)
  obtain ⟨rfl, hr1⟩ := h281
  have hr1 : RF M M281 := hr1
  refine g_iconst hX dL_refused_284 ic_m1 rfl ?_
  refine g_icmp_ne (tgt := 381) hX dL_refused_285 (by decide) rfl (fun zc285 => absurd (by rw [x_fault, if_neg (by decide)]) zc285) (fun zc285 => ?_)
  refine g_aload_n (i := 0) hX dL_refused_288 rfl rfl rfl ?_
  refine g_iload hX dL_refused_289 rfl rfl ?_
  refine g_callVi hX (c_X7_enter E (nI nm) (h.congr hr1.e25).ws (hr1.WH hH) (hr1.tx hT)) kf_X7_enter rfl wk_L_86 rfl rfl rfl rfl rfl dL_refused_291 rfl (fun x291 M291 h291 => ?_)
  obtain ⟨rfl, hr2⟩ := rf_enter1 h291
  have hr2 := hr1.trans hr2
  have h2 := h.congr hr2.e25
  have hH2 := hr2.WH hH
  have hz2 := hz.congr hr2.e25
  have hT2 := hr2.tx hT
  refine g_iconst hX dL_refused_294 ic_m1 rfl ?_
  refine g_icmp_ne (tgt := 381) hX dL_refused_295 (by decide) rfl (fun zc295 => absurd rfl zc295) (fun zc295 => ?_)
  refine g_aload_n (i := 0) hX dL_refused_298 rfl rfl rfl ?_
  refine g_iconst hX dL_refused_299 ic_4 rfl ?_
  refine g_callVi hX (q_cnt h2.ws hH2 4 rfl rfl) kf_X7_count rfl wk_L_13 rfl rfl rfl rfl rfl dL_refused_300 rfl (fun x300 M300 h300 => ?_)
  obtain ⟨rfl, hMq⟩ := h300; have hMq := hMq.symm; subst hMq
  refine g_iconst hX dL_refused_303 ic_1 rfl ?_
  refine g_icmp_eq (tgt := 342) hX dL_refused_304 (by decide) rfl (fun zc304 => ?_) (fun zc304 => ?_)
  · skip
    first | exact K342 _ hr2 | exact K342 _ (hr2.trans hr3)
  · skip
    have ho : op = false := by
      cases op with
      | false => rfl
      | true => exact absurd rfl zc304
    refine g_aload_n (i := 0) hX dL_refused_307 rfl rfl rfl ?_
    refine g_callVi hX (gInt_e (q_lack h2.ws hz2) (y := -2) (by rw [ho]; rfl)) kf_X7_lacking rfl wk_L_89 rfl rfl rfl rfl rfl dL_refused_308 rfl (fun x308 M308 h308 => ?_)
    obtain ⟨rfl, hMq⟩ := h308; have hMq := hMq.symm; subst hMq
    refine g_bipush hX dL_refused_311 bc_m2 rfl ?_
    refine g_icmp_ne (tgt := 381) hX dL_refused_313 (by decide) rfl (fun zc313 => absurd rfl zc313) (fun zc313 => ?_)
    refine g_iload hX dL_refused_316 rfl rfl ?_
    refine g_if_eq (tgt := 342) hX dL_refused_318 (by decide) rfl (fun zc318 => ?_) (fun zc318 => ?_)
    · skip
      first | exact K342 _ hr2 | exact K342 _ (hr2.trans hr3)
    · skip
      have h0 : 0 < nm := Nat.pos_of_ne_zero (fun q => zc318 (by rw [q]; rfl))
      refine g_aload_n (i := 0) hX dL_refused_321 rfl rfl rfl ?_
      refine g_iconst hX dL_refused_322 ic_0 rfl ?_
      refine g_iconst hX dL_refused_323 ic_0 rfl ?_
      refine g_callVi hX (c_X7_vote E (nI 0) (nI 0) h2.ws hH2) kf_X7_vote rfl wk_L_64 rfl rfl rfl rfl rfl dL_refused_324 rfl (fun x324 M324 h324 => ?_)
      replace h324 := (fun z => pr_e z (rf_vote2 ho hm h0)) h324
      obtain ⟨rfl, hMq⟩ := h324; have hMq := hMq.symm; subst hMq
      refine g_bipush hX dL_refused_327 bc_m2 rfl ?_
      refine g_icmp_ne (tgt := 381) hX dL_refused_329 (by decide) rfl (fun zc329 => absurd rfl zc329) (fun zc329 => ?_)
      refine g_aload_n (i := 0) hX dL_refused_332 rfl rfl rfl ?_
      refine g_iconst hX dL_refused_333 ic_0 rfl ?_
      refine g_callVi hX (c_X7_enter E (nI 0) h2.ws hH2 hT2) kf_X7_enter rfl wk_L_86 rfl rfl rfl rfl rfl dL_refused_334 rfl (fun x334 M334 h334 => ?_)
      obtain ⟨rfl, hr3⟩ := rf_enter2 ho hm h0 h334
      refine g_bipush hX dL_refused_337 bc_m2 rfl ?_
      refine g_icmp_ne (tgt := 381) hX dL_refused_339 (by decide) rfl (fun zc339 => absurd rfl zc339) (fun zc339 => ?_)
      first | exact K342 _ hr2 | exact K342 _ (hr2.trans hr3)
end

