/-! areEditions -/
section
variable {E : gE} {M : gM} {nm nc nk ne nb td ol hs : Nat} {op br : Bool} {mb pl ch : Nat → Nat}
set_option maxHeartbeats 4000000 in
theorem c_L_areEditions (h : J M nm nc nk ne nb td op br mb pl) (hH : WH M ol hs) : gMet E k_L_areEditions [.ref 0] M (gInt fun r M' => r = nI 1 ∧ M' = M) := by
  refine gMet.of (by decide +kernel) rfl (Nat.le_of_ble_eq_true rfl) (fun X hX hR => ?_)
  have hW := h.ws
  have hk := hW.2.2.1.2
  have f := hW.2.2.2.2.2
  have hc20 := hW.2.1.2
  obtain ⟨-, he1, he12⟩ := hW.2.2.2.1
  have htd := h.ht.2
  have hnb : nb ≤ 10060 := by
    cases ho : op with
    | false => have := h.hn ho; omega
    | true => obtain ⟨-, -, -, en, -, -, h3, h4⟩ := h.ho ho; omega
  have LE : ∀ d, d ≤ ne → ∀ x4 x5 x6 x7 x8 x9 : Option Value, gG X E M 124 [some (.ref 0), some (.int (nI ne)), some (.int (nI 1)), some (.int (nI (d + 1))), x4, x5, x6, x7, x8, x9] [] (gQ X E (gInt fun r M' => r = nI 1 ∧ M' = M)) := by
    refine up_loop ne _ (fun x4 x5 x6 x7 x8 x9 => ?_) (fun d hd ih x4 x5 x6 x7 x8 x9 => ?_)
    · skip
      refine g_iload_n (i := 3) hX dL_areEditions_124 rfl rfl rfl ?_
      refine g_iload_n (i := 1) hX dL_areEditions_125 rfl rfl rfl ?_
      first | refine g_icmp_gtN (tgt := 414) hX dL_areEditions_126 (by decide) rfl (by omega) (by omega) (fun zc126 => ?_) (fun zc126 => absurd zc126 (by omega)) | refine g_icmp_gt (tgt := 414) hX dL_areEditions_126 (by decide) rfl (fun zc126 => ?_) (fun zc126 => absurd zc126 (by omega))
      refine g_iload_n (i := 2) hX dL_areEditions_414 rfl rfl rfl ?_
      refine g_zret hX hR (by first | exact Or.inl rfl | exact Or.inr rfl | exact gB_01 _) dL_areEditions_415 ?_
      exact ⟨rfl, rfl⟩
    · by_cases d0 : d = 0
      · subst d0
        have dif0 : ∀ k, cntTo k (difB (M 12) 1) = 0 := fun k => cnt0.mpr (fun j _ => rfl)
        have Li : ∀ k, k ≤ nc → ∀ x7 x8 x9 : Option Value, gG X E M 157 [some (.ref 0), some (.int (nI ne)), some (.int (nI 1)), some (.int (nI 1)), some (.int (nI 0)), some (.int (nI 0)), some (.int (nI k)), x7, x8, x9] [] (gQ X E (gInt fun r M' => r = nI 1 ∧ M' = M)) := by
          refine up_loop nc _ (fun x7 x8 x9 => ?_) (fun k hkc ihk x7 x8 x9 => ?_)
          · skip
            refine g_iload hX dL_areEditions_157 rfl rfl ?_
            refine g_aload_n (i := 0) hX dL_areEditions_159 rfl rfl rfl ?_
            refine g_iconst hX dL_areEditions_160 ic_1 rfl ?_
            refine g_callVi hX (q_cnt hW hH 1 (v := nI nc) rfl rfl) kf_X7_count rfl wk_L_13 rfl rfl rfl rfl rfl dL_areEditions_161 rfl (fun x161 M161 h161 => ?_)
            obtain ⟨rfl, hMq⟩ := h161; have hMq := hMq.symm; subst hMq
            first | refine g_icmp_geN (tgt := 365) hX dL_areEditions_164 (by decide) rfl (by omega) (by omega) (fun zc164 => ?_) (fun zc164 => absurd zc164 (by omega)) | refine g_icmp_ge (tgt := 365) hX dL_areEditions_164 (by decide) rfl (fun zc164 => ?_) (fun zc164 => absurd zc164 (by omega))
            refine g_iload_n (i := 2) hX dL_areEditions_365 rfl rfl rfl ?_
            refine g_if_eq (tgt := 406) hX dL_areEditions_366 (by decide) rfl (fun zc366 => absurd zc366 (by decide)) (fun zc366 => ?_)
            refine g_aload_n (i := 0) hX dL_areEditions_369 rfl rfl rfl ?_
            refine g_iload_n (i := 3) hX dL_areEditions_370 rfl rfl rfl ?_
            refine g_callVi hX (gInt_e (q_chs hW (e := 1) (by omega) (by omega)) (y := nI 0) (by rw [dif0])) kf_X7_changes rfl wk_L_35 rfl rfl rfl rfl rfl dL_areEditions_371 rfl (fun x371 M371 h371 => ?_)
            obtain ⟨rfl, hMq⟩ := h371; have hMq := hMq.symm; subst hMq
            refine g_iload hX dL_areEditions_374 rfl rfl ?_
            refine g_icmp_ne (tgt := 406) hX dL_areEditions_376 (by decide) rfl (fun zc376 => absurd rfl zc376) (fun zc376 => ?_)
            refine g_iload_n (i := 3) hX dL_areEditions_379 rfl rfl rfl ?_
            refine g_iconst hX dL_areEditions_380 ic_1 rfl ?_
            refine g_icmp_eq (tgt := 389) hX dL_areEditions_381 (by decide) rfl (fun zc381 => ?_) (fun zc381 => absurd rfl zc381)
            refine g_aload_n (i := 0) hX dL_areEditions_389 rfl rfl rfl ?_
            refine g_iload_n (i := 3) hX dL_areEditions_390 rfl rfl rfl ?_
            refine g_iload hX dL_areEditions_391 rfl rfl ?_
            refine g_iconst hX dL_areEditions_393 ic_0 rfl ?_
            refine g_callVi hX (q_chaX hW (e := 1) (i := 0) 0 (by omega) (by omega) (by omega) rfl (by have := nth_end (n := nc) (p := difB (M 12) 1); rw [dif0] at this; exact this)) kf_X7_change rfl wk_L_38 rfl rfl rfl rfl rfl dL_areEditions_394 rfl (fun x394 M394 h394 => ?_)
            obtain ⟨rfl, hMq⟩ := h394; have hMq := hMq.symm; subst hMq
            refine g_bipush hX dL_areEditions_397 bc_m4 rfl ?_
            refine g_icmp_ne (tgt := 406) hX dL_areEditions_399 (by decide) rfl (fun zc399 => absurd rfl zc399) (fun zc399 => ?_)
            refine g_iconst hX dL_areEditions_402 ic_1 rfl ?_
            refine g_goto (n := 407) hX dL_areEditions_403 (by decide) ?_
            refine g_istore_n (i := 2) hX dL_areEditions_407 rfl (Nat.le_of_ble_eq_true rfl) rfl ?_
            first | refine g_iincN hX dL_areEditions_408 ic_1 rfl (Nat.le_of_ble_eq_true rfl) rfl ?_ | refine g_iinc hX dL_areEditions_408 ic_1 rfl rfl (Nat.le_of_ble_eq_true rfl) rfl ?_
            refine g_goto (n := 124) hX dL_areEditions_411 (by decide) ?_
            exact ih _ _ _ _ _ _
          · skip
            refine g_iload hX dL_areEditions_157 rfl rfl ?_
            refine g_aload_n (i := 0) hX dL_areEditions_159 rfl rfl rfl ?_
            refine g_iconst hX dL_areEditions_160 ic_1 rfl ?_
            refine g_callVi hX (q_cnt hW hH 1 (v := nI nc) rfl rfl) kf_X7_count rfl wk_L_13 rfl rfl rfl rfl rfl dL_areEditions_161 rfl (fun x161 M161 h161 => ?_)
            obtain ⟨rfl, hMq⟩ := h161; have hMq := hMq.symm; subst hMq
            first | refine g_icmp_geN (tgt := 365) hX dL_areEditions_164 (by decide) rfl (by omega) (by omega) (fun zc164 => absurd zc164 (by omega)) (fun zc164 => ?_) | refine g_icmp_ge (tgt := 365) hX dL_areEditions_164 (by decide) rfl (fun zc164 => absurd zc164 (by omega)) (fun zc164 => ?_)
            refine g_iload_n (i := 2) hX dL_areEditions_167 rfl rfl rfl ?_
            refine g_if_eq (tgt := 365) hX dL_areEditions_168 (by decide) rfl (fun zc168 => absurd zc168 (by decide)) (fun zc168 => ?_)
            refine g_aload_n (i := 0) hX dL_areEditions_171 rfl rfl rfl ?_
            refine g_iload hX dL_areEditions_172 rfl rfl ?_
            refine g_callVi hX (q_cla hW hkc) kf_X7_clause rfl wk_L_26 rfl rfl rfl rfl rfl dL_areEditions_174 rfl (fun x174 M174 h174 => ?_)
            obtain ⟨rfl, hMq⟩ := h174; have hMq := hMq.symm; subst hMq
            refine g_istore hX dL_areEditions_177 (Nat.le_of_ble_eq_true rfl) rfl ?_
            refine g_iload_n (i := 3) hX dL_areEditions_179 rfl rfl rfl ?_
            refine g_iconst hX dL_areEditions_180 ic_1 rfl ?_
            refine g_icmp_le (tgt := 359) hX dL_areEditions_181 (by decide) rfl (fun zc181 => ?_) (fun zc181 => absurd (by decide) zc181)
            first | refine g_iincN hX dL_areEditions_359 ic_1 rfl (Nat.le_of_ble_eq_true rfl) rfl ?_ | refine g_iinc hX dL_areEditions_359 ic_1 rfl rfl (Nat.le_of_ble_eq_true rfl) rfl ?_
            refine g_goto (n := 157) hX dL_areEditions_362 (by decide) ?_
            exact ihk _ _ _
        refine g_iload_n (i := 3) hX dL_areEditions_124 rfl rfl rfl ?_
        refine g_iload_n (i := 1) hX dL_areEditions_125 rfl rfl rfl ?_
        first | refine g_icmp_gtN (tgt := 414) hX dL_areEditions_126 (by decide) rfl (by omega) (by omega) (fun zc126 => absurd zc126 (by omega)) (fun zc126 => ?_) | refine g_icmp_gt (tgt := 414) hX dL_areEditions_126 (by decide) rfl (fun zc126 => absurd zc126 (by omega)) (fun zc126 => ?_)
        refine g_iload_n (i := 2) hX dL_areEditions_129 rfl rfl rfl ?_
        refine g_if_eq (tgt := 414) hX dL_areEditions_130 (by decide) rfl (fun zc130 => absurd zc130 (by decide)) (fun zc130 => ?_)
        refine g_iconst hX dL_areEditions_133 ic_0 rfl ?_
        refine g_istore hX dL_areEditions_134 (Nat.le_of_ble_eq_true rfl) rfl ?_
        refine g_iload_n (i := 3) hX dL_areEditions_136 rfl rfl rfl ?_
        refine g_iconst hX dL_areEditions_137 ic_1 rfl ?_
        refine g_icmp_ne (tgt := 145) hX dL_areEditions_138 (by decide) rfl (fun zc138 => absurd rfl zc138) (fun zc138 => ?_)
        refine g_iconst hX dL_areEditions_141 ic_0 rfl ?_
        refine g_goto (n := 152) hX dL_areEditions_142 (by decide) ?_
        refine g_istore hX dL_areEditions_152 (Nat.le_of_ble_eq_true rfl) rfl ?_
        refine g_iconst hX dL_areEditions_154 ic_0 rfl ?_
        refine g_istore hX dL_areEditions_155 (Nat.le_of_ble_eq_true rfl) rfl ?_
        exact Li 0 (by omega) _ _ _
      · obtain ⟨e, hee⟩ : ∃ e, e = d + 1 := ⟨_, rfl⟩
        have e2 : 2 ≤ e := by omega
        have een : e ≤ ne := by omega
        rw [← hee] at ih ⊢
        obtain ⟨⟨b, hb, b1, b2, b3⟩, ⟨k0, hk0, hd0⟩, hall⟩ := h.ed e e2 een
        obtain ⟨dif, hdif⟩ : ∃ dif, dif = difB (M 12) e := ⟨_, rfl⟩
        rw [← hdif] at hd0 hall
        have ctl : ∀ k, cntTo k dif ≤ k := fun k => cntTo_le _ _
        have hdk : ∀ k, dif k = decide (M 12 ((e - 1) * 20 + k) ≠ M 12 ((e - 1 - 1) * 20 + k)) := fun k => by
          rw [hdif]; simp only [difB]
          rw [decide_eq_true (show 1 < e by omega), Bool.true_and]
        have ctp : 0 < cntTo nc dif := Nat.pos_of_ne_zero (fun z => by
          have := cnt0.mp z k0 hk0
          rw [hd0] at this; cases this)
        have fst : ∃ p, nthTo nc dif 0 = some p := by
          cases hz : nthTo nc dif 0 with
          | some p => exact ⟨p, rfl⟩
          | none =>
            exfalso
            obtain ⟨q, q1, q2⟩ := pk_least (fun k => k < nc ∧ dif k = true) ⟨k0, hk0, hd0⟩
            have q3 : cntTo q dif = 0 := cnt0.mpr (fun j hj => by
              cases hz2 : dif j with
              | false => rfl
              | true => exact absurd ⟨by omega, hz2⟩ (q2 j hj))
            have q4 := nth_at q1.1 q1.2
            rw [q3, hz] at q4; cases q4
        obtain ⟨p0, hp0⟩ := fst
        have Li : ∀ k, k ≤ nc → ∀ x7 x8 x9 : Option Value, gG X E M 157 [some (.ref 0), some (.int (nI ne)), some (.int (nI 1)), some (.int (nI e)), some (.int (nI (cntTo k dif))), some (.int (nI b)), some (.int (nI k)), x7, x8, x9] [] (gQ X E (gInt fun r M' => r = nI 1 ∧ M' = M)) := by
          refine up_loop nc _ (fun x7 x8 x9 => ?_) (fun k hkc ihk x7 x8 x9 => ?_)
          · have ctn := ctl nc
            refine g_iload hX dL_areEditions_157 rfl rfl ?_
            refine g_aload_n (i := 0) hX dL_areEditions_159 rfl rfl rfl ?_
            refine g_iconst hX dL_areEditions_160 ic_1 rfl ?_
            refine g_callVi hX (q_cnt hW hH 1 (v := nI nc) rfl rfl) kf_X7_count rfl wk_L_13 rfl rfl rfl rfl rfl dL_areEditions_161 rfl (fun x161 M161 h161 => ?_)
            obtain ⟨rfl, hMq⟩ := h161; have hMq := hMq.symm; subst hMq
            first | refine g_icmp_geN (tgt := 365) hX dL_areEditions_164 (by decide) rfl (by omega) (by omega) (fun zc164 => ?_) (fun zc164 => absurd zc164 (by omega)) | refine g_icmp_ge (tgt := 365) hX dL_areEditions_164 (by decide) rfl (fun zc164 => ?_) (fun zc164 => absurd zc164 (by omega))
            refine g_iload_n (i := 2) hX dL_areEditions_365 rfl rfl rfl ?_
            refine g_if_eq (tgt := 406) hX dL_areEditions_366 (by decide) rfl (fun zc366 => absurd zc366 (by decide)) (fun zc366 => ?_)
            refine g_aload_n (i := 0) hX dL_areEditions_369 rfl rfl rfl ?_
            refine g_iload_n (i := 3) hX dL_areEditions_370 rfl rfl rfl ?_
            refine g_callVi hX (gInt_e (q_chs hW (e := e) (by omega) (by omega)) (y := nI (cntTo nc dif)) (by rw [hdif])) kf_X7_changes rfl wk_L_35 rfl rfl rfl rfl rfl dL_areEditions_371 rfl (fun x371 M371 h371 => ?_)
            obtain ⟨rfl, hMq⟩ := h371; have hMq := hMq.symm; subst hMq
            refine g_iload hX dL_areEditions_374 rfl rfl ?_
            refine g_icmp_ne (tgt := 406) hX dL_areEditions_376 (by decide) rfl (fun zc376 => absurd rfl zc376) (fun zc376 => ?_)
            refine g_iload_n (i := 3) hX dL_areEditions_379 rfl rfl rfl ?_
            refine g_iconst hX dL_areEditions_380 ic_1 rfl ?_
            first | refine g_icmp_eqN (tgt := 389) hX dL_areEditions_381 (by decide) rfl (by omega) (by omega) (fun zc381 => absurd zc381 (by omega)) (fun zc381 => ?_) | refine g_icmp_eq (tgt := 389) hX dL_areEditions_381 (by decide) rfl (fun zc381 => absurd zc381 (by omega)) (fun zc381 => ?_)
            refine g_iload hX dL_areEditions_384 rfl rfl ?_
            refine g_if_le (tgt := 406) hX dL_areEditions_386 (by decide) rfl (fun zc386 => absurd zc386 (nI_nle ctp (by omega))) (fun zc386 => ?_)
            refine g_aload_n (i := 0) hX dL_areEditions_389 rfl rfl rfl ?_
            refine g_iload_n (i := 3) hX dL_areEditions_390 rfl rfl rfl ?_
            refine g_iload hX dL_areEditions_391 rfl rfl ?_
            refine g_iconst hX dL_areEditions_393 ic_0 rfl ?_
            refine g_callVi hX (q_chaX hW (e := e) (i := cntTo nc dif) 0 (by omega) (by omega) (by omega) rfl (by rw [← hdif]; exact nth_end)) kf_X7_change rfl wk_L_38 rfl rfl rfl rfl rfl dL_areEditions_394 rfl (fun x394 M394 h394 => ?_)
            obtain ⟨rfl, hMq⟩ := h394; have hMq := hMq.symm; subst hMq
            refine g_bipush hX dL_areEditions_397 bc_m4 rfl ?_
            refine g_icmp_ne (tgt := 406) hX dL_areEditions_399 (by decide) rfl (fun zc399 => absurd rfl zc399) (fun zc399 => ?_)
            refine g_iconst hX dL_areEditions_402 ic_1 rfl ?_
            refine g_goto (n := 407) hX dL_areEditions_403 (by decide) ?_
            refine g_istore_n (i := 2) hX dL_areEditions_407 rfl (Nat.le_of_ble_eq_true rfl) rfl ?_
            first | refine g_iincN hX dL_areEditions_408 ic_1 rfl (Nat.le_of_ble_eq_true rfl) rfl ?_ | refine g_iinc hX dL_areEditions_408 ic_1 rfl rfl (Nat.le_of_ble_eq_true rfl) rfl ?_
            refine g_goto (n := 124) hX dL_areEditions_411 (by decide) ?_
            exact ih _ _ _ _ _ _
          · have ctk := ctl k
            have cts : cntTo (k + 1) dif = cntTo k dif + (if dif k then 1 else 0) := rfl
            cases hz : dif k with
            | false =>
              have hq : M 12 ((e - 1) * 20 + k) = M 12 ((e - 1 - 1) * 20 + k) := by
                rw [hdk k] at hz
                have := of_decide_eq_false hz
                exact Decidable.of_not_not this
              have cts2 : cntTo (k + 1) dif = cntTo k dif := by rw [cts, hz]; rfl
              rw [cts2] at ihk
              refine g_iload hX dL_areEditions_157 rfl rfl ?_
              refine g_aload_n (i := 0) hX dL_areEditions_159 rfl rfl rfl ?_
              refine g_iconst hX dL_areEditions_160 ic_1 rfl ?_
              refine g_callVi hX (q_cnt hW hH 1 (v := nI nc) rfl rfl) kf_X7_count rfl wk_L_13 rfl rfl rfl rfl rfl dL_areEditions_161 rfl (fun x161 M161 h161 => ?_)
              obtain ⟨rfl, hMq⟩ := h161; have hMq := hMq.symm; subst hMq
              first | refine g_icmp_geN (tgt := 365) hX dL_areEditions_164 (by decide) rfl (by omega) (by omega) (fun zc164 => absurd zc164 (by omega)) (fun zc164 => ?_) | refine g_icmp_ge (tgt := 365) hX dL_areEditions_164 (by decide) rfl (fun zc164 => absurd zc164 (by omega)) (fun zc164 => ?_)
              refine g_iload_n (i := 2) hX dL_areEditions_167 rfl rfl rfl ?_
              refine g_if_eq (tgt := 365) hX dL_areEditions_168 (by decide) rfl (fun zc168 => absurd zc168 (by decide)) (fun zc168 => ?_)
              refine g_aload_n (i := 0) hX dL_areEditions_171 rfl rfl rfl ?_
              refine g_iload hX dL_areEditions_172 rfl rfl ?_
              refine g_callVi hX (q_cla hW hkc) kf_X7_clause rfl wk_L_26 rfl rfl rfl rfl rfl dL_areEditions_174 rfl (fun x174 M174 h174 => ?_)
              obtain ⟨rfl, hMq⟩ := h174; have hMq := hMq.symm; subst hMq
              refine g_istore hX dL_areEditions_177 (Nat.le_of_ble_eq_true rfl) rfl ?_
              refine g_iload_n (i := 3) hX dL_areEditions_179 rfl rfl rfl ?_
              refine g_iconst hX dL_areEditions_180 ic_1 rfl ?_
              first | refine g_icmp_leN (tgt := 359) hX dL_areEditions_181 (by decide) rfl (by omega) (by omega) (fun zc181 => absurd zc181 (by omega)) (fun zc181 => ?_) | refine g_icmp_le (tgt := 359) hX dL_areEditions_181 (by decide) rfl (fun zc181 => absurd zc181 (by omega)) (fun zc181 => ?_)
              refine g_aload_n (i := 0) hX dL_areEditions_184 rfl rfl rfl ?_
              refine g_iload hX dL_areEditions_185 rfl rfl ?_
              refine g_iload_n (i := 3) hX dL_areEditions_187 rfl rfl rfl ?_
              refine g_callVi hX (q_vin hW h.as hkc (by omega) een) kf_X7_valueIn rfl wk_L_61 rfl rfl rfl rfl rfl dL_areEditions_188 rfl (fun x188 M188 h188 => ?_)
              obtain ⟨rfl, hMq⟩ := h188; have hMq := hMq.symm; subst hMq
              refine g_aload_n (i := 0) hX dL_areEditions_191 rfl rfl rfl ?_
              refine g_iload hX dL_areEditions_192 rfl rfl ?_
              refine g_iload_n (i := 3) hX dL_areEditions_194 rfl rfl rfl ?_
              refine g_iconst hX dL_areEditions_195 ic_1 rfl ?_
              refine g_isubN hX dL_areEditions_196 (by omega) rfl ?_
              refine g_callVi hX (q_vin hW h.as hkc (e := e - 1) (by omega) (by omega)) kf_X7_valueIn rfl wk_L_61 rfl rfl rfl rfl rfl dL_areEditions_197 rfl (fun x197 M197 h197 => ?_)
              obtain ⟨rfl, hMq⟩ := h197; have hMq := hMq.symm; subst hMq
              refine g_icmp_eq (tgt := 359) hX dL_areEditions_200 (by decide) rfl (fun zc200 => ?_) (fun zc200 => absurd hq zc200)
              first | refine g_iincN hX dL_areEditions_359 ic_1 rfl (Nat.le_of_ble_eq_true rfl) rfl ?_ | refine g_iinc hX dL_areEditions_359 ic_1 rfl rfl (Nat.le_of_ble_eq_true rfl) rfl ?_
              refine g_goto (n := 157) hX dL_areEditions_362 (by decide) ?_
              exact ihk _ _ _
            | true =>
              have hq : ¬ M 12 ((e - 1) * 20 + k) = M 12 ((e - 1 - 1) * 20 + k) := by
                rw [hdk k] at hz
                exact of_decide_eq_true hz
              have cts2 : cntTo (k + 1) dif = cntTo k dif + 1 := by rw [cts, hz]; rfl
              rw [cts2] at ihk
              have hnt : nthTo nc (difB (M 12) e) (cntTo k dif) = some k := by rw [← hdif]; exact nth_at hkc hz
              by_cases hbn : b = nb
              · obtain ⟨hbr, hen⟩ := b3 hbn
                obtain ⟨g1, g2, g3, g4⟩ := h.brp hbr
                have hop : op = false := by
                  cases ho : op with
                  | false => rfl
                  | true => have := (h.ho ho).2.1; rw [hbr] at this; cases this
                obtain ⟨c, c1, c2, c3, c4, c5⟩ := g4 k hkc (by rw [← hen, ← hdif]; exact hz)
                rw [← hen] at c2 c5
                subst c3
                refine g_iload hX dL_areEditions_157 rfl rfl ?_
                refine g_aload_n (i := 0) hX dL_areEditions_159 rfl rfl rfl ?_
                refine g_iconst hX dL_areEditions_160 ic_1 rfl ?_
                refine g_callVi hX (q_cnt hW hH 1 (v := nI nc) rfl rfl) kf_X7_count rfl wk_L_13 rfl rfl rfl rfl rfl dL_areEditions_161 rfl (fun x161 M161 h161 => ?_)
                obtain ⟨rfl, hMq⟩ := h161; have hMq := hMq.symm; subst hMq
                first | refine g_icmp_geN (tgt := 365) hX dL_areEditions_164 (by decide) rfl (by omega) (by omega) (fun zc164 => absurd zc164 (by omega)) (fun zc164 => ?_) | refine g_icmp_ge (tgt := 365) hX dL_areEditions_164 (by decide) rfl (fun zc164 => absurd zc164 (by omega)) (fun zc164 => ?_)
                refine g_iload_n (i := 2) hX dL_areEditions_167 rfl rfl rfl ?_
                refine g_if_eq (tgt := 365) hX dL_areEditions_168 (by decide) rfl (fun zc168 => absurd zc168 (by decide)) (fun zc168 => ?_)
                refine g_aload_n (i := 0) hX dL_areEditions_171 rfl rfl rfl ?_
                refine g_iload hX dL_areEditions_172 rfl rfl ?_
                refine g_callVi hX (q_cla hW hkc) kf_X7_clause rfl wk_L_26 rfl rfl rfl rfl rfl dL_areEditions_174 rfl (fun x174 M174 h174 => ?_)
                obtain ⟨rfl, hMq⟩ := h174; have hMq := hMq.symm; subst hMq
                refine g_istore hX dL_areEditions_177 (Nat.le_of_ble_eq_true rfl) rfl ?_
                refine g_iload_n (i := 3) hX dL_areEditions_179 rfl rfl rfl ?_
                refine g_iconst hX dL_areEditions_180 ic_1 rfl ?_
                first | refine g_icmp_leN (tgt := 359) hX dL_areEditions_181 (by decide) rfl (by omega) (by omega) (fun zc181 => absurd zc181 (by omega)) (fun zc181 => ?_) | refine g_icmp_le (tgt := 359) hX dL_areEditions_181 (by decide) rfl (fun zc181 => absurd zc181 (by omega)) (fun zc181 => ?_)
                refine g_aload_n (i := 0) hX dL_areEditions_184 rfl rfl rfl ?_
                refine g_iload hX dL_areEditions_185 rfl rfl ?_
                refine g_iload_n (i := 3) hX dL_areEditions_187 rfl rfl rfl ?_
                refine g_callVi hX (q_vin hW h.as hkc (by omega) een) kf_X7_valueIn rfl wk_L_61 rfl rfl rfl rfl rfl dL_areEditions_188 rfl (fun x188 M188 h188 => ?_)
                obtain ⟨rfl, hMq⟩ := h188; have hMq := hMq.symm; subst hMq
                refine g_aload_n (i := 0) hX dL_areEditions_191 rfl rfl rfl ?_
                refine g_iload hX dL_areEditions_192 rfl rfl ?_
                refine g_iload_n (i := 3) hX dL_areEditions_194 rfl rfl rfl ?_
                refine g_iconst hX dL_areEditions_195 ic_1 rfl ?_
                refine g_isubN hX dL_areEditions_196 (by omega) rfl ?_
                refine g_callVi hX (q_vin hW h.as hkc (e := e - 1) (by omega) (by omega)) kf_X7_valueIn rfl wk_L_61 rfl rfl rfl rfl rfl dL_areEditions_197 rfl (fun x197 M197 h197 => ?_)
                obtain ⟨rfl, hMq⟩ := h197; have hMq := hMq.symm; subst hMq
                refine g_icmp_eq (tgt := 359) hX dL_areEditions_200 (by decide) rfl (fun zc200 => absurd zc200 hq) (fun zc200 => ?_)
                refine g_aload_n (i := 0) hX dL_areEditions_203 rfl rfl rfl ?_
                refine g_iload_n (i := 3) hX dL_areEditions_204 rfl rfl rfl ?_
                refine g_iload hX dL_areEditions_205 rfl rfl ?_
                refine g_iconst hX dL_areEditions_207 ic_2 rfl ?_
                refine g_callVi hX (q_cha hW 2 (v := nI c) (by omega) een (by omega) rfl hnt c2) kf_X7_change rfl wk_L_38 rfl rfl rfl rfl rfl dL_areEditions_208 rfl (fun x208 M208 h208 => ?_)
                obtain ⟨rfl, hMq⟩ := h208; have hMq := hMq.symm; subst hMq
                refine g_istore hX dL_areEditions_211 (Nat.le_of_ble_eq_true rfl) rfl ?_
                refine g_aload_n (i := 0) hX dL_areEditions_213 rfl rfl rfl ?_
                refine g_iload_n (i := 3) hX dL_areEditions_214 rfl rfl rfl ?_
                refine g_iload hX dL_areEditions_215 rfl rfl ?_
                refine g_iconst hX dL_areEditions_217 ic_0 rfl ?_
                refine g_callVi hX (q_cha hW 0 (v := M 8 (pl c)) (by omega) een (by omega) rfl hnt rfl) kf_X7_change rfl wk_L_38 rfl rfl rfl rfl rfl dL_areEditions_218 rfl (fun x218 M218 h218 => ?_)
                obtain ⟨rfl, hMq⟩ := h218; have hMq := hMq.symm; subst hMq
                refine g_iload hX dL_areEditions_221 rfl rfl ?_
                refine g_icmp_ne (tgt := 270) hX dL_areEditions_223 (by decide) rfl (fun zc223 => absurd rfl zc223) (fun zc223 => ?_)
                refine g_aload_n (i := 0) hX dL_areEditions_226 rfl rfl rfl ?_
                refine g_iload_n (i := 3) hX dL_areEditions_227 rfl rfl rfl ?_
                refine g_iload hX dL_areEditions_228 rfl rfl ?_
                refine g_iconst hX dL_areEditions_230 ic_1 rfl ?_
                refine g_callVi hX (q_cha hW 1 (v := nI b) (by omega) een (by omega) rfl hnt hb) kf_X7_change rfl wk_L_38 rfl rfl rfl rfl rfl dL_areEditions_231 rfl (fun x231 M231 h231 => ?_)
                obtain ⟨rfl, hMq⟩ := h231; have hMq := hMq.symm; subst hMq
                refine g_iload hX dL_areEditions_234 rfl rfl ?_
                refine g_icmp_ne (tgt := 270) hX dL_areEditions_236 (by decide) rfl (fun zc236 => absurd rfl zc236) (fun zc236 => ?_)
                refine g_iload hX dL_areEditions_239 rfl rfl ?_
                refine g_if_le (tgt := 270) hX dL_areEditions_241 (by decide) rfl (fun zc241 => absurd zc241 (nI_nle (by omega) (by omega))) (fun zc241 => ?_)
                refine g_iload hX dL_areEditions_244 rfl rfl ?_
                refine g_aload_n (i := 0) hX dL_areEditions_246 rfl rfl rfl ?_
                refine g_iconst hX dL_areEditions_247 ic_5 rfl ?_
                refine g_callVi hX (q_cnt hW hH 5 (v := nI nb) rfl h.hb) kf_X7_count rfl wk_L_13 rfl rfl rfl rfl rfl dL_areEditions_248 rfl (fun x248 M248 h248 => ?_)
                obtain ⟨rfl, hMq⟩ := h248; have hMq := hMq.symm; subst hMq
                first | refine g_icmp_gtN (tgt := 270) hX dL_areEditions_251 (by decide) rfl (by omega) (by omega) (fun zc251 => absurd zc251 (by omega)) (fun zc251 => ?_) | refine g_icmp_gt (tgt := 270) hX dL_areEditions_251 (by decide) rfl (fun zc251 => absurd zc251 (by omega)) (fun zc251 => ?_)
                refine g_iload hX dL_areEditions_254 rfl rfl ?_
                refine g_if_lt (tgt := 270) hX dL_areEditions_256 (by decide) rfl (fun zc256 => absurd zc256 (nI_pos (by omega))) (fun zc256 => ?_)
                refine g_iload hX dL_areEditions_259 rfl rfl ?_
                refine g_bipush hX dL_areEditions_261 bc_30 rfl ?_
                first | refine g_icmp_geN (tgt := 270) hX dL_areEditions_263 (by decide) rfl (by omega) (by omega) (fun zc263 => absurd zc263 (by omega)) (fun zc263 => ?_) | refine g_icmp_ge (tgt := 270) hX dL_areEditions_263 (by decide) rfl (fun zc263 => absurd zc263 (by omega)) (fun zc263 => ?_)
                refine g_iconst hX dL_areEditions_266 ic_1 rfl ?_
                refine g_goto (n := 271) hX dL_areEditions_267 (by decide) ?_
                refine g_istore_n (i := 2) hX dL_areEditions_271 rfl (Nat.le_of_ble_eq_true rfl) rfl ?_
                refine g_iload hX dL_areEditions_272 rfl rfl ?_
                refine g_aload_n (i := 0) hX dL_areEditions_274 rfl rfl rfl ?_
                refine g_iconst hX dL_areEditions_275 ic_5 rfl ?_
                refine g_callVi hX (q_cnt hW hH 5 (v := nI nb) rfl h.hb) kf_X7_count rfl wk_L_13 rfl rfl rfl rfl rfl dL_areEditions_276 rfl (fun x276 M276 h276 => ?_)
                obtain ⟨rfl, hMq⟩ := h276; have hMq := hMq.symm; subst hMq
                first | refine g_icmp_neN (tgt := 308) hX dL_areEditions_279 (by decide) rfl (by omega) (by omega) (fun zc279 => absurd zc279 (by omega)) (fun zc279 => ?_) | refine g_icmp_ne (tgt := 308) hX dL_areEditions_279 (by decide) rfl (fun zc279 => absurd zc279 (by omega)) (fun zc279 => ?_)
                refine g_aload_n (i := 0) hX dL_areEditions_282 rfl rfl rfl ?_
                refine g_iconst hX dL_areEditions_283 ic_4 rfl ?_
                refine g_callVi hX (q_cnt hW hH 4 (v := nI 0) rfl (by show gB op = _; rw [hop]; rfl)) kf_X7_count rfl wk_L_13 rfl rfl rfl rfl rfl dL_areEditions_284 rfl (fun x284 M284 h284 => ?_)
                obtain ⟨rfl, hMq⟩ := h284; have hMq := hMq.symm; subst hMq
                refine g_if_ne (tgt := 308) hX dL_areEditions_287 (by decide) rfl (fun zc287 => absurd rfl zc287) (fun zc287 => ?_)
                refine g_aload_n (i := 0) hX dL_areEditions_290 rfl rfl rfl ?_
                refine g_bipush hX dL_areEditions_291 bc_7 rfl ?_
                refine g_callVi hX (q_cnt hW hH 7 (v := nI 0) rfl (congrArg nI g2)) kf_X7_count rfl wk_L_13 rfl rfl rfl rfl rfl dL_areEditions_293 rfl (fun x293 M293 h293 => ?_)
                obtain ⟨rfl, hMq⟩ := h293; have hMq := hMq.symm; subst hMq
                refine g_if_ne (tgt := 308) hX dL_areEditions_296 (by decide) rfl (fun zc296 => absurd rfl zc296) (fun zc296 => ?_)
                refine g_iload_n (i := 3) hX dL_areEditions_299 rfl rfl rfl ?_
                refine g_iload_n (i := 1) hX dL_areEditions_300 rfl rfl rfl ?_
                first | refine g_icmp_neN (tgt := 308) hX dL_areEditions_301 (by decide) rfl (by omega) (by omega) (fun zc301 => absurd zc301 (by omega)) (fun zc301 => ?_) | refine g_icmp_ne (tgt := 308) hX dL_areEditions_301 (by decide) rfl (fun zc301 => absurd zc301 (by omega)) (fun zc301 => ?_)
                refine g_iconst hX dL_areEditions_304 ic_1 rfl ?_
                refine g_goto (n := 309) hX dL_areEditions_305 (by decide) ?_
                refine g_istore hX dL_areEditions_309 (Nat.le_of_ble_eq_true rfl) rfl ?_
                refine g_iload_n (i := 2) hX dL_areEditions_311 rfl rfl rfl ?_
                refine g_if_eq (tgt := 354) hX dL_areEditions_312 (by decide) rfl (fun zc312 => absurd zc312 (by decide)) (fun zc312 => ?_)
                refine g_iload hX dL_areEditions_315 rfl rfl ?_
                refine g_if_eq (tgt := 350) hX dL_areEditions_317 (by decide) rfl (fun zc317 => absurd zc317 (by decide)) (fun zc317 => ?_)
                refine g_aload_n (i := 0) hX dL_areEditions_320 rfl rfl rfl ?_
                refine g_iload hX dL_areEditions_321 rfl rfl ?_
                refine g_iconst hX dL_areEditions_323 ic_1 rfl ?_
                refine g_callVi hX (q_tol hW c1 1 (v := M 8 (pl c)) rfl (by show M 8 (M 18 c).toNatClampNeg = _; rw [(f c c1).2.2.2, nI_clamp (by omega)])) kf_X7_told rfl wk_L_32 rfl rfl rfl rfl rfl dL_areEditions_324 rfl (fun x324 M324 h324 => ?_)
                obtain ⟨rfl, hMq⟩ := h324; have hMq := hMq.symm; subst hMq
                refine g_iload hX dL_areEditions_327 rfl rfl ?_
                refine g_icmp_ne (tgt := 354) hX dL_areEditions_329 (by decide) rfl (fun zc329 => absurd rfl zc329) (fun zc329 => ?_)
                refine g_aload_n (i := 0) hX dL_areEditions_332 rfl rfl rfl ?_
                refine g_iload hX dL_areEditions_333 rfl rfl ?_
                refine g_bipush hX dL_areEditions_335 bc_6 rfl ?_
                refine g_callVi hX (q_tol hW c1 6 (v := M 12 ((e - 1) * 20 + pl c)) rfl (by show (if gaveB (M 21 c) then M 23 c else -4) = _; rw [if_pos c4]; exact c5)) kf_X7_told rfl wk_L_32 rfl rfl rfl rfl rfl dL_areEditions_337 rfl (fun x337 M337 h337 => ?_)
                obtain ⟨rfl, hMq⟩ := h337; have hMq := hMq.symm; subst hMq
                refine g_aload_n (i := 0) hX dL_areEditions_340 rfl rfl rfl ?_
                refine g_iload hX dL_areEditions_341 rfl rfl ?_
                refine g_iload_n (i := 3) hX dL_areEditions_343 rfl rfl rfl ?_
                refine g_callVi hX (q_vin hW h.as hkc (by omega) een) kf_X7_valueIn rfl wk_L_61 rfl rfl rfl rfl rfl dL_areEditions_344 rfl (fun x344 M344 h344 => ?_)
                obtain ⟨rfl, hMq⟩ := h344; have hMq := hMq.symm; subst hMq
                refine g_icmp_ne (tgt := 354) hX dL_areEditions_347 (by decide) rfl (fun zc347 => absurd rfl zc347) (fun zc347 => ?_)
                refine g_iconst hX dL_areEditions_350 ic_1 rfl ?_
                refine g_goto (n := 355) hX dL_areEditions_351 (by decide) ?_
                refine g_istore_n (i := 2) hX dL_areEditions_355 rfl (Nat.le_of_ble_eq_true rfl) rfl ?_
                first | refine g_iincN hX dL_areEditions_356 ic_1 rfl (Nat.le_of_ble_eq_true rfl) rfl ?_ | refine g_iinc hX dL_areEditions_356 ic_1 rfl rfl (Nat.le_of_ble_eq_true rfl) rfl ?_
                first | refine g_iincN hX dL_areEditions_359 ic_1 rfl (Nat.le_of_ble_eq_true rfl) rfl ?_ | refine g_iinc hX dL_areEditions_359 ic_1 rfl rfl (Nat.le_of_ble_eq_true rfl) rfl ?_
                refine g_goto (n := 157) hX dL_areEditions_362 (by decide) ?_
                exact ihk _ _ _
              · obtain ⟨c, c30, c2⟩ := hall k hkc hz
                refine g_iload hX dL_areEditions_157 rfl rfl ?_
                refine g_aload_n (i := 0) hX dL_areEditions_159 rfl rfl rfl ?_
                refine g_iconst hX dL_areEditions_160 ic_1 rfl ?_
                refine g_callVi hX (q_cnt hW hH 1 (v := nI nc) rfl rfl) kf_X7_count rfl wk_L_13 rfl rfl rfl rfl rfl dL_areEditions_161 rfl (fun x161 M161 h161 => ?_)
                obtain ⟨rfl, hMq⟩ := h161; have hMq := hMq.symm; subst hMq
                first | refine g_icmp_geN (tgt := 365) hX dL_areEditions_164 (by decide) rfl (by omega) (by omega) (fun zc164 => absurd zc164 (by omega)) (fun zc164 => ?_) | refine g_icmp_ge (tgt := 365) hX dL_areEditions_164 (by decide) rfl (fun zc164 => absurd zc164 (by omega)) (fun zc164 => ?_)
                refine g_iload_n (i := 2) hX dL_areEditions_167 rfl rfl rfl ?_
                refine g_if_eq (tgt := 365) hX dL_areEditions_168 (by decide) rfl (fun zc168 => absurd zc168 (by decide)) (fun zc168 => ?_)
                refine g_aload_n (i := 0) hX dL_areEditions_171 rfl rfl rfl ?_
                refine g_iload hX dL_areEditions_172 rfl rfl ?_
                refine g_callVi hX (q_cla hW hkc) kf_X7_clause rfl wk_L_26 rfl rfl rfl rfl rfl dL_areEditions_174 rfl (fun x174 M174 h174 => ?_)
                obtain ⟨rfl, hMq⟩ := h174; have hMq := hMq.symm; subst hMq
                refine g_istore hX dL_areEditions_177 (Nat.le_of_ble_eq_true rfl) rfl ?_
                refine g_iload_n (i := 3) hX dL_areEditions_179 rfl rfl rfl ?_
                refine g_iconst hX dL_areEditions_180 ic_1 rfl ?_
                first | refine g_icmp_leN (tgt := 359) hX dL_areEditions_181 (by decide) rfl (by omega) (by omega) (fun zc181 => absurd zc181 (by omega)) (fun zc181 => ?_) | refine g_icmp_le (tgt := 359) hX dL_areEditions_181 (by decide) rfl (fun zc181 => absurd zc181 (by omega)) (fun zc181 => ?_)
                refine g_aload_n (i := 0) hX dL_areEditions_184 rfl rfl rfl ?_
                refine g_iload hX dL_areEditions_185 rfl rfl ?_
                refine g_iload_n (i := 3) hX dL_areEditions_187 rfl rfl rfl ?_
                refine g_callVi hX (q_vin hW h.as hkc (by omega) een) kf_X7_valueIn rfl wk_L_61 rfl rfl rfl rfl rfl dL_areEditions_188 rfl (fun x188 M188 h188 => ?_)
                obtain ⟨rfl, hMq⟩ := h188; have hMq := hMq.symm; subst hMq
                refine g_aload_n (i := 0) hX dL_areEditions_191 rfl rfl rfl ?_
                refine g_iload hX dL_areEditions_192 rfl rfl ?_
                refine g_iload_n (i := 3) hX dL_areEditions_194 rfl rfl rfl ?_
                refine g_iconst hX dL_areEditions_195 ic_1 rfl ?_
                refine g_isubN hX dL_areEditions_196 (by omega) rfl ?_
                refine g_callVi hX (q_vin hW h.as hkc (e := e - 1) (by omega) (by omega)) kf_X7_valueIn rfl wk_L_61 rfl rfl rfl rfl rfl dL_areEditions_197 rfl (fun x197 M197 h197 => ?_)
                obtain ⟨rfl, hMq⟩ := h197; have hMq := hMq.symm; subst hMq
                refine g_icmp_eq (tgt := 359) hX dL_areEditions_200 (by decide) rfl (fun zc200 => absurd zc200 hq) (fun zc200 => ?_)
                refine g_aload_n (i := 0) hX dL_areEditions_203 rfl rfl rfl ?_
                refine g_iload_n (i := 3) hX dL_areEditions_204 rfl rfl rfl ?_
                refine g_iload hX dL_areEditions_205 rfl rfl ?_
                refine g_iconst hX dL_areEditions_207 ic_2 rfl ?_
                refine g_callVi hX (q_cha hW 2 (v := nI c) (by omega) een (by omega) rfl hnt c2) kf_X7_change rfl wk_L_38 rfl rfl rfl rfl rfl dL_areEditions_208 rfl (fun x208 M208 h208 => ?_)
                obtain ⟨rfl, hMq⟩ := h208; have hMq := hMq.symm; subst hMq
                refine g_istore hX dL_areEditions_211 (Nat.le_of_ble_eq_true rfl) rfl ?_
                refine g_aload_n (i := 0) hX dL_areEditions_213 rfl rfl rfl ?_
                refine g_iload_n (i := 3) hX dL_areEditions_214 rfl rfl rfl ?_
                refine g_iload hX dL_areEditions_215 rfl rfl ?_
                refine g_iconst hX dL_areEditions_217 ic_0 rfl ?_
                refine g_callVi hX (q_cha hW 0 (v := M 8 k) (by omega) een (by omega) rfl hnt rfl) kf_X7_change rfl wk_L_38 rfl rfl rfl rfl rfl dL_areEditions_218 rfl (fun x218 M218 h218 => ?_)
                obtain ⟨rfl, hMq⟩ := h218; have hMq := hMq.symm; subst hMq
                refine g_iload hX dL_areEditions_221 rfl rfl ?_
                refine g_icmp_ne (tgt := 270) hX dL_areEditions_223 (by decide) rfl (fun zc223 => absurd rfl zc223) (fun zc223 => ?_)
                refine g_aload_n (i := 0) hX dL_areEditions_226 rfl rfl rfl ?_
                refine g_iload_n (i := 3) hX dL_areEditions_227 rfl rfl rfl ?_
                refine g_iload hX dL_areEditions_228 rfl rfl ?_
                refine g_iconst hX dL_areEditions_230 ic_1 rfl ?_
                refine g_callVi hX (q_cha hW 1 (v := nI b) (by omega) een (by omega) rfl hnt hb) kf_X7_change rfl wk_L_38 rfl rfl rfl rfl rfl dL_areEditions_231 rfl (fun x231 M231 h231 => ?_)
                obtain ⟨rfl, hMq⟩ := h231; have hMq := hMq.symm; subst hMq
                refine g_iload hX dL_areEditions_234 rfl rfl ?_
                refine g_icmp_ne (tgt := 270) hX dL_areEditions_236 (by decide) rfl (fun zc236 => absurd rfl zc236) (fun zc236 => ?_)
                refine g_iload hX dL_areEditions_239 rfl rfl ?_
                refine g_if_le (tgt := 270) hX dL_areEditions_241 (by decide) rfl (fun zc241 => absurd zc241 (nI_nle (by omega) (by omega))) (fun zc241 => ?_)
                refine g_iload hX dL_areEditions_244 rfl rfl ?_
                refine g_aload_n (i := 0) hX dL_areEditions_246 rfl rfl rfl ?_
                refine g_iconst hX dL_areEditions_247 ic_5 rfl ?_
                refine g_callVi hX (q_cnt hW hH 5 (v := nI nb) rfl h.hb) kf_X7_count rfl wk_L_13 rfl rfl rfl rfl rfl dL_areEditions_248 rfl (fun x248 M248 h248 => ?_)
                obtain ⟨rfl, hMq⟩ := h248; have hMq := hMq.symm; subst hMq
                first | refine g_icmp_gtN (tgt := 270) hX dL_areEditions_251 (by decide) rfl (by omega) (by omega) (fun zc251 => absurd zc251 (by omega)) (fun zc251 => ?_) | refine g_icmp_gt (tgt := 270) hX dL_areEditions_251 (by decide) rfl (fun zc251 => absurd zc251 (by omega)) (fun zc251 => ?_)
                refine g_iload hX dL_areEditions_254 rfl rfl ?_
                refine g_if_lt (tgt := 270) hX dL_areEditions_256 (by decide) rfl (fun zc256 => absurd zc256 (nI_pos (by omega))) (fun zc256 => ?_)
                refine g_iload hX dL_areEditions_259 rfl rfl ?_
                refine g_bipush hX dL_areEditions_261 bc_30 rfl ?_
                first | refine g_icmp_geN (tgt := 270) hX dL_areEditions_263 (by decide) rfl (by omega) (by omega) (fun zc263 => absurd zc263 (by omega)) (fun zc263 => ?_) | refine g_icmp_ge (tgt := 270) hX dL_areEditions_263 (by decide) rfl (fun zc263 => absurd zc263 (by omega)) (fun zc263 => ?_)
                refine g_iconst hX dL_areEditions_266 ic_1 rfl ?_
                refine g_goto (n := 271) hX dL_areEditions_267 (by decide) ?_
                refine g_istore_n (i := 2) hX dL_areEditions_271 rfl (Nat.le_of_ble_eq_true rfl) rfl ?_
                refine g_iload hX dL_areEditions_272 rfl rfl ?_
                refine g_aload_n (i := 0) hX dL_areEditions_274 rfl rfl rfl ?_
                refine g_iconst hX dL_areEditions_275 ic_5 rfl ?_
                refine g_callVi hX (q_cnt hW hH 5 (v := nI nb) rfl h.hb) kf_X7_count rfl wk_L_13 rfl rfl rfl rfl rfl dL_areEditions_276 rfl (fun x276 M276 h276 => ?_)
                obtain ⟨rfl, hMq⟩ := h276; have hMq := hMq.symm; subst hMq
                first | refine g_icmp_neN (tgt := 308) hX dL_areEditions_279 (by decide) rfl (by omega) (by omega) (fun zc279 => ?_) (fun zc279 => absurd zc279 (by omega)) | refine g_icmp_ne (tgt := 308) hX dL_areEditions_279 (by decide) rfl (fun zc279 => ?_) (fun zc279 => absurd zc279 (by omega))
                refine g_iconst hX dL_areEditions_308 ic_0 rfl ?_
                refine g_istore hX dL_areEditions_309 (Nat.le_of_ble_eq_true rfl) rfl ?_
                refine g_iload_n (i := 2) hX dL_areEditions_311 rfl rfl rfl ?_
                refine g_if_eq (tgt := 354) hX dL_areEditions_312 (by decide) rfl (fun zc312 => absurd zc312 (by decide)) (fun zc312 => ?_)
                refine g_iload hX dL_areEditions_315 rfl rfl ?_
                refine g_if_eq (tgt := 350) hX dL_areEditions_317 (by decide) rfl (fun zc317 => ?_) (fun zc317 => absurd rfl zc317)
                refine g_iconst hX dL_areEditions_350 ic_1 rfl ?_
                refine g_goto (n := 355) hX dL_areEditions_351 (by decide) ?_
                refine g_istore_n (i := 2) hX dL_areEditions_355 rfl (Nat.le_of_ble_eq_true rfl) rfl ?_
                first | refine g_iincN hX dL_areEditions_356 ic_1 rfl (Nat.le_of_ble_eq_true rfl) rfl ?_ | refine g_iinc hX dL_areEditions_356 ic_1 rfl rfl (Nat.le_of_ble_eq_true rfl) rfl ?_
                first | refine g_iincN hX dL_areEditions_359 ic_1 rfl (Nat.le_of_ble_eq_true rfl) rfl ?_ | refine g_iinc hX dL_areEditions_359 ic_1 rfl rfl (Nat.le_of_ble_eq_true rfl) rfl ?_
                refine g_goto (n := 157) hX dL_areEditions_362 (by decide) ?_
                exact ihk _ _ _
        refine g_iload_n (i := 3) hX dL_areEditions_124 rfl rfl rfl ?_
        refine g_iload_n (i := 1) hX dL_areEditions_125 rfl rfl rfl ?_
        first | refine g_icmp_gtN (tgt := 414) hX dL_areEditions_126 (by decide) rfl (by omega) (by omega) (fun zc126 => absurd zc126 (by omega)) (fun zc126 => ?_) | refine g_icmp_gt (tgt := 414) hX dL_areEditions_126 (by decide) rfl (fun zc126 => absurd zc126 (by omega)) (fun zc126 => ?_)
        refine g_iload_n (i := 2) hX dL_areEditions_129 rfl rfl rfl ?_
        refine g_if_eq (tgt := 414) hX dL_areEditions_130 (by decide) rfl (fun zc130 => absurd zc130 (by decide)) (fun zc130 => ?_)
        refine g_iconst hX dL_areEditions_133 ic_0 rfl ?_
        refine g_istore hX dL_areEditions_134 (Nat.le_of_ble_eq_true rfl) rfl ?_
        refine g_iload_n (i := 3) hX dL_areEditions_136 rfl rfl rfl ?_
        refine g_iconst hX dL_areEditions_137 ic_1 rfl ?_
        first | refine g_icmp_neN (tgt := 145) hX dL_areEditions_138 (by decide) rfl (by omega) (by omega) (fun zc138 => ?_) (fun zc138 => absurd zc138 (by omega)) | refine g_icmp_ne (tgt := 145) hX dL_areEditions_138 (by decide) rfl (fun zc138 => ?_) (fun zc138 => absurd zc138 (by omega))
        refine g_aload_n (i := 0) hX dL_areEditions_145 rfl rfl rfl ?_
        refine g_iload_n (i := 3) hX dL_areEditions_146 rfl rfl rfl ?_
        refine g_iconst hX dL_areEditions_147 ic_0 rfl ?_
        refine g_iconst hX dL_areEditions_148 ic_1 rfl ?_
        refine g_callVi hX (q_cha hW 1 (v := nI b) (by omega) een (by omega) rfl (by rw [← hdif]; exact hp0) hb) kf_X7_change rfl wk_L_38 rfl rfl rfl rfl rfl dL_areEditions_149 rfl (fun x149 M149 h149 => ?_)
        obtain ⟨rfl, hMq⟩ := h149; have hMq := hMq.symm; subst hMq
        refine g_istore hX dL_areEditions_152 (Nat.le_of_ble_eq_true rfl) rfl ?_
        refine g_iconst hX dL_areEditions_154 ic_0 rfl ?_
        refine g_istore hX dL_areEditions_155 (Nat.le_of_ble_eq_true rfl) rfl ?_
        exact Li 0 (by omega) _ _ _
  have LK : ∀ k, k ≤ nc → ∀ x4 : Option Value, gG X E M 25 [some (.ref 0), some (.int (nI ne)), some (.int (nI 1)), some (.int (nI k)), x4, none, none, none, none, none] [] (gQ X E (gInt fun r M' => r = nI 1 ∧ M' = M)) := by
    refine up_loop nc _ (fun x4 => ?_) (fun k hkc ih x4 => ?_)
    · skip
      refine g_iload_n (i := 3) hX dL_areEditions_25 rfl rfl rfl ?_
      refine g_aload_n (i := 0) hX dL_areEditions_26 rfl rfl rfl ?_
      refine g_iconst hX dL_areEditions_27 ic_1 rfl ?_
      refine g_callVi hX (q_cnt hW hH 1 (v := nI nc) rfl rfl) kf_X7_count rfl wk_L_13 rfl rfl rfl rfl rfl dL_areEditions_28 rfl (fun x28 M28 h28 => ?_)
      obtain ⟨rfl, hMq⟩ := h28; have hMq := hMq.symm; subst hMq
      first | refine g_icmp_geN (tgt := 122) hX dL_areEditions_31 (by decide) rfl (by omega) (by omega) (fun zc31 => ?_) (fun zc31 => absurd zc31 (by omega)) | refine g_icmp_ge (tgt := 122) hX dL_areEditions_31 (by decide) rfl (fun zc31 => ?_) (fun zc31 => absurd zc31 (by omega))
      refine g_iconst hX dL_areEditions_122 ic_1 rfl ?_
      refine g_istore_n (i := 3) hX dL_areEditions_123 rfl (Nat.le_of_ble_eq_true rfl) rfl ?_
      exact LE 0 (by omega) _ _ _ _ _ _
    · have K86 : gG X E M 86 [some (.ref 0), some (.int (nI ne)), some (.int (nI 1)), some (.int (nI k)), some (.int (M 8 k)), none, none, none, none, none] [] (gQ X E (gInt fun r M' => r = nI 1 ∧ M' = M)) := by
        refine g_aload_n (i := 0) hX dL_areEditions_86 rfl rfl rfl ?_
        refine g_iload hX dL_areEditions_87 rfl rfl ?_
        refine g_iconst hX dL_areEditions_89 ic_0 rfl ?_
        refine g_callVi hX (q_vinX hW h.as hkc (e := 0) (by omega) (by omega)) kf_X7_valueIn rfl wk_L_61 rfl rfl rfl rfl rfl dL_areEditions_90 rfl (fun x90 M90 h90 => ?_)
        obtain ⟨rfl, hMq⟩ := h90; have hMq := hMq.symm; subst hMq
        refine g_iconst hX dL_areEditions_93 ic_m1 rfl ?_
        refine g_icmp_ne (tgt := 114) hX dL_areEditions_94 (by decide) rfl (fun zc94 => absurd rfl zc94) (fun zc94 => ?_)
        refine g_aload_n (i := 0) hX dL_areEditions_97 rfl rfl rfl ?_
        refine g_iload hX dL_areEditions_98 rfl rfl ?_
        refine g_iload_n (i := 1) hX dL_areEditions_100 rfl rfl rfl ?_
        refine g_iconst hX dL_areEditions_101 ic_1 rfl ?_
        first | refine g_iaddN hX dL_areEditions_102 rfl ?_ | refine g_iadd hX dL_areEditions_102 rfl ?_
        refine g_callVi hX (q_vinX hW h.as hkc (e := ne + 1) (by omega) (by omega)) kf_X7_valueIn rfl wk_L_61 rfl rfl rfl rfl rfl dL_areEditions_103 rfl (fun x103 M103 h103 => ?_)
        obtain ⟨rfl, hMq⟩ := h103; have hMq := hMq.symm; subst hMq
        refine g_iconst hX dL_areEditions_106 ic_m1 rfl ?_
        refine g_icmp_ne (tgt := 114) hX dL_areEditions_107 (by decide) rfl (fun zc107 => absurd rfl zc107) (fun zc107 => ?_)
        refine g_iconst hX dL_areEditions_110 ic_1 rfl ?_
        refine g_goto (n := 115) hX dL_areEditions_111 (by decide) ?_
        refine g_istore_n (i := 2) hX dL_areEditions_115 rfl (Nat.le_of_ble_eq_true rfl) rfl ?_
        first | refine g_iincN hX dL_areEditions_116 ic_1 rfl (Nat.le_of_ble_eq_true rfl) rfl ?_ | refine g_iinc hX dL_areEditions_116 ic_1 rfl rfl (Nat.le_of_ble_eq_true rfl) rfl ?_
        refine g_goto (n := 25) hX dL_areEditions_119 (by decide) ?_
        exact ih _
      have pcl : cntTo nk (pendB (M 21)) ≤ nk := cntTo_le _ _
      have K61 : gG X E M 61 [some (.ref 0), some (.int (nI ne)), some (.int (nI 1)), some (.int (nI k)), some (.int (M 8 k)), none, none, none, none, none] [] (gQ X E (gInt fun r M' => r = nI 1 ∧ M' = M)) := by
        refine g_aload_n (i := 0) hX dL_areEditions_61 rfl rfl rfl ?_
        refine g_bipush hX dL_areEditions_62 bc_7 rfl ?_
        refine g_callVi hX (q_cnt hW hH 7 (v := nI (cntTo nk (pendB (M 21)))) rfl rfl) kf_X7_count rfl wk_L_13 rfl rfl rfl rfl rfl dL_areEditions_64 rfl (fun x64 M64 h64 => ?_)
        obtain ⟨rfl, hMq⟩ := h64; have hMq := hMq.symm; subst hMq
        refine g_if_gt (tgt := 86) hX dL_areEditions_67 (by decide) rfl (fun zc67 => ?_) (fun zc67 => ?_)
        · skip
          exact K86
        · skip
          have z67 : cntTo nk (pendB (M 21)) = 0 := by
            rcases Nat.eq_zero_or_pos (cntTo nk (pendB (M 21))) with z | z
            · exact z
            · exact absurd (nI_lt z (by omega)) zc67
          refine g_aload_n (i := 0) hX dL_areEditions_70 rfl rfl rfl ?_
          refine g_iload hX dL_areEditions_71 rfl rfl ?_
          refine g_callVi hX (q_val hW h.as hkc) kf_X7_value rfl wk_L_29 rfl rfl rfl rfl rfl dL_areEditions_73 rfl (fun x73 M73 h73 => ?_)
          obtain ⟨rfl, hMq⟩ := h73; have hMq := hMq.symm; subst hMq
          refine g_aload_n (i := 0) hX dL_areEditions_76 rfl rfl rfl ?_
          refine g_iload hX dL_areEditions_77 rfl rfl ?_
          refine g_iload_n (i := 1) hX dL_areEditions_79 rfl rfl rfl ?_
          refine g_callVi hX (q_vin hW h.as hkc (by omega) (Nat.le_refl _)) kf_X7_valueIn rfl wk_L_61 rfl rfl rfl rfl rfl dL_areEditions_80 rfl (fun x80 M80 h80 => ?_)
          obtain ⟨rfl, hMq⟩ := h80; have hMq := hMq.symm; subst hMq
          refine g_icmp_ne (tgt := 114) hX dL_areEditions_83 (by decide) rfl (fun zc83 => absurd (h.now z67 k hkc) zc83) (fun zc83 => ?_)
          exact K86
      refine g_iload_n (i := 3) hX dL_areEditions_25 rfl rfl rfl ?_
      refine g_aload_n (i := 0) hX dL_areEditions_26 rfl rfl rfl ?_
      refine g_iconst hX dL_areEditions_27 ic_1 rfl ?_
      refine g_callVi hX (q_cnt hW hH 1 (v := nI nc) rfl rfl) kf_X7_count rfl wk_L_13 rfl rfl rfl rfl rfl dL_areEditions_28 rfl (fun x28 M28 h28 => ?_)
      obtain ⟨rfl, hMq⟩ := h28; have hMq := hMq.symm; subst hMq
      first | refine g_icmp_geN (tgt := 122) hX dL_areEditions_31 (by decide) rfl (by omega) (by omega) (fun zc31 => absurd zc31 (by omega)) (fun zc31 => ?_) | refine g_icmp_ge (tgt := 122) hX dL_areEditions_31 (by decide) rfl (fun zc31 => absurd zc31 (by omega)) (fun zc31 => ?_)
      refine g_iload_n (i := 2) hX dL_areEditions_34 rfl rfl rfl ?_
      refine g_if_eq (tgt := 122) hX dL_areEditions_35 (by decide) rfl (fun zc35 => absurd zc35 (by decide)) (fun zc35 => ?_)
      refine g_aload_n (i := 0) hX dL_areEditions_38 rfl rfl rfl ?_
      refine g_iload_n (i := 3) hX dL_areEditions_39 rfl rfl rfl ?_
      refine g_callVi hX (q_cla hW hkc) kf_X7_clause rfl wk_L_26 rfl rfl rfl rfl rfl dL_areEditions_40 rfl (fun x40 M40 h40 => ?_)
      obtain ⟨rfl, hMq⟩ := h40; have hMq := hMq.symm; subst hMq
      refine g_istore hX dL_areEditions_43 (Nat.le_of_ble_eq_true rfl) rfl ?_
      refine g_iload_n (i := 3) hX dL_areEditions_45 rfl rfl rfl ?_
      refine g_if_eq (tgt := 61) hX dL_areEditions_46 (by decide) rfl (fun zc46 => ?_) (fun zc46 => ?_)
      · skip
        exact K61
      · skip
        have z46 : 0 < k := Nat.pos_of_ne_zero (fun z => zc46 (by rw [z]; rfl))
        refine g_iload hX dL_areEditions_49 rfl rfl ?_
        refine g_aload_n (i := 0) hX dL_areEditions_51 rfl rfl rfl ?_
        refine g_iload_n (i := 3) hX dL_areEditions_52 rfl rfl rfl ?_
        refine g_iconst hX dL_areEditions_53 ic_1 rfl ?_
        refine g_isubN hX dL_areEditions_54 (by omega) rfl ?_
        refine g_callVi hX (q_cla hW (k := k - 1) (by omega)) kf_X7_clause rfl wk_L_26 rfl rfl rfl rfl rfl dL_areEditions_55 rfl (fun x55 M55 h55 => ?_)
        obtain ⟨rfl, hMq⟩ := h55; have hMq := hMq.symm; subst hMq
        refine g_icmp_le (tgt := 114) hX dL_areEditions_58 (by decide) rfl (fun zc58 => absurd zc58 (Int32.not_le.mpr (h.as (k - 1) k (by omega) hkc))) (fun zc58 => ?_)
        exact K61
  refine g_aload_n (i := 0) hX dL_areEditions_0 rfl rfl rfl ?_
  refine g_iconst hX dL_areEditions_1 ic_2 rfl ?_
  refine g_callVi hX (q_cnt hW hH 2 (v := nI ne) rfl rfl) kf_X7_count rfl wk_L_13 rfl rfl rfl rfl rfl dL_areEditions_2 rfl (fun x2 M2 h2 => ?_)
  obtain ⟨rfl, hMq⟩ := h2; have hMq := hMq.symm; subst hMq
  refine g_istore_n (i := 1) hX dL_areEditions_5 rfl (Nat.le_of_ble_eq_true rfl) rfl ?_
  refine g_iload_n (i := 1) hX dL_areEditions_6 rfl rfl rfl ?_
  refine g_iconst hX dL_areEditions_7 ic_1 rfl ?_
  first | refine g_icmp_ltN (tgt := 21) hX dL_areEditions_8 (by decide) rfl (by omega) (by omega) (fun zc8 => absurd zc8 (by omega)) (fun zc8 => ?_) | refine g_icmp_lt (tgt := 21) hX dL_areEditions_8 (by decide) rfl (fun zc8 => absurd zc8 (by omega)) (fun zc8 => ?_)
  refine g_iload_n (i := 1) hX dL_areEditions_11 rfl rfl rfl ?_
  refine g_bipush hX dL_areEditions_12 bc_12 rfl ?_
  first | refine g_icmp_gtN (tgt := 21) hX dL_areEditions_14 (by decide) rfl (by omega) (by omega) (fun zc14 => absurd zc14 (by omega)) (fun zc14 => ?_) | refine g_icmp_gt (tgt := 21) hX dL_areEditions_14 (by decide) rfl (fun zc14 => absurd zc14 (by omega)) (fun zc14 => ?_)
  refine g_iconst hX dL_areEditions_17 ic_1 rfl ?_
  refine g_goto (n := 22) hX dL_areEditions_18 (by decide) ?_
  refine g_istore_n (i := 2) hX dL_areEditions_22 rfl (Nat.le_of_ble_eq_true rfl) rfl ?_
  refine g_iconst hX dL_areEditions_23 ic_0 rfl ?_
  refine g_istore_n (i := 3) hX dL_areEditions_24 rfl (Nat.le_of_ble_eq_true rfl) rfl ?_
  exact LK 0 (by omega) none
end

