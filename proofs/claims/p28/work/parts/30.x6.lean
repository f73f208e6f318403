/-! CommitteeBallots$Text (cell 128) -/
theorem c_X6_append (E : gE) (M : gM) (L : Nat) (x : Int32) (hL : M 128 1 = nI L) (hb : L < 80) : gMet E k_X6_append [.ref 128, .int x] M (gVoid fun M' => M' = gset (gset M 129 (upd (M 129) L (vp_nar .char x))) 128 (upd (M 128) 1 (nI (L + 1)))) := by
  refine gMet.of (by decide +kernel) rfl (Nat.le_of_ble_eq_true rfl) (fun X hX hR => ?_)
  refine g_aload_n (i := 0) hX dX6_append_0 rfl rfl rfl ?_
  refine g_getIv (x := nI L) hX fl_X6_15 rfl rfl (hL) dX6_append_1 rfl ?_
  refine g_bipush hX dX6_append_4 bc_80 rfl ?_
  first | refine g_icmp_geN (tgt := 29) hX dX6_append_6 (by decide) rfl (by omega) (by omega) (fun zc6 => absurd zc6 (by omega)) (fun zc6 => ?_) | refine g_icmp_ge (tgt := 29) hX dX6_append_6 (by decide) rfl (fun zc6 => absurd zc6 (by omega)) (fun zc6 => ?_)
  refine g_aload_n (i := 0) hX dX6_append_9 rfl rfl rfl ?_
  refine g_getR hX fl_X6_9 rfl rfl dX6_append_10 rfl ?_
  refine g_aload_n (i := 0) hX dX6_append_13 rfl rfl rfl ?_
  refine g_getIv (x := nI L) hX fl_X6_15 rfl rfl (hL) dX6_append_14 rfl ?_
  refine g_iload_n (i := 1) hX dX6_append_17 rfl rfl rfl ?_
  refine g_cast hX rfl (rfl) (by omega) rfl dX6_append_18 rfl ?_
  refine g_aload_n (i := 0) hX dX6_append_19 rfl rfl rfl ?_
  refine g_dup hX dX6_append_20 rfl rfl ?_
  refine g_getIv (x := nI L) hX fl_X6_15 rfl rfl (hL) dX6_append_21 rfl ?_
  refine g_iconst hX dX6_append_24 ic_1 rfl ?_
  first | refine g_iaddN hX dX6_append_25 rfl ?_ | refine g_iadd hX dX6_append_25 rfl ?_
  refine g_putI hX fp_X6_15 rfl rfl dX6_append_26 rfl ?_
  refine g_vret hX hR dX6_append_29 ?_
  rfl
theorem c_X6_rewind (E : gE) (M : gM) : gMet E k_X6_rewind [.ref 128] M (gVoid fun M' => M' = gset M 128 (upd (upd (M 128) 2 0) 3 0)) := by
  refine gMet.of (by decide +kernel) rfl (Nat.le_of_ble_eq_true rfl) (fun X hX hR => ?_)
  refine g_aload_n (i := 0) hX dX6_rewind_0 rfl rfl rfl ?_
  refine g_iconst hX dX6_rewind_1 ic_0 rfl ?_
  refine g_putI hX fp_X6_19 rfl rfl dX6_rewind_2 rfl ?_
  refine g_aload_n (i := 0) hX dX6_rewind_5 rfl rfl rfl ?_
  refine g_iconst hX dX6_rewind_6 ic_0 rfl ?_
  refine g_putI hX fp_X6_22 rfl rfl dX6_rewind_7 rfl ?_
  refine g_vret hX hR dX6_rewind_10 ?_
  rw [gset_gset]; rfl
theorem c_X6_isAtEnd (E : gE) (M : gM) (L i : Nat) (hL : M 128 1 = nI L) (hb : L ≤ 80) (hi : M 128 3 = nI i) (hib : i ≤ 80) : gMet E k_X6_isAtEnd [.ref 128] M (gInt fun r M' => r = gB (decide (L ≤ i)) ∧ M' = M) := by
  refine gMet.of (by decide +kernel) rfl (Nat.le_of_ble_eq_true rfl) (fun X hX hR => ?_)
  refine g_aload_n (i := 0) hX dX6_isAtEnd_0 rfl rfl rfl ?_
  refine g_getIv (x := nI i) hX fl_X6_22 rfl rfl (hi) dX6_isAtEnd_1 rfl ?_
  refine g_aload_n (i := 0) hX dX6_isAtEnd_4 rfl rfl rfl ?_
  refine g_getIv (x := nI L) hX fl_X6_15 rfl rfl (hL) dX6_isAtEnd_5 rfl ?_
  first | refine g_icmp_ltN (tgt := 15) hX dX6_isAtEnd_8 (by decide) rfl (by omega) (by omega) (fun zc8 => ?_) (fun zc8 => ?_) | refine g_icmp_lt (tgt := 15) hX dX6_isAtEnd_8 (by decide) rfl (fun zc8 => ?_) (fun zc8 => ?_)
  · skip
    refine g_iconst hX dX6_isAtEnd_15 ic_0 rfl ?_
    refine g_zret hX hR (by first | exact Or.inl rfl | exact Or.inr rfl | exact gB_01 _) dX6_isAtEnd_16 ?_
    refine ⟨?_, rfl⟩; first | exact gB_1 (decide_eq_true (Nat.not_lt.mp zc8)) | exact gB_n (decide_eq_false (Nat.not_le.mpr zc8))
  · skip
    refine g_iconst hX dX6_isAtEnd_11 ic_1 rfl ?_
    refine g_goto (n := 16) hX dX6_isAtEnd_12 (by decide) ?_
    refine g_zret hX hR (by first | exact Or.inl rfl | exact Or.inr rfl | exact gB_01 _) dX6_isAtEnd_16 ?_
    refine ⟨?_, rfl⟩; first | exact gB_1 (decide_eq_true (Nat.not_lt.mp zc8)) | exact gB_n (decide_eq_false (Nat.not_le.mpr zc8))
theorem c_X6_signAt (E : gE) (M : gM) (ch : Nat → Nat) (L i : Nat) (hT : TxX M ch L) (hi : i < 1000) : gMet E k_X6_signAt [.ref 128, .int (nI i)] M (gInt fun r M' => r = nI (sgN ch L i) ∧ M' = M) := by
  refine gMet.of (by decide +kernel) rfl (Nat.le_of_ble_eq_true rfl) (fun X hX hR => ?_)
  obtain ⟨hL, hb, hc⟩ := hT
  by_cases h : i < L
  · have e : sgN ch L i = ch i := if_pos h
    obtain ⟨h1, h2, h3⟩ := hc i h
    refine g_iload_n (i := 1) hX dX6_signAt_0 rfl rfl rfl ?_
    refine g_if_lt (tgt := 21) hX dX6_signAt_1 (by decide) rfl (fun zc1 => absurd zc1 (nI_pos (by omega))) (fun zc1 => ?_)
    refine g_iload_n (i := 1) hX dX6_signAt_4 rfl rfl rfl ?_
    refine g_aload_n (i := 0) hX dX6_signAt_5 rfl rfl rfl ?_
    refine g_getIv (x := nI L) hX fl_X6_15 rfl rfl (hL) dX6_signAt_6 rfl ?_
    first | refine g_icmp_geN (tgt := 21) hX dX6_signAt_9 (by decide) rfl (by omega) (by omega) (fun zc9 => absurd zc9 (by omega)) (fun zc9 => ?_) | refine g_icmp_ge (tgt := 21) hX dX6_signAt_9 (by decide) rfl (fun zc9 => absurd zc9 (by omega)) (fun zc9 => ?_)
    refine g_aload_n (i := 0) hX dX6_signAt_12 rfl rfl rfl ?_
    refine g_getR hX fl_X6_9 rfl rfl dX6_signAt_13 rfl ?_
    refine g_iload_n (i := 1) hX dX6_signAt_16 rfl rfl rfl ?_
    refine g_caldv (x := nI (ch i)) hX rfl (rfl) (by omega) rfl (h1) dX6_signAt_17 rfl ?_
    refine g_goto (n := 22) hX dX6_signAt_18 (by decide) ?_
    refine g_cret hX hR ((pk_charN (by omega)).1) dX6_signAt_22 ?_
    exact ⟨by rw [e], rfl⟩
  · have e : sgN ch L i = 0 := if_neg h
    refine g_iload_n (i := 1) hX dX6_signAt_0 rfl rfl rfl ?_
    refine g_if_lt (tgt := 21) hX dX6_signAt_1 (by decide) rfl (fun zc1 => absurd zc1 (nI_pos (by omega))) (fun zc1 => ?_)
    refine g_iload_n (i := 1) hX dX6_signAt_4 rfl rfl rfl ?_
    refine g_aload_n (i := 0) hX dX6_signAt_5 rfl rfl rfl ?_
    refine g_getIv (x := nI L) hX fl_X6_15 rfl rfl (hL) dX6_signAt_6 rfl ?_
    first | refine g_icmp_geN (tgt := 21) hX dX6_signAt_9 (by decide) rfl (by omega) (by omega) (fun zc9 => ?_) (fun zc9 => absurd zc9 (by omega)) | refine g_icmp_ge (tgt := 21) hX dX6_signAt_9 (by decide) rfl (fun zc9 => ?_) (fun zc9 => absurd zc9 (by omega))
    refine g_iconst hX dX6_signAt_21 ic_0 rfl ?_
    refine g_cret hX hR ((pk_charN (by decide)).1) dX6_signAt_22 ?_
    exact ⟨by rw [e], rfl⟩
theorem sgN_dig {ch : Nat → Nat} {L i : Nat} : digB ch L i = true ↔ 48 ≤ sgN ch L i ∧ sgN ch L i ≤ 57 := by
  simp only [digB, sgN, Bool.and_eq_true, decide_eq_true_eq]
  split <;> omega
theorem sgN_lt {M : gM} {ch : Nat → Nat} {L : Nat} (hT : TxX M ch L) (i : Nat) : sgN ch L i < 127 := by
  simp only [sgN]; split
  · next h => have := hT.2.2 i h; omega
  · omega
theorem c_X6_digitsAt (E : gE) (M : gM) (ch : Nat → Nat) (L i m : Nat) (hT : TxX M ch L) (hi : i < 500) (hm : m ≤ 4) : gMet E k_X6_digitsAt [.ref 128, .int (nI i), .int (nI m)] M (gInt fun r M' => r = nI (dgN ch L i m) ∧ M' = M) := by
  refine gMet.of (by decide +kernel) rfl (Nat.le_of_ble_eq_true rfl) (fun X hX hR => ?_)
  have loop := up_loop m (fun k => ∀ b, (∀ j, j < k → (!digB ch L (i + j)) = false) → gG X E M 2 [some (.ref 128), some (.int (nI i)), some (.int (nI m)), some (.int (nI k)), b] [] (gQ X E (gInt fun r M' => r = nI (dgN ch L i m) ∧ M' = M))) ?_ ?_
  · skip
    refine g_iconst hX dX6_digitsAt_0 ic_0 rfl ?_
    refine g_istore_n (i := 3) hX dX6_digitsAt_1 rfl (Nat.le_of_ble_eq_true rfl) rfl ?_
    exact loop 0 (Nat.zero_le _) _ (fun j hj => absurd hj (by omega))
  · intro b h
    refine g_iload_n (i := 3) hX dX6_digitsAt_2 rfl rfl rfl ?_
    refine g_iload_n (i := 2) hX dX6_digitsAt_3 rfl rfl rfl ?_
    first | refine g_icmp_geN (tgt := 38) hX dX6_digitsAt_4 (by decide) rfl (by omega) (by omega) (fun zc4 => ?_) (fun zc4 => absurd zc4 (by omega)) | refine g_icmp_ge (tgt := 38) hX dX6_digitsAt_4 (by decide) rfl (fun zc4 => ?_) (fun zc4 => absurd zc4 (by omega))
    refine g_iload_n (i := 2) hX dX6_digitsAt_38 rfl rfl rfl ?_
    refine g_iret hX hR dX6_digitsAt_39 ?_
    exact ⟨by rw [dgN, fndTo_eqn h]; rfl, rfl⟩
  · intro k hk ih b h
    have hlt := sgN_lt hT (i + k)
    refine g_iload_n (i := 3) hX dX6_digitsAt_2 rfl rfl rfl ?_
    refine g_iload_n (i := 2) hX dX6_digitsAt_3 rfl rfl rfl ?_
    first | refine g_icmp_geN (tgt := 38) hX dX6_digitsAt_4 (by decide) rfl (by omega) (by omega) (fun zc4 => absurd zc4 (by omega)) (fun zc4 => ?_) | refine g_icmp_ge (tgt := 38) hX dX6_digitsAt_4 (by decide) rfl (fun zc4 => absurd zc4 (by omega)) (fun zc4 => ?_)
    refine g_aload_n (i := 0) hX dX6_digitsAt_7 rfl rfl rfl ?_
    refine g_iload_n (i := 1) hX dX6_digitsAt_8 rfl rfl rfl ?_
    refine g_iload_n (i := 3) hX dX6_digitsAt_9 rfl rfl rfl ?_
    first | refine g_iaddN hX dX6_digitsAt_10 rfl ?_ | refine g_iadd hX dX6_digitsAt_10 rfl ?_
    refine g_callVi hX (c_X6_signAt E M ch L (i + k) hT (by omega)) kf_X6_signAt rfl wk_X6_35 rfl rfl rfl rfl rfl dX6_digitsAt_11 rfl (fun x11 M11 h11 => ?_)
    obtain ⟨rfl, hm⟩ := h11; have hm := hm.symm; subst hm
    refine g_istore hX dX6_digitsAt_14 (Nat.le_of_ble_eq_true rfl) rfl ?_
    refine g_iload hX dX6_digitsAt_16 rfl rfl ?_
    refine g_bipush hX dX6_digitsAt_18 bc_48 rfl ?_
    first | refine g_icmp_ltN (tgt := 30) hX dX6_digitsAt_20 (by decide) rfl (by omega) (by omega) (fun zc20 => ?_) (fun zc20 => ?_) | refine g_icmp_lt (tgt := 30) hX dX6_digitsAt_20 (by decide) rfl (fun zc20 => ?_) (fun zc20 => ?_)
    · skip
      refine g_iload_n (i := 3) hX dX6_digitsAt_30 rfl rfl rfl ?_
      refine g_iret hX hR dX6_digitsAt_31 ?_
      skip
      have hd : (!digB ch L (i + k)) = true := by
        rw [Bool.not_eq_true']
        cases hz : digB ch L (i + k) with
        | false => rfl
        | true => have := sgN_dig.mp hz; omega
      exact ⟨by rw [dgN, fndTo_eq hk hd h]; rfl, rfl⟩
    · skip
      refine g_iload hX dX6_digitsAt_23 rfl rfl ?_
      refine g_bipush hX dX6_digitsAt_25 bc_57 rfl ?_
      first | refine g_icmp_leN (tgt := 32) hX dX6_digitsAt_27 (by decide) rfl (by omega) (by omega) (fun zc27 => ?_) (fun zc27 => ?_) | refine g_icmp_le (tgt := 32) hX dX6_digitsAt_27 (by decide) rfl (fun zc27 => ?_) (fun zc27 => ?_)
      · skip
        first | refine g_iincN hX dX6_digitsAt_32 ic_1 rfl (Nat.le_of_ble_eq_true rfl) rfl ?_ | refine g_iinc hX dX6_digitsAt_32 ic_1 rfl rfl (Nat.le_of_ble_eq_true rfl) rfl ?_
        refine g_goto (n := 2) hX dX6_digitsAt_35 (by decide) ?_
        refine ih _ (fun j hj => ?_)
        by_cases ej : j = k
        · subst ej
          rw [Bool.not_eq_false']
          exact sgN_dig.mpr ⟨by omega, by omega⟩
        · exact h j (by omega)
      · skip
        refine g_iload_n (i := 3) hX dX6_digitsAt_30 rfl rfl rfl ?_
        refine g_iret hX hR dX6_digitsAt_31 ?_
        skip
        have hd : (!digB ch L (i + k)) = true := by
          rw [Bool.not_eq_true']
          cases hz : digB ch L (i + k) with
          | false => rfl
          | true => have := sgN_dig.mp hz; omega
        exact ⟨by rw [dgN, fndTo_eq hk hd h]; rfl, rfl⟩
theorem c_X6_numberAt (E : gE) (M : gM) (ch : Nat → Nat) (L i d : Nat) (hT : TxX M ch L) (hi : i < 500) (hd : d ≤ 4) (hdg : ∀ e, e < d → digB ch L (i + e) = true) : gMet E k_X6_numberAt [.ref 128, .int (nI i), .int (nI d)] M (gInt fun r M' => r = nI (valN ch i d) ∧ M' = M) := by
  refine gMet.of (by decide +kernel) rfl (Nat.le_of_ble_eq_true rfl) (fun X hX hR => ?_)
  have loop := up_loop d (fun k => gG X E M 5 [some (.ref 128), some (.int (nI i)), some (.int (nI d)), some (.int (nI (valN ch i k))), some (.int (nI k))] [] (gQ X E (gInt fun r M' => r = nI (valN ch i d) ∧ M' = M))) ?_ ?_
  · skip
    refine g_iconst hX dX6_numberAt_0 ic_0 rfl ?_
    refine g_istore_n (i := 3) hX dX6_numberAt_1 rfl (Nat.le_of_ble_eq_true rfl) rfl ?_
    refine g_iconst hX dX6_numberAt_2 ic_0 rfl ?_
    refine g_istore hX dX6_numberAt_3 (Nat.le_of_ble_eq_true rfl) rfl ?_
    exact loop 0 (Nat.zero_le _)
  · skip
    refine g_iload hX dX6_numberAt_5 rfl rfl ?_
    refine g_iload_n (i := 2) hX dX6_numberAt_7 rfl rfl rfl ?_
    first | refine g_icmp_geN (tgt := 34) hX dX6_numberAt_8 (by decide) rfl (by omega) (by omega) (fun zc8 => ?_) (fun zc8 => absurd zc8 (by omega)) | refine g_icmp_ge (tgt := 34) hX dX6_numberAt_8 (by decide) rfl (fun zc8 => ?_) (fun zc8 => absurd zc8 (by omega))
    refine g_iload_n (i := 3) hX dX6_numberAt_34 rfl rfl rfl ?_
    refine g_iret hX hR dX6_numberAt_35 ?_
    exact ⟨rfl, rfl⟩
  · intro k hk ih
    have hg := digB_in (hdg k hk)
    have e : sgN ch L (i + k) = ch (i + k) := if_pos hg.1
    refine g_iload hX dX6_numberAt_5 rfl rfl ?_
    refine g_iload_n (i := 2) hX dX6_numberAt_7 rfl rfl rfl ?_
    first | refine g_icmp_geN (tgt := 34) hX dX6_numberAt_8 (by decide) rfl (by omega) (by omega) (fun zc8 => absurd zc8 (by omega)) (fun zc8 => ?_) | refine g_icmp_ge (tgt := 34) hX dX6_numberAt_8 (by decide) rfl (fun zc8 => absurd zc8 (by omega)) (fun zc8 => ?_)
    refine g_iload_n (i := 3) hX dX6_numberAt_11 rfl rfl rfl ?_
    refine g_bipush hX dX6_numberAt_12 bc_10 rfl ?_
    first | refine g_imulN hX dX6_numberAt_14 rfl ?_ | refine g_imul hX dX6_numberAt_14 rfl ?_
    refine g_aload_n (i := 0) hX dX6_numberAt_15 rfl rfl rfl ?_
    refine g_iload_n (i := 1) hX dX6_numberAt_16 rfl rfl rfl ?_
    refine g_iload hX dX6_numberAt_17 rfl rfl ?_
    first | refine g_iaddN hX dX6_numberAt_19 rfl ?_ | refine g_iadd hX dX6_numberAt_19 rfl ?_
    refine g_callVi hX (c_X6_signAt E M ch L (i + k) hT (by omega)) kf_X6_signAt rfl wk_X6_35 rfl rfl rfl rfl rfl dX6_numberAt_20 rfl (fun x20 M20 h20 => ?_)
    obtain ⟨rfl, hm⟩ := h20; have hm := hm.symm; subst hm
    rw [e]
    first | refine g_iaddN hX dX6_numberAt_23 rfl ?_ | refine g_iadd hX dX6_numberAt_23 rfl ?_
    refine g_bipush hX dX6_numberAt_24 bc_48 rfl ?_
    refine g_isubN hX dX6_numberAt_26 (by omega) rfl ?_
    refine g_istore_n (i := 3) hX dX6_numberAt_27 rfl (Nat.le_of_ble_eq_true rfl) rfl ?_
    first | refine g_iincN hX dX6_numberAt_28 ic_1 rfl (Nat.le_of_ble_eq_true rfl) rfl ?_ | refine g_iinc hX dX6_numberAt_28 ic_1 rfl rfl (Nat.le_of_ble_eq_true rfl) rfl ?_
    refine g_goto (n := 5) hX dX6_numberAt_31 (by decide) ?_
    exact ih
theorem TxX.of {M M' : gM} {ch : Nat → Nat} {L : Nat} (h : TxX M ch L) (h1 : M' 128 1 = M 128 1) (h2 : M' 129 = M 129) : TxX M' ch L := ⟨by rw [h1]; exact h.1, h.2.1, fun i hi => by rw [h2]; exact h.2.2 i hi⟩
def rdX (M M' : gM) (ch : Nat → Nat) (L i : Nat) : Prop := (∀ a, a ≠ 128 → M' a = M a) ∧ M' 128 1 = M 128 1 ∧ M' 128 2 = nI i ∧ (pOk ch L i = true → M' 128 3 = nI (pNx ch L i) ∧ M' 128 4 = nI (pCl ch L i) ∧ M' 128 5 = nI (pKd ch L i) ∧ M' 128 6 = nI (pVal ch L i))
set_option maxHeartbeats 4000000 in
theorem c_X6_readComment (E : gE) (M : gM) (ch : Nat → Nat) (L i : Nat) (hT : TxX M ch L) (hi : M 128 3 = nI i) (hib : i ≤ L) : gMet E k_X6_readComment [.ref 128] M (gInt fun r M' => r = gB (pOk ch L i) ∧ rdX M M' ch L i) := by
  refine gMet.of (by decide +kernel) rfl (Nat.le_of_ble_eq_true rfl) (fun X hX hR => ?_)
  have hL8 := hT.2.1
  have hd1 := pD1_le ch L i
  have hd2 := pD2_le ch L i
  have hs0 := sgN_lt hT (pMk ch L i)
  have hs1 := sgN_lt hT (pMk ch L i + 1)
  have hs2 := sgN_lt hT (pMk ch L i + 2 + pD2 ch L i)
  have hmk : pMk ch L i ≤ i + 2 := by simp only [pMk]; omega
  have emk : nI (i + pD1 ch L i) = nI (pMk ch L i) := rfl
  by_cases ht : sgN ch L (pMk ch L i) = 116
  · have hkd : pKd ch L i = 1 := if_pos ht
    refine g_aload_n (i := 0) hX dX6_readComment_0 rfl rfl rfl ?_
    refine g_aload_n (i := 0) hX dX6_readComment_1 rfl rfl rfl ?_
    refine g_getIv (x := nI i) hX fl_X6_22 rfl rfl (hi) dX6_readComment_2 rfl ?_
    refine g_putI hX fp_X6_19 rfl rfl dX6_readComment_5 rfl ?_
    refine g_aload_n (i := 0) hX dX6_readComment_8 rfl rfl rfl ?_
    refine g_aload_n (i := 0) hX dX6_readComment_9 rfl rfl rfl ?_
    refine g_getIv (x := nI i) hX fl_X6_19 rfl rfl (rfl) dX6_readComment_10 rfl ?_
    refine g_iconst hX dX6_readComment_13 ic_2 rfl ?_
    refine g_callVi hX (c_X6_digitsAt E _ ch L i 2 (hT.of rfl rfl) (by omega) (by omega)) kf_X6_digitsAt rfl wk_X6_25 rfl rfl rfl rfl rfl dX6_readComment_14 rfl (fun x14 M14 h14 => ?_)
    obtain ⟨rfl, hm⟩ := h14; have hm := hm.symm; subst hm
    refine g_istore_n (i := 1) hX dX6_readComment_17 rfl (Nat.le_of_ble_eq_true rfl) rfl ?_
    refine g_aload_n (i := 0) hX dX6_readComment_18 rfl rfl rfl ?_
    refine g_getIv (x := nI i) hX fl_X6_19 rfl rfl (rfl) dX6_readComment_19 rfl ?_
    refine g_iload_n (i := 1) hX dX6_readComment_22 rfl rfl rfl ?_
    first | refine g_iaddN hX dX6_readComment_23 rfl ?_ | refine g_iadd hX dX6_readComment_23 rfl ?_
    refine g_istore_n (i := 2) hX dX6_readComment_24 rfl (Nat.le_of_ble_eq_true rfl) rfl ?_
    refine g_aload_n (i := 0) hX dX6_readComment_25 rfl rfl rfl ?_
    refine g_aload_n (i := 0) hX dX6_readComment_26 rfl rfl rfl ?_
    refine g_aload_n (i := 0) hX dX6_readComment_27 rfl rfl rfl ?_
    refine g_getIv (x := nI i) hX fl_X6_19 rfl rfl (rfl) dX6_readComment_28 rfl ?_
    refine g_iload_n (i := 1) hX dX6_readComment_31 rfl rfl rfl ?_
    refine g_callVi hX (c_X6_numberAt E _ ch L i (pD1 ch L i) (hT.of rfl rfl) (by omega) (by omega) (fun e he => dgN_dig he)) kf_X6_numberAt rfl wk_X6_29 rfl rfl rfl rfl rfl dX6_readComment_32 rfl (fun x32 M32 h32 => ?_)
    obtain ⟨rfl, hm⟩ := h32; have hm := hm.symm; subst hm
    refine g_putI hX fp_X6_32 rfl rfl dX6_readComment_35 rfl ?_
    refine g_aload_n (i := 0) hX dX6_readComment_38 rfl rfl rfl ?_
    refine g_aload_n (i := 0) hX dX6_readComment_39 rfl rfl rfl ?_
    refine g_iload_n (i := 2) hX dX6_readComment_40 rfl rfl rfl ?_
    refine g_callVi hX (c_X6_signAt E _ ch L (pMk ch L i) (hT.of rfl rfl) (by omega)) kf_X6_signAt rfl wk_X6_35 rfl rfl rfl rfl rfl dX6_readComment_41 rfl (fun x41 M41 h41 => ?_)
    obtain ⟨rfl, hm⟩ := h41; have hm := hm.symm; subst hm
    refine g_bipush hX dX6_readComment_44 bc_116 rfl ?_
    first | refine g_icmp_neN (tgt := 53) hX dX6_readComment_46 (by decide) rfl (by omega) (by omega) (fun zc46 => absurd zc46 (by omega)) (fun zc46 => ?_) | refine g_icmp_ne (tgt := 53) hX dX6_readComment_46 (by decide) rfl (fun zc46 => absurd zc46 (by omega)) (fun zc46 => ?_)
    refine g_iconst hX dX6_readComment_49 ic_1 rfl ?_
    refine g_goto (n := 54) hX dX6_readComment_50 (by decide) ?_
    refine g_putI hX fp_X6_39 rfl rfl dX6_readComment_54 rfl ?_
    refine g_aload_n (i := 0) hX dX6_readComment_57 rfl rfl rfl ?_
    refine g_iload_n (i := 2) hX dX6_readComment_58 rfl rfl rfl ?_
    refine g_callVi hX (c_X6_signAt E _ ch L (pMk ch L i) (hT.of rfl rfl) (by omega)) kf_X6_signAt rfl wk_X6_35 rfl rfl rfl rfl rfl dX6_readComment_59 rfl (fun x59 M59 h59 => ?_)
    obtain ⟨rfl, hm⟩ := h59; have hm := hm.symm; subst hm
    refine g_bipush hX dX6_readComment_62 bc_116 rfl ?_
    first | refine g_icmp_eqN (tgt := 77) hX dX6_readComment_64 (by decide) rfl (by omega) (by omega) (fun zc64 => ?_) (fun zc64 => absurd zc64 (by omega)) | refine g_icmp_eq (tgt := 77) hX dX6_readComment_64 (by decide) rfl (fun zc64 => ?_) (fun zc64 => absurd zc64 (by omega))
    refine g_iconst hX dX6_readComment_77 ic_1 rfl ?_
    refine g_goto (n := 82) hX dX6_readComment_78 (by decide) ?_
    refine g_istore_n (i := 3) hX dX6_readComment_82 rfl (Nat.le_of_ble_eq_true rfl) rfl ?_
    refine g_iload_n (i := 1) hX dX6_readComment_83 rfl rfl rfl ?_
    refine g_if_eq (tgt := 103) hX dX6_readComment_84 (by decide) rfl (fun zc84 => ?_) (fun zc84 => ?_)
    · skip
      have zd84 : ¬ 0 < pD1 ch L i := fun q => nI_ne0 q (by omega) zc84
      refine g_iconst hX dX6_readComment_103 ic_0 rfl ?_
      refine g_zret hX hR (by first | exact Or.inl rfl | exact Or.inr rfl | exact gB_01 _) dX6_readComment_104 ?_
      first
      | (have zd104 : ¬ sgN ch L (pMk ch L i + 1) = 61 := zc100
         exact ⟨gB_n (pOk_no (fun q => zd104 q.2.2.1)), fun a ha => by simp only [gset, if_neg ha], rfl, rfl, fun q => absurd (pOk_iff.mp q).2.2.1 zd104⟩)
      | (exact ⟨gB_n (pOk_no (fun q => zd84 q.1)), fun a ha => by simp only [gset, if_neg ha], rfl, rfl, fun q => absurd (pOk_iff.mp q).1 zd84⟩)
      | (exact ⟨gB_n (pOk_no (fun q => zd138 q.2.2.2.1)), fun a ha => by simp only [gset, if_neg ha], rfl, rfl, fun q => absurd (pOk_iff.mp q).2.2.2.1 zd138⟩)
      | (have zd153 : ¬ sgN ch L (pMk ch L i + 2 + pD2 ch L i) = 59 := zc153
         exact ⟨gB_n (pOk_no (fun q => zd153 q.2.2.2.2)), fun a ha => by simp only [gset, if_neg ha], rfl, rfl, fun q => absurd (pOk_iff.mp q).2.2.2.2 zd153⟩)
      | (have zd104 : sgN ch L (pMk ch L i + 1) = 61 := by omega
         have zd153 : sgN ch L (pMk ch L i + 2 + pD2 ch L i) = 59 := by omega
         exact ⟨gB_1 (pOk_iff.mpr ⟨zd84, Or.inl ht, zd104, zd138, zd153⟩), fun a ha => by simp only [gset, if_neg ha], rfl, rfl, fun _ => ⟨rfl, rfl, by rw [hkd]; rfl, rfl⟩⟩)
    · skip
      have zd84 : 0 < pD1 ch L i := Nat.pos_of_ne_zero (fun q => zc84 (by show nI (pD1 ch L i) = 0; rw [q]; rfl))
      refine g_iload_n (i := 3) hX dX6_readComment_87 rfl rfl rfl ?_
      refine g_if_eq (tgt := 103) hX dX6_readComment_88 (by decide) rfl (fun zc88 => absurd zc88 ((by decide))) (fun zc88 => ?_)
      refine g_aload_n (i := 0) hX dX6_readComment_91 rfl rfl rfl ?_
      refine g_iload_n (i := 2) hX dX6_readComment_92 rfl rfl rfl ?_
      refine g_iconst hX dX6_readComment_93 ic_1 rfl ?_
      first | refine g_iaddN hX dX6_readComment_94 rfl ?_ | refine g_iadd hX dX6_readComment_94 rfl ?_
      refine g_callVi hX (c_X6_signAt E _ ch L (pMk ch L i + 1) (hT.of rfl rfl) (by omega)) kf_X6_signAt rfl wk_X6_35 rfl rfl rfl rfl rfl dX6_readComment_95 rfl (fun x95 M95 h95 => ?_)
      obtain ⟨rfl, hm⟩ := h95; have hm := hm.symm; subst hm
      refine g_bipush hX dX6_readComment_98 bc_61 rfl ?_
      first | refine g_icmp_eqN (tgt := 105) hX dX6_readComment_100 (by decide) rfl (by omega) (by omega) (fun zc100 => ?_) (fun zc100 => ?_) | refine g_icmp_eq (tgt := 105) hX dX6_readComment_100 (by decide) rfl (fun zc100 => ?_) (fun zc100 => ?_)
      · skip
        refine g_aload_n (i := 0) hX dX6_readComment_105 rfl rfl rfl ?_
        refine g_iload_n (i := 2) hX dX6_readComment_106 rfl rfl rfl ?_
        refine g_iconst hX dX6_readComment_107 ic_2 rfl ?_
        first | refine g_iaddN hX dX6_readComment_108 rfl ?_ | refine g_iadd hX dX6_readComment_108 rfl ?_
        refine g_iconst hX dX6_readComment_109 ic_4 rfl ?_
        refine g_callVi hX (c_X6_digitsAt E _ ch L (pMk ch L i + 2) 4 (hT.of rfl rfl) (by omega) (by omega)) kf_X6_digitsAt rfl wk_X6_25 rfl rfl rfl rfl rfl dX6_readComment_110 rfl (fun x110 M110 h110 => ?_)
        obtain ⟨rfl, hm⟩ := h110; have hm := hm.symm; subst hm
        refine g_istore_n (i := 1) hX dX6_readComment_113 rfl (Nat.le_of_ble_eq_true rfl) rfl ?_
        refine g_aload_n (i := 0) hX dX6_readComment_114 rfl rfl rfl ?_
        refine g_aload_n (i := 0) hX dX6_readComment_115 rfl rfl rfl ?_
        refine g_iload_n (i := 2) hX dX6_readComment_116 rfl rfl rfl ?_
        refine g_iconst hX dX6_readComment_117 ic_2 rfl ?_
        first | refine g_iaddN hX dX6_readComment_118 rfl ?_ | refine g_iadd hX dX6_readComment_118 rfl ?_
        refine g_iload_n (i := 1) hX dX6_readComment_119 rfl rfl rfl ?_
        refine g_callVi hX (c_X6_numberAt E _ ch L (pMk ch L i + 2) (pD2 ch L i) (hT.of rfl rfl) (by omega) (by omega) (fun e he => dgN_dig he)) kf_X6_numberAt rfl wk_X6_29 rfl rfl rfl rfl rfl dX6_readComment_120 rfl (fun x120 M120 h120 => ?_)
        obtain ⟨rfl, hm⟩ := h120; have hm := hm.symm; subst hm
        refine g_putI hX fp_X6_42 rfl rfl dX6_readComment_123 rfl ?_
        refine g_aload_n (i := 0) hX dX6_readComment_126 rfl rfl rfl ?_
        refine g_iload_n (i := 2) hX dX6_readComment_127 rfl rfl rfl ?_
        refine g_iconst hX dX6_readComment_128 ic_2 rfl ?_
        first | refine g_iaddN hX dX6_readComment_129 rfl ?_ | refine g_iadd hX dX6_readComment_129 rfl ?_
        refine g_iload_n (i := 1) hX dX6_readComment_130 rfl rfl rfl ?_
        first | refine g_iaddN hX dX6_readComment_131 rfl ?_ | refine g_iadd hX dX6_readComment_131 rfl ?_
        refine g_iconst hX dX6_readComment_132 ic_1 rfl ?_
        first | refine g_iaddN hX dX6_readComment_133 rfl ?_ | refine g_iadd hX dX6_readComment_133 rfl ?_
        refine g_putI hX fp_X6_22 rfl rfl dX6_readComment_134 rfl ?_
        refine g_iload_n (i := 1) hX dX6_readComment_137 rfl rfl rfl ?_
        refine g_if_le (tgt := 160) hX dX6_readComment_138 (by decide) rfl (fun zc138 => ?_) (fun zc138 => ?_)
        · skip
          have zd138 : ¬ 0 < pD2 ch L i := fun q => nI_nle q (by omega) zc138
          refine g_iconst hX dX6_readComment_160 ic_0 rfl ?_
          refine g_zret hX hR (by first | exact Or.inl rfl | exact Or.inr rfl | exact gB_01 _) dX6_readComment_161 ?_
          first
          | (have zd104 : ¬ sgN ch L (pMk ch L i + 1) = 61 := zc100
             exact ⟨gB_n (pOk_no (fun q => zd104 q.2.2.1)), fun a ha => by simp only [gset, if_neg ha], rfl, rfl, fun q => absurd (pOk_iff.mp q).2.2.1 zd104⟩)
          | (exact ⟨gB_n (pOk_no (fun q => zd84 q.1)), fun a ha => by simp only [gset, if_neg ha], rfl, rfl, fun q => absurd (pOk_iff.mp q).1 zd84⟩)
          | (exact ⟨gB_n (pOk_no (fun q => zd138 q.2.2.2.1)), fun a ha => by simp only [gset, if_neg ha], rfl, rfl, fun q => absurd (pOk_iff.mp q).2.2.2.1 zd138⟩)
          | (have zd153 : ¬ sgN ch L (pMk ch L i + 2 + pD2 ch L i) = 59 := zc153
             exact ⟨gB_n (pOk_no (fun q => zd153 q.2.2.2.2)), fun a ha => by simp only [gset, if_neg ha], rfl, rfl, fun q => absurd (pOk_iff.mp q).2.2.2.2 zd153⟩)
          | (have zd104 : sgN ch L (pMk ch L i + 1) = 61 := by omega
             have zd153 : sgN ch L (pMk ch L i + 2 + pD2 ch L i) = 59 := by omega
             exact ⟨gB_1 (pOk_iff.mpr ⟨zd84, Or.inl ht, zd104, zd138, zd153⟩), fun a ha => by simp only [gset, if_neg ha], rfl, rfl, fun _ => ⟨rfl, rfl, by rw [hkd]; rfl, rfl⟩⟩)
        · skip
          have zd138 : 0 < pD2 ch L i := Nat.pos_of_ne_zero (fun q => zc138 (by show nI (pD2 ch L i) ≤ 0; rw [q]; decide))
          refine g_aload_n (i := 0) hX dX6_readComment_141 rfl rfl rfl ?_
          refine g_aload_n (i := 0) hX dX6_readComment_142 rfl rfl rfl ?_
          refine g_getIv (x := nI (pMk ch L i + 2 + pD2 ch L i + 1)) hX fl_X6_22 rfl rfl (rfl) dX6_readComment_143 rfl ?_
          refine g_iconst hX dX6_readComment_146 ic_1 rfl ?_
          refine g_isubN hX dX6_readComment_147 (by omega) rfl ?_
          refine g_callVi hX (c_X6_signAt E _ ch L (pMk ch L i + 2 + pD2 ch L i) (hT.of rfl rfl) (by omega)) kf_X6_signAt rfl wk_X6_35 rfl rfl rfl rfl rfl dX6_readComment_148 rfl (fun x148 M148 h148 => ?_)
          obtain ⟨rfl, hm⟩ := h148; have hm := hm.symm; subst hm
          refine g_bipush hX dX6_readComment_151 bc_59 rfl ?_
          first | refine g_icmp_neN (tgt := 160) hX dX6_readComment_153 (by decide) rfl (by omega) (by omega) (fun zc153 => ?_) (fun zc153 => ?_) | refine g_icmp_ne (tgt := 160) hX dX6_readComment_153 (by decide) rfl (fun zc153 => ?_) (fun zc153 => ?_)
          · skip
            refine g_iconst hX dX6_readComment_160 ic_0 rfl ?_
            refine g_zret hX hR (by first | exact Or.inl rfl | exact Or.inr rfl | exact gB_01 _) dX6_readComment_161 ?_
            first
            | (have zd104 : ¬ sgN ch L (pMk ch L i + 1) = 61 := zc100
               exact ⟨gB_n (pOk_no (fun q => zd104 q.2.2.1)), fun a ha => by simp only [gset, if_neg ha], rfl, rfl, fun q => absurd (pOk_iff.mp q).2.2.1 zd104⟩)
            | (exact ⟨gB_n (pOk_no (fun q => zd84 q.1)), fun a ha => by simp only [gset, if_neg ha], rfl, rfl, fun q => absurd (pOk_iff.mp q).1 zd84⟩)
            | (exact ⟨gB_n (pOk_no (fun q => zd138 q.2.2.2.1)), fun a ha => by simp only [gset, if_neg ha], rfl, rfl, fun q => absurd (pOk_iff.mp q).2.2.2.1 zd138⟩)
            | (have zd153 : ¬ sgN ch L (pMk ch L i + 2 + pD2 ch L i) = 59 := zc153
               exact ⟨gB_n (pOk_no (fun q => zd153 q.2.2.2.2)), fun a ha => by simp only [gset, if_neg ha], rfl, rfl, fun q => absurd (pOk_iff.mp q).2.2.2.2 zd153⟩)
            | (have zd104 : sgN ch L (pMk ch L i + 1) = 61 := by omega
               have zd153 : sgN ch L (pMk ch L i + 2 + pD2 ch L i) = 59 := by omega
               exact ⟨gB_1 (pOk_iff.mpr ⟨zd84, Or.inl ht, zd104, zd138, zd153⟩), fun a ha => by simp only [gset, if_neg ha], rfl, rfl, fun _ => ⟨rfl, rfl, by rw [hkd]; rfl, rfl⟩⟩)
          · skip
            refine g_iconst hX dX6_readComment_156 ic_1 rfl ?_
            refine g_goto (n := 161) hX dX6_readComment_157 (by decide) ?_
            refine g_zret hX hR (by first | exact Or.inl rfl | exact Or.inr rfl | exact gB_01 _) dX6_readComment_161 ?_
            first
            | (have zd104 : ¬ sgN ch L (pMk ch L i + 1) = 61 := zc100
               exact ⟨gB_n (pOk_no (fun q => zd104 q.2.2.1)), fun a ha => by simp only [gset, if_neg ha], rfl, rfl, fun q => absurd (pOk_iff.mp q).2.2.1 zd104⟩)
            | (exact ⟨gB_n (pOk_no (fun q => zd84 q.1)), fun a ha => by simp only [gset, if_neg ha], rfl, rfl, fun q => absurd (pOk_iff.mp q).1 zd84⟩)
            | (exact ⟨gB_n (pOk_no (fun q => zd138 q.2.2.2.1)), fun a ha => by simp only [gset, if_neg ha], rfl, rfl, fun q => absurd (pOk_iff.mp q).2.2.2.1 zd138⟩)
            | (have zd153 : ¬ sgN ch L (pMk ch L i + 2 + pD2 ch L i) = 59 := zc153
               exact ⟨gB_n (pOk_no (fun q => zd153 q.2.2.2.2)), fun a ha => by simp only [gset, if_neg ha], rfl, rfl, fun q => absurd (pOk_iff.mp q).2.2.2.2 zd153⟩)
            | (have zd104 : sgN ch L (pMk ch L i + 1) = 61 := by omega
               have zd153 : sgN ch L (pMk ch L i + 2 + pD2 ch L i) = 59 := by omega
               exact ⟨gB_1 (pOk_iff.mpr ⟨zd84, Or.inl ht, zd104, zd138, zd153⟩), fun a ha => by simp only [gset, if_neg ha], rfl, rfl, fun _ => ⟨rfl, rfl, by rw [hkd]; rfl, rfl⟩⟩)
      · skip
        refine g_iconst hX dX6_readComment_103 ic_0 rfl ?_
        refine g_zret hX hR (by first | exact Or.inl rfl | exact Or.inr rfl | exact gB_01 _) dX6_readComment_104 ?_
        first
        | (have zd104 : ¬ sgN ch L (pMk ch L i + 1) = 61 := zc100
           exact ⟨gB_n (pOk_no (fun q => zd104 q.2.2.1)), fun a ha => by simp only [gset, if_neg ha], rfl, rfl, fun q => absurd (pOk_iff.mp q).2.2.1 zd104⟩)
        | (exact ⟨gB_n (pOk_no (fun q => zd84 q.1)), fun a ha => by simp only [gset, if_neg ha], rfl, rfl, fun q => absurd (pOk_iff.mp q).1 zd84⟩)
        | (exact ⟨gB_n (pOk_no (fun q => zd138 q.2.2.2.1)), fun a ha => by simp only [gset, if_neg ha], rfl, rfl, fun q => absurd (pOk_iff.mp q).2.2.2.1 zd138⟩)
        | (have zd153 : ¬ sgN ch L (pMk ch L i + 2 + pD2 ch L i) = 59 := zc153
           exact ⟨gB_n (pOk_no (fun q => zd153 q.2.2.2.2)), fun a ha => by simp only [gset, if_neg ha], rfl, rfl, fun q => absurd (pOk_iff.mp q).2.2.2.2 zd153⟩)
        | (have zd104 : sgN ch L (pMk ch L i + 1) = 61 := by omega
           have zd153 : sgN ch L (pMk ch L i + 2 + pD2 ch L i) = 59 := by omega
           exact ⟨gB_1 (pOk_iff.mpr ⟨zd84, Or.inl ht, zd104, zd138, zd153⟩), fun a ha => by simp only [gset, if_neg ha], rfl, rfl, fun _ => ⟨rfl, rfl, by rw [hkd]; rfl, rfl⟩⟩)
  · have hkd : pKd ch L i = 0 := if_neg ht
    refine g_aload_n (i := 0) hX dX6_readComment_0 rfl rfl rfl ?_
    refine g_aload_n (i := 0) hX dX6_readComment_1 rfl rfl rfl ?_
    refine g_getIv (x := nI i) hX fl_X6_22 rfl rfl (hi) dX6_readComment_2 rfl ?_
    refine g_putI hX fp_X6_19 rfl rfl dX6_readComment_5 rfl ?_
    refine g_aload_n (i := 0) hX dX6_readComment_8 rfl rfl rfl ?_
    refine g_aload_n (i := 0) hX dX6_readComment_9 rfl rfl rfl ?_
    refine g_getIv (x := nI i) hX fl_X6_19 rfl rfl (rfl) dX6_readComment_10 rfl ?_
    refine g_iconst hX dX6_readComment_13 ic_2 rfl ?_
    refine g_callVi hX (c_X6_digitsAt E _ ch L i 2 (hT.of rfl rfl) (by omega) (by omega)) kf_X6_digitsAt rfl wk_X6_25 rfl rfl rfl rfl rfl dX6_readComment_14 rfl (fun x14 M14 h14 => ?_)
    obtain ⟨rfl, hm⟩ := h14; have hm := hm.symm; subst hm
    refine g_istore_n (i := 1) hX dX6_readComment_17 rfl (Nat.le_of_ble_eq_true rfl) rfl ?_
    refine g_aload_n (i := 0) hX dX6_readComment_18 rfl rfl rfl ?_
    refine g_getIv (x := nI i) hX fl_X6_19 rfl rfl (rfl) dX6_readComment_19 rfl ?_
    refine g_iload_n (i := 1) hX dX6_readComment_22 rfl rfl rfl ?_
    first | refine g_iaddN hX dX6_readComment_23 rfl ?_ | refine g_iadd hX dX6_readComment_23 rfl ?_
    refine g_istore_n (i := 2) hX dX6_readComment_24 rfl (Nat.le_of_ble_eq_true rfl) rfl ?_
    refine g_aload_n (i := 0) hX dX6_readComment_25 rfl rfl rfl ?_
    refine g_aload_n (i := 0) hX dX6_readComment_26 rfl rfl rfl ?_
    refine g_aload_n (i := 0) hX dX6_readComment_27 rfl rfl rfl ?_
    refine g_getIv (x := nI i) hX fl_X6_19 rfl rfl (rfl) dX6_readComment_28 rfl ?_
    refine g_iload_n (i := 1) hX dX6_readComment_31 rfl rfl rfl ?_
    refine g_callVi hX (c_X6_numberAt E _ ch L i (pD1 ch L i) (hT.of rfl rfl) (by omega) (by omega) (fun e he => dgN_dig he)) kf_X6_numberAt rfl wk_X6_29 rfl rfl rfl rfl rfl dX6_readComment_32 rfl (fun x32 M32 h32 => ?_)
    obtain ⟨rfl, hm⟩ := h32; have hm := hm.symm; subst hm
    refine g_putI hX fp_X6_32 rfl rfl dX6_readComment_35 rfl ?_
    refine g_aload_n (i := 0) hX dX6_readComment_38 rfl rfl rfl ?_
    refine g_aload_n (i := 0) hX dX6_readComment_39 rfl rfl rfl ?_
    refine g_iload_n (i := 2) hX dX6_readComment_40 rfl rfl rfl ?_
    refine g_callVi hX (c_X6_signAt E _ ch L (pMk ch L i) (hT.of rfl rfl) (by omega)) kf_X6_signAt rfl wk_X6_35 rfl rfl rfl rfl rfl dX6_readComment_41 rfl (fun x41 M41 h41 => ?_)
    obtain ⟨rfl, hm⟩ := h41; have hm := hm.symm; subst hm
    refine g_bipush hX dX6_readComment_44 bc_116 rfl ?_
    first | refine g_icmp_neN (tgt := 53) hX dX6_readComment_46 (by decide) rfl (by omega) (by omega) (fun zc46 => ?_) (fun zc46 => absurd zc46 (by omega)) | refine g_icmp_ne (tgt := 53) hX dX6_readComment_46 (by decide) rfl (fun zc46 => ?_) (fun zc46 => absurd zc46 (by omega))
    refine g_iconst hX dX6_readComment_53 ic_0 rfl ?_
    refine g_putI hX fp_X6_39 rfl rfl dX6_readComment_54 rfl ?_
    refine g_aload_n (i := 0) hX dX6_readComment_57 rfl rfl rfl ?_
    refine g_iload_n (i := 2) hX dX6_readComment_58 rfl rfl rfl ?_
    refine g_callVi hX (c_X6_signAt E _ ch L (pMk ch L i) (hT.of rfl rfl) (by omega)) kf_X6_signAt rfl wk_X6_35 rfl rfl rfl rfl rfl dX6_readComment_59 rfl (fun x59 M59 h59 => ?_)
    obtain ⟨rfl, hm⟩ := h59; have hm := hm.symm; subst hm
    refine g_bipush hX dX6_readComment_62 bc_116 rfl ?_
    first | refine g_icmp_eqN (tgt := 77) hX dX6_readComment_64 (by decide) rfl (by omega) (by omega) (fun zc64 => absurd zc64 (by omega)) (fun zc64 => ?_) | refine g_icmp_eq (tgt := 77) hX dX6_readComment_64 (by decide) rfl (fun zc64 => absurd zc64 (by omega)) (fun zc64 => ?_)
    refine g_aload_n (i := 0) hX dX6_readComment_67 rfl rfl rfl ?_
    refine g_iload_n (i := 2) hX dX6_readComment_68 rfl rfl rfl ?_
    refine g_callVi hX (c_X6_signAt E _ ch L (pMk ch L i) (hT.of rfl rfl) (by omega)) kf_X6_signAt rfl wk_X6_35 rfl rfl rfl rfl rfl dX6_readComment_69 rfl (fun x69 M69 h69 => ?_)
    obtain ⟨rfl, hm⟩ := h69; have hm := hm.symm; subst hm
    refine g_bipush hX dX6_readComment_72 bc_101 rfl ?_
    first | refine g_icmp_neN (tgt := 81) hX dX6_readComment_74 (by decide) rfl (by omega) (by omega) (fun zc74 => ?_) (fun zc74 => ?_) | refine g_icmp_ne (tgt := 81) hX dX6_readComment_74 (by decide) rfl (fun zc74 => ?_) (fun zc74 => ?_)
    · skip
      refine g_iconst hX dX6_readComment_81 ic_0 rfl ?_
      refine g_istore_n (i := 3) hX dX6_readComment_82 rfl (Nat.le_of_ble_eq_true rfl) rfl ?_
      refine g_iload_n (i := 1) hX dX6_readComment_83 rfl rfl rfl ?_
      refine g_if_eq (tgt := 103) hX dX6_readComment_84 (by decide) rfl (fun zc84 => ?_) (fun zc84 => ?_)
      · skip
        have zd84 : ¬ 0 < pD1 ch L i := fun q => nI_ne0 q (by omega) zc84
        refine g_iconst hX dX6_readComment_103 ic_0 rfl ?_
        refine g_zret hX hR (by first | exact Or.inl rfl | exact Or.inr rfl | exact gB_01 _) dX6_readComment_104 ?_
        first
        | (have zc0 : ¬ sgN ch L (pMk ch L i) = 101 := zc74
           exact ⟨gB_n (pOk_no (fun q => q.2.1.elim ht zc0)), fun a ha => by simp only [gset, if_neg ha], rfl, rfl, fun q => absurd (pOk_iff.mp q).2.1 (fun q => q.elim ht zc0)⟩)
        | (have zd104 : ¬ sgN ch L (pMk ch L i + 1) = 61 := zc100
           exact ⟨gB_n (pOk_no (fun q => zd104 q.2.2.1)), fun a ha => by simp only [gset, if_neg ha], rfl, rfl, fun q => absurd (pOk_iff.mp q).2.2.1 zd104⟩)
        | (exact ⟨gB_n (pOk_no (fun q => zd84 q.1)), fun a ha => by simp only [gset, if_neg ha], rfl, rfl, fun q => absurd (pOk_iff.mp q).1 zd84⟩)
        | (exact absurd zc88 (by decide))
        | (exact ⟨gB_n (pOk_no (fun q => zd138 q.2.2.2.1)), fun a ha => by simp only [gset, if_neg ha], rfl, rfl, fun q => absurd (pOk_iff.mp q).2.2.2.1 zd138⟩)
        | (have zd153 : ¬ sgN ch L (pMk ch L i + 2 + pD2 ch L i) = 59 := zc153
           exact ⟨gB_n (pOk_no (fun q => zd153 q.2.2.2.2)), fun a ha => by simp only [gset, if_neg ha], rfl, rfl, fun q => absurd (pOk_iff.mp q).2.2.2.2 zd153⟩)
        | (have zd74 : sgN ch L (pMk ch L i) = 101 := by omega
           have zd104 : sgN ch L (pMk ch L i + 1) = 61 := by omega
           have zd153 : sgN ch L (pMk ch L i + 2 + pD2 ch L i) = 59 := by omega
           exact ⟨gB_1 (pOk_iff.mpr ⟨zd84, Or.inr zd74, zd104, zd138, zd153⟩), fun a ha => by simp only [gset, if_neg ha], rfl, rfl, fun _ => ⟨rfl, rfl, by rw [hkd]; rfl, rfl⟩⟩)
      · skip
        have zd84 : 0 < pD1 ch L i := Nat.pos_of_ne_zero (fun q => zc84 (by show nI (pD1 ch L i) = 0; rw [q]; rfl))
        refine g_iload_n (i := 3) hX dX6_readComment_87 rfl rfl rfl ?_
        refine g_if_eq (tgt := 103) hX dX6_readComment_88 (by decide) rfl (fun zc88 => ?_) (fun zc88 => ?_)
        · skip
          refine g_iconst hX dX6_readComment_103 ic_0 rfl ?_
          refine g_zret hX hR (by first | exact Or.inl rfl | exact Or.inr rfl | exact gB_01 _) dX6_readComment_104 ?_
          first
          | (have zc0 : ¬ sgN ch L (pMk ch L i) = 101 := zc74
             exact ⟨gB_n (pOk_no (fun q => q.2.1.elim ht zc0)), fun a ha => by simp only [gset, if_neg ha], rfl, rfl, fun q => absurd (pOk_iff.mp q).2.1 (fun q => q.elim ht zc0)⟩)
          | (have zd104 : ¬ sgN ch L (pMk ch L i + 1) = 61 := zc100
             exact ⟨gB_n (pOk_no (fun q => zd104 q.2.2.1)), fun a ha => by simp only [gset, if_neg ha], rfl, rfl, fun q => absurd (pOk_iff.mp q).2.2.1 zd104⟩)
          | (exact ⟨gB_n (pOk_no (fun q => zd84 q.1)), fun a ha => by simp only [gset, if_neg ha], rfl, rfl, fun q => absurd (pOk_iff.mp q).1 zd84⟩)
          | (exact absurd zc88 (by decide))
          | (exact ⟨gB_n (pOk_no (fun q => zd138 q.2.2.2.1)), fun a ha => by simp only [gset, if_neg ha], rfl, rfl, fun q => absurd (pOk_iff.mp q).2.2.2.1 zd138⟩)
          | (have zd153 : ¬ sgN ch L (pMk ch L i + 2 + pD2 ch L i) = 59 := zc153
             exact ⟨gB_n (pOk_no (fun q => zd153 q.2.2.2.2)), fun a ha => by simp only [gset, if_neg ha], rfl, rfl, fun q => absurd (pOk_iff.mp q).2.2.2.2 zd153⟩)
          | (have zd74 : sgN ch L (pMk ch L i) = 101 := by omega
             have zd104 : sgN ch L (pMk ch L i + 1) = 61 := by omega
             have zd153 : sgN ch L (pMk ch L i + 2 + pD2 ch L i) = 59 := by omega
             exact ⟨gB_1 (pOk_iff.mpr ⟨zd84, Or.inr zd74, zd104, zd138, zd153⟩), fun a ha => by simp only [gset, if_neg ha], rfl, rfl, fun _ => ⟨rfl, rfl, by rw [hkd]; rfl, rfl⟩⟩)
        · skip
          refine g_aload_n (i := 0) hX dX6_readComment_91 rfl rfl rfl ?_
          refine g_iload_n (i := 2) hX dX6_readComment_92 rfl rfl rfl ?_
          refine g_iconst hX dX6_readComment_93 ic_1 rfl ?_
          first | refine g_iaddN hX dX6_readComment_94 rfl ?_ | refine g_iadd hX dX6_readComment_94 rfl ?_
          refine g_callVi hX (c_X6_signAt E _ ch L (pMk ch L i + 1) (hT.of rfl rfl) (by omega)) kf_X6_signAt rfl wk_X6_35 rfl rfl rfl rfl rfl dX6_readComment_95 rfl (fun x95 M95 h95 => ?_)
          obtain ⟨rfl, hm⟩ := h95; have hm := hm.symm; subst hm
          refine g_bipush hX dX6_readComment_98 bc_61 rfl ?_
          first | refine g_icmp_eqN (tgt := 105) hX dX6_readComment_100 (by decide) rfl (by omega) (by omega) (fun zc100 => ?_) (fun zc100 => ?_) | refine g_icmp_eq (tgt := 105) hX dX6_readComment_100 (by decide) rfl (fun zc100 => ?_) (fun zc100 => ?_)
          · skip
            refine g_aload_n (i := 0) hX dX6_readComment_105 rfl rfl rfl ?_
            refine g_iload_n (i := 2) hX dX6_readComment_106 rfl rfl rfl ?_
            refine g_iconst hX dX6_readComment_107 ic_2 rfl ?_
            first | refine g_iaddN hX dX6_readComment_108 rfl ?_ | refine g_iadd hX dX6_readComment_108 rfl ?_
            refine g_iconst hX dX6_readComment_109 ic_4 rfl ?_
            refine g_callVi hX (c_X6_digitsAt E _ ch L (pMk ch L i + 2) 4 (hT.of rfl rfl) (by omega) (by omega)) kf_X6_digitsAt rfl wk_X6_25 rfl rfl rfl rfl rfl dX6_readComment_110 rfl (fun x110 M110 h110 => ?_)
            obtain ⟨rfl, hm⟩ := h110; have hm := hm.symm; subst hm
            refine g_istore_n (i := 1) hX dX6_readComment_113 rfl (Nat.le_of_ble_eq_true rfl) rfl ?_
            refine g_aload_n (i := 0) hX dX6_readComment_114 rfl rfl rfl ?_
            refine g_aload_n (i := 0) hX dX6_readComment_115 rfl rfl rfl ?_
            refine g_iload_n (i := 2) hX dX6_readComment_116 rfl rfl rfl ?_
            refine g_iconst hX dX6_readComment_117 ic_2 rfl ?_
            first | refine g_iaddN hX dX6_readComment_118 rfl ?_ | refine g_iadd hX dX6_readComment_118 rfl ?_
            refine g_iload_n (i := 1) hX dX6_readComment_119 rfl rfl rfl ?_
            refine g_callVi hX (c_X6_numberAt E _ ch L (pMk ch L i + 2) (pD2 ch L i) (hT.of rfl rfl) (by omega) (by omega) (fun e he => dgN_dig he)) kf_X6_numberAt rfl wk_X6_29 rfl rfl rfl rfl rfl dX6_readComment_120 rfl (fun x120 M120 h120 => ?_)
            obtain ⟨rfl, hm⟩ := h120; have hm := hm.symm; subst hm
            refine g_putI hX fp_X6_42 rfl rfl dX6_readComment_123 rfl ?_
            refine g_aload_n (i := 0) hX dX6_readComment_126 rfl rfl rfl ?_
            refine g_iload_n (i := 2) hX dX6_readComment_127 rfl rfl rfl ?_
            refine g_iconst hX dX6_readComment_128 ic_2 rfl ?_
            first | refine g_iaddN hX dX6_readComment_129 rfl ?_ | refine g_iadd hX dX6_readComment_129 rfl ?_
            refine g_iload_n (i := 1) hX dX6_readComment_130 rfl rfl rfl ?_
            first | refine g_iaddN hX dX6_readComment_131 rfl ?_ | refine g_iadd hX dX6_readComment_131 rfl ?_
            refine g_iconst hX dX6_readComment_132 ic_1 rfl ?_
            first | refine g_iaddN hX dX6_readComment_133 rfl ?_ | refine g_iadd hX dX6_readComment_133 rfl ?_
            refine g_putI hX fp_X6_22 rfl rfl dX6_readComment_134 rfl ?_
            refine g_iload_n (i := 1) hX dX6_readComment_137 rfl rfl rfl ?_
            refine g_if_le (tgt := 160) hX dX6_readComment_138 (by decide) rfl (fun zc138 => ?_) (fun zc138 => ?_)
            · skip
              have zd138 : ¬ 0 < pD2 ch L i := fun q => nI_nle q (by omega) zc138
              refine g_iconst hX dX6_readComment_160 ic_0 rfl ?_
              refine g_zret hX hR (by first | exact Or.inl rfl | exact Or.inr rfl | exact gB_01 _) dX6_readComment_161 ?_
              first
              | (have zc0 : ¬ sgN ch L (pMk ch L i) = 101 := zc74
                 exact ⟨gB_n (pOk_no (fun q => q.2.1.elim ht zc0)), fun a ha => by simp only [gset, if_neg ha], rfl, rfl, fun q => absurd (pOk_iff.mp q).2.1 (fun q => q.elim ht zc0)⟩)
              | (have zd104 : ¬ sgN ch L (pMk ch L i + 1) = 61 := zc100
                 exact ⟨gB_n (pOk_no (fun q => zd104 q.2.2.1)), fun a ha => by simp only [gset, if_neg ha], rfl, rfl, fun q => absurd (pOk_iff.mp q).2.2.1 zd104⟩)
              | (exact ⟨gB_n (pOk_no (fun q => zd84 q.1)), fun a ha => by simp only [gset, if_neg ha], rfl, rfl, fun q => absurd (pOk_iff.mp q).1 zd84⟩)
              | (exact absurd zc88 (by decide))
              | (exact ⟨gB_n (pOk_no (fun q => zd138 q.2.2.2.1)), fun a ha => by simp only [gset, if_neg ha], rfl, rfl, fun q => absurd (pOk_iff.mp q).2.2.2.1 zd138⟩)
              | (have zd153 : ¬ sgN ch L (pMk ch L i + 2 + pD2 ch L i) = 59 := zc153
                 exact ⟨gB_n (pOk_no (fun q => zd153 q.2.2.2.2)), fun a ha => by simp only [gset, if_neg ha], rfl, rfl, fun q => absurd (pOk_iff.mp q).2.2.2.2 zd153⟩)
              | (have zd74 : sgN ch L (pMk ch L i) = 101 := by omega
                 have zd104 : sgN ch L (pMk ch L i + 1) = 61 := by omega
                 have zd153 : sgN ch L (pMk ch L i + 2 + pD2 ch L i) = 59 := by omega
                 exact ⟨gB_1 (pOk_iff.mpr ⟨zd84, Or.inr zd74, zd104, zd138, zd153⟩), fun a ha => by simp only [gset, if_neg ha], rfl, rfl, fun _ => ⟨rfl, rfl, by rw [hkd]; rfl, rfl⟩⟩)
            · skip
              have zd138 : 0 < pD2 ch L i := Nat.pos_of_ne_zero (fun q => zc138 (by show nI (pD2 ch L i) ≤ 0; rw [q]; decide))
              refine g_aload_n (i := 0) hX dX6_readComment_141 rfl rfl rfl ?_
              refine g_aload_n (i := 0) hX dX6_readComment_142 rfl rfl rfl ?_
              refine g_getIv (x := nI (pMk ch L i + 2 + pD2 ch L i + 1)) hX fl_X6_22 rfl rfl (rfl) dX6_readComment_143 rfl ?_
              refine g_iconst hX dX6_readComment_146 ic_1 rfl ?_
              refine g_isubN hX dX6_readComment_147 (by omega) rfl ?_
              refine g_callVi hX (c_X6_signAt E _ ch L (pMk ch L i + 2 + pD2 ch L i) (hT.of rfl rfl) (by omega)) kf_X6_signAt rfl wk_X6_35 rfl rfl rfl rfl rfl dX6_readComment_148 rfl (fun x148 M148 h148 => ?_)
              obtain ⟨rfl, hm⟩ := h148; have hm := hm.symm; subst hm
              refine g_bipush hX dX6_readComment_151 bc_59 rfl ?_
              first | refine g_icmp_neN (tgt := 160) hX dX6_readComment_153 (by decide) rfl (by omega) (by omega) (fun zc153 => ?_) (fun zc153 => ?_) | refine g_icmp_ne (tgt := 160) hX dX6_readComment_153 (by decide) rfl (fun zc153 => ?_) (fun zc153 => ?_)
              · skip
                refine g_iconst hX dX6_readComment_160 ic_0 rfl ?_
                refine g_zret hX hR (by first | exact Or.inl rfl | exact Or.inr rfl | exact gB_01 _) dX6_readComment_161 ?_
                first
                | (have zc0 : ¬ sgN ch L (pMk ch L i) = 101 := zc74
                   exact ⟨gB_n (pOk_no (fun q => q.2.1.elim ht zc0)), fun a ha => by simp only [gset, if_neg ha], rfl, rfl, fun q => absurd (pOk_iff.mp q).2.1 (fun q => q.elim ht zc0)⟩)
                | (have zd104 : ¬ sgN ch L (pMk ch L i + 1) = 61 := zc100
                   exact ⟨gB_n (pOk_no (fun q => zd104 q.2.2.1)), fun a ha => by simp only [gset, if_neg ha], rfl, rfl, fun q => absurd (pOk_iff.mp q).2.2.1 zd104⟩)
                | (exact ⟨gB_n (pOk_no (fun q => zd84 q.1)), fun a ha => by simp only [gset, if_neg ha], rfl, rfl, fun q => absurd (pOk_iff.mp q).1 zd84⟩)
                | (exact absurd zc88 (by decide))
                | (exact ⟨gB_n (pOk_no (fun q => zd138 q.2.2.2.1)), fun a ha => by simp only [gset, if_neg ha], rfl, rfl, fun q => absurd (pOk_iff.mp q).2.2.2.1 zd138⟩)
                | (have zd153 : ¬ sgN ch L (pMk ch L i + 2 + pD2 ch L i) = 59 := zc153
                   exact ⟨gB_n (pOk_no (fun q => zd153 q.2.2.2.2)), fun a ha => by simp only [gset, if_neg ha], rfl, rfl, fun q => absurd (pOk_iff.mp q).2.2.2.2 zd153⟩)
                | (have zd74 : sgN ch L (pMk ch L i) = 101 := by omega
                   have zd104 : sgN ch L (pMk ch L i + 1) = 61 := by omega
                   have zd153 : sgN ch L (pMk ch L i + 2 + pD2 ch L i) = 59 := by omega
                   exact ⟨gB_1 (pOk_iff.mpr ⟨zd84, Or.inr zd74, zd104, zd138, zd153⟩), fun a ha => by simp only [gset, if_neg ha], rfl, rfl, fun _ => ⟨rfl, rfl, by rw [hkd]; rfl, rfl⟩⟩)
              · skip
                refine g_iconst hX dX6_readComment_156 ic_1 rfl ?_
                refine g_goto (n := 161) hX dX6_readComment_157 (by decide) ?_
                refine g_zret hX hR (by first | exact Or.inl rfl | exact Or.inr rfl | exact gB_01 _) dX6_readComment_161 ?_
                first
                | (have zc0 : ¬ sgN ch L (pMk ch L i) = 101 := zc74
                   exact ⟨gB_n (pOk_no (fun q => q.2.1.elim ht zc0)), fun a ha => by simp only [gset, if_neg ha], rfl, rfl, fun q => absurd (pOk_iff.mp q).2.1 (fun q => q.elim ht zc0)⟩)
                | (have zd104 : ¬ sgN ch L (pMk ch L i + 1) = 61 := zc100
                   exact ⟨gB_n (pOk_no (fun q => zd104 q.2.2.1)), fun a ha => by simp only [gset, if_neg ha], rfl, rfl, fun q => absurd (pOk_iff.mp q).2.2.1 zd104⟩)
                | (exact ⟨gB_n (pOk_no (fun q => zd84 q.1)), fun a ha => by simp only [gset, if_neg ha], rfl, rfl, fun q => absurd (pOk_iff.mp q).1 zd84⟩)
                | (exact absurd zc88 (by decide))
                | (exact ⟨gB_n (pOk_no (fun q => zd138 q.2.2.2.1)), fun a ha => by simp only [gset, if_neg ha], rfl, rfl, fun q => absurd (pOk_iff.mp q).2.2.2.1 zd138⟩)
                | (have zd153 : ¬ sgN ch L (pMk ch L i + 2 + pD2 ch L i) = 59 := zc153
                   exact ⟨gB_n (pOk_no (fun q => zd153 q.2.2.2.2)), fun a ha => by simp only [gset, if_neg ha], rfl, rfl, fun q => absurd (pOk_iff.mp q).2.2.2.2 zd153⟩)
                | (have zd74 : sgN ch L (pMk ch L i) = 101 := by omega
                   have zd104 : sgN ch L (pMk ch L i + 1) = 61 := by omega
                   have zd153 : sgN ch L (pMk ch L i + 2 + pD2 ch L i) = 59 := by omega
                   exact ⟨gB_1 (pOk_iff.mpr ⟨zd84, Or.inr zd74, zd104, zd138, zd153⟩), fun a ha => by simp only [gset, if_neg ha], rfl, rfl, fun _ => ⟨rfl, rfl, by rw [hkd]; rfl, rfl⟩⟩)
          · skip
            refine g_iconst hX dX6_readComment_103 ic_0 rfl ?_
            refine g_zret hX hR (by first | exact Or.inl rfl | exact Or.inr rfl | exact gB_01 _) dX6_readComment_104 ?_
            first
            | (have zc0 : ¬ sgN ch L (pMk ch L i) = 101 := zc74
               exact ⟨gB_n (pOk_no (fun q => q.2.1.elim ht zc0)), fun a ha => by simp only [gset, if_neg ha], rfl, rfl, fun q => absurd (pOk_iff.mp q).2.1 (fun q => q.elim ht zc0)⟩)
            | (have zd104 : ¬ sgN ch L (pMk ch L i + 1) = 61 := zc100
               exact ⟨gB_n (pOk_no (fun q => zd104 q.2.2.1)), fun a ha => by simp only [gset, if_neg ha], rfl, rfl, fun q => absurd (pOk_iff.mp q).2.2.1 zd104⟩)
            | (exact ⟨gB_n (pOk_no (fun q => zd84 q.1)), fun a ha => by simp only [gset, if_neg ha], rfl, rfl, fun q => absurd (pOk_iff.mp q).1 zd84⟩)
            | (exact absurd zc88 (by decide))
            | (exact ⟨gB_n (pOk_no (fun q => zd138 q.2.2.2.1)), fun a ha => by simp only [gset, if_neg ha], rfl, rfl, fun q => absurd (pOk_iff.mp q).2.2.2.1 zd138⟩)
            | (have zd153 : ¬ sgN ch L (pMk ch L i + 2 + pD2 ch L i) = 59 := zc153
               exact ⟨gB_n (pOk_no (fun q => zd153 q.2.2.2.2)), fun a ha => by simp only [gset, if_neg ha], rfl, rfl, fun q => absurd (pOk_iff.mp q).2.2.2.2 zd153⟩)
            | (have zd74 : sgN ch L (pMk ch L i) = 101 := by omega
               have zd104 : sgN ch L (pMk ch L i + 1) = 61 := by omega
               have zd153 : sgN ch L (pMk ch L i + 2 + pD2 ch L i) = 59 := by omega
               exact ⟨gB_1 (pOk_iff.mpr ⟨zd84, Or.inr zd74, zd104, zd138, zd153⟩), fun a ha => by simp only [gset, if_neg ha], rfl, rfl, fun _ => ⟨rfl, rfl, by rw [hkd]; rfl, rfl⟩⟩)
    · skip
      refine g_iconst hX dX6_readComment_77 ic_1 rfl ?_
      refine g_goto (n := 82) hX dX6_readComment_78 (by decide) ?_
      refine g_istore_n (i := 3) hX dX6_readComment_82 rfl (Nat.le_of_ble_eq_true rfl) rfl ?_
      refine g_iload_n (i := 1) hX dX6_readComment_83 rfl rfl rfl ?_
      refine g_if_eq (tgt := 103) hX dX6_readComment_84 (by decide) rfl (fun zc84 => ?_) (fun zc84 => ?_)
      · skip
        have zd84 : ¬ 0 < pD1 ch L i := fun q => nI_ne0 q (by omega) zc84
        refine g_iconst hX dX6_readComment_103 ic_0 rfl ?_
        refine g_zret hX hR (by first | exact Or.inl rfl | exact Or.inr rfl | exact gB_01 _) dX6_readComment_104 ?_
        first
        | (have zc0 : ¬ sgN ch L (pMk ch L i) = 101 := zc74
           exact ⟨gB_n (pOk_no (fun q => q.2.1.elim ht zc0)), fun a ha => by simp only [gset, if_neg ha], rfl, rfl, fun q => absurd (pOk_iff.mp q).2.1 (fun q => q.elim ht zc0)⟩)
        | (have zd104 : ¬ sgN ch L (pMk ch L i + 1) = 61 := zc100
           exact ⟨gB_n (pOk_no (fun q => zd104 q.2.2.1)), fun a ha => by simp only [gset, if_neg ha], rfl, rfl, fun q => absurd (pOk_iff.mp q).2.2.1 zd104⟩)
        | (exact ⟨gB_n (pOk_no (fun q => zd84 q.1)), fun a ha => by simp only [gset, if_neg ha], rfl, rfl, fun q => absurd (pOk_iff.mp q).1 zd84⟩)
        | (exact absurd zc88 (by decide))
        | (exact ⟨gB_n (pOk_no (fun q => zd138 q.2.2.2.1)), fun a ha => by simp only [gset, if_neg ha], rfl, rfl, fun q => absurd (pOk_iff.mp q).2.2.2.1 zd138⟩)
        | (have zd153 : ¬ sgN ch L (pMk ch L i + 2 + pD2 ch L i) = 59 := zc153
           exact ⟨gB_n (pOk_no (fun q => zd153 q.2.2.2.2)), fun a ha => by simp only [gset, if_neg ha], rfl, rfl, fun q => absurd (pOk_iff.mp q).2.2.2.2 zd153⟩)
        | (have zd74 : sgN ch L (pMk ch L i) = 101 := by omega
           have zd104 : sgN ch L (pMk ch L i + 1) = 61 := by omega
           have zd153 : sgN ch L (pMk ch L i + 2 + pD2 ch L i) = 59 := by omega
           exact ⟨gB_1 (pOk_iff.mpr ⟨zd84, Or.inr zd74, zd104, zd138, zd153⟩), fun a ha => by simp only [gset, if_neg ha], rfl, rfl, fun _ => ⟨rfl, rfl, by rw [hkd]; rfl, rfl⟩⟩)
      · skip
        have zd84 : 0 < pD1 ch L i := Nat.pos_of_ne_zero (fun q => zc84 (by show nI (pD1 ch L i) = 0; rw [q]; rfl))
        refine g_iload_n (i := 3) hX dX6_readComment_87 rfl rfl rfl ?_
        refine g_if_eq (tgt := 103) hX dX6_readComment_88 (by decide) rfl (fun zc88 => ?_) (fun zc88 => ?_)
        · skip
          refine g_iconst hX dX6_readComment_103 ic_0 rfl ?_
          refine g_zret hX hR (by first | exact Or.inl rfl | exact Or.inr rfl | exact gB_01 _) dX6_readComment_104 ?_
          first
          | (have zc0 : ¬ sgN ch L (pMk ch L i) = 101 := zc74
             exact ⟨gB_n (pOk_no (fun q => q.2.1.elim ht zc0)), fun a ha => by simp only [gset, if_neg ha], rfl, rfl, fun q => absurd (pOk_iff.mp q).2.1 (fun q => q.elim ht zc0)⟩)
          | (have zd104 : ¬ sgN ch L (pMk ch L i + 1) = 61 := zc100
             exact ⟨gB_n (pOk_no (fun q => zd104 q.2.2.1)), fun a ha => by simp only [gset, if_neg ha], rfl, rfl, fun q => absurd (pOk_iff.mp q).2.2.1 zd104⟩)
          | (exact ⟨gB_n (pOk_no (fun q => zd84 q.1)), fun a ha => by simp only [gset, if_neg ha], rfl, rfl, fun q => absurd (pOk_iff.mp q).1 zd84⟩)
          | (exact absurd zc88 (by decide))
          | (exact ⟨gB_n (pOk_no (fun q => zd138 q.2.2.2.1)), fun a ha => by simp only [gset, if_neg ha], rfl, rfl, fun q => absurd (pOk_iff.mp q).2.2.2.1 zd138⟩)
          | (have zd153 : ¬ sgN ch L (pMk ch L i + 2 + pD2 ch L i) = 59 := zc153
             exact ⟨gB_n (pOk_no (fun q => zd153 q.2.2.2.2)), fun a ha => by simp only [gset, if_neg ha], rfl, rfl, fun q => absurd (pOk_iff.mp q).2.2.2.2 zd153⟩)
          | (have zd74 : sgN ch L (pMk ch L i) = 101 := by omega
             have zd104 : sgN ch L (pMk ch L i + 1) = 61 := by omega
             have zd153 : sgN ch L (pMk ch L i + 2 + pD2 ch L i) = 59 := by omega
             exact ⟨gB_1 (pOk_iff.mpr ⟨zd84, Or.inr zd74, zd104, zd138, zd153⟩), fun a ha => by simp only [gset, if_neg ha], rfl, rfl, fun _ => ⟨rfl, rfl, by rw [hkd]; rfl, rfl⟩⟩)
        · skip
          refine g_aload_n (i := 0) hX dX6_readComment_91 rfl rfl rfl ?_
          refine g_iload_n (i := 2) hX dX6_readComment_92 rfl rfl rfl ?_
          refine g_iconst hX dX6_readComment_93 ic_1 rfl ?_
          first | refine g_iaddN hX dX6_readComment_94 rfl ?_ | refine g_iadd hX dX6_readComment_94 rfl ?_
          refine g_callVi hX (c_X6_signAt E _ ch L (pMk ch L i + 1) (hT.of rfl rfl) (by omega)) kf_X6_signAt rfl wk_X6_35 rfl rfl rfl rfl rfl dX6_readComment_95 rfl (fun x95 M95 h95 => ?_)
          obtain ⟨rfl, hm⟩ := h95; have hm := hm.symm; subst hm
          refine g_bipush hX dX6_readComment_98 bc_61 rfl ?_
          first | refine g_icmp_eqN (tgt := 105) hX dX6_readComment_100 (by decide) rfl (by omega) (by omega) (fun zc100 => ?_) (fun zc100 => ?_) | refine g_icmp_eq (tgt := 105) hX dX6_readComment_100 (by decide) rfl (fun zc100 => ?_) (fun zc100 => ?_)
          · skip
            refine g_aload_n (i := 0) hX dX6_readComment_105 rfl rfl rfl ?_
            refine g_iload_n (i := 2) hX dX6_readComment_106 rfl rfl rfl ?_
            refine g_iconst hX dX6_readComment_107 ic_2 rfl ?_
            first | refine g_iaddN hX dX6_readComment_108 rfl ?_ | refine g_iadd hX dX6_readComment_108 rfl ?_
            refine g_iconst hX dX6_readComment_109 ic_4 rfl ?_
            refine g_callVi hX (c_X6_digitsAt E _ ch L (pMk ch L i + 2) 4 (hT.of rfl rfl) (by omega) (by omega)) kf_X6_digitsAt rfl wk_X6_25 rfl rfl rfl rfl rfl dX6_readComment_110 rfl (fun x110 M110 h110 => ?_)
            obtain ⟨rfl, hm⟩ := h110; have hm := hm.symm; subst hm
            refine g_istore_n (i := 1) hX dX6_readComment_113 rfl (Nat.le_of_ble_eq_true rfl) rfl ?_
            refine g_aload_n (i := 0) hX dX6_readComment_114 rfl rfl rfl ?_
            refine g_aload_n (i := 0) hX dX6_readComment_115 rfl rfl rfl ?_
            refine g_iload_n (i := 2) hX dX6_readComment_116 rfl rfl rfl ?_
            refine g_iconst hX dX6_readComment_117 ic_2 rfl ?_
            first | refine g_iaddN hX dX6_readComment_118 rfl ?_ | refine g_iadd hX dX6_readComment_118 rfl ?_
            refine g_iload_n (i := 1) hX dX6_readComment_119 rfl rfl rfl ?_
            refine g_callVi hX (c_X6_numberAt E _ ch L (pMk ch L i + 2) (pD2 ch L i) (hT.of rfl rfl) (by omega) (by omega) (fun e he => dgN_dig he)) kf_X6_numberAt rfl wk_X6_29 rfl rfl rfl rfl rfl dX6_readComment_120 rfl (fun x120 M120 h120 => ?_)
            obtain ⟨rfl, hm⟩ := h120; have hm := hm.symm; subst hm
            refine g_putI hX fp_X6_42 rfl rfl dX6_readComment_123 rfl ?_
            refine g_aload_n (i := 0) hX dX6_readComment_126 rfl rfl rfl ?_
            refine g_iload_n (i := 2) hX dX6_readComment_127 rfl rfl rfl ?_
            refine g_iconst hX dX6_readComment_128 ic_2 rfl ?_
            first | refine g_iaddN hX dX6_readComment_129 rfl ?_ | refine g_iadd hX dX6_readComment_129 rfl ?_
            refine g_iload_n (i := 1) hX dX6_readComment_130 rfl rfl rfl ?_
            first | refine g_iaddN hX dX6_readComment_131 rfl ?_ | refine g_iadd hX dX6_readComment_131 rfl ?_
            refine g_iconst hX dX6_readComment_132 ic_1 rfl ?_
            first | refine g_iaddN hX dX6_readComment_133 rfl ?_ | refine g_iadd hX dX6_readComment_133 rfl ?_
            refine g_putI hX fp_X6_22 rfl rfl dX6_readComment_134 rfl ?_
            refine g_iload_n (i := 1) hX dX6_readComment_137 rfl rfl rfl ?_
            refine g_if_le (tgt := 160) hX dX6_readComment_138 (by decide) rfl (fun zc138 => ?_) (fun zc138 => ?_)
            · skip
              have zd138 : ¬ 0 < pD2 ch L i := fun q => nI_nle q (by omega) zc138
              refine g_iconst hX dX6_readComment_160 ic_0 rfl ?_
              refine g_zret hX hR (by first | exact Or.inl rfl | exact Or.inr rfl | exact gB_01 _) dX6_readComment_161 ?_
              first
              | (have zc0 : ¬ sgN ch L (pMk ch L i) = 101 := zc74
                 exact ⟨gB_n (pOk_no (fun q => q.2.1.elim ht zc0)), fun a ha => by simp only [gset, if_neg ha], rfl, rfl, fun q => absurd (pOk_iff.mp q).2.1 (fun q => q.elim ht zc0)⟩)
              | (have zd104 : ¬ sgN ch L (pMk ch L i + 1) = 61 := zc100
                 exact ⟨gB_n (pOk_no (fun q => zd104 q.2.2.1)), fun a ha => by simp only [gset, if_neg ha], rfl, rfl, fun q => absurd (pOk_iff.mp q).2.2.1 zd104⟩)
              | (exact ⟨gB_n (pOk_no (fun q => zd84 q.1)), fun a ha => by simp only [gset, if_neg ha], rfl, rfl, fun q => absurd (pOk_iff.mp q).1 zd84⟩)
              | (exact absurd zc88 (by decide))
              | (exact ⟨gB_n (pOk_no (fun q => zd138 q.2.2.2.1)), fun a ha => by simp only [gset, if_neg ha], rfl, rfl, fun q => absurd (pOk_iff.mp q).2.2.2.1 zd138⟩)
              | (have zd153 : ¬ sgN ch L (pMk ch L i + 2 + pD2 ch L i) = 59 := zc153
                 exact ⟨gB_n (pOk_no (fun q => zd153 q.2.2.2.2)), fun a ha => by simp only [gset, if_neg ha], rfl, rfl, fun q => absurd (pOk_iff.mp q).2.2.2.2 zd153⟩)
              | (have zd74 : sgN ch L (pMk ch L i) = 101 := by omega
                 have zd104 : sgN ch L (pMk ch L i + 1) = 61 := by omega
                 have zd153 : sgN ch L (pMk ch L i + 2 + pD2 ch L i) = 59 := by omega
                 exact ⟨gB_1 (pOk_iff.mpr ⟨zd84, Or.inr zd74, zd104, zd138, zd153⟩), fun a ha => by simp only [gset, if_neg ha], rfl, rfl, fun _ => ⟨rfl, rfl, by rw [hkd]; rfl, rfl⟩⟩)
            · skip
              have zd138 : 0 < pD2 ch L i := Nat.pos_of_ne_zero (fun q => zc138 (by show nI (pD2 ch L i) ≤ 0; rw [q]; decide))
              refine g_aload_n (i := 0) hX dX6_readComment_141 rfl rfl rfl ?_
              refine g_aload_n (i := 0) hX dX6_readComment_142 rfl rfl rfl ?_
              refine g_getIv (x := nI (pMk ch L i + 2 + pD2 ch L i + 1)) hX fl_X6_22 rfl rfl (rfl) dX6_readComment_143 rfl ?_
              refine g_iconst hX dX6_readComment_146 ic_1 rfl ?_
              refine g_isubN hX dX6_readComment_147 (by omega) rfl ?_
              refine g_callVi hX (c_X6_signAt E _ ch L (pMk ch L i + 2 + pD2 ch L i) (hT.of rfl rfl) (by omega)) kf_X6_signAt rfl wk_X6_35 rfl rfl rfl rfl rfl dX6_readComment_148 rfl (fun x148 M148 h148 => ?_)
              obtain ⟨rfl, hm⟩ := h148; have hm := hm.symm; subst hm
              refine g_bipush hX dX6_readComment_151 bc_59 rfl ?_
              first | refine g_icmp_neN (tgt := 160) hX dX6_readComment_153 (by decide) rfl (by omega) (by omega) (fun zc153 => ?_) (fun zc153 => ?_) | refine g_icmp_ne (tgt := 160) hX dX6_readComment_153 (by decide) rfl (fun zc153 => ?_) (fun zc153 => ?_)
              · skip
                refine g_iconst hX dX6_readComment_160 ic_0 rfl ?_
                refine g_zret hX hR (by first | exact Or.inl rfl | exact Or.inr rfl | exact gB_01 _) dX6_readComment_161 ?_
                first
                | (have zc0 : ¬ sgN ch L (pMk ch L i) = 101 := zc74
                   exact ⟨gB_n (pOk_no (fun q => q.2.1.elim ht zc0)), fun a ha => by simp only [gset, if_neg ha], rfl, rfl, fun q => absurd (pOk_iff.mp q).2.1 (fun q => q.elim ht zc0)⟩)
                | (have zd104 : ¬ sgN ch L (pMk ch L i + 1) = 61 := zc100
                   exact ⟨gB_n (pOk_no (fun q => zd104 q.2.2.1)), fun a ha => by simp only [gset, if_neg ha], rfl, rfl, fun q => absurd (pOk_iff.mp q).2.2.1 zd104⟩)
                | (exact ⟨gB_n (pOk_no (fun q => zd84 q.1)), fun a ha => by simp only [gset, if_neg ha], rfl, rfl, fun q => absurd (pOk_iff.mp q).1 zd84⟩)
                | (exact absurd zc88 (by decide))
                | (exact ⟨gB_n (pOk_no (fun q => zd138 q.2.2.2.1)), fun a ha => by simp only [gset, if_neg ha], rfl, rfl, fun q => absurd (pOk_iff.mp q).2.2.2.1 zd138⟩)
                | (have zd153 : ¬ sgN ch L (pMk ch L i + 2 + pD2 ch L i) = 59 := zc153
                   exact ⟨gB_n (pOk_no (fun q => zd153 q.2.2.2.2)), fun a ha => by simp only [gset, if_neg ha], rfl, rfl, fun q => absurd (pOk_iff.mp q).2.2.2.2 zd153⟩)
                | (have zd74 : sgN ch L (pMk ch L i) = 101 := by omega
                   have zd104 : sgN ch L (pMk ch L i + 1) = 61 := by omega
                   have zd153 : sgN ch L (pMk ch L i + 2 + pD2 ch L i) = 59 := by omega
                   exact ⟨gB_1 (pOk_iff.mpr ⟨zd84, Or.inr zd74, zd104, zd138, zd153⟩), fun a ha => by simp only [gset, if_neg ha], rfl, rfl, fun _ => ⟨rfl, rfl, by rw [hkd]; rfl, rfl⟩⟩)
              · skip
                refine g_iconst hX dX6_readComment_156 ic_1 rfl ?_
                refine g_goto (n := 161) hX dX6_readComment_157 (by decide) ?_
                refine g_zret hX hR (by first | exact Or.inl rfl | exact Or.inr rfl | exact gB_01 _) dX6_readComment_161 ?_
                first
                | (have zc0 : ¬ sgN ch L (pMk ch L i) = 101 := zc74
                   exact ⟨gB_n (pOk_no (fun q => q.2.1.elim ht zc0)), fun a ha => by simp only [gset, if_neg ha], rfl, rfl, fun q => absurd (pOk_iff.mp q).2.1 (fun q => q.elim ht zc0)⟩)
                | (have zd104 : ¬ sgN ch L (pMk ch L i + 1) = 61 := zc100
                   exact ⟨gB_n (pOk_no (fun q => zd104 q.2.2.1)), fun a ha => by simp only [gset, if_neg ha], rfl, rfl, fun q => absurd (pOk_iff.mp q).2.2.1 zd104⟩)
                | (exact ⟨gB_n (pOk_no (fun q => zd84 q.1)), fun a ha => by simp only [gset, if_neg ha], rfl, rfl, fun q => absurd (pOk_iff.mp q).1 zd84⟩)
                | (exact absurd zc88 (by decide))
                | (exact ⟨gB_n (pOk_no (fun q => zd138 q.2.2.2.1)), fun a ha => by simp only [gset, if_neg ha], rfl, rfl, fun q => absurd (pOk_iff.mp q).2.2.2.1 zd138⟩)
                | (have zd153 : ¬ sgN ch L (pMk ch L i + 2 + pD2 ch L i) = 59 := zc153
                   exact ⟨gB_n (pOk_no (fun q => zd153 q.2.2.2.2)), fun a ha => by simp only [gset, if_neg ha], rfl, rfl, fun q => absurd (pOk_iff.mp q).2.2.2.2 zd153⟩)
                | (have zd74 : sgN ch L (pMk ch L i) = 101 := by omega
                   have zd104 : sgN ch L (pMk ch L i + 1) = 61 := by omega
                   have zd153 : sgN ch L (pMk ch L i + 2 + pD2 ch L i) = 59 := by omega
                   exact ⟨gB_1 (pOk_iff.mpr ⟨zd84, Or.inr zd74, zd104, zd138, zd153⟩), fun a ha => by simp only [gset, if_neg ha], rfl, rfl, fun _ => ⟨rfl, rfl, by rw [hkd]; rfl, rfl⟩⟩)
          · skip
            refine g_iconst hX dX6_readComment_103 ic_0 rfl ?_
            refine g_zret hX hR (by first | exact Or.inl rfl | exact Or.inr rfl | exact gB_01 _) dX6_readComment_104 ?_
            first
            | (have zc0 : ¬ sgN ch L (pMk ch L i) = 101 := zc74
               exact ⟨gB_n (pOk_no (fun q => q.2.1.elim ht zc0)), fun a ha => by simp only [gset, if_neg ha], rfl, rfl, fun q => absurd (pOk_iff.mp q).2.1 (fun q => q.elim ht zc0)⟩)
            | (have zd104 : ¬ sgN ch L (pMk ch L i + 1) = 61 := zc100
               exact ⟨gB_n (pOk_no (fun q => zd104 q.2.2.1)), fun a ha => by simp only [gset, if_neg ha], rfl, rfl, fun q => absurd (pOk_iff.mp q).2.2.1 zd104⟩)
            | (exact ⟨gB_n (pOk_no (fun q => zd84 q.1)), fun a ha => by simp only [gset, if_neg ha], rfl, rfl, fun q => absurd (pOk_iff.mp q).1 zd84⟩)
            | (exact absurd zc88 (by decide))
            | (exact ⟨gB_n (pOk_no (fun q => zd138 q.2.2.2.1)), fun a ha => by simp only [gset, if_neg ha], rfl, rfl, fun q => absurd (pOk_iff.mp q).2.2.2.1 zd138⟩)
            | (have zd153 : ¬ sgN ch L (pMk ch L i + 2 + pD2 ch L i) = 59 := zc153
               exact ⟨gB_n (pOk_no (fun q => zd153 q.2.2.2.2)), fun a ha => by simp only [gset, if_neg ha], rfl, rfl, fun q => absurd (pOk_iff.mp q).2.2.2.2 zd153⟩)
            | (have zd74 : sgN ch L (pMk ch L i) = 101 := by omega
               have zd104 : sgN ch L (pMk ch L i + 1) = 61 := by omega
               have zd153 : sgN ch L (pMk ch L i + 2 + pD2 ch L i) = 59 := by omega
               exact ⟨gB_1 (pOk_iff.mpr ⟨zd84, Or.inr zd74, zd104, zd138, zd153⟩), fun a ha => by simp only [gset, if_neg ha], rfl, rfl, fun _ => ⟨rfl, rfl, by rw [hkd]; rfl, rfl⟩⟩)

