/-! CommitteeBallotsModel (cell 130): its row (cell 131) -/
abbrev vW (N : Nat → Int32) (m : Nat) : Int32 := N (23 + 5 * m + 0)
abbrev vMi (N : Nat → Int32) (m : Nat) : Int32 := N (23 + 5 * m + 1)
abbrev vVo (N : Nat → Int32) (m : Nat) : Int32 := N (23 + 5 * m + 2)
abbrev vVd (N : Nat → Int32) (m : Nat) : Int32 := N (23 + 5 * m + 3)
abbrev vSe (N : Nat → Int32) (j : Nat) : Int32 := N (12 + j)
abbrev vNb (N : Nat → Int32) (k : Nat) : Int32 := N (73 + 45 * k + 0)
abbrev vPr (N : Nat → Int32) (k : Nat) : Int32 := N (73 + 45 * k + 1)
abbrev vBg (N : Nat → Int32) (k : Nat) : Int32 := N (73 + 45 * k + 2)
abbrev vCm (N : Nat → Int32) (c : Nat) : Int32 := N (973 + 8 * c + 0)
abbrev vCc (N : Nat → Int32) (c : Nat) : Int32 := N (973 + 8 * c + 1)
abbrev vKd (N : Nat → Int32) (c : Nat) : Int32 := N (973 + 8 * c + 2)
abbrev vCv (N : Nat → Int32) (c : Nat) : Int32 := N (973 + 8 * c + 3)
abbrev vSt (N : Nat → Int32) (c : Nat) : Int32 := N (973 + 8 * c + 4)
abbrev vDy (N : Nat → Int32) (c : Nat) : Int32 := N (973 + 8 * c + 5)
abbrev vGv (N : Nat → Int32) (c : Nat) : Int32 := N (973 + 8 * c + 6)
abbrev vTn (N : Nat → Int32) (c : Nat) : Int32 := N (973 + 8 * c + 7)
theorem c_X8_in (E : gE) (M : gM) (v a b : Int32) : gMet E k_X8_in [.int v, .int a, .int b] M (gInt fun r M' => r = gB (inI v a b) ∧ M' = M) := by
  refine gMet.of (by decide +kernel) rfl (Nat.le_of_ble_eq_true rfl) (fun X hX hR => ?_)
  refine g_iload_n (i := 0) hX dX8_in_0 rfl rfl rfl ?_
  refine g_iload_n (i := 1) hX dX8_in_1 rfl rfl rfl ?_
  refine g_icmp_lt (tgt := 14) hX dX8_in_2 (by decide) rfl (fun zc2 => ?_) (fun zc2 => ?_)
  · skip
    refine g_iconst hX dX8_in_14 ic_0 rfl ?_
    refine g_zret hX hR (by first | exact Or.inl rfl | exact Or.inr rfl | exact gB_01 _) dX8_in_15 ?_
    exact ⟨by first | exact gB_1 (inI_1 (by assumption) (Int32.not_lt.mpr (Int32.not_lt.mp (by assumption)))) | exact gB_n (inI_2 (by assumption)) | exact gB_n (inI_3 (by assumption)), rfl⟩
  · skip
    refine g_iload_n (i := 0) hX dX8_in_5 rfl rfl rfl ?_
    refine g_iload_n (i := 2) hX dX8_in_6 rfl rfl rfl ?_
    refine g_icmp_gt (tgt := 14) hX dX8_in_7 (by decide) rfl (fun zc7 => ?_) (fun zc7 => ?_)
    · skip
      refine g_iconst hX dX8_in_14 ic_0 rfl ?_
      refine g_zret hX hR (by first | exact Or.inl rfl | exact Or.inr rfl | exact gB_01 _) dX8_in_15 ?_
      exact ⟨by first | exact gB_1 (inI_1 (by assumption) (Int32.not_lt.mpr (Int32.not_lt.mp (by assumption)))) | exact gB_n (inI_2 (by assumption)) | exact gB_n (inI_3 (by assumption)), rfl⟩
    · skip
      refine g_iconst hX dX8_in_10 ic_1 rfl ?_
      refine g_goto (n := 15) hX dX8_in_11 (by decide) ?_
      refine g_zret hX hR (by first | exact Or.inl rfl | exact Or.inr rfl | exact gB_01 _) dX8_in_15 ?_
      exact ⟨by first | exact gB_1 (inI_1 (by assumption) (Int32.not_lt.mpr (Int32.not_lt.mp (by assumption)))) | exact gB_n (inI_2 (by assumption)) | exact gB_n (inI_3 (by assumption)), rfl⟩
theorem inI_R {m : Int32} {n : Nat} (hn : n ≤ 1000) : inI m (nI 0) (nI n - nI 1) = inR m n := by
  have h1 := pk_sub_toInt (a := n) (b := 1) (by omega) (by omega)
  have h2 := nI_toInt (n := n) (by omega)
  have h0 : (nI 0).toInt = 0 := by decide
  have h00 : (0 : Int32).toInt = 0 := by decide
  simp only [inI, inR, Int32.le_iff_toInt_le, Int32.lt_iff_toInt_lt, h1, h2, h0, h00]
  congr 1
  apply propext
  constructor <;> intro h <;> omega
theorem c_X8_isMember (E : gE) (M : gM) (m : Int32) (n : Nat) (hn : M 131 0 = nI n) (hb : n ≤ 10) : gMet E k_X8_isMember [.ref 130, .int m] M (gInt fun r M' => r = gB (inR m n) ∧ M' = M) := by
  refine gMet.of (by decide +kernel) rfl (Nat.le_of_ble_eq_true rfl) (fun X hX hR => ?_)
  refine g_iload_n (i := 1) hX dX8_isMember_0 rfl rfl rfl ?_
  refine g_iconst hX dX8_isMember_1 ic_0 rfl ?_
  refine g_aload_n (i := 0) hX dX8_isMember_2 rfl rfl rfl ?_
  refine g_getR hX fl_X8_7 rfl rfl dX8_isMember_3 rfl ?_
  refine g_iconst hX dX8_isMember_6 ic_0 rfl ?_
  refine g_ialdv (x := nI n) hX rfl (rfl) (by omega) rfl (hn) dX8_isMember_7 rfl ?_
  refine g_iconst hX dX8_isMember_8 ic_1 rfl ?_
  refine g_isub hX dX8_isMember_9 rfl ?_
  refine g_callSi hX (c_X8_in E M _ _ _) kf_X8_in rfl wk_X8_23 rfl rfl rfl rfl dX8_isMember_10 rfl (fun x10 M10 h10 => ?_)
  obtain ⟨rfl, hMq⟩ := h10; have hMq := hMq.symm; subst hMq
  rw [inI_R (by omega)]
  refine g_zret hX hR (by first | exact Or.inl rfl | exact Or.inr rfl | exact gB_01 _) dX8_isMember_13 ?_
  exact ⟨rfl, rfl⟩
theorem c_X8_isComment (E : gE) (M : gM) (m : Int32) (n : Nat) (hn : M 131 9 = nI n) (hb : n ≤ 30) : gMet E k_X8_isComment [.ref 130, .int m] M (gInt fun r M' => r = gB (inR m n) ∧ M' = M) := by
  refine gMet.of (by decide +kernel) rfl (Nat.le_of_ble_eq_true rfl) (fun X hX hR => ?_)
  refine g_iload_n (i := 1) hX dX8_isComment_0 rfl rfl rfl ?_
  refine g_iconst hX dX8_isComment_1 ic_0 rfl ?_
  refine g_aload_n (i := 0) hX dX8_isComment_2 rfl rfl rfl ?_
  refine g_getR hX fl_X8_7 rfl rfl dX8_isComment_3 rfl ?_
  refine g_bipush hX dX8_isComment_6 bc_9 rfl ?_
  refine g_ialdv (x := nI n) hX rfl (rfl) (by omega) rfl (hn) dX8_isComment_8 rfl ?_
  refine g_iconst hX dX8_isComment_9 ic_1 rfl ?_
  refine g_isub hX dX8_isComment_10 rfl ?_
  refine g_callSi hX (c_X8_in E M _ _ _) kf_X8_in rfl wk_X8_23 rfl rfl rfl rfl dX8_isComment_11 rfl (fun x11 M11 h11 => ?_)
  obtain ⟨rfl, hMq⟩ := h11; have hMq := hMq.symm; subst hMq
  rw [inI_R (by omega)]
  refine g_zret hX hR (by first | exact Or.inl rfl | exact Or.inr rfl | exact gB_01 _) dX8_isComment_14 ?_
  exact ⟨rfl, rfl⟩
theorem c_X8_isEdition (E : gE) (M : gM) (e : Int32) (n : Nat) (hn : M 131 2 = nI n) : gMet E k_X8_isEdition [.ref 130, .int e] M (gInt fun r M' => r = gB (inI e (nI 1) (nI n)) ∧ M' = M) := by
  refine gMet.of (by decide +kernel) rfl (Nat.le_of_ble_eq_true rfl) (fun X hX hR => ?_)
  refine g_iload_n (i := 1) hX dX8_isEdition_0 rfl rfl rfl ?_
  refine g_iconst hX dX8_isEdition_1 ic_1 rfl ?_
  refine g_aload_n (i := 0) hX dX8_isEdition_2 rfl rfl rfl ?_
  refine g_getR hX fl_X8_7 rfl rfl dX8_isEdition_3 rfl ?_
  refine g_iconst hX dX8_isEdition_6 ic_2 rfl ?_
  refine g_ialdv (x := nI n) hX rfl (rfl) (by omega) rfl (hn) dX8_isEdition_7 rfl ?_
  refine g_callSi hX (c_X8_in E M _ _ _) kf_X8_in rfl wk_X8_23 rfl rfl rfl rfl dX8_isEdition_8 rfl (fun x8 M8 h8 => ?_)
  obtain ⟨rfl, hMq⟩ := h8; have hMq := hMq.symm; subst hMq
  refine g_zret hX hR (by first | exact Or.inl rfl | exact Or.inr rfl | exact gB_01 _) dX8_isEdition_11 ?_
  exact ⟨rfl, rfl⟩
theorem c_X8_isValue (E : gE) (M : gM) (v : Int32) : gMet E k_X8_isValue [.int v] M (gInt fun r M' => r = gB (inI v (nI 0) (nI 9999)) ∧ M' = M) := by
  refine gMet.of (by decide +kernel) rfl (Nat.le_of_ble_eq_true rfl) (fun X hX hR => ?_)
  refine g_iload_n (i := 0) hX dX8_isValue_0 rfl rfl rfl ?_
  refine g_iconst hX dX8_isValue_1 ic_0 rfl ?_
  refine g_sipush hX dX8_isValue_2 sc_9999 rfl ?_
  refine g_callSi hX (c_X8_in E M _ _ _) kf_X8_in rfl wk_X8_23 rfl rfl rfl rfl dX8_isValue_5 rfl (fun x5 M5 h5 => ?_)
  obtain ⟨rfl, hMq⟩ := h5; have hMq := hMq.symm; subst hMq
  refine g_zret hX hR (by first | exact Or.inl rfl | exact Or.inr rfl | exact gB_01 _) dX8_isValue_8 ?_
  exact ⟨rfl, rfl⟩
theorem c_X8_memberAt (E : gE) (M : gM) (m : Nat) : gMet E k_X8_memberAt [.int (nI m)] M (gInt fun r M' => r = nI (23 + 5 * m) ∧ M' = M) := by
  refine gMet.of (by decide +kernel) rfl (Nat.le_of_ble_eq_true rfl) (fun X hX hR => ?_)
  refine g_bipush hX dX8_memberAt_0 bc_23 rfl ?_
  refine g_iconst hX dX8_memberAt_2 ic_5 rfl ?_
  refine g_iload_n (i := 0) hX dX8_memberAt_3 rfl rfl rfl ?_
  first | refine g_imulN hX dX8_memberAt_4 rfl ?_ | refine g_imul hX dX8_memberAt_4 rfl ?_
  first | refine g_iaddN hX dX8_memberAt_5 rfl ?_ | refine g_iadd hX dX8_memberAt_5 rfl ?_
  refine g_iret hX hR dX8_memberAt_6 ?_
  exact ⟨rfl, rfl⟩
theorem c_X8_clauseAt (E : gE) (M : gM) (m : Nat) : gMet E k_X8_clauseAt [.int (nI m)] M (gInt fun r M' => r = nI (73 + 45 * m) ∧ M' = M) := by
  refine gMet.of (by decide +kernel) rfl (Nat.le_of_ble_eq_true rfl) (fun X hX hR => ?_)
  refine g_bipush hX dX8_clauseAt_0 bc_73 rfl ?_
  refine g_bipush hX dX8_clauseAt_2 bc_45 rfl ?_
  refine g_iload_n (i := 0) hX dX8_clauseAt_4 rfl rfl rfl ?_
  first | refine g_imulN hX dX8_clauseAt_5 rfl ?_ | refine g_imul hX dX8_clauseAt_5 rfl ?_
  first | refine g_iaddN hX dX8_clauseAt_6 rfl ?_ | refine g_iadd hX dX8_clauseAt_6 rfl ?_
  refine g_iret hX hR dX8_clauseAt_7 ?_
  exact ⟨rfl, rfl⟩
theorem c_X8_commentAt (E : gE) (M : gM) (m : Nat) : gMet E k_X8_commentAt [.int (nI m)] M (gInt fun r M' => r = nI (973 + 8 * m) ∧ M' = M) := by
  refine gMet.of (by decide +kernel) rfl (Nat.le_of_ble_eq_true rfl) (fun X hX hR => ?_)
  refine g_sipush hX dX8_commentAt_0 sc_973 rfl ?_
  refine g_bipush hX dX8_commentAt_3 bc_8 rfl ?_
  refine g_iload_n (i := 0) hX dX8_commentAt_5 rfl rfl rfl ?_
  first | refine g_imulN hX dX8_commentAt_6 rfl ?_ | refine g_imul hX dX8_commentAt_6 rfl ?_
  first | refine g_iaddN hX dX8_commentAt_7 rfl ?_ | refine g_iadd hX dX8_commentAt_7 rfl ?_
  refine g_iret hX hR dX8_commentAt_8 ?_
  exact ⟨rfl, rfl⟩
theorem c_X8_isLapsed (E : gE) (M : gM) (m : Nat) (hm : m < 10) : gMet E k_X8_isLapsed [.ref 130, .int (nI m)] M (gInt fun r M' => r = gB (lapB (vMi (M 131)) (vSe (M 131)) m) ∧ M' = M) := by
  refine gMet.of (by decide +kernel) rfl (Nat.le_of_ble_eq_true rfl) (fun X hX hR => ?_)
  refine g_aload_n (i := 0) hX dX8_isLapsed_0 rfl rfl rfl ?_
  refine g_getR hX fl_X8_7 rfl rfl dX8_isLapsed_1 rfl ?_
  refine g_iload_n (i := 1) hX dX8_isLapsed_4 rfl rfl rfl ?_
  refine g_callSi hX (c_X8_memberAt E M m) kf_X8_memberAt rfl wk_X8_27 rfl rfl rfl rfl dX8_isLapsed_5 rfl (fun x5 M5 h5 => ?_)
  obtain ⟨rfl, hMq⟩ := h5; have hMq := hMq.symm; subst hMq
  refine g_iconst hX dX8_isLapsed_8 ic_1 rfl ?_
  first | refine g_iaddN hX dX8_isLapsed_9 rfl ?_ | refine g_iadd hX dX8_isLapsed_9 rfl ?_
  refine g_iald hX rfl (rfl) (by omega) rfl dX8_isLapsed_10 rfl ?_
  refine g_aload_n (i := 0) hX dX8_isLapsed_11 rfl rfl rfl ?_
  refine g_getR hX fl_X8_7 rfl rfl dX8_isLapsed_12 rfl ?_
  refine g_bipush hX dX8_isLapsed_15 bc_16 rfl ?_
  refine g_iald hX rfl (rfl) (by omega) rfl dX8_isLapsed_17 rfl ?_
  refine g_icmp_lt (tgt := 25) hX dX8_isLapsed_18 (by decide) rfl (fun zc18 => ?_) (fun zc18 => ?_)
  · skip
    refine g_iconst hX dX8_isLapsed_25 ic_0 rfl ?_
    refine g_zret hX hR (by first | exact Or.inl rfl | exact Or.inr rfl | exact gB_01 _) dX8_isLapsed_26 ?_
    refine ⟨?_, rfl⟩; first | exact gB_1 (decide_eq_true zc18) | exact gB_n (decide_eq_false (fun q => q zc18))
  · skip
    refine g_iconst hX dX8_isLapsed_21 ic_1 rfl ?_
    refine g_goto (n := 26) hX dX8_isLapsed_22 (by decide) ?_
    refine g_zret hX hR (by first | exact Or.inl rfl | exact Or.inr rfl | exact gB_01 _) dX8_isLapsed_26 ?_
    refine ⟨?_, rfl⟩; first | exact gB_1 (decide_eq_true zc18) | exact gB_n (decide_eq_false (fun q => q zc18))
theorem c_X8_indexOf (E : gE) (M : gM) (n : Nat) (c : Int32) (hn : M 131 1 = nI n) (hb : n ≤ 20) : gMet E k_X8_indexOf [.ref 130, .int c] M (gInt fun r M' => r = optI (-1) (fndTo n (fun k => decide (vNb (M 131) k = c))) ∧ M' = M) := by
  refine gMet.of (by decide +kernel) rfl (Nat.le_of_ble_eq_true rfl) (fun X hX hR => ?_)
  have loop := up_loop n (fun k => (∀ j, j < k → decide (vNb (M 131) j = c) = false) → gG X E M 2 [some (.ref 130), some (.int c), some (.int (nI k))] [] (gQ X E (gInt fun r M' => r = optI (-1) (fndTo n (fun k => decide (vNb (M 131) k = c))) ∧ M' = M))) ?_ ?_
  · skip
    refine g_iconst hX dX8_indexOf_0 ic_0 rfl ?_
    refine g_istore_n (i := 2) hX dX8_indexOf_1 rfl (Nat.le_of_ble_eq_true rfl) rfl ?_
    exact loop 0 (Nat.zero_le _) (fun j hj => absurd hj (by omega))
  · intro h
    refine g_iload_n (i := 2) hX dX8_indexOf_2 rfl rfl rfl ?_
    refine g_aload_n (i := 0) hX dX8_indexOf_3 rfl rfl rfl ?_
    refine g_getR hX fl_X8_7 rfl rfl dX8_indexOf_4 rfl ?_
    refine g_iconst hX dX8_indexOf_7 ic_1 rfl ?_
    refine g_ialdv (x := nI n) hX rfl (rfl) (by omega) rfl (hn) dX8_indexOf_8 rfl ?_
    first | refine g_icmp_geN (tgt := 35) hX dX8_indexOf_9 (by decide) rfl (by omega) (by omega) (fun zc9 => ?_) (fun zc9 => absurd zc9 (by omega)) | refine g_icmp_ge (tgt := 35) hX dX8_indexOf_9 (by decide) rfl (fun zc9 => ?_) (fun zc9 => absurd zc9 (by omega))
    refine g_iconst hX dX8_indexOf_35 ic_m1 rfl ?_
    refine g_iret hX hR dX8_indexOf_36 ?_
    rw [fndTo_eqn h]; exact ⟨rfl, rfl⟩
  · intro k hk ih h
    refine g_iload_n (i := 2) hX dX8_indexOf_2 rfl rfl rfl ?_
    refine g_aload_n (i := 0) hX dX8_indexOf_3 rfl rfl rfl ?_
    refine g_getR hX fl_X8_7 rfl rfl dX8_indexOf_4 rfl ?_
    refine g_iconst hX dX8_indexOf_7 ic_1 rfl ?_
    refine g_ialdv (x := nI n) hX rfl (rfl) (by omega) rfl (hn) dX8_indexOf_8 rfl ?_
    first | refine g_icmp_geN (tgt := 35) hX dX8_indexOf_9 (by decide) rfl (by omega) (by omega) (fun zc9 => absurd zc9 (by omega)) (fun zc9 => ?_) | refine g_icmp_ge (tgt := 35) hX dX8_indexOf_9 (by decide) rfl (fun zc9 => absurd zc9 (by omega)) (fun zc9 => ?_)
    refine g_aload_n (i := 0) hX dX8_indexOf_12 rfl rfl rfl ?_
    refine g_getR hX fl_X8_7 rfl rfl dX8_indexOf_13 rfl ?_
    refine g_iload_n (i := 2) hX dX8_indexOf_16 rfl rfl rfl ?_
    refine g_callSi hX (c_X8_clauseAt E M k) kf_X8_clauseAt rfl wk_X8_34 rfl rfl rfl rfl dX8_indexOf_17 rfl (fun x17 M17 h17 => ?_)
    obtain ⟨rfl, hMq⟩ := h17; have hMq := hMq.symm; subst hMq
    refine g_iconst hX dX8_indexOf_20 ic_0 rfl ?_
    first | refine g_iaddN hX dX8_indexOf_21 rfl ?_ | refine g_iadd hX dX8_indexOf_21 rfl ?_
    refine g_iald hX rfl (rfl) (by omega) rfl dX8_indexOf_22 rfl ?_
    refine g_iload_n (i := 1) hX dX8_indexOf_23 rfl rfl rfl ?_
    refine g_icmp_ne (tgt := 29) hX dX8_indexOf_24 (by decide) rfl (fun zc24 => ?_) (fun zc24 => ?_)
    · skip
      first | refine g_iincN hX dX8_indexOf_29 ic_1 rfl (Nat.le_of_ble_eq_true rfl) rfl ?_ | refine g_iinc hX dX8_indexOf_29 ic_1 rfl rfl (Nat.le_of_ble_eq_true rfl) rfl ?_
      refine g_goto (n := 2) hX dX8_indexOf_32 (by decide) ?_
      refine ih (fun j hj => ?_)
      by_cases e : j = k
      · subst e; exact decide_eq_false zc24
      · exact h j (by omega)
    · skip
      refine g_iload_n (i := 2) hX dX8_indexOf_27 rfl rfl rfl ?_
      refine g_iret hX hR dX8_indexOf_28 ?_
      rw [fndTo_eq hk (decide_eq_true zc24) h]; exact ⟨rfl, rfl⟩
theorem c_X8_commentsOf (E : gE) (M : gM) (n : Nat) (m : Int32) (hn : M 131 9 = nI n) (hb : n ≤ 30) : gMet E k_X8_commentsOf [.ref 130, .int m] M (gInt fun r M' => r = nI (cntTo n (fun k => decide (vCm (M 131) k = m))) ∧ M' = M) := by
  refine gMet.of (by decide +kernel) rfl (Nat.le_of_ble_eq_true rfl) (fun X hX hR => ?_)
  have loop := up_loop n (fun k => gG X E M 4 [some (.ref 130), some (.int m), some (.int (nI (cntTo k (fun k => decide (vCm (M 131) k = m))))), some (.int (nI k))] [] (gQ X E (gInt fun r M' => r = nI (cntTo n (fun k => decide (vCm (M 131) k = m))) ∧ M' = M))) ?_ ?_
  · skip
    refine g_iconst hX dX8_commentsOf_0 ic_0 rfl ?_
    refine g_istore_n (i := 2) hX dX8_commentsOf_1 rfl (Nat.le_of_ble_eq_true rfl) rfl ?_
    refine g_iconst hX dX8_commentsOf_2 ic_0 rfl ?_
    refine g_istore_n (i := 3) hX dX8_commentsOf_3 rfl (Nat.le_of_ble_eq_true rfl) rfl ?_
    exact loop 0 (Nat.zero_le _)
  · skip
    refine g_iload_n (i := 3) hX dX8_commentsOf_4 rfl rfl rfl ?_
    refine g_aload_n (i := 0) hX dX8_commentsOf_5 rfl rfl rfl ?_
    refine g_getR hX fl_X8_7 rfl rfl dX8_commentsOf_6 rfl ?_
    refine g_bipush hX dX8_commentsOf_9 bc_9 rfl ?_
    refine g_ialdv (x := nI n) hX rfl (rfl) (by omega) rfl (hn) dX8_commentsOf_11 rfl ?_
    first | refine g_icmp_geN (tgt := 44) hX dX8_commentsOf_12 (by decide) rfl (by omega) (by omega) (fun zc12 => ?_) (fun zc12 => absurd zc12 (by omega)) | refine g_icmp_ge (tgt := 44) hX dX8_commentsOf_12 (by decide) rfl (fun zc12 => ?_) (fun zc12 => absurd zc12 (by omega))
    refine g_iload_n (i := 2) hX dX8_commentsOf_44 rfl rfl rfl ?_
    refine g_iret hX hR dX8_commentsOf_45 ?_
    exact ⟨rfl, rfl⟩
  · intro k hk ih
    refine g_iload_n (i := 3) hX dX8_commentsOf_4 rfl rfl rfl ?_
    refine g_aload_n (i := 0) hX dX8_commentsOf_5 rfl rfl rfl ?_
    refine g_getR hX fl_X8_7 rfl rfl dX8_commentsOf_6 rfl ?_
    refine g_bipush hX dX8_commentsOf_9 bc_9 rfl ?_
    refine g_ialdv (x := nI n) hX rfl (rfl) (by omega) rfl (hn) dX8_commentsOf_11 rfl ?_
    first | refine g_icmp_geN (tgt := 44) hX dX8_commentsOf_12 (by decide) rfl (by omega) (by omega) (fun zc12 => absurd zc12 (by omega)) (fun zc12 => ?_) | refine g_icmp_ge (tgt := 44) hX dX8_commentsOf_12 (by decide) rfl (fun zc12 => absurd zc12 (by omega)) (fun zc12 => ?_)
    refine g_iload_n (i := 2) hX dX8_commentsOf_15 rfl rfl rfl ?_
    refine g_aload_n (i := 0) hX dX8_commentsOf_16 rfl rfl rfl ?_
    refine g_getR hX fl_X8_7 rfl rfl dX8_commentsOf_17 rfl ?_
    refine g_iload_n (i := 3) hX dX8_commentsOf_20 rfl rfl rfl ?_
    refine g_callSi hX (c_X8_commentAt E M k) kf_X8_commentAt rfl wk_X8_48 rfl rfl rfl rfl dX8_commentsOf_21 rfl (fun x21 M21 h21 => ?_)
    obtain ⟨rfl, hMq⟩ := h21; have hMq := hMq.symm; subst hMq
    refine g_iconst hX dX8_commentsOf_24 ic_0 rfl ?_
    first | refine g_iaddN hX dX8_commentsOf_25 rfl ?_ | refine g_iadd hX dX8_commentsOf_25 rfl ?_
    refine g_iald hX rfl (rfl) (by omega) rfl dX8_commentsOf_26 rfl ?_
    refine g_iload_n (i := 1) hX dX8_commentsOf_27 rfl rfl rfl ?_
    refine g_icmp_ne (tgt := 35) hX dX8_commentsOf_28 (by decide) rfl (fun zc28 => ?_) (fun zc28 => ?_)
    · skip
      have zc : ¬ vCm (M 131) k = m := zc28
      refine g_iconst hX dX8_commentsOf_35 ic_0 rfl ?_
      first | refine g_iaddN hX dX8_commentsOf_36 rfl ?_ | refine g_iadd hX dX8_commentsOf_36 rfl ?_
      refine g_istore_n (i := 2) hX dX8_commentsOf_37 rfl (Nat.le_of_ble_eq_true rfl) rfl ?_
      first | refine g_iincN hX dX8_commentsOf_38 ic_1 rfl (Nat.le_of_ble_eq_true rfl) rfl ?_ | refine g_iinc hX dX8_commentsOf_38 ic_1 rfl rfl (Nat.le_of_ble_eq_true rfl) rfl ?_
      refine g_goto (n := 4) hX dX8_commentsOf_41 (by decide) ?_
      exact (by simpa [cntTo, zc] using ih)
    · skip
      have zc : vCm (M 131) k = m := zc28
      refine g_iconst hX dX8_commentsOf_31 ic_1 rfl ?_
      refine g_goto (n := 36) hX dX8_commentsOf_32 (by decide) ?_
      first | refine g_iaddN hX dX8_commentsOf_36 rfl ?_ | refine g_iadd hX dX8_commentsOf_36 rfl ?_
      refine g_istore_n (i := 2) hX dX8_commentsOf_37 rfl (Nat.le_of_ble_eq_true rfl) rfl ?_
      first | refine g_iincN hX dX8_commentsOf_38 ic_1 rfl (Nat.le_of_ble_eq_true rfl) rfl ?_ | refine g_iinc hX dX8_commentsOf_38 ic_1 rfl rfl (Nat.le_of_ble_eq_true rfl) rfl ?_
      refine g_goto (n := 4) hX dX8_commentsOf_41 (by decide) ?_
      exact (by simpa [cntTo, zc] using ih)
theorem c_X8_activeWeight (E : gE) (M : gM) (n : Nat) (hn : M 131 0 = nI n) (hb : n ≤ 10) : gMet E k_X8_activeWeight [.ref 130] M (gInt fun r M' => r = actW (vW (M 131)) (vMi (M 131)) (vSe (M 131)) n ∧ M' = M) := by
  refine gMet.of (by decide +kernel) rfl (Nat.le_of_ble_eq_true rfl) (fun X hX hR => ?_)
  have loop := up_loop n (fun k => gG X E M 4 [some (.ref 130), some (.int (actW (vW (M 131)) (vMi (M 131)) (vSe (M 131)) k)), some (.int (nI k))] [] (gQ X E (gInt fun r M' => r = actW (vW (M 131)) (vMi (M 131)) (vSe (M 131)) n ∧ M' = M))) ?_ ?_
  · skip
    refine g_iconst hX dX8_activeWeight_0 ic_0 rfl ?_
    refine g_istore_n (i := 1) hX dX8_activeWeight_1 rfl (Nat.le_of_ble_eq_true rfl) rfl ?_
    refine g_iconst hX dX8_activeWeight_2 ic_0 rfl ?_
    refine g_istore_n (i := 2) hX dX8_activeWeight_3 rfl (Nat.le_of_ble_eq_true rfl) rfl ?_
    exact loop 0 (Nat.zero_le _)
  · skip
    refine g_iload_n (i := 2) hX dX8_activeWeight_4 rfl rfl rfl ?_
    refine g_aload_n (i := 0) hX dX8_activeWeight_5 rfl rfl rfl ?_
    refine g_getR hX fl_X8_7 rfl rfl dX8_activeWeight_6 rfl ?_
    refine g_iconst hX dX8_activeWeight_9 ic_0 rfl ?_
    refine g_ialdv (x := nI n) hX rfl (rfl) (by omega) rfl (hn) dX8_activeWeight_10 rfl ?_
    first | refine g_icmp_geN (tgt := 46) hX dX8_activeWeight_11 (by decide) rfl (by omega) (by omega) (fun zc11 => ?_) (fun zc11 => absurd zc11 (by omega)) | refine g_icmp_ge (tgt := 46) hX dX8_activeWeight_11 (by decide) rfl (fun zc11 => ?_) (fun zc11 => absurd zc11 (by omega))
    refine g_iload_n (i := 1) hX dX8_activeWeight_46 rfl rfl rfl ?_
    refine g_iret hX hR dX8_activeWeight_47 ?_
    exact ⟨rfl, rfl⟩
  · intro k hk ih
    simp only [actW, sumTo] at ih
    refine g_iload_n (i := 2) hX dX8_activeWeight_4 rfl rfl rfl ?_
    refine g_aload_n (i := 0) hX dX8_activeWeight_5 rfl rfl rfl ?_
    refine g_getR hX fl_X8_7 rfl rfl dX8_activeWeight_6 rfl ?_
    refine g_iconst hX dX8_activeWeight_9 ic_0 rfl ?_
    refine g_ialdv (x := nI n) hX rfl (rfl) (by omega) rfl (hn) dX8_activeWeight_10 rfl ?_
    first | refine g_icmp_geN (tgt := 46) hX dX8_activeWeight_11 (by decide) rfl (by omega) (by omega) (fun zc11 => absurd zc11 (by omega)) (fun zc11 => ?_) | refine g_icmp_ge (tgt := 46) hX dX8_activeWeight_11 (by decide) rfl (fun zc11 => absurd zc11 (by omega)) (fun zc11 => ?_)
    refine g_iload_n (i := 1) hX dX8_activeWeight_14 rfl rfl rfl ?_
    refine g_aload_n (i := 0) hX dX8_activeWeight_15 rfl rfl rfl ?_
    refine g_iload_n (i := 2) hX dX8_activeWeight_16 rfl rfl rfl ?_
    refine g_callVi hX (c_X8_isLapsed E M k (by omega)) kf_X8_isLapsed rfl wk_X8_54 rfl rfl rfl rfl rfl dX8_activeWeight_17 rfl (fun x17 M17 h17 => ?_)
    obtain ⟨rfl, hMq⟩ := h17; have hMq := hMq.symm; subst hMq
    first | refine g_if_eqB (tgt := 27) hX dX8_activeWeight_20 (by decide) rfl (fun zc20 => ?_) (fun zc20 => ?_) | refine g_if_eq (tgt := 27) hX dX8_activeWeight_20 (by decide) rfl (fun zc20 => ?_) (fun zc20 => ?_)
    · skip
      refine g_aload_n (i := 0) hX dX8_activeWeight_27 rfl rfl rfl ?_
      refine g_getR hX fl_X8_7 rfl rfl dX8_activeWeight_28 rfl ?_
      refine g_iload_n (i := 2) hX dX8_activeWeight_31 rfl rfl rfl ?_
      refine g_callSi hX (c_X8_memberAt E M k) kf_X8_memberAt rfl wk_X8_27 rfl rfl rfl rfl dX8_activeWeight_32 rfl (fun x32 M32 h32 => ?_)
      obtain ⟨rfl, hMq⟩ := h32; have hMq := hMq.symm; subst hMq
      refine g_iconst hX dX8_activeWeight_35 ic_0 rfl ?_
      first | refine g_iaddN hX dX8_activeWeight_36 rfl ?_ | refine g_iadd hX dX8_activeWeight_36 rfl ?_
      refine g_iald hX rfl (rfl) (by omega) rfl dX8_activeWeight_37 rfl ?_
      refine g_iadd hX dX8_activeWeight_38 rfl ?_
      refine g_istore_n (i := 1) hX dX8_activeWeight_39 rfl (Nat.le_of_ble_eq_true rfl) rfl ?_
      first | refine g_iincN hX dX8_activeWeight_40 ic_1 rfl (Nat.le_of_ble_eq_true rfl) rfl ?_ | refine g_iinc hX dX8_activeWeight_40 ic_1 rfl rfl (Nat.le_of_ble_eq_true rfl) rfl ?_
      refine g_goto (n := 4) hX dX8_activeWeight_43 (by decide) ?_
      first | (rw [if_neg (fun q => Bool.noConfusion (q.symm.trans zc20))] at ih; exact ih) | (rw [if_pos zc20] at ih; exact ih)
    · skip
      refine g_iconst hX dX8_activeWeight_23 ic_0 rfl ?_
      refine g_goto (n := 38) hX dX8_activeWeight_24 (by decide) ?_
      refine g_iadd hX dX8_activeWeight_38 rfl ?_
      refine g_istore_n (i := 1) hX dX8_activeWeight_39 rfl (Nat.le_of_ble_eq_true rfl) rfl ?_
      first | refine g_iincN hX dX8_activeWeight_40 ic_1 rfl (Nat.le_of_ble_eq_true rfl) rfl ?_ | refine g_iinc hX dX8_activeWeight_40 ic_1 rfl rfl (Nat.le_of_ble_eq_true rfl) rfl ?_
      refine g_goto (n := 4) hX dX8_activeWeight_43 (by decide) ?_
      first | (rw [if_neg (fun q => Bool.noConfusion (q.symm.trans zc20))] at ih; exact ih) | (rw [if_pos zc20] at ih; exact ih)
theorem c_X8_pending (E : gE) (M : gM) (n : Nat) (hn : M 131 9 = nI n) (hb : n ≤ 30) : gMet E k_X8_pending [.ref 130] M (gInt fun r M' => r = nI (cntTo n (pendB (vSt (M 131)))) ∧ M' = M) := by
  refine gMet.of (by decide +kernel) rfl (Nat.le_of_ble_eq_true rfl) (fun X hX hR => ?_)
  have loop := up_loop n (fun k => gG X E M 4 [some (.ref 130), some (.int (nI (cntTo k (pendB (vSt (M 131)))))), some (.int (nI k))] [] (gQ X E (gInt fun r M' => r = nI (cntTo n (pendB (vSt (M 131)))) ∧ M' = M))) ?_ ?_
  · skip
    refine g_iconst hX dX8_pending_0 ic_0 rfl ?_
    refine g_istore_n (i := 1) hX dX8_pending_1 rfl (Nat.le_of_ble_eq_true rfl) rfl ?_
    refine g_iconst hX dX8_pending_2 ic_0 rfl ?_
    refine g_istore_n (i := 2) hX dX8_pending_3 rfl (Nat.le_of_ble_eq_true rfl) rfl ?_
    exact loop 0 (Nat.zero_le _)
  · skip
    refine g_iload_n (i := 2) hX dX8_pending_4 rfl rfl rfl ?_
    refine g_aload_n (i := 0) hX dX8_pending_5 rfl rfl rfl ?_
    refine g_getR hX fl_X8_7 rfl rfl dX8_pending_6 rfl ?_
    refine g_bipush hX dX8_pending_9 bc_9 rfl ?_
    refine g_ialdv (x := nI n) hX rfl (rfl) (by omega) rfl (hn) dX8_pending_11 rfl ?_
    first | refine g_icmp_geN (tgt := 44) hX dX8_pending_12 (by decide) rfl (by omega) (by omega) (fun zc12 => ?_) (fun zc12 => absurd zc12 (by omega)) | refine g_icmp_ge (tgt := 44) hX dX8_pending_12 (by decide) rfl (fun zc12 => ?_) (fun zc12 => absurd zc12 (by omega))
    refine g_iload_n (i := 1) hX dX8_pending_44 rfl rfl rfl ?_
    refine g_iret hX hR dX8_pending_45 ?_
    exact ⟨rfl, rfl⟩
  · intro k hk ih
    simp only [cntTo] at ih
    refine g_iload_n (i := 2) hX dX8_pending_4 rfl rfl rfl ?_
    refine g_aload_n (i := 0) hX dX8_pending_5 rfl rfl rfl ?_
    refine g_getR hX fl_X8_7 rfl rfl dX8_pending_6 rfl ?_
    refine g_bipush hX dX8_pending_9 bc_9 rfl ?_
    refine g_ialdv (x := nI n) hX rfl (rfl) (by omega) rfl (hn) dX8_pending_11 rfl ?_
    first | refine g_icmp_geN (tgt := 44) hX dX8_pending_12 (by decide) rfl (by omega) (by omega) (fun zc12 => absurd zc12 (by omega)) (fun zc12 => ?_) | refine g_icmp_ge (tgt := 44) hX dX8_pending_12 (by decide) rfl (fun zc12 => absurd zc12 (by omega)) (fun zc12 => ?_)
    refine g_iload_n (i := 1) hX dX8_pending_15 rfl rfl rfl ?_
    refine g_aload_n (i := 0) hX dX8_pending_16 rfl rfl rfl ?_
    refine g_getR hX fl_X8_7 rfl rfl dX8_pending_17 rfl ?_
    refine g_iload_n (i := 2) hX dX8_pending_20 rfl rfl rfl ?_
    refine g_callSi hX (c_X8_commentAt E M k) kf_X8_commentAt rfl wk_X8_48 rfl rfl rfl rfl dX8_pending_21 rfl (fun x21 M21 h21 => ?_)
    obtain ⟨rfl, hMq⟩ := h21; have hMq := hMq.symm; subst hMq
    refine g_iconst hX dX8_pending_24 ic_4 rfl ?_
    first | refine g_iaddN hX dX8_pending_25 rfl ?_ | refine g_iadd hX dX8_pending_25 rfl ?_
    refine g_iald hX rfl (rfl) (by omega) rfl dX8_pending_26 rfl ?_
    refine g_iconst hX dX8_pending_27 ic_1 rfl ?_
    refine g_icmp_ne (tgt := 35) hX dX8_pending_28 (by decide) rfl (fun zc28 => ?_) (fun zc28 => ?_)
    · skip
      have zc : pendB (vSt (M 131)) k = false := decide_eq_false zc28
      refine g_iconst hX dX8_pending_35 ic_0 rfl ?_
      first | refine g_iaddN hX dX8_pending_36 rfl ?_ | refine g_iadd hX dX8_pending_36 rfl ?_
      refine g_istore_n (i := 1) hX dX8_pending_37 rfl (Nat.le_of_ble_eq_true rfl) rfl ?_
      first | refine g_iincN hX dX8_pending_38 ic_1 rfl (Nat.le_of_ble_eq_true rfl) rfl ?_ | refine g_iinc hX dX8_pending_38 ic_1 rfl rfl (Nat.le_of_ble_eq_true rfl) rfl ?_
      refine g_goto (n := 4) hX dX8_pending_41 (by decide) ?_
      exact (by simpa [zc] using ih)
    · skip
      have zc : pendB (vSt (M 131)) k = true := decide_eq_true zc28
      refine g_iconst hX dX8_pending_31 ic_1 rfl ?_
      refine g_goto (n := 36) hX dX8_pending_32 (by decide) ?_
      first | refine g_iaddN hX dX8_pending_36 rfl ?_ | refine g_iadd hX dX8_pending_36 rfl ?_
      refine g_istore_n (i := 1) hX dX8_pending_37 rfl (Nat.le_of_ble_eq_true rfl) rfl ?_
      first | refine g_iincN hX dX8_pending_38 ic_1 rfl (Nat.le_of_ble_eq_true rfl) rfl ?_ | refine g_iinc hX dX8_pending_38 ic_1 rfl rfl (Nat.le_of_ble_eq_true rfl) rfl ?_
      refine g_goto (n := 4) hX dX8_pending_41 (by decide) ?_
      exact (by simpa [zc] using ih)
theorem c_X8_isTechnical (E : gE) (M : gM) (n m : Nat) (hn : M 131 9 = nI n) (hb : n ≤ 30) : gMet E k_X8_isTechnical [.ref 130, .int (nI m)] M (gInt fun r M' => r = gB (techB (vCm (M 131)) (vKd (M 131)) n m) ∧ M' = M) := by
  refine gMet.of (by decide +kernel) rfl (Nat.le_of_ble_eq_true rfl) (fun X hX hR => ?_)
  have loop := up_loop n (fun k => gG X E M 4 [some (.ref 130), some (.int (nI m)), some (.int (gB (techB (vCm (M 131)) (vKd (M 131)) k m))), some (.int (nI k))] [] (gQ X E (gInt fun r M' => r = gB (techB (vCm (M 131)) (vKd (M 131)) n m) ∧ M' = M))) ?_ ?_
  · skip
    refine g_iconst hX dX8_isTechnical_0 ic_0 rfl ?_
    refine g_istore_n (i := 2) hX dX8_isTechnical_1 rfl (Nat.le_of_ble_eq_true rfl) rfl ?_
    refine g_iconst hX dX8_isTechnical_2 ic_0 rfl ?_
    refine g_istore_n (i := 3) hX dX8_isTechnical_3 rfl (Nat.le_of_ble_eq_true rfl) rfl ?_
    exact loop 0 (Nat.zero_le _)
  · skip
    refine g_iload_n (i := 3) hX dX8_isTechnical_4 rfl rfl rfl ?_
    refine g_aload_n (i := 0) hX dX8_isTechnical_5 rfl rfl rfl ?_
    refine g_getR hX fl_X8_7 rfl rfl dX8_isTechnical_6 rfl ?_
    refine g_bipush hX dX8_isTechnical_9 bc_9 rfl ?_
    refine g_ialdv (x := nI n) hX rfl (rfl) (by omega) rfl (hn) dX8_isTechnical_11 rfl ?_
    first | refine g_icmp_geN (tgt := 61) hX dX8_isTechnical_12 (by decide) rfl (by omega) (by omega) (fun zc12 => ?_) (fun zc12 => absurd zc12 (by omega)) | refine g_icmp_ge (tgt := 61) hX dX8_isTechnical_12 (by decide) rfl (fun zc12 => ?_) (fun zc12 => absurd zc12 (by omega))
    refine g_iload_n (i := 2) hX dX8_isTechnical_61 rfl rfl rfl ?_
    refine g_zret hX hR (by first | exact Or.inl rfl | exact Or.inr rfl | exact gB_01 _) dX8_isTechnical_62 ?_
    exact ⟨rfl, rfl⟩
  · intro k hk ih
    have es : techB (vCm (M 131)) (vKd (M 131)) (k + 1) m = (techB (vCm (M 131)) (vKd (M 131)) k m || (decide (vCm (M 131) k = nI m) && decide (vKd (M 131) k = 1))) := rfl
    rw [es] at ih
    refine g_iload_n (i := 3) hX dX8_isTechnical_4 rfl rfl rfl ?_
    refine g_aload_n (i := 0) hX dX8_isTechnical_5 rfl rfl rfl ?_
    refine g_getR hX fl_X8_7 rfl rfl dX8_isTechnical_6 rfl ?_
    refine g_bipush hX dX8_isTechnical_9 bc_9 rfl ?_
    refine g_ialdv (x := nI n) hX rfl (rfl) (by omega) rfl (hn) dX8_isTechnical_11 rfl ?_
    first | refine g_icmp_geN (tgt := 61) hX dX8_isTechnical_12 (by decide) rfl (by omega) (by omega) (fun zc12 => absurd zc12 (by omega)) (fun zc12 => ?_) | refine g_icmp_ge (tgt := 61) hX dX8_isTechnical_12 (by decide) rfl (fun zc12 => absurd zc12 (by omega)) (fun zc12 => ?_)
    refine g_iload_n (i := 2) hX dX8_isTechnical_15 rfl rfl rfl ?_
    first | refine g_if_neB (tgt := 49) hX dX8_isTechnical_16 (by decide) rfl (fun zc16 => ?_) (fun zc16 => ?_) | refine g_if_ne (tgt := 49) hX dX8_isTechnical_16 (by decide) rfl (fun zc16 => ?_) (fun zc16 => ?_)
    · skip
      refine g_iconst hX dX8_isTechnical_49 ic_1 rfl ?_
      refine g_goto (n := 54) hX dX8_isTechnical_50 (by decide) ?_
      refine g_istore_n (i := 2) hX dX8_isTechnical_54 rfl (Nat.le_of_ble_eq_true rfl) rfl ?_
      first | refine g_iincN hX dX8_isTechnical_55 ic_1 rfl (Nat.le_of_ble_eq_true rfl) rfl ?_ | refine g_iinc hX dX8_isTechnical_55 ic_1 rfl rfl (Nat.le_of_ble_eq_true rfl) rfl ?_
      refine g_goto (n := 4) hX dX8_isTechnical_58 (by decide) ?_
      first
      | (rw [zc16, Bool.true_or] at ih; exact ih)
      | (rw [decide_eq_true zg.1, decide_eq_true zg.2] at ih; simp only [Bool.and_self, Bool.or_true] at ih; exact ih)
      | (rw [zc16, show (decide (vCm (M 131) k = nI m) && decide (vKd (M 131) k = 1)) = false by rcases zf with h | h <;> simp [h]] at ih; exact ih)
    · skip
      refine g_aload_n (i := 0) hX dX8_isTechnical_19 rfl rfl rfl ?_
      refine g_getR hX fl_X8_7 rfl rfl dX8_isTechnical_20 rfl ?_
      refine g_iload_n (i := 3) hX dX8_isTechnical_23 rfl rfl rfl ?_
      refine g_callSi hX (c_X8_commentAt E M k) kf_X8_commentAt rfl wk_X8_48 rfl rfl rfl rfl dX8_isTechnical_24 rfl (fun x24 M24 h24 => ?_)
      obtain ⟨rfl, hMq⟩ := h24; have hMq := hMq.symm; subst hMq
      refine g_iconst hX dX8_isTechnical_27 ic_0 rfl ?_
      first | refine g_iaddN hX dX8_isTechnical_28 rfl ?_ | refine g_iadd hX dX8_isTechnical_28 rfl ?_
      refine g_iald hX rfl (rfl) (by omega) rfl dX8_isTechnical_29 rfl ?_
      refine g_iload_n (i := 1) hX dX8_isTechnical_30 rfl rfl rfl ?_
      refine g_icmp_ne (tgt := 53) hX dX8_isTechnical_31 (by decide) rfl (fun zc31 => ?_) (fun zc31 => ?_)
      · skip
        have zf : ¬ vCm (M 131) k = nI m ∨ ¬ vKd (M 131) k = 1 := Or.inl zc31
        refine g_iconst hX dX8_isTechnical_53 ic_0 rfl ?_
        refine g_istore_n (i := 2) hX dX8_isTechnical_54 rfl (Nat.le_of_ble_eq_true rfl) rfl ?_
        first | refine g_iincN hX dX8_isTechnical_55 ic_1 rfl (Nat.le_of_ble_eq_true rfl) rfl ?_ | refine g_iinc hX dX8_isTechnical_55 ic_1 rfl rfl (Nat.le_of_ble_eq_true rfl) rfl ?_
        refine g_goto (n := 4) hX dX8_isTechnical_58 (by decide) ?_
        first
        | (rw [zc16, Bool.true_or] at ih; exact ih)
        | (rw [decide_eq_true zg.1, decide_eq_true zg.2] at ih; simp only [Bool.and_self, Bool.or_true] at ih; exact ih)
        | (rw [zc16, show (decide (vCm (M 131) k = nI m) && decide (vKd (M 131) k = 1)) = false by rcases zf with h | h <;> simp [h]] at ih; exact ih)
      · skip
        refine g_aload_n (i := 0) hX dX8_isTechnical_34 rfl rfl rfl ?_
        refine g_getR hX fl_X8_7 rfl rfl dX8_isTechnical_35 rfl ?_
        refine g_iload_n (i := 3) hX dX8_isTechnical_38 rfl rfl rfl ?_
        refine g_callSi hX (c_X8_commentAt E M k) kf_X8_commentAt rfl wk_X8_48 rfl rfl rfl rfl dX8_isTechnical_39 rfl (fun x39 M39 h39 => ?_)
        obtain ⟨rfl, hMq⟩ := h39; have hMq := hMq.symm; subst hMq
        refine g_iconst hX dX8_isTechnical_42 ic_2 rfl ?_
        first | refine g_iaddN hX dX8_isTechnical_43 rfl ?_ | refine g_iadd hX dX8_isTechnical_43 rfl ?_
        refine g_iald hX rfl (rfl) (by omega) rfl dX8_isTechnical_44 rfl ?_
        refine g_iconst hX dX8_isTechnical_45 ic_1 rfl ?_
        refine g_icmp_ne (tgt := 53) hX dX8_isTechnical_46 (by decide) rfl (fun zc46 => ?_) (fun zc46 => ?_)
        · skip
          have zf : ¬ vCm (M 131) k = nI m ∨ ¬ vKd (M 131) k = 1 := Or.inr zc46
          refine g_iconst hX dX8_isTechnical_53 ic_0 rfl ?_
          refine g_istore_n (i := 2) hX dX8_isTechnical_54 rfl (Nat.le_of_ble_eq_true rfl) rfl ?_
          first | refine g_iincN hX dX8_isTechnical_55 ic_1 rfl (Nat.le_of_ble_eq_true rfl) rfl ?_ | refine g_iinc hX dX8_isTechnical_55 ic_1 rfl rfl (Nat.le_of_ble_eq_true rfl) rfl ?_
          refine g_goto (n := 4) hX dX8_isTechnical_58 (by decide) ?_
          first
          | (rw [zc16, Bool.true_or] at ih; exact ih)
          | (rw [decide_eq_true zg.1, decide_eq_true zg.2] at ih; simp only [Bool.and_self, Bool.or_true] at ih; exact ih)
          | (rw [zc16, show (decide (vCm (M 131) k = nI m) && decide (vKd (M 131) k = 1)) = false by rcases zf with h | h <;> simp [h]] at ih; exact ih)
        · skip
          have zg : vCm (M 131) k = nI m ∧ vKd (M 131) k = 1 := ⟨zc31, zc46⟩
          refine g_iconst hX dX8_isTechnical_49 ic_1 rfl ?_
          refine g_goto (n := 54) hX dX8_isTechnical_50 (by decide) ?_
          refine g_istore_n (i := 2) hX dX8_isTechnical_54 rfl (Nat.le_of_ble_eq_true rfl) rfl ?_
          first | refine g_iincN hX dX8_isTechnical_55 ic_1 rfl (Nat.le_of_ble_eq_true rfl) rfl ?_ | refine g_iinc hX dX8_isTechnical_55 ic_1 rfl rfl (Nat.le_of_ble_eq_true rfl) rfl ?_
          refine g_goto (n := 4) hX dX8_isTechnical_58 (by decide) ?_
          first
          | (rw [zc16, Bool.true_or] at ih; exact ih)
          | (rw [decide_eq_true zg.1, decide_eq_true zg.2] at ih; simp only [Bool.and_self, Bool.or_true] at ih; exact ih)
          | (rw [zc16, show (decide (vCm (M 131) k = nI m) && decide (vKd (M 131) k = 1)) = false by rcases zf with h | h <;> simp [h]] at ih; exact ih)
def carB4 (a r y n : Int32) (se : Nat → Int32) : Bool := decide (0 < a) && decide (0 < y + n) && decide (¬ r * 100 < se 0 * a) && decide (¬ y * 100 < se 1 * (y + n))
theorem c_X8_carries (E : gE) (M : gM) (a r y n : Int32) : gMet E k_X8_carries [.ref 130, .int a, .int r, .int y, .int n] M (gInt fun x M' => x = gB (carB4 a r y n (vSe (M 131))) ∧ M' = M) := by
  refine gMet.of (by decide +kernel) rfl (Nat.le_of_ble_eq_true rfl) (fun X hX hR => ?_)
  refine g_iload_n (i := 1) hX dX8_carries_0 rfl rfl rfl ?_
  refine g_if_le (tgt := 50) hX dX8_carries_1 (by decide) rfl (fun zc1 => ?_) (fun zc1 => ?_)
  · skip
    have zf1 : ¬ (0 : Int32) < a := Int32.not_lt.mpr zc1
    refine g_iconst hX dX8_carries_50 ic_0 rfl ?_
    refine g_zret hX hR (by first | exact Or.inl rfl | exact Or.inr rfl | exact gB_01 _) dX8_carries_51 ?_
    refine ⟨?_, rfl⟩; first | (refine gB_1 ?_; simp only [carB4, zd1, zd17, zd24, zd43]; decide) | (refine gB_n ?_; simp only [carB4, zf1]; simp; done) | (refine gB_n ?_; simp only [carB4, zf24]; simp; done) | (refine gB_n ?_; simp only [carB4, zf17]; simp; done) | (refine gB_n ?_; simp only [carB4, zf43]; simp; done)
  · skip
    have zd1 : (0 : Int32) < a := Int32.not_le.mp zc1
    refine g_iload_n (i := 2) hX dX8_carries_4 rfl rfl rfl ?_
    refine g_bipush hX dX8_carries_5 bc_100 rfl ?_
    first | refine g_imulN hX dX8_carries_7 rfl ?_ | refine g_imul hX dX8_carries_7 rfl ?_
    refine g_aload_n (i := 0) hX dX8_carries_8 rfl rfl rfl ?_
    refine g_getR hX fl_X8_7 rfl rfl dX8_carries_9 rfl ?_
    refine g_bipush hX dX8_carries_12 bc_12 rfl ?_
    refine g_iald hX rfl (rfl) (by omega) rfl dX8_carries_14 rfl ?_
    refine g_iload_n (i := 1) hX dX8_carries_15 rfl rfl rfl ?_
    first | refine g_imulN hX dX8_carries_16 rfl ?_ | refine g_imul hX dX8_carries_16 rfl ?_
    refine g_icmp_lt (tgt := 50) hX dX8_carries_17 (by decide) rfl (fun zc17 => ?_) (fun zc17 => ?_)
    · skip
      have zf17 : r * 100 < vSe (M 131) 0 * a := zc17
      refine g_iconst hX dX8_carries_50 ic_0 rfl ?_
      refine g_zret hX hR (by first | exact Or.inl rfl | exact Or.inr rfl | exact gB_01 _) dX8_carries_51 ?_
      refine ⟨?_, rfl⟩; first | (refine gB_1 ?_; simp only [carB4, zd1, zd17, zd24, zd43]; decide) | (refine gB_n ?_; simp only [carB4, zf1]; simp; done) | (refine gB_n ?_; simp only [carB4, zf24]; simp; done) | (refine gB_n ?_; simp only [carB4, zf17]; simp; done) | (refine gB_n ?_; simp only [carB4, zf43]; simp; done)
    · skip
      have zd17 : ¬ r * 100 < vSe (M 131) 0 * a := zc17
      refine g_iload_n (i := 3) hX dX8_carries_20 rfl rfl rfl ?_
      refine g_iload hX dX8_carries_21 rfl rfl ?_
      first | refine g_iaddN hX dX8_carries_23 rfl ?_ | refine g_iadd hX dX8_carries_23 rfl ?_
      refine g_if_le (tgt := 50) hX dX8_carries_24 (by decide) rfl (fun zc24 => ?_) (fun zc24 => ?_)
      · skip
        have zf24 : ¬ (0 : Int32) < y + n := Int32.not_lt.mpr zc24
        refine g_iconst hX dX8_carries_50 ic_0 rfl ?_
        refine g_zret hX hR (by first | exact Or.inl rfl | exact Or.inr rfl | exact gB_01 _) dX8_carries_51 ?_
        refine ⟨?_, rfl⟩; first | (refine gB_1 ?_; simp only [carB4, zd1, zd17, zd24, zd43]; decide) | (refine gB_n ?_; simp only [carB4, zf1]; simp; done) | (refine gB_n ?_; simp only [carB4, zf24]; simp; done) | (refine gB_n ?_; simp only [carB4, zf17]; simp; done) | (refine gB_n ?_; simp only [carB4, zf43]; simp; done)
      · skip
        have zd24 : (0 : Int32) < y + n := Int32.not_le.mp zc24
        refine g_iload_n (i := 3) hX dX8_carries_27 rfl rfl rfl ?_
        refine g_bipush hX dX8_carries_28 bc_100 rfl ?_
        first | refine g_imulN hX dX8_carries_30 rfl ?_ | refine g_imul hX dX8_carries_30 rfl ?_
        refine g_aload_n (i := 0) hX dX8_carries_31 rfl rfl rfl ?_
        refine g_getR hX fl_X8_7 rfl rfl dX8_carries_32 rfl ?_
        refine g_bipush hX dX8_carries_35 bc_13 rfl ?_
        refine g_iald hX rfl (rfl) (by omega) rfl dX8_carries_37 rfl ?_
        refine g_iload_n (i := 3) hX dX8_carries_38 rfl rfl rfl ?_
        refine g_iload hX dX8_carries_39 rfl rfl ?_
        first | refine g_iaddN hX dX8_carries_41 rfl ?_ | refine g_iadd hX dX8_carries_41 rfl ?_
        first | refine g_imulN hX dX8_carries_42 rfl ?_ | refine g_imul hX dX8_carries_42 rfl ?_
        refine g_icmp_lt (tgt := 50) hX dX8_carries_43 (by decide) rfl (fun zc43 => ?_) (fun zc43 => ?_)
        · skip
          have zf43 : y * 100 < vSe (M 131) 1 * (y + n) := zc43
          refine g_iconst hX dX8_carries_50 ic_0 rfl ?_
          refine g_zret hX hR (by first | exact Or.inl rfl | exact Or.inr rfl | exact gB_01 _) dX8_carries_51 ?_
          refine ⟨?_, rfl⟩; first | (refine gB_1 ?_; simp only [carB4, zd1, zd17, zd24, zd43]; decide) | (refine gB_n ?_; simp only [carB4, zf1]; simp; done) | (refine gB_n ?_; simp only [carB4, zf24]; simp; done) | (refine gB_n ?_; simp only [carB4, zf17]; simp; done) | (refine gB_n ?_; simp only [carB4, zf43]; simp; done)
        · skip
          have zd43 : ¬ y * 100 < vSe (M 131) 1 * (y + n) := zc43
          refine g_iconst hX dX8_carries_46 ic_1 rfl ?_
          refine g_goto (n := 51) hX dX8_carries_47 (by decide) ?_
          refine g_zret hX hR (by first | exact Or.inl rfl | exact Or.inr rfl | exact gB_01 _) dX8_carries_51 ?_
          refine ⟨?_, rfl⟩; first | (refine gB_1 ?_; simp only [carB4, zd1, zd17, zd24, zd43]; decide) | (refine gB_n ?_; simp only [carB4, zf1]; simp; done) | (refine gB_n ?_; simp only [carB4, zf24]; simp; done) | (refine gB_n ?_; simp only [carB4, zf17]; simp; done) | (refine gB_n ?_; simp only [carB4, zf43]; simp; done)
theorem c_X8_canGet (E : gE) (M : gM) (p : Nat) (v : Int32) (hp : p < 20) : gMet E k_X8_canGet [.ref 130, .int (nI p), .int v] M (gInt fun r M' => r = gB (decide (vPr (M 131) p = vBg (M 131) p) || decide (vPr (M 131) p = v)) ∧ M' = M) := by
  refine gMet.of (by decide +kernel) rfl (Nat.le_of_ble_eq_true rfl) (fun X hX hR => ?_)
  refine g_iload_n (i := 1) hX dX8_canGet_0 rfl rfl rfl ?_
  refine g_callSi hX (c_X8_clauseAt E M p) kf_X8_clauseAt rfl wk_X8_34 rfl rfl rfl rfl dX8_canGet_1 rfl (fun x1 M1 h1 => ?_)
  obtain ⟨rfl, hMq⟩ := h1; have hMq := hMq.symm; subst hMq
  refine g_istore_n (i := 3) hX dX8_canGet_4 rfl (Nat.le_of_ble_eq_true rfl) rfl ?_
  refine g_aload_n (i := 0) hX dX8_canGet_5 rfl rfl rfl ?_
  refine g_getR hX fl_X8_7 rfl rfl dX8_canGet_6 rfl ?_
  refine g_iload_n (i := 3) hX dX8_canGet_9 rfl rfl rfl ?_
  refine g_iconst hX dX8_canGet_10 ic_1 rfl ?_
  first | refine g_iaddN hX dX8_canGet_11 rfl ?_ | refine g_iadd hX dX8_canGet_11 rfl ?_
  refine g_ialdv (x := vPr (M 131) p) hX rfl (rfl) (by omega) rfl (rfl) dX8_canGet_12 rfl ?_
  refine g_aload_n (i := 0) hX dX8_canGet_13 rfl rfl rfl ?_
  refine g_getR hX fl_X8_7 rfl rfl dX8_canGet_14 rfl ?_
  refine g_iload_n (i := 3) hX dX8_canGet_17 rfl rfl rfl ?_
  refine g_iconst hX dX8_canGet_18 ic_2 rfl ?_
  first | refine g_iaddN hX dX8_canGet_19 rfl ?_ | refine g_iadd hX dX8_canGet_19 rfl ?_
  refine g_ialdv (x := vBg (M 131) p) hX rfl (rfl) (by omega) rfl (rfl) dX8_canGet_20 rfl ?_
  refine g_icmp_eq (tgt := 36) hX dX8_canGet_21 (by decide) rfl (fun zc21 => ?_) (fun zc21 => ?_)
  · skip
    refine g_iconst hX dX8_canGet_36 ic_1 rfl ?_
    refine g_goto (n := 41) hX dX8_canGet_37 (by decide) ?_
    refine g_zret hX hR (by first | exact Or.inl rfl | exact Or.inr rfl | exact gB_01 _) dX8_canGet_41 ?_
    refine ⟨?_, rfl⟩; first | (refine gB_1 ?_; rw [decide_eq_true zc21]; rfl) | (refine gB_1 ?_; rw [decide_eq_true zc33, Bool.or_true]; done) | (refine gB_n ?_; rw [decide_eq_false zc21, decide_eq_false zc33]; rfl)
  · skip
    refine g_aload_n (i := 0) hX dX8_canGet_24 rfl rfl rfl ?_
    refine g_getR hX fl_X8_7 rfl rfl dX8_canGet_25 rfl ?_
    refine g_iload_n (i := 3) hX dX8_canGet_28 rfl rfl rfl ?_
    refine g_iconst hX dX8_canGet_29 ic_1 rfl ?_
    first | refine g_iaddN hX dX8_canGet_30 rfl ?_ | refine g_iadd hX dX8_canGet_30 rfl ?_
    refine g_ialdv (x := vPr (M 131) p) hX rfl (rfl) (by omega) rfl (rfl) dX8_canGet_31 rfl ?_
    refine g_iload_n (i := 2) hX dX8_canGet_32 rfl rfl rfl ?_
    refine g_icmp_ne (tgt := 40) hX dX8_canGet_33 (by decide) rfl (fun zc33 => ?_) (fun zc33 => ?_)
    · skip
      refine g_iconst hX dX8_canGet_40 ic_0 rfl ?_
      refine g_zret hX hR (by first | exact Or.inl rfl | exact Or.inr rfl | exact gB_01 _) dX8_canGet_41 ?_
      refine ⟨?_, rfl⟩; first | (refine gB_1 ?_; rw [decide_eq_true zc21]; rfl) | (refine gB_1 ?_; rw [decide_eq_true zc33, Bool.or_true]; done) | (refine gB_n ?_; rw [decide_eq_false zc21, decide_eq_false zc33]; rfl)
    · skip
      refine g_iconst hX dX8_canGet_36 ic_1 rfl ?_
      refine g_goto (n := 41) hX dX8_canGet_37 (by decide) ?_
      refine g_zret hX hR (by first | exact Or.inl rfl | exact Or.inr rfl | exact gB_01 _) dX8_canGet_41 ?_
      refine ⟨?_, rfl⟩; first | (refine gB_1 ?_; rw [decide_eq_true zc21]; rfl) | (refine gB_1 ?_; rw [decide_eq_true zc33, Bool.or_true]; done) | (refine gB_n ?_; rw [decide_eq_false zc21, decide_eq_false zc33]; rfl)
/-- the reference's rank -/
def aheadM (kd cc w : Nat → Int32) (mb : Nat → Nat) (a b : Nat) : Bool := if kd a = kd b then (if cc a = cc b then (if w (mb a) = w (mb b) then decide (a < b) else decide (w (mb b) < w (mb a))) else decide (cc a < cc b)) else decide (kd a = 1)
theorem c_X8_isAhead (E : gE) (M : gM) (n a b : Nat) (mb : Nat → Nat) (hb : n ≤ 30) (ha : a < n) (hbb : b < n) (hm : ∀ k, k < n → mb k < 10 ∧ vCm (M 131) k = nI (mb k)) : gMet E k_X8_isAhead [.ref 130, .int (nI a), .int (nI b)] M (gInt fun r M' => r = gB (aheadM (vKd (M 131)) (vCc (M 131)) (vW (M 131)) mb a b) ∧ M' = M) := by
  refine gMet.of (by decide +kernel) rfl (Nat.le_of_ble_eq_true rfl) (fun X hX hR => ?_)
  obtain ⟨ma1, ma2⟩ := hm a ha
  obtain ⟨mb1, mb2⟩ := hm b hbb
  refine g_iload_n (i := 1) hX dX8_isAhead_0 rfl rfl rfl ?_
  refine g_callSi hX (c_X8_commentAt E M a) kf_X8_commentAt rfl wk_X8_48 rfl rfl rfl rfl dX8_isAhead_1 rfl (fun x1 M1 h1 => ?_)
  obtain ⟨rfl, hMq⟩ := h1; have hMq := hMq.symm; subst hMq
  refine g_istore_n (i := 3) hX dX8_isAhead_4 rfl (Nat.le_of_ble_eq_true rfl) rfl ?_
  refine g_iload_n (i := 2) hX dX8_isAhead_5 rfl rfl rfl ?_
  refine g_callSi hX (c_X8_commentAt E M b) kf_X8_commentAt rfl wk_X8_48 rfl rfl rfl rfl dX8_isAhead_6 rfl (fun x6 M6 h6 => ?_)
  obtain ⟨rfl, hMq⟩ := h6; have hMq := hMq.symm; subst hMq
  refine g_istore hX dX8_isAhead_9 (Nat.le_of_ble_eq_true rfl) rfl ?_
  refine g_aload_n (i := 0) hX dX8_isAhead_11 rfl rfl rfl ?_
  refine g_getR hX fl_X8_7 rfl rfl dX8_isAhead_12 rfl ?_
  refine g_iload_n (i := 3) hX dX8_isAhead_15 rfl rfl rfl ?_
  refine g_iconst hX dX8_isAhead_16 ic_2 rfl ?_
  first | refine g_iaddN hX dX8_isAhead_17 rfl ?_ | refine g_iadd hX dX8_isAhead_17 rfl ?_
  refine g_ialdv (x := vKd (M 131) a) hX rfl (rfl) (by omega) rfl (rfl) dX8_isAhead_18 rfl ?_
  refine g_aload_n (i := 0) hX dX8_isAhead_19 rfl rfl rfl ?_
  refine g_getR hX fl_X8_7 rfl rfl dX8_isAhead_20 rfl ?_
  refine g_iload hX dX8_isAhead_23 rfl rfl ?_
  refine g_iconst hX dX8_isAhead_25 ic_2 rfl ?_
  first | refine g_iaddN hX dX8_isAhead_26 rfl ?_ | refine g_iadd hX dX8_isAhead_26 rfl ?_
  refine g_ialdv (x := vKd (M 131) b) hX rfl (rfl) (by omega) rfl (rfl) dX8_isAhead_27 rfl ?_
  refine g_icmp_eq (tgt := 49) hX dX8_isAhead_28 (by decide) rfl (fun zc28 => ?_) (fun zc28 => ?_)
  · skip
    refine g_aload_n (i := 0) hX dX8_isAhead_49 rfl rfl rfl ?_
    refine g_getR hX fl_X8_7 rfl rfl dX8_isAhead_50 rfl ?_
    refine g_iload_n (i := 3) hX dX8_isAhead_53 rfl rfl rfl ?_
    refine g_iconst hX dX8_isAhead_54 ic_1 rfl ?_
    first | refine g_iaddN hX dX8_isAhead_55 rfl ?_ | refine g_iadd hX dX8_isAhead_55 rfl ?_
    refine g_ialdv (x := vCc (M 131) a) hX rfl (rfl) (by omega) rfl (rfl) dX8_isAhead_56 rfl ?_
    refine g_aload_n (i := 0) hX dX8_isAhead_57 rfl rfl rfl ?_
    refine g_getR hX fl_X8_7 rfl rfl dX8_isAhead_58 rfl ?_
    refine g_iload hX dX8_isAhead_61 rfl rfl ?_
    refine g_iconst hX dX8_isAhead_63 ic_1 rfl ?_
    first | refine g_iaddN hX dX8_isAhead_64 rfl ?_ | refine g_iadd hX dX8_isAhead_64 rfl ?_
    refine g_ialdv (x := vCc (M 131) b) hX rfl (rfl) (by omega) rfl (rfl) dX8_isAhead_65 rfl ?_
    refine g_icmp_eq (tgt := 95) hX dX8_isAhead_66 (by decide) rfl (fun zc66 => ?_) (fun zc66 => ?_)
    · skip
      refine g_aload_n (i := 0) hX dX8_isAhead_95 rfl rfl rfl ?_
      refine g_getR hX fl_X8_7 rfl rfl dX8_isAhead_96 rfl ?_
      refine g_aload_n (i := 0) hX dX8_isAhead_99 rfl rfl rfl ?_
      refine g_getR hX fl_X8_7 rfl rfl dX8_isAhead_100 rfl ?_
      refine g_iload_n (i := 3) hX dX8_isAhead_103 rfl rfl rfl ?_
      refine g_iconst hX dX8_isAhead_104 ic_0 rfl ?_
      first | refine g_iaddN hX dX8_isAhead_105 rfl ?_ | refine g_iadd hX dX8_isAhead_105 rfl ?_
      refine g_ialdv (x := nI (mb a)) hX rfl (rfl) (by omega) rfl (ma2) dX8_isAhead_106 rfl ?_
      refine g_callSi hX (c_X8_memberAt E M (mb a)) kf_X8_memberAt rfl wk_X8_27 rfl rfl rfl rfl dX8_isAhead_107 rfl (fun x107 M107 h107 => ?_)
      obtain ⟨rfl, hMq⟩ := h107; have hMq := hMq.symm; subst hMq
      refine g_iconst hX dX8_isAhead_110 ic_0 rfl ?_
      first | refine g_iaddN hX dX8_isAhead_111 rfl ?_ | refine g_iadd hX dX8_isAhead_111 rfl ?_
      refine g_ialdv (x := vW (M 131) (mb a)) hX rfl (rfl) (by omega) rfl (rfl) dX8_isAhead_112 rfl ?_
      refine g_istore hX dX8_isAhead_113 (Nat.le_of_ble_eq_true rfl) rfl ?_
      refine g_aload_n (i := 0) hX dX8_isAhead_115 rfl rfl rfl ?_
      refine g_getR hX fl_X8_7 rfl rfl dX8_isAhead_116 rfl ?_
      refine g_aload_n (i := 0) hX dX8_isAhead_119 rfl rfl rfl ?_
      refine g_getR hX fl_X8_7 rfl rfl dX8_isAhead_120 rfl ?_
      refine g_iload hX dX8_isAhead_123 rfl rfl ?_
      refine g_iconst hX dX8_isAhead_125 ic_0 rfl ?_
      first | refine g_iaddN hX dX8_isAhead_126 rfl ?_ | refine g_iadd hX dX8_isAhead_126 rfl ?_
      refine g_ialdv (x := nI (mb b)) hX rfl (rfl) (by omega) rfl (mb2) dX8_isAhead_127 rfl ?_
      refine g_callSi hX (c_X8_memberAt E M (mb b)) kf_X8_memberAt rfl wk_X8_27 rfl rfl rfl rfl dX8_isAhead_128 rfl (fun x128 M128 h128 => ?_)
      obtain ⟨rfl, hMq⟩ := h128; have hMq := hMq.symm; subst hMq
      refine g_iconst hX dX8_isAhead_131 ic_0 rfl ?_
      first | refine g_iaddN hX dX8_isAhead_132 rfl ?_ | refine g_iadd hX dX8_isAhead_132 rfl ?_
      refine g_ialdv (x := vW (M 131) (mb b)) hX rfl (rfl) (by omega) rfl (rfl) dX8_isAhead_133 rfl ?_
      refine g_istore hX dX8_isAhead_134 (Nat.le_of_ble_eq_true rfl) rfl ?_
      refine g_iload hX dX8_isAhead_136 rfl rfl ?_
      refine g_iload hX dX8_isAhead_138 rfl rfl ?_
      refine g_icmp_eq (tgt := 158) hX dX8_isAhead_140 (by decide) rfl (fun zc140 => ?_) (fun zc140 => ?_)
      · skip
        refine g_iload_n (i := 1) hX dX8_isAhead_158 rfl rfl rfl ?_
        refine g_iload_n (i := 2) hX dX8_isAhead_159 rfl rfl rfl ?_
        first | refine g_icmp_geN (tgt := 167) hX dX8_isAhead_160 (by decide) rfl (by omega) (by omega) (fun zc160 => ?_) (fun zc160 => ?_) | refine g_icmp_ge (tgt := 167) hX dX8_isAhead_160 (by decide) rfl (fun zc160 => ?_) (fun zc160 => ?_)
        · skip
          have zd : decide (a < b) = false := decide_eq_false (Nat.not_lt.mpr zc160)
          refine g_iconst hX dX8_isAhead_167 ic_0 rfl ?_
          refine g_zret hX hR (by first | exact Or.inl rfl | exact Or.inr rfl | exact gB_01 _) dX8_isAhead_168 ?_
          refine ⟨?_, rfl⟩; first | (rw [aheadM, if_pos zc28, if_pos zc66, if_neg zc140, zd]; rfl) | (rw [aheadM, if_pos zc28, if_pos zc66, if_pos zc140, zd]; rfl)
        · skip
          have zd : decide (a < b) = true := decide_eq_true (Nat.not_le.mp zc160)
          refine g_iconst hX dX8_isAhead_163 ic_1 rfl ?_
          refine g_goto (n := 168) hX dX8_isAhead_164 (by decide) ?_
          refine g_zret hX hR (by first | exact Or.inl rfl | exact Or.inr rfl | exact gB_01 _) dX8_isAhead_168 ?_
          refine ⟨?_, rfl⟩; first | (rw [aheadM, if_pos zc28, if_pos zc66, if_neg zc140, zd]; rfl) | (rw [aheadM, if_pos zc28, if_pos zc66, if_pos zc140, zd]; rfl)
      · skip
        refine g_iload hX dX8_isAhead_143 rfl rfl ?_
        refine g_iload hX dX8_isAhead_145 rfl rfl ?_
        refine g_icmp_le (tgt := 154) hX dX8_isAhead_147 (by decide) rfl (fun zc147 => ?_) (fun zc147 => ?_)
        · skip
          have zd : decide (vW (M 131) (mb b) < vW (M 131) (mb a)) = false := decide_eq_false (Int32.not_lt.mpr zc147)
          refine g_iconst hX dX8_isAhead_154 ic_0 rfl ?_
          refine g_goto (n := 168) hX dX8_isAhead_155 (by decide) ?_
          refine g_zret hX hR (by first | exact Or.inl rfl | exact Or.inr rfl | exact gB_01 _) dX8_isAhead_168 ?_
          refine ⟨?_, rfl⟩; first | (rw [aheadM, if_pos zc28, if_pos zc66, if_neg zc140, zd]; rfl) | (rw [aheadM, if_pos zc28, if_pos zc66, if_pos zc140, zd]; rfl)
        · skip
          have zd : decide (vW (M 131) (mb b) < vW (M 131) (mb a)) = true := decide_eq_true (Int32.not_le.mp zc147)
          refine g_iconst hX dX8_isAhead_150 ic_1 rfl ?_
          refine g_goto (n := 168) hX dX8_isAhead_151 (by decide) ?_
          refine g_zret hX hR (by first | exact Or.inl rfl | exact Or.inr rfl | exact gB_01 _) dX8_isAhead_168 ?_
          refine ⟨?_, rfl⟩; first | (rw [aheadM, if_pos zc28, if_pos zc66, if_neg zc140, zd]; rfl) | (rw [aheadM, if_pos zc28, if_pos zc66, if_pos zc140, zd]; rfl)
    · skip
      refine g_aload_n (i := 0) hX dX8_isAhead_69 rfl rfl rfl ?_
      refine g_getR hX fl_X8_7 rfl rfl dX8_isAhead_70 rfl ?_
      refine g_iload_n (i := 3) hX dX8_isAhead_73 rfl rfl rfl ?_
      refine g_iconst hX dX8_isAhead_74 ic_1 rfl ?_
      first | refine g_iaddN hX dX8_isAhead_75 rfl ?_ | refine g_iadd hX dX8_isAhead_75 rfl ?_
      refine g_ialdv (x := vCc (M 131) a) hX rfl (rfl) (by omega) rfl (rfl) dX8_isAhead_76 rfl ?_
      refine g_aload_n (i := 0) hX dX8_isAhead_77 rfl rfl rfl ?_
      refine g_getR hX fl_X8_7 rfl rfl dX8_isAhead_78 rfl ?_
      refine g_iload hX dX8_isAhead_81 rfl rfl ?_
      refine g_iconst hX dX8_isAhead_83 ic_1 rfl ?_
      first | refine g_iaddN hX dX8_isAhead_84 rfl ?_ | refine g_iadd hX dX8_isAhead_84 rfl ?_
      refine g_ialdv (x := vCc (M 131) b) hX rfl (rfl) (by omega) rfl (rfl) dX8_isAhead_85 rfl ?_
      refine g_icmp_ge (tgt := 93) hX dX8_isAhead_86 (by decide) rfl (fun zc86 => ?_) (fun zc86 => ?_)
      · skip
        have zd : decide (vCc (M 131) a < vCc (M 131) b) = false := decide_eq_false (Int32.not_lt.mpr zc86)
        refine g_iconst hX dX8_isAhead_93 ic_0 rfl ?_
        refine g_zret hX hR (by first | exact Or.inl rfl | exact Or.inr rfl | exact gB_01 _) dX8_isAhead_94 ?_
        refine ⟨?_, rfl⟩; rw [aheadM, if_pos zc28, if_neg zc66, zd]; rfl
      · skip
        have zd : decide (vCc (M 131) a < vCc (M 131) b) = true := decide_eq_true (Int32.not_le.mp zc86)
        refine g_iconst hX dX8_isAhead_89 ic_1 rfl ?_
        refine g_goto (n := 94) hX dX8_isAhead_90 (by decide) ?_
        refine g_zret hX hR (by first | exact Or.inl rfl | exact Or.inr rfl | exact gB_01 _) dX8_isAhead_94 ?_
        refine ⟨?_, rfl⟩; rw [aheadM, if_pos zc28, if_neg zc66, zd]; rfl
  · skip
    refine g_aload_n (i := 0) hX dX8_isAhead_31 rfl rfl rfl ?_
    refine g_getR hX fl_X8_7 rfl rfl dX8_isAhead_32 rfl ?_
    refine g_iload_n (i := 3) hX dX8_isAhead_35 rfl rfl rfl ?_
    refine g_iconst hX dX8_isAhead_36 ic_2 rfl ?_
    first | refine g_iaddN hX dX8_isAhead_37 rfl ?_ | refine g_iadd hX dX8_isAhead_37 rfl ?_
    refine g_ialdv (x := vKd (M 131) a) hX rfl (rfl) (by omega) rfl (rfl) dX8_isAhead_38 rfl ?_
    refine g_iconst hX dX8_isAhead_39 ic_1 rfl ?_
    refine g_icmp_ne (tgt := 47) hX dX8_isAhead_40 (by decide) rfl (fun zc40 => ?_) (fun zc40 => ?_)
    · skip
      have zd : decide (vKd (M 131) a = 1) = false := decide_eq_false zc40
      refine g_iconst hX dX8_isAhead_47 ic_0 rfl ?_
      refine g_zret hX hR (by first | exact Or.inl rfl | exact Or.inr rfl | exact gB_01 _) dX8_isAhead_48 ?_
      refine ⟨?_, rfl⟩; rw [aheadM, if_neg zc28, zd]; rfl
    · skip
      have zd : decide (vKd (M 131) a = 1) = true := decide_eq_true zc40
      refine g_iconst hX dX8_isAhead_43 ic_1 rfl ?_
      refine g_goto (n := 48) hX dX8_isAhead_44 (by decide) ?_
      refine g_zret hX hR (by first | exact Or.inl rfl | exact Or.inr rfl | exact gB_01 _) dX8_isAhead_48 ?_
      refine ⟨?_, rfl⟩; rw [aheadM, if_neg zc28, zd]; rfl
theorem c_X8_next (E : gE) (M : gM) (n : Nat) (mb : Nat → Nat) (hn : M 131 9 = nI n) (hb : n ≤ 30) (hm : ∀ k, k < n → mb k < 10 ∧ vCm (M 131) k = nI (mb k)) : gMet E k_X8_next [.ref 130] M (gInt fun r M' => r = optI (-4) (bestTo n (pendB (vSt (M 131))) (aheadM (vKd (M 131)) (vCc (M 131)) (vW (M 131)) mb)) ∧ M' = M) := by
  refine gMet.of (by decide +kernel) rfl (Nat.le_of_ble_eq_true rfl) (fun X hX hR => ?_)
  have loop := up_loop n (fun k => ∀ b, gG X E M 5 [some (.ref 130), some (.int (optI (-4) (bestTo k (pendB (vSt (M 131))) (aheadM (vKd (M 131)) (vCc (M 131)) (vW (M 131)) mb)))), some (.int (nI k)), b] [] (gQ X E (gInt fun r M' => r = optI (-4) (bestTo n (pendB (vSt (M 131))) (aheadM (vKd (M 131)) (vCc (M 131)) (vW (M 131)) mb)) ∧ M' = M))) ?_ ?_
  · skip
    refine g_bipush hX dX8_next_0 bc_m4 rfl ?_
    refine g_istore_n (i := 1) hX dX8_next_2 rfl (Nat.le_of_ble_eq_true rfl) rfl ?_
    refine g_iconst hX dX8_next_3 ic_0 rfl ?_
    refine g_istore_n (i := 2) hX dX8_next_4 rfl (Nat.le_of_ble_eq_true rfl) rfl ?_
    exact loop 0 (Nat.zero_le _) _
  · intro b
    refine g_iload_n (i := 2) hX dX8_next_5 rfl rfl rfl ?_
    refine g_aload_n (i := 0) hX dX8_next_6 rfl rfl rfl ?_
    refine g_getR hX fl_X8_7 rfl rfl dX8_next_7 rfl ?_
    refine g_bipush hX dX8_next_10 bc_9 rfl ?_
    refine g_ialdv (x := nI n) hX rfl (rfl) (by omega) rfl (hn) dX8_next_12 rfl ?_
    first | refine g_icmp_geN (tgt := 68) hX dX8_next_13 (by decide) rfl (by omega) (by omega) (fun zc13 => ?_) (fun zc13 => absurd zc13 (by omega)) | refine g_icmp_ge (tgt := 68) hX dX8_next_13 (by decide) rfl (fun zc13 => ?_) (fun zc13 => absurd zc13 (by omega))
    refine g_iload_n (i := 1) hX dX8_next_68 rfl rfl rfl ?_
    refine g_iret hX hR dX8_next_69 ?_
    exact ⟨rfl, rfl⟩
  · intro k hk ih b
    simp only [bestTo] at ih
    cases ho : bestTo k (pendB (vSt (M 131))) (aheadM (vKd (M 131)) (vCc (M 131)) (vW (M 131)) mb) with
    | none =>
      rw [ho] at ih
      refine g_iload_n (i := 2) hX dX8_next_5 rfl rfl rfl ?_
      refine g_aload_n (i := 0) hX dX8_next_6 rfl rfl rfl ?_
      refine g_getR hX fl_X8_7 rfl rfl dX8_next_7 rfl ?_
      refine g_bipush hX dX8_next_10 bc_9 rfl ?_
      refine g_ialdv (x := nI n) hX rfl (rfl) (by omega) rfl (hn) dX8_next_12 rfl ?_
      first | refine g_icmp_geN (tgt := 68) hX dX8_next_13 (by decide) rfl (by omega) (by omega) (fun zc13 => absurd zc13 (by omega)) (fun zc13 => ?_) | refine g_icmp_ge (tgt := 68) hX dX8_next_13 (by decide) rfl (fun zc13 => absurd zc13 (by omega)) (fun zc13 => ?_)
      refine g_aload_n (i := 0) hX dX8_next_16 rfl rfl rfl ?_
      refine g_getR hX fl_X8_7 rfl rfl dX8_next_17 rfl ?_
      refine g_iload_n (i := 2) hX dX8_next_20 rfl rfl rfl ?_
      refine g_callSi hX (c_X8_commentAt E M k) kf_X8_commentAt rfl wk_X8_48 rfl rfl rfl rfl dX8_next_21 rfl (fun x21 M21 h21 => ?_)
      obtain ⟨rfl, hMq⟩ := h21; have hMq := hMq.symm; subst hMq
      refine g_iconst hX dX8_next_24 ic_4 rfl ?_
      first | refine g_iaddN hX dX8_next_25 rfl ?_ | refine g_iadd hX dX8_next_25 rfl ?_
      refine g_iald hX rfl (rfl) (by omega) rfl dX8_next_26 rfl ?_
      refine g_iconst hX dX8_next_27 ic_1 rfl ?_
      refine g_icmp_ne (tgt := 50) hX dX8_next_28 (by decide) rfl (fun zc28 => ?_) (fun zc28 => ?_)
      · skip
        have zc : pendB (vSt (M 131)) k = false := decide_eq_false zc28
        refine g_iconst hX dX8_next_50 ic_0 rfl ?_
        refine g_istore_n (i := 3) hX dX8_next_51 rfl (Nat.le_of_ble_eq_true rfl) rfl ?_
        refine g_iload_n (i := 3) hX dX8_next_52 rfl rfl rfl ?_
        refine g_if_eq (tgt := 60) hX dX8_next_53 (by decide) rfl (fun zc53 => ?_) (fun zc53 => ?_)
        · skip
          have z53 := zc53
          refine g_iload_n (i := 1) hX dX8_next_60 rfl rfl rfl ?_
          refine g_istore_n (i := 1) hX dX8_next_61 rfl (Nat.le_of_ble_eq_true rfl) rfl ?_
          first | refine g_iincN hX dX8_next_62 ic_1 rfl (Nat.le_of_ble_eq_true rfl) rfl ?_ | refine g_iinc hX dX8_next_62 ic_1 rfl rfl (Nat.le_of_ble_eq_true rfl) rfl ?_
          refine g_goto (n := 5) hX dX8_next_65 (by decide) ?_
          first
          | exact absurd zc53 (by decide)
          | exact absurd rfl zc53
          | (rw [zc] at ih; exact ih _)
        · skip
          refine g_iload_n (i := 2) hX dX8_next_56 rfl rfl rfl ?_
          refine g_goto (n := 61) hX dX8_next_57 (by decide) ?_
          refine g_istore_n (i := 1) hX dX8_next_61 rfl (Nat.le_of_ble_eq_true rfl) rfl ?_
          first | refine g_iincN hX dX8_next_62 ic_1 rfl (Nat.le_of_ble_eq_true rfl) rfl ?_ | refine g_iinc hX dX8_next_62 ic_1 rfl rfl (Nat.le_of_ble_eq_true rfl) rfl ?_
          refine g_goto (n := 5) hX dX8_next_65 (by decide) ?_
          first
          | exact absurd zc53 (by decide)
          | exact absurd rfl zc53
          | (rw [zc] at ih; exact ih _)
      · skip
        have zc : pendB (vSt (M 131)) k = true := decide_eq_true zc28
        refine g_iload_n (i := 1) hX dX8_next_31 rfl rfl rfl ?_
        refine g_bipush hX dX8_next_32 bc_m4 rfl ?_
        refine g_icmp_eq (tgt := 46) hX dX8_next_34 (by decide) rfl (fun zc34 => ?_) (fun zc34 => absurd rfl zc34)
        refine g_iconst hX dX8_next_46 ic_1 rfl ?_
        refine g_goto (n := 51) hX dX8_next_47 (by decide) ?_
        refine g_istore_n (i := 3) hX dX8_next_51 rfl (Nat.le_of_ble_eq_true rfl) rfl ?_
        refine g_iload_n (i := 3) hX dX8_next_52 rfl rfl rfl ?_
        refine g_if_eq (tgt := 60) hX dX8_next_53 (by decide) rfl (fun zc53 => ?_) (fun zc53 => ?_)
        · skip
          have z53 := zc53
          refine g_iload_n (i := 1) hX dX8_next_60 rfl rfl rfl ?_
          refine g_istore_n (i := 1) hX dX8_next_61 rfl (Nat.le_of_ble_eq_true rfl) rfl ?_
          first | refine g_iincN hX dX8_next_62 ic_1 rfl (Nat.le_of_ble_eq_true rfl) rfl ?_ | refine g_iinc hX dX8_next_62 ic_1 rfl rfl (Nat.le_of_ble_eq_true rfl) rfl ?_
          refine g_goto (n := 5) hX dX8_next_65 (by decide) ?_
          first
          | exact absurd zc53 (by decide)
          | exact absurd rfl zc53
          | (rw [zc] at ih; exact ih _)
        · skip
          refine g_iload_n (i := 2) hX dX8_next_56 rfl rfl rfl ?_
          refine g_goto (n := 61) hX dX8_next_57 (by decide) ?_
          refine g_istore_n (i := 1) hX dX8_next_61 rfl (Nat.le_of_ble_eq_true rfl) rfl ?_
          first | refine g_iincN hX dX8_next_62 ic_1 rfl (Nat.le_of_ble_eq_true rfl) rfl ?_ | refine g_iinc hX dX8_next_62 ic_1 rfl rfl (Nat.le_of_ble_eq_true rfl) rfl ?_
          refine g_goto (n := 5) hX dX8_next_65 (by decide) ?_
          first
          | exact absurd zc53 (by decide)
          | exact absurd rfl zc53
          | (rw [zc] at ih; exact ih _)
    | some q =>
      rw [ho] at ih
      have hq := (bestTo_lt ho).1
      have hne : ¬ nI q = -4 := by
        intro e
        have h1 := nI_toInt (n := q) (by omega)
        rw [e] at h1
        have : ((-4 : Int32)).toInt = -4 := by decide
        omega
      refine g_iload_n (i := 2) hX dX8_next_5 rfl rfl rfl ?_
      refine g_aload_n (i := 0) hX dX8_next_6 rfl rfl rfl ?_
      refine g_getR hX fl_X8_7 rfl rfl dX8_next_7 rfl ?_
      refine g_bipush hX dX8_next_10 bc_9 rfl ?_
      refine g_ialdv (x := nI n) hX rfl (rfl) (by omega) rfl (hn) dX8_next_12 rfl ?_
      first | refine g_icmp_geN (tgt := 68) hX dX8_next_13 (by decide) rfl (by omega) (by omega) (fun zc13 => absurd zc13 (by omega)) (fun zc13 => ?_) | refine g_icmp_ge (tgt := 68) hX dX8_next_13 (by decide) rfl (fun zc13 => absurd zc13 (by omega)) (fun zc13 => ?_)
      refine g_aload_n (i := 0) hX dX8_next_16 rfl rfl rfl ?_
      refine g_getR hX fl_X8_7 rfl rfl dX8_next_17 rfl ?_
      refine g_iload_n (i := 2) hX dX8_next_20 rfl rfl rfl ?_
      refine g_callSi hX (c_X8_commentAt E M k) kf_X8_commentAt rfl wk_X8_48 rfl rfl rfl rfl dX8_next_21 rfl (fun x21 M21 h21 => ?_)
      obtain ⟨rfl, hMq⟩ := h21; have hMq := hMq.symm; subst hMq
      refine g_iconst hX dX8_next_24 ic_4 rfl ?_
      first | refine g_iaddN hX dX8_next_25 rfl ?_ | refine g_iadd hX dX8_next_25 rfl ?_
      refine g_iald hX rfl (rfl) (by omega) rfl dX8_next_26 rfl ?_
      refine g_iconst hX dX8_next_27 ic_1 rfl ?_
      refine g_icmp_ne (tgt := 50) hX dX8_next_28 (by decide) rfl (fun zc28 => ?_) (fun zc28 => ?_)
      · skip
        have zc : pendB (vSt (M 131)) k = false := decide_eq_false zc28
        refine g_iconst hX dX8_next_50 ic_0 rfl ?_
        refine g_istore_n (i := 3) hX dX8_next_51 rfl (Nat.le_of_ble_eq_true rfl) rfl ?_
        refine g_iload_n (i := 3) hX dX8_next_52 rfl rfl rfl ?_
        refine g_if_eq (tgt := 60) hX dX8_next_53 (by decide) rfl (fun zc53 => ?_) (fun zc53 => ?_)
        · skip
          refine g_iload_n (i := 1) hX dX8_next_60 rfl rfl rfl ?_
          refine g_istore_n (i := 1) hX dX8_next_61 rfl (Nat.le_of_ble_eq_true rfl) rfl ?_
          first | refine g_iincN hX dX8_next_62 ic_1 rfl (Nat.le_of_ble_eq_true rfl) rfl ?_ | refine g_iinc hX dX8_next_62 ic_1 rfl rfl (Nat.le_of_ble_eq_true rfl) rfl ?_
          refine g_goto (n := 5) hX dX8_next_65 (by decide) ?_
          first
          | exact absurd zc53 (by decide)
          | exact absurd rfl zc53
          | (rw [zc] at ih; exact ih _)
          | (rw [zc, isB, zc43] at ih; exact ih _)
        · skip
          refine g_iload_n (i := 2) hX dX8_next_56 rfl rfl rfl ?_
          refine g_goto (n := 61) hX dX8_next_57 (by decide) ?_
          refine g_istore_n (i := 1) hX dX8_next_61 rfl (Nat.le_of_ble_eq_true rfl) rfl ?_
          first | refine g_iincN hX dX8_next_62 ic_1 rfl (Nat.le_of_ble_eq_true rfl) rfl ?_ | refine g_iinc hX dX8_next_62 ic_1 rfl rfl (Nat.le_of_ble_eq_true rfl) rfl ?_
          refine g_goto (n := 5) hX dX8_next_65 (by decide) ?_
          first
          | exact absurd zc53 (by decide)
          | exact absurd rfl zc53
          | (rw [zc] at ih; exact ih _)
          | (rw [zc, isB, zc43] at ih; exact ih _)
      · skip
        have zc : pendB (vSt (M 131)) k = true := decide_eq_true zc28
        refine g_iload_n (i := 1) hX dX8_next_31 rfl rfl rfl ?_
        refine g_bipush hX dX8_next_32 bc_m4 rfl ?_
        refine g_icmp_eq (tgt := 46) hX dX8_next_34 (by decide) rfl (fun zc34 => absurd zc34 (hne)) (fun zc34 => ?_)
        refine g_aload_n (i := 0) hX dX8_next_37 rfl rfl rfl ?_
        refine g_iload_n (i := 2) hX dX8_next_38 rfl rfl rfl ?_
        refine g_iload_n (i := 1) hX dX8_next_39 rfl rfl rfl ?_
        refine g_callVi hX (c_X8_isAhead E M n k q mb hb hk (by omega) hm) kf_X8_isAhead rfl wk_X8_94 rfl rfl rfl rfl rfl dX8_next_40 rfl (fun x40 M40 h40 => ?_)
        obtain ⟨rfl, hMq⟩ := h40; have hMq := hMq.symm; subst hMq
        first | refine g_if_eqB (tgt := 50) hX dX8_next_43 (by decide) rfl (fun zc43 => ?_) (fun zc43 => ?_) | refine g_if_eq (tgt := 50) hX dX8_next_43 (by decide) rfl (fun zc43 => ?_) (fun zc43 => ?_)
        · skip
          refine g_iconst hX dX8_next_50 ic_0 rfl ?_
          refine g_istore_n (i := 3) hX dX8_next_51 rfl (Nat.le_of_ble_eq_true rfl) rfl ?_
          refine g_iload_n (i := 3) hX dX8_next_52 rfl rfl rfl ?_
          refine g_if_eq (tgt := 60) hX dX8_next_53 (by decide) rfl (fun zc53 => ?_) (fun zc53 => ?_)
          · skip
            refine g_iload_n (i := 1) hX dX8_next_60 rfl rfl rfl ?_
            refine g_istore_n (i := 1) hX dX8_next_61 rfl (Nat.le_of_ble_eq_true rfl) rfl ?_
            first | refine g_iincN hX dX8_next_62 ic_1 rfl (Nat.le_of_ble_eq_true rfl) rfl ?_ | refine g_iinc hX dX8_next_62 ic_1 rfl rfl (Nat.le_of_ble_eq_true rfl) rfl ?_
            refine g_goto (n := 5) hX dX8_next_65 (by decide) ?_
            first
            | exact absurd zc53 (by decide)
            | exact absurd rfl zc53
            | (rw [zc] at ih; exact ih _)
            | (rw [zc, isB, zc43] at ih; exact ih _)
          · skip
            refine g_iload_n (i := 2) hX dX8_next_56 rfl rfl rfl ?_
            refine g_goto (n := 61) hX dX8_next_57 (by decide) ?_
            refine g_istore_n (i := 1) hX dX8_next_61 rfl (Nat.le_of_ble_eq_true rfl) rfl ?_
            first | refine g_iincN hX dX8_next_62 ic_1 rfl (Nat.le_of_ble_eq_true rfl) rfl ?_ | refine g_iinc hX dX8_next_62 ic_1 rfl rfl (Nat.le_of_ble_eq_true rfl) rfl ?_
            refine g_goto (n := 5) hX dX8_next_65 (by decide) ?_
            first
            | exact absurd zc53 (by decide)
            | exact absurd rfl zc53
            | (rw [zc] at ih; exact ih _)
            | (rw [zc, isB, zc43] at ih; exact ih _)
        · skip
          refine g_iconst hX dX8_next_46 ic_1 rfl ?_
          refine g_goto (n := 51) hX dX8_next_47 (by decide) ?_
          refine g_istore_n (i := 3) hX dX8_next_51 rfl (Nat.le_of_ble_eq_true rfl) rfl ?_
          refine g_iload_n (i := 3) hX dX8_next_52 rfl rfl rfl ?_
          refine g_if_eq (tgt := 60) hX dX8_next_53 (by decide) rfl (fun zc53 => ?_) (fun zc53 => ?_)
          · skip
            refine g_iload_n (i := 1) hX dX8_next_60 rfl rfl rfl ?_
            refine g_istore_n (i := 1) hX dX8_next_61 rfl (Nat.le_of_ble_eq_true rfl) rfl ?_
            first | refine g_iincN hX dX8_next_62 ic_1 rfl (Nat.le_of_ble_eq_true rfl) rfl ?_ | refine g_iinc hX dX8_next_62 ic_1 rfl rfl (Nat.le_of_ble_eq_true rfl) rfl ?_
            refine g_goto (n := 5) hX dX8_next_65 (by decide) ?_
            first
            | exact absurd zc53 (by decide)
            | exact absurd rfl zc53
            | (rw [zc] at ih; exact ih _)
            | (rw [zc, isB, zc43] at ih; exact ih _)
          · skip
            refine g_iload_n (i := 2) hX dX8_next_56 rfl rfl rfl ?_
            refine g_goto (n := 61) hX dX8_next_57 (by decide) ?_
            refine g_istore_n (i := 1) hX dX8_next_61 rfl (Nat.le_of_ble_eq_true rfl) rfl ?_
            first | refine g_iincN hX dX8_next_62 ic_1 rfl (Nat.le_of_ble_eq_true rfl) rfl ?_ | refine g_iinc hX dX8_next_62 ic_1 rfl rfl (Nat.le_of_ble_eq_true rfl) rfl ?_
            refine g_goto (n := 5) hX dX8_next_65 (by decide) ?_
            first
            | exact absurd zc53 (by decide)
            | exact absurd rfl zc53
            | (rw [zc] at ih; exact ih _)
            | (rw [zc, isB, zc43] at ih; exact ih _)
theorem c_X8_giver (E : gE) (M : gM) (n : Nat) (p v : Int32) (hn : M 131 9 = nI n) (hb : n ≤ 30) : gMet E k_X8_giver [.ref 130, .int p, .int v] M (gInt fun r M' => r = optI (-1) (bestTo n (behB (vCc (M 131)) (vSt (M 131)) (vGv (M 131)) p v) (turnB (vTn (M 131)))) ∧ M' = M) := by
  refine gMet.of (by decide +kernel) rfl (Nat.le_of_ble_eq_true rfl) (fun X hX hR => ?_)
  have loop := up_loop n (fun k => ∀ a b, gG X E M 5 [some (.ref 130), some (.int p), some (.int v), some (.int (optI (-1) (bestTo k (behB (vCc (M 131)) (vSt (M 131)) (vGv (M 131)) p v) (turnB (vTn (M 131)))))), some (.int (nI k)), a, b] [] (gQ X E (gInt fun r M' => r = optI (-1) (bestTo n (behB (vCc (M 131)) (vSt (M 131)) (vGv (M 131)) p v) (turnB (vTn (M 131)))) ∧ M' = M))) ?_ ?_
  · skip
    refine g_iconst hX dX8_giver_0 ic_m1 rfl ?_
    refine g_istore_n (i := 3) hX dX8_giver_1 rfl (Nat.le_of_ble_eq_true rfl) rfl ?_
    refine g_iconst hX dX8_giver_2 ic_0 rfl ?_
    refine g_istore hX dX8_giver_3 (Nat.le_of_ble_eq_true rfl) rfl ?_
    exact loop 0 (Nat.zero_le _) _ _
  · intro a b
    refine g_iload hX dX8_giver_5 rfl rfl ?_
    refine g_aload_n (i := 0) hX dX8_giver_7 rfl rfl rfl ?_
    refine g_getR hX fl_X8_7 rfl rfl dX8_giver_8 rfl ?_
    refine g_bipush hX dX8_giver_11 bc_9 rfl ?_
    refine g_ialdv (x := nI n) hX rfl (rfl) (by omega) rfl (hn) dX8_giver_13 rfl ?_
    first | refine g_icmp_geN (tgt := 131) hX dX8_giver_14 (by decide) rfl (by omega) (by omega) (fun zc14 => ?_) (fun zc14 => absurd zc14 (by omega)) | refine g_icmp_ge (tgt := 131) hX dX8_giver_14 (by decide) rfl (fun zc14 => ?_) (fun zc14 => absurd zc14 (by omega))
    refine g_iload_n (i := 3) hX dX8_giver_131 rfl rfl rfl ?_
    refine g_iret hX hR dX8_giver_132 ?_
    exact ⟨rfl, rfl⟩
  · intro k hk ih a b
    simp only [bestTo] at ih
    have hbe : behB (vCc (M 131)) (vSt (M 131)) (vGv (M 131)) p v k = (decide (vCc (M 131) k = p) && gaveB (vSt (M 131) k) && decide (vGv (M 131) k = v)) := rfl
    have tail : ∀ g : Bool, g = behB (vCc (M 131)) (vSt (M 131)) (vGv (M 131)) p v k → gG X E M 84 [some (.ref 130), some (.int p), some (.int v), some (.int (optI (-1) (bestTo k (behB (vCc (M 131)) (vSt (M 131)) (vGv (M 131)) p v) (turnB (vTn (M 131)))))), some (.int (nI k)), some (.int (nI (973 + 8 * k))), some (.int (gB g))] [] (gQ X E (gInt fun r M' => r = optI (-1) (bestTo n (behB (vCc (M 131)) (vSt (M 131)) (vGv (M 131)) p v) (turnB (vTn (M 131)))) ∧ M' = M)) := by
      intro g hg
      rw [← hg] at ih
      cases ho : bestTo k (behB (vCc (M 131)) (vSt (M 131)) (vGv (M 131)) p v) (turnB (vTn (M 131))) with
      | none =>
        rw [ho] at ih
        refine g_iload hX dX8_giver_84 rfl rfl ?_
        first | refine g_if_eqB (tgt := 123) hX dX8_giver_86 (by decide) rfl (fun zc86 => ?_) (fun zc86 => ?_) | refine g_if_eq (tgt := 123) hX dX8_giver_86 (by decide) rfl (fun zc86 => ?_) (fun zc86 => ?_)
        · skip
          refine g_iload_n (i := 3) hX dX8_giver_123 rfl rfl rfl ?_
          refine g_istore_n (i := 3) hX dX8_giver_124 rfl (Nat.le_of_ble_eq_true rfl) rfl ?_
          first | refine g_iincN hX dX8_giver_125 ic_1 rfl (Nat.le_of_ble_eq_true rfl) rfl ?_ | refine g_iinc hX dX8_giver_125 ic_1 rfl rfl (Nat.le_of_ble_eq_true rfl) rfl ?_
          refine g_goto (n := 5) hX dX8_giver_128 (by decide) ?_
          rw [zc86] at ih; exact ih _ _
        · skip
          refine g_iload_n (i := 3) hX dX8_giver_89 rfl rfl rfl ?_
          refine g_if_lt (tgt := 118) hX dX8_giver_90 (by decide) rfl (fun zc90 => ?_) (fun zc90 => absurd (by decide) zc90)
          refine g_iload hX dX8_giver_118 rfl rfl ?_
          refine g_goto (n := 124) hX dX8_giver_120 (by decide) ?_
          refine g_istore_n (i := 3) hX dX8_giver_124 rfl (Nat.le_of_ble_eq_true rfl) rfl ?_
          first | refine g_iincN hX dX8_giver_125 ic_1 rfl (Nat.le_of_ble_eq_true rfl) rfl ?_ | refine g_iinc hX dX8_giver_125 ic_1 rfl rfl (Nat.le_of_ble_eq_true rfl) rfl ?_
          refine g_goto (n := 5) hX dX8_giver_128 (by decide) ?_
          rw [zc86] at ih; exact ih _ _
      | some q =>
        rw [ho] at ih
        have hq := (bestTo_lt ho).1
        refine g_iload hX dX8_giver_84 rfl rfl ?_
        first | refine g_if_eqB (tgt := 123) hX dX8_giver_86 (by decide) rfl (fun zc86 => ?_) (fun zc86 => ?_) | refine g_if_eq (tgt := 123) hX dX8_giver_86 (by decide) rfl (fun zc86 => ?_) (fun zc86 => ?_)
        · skip
          refine g_iload_n (i := 3) hX dX8_giver_123 rfl rfl rfl ?_
          refine g_istore_n (i := 3) hX dX8_giver_124 rfl (Nat.le_of_ble_eq_true rfl) rfl ?_
          first | refine g_iincN hX dX8_giver_125 ic_1 rfl (Nat.le_of_ble_eq_true rfl) rfl ?_ | refine g_iinc hX dX8_giver_125 ic_1 rfl rfl (Nat.le_of_ble_eq_true rfl) rfl ?_
          refine g_goto (n := 5) hX dX8_giver_128 (by decide) ?_
          first
          | (rw [zc86, isB, zd] at ih; exact ih _ _)
          | (rw [zc86] at ih; exact ih _ _)
        · skip
          refine g_iload_n (i := 3) hX dX8_giver_89 rfl rfl rfl ?_
          refine g_if_lt (tgt := 118) hX dX8_giver_90 (by decide) rfl (fun zc90 => absurd zc90 (nI_pos (by omega))) (fun zc90 => ?_)
          refine g_aload_n (i := 0) hX dX8_giver_93 rfl rfl rfl ?_
          refine g_getR hX fl_X8_7 rfl rfl dX8_giver_94 rfl ?_
          refine g_iload hX dX8_giver_97 rfl rfl ?_
          refine g_bipush hX dX8_giver_99 bc_7 rfl ?_
          first | refine g_iaddN hX dX8_giver_101 rfl ?_ | refine g_iadd hX dX8_giver_101 rfl ?_
          refine g_ialdv (x := vTn (M 131) k) hX rfl (rfl) (by omega) rfl (rfl) dX8_giver_102 rfl ?_
          refine g_aload_n (i := 0) hX dX8_giver_103 rfl rfl rfl ?_
          refine g_getR hX fl_X8_7 rfl rfl dX8_giver_104 rfl ?_
          refine g_iload_n (i := 3) hX dX8_giver_107 rfl rfl rfl ?_
          refine g_callSi hX (c_X8_commentAt E M q) kf_X8_commentAt rfl wk_X8_48 rfl rfl rfl rfl dX8_giver_108 rfl (fun x108 M108 h108 => ?_)
          obtain ⟨rfl, hMq⟩ := h108; have hMq := hMq.symm; subst hMq
          refine g_bipush hX dX8_giver_111 bc_7 rfl ?_
          first | refine g_iaddN hX dX8_giver_113 rfl ?_ | refine g_iadd hX dX8_giver_113 rfl ?_
          refine g_ialdv (x := vTn (M 131) q) hX rfl (rfl) (by omega) rfl (rfl) dX8_giver_114 rfl ?_
          refine g_icmp_ge (tgt := 123) hX dX8_giver_115 (by decide) rfl (fun zc115 => ?_) (fun zc115 => ?_)
          · skip
            have zd : turnB (vTn (M 131)) k q = false := decide_eq_false (Int32.not_lt.mpr zc115)
            refine g_iload_n (i := 3) hX dX8_giver_123 rfl rfl rfl ?_
            refine g_istore_n (i := 3) hX dX8_giver_124 rfl (Nat.le_of_ble_eq_true rfl) rfl ?_
            first | refine g_iincN hX dX8_giver_125 ic_1 rfl (Nat.le_of_ble_eq_true rfl) rfl ?_ | refine g_iinc hX dX8_giver_125 ic_1 rfl rfl (Nat.le_of_ble_eq_true rfl) rfl ?_
            refine g_goto (n := 5) hX dX8_giver_128 (by decide) ?_
            first
            | (rw [zc86, isB, zd] at ih; exact ih _ _)
            | (rw [zc86] at ih; exact ih _ _)
          · skip
            have zd : turnB (vTn (M 131)) k q = true := decide_eq_true (Int32.not_le.mp zc115)
            refine g_iload hX dX8_giver_118 rfl rfl ?_
            refine g_goto (n := 124) hX dX8_giver_120 (by decide) ?_
            refine g_istore_n (i := 3) hX dX8_giver_124 rfl (Nat.le_of_ble_eq_true rfl) rfl ?_
            first | refine g_iincN hX dX8_giver_125 ic_1 rfl (Nat.le_of_ble_eq_true rfl) rfl ?_ | refine g_iinc hX dX8_giver_125 ic_1 rfl rfl (Nat.le_of_ble_eq_true rfl) rfl ?_
            refine g_goto (n := 5) hX dX8_giver_128 (by decide) ?_
            first
            | (rw [zc86, isB, zd] at ih; exact ih _ _)
            | (rw [zc86] at ih; exact ih _ _)
    refine g_iload hX dX8_giver_5 rfl rfl ?_
    refine g_aload_n (i := 0) hX dX8_giver_7 rfl rfl rfl ?_
    refine g_getR hX fl_X8_7 rfl rfl dX8_giver_8 rfl ?_
    refine g_bipush hX dX8_giver_11 bc_9 rfl ?_
    refine g_ialdv (x := nI n) hX rfl (rfl) (by omega) rfl (hn) dX8_giver_13 rfl ?_
    first | refine g_icmp_geN (tgt := 131) hX dX8_giver_14 (by decide) rfl (by omega) (by omega) (fun zc14 => absurd zc14 (by omega)) (fun zc14 => ?_) | refine g_icmp_ge (tgt := 131) hX dX8_giver_14 (by decide) rfl (fun zc14 => absurd zc14 (by omega)) (fun zc14 => ?_)
    refine g_iload hX dX8_giver_17 rfl rfl ?_
    refine g_callSi hX (c_X8_commentAt E M k) kf_X8_commentAt rfl wk_X8_48 rfl rfl rfl rfl dX8_giver_19 rfl (fun x19 M19 h19 => ?_)
    obtain ⟨rfl, hMq⟩ := h19; have hMq := hMq.symm; subst hMq
    refine g_istore hX dX8_giver_22 (Nat.le_of_ble_eq_true rfl) rfl ?_
    refine g_aload_n (i := 0) hX dX8_giver_24 rfl rfl rfl ?_
    refine g_getR hX fl_X8_7 rfl rfl dX8_giver_25 rfl ?_
    refine g_iload hX dX8_giver_28 rfl rfl ?_
    refine g_iconst hX dX8_giver_30 ic_4 rfl ?_
    first | refine g_iaddN hX dX8_giver_31 rfl ?_ | refine g_iadd hX dX8_giver_31 rfl ?_
    refine g_ialdv (x := vSt (M 131) k) hX rfl (rfl) (by omega) rfl (rfl) dX8_giver_32 rfl ?_
    refine g_iconst hX dX8_giver_33 ic_2 rfl ?_
    refine g_icmp_eq (tgt := 50) hX dX8_giver_34 (by decide) rfl (fun zc34 => ?_) (fun zc34 => ?_)
    · skip
      have zg : gaveB (vSt (M 131) k) = true := by simp only [gaveB]; rw [decide_eq_true (show vSt (M 131) k = 2 from zc34)]; rfl
      refine g_aload_n (i := 0) hX dX8_giver_50 rfl rfl rfl ?_
      refine g_getR hX fl_X8_7 rfl rfl dX8_giver_51 rfl ?_
      refine g_iload hX dX8_giver_54 rfl rfl ?_
      refine g_iconst hX dX8_giver_56 ic_1 rfl ?_
      first | refine g_iaddN hX dX8_giver_57 rfl ?_ | refine g_iadd hX dX8_giver_57 rfl ?_
      refine g_ialdv (x := vCc (M 131) k) hX rfl (rfl) (by omega) rfl (rfl) dX8_giver_58 rfl ?_
      refine g_iload_n (i := 1) hX dX8_giver_59 rfl rfl rfl ?_
      refine g_icmp_ne (tgt := 81) hX dX8_giver_60 (by decide) rfl (fun zc60 => ?_) (fun zc60 => ?_)
      · skip
        refine g_iconst hX dX8_giver_81 ic_0 rfl ?_
        refine g_istore hX dX8_giver_82 (Nat.le_of_ble_eq_true rfl) rfl ?_
        first
        | exact tail false (by rw [hbe, zn, Bool.and_false]; rfl)
        | exact tail false (by rw [hbe, decide_eq_false zc60]; rfl)
        | exact tail false (by rw [hbe, decide_eq_false zc74, Bool.and_false])
        | exact tail true (by rw [hbe, zg, decide_eq_true zc60, decide_eq_true zc74]; rfl)
      · skip
        refine g_aload_n (i := 0) hX dX8_giver_63 rfl rfl rfl ?_
        refine g_getR hX fl_X8_7 rfl rfl dX8_giver_64 rfl ?_
        refine g_iload hX dX8_giver_67 rfl rfl ?_
        refine g_bipush hX dX8_giver_69 bc_6 rfl ?_
        first | refine g_iaddN hX dX8_giver_71 rfl ?_ | refine g_iadd hX dX8_giver_71 rfl ?_
        refine g_ialdv (x := vGv (M 131) k) hX rfl (rfl) (by omega) rfl (rfl) dX8_giver_72 rfl ?_
        refine g_iload_n (i := 2) hX dX8_giver_73 rfl rfl rfl ?_
        refine g_icmp_ne (tgt := 81) hX dX8_giver_74 (by decide) rfl (fun zc74 => ?_) (fun zc74 => ?_)
        · skip
          refine g_iconst hX dX8_giver_81 ic_0 rfl ?_
          refine g_istore hX dX8_giver_82 (Nat.le_of_ble_eq_true rfl) rfl ?_
          first
          | exact tail false (by rw [hbe, zn, Bool.and_false]; rfl)
          | exact tail false (by rw [hbe, decide_eq_false zc60]; rfl)
          | exact tail false (by rw [hbe, decide_eq_false zc74, Bool.and_false])
          | exact tail true (by rw [hbe, zg, decide_eq_true zc60, decide_eq_true zc74]; rfl)
        · skip
          refine g_iconst hX dX8_giver_77 ic_1 rfl ?_
          refine g_goto (n := 82) hX dX8_giver_78 (by decide) ?_
          refine g_istore hX dX8_giver_82 (Nat.le_of_ble_eq_true rfl) rfl ?_
          first
          | exact tail false (by rw [hbe, zn, Bool.and_false]; rfl)
          | exact tail false (by rw [hbe, decide_eq_false zc60]; rfl)
          | exact tail false (by rw [hbe, decide_eq_false zc74, Bool.and_false])
          | exact tail true (by rw [hbe, zg, decide_eq_true zc60, decide_eq_true zc74]; rfl)
    · skip
      refine g_aload_n (i := 0) hX dX8_giver_37 rfl rfl rfl ?_
      refine g_getR hX fl_X8_7 rfl rfl dX8_giver_38 rfl ?_
      refine g_iload hX dX8_giver_41 rfl rfl ?_
      refine g_iconst hX dX8_giver_43 ic_4 rfl ?_
      first | refine g_iaddN hX dX8_giver_44 rfl ?_ | refine g_iadd hX dX8_giver_44 rfl ?_
      refine g_ialdv (x := vSt (M 131) k) hX rfl (rfl) (by omega) rfl (rfl) dX8_giver_45 rfl ?_
      refine g_iconst hX dX8_giver_46 ic_3 rfl ?_
      refine g_icmp_ne (tgt := 81) hX dX8_giver_47 (by decide) rfl (fun zc47 => ?_) (fun zc47 => ?_)
      · skip
        have zn : gaveB (vSt (M 131) k) = false := by simp only [gaveB]; rw [decide_eq_false (show ¬ vSt (M 131) k = 2 from zc34), decide_eq_false (show ¬ vSt (M 131) k = 3 from zc47)]; rfl
        refine g_iconst hX dX8_giver_81 ic_0 rfl ?_
        refine g_istore hX dX8_giver_82 (Nat.le_of_ble_eq_true rfl) rfl ?_
        first
        | exact tail false (by rw [hbe, zn, Bool.and_false]; rfl)
        | exact tail false (by rw [hbe, decide_eq_false zc60]; rfl)
        | exact tail false (by rw [hbe, decide_eq_false zc74, Bool.and_false])
        | exact tail true (by rw [hbe, zg, decide_eq_true zc60, decide_eq_true zc74]; rfl)
      · skip
        have zg : gaveB (vSt (M 131) k) = true := by simp only [gaveB]; rw [decide_eq_true (show vSt (M 131) k = 3 from zc47), Bool.or_true]
        refine g_aload_n (i := 0) hX dX8_giver_50 rfl rfl rfl ?_
        refine g_getR hX fl_X8_7 rfl rfl dX8_giver_51 rfl ?_
        refine g_iload hX dX8_giver_54 rfl rfl ?_
        refine g_iconst hX dX8_giver_56 ic_1 rfl ?_
        first | refine g_iaddN hX dX8_giver_57 rfl ?_ | refine g_iadd hX dX8_giver_57 rfl ?_
        refine g_ialdv (x := vCc (M 131) k) hX rfl (rfl) (by omega) rfl (rfl) dX8_giver_58 rfl ?_
        refine g_iload_n (i := 1) hX dX8_giver_59 rfl rfl rfl ?_
        refine g_icmp_ne (tgt := 81) hX dX8_giver_60 (by decide) rfl (fun zc60 => ?_) (fun zc60 => ?_)
        · skip
          refine g_iconst hX dX8_giver_81 ic_0 rfl ?_
          refine g_istore hX dX8_giver_82 (Nat.le_of_ble_eq_true rfl) rfl ?_
          first
          | exact tail false (by rw [hbe, zn, Bool.and_false]; rfl)
          | exact tail false (by rw [hbe, decide_eq_false zc60]; rfl)
          | exact tail false (by rw [hbe, decide_eq_false zc74, Bool.and_false])
          | exact tail true (by rw [hbe, zg, decide_eq_true zc60, decide_eq_true zc74]; rfl)
        · skip
          refine g_aload_n (i := 0) hX dX8_giver_63 rfl rfl rfl ?_
          refine g_getR hX fl_X8_7 rfl rfl dX8_giver_64 rfl ?_
          refine g_iload hX dX8_giver_67 rfl rfl ?_
          refine g_bipush hX dX8_giver_69 bc_6 rfl ?_
          first | refine g_iaddN hX dX8_giver_71 rfl ?_ | refine g_iadd hX dX8_giver_71 rfl ?_
          refine g_ialdv (x := vGv (M 131) k) hX rfl (rfl) (by omega) rfl (rfl) dX8_giver_72 rfl ?_
          refine g_iload_n (i := 2) hX dX8_giver_73 rfl rfl rfl ?_
          refine g_icmp_ne (tgt := 81) hX dX8_giver_74 (by decide) rfl (fun zc74 => ?_) (fun zc74 => ?_)
          · skip
            refine g_iconst hX dX8_giver_81 ic_0 rfl ?_
            refine g_istore hX dX8_giver_82 (Nat.le_of_ble_eq_true rfl) rfl ?_
            first
            | exact tail false (by rw [hbe, zn, Bool.and_false]; rfl)
            | exact tail false (by rw [hbe, decide_eq_false zc60]; rfl)
            | exact tail false (by rw [hbe, decide_eq_false zc74, Bool.and_false])
            | exact tail true (by rw [hbe, zg, decide_eq_true zc60, decide_eq_true zc74]; rfl)
          · skip
            refine g_iconst hX dX8_giver_77 ic_1 rfl ?_
            refine g_goto (n := 82) hX dX8_giver_78 (by decide) ?_
            refine g_istore hX dX8_giver_82 (Nat.le_of_ble_eq_true rfl) rfl ?_
            first
            | exact tail false (by rw [hbe, zn, Bool.and_false]; rfl)
            | exact tail false (by rw [hbe, decide_eq_false zc60]; rfl)
            | exact tail false (by rw [hbe, decide_eq_false zc74, Bool.and_false])
            | exact tail true (by rw [hbe, zg, decide_eq_true zc60, decide_eq_true zc74]; rfl)

