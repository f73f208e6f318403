/-! CommitteeBallots$Members: the members of the present state (cell 2) -/
theorem c_X4_has (E : gE) (M : gM) (n : Nat) (c : Int32) (hn : M 2 4 = nI n) (hb : n ≤ 10) : gMet E k_X4_has [.ref 2, .int c] M (gInt fun r M' => r = gB (inR c n) ∧ M' = M) := by
  refine gMet.of (by decide +kernel) rfl (Nat.le_of_ble_eq_true rfl) (fun X hX hR => ?_)
  refine g_iload_n (i := 1) hX dX4_has_0 rfl rfl rfl ?_
  refine g_if_lt (tgt := 16) hX dX4_has_1 (by decide) rfl (fun zc1 => ?_) (fun zc1 => ?_)
  · skip
    refine g_iconst hX dX4_has_16 ic_0 rfl ?_
    refine g_zret hX hR (by first | exact Or.inl rfl | exact Or.inr rfl | exact gB_01 _) dX4_has_17 ?_
    exact ⟨by first | exact gB_1 (inR_ok (by assumption) (by assumption)) | exact gB_n (inR_neg (by assumption)) | exact gB_n (inR_ge (by assumption)), rfl⟩
  · skip
    refine g_iload_n (i := 1) hX dX4_has_4 rfl rfl rfl ?_
    refine g_aload_n (i := 0) hX dX4_has_5 rfl rfl rfl ?_
    refine g_getI hX fl_X4_28 rfl rfl dX4_has_6 rfl ?_
    rw [hn]
    first | refine g_icmp_geN (tgt := 16) hX dX4_has_9 (by decide) rfl (by omega) (by omega) (fun zc9 => ?_) (fun zc9 => ?_) | refine g_icmp_ge (tgt := 16) hX dX4_has_9 (by decide) rfl (fun zc9 => ?_) (fun zc9 => ?_)
    · skip
      refine g_iconst hX dX4_has_16 ic_0 rfl ?_
      refine g_zret hX hR (by first | exact Or.inl rfl | exact Or.inr rfl | exact gB_01 _) dX4_has_17 ?_
      exact ⟨by first | exact gB_1 (inR_ok (by assumption) (by assumption)) | exact gB_n (inR_neg (by assumption)) | exact gB_n (inR_ge (by assumption)), rfl⟩
    · skip
      refine g_iconst hX dX4_has_12 ic_1 rfl ?_
      refine g_goto (n := 17) hX dX4_has_13 (by decide) ?_
      refine g_zret hX hR (by first | exact Or.inl rfl | exact Or.inr rfl | exact gB_01 _) dX4_has_17 ?_
      exact ⟨by first | exact gB_1 (inR_ok (by assumption) (by assumption)) | exact gB_n (inR_neg (by assumption)) | exact gB_n (inR_ge (by assumption)), rfl⟩
theorem c_X4_hasVoted (E : gE) (M : gM) (k : Nat) (hk : k < 10) : gMet E k_X4_hasVoted [.ref 2, .int (nI k)] M (gInt fun r M' => r = gB (decide (M 5 k ≠ -1)) ∧ M' = M) := by
  refine gMet.of (by decide +kernel) rfl (Nat.le_of_ble_eq_true rfl) (fun X hX hR => ?_)
  refine g_aload_n (i := 0) hX dX4_hasVoted_0 rfl rfl rfl ?_
  refine g_getR hX fl_X4_18 rfl rfl dX4_hasVoted_1 rfl ?_
  refine g_iload_n (i := 1) hX dX4_hasVoted_4 rfl rfl rfl ?_
  refine g_iald hX rfl (rfl) (by omega) rfl dX4_hasVoted_5 rfl ?_
  refine g_iconst hX dX4_hasVoted_6 ic_m1 rfl ?_
  first | refine g_icmp_eqN (tgt := 14) hX dX4_hasVoted_7 (by decide) rfl (by omega) (by omega) (fun zc7 => ?_) (fun zc7 => ?_) | refine g_icmp_eq (tgt := 14) hX dX4_hasVoted_7 (by decide) rfl (fun zc7 => ?_) (fun zc7 => ?_)
  · skip
    refine g_iconst hX dX4_hasVoted_14 ic_0 rfl ?_
    refine g_zret hX hR (by first | exact Or.inl rfl | exact Or.inr rfl | exact gB_01 _) dX4_hasVoted_15 ?_
    refine ⟨?_, rfl⟩; first | exact gB_1 (by simp_all) | exact gB_n (by simp_all)
  · skip
    refine g_iconst hX dX4_hasVoted_10 ic_1 rfl ?_
    refine g_goto (n := 15) hX dX4_hasVoted_11 (by decide) ?_
    refine g_zret hX hR (by first | exact Or.inl rfl | exact Or.inr rfl | exact gB_01 _) dX4_hasVoted_15 ?_
    refine ⟨?_, rfl⟩; first | exact gB_1 (by simp_all) | exact gB_n (by simp_all)
theorem c_X4_voters (E : gE) (M : gM) (n : Nat) (hn : M 2 4 = nI n) (hb : n ≤ 10) : gMet E k_X4_voters [.ref 2] M (gInt fun r M' => r = nI (cntTo n (fun k => decide (M 5 k ≠ -1))) ∧ M' = M) := by
  refine gMet.of (by decide +kernel) rfl (Nat.le_of_ble_eq_true rfl) (fun X hX hR => ?_)
  have loop := up_loop n (fun k => gG X E M 4 [some (.ref 2), some (.int (nI (cntTo k (fun k => decide (M 5 k ≠ -1))))), some (.int (nI k))] [] (gQ X E (gInt fun r M' => r = nI (cntTo n (fun k => decide (M 5 k ≠ -1))) ∧ M' = M))) ?_ ?_
  · skip
    refine g_iconst hX dX4_voters_0 ic_0 rfl ?_
    refine g_istore_n (i := 1) hX dX4_voters_1 rfl (Nat.le_of_ble_eq_true rfl) rfl ?_
    refine g_iconst hX dX4_voters_2 ic_0 rfl ?_
    refine g_istore_n (i := 2) hX dX4_voters_3 rfl (Nat.le_of_ble_eq_true rfl) rfl ?_
    exact loop 0 (Nat.zero_le _)
  · skip
    refine g_iload_n (i := 2) hX dX4_voters_4 rfl rfl rfl ?_
    refine g_aload_n (i := 0) hX dX4_voters_5 rfl rfl rfl ?_
    refine g_getIv hX fl_X4_28 rfl rfl (hn) dX4_voters_6 rfl ?_
    first | refine g_icmp_geN (tgt := 29) hX dX4_voters_9 (by decide) rfl (by omega) (by omega) (fun zc9 => ?_) (fun zc9 => absurd zc9 (by omega)) | refine g_icmp_ge (tgt := 29) hX dX4_voters_9 (by decide) rfl (fun zc9 => ?_) (fun zc9 => absurd zc9 (by omega))
    refine g_iload_n (i := 1) hX dX4_voters_29 rfl rfl rfl ?_
    refine g_iret hX hR dX4_voters_30 ?_
    exact ⟨rfl, rfl⟩
  · intro k hk ih
    refine g_iload_n (i := 2) hX dX4_voters_4 rfl rfl rfl ?_
    refine g_aload_n (i := 0) hX dX4_voters_5 rfl rfl rfl ?_
    refine g_getIv hX fl_X4_28 rfl rfl (hn) dX4_voters_6 rfl ?_
    first | refine g_icmp_geN (tgt := 29) hX dX4_voters_9 (by decide) rfl (by omega) (by omega) (fun zc9 => absurd zc9 (by omega)) (fun zc9 => ?_) | refine g_icmp_ge (tgt := 29) hX dX4_voters_9 (by decide) rfl (fun zc9 => absurd zc9 (by omega)) (fun zc9 => ?_)
    refine g_aload_n (i := 0) hX dX4_voters_12 rfl rfl rfl ?_
    refine g_iload_n (i := 2) hX dX4_voters_13 rfl rfl rfl ?_
    refine g_callVi hX (c_X4_hasVoted E M k (by omega)) kf_X4_hasVoted rfl wk_X4_32 rfl rfl rfl rfl rfl dX4_voters_14 rfl (fun x14 M14 h14 => ?_)
    obtain ⟨rfl, hm⟩ := h14; have hm := hm.symm; subst hm
    first | refine g_if_eqB (tgt := 23) hX dX4_voters_17 (by decide) rfl (fun zc17 => ?_) (fun zc17 => ?_) | refine g_if_eq (tgt := 23) hX dX4_voters_17 (by decide) rfl (fun zc17 => ?_) (fun zc17 => ?_)
    · skip
      first | refine g_iincN hX dX4_voters_23 ic_1 rfl (Nat.le_of_ble_eq_true rfl) rfl ?_ | refine g_iinc hX dX4_voters_23 ic_1 rfl rfl (Nat.le_of_ble_eq_true rfl) rfl ?_
      refine g_goto (n := 4) hX dX4_voters_26 (by decide) ?_
      exact (by simpa [cntTo, zc17] using ih)
    · skip
      first | refine g_iincN hX dX4_voters_20 ic_1 rfl (Nat.le_of_ble_eq_true rfl) rfl ?_ | refine g_iinc hX dX4_voters_20 ic_1 rfl rfl (Nat.le_of_ble_eq_true rfl) rfl ?_
      first | refine g_iincN hX dX4_voters_23 ic_1 rfl (Nat.le_of_ble_eq_true rfl) rfl ?_ | refine g_iinc hX dX4_voters_23 ic_1 rfl rfl (Nat.le_of_ble_eq_true rfl) rfl ?_
      refine g_goto (n := 4) hX dX4_voters_26 (by decide) ?_
      exact (by simpa [cntTo, zc17] using ih)
theorem isSet_pow : ∀ n, n ≤ 10 → nI 1 <<< (nI n &&& 31) = nI (2 ^ n) := by decide
theorem c_X4_isSet (E : gE) (M : gM) (n : Nat) (c : Int32) (hn : M 2 4 = nI n) (hb : n ≤ 10) : gMet E k_X4_isSet [.ref 2, .int c] M (gInt fun r M' => r = gB (inR c (2 ^ n)) ∧ M' = M) := by
  refine gMet.of (by decide +kernel) rfl (Nat.le_of_ble_eq_true rfl) (fun X hX hR => ?_)
  refine g_iload_n (i := 1) hX dX4_isSet_0 rfl rfl rfl ?_
  refine g_if_lt (tgt := 18) hX dX4_isSet_1 (by decide) rfl (fun zc1 => ?_) (fun zc1 => ?_)
  · skip
    refine g_iconst hX dX4_isSet_18 ic_0 rfl ?_
    refine g_zret hX hR (by first | exact Or.inl rfl | exact Or.inr rfl | exact gB_01 _) dX4_isSet_19 ?_
    exact ⟨by first | exact gB_1 (inR_ok (by assumption) (by assumption)) | exact gB_n (inR_neg (by assumption)) | exact gB_n (inR_ge (by assumption)), rfl⟩
  · skip
    refine g_iload_n (i := 1) hX dX4_isSet_4 rfl rfl rfl ?_
    refine g_iconst hX dX4_isSet_5 ic_1 rfl ?_
    refine g_aload_n (i := 0) hX dX4_isSet_6 rfl rfl rfl ?_
    refine g_getIv hX fl_X4_28 rfl rfl (hn) dX4_isSet_7 rfl ?_
    refine g_ishl hX dX4_isSet_10 rfl ?_
    rw [isSet_pow n hb]
    first | refine g_icmp_geN (tgt := 18) hX dX4_isSet_11 (by decide) rfl (by omega) (by omega) (fun zc11 => ?_) (fun zc11 => ?_) | refine g_icmp_ge (tgt := 18) hX dX4_isSet_11 (by decide) rfl (fun zc11 => ?_) (fun zc11 => ?_)
    · skip
      refine g_iconst hX dX4_isSet_18 ic_0 rfl ?_
      refine g_zret hX hR (by first | exact Or.inl rfl | exact Or.inr rfl | exact gB_01 _) dX4_isSet_19 ?_
      exact ⟨by first | exact gB_1 (inR_ok (by assumption) (by assumption)) | exact gB_n (inR_neg (by assumption)) | exact gB_n (inR_ge (by assumption)), rfl⟩
    · skip
      refine g_iconst hX dX4_isSet_14 ic_1 rfl ?_
      refine g_goto (n := 19) hX dX4_isSet_15 (by decide) ?_
      refine g_zret hX hR (by first | exact Or.inl rfl | exact Or.inr rfl | exact gB_01 _) dX4_isSet_19 ?_
      exact ⟨by first | exact gB_1 (inR_ok (by assumption) (by assumption)) | exact gB_n (inR_neg (by assumption)) | exact gB_n (inR_ge (by assumption)), rfl⟩
def m_member (M : gM) (n : Nat) (w : Int32) : gM := gset (gset (gset (gset (gset M 3 (upd (M 3) n w)) 4 (upd (M 4) n 0)) 5 (upd (M 5) n (-1))) 6 (upd (M 6) n 0)) 2 (upd (M 2) 4 (nI (n + 1)))
theorem c_X4_append (E : gE) (M : gM) (n : Nat) (w : Int32) (hn : M 2 4 = nI n) (hb : n < 10) : gMet E k_X4_append [.ref 2, .int w] M (gInt fun r M' => r = nI n ∧ M' = m_member M n w) := by
  refine gMet.of (by decide +kernel) rfl (Nat.le_of_ble_eq_true rfl) (fun X hX hR => ?_)
  refine g_aload_n (i := 0) hX dX4_append_0 rfl rfl rfl ?_
  refine g_getIv hX fl_X4_28 rfl rfl (hn) dX4_append_1 rfl ?_
  refine g_bipush hX dX4_append_4 bc_10 rfl ?_
  first | refine g_icmp_ltN (tgt := 11) hX dX4_append_6 (by decide) rfl (by omega) (by omega) (fun zc6 => ?_) (fun zc6 => absurd zc6 (by omega)) | refine g_icmp_lt (tgt := 11) hX dX4_append_6 (by decide) rfl (fun zc6 => ?_) (fun zc6 => absurd zc6 (by omega))
  refine g_aload_n (i := 0) hX dX4_append_11 rfl rfl rfl ?_
  refine g_getR hX fl_X4_9 rfl rfl dX4_append_12 rfl ?_
  refine g_aload_n (i := 0) hX dX4_append_15 rfl rfl rfl ?_
  refine g_getIv hX fl_X4_28 rfl rfl (hn) dX4_append_16 rfl ?_
  refine g_iload_n (i := 1) hX dX4_append_19 rfl rfl rfl ?_
  refine g_iast hX rfl (rfl) (by omega) rfl dX4_append_20 rfl ?_
  refine g_aload_n (i := 0) hX dX4_append_21 rfl rfl rfl ?_
  refine g_getR hX fl_X4_15 rfl rfl dX4_append_22 rfl ?_
  refine g_aload_n (i := 0) hX dX4_append_25 rfl rfl rfl ?_
  refine g_getIv hX fl_X4_28 rfl rfl (hn) dX4_append_26 rfl ?_
  refine g_iconst hX dX4_append_29 ic_0 rfl ?_
  refine g_iast hX rfl (rfl) (by omega) rfl dX4_append_30 rfl ?_
  refine g_aload_n (i := 0) hX dX4_append_31 rfl rfl rfl ?_
  refine g_getR hX fl_X4_18 rfl rfl dX4_append_32 rfl ?_
  refine g_aload_n (i := 0) hX dX4_append_35 rfl rfl rfl ?_
  refine g_getIv hX fl_X4_28 rfl rfl (hn) dX4_append_36 rfl ?_
  refine g_iconst hX dX4_append_39 ic_m1 rfl ?_
  refine g_iast hX rfl (rfl) (by omega) rfl dX4_append_40 rfl ?_
  refine g_aload_n (i := 0) hX dX4_append_41 rfl rfl rfl ?_
  refine g_getR hX fl_X4_21 rfl rfl dX4_append_42 rfl ?_
  refine g_aload_n (i := 0) hX dX4_append_45 rfl rfl rfl ?_
  refine g_getIv hX fl_X4_28 rfl rfl (hn) dX4_append_46 rfl ?_
  refine g_iconst hX dX4_append_49 ic_0 rfl ?_
  refine g_iast hX rfl (rfl) (by omega) rfl dX4_append_50 rfl ?_
  refine g_aload_n (i := 0) hX dX4_append_51 rfl rfl rfl ?_
  refine g_dup hX dX4_append_52 rfl rfl ?_
  refine g_getIv hX fl_X4_28 rfl rfl (hn) dX4_append_53 rfl ?_
  refine g_iconst hX dX4_append_56 ic_1 rfl ?_
  first | refine g_iaddN hX dX4_append_57 rfl ?_ | refine g_iadd hX dX4_append_57 rfl ?_
  refine g_putI hX fp_X4_28 rfl rfl dX4_append_58 rfl ?_
  refine g_aload_n (i := 0) hX dX4_append_61 rfl rfl rfl ?_
  refine g_getIv (x := nI (n + 1)) hX fl_X4_28 rfl rfl (rfl) dX4_append_62 rfl ?_
  refine g_iconst hX dX4_append_65 ic_1 rfl ?_
  refine g_isubN hX dX4_append_66 (by omega) rfl ?_
  refine g_iret hX hR dX4_append_67 ?_
  exact ⟨rfl, rfl⟩
def m_misses (M : gM) (n : Nat) : gM := gset (gset M 4 (mapTo n (fun k => if M 5 k = -1 then M 4 k + 1 else 0) (M 4))) 6 (mapTo n (fun k => if M 5 k = -1 then M 6 k else M 6 k + 1) (M 6))
theorem c_X4_noteMisses (E : gE) (M : gM) (n : Nat) (hn : M 2 4 = nI n) (hb : n ≤ 10) : gMet E k_X4_noteMisses [.ref 2] M (gVoid fun M' => M' = m_misses M n) := by
  refine gMet.of (by decide +kernel) rfl (Nat.le_of_ble_eq_true rfl) (fun X hX hR => ?_)
  have loop := up_loop n (fun k => gG X E (m_misses M k) 2 [some (.ref 2), some (.int (nI k))] [] (gQ X E (gVoid fun M' => M' = m_misses M n))) ?_ ?_
  · skip
    refine g_iconst hX dX4_noteMisses_0 ic_0 rfl ?_
    refine g_istore_n (i := 1) hX dX4_noteMisses_1 rfl (Nat.le_of_ble_eq_true rfl) rfl ?_
    exact gGM (by simp only [m_misses, mapTo_0, gset_self]) (loop 0 (Nat.zero_le _))
  · skip
    refine g_iload_n (i := 1) hX dX4_noteMisses_2 rfl rfl rfl ?_
    refine g_aload_n (i := 0) hX dX4_noteMisses_3 rfl rfl rfl ?_
    refine g_getIv (x := nI n) hX fl_X4_28 rfl rfl (hn) dX4_noteMisses_4 rfl ?_
    first | refine g_icmp_geN (tgt := 54) hX dX4_noteMisses_7 (by decide) rfl (by omega) (by omega) (fun zc7 => ?_) (fun zc7 => absurd zc7 (by omega)) | refine g_icmp_ge (tgt := 54) hX dX4_noteMisses_7 (by decide) rfl (fun zc7 => ?_) (fun zc7 => absurd zc7 (by omega))
    refine g_vret hX hR dX4_noteMisses_54 ?_
    rfl
  · intro k hk ih
    have e4 : mapTo k (fun k => if M 5 k = -1 then M 4 k + 1 else 0) (M 4) k = M 4 k := by simp [mapTo]
    have e6 : mapTo k (fun k => if M 5 k = -1 then M 6 k else M 6 k + 1) (M 6) k = M 6 k := by simp [mapTo]
    have s4 := mapTo_succ k (fun k => if M 5 k = -1 then M 4 k + 1 else 0) (M 4)
    have s6 := mapTo_succ k (fun k => if M 5 k = -1 then M 6 k else M 6 k + 1) (M 6)
    refine g_iload_n (i := 1) hX dX4_noteMisses_2 rfl rfl rfl ?_
    refine g_aload_n (i := 0) hX dX4_noteMisses_3 rfl rfl rfl ?_
    refine g_getIv (x := nI n) hX fl_X4_28 rfl rfl (hn) dX4_noteMisses_4 rfl ?_
    first | refine g_icmp_geN (tgt := 54) hX dX4_noteMisses_7 (by decide) rfl (by omega) (by omega) (fun zc7 => absurd zc7 (by omega)) (fun zc7 => ?_) | refine g_icmp_ge (tgt := 54) hX dX4_noteMisses_7 (by decide) rfl (fun zc7 => absurd zc7 (by omega)) (fun zc7 => ?_)
    refine g_aload_n (i := 0) hX dX4_noteMisses_10 rfl rfl rfl ?_
    refine g_iload_n (i := 1) hX dX4_noteMisses_11 rfl rfl rfl ?_
    refine g_callVi hX (c_X4_hasVoted E (m_misses M k) k (by omega)) kf_X4_hasVoted rfl wk_X4_32 rfl rfl rfl rfl rfl dX4_noteMisses_12 rfl (fun x12 M12 h12 => ?_)
    obtain ⟨rfl, rfl⟩ := h12
    first | refine g_if_eqB (tgt := 38) hX dX4_noteMisses_15 (by decide) rfl (fun zc15 => ?_) (fun zc15 => ?_) | refine g_if_eq (tgt := 38) hX dX4_noteMisses_15 (by decide) rfl (fun zc15 => ?_) (fun zc15 => ?_)
    · skip
      refine g_aload_n (i := 0) hX dX4_noteMisses_38 rfl rfl rfl ?_
      refine g_getR hX fl_X4_15 rfl rfl dX4_noteMisses_39 rfl ?_
      refine g_iload_n (i := 1) hX dX4_noteMisses_42 rfl rfl rfl ?_
      refine g_dup2 hX dX4_noteMisses_43 rfl rfl rfl ?_
      refine g_ialdv (x := M 4 k) hX rfl (rfl) (by omega) rfl (e4) dX4_noteMisses_44 rfl ?_
      refine g_iconst hX dX4_noteMisses_45 ic_1 rfl ?_
      first | refine g_iaddN hX dX4_noteMisses_46 rfl ?_ | refine g_iadd hX dX4_noteMisses_46 rfl ?_
      refine g_iast hX rfl (rfl) (by omega) rfl dX4_noteMisses_47 rfl ?_
      first | refine g_iincN hX dX4_noteMisses_48 ic_1 rfl (Nat.le_of_ble_eq_true rfl) rfl ?_ | refine g_iinc hX dX4_noteMisses_48 ic_1 rfl rfl (Nat.le_of_ble_eq_true rfl) rfl ?_
      refine g_goto (n := 2) hX dX4_noteMisses_51 (by decide) ?_
      refine gGM ?_ ih
      first
        | (have hv : M 5 k = -1 := by simpa using (show decide (M 5 k ≠ -1) = false from zc15)
           rw [if_pos hv] at s4 s6
           have u := upd_same e6
           funext b
           by_cases h4 : b = 4
           · subst h4; exact s4
           · by_cases h6 : b = 6
             · subst h6; exact u.symm.trans s6
             · simp [m_misses, gset, h4, h6])
        | (have hv : ¬ M 5 k = -1 := by simpa using (show decide (M 5 k ≠ -1) = true from zc15)
           rw [if_neg hv] at s4 s6
           funext b
           by_cases h4 : b = 4
           · subst h4; exact s4
           · by_cases h6 : b = 6
             · subst h6; exact s6
             · simp [m_misses, gset, h4, h6])
    · skip
      refine g_aload_n (i := 0) hX dX4_noteMisses_18 rfl rfl rfl ?_
      refine g_getR hX fl_X4_15 rfl rfl dX4_noteMisses_19 rfl ?_
      refine g_iload_n (i := 1) hX dX4_noteMisses_22 rfl rfl rfl ?_
      refine g_iconst hX dX4_noteMisses_23 ic_0 rfl ?_
      refine g_iast hX rfl (rfl) (by omega) rfl dX4_noteMisses_24 rfl ?_
      refine g_aload_n (i := 0) hX dX4_noteMisses_25 rfl rfl rfl ?_
      refine g_getR hX fl_X4_21 rfl rfl dX4_noteMisses_26 rfl ?_
      refine g_iload_n (i := 1) hX dX4_noteMisses_29 rfl rfl rfl ?_
      refine g_dup2 hX dX4_noteMisses_30 rfl rfl rfl ?_
      refine g_ialdv (x := M 6 k) hX rfl (rfl) (by omega) rfl (e6) dX4_noteMisses_31 rfl ?_
      refine g_iconst hX dX4_noteMisses_32 ic_1 rfl ?_
      first | refine g_iaddN hX dX4_noteMisses_33 rfl ?_ | refine g_iadd hX dX4_noteMisses_33 rfl ?_
      refine g_iast hX rfl (rfl) (by omega) rfl dX4_noteMisses_34 rfl ?_
      refine g_goto (n := 48) hX dX4_noteMisses_35 (by decide) ?_
      first | refine g_iincN hX dX4_noteMisses_48 ic_1 rfl (Nat.le_of_ble_eq_true rfl) rfl ?_ | refine g_iinc hX dX4_noteMisses_48 ic_1 rfl rfl (Nat.le_of_ble_eq_true rfl) rfl ?_
      refine g_goto (n := 2) hX dX4_noteMisses_51 (by decide) ?_
      refine gGM ?_ ih
      first
        | (have hv : M 5 k = -1 := by simpa using (show decide (M 5 k ≠ -1) = false from zc15)
           rw [if_pos hv] at s4 s6
           have u := upd_same e6
           funext b
           by_cases h4 : b = 4
           · subst h4; exact s4
           · by_cases h6 : b = 6
             · subst h6; exact u.symm.trans s6
             · simp [m_misses, gset, h4, h6])
        | (have hv : ¬ M 5 k = -1 := by simpa using (show decide (M 5 k ≠ -1) = true from zc15)
           rw [if_neg hv] at s4 s6
           funext b
           by_cases h4 : b = 4
           · subst h4; exact s4
           · by_cases h6 : b = 6
             · subst h6; exact s6
             · simp [m_misses, gset, h4, h6])

