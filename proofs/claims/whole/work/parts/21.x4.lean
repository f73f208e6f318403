/-! CommitteeBallots$Members: the members of the present state (cell 2) -/
theorem c_X4_has (E : gE) (M : gM) (n : Nat) (c : Int32) (hn : M 2 4 = nI n) (hb : n ≤ 10) : gMet E k_X4_has [.ref 2, .int c] M (gInt fun r M' => r = gB (inR c n) ∧ M' = M) := by
  refine gMet.of (by decide +kernel) rfl (Nat.le_of_ble_eq_true rfl) (fun X hX hR => ?_)
  refine g_iload_n (i := 1) hX dX4_has_0 rfl rfl rfl ?_
  refine g_if_lt (tgt := 16) hX dX4_has_1 (by decide) rfl (fun c1 => ?_) (fun c1 => ?_)
  · skip
    refine g_iconst hX dX4_has_16 ic_0 rfl ?_
    refine g_zret hX hR (by first | exact Or.inl rfl | exact Or.inr rfl | exact gB_01 _) dX4_has_17 ?_
    exact ⟨by first | exact gB_1 (inR_ok (by assumption) (by assumption)) | exact gB_n (inR_neg (by assumption)) | exact gB_n (inR_ge (by assumption)), rfl⟩
  · skip
    refine g_iload_n (i := 1) hX dX4_has_4 rfl rfl rfl ?_
    refine g_aload_n (i := 0) hX dX4_has_5 rfl rfl rfl ?_
    refine g_getI hX fl_X4_28 rfl rfl dX4_has_6 rfl ?_
    rw [hn]
    first | refine g_icmp_geN (tgt := 16) hX dX4_has_9 (by decide) rfl (by omega) (by omega) (fun c9 => ?_) (fun c9 => ?_) | refine g_icmp_ge (tgt := 16) hX dX4_has_9 (by decide) rfl (fun c9 => ?_) (fun c9 => ?_)
    · skip
      refine g_iconst hX dX4_has_16 ic_0 rfl ?_
      refine g_zret hX hR (by first | exact Or.inl rfl | exact Or.inr rfl | exact gB_01 _) dX4_has_17 ?_
      exact ⟨by first | exact gB_1 (inR_ok (by assumption) (by assumption)) | exact gB_n (inR_neg (by assumption)) | exact gB_n (inR_ge (by assumption)), rfl⟩
    · skip
      refine g_iconst hX dX4_has_12 ic_1 rfl ?_
      refine g_goto (n := 17) hX dX4_has_13 (by decide) ?_
      refine g_zret hX hR (by first | exact Or.inl rfl | exact Or.inr rfl | exact gB_01 _) dX4_has_17 ?_
      exact ⟨by first | exact gB_1 (inR_ok (by assumption) (by assumption)) | exact gB_n (inR_neg (by assumption)) | exact gB_n (inR_ge (by assumption)), rfl⟩
theorem c_X4_hasVoted (E : gE) (M : gM) (k : Nat) (hk : k < 10) : gMet E k_X4_hasVoted [.ref 2, .int (nI k)] M (gInt fun r M' => r = gB (decide (M 5 k ≠ -1)) ∧ M' = M) := by
  refine gMet.of (by decide +kernel) rfl (Nat.le_of_ble_eq_true rfl) (fun X hX hR => ?_)
  refine g_aload_n (i := 0) hX dX4_hasVoted_0 rfl rfl rfl ?_
  refine g_getR hX fl_X4_18 rfl rfl dX4_hasVoted_1 rfl ?_
  refine g_iload_n (i := 1) hX dX4_hasVoted_4 rfl rfl rfl ?_
  refine g_iald hX rfl (rfl) (by omega) rfl dX4_hasVoted_5 rfl ?_
  refine g_iconst hX dX4_hasVoted_6 ic_m1 rfl ?_
  first | refine g_icmp_eqN (tgt := 14) hX dX4_hasVoted_7 (by decide) rfl (by omega) (by omega) (fun c7 => ?_) (fun c7 => ?_) | refine g_icmp_eq (tgt := 14) hX dX4_hasVoted_7 (by decide) rfl (fun c7 => ?_) (fun c7 => ?_)
  · skip
    refine g_iconst hX dX4_hasVoted_14 ic_0 rfl ?_
    refine g_zret hX hR (by first | exact Or.inl rfl | exact Or.inr rfl | exact gB_01 _) dX4_hasVoted_15 ?_
    refine ⟨?_, rfl⟩; first | exact gB_1 (by simp_all) | exact gB_n (by simp_all)
  · skip
    refine g_iconst hX dX4_hasVoted_10 ic_1 rfl ?_
    refine g_goto (n := 15) hX dX4_hasVoted_11 (by decide) ?_
    refine g_zret hX hR (by first | exact Or.inl rfl | exact Or.inr rfl | exact gB_01 _) dX4_hasVoted_15 ?_
    refine ⟨?_, rfl⟩; first | exact gB_1 (by simp_all) | exact gB_n (by simp_all)
theorem c_X4_voters (E : gE) (M : gM) (n : Nat) (hn : M 2 4 = nI n) (hb : n ≤ 10) : gMet E k_X4_voters [.ref 2] M (gInt fun r M' => r = nI (cntTo n (fun k => decide (M 5 k ≠ -1))) ∧ M' = M) := by
  refine gMet.of (by decide +kernel) rfl (Nat.le_of_ble_eq_true rfl) (fun X hX hR => ?_)
  have loop := up_loop n (fun k => gG X E M 4 [some (.ref 2), some (.int (nI (cntTo k (fun k => decide (M 5 k ≠ -1))))), some (.int (nI k))] [] (gQ X E (gInt fun r M' => r = nI (cntTo n (fun k => decide (M 5 k ≠ -1))) ∧ M' = M))) ?_ ?_
  · skip
    refine g_iconst hX dX4_voters_0 ic_0 rfl ?_
    refine g_istore_n (i := 1) hX dX4_voters_1 rfl (Nat.le_of_ble_eq_true rfl) rfl ?_
    refine g_iconst hX dX4_voters_2 ic_0 rfl ?_
    refine g_istore_n (i := 2) hX dX4_voters_3 rfl (Nat.le_of_ble_eq_true rfl) rfl ?_
    exact loop 0 (Nat.zero_le _)
  · skip
    refine g_iload_n (i := 2) hX dX4_voters_4 rfl rfl rfl ?_
    refine g_aload_n (i := 0) hX dX4_voters_5 rfl rfl rfl ?_
    refine g_getI hX fl_X4_28 rfl rfl dX4_voters_6 rfl ?_
    rw [hn]
    first | refine g_icmp_geN (tgt := 29) hX dX4_voters_9 (by decide) rfl (by omega) (by omega) (fun c9 => ?_) (fun c9 => absurd c9 (by omega)) | refine g_icmp_ge (tgt := 29) hX dX4_voters_9 (by decide) rfl (fun c9 => ?_) (fun c9 => absurd c9 (by omega))
    refine g_iload_n (i := 1) hX dX4_voters_29 rfl rfl rfl ?_
    refine g_iret hX hR dX4_voters_30 ?_
    exact ⟨rfl, rfl⟩
  · intro k hk ih
    refine g_iload_n (i := 2) hX dX4_voters_4 rfl rfl rfl ?_
    refine g_aload_n (i := 0) hX dX4_voters_5 rfl rfl rfl ?_
    refine g_getI hX fl_X4_28 rfl rfl dX4_voters_6 rfl ?_
    rw [hn]
    first | refine g_icmp_geN (tgt := 29) hX dX4_voters_9 (by decide) rfl (by omega) (by omega) (fun c9 => absurd c9 (by omega)) (fun c9 => ?_) | refine g_icmp_ge (tgt := 29) hX dX4_voters_9 (by decide) rfl (fun c9 => absurd c9 (by omega)) (fun c9 => ?_)
    refine g_aload_n (i := 0) hX dX4_voters_12 rfl rfl rfl ?_
    refine g_iload_n (i := 2) hX dX4_voters_13 rfl rfl rfl ?_
    refine g_callVi hX (c_X4_hasVoted E M k (by omega)) kf_X4_hasVoted rfl wk_X4_32 rfl rfl rfl rfl rfl dX4_voters_14 rfl (fun x14 M14 h14 => ?_)
    obtain ⟨rfl, rfl⟩ := h14
    first | refine g_if_eqB (tgt := 23) hX dX4_voters_17 (by decide) rfl (fun c17 => ?_) (fun c17 => ?_) | refine g_if_eq (tgt := 23) hX dX4_voters_17 (by decide) rfl (fun c17 => ?_) (fun c17 => ?_)
    · skip
      first | refine g_iincN hX dX4_voters_23 ic_1 rfl (Nat.le_of_ble_eq_true rfl) rfl ?_ | refine g_iinc hX dX4_voters_23 ic_1 rfl rfl (Nat.le_of_ble_eq_true rfl) rfl ?_
      refine g_goto (n := 4) hX dX4_voters_26 (by decide) ?_
      exact (by simpa [cntTo, c17] using ih)
    · skip
      first | refine g_iincN hX dX4_voters_20 ic_1 rfl (Nat.le_of_ble_eq_true rfl) rfl ?_ | refine g_iinc hX dX4_voters_20 ic_1 rfl rfl (Nat.le_of_ble_eq_true rfl) rfl ?_
      first | refine g_iincN hX dX4_voters_23 ic_1 rfl (Nat.le_of_ble_eq_true rfl) rfl ?_ | refine g_iinc hX dX4_voters_23 ic_1 rfl rfl (Nat.le_of_ble_eq_true rfl) rfl ?_
      refine g_goto (n := 4) hX dX4_voters_26 (by decide) ?_
      exact (by simpa [cntTo, c17] using ih)

