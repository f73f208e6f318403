/-! CommitteeBallots$Comments: the comments of the present state (cell 16) -/
theorem c_X1_has (E : gE) (M : gM) (n : Nat) (c : Int32) (hn : M 16 8 = nI n) (hb : n ≤ 30) : gMet E k_X1_has [.ref 16, .int c] M (gInt fun r M' => r = gB (inR c n) ∧ M' = M) := by
  refine gMet.of (by decide +kernel) rfl (Nat.le_of_ble_eq_true rfl) (fun X hX hR => ?_)
  refine g_iload_n (i := 1) hX dX1_has_0 rfl rfl rfl ?_
  refine g_if_lt (tgt := 16) hX dX1_has_1 (by decide) rfl (fun zc1 => ?_) (fun zc1 => ?_)
  · skip
    refine g_iconst hX dX1_has_16 ic_0 rfl ?_
    refine g_zret hX hR (by first | exact Or.inl rfl | exact Or.inr rfl | exact gB_01 _) dX1_has_17 ?_
    exact ⟨by first | exact gB_1 (inR_ok (by assumption) (by assumption)) | exact gB_n (inR_neg (by assumption)) | exact gB_n (inR_ge (by assumption)), rfl⟩
  · skip
    refine g_iload_n (i := 1) hX dX1_has_4 rfl rfl rfl ?_
    refine g_aload_n (i := 0) hX dX1_has_5 rfl rfl rfl ?_
    refine g_getIv hX fl_X1_40 rfl rfl (hn) dX1_has_6 rfl ?_
    first | refine g_icmp_geN (tgt := 16) hX dX1_has_9 (by decide) rfl (by omega) (by omega) (fun zc9 => ?_) (fun zc9 => ?_) | refine g_icmp_ge (tgt := 16) hX dX1_has_9 (by decide) rfl (fun zc9 => ?_) (fun zc9 => ?_)
    · skip
      refine g_iconst hX dX1_has_16 ic_0 rfl ?_
      refine g_zret hX hR (by first | exact Or.inl rfl | exact Or.inr rfl | exact gB_01 _) dX1_has_17 ?_
      exact ⟨by first | exact gB_1 (inR_ok (by assumption) (by assumption)) | exact gB_n (inR_neg (by assumption)) | exact gB_n (inR_ge (by assumption)), rfl⟩
    · skip
      refine g_iconst hX dX1_has_12 ic_1 rfl ?_
      refine g_goto (n := 17) hX dX1_has_13 (by decide) ?_
      refine g_zret hX hR (by first | exact Or.inl rfl | exact Or.inr rfl | exact gB_01 _) dX1_has_17 ?_
      exact ⟨by first | exact gB_1 (inR_ok (by assumption) (by assumption)) | exact gB_n (inR_neg (by assumption)) | exact gB_n (inR_ge (by assumption)), rfl⟩
theorem c_X1_isResolved (E : gE) (M : gM) (k : Nat) (hk : k < 30) : gMet E k_X1_isResolved [.ref 16, .int (nI k)] M (gInt fun r M' => r = gB (decide (¬ M 21 k < 2)) ∧ M' = M) := by
  refine gMet.of (by decide +kernel) rfl (Nat.le_of_ble_eq_true rfl) (fun X hX hR => ?_)
  refine g_aload_n (i := 0) hX dX1_isResolved_0 rfl rfl rfl ?_
  refine g_getR hX fl_X1_24 rfl rfl dX1_isResolved_1 rfl ?_
  refine g_iload_n (i := 1) hX dX1_isResolved_4 rfl rfl rfl ?_
  refine g_iald hX rfl (rfl) (by omega) rfl dX1_isResolved_5 rfl ?_
  refine g_iconst hX dX1_isResolved_6 ic_2 rfl ?_
  refine g_icmp_lt (tgt := 14) hX dX1_isResolved_7 (by decide) rfl (fun zc7 => ?_) (fun zc7 => ?_)
  · skip
    refine g_iconst hX dX1_isResolved_14 ic_0 rfl ?_
    refine g_zret hX hR (by first | exact Or.inl rfl | exact Or.inr rfl | exact gB_01 _) dX1_isResolved_15 ?_
    refine ⟨?_, rfl⟩; first | exact gB_1 (decide_eq_true zc7) | exact gB_n (decide_eq_false (fun q => q zc7))
  · skip
    refine g_iconst hX dX1_isResolved_10 ic_1 rfl ?_
    refine g_goto (n := 15) hX dX1_isResolved_11 (by decide) ?_
    refine g_zret hX hR (by first | exact Or.inl rfl | exact Or.inr rfl | exact gB_01 _) dX1_isResolved_15 ?_
    refine ⟨?_, rfl⟩; first | exact gB_1 (decide_eq_true zc7) | exact gB_n (decide_eq_false (fun q => q zc7))
def gaveB (s : Int32) : Bool := decide (s = 2) || decide (s = 3)
theorem c_X1_gaveValue (E : gE) (M : gM) (k : Nat) (hk : k < 30) : gMet E k_X1_gaveValue [.ref 16, .int (nI k)] M (gInt fun r M' => r = gB (gaveB (M 21 k)) ∧ M' = M) := by
  refine gMet.of (by decide +kernel) rfl (Nat.le_of_ble_eq_true rfl) (fun X hX hR => ?_)
  have e2 : nI 2 = 2 := rfl
  have e3 : nI 3 = 3 := rfl
  refine g_aload_n (i := 0) hX dX1_gaveValue_0 rfl rfl rfl ?_
  refine g_getR hX fl_X1_24 rfl rfl dX1_gaveValue_1 rfl ?_
  refine g_iload_n (i := 1) hX dX1_gaveValue_4 rfl rfl rfl ?_
  refine g_iald hX rfl (rfl) (by omega) rfl dX1_gaveValue_5 rfl ?_
  refine g_iconst hX dX1_gaveValue_6 ic_2 rfl ?_
  refine g_icmp_eq (tgt := 20) hX dX1_gaveValue_7 (by decide) rfl (fun zc7 => ?_) (fun zc7 => ?_)
  · skip
    refine g_iconst hX dX1_gaveValue_20 ic_1 rfl ?_
    refine g_goto (n := 25) hX dX1_gaveValue_21 (by decide) ?_
    refine g_zret hX hR (by first | exact Or.inl rfl | exact Or.inr rfl | exact gB_01 _) dX1_gaveValue_25 ?_
    refine ⟨?_, rfl⟩; first | exact gB_1 (by simp_all [gaveB]) | exact gB_n (by simp_all [gaveB])
  · skip
    refine g_aload_n (i := 0) hX dX1_gaveValue_10 rfl rfl rfl ?_
    refine g_getR hX fl_X1_24 rfl rfl dX1_gaveValue_11 rfl ?_
    refine g_iload_n (i := 1) hX dX1_gaveValue_14 rfl rfl rfl ?_
    refine g_iald hX rfl (rfl) (by omega) rfl dX1_gaveValue_15 rfl ?_
    refine g_iconst hX dX1_gaveValue_16 ic_3 rfl ?_
    refine g_icmp_ne (tgt := 24) hX dX1_gaveValue_17 (by decide) rfl (fun zc17 => ?_) (fun zc17 => ?_)
    · skip
      refine g_iconst hX dX1_gaveValue_24 ic_0 rfl ?_
      refine g_zret hX hR (by first | exact Or.inl rfl | exact Or.inr rfl | exact gB_01 _) dX1_gaveValue_25 ?_
      refine ⟨?_, rfl⟩; first | exact gB_1 (by simp_all [gaveB]) | exact gB_n (by simp_all [gaveB])
    · skip
      refine g_iconst hX dX1_gaveValue_20 ic_1 rfl ?_
      refine g_goto (n := 25) hX dX1_gaveValue_21 (by decide) ?_
      refine g_zret hX hR (by first | exact Or.inl rfl | exact Or.inr rfl | exact gB_01 _) dX1_gaveValue_25 ?_
      refine ⟨?_, rfl⟩; first | exact gB_1 (by simp_all [gaveB]) | exact gB_n (by simp_all [gaveB])
def m_comment (M : gM) (n : Nat) (m p k v : Int32) : gM := gset (gset (gset (gset (gset (gset M 17 (upd (M 17) n m)) 18 (upd (M 18) n p)) 19 (upd (M 19) n k)) 20 (upd (M 20) n v)) 21 (upd (M 21) n 0)) 16 (upd (M 16) 8 (nI (n + 1)))
theorem c_X1_append (E : gE) (M : gM) (n : Nat) (m p k v : Int32) (hn : M 16 8 = nI n) (hb : n < 30) : gMet E k_X1_append [.ref 16, .int m, .int p, .int k, .int v] M (gInt fun r M' => r = nI n ∧ M' = m_comment M n m p k v) := by
  refine gMet.of (by decide +kernel) rfl (Nat.le_of_ble_eq_true rfl) (fun X hX hR => ?_)
  refine g_aload_n (i := 0) hX dX1_append_0 rfl rfl rfl ?_
  refine g_getIv hX fl_X1_40 rfl rfl (hn) dX1_append_1 rfl ?_
  refine g_bipush hX dX1_append_4 bc_30 rfl ?_
  first | refine g_icmp_ltN (tgt := 11) hX dX1_append_6 (by decide) rfl (by omega) (by omega) (fun zc6 => ?_) (fun zc6 => absurd zc6 (by omega)) | refine g_icmp_lt (tgt := 11) hX dX1_append_6 (by decide) rfl (fun zc6 => ?_) (fun zc6 => absurd zc6 (by omega))
  refine g_aload_n (i := 0) hX dX1_append_11 rfl rfl rfl ?_
  refine g_getR hX fl_X1_9 rfl rfl dX1_append_12 rfl ?_
  refine g_aload_n (i := 0) hX dX1_append_15 rfl rfl rfl ?_
  refine g_getIv hX fl_X1_40 rfl rfl (hn) dX1_append_16 rfl ?_
  refine g_iload_n (i := 1) hX dX1_append_19 rfl rfl rfl ?_
  refine g_iast hX rfl (rfl) (by omega) rfl dX1_append_20 rfl ?_
  refine g_aload_n (i := 0) hX dX1_append_21 rfl rfl rfl ?_
  refine g_getR hX fl_X1_15 rfl rfl dX1_append_22 rfl ?_
  refine g_aload_n (i := 0) hX dX1_append_25 rfl rfl rfl ?_
  refine g_getIv hX fl_X1_40 rfl rfl (hn) dX1_append_26 rfl ?_
  refine g_iload_n (i := 2) hX dX1_append_29 rfl rfl rfl ?_
  refine g_iast hX rfl (rfl) (by omega) rfl dX1_append_30 rfl ?_
  refine g_aload_n (i := 0) hX dX1_append_31 rfl rfl rfl ?_
  refine g_getR hX fl_X1_18 rfl rfl dX1_append_32 rfl ?_
  refine g_aload_n (i := 0) hX dX1_append_35 rfl rfl rfl ?_
  refine g_getIv hX fl_X1_40 rfl rfl (hn) dX1_append_36 rfl ?_
  refine g_iload_n (i := 3) hX dX1_append_39 rfl rfl rfl ?_
  refine g_iast hX rfl (rfl) (by omega) rfl dX1_append_40 rfl ?_
  refine g_aload_n (i := 0) hX dX1_append_41 rfl rfl rfl ?_
  refine g_getR hX fl_X1_21 rfl rfl dX1_append_42 rfl ?_
  refine g_aload_n (i := 0) hX dX1_append_45 rfl rfl rfl ?_
  refine g_getIv hX fl_X1_40 rfl rfl (hn) dX1_append_46 rfl ?_
  refine g_iload hX dX1_append_49 rfl rfl ?_
  refine g_iast hX rfl (rfl) (by omega) rfl dX1_append_51 rfl ?_
  refine g_aload_n (i := 0) hX dX1_append_52 rfl rfl rfl ?_
  refine g_getR hX fl_X1_24 rfl rfl dX1_append_53 rfl ?_
  refine g_aload_n (i := 0) hX dX1_append_56 rfl rfl rfl ?_
  refine g_getIv hX fl_X1_40 rfl rfl (hn) dX1_append_57 rfl ?_
  refine g_iconst hX dX1_append_60 ic_0 rfl ?_
  refine g_iast hX rfl (rfl) (by omega) rfl dX1_append_61 rfl ?_
  refine g_aload_n (i := 0) hX dX1_append_62 rfl rfl rfl ?_
  refine g_dup hX dX1_append_63 rfl rfl ?_
  refine g_getIv hX fl_X1_40 rfl rfl (hn) dX1_append_64 rfl ?_
  refine g_iconst hX dX1_append_67 ic_1 rfl ?_
  first | refine g_iaddN hX dX1_append_68 rfl ?_ | refine g_iadd hX dX1_append_68 rfl ?_
  refine g_putI hX fp_X1_40 rfl rfl dX1_append_69 rfl ?_
  refine g_aload_n (i := 0) hX dX1_append_72 rfl rfl rfl ?_
  refine g_getIv (x := nI (n + 1)) hX fl_X1_40 rfl rfl (rfl) dX1_append_73 rfl ?_
  refine g_iconst hX dX1_append_76 ic_1 rfl ?_
  refine g_isubN hX dX1_append_77 (by omega) rfl ?_
  refine g_iret hX hR dX1_append_78 ?_
  exact ⟨rfl, rfl⟩
theorem c_X1_makeAllPending (E : gE) (M : gM) (n : Nat) (hn : M 16 8 = nI n) (hb : n ≤ 30) : gMet E k_X1_makeAllPending [.ref 16] M (gVoid fun M' => M' = gset M 21 (mapTo n (fun _ => 1) (M 21))) := by
  refine gMet.of (by decide +kernel) rfl (Nat.le_of_ble_eq_true rfl) (fun X hX hR => ?_)
  have loop := up_loop n (fun k => gG X E (gset M 21 (mapTo k (fun _ => 1) (M 21))) 2 [some (.ref 16), some (.int (nI k))] [] (gQ X E (gVoid fun M' => M' = gset M 21 (mapTo n (fun _ => 1) (M 21))))) ?_ ?_
  · skip
    refine g_iconst hX dX1_makeAllPending_0 ic_0 rfl ?_
    refine g_istore_n (i := 1) hX dX1_makeAllPending_1 rfl (Nat.le_of_ble_eq_true rfl) rfl ?_
    exact gGM (by simp only [mapTo_0, gset_self]) (loop 0 (Nat.zero_le _))
  · skip
    refine g_iload_n (i := 1) hX dX1_makeAllPending_2 rfl rfl rfl ?_
    refine g_aload_n (i := 0) hX dX1_makeAllPending_3 rfl rfl rfl ?_
    refine g_getIv (x := nI n) hX fl_X1_40 rfl rfl (hn) dX1_makeAllPending_4 rfl ?_
    first | refine g_icmp_geN (tgt := 23) hX dX1_makeAllPending_7 (by decide) rfl (by omega) (by omega) (fun zc7 => ?_) (fun zc7 => absurd zc7 (by omega)) | refine g_icmp_ge (tgt := 23) hX dX1_makeAllPending_7 (by decide) rfl (fun zc7 => ?_) (fun zc7 => absurd zc7 (by omega))
    refine g_vret hX hR dX1_makeAllPending_23 ?_
    rfl
  · intro k hk ih
    have s := mapTo_succ k (fun _ => 1) (M 21)
    refine g_iload_n (i := 1) hX dX1_makeAllPending_2 rfl rfl rfl ?_
    refine g_aload_n (i := 0) hX dX1_makeAllPending_3 rfl rfl rfl ?_
    refine g_getIv (x := nI n) hX fl_X1_40 rfl rfl (hn) dX1_makeAllPending_4 rfl ?_
    first | refine g_icmp_geN (tgt := 23) hX dX1_makeAllPending_7 (by decide) rfl (by omega) (by omega) (fun zc7 => absurd zc7 (by omega)) (fun zc7 => ?_) | refine g_icmp_ge (tgt := 23) hX dX1_makeAllPending_7 (by decide) rfl (fun zc7 => absurd zc7 (by omega)) (fun zc7 => ?_)
    refine g_aload_n (i := 0) hX dX1_makeAllPending_10 rfl rfl rfl ?_
    refine g_getR hX fl_X1_24 rfl rfl dX1_makeAllPending_11 rfl ?_
    refine g_iload_n (i := 1) hX dX1_makeAllPending_14 rfl rfl rfl ?_
    refine g_iconst hX dX1_makeAllPending_15 ic_1 rfl ?_
    refine g_iast hX rfl (rfl) (by omega) rfl dX1_makeAllPending_16 rfl ?_
    first | refine g_iincN hX dX1_makeAllPending_17 ic_1 rfl (Nat.le_of_ble_eq_true rfl) rfl ?_ | refine g_iinc hX dX1_makeAllPending_17 ic_1 rfl rfl (Nat.le_of_ble_eq_true rfl) rfl ?_
    refine g_goto (n := 2) hX dX1_makeAllPending_20 (by decide) ?_
    exact gGM (by rw [gset_gset]; exact congrArg (gset M 21) s) ih
theorem c_X1_pending (E : gE) (M : gM) (n : Nat) (hn : M 16 8 = nI n) (hb : n ≤ 30) : gMet E k_X1_pending [.ref 16] M (gInt fun r M' => r = nI (cntTo n (fun k => decide (M 21 k = 1))) ∧ M' = M) := by
  refine gMet.of (by decide +kernel) rfl (Nat.le_of_ble_eq_true rfl) (fun X hX hR => ?_)
  have loop := up_loop n (fun k => gG X E M 4 [some (.ref 16), some (.int (nI (cntTo k (fun k => decide (M 21 k = 1))))), some (.int (nI k))] [] (gQ X E (gInt fun r M' => r = nI (cntTo n (fun k => decide (M 21 k = 1))) ∧ M' = M))) ?_ ?_
  · skip
    refine g_iconst hX dX1_pending_0 ic_0 rfl ?_
    refine g_istore_n (i := 1) hX dX1_pending_1 rfl (Nat.le_of_ble_eq_true rfl) rfl ?_
    refine g_iconst hX dX1_pending_2 ic_0 rfl ?_
    refine g_istore_n (i := 2) hX dX1_pending_3 rfl (Nat.le_of_ble_eq_true rfl) rfl ?_
    exact loop 0 (Nat.zero_le _)
  · skip
    refine g_iload_n (i := 2) hX dX1_pending_4 rfl rfl rfl ?_
    refine g_aload_n (i := 0) hX dX1_pending_5 rfl rfl rfl ?_
    refine g_getIv hX fl_X1_40 rfl rfl (hn) dX1_pending_6 rfl ?_
    first | refine g_icmp_geN (tgt := 31) hX dX1_pending_9 (by decide) rfl (by omega) (by omega) (fun zc9 => ?_) (fun zc9 => absurd zc9 (by omega)) | refine g_icmp_ge (tgt := 31) hX dX1_pending_9 (by decide) rfl (fun zc9 => ?_) (fun zc9 => absurd zc9 (by omega))
    refine g_iload_n (i := 1) hX dX1_pending_31 rfl rfl rfl ?_
    refine g_iret hX hR dX1_pending_32 ?_
    exact ⟨rfl, rfl⟩
  · intro k hk ih
    refine g_iload_n (i := 2) hX dX1_pending_4 rfl rfl rfl ?_
    refine g_aload_n (i := 0) hX dX1_pending_5 rfl rfl rfl ?_
    refine g_getIv hX fl_X1_40 rfl rfl (hn) dX1_pending_6 rfl ?_
    first | refine g_icmp_geN (tgt := 31) hX dX1_pending_9 (by decide) rfl (by omega) (by omega) (fun zc9 => absurd zc9 (by omega)) (fun zc9 => ?_) | refine g_icmp_ge (tgt := 31) hX dX1_pending_9 (by decide) rfl (fun zc9 => absurd zc9 (by omega)) (fun zc9 => ?_)
    refine g_aload_n (i := 0) hX dX1_pending_12 rfl rfl rfl ?_
    refine g_getR hX fl_X1_24 rfl rfl dX1_pending_13 rfl ?_
    refine g_iload_n (i := 2) hX dX1_pending_16 rfl rfl rfl ?_
    refine g_iald hX rfl (rfl) (by omega) rfl dX1_pending_17 rfl ?_
    refine g_iconst hX dX1_pending_18 ic_1 rfl ?_
    refine g_icmp_ne (tgt := 25) hX dX1_pending_19 (by decide) rfl (fun zc19 => ?_) (fun zc19 => ?_)
    · skip
      have c : ¬ M 21 k = 1 := zc19
      first | refine g_iincN hX dX1_pending_25 ic_1 rfl (Nat.le_of_ble_eq_true rfl) rfl ?_ | refine g_iinc hX dX1_pending_25 ic_1 rfl rfl (Nat.le_of_ble_eq_true rfl) rfl ?_
      refine g_goto (n := 4) hX dX1_pending_28 (by decide) ?_
      exact (by simpa [cntTo, c] using ih)
    · skip
      have c : M 21 k = 1 := zc19
      first | refine g_iincN hX dX1_pending_22 ic_1 rfl (Nat.le_of_ble_eq_true rfl) rfl ?_ | refine g_iinc hX dX1_pending_22 ic_1 rfl rfl (Nat.le_of_ble_eq_true rfl) rfl ?_
      first | refine g_iincN hX dX1_pending_25 ic_1 rfl (Nat.le_of_ble_eq_true rfl) rfl ?_ | refine g_iinc hX dX1_pending_25 ic_1 rfl rfl (Nat.le_of_ble_eq_true rfl) rfl ?_
      refine g_goto (n := 4) hX dX1_pending_28 (by decide) ?_
      exact (by simpa [cntTo, c] using ih)
theorem c_X1_numberOf (E : gE) (M : gM) (n : Nat) (m : Int32) (hn : M 16 8 = nI n) (hb : n ≤ 30) : gMet E k_X1_numberOf [.ref 16, .int m] M (gInt fun r M' => r = nI (cntTo n (fun k => decide (M 17 k = m))) ∧ M' = M) := by
  refine gMet.of (by decide +kernel) rfl (Nat.le_of_ble_eq_true rfl) (fun X hX hR => ?_)
  have loop := up_loop n (fun k => gG X E M 4 [some (.ref 16), some (.int m), some (.int (nI (cntTo k (fun k => decide (M 17 k = m))))), some (.int (nI k))] [] (gQ X E (gInt fun r M' => r = nI (cntTo n (fun k => decide (M 17 k = m))) ∧ M' = M))) ?_ ?_
  · skip
    refine g_iconst hX dX1_numberOf_0 ic_0 rfl ?_
    refine g_istore_n (i := 2) hX dX1_numberOf_1 rfl (Nat.le_of_ble_eq_true rfl) rfl ?_
    refine g_iconst hX dX1_numberOf_2 ic_0 rfl ?_
    refine g_istore_n (i := 3) hX dX1_numberOf_3 rfl (Nat.le_of_ble_eq_true rfl) rfl ?_
    exact loop 0 (Nat.zero_le _)
  · skip
    refine g_iload_n (i := 3) hX dX1_numberOf_4 rfl rfl rfl ?_
    refine g_aload_n (i := 0) hX dX1_numberOf_5 rfl rfl rfl ?_
    refine g_getIv hX fl_X1_40 rfl rfl (hn) dX1_numberOf_6 rfl ?_
    first | refine g_icmp_geN (tgt := 31) hX dX1_numberOf_9 (by decide) rfl (by omega) (by omega) (fun zc9 => ?_) (fun zc9 => absurd zc9 (by omega)) | refine g_icmp_ge (tgt := 31) hX dX1_numberOf_9 (by decide) rfl (fun zc9 => ?_) (fun zc9 => absurd zc9 (by omega))
    refine g_iload_n (i := 2) hX dX1_numberOf_31 rfl rfl rfl ?_
    refine g_iret hX hR dX1_numberOf_32 ?_
    exact ⟨rfl, rfl⟩
  · intro k hk ih
    refine g_iload_n (i := 3) hX dX1_numberOf_4 rfl rfl rfl ?_
    refine g_aload_n (i := 0) hX dX1_numberOf_5 rfl rfl rfl ?_
    refine g_getIv hX fl_X1_40 rfl rfl (hn) dX1_numberOf_6 rfl ?_
    first | refine g_icmp_geN (tgt := 31) hX dX1_numberOf_9 (by decide) rfl (by omega) (by omega) (fun zc9 => absurd zc9 (by omega)) (fun zc9 => ?_) | refine g_icmp_ge (tgt := 31) hX dX1_numberOf_9 (by decide) rfl (fun zc9 => absurd zc9 (by omega)) (fun zc9 => ?_)
    refine g_aload_n (i := 0) hX dX1_numberOf_12 rfl rfl rfl ?_
    refine g_getR hX fl_X1_9 rfl rfl dX1_numberOf_13 rfl ?_
    refine g_iload_n (i := 3) hX dX1_numberOf_16 rfl rfl rfl ?_
    refine g_iald hX rfl (rfl) (by omega) rfl dX1_numberOf_17 rfl ?_
    refine g_iload_n (i := 1) hX dX1_numberOf_18 rfl rfl rfl ?_
    refine g_icmp_ne (tgt := 25) hX dX1_numberOf_19 (by decide) rfl (fun zc19 => ?_) (fun zc19 => ?_)
    · skip
      first | refine g_iincN hX dX1_numberOf_25 ic_1 rfl (Nat.le_of_ble_eq_true rfl) rfl ?_ | refine g_iinc hX dX1_numberOf_25 ic_1 rfl rfl (Nat.le_of_ble_eq_true rfl) rfl ?_
      refine g_goto (n := 4) hX dX1_numberOf_28 (by decide) ?_
      exact (by simpa [cntTo, zc19] using ih)
    · skip
      first | refine g_iincN hX dX1_numberOf_22 ic_1 rfl (Nat.le_of_ble_eq_true rfl) rfl ?_ | refine g_iinc hX dX1_numberOf_22 ic_1 rfl rfl (Nat.le_of_ble_eq_true rfl) rfl ?_
      first | refine g_iincN hX dX1_numberOf_25 ic_1 rfl (Nat.le_of_ble_eq_true rfl) rfl ?_ | refine g_iinc hX dX1_numberOf_25 ic_1 rfl rfl (Nat.le_of_ble_eq_true rfl) rfl ?_
      refine g_goto (n := 4) hX dX1_numberOf_28 (by decide) ?_
      exact (by simpa [cntTo, zc19] using ih)
theorem c_X1_hasTechnicalOf (E : gE) (M : gM) (n : Nat) (m : Int32) (hn : M 16 8 = nI n) (hb : n ≤ 30) : gMet E k_X1_hasTechnicalOf [.ref 16, .int m] M (gInt fun r M' => r = gB (anyTo n (fun k => decide (M 17 k = m) && decide (M 19 k = 1))) ∧ M' = M) := by
  refine gMet.of (by decide +kernel) rfl (Nat.le_of_ble_eq_true rfl) (fun X hX hR => ?_)
  have loop := up_loop n (fun k => (∀ j, j < k → (decide (M 17 j = m) && decide (M 19 j = 1)) = false) → gG X E M 2 [some (.ref 16), some (.int m), some (.int (nI k))] [] (gQ X E (gInt fun r M' => r = gB (anyTo n (fun k => decide (M 17 k = m) && decide (M 19 k = 1))) ∧ M' = M))) ?_ ?_
  · skip
    refine g_iconst hX dX1_hasTechnicalOf_0 ic_0 rfl ?_
    refine g_istore_n (i := 2) hX dX1_hasTechnicalOf_1 rfl (Nat.le_of_ble_eq_true rfl) rfl ?_
    exact loop 0 (Nat.zero_le _) (fun j hj => absurd hj (by omega))
  · intro h
    refine g_iload_n (i := 2) hX dX1_hasTechnicalOf_2 rfl rfl rfl ?_
    refine g_aload_n (i := 0) hX dX1_hasTechnicalOf_3 rfl rfl rfl ?_
    refine g_getIv hX fl_X1_40 rfl rfl (hn) dX1_hasTechnicalOf_4 rfl ?_
    first | refine g_icmp_geN (tgt := 38) hX dX1_hasTechnicalOf_7 (by decide) rfl (by omega) (by omega) (fun zc7 => ?_) (fun zc7 => absurd zc7 (by omega)) | refine g_icmp_ge (tgt := 38) hX dX1_hasTechnicalOf_7 (by decide) rfl (fun zc7 => ?_) (fun zc7 => absurd zc7 (by omega))
    refine g_iconst hX dX1_hasTechnicalOf_38 ic_0 rfl ?_
    refine g_zret hX hR (by first | exact Or.inl rfl | exact Or.inr rfl | exact gB_01 _) dX1_hasTechnicalOf_39 ?_
    exact ⟨gB_n (anyTo_false.mpr h), rfl⟩
  · intro k hk ih h
    have step : (decide (M 17 k = m) && decide (M 19 k = 1)) = false → ∀ j, j < k + 1 → (decide (M 17 j = m) && decide (M 19 j = 1)) = false := by
      intro hk2 j hj
      by_cases ej : j = k
      · subst ej; exact hk2
      · exact h j (by omega)
    refine g_iload_n (i := 2) hX dX1_hasTechnicalOf_2 rfl rfl rfl ?_
    refine g_aload_n (i := 0) hX dX1_hasTechnicalOf_3 rfl rfl rfl ?_
    refine g_getIv hX fl_X1_40 rfl rfl (hn) dX1_hasTechnicalOf_4 rfl ?_
    first | refine g_icmp_geN (tgt := 38) hX dX1_hasTechnicalOf_7 (by decide) rfl (by omega) (by omega) (fun zc7 => absurd zc7 (by omega)) (fun zc7 => ?_) | refine g_icmp_ge (tgt := 38) hX dX1_hasTechnicalOf_7 (by decide) rfl (fun zc7 => absurd zc7 (by omega)) (fun zc7 => ?_)
    refine g_aload_n (i := 0) hX dX1_hasTechnicalOf_10 rfl rfl rfl ?_
    refine g_getR hX fl_X1_9 rfl rfl dX1_hasTechnicalOf_11 rfl ?_
    refine g_iload_n (i := 2) hX dX1_hasTechnicalOf_14 rfl rfl rfl ?_
    refine g_iald hX rfl (rfl) (by omega) rfl dX1_hasTechnicalOf_15 rfl ?_
    refine g_iload_n (i := 1) hX dX1_hasTechnicalOf_16 rfl rfl rfl ?_
    refine g_icmp_ne (tgt := 32) hX dX1_hasTechnicalOf_17 (by decide) rfl (fun zc17 => ?_) (fun zc17 => ?_)
    · skip
      first | refine g_iincN hX dX1_hasTechnicalOf_32 ic_1 rfl (Nat.le_of_ble_eq_true rfl) rfl ?_ | refine g_iinc hX dX1_hasTechnicalOf_32 ic_1 rfl rfl (Nat.le_of_ble_eq_true rfl) rfl ?_
      refine g_goto (n := 2) hX dX1_hasTechnicalOf_35 (by decide) ?_
      exact ih (step (by first | (simp [zc17]; done) | (simp [c]; done)))
    · skip
      refine g_aload_n (i := 0) hX dX1_hasTechnicalOf_20 rfl rfl rfl ?_
      refine g_getR hX fl_X1_18 rfl rfl dX1_hasTechnicalOf_21 rfl ?_
      refine g_iload_n (i := 2) hX dX1_hasTechnicalOf_24 rfl rfl rfl ?_
      refine g_iald hX rfl (rfl) (by omega) rfl dX1_hasTechnicalOf_25 rfl ?_
      refine g_iconst hX dX1_hasTechnicalOf_26 ic_1 rfl ?_
      refine g_icmp_ne (tgt := 32) hX dX1_hasTechnicalOf_27 (by decide) rfl (fun zc27 => ?_) (fun zc27 => ?_)
      · skip
        have c : ¬ M 19 k = 1 := zc27
        first | refine g_iincN hX dX1_hasTechnicalOf_32 ic_1 rfl (Nat.le_of_ble_eq_true rfl) rfl ?_ | refine g_iinc hX dX1_hasTechnicalOf_32 ic_1 rfl rfl (Nat.le_of_ble_eq_true rfl) rfl ?_
        refine g_goto (n := 2) hX dX1_hasTechnicalOf_35 (by decide) ?_
        exact ih (step (by first | (simp [zc17]; done) | (simp [c]; done)))
      · skip
        have c : M 19 k = 1 := zc27
        refine g_iconst hX dX1_hasTechnicalOf_30 ic_1 rfl ?_
        refine g_zret hX hR (by first | exact Or.inl rfl | exact Or.inr rfl | exact gB_01 _) dX1_hasTechnicalOf_31 ?_
        exact ⟨gB_1 (anyTo_true.mpr ⟨k, hk, by simp [zc17, c]⟩), rfl⟩
/-- whether a comment ranks ahead of one with a lower number -/
def aheadX (kd pl w : Nat → Int32) (mb : Nat → Nat) (a b : Nat) : Bool := if kd a = kd b then (if pl a = pl b then decide (w (mb b) < w (mb a)) else decide (pl a < pl b)) else decide (kd a = 1)
theorem c_X1_isAhead (E : gE) (M : gM) (n a b : Nat) (mb : Nat → Nat) (hb : n ≤ 30) (ha : a < n) (hbb : b < n) (hm : ∀ k, k < n → mb k < 10 ∧ M 17 k = nI (mb k)) : gMet E k_X1_isAhead [.ref 16, .int (nI a), .int (nI b), .ref 2] M (gInt fun r M' => r = gB (aheadX (M 19) (M 18) (M 3) mb a b) ∧ M' = M) := by
  refine gMet.of (by decide +kernel) rfl (Nat.le_of_ble_eq_true rfl) (fun X hX hR => ?_)
  obtain ⟨ma1, ma2⟩ := hm a ha
  obtain ⟨mb1, mb2⟩ := hm b hbb
  refine g_aload_n (i := 0) hX dX1_isAhead_0 rfl rfl rfl ?_
  refine g_getR hX fl_X1_18 rfl rfl dX1_isAhead_1 rfl ?_
  refine g_iload_n (i := 1) hX dX1_isAhead_4 rfl rfl rfl ?_
  refine g_iald hX rfl (rfl) (by omega) rfl dX1_isAhead_5 rfl ?_
  refine g_aload_n (i := 0) hX dX1_isAhead_6 rfl rfl rfl ?_
  refine g_getR hX fl_X1_18 rfl rfl dX1_isAhead_7 rfl ?_
  refine g_iload_n (i := 2) hX dX1_isAhead_10 rfl rfl rfl ?_
  refine g_iald hX rfl (rfl) (by omega) rfl dX1_isAhead_11 rfl ?_
  refine g_icmp_eq (tgt := 31) hX dX1_isAhead_12 (by decide) rfl (fun zc12 => ?_) (fun zc12 => ?_)
  · skip
    refine g_aload_n (i := 0) hX dX1_isAhead_31 rfl rfl rfl ?_
    refine g_getR hX fl_X1_15 rfl rfl dX1_isAhead_32 rfl ?_
    refine g_iload_n (i := 1) hX dX1_isAhead_35 rfl rfl rfl ?_
    refine g_iald hX rfl (rfl) (by omega) rfl dX1_isAhead_36 rfl ?_
    refine g_aload_n (i := 0) hX dX1_isAhead_37 rfl rfl rfl ?_
    refine g_getR hX fl_X1_15 rfl rfl dX1_isAhead_38 rfl ?_
    refine g_iload_n (i := 2) hX dX1_isAhead_41 rfl rfl rfl ?_
    refine g_iald hX rfl (rfl) (by omega) rfl dX1_isAhead_42 rfl ?_
    refine g_icmp_eq (tgt := 67) hX dX1_isAhead_43 (by decide) rfl (fun zc43 => ?_) (fun zc43 => ?_)
    · skip
      refine g_aload_n (i := 3) hX dX1_isAhead_67 rfl rfl rfl ?_
      refine g_getR hX fl_X1_51 rfl rfl dX1_isAhead_68 rfl ?_
      refine g_aload_n (i := 0) hX dX1_isAhead_71 rfl rfl rfl ?_
      refine g_getR hX fl_X1_9 rfl rfl dX1_isAhead_72 rfl ?_
      refine g_iload_n (i := 1) hX dX1_isAhead_75 rfl rfl rfl ?_
      refine g_iald hX rfl (rfl) (by omega) rfl dX1_isAhead_76 rfl ?_
      refine g_iald hX rfl (ma2) (by omega) rfl dX1_isAhead_77 rfl ?_
      refine g_aload_n (i := 3) hX dX1_isAhead_78 rfl rfl rfl ?_
      refine g_getR hX fl_X1_51 rfl rfl dX1_isAhead_79 rfl ?_
      refine g_aload_n (i := 0) hX dX1_isAhead_82 rfl rfl rfl ?_
      refine g_getR hX fl_X1_9 rfl rfl dX1_isAhead_83 rfl ?_
      refine g_iload_n (i := 2) hX dX1_isAhead_86 rfl rfl rfl ?_
      refine g_iald hX rfl (rfl) (by omega) rfl dX1_isAhead_87 rfl ?_
      refine g_iald hX rfl (mb2) (by omega) rfl dX1_isAhead_88 rfl ?_
      refine g_icmp_le (tgt := 96) hX dX1_isAhead_89 (by decide) rfl (fun zc89 => ?_) (fun zc89 => ?_)
      · skip
        refine g_iconst hX dX1_isAhead_96 ic_0 rfl ?_
        refine g_zret hX hR (by first | exact Or.inl rfl | exact Or.inr rfl | exact gB_01 _) dX1_isAhead_97 ?_
        refine ⟨?_, rfl⟩
        first
          | exact gB_1 (by simp only [aheadX, if_pos zc12, if_pos zc43]; exact decide_eq_true (Int32.not_le.mp zc89))
          | exact gB_n (by simp only [aheadX, if_pos zc12, if_pos zc43]; exact decide_eq_false (Int32.not_lt.mpr zc89))
      · skip
        refine g_iconst hX dX1_isAhead_92 ic_1 rfl ?_
        refine g_goto (n := 97) hX dX1_isAhead_93 (by decide) ?_
        refine g_zret hX hR (by first | exact Or.inl rfl | exact Or.inr rfl | exact gB_01 _) dX1_isAhead_97 ?_
        refine ⟨?_, rfl⟩
        first
          | exact gB_1 (by simp only [aheadX, if_pos zc12, if_pos zc43]; exact decide_eq_true (Int32.not_le.mp zc89))
          | exact gB_n (by simp only [aheadX, if_pos zc12, if_pos zc43]; exact decide_eq_false (Int32.not_lt.mpr zc89))
    · skip
      refine g_aload_n (i := 0) hX dX1_isAhead_46 rfl rfl rfl ?_
      refine g_getR hX fl_X1_15 rfl rfl dX1_isAhead_47 rfl ?_
      refine g_iload_n (i := 1) hX dX1_isAhead_50 rfl rfl rfl ?_
      refine g_iald hX rfl (rfl) (by omega) rfl dX1_isAhead_51 rfl ?_
      refine g_aload_n (i := 0) hX dX1_isAhead_52 rfl rfl rfl ?_
      refine g_getR hX fl_X1_15 rfl rfl dX1_isAhead_53 rfl ?_
      refine g_iload_n (i := 2) hX dX1_isAhead_56 rfl rfl rfl ?_
      refine g_iald hX rfl (rfl) (by omega) rfl dX1_isAhead_57 rfl ?_
      refine g_icmp_ge (tgt := 65) hX dX1_isAhead_58 (by decide) rfl (fun zc58 => ?_) (fun zc58 => ?_)
      · skip
        refine g_iconst hX dX1_isAhead_65 ic_0 rfl ?_
        refine g_zret hX hR (by first | exact Or.inl rfl | exact Or.inr rfl | exact gB_01 _) dX1_isAhead_66 ?_
        refine ⟨?_, rfl⟩
        first
          | exact gB_1 (by simp only [aheadX, if_pos zc12, if_neg zc43]; exact decide_eq_true (Int32.not_le.mp zc58))
          | exact gB_n (by simp only [aheadX, if_pos zc12, if_neg zc43]; exact decide_eq_false (Int32.not_lt.mpr zc58))
      · skip
        refine g_iconst hX dX1_isAhead_61 ic_1 rfl ?_
        refine g_goto (n := 66) hX dX1_isAhead_62 (by decide) ?_
        refine g_zret hX hR (by first | exact Or.inl rfl | exact Or.inr rfl | exact gB_01 _) dX1_isAhead_66 ?_
        refine ⟨?_, rfl⟩
        first
          | exact gB_1 (by simp only [aheadX, if_pos zc12, if_neg zc43]; exact decide_eq_true (Int32.not_le.mp zc58))
          | exact gB_n (by simp only [aheadX, if_pos zc12, if_neg zc43]; exact decide_eq_false (Int32.not_lt.mpr zc58))
  · skip
    refine g_aload_n (i := 0) hX dX1_isAhead_15 rfl rfl rfl ?_
    refine g_getR hX fl_X1_18 rfl rfl dX1_isAhead_16 rfl ?_
    refine g_iload_n (i := 1) hX dX1_isAhead_19 rfl rfl rfl ?_
    refine g_iald hX rfl (rfl) (by omega) rfl dX1_isAhead_20 rfl ?_
    refine g_iconst hX dX1_isAhead_21 ic_1 rfl ?_
    refine g_icmp_ne (tgt := 29) hX dX1_isAhead_22 (by decide) rfl (fun zc22 => ?_) (fun zc22 => ?_)
    · skip
      have c : ¬ M 19 a = 1 := zc22
      refine g_iconst hX dX1_isAhead_29 ic_0 rfl ?_
      refine g_zret hX hR (by first | exact Or.inl rfl | exact Or.inr rfl | exact gB_01 _) dX1_isAhead_30 ?_
      refine ⟨?_, rfl⟩; first | exact gB_1 (by simp only [aheadX, if_neg zc12]; exact decide_eq_true c) | exact gB_n (by simp only [aheadX, if_neg zc12]; exact decide_eq_false c)
    · skip
      have c : M 19 a = 1 := zc22
      refine g_iconst hX dX1_isAhead_25 ic_1 rfl ?_
      refine g_goto (n := 30) hX dX1_isAhead_26 (by decide) ?_
      refine g_zret hX hR (by first | exact Or.inl rfl | exact Or.inr rfl | exact gB_01 _) dX1_isAhead_30 ?_
      refine ⟨?_, rfl⟩; first | exact gB_1 (by simp only [aheadX, if_neg zc12]; exact decide_eq_true c) | exact gB_n (by simp only [aheadX, if_neg zc12]; exact decide_eq_false c)
def pendB (s : Nat → Int32) (k : Nat) : Bool := decide (s k = 1)
theorem c_X1_firstPending (E : gE) (M : gM) (n : Nat) (mb : Nat → Nat) (hn : M 16 8 = nI n) (hb : n ≤ 30) (hm : ∀ k, k < n → mb k < 10 ∧ M 17 k = nI (mb k)) : gMet E k_X1_firstPending [.ref 16, .ref 2] M (gInt fun r M' => r = optI (-1) (bestTo n (pendB (M 21)) (aheadX (M 19) (M 18) (M 3) mb)) ∧ M' = M) := by
  refine gMet.of (by decide +kernel) rfl (Nat.le_of_ble_eq_true rfl) (fun X hX hR => ?_)
  have loop := up_loop n (fun k => gG X E M 4 [some (.ref 16), some (.ref 2), some (.int (optI (-1) (bestTo k (pendB (M 21)) (aheadX (M 19) (M 18) (M 3) mb)))), some (.int (nI k))] [] (gQ X E (gInt fun r M' => r = optI (-1) (bestTo n (pendB (M 21)) (aheadX (M 19) (M 18) (M 3) mb)) ∧ M' = M))) ?_ ?_
  · skip
    refine g_iconst hX dX1_firstPending_0 ic_m1 rfl ?_
    refine g_istore_n (i := 2) hX dX1_firstPending_1 rfl (Nat.le_of_ble_eq_true rfl) rfl ?_
    refine g_iconst hX dX1_firstPending_2 ic_0 rfl ?_
    refine g_istore_n (i := 3) hX dX1_firstPending_3 rfl (Nat.le_of_ble_eq_true rfl) rfl ?_
    exact loop 0 (Nat.zero_le _)
  · skip
    refine g_iload_n (i := 3) hX dX1_firstPending_4 rfl rfl rfl ?_
    refine g_aload_n (i := 0) hX dX1_firstPending_5 rfl rfl rfl ?_
    refine g_getIv hX fl_X1_40 rfl rfl (hn) dX1_firstPending_6 rfl ?_
    first | refine g_icmp_geN (tgt := 45) hX dX1_firstPending_9 (by decide) rfl (by omega) (by omega) (fun zc9 => ?_) (fun zc9 => absurd zc9 (by omega)) | refine g_icmp_ge (tgt := 45) hX dX1_firstPending_9 (by decide) rfl (fun zc9 => ?_) (fun zc9 => absurd zc9 (by omega))
    refine g_iload_n (i := 2) hX dX1_firstPending_45 rfl rfl rfl ?_
    refine g_iret hX hR dX1_firstPending_46 ?_
    exact ⟨rfl, rfl⟩
  · intro k hk ih
    simp only [bestTo] at ih
    cases ho : bestTo k (pendB (M 21)) (aheadX (M 19) (M 18) (M 3) mb) with
    | none =>
      rw [ho] at ih
      refine g_iload_n (i := 3) hX dX1_firstPending_4 rfl rfl rfl ?_
      refine g_aload_n (i := 0) hX dX1_firstPending_5 rfl rfl rfl ?_
      refine g_getIv hX fl_X1_40 rfl rfl (hn) dX1_firstPending_6 rfl ?_
      first | refine g_icmp_geN (tgt := 45) hX dX1_firstPending_9 (by decide) rfl (by omega) (by omega) (fun zc9 => absurd zc9 (by omega)) (fun zc9 => ?_) | refine g_icmp_ge (tgt := 45) hX dX1_firstPending_9 (by decide) rfl (fun zc9 => absurd zc9 (by omega)) (fun zc9 => ?_)
      refine g_aload_n (i := 0) hX dX1_firstPending_12 rfl rfl rfl ?_
      refine g_getR hX fl_X1_24 rfl rfl dX1_firstPending_13 rfl ?_
      refine g_iload_n (i := 3) hX dX1_firstPending_16 rfl rfl rfl ?_
      refine g_iald hX rfl (rfl) (by omega) rfl dX1_firstPending_17 rfl ?_
      refine g_iconst hX dX1_firstPending_18 ic_1 rfl ?_
      refine g_icmp_ne (tgt := 39) hX dX1_firstPending_19 (by decide) rfl (fun zc19 => ?_) (fun zc19 => ?_)
      · skip
        have c : ¬ M 21 k = 1 := zc19
        first | refine g_iincN hX dX1_firstPending_39 ic_1 rfl (Nat.le_of_ble_eq_true rfl) rfl ?_ | refine g_iinc hX dX1_firstPending_39 ic_1 rfl rfl (Nat.le_of_ble_eq_true rfl) rfl ?_
        refine g_goto (n := 4) hX dX1_firstPending_42 (by decide) ?_
        exact (by simpa [isB, pendB, c, optI] using ih)
      · skip
        have c : M 21 k = 1 := zc19
        refine g_iload_n (i := 2) hX dX1_firstPending_22 rfl rfl rfl ?_
        refine g_iconst hX dX1_firstPending_23 ic_m1 rfl ?_
        refine g_icmp_eq (tgt := 37) hX dX1_firstPending_24 (by decide) rfl (fun zc24 => ?_) (fun zc24 => absurd rfl zc24)
        refine g_iload_n (i := 3) hX dX1_firstPending_37 rfl rfl rfl ?_
        refine g_istore_n (i := 2) hX dX1_firstPending_38 rfl (Nat.le_of_ble_eq_true rfl) rfl ?_
        first | refine g_iincN hX dX1_firstPending_39 ic_1 rfl (Nat.le_of_ble_eq_true rfl) rfl ?_ | refine g_iinc hX dX1_firstPending_39 ic_1 rfl rfl (Nat.le_of_ble_eq_true rfl) rfl ?_
        refine g_goto (n := 4) hX dX1_firstPending_42 (by decide) ?_
        exact (by simpa [isB, pendB, c, optI] using ih)
    | some q =>
      rw [ho] at ih
      have hq := (bestTo_lt ho).1
      refine g_iload_n (i := 3) hX dX1_firstPending_4 rfl rfl rfl ?_
      refine g_aload_n (i := 0) hX dX1_firstPending_5 rfl rfl rfl ?_
      refine g_getIv hX fl_X1_40 rfl rfl (hn) dX1_firstPending_6 rfl ?_
      first | refine g_icmp_geN (tgt := 45) hX dX1_firstPending_9 (by decide) rfl (by omega) (by omega) (fun zc9 => absurd zc9 (by omega)) (fun zc9 => ?_) | refine g_icmp_ge (tgt := 45) hX dX1_firstPending_9 (by decide) rfl (fun zc9 => absurd zc9 (by omega)) (fun zc9 => ?_)
      refine g_aload_n (i := 0) hX dX1_firstPending_12 rfl rfl rfl ?_
      refine g_getR hX fl_X1_24 rfl rfl dX1_firstPending_13 rfl ?_
      refine g_iload_n (i := 3) hX dX1_firstPending_16 rfl rfl rfl ?_
      refine g_iald hX rfl (rfl) (by omega) rfl dX1_firstPending_17 rfl ?_
      refine g_iconst hX dX1_firstPending_18 ic_1 rfl ?_
      refine g_icmp_ne (tgt := 39) hX dX1_firstPending_19 (by decide) rfl (fun zc19 => ?_) (fun zc19 => ?_)
      · skip
        have c : ¬ M 21 k = 1 := zc19
        first | refine g_iincN hX dX1_firstPending_39 ic_1 rfl (Nat.le_of_ble_eq_true rfl) rfl ?_ | refine g_iinc hX dX1_firstPending_39 ic_1 rfl rfl (Nat.le_of_ble_eq_true rfl) rfl ?_
        refine g_goto (n := 4) hX dX1_firstPending_42 (by decide) ?_
        first | exact (by simpa [isB, pendB, c, optI] using ih) | exact (by simpa [isB, pendB, c, zc34, optI] using ih)
      · skip
        have c : M 21 k = 1 := zc19
        refine g_iload_n (i := 2) hX dX1_firstPending_22 rfl rfl rfl ?_
        refine g_iconst hX dX1_firstPending_23 ic_m1 rfl ?_
        refine g_icmp_eq (tgt := 37) hX dX1_firstPending_24 (by decide) rfl (fun zc24 => absurd zc24 (nI_ne_m1 (by omega))) (fun zc24 => ?_)
        refine g_aload_n (i := 0) hX dX1_firstPending_27 rfl rfl rfl ?_
        refine g_iload_n (i := 3) hX dX1_firstPending_28 rfl rfl rfl ?_
        refine g_iload_n (i := 2) hX dX1_firstPending_29 rfl rfl rfl ?_
        refine g_aload_n (i := 1) hX dX1_firstPending_30 rfl rfl rfl ?_
        refine g_callVi hX (c_X1_isAhead E M n k q mb hb hk (by omega) hm) kf_X1_isAhead rfl wk_X1_47 rfl rfl rfl rfl rfl dX1_firstPending_31 rfl (fun x31 M31 h31 => ?_)
        obtain ⟨rfl, hm⟩ := h31; have hm := hm.symm; subst hm
        first | refine g_if_eqB (tgt := 39) hX dX1_firstPending_34 (by decide) rfl (fun zc34 => ?_) (fun zc34 => ?_) | refine g_if_eq (tgt := 39) hX dX1_firstPending_34 (by decide) rfl (fun zc34 => ?_) (fun zc34 => ?_)
        · skip
          first | refine g_iincN hX dX1_firstPending_39 ic_1 rfl (Nat.le_of_ble_eq_true rfl) rfl ?_ | refine g_iinc hX dX1_firstPending_39 ic_1 rfl rfl (Nat.le_of_ble_eq_true rfl) rfl ?_
          refine g_goto (n := 4) hX dX1_firstPending_42 (by decide) ?_
          first | exact (by simpa [isB, pendB, c, optI] using ih) | exact (by simpa [isB, pendB, c, zc34, optI] using ih)
        · skip
          refine g_iload_n (i := 3) hX dX1_firstPending_37 rfl rfl rfl ?_
          refine g_istore_n (i := 2) hX dX1_firstPending_38 rfl (Nat.le_of_ble_eq_true rfl) rfl ?_
          first | refine g_iincN hX dX1_firstPending_39 ic_1 rfl (Nat.le_of_ble_eq_true rfl) rfl ?_ | refine g_iinc hX dX1_firstPending_39 ic_1 rfl rfl (Nat.le_of_ble_eq_true rfl) rfl ?_
          refine g_goto (n := 4) hX dX1_firstPending_42 (by decide) ?_
          first | exact (by simpa [isB, pendB, c, optI] using ih) | exact (by simpa [isB, pendB, c, zc34, optI] using ih)
def m_resolve (M : gM) (c : Nat) (s d v : Int32) : gM := gset (gset (gset (gset (gset M 21 (upd (M 21) c s)) 22 (upd (M 22) c d)) 23 (upd (M 23) c v)) 24 (upd (M 24) c (M 16 9))) 16 (upd (M 16) 9 (M 16 9 + 1))
theorem c_X1_resolveAs (E : gE) (M : gM) (c : Nat) (d v t : Int32) (hc : c < 30) : gMet E k_X1_resolveAs [.ref 16, .int (nI c), .int d, .int v, .int t] M (gVoid fun M' => M' = m_resolve M c (2 + d) t v) := by
  refine gMet.of (by decide +kernel) rfl (Nat.le_of_ble_eq_true rfl) (fun X hX hR => ?_)
  refine g_aload_n (i := 0) hX dX1_resolveAs_0 rfl rfl rfl ?_
  refine g_getR hX fl_X1_24 rfl rfl dX1_resolveAs_1 rfl ?_
  refine g_iload_n (i := 1) hX dX1_resolveAs_4 rfl rfl rfl ?_
  refine g_iconst hX dX1_resolveAs_5 ic_2 rfl ?_
  refine g_iload_n (i := 2) hX dX1_resolveAs_6 rfl rfl rfl ?_
  refine g_iadd hX dX1_resolveAs_7 rfl ?_
  refine g_iast hX rfl (rfl) (by omega) rfl dX1_resolveAs_8 rfl ?_
  refine g_aload_n (i := 0) hX dX1_resolveAs_9 rfl rfl rfl ?_
  refine g_getR hX fl_X1_27 rfl rfl dX1_resolveAs_10 rfl ?_
  refine g_iload_n (i := 1) hX dX1_resolveAs_13 rfl rfl rfl ?_
  refine g_iload hX dX1_resolveAs_14 rfl rfl ?_
  refine g_iast hX rfl (rfl) (by omega) rfl dX1_resolveAs_16 rfl ?_
  refine g_aload_n (i := 0) hX dX1_resolveAs_17 rfl rfl rfl ?_
  refine g_getR hX fl_X1_30 rfl rfl dX1_resolveAs_18 rfl ?_
  refine g_iload_n (i := 1) hX dX1_resolveAs_21 rfl rfl rfl ?_
  refine g_iload_n (i := 3) hX dX1_resolveAs_22 rfl rfl rfl ?_
  refine g_iast hX rfl (rfl) (by omega) rfl dX1_resolveAs_23 rfl ?_
  refine g_aload_n (i := 0) hX dX1_resolveAs_24 rfl rfl rfl ?_
  refine g_getR hX fl_X1_33 rfl rfl dX1_resolveAs_25 rfl ?_
  refine g_iload_n (i := 1) hX dX1_resolveAs_28 rfl rfl rfl ?_
  refine g_aload_n (i := 0) hX dX1_resolveAs_29 rfl rfl rfl ?_
  refine g_getIv (x := M 16 9) hX fl_X1_44 rfl rfl (rfl) dX1_resolveAs_30 rfl ?_
  refine g_iast hX rfl (rfl) (by omega) rfl dX1_resolveAs_33 rfl ?_
  refine g_aload_n (i := 0) hX dX1_resolveAs_34 rfl rfl rfl ?_
  refine g_dup hX dX1_resolveAs_35 rfl rfl ?_
  refine g_getIv (x := M 16 9) hX fl_X1_44 rfl rfl (rfl) dX1_resolveAs_36 rfl ?_
  refine g_iconst hX dX1_resolveAs_39 ic_1 rfl ?_
  first | refine g_iaddN hX dX1_resolveAs_40 rfl ?_ | refine g_iadd hX dX1_resolveAs_40 rfl ?_
  refine g_putI hX fp_X1_44 rfl rfl dX1_resolveAs_41 rfl ?_
  refine g_vret hX hR dX1_resolveAs_44 ?_
  rfl
/-- those that stand and gave a clause a value -/
def behB (pl st gv : Nat → Int32) (p v : Int32) (k : Nat) : Bool := decide (pl k = p) && gaveB (st k) && decide (gv k = v)
def turnB (tn : Nat → Int32) (k b : Nat) : Bool := decide (tn k < tn b)
theorem c_X1_firstBehind (E : gE) (M : gM) (n : Nat) (p v : Int32) (hn : M 16 8 = nI n) (hb : n ≤ 30) : gMet E k_X1_firstBehind [.ref 16, .int p, .int v] M (gInt fun r M' => r = optI (-1) (bestTo n (behB (M 18) (M 21) (M 23) p v) (turnB (M 24))) ∧ M' = M) := by
  refine gMet.of (by decide +kernel) rfl (Nat.le_of_ble_eq_true rfl) (fun X hX hR => ?_)
  have loop := up_loop n (fun k => gG X E M 5 [some (.ref 16), some (.int p), some (.int v), some (.int (optI (-1) (bestTo k (behB (M 18) (M 21) (M 23) p v) (turnB (M 24))))), some (.int (nI k))] [] (gQ X E (gInt fun r M' => r = optI (-1) (bestTo n (behB (M 18) (M 21) (M 23) p v) (turnB (M 24))) ∧ M' = M))) ?_ ?_
  · skip
    refine g_iconst hX dX1_firstBehind_0 ic_m1 rfl ?_
    refine g_istore_n (i := 3) hX dX1_firstBehind_1 rfl (Nat.le_of_ble_eq_true rfl) rfl ?_
    refine g_iconst hX dX1_firstBehind_2 ic_0 rfl ?_
    refine g_istore hX dX1_firstBehind_3 (Nat.le_of_ble_eq_true rfl) rfl ?_
    exact loop 0 (Nat.zero_le _)
  · skip
    refine g_iload hX dX1_firstBehind_5 rfl rfl ?_
    refine g_aload_n (i := 0) hX dX1_firstBehind_7 rfl rfl rfl ?_
    refine g_getIv hX fl_X1_40 rfl rfl (hn) dX1_firstBehind_8 rfl ?_
    first | refine g_icmp_geN (tgt := 75) hX dX1_firstBehind_11 (by decide) rfl (by omega) (by omega) (fun zc11 => ?_) (fun zc11 => absurd zc11 (by omega)) | refine g_icmp_ge (tgt := 75) hX dX1_firstBehind_11 (by decide) rfl (fun zc11 => ?_) (fun zc11 => absurd zc11 (by omega))
    refine g_iload_n (i := 3) hX dX1_firstBehind_75 rfl rfl rfl ?_
    refine g_iret hX hR dX1_firstBehind_76 ?_
    exact ⟨rfl, rfl⟩
  · intro k hk ih
    simp only [bestTo] at ih
    cases ho : bestTo k (behB (M 18) (M 21) (M 23) p v) (turnB (M 24)) with
    | none =>
      rw [ho] at ih
      refine g_iload hX dX1_firstBehind_5 rfl rfl ?_
      refine g_aload_n (i := 0) hX dX1_firstBehind_7 rfl rfl rfl ?_
      refine g_getIv hX fl_X1_40 rfl rfl (hn) dX1_firstBehind_8 rfl ?_
      first | refine g_icmp_geN (tgt := 75) hX dX1_firstBehind_11 (by decide) rfl (by omega) (by omega) (fun zc11 => absurd zc11 (by omega)) (fun zc11 => ?_) | refine g_icmp_ge (tgt := 75) hX dX1_firstBehind_11 (by decide) rfl (fun zc11 => absurd zc11 (by omega)) (fun zc11 => ?_)
      refine g_aload_n (i := 0) hX dX1_firstBehind_14 rfl rfl rfl ?_
      refine g_getR hX fl_X1_15 rfl rfl dX1_firstBehind_15 rfl ?_
      refine g_iload hX dX1_firstBehind_18 rfl rfl ?_
      refine g_iald hX rfl (rfl) (by omega) rfl dX1_firstBehind_20 rfl ?_
      refine g_iload_n (i := 1) hX dX1_firstBehind_21 rfl rfl rfl ?_
      refine g_icmp_ne (tgt := 69) hX dX1_firstBehind_22 (by decide) rfl (fun zc22 => ?_) (fun zc22 => ?_)
      · skip
        first | refine g_iincN hX dX1_firstBehind_69 ic_1 rfl (Nat.le_of_ble_eq_true rfl) rfl ?_ | refine g_iinc hX dX1_firstBehind_69 ic_1 rfl rfl (Nat.le_of_ble_eq_true rfl) rfl ?_
        refine g_goto (n := 5) hX dX1_firstBehind_72 (by decide) ?_
        first | exact (by simpa [isB, behB, zc22, optI] using ih) | exact (by simpa [isB, behB, zc22, zc31, optI] using ih) | exact (by simpa [isB, behB, zc22, zc31, zc42, optI] using ih)
      · skip
        refine g_aload_n (i := 0) hX dX1_firstBehind_25 rfl rfl rfl ?_
        refine g_iload hX dX1_firstBehind_26 rfl rfl ?_
        refine g_callVi hX (c_X1_gaveValue E M k (by omega)) kf_X1_gaveValue rfl wk_X1_56 rfl rfl rfl rfl rfl dX1_firstBehind_28 rfl (fun x28 M28 h28 => ?_)
        obtain ⟨rfl, hm⟩ := h28; have hm := hm.symm; subst hm
        first | refine g_if_eqB (tgt := 69) hX dX1_firstBehind_31 (by decide) rfl (fun zc31 => ?_) (fun zc31 => ?_) | refine g_if_eq (tgt := 69) hX dX1_firstBehind_31 (by decide) rfl (fun zc31 => ?_) (fun zc31 => ?_)
        · skip
          first | refine g_iincN hX dX1_firstBehind_69 ic_1 rfl (Nat.le_of_ble_eq_true rfl) rfl ?_ | refine g_iinc hX dX1_firstBehind_69 ic_1 rfl rfl (Nat.le_of_ble_eq_true rfl) rfl ?_
          refine g_goto (n := 5) hX dX1_firstBehind_72 (by decide) ?_
          first | exact (by simpa [isB, behB, zc22, optI] using ih) | exact (by simpa [isB, behB, zc22, zc31, optI] using ih) | exact (by simpa [isB, behB, zc22, zc31, zc42, optI] using ih)
        · skip
          refine g_aload_n (i := 0) hX dX1_firstBehind_34 rfl rfl rfl ?_
          refine g_getR hX fl_X1_30 rfl rfl dX1_firstBehind_35 rfl ?_
          refine g_iload hX dX1_firstBehind_38 rfl rfl ?_
          refine g_iald hX rfl (rfl) (by omega) rfl dX1_firstBehind_40 rfl ?_
          refine g_iload_n (i := 2) hX dX1_firstBehind_41 rfl rfl rfl ?_
          refine g_icmp_ne (tgt := 69) hX dX1_firstBehind_42 (by decide) rfl (fun zc42 => ?_) (fun zc42 => ?_)
          · skip
            first | refine g_iincN hX dX1_firstBehind_69 ic_1 rfl (Nat.le_of_ble_eq_true rfl) rfl ?_ | refine g_iinc hX dX1_firstBehind_69 ic_1 rfl rfl (Nat.le_of_ble_eq_true rfl) rfl ?_
            refine g_goto (n := 5) hX dX1_firstBehind_72 (by decide) ?_
            first | exact (by simpa [isB, behB, zc22, optI] using ih) | exact (by simpa [isB, behB, zc22, zc31, optI] using ih) | exact (by simpa [isB, behB, zc22, zc31, zc42, optI] using ih)
          · skip
            refine g_iload_n (i := 3) hX dX1_firstBehind_45 rfl rfl rfl ?_
            refine g_iconst hX dX1_firstBehind_46 ic_m1 rfl ?_
            refine g_icmp_eq (tgt := 66) hX dX1_firstBehind_47 (by decide) rfl (fun zc47 => ?_) (fun zc47 => absurd rfl zc47)
            refine g_iload hX dX1_firstBehind_66 rfl rfl ?_
            refine g_istore_n (i := 3) hX dX1_firstBehind_68 rfl (Nat.le_of_ble_eq_true rfl) rfl ?_
            first | refine g_iincN hX dX1_firstBehind_69 ic_1 rfl (Nat.le_of_ble_eq_true rfl) rfl ?_ | refine g_iinc hX dX1_firstBehind_69 ic_1 rfl rfl (Nat.le_of_ble_eq_true rfl) rfl ?_
            refine g_goto (n := 5) hX dX1_firstBehind_72 (by decide) ?_
            first | exact (by simpa [isB, behB, zc22, optI] using ih) | exact (by simpa [isB, behB, zc22, zc31, optI] using ih) | exact (by simpa [isB, behB, zc22, zc31, zc42, optI] using ih)
    | some q =>
      rw [ho] at ih
      have hq := (bestTo_lt ho).1
      refine g_iload hX dX1_firstBehind_5 rfl rfl ?_
      refine g_aload_n (i := 0) hX dX1_firstBehind_7 rfl rfl rfl ?_
      refine g_getIv hX fl_X1_40 rfl rfl (hn) dX1_firstBehind_8 rfl ?_
      first | refine g_icmp_geN (tgt := 75) hX dX1_firstBehind_11 (by decide) rfl (by omega) (by omega) (fun zc11 => absurd zc11 (by omega)) (fun zc11 => ?_) | refine g_icmp_ge (tgt := 75) hX dX1_firstBehind_11 (by decide) rfl (fun zc11 => absurd zc11 (by omega)) (fun zc11 => ?_)
      refine g_aload_n (i := 0) hX dX1_firstBehind_14 rfl rfl rfl ?_
      refine g_getR hX fl_X1_15 rfl rfl dX1_firstBehind_15 rfl ?_
      refine g_iload hX dX1_firstBehind_18 rfl rfl ?_
      refine g_iald hX rfl (rfl) (by omega) rfl dX1_firstBehind_20 rfl ?_
      refine g_iload_n (i := 1) hX dX1_firstBehind_21 rfl rfl rfl ?_
      refine g_icmp_ne (tgt := 69) hX dX1_firstBehind_22 (by decide) rfl (fun zc22 => ?_) (fun zc22 => ?_)
      · skip
        first | refine g_iincN hX dX1_firstBehind_69 ic_1 rfl (Nat.le_of_ble_eq_true rfl) rfl ?_ | refine g_iinc hX dX1_firstBehind_69 ic_1 rfl rfl (Nat.le_of_ble_eq_true rfl) rfl ?_
        refine g_goto (n := 5) hX dX1_firstBehind_72 (by decide) ?_
        first | exact (by simpa [isB, behB, zc22, optI] using ih) | exact (by simpa [isB, behB, zc22, zc31, optI] using ih) | exact (by simpa [isB, behB, zc22, zc31, zc42, optI] using ih) | exact (by simpa [isB, behB, turnB, zc22, zc31, zc42, c, optI] using ih)
      · skip
        refine g_aload_n (i := 0) hX dX1_firstBehind_25 rfl rfl rfl ?_
        refine g_iload hX dX1_firstBehind_26 rfl rfl ?_
        refine g_callVi hX (c_X1_gaveValue E M k (by omega)) kf_X1_gaveValue rfl wk_X1_56 rfl rfl rfl rfl rfl dX1_firstBehind_28 rfl (fun x28 M28 h28 => ?_)
        obtain ⟨rfl, hm⟩ := h28; have hm := hm.symm; subst hm
        first | refine g_if_eqB (tgt := 69) hX dX1_firstBehind_31 (by decide) rfl (fun zc31 => ?_) (fun zc31 => ?_) | refine g_if_eq (tgt := 69) hX dX1_firstBehind_31 (by decide) rfl (fun zc31 => ?_) (fun zc31 => ?_)
        · skip
          first | refine g_iincN hX dX1_firstBehind_69 ic_1 rfl (Nat.le_of_ble_eq_true rfl) rfl ?_ | refine g_iinc hX dX1_firstBehind_69 ic_1 rfl rfl (Nat.le_of_ble_eq_true rfl) rfl ?_
          refine g_goto (n := 5) hX dX1_firstBehind_72 (by decide) ?_
          first | exact (by simpa [isB, behB, zc22, optI] using ih) | exact (by simpa [isB, behB, zc22, zc31, optI] using ih) | exact (by simpa [isB, behB, zc22, zc31, zc42, optI] using ih) | exact (by simpa [isB, behB, turnB, zc22, zc31, zc42, c, optI] using ih)
        · skip
          refine g_aload_n (i := 0) hX dX1_firstBehind_34 rfl rfl rfl ?_
          refine g_getR hX fl_X1_30 rfl rfl dX1_firstBehind_35 rfl ?_
          refine g_iload hX dX1_firstBehind_38 rfl rfl ?_
          refine g_iald hX rfl (rfl) (by omega) rfl dX1_firstBehind_40 rfl ?_
          refine g_iload_n (i := 2) hX dX1_firstBehind_41 rfl rfl rfl ?_
          refine g_icmp_ne (tgt := 69) hX dX1_firstBehind_42 (by decide) rfl (fun zc42 => ?_) (fun zc42 => ?_)
          · skip
            first | refine g_iincN hX dX1_firstBehind_69 ic_1 rfl (Nat.le_of_ble_eq_true rfl) rfl ?_ | refine g_iinc hX dX1_firstBehind_69 ic_1 rfl rfl (Nat.le_of_ble_eq_true rfl) rfl ?_
            refine g_goto (n := 5) hX dX1_firstBehind_72 (by decide) ?_
            first | exact (by simpa [isB, behB, zc22, optI] using ih) | exact (by simpa [isB, behB, zc22, zc31, optI] using ih) | exact (by simpa [isB, behB, zc22, zc31, zc42, optI] using ih) | exact (by simpa [isB, behB, turnB, zc22, zc31, zc42, c, optI] using ih)
          · skip
            refine g_iload_n (i := 3) hX dX1_firstBehind_45 rfl rfl rfl ?_
            refine g_iconst hX dX1_firstBehind_46 ic_m1 rfl ?_
            refine g_icmp_eq (tgt := 66) hX dX1_firstBehind_47 (by decide) rfl (fun zc47 => absurd zc47 (nI_ne_m1 (by omega))) (fun zc47 => ?_)
            refine g_aload_n (i := 0) hX dX1_firstBehind_50 rfl rfl rfl ?_
            refine g_getR hX fl_X1_33 rfl rfl dX1_firstBehind_51 rfl ?_
            refine g_iload hX dX1_firstBehind_54 rfl rfl ?_
            refine g_iald hX rfl (rfl) (by omega) rfl dX1_firstBehind_56 rfl ?_
            refine g_aload_n (i := 0) hX dX1_firstBehind_57 rfl rfl rfl ?_
            refine g_getR hX fl_X1_33 rfl rfl dX1_firstBehind_58 rfl ?_
            refine g_iload_n (i := 3) hX dX1_firstBehind_61 rfl rfl rfl ?_
            refine g_iald hX rfl ((rfl : _ = nI q)) (by omega) rfl dX1_firstBehind_62 rfl ?_
            refine g_icmp_ge (tgt := 69) hX dX1_firstBehind_63 (by decide) rfl (fun zc63 => ?_) (fun zc63 => ?_)
            · skip
              have c : ¬ M 24 k < M 24 q := Int32.not_lt.mpr zc63
              first | refine g_iincN hX dX1_firstBehind_69 ic_1 rfl (Nat.le_of_ble_eq_true rfl) rfl ?_ | refine g_iinc hX dX1_firstBehind_69 ic_1 rfl rfl (Nat.le_of_ble_eq_true rfl) rfl ?_
              refine g_goto (n := 5) hX dX1_firstBehind_72 (by decide) ?_
              first | exact (by simpa [isB, behB, zc22, optI] using ih) | exact (by simpa [isB, behB, zc22, zc31, optI] using ih) | exact (by simpa [isB, behB, zc22, zc31, zc42, optI] using ih) | exact (by simpa [isB, behB, turnB, zc22, zc31, zc42, c, optI] using ih)
            · skip
              have c : M 24 k < M 24 q := Int32.not_le.mp zc63
              refine g_iload hX dX1_firstBehind_66 rfl rfl ?_
              refine g_istore_n (i := 3) hX dX1_firstBehind_68 rfl (Nat.le_of_ble_eq_true rfl) rfl ?_
              first | refine g_iincN hX dX1_firstBehind_69 ic_1 rfl (Nat.le_of_ble_eq_true rfl) rfl ?_ | refine g_iinc hX dX1_firstBehind_69 ic_1 rfl rfl (Nat.le_of_ble_eq_true rfl) rfl ?_
              refine g_goto (n := 5) hX dX1_firstBehind_72 (by decide) ?_
              first | exact (by simpa [isB, behB, zc22, optI] using ih) | exact (by simpa [isB, behB, zc22, zc31, optI] using ih) | exact (by simpa [isB, behB, zc22, zc31, zc42, optI] using ih) | exact (by simpa [isB, behB, turnB, zc22, zc31, zc42, c, optI] using ih)

