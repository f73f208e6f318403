/-! CommitteeBallots$Document: the document of the present state (cell 7) -/
theorem c_X2_slot (E : gE) (M : gM) (e p : Nat) (he : 1 ≤ e) : gMet E k_X2_slot [.int (nI e), .int (nI p)] M (gInt fun r M' => r = nI ((e - 1) * 20 + p) ∧ M' = M) := by
  refine gMet.of (by decide +kernel) rfl (Nat.le_of_ble_eq_true rfl) (fun X hX hR => ?_)
  refine g_iload_n (i := 0) hX dX2_slot_0 rfl rfl rfl ?_
  refine g_iconst hX dX2_slot_1 ic_1 rfl ?_
  refine g_isubN hX dX2_slot_2 (by omega) rfl ?_
  refine g_bipush hX dX2_slot_3 bc_20 rfl ?_
  first | refine g_imulN hX dX2_slot_5 rfl ?_ | refine g_imul hX dX2_slot_5 rfl ?_
  refine g_iload_n (i := 1) hX dX2_slot_6 rfl rfl rfl ?_
  first | refine g_iaddN hX dX2_slot_7 rfl ?_ | refine g_iadd hX dX2_slot_7 rfl ?_
  refine g_iret hX hR dX2_slot_8 ?_
  exact ⟨rfl, rfl⟩
theorem inI_t {c : Int32} {lo hi : Nat} (hl : lo < 2 ^ 31) (hh : hi < 2 ^ 31) (h : inI c (nI lo) (nI hi) = true) : ∃ j, lo ≤ j ∧ j ≤ hi ∧ c = nI j := by
  simp only [inI, decide_eq_true_eq] at h
  have h0 : ¬ c < 0 := Int32.not_lt.mpr (Int32.le_trans (nI_pos' hl) h.1)
  obtain ⟨j, hj, rfl⟩ := nI_of h0
  exact ⟨j, (nI_leI hl hj).mp h.1, (nI_leI hj hh).mp h.2, rfl⟩
theorem inI_nI {j lo hi : Nat} (hl : lo < 2 ^ 31) (hj : j < 2 ^ 31) (hh : hi < 2 ^ 31) : inI (nI j) (nI lo) (nI hi) = decide (lo ≤ j ∧ j ≤ hi) := by
  simp [inI, nI_leI hl hj, nI_leI hj hh]
theorem inI_1 {c lo hi : Int32} (h : ¬ c < lo) (h2 : ¬ hi < c) : inI c lo hi = true := by simp [inI, Int32.not_lt.mp h, Int32.not_lt.mp h2]
theorem inI_2 {c lo hi : Int32} (h : c < lo) : inI c lo hi = false := by simp [inI, Int32.not_le.mpr h]
theorem inI_3 {c lo hi : Int32} (h : hi < c) : inI c lo hi = false := by simp [inI, Int32.not_le.mpr h]
theorem c_X2_hasEdition (E : gE) (M : gM) (n : Nat) (c : Int32) (hn : M 7 7 = nI n) (hb : n ≤ 12) : gMet E k_X2_hasEdition [.ref 7, .int c] M (gInt fun r M' => r = gB (inI c (nI 1) (nI n)) ∧ M' = M) := by
  refine gMet.of (by decide +kernel) rfl (Nat.le_of_ble_eq_true rfl) (fun X hX hR => ?_)
  refine g_iload_n (i := 1) hX dX2_hasEdition_0 rfl rfl rfl ?_
  refine g_iconst hX dX2_hasEdition_1 ic_1 rfl ?_
  first | refine g_icmp_ltN (tgt := 17) hX dX2_hasEdition_2 (by decide) rfl (by omega) (by omega) (fun zc2 => ?_) (fun zc2 => ?_) | refine g_icmp_lt (tgt := 17) hX dX2_hasEdition_2 (by decide) rfl (fun zc2 => ?_) (fun zc2 => ?_)
  · skip
    refine g_iconst hX dX2_hasEdition_17 ic_0 rfl ?_
    refine g_zret hX hR (by first | exact Or.inl rfl | exact Or.inr rfl | exact gB_01 _) dX2_hasEdition_18 ?_
    exact ⟨by first | exact gB_1 (inI_1 (by assumption) (by assumption)) | exact gB_n (inI_2 (by assumption)) | exact gB_n (inI_3 (by assumption)), rfl⟩
  · skip
    refine g_iload_n (i := 1) hX dX2_hasEdition_5 rfl rfl rfl ?_
    refine g_aload_n (i := 0) hX dX2_hasEdition_6 rfl rfl rfl ?_
    refine g_getIv hX fl_X2_30 rfl rfl (hn) dX2_hasEdition_7 rfl ?_
    first | refine g_icmp_gtN (tgt := 17) hX dX2_hasEdition_10 (by decide) rfl (by omega) (by omega) (fun zc10 => ?_) (fun zc10 => ?_) | refine g_icmp_gt (tgt := 17) hX dX2_hasEdition_10 (by decide) rfl (fun zc10 => ?_) (fun zc10 => ?_)
    · skip
      refine g_iconst hX dX2_hasEdition_17 ic_0 rfl ?_
      refine g_zret hX hR (by first | exact Or.inl rfl | exact Or.inr rfl | exact gB_01 _) dX2_hasEdition_18 ?_
      exact ⟨by first | exact gB_1 (inI_1 (by assumption) (by assumption)) | exact gB_n (inI_2 (by assumption)) | exact gB_n (inI_3 (by assumption)), rfl⟩
    · skip
      refine g_iconst hX dX2_hasEdition_13 ic_1 rfl ?_
      refine g_goto (n := 18) hX dX2_hasEdition_14 (by decide) ?_
      refine g_zret hX hR (by first | exact Or.inl rfl | exact Or.inr rfl | exact gB_01 _) dX2_hasEdition_18 ?_
      exact ⟨by first | exact gB_1 (inI_1 (by assumption) (by assumption)) | exact gB_n (inI_2 (by assumption)) | exact gB_n (inI_3 (by assumption)), rfl⟩
theorem c_X2_find (E : gE) (M : gM) (n : Nat) (c : Int32) (hn : M 7 6 = nI n) (hb : n ≤ 20) : gMet E k_X2_find [.ref 7, .int c] M (gInt fun r M' => r = optI (-1) (fndTo n (fun k => decide (M 8 k = c))) ∧ M' = M) := by
  refine gMet.of (by decide +kernel) rfl (Nat.le_of_ble_eq_true rfl) (fun X hX hR => ?_)
  have loop := up_loop n (fun k => (∀ j, j < k → decide (M 8 j = c) = false) → gG X E M 2 [some (.ref 7), some (.int c), some (.int (nI k))] [] (gQ X E (gInt fun r M' => r = optI (-1) (fndTo n (fun k => decide (M 8 k = c))) ∧ M' = M))) ?_ ?_
  · skip
    refine g_iconst hX dX2_find_0 ic_0 rfl ?_
    refine g_istore_n (i := 2) hX dX2_find_1 rfl (Nat.le_of_ble_eq_true rfl) rfl ?_
    exact loop 0 (Nat.zero_le _) (fun j hj => absurd hj (by omega))
  · intro h
    refine g_iload_n (i := 2) hX dX2_find_2 rfl rfl rfl ?_
    refine g_aload_n (i := 0) hX dX2_find_3 rfl rfl rfl ?_
    refine g_getIv hX fl_X2_38 rfl rfl (hn) dX2_find_4 rfl ?_
    first | refine g_icmp_geN (tgt := 28) hX dX2_find_7 (by decide) rfl (by omega) (by omega) (fun zc7 => ?_) (fun zc7 => absurd zc7 (by omega)) | refine g_icmp_ge (tgt := 28) hX dX2_find_7 (by decide) rfl (fun zc7 => ?_) (fun zc7 => absurd zc7 (by omega))
    refine g_iconst hX dX2_find_28 ic_m1 rfl ?_
    refine g_iret hX hR dX2_find_29 ?_
    rw [fndTo_eqn h]; exact ⟨rfl, rfl⟩
  · intro k hk ih h
    refine g_iload_n (i := 2) hX dX2_find_2 rfl rfl rfl ?_
    refine g_aload_n (i := 0) hX dX2_find_3 rfl rfl rfl ?_
    refine g_getIv hX fl_X2_38 rfl rfl (hn) dX2_find_4 rfl ?_
    first | refine g_icmp_geN (tgt := 28) hX dX2_find_7 (by decide) rfl (by omega) (by omega) (fun zc7 => absurd zc7 (by omega)) (fun zc7 => ?_) | refine g_icmp_ge (tgt := 28) hX dX2_find_7 (by decide) rfl (fun zc7 => absurd zc7 (by omega)) (fun zc7 => ?_)
    refine g_aload_n (i := 0) hX dX2_find_10 rfl rfl rfl ?_
    refine g_getR hX fl_X2_9 rfl rfl dX2_find_11 rfl ?_
    refine g_iload_n (i := 2) hX dX2_find_14 rfl rfl rfl ?_
    refine g_iald hX rfl (rfl) (by omega) rfl dX2_find_15 rfl ?_
    refine g_iload_n (i := 1) hX dX2_find_16 rfl rfl rfl ?_
    refine g_icmp_ne (tgt := 22) hX dX2_find_17 (by decide) rfl (fun zc17 => ?_) (fun zc17 => ?_)
    · skip
      first | refine g_iincN hX dX2_find_22 ic_1 rfl (Nat.le_of_ble_eq_true rfl) rfl ?_ | refine g_iinc hX dX2_find_22 ic_1 rfl rfl (Nat.le_of_ble_eq_true rfl) rfl ?_
      refine g_goto (n := 2) hX dX2_find_25 (by decide) ?_
      refine ih (fun j hj => ?_)
      by_cases e : j = k
      · subst e; exact decide_eq_false zc17
      · exact h j (by omega)
    · skip
      refine g_iload_n (i := 2) hX dX2_find_20 rfl rfl rfl ?_
      refine g_iret hX hR dX2_find_21 ?_
      rw [fndTo_eq hk (decide_eq_true zc17) h]; exact ⟨rfl, rfl⟩
theorem c_X2_canGet (E : gE) (M : gM) (p : Nat) (v : Int32) (hp : p < 20) : gMet E k_X2_canGet [.ref 7, .int (nI p), .int v] M (gInt fun r M' => r = gB (decide (M 9 p = M 10 p) || decide (M 9 p = v)) ∧ M' = M) := by
  refine gMet.of (by decide +kernel) rfl (Nat.le_of_ble_eq_true rfl) (fun X hX hR => ?_)
  refine g_aload_n (i := 0) hX dX2_canGet_0 rfl rfl rfl ?_
  refine g_getR hX fl_X2_15 rfl rfl dX2_canGet_1 rfl ?_
  refine g_iload_n (i := 1) hX dX2_canGet_4 rfl rfl rfl ?_
  refine g_iald hX rfl (rfl) (by omega) rfl dX2_canGet_5 rfl ?_
  refine g_aload_n (i := 0) hX dX2_canGet_6 rfl rfl rfl ?_
  refine g_getR hX fl_X2_18 rfl rfl dX2_canGet_7 rfl ?_
  refine g_iload_n (i := 1) hX dX2_canGet_10 rfl rfl rfl ?_
  refine g_iald hX rfl (rfl) (by omega) rfl dX2_canGet_11 rfl ?_
  refine g_icmp_eq (tgt := 25) hX dX2_canGet_12 (by decide) rfl (fun zc12 => ?_) (fun zc12 => ?_)
  · skip
    refine g_iconst hX dX2_canGet_25 ic_1 rfl ?_
    refine g_goto (n := 30) hX dX2_canGet_26 (by decide) ?_
    refine g_zret hX hR (by first | exact Or.inl rfl | exact Or.inr rfl | exact gB_01 _) dX2_canGet_30 ?_
    refine ⟨?_, rfl⟩; first | exact gB_1 (by simp_all) | exact gB_n (by simp_all)
  · skip
    refine g_aload_n (i := 0) hX dX2_canGet_15 rfl rfl rfl ?_
    refine g_getR hX fl_X2_15 rfl rfl dX2_canGet_16 rfl ?_
    refine g_iload_n (i := 1) hX dX2_canGet_19 rfl rfl rfl ?_
    refine g_iald hX rfl (rfl) (by omega) rfl dX2_canGet_20 rfl ?_
    refine g_iload_n (i := 2) hX dX2_canGet_21 rfl rfl rfl ?_
    refine g_icmp_ne (tgt := 29) hX dX2_canGet_22 (by decide) rfl (fun zc22 => ?_) (fun zc22 => ?_)
    · skip
      refine g_iconst hX dX2_canGet_29 ic_0 rfl ?_
      refine g_zret hX hR (by first | exact Or.inl rfl | exact Or.inr rfl | exact gB_01 _) dX2_canGet_30 ?_
      refine ⟨?_, rfl⟩; first | exact gB_1 (by simp_all) | exact gB_n (by simp_all)
    · skip
      refine g_iconst hX dX2_canGet_25 ic_1 rfl ?_
      refine g_goto (n := 30) hX dX2_canGet_26 (by decide) ?_
      refine g_zret hX hR (by first | exact Or.inl rfl | exact Or.inr rfl | exact gB_01 _) dX2_canGet_30 ?_
      refine ⟨?_, rfl⟩; first | exact gB_1 (by simp_all) | exact gB_n (by simp_all)
theorem c_X2_isChanged (E : gE) (M : gM) (n e : Nat) (hn : M 7 6 = nI n) (hb : n ≤ 20) (he : M 7 7 = nI e) (h1 : 1 ≤ e) (h12 : e ≤ 12) : gMet E k_X2_isChanged [.ref 7] M (gInt fun r M' => r = gB (anyTo n (fun k => decide (M 9 k ≠ M 12 ((e - 1) * 20 + k)))) ∧ M' = M) := by
  refine gMet.of (by decide +kernel) rfl (Nat.le_of_ble_eq_true rfl) (fun X hX hR => ?_)
  have loop := up_loop n (fun k => (∀ j, j < k → decide (M 9 j ≠ M 12 ((e - 1) * 20 + j)) = false) → gG X E M 2 [some (.ref 7), some (.int (nI k))] [] (gQ X E (gInt fun r M' => r = gB (anyTo n (fun k => decide (M 9 k ≠ M 12 ((e - 1) * 20 + k)))) ∧ M' = M))) ?_ ?_
  · skip
    refine g_iconst hX dX2_isChanged_0 ic_0 rfl ?_
    refine g_istore_n (i := 1) hX dX2_isChanged_1 rfl (Nat.le_of_ble_eq_true rfl) rfl ?_
    exact loop 0 (Nat.zero_le _) (fun j hj => absurd hj (by omega))
  · intro h
    refine g_iload_n (i := 1) hX dX2_isChanged_2 rfl rfl rfl ?_
    refine g_aload_n (i := 0) hX dX2_isChanged_3 rfl rfl rfl ?_
    refine g_getIv hX fl_X2_38 rfl rfl (hn) dX2_isChanged_4 rfl ?_
    first | refine g_icmp_geN (tgt := 40) hX dX2_isChanged_7 (by decide) rfl (by omega) (by omega) (fun zc7 => ?_) (fun zc7 => absurd zc7 (by omega)) | refine g_icmp_ge (tgt := 40) hX dX2_isChanged_7 (by decide) rfl (fun zc7 => ?_) (fun zc7 => absurd zc7 (by omega))
    refine g_iconst hX dX2_isChanged_40 ic_0 rfl ?_
    refine g_zret hX hR (by first | exact Or.inl rfl | exact Or.inr rfl | exact gB_01 _) dX2_isChanged_41 ?_
    exact ⟨gB_n (anyTo_false.mpr h), rfl⟩
  · intro k hk ih h
    refine g_iload_n (i := 1) hX dX2_isChanged_2 rfl rfl rfl ?_
    refine g_aload_n (i := 0) hX dX2_isChanged_3 rfl rfl rfl ?_
    refine g_getIv hX fl_X2_38 rfl rfl (hn) dX2_isChanged_4 rfl ?_
    first | refine g_icmp_geN (tgt := 40) hX dX2_isChanged_7 (by decide) rfl (by omega) (by omega) (fun zc7 => absurd zc7 (by omega)) (fun zc7 => ?_) | refine g_icmp_ge (tgt := 40) hX dX2_isChanged_7 (by decide) rfl (fun zc7 => absurd zc7 (by omega)) (fun zc7 => ?_)
    refine g_aload_n (i := 0) hX dX2_isChanged_10 rfl rfl rfl ?_
    refine g_getR hX fl_X2_15 rfl rfl dX2_isChanged_11 rfl ?_
    refine g_iload_n (i := 1) hX dX2_isChanged_14 rfl rfl rfl ?_
    refine g_iald hX rfl (rfl) (by omega) rfl dX2_isChanged_15 rfl ?_
    refine g_aload_n (i := 0) hX dX2_isChanged_16 rfl rfl rfl ?_
    refine g_getR hX fl_X2_24 rfl rfl dX2_isChanged_17 rfl ?_
    refine g_aload_n (i := 0) hX dX2_isChanged_20 rfl rfl rfl ?_
    refine g_getIv hX fl_X2_30 rfl rfl (he) dX2_isChanged_21 rfl ?_
    refine g_iload_n (i := 1) hX dX2_isChanged_24 rfl rfl rfl ?_
    refine g_callSi hX (c_X2_slot E M e k h1) kf_X2_slot rfl wk_X2_41 rfl rfl rfl rfl dX2_isChanged_25 rfl (fun x25 M25 h25 => ?_)
    obtain ⟨rfl, hm⟩ := h25; have hm := hm.symm; subst hm
    refine g_iald hX rfl (rfl) (by omega) rfl dX2_isChanged_28 rfl ?_
    refine g_icmp_eq (tgt := 34) hX dX2_isChanged_29 (by decide) rfl (fun zc29 => ?_) (fun zc29 => ?_)
    · skip
      first | refine g_iincN hX dX2_isChanged_34 ic_1 rfl (Nat.le_of_ble_eq_true rfl) rfl ?_ | refine g_iinc hX dX2_isChanged_34 ic_1 rfl rfl (Nat.le_of_ble_eq_true rfl) rfl ?_
      refine g_goto (n := 2) hX dX2_isChanged_37 (by decide) ?_
      refine ih (fun j hj => ?_)
      by_cases ej : j = k
      · subst ej; exact decide_eq_false (fun q => q zc29)
      · exact h j (by omega)
    · skip
      refine g_iconst hX dX2_isChanged_32 ic_1 rfl ?_
      refine g_zret hX hR (by first | exact Or.inl rfl | exact Or.inr rfl | exact gB_01 _) dX2_isChanged_33 ?_
      exact ⟨gB_1 (anyTo_true.mpr ⟨k, hk, decide_eq_true zc29⟩), rfl⟩
/-- whether a clause differs in an edition from the one before -/
def difB (r : Nat → Int32) (e k : Nat) : Bool := decide (1 < e) && decide (r ((e - 1) * 20 + k) ≠ r ((e - 1 - 1) * 20 + k))
theorem c_X2_differs (E : gE) (M : gM) (e p : Nat) (h1 : 1 ≤ e) (h12 : e ≤ 12) (hp : p < 20) : gMet E k_X2_differs [.ref 7, .int (nI e), .int (nI p)] M (gInt fun r M' => r = gB (difB (M 12) e p) ∧ M' = M) := by
  refine gMet.of (by decide +kernel) rfl (Nat.le_of_ble_eq_true rfl) (fun X hX hR => ?_)
  refine g_iload_n (i := 1) hX dX2_differs_0 rfl rfl rfl ?_
  refine g_iconst hX dX2_differs_1 ic_1 rfl ?_
  first | refine g_icmp_leN (tgt := 34) hX dX2_differs_2 (by decide) rfl (by omega) (by omega) (fun zc2 => ?_) (fun zc2 => ?_) | refine g_icmp_le (tgt := 34) hX dX2_differs_2 (by decide) rfl (fun zc2 => ?_) (fun zc2 => ?_)
  · skip
    refine g_iconst hX dX2_differs_34 ic_0 rfl ?_
    refine g_zret hX hR (by first | exact Or.inl rfl | exact Or.inr rfl | exact gB_01 _) dX2_differs_35 ?_
    refine ⟨?_, rfl⟩; first | exact gB_1 (by simp_all [difB]) | exact gB_n (by simp_all [difB])
  · skip
    refine g_aload_n (i := 0) hX dX2_differs_5 rfl rfl rfl ?_
    refine g_getR hX fl_X2_24 rfl rfl dX2_differs_6 rfl ?_
    refine g_iload_n (i := 1) hX dX2_differs_9 rfl rfl rfl ?_
    refine g_iload_n (i := 2) hX dX2_differs_10 rfl rfl rfl ?_
    refine g_callSi hX (c_X2_slot E M e p h1) kf_X2_slot rfl wk_X2_41 rfl rfl rfl rfl dX2_differs_11 rfl (fun x11 M11 h11 => ?_)
    obtain ⟨rfl, hm⟩ := h11; have hm := hm.symm; subst hm
    refine g_iald hX rfl (rfl) (by omega) rfl dX2_differs_14 rfl ?_
    refine g_aload_n (i := 0) hX dX2_differs_15 rfl rfl rfl ?_
    refine g_getR hX fl_X2_24 rfl rfl dX2_differs_16 rfl ?_
    refine g_iload_n (i := 1) hX dX2_differs_19 rfl rfl rfl ?_
    refine g_iconst hX dX2_differs_20 ic_1 rfl ?_
    refine g_isubN hX dX2_differs_21 (by omega) rfl ?_
    refine g_iload_n (i := 2) hX dX2_differs_22 rfl rfl rfl ?_
    refine g_callSi hX (c_X2_slot E M (e - 1) p (by omega)) kf_X2_slot rfl wk_X2_41 rfl rfl rfl rfl dX2_differs_23 rfl (fun x23 M23 h23 => ?_)
    obtain ⟨rfl, hm⟩ := h23; have hm := hm.symm; subst hm
    refine g_iald hX rfl (rfl) (by omega) rfl dX2_differs_26 rfl ?_
    refine g_icmp_eq (tgt := 34) hX dX2_differs_27 (by decide) rfl (fun zc27 => ?_) (fun zc27 => ?_)
    · skip
      refine g_iconst hX dX2_differs_34 ic_0 rfl ?_
      refine g_zret hX hR (by first | exact Or.inl rfl | exact Or.inr rfl | exact gB_01 _) dX2_differs_35 ?_
      refine ⟨?_, rfl⟩; first | exact gB_1 (by simp_all [difB]) | exact gB_n (by simp_all [difB])
    · skip
      refine g_iconst hX dX2_differs_30 ic_1 rfl ?_
      refine g_goto (n := 35) hX dX2_differs_31 (by decide) ?_
      refine g_zret hX hR (by first | exact Or.inl rfl | exact Or.inr rfl | exact gB_01 _) dX2_differs_35 ?_
      refine ⟨?_, rfl⟩; first | exact gB_1 (by simp_all [difB]) | exact gB_n (by simp_all [difB])
theorem c_X2_changesOf (E : gE) (M : gM) (n e : Nat) (hn : M 7 6 = nI n) (hb : n ≤ 20) (h1 : 1 ≤ e) (h12 : e ≤ 12) : gMet E k_X2_changesOf [.ref 7, .int (nI e)] M (gInt fun r M' => r = nI (cntTo n (difB (M 12) e)) ∧ M' = M) := by
  refine gMet.of (by decide +kernel) rfl (Nat.le_of_ble_eq_true rfl) (fun X hX hR => ?_)
  have loop := up_loop n (fun k => gG X E M 4 [some (.ref 7), some (.int (nI e)), some (.int (nI (cntTo k (difB (M 12) e)))), some (.int (nI k))] [] (gQ X E (gInt fun r M' => r = nI (cntTo n (difB (M 12) e)) ∧ M' = M))) ?_ ?_
  · skip
    refine g_iconst hX dX2_changesOf_0 ic_0 rfl ?_
    refine g_istore_n (i := 2) hX dX2_changesOf_1 rfl (Nat.le_of_ble_eq_true rfl) rfl ?_
    refine g_iconst hX dX2_changesOf_2 ic_0 rfl ?_
    refine g_istore_n (i := 3) hX dX2_changesOf_3 rfl (Nat.le_of_ble_eq_true rfl) rfl ?_
    exact loop 0 (Nat.zero_le _)
  · skip
    refine g_iload_n (i := 3) hX dX2_changesOf_4 rfl rfl rfl ?_
    refine g_aload_n (i := 0) hX dX2_changesOf_5 rfl rfl rfl ?_
    refine g_getIv hX fl_X2_38 rfl rfl (hn) dX2_changesOf_6 rfl ?_
    first | refine g_icmp_geN (tgt := 30) hX dX2_changesOf_9 (by decide) rfl (by omega) (by omega) (fun zc9 => ?_) (fun zc9 => absurd zc9 (by omega)) | refine g_icmp_ge (tgt := 30) hX dX2_changesOf_9 (by decide) rfl (fun zc9 => ?_) (fun zc9 => absurd zc9 (by omega))
    refine g_iload_n (i := 2) hX dX2_changesOf_30 rfl rfl rfl ?_
    refine g_iret hX hR dX2_changesOf_31 ?_
    exact ⟨rfl, rfl⟩
  · intro k hk ih
    refine g_iload_n (i := 3) hX dX2_changesOf_4 rfl rfl rfl ?_
    refine g_aload_n (i := 0) hX dX2_changesOf_5 rfl rfl rfl ?_
    refine g_getIv hX fl_X2_38 rfl rfl (hn) dX2_changesOf_6 rfl ?_
    first | refine g_icmp_geN (tgt := 30) hX dX2_changesOf_9 (by decide) rfl (by omega) (by omega) (fun zc9 => absurd zc9 (by omega)) (fun zc9 => ?_) | refine g_icmp_ge (tgt := 30) hX dX2_changesOf_9 (by decide) rfl (fun zc9 => absurd zc9 (by omega)) (fun zc9 => ?_)
    refine g_aload_n (i := 0) hX dX2_changesOf_12 rfl rfl rfl ?_
    refine g_iload_n (i := 1) hX dX2_changesOf_13 rfl rfl rfl ?_
    refine g_iload_n (i := 3) hX dX2_changesOf_14 rfl rfl rfl ?_
    refine g_callVi hX (c_X2_differs E M e k h1 h12 (by omega)) kf_X2_differs rfl wk_X2_45 rfl rfl rfl rfl rfl dX2_changesOf_15 rfl (fun x15 M15 h15 => ?_)
    obtain ⟨rfl, hm⟩ := h15; have hm := hm.symm; subst hm
    first | refine g_if_eqB (tgt := 24) hX dX2_changesOf_18 (by decide) rfl (fun zc18 => ?_) (fun zc18 => ?_) | refine g_if_eq (tgt := 24) hX dX2_changesOf_18 (by decide) rfl (fun zc18 => ?_) (fun zc18 => ?_)
    · skip
      first | refine g_iincN hX dX2_changesOf_24 ic_1 rfl (Nat.le_of_ble_eq_true rfl) rfl ?_ | refine g_iinc hX dX2_changesOf_24 ic_1 rfl rfl (Nat.le_of_ble_eq_true rfl) rfl ?_
      refine g_goto (n := 4) hX dX2_changesOf_27 (by decide) ?_
      exact (by simpa [cntTo, zc18] using ih)
    · skip
      first | refine g_iincN hX dX2_changesOf_21 ic_1 rfl (Nat.le_of_ble_eq_true rfl) rfl ?_ | refine g_iinc hX dX2_changesOf_21 ic_1 rfl rfl (Nat.le_of_ble_eq_true rfl) rfl ?_
      first | refine g_iincN hX dX2_changesOf_24 ic_1 rfl (Nat.le_of_ble_eq_true rfl) rfl ?_ | refine g_iinc hX dX2_changesOf_24 ic_1 rfl rfl (Nat.le_of_ble_eq_true rfl) rfl ?_
      refine g_goto (n := 4) hX dX2_changesOf_27 (by decide) ?_
      exact (by simpa [cntTo, zc18] using ih)
/-- the place of the i-th with p -/
def nthTo (n : Nat) (p : Nat → Bool) (i : Nat) : Option Nat := fndTo n (fun k => p k && decide (cntTo k p = i))
theorem c_X2_placeOfChange (E : gE) (M : gM) (n e i : Nat) (hn : M 7 6 = nI n) (hb : n ≤ 20) (h1 : 1 ≤ e) (h12 : e ≤ 12) (hi : i < 2 ^ 31) : gMet E k_X2_placeOfChange [.ref 7, .int (nI e), .int (nI i)] M (gInt fun r M' => r = optI (-1) (nthTo n (difB (M 12) e) i) ∧ M' = M) := by
  refine gMet.of (by decide +kernel) rfl (Nat.le_of_ble_eq_true rfl) (fun X hX hR => ?_)
  have loop := up_loop n (fun k => (∀ j, j < k → (difB (M 12) e j && decide (cntTo j (difB (M 12) e) = i)) = false) → gG X E M 5 [some (.ref 7), some (.int (nI e)), some (.int (nI i)), some (.int (nI (cntTo k (difB (M 12) e)))), some (.int (nI k))] [] (gQ X E (gInt fun r M' => r = optI (-1) (nthTo n (difB (M 12) e) i) ∧ M' = M))) ?_ ?_
  · skip
    refine g_iconst hX dX2_placeOfChange_0 ic_0 rfl ?_
    refine g_istore_n (i := 3) hX dX2_placeOfChange_1 rfl (Nat.le_of_ble_eq_true rfl) rfl ?_
    refine g_iconst hX dX2_placeOfChange_2 ic_0 rfl ?_
    refine g_istore hX dX2_placeOfChange_3 (Nat.le_of_ble_eq_true rfl) rfl ?_
    exact loop 0 (Nat.zero_le _) (fun j hj => absurd hj (by omega))
  · intro h
    refine g_iload hX dX2_placeOfChange_5 rfl rfl ?_
    refine g_aload_n (i := 0) hX dX2_placeOfChange_7 rfl rfl rfl ?_
    refine g_getIv hX fl_X2_38 rfl rfl (hn) dX2_placeOfChange_8 rfl ?_
    first | refine g_icmp_geN (tgt := 41) hX dX2_placeOfChange_11 (by decide) rfl (by omega) (by omega) (fun zc11 => ?_) (fun zc11 => absurd zc11 (by omega)) | refine g_icmp_ge (tgt := 41) hX dX2_placeOfChange_11 (by decide) rfl (fun zc11 => ?_) (fun zc11 => absurd zc11 (by omega))
    refine g_iconst hX dX2_placeOfChange_41 ic_m1 rfl ?_
    refine g_iret hX hR dX2_placeOfChange_42 ?_
    rw [nthTo, fndTo_eqn h]; exact ⟨rfl, rfl⟩
  · intro k hk ih h
    have hc := cntTo_le k (difB (M 12) e)
    have step : (difB (M 12) e k && decide (cntTo k (difB (M 12) e) = i)) = false → ∀ j, j < k + 1 → (difB (M 12) e j && decide (cntTo j (difB (M 12) e) = i)) = false := by
      intro hk2 j hj
      by_cases ej : j = k
      · subst ej; exact hk2
      · exact h j (by omega)
    refine g_iload hX dX2_placeOfChange_5 rfl rfl ?_
    refine g_aload_n (i := 0) hX dX2_placeOfChange_7 rfl rfl rfl ?_
    refine g_getIv hX fl_X2_38 rfl rfl (hn) dX2_placeOfChange_8 rfl ?_
    first | refine g_icmp_geN (tgt := 41) hX dX2_placeOfChange_11 (by decide) rfl (by omega) (by omega) (fun zc11 => absurd zc11 (by omega)) (fun zc11 => ?_) | refine g_icmp_ge (tgt := 41) hX dX2_placeOfChange_11 (by decide) rfl (fun zc11 => absurd zc11 (by omega)) (fun zc11 => ?_)
    refine g_aload_n (i := 0) hX dX2_placeOfChange_14 rfl rfl rfl ?_
    refine g_iload_n (i := 1) hX dX2_placeOfChange_15 rfl rfl rfl ?_
    refine g_iload hX dX2_placeOfChange_16 rfl rfl ?_
    refine g_callVi hX (c_X2_differs E M e k h1 h12 (by omega)) kf_X2_differs rfl wk_X2_45 rfl rfl rfl rfl rfl dX2_placeOfChange_18 rfl (fun x18 M18 h18 => ?_)
    obtain ⟨rfl, hm⟩ := h18; have hm := hm.symm; subst hm
    first | refine g_if_eqB (tgt := 35) hX dX2_placeOfChange_21 (by decide) rfl (fun zc21 => ?_) (fun zc21 => ?_) | refine g_if_eq (tgt := 35) hX dX2_placeOfChange_21 (by decide) rfl (fun zc21 => ?_) (fun zc21 => ?_)
    · skip
      first | refine g_iincN hX dX2_placeOfChange_35 ic_1 rfl (Nat.le_of_ble_eq_true rfl) rfl ?_ | refine g_iinc hX dX2_placeOfChange_35 ic_1 rfl rfl (Nat.le_of_ble_eq_true rfl) rfl ?_
      refine g_goto (n := 5) hX dX2_placeOfChange_38 (by decide) ?_
      exact (by simpa [cntTo, zc21] using ih (step (by first | (simp [zc21]; done) | (simp [zc26]; done))))
    · skip
      refine g_iload_n (i := 3) hX dX2_placeOfChange_24 rfl rfl rfl ?_
      refine g_iload_n (i := 2) hX dX2_placeOfChange_25 rfl rfl rfl ?_
      first | refine g_icmp_neN (tgt := 32) hX dX2_placeOfChange_26 (by decide) rfl (by omega) (by omega) (fun zc26 => ?_) (fun zc26 => ?_) | refine g_icmp_ne (tgt := 32) hX dX2_placeOfChange_26 (by decide) rfl (fun zc26 => ?_) (fun zc26 => ?_)
      · skip
        first | refine g_iincN hX dX2_placeOfChange_32 ic_1 rfl (Nat.le_of_ble_eq_true rfl) rfl ?_ | refine g_iinc hX dX2_placeOfChange_32 ic_1 rfl rfl (Nat.le_of_ble_eq_true rfl) rfl ?_
        first | refine g_iincN hX dX2_placeOfChange_35 ic_1 rfl (Nat.le_of_ble_eq_true rfl) rfl ?_ | refine g_iinc hX dX2_placeOfChange_35 ic_1 rfl rfl (Nat.le_of_ble_eq_true rfl) rfl ?_
        refine g_goto (n := 5) hX dX2_placeOfChange_38 (by decide) ?_
        exact (by simpa [cntTo, zc21] using ih (step (by first | (simp [zc21]; done) | (simp [zc26]; done))))
      · skip
        refine g_iload hX dX2_placeOfChange_29 rfl rfl ?_
        refine g_iret hX hR dX2_placeOfChange_31 ?_
        rw [nthTo, fndTo_eq hk (by simp [zc21, zc26]) h]; exact ⟨rfl, rfl⟩
def m_insert (M : gM) (p n : Nat) (c v : Int32) : gM := gset (gset (gset (gset M 8 (insAt p n c (M 8))) 9 (insAt p n v (M 9))) 12 (insAt p n v (M 12))) 7 (upd (M 7) 6 (nI (n + 1)))
def insP (r : Nat → Int32) (p n : Nat) (c : Int32) : Prop := p ≤ n ∧ (∀ j, p ≤ j → j < n → c < r j) ∧ (p = 0 ∨ ¬ c < r (p - 1))
def m_shf (M : gM) (p n : Nat) : gM := gset (gset (gset M 8 (shf p n (M 8))) 9 (shf p n (M 9))) 12 (shf p n (M 12))
theorem c_X2_insert (E : gE) (M : gM) (n : Nat) (c v : Int32) (hn : M 7 6 = nI n) (hb : n < 20) : gMet E k_X2_insert [.ref 7, .int c, .int v] M (gVoid fun M' => ∃ p, insP (M 8) p n c ∧ M' = m_insert M p n c v) := by
  refine gMet.of (by decide +kernel) rfl (Nat.le_of_ble_eq_true rfl) (fun X hX hR => ?_)
  have tail : ∀ p, insP (M 8) p n c → gG X E (m_shf M p n) 87 [some (.ref 7), some (.int c), some (.int v), some (.int (nI p))] [] (gQ X E (gVoid fun M' => ∃ p, insP (M 8) p n c ∧ M' = m_insert M p n c v)) := by
    intro p hp
    have hp1 := hp.1
    refine g_aload_n (i := 0) hX dX2_insert_87 rfl rfl rfl ?_
    refine g_getR hX fl_X2_9 rfl rfl dX2_insert_88 rfl ?_
    refine g_iload_n (i := 3) hX dX2_insert_91 rfl rfl rfl ?_
    refine g_iload_n (i := 1) hX dX2_insert_92 rfl rfl rfl ?_
    refine g_iast hX rfl (rfl) (by omega) rfl dX2_insert_93 rfl ?_
    refine g_aload_n (i := 0) hX dX2_insert_94 rfl rfl rfl ?_
    refine g_getR hX fl_X2_15 rfl rfl dX2_insert_95 rfl ?_
    refine g_iload_n (i := 3) hX dX2_insert_98 rfl rfl rfl ?_
    refine g_iload_n (i := 2) hX dX2_insert_99 rfl rfl rfl ?_
    refine g_iast hX rfl (rfl) (by omega) rfl dX2_insert_100 rfl ?_
    refine g_aload_n (i := 0) hX dX2_insert_101 rfl rfl rfl ?_
    refine g_getR hX fl_X2_24 rfl rfl dX2_insert_102 rfl ?_
    refine g_iconst hX dX2_insert_105 ic_1 rfl ?_
    refine g_iload_n (i := 3) hX dX2_insert_106 rfl rfl rfl ?_
    refine g_callSi hX (c_X2_slot E _ 1 p (by omega)) kf_X2_slot rfl wk_X2_41 rfl rfl rfl rfl dX2_insert_107 rfl (fun x107 M107 h107 => ?_)
    obtain ⟨rfl, hm⟩ := h107; have hm := hm.symm; subst hm
    refine g_iload_n (i := 2) hX dX2_insert_110 rfl rfl rfl ?_
    refine g_iast hX rfl ((by simp : _ = nI p)) (by omega) rfl dX2_insert_111 rfl ?_
    refine g_aload_n (i := 0) hX dX2_insert_112 rfl rfl rfl ?_
    refine g_dup hX dX2_insert_113 rfl rfl ?_
    refine g_getIv (x := nI n) hX fl_X2_38 rfl rfl (hn) dX2_insert_114 rfl ?_
    refine g_iconst hX dX2_insert_117 ic_1 rfl ?_
    first | refine g_iaddN hX dX2_insert_118 rfl ?_ | refine g_iadd hX dX2_insert_118 rfl ?_
    refine g_putI hX fp_X2_38 rfl rfl dX2_insert_119 rfl ?_
    refine g_vret hX hR dX2_insert_122 ?_
    refine ⟨p, hp, ?_⟩
    funext b
    by_cases h8 : b = 8
    · subst h8; rfl
    · by_cases h9 : b = 9
      · subst h9; rfl
      · by_cases h12 : b = 12
        · subst h12; rfl
        · by_cases h7 : b = 7
          · subst h7; rfl
          · simp [m_insert, m_shf, gset, h7, h8, h9, h12]
  have loop : ∀ p, p ≤ n → (∀ j, p ≤ j → j < n → c < M 8 j) → gG X E (m_shf M p n) 15 [some (.ref 7), some (.int c), some (.int v), some (.int (nI p))] [] (gQ X E (gVoid fun M' => ∃ p, insP (M 8) p n c ∧ M' = m_insert M p n c v)) := by
    intro p
    induction p with
    | zero =>
      intro hp hj
      refine g_iload_n (i := 3) hX dX2_insert_15 rfl rfl rfl ?_
      refine g_if_le (tgt := 87) hX dX2_insert_16 (by decide) rfl (fun zc16 => ?_) (fun zc16 => absurd zc16 (by decide))
      exact tail 0 ⟨hp, hj, Or.inl rfl⟩
    | succ p ih =>
      intro hp hj
      have s8 := shf_step (M 8) hp
      have s9 := shf_step (M 9) hp
      have s12 := shf_step (M 12) hp
      have r8 : shf (p + 1) n (M 8) p = M 8 p := shf_lo (by omega)
      refine g_iload_n (i := 3) hX dX2_insert_15 rfl rfl rfl ?_
      refine g_if_le (tgt := 87) hX dX2_insert_16 (by decide) rfl (fun zc16 => absurd zc16 (nI_nle (by omega) (by omega))) (fun zc16 => ?_)
      refine g_aload_n (i := 0) hX dX2_insert_19 rfl rfl rfl ?_
      refine g_getR hX fl_X2_9 rfl rfl dX2_insert_20 rfl ?_
      refine g_iload_n (i := 3) hX dX2_insert_23 rfl rfl rfl ?_
      refine g_iconst hX dX2_insert_24 ic_1 rfl ?_
      refine g_isubN hX dX2_insert_25 (by omega) rfl ?_
      refine g_ialdv (x := M 8 p) hX rfl ((rfl : _ = nI p)) (by omega) rfl (r8) dX2_insert_26 rfl ?_
      refine g_iload_n (i := 1) hX dX2_insert_27 rfl rfl rfl ?_
      refine g_icmp_le (tgt := 87) hX dX2_insert_28 (by decide) rfl (fun zc28 => ?_) (fun zc28 => ?_)
      · skip
        exact tail (p + 1) ⟨hp, hj, Or.inr (fun q => Int32.lt_irrefl (Int32.lt_of_lt_of_le q zc28))⟩
      · skip
        refine g_aload_n (i := 0) hX dX2_insert_31 rfl rfl rfl ?_
        refine g_getR hX fl_X2_9 rfl rfl dX2_insert_32 rfl ?_
        refine g_iload_n (i := 3) hX dX2_insert_35 rfl rfl rfl ?_
        refine g_aload_n (i := 0) hX dX2_insert_36 rfl rfl rfl ?_
        refine g_getR hX fl_X2_9 rfl rfl dX2_insert_37 rfl ?_
        refine g_iload_n (i := 3) hX dX2_insert_40 rfl rfl rfl ?_
        refine g_iconst hX dX2_insert_41 ic_1 rfl ?_
        refine g_isubN hX dX2_insert_42 (by omega) rfl ?_
        refine g_iald hX rfl ((rfl : _ = nI p)) (by omega) rfl dX2_insert_43 rfl ?_
        refine g_iast hX rfl (rfl) (by omega) rfl dX2_insert_44 rfl ?_
        refine g_aload_n (i := 0) hX dX2_insert_45 rfl rfl rfl ?_
        refine g_getR hX fl_X2_15 rfl rfl dX2_insert_46 rfl ?_
        refine g_iload_n (i := 3) hX dX2_insert_49 rfl rfl rfl ?_
        refine g_aload_n (i := 0) hX dX2_insert_50 rfl rfl rfl ?_
        refine g_getR hX fl_X2_15 rfl rfl dX2_insert_51 rfl ?_
        refine g_iload_n (i := 3) hX dX2_insert_54 rfl rfl rfl ?_
        refine g_iconst hX dX2_insert_55 ic_1 rfl ?_
        refine g_isubN hX dX2_insert_56 (by omega) rfl ?_
        refine g_iald hX rfl ((rfl : _ = nI p)) (by omega) rfl dX2_insert_57 rfl ?_
        refine g_iast hX rfl (rfl) (by omega) rfl dX2_insert_58 rfl ?_
        refine g_aload_n (i := 0) hX dX2_insert_59 rfl rfl rfl ?_
        refine g_getR hX fl_X2_24 rfl rfl dX2_insert_60 rfl ?_
        refine g_iconst hX dX2_insert_63 ic_1 rfl ?_
        refine g_iload_n (i := 3) hX dX2_insert_64 rfl rfl rfl ?_
        refine g_callSi hX (c_X2_slot E _ 1 (p + 1) (by omega)) kf_X2_slot rfl wk_X2_41 rfl rfl rfl rfl dX2_insert_65 rfl (fun x65 M65 h65 => ?_)
        obtain ⟨rfl, hm⟩ := h65; have hm := hm.symm; subst hm
        refine g_aload_n (i := 0) hX dX2_insert_68 rfl rfl rfl ?_
        refine g_getR hX fl_X2_24 rfl rfl dX2_insert_69 rfl ?_
        refine g_iconst hX dX2_insert_72 ic_1 rfl ?_
        refine g_iload_n (i := 3) hX dX2_insert_73 rfl rfl rfl ?_
        refine g_iconst hX dX2_insert_74 ic_1 rfl ?_
        refine g_isubN hX dX2_insert_75 (by omega) rfl ?_
        refine g_callSi hX (c_X2_slot E _ 1 p (by omega)) kf_X2_slot rfl wk_X2_41 rfl rfl rfl rfl dX2_insert_76 rfl (fun x76 M76 h76 => ?_)
        obtain ⟨rfl, hm⟩ := h76; have hm := hm.symm; subst hm
        refine g_iald hX rfl ((by simp : _ = nI p)) (by omega) rfl dX2_insert_79 rfl ?_
        refine g_iast hX rfl ((by simp : _ = nI (p + 1))) (by omega) rfl dX2_insert_80 rfl ?_
        refine g_iinc hX dX2_insert_81 ic_m1 rfl (pk_m1 p) (Nat.le_of_ble_eq_true rfl) rfl ?_
        refine g_goto (n := 15) hX dX2_insert_84 (by decide) ?_
        refine gGM ?_ (ih (by omega) (fun j h1 h2 => ?_))
        · funext b
          by_cases h8 : b = 8
          · subst h8; exact s8
          · by_cases h9 : b = 9
            · subst h9; exact s9
            · by_cases h12 : b = 12
              · subst h12; exact s12
              · simp [m_shf, gset, h8, h9, h12]
        · by_cases ej : j = p
          · subst ej; exact Int32.not_le.mp zc28
          · exact hj j (by omega) h2
  refine g_aload_n (i := 0) hX dX2_insert_0 rfl rfl rfl ?_
  refine g_getIv hX fl_X2_38 rfl rfl (hn) dX2_insert_1 rfl ?_
  refine g_bipush hX dX2_insert_4 bc_20 rfl ?_
  first | refine g_icmp_ltN (tgt := 10) hX dX2_insert_6 (by decide) rfl (by omega) (by omega) (fun zc6 => ?_) (fun zc6 => absurd zc6 (by omega)) | refine g_icmp_lt (tgt := 10) hX dX2_insert_6 (by decide) rfl (fun zc6 => ?_) (fun zc6 => absurd zc6 (by omega))
  refine g_aload_n (i := 0) hX dX2_insert_10 rfl rfl rfl ?_
  refine g_getIv hX fl_X2_38 rfl rfl (hn) dX2_insert_11 rfl ?_
  refine g_istore_n (i := 3) hX dX2_insert_14 rfl (Nat.le_of_ble_eq_true rfl) rfl ?_
  exact gGM (by simp only [m_shf, shf_0, gset_self]) (loop n (Nat.le_refl n) (fun j h1 h2 => absurd h2 (by omega)))

