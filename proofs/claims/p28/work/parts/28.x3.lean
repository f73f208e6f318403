/-! History: the present state is kept, the latest is restored -/
def hisB (j : Nat) : Nat := 26 + 25 * j
def m_keep (M : gM) (ol hs : Nat) : gM := if hs < 4 then gset (cpS M (hisB ((ol + hs) % 4)) 1) 126 (upd (M 126) 2 (nI (hs + 1))) else gset (cpS M (hisB ((ol + hs) % 4)) 1) 126 (upd (M 126) 1 (nI ((ol + 1) % 4)))
theorem rem4 (a : Nat) (h : a < 2 ^ 31) : nI a - nI a / nI 4 * nI 4 = nI (a % 4) := pk_rem h (by decide) (by decide)
theorem c_X3_keep (E : gE) (M : gM) (ol hs : Nat) (ho : M 126 1 = nI ol) (hob : ol < 4) (hh : M 126 2 = nI hs) (hhb : hs ≤ 4) (hz1 : M 14 1 = 0 ∨ M 14 1 = 1) (hz2 : M 14 2 = 0 ∨ M 14 2 = 1) : gMet E k_X3_keep [.ref 126, .ref 1] M (gVoid fun M' => M' = m_keep M ol hs) := by
  refine gMet.of (by decide +kernel) rfl (Nat.le_of_ble_eq_true rfl) (fun X hX hR => ?_)
  have h4 : (ol + hs) % 4 = 0 ∨ (ol + hs) % 4 = 1 ∨ (ol + hs) % 4 = 2 ∨ (ol + hs) % 4 = 3 := by omega
  rcases h4 with h4 | h4 | h4 | h4
  · skip
    refine g_aload_n (i := 0) hX dX3_keep_0 rfl rfl rfl ?_
    refine g_getR hX fl_X3_11 rfl rfl dX3_keep_1 rfl ?_
    refine g_aload_n (i := 0) hX dX3_keep_4 rfl rfl rfl ?_
    refine g_getIv (x := nI ol) hX fl_X3_18 rfl rfl (ho) dX3_keep_5 rfl ?_
    refine g_aload_n (i := 0) hX dX3_keep_8 rfl rfl rfl ?_
    refine g_getIv (x := nI hs) hX fl_X3_22 rfl rfl (hh) dX3_keep_9 rfl ?_
    first | refine g_iaddN hX dX3_keep_12 rfl ?_ | refine g_iadd hX dX3_keep_12 rfl ?_
    refine g_iconst hX dX3_keep_13 ic_4 rfl ?_
    refine g_irem hX dX3_keep_14 (by decide) rfl ?_
    rw [rem4 _ (by omega), h4]
    refine g_aald (j := 0) hX rfl rfl (by decide) rfl rfl dX3_keep_15 rfl ?_
    refine g_aload_n (i := 1) hX dX3_keep_16 rfl rfl rfl ?_
    refine g_callVv hX (c_X5_copyFrom_26_1 E _ hz1 hz2) kf_X5_copyFrom rfl wk_X3_25 rfl rfl rfl rfl rfl dX3_keep_17 rfl (fun M17 h17 => ?_)
    subst h17
    refine g_aload_n (i := 0) hX dX3_keep_20 rfl rfl rfl ?_
    refine g_getIv (x := nI hs) hX fl_X3_22 rfl rfl (hh) dX3_keep_21 rfl ?_
    refine g_iconst hX dX3_keep_24 ic_4 rfl ?_
    first | refine g_icmp_geN (tgt := 41) hX dX3_keep_25 (by decide) rfl (by omega) (by omega) (fun zc25 => ?_) (fun zc25 => ?_) | refine g_icmp_ge (tgt := 41) hX dX3_keep_25 (by decide) rfl (fun zc25 => ?_) (fun zc25 => ?_)
    · skip
      skip
      refine g_aload_n (i := 0) hX dX3_keep_41 rfl rfl rfl ?_
      refine g_aload_n (i := 0) hX dX3_keep_42 rfl rfl rfl ?_
      refine g_getIv (x := nI ol) hX fl_X3_18 rfl rfl (ho) dX3_keep_43 rfl ?_
      refine g_iconst hX dX3_keep_46 ic_1 rfl ?_
      first | refine g_iaddN hX dX3_keep_47 rfl ?_ | refine g_iadd hX dX3_keep_47 rfl ?_
      refine g_iconst hX dX3_keep_48 ic_4 rfl ?_
      refine g_irem hX dX3_keep_49 (by decide) rfl ?_
      rw [rem4 _ (by omega)]
      refine g_putI hX fp_X3_18 rfl rfl dX3_keep_50 rfl ?_
      refine g_vret hX hR dX3_keep_53 ?_
      first
      | (simp only [m_keep, h4]; rw [if_neg (by omega)]; rfl)
      | (simp only [m_keep, h4]; rw [if_pos (by omega)]; rfl)
    · skip
      refine g_aload_n (i := 0) hX dX3_keep_28 rfl rfl rfl ?_
      refine g_dup hX dX3_keep_29 rfl rfl ?_
      refine g_getIv (x := nI hs) hX fl_X3_22 rfl rfl (hh) dX3_keep_30 rfl ?_
      refine g_iconst hX dX3_keep_33 ic_1 rfl ?_
      first | refine g_iaddN hX dX3_keep_34 rfl ?_ | refine g_iadd hX dX3_keep_34 rfl ?_
      refine g_putI hX fp_X3_22 rfl rfl dX3_keep_35 rfl ?_
      refine g_goto (n := 53) hX dX3_keep_38 (by decide) ?_
      refine g_vret hX hR dX3_keep_53 ?_
      first
      | (simp only [m_keep, h4]; rw [if_neg (by omega)]; rfl)
      | (simp only [m_keep, h4]; rw [if_pos (by omega)]; rfl)
  · skip
    refine g_aload_n (i := 0) hX dX3_keep_0 rfl rfl rfl ?_
    refine g_getR hX fl_X3_11 rfl rfl dX3_keep_1 rfl ?_
    refine g_aload_n (i := 0) hX dX3_keep_4 rfl rfl rfl ?_
    refine g_getIv (x := nI ol) hX fl_X3_18 rfl rfl (ho) dX3_keep_5 rfl ?_
    refine g_aload_n (i := 0) hX dX3_keep_8 rfl rfl rfl ?_
    refine g_getIv (x := nI hs) hX fl_X3_22 rfl rfl (hh) dX3_keep_9 rfl ?_
    first | refine g_iaddN hX dX3_keep_12 rfl ?_ | refine g_iadd hX dX3_keep_12 rfl ?_
    refine g_iconst hX dX3_keep_13 ic_4 rfl ?_
    refine g_irem hX dX3_keep_14 (by decide) rfl ?_
    rw [rem4 _ (by omega), h4]
    refine g_aald (j := 1) hX rfl rfl (by decide) rfl rfl dX3_keep_15 rfl ?_
    refine g_aload_n (i := 1) hX dX3_keep_16 rfl rfl rfl ?_
    refine g_callVv hX (c_X5_copyFrom_51_1 E _ hz1 hz2) kf_X5_copyFrom rfl wk_X3_25 rfl rfl rfl rfl rfl dX3_keep_17 rfl (fun M17 h17 => ?_)
    subst h17
    refine g_aload_n (i := 0) hX dX3_keep_20 rfl rfl rfl ?_
    refine g_getIv (x := nI hs) hX fl_X3_22 rfl rfl (hh) dX3_keep_21 rfl ?_
    refine g_iconst hX dX3_keep_24 ic_4 rfl ?_
    first | refine g_icmp_geN (tgt := 41) hX dX3_keep_25 (by decide) rfl (by omega) (by omega) (fun zc25 => ?_) (fun zc25 => ?_) | refine g_icmp_ge (tgt := 41) hX dX3_keep_25 (by decide) rfl (fun zc25 => ?_) (fun zc25 => ?_)
    · skip
      skip
      refine g_aload_n (i := 0) hX dX3_keep_41 rfl rfl rfl ?_
      refine g_aload_n (i := 0) hX dX3_keep_42 rfl rfl rfl ?_
      refine g_getIv (x := nI ol) hX fl_X3_18 rfl rfl (ho) dX3_keep_43 rfl ?_
      refine g_iconst hX dX3_keep_46 ic_1 rfl ?_
      first | refine g_iaddN hX dX3_keep_47 rfl ?_ | refine g_iadd hX dX3_keep_47 rfl ?_
      refine g_iconst hX dX3_keep_48 ic_4 rfl ?_
      refine g_irem hX dX3_keep_49 (by decide) rfl ?_
      rw [rem4 _ (by omega)]
      refine g_putI hX fp_X3_18 rfl rfl dX3_keep_50 rfl ?_
      refine g_vret hX hR dX3_keep_53 ?_
      first
      | (simp only [m_keep, h4]; rw [if_neg (by omega)]; rfl)
      | (simp only [m_keep, h4]; rw [if_pos (by omega)]; rfl)
    · skip
      refine g_aload_n (i := 0) hX dX3_keep_28 rfl rfl rfl ?_
      refine g_dup hX dX3_keep_29 rfl rfl ?_
      refine g_getIv (x := nI hs) hX fl_X3_22 rfl rfl (hh) dX3_keep_30 rfl ?_
      refine g_iconst hX dX3_keep_33 ic_1 rfl ?_
      first | refine g_iaddN hX dX3_keep_34 rfl ?_ | refine g_iadd hX dX3_keep_34 rfl ?_
      refine g_putI hX fp_X3_22 rfl rfl dX3_keep_35 rfl ?_
      refine g_goto (n := 53) hX dX3_keep_38 (by decide) ?_
      refine g_vret hX hR dX3_keep_53 ?_
      first
      | (simp only [m_keep, h4]; rw [if_neg (by omega)]; rfl)
      | (simp only [m_keep, h4]; rw [if_pos (by omega)]; rfl)
  · skip
    refine g_aload_n (i := 0) hX dX3_keep_0 rfl rfl rfl ?_
    refine g_getR hX fl_X3_11 rfl rfl dX3_keep_1 rfl ?_
    refine g_aload_n (i := 0) hX dX3_keep_4 rfl rfl rfl ?_
    refine g_getIv (x := nI ol) hX fl_X3_18 rfl rfl (ho) dX3_keep_5 rfl ?_
    refine g_aload_n (i := 0) hX dX3_keep_8 rfl rfl rfl ?_
    refine g_getIv (x := nI hs) hX fl_X3_22 rfl rfl (hh) dX3_keep_9 rfl ?_
    first | refine g_iaddN hX dX3_keep_12 rfl ?_ | refine g_iadd hX dX3_keep_12 rfl ?_
    refine g_iconst hX dX3_keep_13 ic_4 rfl ?_
    refine g_irem hX dX3_keep_14 (by decide) rfl ?_
    rw [rem4 _ (by omega), h4]
    refine g_aald (j := 2) hX rfl rfl (by decide) rfl rfl dX3_keep_15 rfl ?_
    refine g_aload_n (i := 1) hX dX3_keep_16 rfl rfl rfl ?_
    refine g_callVv hX (c_X5_copyFrom_76_1 E _ hz1 hz2) kf_X5_copyFrom rfl wk_X3_25 rfl rfl rfl rfl rfl dX3_keep_17 rfl (fun M17 h17 => ?_)
    subst h17
    refine g_aload_n (i := 0) hX dX3_keep_20 rfl rfl rfl ?_
    refine g_getIv (x := nI hs) hX fl_X3_22 rfl rfl (hh) dX3_keep_21 rfl ?_
    refine g_iconst hX dX3_keep_24 ic_4 rfl ?_
    first | refine g_icmp_geN (tgt := 41) hX dX3_keep_25 (by decide) rfl (by omega) (by omega) (fun zc25 => ?_) (fun zc25 => ?_) | refine g_icmp_ge (tgt := 41) hX dX3_keep_25 (by decide) rfl (fun zc25 => ?_) (fun zc25 => ?_)
    · skip
      skip
      refine g_aload_n (i := 0) hX dX3_keep_41 rfl rfl rfl ?_
      refine g_aload_n (i := 0) hX dX3_keep_42 rfl rfl rfl ?_
      refine g_getIv (x := nI ol) hX fl_X3_18 rfl rfl (ho) dX3_keep_43 rfl ?_
      refine g_iconst hX dX3_keep_46 ic_1 rfl ?_
      first | refine g_iaddN hX dX3_keep_47 rfl ?_ | refine g_iadd hX dX3_keep_47 rfl ?_
      refine g_iconst hX dX3_keep_48 ic_4 rfl ?_
      refine g_irem hX dX3_keep_49 (by decide) rfl ?_
      rw [rem4 _ (by omega)]
      refine g_putI hX fp_X3_18 rfl rfl dX3_keep_50 rfl ?_
      refine g_vret hX hR dX3_keep_53 ?_
      first
      | (simp only [m_keep, h4]; rw [if_neg (by omega)]; rfl)
      | (simp only [m_keep, h4]; rw [if_pos (by omega)]; rfl)
    · skip
      refine g_aload_n (i := 0) hX dX3_keep_28 rfl rfl rfl ?_
      refine g_dup hX dX3_keep_29 rfl rfl ?_
      refine g_getIv (x := nI hs) hX fl_X3_22 rfl rfl (hh) dX3_keep_30 rfl ?_
      refine g_iconst hX dX3_keep_33 ic_1 rfl ?_
      first | refine g_iaddN hX dX3_keep_34 rfl ?_ | refine g_iadd hX dX3_keep_34 rfl ?_
      refine g_putI hX fp_X3_22 rfl rfl dX3_keep_35 rfl ?_
      refine g_goto (n := 53) hX dX3_keep_38 (by decide) ?_
      refine g_vret hX hR dX3_keep_53 ?_
      first
      | (simp only [m_keep, h4]; rw [if_neg (by omega)]; rfl)
      | (simp only [m_keep, h4]; rw [if_pos (by omega)]; rfl)
  · skip
    refine g_aload_n (i := 0) hX dX3_keep_0 rfl rfl rfl ?_
    refine g_getR hX fl_X3_11 rfl rfl dX3_keep_1 rfl ?_
    refine g_aload_n (i := 0) hX dX3_keep_4 rfl rfl rfl ?_
    refine g_getIv (x := nI ol) hX fl_X3_18 rfl rfl (ho) dX3_keep_5 rfl ?_
    refine g_aload_n (i := 0) hX dX3_keep_8 rfl rfl rfl ?_
    refine g_getIv (x := nI hs) hX fl_X3_22 rfl rfl (hh) dX3_keep_9 rfl ?_
    first | refine g_iaddN hX dX3_keep_12 rfl ?_ | refine g_iadd hX dX3_keep_12 rfl ?_
    refine g_iconst hX dX3_keep_13 ic_4 rfl ?_
    refine g_irem hX dX3_keep_14 (by decide) rfl ?_
    rw [rem4 _ (by omega), h4]
    refine g_aald (j := 3) hX rfl rfl (by decide) rfl rfl dX3_keep_15 rfl ?_
    refine g_aload_n (i := 1) hX dX3_keep_16 rfl rfl rfl ?_
    refine g_callVv hX (c_X5_copyFrom_101_1 E _ hz1 hz2) kf_X5_copyFrom rfl wk_X3_25 rfl rfl rfl rfl rfl dX3_keep_17 rfl (fun M17 h17 => ?_)
    subst h17
    refine g_aload_n (i := 0) hX dX3_keep_20 rfl rfl rfl ?_
    refine g_getIv (x := nI hs) hX fl_X3_22 rfl rfl (hh) dX3_keep_21 rfl ?_
    refine g_iconst hX dX3_keep_24 ic_4 rfl ?_
    first | refine g_icmp_geN (tgt := 41) hX dX3_keep_25 (by decide) rfl (by omega) (by omega) (fun zc25 => ?_) (fun zc25 => ?_) | refine g_icmp_ge (tgt := 41) hX dX3_keep_25 (by decide) rfl (fun zc25 => ?_) (fun zc25 => ?_)
    · skip
      skip
      refine g_aload_n (i := 0) hX dX3_keep_41 rfl rfl rfl ?_
      refine g_aload_n (i := 0) hX dX3_keep_42 rfl rfl rfl ?_
      refine g_getIv (x := nI ol) hX fl_X3_18 rfl rfl (ho) dX3_keep_43 rfl ?_
      refine g_iconst hX dX3_keep_46 ic_1 rfl ?_
      first | refine g_iaddN hX dX3_keep_47 rfl ?_ | refine g_iadd hX dX3_keep_47 rfl ?_
      refine g_iconst hX dX3_keep_48 ic_4 rfl ?_
      refine g_irem hX dX3_keep_49 (by decide) rfl ?_
      rw [rem4 _ (by omega)]
      refine g_putI hX fp_X3_18 rfl rfl dX3_keep_50 rfl ?_
      refine g_vret hX hR dX3_keep_53 ?_
      first
      | (simp only [m_keep, h4]; rw [if_neg (by omega)]; rfl)
      | (simp only [m_keep, h4]; rw [if_pos (by omega)]; rfl)
    · skip
      refine g_aload_n (i := 0) hX dX3_keep_28 rfl rfl rfl ?_
      refine g_dup hX dX3_keep_29 rfl rfl ?_
      refine g_getIv (x := nI hs) hX fl_X3_22 rfl rfl (hh) dX3_keep_30 rfl ?_
      refine g_iconst hX dX3_keep_33 ic_1 rfl ?_
      first | refine g_iaddN hX dX3_keep_34 rfl ?_ | refine g_iadd hX dX3_keep_34 rfl ?_
      refine g_putI hX fp_X3_22 rfl rfl dX3_keep_35 rfl ?_
      refine g_goto (n := 53) hX dX3_keep_38 (by decide) ?_
      refine g_vret hX hR dX3_keep_53 ?_
      first
      | (simp only [m_keep, h4]; rw [if_neg (by omega)]; rfl)
      | (simp only [m_keep, h4]; rw [if_pos (by omega)]; rfl)
def m_rest (M : gM) (ol hs : Nat) : gM := cpS (gset M 126 (upd (M 126) 2 (nI (hs - 1)))) 1 (hisB ((ol + (hs - 1)) % 4))
theorem c_X3_restore (E : gE) (M : gM) (ol hs : Nat) (ho : M 126 1 = nI ol) (hob : ol < 4) (hh : M 126 2 = nI hs) (hhb : hs ≤ 4) (hh0 : 0 < hs) (hz1 : M (hisB ((ol + (hs - 1)) % 4) + 13) 1 = 0 ∨ M (hisB ((ol + (hs - 1)) % 4) + 13) 1 = 1) (hz2 : M (hisB ((ol + (hs - 1)) % 4) + 13) 2 = 0 ∨ M (hisB ((ol + (hs - 1)) % 4) + 13) 2 = 1) : gMet E k_X3_restore [.ref 126, .ref 1] M (gVoid fun M' => M' = m_rest M ol hs) := by
  refine gMet.of (by decide +kernel) rfl (Nat.le_of_ble_eq_true rfl) (fun X hX hR => ?_)
  have h4 : (ol + (hs - 1)) % 4 = 0 ∨ (ol + (hs - 1)) % 4 = 1 ∨ (ol + (hs - 1)) % 4 = 2 ∨ (ol + (hs - 1)) % 4 = 3 := by omega
  rcases h4 with h4 | h4 | h4 | h4
  · rw [h4] at hz1 hz2
    refine g_aload_n (i := 0) hX dX3_restore_0 rfl rfl rfl ?_
    refine g_getIv (x := nI hs) hX fl_X3_22 rfl rfl (hh) dX3_restore_1 rfl ?_
    refine g_if_le (tgt := 37) hX dX3_restore_4 (by decide) rfl (fun zc4 => absurd zc4 (nI_nle (by omega) (by omega))) (fun zc4 => ?_)
    refine g_aload_n (i := 0) hX dX3_restore_7 rfl rfl rfl ?_
    refine g_dup hX dX3_restore_8 rfl rfl ?_
    refine g_getIv (x := nI hs) hX fl_X3_22 rfl rfl (hh) dX3_restore_9 rfl ?_
    refine g_iconst hX dX3_restore_12 ic_1 rfl ?_
    refine g_isubN hX dX3_restore_13 (by omega) rfl ?_
    refine g_putI hX fp_X3_22 rfl rfl dX3_restore_14 rfl ?_
    refine g_aload_n (i := 1) hX dX3_restore_17 rfl rfl rfl ?_
    refine g_aload_n (i := 0) hX dX3_restore_18 rfl rfl rfl ?_
    refine g_getR hX fl_X3_11 rfl rfl dX3_restore_19 rfl ?_
    refine g_aload_n (i := 0) hX dX3_restore_22 rfl rfl rfl ?_
    refine g_getIv (x := nI ol) hX fl_X3_18 rfl rfl (ho) dX3_restore_23 rfl ?_
    refine g_aload_n (i := 0) hX dX3_restore_26 rfl rfl rfl ?_
    refine g_getIv (x := nI (hs - 1)) hX fl_X3_22 rfl rfl (rfl) dX3_restore_27 rfl ?_
    first | refine g_iaddN hX dX3_restore_30 rfl ?_ | refine g_iadd hX dX3_restore_30 rfl ?_
    refine g_iconst hX dX3_restore_31 ic_4 rfl ?_
    refine g_irem hX dX3_restore_32 (by decide) rfl ?_
    rw [rem4 _ (by omega), h4]
    refine g_aald (j := 0) hX rfl rfl (by decide) rfl rfl dX3_restore_33 rfl ?_
    refine g_callVv hX (c_X5_copyFrom_1_26 E _ hz1 hz2) kf_X5_copyFrom rfl wk_X3_25 rfl rfl rfl rfl rfl dX3_restore_34 rfl (fun M34 h34 => ?_)
    subst h34
    refine g_vret hX hR dX3_restore_37 ?_
    simp only [m_rest, h4]; rfl
  · rw [h4] at hz1 hz2
    refine g_aload_n (i := 0) hX dX3_restore_0 rfl rfl rfl ?_
    refine g_getIv (x := nI hs) hX fl_X3_22 rfl rfl (hh) dX3_restore_1 rfl ?_
    refine g_if_le (tgt := 37) hX dX3_restore_4 (by decide) rfl (fun zc4 => absurd zc4 (nI_nle (by omega) (by omega))) (fun zc4 => ?_)
    refine g_aload_n (i := 0) hX dX3_restore_7 rfl rfl rfl ?_
    refine g_dup hX dX3_restore_8 rfl rfl ?_
    refine g_getIv (x := nI hs) hX fl_X3_22 rfl rfl (hh) dX3_restore_9 rfl ?_
    refine g_iconst hX dX3_restore_12 ic_1 rfl ?_
    refine g_isubN hX dX3_restore_13 (by omega) rfl ?_
    refine g_putI hX fp_X3_22 rfl rfl dX3_restore_14 rfl ?_
    refine g_aload_n (i := 1) hX dX3_restore_17 rfl rfl rfl ?_
    refine g_aload_n (i := 0) hX dX3_restore_18 rfl rfl rfl ?_
    refine g_getR hX fl_X3_11 rfl rfl dX3_restore_19 rfl ?_
    refine g_aload_n (i := 0) hX dX3_restore_22 rfl rfl rfl ?_
    refine g_getIv (x := nI ol) hX fl_X3_18 rfl rfl (ho) dX3_restore_23 rfl ?_
    refine g_aload_n (i := 0) hX dX3_restore_26 rfl rfl rfl ?_
    refine g_getIv (x := nI (hs - 1)) hX fl_X3_22 rfl rfl (rfl) dX3_restore_27 rfl ?_
    first | refine g_iaddN hX dX3_restore_30 rfl ?_ | refine g_iadd hX dX3_restore_30 rfl ?_
    refine g_iconst hX dX3_restore_31 ic_4 rfl ?_
    refine g_irem hX dX3_restore_32 (by decide) rfl ?_
    rw [rem4 _ (by omega), h4]
    refine g_aald (j := 1) hX rfl rfl (by decide) rfl rfl dX3_restore_33 rfl ?_
    refine g_callVv hX (c_X5_copyFrom_1_51 E _ hz1 hz2) kf_X5_copyFrom rfl wk_X3_25 rfl rfl rfl rfl rfl dX3_restore_34 rfl (fun M34 h34 => ?_)
    subst h34
    refine g_vret hX hR dX3_restore_37 ?_
    simp only [m_rest, h4]; rfl
  · rw [h4] at hz1 hz2
    refine g_aload_n (i := 0) hX dX3_restore_0 rfl rfl rfl ?_
    refine g_getIv (x := nI hs) hX fl_X3_22 rfl rfl (hh) dX3_restore_1 rfl ?_
    refine g_if_le (tgt := 37) hX dX3_restore_4 (by decide) rfl (fun zc4 => absurd zc4 (nI_nle (by omega) (by omega))) (fun zc4 => ?_)
    refine g_aload_n (i := 0) hX dX3_restore_7 rfl rfl rfl ?_
    refine g_dup hX dX3_restore_8 rfl rfl ?_
    refine g_getIv (x := nI hs) hX fl_X3_22 rfl rfl (hh) dX3_restore_9 rfl ?_
    refine g_iconst hX dX3_restore_12 ic_1 rfl ?_
    refine g_isubN hX dX3_restore_13 (by omega) rfl ?_
    refine g_putI hX fp_X3_22 rfl rfl dX3_restore_14 rfl ?_
    refine g_aload_n (i := 1) hX dX3_restore_17 rfl rfl rfl ?_
    refine g_aload_n (i := 0) hX dX3_restore_18 rfl rfl rfl ?_
    refine g_getR hX fl_X3_11 rfl rfl dX3_restore_19 rfl ?_
    refine g_aload_n (i := 0) hX dX3_restore_22 rfl rfl rfl ?_
    refine g_getIv (x := nI ol) hX fl_X3_18 rfl rfl (ho) dX3_restore_23 rfl ?_
    refine g_aload_n (i := 0) hX dX3_restore_26 rfl rfl rfl ?_
    refine g_getIv (x := nI (hs - 1)) hX fl_X3_22 rfl rfl (rfl) dX3_restore_27 rfl ?_
    first | refine g_iaddN hX dX3_restore_30 rfl ?_ | refine g_iadd hX dX3_restore_30 rfl ?_
    refine g_iconst hX dX3_restore_31 ic_4 rfl ?_
    refine g_irem hX dX3_restore_32 (by decide) rfl ?_
    rw [rem4 _ (by omega), h4]
    refine g_aald (j := 2) hX rfl rfl (by decide) rfl rfl dX3_restore_33 rfl ?_
    refine g_callVv hX (c_X5_copyFrom_1_76 E _ hz1 hz2) kf_X5_copyFrom rfl wk_X3_25 rfl rfl rfl rfl rfl dX3_restore_34 rfl (fun M34 h34 => ?_)
    subst h34
    refine g_vret hX hR dX3_restore_37 ?_
    simp only [m_rest, h4]; rfl
  · rw [h4] at hz1 hz2
    refine g_aload_n (i := 0) hX dX3_restore_0 rfl rfl rfl ?_
    refine g_getIv (x := nI hs) hX fl_X3_22 rfl rfl (hh) dX3_restore_1 rfl ?_
    refine g_if_le (tgt := 37) hX dX3_restore_4 (by decide) rfl (fun zc4 => absurd zc4 (nI_nle (by omega) (by omega))) (fun zc4 => ?_)
    refine g_aload_n (i := 0) hX dX3_restore_7 rfl rfl rfl ?_
    refine g_dup hX dX3_restore_8 rfl rfl ?_
    refine g_getIv (x := nI hs) hX fl_X3_22 rfl rfl (hh) dX3_restore_9 rfl ?_
    refine g_iconst hX dX3_restore_12 ic_1 rfl ?_
    refine g_isubN hX dX3_restore_13 (by omega) rfl ?_
    refine g_putI hX fp_X3_22 rfl rfl dX3_restore_14 rfl ?_
    refine g_aload_n (i := 1) hX dX3_restore_17 rfl rfl rfl ?_
    refine g_aload_n (i := 0) hX dX3_restore_18 rfl rfl rfl ?_
    refine g_getR hX fl_X3_11 rfl rfl dX3_restore_19 rfl ?_
    refine g_aload_n (i := 0) hX dX3_restore_22 rfl rfl rfl ?_
    refine g_getIv (x := nI ol) hX fl_X3_18 rfl rfl (ho) dX3_restore_23 rfl ?_
    refine g_aload_n (i := 0) hX dX3_restore_26 rfl rfl rfl ?_
    refine g_getIv (x := nI (hs - 1)) hX fl_X3_22 rfl rfl (rfl) dX3_restore_27 rfl ?_
    first | refine g_iaddN hX dX3_restore_30 rfl ?_ | refine g_iadd hX dX3_restore_30 rfl ?_
    refine g_iconst hX dX3_restore_31 ic_4 rfl ?_
    refine g_irem hX dX3_restore_32 (by decide) rfl ?_
    rw [rem4 _ (by omega), h4]
    refine g_aald (j := 3) hX rfl rfl (by decide) rfl rfl dX3_restore_33 rfl ?_
    refine g_callVv hX (c_X5_copyFrom_1_101 E _ hz1 hz2) kf_X5_copyFrom rfl wk_X3_25 rfl rfl rfl rfl rfl dX3_restore_34 rfl (fun M34 h34 => ?_)
    subst h34
    refine g_vret hX hR dX3_restore_37 ?_
    simp only [m_rest, h4]; rfl

