/-! State: end and opening of a ballot, resolutions, editions, appeals -/
def m_end (M : gM) (n nk : Nat) : gM := if carB (talM M nk n) (M 25) then gset (gset (m_misses (gset M 15 (talF (M 3) (M 4) (M 25) (M 5) (M 17) (M 19) nk n)) n) 14 (upd (M 14) 1 0)) 21 (mapTo nk (fun _ => 1) (M 21)) else gset (gset (m_misses (gset M 15 (talF (M 3) (M 4) (M 25) (M 5) (M 17) (M 19) nk n)) n) 14 (upd (M 14) 1 0)) 16 (upd (M 16) 8 0)
theorem c_X5_endBallot (E : gE) (M : gM) (n nk : Nat) (hn : M 2 4 = nI n) (hb : n ≤ 10) (hk : M 16 8 = nI nk) (hbk : nk ≤ 30) : gMet E k_X5_endBallot [.ref 1] M (gVoid fun M' => M' = m_end M n nk) := by
  refine gMet.of (by decide +kernel) rfl (Nat.le_of_ble_eq_true rfl) (fun X hX hR => ?_)
  cases hc : carB (talM M nk n) (M 25) with
  | true =>
    refine g_aload_n (i := 0) hX dX5_endBallot_0 rfl rfl rfl ?_
    refine g_callVv hX (c_X5_countVotes E M n nk hn hb hk hbk) kf_X5_countVotes rfl wk_X5_137 rfl rfl rfl rfl rfl dX5_endBallot_1 rfl (fun M1 h1 => ?_)
    subst h1
    refine g_aload_n (i := 0) hX dX5_endBallot_4 rfl rfl rfl ?_
    refine g_getR hX fl_X5_12 rfl rfl dX5_endBallot_5 rfl ?_
    refine g_callVv hX (c_X4_noteMisses E _ n hn hb) kf_X4_noteMisses rfl wk_X5_140 rfl rfl rfl rfl rfl dX5_endBallot_8 rfl (fun M8 h8 => ?_)
    subst h8
    refine g_aload_n (i := 0) hX dX5_endBallot_11 rfl rfl rfl ?_
    refine g_getR hX fl_X5_28 rfl rfl dX5_endBallot_12 rfl ?_
    refine g_iconst hX dX5_endBallot_15 ic_0 rfl ?_
    refine g_putZ hX fp_X5_89 rfl rfl (by first | exact Or.inl rfl | exact Or.inr rfl | assumption) dX5_endBallot_16 rfl ?_
    refine g_aload_n (i := 0) hX dX5_endBallot_19 rfl rfl rfl ?_
    refine g_getR hX fl_X5_28 rfl rfl dX5_endBallot_20 rfl ?_
    refine g_getR hX fl_X5_121 rfl rfl dX5_endBallot_23 rfl ?_
    refine g_iconst hX dX5_endBallot_26 ic_5 rfl ?_
    refine g_ialdv (x := nI 1) hX rfl (rfl) (by omega) rfl ((show gB (carB (talM M nk n) (M 25)) = nI 1 by rw [hc]; rfl)) dX5_endBallot_27 rfl ?_
    refine g_iconst hX dX5_endBallot_28 ic_1 rfl ?_
    refine g_icmp_ne (tgt := 42) hX dX5_endBallot_29 (by decide) rfl (fun zc29 => absurd rfl zc29) (fun zc29 => ?_)
    refine g_aload_n (i := 0) hX dX5_endBallot_32 rfl rfl rfl ?_
    refine g_getR hX fl_X5_35 rfl rfl dX5_endBallot_33 rfl ?_
    refine g_callVv hX (c_X1_makeAllPending E _ nk hk hbk) kf_X1_makeAllPending rfl wk_X5_143 rfl rfl rfl rfl rfl dX5_endBallot_36 rfl (fun M36 h36 => ?_)
    subst h36
    refine g_goto (n := 50) hX dX5_endBallot_39 (by decide) ?_
    refine g_vret hX hR dX5_endBallot_50 ?_
    simp only [m_end, hc]; rfl
  | false =>
    refine g_aload_n (i := 0) hX dX5_endBallot_0 rfl rfl rfl ?_
    refine g_callVv hX (c_X5_countVotes E M n nk hn hb hk hbk) kf_X5_countVotes rfl wk_X5_137 rfl rfl rfl rfl rfl dX5_endBallot_1 rfl (fun M1 h1 => ?_)
    subst h1
    refine g_aload_n (i := 0) hX dX5_endBallot_4 rfl rfl rfl ?_
    refine g_getR hX fl_X5_12 rfl rfl dX5_endBallot_5 rfl ?_
    refine g_callVv hX (c_X4_noteMisses E _ n hn hb) kf_X4_noteMisses rfl wk_X5_140 rfl rfl rfl rfl rfl dX5_endBallot_8 rfl (fun M8 h8 => ?_)
    subst h8
    refine g_aload_n (i := 0) hX dX5_endBallot_11 rfl rfl rfl ?_
    refine g_getR hX fl_X5_28 rfl rfl dX5_endBallot_12 rfl ?_
    refine g_iconst hX dX5_endBallot_15 ic_0 rfl ?_
    refine g_putZ hX fp_X5_89 rfl rfl (by first | exact Or.inl rfl | exact Or.inr rfl | assumption) dX5_endBallot_16 rfl ?_
    refine g_aload_n (i := 0) hX dX5_endBallot_19 rfl rfl rfl ?_
    refine g_getR hX fl_X5_28 rfl rfl dX5_endBallot_20 rfl ?_
    refine g_getR hX fl_X5_121 rfl rfl dX5_endBallot_23 rfl ?_
    refine g_iconst hX dX5_endBallot_26 ic_5 rfl ?_
    refine g_ialdv (x := nI 0) hX rfl (rfl) (by omega) rfl ((show gB (carB (talM M nk n) (M 25)) = nI 0 by rw [hc]; rfl)) dX5_endBallot_27 rfl ?_
    refine g_iconst hX dX5_endBallot_28 ic_1 rfl ?_
    refine g_icmp_ne (tgt := 42) hX dX5_endBallot_29 (by decide) rfl (fun zc29 => ?_) (fun zc29 => absurd zc29 (by decide))
    refine g_aload_n (i := 0) hX dX5_endBallot_42 rfl rfl rfl ?_
    refine g_getR hX fl_X5_35 rfl rfl dX5_endBallot_43 rfl ?_
    refine g_iconst hX dX5_endBallot_46 ic_0 rfl ?_
    refine g_putI hX fp_X5_102 rfl rfl dX5_endBallot_47 rfl ?_
    refine g_vret hX hR dX5_endBallot_50 ?_
    simp only [m_end, hc]; rfl
def m_open (M : gM) : gM := gset (gset (gset (gset M 14 (upd (upd (upd (upd (M 14) 1 1) 2 0) 3 (M 14 3 + 1)) 4 (M 1 5 + M 25 2))) 16 (upd (upd (M 16) 8 0) 9 0)) 5 (fun _ => -1)) 10 (M 9)
theorem c_X5_openBallot (E : gE) (M : gM) : gMet E k_X5_openBallot [.ref 1] M (gVoid fun M' => M' = m_open M) := by
  refine gMet.of (by decide +kernel) rfl (Nat.le_of_ble_eq_true rfl) (fun X hX hR => ?_)
  refine g_aload_n (i := 0) hX dX5_openBallot_0 rfl rfl rfl ?_
  refine g_getR hX fl_X5_28 rfl rfl dX5_openBallot_1 rfl ?_
  refine g_iconst hX dX5_openBallot_4 ic_1 rfl ?_
  refine g_putZ hX fp_X5_89 rfl rfl (by first | exact Or.inl rfl | exact Or.inr rfl | assumption) dX5_openBallot_5 rfl ?_
  refine g_aload_n (i := 0) hX dX5_openBallot_8 rfl rfl rfl ?_
  refine g_getR hX fl_X5_28 rfl rfl dX5_openBallot_9 rfl ?_
  refine g_iconst hX dX5_openBallot_12 ic_0 rfl ?_
  refine g_putZ hX fp_X5_93 rfl rfl (by first | exact Or.inl rfl | exact Or.inr rfl | assumption) dX5_openBallot_13 rfl ?_
  refine g_aload_n (i := 0) hX dX5_openBallot_16 rfl rfl rfl ?_
  refine g_getR hX fl_X5_28 rfl rfl dX5_openBallot_17 rfl ?_
  refine g_dup hX dX5_openBallot_20 rfl rfl ?_
  refine g_getIv (x := M 14 3) hX fl_X5_96 rfl rfl (rfl) dX5_openBallot_21 rfl ?_
  refine g_iconst hX dX5_openBallot_24 ic_1 rfl ?_
  first | refine g_iaddN hX dX5_openBallot_25 rfl ?_ | refine g_iadd hX dX5_openBallot_25 rfl ?_
  refine g_putI hX fp_X5_96 rfl rfl dX5_openBallot_26 rfl ?_
  refine g_aload_n (i := 0) hX dX5_openBallot_29 rfl rfl rfl ?_
  refine g_getR hX fl_X5_28 rfl rfl dX5_openBallot_30 rfl ?_
  refine g_aload_n (i := 0) hX dX5_openBallot_33 rfl rfl rfl ?_
  refine g_getIv (x := M 1 5) hX fl_X5_68 rfl rfl (rfl) dX5_openBallot_34 rfl ?_
  refine g_aload_n (i := 0) hX dX5_openBallot_37 rfl rfl rfl ?_
  refine g_getR hX fl_X5_48 rfl rfl dX5_openBallot_38 rfl ?_
  refine g_iconst hX dX5_openBallot_41 ic_2 rfl ?_
  refine g_ialdv (x := M 25 2) hX rfl (rfl) (by omega) rfl (rfl) dX5_openBallot_42 rfl ?_
  first | refine g_iaddN hX dX5_openBallot_43 rfl ?_ | refine g_iadd hX dX5_openBallot_43 rfl ?_
  refine g_putI hX fp_X5_99 rfl rfl dX5_openBallot_44 rfl ?_
  refine g_aload_n (i := 0) hX dX5_openBallot_47 rfl rfl rfl ?_
  refine g_getR hX fl_X5_35 rfl rfl dX5_openBallot_48 rfl ?_
  refine g_iconst hX dX5_openBallot_51 ic_0 rfl ?_
  refine g_putI hX fp_X5_102 rfl rfl dX5_openBallot_52 rfl ?_
  refine g_aload_n (i := 0) hX dX5_openBallot_55 rfl rfl rfl ?_
  refine g_getR hX fl_X5_35 rfl rfl dX5_openBallot_56 rfl ?_
  refine g_iconst hX dX5_openBallot_59 ic_0 rfl ?_
  refine g_putI hX fp_X5_103 rfl rfl dX5_openBallot_60 rfl ?_
  refine g_aload_n (i := 0) hX dX5_openBallot_63 rfl rfl rfl ?_
  refine g_getR hX fl_X5_12 rfl rfl dX5_openBallot_64 rfl ?_
  refine g_getR hX fl_X5_106 rfl rfl dX5_openBallot_67 rfl ?_
  refine g_iconst hX dX5_openBallot_70 ic_m1 rfl ?_
  refine g_callSv hX (c_fill E _ 5 10 _ _ rfl rfl) kf_J7_fill_53178 rfl wk_X5_109 rfl rfl rfl rfl dX5_openBallot_71 rfl (fun M71 h71 => ?_)
  subst h71
  refine g_aload_n (i := 0) hX dX5_openBallot_74 rfl rfl rfl ?_
  refine g_getR hX fl_X5_21 rfl rfl dX5_openBallot_75 rfl ?_
  refine g_getR hX fl_X5_115 rfl rfl dX5_openBallot_78 rfl ?_
  refine g_aload_n (i := 0) hX dX5_openBallot_81 rfl rfl rfl ?_
  refine g_getR hX fl_X5_21 rfl rfl dX5_openBallot_82 rfl ?_
  refine g_getR hX fl_X5_118 rfl rfl dX5_openBallot_85 rfl ?_
  refine g_callNv hX (c_X7_copyAllr E _ 9 10 20 _ _ rfl rfl rfl (M 9) rfl) kf_X7_copyAll rfl (List.mem_of_getElem? (i := 12) rfl) rfl rfl rfl rfl dX5_openBallot_88 rfl (fun M88 h88 => ?_)
  subst h88
  refine g_vret hX hR dX5_openBallot_91 ?_
  simp only [gset_gset]; rfl
/-- from base on, k places -/
def blkTo (base k : Nat) (g r : Nat → Int32) : Nat → Int32 := fun j => if base ≤ j ∧ j < base + k then g (j - base) else r j
theorem blkTo_0 (base : Nat) (g r : Nat → Int32) : blkTo base 0 g r = r := by funext j; simp only [blkTo]; rw [if_neg (by omega)]
theorem blkTo_succ (base k : Nat) (g r : Nat → Int32) : upd (blkTo base k g r) (base + k) (g k) = blkTo base (k + 1) g r := by
  funext j; simp only [upd, blkTo]
  by_cases h : j = base + k
  · subst h
    rw [if_pos rfl, if_pos (by omega)]
    congr 1; omega
  · rw [if_neg h]
    by_cases h2 : base ≤ j ∧ j < base + k
    · rw [if_pos h2, if_pos (by omega)]
    · rw [if_neg h2, if_neg (by omega)]
/-- the comment behind the value of a clause -/
def behI (pl st gv tn pr : Nat → Int32) (nk k : Nat) : Int32 := optI (-1) (bestTo nk (behB pl st gv (nI k) (pr k)) (turnB tn))
def m_br0 (M : gM) (e : Nat) : gM := gset (gset (gset M 7 (upd (M 7) 7 (nI (e + 1)))) 11 (upd (M 11) e (M 14 3))) 14 (upd (M 14) 2 1)
def m_brk (M : gM) (e nk k : Nat) : gM := gset (gset (m_br0 M e) 12 (blkTo (e * 20) k (M 9) (M 12))) 13 (blkTo (e * 20) k (behI (M 18) (M 21) (M 23) (M 24) (M 9) nk) (M 13))
theorem c_X5_bringEdition (E : gE) (M : gM) (nc e nk : Nat) (hc : M 7 6 = nI nc) (hbc : nc ≤ 20) (he : M 7 7 = nI e) (he1 : 1 ≤ e) (he2 : e < 12) (hk : M 16 8 = nI nk) (hbk : nk ≤ 30) : gMet E k_X5_bringEdition [.ref 1] M (gVoid fun M' => M' = m_brk M e nk nc) := by
  refine gMet.of (by decide +kernel) rfl (Nat.le_of_ble_eq_true rfl) (fun X hX hR => ?_)
  have loop := up_loop nc (fun k => ∀ a b, gG X E (m_brk M e nk k) 60 [some (.ref 1), some (.int (nI k)), a, b] [] (gQ X E (gVoid fun M' => M' = m_brk M e nk nc))) ?_ ?_
  · skip
    refine g_aload_n (i := 0) hX dX5_bringEdition_0 rfl rfl rfl ?_
    refine g_getR hX fl_X5_21 rfl rfl dX5_bringEdition_1 rfl ?_
    refine g_getIv (x := nI e) hX fl_X5_167 rfl rfl (he) dX5_bringEdition_4 rfl ?_
    refine g_bipush hX dX5_bringEdition_7 bc_12 rfl ?_
    first | refine g_icmp_ltN (tgt := 13) hX dX5_bringEdition_9 (by decide) rfl (by omega) (by omega) (fun zc9 => ?_) (fun zc9 => absurd zc9 (by omega)) | refine g_icmp_lt (tgt := 13) hX dX5_bringEdition_9 (by decide) rfl (fun zc9 => ?_) (fun zc9 => absurd zc9 (by omega))
    refine g_aload_n (i := 0) hX dX5_bringEdition_13 rfl rfl rfl ?_
    refine g_getR hX fl_X5_21 rfl rfl dX5_bringEdition_14 rfl ?_
    refine g_dup hX dX5_bringEdition_17 rfl rfl ?_
    refine g_getIv (x := nI e) hX fl_X5_167 rfl rfl (he) dX5_bringEdition_18 rfl ?_
    refine g_iconst hX dX5_bringEdition_21 ic_1 rfl ?_
    first | refine g_iaddN hX dX5_bringEdition_22 rfl ?_ | refine g_iadd hX dX5_bringEdition_22 rfl ?_
    refine g_putI hX fp_X5_167 rfl rfl dX5_bringEdition_23 rfl ?_
    refine g_aload_n (i := 0) hX dX5_bringEdition_26 rfl rfl rfl ?_
    refine g_getR hX fl_X5_21 rfl rfl dX5_bringEdition_27 rfl ?_
    refine g_getR hX fl_X5_170 rfl rfl dX5_bringEdition_30 rfl ?_
    refine g_aload_n (i := 0) hX dX5_bringEdition_33 rfl rfl rfl ?_
    refine g_getR hX fl_X5_21 rfl rfl dX5_bringEdition_34 rfl ?_
    refine g_getIv (x := nI (e + 1)) hX fl_X5_167 rfl rfl (rfl) dX5_bringEdition_37 rfl ?_
    refine g_iconst hX dX5_bringEdition_40 ic_1 rfl ?_
    refine g_isubN hX dX5_bringEdition_41 (by omega) rfl ?_
    refine g_aload_n (i := 0) hX dX5_bringEdition_42 rfl rfl rfl ?_
    refine g_getR hX fl_X5_28 rfl rfl dX5_bringEdition_43 rfl ?_
    refine g_getIv (x := M 14 3) hX fl_X5_96 rfl rfl (rfl) dX5_bringEdition_46 rfl ?_
    refine g_iast hX rfl ((congrArg nI (by omega) : _ = nI e)) (by omega) rfl dX5_bringEdition_49 rfl ?_
    refine g_aload_n (i := 0) hX dX5_bringEdition_50 rfl rfl rfl ?_
    refine g_getR hX fl_X5_28 rfl rfl dX5_bringEdition_51 rfl ?_
    refine g_iconst hX dX5_bringEdition_54 ic_1 rfl ?_
    refine g_putZ hX fp_X5_93 rfl rfl (by first | exact Or.inl rfl | exact Or.inr rfl | assumption) dX5_bringEdition_55 rfl ?_
    refine g_iconst hX dX5_bringEdition_58 ic_0 rfl ?_
    refine g_istore_n (i := 1) hX dX5_bringEdition_59 rfl (Nat.le_of_ble_eq_true rfl) rfl ?_
    exact gGM (by simp only [m_brk, blkTo_0]; rw [show M 12 = m_br0 M e 12 from rfl, show M 13 = gset (m_br0 M e) 12 (m_br0 M e 12) 13 from rfl, gset_self, gset_self]; rfl) (loop 0 (Nat.zero_le _) _ _)
  · intro a b
    refine g_iload_n (i := 1) hX dX5_bringEdition_60 rfl rfl rfl ?_
    refine g_aload_n (i := 0) hX dX5_bringEdition_61 rfl rfl rfl ?_
    refine g_getR hX fl_X5_21 rfl rfl dX5_bringEdition_62 rfl ?_
    refine g_getIv (x := nI nc) hX fl_X5_173 rfl rfl (hc) dX5_bringEdition_65 rfl ?_
    first | refine g_icmp_geN (tgt := 127) hX dX5_bringEdition_68 (by decide) rfl (by omega) (by omega) (fun zc68 => ?_) (fun zc68 => absurd zc68 (by omega)) | refine g_icmp_ge (tgt := 127) hX dX5_bringEdition_68 (by decide) rfl (fun zc68 => ?_) (fun zc68 => absurd zc68 (by omega))
    refine g_vret hX hR dX5_bringEdition_127 ?_
    rfl
  · intro k hk' ih a b
    have s12 := blkTo_succ (e * 20) k (M 9) (M 12)
    have s13 := blkTo_succ (e * 20) k (behI (M 18) (M 21) (M 23) (M 24) (M 9) nk) (M 13)
    have es : nI ((e + 1 - 1) * 20 + k) = nI (e * 20 + k) := congrArg nI (by omega)
    refine g_iload_n (i := 1) hX dX5_bringEdition_60 rfl rfl rfl ?_
    refine g_aload_n (i := 0) hX dX5_bringEdition_61 rfl rfl rfl ?_
    refine g_getR hX fl_X5_21 rfl rfl dX5_bringEdition_62 rfl ?_
    refine g_getIv (x := nI nc) hX fl_X5_173 rfl rfl (hc) dX5_bringEdition_65 rfl ?_
    first | refine g_icmp_geN (tgt := 127) hX dX5_bringEdition_68 (by decide) rfl (by omega) (by omega) (fun zc68 => absurd zc68 (by omega)) (fun zc68 => ?_) | refine g_icmp_ge (tgt := 127) hX dX5_bringEdition_68 (by decide) rfl (fun zc68 => absurd zc68 (by omega)) (fun zc68 => ?_)
    refine g_aload_n (i := 0) hX dX5_bringEdition_71 rfl rfl rfl ?_
    refine g_getR hX fl_X5_21 rfl rfl dX5_bringEdition_72 rfl ?_
    refine g_getIv (x := nI (e + 1)) hX fl_X5_167 rfl rfl (rfl) dX5_bringEdition_75 rfl ?_
    refine g_iload_n (i := 1) hX dX5_bringEdition_78 rfl rfl rfl ?_
    refine g_callSi hX (c_X2_slot E _ (e + 1) k (by omega)) kf_X2_slot rfl wk_X5_174 rfl rfl rfl rfl dX5_bringEdition_79 rfl (fun x79 M79 h79 => ?_)
    obtain ⟨rfl, hm⟩ := h79; have hm := hm.symm; subst hm
    rw [es]
    refine g_istore_n (i := 2) hX dX5_bringEdition_82 rfl (Nat.le_of_ble_eq_true rfl) rfl ?_
    refine g_aload_n (i := 0) hX dX5_bringEdition_83 rfl rfl rfl ?_
    refine g_getR hX fl_X5_21 rfl rfl dX5_bringEdition_84 rfl ?_
    refine g_getR hX fl_X5_115 rfl rfl dX5_bringEdition_87 rfl ?_
    refine g_iload_n (i := 1) hX dX5_bringEdition_90 rfl rfl rfl ?_
    refine g_ialdv (x := M 9 k) hX rfl (rfl) (by omega) rfl (rfl) dX5_bringEdition_91 rfl ?_
    refine g_istore_n (i := 3) hX dX5_bringEdition_92 rfl (Nat.le_of_ble_eq_true rfl) rfl ?_
    refine g_aload_n (i := 0) hX dX5_bringEdition_93 rfl rfl rfl ?_
    refine g_getR hX fl_X5_21 rfl rfl dX5_bringEdition_94 rfl ?_
    refine g_getR hX fl_X5_178 rfl rfl dX5_bringEdition_97 rfl ?_
    refine g_iload_n (i := 2) hX dX5_bringEdition_100 rfl rfl rfl ?_
    refine g_iload_n (i := 3) hX dX5_bringEdition_101 rfl rfl rfl ?_
    refine g_iast hX rfl (rfl) (by omega) rfl dX5_bringEdition_102 rfl ?_
    refine g_aload_n (i := 0) hX dX5_bringEdition_103 rfl rfl rfl ?_
    refine g_getR hX fl_X5_21 rfl rfl dX5_bringEdition_104 rfl ?_
    refine g_getR hX fl_X5_181 rfl rfl dX5_bringEdition_107 rfl ?_
    refine g_iload_n (i := 2) hX dX5_bringEdition_110 rfl rfl rfl ?_
    refine g_aload_n (i := 0) hX dX5_bringEdition_111 rfl rfl rfl ?_
    refine g_getR hX fl_X5_35 rfl rfl dX5_bringEdition_112 rfl ?_
    refine g_iload_n (i := 1) hX dX5_bringEdition_115 rfl rfl rfl ?_
    refine g_iload_n (i := 3) hX dX5_bringEdition_116 rfl rfl rfl ?_
    refine g_callVi hX (c_X1_firstBehind E _ nk (nI k) (M 9 k) hk hbk) kf_X1_firstBehind rfl wk_X5_184 rfl rfl rfl rfl rfl dX5_bringEdition_117 rfl (fun x117 M117 h117 => ?_)
    obtain ⟨hx, hm⟩ := h117
    have hx : x117 = behI (M 18) (M 21) (M 23) (M 24) (M 9) nk k := hx
    have hm := hm.symm
    subst hm
    rw [hx]
    refine g_iast hX rfl (rfl) (by omega) rfl dX5_bringEdition_120 rfl ?_
    first | refine g_iincN hX dX5_bringEdition_121 ic_1 rfl (Nat.le_of_ble_eq_true rfl) rfl ?_ | refine g_iinc hX dX5_bringEdition_121 ic_1 rfl rfl (Nat.le_of_ble_eq_true rfl) rfl ?_
    refine g_goto (n := 60) hX dX5_bringEdition_124 (by decide) ?_
    refine gGM ?_ (ih _ _)
    funext b
    by_cases h12 : b = 12
    · subst h12; exact s12
    · by_cases h13 : b = 13
      · subst h13; exact s13
      · simp [m_brk, gset, h12, h13]
def m_gave (M : gM) (c p : Nat) (d v : Int32) : gM := if gaveB (2 + d) then gset (m_resolve M c (2 + d) (M 1 5) v) 9 (upd (M 9) p v) else m_resolve M c (2 + d) (M 1 5) v
def chgB (M : gM) (nc e : Nat) : Bool := anyTo nc (fun k => decide (M 9 k ≠ M 12 ((e - 1) * 20 + k)))
def m_settle (M : gM) (c p nc e nk : Nat) (d v : Int32) : gM := if cntTo nk (pendB (m_gave M c p d v 21)) = 0 ∧ chgB (m_gave M c p d v) nc e = true then m_brk (m_gave M c p d v) e nk nc else m_gave M c p d v
theorem c_X5_settle (E : gE) (M : gM) (c p nc e nk : Nat) (d v : Int32) (hcc : c < nk) (hp : M 18 c = nI p) (hpb : p < nc) (hc : M 7 6 = nI nc) (hbc : nc ≤ 20) (he : M 7 7 = nI e) (he1 : 1 ≤ e) (he2 : e < 12) (hk : M 16 8 = nI nk) (hbk : nk ≤ 30) : gMet E k_X5_settle [.ref 1, .int (nI c), .int d, .int v] M (gVoid fun M' => M' = m_settle M c p nc e nk d v) := by
  refine gMet.of (by decide +kernel) rfl (Nat.le_of_ble_eq_true rfl) (fun X hX hR => ?_)
  have tail : gG X E (m_gave M c p d v) 43 [some (.ref 1), some (.int (nI c)), some (.int d), some (.int v)] [] (gQ X E (gVoid fun M' => M' = m_settle M c p nc e nk d v)) := by
    have hc' : m_gave M c p d v 7 6 = nI nc := by simp only [m_gave]; split <;> exact hc
    have he' : m_gave M c p d v 7 7 = nI e := by simp only [m_gave]; split <;> exact he
    have hk' : m_gave M c p d v 16 8 = nI nk := by simp only [m_gave]; split <;> exact hk
    have hcn := cntTo_le nk (pendB (m_gave M c p d v 21))
    refine g_aload_n (i := 0) hX dX5_settle_43 rfl rfl rfl ?_
    refine g_getR hX fl_X5_35 rfl rfl dX5_settle_44 rfl ?_
    refine g_callVi hX (c_X1_pending E _ nk hk' hbk) kf_X1_pending rfl wk_X5_156 rfl rfl rfl rfl rfl dX5_settle_47 rfl (fun x47 M47 h47 => ?_)
    obtain ⟨rfl, hm⟩ := h47; have hm := hm.symm; subst hm
    refine g_if_ne (tgt := 67) hX dX5_settle_50 (by decide) rfl (fun zc50 => ?_) (fun zc50 => ?_)
    · skip
      have zd50 : ¬ cntTo nk (pendB (m_gave M c p d v 21)) = 0 := fun q => zc50 (by show nI (cntTo nk (pendB (m_gave M c p d v 21))) = 0; rw [q]; rfl)
      refine g_vret hX hR dX5_settle_67 ?_
      first
      | (simp only [m_settle]; rw [if_pos ⟨zd50, zd60⟩]; done)
      | (simp only [m_settle]; rw [if_neg (fun q => zd60 q.2)]; done)
      | (simp only [m_settle]; rw [if_neg (fun q => zd50 q.1)]; done)
    · skip
      have zd50 : cntTo nk (pendB (m_gave M c p d v 21)) = 0 := (nI_eq (by omega) (by decide)).mp (show nI (cntTo nk (pendB (m_gave M c p d v 21))) = nI 0 from zc50)
      refine g_aload_n (i := 0) hX dX5_settle_53 rfl rfl rfl ?_
      refine g_getR hX fl_X5_21 rfl rfl dX5_settle_54 rfl ?_
      refine g_callVi hX (c_X2_isChanged E _ nc e hc' hbc he' he1 (by omega)) kf_X2_isChanged rfl wk_X5_160 rfl rfl rfl rfl rfl dX5_settle_57 rfl (fun x57 M57 h57 => ?_)
      obtain ⟨rfl, hm⟩ := h57; have hm := hm.symm; subst hm
      first | refine g_if_eqB (tgt := 67) hX dX5_settle_60 (by decide) rfl (fun zc60 => ?_) (fun zc60 => ?_) | refine g_if_eq (tgt := 67) hX dX5_settle_60 (by decide) rfl (fun zc60 => ?_) (fun zc60 => ?_)
      · skip
        have zd60 : ¬ chgB (m_gave M c p d v) nc e = true := fun q => Bool.noConfusion (q.symm.trans zc60)
        refine g_vret hX hR dX5_settle_67 ?_
        first
        | (simp only [m_settle]; rw [if_pos ⟨zd50, zd60⟩]; done)
        | (simp only [m_settle]; rw [if_neg (fun q => zd60 q.2)]; done)
        | (simp only [m_settle]; rw [if_neg (fun q => zd50 q.1)]; done)
      · skip
        have zd60 : chgB (m_gave M c p d v) nc e = true := zc60
        refine g_aload_n (i := 0) hX dX5_settle_63 rfl rfl rfl ?_
        refine g_callVv hX (c_X5_bringEdition E _ nc e nk hc' hbc he' he1 he2 hk' hbk) kf_X5_bringEdition rfl wk_X5_164 rfl rfl rfl rfl rfl dX5_settle_64 rfl (fun M64 h64 => ?_)
        subst h64
        refine g_vret hX hR dX5_settle_67 ?_
        first
        | (simp only [m_settle]; rw [if_pos ⟨zd50, zd60⟩]; done)
        | (simp only [m_settle]; rw [if_neg (fun q => zd60 q.2)]; done)
        | (simp only [m_settle]; rw [if_neg (fun q => zd50 q.1)]; done)
  refine g_aload_n (i := 0) hX dX5_settle_0 rfl rfl rfl ?_
  refine g_getR hX fl_X5_35 rfl rfl dX5_settle_1 rfl ?_
  refine g_iload_n (i := 1) hX dX5_settle_4 rfl rfl rfl ?_
  refine g_iload_n (i := 2) hX dX5_settle_5 rfl rfl rfl ?_
  refine g_iload_n (i := 3) hX dX5_settle_6 rfl rfl rfl ?_
  refine g_aload_n (i := 0) hX dX5_settle_7 rfl rfl rfl ?_
  refine g_getI hX fl_X5_68 rfl rfl dX5_settle_8 rfl ?_
  refine g_callVv hX (c_X1_resolveAs E _ c d v (M 1 5) (by omega)) kf_X1_resolveAs rfl wk_X5_146 rfl rfl rfl rfl rfl dX5_settle_11 rfl (fun M11 h11 => ?_)
  subst h11
  refine g_aload_n (i := 0) hX dX5_settle_14 rfl rfl rfl ?_
  refine g_getR hX fl_X5_35 rfl rfl dX5_settle_15 rfl ?_
  refine g_iload_n (i := 1) hX dX5_settle_18 rfl rfl rfl ?_
  refine g_callVi hX (c_X1_gaveValue E _ c (by omega)) kf_X1_gaveValue rfl wk_X5_150 rfl rfl rfl rfl rfl dX5_settle_19 rfl (fun x19 M19 h19 => ?_)
  obtain ⟨rfl, hm⟩ := h19; have hm := hm.symm; subst hm
  first | refine g_if_eqB (tgt := 43) hX dX5_settle_22 (by decide) rfl (fun zc22 => ?_) (fun zc22 => ?_) | refine g_if_eq (tgt := 43) hX dX5_settle_22 (by decide) rfl (fun zc22 => ?_) (fun zc22 => ?_)
  · skip
    have zd22 : gaveB (2 + d) = false := by have h := zc22; simpa [m_resolve, gset, upd] using h
    first
    | exact gGM (by simp only [m_gave, zd22]; rfl) tail
  · skip
    have zd22 : gaveB (2 + d) = true := by have h := zc22; simpa [m_resolve, gset, upd] using h
    refine g_aload_n (i := 0) hX dX5_settle_25 rfl rfl rfl ?_
    refine g_getR hX fl_X5_21 rfl rfl dX5_settle_26 rfl ?_
    refine g_getR hX fl_X5_115 rfl rfl dX5_settle_29 rfl ?_
    refine g_aload_n (i := 0) hX dX5_settle_32 rfl rfl rfl ?_
    refine g_getR hX fl_X5_35 rfl rfl dX5_settle_33 rfl ?_
    refine g_getR hX fl_X5_153 rfl rfl dX5_settle_36 rfl ?_
    refine g_iload_n (i := 1) hX dX5_settle_39 rfl rfl rfl ?_
    refine g_ialdv (x := nI p) hX rfl (rfl) (by omega) rfl (hp) dX5_settle_40 rfl ?_
    refine g_iload_n (i := 3) hX dX5_settle_41 rfl rfl rfl ?_
    refine g_iast hX rfl (rfl) (by omega) rfl dX5_settle_42 rfl ?_
    first
    | exact gGM (by simp only [m_gave, zd22]; rfl) tail
def takB (M : gM) (c p nk : Nat) : Bool := gaveB (M 21 c) && (bestTo nk (behB (M 18) (upd (M 21) c 1) (M 23) (nI p) (M 9 p)) (turnB (M 24))).isNone
def m_taken (M : gM) (c p nk : Nat) : gM := if takB M c p nk then gset (gset M 21 (upd (M 21) c 1)) 9 (upd (M 9) p (M 10 p)) else gset M 21 (upd (M 21) c 1)
def m_reopen (M : gM) (c p nk e : Nat) (br : Bool) : gM := if br then gset (gset (m_taken M c p nk) 14 (upd (M 14) 2 0)) 7 (upd (M 7) 7 (nI (e - 1))) else m_taken M c p nk
theorem c_X5_reopen (E : gE) (M : gM) (c p nc e nk : Nat) (br : Bool) (hcc : c < nk) (hp : M 18 c = nI p) (hpb : p < nc) (hbc : nc ≤ 20) (he : M 7 7 = nI e) (he1 : 1 ≤ e) (hbr : M 14 2 = gB br) (hk : M 16 8 = nI nk) (hbk : nk ≤ 30) : gMet E k_X5_reopen [.ref 1, .int (nI c)] M (gVoid fun M' => M' = m_reopen M c p nk e br) := by
  refine gMet.of (by decide +kernel) rfl (Nat.le_of_ble_eq_true rfl) (fun X hX hR => ?_)
  have tail : ∀ a b, gG X E (m_taken M c p nk) 72 [some (.ref 1), some (.int (nI c)), a, b] [] (gQ X E (gVoid fun M' => M' = m_reopen M c p nk e br)) := by
    intro a b
    have h14 : m_taken M c p nk 14 = M 14 := by simp only [m_taken]; split <;> rfl
    have h7 : m_taken M c p nk 7 = M 7 := by simp only [m_taken]; split <;> rfl
    have hbr' : m_taken M c p nk 14 2 = gB br := by rw [h14]; exact hbr
    have he' : m_taken M c p nk 7 7 = nI e := by rw [h7]; exact he
    refine g_aload_n (i := 0) hX dX5_reopen_72 rfl rfl rfl ?_
    refine g_getR hX fl_X5_28 rfl rfl dX5_reopen_73 rfl ?_
    refine g_getIv (x := gB br) hX fl_X5_93 rfl rfl (hbr') dX5_reopen_76 rfl ?_
    first | refine g_if_eqB (tgt := 103) hX dX5_reopen_79 (by decide) rfl (fun zc79 => ?_) (fun zc79 => ?_) | refine g_if_eq (tgt := 103) hX dX5_reopen_79 (by decide) rfl (fun zc79 => ?_) (fun zc79 => ?_)
    · skip
      refine g_vret hX hR dX5_reopen_103 ?_
      first
      | (subst zc79; rfl)
      | (subst zc79; rw [h14]; show gset (gset _ 14 _) 7 (upd (m_taken M c p nk 7) 7 _) = _; rw [h7]; rfl)
    · skip
      refine g_aload_n (i := 0) hX dX5_reopen_82 rfl rfl rfl ?_
      refine g_getR hX fl_X5_28 rfl rfl dX5_reopen_83 rfl ?_
      refine g_iconst hX dX5_reopen_86 ic_0 rfl ?_
      refine g_putZ hX fp_X5_93 rfl rfl (by first | exact Or.inl rfl | exact Or.inr rfl | assumption) dX5_reopen_87 rfl ?_
      refine g_aload_n (i := 0) hX dX5_reopen_90 rfl rfl rfl ?_
      refine g_getR hX fl_X5_21 rfl rfl dX5_reopen_91 rfl ?_
      refine g_dup hX dX5_reopen_94 rfl rfl ?_
      refine g_getIv (x := nI e) hX fl_X5_167 rfl rfl (he') dX5_reopen_95 rfl ?_
      refine g_iconst hX dX5_reopen_98 ic_1 rfl ?_
      refine g_isubN hX dX5_reopen_99 (by omega) rfl ?_
      refine g_putI hX fp_X5_167 rfl rfl dX5_reopen_100 rfl ?_
      refine g_vret hX hR dX5_reopen_103 ?_
      first
      | (subst zc79; rfl)
      | (subst zc79; rw [h14]; show gset (gset _ 14 _) 7 (upd (m_taken M c p nk 7) 7 _) = _; rw [h7]; rfl)
  have hq : ∀ q, bestTo nk (behB (M 18) (upd (M 21) c 1) (M 23) (nI p) (M 9 p)) (turnB (M 24)) = some q → q < 2 ^ 31 := fun q h => by have := (bestTo_lt h).1; omega
  refine g_aload_n (i := 0) hX dX5_reopen_0 rfl rfl rfl ?_
  refine g_getR hX fl_X5_35 rfl rfl dX5_reopen_1 rfl ?_
  refine g_iload_n (i := 1) hX dX5_reopen_4 rfl rfl rfl ?_
  refine g_callVi hX (c_X1_gaveValue E _ c (by omega)) kf_X1_gaveValue rfl wk_X5_150 rfl rfl rfl rfl rfl dX5_reopen_5 rfl (fun x5 M5 h5 => ?_)
  obtain ⟨rfl, hm⟩ := h5; have hm := hm.symm; subst hm
  refine g_istore_n (i := 2) hX dX5_reopen_8 rfl (Nat.le_of_ble_eq_true rfl) rfl ?_
  refine g_aload_n (i := 0) hX dX5_reopen_9 rfl rfl rfl ?_
  refine g_getR hX fl_X5_35 rfl rfl dX5_reopen_10 rfl ?_
  refine g_getR hX fl_X5_153 rfl rfl dX5_reopen_13 rfl ?_
  refine g_iload_n (i := 1) hX dX5_reopen_16 rfl rfl rfl ?_
  refine g_ialdv (x := nI p) hX rfl (rfl) (by omega) rfl (hp) dX5_reopen_17 rfl ?_
  refine g_istore_n (i := 3) hX dX5_reopen_18 rfl (Nat.le_of_ble_eq_true rfl) rfl ?_
  refine g_aload_n (i := 0) hX dX5_reopen_19 rfl rfl rfl ?_
  refine g_getR hX fl_X5_35 rfl rfl dX5_reopen_20 rfl ?_
  refine g_getR hX fl_X5_187 rfl rfl dX5_reopen_23 rfl ?_
  refine g_iload_n (i := 1) hX dX5_reopen_26 rfl rfl rfl ?_
  refine g_iconst hX dX5_reopen_27 ic_1 rfl ?_
  refine g_iast hX rfl (rfl) (by omega) rfl dX5_reopen_28 rfl ?_
  refine g_iload_n (i := 2) hX dX5_reopen_29 rfl rfl rfl ?_
  first | refine g_if_eqB (tgt := 72) hX dX5_reopen_30 (by decide) rfl (fun zc30 => ?_) (fun zc30 => ?_) | refine g_if_eq (tgt := 72) hX dX5_reopen_30 (by decide) rfl (fun zc30 => ?_) (fun zc30 => ?_)
  · skip
    have zd30 : gaveB (M 21 c) = false := zc30
    first
    | exact gGM (by simp only [m_taken, takB, zd30]; rfl) (tail _ _)
    | exact gGM (by simp only [m_taken, zd51]; rfl) (tail _ _)
  · skip
    have zd30 : gaveB (M 21 c) = true := zc30
    refine g_aload_n (i := 0) hX dX5_reopen_33 rfl rfl rfl ?_
    refine g_getR hX fl_X5_35 rfl rfl dX5_reopen_34 rfl ?_
    refine g_iload_n (i := 3) hX dX5_reopen_37 rfl rfl rfl ?_
    refine g_aload_n (i := 0) hX dX5_reopen_38 rfl rfl rfl ?_
    refine g_getR hX fl_X5_21 rfl rfl dX5_reopen_39 rfl ?_
    refine g_getR hX fl_X5_115 rfl rfl dX5_reopen_42 rfl ?_
    refine g_iload_n (i := 3) hX dX5_reopen_45 rfl rfl rfl ?_
    refine g_ialdv (x := M 9 p) hX rfl (rfl) (by omega) rfl (rfl) dX5_reopen_46 rfl ?_
    refine g_callVi hX (c_X1_firstBehind E _ nk (nI p) (M 9 p) hk hbk) kf_X1_firstBehind rfl wk_X5_184 rfl rfl rfl rfl rfl dX5_reopen_47 rfl (fun x47 M47 h47 => ?_)
    obtain ⟨rfl, hm⟩ := h47; have hm := hm.symm; subst hm
    refine g_iconst hX dX5_reopen_50 ic_m1 rfl ?_
    refine g_icmp_ne (tgt := 72) hX dX5_reopen_51 (by decide) rfl (fun zc51 => ?_) (fun zc51 => ?_)
    · skip
      have zd51 : takB M c p nk = false := by
        have h : ¬ bestTo nk (behB (M 18) (upd (M 21) c 1) (M 23) (nI p) (M 9 p)) (turnB (M 24)) = none := fun q => zc51 ((optI_m1 hq).mpr q)
        simp only [takB, zd30]
        cases hz : bestTo nk (behB (M 18) (upd (M 21) c 1) (M 23) (nI p) (M 9 p)) (turnB (M 24)) with
        | none => exact absurd hz h
        | some q => rfl
      first
      | exact gGM (by simp only [m_taken, takB, zd30]; rfl) (tail _ _)
      | exact gGM (by simp only [m_taken, zd51]; rfl) (tail _ _)
    · skip
      have zd51 : takB M c p nk = true := by
        have h : bestTo nk (behB (M 18) (upd (M 21) c 1) (M 23) (nI p) (M 9 p)) (turnB (M 24)) = none := (optI_m1 hq).mp zc51
        simp only [takB, zd30, h]; rfl
      refine g_aload_n (i := 0) hX dX5_reopen_54 rfl rfl rfl ?_
      refine g_getR hX fl_X5_21 rfl rfl dX5_reopen_55 rfl ?_
      refine g_getR hX fl_X5_115 rfl rfl dX5_reopen_58 rfl ?_
      refine g_iload_n (i := 3) hX dX5_reopen_61 rfl rfl rfl ?_
      refine g_aload_n (i := 0) hX dX5_reopen_62 rfl rfl rfl ?_
      refine g_getR hX fl_X5_21 rfl rfl dX5_reopen_63 rfl ?_
      refine g_getR hX fl_X5_118 rfl rfl dX5_reopen_66 rfl ?_
      refine g_iload_n (i := 3) hX dX5_reopen_69 rfl rfl rfl ?_
      refine g_ialdv (x := M 10 p) hX rfl (rfl) (by omega) rfl (rfl) dX5_reopen_70 rfl ?_
      refine g_iast hX rfl (rfl) (by omega) rfl dX5_reopen_71 rfl ?_
      first
      | exact gGM (by simp only [m_taken, takB, zd30]; rfl) (tail _ _)
      | exact gGM (by simp only [m_taken, zd51]; rfl) (tail _ _)

