/-! the reference: what is kept, rows by steps -/
theorem blk_upd {base n j : Nat} {g r : Nat → Int32} {v : Int32} (hj : j < n) : upd (blkTo base n g r) (base + j) v = blkTo base n (upd g j v) r := by
  funext i; simp only [upd, blkTo]
  by_cases h : i = base + j
  · subst h
    rw [if_pos rfl, if_pos (by omega), if_pos (by omega)]
  · rw [if_neg h]
    by_cases h2 : base ≤ i ∧ i < base + n
    · rw [if_pos h2, if_pos h2, if_neg (by omega)]
    · rw [if_neg h2, if_neg h2]
theorem blk_in {base n j : Nat} {g r : Nat → Int32} (hj : j < n) : blkTo base n g r (base + j) = g j := by
  simp only [blkTo]; rw [if_pos (by omega)]; congr 1; omega
theorem blk_out {base n i : Nat} {g r : Nat → Int32} (h : i < base ∨ base + n ≤ i) : blkTo base n g r i = r i := by
  simp only [blkTo]; rw [if_neg (by omega)]
/-- a column of the members, of the clauses, of the comments -/
def st5 (o n : Nat) (g r : Nat → Int32) : Nat → Int32 := fun j => if 23 ≤ j ∧ j < 23 + 5 * n ∧ (j - 23) % 5 = o then g ((j - 23) / 5) else r j
def st45 (o n : Nat) (g r : Nat → Int32) : Nat → Int32 := fun j => if 73 ≤ j ∧ j < 73 + 45 * n ∧ (j - 73) % 45 = o then g ((j - 73) / 45) else r j
def st8 (o n : Nat) (g r : Nat → Int32) : Nat → Int32 := fun j => if 973 ≤ j ∧ j < 973 + 8 * n ∧ (j - 973) % 8 = o then g ((j - 973) / 8) else r j
theorem st5_0 (o : Nat) (g r : Nat → Int32) : st5 o 0 g r = r := by funext j; simp only [st5]; rw [if_neg (by omega)]
theorem st45_0 (o : Nat) (g r : Nat → Int32) : st45 o 0 g r = r := by funext j; simp only [st45]; rw [if_neg (by omega)]
theorem st8_0 (o : Nat) (g r : Nat → Int32) : st8 o 0 g r = r := by funext j; simp only [st8]; rw [if_neg (by omega)]
theorem st5_s {o k : Nat} (ho : o < 5) (g r : Nat → Int32) : upd (st5 o k g r) (23 + 5 * k + o) (g k) = st5 o (k + 1) g r := by
  funext j; simp only [upd, st5]
  by_cases h : j = 23 + 5 * k + o
  · subst h
    rw [if_pos rfl, if_pos (by omega), show (23 + 5 * k + o - 23) / 5 = k by omega]
  · rw [if_neg h]
    by_cases h2 : 23 ≤ j ∧ j < 23 + 5 * k ∧ (j - 23) % 5 = o
    · rw [if_pos h2, if_pos (by omega)]
    · rw [if_neg h2, if_neg (by omega)]
theorem st45_s {o k : Nat} (ho : o < 45) (g r : Nat → Int32) : upd (st45 o k g r) (73 + 45 * k + o) (g k) = st45 o (k + 1) g r := by
  funext j; simp only [upd, st45]
  by_cases h : j = 73 + 45 * k + o
  · subst h
    rw [if_pos rfl, if_pos (by omega), show (73 + 45 * k + o - 73) / 45 = k by omega]
  · rw [if_neg h]
    by_cases h2 : 73 ≤ j ∧ j < 73 + 45 * k ∧ (j - 73) % 45 = o
    · rw [if_pos h2, if_pos (by omega)]
    · rw [if_neg h2, if_neg (by omega)]
theorem st8_s {o k : Nat} (ho : o < 8) (g r : Nat → Int32) : upd (st8 o k g r) (973 + 8 * k + o) (g k) = st8 o (k + 1) g r := by
  funext j; simp only [upd, st8]
  by_cases h : j = 973 + 8 * k + o
  · subst h
    rw [if_pos rfl, if_pos (by omega), show (973 + 8 * k + o - 973) / 8 = k by omega]
  · rw [if_neg h]
    by_cases h2 : 973 ≤ j ∧ j < 973 + 8 * k ∧ (j - 973) % 8 = o
    · rw [if_pos h2, if_pos (by omega)]
    · rw [if_neg h2, if_neg (by omega)]
theorem st5_in {o n m : Nat} {g r : Nat → Int32} (ho : o < 5) (hm : m < n) : st5 o n g r (23 + 5 * m + o) = g m := by
  simp only [st5]; rw [if_pos (by omega), show (23 + 5 * m + o - 23) / 5 = m by omega]
theorem st5_ne {o p n m : Nat} {g r : Nat → Int32} (hp : p < 5) (h : p ≠ o) : st5 o n g r (23 + 5 * m + p) = r (23 + 5 * m + p) := by
  simp only [st5]; rw [if_neg (by omega)]
theorem st5_out {o n j : Nat} {g r : Nat → Int32} (h : j < 23 ∨ 23 + 5 * n ≤ j) : st5 o n g r j = r j := by
  simp only [st5]; rw [if_neg (by omega)]
theorem st45_in {o n m : Nat} {g r : Nat → Int32} (ho : o < 45) (hm : m < n) : st45 o n g r (73 + 45 * m + o) = g m := by
  simp only [st45]; rw [if_pos (by omega), show (73 + 45 * m + o - 73) / 45 = m by omega]
theorem st45_ne {o p n m : Nat} {g r : Nat → Int32} (hp : p < 45) (h : p ≠ o) : st45 o n g r (73 + 45 * m + p) = r (73 + 45 * m + p) := by
  simp only [st45]; rw [if_neg (by omega)]
theorem st45_out {o n j : Nat} {g r : Nat → Int32} (h : j < 73 ∨ 73 + 45 * n ≤ j) : st45 o n g r j = r j := by
  simp only [st45]; rw [if_neg (by omega)]
theorem st8_in {o n m : Nat} {g r : Nat → Int32} (ho : o < 8) (hm : m < n) : st8 o n g r (973 + 8 * m + o) = g m := by
  simp only [st8]; rw [if_pos (by omega), show (973 + 8 * m + o - 973) / 8 = m by omega]
theorem st8_ne {o p n m : Nat} {g r : Nat → Int32} (hp : p < 8) (h : p ≠ o) : st8 o n g r (973 + 8 * m + p) = r (973 + 8 * m + p) := by
  simp only [st8]; rw [if_neg (by omega)]
theorem st8_out {o n j : Nat} {g r : Nat → Int32} (h : j < 973 ∨ 973 + 8 * n ≤ j) : st8 o n g r j = r j := by
  simp only [st8]; rw [if_neg (by omega)]
/-- the rows kept, behind one more -/
def pstN (P N : Nat → Int32) (sv : Nat) : Nat → Int32 := if sv = 4 then blkTo 3639 1213 N (mapTo 3639 (fun k => P (k + 1213)) P) else blkTo (1213 * sv) 1213 N P
def svN (sv : Nat) : Nat := if sv = 4 then 4 else sv + 1
def m_rec (M : gM) (sv : Nat) : gM := gset (gset M 132 (pstN (M 132) (M 131) sv)) 130 (upd (M 130) 2 (nI (svN sv)))
theorem c_X8_records (E : gE) (M : gM) (sv : Nat) (hs : M 130 2 = nI sv) (hb : sv ≤ 4) : gMet E k_X8_records [.ref 130] M (gVoid fun M' => M' = m_rec M sv) := by
  refine gMet.of (by decide +kernel) rfl (Nat.le_of_ble_eq_true rfl) (fun X hX hR => ?_)
  have tail : ∀ (P : Nat → Int32) (r : Nat → Int32) (s : Nat) b, s < 4 → gG X E (gset (gset M 132 P) 130 (upd (M 130) 2 (nI s))) 49 [some (.ref 130), b] [] (gQ X E (gVoid fun M' => M' = gset (gset M 132 (blkTo (1213 * s) 1213 (M 131) P)) 130 (upd (M 130) 2 (nI (s + 1))))) := by
    intro P r s b hs4
    have loop := up_loop 1213 (fun k => gG X E (gset (gset M 132 (blkTo (1213 * s) k (M 131) P)) 130 (upd (M 130) 2 (nI s))) 51 [some (.ref 130), some (.int (nI k))] [] (gQ X E (gVoid fun M' => M' = gset (gset M 132 (blkTo (1213 * s) 1213 (M 131) P)) 130 (upd (M 130) 2 (nI (s + 1)))))) ?_ ?_
    · skip
      refine g_iconst hX dX8_records_49 ic_0 rfl ?_
      refine g_istore_n (i := 1) hX dX8_records_50 rfl (Nat.le_of_ble_eq_true rfl) rfl ?_
      exact gGM (by rw [blkTo_0]) (loop 0 (Nat.zero_le _))
    · skip
      refine g_iload_n (i := 1) hX dX8_records_51 rfl rfl rfl ?_
      refine g_sipush hX dX8_records_52 sc_1213 rfl ?_
      first | refine g_icmp_geN (tgt := 85) hX dX8_records_55 (by decide) rfl (by omega) (by omega) (fun zc55 => ?_) (fun zc55 => absurd zc55 (by omega)) | refine g_icmp_ge (tgt := 85) hX dX8_records_55 (by decide) rfl (fun zc55 => ?_) (fun zc55 => absurd zc55 (by omega))
      refine g_aload_n (i := 0) hX dX8_records_85 rfl rfl rfl ?_
      refine g_dup hX dX8_records_86 rfl rfl ?_
      refine g_getIv (x := nI s) hX fl_X8_19 rfl rfl (rfl) dX8_records_87 rfl ?_
      refine g_iconst hX dX8_records_90 ic_1 rfl ?_
      first | refine g_iaddN hX dX8_records_91 rfl ?_ | refine g_iadd hX dX8_records_91 rfl ?_
      refine g_putI hX fp_X8_19 rfl rfl dX8_records_92 rfl ?_
      refine g_vret hX hR dX8_records_95 ?_
      funext b
      by_cases h : b = 130
      · subst h
        show upd (upd (M 130) 2 (nI s)) 2 (nI (s + 1)) = upd (M 130) 2 (nI (s + 1))
        funext j; simp only [upd]; split <;> rfl
      · simp only [gset, if_neg h]
    · intro k hk ih
      have hs := blkTo_succ (1213 * s) k (M 131) P
      refine g_iload_n (i := 1) hX dX8_records_51 rfl rfl rfl ?_
      refine g_sipush hX dX8_records_52 sc_1213 rfl ?_
      first | refine g_icmp_geN (tgt := 85) hX dX8_records_55 (by decide) rfl (by omega) (by omega) (fun zc55 => absurd zc55 (by omega)) (fun zc55 => ?_) | refine g_icmp_ge (tgt := 85) hX dX8_records_55 (by decide) rfl (fun zc55 => absurd zc55 (by omega)) (fun zc55 => ?_)
      refine g_aload_n (i := 0) hX dX8_records_58 rfl rfl rfl ?_
      refine g_getR hX fl_X8_13 rfl rfl dX8_records_59 rfl ?_
      refine g_sipush hX dX8_records_62 sc_1213 rfl ?_
      refine g_aload_n (i := 0) hX dX8_records_65 rfl rfl rfl ?_
      refine g_getIv (x := nI s) hX fl_X8_19 rfl rfl (rfl) dX8_records_66 rfl ?_
      first | refine g_imulN hX dX8_records_69 rfl ?_ | refine g_imul hX dX8_records_69 rfl ?_
      refine g_iload_n (i := 1) hX dX8_records_70 rfl rfl rfl ?_
      first | refine g_iaddN hX dX8_records_71 rfl ?_ | refine g_iadd hX dX8_records_71 rfl ?_
      refine g_aload_n (i := 0) hX dX8_records_72 rfl rfl rfl ?_
      refine g_getR hX fl_X8_7 rfl rfl dX8_records_73 rfl ?_
      refine g_iload_n (i := 1) hX dX8_records_76 rfl rfl rfl ?_
      refine g_ialdv (x := M 131 k) hX rfl (rfl) (by omega) rfl (rfl) dX8_records_77 rfl ?_
      refine g_iast hX rfl (rfl) (by omega) rfl dX8_records_78 rfl ?_
      first | refine g_iincN hX dX8_records_79 ic_1 rfl (Nat.le_of_ble_eq_true rfl) rfl ?_ | refine g_iinc hX dX8_records_79 ic_1 rfl rfl (Nat.le_of_ble_eq_true rfl) rfl ?_
      refine g_goto (n := 51) hX dX8_records_82 (by decide) ?_
      refine gGM ?_ ih
      funext b
      by_cases h : b = 132
      · subst h; exact hs
      · by_cases h1 : b = 130
        · subst h1; rfl
        · simp only [gset, if_neg h, if_neg h1]
  by_cases h4 : sv = 4
  · subst h4
    have e : m_rec M 4 = gset (gset M 132 (blkTo (1213 * 3) 1213 (M 131) (mapTo 3639 (fun k => M 132 (k + 1213)) (M 132)))) 130 (upd (M 130) 2 (nI (3 + 1))) := rfl
    rw [e]
    have loop := up_loop 3639 (fun k => gG X E (gset M 132 (mapTo k (fun k => M 132 (k + 1213)) (M 132))) 10 [some (.ref 130), some (.int (nI k))] [] (gQ X E (gVoid fun M' => M' = gset (gset M 132 (blkTo (1213 * 3) 1213 (M 131) (mapTo 3639 (fun k => M 132 (k + 1213)) (M 132)))) 130 (upd (M 130) 2 (nI (3 + 1)))))) ?_ ?_
    · skip
      refine g_aload_n (i := 0) hX dX8_records_0 rfl rfl rfl ?_
      refine g_getIv (x := nI 4) hX fl_X8_19 rfl rfl (hs) dX8_records_1 rfl ?_
      refine g_iconst hX dX8_records_4 ic_4 rfl ?_
      first | refine g_icmp_neN (tgt := 49) hX dX8_records_5 (by decide) rfl (by omega) (by omega) (fun zc5 => absurd zc5 (by omega)) (fun zc5 => ?_) | refine g_icmp_ne (tgt := 49) hX dX8_records_5 (by decide) rfl (fun zc5 => absurd zc5 (by omega)) (fun zc5 => ?_)
      refine g_iconst hX dX8_records_8 ic_0 rfl ?_
      refine g_istore_n (i := 1) hX dX8_records_9 rfl (Nat.le_of_ble_eq_true rfl) rfl ?_
      exact gGM (by rw [mapTo_0, gset_self]) (loop 0 (Nat.zero_le _))
    · skip
      refine g_iload_n (i := 1) hX dX8_records_10 rfl rfl rfl ?_
      refine g_sipush hX dX8_records_11 sc_3639 rfl ?_
      first | refine g_icmp_geN (tgt := 39) hX dX8_records_14 (by decide) rfl (by omega) (by omega) (fun zc14 => ?_) (fun zc14 => absurd zc14 (by omega)) | refine g_icmp_ge (tgt := 39) hX dX8_records_14 (by decide) rfl (fun zc14 => ?_) (fun zc14 => absurd zc14 (by omega))
      refine g_aload_n (i := 0) hX dX8_records_39 rfl rfl rfl ?_
      refine g_dup hX dX8_records_40 rfl rfl ?_
      refine g_getIv (x := nI 4) hX fl_X8_19 rfl rfl (hs) dX8_records_41 rfl ?_
      refine g_iconst hX dX8_records_44 ic_1 rfl ?_
      refine g_isubN hX dX8_records_45 (by omega) rfl ?_
      refine g_putI hX fp_X8_19 rfl rfl dX8_records_46 rfl ?_
      exact tail _ (M 132) 3 _ (by decide)
    · intro k hk ih
      have hs2 := mapTo_succ k (fun k => M 132 (k + 1213)) (M 132)
      refine g_iload_n (i := 1) hX dX8_records_10 rfl rfl rfl ?_
      refine g_sipush hX dX8_records_11 sc_3639 rfl ?_
      first | refine g_icmp_geN (tgt := 39) hX dX8_records_14 (by decide) rfl (by omega) (by omega) (fun zc14 => absurd zc14 (by omega)) (fun zc14 => ?_) | refine g_icmp_ge (tgt := 39) hX dX8_records_14 (by decide) rfl (fun zc14 => absurd zc14 (by omega)) (fun zc14 => ?_)
      refine g_aload_n (i := 0) hX dX8_records_17 rfl rfl rfl ?_
      refine g_getR hX fl_X8_13 rfl rfl dX8_records_18 rfl ?_
      refine g_iload_n (i := 1) hX dX8_records_21 rfl rfl rfl ?_
      refine g_aload_n (i := 0) hX dX8_records_22 rfl rfl rfl ?_
      refine g_getR hX fl_X8_13 rfl rfl dX8_records_23 rfl ?_
      refine g_iload_n (i := 1) hX dX8_records_26 rfl rfl rfl ?_
      refine g_sipush hX dX8_records_27 sc_1213 rfl ?_
      first | refine g_iaddN hX dX8_records_30 rfl ?_ | refine g_iadd hX dX8_records_30 rfl ?_
      refine g_ialdv (x := M 132 (k + 1213)) hX rfl (rfl) (by omega) rfl ((by simp only [gset_eq, mapTo]; rw [if_neg (by omega)])) dX8_records_31 rfl ?_
      refine g_iast hX rfl (rfl) (by omega) rfl dX8_records_32 rfl ?_
      first | refine g_iincN hX dX8_records_33 ic_1 rfl (Nat.le_of_ble_eq_true rfl) rfl ?_ | refine g_iinc hX dX8_records_33 ic_1 rfl rfl (Nat.le_of_ble_eq_true rfl) rfl ?_
      refine g_goto (n := 10) hX dX8_records_36 (by decide) ?_
      exact gGM (by rw [gset_gset]; exact congrArg (gset M 132) hs2) ih
  · have e : m_rec M sv = gset (gset M 132 (blkTo (1213 * sv) 1213 (M 131) (M 132))) 130 (upd (M 130) 2 (nI (sv + 1))) := by simp only [m_rec, pstN, svN, if_neg h4]
    rw [e]
    refine g_aload_n (i := 0) hX dX8_records_0 rfl rfl rfl ?_
    refine g_getIv (x := nI sv) hX fl_X8_19 rfl rfl (hs) dX8_records_1 rfl ?_
    refine g_iconst hX dX8_records_4 ic_4 rfl ?_
    first | refine g_icmp_neN (tgt := 49) hX dX8_records_5 (by decide) rfl (by omega) (by omega) (fun zc5 => ?_) (fun zc5 => absurd zc5 (by omega)) | refine g_icmp_ne (tgt := 49) hX dX8_records_5 (by decide) rfl (fun zc5 => ?_) (fun zc5 => absurd zc5 (by omega))
    refine gGM ?_ (tail (M 132) (M 132) sv _ (by omega))
    rw [gset_self]
    funext b
    by_cases h : b = 130
    · subst h
      rw [gset_eq]
      exact (upd_same hs).symm
    · simp only [gset, if_neg h]
theorem rec_ne {M : gM} {sv a : Nat} (h : a ≠ 132 ∧ a ≠ 130) : m_rec M sv a = M a := by
  simp only [m_rec]; rw [gset_ne _ _ h.2, gset_ne _ _ h.1]
def m_und (M : gM) (sv : Nat) : gM := gset (gset M 130 (upd (M 130) 2 (nI (sv - 1)))) 131 (fun k => M 132 (1213 * (sv - 1) + k))
theorem c_X8_undo (E : gE) (M : gM) (sv : Nat) (hs : M 130 2 = nI sv) (hb : sv ≤ 4) : gMet E k_X8_undo [.ref 130] M (gInt fun r M' => (r, M') = if sv = 0 then (-2, M) else (nI (sv - 1), m_und M sv)) := by
  refine gMet.of (by decide +kernel) rfl (Nat.le_of_ble_eq_true rfl) (fun X hX hR => ?_)
  by_cases h0 : sv = 0
  · subst h0
    refine g_aload_n (i := 0) hX dX8_undo_0 rfl rfl rfl ?_
    refine g_getIv (x := nI 0) hX fl_X8_19 rfl rfl (hs) dX8_undo_1 rfl ?_
    refine g_if_ne (tgt := 10) hX dX8_undo_4 (by decide) rfl (fun zc4 => absurd zc4 (by decide)) (fun zc4 => ?_)
    refine g_bipush hX dX8_undo_7 bc_m2 rfl ?_
    refine g_iret hX hR dX8_undo_9 ?_
    rfl
  · rw [if_neg h0]
    have loop := up_loop 1213 (fun k => gG X E (gset (gset M 130 (upd (M 130) 2 (nI (sv - 1)))) 131 (mapTo k (fun k => M 132 (1213 * (sv - 1) + k)) (M 131))) 22 [some (.ref 130), some (.int (nI k))] [] (gQ X E (gInt fun r M' => (r, M') = (nI (sv - 1), m_und M sv)))) ?_ ?_
    · skip
      refine g_aload_n (i := 0) hX dX8_undo_0 rfl rfl rfl ?_
      refine g_getIv (x := nI sv) hX fl_X8_19 rfl rfl (hs) dX8_undo_1 rfl ?_
      refine g_if_ne (tgt := 10) hX dX8_undo_4 (by decide) rfl (fun zc4 => ?_) (fun zc4 => absurd zc4 (nI_ne0 (by omega) (by omega)))
      refine g_aload_n (i := 0) hX dX8_undo_10 rfl rfl rfl ?_
      refine g_dup hX dX8_undo_11 rfl rfl ?_
      refine g_getIv (x := nI sv) hX fl_X8_19 rfl rfl (hs) dX8_undo_12 rfl ?_
      refine g_iconst hX dX8_undo_15 ic_1 rfl ?_
      refine g_isubN hX dX8_undo_16 (by omega) rfl ?_
      refine g_putI hX fp_X8_19 rfl rfl dX8_undo_17 rfl ?_
      refine g_iconst hX dX8_undo_20 ic_0 rfl ?_
      refine g_istore_n (i := 1) hX dX8_undo_21 rfl (Nat.le_of_ble_eq_true rfl) rfl ?_
      refine gGM ?_ (loop 0 (Nat.zero_le _))
      rw [mapTo_0]
      exact (gset_self _ 131).symm
    · skip
      refine g_iload_n (i := 1) hX dX8_undo_22 rfl rfl rfl ?_
      refine g_sipush hX dX8_undo_23 sc_1213 rfl ?_
      first | refine g_icmp_geN (tgt := 56) hX dX8_undo_26 (by decide) rfl (by omega) (by omega) (fun zc26 => ?_) (fun zc26 => absurd zc26 (by omega)) | refine g_icmp_ge (tgt := 56) hX dX8_undo_26 (by decide) rfl (fun zc26 => ?_) (fun zc26 => absurd zc26 (by omega))
      refine gG_row (sh := _) (r' := fun k => M 132 (1213 * (sv - 1) + k)) rfl (gEq.arr (fun j hj => by simp only [mapTo]; rw [if_pos hj])) ?_
      refine g_aload_n (i := 0) hX dX8_undo_56 rfl rfl rfl ?_
      refine g_getIv (x := nI (sv - 1)) hX fl_X8_19 rfl rfl (rfl) dX8_undo_57 rfl ?_
      refine g_iret hX hR dX8_undo_60 ?_
      rfl
    · intro k hk ih
      have hs2 := mapTo_succ k (fun k => M 132 (1213 * (sv - 1) + k)) (M 131)
      refine g_iload_n (i := 1) hX dX8_undo_22 rfl rfl rfl ?_
      refine g_sipush hX dX8_undo_23 sc_1213 rfl ?_
      first | refine g_icmp_geN (tgt := 56) hX dX8_undo_26 (by decide) rfl (by omega) (by omega) (fun zc26 => absurd zc26 (by omega)) (fun zc26 => ?_) | refine g_icmp_ge (tgt := 56) hX dX8_undo_26 (by decide) rfl (fun zc26 => absurd zc26 (by omega)) (fun zc26 => ?_)
      refine g_aload_n (i := 0) hX dX8_undo_29 rfl rfl rfl ?_
      refine g_getR hX fl_X8_7 rfl rfl dX8_undo_30 rfl ?_
      refine g_iload_n (i := 1) hX dX8_undo_33 rfl rfl rfl ?_
      refine g_aload_n (i := 0) hX dX8_undo_34 rfl rfl rfl ?_
      refine g_getR hX fl_X8_13 rfl rfl dX8_undo_35 rfl ?_
      refine g_sipush hX dX8_undo_38 sc_1213 rfl ?_
      refine g_aload_n (i := 0) hX dX8_undo_41 rfl rfl rfl ?_
      refine g_getIv (x := nI (sv - 1)) hX fl_X8_19 rfl rfl (rfl) dX8_undo_42 rfl ?_
      first | refine g_imulN hX dX8_undo_45 rfl ?_ | refine g_imul hX dX8_undo_45 rfl ?_
      refine g_iload_n (i := 1) hX dX8_undo_46 rfl rfl rfl ?_
      first | refine g_iaddN hX dX8_undo_47 rfl ?_ | refine g_iadd hX dX8_undo_47 rfl ?_
      refine g_ialdv (x := M 132 (1213 * (sv - 1) + k)) hX rfl (rfl) (by omega) rfl (rfl) dX8_undo_48 rfl ?_
      refine g_iast hX rfl (rfl) (by omega) rfl dX8_undo_49 rfl ?_
      first | refine g_iincN hX dX8_undo_50 ic_1 rfl (Nat.le_of_ble_eq_true rfl) rfl ?_ | refine g_iinc hX dX8_undo_50 ic_1 rfl rfl (Nat.le_of_ble_eq_true rfl) rfl ?_
      refine g_goto (n := 22) hX dX8_undo_53 (by decide) ?_
      exact gGM (by rw [gset_gset]; exact congrArg (gset _ 131) hs2) ih
def n_member (N : Nat → Int32) (n : Nat) (w : Int32) : Nat → Int32 := upd (upd (blkTo (23 + 5 * n) 5 (fun _ => 0) N) (23 + 5 * n + 0) w) 0 (nI (n + 1))
def y_addMember (M : gM) (nm sv : Nat) (w : Int32) : Int32 × gM := if inI w (nI 1) (nI 9) = false then (-1, M) else if nm = 10 then (-3, M) else (nI nm, gset (m_rec M sv) 131 (n_member (M 131) nm w))
theorem c_X8_addMember (E : gE) (M : gM) (nm sv : Nat) (w : Int32) (hm : M 131 0 = nI nm) (hmb : nm ≤ 10) (hs : M 130 2 = nI sv) (hb : sv ≤ 4) : gMet E k_X8_addMember [.ref 130, .int w] M (gInt fun r M' => (r, M') = y_addMember M nm sv w) := by
  refine gMet.of (by decide +kernel) rfl (Nat.le_of_ble_eq_true rfl) (fun X hX hR => ?_)
  have K : m_rec M sv 131 = M 131 := rec_ne (by decide)
  cases hi : inI w (nI 1) (nI 9) with
  | false =>
    have e : y_addMember M nm sv w = (-1, M) := by rw [y_addMember, if_pos hi]
    rw [e]
    refine g_iload_n (i := 1) hX dX8_addMember_0 rfl rfl rfl ?_
    refine g_iconst hX dX8_addMember_1 ic_1 rfl ?_
    refine g_bipush hX dX8_addMember_2 bc_9 rfl ?_
    refine g_callSi hX (c_X8_in E M _ _ _) kf_X8_in rfl wk_X8_23 rfl rfl rfl rfl dX8_addMember_4 rfl (fun x4 M4 h4 => ?_)
    obtain ⟨rfl, hMq⟩ := h4; have hMq := hMq.symm; subst hMq
    first | refine g_if_neB (tgt := 12) hX dX8_addMember_7 (by decide) rfl (fun zc7 => Bool.noConfusion (hi.symm.trans zc7)) (fun zc7 => ?_) | refine g_if_ne (tgt := 12) hX dX8_addMember_7 (by decide) rfl (fun zc7 => Bool.noConfusion (hi.symm.trans zc7)) (fun zc7 => ?_)
    refine g_iconst hX dX8_addMember_10 ic_m1 rfl ?_
    refine g_iret hX hR dX8_addMember_11 ?_
    rfl
  | true =>
    have loop := up_loop 5 (fun k => nm < 10 → gG X E (gset (m_rec M sv) 131 (blkTo (23 + 5 * nm) k (fun _ => 0) (M 131))) 42 [some (.ref 130), some (.int w), some (.int (nI (23 + 5 * nm))), some (.int (nI k))] [] (gQ X E (gInt fun r M' => (r, M') = y_addMember M nm sv w))) ?_ ?_
    · skip
      refine g_iload_n (i := 1) hX dX8_addMember_0 rfl rfl rfl ?_
      refine g_iconst hX dX8_addMember_1 ic_1 rfl ?_
      refine g_bipush hX dX8_addMember_2 bc_9 rfl ?_
      refine g_callSi hX (c_X8_in E M _ _ _) kf_X8_in rfl wk_X8_23 rfl rfl rfl rfl dX8_addMember_4 rfl (fun x4 M4 h4 => ?_)
      obtain ⟨rfl, hMq⟩ := h4; have hMq := hMq.symm; subst hMq
      first | refine g_if_neB (tgt := 12) hX dX8_addMember_7 (by decide) rfl (fun zc7 => ?_) (fun zc7 => Bool.noConfusion (hi.symm.trans zc7)) | refine g_if_ne (tgt := 12) hX dX8_addMember_7 (by decide) rfl (fun zc7 => ?_) (fun zc7 => Bool.noConfusion (hi.symm.trans zc7))
      refine g_aload_n (i := 0) hX dX8_addMember_12 rfl rfl rfl ?_
      refine g_getR hX fl_X8_7 rfl rfl dX8_addMember_13 rfl ?_
      refine g_iconst hX dX8_addMember_16 ic_0 rfl ?_
      refine g_ialdv (x := nI nm) hX rfl (rfl) (by omega) rfl (hm) dX8_addMember_17 rfl ?_
      refine g_bipush hX dX8_addMember_18 bc_10 rfl ?_
      first | refine g_icmp_neN (tgt := 26) hX dX8_addMember_20 (by decide) rfl (by omega) (by omega) (fun zc20 => ?_) (fun zc20 => ?_) | refine g_icmp_ne (tgt := 26) hX dX8_addMember_20 (by decide) rfl (fun zc20 => ?_) (fun zc20 => ?_)
      · skip
        refine g_aload_n (i := 0) hX dX8_addMember_26 rfl rfl rfl ?_
        refine g_callVv hX (c_X8_records E M sv hs hb) kf_X8_records rfl wk_X8_31 rfl rfl rfl rfl rfl dX8_addMember_27 rfl (fun M27 h27 => ?_)
        subst h27
        refine g_aload_n (i := 0) hX dX8_addMember_30 rfl rfl rfl ?_
        refine g_getR hX fl_X8_7 rfl rfl dX8_addMember_31 rfl ?_
        refine g_iconst hX dX8_addMember_34 ic_0 rfl ?_
        refine g_ialdv (x := nI nm) hX rfl (rfl) (by omega) rfl (((congrFun K 0).trans hm)) dX8_addMember_35 rfl ?_
        refine g_callSi hX (c_X8_memberAt E _ nm) kf_X8_memberAt rfl wk_X8_27 rfl rfl rfl rfl dX8_addMember_36 rfl (fun x36 M36 h36 => ?_)
        obtain ⟨rfl, hMq⟩ := h36; have hMq := hMq.symm; subst hMq
        refine g_istore_n (i := 2) hX dX8_addMember_39 rfl (Nat.le_of_ble_eq_true rfl) rfl ?_
        refine g_iconst hX dX8_addMember_40 ic_0 rfl ?_
        refine g_istore_n (i := 3) hX dX8_addMember_41 rfl (Nat.le_of_ble_eq_true rfl) rfl ?_
        exact gGM (by rw [blkTo_0, ← K, gset_self]) (loop 0 (Nat.zero_le _) (by omega))
      · skip
        refine g_bipush hX dX8_addMember_23 bc_m3 rfl ?_
        refine g_iret hX hR dX8_addMember_25 ?_
        rw [y_addMember, if_neg (by rw [hi]; decide), if_pos zc20]
    · intro hlt
      refine g_iload_n (i := 3) hX dX8_addMember_42 rfl rfl rfl ?_
      refine g_iconst hX dX8_addMember_43 ic_5 rfl ?_
      first | refine g_icmp_geN (tgt := 62) hX dX8_addMember_44 (by decide) rfl (by omega) (by omega) (fun zc44 => ?_) (fun zc44 => absurd zc44 (by omega)) | refine g_icmp_ge (tgt := 62) hX dX8_addMember_44 (by decide) rfl (fun zc44 => ?_) (fun zc44 => absurd zc44 (by omega))
      refine g_aload_n (i := 0) hX dX8_addMember_62 rfl rfl rfl ?_
      refine g_getR hX fl_X8_7 rfl rfl dX8_addMember_63 rfl ?_
      refine g_iload_n (i := 2) hX dX8_addMember_66 rfl rfl rfl ?_
      refine g_iconst hX dX8_addMember_67 ic_0 rfl ?_
      first | refine g_iaddN hX dX8_addMember_68 rfl ?_ | refine g_iadd hX dX8_addMember_68 rfl ?_
      refine g_iload_n (i := 1) hX dX8_addMember_69 rfl rfl rfl ?_
      refine g_iast hX rfl (rfl) (by omega) rfl dX8_addMember_70 rfl ?_
      refine g_aload_n (i := 0) hX dX8_addMember_71 rfl rfl rfl ?_
      refine g_getR hX fl_X8_7 rfl rfl dX8_addMember_72 rfl ?_
      refine g_iconst hX dX8_addMember_75 ic_0 rfl ?_
      refine g_dup2 hX dX8_addMember_76 rfl rfl rfl ?_
      refine g_ialdv (x := nI nm) hX rfl (rfl) (by omega) rfl ((by simp only [gset_eq]; rw [upd_n _ _ (by omega), blk_out (Or.inl (by omega))]; exact hm)) dX8_addMember_77 rfl ?_
      refine g_iconst hX dX8_addMember_78 ic_1 rfl ?_
      first | refine g_iaddN hX dX8_addMember_79 rfl ?_ | refine g_iadd hX dX8_addMember_79 rfl ?_
      refine g_iast hX rfl (rfl) (by omega) rfl dX8_addMember_80 rfl ?_
      refine g_aload_n (i := 0) hX dX8_addMember_81 rfl rfl rfl ?_
      refine g_getR hX fl_X8_7 rfl rfl dX8_addMember_82 rfl ?_
      refine g_iconst hX dX8_addMember_85 ic_0 rfl ?_
      refine g_ialdv (x := nI (nm + 1)) hX rfl (rfl) (by omega) rfl ((by simp only [gset_eq]; exact upd_s _ _ _)) dX8_addMember_86 rfl ?_
      refine g_iconst hX dX8_addMember_87 ic_1 rfl ?_
      refine g_isubN hX dX8_addMember_88 (by omega) rfl ?_
      refine g_iret hX hR dX8_addMember_89 ?_
      rw [y_addMember, if_neg (by rw [hi]; decide), if_neg (by omega), gset_gset, gset_gset]; rfl
    · intro k hk ih hlt
      have hs2 := blkTo_succ (23 + 5 * nm) k (fun _ => 0) (M 131)
      refine g_iload_n (i := 3) hX dX8_addMember_42 rfl rfl rfl ?_
      refine g_iconst hX dX8_addMember_43 ic_5 rfl ?_
      first | refine g_icmp_geN (tgt := 62) hX dX8_addMember_44 (by decide) rfl (by omega) (by omega) (fun zc44 => absurd zc44 (by omega)) (fun zc44 => ?_) | refine g_icmp_ge (tgt := 62) hX dX8_addMember_44 (by decide) rfl (fun zc44 => absurd zc44 (by omega)) (fun zc44 => ?_)
      refine g_aload_n (i := 0) hX dX8_addMember_47 rfl rfl rfl ?_
      refine g_getR hX fl_X8_7 rfl rfl dX8_addMember_48 rfl ?_
      refine g_iload_n (i := 2) hX dX8_addMember_51 rfl rfl rfl ?_
      refine g_iload_n (i := 3) hX dX8_addMember_52 rfl rfl rfl ?_
      first | refine g_iaddN hX dX8_addMember_53 rfl ?_ | refine g_iadd hX dX8_addMember_53 rfl ?_
      refine g_iconst hX dX8_addMember_54 ic_0 rfl ?_
      refine g_iast hX rfl (rfl) (by omega) rfl dX8_addMember_55 rfl ?_
      first | refine g_iincN hX dX8_addMember_56 ic_1 rfl (Nat.le_of_ble_eq_true rfl) rfl ?_ | refine g_iinc hX dX8_addMember_56 ic_1 rfl rfl (Nat.le_of_ble_eq_true rfl) rfl ?_
      refine g_goto (n := 42) hX dX8_addMember_59 (by decide) ?_
      exact gGM (by rw [gset_gset]; exact congrArg (gset _ 131) hs2) (ih hlt)
/-- blocks of clauses moved on, behind p up to n -/
def shB (p n : Nat) (N : Nat → Int32) : Nat → Int32 := fun j => if 73 + 45 * (p + 1) ≤ j ∧ j < 73 + 45 * (n + 1) then N (j - 45) else N j
theorem shB_n (n : Nat) (N : Nat → Int32) : shB n n N = N := by funext j; simp only [shB]; rw [if_neg (by omega)]
theorem shB_lo {p n j : Nat} {N : Nat → Int32} (h : j < 73 + 45 * (p + 1)) : shB p n N j = N j := by simp only [shB]; rw [if_neg (by omega)]
theorem shB_step {p n : Nat} (N : Nat → Int32) (h : p + 1 ≤ n) : blkTo (73 + 45 * (p + 1)) 45 (fun i => N (73 + 45 * p + i)) (shB (p + 1) n N) = shB p n N := by
  funext j
  simp only [blkTo, shB]
  by_cases h1 : 73 + 45 * (p + 1) ≤ j ∧ j < 73 + 45 * (p + 1) + 45
  · rw [if_pos h1, if_pos (by omega)]; congr 1; omega
  · rw [if_neg h1]
    by_cases h2 : 73 + 45 * (p + 1 + 1) ≤ j ∧ j < 73 + 45 * (n + 1)
    · rw [if_pos h2, if_pos (by omega)]
    · rw [if_neg h2, if_neg (by omega)]
def n_insert (N : Nat → Int32) (p n : Nat) (c v : Int32) : Nat → Int32 := upd (upd (upd (upd (blkTo (73 + 45 * p) 45 (fun _ => 0) (shB p n N)) (73 + 45 * p + 0) c) (73 + 45 * p + 1) v) (73 + 45 * p + 3 + 1) v) 1 (nI (n + 1))
def y_addClause (M : gM) (nc sv : Nat) (c v : Int32) (r : Int32) (M' : gM) : Prop :=
  if inI c (nI 1) (nI 99) = false ∨ inI v (nI 0) (nI 9999) = false then r = -1 ∧ M' = M
  else if 0 < M 131 5 ∨ ¬ fndTo nc (fun k => decide (vNb (M 131) k = c)) = none then r = -2 ∧ M' = M
  else if nc = 20 then r = -3 ∧ M' = M
  else r = nI (nc + 1) ∧ ∃ p, insP (vNb (M 131)) p nc c ∧ M' = gset (m_rec M sv) 131 (n_insert (M 131) p nc c v)
theorem c_X8_addClause (E : gE) (M : gM) (nc sv : Nat) (c v : Int32) (hc : M 131 1 = nI nc) (hcb : nc ≤ 20) (hs : M 130 2 = nI sv) (hb : sv ≤ 4) : gMet E k_X8_addClause [.ref 130, .int c, .int v] M (gInt fun r M' => y_addClause M nc sv c v r M') := by
  refine gMet.of (by decide +kernel) rfl (Nat.le_of_ble_eq_true rfl) (fun X hX hR => ?_)
  have K : m_rec M sv 131 = M 131 := rec_ne (by decide)
  have hq : ∀ q, fndTo nc (fun k => decide (vNb (M 131) k = c)) = some q → q < 2 ^ 31 := fun q h => by have := (fndTo_some h).1; omega
  have tail : ∀ p b, nc < 20 → insP (vNb (M 131)) p nc c → (∀ M', M' = gset (m_rec M sv) 131 (n_insert (M 131) p nc c v) → y_addClause M nc sv c v (nI (nc + 1)) M') → gG X E (gset (m_rec M sv) 131 (shB p nc (M 131))) 133 [some (.ref 130), some (.int c), some (.int v), some (.int (nI p)), b] [] (gQ X E (gInt fun r M' => y_addClause M nc sv c v r M')) := by
    intro p b hlt hp hy
    have hp1 := hp.1
    have loop := up_loop 45 (fun k => gG X E (gset (m_rec M sv) 131 (blkTo (73 + 45 * p) k (fun _ => 0) (shB p nc (M 131)))) 136 [some (.ref 130), some (.int c), some (.int v), some (.int (nI p)), some (.int (nI k))] [] (gQ X E (gInt fun r M' => y_addClause M nc sv c v r M'))) ?_ ?_
    · skip
      refine g_iconst hX dX8_addClause_133 ic_0 rfl ?_
      refine g_istore hX dX8_addClause_134 (Nat.le_of_ble_eq_true rfl) rfl ?_
      exact gGM (by rw [blkTo_0]) (loop 0 (Nat.zero_le _))
    · skip
      refine g_iload hX dX8_addClause_136 rfl rfl ?_
      refine g_bipush hX dX8_addClause_138 bc_45 rfl ?_
      first | refine g_icmp_geN (tgt := 162) hX dX8_addClause_140 (by decide) rfl (by omega) (by omega) (fun zc140 => ?_) (fun zc140 => absurd zc140 (by omega)) | refine g_icmp_ge (tgt := 162) hX dX8_addClause_140 (by decide) rfl (fun zc140 => ?_) (fun zc140 => absurd zc140 (by omega))
      refine g_aload_n (i := 0) hX dX8_addClause_162 rfl rfl rfl ?_
      refine g_getR hX fl_X8_7 rfl rfl dX8_addClause_163 rfl ?_
      refine g_iload_n (i := 3) hX dX8_addClause_166 rfl rfl rfl ?_
      refine g_callSi hX (c_X8_clauseAt E _ p) kf_X8_clauseAt rfl wk_X8_34 rfl rfl rfl rfl dX8_addClause_167 rfl (fun x167 M167 h167 => ?_)
      obtain ⟨rfl, hMq⟩ := h167; have hMq := hMq.symm; subst hMq
      refine g_iconst hX dX8_addClause_170 ic_0 rfl ?_
      first | refine g_iaddN hX dX8_addClause_171 rfl ?_ | refine g_iadd hX dX8_addClause_171 rfl ?_
      refine g_iload_n (i := 1) hX dX8_addClause_172 rfl rfl rfl ?_
      refine g_iast hX rfl (rfl) (by omega) rfl dX8_addClause_173 rfl ?_
      refine g_aload_n (i := 0) hX dX8_addClause_174 rfl rfl rfl ?_
      refine g_getR hX fl_X8_7 rfl rfl dX8_addClause_175 rfl ?_
      refine g_iload_n (i := 3) hX dX8_addClause_178 rfl rfl rfl ?_
      refine g_callSi hX (c_X8_clauseAt E _ p) kf_X8_clauseAt rfl wk_X8_34 rfl rfl rfl rfl dX8_addClause_179 rfl (fun x179 M179 h179 => ?_)
      obtain ⟨rfl, hMq⟩ := h179; have hMq := hMq.symm; subst hMq
      refine g_iconst hX dX8_addClause_182 ic_1 rfl ?_
      first | refine g_iaddN hX dX8_addClause_183 rfl ?_ | refine g_iadd hX dX8_addClause_183 rfl ?_
      refine g_iload_n (i := 2) hX dX8_addClause_184 rfl rfl rfl ?_
      refine g_iast hX rfl (rfl) (by omega) rfl dX8_addClause_185 rfl ?_
      refine g_aload_n (i := 0) hX dX8_addClause_186 rfl rfl rfl ?_
      refine g_getR hX fl_X8_7 rfl rfl dX8_addClause_187 rfl ?_
      refine g_iload_n (i := 3) hX dX8_addClause_190 rfl rfl rfl ?_
      refine g_callSi hX (c_X8_clauseAt E _ p) kf_X8_clauseAt rfl wk_X8_34 rfl rfl rfl rfl dX8_addClause_191 rfl (fun x191 M191 h191 => ?_)
      obtain ⟨rfl, hMq⟩ := h191; have hMq := hMq.symm; subst hMq
      refine g_iconst hX dX8_addClause_194 ic_3 rfl ?_
      first | refine g_iaddN hX dX8_addClause_195 rfl ?_ | refine g_iadd hX dX8_addClause_195 rfl ?_
      refine g_iconst hX dX8_addClause_196 ic_1 rfl ?_
      first | refine g_iaddN hX dX8_addClause_197 rfl ?_ | refine g_iadd hX dX8_addClause_197 rfl ?_
      refine g_iload_n (i := 2) hX dX8_addClause_198 rfl rfl rfl ?_
      refine g_iast hX rfl (rfl) (by omega) rfl dX8_addClause_199 rfl ?_
      refine g_aload_n (i := 0) hX dX8_addClause_200 rfl rfl rfl ?_
      refine g_getR hX fl_X8_7 rfl rfl dX8_addClause_201 rfl ?_
      refine g_iconst hX dX8_addClause_204 ic_1 rfl ?_
      refine g_dup2 hX dX8_addClause_205 rfl rfl rfl ?_
      refine g_ialdv (x := nI nc) hX rfl (rfl) (by omega) rfl ((by simp only [gset_eq]; rw [upd_n _ _ (by omega), upd_n _ _ (by omega), upd_n _ _ (by omega), blk_out (Or.inl (by omega)), shB_lo (by omega)]; exact hc)) dX8_addClause_206 rfl ?_
      refine g_iconst hX dX8_addClause_207 ic_1 rfl ?_
      first | refine g_iaddN hX dX8_addClause_208 rfl ?_ | refine g_iadd hX dX8_addClause_208 rfl ?_
      refine g_iast hX rfl (rfl) (by omega) rfl dX8_addClause_209 rfl ?_
      refine g_aload_n (i := 0) hX dX8_addClause_210 rfl rfl rfl ?_
      refine g_getR hX fl_X8_7 rfl rfl dX8_addClause_211 rfl ?_
      refine g_iconst hX dX8_addClause_214 ic_1 rfl ?_
      refine g_ialdv (x := nI (nc + 1)) hX rfl (rfl) (by omega) rfl ((by simp only [gset_eq]; exact upd_s _ _ _)) dX8_addClause_215 rfl ?_
      refine g_iret hX hR dX8_addClause_216 ?_
      refine hy _ ?_
      rw [gset_gset, gset_gset, gset_gset, gset_gset]; rfl
    · intro k hk ih
      have hs2 := blkTo_succ (73 + 45 * p) k (fun _ => 0) (shB p nc (M 131))
      refine g_iload hX dX8_addClause_136 rfl rfl ?_
      refine g_bipush hX dX8_addClause_138 bc_45 rfl ?_
      first | refine g_icmp_geN (tgt := 162) hX dX8_addClause_140 (by decide) rfl (by omega) (by omega) (fun zc140 => absurd zc140 (by omega)) (fun zc140 => ?_) | refine g_icmp_ge (tgt := 162) hX dX8_addClause_140 (by decide) rfl (fun zc140 => absurd zc140 (by omega)) (fun zc140 => ?_)
      refine g_aload_n (i := 0) hX dX8_addClause_143 rfl rfl rfl ?_
      refine g_getR hX fl_X8_7 rfl rfl dX8_addClause_144 rfl ?_
      refine g_iload_n (i := 3) hX dX8_addClause_147 rfl rfl rfl ?_
      refine g_callSi hX (c_X8_clauseAt E _ p) kf_X8_clauseAt rfl wk_X8_34 rfl rfl rfl rfl dX8_addClause_148 rfl (fun x148 M148 h148 => ?_)
      obtain ⟨rfl, hMq⟩ := h148; have hMq := hMq.symm; subst hMq
      refine g_iload hX dX8_addClause_151 rfl rfl ?_
      first | refine g_iaddN hX dX8_addClause_153 rfl ?_ | refine g_iadd hX dX8_addClause_153 rfl ?_
      refine g_iconst hX dX8_addClause_154 ic_0 rfl ?_
      refine g_iast hX rfl (rfl) (by omega) rfl dX8_addClause_155 rfl ?_
      first | refine g_iincN hX dX8_addClause_156 ic_1 rfl (Nat.le_of_ble_eq_true rfl) rfl ?_ | refine g_iinc hX dX8_addClause_156 ic_1 rfl rfl (Nat.le_of_ble_eq_true rfl) rfl ?_
      refine g_goto (n := 136) hX dX8_addClause_159 (by decide) ?_
      exact gGM (by rw [gset_gset]; exact congrArg (gset _ 131) hs2) ih
  have loop : ∀ p b, p ≤ nc → nc < 20 → (∀ j, p ≤ j → j < nc → c < vNb (M 131) j) → (∀ p M', insP (vNb (M 131)) p nc c → M' = gset (m_rec M sv) 131 (n_insert (M 131) p nc c v) → y_addClause M nc sv c v (nI (nc + 1)) M') → gG X E (gset (m_rec M sv) 131 (shB p nc (M 131))) 64 [some (.ref 130), some (.int c), some (.int v), some (.int (nI p)), b] [] (gQ X E (gInt fun r M' => y_addClause M nc sv c v r M')) := by
    intro p
    induction p with
    | zero =>
      intro b hp hlt hj hy
      have hi : insP (vNb (M 131)) 0 nc c := ⟨hp, hj, Or.inl rfl⟩
      refine g_iload_n (i := 3) hX dX8_addClause_64 rfl rfl rfl ?_
      refine g_if_le (tgt := 133) hX dX8_addClause_65 (by decide) rfl (fun zc65 => ?_) (fun zc65 => absurd (by decide) zc65)
      exact tail 0 _ hlt hi (fun M' => hy 0 M' hi)
    | succ p ih =>
      intro b hp hlt hj hy
      have step := shB_step (M 131) hp
      have r8 : shB (p + 1) nc (M 131) (73 + 45 * p + 0) = vNb (M 131) p := shB_lo (by omega)
      have inner : ∀ k, k ≤ 45 → c < vNb (M 131) p → gG X E (gset (m_rec M sv) 131 (blkTo (73 + 45 * (p + 1)) k (fun i => M 131 (73 + 45 * p + i)) (shB (p + 1) nc (M 131)))) 88 [some (.ref 130), some (.int c), some (.int v), some (.int (nI (p + 1))), some (.int (nI k))] [] (gQ X E (gInt fun r M' => y_addClause M nc sv c v r M')) := by
        refine up_loop 45 _ ?_ ?_
        · intro hlt2
          refine g_iload hX dX8_addClause_88 rfl rfl ?_
          refine g_bipush hX dX8_addClause_90 bc_45 rfl ?_
          first | refine g_icmp_geN (tgt := 127) hX dX8_addClause_92 (by decide) rfl (by omega) (by omega) (fun zc92 => ?_) (fun zc92 => absurd zc92 (by omega)) | refine g_icmp_ge (tgt := 127) hX dX8_addClause_92 (by decide) rfl (fun zc92 => ?_) (fun zc92 => absurd zc92 (by omega))
          refine g_iinc hX dX8_addClause_127 ic_m1 rfl (pk_m1 p) (Nat.le_of_ble_eq_true rfl) rfl ?_
          refine g_goto (n := 64) hX dX8_addClause_130 (by decide) ?_
          refine gGM (by rw [step]) (ih _ (by omega) hlt (fun j h1 h2 => ?_) hy)
          by_cases ej : j = p
          · subst ej; exact hlt2
          · exact hj j (by omega) h2
        · intro k hk ih2 hlt2
          have hs2 := blkTo_succ (73 + 45 * (p + 1)) k (fun i => M 131 (73 + 45 * p + i)) (shB (p + 1) nc (M 131))
          refine g_iload hX dX8_addClause_88 rfl rfl ?_
          refine g_bipush hX dX8_addClause_90 bc_45 rfl ?_
          first | refine g_icmp_geN (tgt := 127) hX dX8_addClause_92 (by decide) rfl (by omega) (by omega) (fun zc92 => absurd zc92 (by omega)) (fun zc92 => ?_) | refine g_icmp_ge (tgt := 127) hX dX8_addClause_92 (by decide) rfl (fun zc92 => absurd zc92 (by omega)) (fun zc92 => ?_)
          refine g_aload_n (i := 0) hX dX8_addClause_95 rfl rfl rfl ?_
          refine g_getR hX fl_X8_7 rfl rfl dX8_addClause_96 rfl ?_
          refine g_iload_n (i := 3) hX dX8_addClause_99 rfl rfl rfl ?_
          refine g_callSi hX (c_X8_clauseAt E _ (p + 1)) kf_X8_clauseAt rfl wk_X8_34 rfl rfl rfl rfl dX8_addClause_100 rfl (fun x100 M100 h100 => ?_)
          obtain ⟨rfl, hMq⟩ := h100; have hMq := hMq.symm; subst hMq
          refine g_iload hX dX8_addClause_103 rfl rfl ?_
          first | refine g_iaddN hX dX8_addClause_105 rfl ?_ | refine g_iadd hX dX8_addClause_105 rfl ?_
          refine g_aload_n (i := 0) hX dX8_addClause_106 rfl rfl rfl ?_
          refine g_getR hX fl_X8_7 rfl rfl dX8_addClause_107 rfl ?_
          refine g_iload_n (i := 3) hX dX8_addClause_110 rfl rfl rfl ?_
          refine g_iconst hX dX8_addClause_111 ic_1 rfl ?_
          refine g_isubN hX dX8_addClause_112 (by omega) rfl ?_
          refine g_callSi hX (c_X8_clauseAt E _ p) kf_X8_clauseAt rfl wk_X8_34 rfl rfl rfl rfl dX8_addClause_113 rfl (fun x113 M113 h113 => ?_)
          obtain ⟨rfl, hMq⟩ := h113; have hMq := hMq.symm; subst hMq
          refine g_iload hX dX8_addClause_116 rfl rfl ?_
          first | refine g_iaddN hX dX8_addClause_118 rfl ?_ | refine g_iadd hX dX8_addClause_118 rfl ?_
          refine g_ialdv (x := M 131 (73 + 45 * p + k)) hX rfl (rfl) (by omega) rfl ((by rw [gset_eq, blk_out (Or.inl (by omega)), shB_lo (by omega)])) dX8_addClause_119 rfl ?_
          refine g_iast hX rfl (rfl) (by omega) rfl dX8_addClause_120 rfl ?_
          first | refine g_iincN hX dX8_addClause_121 ic_1 rfl (Nat.le_of_ble_eq_true rfl) rfl ?_ | refine g_iinc hX dX8_addClause_121 ic_1 rfl rfl (Nat.le_of_ble_eq_true rfl) rfl ?_
          refine g_goto (n := 88) hX dX8_addClause_124 (by decide) ?_
          exact gGM (by rw [gset_gset]; exact congrArg (gset _ 131) hs2) (ih2 hlt2)
      refine g_iload_n (i := 3) hX dX8_addClause_64 rfl rfl rfl ?_
      refine g_if_le (tgt := 133) hX dX8_addClause_65 (by decide) rfl (fun zc65 => absurd zc65 (nI_nle (by omega) (by omega))) (fun zc65 => ?_)
      refine g_aload_n (i := 0) hX dX8_addClause_68 rfl rfl rfl ?_
      refine g_getR hX fl_X8_7 rfl rfl dX8_addClause_69 rfl ?_
      refine g_iload_n (i := 3) hX dX8_addClause_72 rfl rfl rfl ?_
      refine g_iconst hX dX8_addClause_73 ic_1 rfl ?_
      refine g_isubN hX dX8_addClause_74 (by omega) rfl ?_
      refine g_callSi hX (c_X8_clauseAt E _ p) kf_X8_clauseAt rfl wk_X8_34 rfl rfl rfl rfl dX8_addClause_75 rfl (fun x75 M75 h75 => ?_)
      obtain ⟨rfl, hMq⟩ := h75; have hMq := hMq.symm; subst hMq
      refine g_iconst hX dX8_addClause_78 ic_0 rfl ?_
      first | refine g_iaddN hX dX8_addClause_79 rfl ?_ | refine g_iadd hX dX8_addClause_79 rfl ?_
      refine g_ialdv (x := vNb (M 131) p) hX rfl (rfl) (by omega) rfl ((by rw [gset_eq]; exact r8)) dX8_addClause_80 rfl ?_
      refine g_iload_n (i := 1) hX dX8_addClause_81 rfl rfl rfl ?_
      refine g_icmp_le (tgt := 133) hX dX8_addClause_82 (by decide) rfl (fun zc82 => ?_) (fun zc82 => ?_)
      · skip
        have hi : insP (vNb (M 131)) (p + 1) nc c := ⟨hp, hj, Or.inr (fun q => Int32.lt_irrefl (Int32.lt_of_lt_of_le q zc82))⟩
        exact tail (p + 1) _ hlt hi (fun M' => hy (p + 1) M' hi)
      · skip
        refine g_iconst hX dX8_addClause_85 ic_0 rfl ?_
        refine g_istore hX dX8_addClause_86 (Nat.le_of_ble_eq_true rfl) rfl ?_
        exact gGM (by rw [blkTo_0]) (inner 0 (Nat.zero_le _) (Int32.not_le.mp zc82))
  have loop4 : nc < 20 → (∀ p M', insP (vNb (M 131)) p nc c → M' = gset (m_rec M sv) 131 (n_insert (M 131) p nc c v) → y_addClause M nc sv c v (nI (nc + 1)) M') → ∀ b, gG X E (m_rec M sv) 64 [some (.ref 130), some (.int c), some (.int v), some (.int (nI nc)), b] [] (gQ X E (gInt fun r M' => y_addClause M nc sv c v r M')) := by
    intro hlt hy b
    exact gGM (by rw [shB_n, ← K, gset_self]) (loop nc b (Nat.le_refl nc) hlt (fun j h1 h2 => absurd h2 (by omega)) hy)
  refine g_iload_n (i := 1) hX dX8_addClause_0 rfl rfl rfl ?_
  refine g_iconst hX dX8_addClause_1 ic_1 rfl ?_
  refine g_bipush hX dX8_addClause_2 bc_99 rfl ?_
  refine g_callSi hX (c_X8_in E M _ _ _) kf_X8_in rfl wk_X8_23 rfl rfl rfl rfl dX8_addClause_4 rfl (fun x4 M4 h4 => ?_)
  obtain ⟨rfl, hMq⟩ := h4; have hMq := hMq.symm; subst hMq
  first | refine g_if_eqB (tgt := 17) hX dX8_addClause_7 (by decide) rfl (fun zc7 => ?_) (fun zc7 => ?_) | refine g_if_eq (tgt := 17) hX dX8_addClause_7 (by decide) rfl (fun zc7 => ?_) (fun zc7 => ?_)
  · skip
    refine g_iconst hX dX8_addClause_17 ic_m1 rfl ?_
    refine g_iret hX hR dX8_addClause_18 ?_
    unfold y_addClause
    first
      | (rw [if_pos (Or.inl zc7)]; exact ⟨rfl, rfl⟩)
      | (rw [if_pos (Or.inr zc14)]; exact ⟨rfl, rfl⟩)
  · skip
    refine g_iload_n (i := 2) hX dX8_addClause_10 rfl rfl rfl ?_
    refine g_callSi hX (c_X8_isValue E M v) kf_X8_isValue rfl wk_X8_37 rfl rfl rfl rfl dX8_addClause_11 rfl (fun x11 M11 h11 => ?_)
    obtain ⟨rfl, hMq⟩ := h11; have hMq := hMq.symm; subst hMq
    first | refine g_if_neB (tgt := 19) hX dX8_addClause_14 (by decide) rfl (fun zc14 => ?_) (fun zc14 => ?_) | refine g_if_ne (tgt := 19) hX dX8_addClause_14 (by decide) rfl (fun zc14 => ?_) (fun zc14 => ?_)
    · skip
      refine g_aload_n (i := 0) hX dX8_addClause_19 rfl rfl rfl ?_
      refine g_getR hX fl_X8_7 rfl rfl dX8_addClause_20 rfl ?_
      refine g_iconst hX dX8_addClause_23 ic_5 rfl ?_
      refine g_ialdv (x := M 131 5) hX rfl (rfl) (by omega) rfl (rfl) dX8_addClause_24 rfl ?_
      refine g_if_gt (tgt := 36) hX dX8_addClause_25 (by decide) rfl (fun zc25 => ?_) (fun zc25 => ?_)
      · skip
        refine g_bipush hX dX8_addClause_36 bc_m2 rfl ?_
        refine g_iret hX hR dX8_addClause_38 ?_
        unfold y_addClause
        rw [if_neg (by rw [zc7, zc14]; simp)]
        first
          | (rw [if_pos (Or.inl zc25)]; exact ⟨rfl, rfl⟩)
          | (rw [if_pos (Or.inr zd33)]; exact ⟨rfl, rfl⟩)
      · skip
        refine g_aload_n (i := 0) hX dX8_addClause_28 rfl rfl rfl ?_
        refine g_iload_n (i := 1) hX dX8_addClause_29 rfl rfl rfl ?_
        refine g_callVi hX (c_X8_indexOf E M nc c hc hcb) kf_X8_indexOf rfl wk_X8_41 rfl rfl rfl rfl rfl dX8_addClause_30 rfl (fun x30 M30 h30 => ?_)
        obtain ⟨rfl, hMq⟩ := h30; have hMq := hMq.symm; subst hMq
        refine g_if_lt (tgt := 39) hX dX8_addClause_33 (by decide) rfl (fun zc33 => ?_) (fun zc33 => ?_)
        · skip
          have zd33 : fndTo nc (fun k => decide (vNb (M 131) k = c)) = none := by
            cases h : fndTo nc (fun k => decide (vNb (M 131) k = c)) with
            | none => rfl
            | some q => rw [h] at zc33; exact absurd zc33 (nI_pos (hq q h))
          refine g_aload_n (i := 0) hX dX8_addClause_39 rfl rfl rfl ?_
          refine g_getR hX fl_X8_7 rfl rfl dX8_addClause_40 rfl ?_
          refine g_iconst hX dX8_addClause_43 ic_1 rfl ?_
          refine g_ialdv (x := nI nc) hX rfl (rfl) (by omega) rfl (hc) dX8_addClause_44 rfl ?_
          refine g_bipush hX dX8_addClause_45 bc_20 rfl ?_
          first | refine g_icmp_neN (tgt := 53) hX dX8_addClause_47 (by decide) rfl (by omega) (by omega) (fun zc47 => ?_) (fun zc47 => ?_) | refine g_icmp_ne (tgt := 53) hX dX8_addClause_47 (by decide) rfl (fun zc47 => ?_) (fun zc47 => ?_)
          · skip
            refine g_aload_n (i := 0) hX dX8_addClause_53 rfl rfl rfl ?_
            refine g_callVv hX (c_X8_records E M sv hs hb) kf_X8_records rfl wk_X8_31 rfl rfl rfl rfl rfl dX8_addClause_54 rfl (fun M54 h54 => ?_)
            subst h54
            refine g_aload_n (i := 0) hX dX8_addClause_57 rfl rfl rfl ?_
            refine g_getR hX fl_X8_7 rfl rfl dX8_addClause_58 rfl ?_
            refine g_iconst hX dX8_addClause_61 ic_1 rfl ?_
            refine g_ialdv (x := nI nc) hX rfl (rfl) (by omega) rfl (((congrFun K 1).trans hc)) dX8_addClause_62 rfl ?_
            refine g_istore_n (i := 3) hX dX8_addClause_63 rfl (Nat.le_of_ble_eq_true rfl) rfl ?_
            refine loop4 (by omega) (fun p M' h1 h2 => ?_) _
            unfold y_addClause
            rw [if_neg (by rw [zc7, zc14]; simp), if_neg (fun q => q.elim zc25 (fun q => q zd33)), if_neg zc47]
            exact ⟨rfl, p, h1, h2⟩
          · skip
            refine g_bipush hX dX8_addClause_50 bc_m3 rfl ?_
            refine g_iret hX hR dX8_addClause_52 ?_
            unfold y_addClause
            rw [if_neg (by rw [zc7, zc14]; simp), if_neg (fun q => q.elim zc25 (fun q => q zd33)), if_pos zc47]
            exact ⟨rfl, rfl⟩
        · skip
          have zd33 : ¬ fndTo nc (fun k => decide (vNb (M 131) k = c)) = none := fun q => zc33 (by rw [q]; decide)
          refine g_bipush hX dX8_addClause_36 bc_m2 rfl ?_
          refine g_iret hX hR dX8_addClause_38 ?_
          unfold y_addClause
          rw [if_neg (by rw [zc7, zc14]; simp)]
          first
            | (rw [if_pos (Or.inl zc25)]; exact ⟨rfl, rfl⟩)
            | (rw [if_pos (Or.inr zd33)]; exact ⟨rfl, rfl⟩)
    · skip
      refine g_iconst hX dX8_addClause_17 ic_m1 rfl ?_
      refine g_iret hX hR dX8_addClause_18 ?_
      unfold y_addClause
      first
        | (rw [if_pos (Or.inl zc7)]; exact ⟨rfl, rfl⟩)
        | (rw [if_pos (Or.inr zc14)]; exact ⟨rfl, rfl⟩)

