/-! fault, enter -/
section
variable {M : gM} {nm nc nk ne ol hs : Nat} {op br : Bool} {mb pl : Nat → Nat} {ch : Nat → Nat} {L : Nat}
theorem scanX_le (M : gM) (ch : Nat → Nat) (L nc nk : Nat) : (scanX M ch L nc nk).1 ≤ 4 := scan_le (fun _ _ => whyB_le) _ _ _
theorem scanX_no (h : (scanX M ch L nc nk).1 = 0) (hL : L ≤ 80) : ∃ q, scanX M ch L nc nk = (0, posK (pNx ch L) q, q) ∧ L ≤ posK (pNx ch L) q ∧ ∀ i, i < q → posK (pNx ch L) i < L ∧ whyB (M 8) (M 9) ch L nc nk i (posK (pNx ch L) i) = 0 := by
  obtain ⟨q, -, h1, h2, h3⟩ := scan_no (L := L) (why := whyB (M 8) (M 9) ch L nc nk) (nx := pNx ch L) whyB_5 17 0 h (by simp only [posK]; omega)
  exact ⟨q, h1, h2, fun i hi => h3 i (Nat.zero_le _) hi⟩
def x_fault (M : gM) (ch : Nat → Nat) (L nc nk : Nat) (w : Int32) : Int32 := if inR w 2 = true then (if (scanX M ch L nc nk).1 = 0 then -4 else if w = 0 then nI (scanX M ch L nc nk).2.1 else nI (scanX M ch L nc nk).1) else -1
theorem c_X7_fault (E : gE) (w : Int32) (hW : WS M nm nc nk ne op br mb pl) (hT : TxX M ch L) : gMet E k_X7_fault [.ref 0, .int w] M (gInt fun r M' => r = x_fault M ch L nc nk w ∧ (∀ a, a ≠ 128 → M' a = M a) ∧ M' 128 1 = M 128 1) := by
  refine gMet.of (by decide +kernel) rfl (Nat.le_of_ble_eq_true rfl) (fun X hX hR => ?_)
  have hs4 := scanX_le M ch L nc nk
  rcases pk_ix w (n := 2) (by decide) with h | h | ⟨j, hj, rfl⟩
  · skip
    refine g_iload_n (i := 1) hX dX7_fault_0 rfl rfl rfl ?_
    refine g_if_lt (tgt := 9) hX dX7_fault_1 (by decide) rfl (fun zc1 => ?_) (fun zc1 => absurd h zc1)
    refine g_iconst hX dX7_fault_9 ic_m1 rfl ?_
    refine g_iret hX hR dX7_fault_10 ?_
    refine ⟨by rw [x_fault, inR_neg h]; rfl, fun _ _ => rfl, rfl⟩
  · skip
    refine g_iload_n (i := 1) hX dX7_fault_0 rfl rfl rfl ?_
    refine g_if_lt (tgt := 9) hX dX7_fault_1 (by decide) rfl (fun zc1 => absurd zc1 (fun q => absurd (Int32.lt_of_lt_of_le q (by decide : (0 : Int32) ≤ nI 2)) (Int32.not_lt.mpr h))) (fun zc1 => ?_)
    refine g_iload_n (i := 1) hX dX7_fault_4 rfl rfl rfl ?_
    refine g_iconst hX dX7_fault_5 ic_1 rfl ?_
    refine g_icmp_le (tgt := 11) hX dX7_fault_6 (by decide) rfl (fun zc6 => absurd zc6 (Int32.not_le.mpr (Int32.lt_of_lt_of_le (by decide : nI 1 < nI 2) h))) (fun zc6 => ?_)
    refine g_iconst hX dX7_fault_9 ic_m1 rfl ?_
    refine g_iret hX hR dX7_fault_10 ?_
    refine ⟨by rw [x_fault, inR_ge h]; rfl, fun _ _ => rfl, rfl⟩
  · have e : x_fault M ch L nc nk (nI j) = if (scanX M ch L nc nk).1 = 0 then -4 else if nI j = 0 then nI (scanX M ch L nc nk).2.1 else nI (scanX M ch L nc nk).1 := by rw [x_fault, if_pos (by rw [inR_nI (by omega) (by decide)]; exact decide_eq_true hj)]
    rw [e]
    by_cases hz : (scanX M ch L nc nk).1 = 0
    · rw [if_pos hz]
      refine g_iload_n (i := 1) hX dX7_fault_0 rfl rfl rfl ?_
      refine g_if_lt (tgt := 9) hX dX7_fault_1 (by decide) rfl (fun zc1 => absurd zc1 (nI_pos (by omega))) (fun zc1 => ?_)
      refine g_iload_n (i := 1) hX dX7_fault_4 rfl rfl rfl ?_
      refine g_iconst hX dX7_fault_5 ic_1 rfl ?_
      first | refine g_icmp_leN (tgt := 11) hX dX7_fault_6 (by decide) rfl (by omega) (by omega) (fun zc6 => ?_) (fun zc6 => absurd zc6 (by omega)) | refine g_icmp_le (tgt := 11) hX dX7_fault_6 (by decide) rfl (fun zc6 => ?_) (fun zc6 => absurd zc6 (by omega))
      refine g_aload_n (i := 0) hX dX7_fault_11 rfl rfl rfl ?_
      refine g_callVi hX (c_X7_firstFault E hW hT) kf_X7_firstFault rfl wk_X7_249 rfl rfl rfl rfl rfl dX7_fault_12 rfl (fun x12 M12 h12 => ?_)
      obtain ⟨hx, r1, r2, r3⟩ := h12; rw [hz] at hx; subst hx
      refine g_istore_n (i := 2) hX dX7_fault_15 rfl (Nat.le_of_ble_eq_true rfl) rfl ?_
      refine g_iload_n (i := 2) hX dX7_fault_16 rfl rfl rfl ?_
      refine g_if_ne (tgt := 23) hX dX7_fault_17 (by decide) rfl (fun zc17 => absurd zc17 (by decide)) (fun zc17 => ?_)
      refine g_bipush hX dX7_fault_20 bc_m4 rfl ?_
      refine g_iret hX hR dX7_fault_22 ?_
      exact ⟨rfl, r1, r2⟩
    · rw [if_neg hz]
      refine g_iload_n (i := 1) hX dX7_fault_0 rfl rfl rfl ?_
      refine g_if_lt (tgt := 9) hX dX7_fault_1 (by decide) rfl (fun zc1 => absurd zc1 (nI_pos (by omega))) (fun zc1 => ?_)
      refine g_iload_n (i := 1) hX dX7_fault_4 rfl rfl rfl ?_
      refine g_iconst hX dX7_fault_5 ic_1 rfl ?_
      first | refine g_icmp_leN (tgt := 11) hX dX7_fault_6 (by decide) rfl (by omega) (by omega) (fun zc6 => ?_) (fun zc6 => absurd zc6 (by omega)) | refine g_icmp_le (tgt := 11) hX dX7_fault_6 (by decide) rfl (fun zc6 => ?_) (fun zc6 => absurd zc6 (by omega))
      refine g_aload_n (i := 0) hX dX7_fault_11 rfl rfl rfl ?_
      refine g_callVi hX (c_X7_firstFault E hW hT) kf_X7_firstFault rfl wk_X7_249 rfl rfl rfl rfl rfl dX7_fault_12 rfl (fun x12 M12 h12 => ?_)
      obtain ⟨hx, r1, r2, r3⟩ := h12; subst hx
      refine g_istore_n (i := 2) hX dX7_fault_15 rfl (Nat.le_of_ble_eq_true rfl) rfl ?_
      refine g_iload_n (i := 2) hX dX7_fault_16 rfl rfl rfl ?_
      refine g_if_ne (tgt := 23) hX dX7_fault_17 (by decide) rfl (fun zc17 => ?_) (fun zc17 => absurd zc17 (nI_ne0 (by omega) (by omega)))
      refine g_iload_n (i := 1) hX dX7_fault_23 rfl rfl rfl ?_
      refine g_if_ne (tgt := 37) hX dX7_fault_24 (by decide) rfl (fun zc24 => ?_) (fun zc24 => ?_)
      · skip
        refine g_iload_n (i := 2) hX dX7_fault_37 rfl rfl rfl ?_
        refine g_iret hX hR dX7_fault_38 ?_
        first
        | (rw [if_pos (show nI j = 0 from zc24)]; exact ⟨rfl, r1, r2⟩)
        | (rw [if_neg (show ¬ nI j = 0 from zc24)]; exact ⟨rfl, r1, r2⟩)
      · skip
        refine g_aload_n (i := 0) hX dX7_fault_27 rfl rfl rfl ?_
        refine g_getR hX fl_X7_26 rfl rfl dX7_fault_28 rfl ?_
        refine g_getIv (x := nI (scanX M ch L nc nk).2.1) hX fl_X7_252 rfl rfl (r3 hz) dX7_fault_31 rfl ?_
        refine g_goto (n := 38) hX dX7_fault_34 (by decide) ?_
        refine g_iret hX hR dX7_fault_38 ?_
        first
        | (rw [if_pos (show nI j = 0 from zc24)]; exact ⟨rfl, r1, r2⟩)
        | (rw [if_neg (show ¬ nI j = 0 from zc24)]; exact ⟨rfl, r1, r2⟩)
/-- the state with the first k comments of the text made -/
def entX (M : gM) (ch : Nat → Nat) (L nc nk0 : Nat) (m : Int32) (k : Nat) : gM := match k with
  | 0 => M
  | k + 1 => m_comment (entX M ch L nc nk0 m k) (nk0 + k) m (optI (-1) (fndTo nc (fun q => decide (M 8 q = nI (pCl ch L (posK (pNx ch L) k)))))) (nI (pKd ch L (posK (pNx ch L) k))) (nI (pVal ch L (posK (pNx ch L) k)))
theorem m_comment_ne {M : gM} {n a : Nat} {m p k v : Int32} (h : a < 16 ∨ 21 < a) : m_comment M n m p k v a = M a := by
  simp only [m_comment]
  rw [gset_ne _ _ (by omega), gset_ne _ _ (by omega), gset_ne _ _ (by omega), gset_ne _ _ (by omega), gset_ne _ _ (by omega), gset_ne _ _ (by omega)]
theorem entX_ne {M : gM} {ch : Nat → Nat} {L nc nk0 : Nat} {m : Int32} {a : Nat} (h : a < 16 ∨ 21 < a) : ∀ k, entX M ch L nc nk0 m k a = M a := by
  intro k
  induction k with
  | zero => rfl
  | succ k ih => simp only [entX]; rw [m_comment_ne h]; exact ih
theorem m_comment_16 {M : gM} {n : Nat} {m p k v : Int32} : m_comment M n m p k v 16 8 = nI (n + 1) := by
  simp only [m_comment]; rw [gset_eq, upd_s]
theorem entX_16 {M : gM} {ch : Nat → Nat} {L nc nk0 : Nat} {m : Int32} (h : M 16 8 = nI nk0) : ∀ k, entX M ch L nc nk0 m k 16 8 = nI (nk0 + k) := by
  intro k
  cases k with
  | zero => exact h
  | succ k => simp only [entX]; exact m_comment_16
theorem m_comment_congr {M M' : gM} {n : Nat} {m p k v : Int32} {a : Nat} (ha : ∀ b, b ≠ 128 → M b = M' b) (h : a ≠ 128) : m_comment M n m p k v a = m_comment M' n m p k v a := by
  simp only [m_comment, gset, ha 17 (by decide), ha 18 (by decide), ha 19 (by decide), ha 20 (by decide), ha 21 (by decide), ha 16 (by decide), ha a h]
def x_enter (M : gM) (ch : Nat → Nat) (L nm nc nk ol hs : Nat) (op : Bool) (m : Int32) (r : Int32) (M' : gM) : Prop :=
  if inR m nm = true then (if op = true ∧ (scanX M ch L nc nk).1 = 0 then r = nI (scanX M ch L nc nk).2.2 ∧ M' 128 1 = M 128 1 ∧ ∀ a, a ≠ 128 → M' a = entX (m_keep M ol hs) ch L nc nk m (scanX M ch L nc nk).2.2 a else r = -2 ∧ M' 128 1 = M 128 1 ∧ ∀ a, a ≠ 128 → M' a = M a) else r = -1 ∧ M' 128 1 = M 128 1 ∧ ∀ a, a ≠ 128 → M' a = M a
theorem c_X7_enter (E : gE) (m : Int32) (hW : WS M nm nc nk ne op br mb pl) (hH : WH M ol hs) (hT : TxX M ch L) : gMet E k_X7_enter [.ref 0, .int m] M (gInt fun r M' => x_enter M ch L nm nc nk ol hs op m r M') := by
  refine gMet.of (by decide +kernel) rfl (Nat.le_of_ble_eq_true rfl) (fun X hX hR => ?_)
  obtain ⟨⟨hm, hmb⟩, ⟨hc, hcb⟩, ⟨hk, hkb⟩, ⟨he, he1, he2⟩, ⟨hop, hbr⟩, hcm⟩ := id hW
  obtain ⟨hol, holb, hhs, hhsb⟩ := id hH
  have hs4 := scanX_le M ch L nc nk
  have hL8 := hT.2.1
  cases hin : inR m nm with
  | false =>
    refine g_aload_n (i := 0) hX dX7_enter_0 rfl rfl rfl ?_
    refine g_getR hX fl_X7_10 rfl rfl dX7_enter_1 rfl ?_
    refine g_getR hX fl_X7_30 rfl rfl dX7_enter_4 rfl ?_
    refine g_iload_n (i := 1) hX dX7_enter_7 rfl rfl rfl ?_
    refine g_callVi hX (c_X4_has E M nm m hm hmb) kf_X4_has rfl wk_X7_85 rfl rfl rfl rfl rfl dX7_enter_8 rfl (fun x8 M8 h8 => ?_)
    obtain ⟨rfl, hMq⟩ := h8; have hMq := hMq.symm; subst hMq
    first | refine g_if_neB (tgt := 16) hX dX7_enter_11 (by decide) rfl (fun zc11 => Bool.noConfusion (hin.symm.trans zc11)) (fun zc11 => ?_) | refine g_if_ne (tgt := 16) hX dX7_enter_11 (by decide) rfl (fun zc11 => Bool.noConfusion (hin.symm.trans zc11)) (fun zc11 => ?_)
    refine g_iconst hX dX7_enter_14 ic_m1 rfl ?_
    refine g_iret hX hR dX7_enter_15 ?_
    unfold x_enter; rw [if_neg (by rw [hin]; decide)]; exact ⟨rfl, rfl, fun _ _ => rfl⟩
  | true =>
    cases hopv : op with
    | false =>
      subst hopv
      refine g_aload_n (i := 0) hX dX7_enter_0 rfl rfl rfl ?_
      refine g_getR hX fl_X7_10 rfl rfl dX7_enter_1 rfl ?_
      refine g_getR hX fl_X7_30 rfl rfl dX7_enter_4 rfl ?_
      refine g_iload_n (i := 1) hX dX7_enter_7 rfl rfl rfl ?_
      refine g_callVi hX (c_X4_has E M nm m hm hmb) kf_X4_has rfl wk_X7_85 rfl rfl rfl rfl rfl dX7_enter_8 rfl (fun x8 M8 h8 => ?_)
      obtain ⟨rfl, hMq⟩ := h8; have hMq := hMq.symm; subst hMq
      first | refine g_if_neB (tgt := 16) hX dX7_enter_11 (by decide) rfl (fun zc11 => ?_) (fun zc11 => Bool.noConfusion (hin.symm.trans zc11)) | refine g_if_ne (tgt := 16) hX dX7_enter_11 (by decide) rfl (fun zc11 => ?_) (fun zc11 => Bool.noConfusion (hin.symm.trans zc11))
      refine g_aload_n (i := 0) hX dX7_enter_16 rfl rfl rfl ?_
      refine g_getR hX fl_X7_10 rfl rfl dX7_enter_17 rfl ?_
      refine g_getR hX fl_X7_52 rfl rfl dX7_enter_20 rfl ?_
      refine g_getIv (x := nI 0) hX fl_X7_136 rfl rfl (hop) dX7_enter_23 rfl ?_
      refine g_if_eq (tgt := 36) hX dX7_enter_26 (by decide) rfl (fun zc26 => ?_) (fun zc26 => absurd rfl zc26)
      refine g_bipush hX dX7_enter_36 bc_m2 rfl ?_
      refine g_iret hX hR dX7_enter_38 ?_
      unfold x_enter; rw [if_pos hin, if_neg (fun q => Bool.noConfusion q.1)]; exact ⟨rfl, rfl, fun _ _ => rfl⟩
    | true =>
      subst hopv
      by_cases hz : (scanX M ch L nc nk).1 = 0
      · obtain ⟨q, hq1, hq2, hq3⟩ := scanX_no hz hL8
        have many : (scanX M ch L nc nk).2.2 = q := by rw [hq1]
        have pos5 : ∀ i, i ≤ q → 5 * i ≤ posK (pNx ch L) i ∧ posK (pNx ch L) i ≤ L := by
          intro i
          induction i with
          | zero => intro _; exact ⟨Nat.zero_le _, Nat.zero_le _⟩
          | succ i ih =>
            intro hi
            obtain ⟨i1, i2⟩ := ih (by omega)
            obtain ⟨i3, i4⟩ := hq3 i (by omega)
            have i5 := whyB_5 _ _ i4
            have hok : pOk ch L (posK (pNx ch L) i) = true := by
              cases hp : pOk ch L (posK (pNx ch L) i) with
              | true => rfl
              | false => simp [whyB, hp] at i4
            have i6 := (pNx_in hok).2
            simp only [posK]
            omega
        have hqk : nk + q ≤ 30 ∨ q = 0 := by
          rcases Nat.eq_zero_or_pos q with h | h
          · exact Or.inr h
          · left
            obtain ⟨-, h4⟩ := hq3 (q - 1) (by omega)
            simp only [whyB] at h4
            split at h4
            · cases h4
            · split at h4
              · cases h4
              · split at h4
                · cases h4
                · split at h4
                  · cases h4
                  · omega
        have loop := up_loop q (fun k => ∀ M1 b, (∀ a, a ≠ 128 → M1 a = entX (m_keep M ol hs) ch L nc nk m k a) → M1 128 1 = M 128 1 → M1 128 3 = nI (posK (pNx ch L) k) → gG X E M1 70 [some (.ref 0), some (.int m), some (.int (nI nk)), some (.int (nI (nk + k))), b] [] (gQ X E (gInt fun r M' => x_enter M ch L nm nc nk ol hs true m r M'))) ?_ ?_
        · skip
          refine g_aload_n (i := 0) hX dX7_enter_0 rfl rfl rfl ?_
          refine g_getR hX fl_X7_10 rfl rfl dX7_enter_1 rfl ?_
          refine g_getR hX fl_X7_30 rfl rfl dX7_enter_4 rfl ?_
          refine g_iload_n (i := 1) hX dX7_enter_7 rfl rfl rfl ?_
          refine g_callVi hX (c_X4_has E M nm m hm hmb) kf_X4_has rfl wk_X7_85 rfl rfl rfl rfl rfl dX7_enter_8 rfl (fun x8 M8 h8 => ?_)
          obtain ⟨rfl, hMq⟩ := h8; have hMq := hMq.symm; subst hMq
          first | refine g_if_neB (tgt := 16) hX dX7_enter_11 (by decide) rfl (fun zc11 => ?_) (fun zc11 => Bool.noConfusion (hin.symm.trans zc11)) | refine g_if_ne (tgt := 16) hX dX7_enter_11 (by decide) rfl (fun zc11 => ?_) (fun zc11 => Bool.noConfusion (hin.symm.trans zc11))
          refine g_aload_n (i := 0) hX dX7_enter_16 rfl rfl rfl ?_
          refine g_getR hX fl_X7_10 rfl rfl dX7_enter_17 rfl ?_
          refine g_getR hX fl_X7_52 rfl rfl dX7_enter_20 rfl ?_
          refine g_getIv (x := nI 1) hX fl_X7_136 rfl rfl (hop) dX7_enter_23 rfl ?_
          refine g_if_eq (tgt := 36) hX dX7_enter_26 (by decide) rfl (fun zc26 => absurd zc26 (by decide)) (fun zc26 => ?_)
          refine g_aload_n (i := 0) hX dX7_enter_29 rfl rfl rfl ?_
          refine g_callVi hX (c_X7_firstFault E hW hT) kf_X7_firstFault rfl wk_X7_249 rfl rfl rfl rfl rfl dX7_enter_30 rfl (fun x30 M30 h30 => ?_)
          obtain ⟨hx, r1, r2, r3⟩ := h30; rw [hz] at hx; subst hx
          refine g_if_eq (tgt := 39) hX dX7_enter_33 (by decide) rfl (fun zc33 => ?_) (fun zc33 => absurd rfl zc33)
          refine g_aload_n (i := 0) hX dX7_enter_39 rfl rfl rfl ?_
          refine g_getR hX fl_X7_19 rfl rfl dX7_enter_40 rfl ?_
          refine g_aload_n (i := 0) hX dX7_enter_43 rfl rfl rfl ?_
          refine g_getR hX fl_X7_10 rfl rfl dX7_enter_44 rfl ?_
          refine g_callVv hX (c_X3_keep E _ ol hs (by rw [r1 126 (by decide)]; exact hol) holb (by rw [r1 126 (by decide)]; exact hhs) hhsb (by rw [r1 14 (by decide), hop]; exact Or.inr rfl) (by rw [r1 14 (by decide), hbr]; exact gB_01 br)) kf_X3_keep rfl wk_X7_40 rfl rfl rfl rfl rfl dX7_enter_47 rfl (fun M47 h47 => ?_)
          subst h47
          refine g_aload_n (i := 0) hX dX7_enter_50 rfl rfl rfl ?_
          refine g_getR hX fl_X7_10 rfl rfl dX7_enter_51 rfl ?_
          refine g_getR hX fl_X7_103 rfl rfl dX7_enter_54 rfl ?_
          refine g_getIv (x := nI nk) hX fl_X7_140 rfl rfl ((by rw [keep_ne (Or.inl (by decide)), r1 16 (by decide)]; exact hk)) dX7_enter_57 rfl ?_
          refine g_istore_n (i := 2) hX dX7_enter_60 rfl (Nat.le_of_ble_eq_true rfl) rfl ?_
          refine g_aload_n (i := 0) hX dX7_enter_61 rfl rfl rfl ?_
          refine g_getR hX fl_X7_26 rfl rfl dX7_enter_62 rfl ?_
          refine g_callVv hX (c_X6_rewind E _) kf_X6_rewind rfl wk_X7_255 rfl rfl rfl rfl rfl dX7_enter_65 rfl (fun M65 h65 => ?_)
          subst h65
          refine g_iload_n (i := 2) hX dX7_enter_68 rfl rfl rfl ?_
          refine g_istore_n (i := 3) hX dX7_enter_69 rfl (Nat.le_of_ble_eq_true rfl) rfl ?_
          refine loop 0 (Nat.zero_le _) _ _ (fun a ha => ?_) ?_ ?_
          · rw [gset_ne _ _ ha]
            show m_keep _ ol hs a = m_keep M ol hs a
            by_cases h26 : a < 26 ∨ 126 < a
            · rw [keep_ne h26, keep_ne h26, r1 a ha]
            · have hb : (ol + hs) % 4 < 4 := Nat.mod_lt _ (by decide)
              have cp : ∀ b, b ≠ 128 → b ≤ 127 → cpS M30 (hisB ((ol + hs) % 4)) 1 b = cpS M (hisB ((ol + hs) % 4)) 1 b := by
                intro b hb1 hb2
                simp only [cpS]
                split
                · exact r1 _ (by omega)
                · exact r1 _ hb1
              simp only [m_keep, r1 126 (by decide)]
              split
              · simp only [gset]; split
                · rfl
                · exact cp a ha (by omega)
              · simp only [gset]; split
                · rfl
                · exact cp a ha (by omega)
          · rw [gset_eq, upd_n _ _ (by decide), upd_n _ _ (by decide), keep_ne (Or.inr (by decide)), r2]
          · rw [gset_eq, upd_s]; rfl
        · intro M1 b g1 g2 g3
          have k16 : M1 16 8 = nI (nk + q) := by rw [g1 16 (by decide)]; exact entX_16 (by rw [keep_ne (Or.inl (by decide))]; exact hk) q
          have hT1 : TxX M1 ch L := hT.of g2 (by rw [g1 129 (by decide), entX_ne (Or.inr (by decide)), keep_ne (Or.inr (by decide))])
          have hpL : posK (pNx ch L) q = L := by have := (pos5 q (Nat.le_refl q)).2; omega
          have hq16 : q ≤ 16 := by have := (pos5 q (Nat.le_refl q)).1; omega
          have hnok : pOk ch L (posK (pNx ch L) q) = false := pOk_L hq2
          have fin : ∀ (M2 : gM) b2, (∀ a, a ≠ 128 → M2 a = M1 a) → M2 128 1 = M1 128 1 → gG X E M2 145 [some (.ref 0), some (.int m), some (.int (nI nk)), some (.int (nI (nk + q))), b2] [] (gQ X E (gInt fun r M' => x_enter M ch L nm nc nk ol hs true m r M')) := by
            intro M2 b2 f1 f2
            refine g_aload_n (i := 0) hX dX7_enter_145 rfl rfl rfl ?_
            refine g_getR hX fl_X7_10 rfl rfl dX7_enter_146 rfl ?_
            refine g_getR hX fl_X7_103 rfl rfl dX7_enter_149 rfl ?_
            refine g_getIv (x := nI (nk + q)) hX fl_X7_140 rfl rfl ((by rw [f1 16 (by decide)]; exact k16)) dX7_enter_152 rfl ?_
            refine g_iload_n (i := 2) hX dX7_enter_155 rfl rfl rfl ?_
            refine g_isubN hX dX7_enter_156 (by omega) rfl ?_
            refine g_iret hX hR dX7_enter_157 ?_
            unfold x_enter; rw [if_pos hin, if_pos ⟨rfl, hz⟩, many, show nk + q - nk = q by omega]; exact ⟨rfl, f2.trans g2, fun a ha => (f1 a ha).trans (g1 a ha)⟩
          refine g_iload_n (i := 3) hX dX7_enter_70 rfl rfl rfl ?_
          refine g_bipush hX dX7_enter_71 bc_30 rfl ?_
          first | refine g_icmp_geN (tgt := 145) hX dX7_enter_73 (by decide) rfl (by omega) (by omega) (fun zc73 => ?_) (fun zc73 => ?_) | refine g_icmp_ge (tgt := 145) hX dX7_enter_73 (by decide) rfl (fun zc73 => ?_) (fun zc73 => ?_)
          · skip
            first
            | exact fin _ _ (fun _ _ => rfl) rfl
            | exact fin _ _ r1 r2
          · skip
            refine g_aload_n (i := 0) hX dX7_enter_76 rfl rfl rfl ?_
            refine g_getR hX fl_X7_26 rfl rfl dX7_enter_77 rfl ?_
            refine g_callVi hX (c_X6_readComment E M1 ch L (posK (pNx ch L) q) hT1 g3 (by omega)) kf_X6_readComment rfl wk_X7_258 rfl rfl rfl rfl rfl dX7_enter_80 rfl (fun x80 M80 h80 => ?_)
            obtain ⟨rfl, r1, r2, r3, r4⟩ := h80
            rw [hnok]
            refine g_if_eq (tgt := 145) hX dX7_enter_83 (by decide) rfl (fun zc83 => ?_) (fun zc83 => absurd rfl zc83)
            first
            | exact fin _ _ (fun _ _ => rfl) rfl
            | exact fin _ _ r1 r2
        · intro k hk' ih M1 b g1 g2 g3
          obtain ⟨k1, k2⟩ := hq3 k hk'
          have hk30 : nk + k < 30 := by
            rcases hqk with h | h
            · omega
            · omega
          have k16 : M1 16 8 = nI (nk + k) := by rw [g1 16 (by decide)]; exact entX_16 (by rw [keep_ne (Or.inl (by decide))]; exact hk) k
          have hT1 : TxX M1 ch L := hT.of g2 (by rw [g1 129 (by decide), entX_ne (Or.inr (by decide)), keep_ne (Or.inr (by decide))])
          have hok : pOk ch L (posK (pNx ch L) k) = true := by
            cases hp : pOk ch L (posK (pNx ch L) k) with
            | true => rfl
            | false => simp [whyB, hp] at k2
          have hpk := (pos5 k (by omega)).2
          have m8 : M1 8 = M 8 := by rw [g1 8 (by decide), entX_ne (Or.inl (by decide)), keep_ne (Or.inl (by decide))]
          have m7 : M1 7 6 = nI nc := by rw [g1 7 (by decide), entX_ne (Or.inl (by decide)), keep_ne (Or.inl (by decide))]; exact hc
          have K8 : m_keep M ol hs 8 = M 8 := keep_ne (Or.inl (by decide))
          cases hf : fndTo nc (fun q => decide (M 8 q = nI (pCl ch L (posK (pNx ch L) k)))) with
          | none => simp [whyB, hok, hf] at k2
          | some p =>
            have hp := (fndTo_some hf).1
            refine g_iload_n (i := 3) hX dX7_enter_70 rfl rfl rfl ?_
            refine g_bipush hX dX7_enter_71 bc_30 rfl ?_
            first | refine g_icmp_geN (tgt := 145) hX dX7_enter_73 (by decide) rfl (by omega) (by omega) (fun zc73 => absurd zc73 (by omega)) (fun zc73 => ?_) | refine g_icmp_ge (tgt := 145) hX dX7_enter_73 (by decide) rfl (fun zc73 => absurd zc73 (by omega)) (fun zc73 => ?_)
            refine g_aload_n (i := 0) hX dX7_enter_76 rfl rfl rfl ?_
            refine g_getR hX fl_X7_26 rfl rfl dX7_enter_77 rfl ?_
            refine g_callVi hX (c_X6_readComment E M1 ch L (posK (pNx ch L) k) hT1 g3 (by omega)) kf_X6_readComment rfl wk_X7_258 rfl rfl rfl rfl rfl dX7_enter_80 rfl (fun x80 M80 h80 => ?_)
            obtain ⟨rfl, r1, r2, r3, r4⟩ := h80
            obtain ⟨r5, r6, r7, r8⟩ := r4 hok
            rw [hok]
            refine g_if_eq (tgt := 145) hX dX7_enter_83 (by decide) rfl (fun zc83 => absurd zc83 (by decide)) (fun zc83 => ?_)
            refine g_aload_n (i := 0) hX dX7_enter_86 rfl rfl rfl ?_
            refine g_getR hX fl_X7_10 rfl rfl dX7_enter_87 rfl ?_
            refine g_getR hX fl_X7_61 rfl rfl dX7_enter_90 rfl ?_
            refine g_aload_n (i := 0) hX dX7_enter_93 rfl rfl rfl ?_
            refine g_getR hX fl_X7_26 rfl rfl dX7_enter_94 rfl ?_
            refine g_getIv (x := nI (pCl ch L (posK (pNx ch L) k))) hX fl_X7_262 rfl rfl (r6) dX7_enter_97 rfl ?_
            refine g_callVi hX (c_X2_find E _ nc (nI (pCl ch L (posK (pNx ch L) k))) (by rw [r1 7 (by decide)]; exact m7) hcb) kf_X2_find rfl wk_X7_65 rfl rfl rfl rfl rfl dX7_enter_100 rfl (fun x100 M100 h100 => ?_)
            obtain ⟨hx, hm0⟩ := h100; have hm0 := hm0.symm; subst hm0; rw [r1 8 (by decide), m8, hf] at hx; subst hx
            refine g_istore hX dX7_enter_103 (Nat.le_of_ble_eq_true rfl) rfl ?_
            refine g_iload hX dX7_enter_105 rfl rfl ?_
            refine g_iconst hX dX7_enter_107 ic_m1 rfl ?_
            refine g_icmp_eq (tgt := 139) hX dX7_enter_108 (by decide) rfl (fun zc108 => absurd zc108 (nI_ne_m1 (by omega))) (fun zc108 => ?_)
            refine g_aload_n (i := 0) hX dX7_enter_111 rfl rfl rfl ?_
            refine g_getR hX fl_X7_10 rfl rfl dX7_enter_112 rfl ?_
            refine g_getR hX fl_X7_103 rfl rfl dX7_enter_115 rfl ?_
            refine g_iload_n (i := 1) hX dX7_enter_118 rfl rfl rfl ?_
            refine g_iload hX dX7_enter_119 rfl rfl ?_
            refine g_aload_n (i := 0) hX dX7_enter_121 rfl rfl rfl ?_
            refine g_getR hX fl_X7_26 rfl rfl dX7_enter_122 rfl ?_
            refine g_getIv (x := nI (pKd ch L (posK (pNx ch L) k))) hX fl_X7_265 rfl rfl (r7) dX7_enter_125 rfl ?_
            refine g_aload_n (i := 0) hX dX7_enter_128 rfl rfl rfl ?_
            refine g_getR hX fl_X7_26 rfl rfl dX7_enter_129 rfl ?_
            refine g_getIv (x := nI (pVal ch L (posK (pNx ch L) k))) hX fl_X7_267 rfl rfl (r8) dX7_enter_132 rfl ?_
            refine g_callVi hX (c_X1_append E _ (nk + k) m (nI p) _ _ (by rw [r1 16 (by decide)]; exact k16) hk30) kf_X1_append rfl wk_X7_178 rfl rfl rfl rfl rfl dX7_enter_135 rfl (fun x135 M135 h135 => ?_)
            obtain ⟨rfl, hMq⟩ := h135; have hMq := hMq.symm; subst hMq
            refine g_pop hX dX7_enter_138 rfl rfl ?_
            first | refine g_iincN hX dX7_enter_139 ic_1 rfl (Nat.le_of_ble_eq_true rfl) rfl ?_ | refine g_iinc hX dX7_enter_139 ic_1 rfl rfl (Nat.le_of_ble_eq_true rfl) rfl ?_
            refine g_goto (n := 70) hX dX7_enter_142 (by decide) ?_
            refine ih _ _ (fun a ha => ?_) ?_ ?_
            · have e : optI (-1) (fndTo nc (fun q => decide (m_keep M ol hs 8 q = nI (pCl ch L (posK (pNx ch L) k))))) = nI p := by rw [K8, hf]; rfl
              simp only [entX, e]
              exact m_comment_congr (fun b hb => (r1 b hb).trans (g1 b hb)) ha
            · rw [m_comment_ne (Or.inr (by decide))]; exact r2.trans g2
            · rw [m_comment_ne (Or.inr (by decide))]; exact r5
      · skip
        refine g_aload_n (i := 0) hX dX7_enter_0 rfl rfl rfl ?_
        refine g_getR hX fl_X7_10 rfl rfl dX7_enter_1 rfl ?_
        refine g_getR hX fl_X7_30 rfl rfl dX7_enter_4 rfl ?_
        refine g_iload_n (i := 1) hX dX7_enter_7 rfl rfl rfl ?_
        refine g_callVi hX (c_X4_has E M nm m hm hmb) kf_X4_has rfl wk_X7_85 rfl rfl rfl rfl rfl dX7_enter_8 rfl (fun x8 M8 h8 => ?_)
        obtain ⟨rfl, hMq⟩ := h8; have hMq := hMq.symm; subst hMq
        first | refine g_if_neB (tgt := 16) hX dX7_enter_11 (by decide) rfl (fun zc11 => ?_) (fun zc11 => Bool.noConfusion (hin.symm.trans zc11)) | refine g_if_ne (tgt := 16) hX dX7_enter_11 (by decide) rfl (fun zc11 => ?_) (fun zc11 => Bool.noConfusion (hin.symm.trans zc11))
        refine g_aload_n (i := 0) hX dX7_enter_16 rfl rfl rfl ?_
        refine g_getR hX fl_X7_10 rfl rfl dX7_enter_17 rfl ?_
        refine g_getR hX fl_X7_52 rfl rfl dX7_enter_20 rfl ?_
        refine g_getIv (x := nI 1) hX fl_X7_136 rfl rfl (hop) dX7_enter_23 rfl ?_
        refine g_if_eq (tgt := 36) hX dX7_enter_26 (by decide) rfl (fun zc26 => absurd zc26 (by decide)) (fun zc26 => ?_)
        refine g_aload_n (i := 0) hX dX7_enter_29 rfl rfl rfl ?_
        refine g_callVi hX (c_X7_firstFault E hW hT) kf_X7_firstFault rfl wk_X7_249 rfl rfl rfl rfl rfl dX7_enter_30 rfl (fun x30 M30 h30 => ?_)
        obtain ⟨hx, r1, r2, r3⟩ := h30; subst hx
        refine g_if_eq (tgt := 39) hX dX7_enter_33 (by decide) rfl (fun zc33 => absurd zc33 (nI_ne0 (by omega) (by omega))) (fun zc33 => ?_)
        refine g_bipush hX dX7_enter_36 bc_m2 rfl ?_
        refine g_iret hX hR dX7_enter_38 ?_
        unfold x_enter; rw [if_pos hin, if_neg (fun q => hz q.2)]; exact ⟨rfl, r2, r1⟩
end

