/-! the reference: reading a comment -/
def heN (ch : Nat → Nat) (L i : Nat) : Int32 := if i < L then nI (ch i) else -1
theorem TxM.ch_lt {M : gM} {ch : Nat → Nat} {L i : Nat} (h : TxM M ch L) (hi : i < L) : 32 ≤ ch i ∧ ch i ≤ 126 := (h.2.2 i hi).2
theorem TxM.up {M : gM} {ch : Nat → Nat} {L j : Nat} {x : Int32} (hj : j ≠ 4) (h : TxM M ch L) : TxM (gset M 130 (upd (M 130) j x)) ch L :=
  ⟨by rw [gset_eq, upd_n _ _ (Ne.symm hj)]; exact h.1, h.2.1, fun i hi => by rw [gset_ne _ _ (by decide)]; exact h.2.2 i hi⟩
theorem heN_dig {M : gM} {ch : Nat → Nat} {L i : Nat} (h : TxM M ch L) : inI (heN ch L i) (nI 48) (nI 57) = digB ch L i := by
  simp only [heN, digB]
  by_cases hi : i < L
  · rw [if_pos hi, inI_nI (by decide) (by have := h.ch_lt hi; omega) (by decide), decide_eq_true hi, Bool.true_and, Bool.decide_and]
  · rw [if_neg hi, decide_eq_false hi]; rfl
theorem heN_c {M : gM} {ch : Nat → Nat} {L i c : Nat} (h : TxM M ch L) (hc : 0 < c) (hc2 : c < 127) : heN ch L i = nI c ↔ sgN ch L i = c := by
  simp only [heN, sgN]
  by_cases hi : i < L
  · rw [if_pos hi, if_pos hi, nI_eq (by have := h.ch_lt hi; omega) (by omega)]
  · rw [if_neg hi, if_neg hi]
    constructor
    · intro q
      have h1 := congrArg Int32.toInt q
      rw [nI_toInt (by omega)] at h1
      have : ((-1 : Int32)).toInt = -1 := by decide
      omega
    · intro q; omega
theorem dgN_eq {ch : Nat → Nat} {L i m d : Nat} (hd : d ≤ m) (h : ∀ e, e < d → digB ch L (i + e) = true) (h2 : d < m → digB ch L (i + d) = false) : dgN ch L i m = d := by
  simp only [dgN]
  by_cases q : d < m
  · rw [fndTo_eq q (by rw [h2 q]; rfl) (fun j hj => by rw [h j hj]; rfl)]; rfl
  · rw [fndTo_eqn (fun j hj => by rw [h j (by omega)]; rfl)]; exact (by omega : m = d)
theorem c_X8_here (E : gE) (M : gM) (ch : Nat → Nat) (L i : Nat) (hT : TxM M ch L) (hs : M 130 5 = nI i) (hi : i < 1000) : gMet E k_X8_here [.ref 130] M (gInt fun r M' => r = heN ch L i ∧ M' = M) := by
  refine gMet.of (by decide +kernel) rfl (Nat.le_of_ble_eq_true rfl) (fun X hX hR => ?_)
  obtain ⟨hL, hb, hc⟩ := hT
  by_cases hl : i < L
  · skip
    refine g_aload_n (i := 0) hX dX8_here_0 rfl rfl rfl ?_
    refine g_getIv (x := nI i) hX fl_X8_117 rfl rfl (hs) dX8_here_1 rfl ?_
    refine g_aload_n (i := 0) hX dX8_here_4 rfl rfl rfl ?_
    refine g_getIv (x := nI L) hX fl_X8_70 rfl rfl (hL) dX8_here_5 rfl ?_
    first | refine g_icmp_geN (tgt := 23) hX dX8_here_8 (by decide) rfl (by omega) (by omega) (fun zc8 => absurd zc8 (by omega)) (fun zc8 => ?_) | refine g_icmp_ge (tgt := 23) hX dX8_here_8 (by decide) rfl (fun zc8 => absurd zc8 (by omega)) (fun zc8 => ?_)
    refine g_aload_n (i := 0) hX dX8_here_11 rfl rfl rfl ?_
    refine g_getR hX fl_X8_16 rfl rfl dX8_here_12 rfl ?_
    refine g_aload_n (i := 0) hX dX8_here_15 rfl rfl rfl ?_
    refine g_getIv (x := nI i) hX fl_X8_117 rfl rfl (hs) dX8_here_16 rfl ?_
    refine g_ialdv (x := nI (ch i)) hX rfl (rfl) (by omega) rfl ((hc i hl).1) dX8_here_19 rfl ?_
    refine g_goto (n := 24) hX dX8_here_20 (by decide) ?_
    refine g_iret hX hR dX8_here_24 ?_
    exact ⟨(if_pos hl).symm, rfl⟩
  · skip
    refine g_aload_n (i := 0) hX dX8_here_0 rfl rfl rfl ?_
    refine g_getIv (x := nI i) hX fl_X8_117 rfl rfl (hs) dX8_here_1 rfl ?_
    refine g_aload_n (i := 0) hX dX8_here_4 rfl rfl rfl ?_
    refine g_getIv (x := nI L) hX fl_X8_70 rfl rfl (hL) dX8_here_5 rfl ?_
    first | refine g_icmp_geN (tgt := 23) hX dX8_here_8 (by decide) rfl (by omega) (by omega) (fun zc8 => ?_) (fun zc8 => absurd zc8 (by omega)) | refine g_icmp_ge (tgt := 23) hX dX8_here_8 (by decide) rfl (fun zc8 => ?_) (fun zc8 => absurd zc8 (by omega))
    refine g_iconst hX dX8_here_23 ic_m1 rfl ?_
    refine g_iret hX hR dX8_here_24 ?_
    exact ⟨(if_neg hl).symm, rfl⟩
def spN (M : gM) (i : Nat) : gM := gset M 130 (upd (M 130) 5 (nI i))
theorem spN_T {M : gM} {ch : Nat → Nat} {L i : Nat} (h : TxM M ch L) : TxM (spN M i) ch L := h.up (by decide)
theorem spN_5 (M : gM) (i : Nat) : spN M i 130 5 = nI i := by simp only [spN]; rw [gset_eq, upd_s]
theorem spN_sp (M : gM) (i k : Nat) : gset (spN M i) 130 (upd (spN M i 130) 5 (nI k)) = spN M k := by
  simp only [spN, gset_eq, gset_gset, upd_upd]
theorem spN_same {M : gM} {i : Nat} (h : M 130 5 = nI i) : spN M i = M := by
  simp only [spN]; rw [upd_same h, gset_self]
def vlI (ch : Nat → Nat) (i d : Nat) : Int32 := if d = 0 then -1 else nI (valN ch i d)
theorem c_X8_readNumber (E : gE) (M : gM) (ch : Nat → Nat) (L i m : Nat) (hT : TxM M ch L) (hs : M 130 5 = nI i) (hi : i < 500) (hm : m ≤ 4) : gMet E k_X8_readNumber [.ref 130, .int (nI m)] M (gInt fun r M' => r = vlI ch i (dgN ch L i m) ∧ M' = spN M (i + dgN ch L i m)) := by
  refine gMet.of (by decide +kernel) rfl (Nat.le_of_ble_eq_true rfl) (fun X hX hR => ?_)
  have loop := up_loop m (fun d => (∀ e, e < d → digB ch L (i + e) = true) → gG X E (spN M (i + d)) 9 [some (.ref 130), some (.int (nI m)), some (.int (vlI ch i d)), some (.int (nI (i + m)))] [] (gQ X E (gInt fun r M' => r = vlI ch i (dgN ch L i m) ∧ M' = spN M (i + dgN ch L i m)))) ?_ ?_
  · skip
    refine g_iconst hX dX8_readNumber_0 ic_m1 rfl ?_
    refine g_istore_n (i := 2) hX dX8_readNumber_1 rfl (Nat.le_of_ble_eq_true rfl) rfl ?_
    refine g_aload_n (i := 0) hX dX8_readNumber_2 rfl rfl rfl ?_
    refine g_getIv (x := nI i) hX fl_X8_117 rfl rfl (hs) dX8_readNumber_3 rfl ?_
    refine g_iload_n (i := 1) hX dX8_readNumber_6 rfl rfl rfl ?_
    first | refine g_iaddN hX dX8_readNumber_7 rfl ?_ | refine g_iadd hX dX8_readNumber_7 rfl ?_
    refine g_istore_n (i := 3) hX dX8_readNumber_8 rfl (Nat.le_of_ble_eq_true rfl) rfl ?_
    exact gGM (spN_same hs).symm (loop 0 (Nat.zero_le _) (fun e h => absurd h (by omega)))
  · intro h
    have e := dgN_eq (ch := ch) (L := L) (i := i) (Nat.le_refl m) h (fun q => absurd q (by omega))
    refine g_aload_n (i := 0) hX dX8_readNumber_9 rfl rfl rfl ?_
    refine g_getIv (x := nI (i + m)) hX fl_X8_117 rfl rfl (spN_5 M _) dX8_readNumber_10 rfl ?_
    refine g_iload_n (i := 3) hX dX8_readNumber_13 rfl rfl rfl ?_
    first | refine g_icmp_geN (tgt := 65) hX dX8_readNumber_14 (by decide) rfl (by omega) (by omega) (fun zc14 => ?_) (fun zc14 => absurd zc14 (by omega)) | refine g_icmp_ge (tgt := 65) hX dX8_readNumber_14 (by decide) rfl (fun zc14 => ?_) (fun zc14 => absurd zc14 (by omega))
    refine g_iload_n (i := 2) hX dX8_readNumber_65 rfl rfl rfl ?_
    refine g_iret hX hR dX8_readNumber_66 ?_
    rw [e]; exact ⟨rfl, rfl⟩
  · intro d hd ih h
    have hv : 0 < d → 0 ≤ valN ch i d ∧ valN ch i d < 10000 := by
      intro h0
      have h1 := valN_lt (ch := ch) (L := L) (i := i) d h
      have h3 : 10 ^ d ≤ 10 ^ 4 := Nat.pow_le_pow_right (by decide) (by omega)
      omega
    cases hg : digB ch L (i + d) with
    | false =>
      have e := dgN_eq (ch := ch) (L := L) (i := i) (Nat.le_of_lt hd) h (fun _ => hg)
      have hin : inI (heN ch L (i + d)) (nI 48) (nI 57) = false := (heN_dig hT).trans hg
      refine g_aload_n (i := 0) hX dX8_readNumber_9 rfl rfl rfl ?_
      refine g_getIv (x := nI (i + d)) hX fl_X8_117 rfl rfl (spN_5 M _) dX8_readNumber_10 rfl ?_
      refine g_iload_n (i := 3) hX dX8_readNumber_13 rfl rfl rfl ?_
      first | refine g_icmp_geN (tgt := 65) hX dX8_readNumber_14 (by decide) rfl (by omega) (by omega) (fun zc14 => absurd zc14 (by omega)) (fun zc14 => ?_) | refine g_icmp_ge (tgt := 65) hX dX8_readNumber_14 (by decide) rfl (fun zc14 => absurd zc14 (by omega)) (fun zc14 => ?_)
      refine g_aload_n (i := 0) hX dX8_readNumber_17 rfl rfl rfl ?_
      refine g_callVi hX (c_X8_here E _ ch L (i + d) (spN_T hT) (spN_5 M _) (by omega)) kf_X8_here rfl wk_X8_120 rfl rfl rfl rfl rfl dX8_readNumber_18 rfl (fun x18 M18 h18 => ?_)
      obtain ⟨rfl, hMq⟩ := h18; have hMq := hMq.symm; subst hMq
      refine g_bipush hX dX8_readNumber_21 bc_48 rfl ?_
      refine g_bipush hX dX8_readNumber_23 bc_57 rfl ?_
      refine g_callSi hX (c_X8_in E _ _ _ _) kf_X8_in rfl wk_X8_23 rfl rfl rfl rfl dX8_readNumber_25 rfl (fun x25 M25 h25 => ?_)
      obtain ⟨rfl, hMq⟩ := h25; have hMq := hMq.symm; subst hMq
      first | refine g_if_eqB (tgt := 65) hX dX8_readNumber_28 (by decide) rfl (fun zc28 => ?_) (fun zc28 => Bool.noConfusion (hin.symm.trans zc28)) | refine g_if_eq (tgt := 65) hX dX8_readNumber_28 (by decide) rfl (fun zc28 => ?_) (fun zc28 => Bool.noConfusion (hin.symm.trans zc28))
      refine g_iload_n (i := 2) hX dX8_readNumber_65 rfl rfl rfl ?_
      refine g_iret hX hR dX8_readNumber_66 ?_
      rw [e]; exact ⟨rfl, rfl⟩
    | true =>
      have ih := ih (fun e he => by
        by_cases q : e = d
        · subst q; exact hg
        · exact h e (by omega))
      have hin : inI (heN ch L (i + d)) (nI 48) (nI 57) = true := (heN_dig hT).trans hg
      obtain ⟨d1, d2, d3⟩ := digB_in hg
      have hh : heN ch L (i + d) = nI (ch (i + d)) := if_pos d1
      by_cases h0 : d = 0
      · subst h0
        have e00 : vlI ch i 0 = -1 := rfl
        rw [e00]
        refine g_aload_n (i := 0) hX dX8_readNumber_9 rfl rfl rfl ?_
        refine g_getIv (x := nI (i + 0)) hX fl_X8_117 rfl rfl (spN_5 M _) dX8_readNumber_10 rfl ?_
        refine g_iload_n (i := 3) hX dX8_readNumber_13 rfl rfl rfl ?_
        first | refine g_icmp_geN (tgt := 65) hX dX8_readNumber_14 (by decide) rfl (by omega) (by omega) (fun zc14 => absurd zc14 (by omega)) (fun zc14 => ?_) | refine g_icmp_ge (tgt := 65) hX dX8_readNumber_14 (by decide) rfl (fun zc14 => absurd zc14 (by omega)) (fun zc14 => ?_)
        refine g_aload_n (i := 0) hX dX8_readNumber_17 rfl rfl rfl ?_
        refine g_callVi hX (c_X8_here E _ ch L (i + 0) (spN_T hT) (spN_5 M _) (by omega)) kf_X8_here rfl wk_X8_120 rfl rfl rfl rfl rfl dX8_readNumber_18 rfl (fun x18 M18 h18 => ?_)
        obtain ⟨rfl, hMq⟩ := h18; have hMq := hMq.symm; subst hMq
        refine g_bipush hX dX8_readNumber_21 bc_48 rfl ?_
        refine g_bipush hX dX8_readNumber_23 bc_57 rfl ?_
        refine g_callSi hX (c_X8_in E _ _ _ _) kf_X8_in rfl wk_X8_23 rfl rfl rfl rfl dX8_readNumber_25 rfl (fun x25 M25 h25 => ?_)
        obtain ⟨rfl, hMq⟩ := h25; have hMq := hMq.symm; subst hMq
        first | refine g_if_eqB (tgt := 65) hX dX8_readNumber_28 (by decide) rfl (fun zc28 => Bool.noConfusion (hin.symm.trans zc28)) (fun zc28 => ?_) | refine g_if_eq (tgt := 65) hX dX8_readNumber_28 (by decide) rfl (fun zc28 => Bool.noConfusion (hin.symm.trans zc28)) (fun zc28 => ?_)
        refine g_bipush hX dX8_readNumber_31 bc_10 rfl ?_
        refine g_iload_n (i := 2) hX dX8_readNumber_33 rfl rfl rfl ?_
        refine g_if_ge (tgt := 41) hX dX8_readNumber_34 (by decide) rfl (fun zc34 => absurd zc34 (by decide)) (fun zc34 => ?_)
        refine g_iconst hX dX8_readNumber_37 ic_0 rfl ?_
        refine g_goto (n := 42) hX dX8_readNumber_38 (by decide) ?_
        first | refine g_imulN hX dX8_readNumber_42 rfl ?_ | refine g_imul hX dX8_readNumber_42 rfl ?_
        refine g_aload_n (i := 0) hX dX8_readNumber_43 rfl rfl rfl ?_
        refine g_callVi hX (c_X8_here E _ ch L (i + 0) (spN_T hT) (spN_5 M _) (by omega)) kf_X8_here rfl wk_X8_120 rfl rfl rfl rfl rfl dX8_readNumber_44 rfl (fun x44 M44 h44 => ?_)
        obtain ⟨rfl, hMq⟩ := h44; have hMq := hMq.symm; subst hMq
        rw [hh]
        first | refine g_iaddN hX dX8_readNumber_47 rfl ?_ | refine g_iadd hX dX8_readNumber_47 rfl ?_
        refine g_bipush hX dX8_readNumber_48 bc_48 rfl ?_
        refine g_isubN hX dX8_readNumber_50 (by omega) rfl ?_
        refine g_istore_n (i := 2) hX dX8_readNumber_51 rfl (Nat.le_of_ble_eq_true rfl) rfl ?_
        refine g_aload_n (i := 0) hX dX8_readNumber_52 rfl rfl rfl ?_
        refine g_dup hX dX8_readNumber_53 rfl rfl ?_
        refine g_getIv (x := nI (i + 0)) hX fl_X8_117 rfl rfl (spN_5 M _) dX8_readNumber_54 rfl ?_
        refine g_iconst hX dX8_readNumber_57 ic_1 rfl ?_
        first | refine g_iaddN hX dX8_readNumber_58 rfl ?_ | refine g_iadd hX dX8_readNumber_58 rfl ?_
        refine g_putI hX fp_X8_117 rfl rfl dX8_readNumber_59 rfl ?_
        refine g_goto (n := 9) hX dX8_readNumber_62 (by decide) ?_
        exact gGM (by rw [spN_sp] <;> rfl) (by
        have e1 : vlI ch i (0 + 1) = nI (10 * 0 + ch (i + 0) - 48) := congrArg nI (by simp only [valN] <;> omega)
        rw [e1] at ih; exact ih)
      · have e0 : vlI ch i d = nI (valN ch i d) := if_neg h0
        have hv := hv (by omega)
        rw [e0]
        refine g_aload_n (i := 0) hX dX8_readNumber_9 rfl rfl rfl ?_
        refine g_getIv (x := nI (i + d)) hX fl_X8_117 rfl rfl (spN_5 M _) dX8_readNumber_10 rfl ?_
        refine g_iload_n (i := 3) hX dX8_readNumber_13 rfl rfl rfl ?_
        first | refine g_icmp_geN (tgt := 65) hX dX8_readNumber_14 (by decide) rfl (by omega) (by omega) (fun zc14 => absurd zc14 (by omega)) (fun zc14 => ?_) | refine g_icmp_ge (tgt := 65) hX dX8_readNumber_14 (by decide) rfl (fun zc14 => absurd zc14 (by omega)) (fun zc14 => ?_)
        refine g_aload_n (i := 0) hX dX8_readNumber_17 rfl rfl rfl ?_
        refine g_callVi hX (c_X8_here E _ ch L (i + d) (spN_T hT) (spN_5 M _) (by omega)) kf_X8_here rfl wk_X8_120 rfl rfl rfl rfl rfl dX8_readNumber_18 rfl (fun x18 M18 h18 => ?_)
        obtain ⟨rfl, hMq⟩ := h18; have hMq := hMq.symm; subst hMq
        refine g_bipush hX dX8_readNumber_21 bc_48 rfl ?_
        refine g_bipush hX dX8_readNumber_23 bc_57 rfl ?_
        refine g_callSi hX (c_X8_in E _ _ _ _) kf_X8_in rfl wk_X8_23 rfl rfl rfl rfl dX8_readNumber_25 rfl (fun x25 M25 h25 => ?_)
        obtain ⟨rfl, hMq⟩ := h25; have hMq := hMq.symm; subst hMq
        first | refine g_if_eqB (tgt := 65) hX dX8_readNumber_28 (by decide) rfl (fun zc28 => Bool.noConfusion (hin.symm.trans zc28)) (fun zc28 => ?_) | refine g_if_eq (tgt := 65) hX dX8_readNumber_28 (by decide) rfl (fun zc28 => Bool.noConfusion (hin.symm.trans zc28)) (fun zc28 => ?_)
        refine g_bipush hX dX8_readNumber_31 bc_10 rfl ?_
        refine g_iload_n (i := 2) hX dX8_readNumber_33 rfl rfl rfl ?_
        refine g_if_ge (tgt := 41) hX dX8_readNumber_34 (by decide) rfl (fun zc34 => ?_) (fun zc34 => absurd (Int32.not_lt.mp (nI_pos (by omega))) zc34)
        refine g_iload_n (i := 2) hX dX8_readNumber_41 rfl rfl rfl ?_
        first | refine g_imulN hX dX8_readNumber_42 rfl ?_ | refine g_imul hX dX8_readNumber_42 rfl ?_
        refine g_aload_n (i := 0) hX dX8_readNumber_43 rfl rfl rfl ?_
        refine g_callVi hX (c_X8_here E _ ch L (i + d) (spN_T hT) (spN_5 M _) (by omega)) kf_X8_here rfl wk_X8_120 rfl rfl rfl rfl rfl dX8_readNumber_44 rfl (fun x44 M44 h44 => ?_)
        obtain ⟨rfl, hMq⟩ := h44; have hMq := hMq.symm; subst hMq
        rw [hh]
        first | refine g_iaddN hX dX8_readNumber_47 rfl ?_ | refine g_iadd hX dX8_readNumber_47 rfl ?_
        refine g_bipush hX dX8_readNumber_48 bc_48 rfl ?_
        refine g_isubN hX dX8_readNumber_50 (by omega) rfl ?_
        refine g_istore_n (i := 2) hX dX8_readNumber_51 rfl (Nat.le_of_ble_eq_true rfl) rfl ?_
        refine g_aload_n (i := 0) hX dX8_readNumber_52 rfl rfl rfl ?_
        refine g_dup hX dX8_readNumber_53 rfl rfl ?_
        refine g_getIv (x := nI (i + d)) hX fl_X8_117 rfl rfl (spN_5 M _) dX8_readNumber_54 rfl ?_
        refine g_iconst hX dX8_readNumber_57 ic_1 rfl ?_
        first | refine g_iaddN hX dX8_readNumber_58 rfl ?_ | refine g_iadd hX dX8_readNumber_58 rfl ?_
        refine g_putI hX fp_X8_117 rfl rfl dX8_readNumber_59 rfl ?_
        refine g_goto (n := 9) hX dX8_readNumber_62 (by decide) ?_
        exact gGM (by rw [spN_sp] <;> rfl) (by
        have e1 : vlI ch i (d + 1) = nI (10 * valN ch i d + ch (i + d) - 48) := congrArg nI (by simp only [valN]; omega)
        rw [e1] at ih; exact ih)
theorem c_X8_takes (E : gE) (M : gM) (ch : Nat → Nat) (L i c : Nat) (hT : TxM M ch L) (hs : M 130 5 = nI i) (hi : i < 1000) (hc : 0 < c) (hc2 : c < 127) : gMet E k_X8_takes [.ref 130, .int (nI c)] M (gInt fun r M' => r = gB (decide (sgN ch L i = c)) ∧ M' = spN M (if sgN ch L i = c then i + 1 else i)) := by
  refine gMet.of (by decide +kernel) rfl (Nat.le_of_ble_eq_true rfl) (fun X hX hR => ?_)
  have hq := heN_c (i := i) hT hc hc2
  by_cases h : sgN ch L i = c
  · skip
    refine g_aload_n (i := 0) hX dX8_takes_0 rfl rfl rfl ?_
    refine g_callVi hX (c_X8_here E M ch L i hT hs hi) kf_X8_here rfl wk_X8_120 rfl rfl rfl rfl rfl dX8_takes_1 rfl (fun x1 M1 h1 => ?_)
    obtain ⟨rfl, hMq⟩ := h1; have hMq := hMq.symm; subst hMq
    refine g_iload_n (i := 1) hX dX8_takes_4 rfl rfl rfl ?_
    refine g_icmp_ne (tgt := 12) hX dX8_takes_5 (by decide) rfl (fun zc5 => absurd (hq.mpr h) zc5) (fun zc5 => ?_)
    refine g_iconst hX dX8_takes_8 ic_1 rfl ?_
    refine g_goto (n := 13) hX dX8_takes_9 (by decide) ?_
    refine g_istore_n (i := 2) hX dX8_takes_13 rfl (Nat.le_of_ble_eq_true rfl) rfl ?_
    refine g_aload_n (i := 0) hX dX8_takes_14 rfl rfl rfl ?_
    refine g_dup hX dX8_takes_15 rfl rfl ?_
    refine g_getIv (x := nI i) hX fl_X8_117 rfl rfl (hs) dX8_takes_16 rfl ?_
    refine g_iload_n (i := 2) hX dX8_takes_19 rfl rfl rfl ?_
    refine g_if_eq (tgt := 27) hX dX8_takes_20 (by decide) rfl (fun zc20 => absurd zc20 (by decide)) (fun zc20 => ?_)
    refine g_iconst hX dX8_takes_23 ic_1 rfl ?_
    refine g_goto (n := 28) hX dX8_takes_24 (by decide) ?_
    first | refine g_iaddN hX dX8_takes_28 rfl ?_ | refine g_iadd hX dX8_takes_28 rfl ?_
    refine g_putI hX fp_X8_117 rfl rfl dX8_takes_29 rfl ?_
    refine g_iload_n (i := 2) hX dX8_takes_32 rfl rfl rfl ?_
    refine g_zret hX hR (by first | exact Or.inl rfl | exact Or.inr rfl | exact gB_01 _) dX8_takes_33 ?_
    rw [if_pos h, decide_eq_true h]; exact ⟨rfl, rfl⟩
  · skip
    refine g_aload_n (i := 0) hX dX8_takes_0 rfl rfl rfl ?_
    refine g_callVi hX (c_X8_here E M ch L i hT hs hi) kf_X8_here rfl wk_X8_120 rfl rfl rfl rfl rfl dX8_takes_1 rfl (fun x1 M1 h1 => ?_)
    obtain ⟨rfl, hMq⟩ := h1; have hMq := hMq.symm; subst hMq
    refine g_iload_n (i := 1) hX dX8_takes_4 rfl rfl rfl ?_
    refine g_icmp_ne (tgt := 12) hX dX8_takes_5 (by decide) rfl (fun zc5 => ?_) (fun zc5 => absurd (hq.mp zc5) h)
    refine g_iconst hX dX8_takes_12 ic_0 rfl ?_
    refine g_istore_n (i := 2) hX dX8_takes_13 rfl (Nat.le_of_ble_eq_true rfl) rfl ?_
    refine g_aload_n (i := 0) hX dX8_takes_14 rfl rfl rfl ?_
    refine g_dup hX dX8_takes_15 rfl rfl ?_
    refine g_getIv (x := nI i) hX fl_X8_117 rfl rfl (hs) dX8_takes_16 rfl ?_
    refine g_iload_n (i := 2) hX dX8_takes_19 rfl rfl rfl ?_
    refine g_if_eq (tgt := 27) hX dX8_takes_20 (by decide) rfl (fun zc20 => ?_) (fun zc20 => absurd rfl zc20)
    refine g_iconst hX dX8_takes_27 ic_0 rfl ?_
    first | refine g_iaddN hX dX8_takes_28 rfl ?_ | refine g_iadd hX dX8_takes_28 rfl ?_
    refine g_putI hX fp_X8_117 rfl rfl dX8_takes_29 rfl ?_
    refine g_iload_n (i := 2) hX dX8_takes_32 rfl rfl rfl ?_
    refine g_zret hX hR (by first | exact Or.inl rfl | exact Or.inr rfl | exact gB_01 _) dX8_takes_33 ?_
    rw [if_neg h, decide_eq_false h]; exact ⟨rfl, rfl⟩

