/-! the reference: appeals, text -/
def tkN (N : Nat → Int32) (c p nk : Nat) : Bool := decide (vSt N c < 4) && (bestTo nk (behB (vCc N) (vSt (upd N (973 + 8 * c + 4) 1)) (vGv N) (vCc N c) (vPr N p)) (turnB (vTn N))).isNone
def rp1N (N : Nat → Int32) (c p nk : Nat) : Nat → Int32 := if tkN N c p nk = true then upd (upd N (973 + 8 * c + 4) 1) (73 + 45 * p + 1) (vBg N p) else upd N (973 + 8 * c + 4) 1
def rpN (N : Nat → Int32) (c p nk : Nat) (br : Bool) : Nat → Int32 := if br = true then upd (upd (rp1N N c p nk) 11 0) 2 (N 2 - 1) else rp1N N c p nk
theorem rp1N_lo {N : Nat → Int32} {c p nk j : Nat} (h : j < 73) : rp1N N c p nk j = N j := by
  unfold rp1N; split
  · rw [upd_n _ _ (by omega), upd_n _ _ (by omega)]
  · rw [upd_n _ _ (by omega)]
theorem c_X8_reopens (E : gE) (M : gM) (nc nk c p : Nat) (br : Bool) (hc : M 131 1 = nI nc) (hcb : nc ≤ 20) (hk : M 131 9 = nI nk) (hkb : nk ≤ 30) (hcn : c < nk) (hpn : p < nc) (hp : fndTo nc (fun q => decide (vNb (M 131) q = vCc (M 131) c)) = some p) (hbr : M 131 11 = gB br) : gMet E k_X8_reopens [.ref 130, .int (nI c)] M (gVoid fun M' => M' = gset M 131 (rpN (M 131) c p nk br)) := by
  refine gMet.of (by decide +kernel) rfl (Nat.le_of_ble_eq_true rfl) (fun X hX hR => ?_)
  have go85 : ∀ c1 c2 c3 c4 c5, gG X E (gset M 131 (rp1N (M 131) c p nk)) 85 [some (.ref 130), c1, c2, c3, c4, c5] [] (gQ X E (gVoid fun M' => M' = gset M 131 (rpN (M 131) c p nk br))) := by
    intro c1 c2 c3 c4 c5
    cases br with
    | true =>
      refine g_aload_n (i := 0) hX dX8_reopens_85 rfl rfl rfl ?_
      refine g_getR hX fl_X8_7 rfl rfl dX8_reopens_86 rfl ?_
      refine g_bipush hX dX8_reopens_89 bc_11 rfl ?_
      refine g_ialdv (x := nI 1) hX rfl (rfl) (by omega) rfl (by rw [gset_eq, rp1N_lo (by decide)]; exact hbr) dX8_reopens_91 rfl ?_
      refine g_iconst hX dX8_reopens_92 ic_1 rfl ?_
      refine g_icmp_ne (tgt := 114) hX dX8_reopens_93 (by decide) rfl (fun zc93 => absurd rfl zc93) (fun zc93 => ?_)
      refine g_aload_n (i := 0) hX dX8_reopens_96 rfl rfl rfl ?_
      refine g_getR hX fl_X8_7 rfl rfl dX8_reopens_97 rfl ?_
      refine g_bipush hX dX8_reopens_100 bc_11 rfl ?_
      refine g_iconst hX dX8_reopens_102 ic_0 rfl ?_
      refine g_iast hX rfl (rfl) (by omega) rfl dX8_reopens_103 rfl ?_
      refine g_aload_n (i := 0) hX dX8_reopens_104 rfl rfl rfl ?_
      refine g_getR hX fl_X8_7 rfl rfl dX8_reopens_105 rfl ?_
      refine g_iconst hX dX8_reopens_108 ic_2 rfl ?_
      refine g_dup2 hX dX8_reopens_109 rfl rfl rfl ?_
      refine g_ialdv (x := M 131 2) hX rfl (rfl) (by omega) rfl (by simp only [gset_eq]; rw [upd_n _ _ (by decide), rp1N_lo (by decide)]) dX8_reopens_110 rfl ?_
      refine g_iconst hX dX8_reopens_111 ic_1 rfl ?_
      refine g_isub hX dX8_reopens_112 rfl ?_
      refine g_iast hX rfl (rfl) (by omega) rfl dX8_reopens_113 rfl ?_
      refine g_vret hX hR dX8_reopens_114 ?_
      simp only [gset_gset, gset_eq]; rfl
    | false =>
      refine g_aload_n (i := 0) hX dX8_reopens_85 rfl rfl rfl ?_
      refine g_getR hX fl_X8_7 rfl rfl dX8_reopens_86 rfl ?_
      refine g_bipush hX dX8_reopens_89 bc_11 rfl ?_
      refine g_ialdv (x := nI 0) hX rfl (rfl) (by omega) rfl (by rw [gset_eq, rp1N_lo (by decide)]; exact hbr) dX8_reopens_91 rfl ?_
      refine g_iconst hX dX8_reopens_92 ic_1 rfl ?_
      refine g_icmp_ne (tgt := 114) hX dX8_reopens_93 (by decide) rfl (fun zc93 => ?_) (fun zc93 => absurd zc93 (by decide))
      refine g_vret hX hR dX8_reopens_114 ?_
      rfl
  refine g_iload_n (i := 1) hX dX8_reopens_0 rfl rfl rfl ?_
  refine g_callSi hX (c_X8_commentAt E M c) kf_X8_commentAt rfl wk_X8_48 rfl rfl rfl rfl dX8_reopens_1 rfl (fun x1 M1 h1 => ?_)
  obtain ⟨rfl, hMq⟩ := h1; have hMq := hMq.symm; subst hMq
  refine g_istore_n (i := 2) hX dX8_reopens_4 rfl (Nat.le_of_ble_eq_true rfl) rfl ?_
  refine g_aload_n (i := 0) hX dX8_reopens_5 rfl rfl rfl ?_
  refine g_getR hX fl_X8_7 rfl rfl dX8_reopens_6 rfl ?_
  refine g_iload_n (i := 2) hX dX8_reopens_9 rfl rfl rfl ?_
  refine g_iconst hX dX8_reopens_10 ic_4 rfl ?_
  first | refine g_iaddN hX dX8_reopens_11 rfl ?_ | refine g_iadd hX dX8_reopens_11 rfl ?_
  refine g_ialdv (x := vSt (M 131) c) hX rfl (rfl) (by omega) rfl (rfl) dX8_reopens_12 rfl ?_
  refine g_istore_n (i := 3) hX dX8_reopens_13 rfl (Nat.le_of_ble_eq_true rfl) rfl ?_
  refine g_aload_n (i := 0) hX dX8_reopens_14 rfl rfl rfl ?_
  refine g_getR hX fl_X8_7 rfl rfl dX8_reopens_15 rfl ?_
  refine g_iload_n (i := 2) hX dX8_reopens_18 rfl rfl rfl ?_
  refine g_iconst hX dX8_reopens_19 ic_1 rfl ?_
  first | refine g_iaddN hX dX8_reopens_20 rfl ?_ | refine g_iadd hX dX8_reopens_20 rfl ?_
  refine g_iald hX rfl (rfl) (by omega) rfl dX8_reopens_21 rfl ?_
  refine g_istore hX dX8_reopens_22 (Nat.le_of_ble_eq_true rfl) rfl ?_
  refine g_aload_n (i := 0) hX dX8_reopens_24 rfl rfl rfl ?_
  refine g_iload hX dX8_reopens_25 rfl rfl ?_
  refine g_callVi hX (c_X8_indexOf E M nc _ hc hcb) kf_X8_indexOf rfl wk_X8_41 rfl rfl rfl rfl rfl dX8_reopens_27 rfl (fun x27 M27 h27 => ?_)
  obtain ⟨hx, hm0⟩ := h27; have hm0 := hm0.symm; subst hm0; rw [hp] at hx; subst hx
  refine g_callSi hX (c_X8_clauseAt E M p) kf_X8_clauseAt rfl wk_X8_34 rfl rfl rfl rfl dX8_reopens_30 rfl (fun x30 M30 h30 => ?_)
  obtain ⟨rfl, hMq⟩ := h30; have hMq := hMq.symm; subst hMq
  refine g_istore hX dX8_reopens_33 (Nat.le_of_ble_eq_true rfl) rfl ?_
  refine g_aload_n (i := 0) hX dX8_reopens_35 rfl rfl rfl ?_
  refine g_getR hX fl_X8_7 rfl rfl dX8_reopens_36 rfl ?_
  refine g_iload_n (i := 2) hX dX8_reopens_39 rfl rfl rfl ?_
  refine g_iconst hX dX8_reopens_40 ic_4 rfl ?_
  first | refine g_iaddN hX dX8_reopens_41 rfl ?_ | refine g_iadd hX dX8_reopens_41 rfl ?_
  refine g_iconst hX dX8_reopens_42 ic_1 rfl ?_
  refine g_iast hX rfl (rfl) (by omega) rfl dX8_reopens_43 rfl ?_
  refine g_iload_n (i := 3) hX dX8_reopens_44 rfl rfl rfl ?_
  refine g_iconst hX dX8_reopens_45 ic_4 rfl ?_
  refine g_icmp_ge (tgt := 85) hX dX8_reopens_46 (by decide) rfl (fun zc46 => ?_) (fun zc46 => ?_)
  · skip
    have zt : tkN (M 131) c p nk = false := by simp only [tkN]; rw [decide_eq_false (show ¬ vSt (M 131) c < 4 from Int32.not_lt.mpr zc46)]; rfl
    first
    | exact gGM (by rw [rp1N, if_neg (fun q => Bool.noConfusion (q.symm.trans zt))] <;> rfl) (go85 _ _ _ _ _)
    | exact gGM (by rw [rp1N, if_pos zt, gset_gset] <;> rfl) (go85 _ _ _ _ _)
  · skip
    have zl : vSt (M 131) c < 4 := Int32.not_le.mp zc46
    refine g_aload_n (i := 0) hX dX8_reopens_49 rfl rfl rfl ?_
    refine g_iload hX dX8_reopens_50 rfl rfl ?_
    refine g_aload_n (i := 0) hX dX8_reopens_52 rfl rfl rfl ?_
    refine g_getR hX fl_X8_7 rfl rfl dX8_reopens_53 rfl ?_
    refine g_iload hX dX8_reopens_56 rfl rfl ?_
    refine g_iconst hX dX8_reopens_58 ic_1 rfl ?_
    first | refine g_iaddN hX dX8_reopens_59 rfl ?_ | refine g_iadd hX dX8_reopens_59 rfl ?_
    refine g_ialdv (x := vPr (M 131) p) hX rfl (rfl) (by omega) rfl (by rw [gset_eq]; exact upd_n _ _ (by omega)) dX8_reopens_60 rfl ?_
    refine g_callVi hX (c_X8_giver E _ nk _ _ (by rw [gset_eq, upd_n _ _ (by omega)]; exact hk) hkb) kf_X8_giver rfl wk_X8_97 rfl rfl rfl rfl rfl dX8_reopens_61 rfl (fun x61 M61 h61 => ?_)
    obtain ⟨rfl, hMq⟩ := h61; have hMq := hMq.symm; subst hMq
    have eb : behB (vCc (upd (M 131) (973 + 8 * c + 4) 1)) (vSt (upd (M 131) (973 + 8 * c + 4) 1)) (vGv (upd (M 131) (973 + 8 * c + 4) 1)) (vCc (M 131) c) (vPr (M 131) p) = behB (vCc (M 131)) (vSt (upd (M 131) (973 + 8 * c + 4) 1)) (vGv (M 131)) (vCc (M 131) c) (vPr (M 131) p) := by
      funext q; simp only [behB, vCc, vGv, upd_n (M 131) 1 (show 973 + 8 * q + 1 ≠ 973 + 8 * c + 4 by omega), upd_n (M 131) 1 (show 973 + 8 * q + 6 ≠ 973 + 8 * c + 4 by omega)]
    have et : turnB (vTn (upd (M 131) (973 + 8 * c + 4) 1)) = turnB (vTn (M 131)) := by
      funext q b; simp only [turnB, vTn, upd_n (M 131) 1 (show 973 + 8 * q + 7 ≠ 973 + 8 * c + 4 by omega), upd_n (M 131) 1 (show 973 + 8 * b + 7 ≠ 973 + 8 * c + 4 by omega)]
    simp only [gset_eq]; rw [show (nI 1) = 1 from rfl, eb, et]
    refine g_if_ge (tgt := 85) hX dX8_reopens_64 (by decide) rfl (fun zc64 => ?_) (fun zc64 => ?_)
    · skip
      have zt : tkN (M 131) c p nk = false := by
        simp only [tkN]; rw [decide_eq_true zl, Bool.true_and]
        cases hq : bestTo nk (behB (vCc (M 131)) (vSt (upd (M 131) (973 + 8 * c + 4) 1)) (vGv (M 131)) (vCc (M 131) c) (vPr (M 131) p)) (turnB (vTn (M 131))) with
        | some k => rfl
        | none => rw [hq] at zc64; exact absurd zc64 (by decide)
      first
      | exact gGM (by rw [rp1N, if_neg (fun q => Bool.noConfusion (q.symm.trans zt))] <;> rfl) (go85 _ _ _ _ _)
      | exact gGM (by rw [rp1N, if_pos zt, gset_gset] <;> rfl) (go85 _ _ _ _ _)
    · skip
      have zt : tkN (M 131) c p nk = true := by
        simp only [tkN]; rw [decide_eq_true zl, Bool.true_and]
        cases hq : bestTo nk (behB (vCc (M 131)) (vSt (upd (M 131) (973 + 8 * c + 4) 1)) (vGv (M 131)) (vCc (M 131) c) (vPr (M 131) p)) (turnB (vTn (M 131))) with
        | none => rfl
        | some k => rw [hq] at zc64; exact absurd (show (0 : Int32) ≤ optI (-1) (some k) from Int32.not_lt.mp (nI_pos (show k < 2 ^ 31 by have := (bestTo_lt hq).1; omega))) zc64
      refine g_aload_n (i := 0) hX dX8_reopens_67 rfl rfl rfl ?_
      refine g_getR hX fl_X8_7 rfl rfl dX8_reopens_68 rfl ?_
      refine g_iload hX dX8_reopens_71 rfl rfl ?_
      refine g_iconst hX dX8_reopens_73 ic_1 rfl ?_
      first | refine g_iaddN hX dX8_reopens_74 rfl ?_ | refine g_iadd hX dX8_reopens_74 rfl ?_
      refine g_aload_n (i := 0) hX dX8_reopens_75 rfl rfl rfl ?_
      refine g_getR hX fl_X8_7 rfl rfl dX8_reopens_76 rfl ?_
      refine g_iload hX dX8_reopens_79 rfl rfl ?_
      refine g_iconst hX dX8_reopens_81 ic_2 rfl ?_
      first | refine g_iaddN hX dX8_reopens_82 rfl ?_ | refine g_iadd hX dX8_reopens_82 rfl ?_
      refine g_ialdv (x := vBg (M 131) p) hX rfl (rfl) (by omega) rfl (by rw [gset_eq]; exact upd_n _ _ (by omega)) dX8_reopens_83 rfl ?_
      refine g_iast hX rfl (rfl) (by omega) rfl dX8_reopens_84 rfl ?_
      first
      | exact gGM (by rw [rp1N, if_neg (fun q => Bool.noConfusion (q.symm.trans zt))] <;> rfl) (go85 _ _ _ _ _)
      | exact gGM (by rw [rp1N, if_pos zt, gset_gset] <;> rfl) (go85 _ _ _ _ _)
theorem and1_01 (x : Int32) : x &&& 1 = 0 ∨ x &&& 1 = 1 := by
  have h : x &&& 1 = Int32.ofBitVec (x.toBitVec &&& 1#32) := rfl
  rw [h]
  have : x.toBitVec &&& 1#32 = 0#32 ∨ x.toBitVec &&& 1#32 = 1#32 := by
    generalize x.toBitVec = b
    have h1 : (b &&& 1#32).toNat = b.toNat % 2 := by rw [BitVec.toNat_and]; exact Nat.and_one_is_mod b.toNat
    rcases Nat.mod_two_eq_zero_or_one b.toNat with q | q
    · exact Or.inl (BitVec.eq_of_toNat_eq (h1.trans q))
    · exact Or.inr (BitVec.eq_of_toNat_eq (h1.trans q))
  rcases this with q | q
  · rw [q]; exact Or.inl rfl
  · rw [q]; exact Or.inr rfl
def y_type (M : gM) (L : Nat) (c : Int32) : Int32 × gM := if inI c (nI 32) (nI 126) = true then (if L = 80 then (-3, M) else (nI (L + 1), gset (gset M 133 (upd (M 133) L c)) 130 (upd (M 130) 4 (nI (L + 1))))) else (-1, M)
theorem c_X8_type (E : gE) (M : gM) (L : Nat) (c : Int32) (hL : M 130 4 = nI L) (hb : L ≤ 80) : gMet E k_X8_type [.ref 130, .int c] M (gInt fun r M' => (r, M') = y_type M L c) := by
  refine gMet.of (by decide +kernel) rfl (Nat.le_of_ble_eq_true rfl) (fun X hX hR => ?_)
  cases hi : inI c (nI 32) (nI 126) with
  | false =>
    have e : y_type M L c = (-1, M) := by rw [y_type, if_neg (fun q => Bool.noConfusion (q.symm.trans hi))]
    rw [e]
    refine g_iload_n (i := 1) hX dX8_type_0 rfl rfl rfl ?_
    refine g_bipush hX dX8_type_1 bc_32 rfl ?_
    refine g_bipush hX dX8_type_3 bc_126 rfl ?_
    refine g_callSi hX (c_X8_in E M _ _ _) kf_X8_in rfl wk_X8_23 rfl rfl rfl rfl dX8_type_5 rfl (fun x5 M5 h5 => ?_)
    obtain ⟨rfl, hMq⟩ := h5; have hMq := hMq.symm; subst hMq
    first | refine g_if_neB (tgt := 13) hX dX8_type_8 (by decide) rfl (fun zc8 => Bool.noConfusion (hi.symm.trans zc8)) (fun zc8 => ?_) | refine g_if_ne (tgt := 13) hX dX8_type_8 (by decide) rfl (fun zc8 => Bool.noConfusion (hi.symm.trans zc8)) (fun zc8 => ?_)
    refine g_iconst hX dX8_type_11 ic_m1 rfl ?_
    refine g_iret hX hR dX8_type_12 ?_
    rfl
  | true =>
    have e : y_type M L c = if L = 80 then (-3, M) else (nI (L + 1), gset (gset M 133 (upd (M 133) L c)) 130 (upd (M 130) 4 (nI (L + 1)))) := if_pos hi
    rw [e]
    refine g_iload_n (i := 1) hX dX8_type_0 rfl rfl rfl ?_
    refine g_bipush hX dX8_type_1 bc_32 rfl ?_
    refine g_bipush hX dX8_type_3 bc_126 rfl ?_
    refine g_callSi hX (c_X8_in E M _ _ _) kf_X8_in rfl wk_X8_23 rfl rfl rfl rfl dX8_type_5 rfl (fun x5 M5 h5 => ?_)
    obtain ⟨rfl, hMq⟩ := h5; have hMq := hMq.symm; subst hMq
    first | refine g_if_neB (tgt := 13) hX dX8_type_8 (by decide) rfl (fun zc8 => ?_) (fun zc8 => Bool.noConfusion (hi.symm.trans zc8)) | refine g_if_ne (tgt := 13) hX dX8_type_8 (by decide) rfl (fun zc8 => ?_) (fun zc8 => Bool.noConfusion (hi.symm.trans zc8))
    refine g_aload_n (i := 0) hX dX8_type_13 rfl rfl rfl ?_
    refine g_getIv (x := nI L) hX fl_X8_70 rfl rfl (hL) dX8_type_14 rfl ?_
    refine g_bipush hX dX8_type_17 bc_80 rfl ?_
    first | refine g_icmp_neN (tgt := 25) hX dX8_type_19 (by decide) rfl (by omega) (by omega) (fun zc19 => ?_) (fun zc19 => ?_) | refine g_icmp_ne (tgt := 25) hX dX8_type_19 (by decide) rfl (fun zc19 => ?_) (fun zc19 => ?_)
    · skip
      refine g_aload_n (i := 0) hX dX8_type_25 rfl rfl rfl ?_
      refine g_getR hX fl_X8_16 rfl rfl dX8_type_26 rfl ?_
      refine g_aload_n (i := 0) hX dX8_type_29 rfl rfl rfl ?_
      refine g_getIv (x := nI L) hX fl_X8_70 rfl rfl (hL) dX8_type_30 rfl ?_
      refine g_iload_n (i := 1) hX dX8_type_33 rfl rfl rfl ?_
      refine g_iast hX rfl (rfl) (by omega) rfl dX8_type_34 rfl ?_
      refine g_aload_n (i := 0) hX dX8_type_35 rfl rfl rfl ?_
      refine g_dup hX dX8_type_36 rfl rfl ?_
      refine g_getIv (x := nI L) hX fl_X8_70 rfl rfl (by rw [gset_ne _ _ (by decide)]; exact hL) dX8_type_37 rfl ?_
      refine g_iconst hX dX8_type_40 ic_1 rfl ?_
      first | refine g_iaddN hX dX8_type_41 rfl ?_ | refine g_iadd hX dX8_type_41 rfl ?_
      refine g_putI hX fp_X8_70 rfl rfl dX8_type_42 rfl ?_
      refine g_aload_n (i := 0) hX dX8_type_45 rfl rfl rfl ?_
      refine g_getIv (x := nI (L + 1)) hX fl_X8_70 rfl rfl (rfl) dX8_type_46 rfl ?_
      refine g_iret hX hR dX8_type_49 ?_
      rw [if_neg zc19]; rfl
    · skip
      refine g_bipush hX dX8_type_22 bc_m3 rfl ?_
      refine g_iret hX hR dX8_type_24 ?_
      rw [if_pos zc19]
def y_clear (M : gM) (L : Nat) : Int32 × gM := (nI L, gset M 130 (upd (M 130) 4 0))
theorem c_X8_clearText (E : gE) (M : gM) (L : Nat) (hL : M 130 4 = nI L) : gMet E k_X8_clearText [.ref 130] M (gInt fun r M' => (r, M') = y_clear M L) := by
  refine gMet.of (by decide +kernel) rfl (Nat.le_of_ble_eq_true rfl) (fun X hX hR => ?_)
  refine g_aload_n (i := 0) hX dX8_clearText_0 rfl rfl rfl ?_
  refine g_getIv (x := nI L) hX fl_X8_70 rfl rfl (hL) dX8_clearText_1 rfl ?_
  refine g_istore_n (i := 1) hX dX8_clearText_4 rfl (Nat.le_of_ble_eq_true rfl) rfl ?_
  refine g_aload_n (i := 0) hX dX8_clearText_5 rfl rfl rfl ?_
  refine g_iconst hX dX8_clearText_6 ic_0 rfl ?_
  refine g_putI hX fp_X8_70 rfl rfl dX8_clearText_7 rfl ?_
  refine g_iload_n (i := 1) hX dX8_clearText_10 rfl rfl rfl ?_
  refine g_iret hX hR dX8_clearText_11 ?_
  rfl

