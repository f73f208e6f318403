/-! the reference: faults, entering -/
abbrev scanM (N : Nat → Int32) (ch : Nat → Nat) (L nc nk : Nat) : Nat × Nat × Nat := scan (whyB (vNb N) (vPr N) ch L nc nk) (pNx ch L) L 17 0 0
def rd1 (M M' : gM) : Prop := (∀ a, a ≠ 130 → M' a = M a) ∧ ∀ j, j < 5 ∨ 11 < j → M' 130 j = M 130 j
theorem rd1.rfl (M : gM) : rd1 M M := ⟨fun _ _ => Eq.refl _, fun _ _ => Eq.refl _⟩
theorem rd1.up {M M' : gM} {j : Nat} {x : Int32} (h : rd1 M M') (h1 : 5 ≤ j) (h2 : j ≤ 11) : rd1 M (fU M' j x) :=
  ⟨fun a ha => by rw [fU_o x ha]; exact h.1 a ha, fun k hk => by rw [fU_n x (by omega)]; exact h.2 k hk⟩
theorem rd1.T {M M' : gM} {ch : Nat → Nat} {L : Nat} (h : rd1 M M') (hT : TxM M ch L) : TxM M' ch L :=
  ⟨by rw [h.2 4 (by decide)]; exact hT.1, hT.2.1, fun i hi => by rw [h.1 133 (by decide)]; exact hT.2.2 i hi⟩
theorem rd1.tr {M M1 M2 : gM} (h : rd1 M M1) (h2 : rd0 M1 M2) : rd1 M M2 :=
  ⟨fun a ha => (h2.1 a ha).trans (h.1 a ha), fun j hj => (h2.2 j (by omega)).trans (h.2 j hj)⟩
def hfM (M M' : gM) (ch : Nat → Nat) (L nc nk : Nat) (r : Int32) : Prop := r = gB (decide ((scanM (M 131) ch L nc nk).1 ≠ 0)) ∧ rd1 M M' ∧ ((scanM (M 131) ch L nc nk).1 ≠ 0 → M' 130 9 = nI (scanM (M 131) ch L nc nk).2.1 ∧ M' 130 10 = nI (scanM (M 131) ch L nc nk).1) ∧ ((scanM (M 131) ch L nc nk).1 = 0 → M' 130 11 = nI (scanM (M 131) ch L nc nk).2.2)
theorem c_X8_hasFault (E : gE) (M : gM) (ch : Nat → Nat) (L nc nk : Nat) (hT : TxM M ch L) (hc : M 131 1 = nI nc) (hcb : nc ≤ 20) (hk : M 131 9 = nI nk) (hkb : nk ≤ 30) : gMet E k_X8_hasFault [.ref 130] M (gInt fun r M' => hfM M M' ch L nc nk r) := by
  refine gMet.of (by decide +kernel) rfl (Nat.le_of_ble_eq_true rfl) (fun X hX hR => ?_)
  have hL8 := hT.2.1
  have go110 : ∀ M2 p w k b2 b3, rd1 M M2 → 0 < w → w ≤ 4 → (w, p, k) = scanM (M 131) ch L nc nk → gG X E M2 110 [some (.ref 130), some (.int (nI p)), b2, b3, some (.int (nI w))] [] (gQ X E (gInt fun r M' => hfM M M' ch L nc nk r)) := by
    intro M2 p w k b2 b3 h0 hw hw4 hsc
    refine g_iload hX dX8_hasFault_110 rfl rfl ?_
    refine g_if_le (tgt := 128) hX dX8_hasFault_112 (by decide) rfl (fun zc112 => absurd (Int32.le_iff_toInt_le.mp zc112) (by rw [nI_toInt (by omega)]; have h00 : ((0 : Int32)).toInt = 0 := rfl; omega)) (fun zc112 => ?_)
    refine g_aload_n (i := 0) hX dX8_hasFault_115 rfl rfl rfl ?_
    refine g_iload_n (i := 1) hX dX8_hasFault_116 rfl rfl rfl ?_
    refine g_putI hX fp_X8_144 rfl rfl dX8_hasFault_117 rfl ?_
    refine g_aload_n (i := 0) hX dX8_hasFault_120 rfl rfl rfl ?_
    refine g_iload hX dX8_hasFault_121 rfl rfl ?_
    refine g_putI hX fp_X8_147 rfl rfl dX8_hasFault_123 rfl ?_
    refine g_iconst hX dX8_hasFault_126 ic_1 rfl ?_
    refine g_zret hX hR (by first | exact Or.inl rfl | exact Or.inr rfl | exact gB_01 _) dX8_hasFault_127 ?_
    refine ⟨?_, (h0.up (j := 9) (x := nI p) (by decide) (by decide)).up (j := 10) (x := nI w) (by decide) (by decide), fun _ => ⟨?_, ?_⟩, fun q => ?_⟩
    · rw [← hsc, decide_eq_true (show w ≠ 0 by omega)]; rfl
    · rw [← hsc]; show fU (fU M2 9 _) 10 _ 130 9 = _; rw [fU_n _ (by decide), fU_s]
    · rw [← hsc]; exact fU_s (fU M2 9 (nI p)) 10 _
    · rw [← hsc] at q; exact absurd q (show ¬ w = 0 by omega)
  have loop : ∀ n k p M1 b1 b2 b3 b4, rd1 M M1 → M1 130 5 = nI p → M1 130 11 = nI k → p ≤ L → 5 * k ≤ p → L < p + 5 * n → scan (whyB (vNb (M 131)) (vPr (M 131)) ch L nc nk) (pNx ch L) L n k p = scanM (M 131) ch L nc nk → gG X E M1 10 [some (.ref 130), b1, b2, b3, b4] [] (gQ X E (gInt fun r M' => hfM M M' ch L nc nk r)) := by
    intro n
    induction n with
    | zero => intro k p M1 b1 b2 b3 b4 _ _ _ _ _ h; omega
    | succ n ih =>
      intro k p M1 b1 b2 b3 b4 g1 g2 g3 g4 g5 g6 g7
      have hT1 : TxM M1 ch L := g1.T hT
      have m131 : M1 131 = M 131 := g1.1 131 (by decide)
      rw [scan] at g7
      by_cases hLp : L ≤ p
      · rw [if_pos hLp] at g7
        refine g_aload_n (i := 0) hX dX8_hasFault_10 rfl rfl rfl ?_
        refine g_getIv (x := nI p) hX fl_X8_117 rfl rfl (g2) dX8_hasFault_11 rfl ?_
        refine g_aload_n (i := 0) hX dX8_hasFault_14 rfl rfl rfl ?_
        refine g_getIv (x := nI L) hX fl_X8_70 rfl rfl (hT1.1) dX8_hasFault_15 rfl ?_
        first | refine g_icmp_geN (tgt := 141) hX dX8_hasFault_18 (by decide) rfl (by omega) (by omega) (fun zc18 => ?_) (fun zc18 => absurd zc18 (by omega)) | refine g_icmp_ge (tgt := 141) hX dX8_hasFault_18 (by decide) rfl (fun zc18 => ?_) (fun zc18 => absurd zc18 (by omega))
        refine g_iconst hX dX8_hasFault_141 ic_0 rfl ?_
        refine g_zret hX hR (by first | exact Or.inl rfl | exact Or.inr rfl | exact gB_01 _) dX8_hasFault_142 ?_
        refine ⟨by rw [← g7]; rfl, g1, fun q => absurd (by rw [← g7]) q, fun _ => by rw [← g7]; exact g3⟩
      · rw [if_neg hLp] at g7
        cases hok : pOk ch L p with
        | false =>
          have hw : whyB (vNb (M 131)) (vPr (M 131)) ch L nc nk k p = 1 := by simp [whyB, hok]
          rw [hw, if_neg (by decide)] at g7
          refine g_aload_n (i := 0) hX dX8_hasFault_10 rfl rfl rfl ?_
          refine g_getIv (x := nI p) hX fl_X8_117 rfl rfl (g2) dX8_hasFault_11 rfl ?_
          refine g_aload_n (i := 0) hX dX8_hasFault_14 rfl rfl rfl ?_
          refine g_getIv (x := nI L) hX fl_X8_70 rfl rfl (hT1.1) dX8_hasFault_15 rfl ?_
          first | refine g_icmp_geN (tgt := 141) hX dX8_hasFault_18 (by decide) rfl (by omega) (by omega) (fun zc18 => absurd zc18 (by omega)) (fun zc18 => ?_) | refine g_icmp_ge (tgt := 141) hX dX8_hasFault_18 (by decide) rfl (fun zc18 => absurd zc18 (by omega)) (fun zc18 => ?_)
          refine g_aload_n (i := 0) hX dX8_hasFault_21 rfl rfl rfl ?_
          refine g_getIv (x := nI p) hX fl_X8_117 rfl rfl (g2) dX8_hasFault_22 rfl ?_
          refine g_istore_n (i := 1) hX dX8_hasFault_25 rfl (Nat.le_of_ble_eq_true rfl) rfl ?_
          refine g_aload_n (i := 0) hX dX8_hasFault_26 rfl rfl rfl ?_
          refine g_callVi hX (c_X8_readsComment E M1 ch L p hT1 g2 g4) kf_X8_readsComment rfl wk_X8_141 rfl rfl rfl rfl rfl dX8_hasFault_27 rfl (fun x27 M27 h27 => ?_)
          obtain ⟨rfl, r1, r2⟩ := h27
          rw [hok]
          refine g_istore_n (i := 2) hX dX8_hasFault_30 rfl (Nat.le_of_ble_eq_true rfl) rfl ?_
          refine g_iload_n (i := 2) hX dX8_hasFault_31 rfl rfl rfl ?_
          refine g_if_eq (tgt := 46) hX dX8_hasFault_32 (by decide) rfl (fun zc32 => ?_) (fun zc32 => absurd rfl zc32)
          refine g_iconst hX dX8_hasFault_46 ic_m1 rfl ?_
          refine g_istore_n (i := 3) hX dX8_hasFault_47 rfl (Nat.le_of_ble_eq_true rfl) rfl ?_
          refine g_iload_n (i := 2) hX dX8_hasFault_48 rfl rfl rfl ?_
          refine g_if_ne (tgt := 56) hX dX8_hasFault_49 (by decide) rfl (fun zc49 => absurd rfl zc49) (fun zc49 => ?_)
          refine g_iconst hX dX8_hasFault_52 ic_1 rfl ?_
          refine g_goto (n := 108) hX dX8_hasFault_53 (by decide) ?_
          refine g_istore hX dX8_hasFault_108 (Nat.le_of_ble_eq_true rfl) rfl ?_
          exact go110 _ _ _ k _ _ (g1.tr r1) (by decide) (by decide) g7
        | true =>
          obtain ⟨n1, n2⟩ := pNx_in hok
          cases hf : fndTo nc (fun q => decide (vNb (M 131) q = nI (pCl ch L p))) with
          | none =>
            have hw : whyB (vNb (M 131)) (vPr (M 131)) ch L nc nk k p = 2 := by simp [whyB, hok, hf]
            rw [hw, if_neg (by decide)] at g7
            refine g_aload_n (i := 0) hX dX8_hasFault_10 rfl rfl rfl ?_
            refine g_getIv (x := nI p) hX fl_X8_117 rfl rfl (g2) dX8_hasFault_11 rfl ?_
            refine g_aload_n (i := 0) hX dX8_hasFault_14 rfl rfl rfl ?_
            refine g_getIv (x := nI L) hX fl_X8_70 rfl rfl (hT1.1) dX8_hasFault_15 rfl ?_
            first | refine g_icmp_geN (tgt := 141) hX dX8_hasFault_18 (by decide) rfl (by omega) (by omega) (fun zc18 => absurd zc18 (by omega)) (fun zc18 => ?_) | refine g_icmp_ge (tgt := 141) hX dX8_hasFault_18 (by decide) rfl (fun zc18 => absurd zc18 (by omega)) (fun zc18 => ?_)
            refine g_aload_n (i := 0) hX dX8_hasFault_21 rfl rfl rfl ?_
            refine g_getIv (x := nI p) hX fl_X8_117 rfl rfl (g2) dX8_hasFault_22 rfl ?_
            refine g_istore_n (i := 1) hX dX8_hasFault_25 rfl (Nat.le_of_ble_eq_true rfl) rfl ?_
            refine g_aload_n (i := 0) hX dX8_hasFault_26 rfl rfl rfl ?_
            refine g_callVi hX (c_X8_readsComment E M1 ch L p hT1 g2 g4) kf_X8_readsComment rfl wk_X8_141 rfl rfl rfl rfl rfl dX8_hasFault_27 rfl (fun x27 M27 h27 => ?_)
            obtain ⟨rfl, r1, r2⟩ := h27
            obtain ⟨r5, r6, r7, r8⟩ := r2 hok
            rw [hok]
            have e131 : M27 131 = M 131 := (r1.1 131 (by decide)).trans m131
            refine g_istore_n (i := 2) hX dX8_hasFault_30 rfl (Nat.le_of_ble_eq_true rfl) rfl ?_
            refine g_iload_n (i := 2) hX dX8_hasFault_31 rfl rfl rfl ?_
            refine g_if_eq (tgt := 46) hX dX8_hasFault_32 (by decide) rfl (fun zc32 => absurd zc32 (by decide)) (fun zc32 => ?_)
            refine g_aload_n (i := 0) hX dX8_hasFault_35 rfl rfl rfl ?_
            refine g_aload_n (i := 0) hX dX8_hasFault_36 rfl rfl rfl ?_
            refine g_getIv (x := nI (pCl ch L p)) hX fl_X8_126 rfl rfl (r6) dX8_hasFault_37 rfl ?_
            refine g_callVi hX (c_X8_indexOf E _ nc (nI (pCl ch L p)) (by rw [e131]; exact hc) hcb) kf_X8_indexOf rfl wk_X8_41 rfl rfl rfl rfl rfl dX8_hasFault_40 rfl (fun x40 M40 h40 => ?_)
            obtain ⟨hx, hm0⟩ := h40; have hm0 := hm0.symm; subst hm0; rw [e131, hf] at hx; subst hx
            refine g_goto (n := 47) hX dX8_hasFault_43 (by decide) ?_
            refine g_istore_n (i := 3) hX dX8_hasFault_47 rfl (Nat.le_of_ble_eq_true rfl) rfl ?_
            refine g_iload_n (i := 2) hX dX8_hasFault_48 rfl rfl rfl ?_
            refine g_if_ne (tgt := 56) hX dX8_hasFault_49 (by decide) rfl (fun zc49 => ?_) (fun zc49 => absurd zc49 (by decide))
            refine g_iload_n (i := 3) hX dX8_hasFault_56 rfl rfl rfl ?_
            refine g_if_ge (tgt := 64) hX dX8_hasFault_57 (by decide) rfl (fun zc57 => absurd zc57 (by decide)) (fun zc57 => ?_)
            refine g_iconst hX dX8_hasFault_60 ic_2 rfl ?_
            refine g_goto (n := 108) hX dX8_hasFault_61 (by decide) ?_
            refine g_istore hX dX8_hasFault_108 (Nat.le_of_ble_eq_true rfl) rfl ?_
            exact go110 _ _ _ k _ _ (g1.tr r1) (by decide) (by decide) g7
          | some q =>
            have hq := (fndTo_some hf).1
            have hpv := pVal_lt ch L p
            by_cases hv : vPr (M 131) q = nI (pVal ch L p)
            · have hw : whyB (vNb (M 131)) (vPr (M 131)) ch L nc nk k p = 3 := by simp [whyB, hok, hf, hv]
              rw [hw, if_neg (by decide)] at g7
              refine g_aload_n (i := 0) hX dX8_hasFault_10 rfl rfl rfl ?_
              refine g_getIv (x := nI p) hX fl_X8_117 rfl rfl (g2) dX8_hasFault_11 rfl ?_
              refine g_aload_n (i := 0) hX dX8_hasFault_14 rfl rfl rfl ?_
              refine g_getIv (x := nI L) hX fl_X8_70 rfl rfl (hT1.1) dX8_hasFault_15 rfl ?_
              first | refine g_icmp_geN (tgt := 141) hX dX8_hasFault_18 (by decide) rfl (by omega) (by omega) (fun zc18 => absurd zc18 (by omega)) (fun zc18 => ?_) | refine g_icmp_ge (tgt := 141) hX dX8_hasFault_18 (by decide) rfl (fun zc18 => absurd zc18 (by omega)) (fun zc18 => ?_)
              refine g_aload_n (i := 0) hX dX8_hasFault_21 rfl rfl rfl ?_
              refine g_getIv (x := nI p) hX fl_X8_117 rfl rfl (g2) dX8_hasFault_22 rfl ?_
              refine g_istore_n (i := 1) hX dX8_hasFault_25 rfl (Nat.le_of_ble_eq_true rfl) rfl ?_
              refine g_aload_n (i := 0) hX dX8_hasFault_26 rfl rfl rfl ?_
              refine g_callVi hX (c_X8_readsComment E M1 ch L p hT1 g2 g4) kf_X8_readsComment rfl wk_X8_141 rfl rfl rfl rfl rfl dX8_hasFault_27 rfl (fun x27 M27 h27 => ?_)
              obtain ⟨rfl, r1, r2⟩ := h27
              obtain ⟨r5, r6, r7, r8⟩ := r2 hok
              rw [hok]
              have e131 : M27 131 = M 131 := (r1.1 131 (by decide)).trans m131
              refine g_istore_n (i := 2) hX dX8_hasFault_30 rfl (Nat.le_of_ble_eq_true rfl) rfl ?_
              refine g_iload_n (i := 2) hX dX8_hasFault_31 rfl rfl rfl ?_
              refine g_if_eq (tgt := 46) hX dX8_hasFault_32 (by decide) rfl (fun zc32 => absurd zc32 (by decide)) (fun zc32 => ?_)
              refine g_aload_n (i := 0) hX dX8_hasFault_35 rfl rfl rfl ?_
              refine g_aload_n (i := 0) hX dX8_hasFault_36 rfl rfl rfl ?_
              refine g_getIv (x := nI (pCl ch L p)) hX fl_X8_126 rfl rfl (r6) dX8_hasFault_37 rfl ?_
              refine g_callVi hX (c_X8_indexOf E _ nc (nI (pCl ch L p)) (by rw [e131]; exact hc) hcb) kf_X8_indexOf rfl wk_X8_41 rfl rfl rfl rfl rfl dX8_hasFault_40 rfl (fun x40 M40 h40 => ?_)
              obtain ⟨hx, hm0⟩ := h40; have hm0 := hm0.symm; subst hm0; rw [e131, hf] at hx; subst hx
              refine g_goto (n := 47) hX dX8_hasFault_43 (by decide) ?_
              refine g_istore_n (i := 3) hX dX8_hasFault_47 rfl (Nat.le_of_ble_eq_true rfl) rfl ?_
              refine g_iload_n (i := 2) hX dX8_hasFault_48 rfl rfl rfl ?_
              refine g_if_ne (tgt := 56) hX dX8_hasFault_49 (by decide) rfl (fun zc49 => ?_) (fun zc49 => absurd zc49 (by decide))
              refine g_iload_n (i := 3) hX dX8_hasFault_56 rfl rfl rfl ?_
              refine g_if_ge (tgt := 64) hX dX8_hasFault_57 (by decide) rfl (fun zc57 => ?_) (fun zc57 => absurd (show (0 : Int32) ≤ optI (-1) (some q) from Int32.not_lt.mp (nI_pos (show q < 2 ^ 31 by omega))) zc57)
              refine g_aload_n (i := 0) hX dX8_hasFault_64 rfl rfl rfl ?_
              refine g_getR hX fl_X8_7 rfl rfl dX8_hasFault_65 rfl ?_
              refine g_iload_n (i := 3) hX dX8_hasFault_68 rfl rfl rfl ?_
              refine g_callSi hX (c_X8_clauseAt E _ q) kf_X8_clauseAt rfl wk_X8_34 rfl rfl rfl rfl dX8_hasFault_69 rfl (fun x69 M69 h69 => ?_)
              obtain ⟨rfl, hMq⟩ := h69; have hMq := hMq.symm; subst hMq
              refine g_iconst hX dX8_hasFault_72 ic_1 rfl ?_
              first | refine g_iaddN hX dX8_hasFault_73 rfl ?_ | refine g_iadd hX dX8_hasFault_73 rfl ?_
              refine g_ialdv (x := nI (pVal ch L p)) hX rfl (rfl) (by omega) rfl ((congrFun e131 _).trans hv) dX8_hasFault_74 rfl ?_
              refine g_aload_n (i := 0) hX dX8_hasFault_75 rfl rfl rfl ?_
              refine g_getIv (x := nI (pVal ch L p)) hX fl_X8_135 rfl rfl (r8) dX8_hasFault_76 rfl ?_
              refine g_icmp_ne (tgt := 86) hX dX8_hasFault_79 (by decide) rfl (fun zc79 => absurd rfl zc79) (fun zc79 => ?_)
              refine g_iconst hX dX8_hasFault_82 ic_3 rfl ?_
              refine g_goto (n := 108) hX dX8_hasFault_83 (by decide) ?_
              refine g_istore hX dX8_hasFault_108 (Nat.le_of_ble_eq_true rfl) rfl ?_
              exact go110 _ _ _ k _ _ (g1.tr r1) (by decide) (by decide) g7
            · have hcom : ∀ (w : Nat), w = 4 ∨ w = 0 → (w = 4 ↔ 30 ≤ nk + k) → (∀ M2 b2 b3, rd0 M1 M2 → M2 130 5 = nI (pNx ch L p) → gG X E M2 110 [some (.ref 130), some (.int (nI p)), b2, b3, some (.int (nI w))] [] (gQ X E (gInt fun r M' => hfM M M' ch L nc nk r))) → gG X E M1 10 [some (.ref 130), b1, b2, b3, b4] [] (gQ X E (gInt fun r M' => hfM M M' ch L nc nk r)) := by
                intro w hw0 hw h110
                refine g_aload_n (i := 0) hX dX8_hasFault_10 rfl rfl rfl ?_
                refine g_getIv (x := nI p) hX fl_X8_117 rfl rfl (g2) dX8_hasFault_11 rfl ?_
                refine g_aload_n (i := 0) hX dX8_hasFault_14 rfl rfl rfl ?_
                refine g_getIv (x := nI L) hX fl_X8_70 rfl rfl (hT1.1) dX8_hasFault_15 rfl ?_
                first | refine g_icmp_geN (tgt := 141) hX dX8_hasFault_18 (by decide) rfl (by omega) (by omega) (fun zc18 => absurd zc18 (by omega)) (fun zc18 => ?_) | refine g_icmp_ge (tgt := 141) hX dX8_hasFault_18 (by decide) rfl (fun zc18 => absurd zc18 (by omega)) (fun zc18 => ?_)
                refine g_aload_n (i := 0) hX dX8_hasFault_21 rfl rfl rfl ?_
                refine g_getIv (x := nI p) hX fl_X8_117 rfl rfl (g2) dX8_hasFault_22 rfl ?_
                refine g_istore_n (i := 1) hX dX8_hasFault_25 rfl (Nat.le_of_ble_eq_true rfl) rfl ?_
                refine g_aload_n (i := 0) hX dX8_hasFault_26 rfl rfl rfl ?_
                refine g_callVi hX (c_X8_readsComment E M1 ch L p hT1 g2 g4) kf_X8_readsComment rfl wk_X8_141 rfl rfl rfl rfl rfl dX8_hasFault_27 rfl (fun x27 M27 h27 => ?_)
                obtain ⟨rfl, r1, r2⟩ := h27
                obtain ⟨r5, r6, r7, r8⟩ := r2 hok
                rw [hok]
                have e131 : M27 131 = M 131 := (r1.1 131 (by decide)).trans m131
                refine g_istore_n (i := 2) hX dX8_hasFault_30 rfl (Nat.le_of_ble_eq_true rfl) rfl ?_
                refine g_iload_n (i := 2) hX dX8_hasFault_31 rfl rfl rfl ?_
                refine g_if_eq (tgt := 46) hX dX8_hasFault_32 (by decide) rfl (fun zc32 => absurd zc32 (by decide)) (fun zc32 => ?_)
                refine g_aload_n (i := 0) hX dX8_hasFault_35 rfl rfl rfl ?_
                refine g_aload_n (i := 0) hX dX8_hasFault_36 rfl rfl rfl ?_
                refine g_getIv (x := nI (pCl ch L p)) hX fl_X8_126 rfl rfl (r6) dX8_hasFault_37 rfl ?_
                refine g_callVi hX (c_X8_indexOf E _ nc (nI (pCl ch L p)) (by rw [e131]; exact hc) hcb) kf_X8_indexOf rfl wk_X8_41 rfl rfl rfl rfl rfl dX8_hasFault_40 rfl (fun x40 M40 h40 => ?_)
                obtain ⟨hx, hm0⟩ := h40; have hm0 := hm0.symm; subst hm0; rw [e131, hf] at hx; subst hx
                refine g_goto (n := 47) hX dX8_hasFault_43 (by decide) ?_
                refine g_istore_n (i := 3) hX dX8_hasFault_47 rfl (Nat.le_of_ble_eq_true rfl) rfl ?_
                refine g_iload_n (i := 2) hX dX8_hasFault_48 rfl rfl rfl ?_
                refine g_if_ne (tgt := 56) hX dX8_hasFault_49 (by decide) rfl (fun zc49 => ?_) (fun zc49 => absurd zc49 (by decide))
                refine g_iload_n (i := 3) hX dX8_hasFault_56 rfl rfl rfl ?_
                refine g_if_ge (tgt := 64) hX dX8_hasFault_57 (by decide) rfl (fun zc57 => ?_) (fun zc57 => absurd (show (0 : Int32) ≤ optI (-1) (some q) from Int32.not_lt.mp (nI_pos (show q < 2 ^ 31 by omega))) zc57)
                refine g_aload_n (i := 0) hX dX8_hasFault_64 rfl rfl rfl ?_
                refine g_getR hX fl_X8_7 rfl rfl dX8_hasFault_65 rfl ?_
                refine g_iload_n (i := 3) hX dX8_hasFault_68 rfl rfl rfl ?_
                refine g_callSi hX (c_X8_clauseAt E _ q) kf_X8_clauseAt rfl wk_X8_34 rfl rfl rfl rfl dX8_hasFault_69 rfl (fun x69 M69 h69 => ?_)
                obtain ⟨rfl, hMq⟩ := h69; have hMq := hMq.symm; subst hMq
                refine g_iconst hX dX8_hasFault_72 ic_1 rfl ?_
                first | refine g_iaddN hX dX8_hasFault_73 rfl ?_ | refine g_iadd hX dX8_hasFault_73 rfl ?_
                refine g_ialdv (x := vPr (M 131) q) hX rfl (rfl) (by omega) rfl (congrFun e131 _) dX8_hasFault_74 rfl ?_
                refine g_aload_n (i := 0) hX dX8_hasFault_75 rfl rfl rfl ?_
                refine g_getIv (x := nI (pVal ch L p)) hX fl_X8_135 rfl rfl (r8) dX8_hasFault_76 rfl ?_
                refine g_icmp_ne (tgt := 86) hX dX8_hasFault_79 (by decide) rfl (fun zc79 => ?_) (fun zc79 => absurd zc79 hv)
                refine g_aload_n (i := 0) hX dX8_hasFault_86 rfl rfl rfl ?_
                refine g_getR hX fl_X8_7 rfl rfl dX8_hasFault_87 rfl ?_
                refine g_bipush hX dX8_hasFault_90 bc_9 rfl ?_
                refine g_ialdv (x := nI nk) hX rfl (rfl) (by omega) rfl ((congrFun e131 9).trans hk) dX8_hasFault_92 rfl ?_
                refine g_aload_n (i := 0) hX dX8_hasFault_93 rfl rfl rfl ?_
                refine g_getIv (x := nI k) hX fl_X8_138 rfl rfl ((r1.2 11 (by decide)).trans g3) dX8_hasFault_94 rfl ?_
                first | refine g_iaddN hX dX8_hasFault_97 rfl ?_ | refine g_iadd hX dX8_hasFault_97 rfl ?_
                refine g_bipush hX dX8_hasFault_98 bc_30 rfl ?_
                first | refine g_icmp_ltN (tgt := 107) hX dX8_hasFault_100 (by decide) rfl (by omega) (by omega) (fun zc100 => ?_) (fun zc100 => ?_) | refine g_icmp_lt (tgt := 107) hX dX8_hasFault_100 (by decide) rfl (fun zc100 => ?_) (fun zc100 => ?_)
                · skip
                  refine g_iconst hX dX8_hasFault_107 ic_0 rfl ?_
                  refine g_istore hX dX8_hasFault_108 (Nat.le_of_ble_eq_true rfl) rfl ?_
                  first
                  | (rcases hw0 with rfl | rfl
                     · exact h110 _ _ _ r1 r5
                     · exact absurd (hw.mpr (by omega)) (by decide))
                  | (rcases hw0 with rfl | rfl
                     · exact absurd (hw.mp rfl) (by omega)
                     · exact h110 _ _ _ r1 r5)
                · skip
                  refine g_iconst hX dX8_hasFault_103 ic_4 rfl ?_
                  refine g_goto (n := 108) hX dX8_hasFault_104 (by decide) ?_
                  refine g_istore hX dX8_hasFault_108 (Nat.le_of_ble_eq_true rfl) rfl ?_
                  first
                  | (rcases hw0 with rfl | rfl
                     · exact h110 _ _ _ r1 r5
                     · exact absurd (hw.mpr (by omega)) (by decide))
                  | (rcases hw0 with rfl | rfl
                     · exact absurd (hw.mp rfl) (by omega)
                     · exact h110 _ _ _ r1 r5)
              by_cases hfull : 30 ≤ nk + k
              · have hw : whyB (vNb (M 131)) (vPr (M 131)) ch L nc nk k p = 4 := by simp [whyB, hok, hf, hv, hfull]
                rw [hw, if_neg (by decide)] at g7
                exact hcom 4 (Or.inl rfl) ⟨fun _ => hfull, fun _ => rfl⟩ (fun M2 c2 c3 r1 _ => go110 _ _ _ k _ _ (g1.tr r1) (by decide) (by decide) g7)
              · have hw : whyB (vNb (M 131)) (vPr (M 131)) ch L nc nk k p = 0 := by simp [whyB, hok, hf, hv, hfull]
                rw [hw, if_pos rfl] at g7
                refine hcom 0 (Or.inr rfl) ⟨fun h => absurd h (by decide), fun h => absurd h hfull⟩ (fun M2 c2 c3 r1 r5 => ?_)
                have h11 : M2 130 11 = nI k := (r1.2 11 (by decide)).trans g3
                refine g_iload hX dX8_hasFault_110 rfl rfl ?_
                refine g_if_le (tgt := 128) hX dX8_hasFault_112 (by decide) rfl (fun zc112 => ?_) (fun zc112 => absurd (by decide) zc112)
                refine g_aload_n (i := 0) hX dX8_hasFault_128 rfl rfl rfl ?_
                refine g_dup hX dX8_hasFault_129 rfl rfl ?_
                refine g_getIv (x := nI k) hX fl_X8_138 rfl rfl (h11) dX8_hasFault_130 rfl ?_
                refine g_iconst hX dX8_hasFault_133 ic_1 rfl ?_
                first | refine g_iaddN hX dX8_hasFault_134 rfl ?_ | refine g_iadd hX dX8_hasFault_134 rfl ?_
                refine g_putI hX fp_X8_138 rfl rfl dX8_hasFault_135 rfl ?_
                refine g_goto (n := 10) hX dX8_hasFault_138 (by decide) ?_
                exact ih (k + 1) (pNx ch L p) (fU M2 11 (nI (k + 1))) _ _ _ _ ((g1.tr r1).up (by decide) (by decide)) ((fU_n _ (by decide)).trans r5) (fU_s _ _ _) n2 (by omega) (by omega) g7
  have h0 : rd1 M (fU (fU M 5 (nI 0)) 11 (nI 0)) := ((rd1.rfl M).up (by decide) (by decide)).up (by decide) (by decide)
  refine g_aload_n (i := 0) hX dX8_hasFault_0 rfl rfl rfl ?_
  refine g_iconst hX dX8_hasFault_1 ic_0 rfl ?_
  refine g_putI hX fp_X8_117 rfl rfl dX8_hasFault_2 rfl ?_
  refine g_aload_n (i := 0) hX dX8_hasFault_5 rfl rfl rfl ?_
  refine g_iconst hX dX8_hasFault_6 ic_0 rfl ?_
  refine g_putI hX fp_X8_138 rfl rfl dX8_hasFault_7 rfl ?_
  exact loop 17 0 0 (fU (fU M 5 (nI 0)) 11 (nI 0)) _ _ _ _ h0 ((fU_n _ (by decide)).trans (fU_s _ _ _)) (fU_s _ _ _) (Nat.zero_le _) (by omega) (by omega) rfl
def y_fault (N : Nat → Int32) (ch : Nat → Nat) (L nc nk : Nat) (w : Int32) : Int32 := if inR w 2 = true then (if (scanM N ch L nc nk).1 = 0 then -4 else if w = 0 then nI (scanM N ch L nc nk).2.1 else nI (scanM N ch L nc nk).1) else -1
theorem c_X8_fault (E : gE) (M : gM) (ch : Nat → Nat) (L nc nk : Nat) (w : Int32) (hT : TxM M ch L) (hc : M 131 1 = nI nc) (hcb : nc ≤ 20) (hk : M 131 9 = nI nk) (hkb : nk ≤ 30) : gMet E k_X8_fault [.ref 130, .int w] M (gInt fun r M' => r = y_fault (M 131) ch L nc nk w ∧ rd1 M M') := by
  refine gMet.of (by decide +kernel) rfl (Nat.le_of_ble_eq_true rfl) (fun X hX hR => ?_)
  have e2 : inI w (nI 0) (nI 1) = inR w 2 := inI_R' (by decide)
  cases hw : inR w 2 with
  | false =>
    refine g_iload_n (i := 1) hX dX8_fault_0 rfl rfl rfl ?_
    refine g_iconst hX dX8_fault_1 ic_0 rfl ?_
    refine g_iconst hX dX8_fault_2 ic_1 rfl ?_
    refine g_callSi hX (c_X8_in E M _ _ _) kf_X8_in rfl wk_X8_23 rfl rfl rfl rfl dX8_fault_3 rfl (fun x3 M3 h3 => ?_)
    obtain ⟨rfl, hMq⟩ := h3; have hMq := hMq.symm; subst hMq
    first | refine g_if_neB (tgt := 11) hX dX8_fault_6 (by decide) rfl (fun zc6 => Bool.noConfusion (hw.symm.trans (e2.symm.trans zc6))) (fun zc6 => ?_) | refine g_if_ne (tgt := 11) hX dX8_fault_6 (by decide) rfl (fun zc6 => Bool.noConfusion (hw.symm.trans (e2.symm.trans zc6))) (fun zc6 => ?_)
    refine g_iconst hX dX8_fault_9 ic_m1 rfl ?_
    refine g_iret hX hR dX8_fault_10 ?_
    exact ⟨by rw [y_fault, if_neg (by rw [hw]; decide)] <;> rfl, rd1.rfl M⟩
  | true =>
    have e : y_fault (M 131) ch L nc nk w = if (scanM (M 131) ch L nc nk).1 = 0 then -4 else if w = 0 then nI (scanM (M 131) ch L nc nk).2.1 else nI (scanM (M 131) ch L nc nk).1 := if_pos hw
    rw [e]
    by_cases h0 : (scanM (M 131) ch L nc nk).1 = 0
    · rw [if_pos h0]
      refine g_iload_n (i := 1) hX dX8_fault_0 rfl rfl rfl ?_
      refine g_iconst hX dX8_fault_1 ic_0 rfl ?_
      refine g_iconst hX dX8_fault_2 ic_1 rfl ?_
      refine g_callSi hX (c_X8_in E M _ _ _) kf_X8_in rfl wk_X8_23 rfl rfl rfl rfl dX8_fault_3 rfl (fun x3 M3 h3 => ?_)
      obtain ⟨rfl, hMq⟩ := h3; have hMq := hMq.symm; subst hMq
      first | refine g_if_neB (tgt := 11) hX dX8_fault_6 (by decide) rfl (fun zc6 => ?_) (fun zc6 => Bool.noConfusion (hw.symm.trans (e2.symm.trans zc6))) | refine g_if_ne (tgt := 11) hX dX8_fault_6 (by decide) rfl (fun zc6 => ?_) (fun zc6 => Bool.noConfusion (hw.symm.trans (e2.symm.trans zc6)))
      refine g_aload_n (i := 0) hX dX8_fault_11 rfl rfl rfl ?_
      refine g_callVi hX (c_X8_hasFault E M ch L nc nk hT hc hcb hk hkb) kf_X8_hasFault rfl wk_X8_150 rfl rfl rfl rfl rfl dX8_fault_12 rfl (fun x12 M12 h12 => ?_)
      obtain ⟨rfl, q1, q2, q3⟩ := h12
      rw [decide_eq_false (fun q => q h0)]
      refine g_if_ne (tgt := 23) hX dX8_fault_15 (by decide) rfl (fun zc15 => absurd rfl zc15) (fun zc15 => ?_)
      refine g_bipush hX dX8_fault_18 bc_m4 rfl ?_
      refine g_goto (n := 38) hX dX8_fault_20 (by decide) ?_
      refine g_iret hX hR dX8_fault_38 ?_
      exact ⟨rfl, q1⟩
    · rw [if_neg h0]
      refine g_iload_n (i := 1) hX dX8_fault_0 rfl rfl rfl ?_
      refine g_iconst hX dX8_fault_1 ic_0 rfl ?_
      refine g_iconst hX dX8_fault_2 ic_1 rfl ?_
      refine g_callSi hX (c_X8_in E M _ _ _) kf_X8_in rfl wk_X8_23 rfl rfl rfl rfl dX8_fault_3 rfl (fun x3 M3 h3 => ?_)
      obtain ⟨rfl, hMq⟩ := h3; have hMq := hMq.symm; subst hMq
      first | refine g_if_neB (tgt := 11) hX dX8_fault_6 (by decide) rfl (fun zc6 => ?_) (fun zc6 => Bool.noConfusion (hw.symm.trans (e2.symm.trans zc6))) | refine g_if_ne (tgt := 11) hX dX8_fault_6 (by decide) rfl (fun zc6 => ?_) (fun zc6 => Bool.noConfusion (hw.symm.trans (e2.symm.trans zc6)))
      refine g_aload_n (i := 0) hX dX8_fault_11 rfl rfl rfl ?_
      refine g_callVi hX (c_X8_hasFault E M ch L nc nk hT hc hcb hk hkb) kf_X8_hasFault rfl wk_X8_150 rfl rfl rfl rfl rfl dX8_fault_12 rfl (fun x12 M12 h12 => ?_)
      obtain ⟨rfl, q1, q2, q3⟩ := h12
      rw [decide_eq_true h0]
      obtain ⟨q4, q5⟩ := q2 h0
      refine g_if_ne (tgt := 23) hX dX8_fault_15 (by decide) rfl (fun zc15 => ?_) (fun zc15 => absurd zc15 (by decide))
      refine g_iload_n (i := 1) hX dX8_fault_23 rfl rfl rfl ?_
      refine g_if_ne (tgt := 34) hX dX8_fault_24 (by decide) rfl (fun zc24 => ?_) (fun zc24 => ?_)
      · skip
        have zw : (if w = 0 then nI (scanM (M 131) ch L nc nk).2.1 else nI (scanM (M 131) ch L nc nk).1) = nI (scanM (M 131) ch L nc nk).1 := if_neg zc24
        refine g_aload_n (i := 0) hX dX8_fault_34 rfl rfl rfl ?_
        refine g_getIv (x := nI (scanM (M 131) ch L nc nk).1) hX fl_X8_147 rfl rfl (q5) dX8_fault_35 rfl ?_
        refine g_iret hX hR dX8_fault_38 ?_
        exact ⟨zw.symm, q1⟩
      · skip
        have zw : (if w = 0 then nI (scanM (M 131) ch L nc nk).2.1 else nI (scanM (M 131) ch L nc nk).1) = nI (scanM (M 131) ch L nc nk).2.1 := if_pos zc24
        refine g_aload_n (i := 0) hX dX8_fault_27 rfl rfl rfl ?_
        refine g_getIv (x := nI (scanM (M 131) ch L nc nk).2.1) hX fl_X8_144 rfl rfl (q4) dX8_fault_28 rfl ?_
        refine g_goto (n := 38) hX dX8_fault_31 (by decide) ?_
        refine g_iret hX hR dX8_fault_38 ?_
        exact ⟨zw.symm, q1⟩

