/-! CommitteeBallots (cell 0): the calls that change nothing, members, document -/
def WS (M : gM) (nm nc nk ne : Nat) (op br : Bool) (mb pl : Nat → Nat) : Prop :=
  (M 2 4 = nI nm ∧ nm ≤ 10) ∧ (M 7 6 = nI nc ∧ nc ≤ 20) ∧ (M 16 8 = nI nk ∧ nk ≤ 30) ∧ (M 7 7 = nI ne ∧ 1 ≤ ne ∧ ne ≤ 12) ∧ (M 14 1 = gB op ∧ M 14 2 = gB br) ∧ (∀ k, k < nk → mb k < nm ∧ M 17 k = nI (mb k) ∧ pl k < nc ∧ M 18 k = nI (pl k))
def WH (M : gM) (ol hs : Nat) : Prop := M 126 1 = nI ol ∧ ol < 4 ∧ M 126 2 = nI hs ∧ hs ≤ 4
theorem cpS_ne {M : gM} {d s a : Nat} (h : a < d ∨ d + 25 ≤ a) : cpS M d s a = M a := if_neg (by omega)
theorem cpS_eq {M : gM} {d s j : Nat} (h : j < 25) : cpS M d s (d + j) = M (s + j) := by
  simp only [cpS]; rw [if_pos (by omega), show d + j - d = j by omega]
theorem keep_ne {M : gM} {ol hs a : Nat} (h : a < 26 ∨ 126 < a) : m_keep M ol hs a = M a := by
  have hb : (ol + hs) % 4 < 4 := Nat.mod_lt _ (by decide)
  simp only [m_keep]
  split <;> (rw [gset_ne _ _ (by omega), cpS_ne (by simp only [hisB]; omega)])
theorem WS.keep {M : gM} {nm nc nk ne ol hs : Nat} {op br : Bool} {mb pl : Nat → Nat} (h : WS M nm nc nk ne op br mb pl) : WS (m_keep M ol hs) nm nc nk ne op br mb pl := by
  have K : ∀ a, a < 26 → m_keep M ol hs a = M a := fun a ha => keep_ne (Or.inl ha)
  simp only [WS, K 2 (by decide), K 7 (by decide), K 16 (by decide), K 14 (by decide), K 17 (by decide), K 18 (by decide)]
  exact h
theorem c_X7_isValue (E : gE) (M : gM) (v : Int32) : gMet E k_X7_isValue [.int v] M (gInt fun r M' => r = gB (inI v (nI 0) (nI 9999)) ∧ M' = M) := by
  refine gMet.of (by decide +kernel) rfl (Nat.le_of_ble_eq_true rfl) (fun X hX hR => ?_)
  refine g_iload_n (i := 0) hX dX7_isValue_0 rfl rfl rfl ?_
  refine g_if_lt (tgt := 15) hX dX7_isValue_1 (by decide) rfl (fun zc1 => ?_) (fun zc1 => ?_)
  · skip
    refine g_iconst hX dX7_isValue_15 ic_0 rfl ?_
    refine g_zret hX hR (by first | exact Or.inl rfl | exact Or.inr rfl | exact gB_01 _) dX7_isValue_16 ?_
    exact ⟨by first | exact gB_1 (inI_1 (by assumption) (by assumption)) | exact gB_n (inI_2 (by assumption)) | exact gB_n (inI_3 (by assumption)), rfl⟩
  · skip
    refine g_iload_n (i := 0) hX dX7_isValue_4 rfl rfl rfl ?_
    refine g_sipush hX dX7_isValue_5 sc_9999 rfl ?_
    refine g_icmp_gt (tgt := 15) hX dX7_isValue_8 (by decide) rfl (fun zc8 => ?_) (fun zc8 => ?_)
    · skip
      refine g_iconst hX dX7_isValue_15 ic_0 rfl ?_
      refine g_zret hX hR (by first | exact Or.inl rfl | exact Or.inr rfl | exact gB_01 _) dX7_isValue_16 ?_
      exact ⟨by first | exact gB_1 (inI_1 (by assumption) (by assumption)) | exact gB_n (inI_2 (by assumption)) | exact gB_n (inI_3 (by assumption)), rfl⟩
    · skip
      refine g_iconst hX dX7_isValue_11 ic_1 rfl ?_
      refine g_goto (n := 16) hX dX7_isValue_12 (by decide) ?_
      refine g_zret hX hR (by first | exact Or.inl rfl | exact Or.inr rfl | exact gB_01 _) dX7_isValue_16 ?_
      exact ⟨by first | exact gB_1 (inI_1 (by assumption) (by assumption)) | exact gB_n (inI_2 (by assumption)) | exact gB_n (inI_3 (by assumption)), rfl⟩
theorem c_X7_dividedUp (E : gE) (M : gM) (a b : Int32) : gMet E k_X7_dividedUp [.int a, .int b] M (gInt fun r M' => r = (if b < 1 then 0 else (a + b - 1) / b) ∧ M' = M) := by
  refine gMet.of (by decide +kernel) rfl (Nat.le_of_ble_eq_true rfl) (fun X hX hR => ?_)
  have e1 : nI 1 = 1 := rfl
  refine g_iload_n (i := 1) hX dX7_dividedUp_0 rfl rfl rfl ?_
  refine g_iconst hX dX7_dividedUp_1 ic_1 rfl ?_
  refine g_icmp_ge (tgt := 9) hX dX7_dividedUp_2 (by decide) rfl (fun zc2 => ?_) (fun zc2 => ?_)
  · skip
    refine g_iload_n (i := 0) hX dX7_dividedUp_9 rfl rfl rfl ?_
    refine g_iload_n (i := 1) hX dX7_dividedUp_10 rfl rfl rfl ?_
    first | refine g_iaddN hX dX7_dividedUp_11 rfl ?_ | refine g_iadd hX dX7_dividedUp_11 rfl ?_
    refine g_iconst hX dX7_dividedUp_12 ic_1 rfl ?_
    refine g_isub hX dX7_dividedUp_13 rfl ?_
    refine g_iload_n (i := 1) hX dX7_dividedUp_14 rfl rfl rfl ?_
    refine g_idiv hX dX7_dividedUp_15 (fun e => absurd (e ▸ zc2 : nI 1 ≤ (0 : Int32)) (by decide)) rfl ?_
    refine g_iret hX hR dX7_dividedUp_16 ?_
    rw [e1] at zc2; first | (rw [if_pos (Int32.not_le.mp zc2)]; exact ⟨rfl, rfl⟩) | (rw [if_neg (Int32.not_lt.mpr zc2)]; exact ⟨rfl, rfl⟩)
  · skip
    refine g_iconst hX dX7_dividedUp_5 ic_0 rfl ?_
    refine g_goto (n := 16) hX dX7_dividedUp_6 (by decide) ?_
    refine g_iret hX hR dX7_dividedUp_16 ?_
    rw [e1] at zc2; first | (rw [if_pos (Int32.not_le.mp zc2)]; exact ⟨rfl, rfl⟩) | (rw [if_neg (Int32.not_lt.mpr zc2)]; exact ⟨rfl, rfl⟩)
section
variable {M : gM} {nm nc nk ne ol hs : Nat} {op br : Bool} {mb pl : Nat → Nat}
theorem prE {α β : Type} {a : α} {b : β} {p : α × β} (h : (a, b) = p) : a = p.1 ∧ b = p.2 := by subst h; exact ⟨rfl, rfl⟩
def x_addMember (M : gM) (nm ol hs : Nat) (w : Int32) : Int32 × gM := if inI w (nI 1) (nI 9) = false then (-1, M) else if nm = 10 then (-3, M) else (nI nm, m_member (m_keep M ol hs) nm w)
theorem c_X7_addMember (E : gE) (w : Int32) (hW : WS M nm nc nk ne op br mb pl) (hH : WH M ol hs) : gMet E k_X7_addMember [.ref 0, .int w] M (gInt fun r M' => (r, M') = x_addMember M nm ol hs w) := by
  refine gMet.of (by decide +kernel) rfl (Nat.le_of_ble_eq_true rfl) (fun X hX hR => ?_)
  obtain ⟨⟨hm, hmb⟩, ⟨hc, hcb⟩, ⟨hk, hkb⟩, ⟨he, he1, he2⟩, ⟨hop, hbr⟩, hcm⟩ := id hW
  obtain ⟨hol, holb, hhs, hhsb⟩ := id hH
  obtain ⟨⟨hm', -⟩, -⟩ := hW.keep (ol := ol) (hs := hs)
  have z1 : M 14 1 = 0 ∨ M 14 1 = 1 := hop ▸ gB_01 op
  have z2 : M 14 2 = 0 ∨ M 14 2 = 1 := hbr ▸ gB_01 br
  refine g_iload_n (i := 1) hX dX7_addMember_0 rfl rfl rfl ?_
  refine g_iconst hX dX7_addMember_1 ic_1 rfl ?_
  refine g_icmp_lt (tgt := 11) hX dX7_addMember_2 (by decide) rfl (fun zc2 => ?_) (fun zc2 => ?_)
  · skip
    refine g_iconst hX dX7_addMember_11 ic_m1 rfl ?_
    refine g_iret hX hR dX7_addMember_12 ?_
    first | (simp only [x_addMember, if_pos (inI_2 zc2)]; done) | (simp only [x_addMember, if_pos (inI_3 (Int32.not_le.mp zc8))]; done)
  · skip
    refine g_iload_n (i := 1) hX dX7_addMember_5 rfl rfl rfl ?_
    refine g_bipush hX dX7_addMember_6 bc_9 rfl ?_
    refine g_icmp_le (tgt := 13) hX dX7_addMember_8 (by decide) rfl (fun zc8 => ?_) (fun zc8 => ?_)
    · skip
      refine g_aload_n (i := 0) hX dX7_addMember_13 rfl rfl rfl ?_
      refine g_getR hX fl_X7_10 rfl rfl dX7_addMember_14 rfl ?_
      refine g_getR hX fl_X7_30 rfl rfl dX7_addMember_17 rfl ?_
      refine g_getIv hX fl_X7_34 rfl rfl (hm) dX7_addMember_20 rfl ?_
      refine g_bipush hX dX7_addMember_23 bc_10 rfl ?_
      first | refine g_icmp_ltN (tgt := 31) hX dX7_addMember_25 (by decide) rfl (by omega) (by omega) (fun zc25 => ?_) (fun zc25 => ?_) | refine g_icmp_lt (tgt := 31) hX dX7_addMember_25 (by decide) rfl (fun zc25 => ?_) (fun zc25 => ?_)
      · skip
        refine g_aload_n (i := 0) hX dX7_addMember_31 rfl rfl rfl ?_
        refine g_getR hX fl_X7_19 rfl rfl dX7_addMember_32 rfl ?_
        refine g_aload_n (i := 0) hX dX7_addMember_35 rfl rfl rfl ?_
        refine g_getR hX fl_X7_10 rfl rfl dX7_addMember_36 rfl ?_
        refine g_callVv hX (c_X3_keep E M ol hs hol holb hhs hhsb z1 z2) kf_X3_keep rfl wk_X7_40 rfl rfl rfl rfl rfl dX7_addMember_39 rfl (fun M39 h39 => ?_)
        subst h39
        refine g_aload_n (i := 0) hX dX7_addMember_42 rfl rfl rfl ?_
        refine g_getR hX fl_X7_10 rfl rfl dX7_addMember_43 rfl ?_
        refine g_getR hX fl_X7_30 rfl rfl dX7_addMember_46 rfl ?_
        refine g_iload_n (i := 1) hX dX7_addMember_49 rfl rfl rfl ?_
        refine g_callVi hX (c_X4_append E _ nm w hm' (by omega)) kf_X4_append rfl wk_X7_44 rfl rfl rfl rfl rfl dX7_addMember_50 rfl (fun x50 M50 h50 => ?_)
        obtain ⟨rfl, hm⟩ := h50; have hm := hm.symm; subst hm
        refine g_iret hX hR dX7_addMember_53 ?_
        have hi := inI_1 zc2 (Int32.not_lt.mpr zc8)
        simp only [x_addMember, hi]; rw [if_neg (by decide), if_neg (by omega)]
      · skip
        have zd25 : nm = 10 := by omega
        refine g_bipush hX dX7_addMember_28 bc_m3 rfl ?_
        refine g_iret hX hR dX7_addMember_30 ?_
        have hi := inI_1 zc2 (Int32.not_lt.mpr zc8)
        simp only [x_addMember, hi, zd25]; rfl
    · skip
      refine g_iconst hX dX7_addMember_11 ic_m1 rfl ?_
      refine g_iret hX hR dX7_addMember_12 ?_
      first | (simp only [x_addMember, if_pos (inI_2 zc2)]; done) | (simp only [x_addMember, if_pos (inI_3 (Int32.not_le.mp zc8))]; done)
def x_addClause (M : gM) (nc ol hs : Nat) (c v : Int32) (r : Int32) (M' : gM) : Prop :=
  if inI c (nI 1) (nI 99) = false ∨ inI v (nI 0) (nI 9999) = false then r = -1 ∧ M' = M
  else if 0 < M 14 3 ∨ ¬ fndTo nc (fun k => decide (M 8 k = c)) = none then r = -2 ∧ M' = M
  else if nc = 20 then r = -3 ∧ M' = M
  else r = nI (nc + 1) ∧ ∃ p, insP (M 8) p nc c ∧ M' = m_insert (m_keep M ol hs) p nc c v
theorem c_X7_addClause (E : gE) (c v : Int32) (hW : WS M nm nc nk ne op br mb pl) (hH : WH M ol hs) : gMet E k_X7_addClause [.ref 0, .int c, .int v] M (gInt fun r M' => x_addClause M nc ol hs c v r M') := by
  refine gMet.of (by decide +kernel) rfl (Nat.le_of_ble_eq_true rfl) (fun X hX hR => ?_)
  obtain ⟨⟨hm, hmb⟩, ⟨hc, hcb⟩, ⟨hk, hkb⟩, ⟨he, he1, he2⟩, ⟨hop, hbr⟩, hcm⟩ := id hW
  obtain ⟨hol, holb, hhs, hhsb⟩ := id hH
  obtain ⟨-, ⟨hc', -⟩, -⟩ := hW.keep (ol := ol) (hs := hs)
  have z1 : M 14 1 = 0 ∨ M 14 1 = 1 := hop ▸ gB_01 op
  have z2 : M 14 2 = 0 ∨ M 14 2 = 1 := hbr ▸ gB_01 br
  have K8 : m_keep M ol hs 8 = M 8 := keep_ne (Or.inl (by decide))
  have hq : ∀ q, fndTo nc (fun k => decide (M 8 k = c)) = some q → q < 2 ^ 31 := fun q h => by have := (fndTo_some h).1; omega
  refine g_iload_n (i := 1) hX dX7_addClause_0 rfl rfl rfl ?_
  refine g_iconst hX dX7_addClause_1 ic_1 rfl ?_
  refine g_icmp_lt (tgt := 18) hX dX7_addClause_2 (by decide) rfl (fun zc2 => ?_) (fun zc2 => ?_)
  · skip
    refine g_iconst hX dX7_addClause_18 ic_m1 rfl ?_
    refine g_iret hX hR dX7_addClause_19 ?_
    first
    | (refine (if_pos (Or.inl (inI_2 zc2))).mpr ⟨rfl, rfl⟩; done)
    | (refine (if_pos (Or.inl (inI_3 zc8))).mpr ⟨rfl, rfl⟩; done)
    | (refine (if_pos (Or.inr zc15)).mpr ⟨rfl, rfl⟩; done)
  · skip
    refine g_iload_n (i := 1) hX dX7_addClause_5 rfl rfl rfl ?_
    refine g_bipush hX dX7_addClause_6 bc_99 rfl ?_
    refine g_icmp_gt (tgt := 18) hX dX7_addClause_8 (by decide) rfl (fun zc8 => ?_) (fun zc8 => ?_)
    · skip
      refine g_iconst hX dX7_addClause_18 ic_m1 rfl ?_
      refine g_iret hX hR dX7_addClause_19 ?_
      first
      | (refine (if_pos (Or.inl (inI_2 zc2))).mpr ⟨rfl, rfl⟩; done)
      | (refine (if_pos (Or.inl (inI_3 zc8))).mpr ⟨rfl, rfl⟩; done)
      | (refine (if_pos (Or.inr zc15)).mpr ⟨rfl, rfl⟩; done)
    · skip
      refine g_iload_n (i := 2) hX dX7_addClause_11 rfl rfl rfl ?_
      refine g_callSi hX (c_X7_isValue E M v) kf_X7_isValue rfl wk_X7_48 rfl rfl rfl rfl dX7_addClause_12 rfl (fun x12 M12 h12 => ?_)
      obtain ⟨rfl, hm⟩ := h12; have hm := hm.symm; subst hm
      first | refine g_if_neB (tgt := 20) hX dX7_addClause_15 (by decide) rfl (fun zc15 => ?_) (fun zc15 => ?_) | refine g_if_ne (tgt := 20) hX dX7_addClause_15 (by decide) rfl (fun zc15 => ?_) (fun zc15 => ?_)
      · skip
        refine g_aload_n (i := 0) hX dX7_addClause_20 rfl rfl rfl ?_
        refine g_getR hX fl_X7_10 rfl rfl dX7_addClause_21 rfl ?_
        refine g_getR hX fl_X7_52 rfl rfl dX7_addClause_24 rfl ?_
        refine g_getI hX fl_X7_56 rfl rfl dX7_addClause_27 rfl ?_
        refine g_if_gt (tgt := 48) hX dX7_addClause_30 (by decide) rfl (fun zc30 => ?_) (fun zc30 => ?_)
        · skip
          refine g_bipush hX dX7_addClause_48 bc_m2 rfl ?_
          refine g_iret hX hR dX7_addClause_50 ?_
          have h1 := inI_1 zc2 zc8
          unfold x_addClause
          rw [if_neg (by rw [h1, zc15]; simp)]
          first
            | (rw [if_pos (Or.inl zc30)]; exact ⟨rfl, rfl⟩)
            | (rw [if_pos (Or.inr (fun q => zc45 ((optI_m1 hq).mpr q)))]; exact ⟨rfl, rfl⟩)
        · skip
          refine g_aload_n (i := 0) hX dX7_addClause_33 rfl rfl rfl ?_
          refine g_getR hX fl_X7_10 rfl rfl dX7_addClause_34 rfl ?_
          refine g_getR hX fl_X7_61 rfl rfl dX7_addClause_37 rfl ?_
          refine g_iload_n (i := 1) hX dX7_addClause_40 rfl rfl rfl ?_
          refine g_callVi hX (c_X2_find E M nc c hc hcb) kf_X2_find rfl wk_X7_65 rfl rfl rfl rfl rfl dX7_addClause_41 rfl (fun x41 M41 h41 => ?_)
          obtain ⟨rfl, hm⟩ := h41; have hm := hm.symm; subst hm
          refine g_iconst hX dX7_addClause_44 ic_m1 rfl ?_
          refine g_icmp_eq (tgt := 51) hX dX7_addClause_45 (by decide) rfl (fun zc45 => ?_) (fun zc45 => ?_)
          · skip
            refine g_aload_n (i := 0) hX dX7_addClause_51 rfl rfl rfl ?_
            refine g_getR hX fl_X7_10 rfl rfl dX7_addClause_52 rfl ?_
            refine g_getR hX fl_X7_61 rfl rfl dX7_addClause_55 rfl ?_
            refine g_getIv hX fl_X7_70 rfl rfl (hc) dX7_addClause_58 rfl ?_
            refine g_bipush hX dX7_addClause_61 bc_20 rfl ?_
            first | refine g_icmp_ltN (tgt := 69) hX dX7_addClause_63 (by decide) rfl (by omega) (by omega) (fun zc63 => ?_) (fun zc63 => ?_) | refine g_icmp_lt (tgt := 69) hX dX7_addClause_63 (by decide) rfl (fun zc63 => ?_) (fun zc63 => ?_)
            · skip
              refine g_aload_n (i := 0) hX dX7_addClause_69 rfl rfl rfl ?_
              refine g_getR hX fl_X7_19 rfl rfl dX7_addClause_70 rfl ?_
              refine g_aload_n (i := 0) hX dX7_addClause_73 rfl rfl rfl ?_
              refine g_getR hX fl_X7_10 rfl rfl dX7_addClause_74 rfl ?_
              refine g_callVv hX (c_X3_keep E M ol hs hol holb hhs hhsb z1 z2) kf_X3_keep rfl wk_X7_40 rfl rfl rfl rfl rfl dX7_addClause_77 rfl (fun M77 h77 => ?_)
              subst h77
              refine g_aload_n (i := 0) hX dX7_addClause_80 rfl rfl rfl ?_
              refine g_getR hX fl_X7_10 rfl rfl dX7_addClause_81 rfl ?_
              refine g_getR hX fl_X7_61 rfl rfl dX7_addClause_84 rfl ?_
              refine g_iload_n (i := 1) hX dX7_addClause_87 rfl rfl rfl ?_
              refine g_iload_n (i := 2) hX dX7_addClause_88 rfl rfl rfl ?_
              refine g_callVv hX (c_X2_insert E _ nc c v hc' (by omega)) kf_X2_insert rfl wk_X7_71 rfl rfl rfl rfl rfl dX7_addClause_89 rfl (fun M89 h89 => ?_)
              obtain ⟨p, hp, hm⟩ := h89
              subst hm
              rw [K8] at hp
              refine g_aload_n (i := 0) hX dX7_addClause_92 rfl rfl rfl ?_
              refine g_getR hX fl_X7_10 rfl rfl dX7_addClause_93 rfl ?_
              refine g_getR hX fl_X7_61 rfl rfl dX7_addClause_96 rfl ?_
              refine g_getIv (x := nI (nc + 1)) hX fl_X7_70 rfl rfl (rfl) dX7_addClause_99 rfl ?_
              refine g_iret hX hR dX7_addClause_102 ?_
              have h1 := inI_1 zc2 zc8
              have h2 : fndTo nc (fun k => decide (M 8 k = c)) = none := (optI_m1 hq).mp zc45
              unfold x_addClause
              rw [if_neg (by rw [h1, zc15]; simp), if_neg (by rw [h2]; simpa using zc30), if_neg (by omega)]
              exact ⟨rfl, p, hp, rfl⟩
            · skip
              refine g_bipush hX dX7_addClause_66 bc_m3 rfl ?_
              refine g_iret hX hR dX7_addClause_68 ?_
              have h1 := inI_1 zc2 zc8
              have h2 : fndTo nc (fun k => decide (M 8 k = c)) = none := (optI_m1 hq).mp zc45
              unfold x_addClause
              rw [if_neg (by rw [h1, zc15]; simp), if_neg (by rw [h2]; simpa using zc30), if_pos (by omega)]
              exact ⟨rfl, rfl⟩
          · skip
            refine g_bipush hX dX7_addClause_48 bc_m2 rfl ?_
            refine g_iret hX hR dX7_addClause_50 ?_
            have h1 := inI_1 zc2 zc8
            unfold x_addClause
            rw [if_neg (by rw [h1, zc15]; simp)]
            first
              | (rw [if_pos (Or.inl zc30)]; exact ⟨rfl, rfl⟩)
              | (rw [if_pos (Or.inr (fun q => zc45 ((optI_m1 hq).mpr q)))]; exact ⟨rfl, rfl⟩)
      · skip
        refine g_iconst hX dX7_addClause_18 ic_m1 rfl ?_
        refine g_iret hX hR dX7_addClause_19 ?_
        first
        | (refine (if_pos (Or.inl (inI_2 zc2))).mpr ⟨rfl, rfl⟩; done)
        | (refine (if_pos (Or.inl (inI_3 zc8))).mpr ⟨rfl, rfl⟩; done)
        | (refine (if_pos (Or.inr zc15)).mpr ⟨rfl, rfl⟩; done)
def setOK (j : Nat) (v : Int32) : Bool := inI v (gLe j) (gGr j)
def x_set (M : gM) (ol hs : Nat) (w v : Int32) (r : Int32) (M' : gM) : Prop :=
  (∃ j, j < 5 ∧ w = nI j ∧ setOK j v = true ∧ r = M 25 j ∧ M' = gset (m_keep M ol hs) 25 (upd (M 25) j v)) ∨ ((∀ j, j < 5 → w = nI j → setOK j v = false) ∧ r = -1 ∧ M' = M)
theorem c_X7_set (E : gE) (w v : Int32) (hW : WS M nm nc nk ne op br mb pl) (hH : WH M ol hs) : gMet E k_X7_set [.ref 0, .int w, .int v] M (gInt fun r M' => x_set M ol hs w v r M') := by
  refine gMet.of (by decide +kernel) rfl (Nat.le_of_ble_eq_true rfl) (fun X hX hR => ?_)
  obtain ⟨⟨hm, hmb⟩, ⟨hc, hcb⟩, ⟨hk, hkb⟩, ⟨he, he1, he2⟩, ⟨hop, hbr⟩, hcm⟩ := id hW
  obtain ⟨hol, holb, hhs, hhsb⟩ := id hH
  have z1 : M 14 1 = 0 ∨ M 14 1 = 1 := hop ▸ gB_01 op
  have z2 : M 14 2 = 0 ∨ M 14 2 = 1 := hbr ▸ gB_01 br
  have K25 : m_keep M ol hs 25 = M 25 := keep_ne (Or.inl (by decide))
  rcases pk_ix w (n := 5) (by decide) with h | h | ⟨j, hj, rfl⟩
  · skip
    refine g_iload_n (i := 1) hX dX7_set_0 rfl rfl rfl ?_
    refine g_if_lt (tgt := 9) hX dX7_set_1 (by decide) rfl (fun zc1 => ?_) (fun zc1 => absurd h zc1)
    refine g_iconst hX dX7_set_9 ic_m1 rfl ?_
    refine g_iret hX hR dX7_set_10 ?_
    refine Or.inr ⟨fun j hj e => ?_, rfl, rfl⟩; subst e; exact absurd h (nI_pos (by omega))
  · skip
    refine g_iload_n (i := 1) hX dX7_set_0 rfl rfl rfl ?_
    refine g_if_lt (tgt := 9) hX dX7_set_1 (by decide) rfl (fun zc1 => absurd zc1 ((by intro q; exact absurd (Int32.lt_of_lt_of_le q (by decide : (0:Int32) ≤ nI 5)) (Int32.not_lt.mpr h)))) (fun zc1 => ?_)
    refine g_iload_n (i := 1) hX dX7_set_4 rfl rfl rfl ?_
    refine g_iconst hX dX7_set_5 ic_5 rfl ?_
    refine g_icmp_lt (tgt := 11) hX dX7_set_6 (by decide) rfl (fun zc6 => absurd zc6 (Int32.not_lt.mpr h)) (fun zc6 => ?_)
    refine g_iconst hX dX7_set_9 ic_m1 rfl ?_
    refine g_iret hX hR dX7_set_10 ?_
    refine Or.inr ⟨fun j hj e => ?_, rfl, rfl⟩; subst e; have := (nI_leI (by decide) (by omega)).mp h; omega
  · have inj : ∀ j', j' < 5 → nI j = nI j' → j = j' := fun j' h1 h2 => (nI_eq (by omega) (by omega)).mp h2
    refine g_iload_n (i := 1) hX dX7_set_0 rfl rfl rfl ?_
    refine g_if_lt (tgt := 9) hX dX7_set_1 (by decide) rfl (fun zc1 => absurd zc1 (nI_pos (by omega))) (fun zc1 => ?_)
    refine g_iload_n (i := 1) hX dX7_set_4 rfl rfl rfl ?_
    refine g_iconst hX dX7_set_5 ic_5 rfl ?_
    first | refine g_icmp_ltN (tgt := 11) hX dX7_set_6 (by decide) rfl (by omega) (by omega) (fun zc6 => ?_) (fun zc6 => absurd zc6 (by omega)) | refine g_icmp_lt (tgt := 11) hX dX7_set_6 (by decide) rfl (fun zc6 => ?_) (fun zc6 => absurd zc6 (by omega))
    refine g_iload_n (i := 2) hX dX7_set_11 rfl rfl rfl ?_
    refine g_least hX wf_X7_75 dX7_set_12 rfl ?_
    refine g_iload_n (i := 1) hX dX7_set_15 rfl rfl rfl ?_
    refine g_least_ld hX rfl hj dX7_set_16 rfl ?_
    refine g_icmp_lt (tgt := 29) hX dX7_set_17 (by decide) rfl (fun zc17 => ?_) (fun zc17 => ?_)
    · skip
      refine g_iconst hX dX7_set_29 ic_m1 rfl ?_
      refine g_iret hX hR dX7_set_30 ?_
      refine Or.inr ⟨fun j' h1 h2 => ?_, rfl, rfl⟩
      obtain rfl := inj j' h1 h2
      first | exact inI_2 zc17 | exact inI_3 (Int32.not_le.mp zc26)
    · skip
      refine g_iload_n (i := 2) hX dX7_set_20 rfl rfl rfl ?_
      refine g_great hX wf_X7_79 dX7_set_21 rfl ?_
      refine g_iload_n (i := 1) hX dX7_set_24 rfl rfl rfl ?_
      refine g_great_ld hX rfl hj dX7_set_25 rfl ?_
      refine g_icmp_le (tgt := 31) hX dX7_set_26 (by decide) rfl (fun zc26 => ?_) (fun zc26 => ?_)
      · skip
        refine g_aload_n (i := 0) hX dX7_set_31 rfl rfl rfl ?_
        refine g_getR hX fl_X7_19 rfl rfl dX7_set_32 rfl ?_
        refine g_aload_n (i := 0) hX dX7_set_35 rfl rfl rfl ?_
        refine g_getR hX fl_X7_10 rfl rfl dX7_set_36 rfl ?_
        refine g_callVv hX (c_X3_keep E M ol hs hol holb hhs hhsb z1 z2) kf_X3_keep rfl wk_X7_40 rfl rfl rfl rfl rfl dX7_set_39 rfl (fun M39 h39 => ?_)
        subst h39
        refine g_aload_n (i := 0) hX dX7_set_42 rfl rfl rfl ?_
        refine g_getR hX fl_X7_10 rfl rfl dX7_set_43 rfl ?_
        refine g_getR hX fl_X7_82 rfl rfl dX7_set_46 rfl ?_
        refine g_iload_n (i := 1) hX dX7_set_49 rfl rfl rfl ?_
        refine g_ialdv (x := M 25 j) hX rfl (rfl) (by omega) rfl ((congrFun K25 j)) dX7_set_50 rfl ?_
        refine g_istore_n (i := 3) hX dX7_set_51 rfl (Nat.le_of_ble_eq_true rfl) rfl ?_
        refine g_aload_n (i := 0) hX dX7_set_52 rfl rfl rfl ?_
        refine g_getR hX fl_X7_10 rfl rfl dX7_set_53 rfl ?_
        refine g_getR hX fl_X7_82 rfl rfl dX7_set_56 rfl ?_
        refine g_iload_n (i := 1) hX dX7_set_59 rfl rfl rfl ?_
        refine g_iload_n (i := 2) hX dX7_set_60 rfl rfl rfl ?_
        refine g_iast hX rfl (rfl) (by omega) rfl dX7_set_61 rfl ?_
        refine g_iload_n (i := 3) hX dX7_set_62 rfl rfl rfl ?_
        refine g_iret hX hR dX7_set_63 ?_
        exact Or.inl ⟨j, hj, rfl, inI_1 zc17 (Int32.not_lt.mpr zc26), rfl, by rw [K25]⟩
      · skip
        refine g_iconst hX dX7_set_29 ic_m1 rfl ?_
        refine g_iret hX hR dX7_set_30 ?_
        refine Or.inr ⟨fun j' h1 h2 => ?_, rfl, rfl⟩
        obtain rfl := inj j' h1 h2
        first | exact inI_2 zc17 | exact inI_3 (Int32.not_le.mp zc26)
end

