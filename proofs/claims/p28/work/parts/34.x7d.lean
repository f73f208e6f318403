/-! CommitteeBallots: the calls that change -/
section
variable {M : gM} {nm nc nk ne ol hs : Nat} {op br : Bool} {mb pl : Nat → Nat}
def x_open (M : gM) (nc nk ne ol hs : Nat) (op : Bool) : Int32 × gM := if op = true ∨ 0 < cntTo nk (pendB (M 21)) ∨ nc = 0 then (-2, M) else if ne = 12 then (-3, M) else (M 14 3 + 1, m_open (m_keep M ol hs))
theorem c_X7_open (E : gE) (hW : WS M nm nc nk ne op br mb pl) (hH : WH M ol hs) : gMet E k_X7_open [.ref 0] M (gInt fun r M' => (r, M') = x_open M nc nk ne ol hs op) := by
  refine gMet.of (by decide +kernel) rfl (Nat.le_of_ble_eq_true rfl) (fun X hX hR => ?_)
  obtain ⟨⟨hm, hmb⟩, ⟨hc, hcb⟩, ⟨hk, hkb⟩, ⟨he, he1, he2⟩, ⟨hop, hbr⟩, hcm⟩ := id hW
  obtain ⟨hol, holb, hhs, hhsb⟩ := id hH
  have z1 : M 14 1 = 0 ∨ M 14 1 = 1 := hop ▸ gB_01 op
  have z2 : M 14 2 = 0 ∨ M 14 2 = 1 := hbr ▸ gB_01 br
  have K14 : m_keep M ol hs 14 = M 14 := keep_ne (Or.inl (by decide))
  have hcn := cntTo_le nk (pendB (M 21))
  refine g_aload_n (i := 0) hX dX7_open_0 rfl rfl rfl ?_
  refine g_getR hX fl_X7_10 rfl rfl dX7_open_1 rfl ?_
  refine g_getR hX fl_X7_52 rfl rfl dX7_open_4 rfl ?_
  refine g_getIv (x := gB op) hX fl_X7_136 rfl rfl (hop) dX7_open_7 rfl ?_
  first | refine g_if_neB (tgt := 39) hX dX7_open_10 (by decide) rfl (fun zc10 => ?_) (fun zc10 => ?_) | refine g_if_ne (tgt := 39) hX dX7_open_10 (by decide) rfl (fun zc10 => ?_) (fun zc10 => ?_)
  · skip
    refine g_bipush hX dX7_open_39 bc_m2 rfl ?_
    refine g_iret hX hR dX7_open_41 ?_
    first
    | (rw [x_open, if_pos (Or.inl zc10)]; done)
    | (rw [x_open, if_pos (Or.inr (Or.inl zd23))]; done)
    | (rw [x_open, if_pos (Or.inr (Or.inr zd36))]; done)
  · skip
    refine g_aload_n (i := 0) hX dX7_open_13 rfl rfl rfl ?_
    refine g_getR hX fl_X7_10 rfl rfl dX7_open_14 rfl ?_
    refine g_getR hX fl_X7_103 rfl rfl dX7_open_17 rfl ?_
    refine g_callVi hX (c_X1_pending E M nk hk hkb) kf_X1_pending rfl wk_X7_141 rfl rfl rfl rfl rfl dX7_open_20 rfl (fun x20 M20 h20 => ?_)
    obtain ⟨rfl, hm⟩ := h20; have hm := hm.symm; subst hm
    refine g_if_gt (tgt := 39) hX dX7_open_23 (by decide) rfl (fun zc23 => ?_) (fun zc23 => ?_)
    · skip
      have zd23 : 0 < cntTo nk (pendB (M 21)) := by
        rcases Nat.eq_zero_or_pos (cntTo nk (pendB (M 21))) with h | h
        · exact absurd (show (0 : Int32) < nI (cntTo nk (pendB (M 21))) from zc23) (by rw [h]; decide)
        · exact h
      refine g_bipush hX dX7_open_39 bc_m2 rfl ?_
      refine g_iret hX hR dX7_open_41 ?_
      first
      | (rw [x_open, if_pos (Or.inl zc10)]; done)
      | (rw [x_open, if_pos (Or.inr (Or.inl zd23))]; done)
      | (rw [x_open, if_pos (Or.inr (Or.inr zd36))]; done)
    · skip
      have zd23 : ¬ 0 < cntTo nk (pendB (M 21)) := fun q => zc23 (show (0 : Int32) < nI (cntTo nk (pendB (M 21))) from (nI_ltI (a := 0) (b := cntTo nk (pendB (M 21))) (by decide) (by omega)).mpr q)
      refine g_aload_n (i := 0) hX dX7_open_26 rfl rfl rfl ?_
      refine g_getR hX fl_X7_10 rfl rfl dX7_open_27 rfl ?_
      refine g_getR hX fl_X7_61 rfl rfl dX7_open_30 rfl ?_
      refine g_getIv (x := nI nc) hX fl_X7_70 rfl rfl (hc) dX7_open_33 rfl ?_
      refine g_if_ne (tgt := 42) hX dX7_open_36 (by decide) rfl (fun zc36 => ?_) (fun zc36 => ?_)
      · skip
        have zd36 : ¬ nc = 0 := fun q => zc36 (by rw [q]; rfl)
        refine g_aload_n (i := 0) hX dX7_open_42 rfl rfl rfl ?_
        refine g_getR hX fl_X7_10 rfl rfl dX7_open_43 rfl ?_
        refine g_getR hX fl_X7_61 rfl rfl dX7_open_46 rfl ?_
        refine g_getIv (x := nI ne) hX fl_X7_130 rfl rfl (he) dX7_open_49 rfl ?_
        refine g_bipush hX dX7_open_52 bc_12 rfl ?_
        first | refine g_icmp_ltN (tgt := 60) hX dX7_open_54 (by decide) rfl (by omega) (by omega) (fun zc54 => ?_) (fun zc54 => ?_) | refine g_icmp_lt (tgt := 60) hX dX7_open_54 (by decide) rfl (fun zc54 => ?_) (fun zc54 => ?_)
        · skip
          refine g_aload_n (i := 0) hX dX7_open_60 rfl rfl rfl ?_
          refine g_getR hX fl_X7_19 rfl rfl dX7_open_61 rfl ?_
          refine g_aload_n (i := 0) hX dX7_open_64 rfl rfl rfl ?_
          refine g_getR hX fl_X7_10 rfl rfl dX7_open_65 rfl ?_
          refine g_callVv hX (c_X3_keep E M ol hs hol holb hhs hhsb z1 z2) kf_X3_keep rfl wk_X7_40 rfl rfl rfl rfl rfl dX7_open_68 rfl (fun M68 h68 => ?_)
          subst h68
          refine g_aload_n (i := 0) hX dX7_open_71 rfl rfl rfl ?_
          refine g_getR hX fl_X7_10 rfl rfl dX7_open_72 rfl ?_
          refine g_callVv hX (c_X5_openBallot E _) kf_X5_openBallot rfl wk_X7_155 rfl rfl rfl rfl rfl dX7_open_75 rfl (fun M75 h75 => ?_)
          subst h75
          refine g_aload_n (i := 0) hX dX7_open_78 rfl rfl rfl ?_
          refine g_getR hX fl_X7_10 rfl rfl dX7_open_79 rfl ?_
          refine g_getR hX fl_X7_52 rfl rfl dX7_open_82 rfl ?_
          refine g_getIv (x := M 14 3 + 1) hX fl_X7_56 rfl rfl ((show m_keep M ol hs 14 3 + 1 = M 14 3 + 1 by rw [K14])) dX7_open_85 rfl ?_
          refine g_iret hX hR dX7_open_88 ?_
          rw [x_open, if_neg (by rw [zc10]; simp only [zd23, zd36]; simp), if_neg (by omega)]
        · skip
          refine g_bipush hX dX7_open_57 bc_m3 rfl ?_
          refine g_iret hX hR dX7_open_59 ?_
          rw [x_open, if_neg (by rw [zc10]; simp only [zd23, zd36]; simp), if_pos (by omega)]
      · skip
        have zd36 : nc = 0 := (nI_eq (by omega) (by decide)).mp (show nI nc = nI 0 from zc36)
        refine g_bipush hX dX7_open_39 bc_m2 rfl ?_
        refine g_iret hX hR dX7_open_41 ?_
        first
        | (rw [x_open, if_pos (Or.inl zc10)]; done)
        | (rw [x_open, if_pos (Or.inr (Or.inl zd23))]; done)
        | (rw [x_open, if_pos (Or.inr (Or.inr zd36))]; done)
def x_vote (M : gM) (nm ol hs : Nat) (op : Bool) (m v : Int32) : Int32 × gM := if inR m nm = true ∧ inI v (nI 0) (nI 2) = true then (if op = true then (nI (cntTo nm (fun k => decide (upd (M 5) m.toNatClampNeg v k ≠ -1))), gset (m_keep M ol hs) 5 (upd (M 5) m.toNatClampNeg v)) else (-2, M)) else (-1, M)
theorem c_X7_vote (E : gE) (m v : Int32) (hW : WS M nm nc nk ne op br mb pl) (hH : WH M ol hs) : gMet E k_X7_vote [.ref 0, .int m, .int v] M (gInt fun r M' => (r, M') = x_vote M nm ol hs op m v) := by
  refine gMet.of (by decide +kernel) rfl (Nat.le_of_ble_eq_true rfl) (fun X hX hR => ?_)
  obtain ⟨⟨hm, hmb⟩, ⟨hc, hcb⟩, ⟨hk, hkb⟩, ⟨he, he1, he2⟩, ⟨hop, hbr⟩, hcm⟩ := id hW
  obtain ⟨hol, holb, hhs, hhsb⟩ := id hH
  have z1 : M 14 1 = 0 ∨ M 14 1 = 1 := hop ▸ gB_01 op
  have z2 : M 14 2 = 0 ∨ M 14 2 = 1 := hbr ▸ gB_01 br
  have K5 : m_keep M ol hs 5 = M 5 := keep_ne (Or.inl (by decide))
  obtain ⟨⟨hm', -⟩, -⟩ := hW.keep (ol := ol) (hs := hs)
  cases hin : inR m nm with
  | false =>
    refine g_aload_n (i := 0) hX dX7_vote_0 rfl rfl rfl ?_
    refine g_getR hX fl_X7_10 rfl rfl dX7_vote_1 rfl ?_
    refine g_getR hX fl_X7_30 rfl rfl dX7_vote_4 rfl ?_
    refine g_iload_n (i := 1) hX dX7_vote_7 rfl rfl rfl ?_
    refine g_callVi hX (c_X4_has E M nm m hm hmb) kf_X4_has rfl wk_X7_85 rfl rfl rfl rfl rfl dX7_vote_8 rfl (fun x8 M8 h8 => ?_)
    obtain ⟨rfl, hm⟩ := h8; have hm := hm.symm; subst hm
    first | refine g_if_eqB (tgt := 23) hX dX7_vote_11 (by decide) rfl (fun zc11 => ?_) (fun zc11 => Bool.noConfusion (hin.symm.trans zc11)) | refine g_if_eq (tgt := 23) hX dX7_vote_11 (by decide) rfl (fun zc11 => ?_) (fun zc11 => Bool.noConfusion (hin.symm.trans zc11))
    refine g_iconst hX dX7_vote_23 ic_m1 rfl ?_
    refine g_iret hX hR dX7_vote_24 ?_
    simp [x_vote, hin]
  | true =>
    obtain ⟨j, hj, rfl⟩ := inR_t (by omega) hin
    refine g_aload_n (i := 0) hX dX7_vote_0 rfl rfl rfl ?_
    refine g_getR hX fl_X7_10 rfl rfl dX7_vote_1 rfl ?_
    refine g_getR hX fl_X7_30 rfl rfl dX7_vote_4 rfl ?_
    refine g_iload_n (i := 1) hX dX7_vote_7 rfl rfl rfl ?_
    refine g_callVi hX (c_X4_has E M nm _ hm hmb) kf_X4_has rfl wk_X7_85 rfl rfl rfl rfl rfl dX7_vote_8 rfl (fun x8 M8 h8 => ?_)
    obtain ⟨rfl, hm⟩ := h8; have hm := hm.symm; subst hm
    first | refine g_if_eqB (tgt := 23) hX dX7_vote_11 (by decide) rfl (fun zc11 => Bool.noConfusion (hin.symm.trans zc11)) (fun zc11 => ?_) | refine g_if_eq (tgt := 23) hX dX7_vote_11 (by decide) rfl (fun zc11 => Bool.noConfusion (hin.symm.trans zc11)) (fun zc11 => ?_)
    refine g_iload_n (i := 2) hX dX7_vote_14 rfl rfl rfl ?_
    refine g_if_lt (tgt := 23) hX dX7_vote_15 (by decide) rfl (fun zc15 => ?_) (fun zc15 => ?_)
    · skip
      refine g_iconst hX dX7_vote_23 ic_m1 rfl ?_
      refine g_iret hX hR dX7_vote_24 ?_
      first
      | (rw [x_vote, if_neg (by rw [inI_2 (show v < nI 0 from zc15)]; simp)]; done)
      | (rw [x_vote, if_neg (by rw [inI_3 (Int32.not_le.mp zc20)]; simp)]; done)
    · skip
      refine g_iload_n (i := 2) hX dX7_vote_18 rfl rfl rfl ?_
      refine g_iconst hX dX7_vote_19 ic_2 rfl ?_
      refine g_icmp_le (tgt := 25) hX dX7_vote_20 (by decide) rfl (fun zc20 => ?_) (fun zc20 => ?_)
      · skip
        refine g_aload_n (i := 0) hX dX7_vote_25 rfl rfl rfl ?_
        refine g_getR hX fl_X7_10 rfl rfl dX7_vote_26 rfl ?_
        refine g_getR hX fl_X7_52 rfl rfl dX7_vote_29 rfl ?_
        refine g_getIv (x := gB op) hX fl_X7_136 rfl rfl (hop) dX7_vote_32 rfl ?_
        first | refine g_if_neB (tgt := 41) hX dX7_vote_35 (by decide) rfl (fun zc35 => ?_) (fun zc35 => ?_) | refine g_if_ne (tgt := 41) hX dX7_vote_35 (by decide) rfl (fun zc35 => ?_) (fun zc35 => ?_)
        · skip
          refine g_aload_n (i := 0) hX dX7_vote_41 rfl rfl rfl ?_
          refine g_getR hX fl_X7_19 rfl rfl dX7_vote_42 rfl ?_
          refine g_aload_n (i := 0) hX dX7_vote_45 rfl rfl rfl ?_
          refine g_getR hX fl_X7_10 rfl rfl dX7_vote_46 rfl ?_
          refine g_callVv hX (c_X3_keep E M ol hs hol holb hhs hhsb z1 z2) kf_X3_keep rfl wk_X7_40 rfl rfl rfl rfl rfl dX7_vote_49 rfl (fun M49 h49 => ?_)
          subst h49
          refine g_aload_n (i := 0) hX dX7_vote_52 rfl rfl rfl ?_
          refine g_getR hX fl_X7_10 rfl rfl dX7_vote_53 rfl ?_
          refine g_getR hX fl_X7_30 rfl rfl dX7_vote_56 rfl ?_
          refine g_getR hX fl_X7_100 rfl rfl dX7_vote_59 rfl ?_
          refine g_iload_n (i := 1) hX dX7_vote_62 rfl rfl rfl ?_
          refine g_iload_n (i := 2) hX dX7_vote_63 rfl rfl rfl ?_
          refine g_iast hX rfl (rfl) (by omega) rfl dX7_vote_64 rfl ?_
          refine g_aload_n (i := 0) hX dX7_vote_65 rfl rfl rfl ?_
          refine g_getR hX fl_X7_10 rfl rfl dX7_vote_66 rfl ?_
          refine g_getR hX fl_X7_30 rfl rfl dX7_vote_69 rfl ?_
          refine g_callVi hX (c_X4_voters E _ nm hm' hmb) kf_X4_voters rfl wk_X7_158 rfl rfl rfl rfl rfl dX7_vote_72 rfl (fun x72 M72 h72 => ?_)
          obtain ⟨rfl, hm⟩ := h72; have hm := hm.symm; subst hm
          refine g_iret hX hR dX7_vote_75 ?_
          have h1 := inI_1 (show ¬ v < nI 0 from zc15) (Int32.not_lt.mpr zc20)
          rw [x_vote, if_pos ⟨hin, h1⟩, zc35, K5, cl_nI (by omega)]; rfl
        · skip
          refine g_bipush hX dX7_vote_38 bc_m2 rfl ?_
          refine g_iret hX hR dX7_vote_40 ?_
          have h1 := inI_1 (show ¬ v < nI 0 from zc15) (Int32.not_lt.mpr zc20)
          rw [x_vote, if_pos ⟨hin, h1⟩, zc35]; rfl
      · skip
        refine g_iconst hX dX7_vote_23 ic_m1 rfl ?_
        refine g_iret hX hR dX7_vote_24 ?_
        first
        | (rw [x_vote, if_neg (by rw [inI_2 (show v < nI 0 from zc15)]; simp)]; done)
        | (rw [x_vote, if_neg (by rw [inI_3 (Int32.not_le.mp zc20)]; simp)]; done)
def m_pass (M : gM) (ol hs : Nat) (d : Int32) : gM := gset (m_keep M ol hs) 1 (upd (M 1) 5 (M 1 5 + d))
def x_pass (M : gM) (nm nk ol hs : Nat) (op : Bool) (d : Int32) : Int32 × gM := if inI d (nI 1) (nI 365) = true then (if M 1 5 + d ≤ nI 10000 then (if op = true ∧ ¬ M 1 5 + d < M 14 4 then (if carB (talM (m_pass M ol hs d) nk nm) (M 25) = true then 2 else 1, m_end (m_pass M ol hs d) nm nk) else (0, m_pass M ol hs d)) else (-3, M)) else (-1, M)
theorem m_end_15 (M : gM) (n nk : Nat) : m_end M n nk 15 5 = gB (carB (talM M nk n) (M 25)) := by
  simp only [m_end]; split <;> rfl
theorem c_X7_pass (E : gE) (d : Int32) (hW : WS M nm nc nk ne op br mb pl) (hH : WH M ol hs) : gMet E k_X7_pass [.ref 0, .int d] M (gInt fun r M' => (r, M') = x_pass M nm nk ol hs op d) := by
  refine gMet.of (by decide +kernel) rfl (Nat.le_of_ble_eq_true rfl) (fun X hX hR => ?_)
  obtain ⟨⟨hm, hmb⟩, ⟨hc, hcb⟩, ⟨hk, hkb⟩, ⟨he, he1, he2⟩, ⟨hop, hbr⟩, hcm⟩ := id hW
  obtain ⟨hol, holb, hhs, hhsb⟩ := id hH
  have z1 : M 14 1 = 0 ∨ M 14 1 = 1 := hop ▸ gB_01 op
  have z2 : M 14 2 = 0 ∨ M 14 2 = 1 := hbr ▸ gB_01 br
  have K1 : m_keep M ol hs 1 = M 1 := keep_ne (Or.inl (by decide))
  have K14 : m_keep M ol hs 14 = M 14 := keep_ne (Or.inl (by decide))
  have K25 : m_keep M ol hs 25 = M 25 := keep_ne (Or.inl (by decide))
  obtain ⟨⟨hm', -⟩, -, ⟨hk', -⟩, -, ⟨hop', -⟩, -⟩ := hW.keep (ol := ol) (hs := hs)
  have e5 : m_end (m_pass M ol hs d) nm nk 15 5 = gB (carB (talM (m_pass M ol hs d) nk nm) (M 25)) := by rw [m_end_15]; rw [show m_pass M ol hs d 25 = M 25 from K25]
  have eM : gset (m_keep M ol hs) 1 (upd (m_keep M ol hs 1) 5 (M 1 5 + d)) = m_pass M ol hs d := by rw [K1]; rfl
  refine g_iload_n (i := 1) hX dX7_pass_0 rfl rfl rfl ?_
  refine g_iconst hX dX7_pass_1 ic_1 rfl ?_
  refine g_icmp_lt (tgt := 12) hX dX7_pass_2 (by decide) rfl (fun zc2 => ?_) (fun zc2 => ?_)
  · skip
    refine g_iconst hX dX7_pass_12 ic_m1 rfl ?_
    refine g_iret hX hR dX7_pass_13 ?_
    first
    | (rw [x_pass, if_neg (by rw [inI_2 zc2]; simp)]; done)
    | (rw [x_pass, if_neg (by rw [inI_3 (Int32.not_le.mp zc9)]; simp)]; done)
  · skip
    refine g_iload_n (i := 1) hX dX7_pass_5 rfl rfl rfl ?_
    refine g_sipush hX dX7_pass_6 sc_365 rfl ?_
    refine g_icmp_le (tgt := 14) hX dX7_pass_9 (by decide) rfl (fun zc9 => ?_) (fun zc9 => ?_)
    · skip
      refine g_aload_n (i := 0) hX dX7_pass_14 rfl rfl rfl ?_
      refine g_getR hX fl_X7_10 rfl rfl dX7_pass_15 rfl ?_
      refine g_getIv (x := M 1 5) hX fl_X7_133 rfl rfl (rfl) dX7_pass_18 rfl ?_
      refine g_iload_n (i := 1) hX dX7_pass_21 rfl rfl rfl ?_
      first | refine g_iaddN hX dX7_pass_22 rfl ?_ | refine g_iadd hX dX7_pass_22 rfl ?_
      refine g_sipush hX dX7_pass_23 sc_10000 rfl ?_
      refine g_icmp_le (tgt := 32) hX dX7_pass_26 (by decide) rfl (fun zc26 => ?_) (fun zc26 => ?_)
      · skip
        refine g_aload_n (i := 0) hX dX7_pass_32 rfl rfl rfl ?_
        refine g_getR hX fl_X7_19 rfl rfl dX7_pass_33 rfl ?_
        refine g_aload_n (i := 0) hX dX7_pass_36 rfl rfl rfl ?_
        refine g_getR hX fl_X7_10 rfl rfl dX7_pass_37 rfl ?_
        refine g_callVv hX (c_X3_keep E M ol hs hol holb hhs hhsb z1 z2) kf_X3_keep rfl wk_X7_40 rfl rfl rfl rfl rfl dX7_pass_40 rfl (fun M40 h40 => ?_)
        subst h40
        refine g_aload_n (i := 0) hX dX7_pass_43 rfl rfl rfl ?_
        refine g_getR hX fl_X7_10 rfl rfl dX7_pass_44 rfl ?_
        refine g_dup hX dX7_pass_47 rfl rfl ?_
        refine g_getIv (x := M 1 5) hX fl_X7_133 rfl rfl ((congrFun K1 5)) dX7_pass_48 rfl ?_
        refine g_iload_n (i := 1) hX dX7_pass_51 rfl rfl rfl ?_
        first | refine g_iaddN hX dX7_pass_52 rfl ?_ | refine g_iadd hX dX7_pass_52 rfl ?_
        refine g_putI hX fp_X7_133 rfl rfl dX7_pass_53 rfl ?_
        rw [eM]
        refine g_aload_n (i := 0) hX dX7_pass_56 rfl rfl rfl ?_
        refine g_getR hX fl_X7_10 rfl rfl dX7_pass_57 rfl ?_
        refine g_getR hX fl_X7_52 rfl rfl dX7_pass_60 rfl ?_
        refine g_getIv (x := gB op) hX fl_X7_136 rfl rfl (hop') dX7_pass_63 rfl ?_
        first | refine g_if_eqB (tgt := 89) hX dX7_pass_66 (by decide) rfl (fun zc66 => ?_) (fun zc66 => ?_) | refine g_if_eq (tgt := 89) hX dX7_pass_66 (by decide) rfl (fun zc66 => ?_) (fun zc66 => ?_)
        · skip
          refine g_iconst hX dX7_pass_89 ic_0 rfl ?_
          refine g_iret hX hR dX7_pass_90 ?_
          have h1 := inI_1 zc2 (Int32.not_lt.mpr zc9)
          rw [x_pass, if_pos h1, if_pos zc26]
          first
            | (rw [if_neg (fun q => Bool.noConfusion (q.1.symm.trans zc66))]; rfl)
            | (rw [if_neg (fun q => q.2 (Int32.not_le.mp zc86))]; rfl)
        · skip
          refine g_aload_n (i := 0) hX dX7_pass_69 rfl rfl rfl ?_
          refine g_getR hX fl_X7_10 rfl rfl dX7_pass_70 rfl ?_
          refine g_getIv (x := M 1 5 + d) hX fl_X7_133 rfl rfl ((by rfl)) dX7_pass_73 rfl ?_
          refine g_aload_n (i := 0) hX dX7_pass_76 rfl rfl rfl ?_
          refine g_getR hX fl_X7_10 rfl rfl dX7_pass_77 rfl ?_
          refine g_getR hX fl_X7_52 rfl rfl dX7_pass_80 rfl ?_
          refine g_getIv (x := M 14 4) hX fl_X7_152 rfl rfl ((congrFun K14 4)) dX7_pass_83 rfl ?_
          refine g_icmp_ge (tgt := 91) hX dX7_pass_86 (by decide) rfl (fun zc86 => ?_) (fun zc86 => ?_)
          · skip
            refine g_aload_n (i := 0) hX dX7_pass_91 rfl rfl rfl ?_
            refine g_getR hX fl_X7_10 rfl rfl dX7_pass_92 rfl ?_
            refine g_callVv hX (c_X5_endBallot E _ nm nk hm' hmb hk' hkb) kf_X5_endBallot rfl wk_X7_161 rfl rfl rfl rfl rfl dX7_pass_95 rfl (fun M95 h95 => ?_)
            subst h95
            refine g_aload_n (i := 0) hX dX7_pass_98 rfl rfl rfl ?_
            refine g_getR hX fl_X7_10 rfl rfl dX7_pass_99 rfl ?_
            refine g_getR hX fl_X7_52 rfl rfl dX7_pass_102 rfl ?_
            refine g_getR hX fl_X7_164 rfl rfl dX7_pass_105 rfl ?_
            refine g_iconst hX dX7_pass_108 ic_5 rfl ?_
            refine g_ialdv (x := gB (carB (talM (m_pass M ol hs d) nk nm) (M 25))) hX rfl (rfl) (by omega) rfl (e5) dX7_pass_109 rfl ?_
            refine g_iconst hX dX7_pass_110 ic_1 rfl ?_
            refine g_icmp_ne (tgt := 118) hX dX7_pass_111 (by decide) rfl (fun zc111 => ?_) (fun zc111 => ?_)
            · skip
              have zd111 : ¬ carB (talM (m_pass M ol hs d) nk nm) (M 25) = true := fun q => zc111 (by rw [q]; rfl)
              refine g_iconst hX dX7_pass_118 ic_1 rfl ?_
              refine g_iret hX hR dX7_pass_119 ?_
              have h1 := inI_1 zc2 (Int32.not_lt.mpr zc9)
              rw [x_pass, if_pos h1, if_pos zc26, if_pos ⟨zc66, Int32.not_lt.mpr zc86⟩]
              first
                | (rw [if_pos zd111]; rfl)
                | (rw [if_neg zd111]; rfl)
            · skip
              have zd111 : carB (talM (m_pass M ol hs d) nk nm) (M 25) = true := by
                cases h : carB (talM (m_pass M ol hs d) nk nm) (M 25) with
                | true => rfl
                | false => rw [h] at zc111; exact absurd zc111 (by decide)
              refine g_iconst hX dX7_pass_114 ic_2 rfl ?_
              refine g_goto (n := 119) hX dX7_pass_115 (by decide) ?_
              refine g_iret hX hR dX7_pass_119 ?_
              have h1 := inI_1 zc2 (Int32.not_lt.mpr zc9)
              rw [x_pass, if_pos h1, if_pos zc26, if_pos ⟨zc66, Int32.not_lt.mpr zc86⟩]
              first
                | (rw [if_pos zd111]; rfl)
                | (rw [if_neg zd111]; rfl)
          · skip
            refine g_iconst hX dX7_pass_89 ic_0 rfl ?_
            refine g_iret hX hR dX7_pass_90 ?_
            have h1 := inI_1 zc2 (Int32.not_lt.mpr zc9)
            rw [x_pass, if_pos h1, if_pos zc26]
            first
              | (rw [if_neg (fun q => Bool.noConfusion (q.1.symm.trans zc66))]; rfl)
              | (rw [if_neg (fun q => q.2 (Int32.not_le.mp zc86))]; rfl)
      · skip
        refine g_bipush hX dX7_pass_29 bc_m3 rfl ?_
        refine g_iret hX hR dX7_pass_31 ?_
        have h1 := inI_1 zc2 (Int32.not_lt.mpr zc9)
        rw [x_pass, if_pos h1, if_neg zc26]
    · skip
      refine g_iconst hX dX7_pass_12 ic_m1 rfl ?_
      refine g_iret hX hR dX7_pass_13 ?_
      first
      | (rw [x_pass, if_neg (by rw [inI_2 zc2]; simp)]; done)
      | (rw [x_pass, if_neg (by rw [inI_3 (Int32.not_le.mp zc9)]; simp)]; done)
def x_comment (M : gM) (nm nc nk ol hs : Nat) (op : Bool) (m c k v : Int32) : Int32 × gM := match fndTo nc (fun q => decide (M 8 q = c)) with
  | none => (-1, M)
  | some p => if inR m nm = true ∧ inI k (nI 0) (nI 1) = true ∧ inI v (nI 0) (nI 9999) = true then (if op = false ∨ M 9 p = v then (-2, M) else if nk = 30 then (-3, M) else (nI nk, m_comment (m_keep M ol hs) nk m (nI p) k v)) else (-1, M)
theorem c_X7_comment (E : gE) (m c k v : Int32) (hW : WS M nm nc nk ne op br mb pl) (hH : WH M ol hs) : gMet E k_X7_comment [.ref 0, .int m, .int c, .int k, .int v] M (gInt fun r M' => (r, M') = x_comment M nm nc nk ol hs op m c k v) := by
  refine gMet.of (by decide +kernel) rfl (Nat.le_of_ble_eq_true rfl) (fun X hX hR => ?_)
  obtain ⟨⟨hm, hmb⟩, ⟨hc, hcb⟩, ⟨hk, hkb⟩, ⟨he, he1, he2⟩, ⟨hop, hbr⟩, hcm⟩ := id hW
  obtain ⟨hol, holb, hhs, hhsb⟩ := id hH
  have z1 : M 14 1 = 0 ∨ M 14 1 = 1 := hop ▸ gB_01 op
  have z2 : M 14 2 = 0 ∨ M 14 2 = 1 := hbr ▸ gB_01 br
  obtain ⟨-, -, ⟨hk', -⟩, -⟩ := hW.keep (ol := ol) (hs := hs)
  cases hf : fndTo nc (fun q => decide (M 8 q = c)) with
  | none =>
    have e : x_comment M nm nc nk ol hs op m c k v = (-1, M) := by rw [x_comment, hf]
    rw [e]
    refine g_aload_n (i := 0) hX dX7_comment_0 rfl rfl rfl ?_
    refine g_getR hX fl_X7_10 rfl rfl dX7_comment_1 rfl ?_
    refine g_getR hX fl_X7_61 rfl rfl dX7_comment_4 rfl ?_
    refine g_iload_n (i := 2) hX dX7_comment_7 rfl rfl rfl ?_
    refine g_callVi hX (c_X2_find E M nc c hc hcb) kf_X2_find rfl wk_X7_65 rfl rfl rfl rfl rfl dX7_comment_8 rfl (fun x8 M8 h8 => ?_)
    obtain ⟨hx, hm0⟩ := h8; have hm0 := hm0.symm; subst hm0; rw [hf] at hx; subst hx
    refine g_istore hX dX7_comment_11 (Nat.le_of_ble_eq_true rfl) rfl ?_
    refine g_aload_n (i := 0) hX dX7_comment_13 rfl rfl rfl ?_
    refine g_getR hX fl_X7_10 rfl rfl dX7_comment_14 rfl ?_
    refine g_getR hX fl_X7_30 rfl rfl dX7_comment_17 rfl ?_
    refine g_iload_n (i := 1) hX dX7_comment_20 rfl rfl rfl ?_
    refine g_callVi hX (c_X4_has E M nm m hm hmb) kf_X4_has rfl wk_X7_85 rfl rfl rfl rfl rfl dX7_comment_21 rfl (fun x21 M21 h21 => ?_)
    obtain ⟨rfl, hm⟩ := h21; have hm := hm.symm; subst hm
    first | refine g_if_eqB (tgt := 33) hX dX7_comment_24 (by decide) rfl (fun zc24 => ?_) (fun zc24 => ?_) | refine g_if_eq (tgt := 33) hX dX7_comment_24 (by decide) rfl (fun zc24 => ?_) (fun zc24 => ?_)
    · skip
      refine g_iconst hX dX7_comment_33 ic_m1 rfl ?_
      refine g_iret hX hR dX7_comment_34 ?_
      rfl
    · skip
      refine g_iload hX dX7_comment_27 rfl rfl ?_
      refine g_iconst hX dX7_comment_29 ic_m1 rfl ?_
      refine g_icmp_ne (tgt := 35) hX dX7_comment_30 (by decide) rfl (fun zc30 => absurd rfl zc30) (fun zc30 => ?_)
      refine g_iconst hX dX7_comment_33 ic_m1 rfl ?_
      refine g_iret hX hR dX7_comment_34 ?_
      rfl
  | some p =>
    have hp := (fndTo_some hf).1
    have e : x_comment M nm nc nk ol hs op m c k v = if inR m nm = true ∧ inI k (nI 0) (nI 1) = true ∧ inI v (nI 0) (nI 9999) = true then (if op = false ∨ M 9 p = v then (-2, M) else if nk = 30 then (-3, M) else (nI nk, m_comment (m_keep M ol hs) nk m (nI p) k v)) else (-1, M) := by rw [x_comment, hf]
    rw [e]
    refine g_aload_n (i := 0) hX dX7_comment_0 rfl rfl rfl ?_
    refine g_getR hX fl_X7_10 rfl rfl dX7_comment_1 rfl ?_
    refine g_getR hX fl_X7_61 rfl rfl dX7_comment_4 rfl ?_
    refine g_iload_n (i := 2) hX dX7_comment_7 rfl rfl rfl ?_
    refine g_callVi hX (c_X2_find E M nc c hc hcb) kf_X2_find rfl wk_X7_65 rfl rfl rfl rfl rfl dX7_comment_8 rfl (fun x8 M8 h8 => ?_)
    obtain ⟨hx, hm0⟩ := h8; have hm0 := hm0.symm; subst hm0; rw [hf] at hx; subst hx
    refine g_istore hX dX7_comment_11 (Nat.le_of_ble_eq_true rfl) rfl ?_
    refine g_aload_n (i := 0) hX dX7_comment_13 rfl rfl rfl ?_
    refine g_getR hX fl_X7_10 rfl rfl dX7_comment_14 rfl ?_
    refine g_getR hX fl_X7_30 rfl rfl dX7_comment_17 rfl ?_
    refine g_iload_n (i := 1) hX dX7_comment_20 rfl rfl rfl ?_
    refine g_callVi hX (c_X4_has E M nm m hm hmb) kf_X4_has rfl wk_X7_85 rfl rfl rfl rfl rfl dX7_comment_21 rfl (fun x21 M21 h21 => ?_)
    obtain ⟨rfl, hm⟩ := h21; have hm := hm.symm; subst hm
    first | refine g_if_eqB (tgt := 33) hX dX7_comment_24 (by decide) rfl (fun zc24 => ?_) (fun zc24 => ?_) | refine g_if_eq (tgt := 33) hX dX7_comment_24 (by decide) rfl (fun zc24 => ?_) (fun zc24 => ?_)
    · skip
      refine g_iconst hX dX7_comment_33 ic_m1 rfl ?_
      refine g_iret hX hR dX7_comment_34 ?_
      rw [if_neg (fun q => Bool.noConfusion (q.1.symm.trans zc24))]
    · skip
      refine g_iload hX dX7_comment_27 rfl rfl ?_
      refine g_iconst hX dX7_comment_29 ic_m1 rfl ?_
      refine g_icmp_ne (tgt := 35) hX dX7_comment_30 (by decide) rfl (fun zc30 => ?_) (fun zc30 => absurd zc30 (nI_ne_m1 (by omega)))
      refine g_iload_n (i := 3) hX dX7_comment_35 rfl rfl rfl ?_
      refine g_if_lt (tgt := 52) hX dX7_comment_36 (by decide) rfl (fun zc36 => ?_) (fun zc36 => ?_)
      · skip
        have zf : inI k (nI 0) (nI 1) = false ∨ inI v (nI 0) (nI 9999) = false := Or.inl (inI_2 zc36)
        refine g_iconst hX dX7_comment_52 ic_m1 rfl ?_
        refine g_iret hX hR dX7_comment_53 ?_
        rw [if_neg (fun q => Or.elim zf (fun e => Bool.noConfusion (q.2.1.symm.trans e)) (fun e => Bool.noConfusion (q.2.2.symm.trans e)))]
      · skip
        refine g_iload_n (i := 3) hX dX7_comment_39 rfl rfl rfl ?_
        refine g_iconst hX dX7_comment_40 ic_1 rfl ?_
        refine g_icmp_gt (tgt := 52) hX dX7_comment_41 (by decide) rfl (fun zc41 => ?_) (fun zc41 => ?_)
        · skip
          have zf : inI k (nI 0) (nI 1) = false ∨ inI v (nI 0) (nI 9999) = false := Or.inl (inI_3 zc41)
          refine g_iconst hX dX7_comment_52 ic_m1 rfl ?_
          refine g_iret hX hR dX7_comment_53 ?_
          rw [if_neg (fun q => Or.elim zf (fun e => Bool.noConfusion (q.2.1.symm.trans e)) (fun e => Bool.noConfusion (q.2.2.symm.trans e)))]
        · skip
          refine g_iload hX dX7_comment_44 rfl rfl ?_
          refine g_callSi hX (c_X7_isValue E M v) kf_X7_isValue rfl wk_X7_48 rfl rfl rfl rfl dX7_comment_46 rfl (fun x46 M46 h46 => ?_)
          obtain ⟨rfl, hm⟩ := h46; have hm := hm.symm; subst hm
          first | refine g_if_neB (tgt := 54) hX dX7_comment_49 (by decide) rfl (fun zc49 => ?_) (fun zc49 => ?_) | refine g_if_ne (tgt := 54) hX dX7_comment_49 (by decide) rfl (fun zc49 => ?_) (fun zc49 => ?_)
          · skip
            refine g_aload_n (i := 0) hX dX7_comment_54 rfl rfl rfl ?_
            refine g_getR hX fl_X7_10 rfl rfl dX7_comment_55 rfl ?_
            refine g_getR hX fl_X7_52 rfl rfl dX7_comment_58 rfl ?_
            refine g_getIv (x := gB op) hX fl_X7_136 rfl rfl (hop) dX7_comment_61 rfl ?_
            first | refine g_if_eqB (tgt := 85) hX dX7_comment_64 (by decide) rfl (fun zc64 => ?_) (fun zc64 => ?_) | refine g_if_eq (tgt := 85) hX dX7_comment_64 (by decide) rfl (fun zc64 => ?_) (fun zc64 => ?_)
            · skip
              refine g_bipush hX dX7_comment_85 bc_m2 rfl ?_
              refine g_iret hX hR dX7_comment_87 ?_
              rw [if_pos ⟨zc24, inI_1 (show ¬ k < nI 0 from zc36) zc41, zc49⟩]
              first
                | (rw [if_pos (Or.inl zc64)]; done)
                | (rw [if_pos (Or.inr zc82)]; done)
            · skip
              refine g_aload_n (i := 0) hX dX7_comment_67 rfl rfl rfl ?_
              refine g_getR hX fl_X7_10 rfl rfl dX7_comment_68 rfl ?_
              refine g_getR hX fl_X7_61 rfl rfl dX7_comment_71 rfl ?_
              refine g_getR hX fl_X7_115 rfl rfl dX7_comment_74 rfl ?_
              refine g_iload hX dX7_comment_77 rfl rfl ?_
              refine g_iald hX rfl ((rfl : _ = nI p)) (by omega) rfl dX7_comment_79 rfl ?_
              refine g_iload hX dX7_comment_80 rfl rfl ?_
              refine g_icmp_ne (tgt := 88) hX dX7_comment_82 (by decide) rfl (fun zc82 => ?_) (fun zc82 => ?_)
              · skip
                refine g_aload_n (i := 0) hX dX7_comment_88 rfl rfl rfl ?_
                refine g_getR hX fl_X7_10 rfl rfl dX7_comment_89 rfl ?_
                refine g_getR hX fl_X7_103 rfl rfl dX7_comment_92 rfl ?_
                refine g_getIv (x := nI nk) hX fl_X7_140 rfl rfl (hk) dX7_comment_95 rfl ?_
                refine g_bipush hX dX7_comment_98 bc_30 rfl ?_
                first | refine g_icmp_ltN (tgt := 106) hX dX7_comment_100 (by decide) rfl (by omega) (by omega) (fun zc100 => ?_) (fun zc100 => ?_) | refine g_icmp_lt (tgt := 106) hX dX7_comment_100 (by decide) rfl (fun zc100 => ?_) (fun zc100 => ?_)
                · skip
                  refine g_aload_n (i := 0) hX dX7_comment_106 rfl rfl rfl ?_
                  refine g_getR hX fl_X7_19 rfl rfl dX7_comment_107 rfl ?_
                  refine g_aload_n (i := 0) hX dX7_comment_110 rfl rfl rfl ?_
                  refine g_getR hX fl_X7_10 rfl rfl dX7_comment_111 rfl ?_
                  refine g_callVv hX (c_X3_keep E M ol hs hol holb hhs hhsb z1 z2) kf_X3_keep rfl wk_X7_40 rfl rfl rfl rfl rfl dX7_comment_114 rfl (fun M114 h114 => ?_)
                  subst h114
                  refine g_aload_n (i := 0) hX dX7_comment_117 rfl rfl rfl ?_
                  refine g_getR hX fl_X7_10 rfl rfl dX7_comment_118 rfl ?_
                  refine g_getR hX fl_X7_103 rfl rfl dX7_comment_121 rfl ?_
                  refine g_iload_n (i := 1) hX dX7_comment_124 rfl rfl rfl ?_
                  refine g_iload hX dX7_comment_125 rfl rfl ?_
                  refine g_iload_n (i := 3) hX dX7_comment_127 rfl rfl rfl ?_
                  refine g_iload hX dX7_comment_128 rfl rfl ?_
                  refine g_callVi hX (c_X1_append E _ nk m (nI p) k v hk' (by omega)) kf_X1_append rfl wk_X7_178 rfl rfl rfl rfl rfl dX7_comment_130 rfl (fun x130 M130 h130 => ?_)
                  obtain ⟨rfl, hm⟩ := h130; have hm := hm.symm; subst hm
                  refine g_iret hX hR dX7_comment_133 ?_
                  rw [if_pos ⟨zc24, inI_1 (show ¬ k < nI 0 from zc36) zc41, zc49⟩, if_neg (fun q => q.elim (fun q => Bool.noConfusion (q.symm.trans zc64)) zc82), if_neg (by omega)]
                · skip
                  refine g_bipush hX dX7_comment_103 bc_m3 rfl ?_
                  refine g_iret hX hR dX7_comment_105 ?_
                  rw [if_pos ⟨zc24, inI_1 (show ¬ k < nI 0 from zc36) zc41, zc49⟩, if_neg (fun q => q.elim (fun q => Bool.noConfusion (q.symm.trans zc64)) zc82), if_pos (by omega)]
              · skip
                refine g_bipush hX dX7_comment_85 bc_m2 rfl ?_
                refine g_iret hX hR dX7_comment_87 ?_
                rw [if_pos ⟨zc24, inI_1 (show ¬ k < nI 0 from zc36) zc41, zc49⟩]
                first
                  | (rw [if_pos (Or.inl zc64)]; done)
                  | (rw [if_pos (Or.inr zc82)]; done)
          · skip
            have zf : inI k (nI 0) (nI 1) = false ∨ inI v (nI 0) (nI 9999) = false := Or.inr zc49
            refine g_iconst hX dX7_comment_52 ic_m1 rfl ?_
            refine g_iret hX hR dX7_comment_53 ?_
            rw [if_neg (fun q => Or.elim zf (fun e => Bool.noConfusion (q.2.1.symm.trans e)) (fun e => Bool.noConfusion (q.2.2.symm.trans e)))]
def x_undo (M : gM) (ol hs : Nat) : Int32 × gM := if hs = 0 then (-2, M) else (nI (hs - 1), m_rest M ol hs)
theorem rest_ne {a : Nat} (h : a < 1 ∨ (26 ≤ a ∧ a ≠ 126)) : m_rest M ol hs a = M a := by
  simp only [m_rest]
  rw [cpS_ne (by omega), gset_ne _ _ (by omega)]
theorem c_X7_undo (E : gE) (hH : WH M ol hs) (hz : 0 < hs → (M (hisB ((ol + (hs - 1)) % 4) + 13) 1 = 0 ∨ M (hisB ((ol + (hs - 1)) % 4) + 13) 1 = 1) ∧ (M (hisB ((ol + (hs - 1)) % 4) + 13) 2 = 0 ∨ M (hisB ((ol + (hs - 1)) % 4) + 13) 2 = 1)) : gMet E k_X7_undo [.ref 0] M (gInt fun r M' => (r, M') = x_undo M ol hs) := by
  refine gMet.of (by decide +kernel) rfl (Nat.le_of_ble_eq_true rfl) (fun X hX hR => ?_)
  obtain ⟨hol, holb, hhs, hhsb⟩ := id hH
  by_cases h0 : hs = 0
  · subst h0
    refine g_aload_n (i := 0) hX dX7_undo_0 rfl rfl rfl ?_
    refine g_getR hX fl_X7_19 rfl rfl dX7_undo_1 rfl ?_
    refine g_getIv (x := nI 0) hX fl_X7_148 rfl rfl (hhs) dX7_undo_4 rfl ?_
    refine g_if_ne (tgt := 13) hX dX7_undo_7 (by decide) rfl (fun zc7 => absurd zc7 (by decide)) (fun zc7 => ?_)
    refine g_bipush hX dX7_undo_10 bc_m2 rfl ?_
    refine g_iret hX hR dX7_undo_12 ?_
    rfl
  · obtain ⟨hz1, hz2⟩ := hz (by omega)
    have e : m_rest M ol hs 126 2 = nI (hs - 1) := by simp only [m_rest]; rw [cpS_ne (by omega), gset_eq, upd_s]
    refine g_aload_n (i := 0) hX dX7_undo_0 rfl rfl rfl ?_
    refine g_getR hX fl_X7_19 rfl rfl dX7_undo_1 rfl ?_
    refine g_getIv (x := nI hs) hX fl_X7_148 rfl rfl (hhs) dX7_undo_4 rfl ?_
    refine g_if_ne (tgt := 13) hX dX7_undo_7 (by decide) rfl (fun zc7 => ?_) (fun zc7 => absurd zc7 (nI_ne0 (by omega) (by omega)))
    refine g_aload_n (i := 0) hX dX7_undo_13 rfl rfl rfl ?_
    refine g_getR hX fl_X7_19 rfl rfl dX7_undo_14 rfl ?_
    refine g_aload_n (i := 0) hX dX7_undo_17 rfl rfl rfl ?_
    refine g_getR hX fl_X7_10 rfl rfl dX7_undo_18 rfl ?_
    refine g_callVv hX (c_X3_restore E M ol hs hol holb hhs hhsb (by omega) hz1 hz2) kf_X3_restore rfl wk_X7_243 rfl rfl rfl rfl rfl dX7_undo_21 rfl (fun M21 h21 => ?_)
    subst h21
    refine g_aload_n (i := 0) hX dX7_undo_24 rfl rfl rfl ?_
    refine g_getR hX fl_X7_19 rfl rfl dX7_undo_25 rfl ?_
    refine g_getIv (x := nI (hs - 1)) hX fl_X7_148 rfl rfl (e) dX7_undo_28 rfl ?_
    refine g_iret hX hR dX7_undo_31 ?_
    rw [x_undo, if_neg h0]
end

