/-! CommitteeBallots: what is told of ballots, comments, editions -/
section
variable {M : gM} {nm nc nk ne ol hs : Nat} {op br : Bool} {mb pl : Nat → Nat}
abbrev talX (M : gM) (nk nm : Nat) : Nat → Int32 := talF (M 3) (M 4) (M 25) (M 5) (M 17) (M 19) nk nm
def x_tally (M : gM) (nm nk : Nat) (op : Bool) (w : Int32) : Int32 × gM := if inR w 6 = true then (if M 14 3 = 0 then (-4, M) else if op = true then (talX M nk nm w.toNatClampNeg, gset M 15 (talX M nk nm)) else (M 15 w.toNatClampNeg, M)) else (-1, M)
theorem c_X7_tally (E : gE) (w : Int32) (hW : WS M nm nc nk ne op br mb pl) : gMet E k_X7_tally [.ref 0, .int w] M (gInt fun r M' => (r, M') = x_tally M nm nk op w) := by
  refine gMet.of (by decide +kernel) rfl (Nat.le_of_ble_eq_true rfl) (fun X hX hR => ?_)
  obtain ⟨⟨hm, hmb⟩, ⟨hc, hcb⟩, ⟨hk, hkb⟩, ⟨he, he1, he2⟩, ⟨hop, hbr⟩, hcm⟩ := id hW
  rcases pk_ix w (n := 6) (by decide) with h | h | ⟨j, hj, rfl⟩
  · have e : x_tally M nm nk op w = (-1, M) := by simp [x_tally, inR_neg h]
    rw [e]
    refine g_iload_n (i := 1) hX dX7_tally_0 rfl rfl rfl ?_
    refine g_if_lt (tgt := 10) hX dX7_tally_1 (by decide) rfl (fun zc1 => ?_) (fun zc1 => absurd h zc1)
    refine g_iconst hX dX7_tally_10 ic_m1 rfl ?_
    refine g_iret hX hR dX7_tally_11 ?_
    rfl
  · have e : x_tally M nm nk op w = (-1, M) := by simp [x_tally, inR_ge h]
    have h0 : ¬ w < 0 := fun q => absurd (Int32.lt_of_lt_of_le q (by decide : (0 : Int32) ≤ nI 6)) (Int32.not_lt.mpr h)
    rw [e]
    refine g_iload_n (i := 1) hX dX7_tally_0 rfl rfl rfl ?_
    refine g_if_lt (tgt := 10) hX dX7_tally_1 (by decide) rfl (fun zc1 => absurd zc1 (h0)) (fun zc1 => ?_)
    refine g_iload_n (i := 1) hX dX7_tally_4 rfl rfl rfl ?_
    refine g_bipush hX dX7_tally_5 bc_6 rfl ?_
    refine g_icmp_lt (tgt := 12) hX dX7_tally_7 (by decide) rfl (fun zc7 => absurd zc7 (Int32.not_lt.mpr h)) (fun zc7 => ?_)
    refine g_iconst hX dX7_tally_10 ic_m1 rfl ?_
    refine g_iret hX hR dX7_tally_11 ?_
    rfl
  · have e : x_tally M nm nk op (nI j) = if M 14 3 = 0 then (-4, M) else if op = true then (talX M nk nm j, gset M 15 (talX M nk nm)) else (M 15 j, M) := by rw [x_tally, inR_nI (by omega) (by decide), decide_eq_true hj, cl_nI (by omega)]; rfl
    rw [e]
    refine g_iload_n (i := 1) hX dX7_tally_0 rfl rfl rfl ?_
    refine g_if_lt (tgt := 10) hX dX7_tally_1 (by decide) rfl (fun zc1 => absurd zc1 (nI_pos (by omega))) (fun zc1 => ?_)
    refine g_iload_n (i := 1) hX dX7_tally_4 rfl rfl rfl ?_
    refine g_bipush hX dX7_tally_5 bc_6 rfl ?_
    first | refine g_icmp_ltN (tgt := 12) hX dX7_tally_7 (by decide) rfl (by omega) (by omega) (fun zc7 => ?_) (fun zc7 => absurd zc7 (by omega)) | refine g_icmp_lt (tgt := 12) hX dX7_tally_7 (by decide) rfl (fun zc7 => ?_) (fun zc7 => absurd zc7 (by omega))
    refine g_aload_n (i := 0) hX dX7_tally_12 rfl rfl rfl ?_
    refine g_getR hX fl_X7_10 rfl rfl dX7_tally_13 rfl ?_
    refine g_getR hX fl_X7_52 rfl rfl dX7_tally_16 rfl ?_
    refine g_getI hX fl_X7_56 rfl rfl dX7_tally_19 rfl ?_
    refine g_if_ne (tgt := 28) hX dX7_tally_22 (by decide) rfl (fun zc22 => ?_) (fun zc22 => ?_)
    · skip
      refine g_aload_n (i := 0) hX dX7_tally_28 rfl rfl rfl ?_
      refine g_getR hX fl_X7_10 rfl rfl dX7_tally_29 rfl ?_
      refine g_getR hX fl_X7_52 rfl rfl dX7_tally_32 rfl ?_
      refine g_getIv (x := gB op) hX fl_X7_136 rfl rfl (hop) dX7_tally_35 rfl ?_
      first | refine g_if_eqB (tgt := 48) hX dX7_tally_38 (by decide) rfl (fun zc38 => ?_) (fun zc38 => ?_) | refine g_if_eq (tgt := 48) hX dX7_tally_38 (by decide) rfl (fun zc38 => ?_) (fun zc38 => ?_)
      · skip
        refine g_aload_n (i := 0) hX dX7_tally_48 rfl rfl rfl ?_
        refine g_getR hX fl_X7_10 rfl rfl dX7_tally_49 rfl ?_
        refine g_getR hX fl_X7_52 rfl rfl dX7_tally_52 rfl ?_
        refine g_getR hX fl_X7_164 rfl rfl dX7_tally_55 rfl ?_
        refine g_iload_n (i := 1) hX dX7_tally_58 rfl rfl rfl ?_
        refine g_iald hX rfl (rfl) (by omega) rfl dX7_tally_59 rfl ?_
        refine g_iret hX hR dX7_tally_60 ?_
        rw [if_neg zc22, zc38]; rfl
      · skip
        refine g_aload_n (i := 0) hX dX7_tally_41 rfl rfl rfl ?_
        refine g_getR hX fl_X7_10 rfl rfl dX7_tally_42 rfl ?_
        refine g_callVv hX (c_X5_countVotes E M nm nk hm hmb hk hkb) kf_X5_countVotes rfl wk_X7_167 rfl rfl rfl rfl rfl dX7_tally_45 rfl (fun M45 h45 => ?_)
        subst h45
        refine g_aload_n (i := 0) hX dX7_tally_48 rfl rfl rfl ?_
        refine g_getR hX fl_X7_10 rfl rfl dX7_tally_49 rfl ?_
        refine g_getR hX fl_X7_52 rfl rfl dX7_tally_52 rfl ?_
        refine g_getR hX fl_X7_164 rfl rfl dX7_tally_55 rfl ?_
        refine g_iload_n (i := 1) hX dX7_tally_58 rfl rfl rfl ?_
        refine g_iald hX rfl (rfl) (by omega) rfl dX7_tally_59 rfl ?_
        refine g_iret hX hR dX7_tally_60 ?_
        rw [if_neg zc22, zc38]; rfl
    · skip
      refine g_bipush hX dX7_tally_25 bc_m4 rfl ?_
      refine g_iret hX hR dX7_tally_27 ?_
      rw [if_pos zc22]
def dU (a b : Int32) : Int32 := if b < 1 then 0 else (a + b - 1) / b
def mxI (a b : Int32) : Int32 := if a < b then b else a
def lackF (su se : Nat → Int32) : Int32 := if su 0 = 0 ∨ (se 1 = 100 ∧ 0 < su 3) then -4 else mxI (if 0 < su 2 + su 3 then 0 else 1) (mxI (dU (se 0 * su 0) 100 - su 1) (dU (se 1 * su 3) (100 - se 1) - su 2))
def x_lacking (M : gM) (nm nk : Nat) (op : Bool) : Int32 × gM := if op = true then (lackF (talX M nk nm) (M 25), gset M 15 (talX M nk nm)) else (-2, M)
theorem c_X7_lacking (E : gE) (hW : WS M nm nc nk ne op br mb pl) : gMet E k_X7_lacking [.ref 0] M (gInt fun r M' => (r, M') = x_lacking M nm nk op) := by
  refine gMet.of (by decide +kernel) rfl (Nat.le_of_ble_eq_true rfl) (fun X hX hR => ?_)
  obtain ⟨⟨hm, hmb⟩, ⟨hc, hcb⟩, ⟨hk, hkb⟩, ⟨he, he1, he2⟩, ⟨hop, hbr⟩, hcm⟩ := id hW
  have e100 : nI 100 = 100 := rfl
  have e1 : nI 1 = 1 := rfl
  have e0 : nI 0 = 0 := rfl
  refine g_aload_n (i := 0) hX dX7_lacking_0 rfl rfl rfl ?_
  refine g_getR hX fl_X7_10 rfl rfl dX7_lacking_1 rfl ?_
  refine g_getR hX fl_X7_52 rfl rfl dX7_lacking_4 rfl ?_
  refine g_getIv (x := gB op) hX fl_X7_136 rfl rfl (hop) dX7_lacking_7 rfl ?_
  first | refine g_if_neB (tgt := 16) hX dX7_lacking_10 (by decide) rfl (fun zc10 => ?_) (fun zc10 => ?_) | refine g_if_ne (tgt := 16) hX dX7_lacking_10 (by decide) rfl (fun zc10 => ?_) (fun zc10 => ?_)
  · skip
    refine g_aload_n (i := 0) hX dX7_lacking_16 rfl rfl rfl ?_
    refine g_getR hX fl_X7_10 rfl rfl dX7_lacking_17 rfl ?_
    refine g_callVv hX (c_X5_countVotes E M nm nk hm hmb hk hkb) kf_X5_countVotes rfl wk_X7_167 rfl rfl rfl rfl rfl dX7_lacking_20 rfl (fun M20 h20 => ?_)
    subst h20
    refine g_aload_n (i := 0) hX dX7_lacking_23 rfl rfl rfl ?_
    refine g_getR hX fl_X7_10 rfl rfl dX7_lacking_24 rfl ?_
    refine g_getR hX fl_X7_52 rfl rfl dX7_lacking_27 rfl ?_
    refine g_getR hX fl_X7_164 rfl rfl dX7_lacking_30 rfl ?_
    refine g_astore_n (i := 1) hX dX7_lacking_33 rfl (Nat.le_of_ble_eq_true rfl) rfl ?_
    refine g_aload_n (i := 0) hX dX7_lacking_34 rfl rfl rfl ?_
    refine g_getR hX fl_X7_10 rfl rfl dX7_lacking_35 rfl ?_
    refine g_getR hX fl_X7_82 rfl rfl dX7_lacking_38 rfl ?_
    refine g_iconst hX dX7_lacking_41 ic_1 rfl ?_
    refine g_ialdv (x := M 25 1) hX rfl (rfl) (by omega) rfl (rfl) dX7_lacking_42 rfl ?_
    refine g_istore_n (i := 2) hX dX7_lacking_43 rfl (Nat.le_of_ble_eq_true rfl) rfl ?_
    refine g_aload_n (i := 1) hX dX7_lacking_44 rfl rfl rfl ?_
    refine g_iconst hX dX7_lacking_45 ic_0 rfl ?_
    refine g_ialdv (x := talX M nk nm 0) hX rfl (rfl) (by omega) rfl (rfl) dX7_lacking_46 rfl ?_
    refine g_if_eq (tgt := 62) hX dX7_lacking_47 (by decide) rfl (fun zc47 => ?_) (fun zc47 => ?_)
    · skip
      refine g_bipush hX dX7_lacking_62 bc_m4 rfl ?_
      refine g_iret hX hR dX7_lacking_64 ?_
      rw [x_lacking, if_pos zc10]
      first
        | (rw [lackF, if_pos (Or.inl zc47)]; done)
        | (rw [lackF, if_pos (Or.inr ⟨zc53, zd59⟩)]; done)
    · skip
      refine g_iload_n (i := 2) hX dX7_lacking_50 rfl rfl rfl ?_
      refine g_bipush hX dX7_lacking_51 bc_100 rfl ?_
      refine g_icmp_ne (tgt := 65) hX dX7_lacking_53 (by decide) rfl (fun zc53 => ?_) (fun zc53 => ?_)
      · skip
        refine g_aload_n (i := 1) hX dX7_lacking_65 rfl rfl rfl ?_
        refine g_iconst hX dX7_lacking_66 ic_2 rfl ?_
        refine g_ialdv (x := talX M nk nm 2) hX rfl (rfl) (by omega) rfl (rfl) dX7_lacking_67 rfl ?_
        refine g_aload_n (i := 1) hX dX7_lacking_68 rfl rfl rfl ?_
        refine g_iconst hX dX7_lacking_69 ic_3 rfl ?_
        refine g_ialdv (x := talX M nk nm 3) hX rfl (rfl) (by omega) rfl (rfl) dX7_lacking_70 rfl ?_
        first | refine g_iaddN hX dX7_lacking_71 rfl ?_ | refine g_iadd hX dX7_lacking_71 rfl ?_
        refine g_if_le (tgt := 79) hX dX7_lacking_72 (by decide) rfl (fun zc72 => ?_) (fun zc72 => ?_)
        · skip
          have zd72 : ¬ 0 < talX M nk nm 2 + talX M nk nm 3 := Int32.not_lt.mpr zc72
          refine g_iconst hX dX7_lacking_79 ic_1 rfl ?_
          refine g_istore_n (i := 3) hX dX7_lacking_80 rfl (Nat.le_of_ble_eq_true rfl) rfl ?_
          refine g_aload_n (i := 0) hX dX7_lacking_81 rfl rfl rfl ?_
          refine g_getR hX fl_X7_10 rfl rfl dX7_lacking_82 rfl ?_
          refine g_getR hX fl_X7_82 rfl rfl dX7_lacking_85 rfl ?_
          refine g_iconst hX dX7_lacking_88 ic_0 rfl ?_
          refine g_ialdv (x := M 25 0) hX rfl (rfl) (by omega) rfl (rfl) dX7_lacking_89 rfl ?_
          refine g_aload_n (i := 1) hX dX7_lacking_90 rfl rfl rfl ?_
          refine g_iconst hX dX7_lacking_91 ic_0 rfl ?_
          refine g_ialdv (x := talX M nk nm 0) hX rfl (rfl) (by omega) rfl (rfl) dX7_lacking_92 rfl ?_
          first | refine g_imulN hX dX7_lacking_93 rfl ?_ | refine g_imul hX dX7_lacking_93 rfl ?_
          refine g_bipush hX dX7_lacking_94 bc_100 rfl ?_
          refine g_callSi hX (c_X7_dividedUp E _ _ _) kf_X7_dividedUp rfl wk_X7_170 rfl rfl rfl rfl dX7_lacking_96 rfl (fun x96 M96 h96 => ?_)
          obtain ⟨rfl, hm⟩ := h96; have hm := hm.symm; subst hm
          refine g_aload_n (i := 1) hX dX7_lacking_99 rfl rfl rfl ?_
          refine g_iconst hX dX7_lacking_100 ic_1 rfl ?_
          refine g_ialdv (x := talX M nk nm 1) hX rfl (rfl) (by omega) rfl (rfl) dX7_lacking_101 rfl ?_
          refine g_isub hX dX7_lacking_102 rfl ?_
          refine g_istore hX dX7_lacking_103 (Nat.le_of_ble_eq_true rfl) rfl ?_
          refine g_iload_n (i := 2) hX dX7_lacking_105 rfl rfl rfl ?_
          refine g_aload_n (i := 1) hX dX7_lacking_106 rfl rfl rfl ?_
          refine g_iconst hX dX7_lacking_107 ic_3 rfl ?_
          refine g_ialdv (x := talX M nk nm 3) hX rfl (rfl) (by omega) rfl (rfl) dX7_lacking_108 rfl ?_
          first | refine g_imulN hX dX7_lacking_109 rfl ?_ | refine g_imul hX dX7_lacking_109 rfl ?_
          refine g_bipush hX dX7_lacking_110 bc_100 rfl ?_
          refine g_iload_n (i := 2) hX dX7_lacking_112 rfl rfl rfl ?_
          refine g_isub hX dX7_lacking_113 rfl ?_
          refine g_callSi hX (c_X7_dividedUp E _ _ _) kf_X7_dividedUp rfl wk_X7_170 rfl rfl rfl rfl dX7_lacking_114 rfl (fun x114 M114 h114 => ?_)
          obtain ⟨rfl, hm⟩ := h114; have hm := hm.symm; subst hm
          refine g_aload_n (i := 1) hX dX7_lacking_117 rfl rfl rfl ?_
          refine g_iconst hX dX7_lacking_118 ic_2 rfl ?_
          refine g_ialdv (x := talX M nk nm 2) hX rfl (rfl) (by omega) rfl (rfl) dX7_lacking_119 rfl ?_
          refine g_isub hX dX7_lacking_120 rfl ?_
          refine g_istore hX dX7_lacking_121 (Nat.le_of_ble_eq_true rfl) rfl ?_
          refine g_iload_n (i := 3) hX dX7_lacking_123 rfl rfl rfl ?_
          refine g_iload hX dX7_lacking_124 rfl rfl ?_
          refine g_iload hX dX7_lacking_126 rfl rfl ?_
          refine g_mmax hX wk_X7_173 rfl rfl rfl dX7_lacking_128 rfl ?_
          refine g_mmax hX wk_X7_173 rfl rfl rfl dX7_lacking_131 rfl ?_
          refine g_iret hX hR dX7_lacking_134 ?_
          rw [x_lacking, if_pos zc10]
          first
            | (rw [lackF, if_neg (fun q => Or.elim q zc47 (fun q => zd59 q.2)), if_pos zd72]; rfl)
            | (rw [lackF, if_neg (fun q => Or.elim q zc47 (fun q => zd59 q.2)), if_neg zd72]; rfl)
            | (rw [lackF, if_neg (fun q => Or.elim q zc47 (fun q => zc53 q.1)), if_pos zd72]; rfl)
            | (rw [lackF, if_neg (fun q => Or.elim q zc47 (fun q => zc53 q.1)), if_neg zd72]; rfl)
        · skip
          have zd72 : 0 < talX M nk nm 2 + talX M nk nm 3 := Int32.not_le.mp zc72
          refine g_iconst hX dX7_lacking_75 ic_0 rfl ?_
          refine g_goto (n := 80) hX dX7_lacking_76 (by decide) ?_
          refine g_istore_n (i := 3) hX dX7_lacking_80 rfl (Nat.le_of_ble_eq_true rfl) rfl ?_
          refine g_aload_n (i := 0) hX dX7_lacking_81 rfl rfl rfl ?_
          refine g_getR hX fl_X7_10 rfl rfl dX7_lacking_82 rfl ?_
          refine g_getR hX fl_X7_82 rfl rfl dX7_lacking_85 rfl ?_
          refine g_iconst hX dX7_lacking_88 ic_0 rfl ?_
          refine g_ialdv (x := M 25 0) hX rfl (rfl) (by omega) rfl (rfl) dX7_lacking_89 rfl ?_
          refine g_aload_n (i := 1) hX dX7_lacking_90 rfl rfl rfl ?_
          refine g_iconst hX dX7_lacking_91 ic_0 rfl ?_
          refine g_ialdv (x := talX M nk nm 0) hX rfl (rfl) (by omega) rfl (rfl) dX7_lacking_92 rfl ?_
          first | refine g_imulN hX dX7_lacking_93 rfl ?_ | refine g_imul hX dX7_lacking_93 rfl ?_
          refine g_bipush hX dX7_lacking_94 bc_100 rfl ?_
          refine g_callSi hX (c_X7_dividedUp E _ _ _) kf_X7_dividedUp rfl wk_X7_170 rfl rfl rfl rfl dX7_lacking_96 rfl (fun x96 M96 h96 => ?_)
          obtain ⟨rfl, hm⟩ := h96; have hm := hm.symm; subst hm
          refine g_aload_n (i := 1) hX dX7_lacking_99 rfl rfl rfl ?_
          refine g_iconst hX dX7_lacking_100 ic_1 rfl ?_
          refine g_ialdv (x := talX M nk nm 1) hX rfl (rfl) (by omega) rfl (rfl) dX7_lacking_101 rfl ?_
          refine g_isub hX dX7_lacking_102 rfl ?_
          refine g_istore hX dX7_lacking_103 (Nat.le_of_ble_eq_true rfl) rfl ?_
          refine g_iload_n (i := 2) hX dX7_lacking_105 rfl rfl rfl ?_
          refine g_aload_n (i := 1) hX dX7_lacking_106 rfl rfl rfl ?_
          refine g_iconst hX dX7_lacking_107 ic_3 rfl ?_
          refine g_ialdv (x := talX M nk nm 3) hX rfl (rfl) (by omega) rfl (rfl) dX7_lacking_108 rfl ?_
          first | refine g_imulN hX dX7_lacking_109 rfl ?_ | refine g_imul hX dX7_lacking_109 rfl ?_
          refine g_bipush hX dX7_lacking_110 bc_100 rfl ?_
          refine g_iload_n (i := 2) hX dX7_lacking_112 rfl rfl rfl ?_
          refine g_isub hX dX7_lacking_113 rfl ?_
          refine g_callSi hX (c_X7_dividedUp E _ _ _) kf_X7_dividedUp rfl wk_X7_170 rfl rfl rfl rfl dX7_lacking_114 rfl (fun x114 M114 h114 => ?_)
          obtain ⟨rfl, hm⟩ := h114; have hm := hm.symm; subst hm
          refine g_aload_n (i := 1) hX dX7_lacking_117 rfl rfl rfl ?_
          refine g_iconst hX dX7_lacking_118 ic_2 rfl ?_
          refine g_ialdv (x := talX M nk nm 2) hX rfl (rfl) (by omega) rfl (rfl) dX7_lacking_119 rfl ?_
          refine g_isub hX dX7_lacking_120 rfl ?_
          refine g_istore hX dX7_lacking_121 (Nat.le_of_ble_eq_true rfl) rfl ?_
          refine g_iload_n (i := 3) hX dX7_lacking_123 rfl rfl rfl ?_
          refine g_iload hX dX7_lacking_124 rfl rfl ?_
          refine g_iload hX dX7_lacking_126 rfl rfl ?_
          refine g_mmax hX wk_X7_173 rfl rfl rfl dX7_lacking_128 rfl ?_
          refine g_mmax hX wk_X7_173 rfl rfl rfl dX7_lacking_131 rfl ?_
          refine g_iret hX hR dX7_lacking_134 ?_
          rw [x_lacking, if_pos zc10]
          first
            | (rw [lackF, if_neg (fun q => Or.elim q zc47 (fun q => zd59 q.2)), if_pos zd72]; rfl)
            | (rw [lackF, if_neg (fun q => Or.elim q zc47 (fun q => zd59 q.2)), if_neg zd72]; rfl)
            | (rw [lackF, if_neg (fun q => Or.elim q zc47 (fun q => zc53 q.1)), if_pos zd72]; rfl)
            | (rw [lackF, if_neg (fun q => Or.elim q zc47 (fun q => zc53 q.1)), if_neg zd72]; rfl)
      · skip
        refine g_aload_n (i := 1) hX dX7_lacking_56 rfl rfl rfl ?_
        refine g_iconst hX dX7_lacking_57 ic_3 rfl ?_
        refine g_ialdv (x := talX M nk nm 3) hX rfl (rfl) (by omega) rfl (rfl) dX7_lacking_58 rfl ?_
        refine g_if_le (tgt := 65) hX dX7_lacking_59 (by decide) rfl (fun zc59 => ?_) (fun zc59 => ?_)
        · skip
          have zd59 : ¬ 0 < talX M nk nm 3 := Int32.not_lt.mpr zc59
          refine g_aload_n (i := 1) hX dX7_lacking_65 rfl rfl rfl ?_
          refine g_iconst hX dX7_lacking_66 ic_2 rfl ?_
          refine g_ialdv (x := talX M nk nm 2) hX rfl (rfl) (by omega) rfl (rfl) dX7_lacking_67 rfl ?_
          refine g_aload_n (i := 1) hX dX7_lacking_68 rfl rfl rfl ?_
          refine g_iconst hX dX7_lacking_69 ic_3 rfl ?_
          refine g_ialdv (x := talX M nk nm 3) hX rfl (rfl) (by omega) rfl (rfl) dX7_lacking_70 rfl ?_
          first | refine g_iaddN hX dX7_lacking_71 rfl ?_ | refine g_iadd hX dX7_lacking_71 rfl ?_
          refine g_if_le (tgt := 79) hX dX7_lacking_72 (by decide) rfl (fun zc72 => ?_) (fun zc72 => ?_)
          · skip
            have zd72 : ¬ 0 < talX M nk nm 2 + talX M nk nm 3 := Int32.not_lt.mpr zc72
            refine g_iconst hX dX7_lacking_79 ic_1 rfl ?_
            refine g_istore_n (i := 3) hX dX7_lacking_80 rfl (Nat.le_of_ble_eq_true rfl) rfl ?_
            refine g_aload_n (i := 0) hX dX7_lacking_81 rfl rfl rfl ?_
            refine g_getR hX fl_X7_10 rfl rfl dX7_lacking_82 rfl ?_
            refine g_getR hX fl_X7_82 rfl rfl dX7_lacking_85 rfl ?_
            refine g_iconst hX dX7_lacking_88 ic_0 rfl ?_
            refine g_ialdv (x := M 25 0) hX rfl (rfl) (by omega) rfl (rfl) dX7_lacking_89 rfl ?_
            refine g_aload_n (i := 1) hX dX7_lacking_90 rfl rfl rfl ?_
            refine g_iconst hX dX7_lacking_91 ic_0 rfl ?_
            refine g_ialdv (x := talX M nk nm 0) hX rfl (rfl) (by omega) rfl (rfl) dX7_lacking_92 rfl ?_
            first | refine g_imulN hX dX7_lacking_93 rfl ?_ | refine g_imul hX dX7_lacking_93 rfl ?_
            refine g_bipush hX dX7_lacking_94 bc_100 rfl ?_
            refine g_callSi hX (c_X7_dividedUp E _ _ _) kf_X7_dividedUp rfl wk_X7_170 rfl rfl rfl rfl dX7_lacking_96 rfl (fun x96 M96 h96 => ?_)
            obtain ⟨rfl, hm⟩ := h96; have hm := hm.symm; subst hm
            refine g_aload_n (i := 1) hX dX7_lacking_99 rfl rfl rfl ?_
            refine g_iconst hX dX7_lacking_100 ic_1 rfl ?_
            refine g_ialdv (x := talX M nk nm 1) hX rfl (rfl) (by omega) rfl (rfl) dX7_lacking_101 rfl ?_
            refine g_isub hX dX7_lacking_102 rfl ?_
            refine g_istore hX dX7_lacking_103 (Nat.le_of_ble_eq_true rfl) rfl ?_
            refine g_iload_n (i := 2) hX dX7_lacking_105 rfl rfl rfl ?_
            refine g_aload_n (i := 1) hX dX7_lacking_106 rfl rfl rfl ?_
            refine g_iconst hX dX7_lacking_107 ic_3 rfl ?_
            refine g_ialdv (x := talX M nk nm 3) hX rfl (rfl) (by omega) rfl (rfl) dX7_lacking_108 rfl ?_
            first | refine g_imulN hX dX7_lacking_109 rfl ?_ | refine g_imul hX dX7_lacking_109 rfl ?_
            refine g_bipush hX dX7_lacking_110 bc_100 rfl ?_
            refine g_iload_n (i := 2) hX dX7_lacking_112 rfl rfl rfl ?_
            refine g_isub hX dX7_lacking_113 rfl ?_
            refine g_callSi hX (c_X7_dividedUp E _ _ _) kf_X7_dividedUp rfl wk_X7_170 rfl rfl rfl rfl dX7_lacking_114 rfl (fun x114 M114 h114 => ?_)
            obtain ⟨rfl, hm⟩ := h114; have hm := hm.symm; subst hm
            refine g_aload_n (i := 1) hX dX7_lacking_117 rfl rfl rfl ?_
            refine g_iconst hX dX7_lacking_118 ic_2 rfl ?_
            refine g_ialdv (x := talX M nk nm 2) hX rfl (rfl) (by omega) rfl (rfl) dX7_lacking_119 rfl ?_
            refine g_isub hX dX7_lacking_120 rfl ?_
            refine g_istore hX dX7_lacking_121 (Nat.le_of_ble_eq_true rfl) rfl ?_
            refine g_iload_n (i := 3) hX dX7_lacking_123 rfl rfl rfl ?_
            refine g_iload hX dX7_lacking_124 rfl rfl ?_
            refine g_iload hX dX7_lacking_126 rfl rfl ?_
            refine g_mmax hX wk_X7_173 rfl rfl rfl dX7_lacking_128 rfl ?_
            refine g_mmax hX wk_X7_173 rfl rfl rfl dX7_lacking_131 rfl ?_
            refine g_iret hX hR dX7_lacking_134 ?_
            rw [x_lacking, if_pos zc10]
            first
              | (rw [lackF, if_neg (fun q => Or.elim q zc47 (fun q => zd59 q.2)), if_pos zd72]; rfl)
              | (rw [lackF, if_neg (fun q => Or.elim q zc47 (fun q => zd59 q.2)), if_neg zd72]; rfl)
              | (rw [lackF, if_neg (fun q => Or.elim q zc47 (fun q => zc53 q.1)), if_pos zd72]; rfl)
              | (rw [lackF, if_neg (fun q => Or.elim q zc47 (fun q => zc53 q.1)), if_neg zd72]; rfl)
          · skip
            have zd72 : 0 < talX M nk nm 2 + talX M nk nm 3 := Int32.not_le.mp zc72
            refine g_iconst hX dX7_lacking_75 ic_0 rfl ?_
            refine g_goto (n := 80) hX dX7_lacking_76 (by decide) ?_
            refine g_istore_n (i := 3) hX dX7_lacking_80 rfl (Nat.le_of_ble_eq_true rfl) rfl ?_
            refine g_aload_n (i := 0) hX dX7_lacking_81 rfl rfl rfl ?_
            refine g_getR hX fl_X7_10 rfl rfl dX7_lacking_82 rfl ?_
            refine g_getR hX fl_X7_82 rfl rfl dX7_lacking_85 rfl ?_
            refine g_iconst hX dX7_lacking_88 ic_0 rfl ?_
            refine g_ialdv (x := M 25 0) hX rfl (rfl) (by omega) rfl (rfl) dX7_lacking_89 rfl ?_
            refine g_aload_n (i := 1) hX dX7_lacking_90 rfl rfl rfl ?_
            refine g_iconst hX dX7_lacking_91 ic_0 rfl ?_
            refine g_ialdv (x := talX M nk nm 0) hX rfl (rfl) (by omega) rfl (rfl) dX7_lacking_92 rfl ?_
            first | refine g_imulN hX dX7_lacking_93 rfl ?_ | refine g_imul hX dX7_lacking_93 rfl ?_
            refine g_bipush hX dX7_lacking_94 bc_100 rfl ?_
            refine g_callSi hX (c_X7_dividedUp E _ _ _) kf_X7_dividedUp rfl wk_X7_170 rfl rfl rfl rfl dX7_lacking_96 rfl (fun x96 M96 h96 => ?_)
            obtain ⟨rfl, hm⟩ := h96; have hm := hm.symm; subst hm
            refine g_aload_n (i := 1) hX dX7_lacking_99 rfl rfl rfl ?_
            refine g_iconst hX dX7_lacking_100 ic_1 rfl ?_
            refine g_ialdv (x := talX M nk nm 1) hX rfl (rfl) (by omega) rfl (rfl) dX7_lacking_101 rfl ?_
            refine g_isub hX dX7_lacking_102 rfl ?_
            refine g_istore hX dX7_lacking_103 (Nat.le_of_ble_eq_true rfl) rfl ?_
            refine g_iload_n (i := 2) hX dX7_lacking_105 rfl rfl rfl ?_
            refine g_aload_n (i := 1) hX dX7_lacking_106 rfl rfl rfl ?_
            refine g_iconst hX dX7_lacking_107 ic_3 rfl ?_
            refine g_ialdv (x := talX M nk nm 3) hX rfl (rfl) (by omega) rfl (rfl) dX7_lacking_108 rfl ?_
            first | refine g_imulN hX dX7_lacking_109 rfl ?_ | refine g_imul hX dX7_lacking_109 rfl ?_
            refine g_bipush hX dX7_lacking_110 bc_100 rfl ?_
            refine g_iload_n (i := 2) hX dX7_lacking_112 rfl rfl rfl ?_
            refine g_isub hX dX7_lacking_113 rfl ?_
            refine g_callSi hX (c_X7_dividedUp E _ _ _) kf_X7_dividedUp rfl wk_X7_170 rfl rfl rfl rfl dX7_lacking_114 rfl (fun x114 M114 h114 => ?_)
            obtain ⟨rfl, hm⟩ := h114; have hm := hm.symm; subst hm
            refine g_aload_n (i := 1) hX dX7_lacking_117 rfl rfl rfl ?_
            refine g_iconst hX dX7_lacking_118 ic_2 rfl ?_
            refine g_ialdv (x := talX M nk nm 2) hX rfl (rfl) (by omega) rfl (rfl) dX7_lacking_119 rfl ?_
            refine g_isub hX dX7_lacking_120 rfl ?_
            refine g_istore hX dX7_lacking_121 (Nat.le_of_ble_eq_true rfl) rfl ?_
            refine g_iload_n (i := 3) hX dX7_lacking_123 rfl rfl rfl ?_
            refine g_iload hX dX7_lacking_124 rfl rfl ?_
            refine g_iload hX dX7_lacking_126 rfl rfl ?_
            refine g_mmax hX wk_X7_173 rfl rfl rfl dX7_lacking_128 rfl ?_
            refine g_mmax hX wk_X7_173 rfl rfl rfl dX7_lacking_131 rfl ?_
            refine g_iret hX hR dX7_lacking_134 ?_
            rw [x_lacking, if_pos zc10]
            first
              | (rw [lackF, if_neg (fun q => Or.elim q zc47 (fun q => zd59 q.2)), if_pos zd72]; rfl)
              | (rw [lackF, if_neg (fun q => Or.elim q zc47 (fun q => zd59 q.2)), if_neg zd72]; rfl)
              | (rw [lackF, if_neg (fun q => Or.elim q zc47 (fun q => zc53 q.1)), if_pos zd72]; rfl)
              | (rw [lackF, if_neg (fun q => Or.elim q zc47 (fun q => zc53 q.1)), if_neg zd72]; rfl)
        · skip
          have zd59 : 0 < talX M nk nm 3 := Int32.not_le.mp zc59
          refine g_bipush hX dX7_lacking_62 bc_m4 rfl ?_
          refine g_iret hX hR dX7_lacking_64 ?_
          rw [x_lacking, if_pos zc10]
          first
            | (rw [lackF, if_pos (Or.inl zc47)]; done)
            | (rw [lackF, if_pos (Or.inr ⟨zc53, zd59⟩)]; done)
  · skip
    refine g_bipush hX dX7_lacking_13 bc_m2 rfl ?_
    refine g_iret hX hR dX7_lacking_15 ?_
    rw [x_lacking, zc10]; rfl
def tolF (M : gM) (j w : Nat) : Int32 := match w with
  | 0 => M 17 j
  | 1 => M 8 (M 18 j).toNatClampNeg
  | 2 => M 19 j
  | 3 => M 20 j
  | 4 => M 21 j
  | 5 => if M 21 j < 2 then -4 else M 22 j
  | _ => if gaveB (M 21 j) then M 23 j else -4
def x_told (M : gM) (nk : Nat) (c w : Int32) : Int32 := if inR c nk = true ∧ inR w 7 = true then tolF M c.toNatClampNeg w.toNatClampNeg else -1
theorem c_X7_told (E : gE) (c w : Int32) (hW : WS M nm nc nk ne op br mb pl) : gMet E k_X7_told [.ref 0, .int c, .int w] M (gInt fun r M' => r = x_told M nk c w ∧ M' = M) := by
  refine gMet.of (by decide +kernel) rfl (Nat.le_of_ble_eq_true rfl) (fun X hX hR => ?_)
  obtain ⟨⟨hm, hmb⟩, ⟨hc, hcb⟩, ⟨hk, hkb⟩, ⟨he, he1, he2⟩, ⟨hop, hbr⟩, hcm⟩ := id hW
  cases hin : inR c nk with
  | false =>
    have e : x_told M nk c w = -1 := by simp [x_told, hin]
    refine g_aload_n (i := 0) hX dX7_told_0 rfl rfl rfl ?_
    refine g_getR hX fl_X7_10 rfl rfl dX7_told_1 rfl ?_
    refine g_getR hX fl_X7_103 rfl rfl dX7_told_4 rfl ?_
    refine g_iload_n (i := 1) hX dX7_told_7 rfl rfl rfl ?_
    refine g_callVi hX (c_X1_has E M nk c hk hkb) kf_X1_has rfl wk_X7_181 rfl rfl rfl rfl rfl dX7_told_8 rfl (fun x8 M8 h8 => ?_)
    obtain ⟨rfl, hm⟩ := h8; have hm := hm.symm; subst hm
    first | refine g_if_neB (tgt := 16) hX dX7_told_11 (by decide) rfl (fun zc11 => Bool.noConfusion (hin.symm.trans zc11)) (fun zc11 => ?_) | refine g_if_ne (tgt := 16) hX dX7_told_11 (by decide) rfl (fun zc11 => Bool.noConfusion (hin.symm.trans zc11)) (fun zc11 => ?_)
    refine g_iconst hX dX7_told_14 ic_m1 rfl ?_
    refine g_iret hX hR dX7_told_15 ?_
    exact ⟨e.symm, rfl⟩
  | true =>
    obtain ⟨j, hj, rfl⟩ := inR_t (by omega) hin
    have hcl := cl_nI (show j < 2 ^ 31 by omega)
    obtain ⟨-, -, hpl, hpe⟩ := hcm j hj
    rcases pk_ix w (n := 7) (by decide) with h | h | ⟨q, hq, rfl⟩
    · have e : x_told M nk (nI j) w = -1 := by simp [x_told, inR_neg h]
      refine g_aload_n (i := 0) hX dX7_told_0 rfl rfl rfl ?_
      refine g_getR hX fl_X7_10 rfl rfl dX7_told_1 rfl ?_
      refine g_getR hX fl_X7_103 rfl rfl dX7_told_4 rfl ?_
      refine g_iload_n (i := 1) hX dX7_told_7 rfl rfl rfl ?_
      refine g_callVi hX (c_X1_has E M nk _ hk hkb) kf_X1_has rfl wk_X7_181 rfl rfl rfl rfl rfl dX7_told_8 rfl (fun x8 M8 h8 => ?_)
      obtain ⟨rfl, hm⟩ := h8; have hm := hm.symm; subst hm
      first | refine g_if_neB (tgt := 16) hX dX7_told_11 (by decide) rfl (fun zc11 => ?_) (fun zc11 => Bool.noConfusion (hin.symm.trans zc11)) | refine g_if_ne (tgt := 16) hX dX7_told_11 (by decide) rfl (fun zc11 => ?_) (fun zc11 => Bool.noConfusion (hin.symm.trans zc11))
      refine g_iload_n (i := 2) hX dX7_told_16 rfl rfl rfl ?_
      refine g_tableOut (n := 200) hX dX7_told_17 (swOut (by decide) (Or.inl h) (by decide)) (by decide) ?_
      refine g_iconst hX dX7_told_200 ic_m1 rfl ?_
      refine g_iret hX hR dX7_told_201 ?_
      exact ⟨e.symm, rfl⟩
    · have e : x_told M nk (nI j) w = -1 := by simp [x_told, inR_ge h]
      refine g_aload_n (i := 0) hX dX7_told_0 rfl rfl rfl ?_
      refine g_getR hX fl_X7_10 rfl rfl dX7_told_1 rfl ?_
      refine g_getR hX fl_X7_103 rfl rfl dX7_told_4 rfl ?_
      refine g_iload_n (i := 1) hX dX7_told_7 rfl rfl rfl ?_
      refine g_callVi hX (c_X1_has E M nk _ hk hkb) kf_X1_has rfl wk_X7_181 rfl rfl rfl rfl rfl dX7_told_8 rfl (fun x8 M8 h8 => ?_)
      obtain ⟨rfl, hm⟩ := h8; have hm := hm.symm; subst hm
      first | refine g_if_neB (tgt := 16) hX dX7_told_11 (by decide) rfl (fun zc11 => ?_) (fun zc11 => Bool.noConfusion (hin.symm.trans zc11)) | refine g_if_ne (tgt := 16) hX dX7_told_11 (by decide) rfl (fun zc11 => ?_) (fun zc11 => Bool.noConfusion (hin.symm.trans zc11))
      refine g_iload_n (i := 2) hX dX7_told_16 rfl rfl rfl ?_
      refine g_tableOut (n := 200) hX dX7_told_17 (swOut (by decide) (Or.inr h) (by decide)) (by decide) ?_
      refine g_iconst hX dX7_told_200 ic_m1 rfl ?_
      refine g_iret hX hR dX7_told_201 ?_
      exact ⟨e.symm, rfl⟩
    · have e : x_told M nk (nI j) (nI q) = tolF M j q := by rw [x_told, if_pos ⟨hin, by rw [inR_nI (by omega) (by decide)]; exact decide_eq_true hq⟩, hcl, cl_nI (by omega)]
      rw [e]
      have hq6 : q = 0 ∨ q = 1 ∨ q = 2 ∨ q = 3 ∨ q = 4 ∨ q = 5 ∨ q = 6 := by omega
      rcases hq6 with rfl | rfl | rfl | rfl | rfl | rfl | rfl
      · skip
        refine g_aload_n (i := 0) hX dX7_told_0 rfl rfl rfl ?_
        refine g_getR hX fl_X7_10 rfl rfl dX7_told_1 rfl ?_
        refine g_getR hX fl_X7_103 rfl rfl dX7_told_4 rfl ?_
        refine g_iload_n (i := 1) hX dX7_told_7 rfl rfl rfl ?_
        refine g_callVi hX (c_X1_has E M nk _ hk hkb) kf_X1_has rfl wk_X7_181 rfl rfl rfl rfl rfl dX7_told_8 rfl (fun x8 M8 h8 => ?_)
        obtain ⟨rfl, hm⟩ := h8; have hm := hm.symm; subst hm
        first | refine g_if_neB (tgt := 16) hX dX7_told_11 (by decide) rfl (fun zc11 => ?_) (fun zc11 => Bool.noConfusion (hin.symm.trans zc11)) | refine g_if_ne (tgt := 16) hX dX7_told_11 (by decide) rfl (fun zc11 => ?_) (fun zc11 => Bool.noConfusion (hin.symm.trans zc11))
        refine g_iload_n (i := 2) hX dX7_told_16 rfl rfl rfl ?_
        refine g_tableIn (n := 60) hX dX7_told_17 (by decide) (by decide) rfl (by decide) ?_
        refine g_aload_n (i := 0) hX dX7_told_60 rfl rfl rfl ?_
        refine g_getR hX fl_X7_10 rfl rfl dX7_told_61 rfl ?_
        refine g_getR hX fl_X7_103 rfl rfl dX7_told_64 rfl ?_
        refine g_getR hX fl_X7_182 rfl rfl dX7_told_67 rfl ?_
        refine g_iload_n (i := 1) hX dX7_told_70 rfl rfl rfl ?_
        refine g_iald hX rfl (rfl) (by omega) rfl dX7_told_71 rfl ?_
        refine g_iret hX hR dX7_told_72 ?_
        exact ⟨rfl, rfl⟩
      · skip
        refine g_aload_n (i := 0) hX dX7_told_0 rfl rfl rfl ?_
        refine g_getR hX fl_X7_10 rfl rfl dX7_told_1 rfl ?_
        refine g_getR hX fl_X7_103 rfl rfl dX7_told_4 rfl ?_
        refine g_iload_n (i := 1) hX dX7_told_7 rfl rfl rfl ?_
        refine g_callVi hX (c_X1_has E M nk _ hk hkb) kf_X1_has rfl wk_X7_181 rfl rfl rfl rfl rfl dX7_told_8 rfl (fun x8 M8 h8 => ?_)
        obtain ⟨rfl, hm⟩ := h8; have hm := hm.symm; subst hm
        first | refine g_if_neB (tgt := 16) hX dX7_told_11 (by decide) rfl (fun zc11 => ?_) (fun zc11 => Bool.noConfusion (hin.symm.trans zc11)) | refine g_if_ne (tgt := 16) hX dX7_told_11 (by decide) rfl (fun zc11 => ?_) (fun zc11 => Bool.noConfusion (hin.symm.trans zc11))
        refine g_iload_n (i := 2) hX dX7_told_16 rfl rfl rfl ?_
        refine g_tableIn (n := 73) hX dX7_told_17 (by decide) (by decide) rfl (by decide) ?_
        refine g_aload_n (i := 0) hX dX7_told_73 rfl rfl rfl ?_
        refine g_getR hX fl_X7_10 rfl rfl dX7_told_74 rfl ?_
        refine g_getR hX fl_X7_61 rfl rfl dX7_told_77 rfl ?_
        refine g_getR hX fl_X7_128 rfl rfl dX7_told_80 rfl ?_
        refine g_aload_n (i := 0) hX dX7_told_83 rfl rfl rfl ?_
        refine g_getR hX fl_X7_10 rfl rfl dX7_told_84 rfl ?_
        refine g_getR hX fl_X7_103 rfl rfl dX7_told_87 rfl ?_
        refine g_getR hX fl_X7_185 rfl rfl dX7_told_90 rfl ?_
        refine g_iload_n (i := 1) hX dX7_told_93 rfl rfl rfl ?_
        refine g_ialdv (x := nI (pl j)) hX rfl (rfl) (by omega) rfl (hpe) dX7_told_94 rfl ?_
        refine g_iald hX rfl (rfl) (by omega) rfl dX7_told_95 rfl ?_
        refine g_iret hX hR dX7_told_96 ?_
        exact ⟨by simp only [tolF]; rw [hpe, cl_nI (by omega)], rfl⟩
      · skip
        refine g_aload_n (i := 0) hX dX7_told_0 rfl rfl rfl ?_
        refine g_getR hX fl_X7_10 rfl rfl dX7_told_1 rfl ?_
        refine g_getR hX fl_X7_103 rfl rfl dX7_told_4 rfl ?_
        refine g_iload_n (i := 1) hX dX7_told_7 rfl rfl rfl ?_
        refine g_callVi hX (c_X1_has E M nk _ hk hkb) kf_X1_has rfl wk_X7_181 rfl rfl rfl rfl rfl dX7_told_8 rfl (fun x8 M8 h8 => ?_)
        obtain ⟨rfl, hm⟩ := h8; have hm := hm.symm; subst hm
        first | refine g_if_neB (tgt := 16) hX dX7_told_11 (by decide) rfl (fun zc11 => ?_) (fun zc11 => Bool.noConfusion (hin.symm.trans zc11)) | refine g_if_ne (tgt := 16) hX dX7_told_11 (by decide) rfl (fun zc11 => ?_) (fun zc11 => Bool.noConfusion (hin.symm.trans zc11))
        refine g_iload_n (i := 2) hX dX7_told_16 rfl rfl rfl ?_
        refine g_tableIn (n := 97) hX dX7_told_17 (by decide) (by decide) rfl (by decide) ?_
        refine g_aload_n (i := 0) hX dX7_told_97 rfl rfl rfl ?_
        refine g_getR hX fl_X7_10 rfl rfl dX7_told_98 rfl ?_
        refine g_getR hX fl_X7_103 rfl rfl dX7_told_101 rfl ?_
        refine g_getR hX fl_X7_188 rfl rfl dX7_told_104 rfl ?_
        refine g_iload_n (i := 1) hX dX7_told_107 rfl rfl rfl ?_
        refine g_iald hX rfl (rfl) (by omega) rfl dX7_told_108 rfl ?_
        refine g_iret hX hR dX7_told_109 ?_
        exact ⟨rfl, rfl⟩
      · skip
        refine g_aload_n (i := 0) hX dX7_told_0 rfl rfl rfl ?_
        refine g_getR hX fl_X7_10 rfl rfl dX7_told_1 rfl ?_
        refine g_getR hX fl_X7_103 rfl rfl dX7_told_4 rfl ?_
        refine g_iload_n (i := 1) hX dX7_told_7 rfl rfl rfl ?_
        refine g_callVi hX (c_X1_has E M nk _ hk hkb) kf_X1_has rfl wk_X7_181 rfl rfl rfl rfl rfl dX7_told_8 rfl (fun x8 M8 h8 => ?_)
        obtain ⟨rfl, hm⟩ := h8; have hm := hm.symm; subst hm
        first | refine g_if_neB (tgt := 16) hX dX7_told_11 (by decide) rfl (fun zc11 => ?_) (fun zc11 => Bool.noConfusion (hin.symm.trans zc11)) | refine g_if_ne (tgt := 16) hX dX7_told_11 (by decide) rfl (fun zc11 => ?_) (fun zc11 => Bool.noConfusion (hin.symm.trans zc11))
        refine g_iload_n (i := 2) hX dX7_told_16 rfl rfl rfl ?_
        refine g_tableIn (n := 110) hX dX7_told_17 (by decide) (by decide) rfl (by decide) ?_
        refine g_aload_n (i := 0) hX dX7_told_110 rfl rfl rfl ?_
        refine g_getR hX fl_X7_10 rfl rfl dX7_told_111 rfl ?_
        refine g_getR hX fl_X7_103 rfl rfl dX7_told_114 rfl ?_
        refine g_getR hX fl_X7_191 rfl rfl dX7_told_117 rfl ?_
        refine g_iload_n (i := 1) hX dX7_told_120 rfl rfl rfl ?_
        refine g_iald hX rfl (rfl) (by omega) rfl dX7_told_121 rfl ?_
        refine g_iret hX hR dX7_told_122 ?_
        exact ⟨rfl, rfl⟩
      · skip
        refine g_aload_n (i := 0) hX dX7_told_0 rfl rfl rfl ?_
        refine g_getR hX fl_X7_10 rfl rfl dX7_told_1 rfl ?_
        refine g_getR hX fl_X7_103 rfl rfl dX7_told_4 rfl ?_
        refine g_iload_n (i := 1) hX dX7_told_7 rfl rfl rfl ?_
        refine g_callVi hX (c_X1_has E M nk _ hk hkb) kf_X1_has rfl wk_X7_181 rfl rfl rfl rfl rfl dX7_told_8 rfl (fun x8 M8 h8 => ?_)
        obtain ⟨rfl, hm⟩ := h8; have hm := hm.symm; subst hm
        first | refine g_if_neB (tgt := 16) hX dX7_told_11 (by decide) rfl (fun zc11 => ?_) (fun zc11 => Bool.noConfusion (hin.symm.trans zc11)) | refine g_if_ne (tgt := 16) hX dX7_told_11 (by decide) rfl (fun zc11 => ?_) (fun zc11 => Bool.noConfusion (hin.symm.trans zc11))
        refine g_iload_n (i := 2) hX dX7_told_16 rfl rfl rfl ?_
        refine g_tableIn (n := 123) hX dX7_told_17 (by decide) (by decide) rfl (by decide) ?_
        refine g_aload_n (i := 0) hX dX7_told_123 rfl rfl rfl ?_
        refine g_getR hX fl_X7_10 rfl rfl dX7_told_124 rfl ?_
        refine g_getR hX fl_X7_103 rfl rfl dX7_told_127 rfl ?_
        refine g_getR hX fl_X7_194 rfl rfl dX7_told_130 rfl ?_
        refine g_iload_n (i := 1) hX dX7_told_133 rfl rfl rfl ?_
        refine g_iald hX rfl (rfl) (by omega) rfl dX7_told_134 rfl ?_
        refine g_iret hX hR dX7_told_135 ?_
        exact ⟨rfl, rfl⟩
      · skip
        refine g_aload_n (i := 0) hX dX7_told_0 rfl rfl rfl ?_
        refine g_getR hX fl_X7_10 rfl rfl dX7_told_1 rfl ?_
        refine g_getR hX fl_X7_103 rfl rfl dX7_told_4 rfl ?_
        refine g_iload_n (i := 1) hX dX7_told_7 rfl rfl rfl ?_
        refine g_callVi hX (c_X1_has E M nk _ hk hkb) kf_X1_has rfl wk_X7_181 rfl rfl rfl rfl rfl dX7_told_8 rfl (fun x8 M8 h8 => ?_)
        obtain ⟨rfl, hm⟩ := h8; have hm := hm.symm; subst hm
        first | refine g_if_neB (tgt := 16) hX dX7_told_11 (by decide) rfl (fun zc11 => ?_) (fun zc11 => Bool.noConfusion (hin.symm.trans zc11)) | refine g_if_ne (tgt := 16) hX dX7_told_11 (by decide) rfl (fun zc11 => ?_) (fun zc11 => Bool.noConfusion (hin.symm.trans zc11))
        refine g_iload_n (i := 2) hX dX7_told_16 rfl rfl rfl ?_
        refine g_tableIn (n := 136) hX dX7_told_17 (by decide) (by decide) rfl (by decide) ?_
        refine g_aload_n (i := 0) hX dX7_told_136 rfl rfl rfl ?_
        refine g_getR hX fl_X7_10 rfl rfl dX7_told_137 rfl ?_
        refine g_getR hX fl_X7_103 rfl rfl dX7_told_140 rfl ?_
        refine g_iload_n (i := 1) hX dX7_told_143 rfl rfl rfl ?_
        refine g_callVi hX (c_X1_isResolved E M j (by omega)) kf_X1_isResolved rfl wk_X7_197 rfl rfl rfl rfl rfl dX7_told_144 rfl (fun x144 M144 h144 => ?_)
        obtain ⟨rfl, hm⟩ := h144; have hm := hm.symm; subst hm
        first | refine g_if_eqB (tgt := 165) hX dX7_told_147 (by decide) rfl (fun zc147 => ?_) (fun zc147 => ?_) | refine g_if_eq (tgt := 165) hX dX7_told_147 (by decide) rfl (fun zc147 => ?_) (fun zc147 => ?_)
        · skip
          have d : M 21 j < 2 := by simpa using zc147
          refine g_bipush hX dX7_told_165 bc_m4 rfl ?_
          refine g_iret hX hR dX7_told_167 ?_
          exact ⟨by simp [tolF, d], rfl⟩
        · skip
          have d : ¬ M 21 j < 2 := by simpa using zc147
          refine g_aload_n (i := 0) hX dX7_told_150 rfl rfl rfl ?_
          refine g_getR hX fl_X7_10 rfl rfl dX7_told_151 rfl ?_
          refine g_getR hX fl_X7_103 rfl rfl dX7_told_154 rfl ?_
          refine g_getR hX fl_X7_200 rfl rfl dX7_told_157 rfl ?_
          refine g_iload_n (i := 1) hX dX7_told_160 rfl rfl rfl ?_
          refine g_iald hX rfl (rfl) (by omega) rfl dX7_told_161 rfl ?_
          refine g_goto (n := 167) hX dX7_told_162 (by decide) ?_
          refine g_iret hX hR dX7_told_167 ?_
          exact ⟨by simp [tolF, d], rfl⟩
      · skip
        refine g_aload_n (i := 0) hX dX7_told_0 rfl rfl rfl ?_
        refine g_getR hX fl_X7_10 rfl rfl dX7_told_1 rfl ?_
        refine g_getR hX fl_X7_103 rfl rfl dX7_told_4 rfl ?_
        refine g_iload_n (i := 1) hX dX7_told_7 rfl rfl rfl ?_
        refine g_callVi hX (c_X1_has E M nk _ hk hkb) kf_X1_has rfl wk_X7_181 rfl rfl rfl rfl rfl dX7_told_8 rfl (fun x8 M8 h8 => ?_)
        obtain ⟨rfl, hm⟩ := h8; have hm := hm.symm; subst hm
        first | refine g_if_neB (tgt := 16) hX dX7_told_11 (by decide) rfl (fun zc11 => ?_) (fun zc11 => Bool.noConfusion (hin.symm.trans zc11)) | refine g_if_ne (tgt := 16) hX dX7_told_11 (by decide) rfl (fun zc11 => ?_) (fun zc11 => Bool.noConfusion (hin.symm.trans zc11))
        refine g_iload_n (i := 2) hX dX7_told_16 rfl rfl rfl ?_
        refine g_tableIn (n := 168) hX dX7_told_17 (by decide) (by decide) rfl (by decide) ?_
        refine g_aload_n (i := 0) hX dX7_told_168 rfl rfl rfl ?_
        refine g_getR hX fl_X7_10 rfl rfl dX7_told_169 rfl ?_
        refine g_getR hX fl_X7_103 rfl rfl dX7_told_172 rfl ?_
        refine g_iload_n (i := 1) hX dX7_told_175 rfl rfl rfl ?_
        refine g_callVi hX (c_X1_gaveValue E M j (by omega)) kf_X1_gaveValue rfl wk_X7_203 rfl rfl rfl rfl rfl dX7_told_176 rfl (fun x176 M176 h176 => ?_)
        obtain ⟨rfl, hm⟩ := h176; have hm := hm.symm; subst hm
        first | refine g_if_eqB (tgt := 197) hX dX7_told_179 (by decide) rfl (fun zc179 => ?_) (fun zc179 => ?_) | refine g_if_eq (tgt := 197) hX dX7_told_179 (by decide) rfl (fun zc179 => ?_) (fun zc179 => ?_)
        · skip
          refine g_bipush hX dX7_told_197 bc_m4 rfl ?_
          refine g_iret hX hR dX7_told_199 ?_
          exact ⟨by simp [tolF, zc179], rfl⟩
        · skip
          refine g_aload_n (i := 0) hX dX7_told_182 rfl rfl rfl ?_
          refine g_getR hX fl_X7_10 rfl rfl dX7_told_183 rfl ?_
          refine g_getR hX fl_X7_103 rfl rfl dX7_told_186 rfl ?_
          refine g_getR hX fl_X7_206 rfl rfl dX7_told_189 rfl ?_
          refine g_iload_n (i := 1) hX dX7_told_192 rfl rfl rfl ?_
          refine g_iald hX rfl (rfl) (by omega) rfl dX7_told_193 rfl ?_
          refine g_goto (n := 199) hX dX7_told_194 (by decide) ?_
          refine g_iret hX hR dX7_told_199 ?_
          exact ⟨by simp [tolF, zc179], rfl⟩
abbrev bstX (M : gM) (mb : Nat → Nat) (nk : Nat) : Option Nat := bestTo nk (pendB (M 21)) (aheadX (M 19) (M 18) (M 3) mb)
theorem best_lt {n : Nat} {ok : Nat → Bool} {lt : Nat → Nat → Bool} (hn : n ≤ 30) : ∀ q, bestTo n ok lt = some q → q < 2 ^ 31 := fun q h => by have := (bestTo_lt h).1; omega
theorem WS.mbs (hW : WS M nm nc nk ne op br mb pl) : ∀ k, k < nk → mb k < 10 ∧ M 17 k = nI (mb k) := by
  obtain ⟨⟨hm, hmb⟩, -, -, -, -, hcm⟩ := hW
  intro k hk
  obtain ⟨h1, h2, -, -⟩ := hcm k hk
  exact ⟨by omega, h2⟩
theorem c_X7_next (E : gE) (hW : WS M nm nc nk ne op br mb pl) : gMet E k_X7_next [.ref 0] M (gInt fun r M' => r = optI (-4) (bstX M mb nk) ∧ M' = M) := by
  refine gMet.of (by decide +kernel) rfl (Nat.le_of_ble_eq_true rfl) (fun X hX hR => ?_)
  have hmbs := hW.mbs
  obtain ⟨⟨hm, hmb⟩, ⟨hc, hcb⟩, ⟨hk, hkb⟩, ⟨he, he1, he2⟩, ⟨hop, hbr⟩, hcm⟩ := id hW
  cases hf : bstX M mb nk with
  | none =>
    refine g_aload_n (i := 0) hX dX7_next_0 rfl rfl rfl ?_
    refine g_getR hX fl_X7_10 rfl rfl dX7_next_1 rfl ?_
    refine g_getR hX fl_X7_103 rfl rfl dX7_next_4 rfl ?_
    refine g_aload_n (i := 0) hX dX7_next_7 rfl rfl rfl ?_
    refine g_getR hX fl_X7_10 rfl rfl dX7_next_8 rfl ?_
    refine g_getR hX fl_X7_30 rfl rfl dX7_next_11 rfl ?_
    refine g_callVi hX (c_X1_firstPending E M nk mb hk hkb hmbs) kf_X1_firstPending rfl wk_X7_209 rfl rfl rfl rfl rfl dX7_next_14 rfl (fun x14 M14 h14 => ?_)
    obtain ⟨hx, hm0⟩ := h14; have hm0 := hm0.symm; subst hm0; rw [show bestTo nk (pendB (M 21)) (aheadX (M 19) (M 18) (M 3) mb) = none from hf] at hx; subst hx
    refine g_istore_n (i := 1) hX dX7_next_17 rfl (Nat.le_of_ble_eq_true rfl) rfl ?_
    refine g_iload_n (i := 1) hX dX7_next_18 rfl rfl rfl ?_
    refine g_iconst hX dX7_next_19 ic_m1 rfl ?_
    refine g_icmp_ne (tgt := 28) hX dX7_next_20 (by decide) rfl (fun zc20 => absurd rfl zc20) (fun zc20 => ?_)
    refine g_bipush hX dX7_next_23 bc_m4 rfl ?_
    refine g_goto (n := 29) hX dX7_next_25 (by decide) ?_
    refine g_iret hX hR dX7_next_29 ?_
    exact ⟨rfl, rfl⟩
  | some p =>
    have hp := best_lt hkb p hf
    refine g_aload_n (i := 0) hX dX7_next_0 rfl rfl rfl ?_
    refine g_getR hX fl_X7_10 rfl rfl dX7_next_1 rfl ?_
    refine g_getR hX fl_X7_103 rfl rfl dX7_next_4 rfl ?_
    refine g_aload_n (i := 0) hX dX7_next_7 rfl rfl rfl ?_
    refine g_getR hX fl_X7_10 rfl rfl dX7_next_8 rfl ?_
    refine g_getR hX fl_X7_30 rfl rfl dX7_next_11 rfl ?_
    refine g_callVi hX (c_X1_firstPending E M nk mb hk hkb hmbs) kf_X1_firstPending rfl wk_X7_209 rfl rfl rfl rfl rfl dX7_next_14 rfl (fun x14 M14 h14 => ?_)
    obtain ⟨hx, hm0⟩ := h14; have hm0 := hm0.symm; subst hm0; rw [show bestTo nk (pendB (M 21)) (aheadX (M 19) (M 18) (M 3) mb) = some p from hf] at hx; subst hx
    refine g_istore_n (i := 1) hX dX7_next_17 rfl (Nat.le_of_ble_eq_true rfl) rfl ?_
    refine g_iload_n (i := 1) hX dX7_next_18 rfl rfl rfl ?_
    refine g_iconst hX dX7_next_19 ic_m1 rfl ?_
    refine g_icmp_ne (tgt := 28) hX dX7_next_20 (by decide) rfl (fun zc20 => ?_) (fun zc20 => absurd zc20 (nI_ne_m1 hp))
    refine g_iload_n (i := 1) hX dX7_next_28 rfl rfl rfl ?_
    refine g_iret hX hR dX7_next_29 ?_
    exact ⟨rfl, rfl⟩
def x_changes (M : gM) (nc ne : Nat) (e : Int32) : Int32 := if inI e (nI 1) (nI ne) = true then nI (cntTo nc (difB (M 12) e.toNatClampNeg)) else -1
theorem c_X7_changes (E : gE) (e : Int32) (hW : WS M nm nc nk ne op br mb pl) : gMet E k_X7_changes [.ref 0, .int e] M (gInt fun r M' => r = x_changes M nc ne e ∧ M' = M) := by
  refine gMet.of (by decide +kernel) rfl (Nat.le_of_ble_eq_true rfl) (fun X hX hR => ?_)
  obtain ⟨⟨hm, hmb⟩, ⟨hc, hcb⟩, ⟨hk, hkb⟩, ⟨he, he1, he2⟩, ⟨hop, hbr⟩, hcm⟩ := id hW
  cases hin : inI e (nI 1) (nI ne) with
  | false =>
    refine g_aload_n (i := 0) hX dX7_changes_0 rfl rfl rfl ?_
    refine g_getR hX fl_X7_10 rfl rfl dX7_changes_1 rfl ?_
    refine g_getR hX fl_X7_61 rfl rfl dX7_changes_4 rfl ?_
    refine g_iload_n (i := 1) hX dX7_changes_7 rfl rfl rfl ?_
    refine g_callVi hX (c_X2_hasEdition E M ne e he he2) kf_X2_hasEdition rfl wk_X7_118 rfl rfl rfl rfl rfl dX7_changes_8 rfl (fun x8 M8 h8 => ?_)
    obtain ⟨rfl, hm⟩ := h8; have hm := hm.symm; subst hm
    first | refine g_if_eqB (tgt := 28) hX dX7_changes_11 (by decide) rfl (fun zc11 => ?_) (fun zc11 => Bool.noConfusion (hin.symm.trans zc11)) | refine g_if_eq (tgt := 28) hX dX7_changes_11 (by decide) rfl (fun zc11 => ?_) (fun zc11 => Bool.noConfusion (hin.symm.trans zc11))
    refine g_iconst hX dX7_changes_28 ic_m1 rfl ?_
    refine g_iret hX hR dX7_changes_29 ?_
    exact ⟨by simp [x_changes, hin], rfl⟩
  | true =>
    obtain ⟨j, hj1, hj2, rfl⟩ := inI_t (by decide) (by omega) hin
    refine g_aload_n (i := 0) hX dX7_changes_0 rfl rfl rfl ?_
    refine g_getR hX fl_X7_10 rfl rfl dX7_changes_1 rfl ?_
    refine g_getR hX fl_X7_61 rfl rfl dX7_changes_4 rfl ?_
    refine g_iload_n (i := 1) hX dX7_changes_7 rfl rfl rfl ?_
    refine g_callVi hX (c_X2_hasEdition E M ne _ he he2) kf_X2_hasEdition rfl wk_X7_118 rfl rfl rfl rfl rfl dX7_changes_8 rfl (fun x8 M8 h8 => ?_)
    obtain ⟨rfl, hm⟩ := h8; have hm := hm.symm; subst hm
    first | refine g_if_eqB (tgt := 28) hX dX7_changes_11 (by decide) rfl (fun zc11 => Bool.noConfusion (hin.symm.trans zc11)) (fun zc11 => ?_) | refine g_if_eq (tgt := 28) hX dX7_changes_11 (by decide) rfl (fun zc11 => Bool.noConfusion (hin.symm.trans zc11)) (fun zc11 => ?_)
    refine g_aload_n (i := 0) hX dX7_changes_14 rfl rfl rfl ?_
    refine g_getR hX fl_X7_10 rfl rfl dX7_changes_15 rfl ?_
    refine g_getR hX fl_X7_61 rfl rfl dX7_changes_18 rfl ?_
    refine g_iload_n (i := 1) hX dX7_changes_21 rfl rfl rfl ?_
    refine g_callVi hX (c_X2_changesOf E M nc j hc hcb hj1 (by omega)) kf_X2_changesOf rfl wk_X7_231 rfl rfl rfl rfl rfl dX7_changes_22 rfl (fun x22 M22 h22 => ?_)
    obtain ⟨rfl, hm⟩ := h22; have hm := hm.symm; subst hm
    refine g_goto (n := 29) hX dX7_changes_25 (by decide) ?_
    refine g_iret hX hR dX7_changes_29 ?_
    exact ⟨by rw [x_changes, hin, cl_nI (by omega)]; rfl, rfl⟩
def chaF (M : gM) (j p w : Nat) : Int32 := match w with
  | 0 => M 8 p
  | 1 => M 11 (j - 1)
  | _ => M 13 ((j - 1) * 20 + p)
def x_change (M : gM) (nc ne : Nat) (e i w : Int32) : Int32 := if inI e (nI 1) (nI ne) = true ∧ ¬ i < 0 ∧ inR w 3 = true then (match nthTo nc (difB (M 12) e.toNatClampNeg) i.toNatClampNeg with
  | none => -4
  | some p => chaF M e.toNatClampNeg p w.toNatClampNeg) else -1
theorem c_X7_change (E : gE) (e i w : Int32) (hW : WS M nm nc nk ne op br mb pl) : gMet E k_X7_change [.ref 0, .int e, .int i, .int w] M (gInt fun r M' => r = x_change M nc ne e i w ∧ M' = M) := by
  refine gMet.of (by decide +kernel) rfl (Nat.le_of_ble_eq_true rfl) (fun X hX hR => ?_)
  obtain ⟨⟨hm, hmb⟩, ⟨hc, hcb⟩, ⟨hk, hkb⟩, ⟨he, he1, he2⟩, ⟨hop, hbr⟩, hcm⟩ := id hW
  cases hin : inI e (nI 1) (nI ne) with
  | false =>
    refine g_aload_n (i := 0) hX dX7_change_0 rfl rfl rfl ?_
    refine g_getR hX fl_X7_10 rfl rfl dX7_change_1 rfl ?_
    refine g_getR hX fl_X7_61 rfl rfl dX7_change_4 rfl ?_
    refine g_iload_n (i := 1) hX dX7_change_7 rfl rfl rfl ?_
    refine g_callVi hX (c_X2_hasEdition E M ne e he he2) kf_X2_hasEdition rfl wk_X7_118 rfl rfl rfl rfl rfl dX7_change_8 rfl (fun x8 M8 h8 => ?_)
    obtain ⟨rfl, hm⟩ := h8; have hm := hm.symm; subst hm
    first | refine g_if_eqB (tgt := 27) hX dX7_change_11 (by decide) rfl (fun zc11 => ?_) (fun zc11 => Bool.noConfusion (hin.symm.trans zc11)) | refine g_if_eq (tgt := 27) hX dX7_change_11 (by decide) rfl (fun zc11 => ?_) (fun zc11 => Bool.noConfusion (hin.symm.trans zc11))
    refine g_iconst hX dX7_change_27 ic_m1 rfl ?_
    refine g_iret hX hR dX7_change_28 ?_
    exact ⟨by simp [x_change, hin], rfl⟩
  | true =>
    obtain ⟨j, hj1, hj2, rfl⟩ := inI_t (by decide) (by omega) hin
    by_cases hi0 : i < 0
    · skip
      refine g_aload_n (i := 0) hX dX7_change_0 rfl rfl rfl ?_
      refine g_getR hX fl_X7_10 rfl rfl dX7_change_1 rfl ?_
      refine g_getR hX fl_X7_61 rfl rfl dX7_change_4 rfl ?_
      refine g_iload_n (i := 1) hX dX7_change_7 rfl rfl rfl ?_
      refine g_callVi hX (c_X2_hasEdition E M ne _ he he2) kf_X2_hasEdition rfl wk_X7_118 rfl rfl rfl rfl rfl dX7_change_8 rfl (fun x8 M8 h8 => ?_)
      obtain ⟨rfl, hm⟩ := h8; have hm := hm.symm; subst hm
      first | refine g_if_eqB (tgt := 27) hX dX7_change_11 (by decide) rfl (fun zc11 => Bool.noConfusion (hin.symm.trans zc11)) (fun zc11 => ?_) | refine g_if_eq (tgt := 27) hX dX7_change_11 (by decide) rfl (fun zc11 => Bool.noConfusion (hin.symm.trans zc11)) (fun zc11 => ?_)
      refine g_iload_n (i := 2) hX dX7_change_14 rfl rfl rfl ?_
      refine g_if_lt (tgt := 27) hX dX7_change_15 (by decide) rfl (fun zc15 => ?_) (fun zc15 => absurd hi0 zc15)
      refine g_iconst hX dX7_change_27 ic_m1 rfl ?_
      refine g_iret hX hR dX7_change_28 ?_
      exact ⟨by simp [x_change, hi0], rfl⟩
    · obtain ⟨q, hq, rfl⟩ := nI_of hi0
      rcases pk_ix w (n := 3) (by decide) with h | h | ⟨z, hz, rfl⟩
      · skip
        refine g_aload_n (i := 0) hX dX7_change_0 rfl rfl rfl ?_
        refine g_getR hX fl_X7_10 rfl rfl dX7_change_1 rfl ?_
        refine g_getR hX fl_X7_61 rfl rfl dX7_change_4 rfl ?_
        refine g_iload_n (i := 1) hX dX7_change_7 rfl rfl rfl ?_
        refine g_callVi hX (c_X2_hasEdition E M ne _ he he2) kf_X2_hasEdition rfl wk_X7_118 rfl rfl rfl rfl rfl dX7_change_8 rfl (fun x8 M8 h8 => ?_)
        obtain ⟨rfl, hm⟩ := h8; have hm := hm.symm; subst hm
        first | refine g_if_eqB (tgt := 27) hX dX7_change_11 (by decide) rfl (fun zc11 => Bool.noConfusion (hin.symm.trans zc11)) (fun zc11 => ?_) | refine g_if_eq (tgt := 27) hX dX7_change_11 (by decide) rfl (fun zc11 => Bool.noConfusion (hin.symm.trans zc11)) (fun zc11 => ?_)
        refine g_iload_n (i := 2) hX dX7_change_14 rfl rfl rfl ?_
        refine g_if_lt (tgt := 27) hX dX7_change_15 (by decide) rfl (fun zc15 => absurd zc15 (hi0)) (fun zc15 => ?_)
        refine g_iload_n (i := 3) hX dX7_change_18 rfl rfl rfl ?_
        refine g_if_lt (tgt := 27) hX dX7_change_19 (by decide) rfl (fun zc19 => ?_) (fun zc19 => absurd h zc19)
        refine g_iconst hX dX7_change_27 ic_m1 rfl ?_
        refine g_iret hX hR dX7_change_28 ?_
        exact ⟨by simp [x_change, inR_neg h], rfl⟩
      · skip
        refine g_aload_n (i := 0) hX dX7_change_0 rfl rfl rfl ?_
        refine g_getR hX fl_X7_10 rfl rfl dX7_change_1 rfl ?_
        refine g_getR hX fl_X7_61 rfl rfl dX7_change_4 rfl ?_
        refine g_iload_n (i := 1) hX dX7_change_7 rfl rfl rfl ?_
        refine g_callVi hX (c_X2_hasEdition E M ne _ he he2) kf_X2_hasEdition rfl wk_X7_118 rfl rfl rfl rfl rfl dX7_change_8 rfl (fun x8 M8 h8 => ?_)
        obtain ⟨rfl, hm⟩ := h8; have hm := hm.symm; subst hm
        first | refine g_if_eqB (tgt := 27) hX dX7_change_11 (by decide) rfl (fun zc11 => Bool.noConfusion (hin.symm.trans zc11)) (fun zc11 => ?_) | refine g_if_eq (tgt := 27) hX dX7_change_11 (by decide) rfl (fun zc11 => Bool.noConfusion (hin.symm.trans zc11)) (fun zc11 => ?_)
        refine g_iload_n (i := 2) hX dX7_change_14 rfl rfl rfl ?_
        refine g_if_lt (tgt := 27) hX dX7_change_15 (by decide) rfl (fun zc15 => absurd zc15 (hi0)) (fun zc15 => ?_)
        refine g_iload_n (i := 3) hX dX7_change_18 rfl rfl rfl ?_
        refine g_if_lt (tgt := 27) hX dX7_change_19 (by decide) rfl (fun zc19 => absurd zc19 (fun q => absurd (Int32.lt_of_lt_of_le q (by decide : (0 : Int32) ≤ nI 3)) (Int32.not_lt.mpr h))) (fun zc19 => ?_)
        refine g_iload_n (i := 3) hX dX7_change_22 rfl rfl rfl ?_
        refine g_iconst hX dX7_change_23 ic_2 rfl ?_
        refine g_icmp_le (tgt := 29) hX dX7_change_24 (by decide) rfl (fun zc24 => absurd zc24 (Int32.not_le.mpr (Int32.lt_of_lt_of_le (by decide : nI 2 < nI 3) h))) (fun zc24 => ?_)
        refine g_iconst hX dX7_change_27 ic_m1 rfl ?_
        refine g_iret hX hR dX7_change_28 ?_
        exact ⟨by simp [x_change, inR_ge h], rfl⟩
      · have hz3 : z = 0 ∨ z = 1 ∨ z = 2 := by omega
        have hx : x_change M nc ne (nI j) (nI q) (nI z) = match nthTo nc (difB (M 12) j) q with
          | none => -4
          | some p => chaF M j p z := by
          rw [x_change, if_pos ⟨hin, hi0, by rw [inR_nI (by omega) (by decide)]; exact decide_eq_true hz⟩, cl_nI (by omega), cl_nI (by omega), cl_nI (by omega)]
        rw [hx]
        cases hf : nthTo nc (difB (M 12) j) q with
        | none =>
          refine g_aload_n (i := 0) hX dX7_change_0 rfl rfl rfl ?_
          refine g_getR hX fl_X7_10 rfl rfl dX7_change_1 rfl ?_
          refine g_getR hX fl_X7_61 rfl rfl dX7_change_4 rfl ?_
          refine g_iload_n (i := 1) hX dX7_change_7 rfl rfl rfl ?_
          refine g_callVi hX (c_X2_hasEdition E M ne _ he he2) kf_X2_hasEdition rfl wk_X7_118 rfl rfl rfl rfl rfl dX7_change_8 rfl (fun x8 M8 h8 => ?_)
          obtain ⟨rfl, hm⟩ := h8; have hm := hm.symm; subst hm
          first | refine g_if_eqB (tgt := 27) hX dX7_change_11 (by decide) rfl (fun zc11 => Bool.noConfusion (hin.symm.trans zc11)) (fun zc11 => ?_) | refine g_if_eq (tgt := 27) hX dX7_change_11 (by decide) rfl (fun zc11 => Bool.noConfusion (hin.symm.trans zc11)) (fun zc11 => ?_)
          refine g_iload_n (i := 2) hX dX7_change_14 rfl rfl rfl ?_
          refine g_if_lt (tgt := 27) hX dX7_change_15 (by decide) rfl (fun zc15 => absurd zc15 (hi0)) (fun zc15 => ?_)
          refine g_iload_n (i := 3) hX dX7_change_18 rfl rfl rfl ?_
          refine g_if_lt (tgt := 27) hX dX7_change_19 (by decide) rfl (fun zc19 => absurd zc19 (nI_pos (by omega))) (fun zc19 => ?_)
          refine g_iload_n (i := 3) hX dX7_change_22 rfl rfl rfl ?_
          refine g_iconst hX dX7_change_23 ic_2 rfl ?_
          first | refine g_icmp_leN (tgt := 29) hX dX7_change_24 (by decide) rfl (by omega) (by omega) (fun zc24 => ?_) (fun zc24 => absurd zc24 (by omega)) | refine g_icmp_le (tgt := 29) hX dX7_change_24 (by decide) rfl (fun zc24 => ?_) (fun zc24 => absurd zc24 (by omega))
          refine g_aload_n (i := 0) hX dX7_change_29 rfl rfl rfl ?_
          refine g_getR hX fl_X7_10 rfl rfl dX7_change_30 rfl ?_
          refine g_getR hX fl_X7_61 rfl rfl dX7_change_33 rfl ?_
          refine g_iload_n (i := 1) hX dX7_change_36 rfl rfl rfl ?_
          refine g_iload_n (i := 2) hX dX7_change_37 rfl rfl rfl ?_
          refine g_callVi hX (c_X2_placeOfChange E M nc j q hc hcb hj1 (by omega) hq) kf_X2_placeOfChange rfl wk_X7_234 rfl rfl rfl rfl rfl dX7_change_38 rfl (fun x38 M38 h38 => ?_)
          obtain ⟨hx, hm0⟩ := h38; have hm0 := hm0.symm; subst hm0; rw [hf] at hx; subst hx
          refine g_istore hX dX7_change_41 (Nat.le_of_ble_eq_true rfl) rfl ?_
          refine g_iload hX dX7_change_43 rfl rfl ?_
          refine g_iconst hX dX7_change_45 ic_m1 rfl ?_
          refine g_icmp_ne (tgt := 52) hX dX7_change_46 (by decide) rfl (fun zc46 => absurd rfl zc46) (fun zc46 => ?_)
          refine g_bipush hX dX7_change_49 bc_m4 rfl ?_
          refine g_iret hX hR dX7_change_51 ?_
          exact ⟨rfl, rfl⟩
        | some p =>
          have hp := (fndTo_some hf).1
          rcases hz3 with rfl | rfl | rfl
          · skip
            refine g_aload_n (i := 0) hX dX7_change_0 rfl rfl rfl ?_
            refine g_getR hX fl_X7_10 rfl rfl dX7_change_1 rfl ?_
            refine g_getR hX fl_X7_61 rfl rfl dX7_change_4 rfl ?_
            refine g_iload_n (i := 1) hX dX7_change_7 rfl rfl rfl ?_
            refine g_callVi hX (c_X2_hasEdition E M ne _ he he2) kf_X2_hasEdition rfl wk_X7_118 rfl rfl rfl rfl rfl dX7_change_8 rfl (fun x8 M8 h8 => ?_)
            obtain ⟨rfl, hm⟩ := h8; have hm := hm.symm; subst hm
            first | refine g_if_eqB (tgt := 27) hX dX7_change_11 (by decide) rfl (fun zc11 => Bool.noConfusion (hin.symm.trans zc11)) (fun zc11 => ?_) | refine g_if_eq (tgt := 27) hX dX7_change_11 (by decide) rfl (fun zc11 => Bool.noConfusion (hin.symm.trans zc11)) (fun zc11 => ?_)
            refine g_iload_n (i := 2) hX dX7_change_14 rfl rfl rfl ?_
            refine g_if_lt (tgt := 27) hX dX7_change_15 (by decide) rfl (fun zc15 => absurd zc15 (hi0)) (fun zc15 => ?_)
            refine g_iload_n (i := 3) hX dX7_change_18 rfl rfl rfl ?_
            refine g_if_lt (tgt := 27) hX dX7_change_19 (by decide) rfl (fun zc19 => absurd zc19 (nI_pos (by omega))) (fun zc19 => ?_)
            refine g_iload_n (i := 3) hX dX7_change_22 rfl rfl rfl ?_
            refine g_iconst hX dX7_change_23 ic_2 rfl ?_
            first | refine g_icmp_leN (tgt := 29) hX dX7_change_24 (by decide) rfl (by omega) (by omega) (fun zc24 => ?_) (fun zc24 => absurd zc24 (by omega)) | refine g_icmp_le (tgt := 29) hX dX7_change_24 (by decide) rfl (fun zc24 => ?_) (fun zc24 => absurd zc24 (by omega))
            refine g_aload_n (i := 0) hX dX7_change_29 rfl rfl rfl ?_
            refine g_getR hX fl_X7_10 rfl rfl dX7_change_30 rfl ?_
            refine g_getR hX fl_X7_61 rfl rfl dX7_change_33 rfl ?_
            refine g_iload_n (i := 1) hX dX7_change_36 rfl rfl rfl ?_
            refine g_iload_n (i := 2) hX dX7_change_37 rfl rfl rfl ?_
            refine g_callVi hX (c_X2_placeOfChange E M nc j q hc hcb hj1 (by omega) hq) kf_X2_placeOfChange rfl wk_X7_234 rfl rfl rfl rfl rfl dX7_change_38 rfl (fun x38 M38 h38 => ?_)
            obtain ⟨hx, hm0⟩ := h38; have hm0 := hm0.symm; subst hm0; rw [hf] at hx; subst hx
            refine g_istore hX dX7_change_41 (Nat.le_of_ble_eq_true rfl) rfl ?_
            refine g_iload hX dX7_change_43 rfl rfl ?_
            refine g_iconst hX dX7_change_45 ic_m1 rfl ?_
            refine g_icmp_ne (tgt := 52) hX dX7_change_46 (by decide) rfl (fun zc46 => ?_) (fun zc46 => absurd zc46 (nI_ne_m1 (by omega)))
            refine g_iload_n (i := 3) hX dX7_change_52 rfl rfl rfl ?_
            refine g_lookup (n := 80) hX dX7_change_53 (by decide) rfl (by decide) ?_
            refine g_aload_n (i := 0) hX dX7_change_80 rfl rfl rfl ?_
            refine g_getR hX fl_X7_10 rfl rfl dX7_change_81 rfl ?_
            refine g_getR hX fl_X7_61 rfl rfl dX7_change_84 rfl ?_
            refine g_getR hX fl_X7_128 rfl rfl dX7_change_87 rfl ?_
            refine g_iload hX dX7_change_90 rfl rfl ?_
            refine g_iald hX rfl ((rfl : _ = nI p)) (by omega) rfl dX7_change_92 rfl ?_
            refine g_iret hX hR dX7_change_93 ?_
            exact ⟨rfl, rfl⟩
          · skip
            refine g_aload_n (i := 0) hX dX7_change_0 rfl rfl rfl ?_
            refine g_getR hX fl_X7_10 rfl rfl dX7_change_1 rfl ?_
            refine g_getR hX fl_X7_61 rfl rfl dX7_change_4 rfl ?_
            refine g_iload_n (i := 1) hX dX7_change_7 rfl rfl rfl ?_
            refine g_callVi hX (c_X2_hasEdition E M ne _ he he2) kf_X2_hasEdition rfl wk_X7_118 rfl rfl rfl rfl rfl dX7_change_8 rfl (fun x8 M8 h8 => ?_)
            obtain ⟨rfl, hm⟩ := h8; have hm := hm.symm; subst hm
            first | refine g_if_eqB (tgt := 27) hX dX7_change_11 (by decide) rfl (fun zc11 => Bool.noConfusion (hin.symm.trans zc11)) (fun zc11 => ?_) | refine g_if_eq (tgt := 27) hX dX7_change_11 (by decide) rfl (fun zc11 => Bool.noConfusion (hin.symm.trans zc11)) (fun zc11 => ?_)
            refine g_iload_n (i := 2) hX dX7_change_14 rfl rfl rfl ?_
            refine g_if_lt (tgt := 27) hX dX7_change_15 (by decide) rfl (fun zc15 => absurd zc15 (hi0)) (fun zc15 => ?_)
            refine g_iload_n (i := 3) hX dX7_change_18 rfl rfl rfl ?_
            refine g_if_lt (tgt := 27) hX dX7_change_19 (by decide) rfl (fun zc19 => absurd zc19 (nI_pos (by omega))) (fun zc19 => ?_)
            refine g_iload_n (i := 3) hX dX7_change_22 rfl rfl rfl ?_
            refine g_iconst hX dX7_change_23 ic_2 rfl ?_
            first | refine g_icmp_leN (tgt := 29) hX dX7_change_24 (by decide) rfl (by omega) (by omega) (fun zc24 => ?_) (fun zc24 => absurd zc24 (by omega)) | refine g_icmp_le (tgt := 29) hX dX7_change_24 (by decide) rfl (fun zc24 => ?_) (fun zc24 => absurd zc24 (by omega))
            refine g_aload_n (i := 0) hX dX7_change_29 rfl rfl rfl ?_
            refine g_getR hX fl_X7_10 rfl rfl dX7_change_30 rfl ?_
            refine g_getR hX fl_X7_61 rfl rfl dX7_change_33 rfl ?_
            refine g_iload_n (i := 1) hX dX7_change_36 rfl rfl rfl ?_
            refine g_iload_n (i := 2) hX dX7_change_37 rfl rfl rfl ?_
            refine g_callVi hX (c_X2_placeOfChange E M nc j q hc hcb hj1 (by omega) hq) kf_X2_placeOfChange rfl wk_X7_234 rfl rfl rfl rfl rfl dX7_change_38 rfl (fun x38 M38 h38 => ?_)
            obtain ⟨hx, hm0⟩ := h38; have hm0 := hm0.symm; subst hm0; rw [hf] at hx; subst hx
            refine g_istore hX dX7_change_41 (Nat.le_of_ble_eq_true rfl) rfl ?_
            refine g_iload hX dX7_change_43 rfl rfl ?_
            refine g_iconst hX dX7_change_45 ic_m1 rfl ?_
            refine g_icmp_ne (tgt := 52) hX dX7_change_46 (by decide) rfl (fun zc46 => ?_) (fun zc46 => absurd zc46 (nI_ne_m1 (by omega)))
            refine g_iload_n (i := 3) hX dX7_change_52 rfl rfl rfl ?_
            refine g_lookup (n := 94) hX dX7_change_53 (by decide) rfl (by decide) ?_
            refine g_aload_n (i := 0) hX dX7_change_94 rfl rfl rfl ?_
            refine g_getR hX fl_X7_10 rfl rfl dX7_change_95 rfl ?_
            refine g_getR hX fl_X7_61 rfl rfl dX7_change_98 rfl ?_
            refine g_getR hX fl_X7_237 rfl rfl dX7_change_101 rfl ?_
            refine g_iload_n (i := 1) hX dX7_change_104 rfl rfl rfl ?_
            refine g_iconst hX dX7_change_105 ic_1 rfl ?_
            refine g_isubN hX dX7_change_106 (by omega) rfl ?_
            refine g_iald hX rfl (rfl) (by omega) rfl dX7_change_107 rfl ?_
            refine g_iret hX hR dX7_change_108 ?_
            exact ⟨rfl, rfl⟩
          · skip
            refine g_aload_n (i := 0) hX dX7_change_0 rfl rfl rfl ?_
            refine g_getR hX fl_X7_10 rfl rfl dX7_change_1 rfl ?_
            refine g_getR hX fl_X7_61 rfl rfl dX7_change_4 rfl ?_
            refine g_iload_n (i := 1) hX dX7_change_7 rfl rfl rfl ?_
            refine g_callVi hX (c_X2_hasEdition E M ne _ he he2) kf_X2_hasEdition rfl wk_X7_118 rfl rfl rfl rfl rfl dX7_change_8 rfl (fun x8 M8 h8 => ?_)
            obtain ⟨rfl, hm⟩ := h8; have hm := hm.symm; subst hm
            first | refine g_if_eqB (tgt := 27) hX dX7_change_11 (by decide) rfl (fun zc11 => Bool.noConfusion (hin.symm.trans zc11)) (fun zc11 => ?_) | refine g_if_eq (tgt := 27) hX dX7_change_11 (by decide) rfl (fun zc11 => Bool.noConfusion (hin.symm.trans zc11)) (fun zc11 => ?_)
            refine g_iload_n (i := 2) hX dX7_change_14 rfl rfl rfl ?_
            refine g_if_lt (tgt := 27) hX dX7_change_15 (by decide) rfl (fun zc15 => absurd zc15 (hi0)) (fun zc15 => ?_)
            refine g_iload_n (i := 3) hX dX7_change_18 rfl rfl rfl ?_
            refine g_if_lt (tgt := 27) hX dX7_change_19 (by decide) rfl (fun zc19 => absurd zc19 (nI_pos (by omega))) (fun zc19 => ?_)
            refine g_iload_n (i := 3) hX dX7_change_22 rfl rfl rfl ?_
            refine g_iconst hX dX7_change_23 ic_2 rfl ?_
            first | refine g_icmp_leN (tgt := 29) hX dX7_change_24 (by decide) rfl (by omega) (by omega) (fun zc24 => ?_) (fun zc24 => absurd zc24 (by omega)) | refine g_icmp_le (tgt := 29) hX dX7_change_24 (by decide) rfl (fun zc24 => ?_) (fun zc24 => absurd zc24 (by omega))
            refine g_aload_n (i := 0) hX dX7_change_29 rfl rfl rfl ?_
            refine g_getR hX fl_X7_10 rfl rfl dX7_change_30 rfl ?_
            refine g_getR hX fl_X7_61 rfl rfl dX7_change_33 rfl ?_
            refine g_iload_n (i := 1) hX dX7_change_36 rfl rfl rfl ?_
            refine g_iload_n (i := 2) hX dX7_change_37 rfl rfl rfl ?_
            refine g_callVi hX (c_X2_placeOfChange E M nc j q hc hcb hj1 (by omega) hq) kf_X2_placeOfChange rfl wk_X7_234 rfl rfl rfl rfl rfl dX7_change_38 rfl (fun x38 M38 h38 => ?_)
            obtain ⟨hx, hm0⟩ := h38; have hm0 := hm0.symm; subst hm0; rw [hf] at hx; subst hx
            refine g_istore hX dX7_change_41 (Nat.le_of_ble_eq_true rfl) rfl ?_
            refine g_iload hX dX7_change_43 rfl rfl ?_
            refine g_iconst hX dX7_change_45 ic_m1 rfl ?_
            refine g_icmp_ne (tgt := 52) hX dX7_change_46 (by decide) rfl (fun zc46 => ?_) (fun zc46 => absurd zc46 (nI_ne_m1 (by omega)))
            refine g_iload_n (i := 3) hX dX7_change_52 rfl rfl rfl ?_
            refine g_lookup (n := 109) hX dX7_change_53 (by decide) rfl (by decide) ?_
            refine g_aload_n (i := 0) hX dX7_change_109 rfl rfl rfl ?_
            refine g_getR hX fl_X7_10 rfl rfl dX7_change_110 rfl ?_
            refine g_getR hX fl_X7_61 rfl rfl dX7_change_113 rfl ?_
            refine g_getR hX fl_X7_240 rfl rfl dX7_change_116 rfl ?_
            refine g_iload_n (i := 1) hX dX7_change_119 rfl rfl rfl ?_
            refine g_iload hX dX7_change_120 rfl rfl ?_
            refine g_callSi hX (c_X2_slot E _ j p hj1) kf_X2_slot rfl wk_X7_124 rfl rfl rfl rfl dX7_change_122 rfl (fun x122 M122 h122 => ?_)
            obtain ⟨rfl, hm1⟩ := h122; have hm1 := hm1.symm; subst hm1
            refine g_iald hX rfl (rfl) (by omega) rfl dX7_change_125 rfl ?_
            refine g_iret hX hR dX7_change_126 ?_
            exact ⟨rfl, rfl⟩
end

