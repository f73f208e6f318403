/-! CommitteeBallots: the calls that tell -/
theorem cl_nI {j : Nat} (h : j < 2 ^ 31) : (nI j).toNatClampNeg = j := nI_clamp h
theorem swOut {x : Int32} {n : Nat} (hn : n < 2 ^ 31) (h : x < 0 ∨ nI (n + 1) ≤ x) (hn2 : n + 1 < 2 ^ 31) : x.toInt < 0 ∨ (n : Int) < x.toInt := by
  rcases h with h | h
  · left; have := Int32.lt_iff_toInt_lt.mp h; simpa using this
  · right
    have := Int32.le_iff_toInt_le.mp h
    rw [nI_toInt hn2] at this
    omega
section
variable {M : gM} {nm nc nk ne ol hs : Nat} {op br : Bool} {mb pl : Nat → Nat}
def memF (M : gM) (nk j w : Nat) : Int32 := match w with
  | 0 => M 3 j
  | 1 => M 4 j
  | 2 => gB (lapB (M 4) (M 25) j)
  | 3 => if M 5 j = -1 then -4 else M 5 j
  | 4 => nI (cntTo nk (fun k => decide (M 17 k = nI j)))
  | _ => M 6 j
def x_member (M : gM) (nm nk : Nat) (m w : Int32) : Int32 := if inR m nm = true ∧ inR w 6 = true then memF M nk m.toNatClampNeg w.toNatClampNeg else -1
theorem c_X7_member (E : gE) (m w : Int32) (hW : WS M nm nc nk ne op br mb pl) : gMet E k_X7_member [.ref 0, .int m, .int w] M (gInt fun r M' => r = x_member M nm nk m w ∧ M' = M) := by
  refine gMet.of (by decide +kernel) rfl (Nat.le_of_ble_eq_true rfl) (fun X hX hR => ?_)
  obtain ⟨⟨hm, hmb⟩, ⟨hc, hcb⟩, ⟨hk, hkb⟩, ⟨he, he1, he2⟩, ⟨hop, hbr⟩, hcm⟩ := id hW
  cases hin : inR m nm with
  | false =>
    have e : x_member M nm nk m w = -1 := by simp [x_member, hin]
    refine g_aload_n (i := 0) hX dX7_member_0 rfl rfl rfl ?_
    refine g_getR hX fl_X7_10 rfl rfl dX7_member_1 rfl ?_
    refine g_getR hX fl_X7_30 rfl rfl dX7_member_4 rfl ?_
    refine g_iload_n (i := 1) hX dX7_member_7 rfl rfl rfl ?_
    refine g_callVi hX (c_X4_has E M nm m hm hmb) kf_X4_has rfl wk_X7_85 rfl rfl rfl rfl rfl dX7_member_8 rfl (fun x8 M8 h8 => ?_)
    obtain ⟨rfl, hm⟩ := h8; have hm := hm.symm; subst hm
    first | refine g_if_neB (tgt := 16) hX dX7_member_11 (by decide) rfl (fun zc11 => Bool.noConfusion (hin.symm.trans zc11)) (fun zc11 => ?_) | refine g_if_ne (tgt := 16) hX dX7_member_11 (by decide) rfl (fun zc11 => Bool.noConfusion (hin.symm.trans zc11)) (fun zc11 => ?_)
    refine g_iconst hX dX7_member_14 ic_m1 rfl ?_
    refine g_iret hX hR dX7_member_15 ?_
    exact ⟨e.symm, rfl⟩
  | true =>
    obtain ⟨j, hj, rfl⟩ := inR_t (by omega) hin
    have hcl := cl_nI (show j < 2 ^ 31 by omega)
    rcases pk_ix w (n := 6) (by decide) with h | h | ⟨q, hq, rfl⟩
    · have e : x_member M nm nk (nI j) w = -1 := by simp [x_member, inR_neg h]
      refine g_aload_n (i := 0) hX dX7_member_0 rfl rfl rfl ?_
      refine g_getR hX fl_X7_10 rfl rfl dX7_member_1 rfl ?_
      refine g_getR hX fl_X7_30 rfl rfl dX7_member_4 rfl ?_
      refine g_iload_n (i := 1) hX dX7_member_7 rfl rfl rfl ?_
      refine g_callVi hX (c_X4_has E M nm _ hm hmb) kf_X4_has rfl wk_X7_85 rfl rfl rfl rfl rfl dX7_member_8 rfl (fun x8 M8 h8 => ?_)
      obtain ⟨rfl, hm⟩ := h8; have hm := hm.symm; subst hm
      first | refine g_if_neB (tgt := 16) hX dX7_member_11 (by decide) rfl (fun zc11 => ?_) (fun zc11 => Bool.noConfusion (hin.symm.trans zc11)) | refine g_if_ne (tgt := 16) hX dX7_member_11 (by decide) rfl (fun zc11 => ?_) (fun zc11 => Bool.noConfusion (hin.symm.trans zc11))
      refine g_iload_n (i := 2) hX dX7_member_16 rfl rfl rfl ?_
      refine g_tableOut (n := 156) hX dX7_member_17 (swOut (by decide) (Or.inl h) (by decide)) (by decide) ?_
      refine g_iconst hX dX7_member_156 ic_m1 rfl ?_
      refine g_iret hX hR dX7_member_157 ?_
      exact ⟨e.symm, rfl⟩
    · have e : x_member M nm nk (nI j) w = -1 := by simp [x_member, inR_ge h]
      refine g_aload_n (i := 0) hX dX7_member_0 rfl rfl rfl ?_
      refine g_getR hX fl_X7_10 rfl rfl dX7_member_1 rfl ?_
      refine g_getR hX fl_X7_30 rfl rfl dX7_member_4 rfl ?_
      refine g_iload_n (i := 1) hX dX7_member_7 rfl rfl rfl ?_
      refine g_callVi hX (c_X4_has E M nm _ hm hmb) kf_X4_has rfl wk_X7_85 rfl rfl rfl rfl rfl dX7_member_8 rfl (fun x8 M8 h8 => ?_)
      obtain ⟨rfl, hm⟩ := h8; have hm := hm.symm; subst hm
      first | refine g_if_neB (tgt := 16) hX dX7_member_11 (by decide) rfl (fun zc11 => ?_) (fun zc11 => Bool.noConfusion (hin.symm.trans zc11)) | refine g_if_ne (tgt := 16) hX dX7_member_11 (by decide) rfl (fun zc11 => ?_) (fun zc11 => Bool.noConfusion (hin.symm.trans zc11))
      refine g_iload_n (i := 2) hX dX7_member_16 rfl rfl rfl ?_
      refine g_tableOut (n := 156) hX dX7_member_17 (swOut (by decide) (Or.inr h) (by decide)) (by decide) ?_
      refine g_iconst hX dX7_member_156 ic_m1 rfl ?_
      refine g_iret hX hR dX7_member_157 ?_
      exact ⟨e.symm, rfl⟩
    · have e : x_member M nm nk (nI j) (nI q) = memF M nk j q := by rw [x_member, if_pos ⟨hin, by rw [inR_nI (by omega) (by decide)]; exact decide_eq_true hq⟩, hcl, cl_nI (by omega)]
      rw [e]
      have hq6 : q = 0 ∨ q = 1 ∨ q = 2 ∨ q = 3 ∨ q = 4 ∨ q = 5 := by omega
      rcases hq6 with rfl | rfl | rfl | rfl | rfl | rfl
      · skip
        refine g_aload_n (i := 0) hX dX7_member_0 rfl rfl rfl ?_
        refine g_getR hX fl_X7_10 rfl rfl dX7_member_1 rfl ?_
        refine g_getR hX fl_X7_30 rfl rfl dX7_member_4 rfl ?_
        refine g_iload_n (i := 1) hX dX7_member_7 rfl rfl rfl ?_
        refine g_callVi hX (c_X4_has E M nm _ hm hmb) kf_X4_has rfl wk_X7_85 rfl rfl rfl rfl rfl dX7_member_8 rfl (fun x8 M8 h8 => ?_)
        obtain ⟨rfl, hm⟩ := h8; have hm := hm.symm; subst hm
        first | refine g_if_neB (tgt := 16) hX dX7_member_11 (by decide) rfl (fun zc11 => ?_) (fun zc11 => Bool.noConfusion (hin.symm.trans zc11)) | refine g_if_ne (tgt := 16) hX dX7_member_11 (by decide) rfl (fun zc11 => ?_) (fun zc11 => Bool.noConfusion (hin.symm.trans zc11))
        refine g_iload_n (i := 2) hX dX7_member_16 rfl rfl rfl ?_
        refine g_tableIn (n := 56) hX dX7_member_17 (by decide) (by decide) rfl (by decide) ?_
        refine g_aload_n (i := 0) hX dX7_member_56 rfl rfl rfl ?_
        refine g_getR hX fl_X7_10 rfl rfl dX7_member_57 rfl ?_
        refine g_getR hX fl_X7_30 rfl rfl dX7_member_60 rfl ?_
        refine g_getR hX fl_X7_88 rfl rfl dX7_member_63 rfl ?_
        refine g_iload_n (i := 1) hX dX7_member_66 rfl rfl rfl ?_
        refine g_iald hX rfl (rfl) (by omega) rfl dX7_member_67 rfl ?_
        refine g_iret hX hR dX7_member_68 ?_
        exact ⟨rfl, rfl⟩
      · skip
        refine g_aload_n (i := 0) hX dX7_member_0 rfl rfl rfl ?_
        refine g_getR hX fl_X7_10 rfl rfl dX7_member_1 rfl ?_
        refine g_getR hX fl_X7_30 rfl rfl dX7_member_4 rfl ?_
        refine g_iload_n (i := 1) hX dX7_member_7 rfl rfl rfl ?_
        refine g_callVi hX (c_X4_has E M nm _ hm hmb) kf_X4_has rfl wk_X7_85 rfl rfl rfl rfl rfl dX7_member_8 rfl (fun x8 M8 h8 => ?_)
        obtain ⟨rfl, hm⟩ := h8; have hm := hm.symm; subst hm
        first | refine g_if_neB (tgt := 16) hX dX7_member_11 (by decide) rfl (fun zc11 => ?_) (fun zc11 => Bool.noConfusion (hin.symm.trans zc11)) | refine g_if_ne (tgt := 16) hX dX7_member_11 (by decide) rfl (fun zc11 => ?_) (fun zc11 => Bool.noConfusion (hin.symm.trans zc11))
        refine g_iload_n (i := 2) hX dX7_member_16 rfl rfl rfl ?_
        refine g_tableIn (n := 69) hX dX7_member_17 (by decide) (by decide) rfl (by decide) ?_
        refine g_aload_n (i := 0) hX dX7_member_69 rfl rfl rfl ?_
        refine g_getR hX fl_X7_10 rfl rfl dX7_member_70 rfl ?_
        refine g_getR hX fl_X7_30 rfl rfl dX7_member_73 rfl ?_
        refine g_getR hX fl_X7_91 rfl rfl dX7_member_76 rfl ?_
        refine g_iload_n (i := 1) hX dX7_member_79 rfl rfl rfl ?_
        refine g_iald hX rfl (rfl) (by omega) rfl dX7_member_80 rfl ?_
        refine g_iret hX hR dX7_member_81 ?_
        exact ⟨rfl, rfl⟩
      · skip
        refine g_aload_n (i := 0) hX dX7_member_0 rfl rfl rfl ?_
        refine g_getR hX fl_X7_10 rfl rfl dX7_member_1 rfl ?_
        refine g_getR hX fl_X7_30 rfl rfl dX7_member_4 rfl ?_
        refine g_iload_n (i := 1) hX dX7_member_7 rfl rfl rfl ?_
        refine g_callVi hX (c_X4_has E M nm _ hm hmb) kf_X4_has rfl wk_X7_85 rfl rfl rfl rfl rfl dX7_member_8 rfl (fun x8 M8 h8 => ?_)
        obtain ⟨rfl, hm⟩ := h8; have hm := hm.symm; subst hm
        first | refine g_if_neB (tgt := 16) hX dX7_member_11 (by decide) rfl (fun zc11 => ?_) (fun zc11 => Bool.noConfusion (hin.symm.trans zc11)) | refine g_if_ne (tgt := 16) hX dX7_member_11 (by decide) rfl (fun zc11 => ?_) (fun zc11 => Bool.noConfusion (hin.symm.trans zc11))
        refine g_iload_n (i := 2) hX dX7_member_16 rfl rfl rfl ?_
        refine g_tableIn (n := 82) hX dX7_member_17 (by decide) (by decide) rfl (by decide) ?_
        refine g_aload_n (i := 0) hX dX7_member_82 rfl rfl rfl ?_
        refine g_getR hX fl_X7_10 rfl rfl dX7_member_83 rfl ?_
        refine g_iload_n (i := 1) hX dX7_member_86 rfl rfl rfl ?_
        refine g_callVi hX (c_X5_isLapsed E M j (by omega)) kf_X5_isLapsed rfl wk_X7_94 rfl rfl rfl rfl rfl dX7_member_87 rfl (fun x87 M87 h87 => ?_)
        obtain ⟨rfl, hm⟩ := h87; have hm := hm.symm; subst hm
        first | refine g_if_eqB (tgt := 97) hX dX7_member_90 (by decide) rfl (fun zc90 => ?_) (fun zc90 => ?_) | refine g_if_eq (tgt := 97) hX dX7_member_90 (by decide) rfl (fun zc90 => ?_) (fun zc90 => ?_)
        · skip
          refine g_iconst hX dX7_member_97 ic_0 rfl ?_
          refine g_iret hX hR dX7_member_98 ?_
          first | exact ⟨gB_1 zc90, rfl⟩ | exact ⟨gB_n zc90, rfl⟩
        · skip
          refine g_iconst hX dX7_member_93 ic_1 rfl ?_
          refine g_goto (n := 98) hX dX7_member_94 (by decide) ?_
          refine g_iret hX hR dX7_member_98 ?_
          first | exact ⟨gB_1 zc90, rfl⟩ | exact ⟨gB_n zc90, rfl⟩
      · skip
        refine g_aload_n (i := 0) hX dX7_member_0 rfl rfl rfl ?_
        refine g_getR hX fl_X7_10 rfl rfl dX7_member_1 rfl ?_
        refine g_getR hX fl_X7_30 rfl rfl dX7_member_4 rfl ?_
        refine g_iload_n (i := 1) hX dX7_member_7 rfl rfl rfl ?_
        refine g_callVi hX (c_X4_has E M nm _ hm hmb) kf_X4_has rfl wk_X7_85 rfl rfl rfl rfl rfl dX7_member_8 rfl (fun x8 M8 h8 => ?_)
        obtain ⟨rfl, hm⟩ := h8; have hm := hm.symm; subst hm
        first | refine g_if_neB (tgt := 16) hX dX7_member_11 (by decide) rfl (fun zc11 => ?_) (fun zc11 => Bool.noConfusion (hin.symm.trans zc11)) | refine g_if_ne (tgt := 16) hX dX7_member_11 (by decide) rfl (fun zc11 => ?_) (fun zc11 => Bool.noConfusion (hin.symm.trans zc11))
        refine g_iload_n (i := 2) hX dX7_member_16 rfl rfl rfl ?_
        refine g_tableIn (n := 99) hX dX7_member_17 (by decide) (by decide) rfl (by decide) ?_
        refine g_aload_n (i := 0) hX dX7_member_99 rfl rfl rfl ?_
        refine g_getR hX fl_X7_10 rfl rfl dX7_member_100 rfl ?_
        refine g_getR hX fl_X7_30 rfl rfl dX7_member_103 rfl ?_
        refine g_iload_n (i := 1) hX dX7_member_106 rfl rfl rfl ?_
        refine g_callVi hX (c_X4_hasVoted E M j (by omega)) kf_X4_hasVoted rfl wk_X7_97 rfl rfl rfl rfl rfl dX7_member_107 rfl (fun x107 M107 h107 => ?_)
        obtain ⟨rfl, hm⟩ := h107; have hm := hm.symm; subst hm
        first | refine g_if_eqB (tgt := 128) hX dX7_member_110 (by decide) rfl (fun zc110 => ?_) (fun zc110 => ?_) | refine g_if_eq (tgt := 128) hX dX7_member_110 (by decide) rfl (fun zc110 => ?_) (fun zc110 => ?_)
        · skip
          have d : M 5 j = -1 := by simpa using zc110
          refine g_bipush hX dX7_member_128 bc_m4 rfl ?_
          refine g_iret hX hR dX7_member_130 ?_
          exact ⟨by simp [memF, d], rfl⟩
        · skip
          have d : ¬ M 5 j = -1 := by simpa using zc110
          refine g_aload_n (i := 0) hX dX7_member_113 rfl rfl rfl ?_
          refine g_getR hX fl_X7_10 rfl rfl dX7_member_114 rfl ?_
          refine g_getR hX fl_X7_30 rfl rfl dX7_member_117 rfl ?_
          refine g_getR hX fl_X7_100 rfl rfl dX7_member_120 rfl ?_
          refine g_iload_n (i := 1) hX dX7_member_123 rfl rfl rfl ?_
          refine g_iald hX rfl (rfl) (by omega) rfl dX7_member_124 rfl ?_
          refine g_goto (n := 130) hX dX7_member_125 (by decide) ?_
          refine g_iret hX hR dX7_member_130 ?_
          exact ⟨by simp [memF, d], rfl⟩
      · skip
        refine g_aload_n (i := 0) hX dX7_member_0 rfl rfl rfl ?_
        refine g_getR hX fl_X7_10 rfl rfl dX7_member_1 rfl ?_
        refine g_getR hX fl_X7_30 rfl rfl dX7_member_4 rfl ?_
        refine g_iload_n (i := 1) hX dX7_member_7 rfl rfl rfl ?_
        refine g_callVi hX (c_X4_has E M nm _ hm hmb) kf_X4_has rfl wk_X7_85 rfl rfl rfl rfl rfl dX7_member_8 rfl (fun x8 M8 h8 => ?_)
        obtain ⟨rfl, hm⟩ := h8; have hm := hm.symm; subst hm
        first | refine g_if_neB (tgt := 16) hX dX7_member_11 (by decide) rfl (fun zc11 => ?_) (fun zc11 => Bool.noConfusion (hin.symm.trans zc11)) | refine g_if_ne (tgt := 16) hX dX7_member_11 (by decide) rfl (fun zc11 => ?_) (fun zc11 => Bool.noConfusion (hin.symm.trans zc11))
        refine g_iload_n (i := 2) hX dX7_member_16 rfl rfl rfl ?_
        refine g_tableIn (n := 131) hX dX7_member_17 (by decide) (by decide) rfl (by decide) ?_
        refine g_aload_n (i := 0) hX dX7_member_131 rfl rfl rfl ?_
        refine g_getR hX fl_X7_10 rfl rfl dX7_member_132 rfl ?_
        refine g_getR hX fl_X7_103 rfl rfl dX7_member_135 rfl ?_
        refine g_iload_n (i := 1) hX dX7_member_138 rfl rfl rfl ?_
        refine g_callVi hX (c_X1_numberOf E M nk _ hk hkb) kf_X1_numberOf rfl wk_X7_107 rfl rfl rfl rfl rfl dX7_member_139 rfl (fun x139 M139 h139 => ?_)
        obtain ⟨rfl, hm⟩ := h139; have hm := hm.symm; subst hm
        refine g_iret hX hR dX7_member_142 ?_
        exact ⟨rfl, rfl⟩
      · skip
        refine g_aload_n (i := 0) hX dX7_member_0 rfl rfl rfl ?_
        refine g_getR hX fl_X7_10 rfl rfl dX7_member_1 rfl ?_
        refine g_getR hX fl_X7_30 rfl rfl dX7_member_4 rfl ?_
        refine g_iload_n (i := 1) hX dX7_member_7 rfl rfl rfl ?_
        refine g_callVi hX (c_X4_has E M nm _ hm hmb) kf_X4_has rfl wk_X7_85 rfl rfl rfl rfl rfl dX7_member_8 rfl (fun x8 M8 h8 => ?_)
        obtain ⟨rfl, hm⟩ := h8; have hm := hm.symm; subst hm
        first | refine g_if_neB (tgt := 16) hX dX7_member_11 (by decide) rfl (fun zc11 => ?_) (fun zc11 => Bool.noConfusion (hin.symm.trans zc11)) | refine g_if_ne (tgt := 16) hX dX7_member_11 (by decide) rfl (fun zc11 => ?_) (fun zc11 => Bool.noConfusion (hin.symm.trans zc11))
        refine g_iload_n (i := 2) hX dX7_member_16 rfl rfl rfl ?_
        refine g_tableIn (n := 143) hX dX7_member_17 (by decide) (by decide) rfl (by decide) ?_
        refine g_aload_n (i := 0) hX dX7_member_143 rfl rfl rfl ?_
        refine g_getR hX fl_X7_10 rfl rfl dX7_member_144 rfl ?_
        refine g_getR hX fl_X7_30 rfl rfl dX7_member_147 rfl ?_
        refine g_getR hX fl_X7_112 rfl rfl dX7_member_150 rfl ?_
        refine g_iload_n (i := 1) hX dX7_member_153 rfl rfl rfl ?_
        refine g_iald hX rfl (rfl) (by omega) rfl dX7_member_154 rfl ?_
        refine g_iret hX hR dX7_member_155 ?_
        exact ⟨rfl, rfl⟩
def x_value (M : gM) (nc : Nat) (c : Int32) : Int32 := match fndTo nc (fun k => decide (M 8 k = c)) with
  | none => -1
  | some p => M 9 p
theorem fnd_lt {n : Nat} {p : Nat → Bool} (hn : n ≤ 20) : ∀ q, fndTo n p = some q → q < 2 ^ 31 := fun q h => by have := (fndTo_some h).1; omega
theorem c_X7_value (E : gE) (c : Int32) (hW : WS M nm nc nk ne op br mb pl) : gMet E k_X7_value [.ref 0, .int c] M (gInt fun r M' => r = x_value M nc c ∧ M' = M) := by
  refine gMet.of (by decide +kernel) rfl (Nat.le_of_ble_eq_true rfl) (fun X hX hR => ?_)
  obtain ⟨⟨hm, hmb⟩, ⟨hc, hcb⟩, ⟨hk, hkb⟩, ⟨he, he1, he2⟩, ⟨hop, hbr⟩, hcm⟩ := id hW
  simp only [x_value]
  cases hf : fndTo nc (fun k => decide (M 8 k = c)) with
  | none =>
    refine g_aload_n (i := 0) hX dX7_value_0 rfl rfl rfl ?_
    refine g_getR hX fl_X7_10 rfl rfl dX7_value_1 rfl ?_
    refine g_getR hX fl_X7_61 rfl rfl dX7_value_4 rfl ?_
    refine g_iload_n (i := 1) hX dX7_value_7 rfl rfl rfl ?_
    refine g_callVi hX (c_X2_find E M nc c hc hcb) kf_X2_find rfl wk_X7_65 rfl rfl rfl rfl rfl dX7_value_8 rfl (fun x8 M8 h8 => ?_)
    obtain ⟨hx, hm0⟩ := h8; have hm0 := hm0.symm; subst hm0; rw [hf] at hx; subst hx
    refine g_istore_n (i := 2) hX dX7_value_11 rfl (Nat.le_of_ble_eq_true rfl) rfl ?_
    refine g_iload_n (i := 2) hX dX7_value_12 rfl rfl rfl ?_
    refine g_iconst hX dX7_value_13 ic_m1 rfl ?_
    refine g_icmp_ne (tgt := 21) hX dX7_value_14 (by decide) rfl (fun zc14 => absurd rfl zc14) (fun zc14 => ?_)
    refine g_iconst hX dX7_value_17 ic_m1 rfl ?_
    refine g_goto (n := 33) hX dX7_value_18 (by decide) ?_
    refine g_iret hX hR dX7_value_33 ?_
    exact ⟨rfl, rfl⟩
  | some p =>
    have hp := (fndTo_some hf).1
    refine g_aload_n (i := 0) hX dX7_value_0 rfl rfl rfl ?_
    refine g_getR hX fl_X7_10 rfl rfl dX7_value_1 rfl ?_
    refine g_getR hX fl_X7_61 rfl rfl dX7_value_4 rfl ?_
    refine g_iload_n (i := 1) hX dX7_value_7 rfl rfl rfl ?_
    refine g_callVi hX (c_X2_find E M nc c hc hcb) kf_X2_find rfl wk_X7_65 rfl rfl rfl rfl rfl dX7_value_8 rfl (fun x8 M8 h8 => ?_)
    obtain ⟨hx, hm0⟩ := h8; have hm0 := hm0.symm; subst hm0; rw [hf] at hx; subst hx
    refine g_istore_n (i := 2) hX dX7_value_11 rfl (Nat.le_of_ble_eq_true rfl) rfl ?_
    refine g_iload_n (i := 2) hX dX7_value_12 rfl rfl rfl ?_
    refine g_iconst hX dX7_value_13 ic_m1 rfl ?_
    refine g_icmp_ne (tgt := 21) hX dX7_value_14 (by decide) rfl (fun zc14 => ?_) (fun zc14 => absurd zc14 (nI_ne_m1 (by omega)))
    refine g_aload_n (i := 0) hX dX7_value_21 rfl rfl rfl ?_
    refine g_getR hX fl_X7_10 rfl rfl dX7_value_22 rfl ?_
    refine g_getR hX fl_X7_61 rfl rfl dX7_value_25 rfl ?_
    refine g_getR hX fl_X7_115 rfl rfl dX7_value_28 rfl ?_
    refine g_iload_n (i := 2) hX dX7_value_31 rfl rfl rfl ?_
    refine g_iald hX rfl ((rfl : _ = nI p)) (by omega) rfl dX7_value_32 rfl ?_
    refine g_iret hX hR dX7_value_33 ?_
    exact ⟨rfl, rfl⟩
def x_valueIn (M : gM) (nc ne : Nat) (c e : Int32) : Int32 := match fndTo nc (fun k => decide (M 8 k = c)) with
  | none => -1
  | some p => if inI e (nI 1) (nI ne) = true then M 12 ((e.toNatClampNeg - 1) * 20 + p) else -1
theorem c_X7_valueIn (E : gE) (c e : Int32) (hW : WS M nm nc nk ne op br mb pl) : gMet E k_X7_valueIn [.ref 0, .int c, .int e] M (gInt fun r M' => r = x_valueIn M nc ne c e ∧ M' = M) := by
  refine gMet.of (by decide +kernel) rfl (Nat.le_of_ble_eq_true rfl) (fun X hX hR => ?_)
  obtain ⟨⟨hm, hmb⟩, ⟨hc, hcb⟩, ⟨hk, hkb⟩, ⟨he, he1, he2⟩, ⟨hop, hbr⟩, hcm⟩ := id hW
  simp only [x_valueIn]
  cases hf : fndTo nc (fun k => decide (M 8 k = c)) with
  | none =>
    refine g_aload_n (i := 0) hX dX7_valueIn_0 rfl rfl rfl ?_
    refine g_getR hX fl_X7_10 rfl rfl dX7_valueIn_1 rfl ?_
    refine g_getR hX fl_X7_61 rfl rfl dX7_valueIn_4 rfl ?_
    refine g_iload_n (i := 1) hX dX7_valueIn_7 rfl rfl rfl ?_
    refine g_callVi hX (c_X2_find E M nc c hc hcb) kf_X2_find rfl wk_X7_65 rfl rfl rfl rfl rfl dX7_valueIn_8 rfl (fun x8 M8 h8 => ?_)
    obtain ⟨hx, hm0⟩ := h8; have hm0 := hm0.symm; subst hm0; rw [hf] at hx; subst hx
    refine g_istore_n (i := 3) hX dX7_valueIn_11 rfl (Nat.le_of_ble_eq_true rfl) rfl ?_
    refine g_iload_n (i := 3) hX dX7_valueIn_12 rfl rfl rfl ?_
    refine g_iconst hX dX7_valueIn_13 ic_m1 rfl ?_
    refine g_icmp_eq (tgt := 31) hX dX7_valueIn_14 (by decide) rfl (fun zc14 => ?_) (fun zc14 => absurd rfl zc14)
    refine g_iconst hX dX7_valueIn_31 ic_m1 rfl ?_
    refine g_iret hX hR dX7_valueIn_32 ?_
    exact ⟨rfl, rfl⟩
  | some p =>
    have hp := (fndTo_some hf).1
    cases hin : inI e (nI 1) (nI ne) with
    | false =>
      refine g_aload_n (i := 0) hX dX7_valueIn_0 rfl rfl rfl ?_
      refine g_getR hX fl_X7_10 rfl rfl dX7_valueIn_1 rfl ?_
      refine g_getR hX fl_X7_61 rfl rfl dX7_valueIn_4 rfl ?_
      refine g_iload_n (i := 1) hX dX7_valueIn_7 rfl rfl rfl ?_
      refine g_callVi hX (c_X2_find E M nc c hc hcb) kf_X2_find rfl wk_X7_65 rfl rfl rfl rfl rfl dX7_valueIn_8 rfl (fun x8 M8 h8 => ?_)
      obtain ⟨hx, hm0⟩ := h8; have hm0 := hm0.symm; subst hm0; rw [hf] at hx; subst hx
      refine g_istore_n (i := 3) hX dX7_valueIn_11 rfl (Nat.le_of_ble_eq_true rfl) rfl ?_
      refine g_iload_n (i := 3) hX dX7_valueIn_12 rfl rfl rfl ?_
      refine g_iconst hX dX7_valueIn_13 ic_m1 rfl ?_
      refine g_icmp_eq (tgt := 31) hX dX7_valueIn_14 (by decide) rfl (fun zc14 => absurd zc14 (nI_ne_m1 (by omega))) (fun zc14 => ?_)
      refine g_aload_n (i := 0) hX dX7_valueIn_17 rfl rfl rfl ?_
      refine g_getR hX fl_X7_10 rfl rfl dX7_valueIn_18 rfl ?_
      refine g_getR hX fl_X7_61 rfl rfl dX7_valueIn_21 rfl ?_
      refine g_iload_n (i := 2) hX dX7_valueIn_24 rfl rfl rfl ?_
      refine g_callVi hX (c_X2_hasEdition E M ne e he he2) kf_X2_hasEdition rfl wk_X7_118 rfl rfl rfl rfl rfl dX7_valueIn_25 rfl (fun x25 M25 h25 => ?_)
      obtain ⟨rfl, hm⟩ := h25; have hm := hm.symm; subst hm
      first | refine g_if_neB (tgt := 33) hX dX7_valueIn_28 (by decide) rfl (fun zc28 => Bool.noConfusion (hin.symm.trans zc28)) (fun zc28 => ?_) | refine g_if_ne (tgt := 33) hX dX7_valueIn_28 (by decide) rfl (fun zc28 => Bool.noConfusion (hin.symm.trans zc28)) (fun zc28 => ?_)
      refine g_iconst hX dX7_valueIn_31 ic_m1 rfl ?_
      refine g_iret hX hR dX7_valueIn_32 ?_
      exact ⟨by simp, rfl⟩
    | true =>
      obtain ⟨j, hj1, hj2, rfl⟩ := inI_t (by decide) (by omega) hin
      refine g_aload_n (i := 0) hX dX7_valueIn_0 rfl rfl rfl ?_
      refine g_getR hX fl_X7_10 rfl rfl dX7_valueIn_1 rfl ?_
      refine g_getR hX fl_X7_61 rfl rfl dX7_valueIn_4 rfl ?_
      refine g_iload_n (i := 1) hX dX7_valueIn_7 rfl rfl rfl ?_
      refine g_callVi hX (c_X2_find E M nc c hc hcb) kf_X2_find rfl wk_X7_65 rfl rfl rfl rfl rfl dX7_valueIn_8 rfl (fun x8 M8 h8 => ?_)
      obtain ⟨hx, hm0⟩ := h8; have hm0 := hm0.symm; subst hm0; rw [hf] at hx; subst hx
      refine g_istore_n (i := 3) hX dX7_valueIn_11 rfl (Nat.le_of_ble_eq_true rfl) rfl ?_
      refine g_iload_n (i := 3) hX dX7_valueIn_12 rfl rfl rfl ?_
      refine g_iconst hX dX7_valueIn_13 ic_m1 rfl ?_
      refine g_icmp_eq (tgt := 31) hX dX7_valueIn_14 (by decide) rfl (fun zc14 => absurd zc14 (nI_ne_m1 (by omega))) (fun zc14 => ?_)
      refine g_aload_n (i := 0) hX dX7_valueIn_17 rfl rfl rfl ?_
      refine g_getR hX fl_X7_10 rfl rfl dX7_valueIn_18 rfl ?_
      refine g_getR hX fl_X7_61 rfl rfl dX7_valueIn_21 rfl ?_
      refine g_iload_n (i := 2) hX dX7_valueIn_24 rfl rfl rfl ?_
      refine g_callVi hX (c_X2_hasEdition E M ne _ he he2) kf_X2_hasEdition rfl wk_X7_118 rfl rfl rfl rfl rfl dX7_valueIn_25 rfl (fun x25 M25 h25 => ?_)
      obtain ⟨rfl, hm⟩ := h25; have hm := hm.symm; subst hm
      first | refine g_if_neB (tgt := 33) hX dX7_valueIn_28 (by decide) rfl (fun zc28 => ?_) (fun zc28 => Bool.noConfusion (hin.symm.trans zc28)) | refine g_if_ne (tgt := 33) hX dX7_valueIn_28 (by decide) rfl (fun zc28 => ?_) (fun zc28 => Bool.noConfusion (hin.symm.trans zc28))
      refine g_aload_n (i := 0) hX dX7_valueIn_33 rfl rfl rfl ?_
      refine g_getR hX fl_X7_10 rfl rfl dX7_valueIn_34 rfl ?_
      refine g_getR hX fl_X7_61 rfl rfl dX7_valueIn_37 rfl ?_
      refine g_getR hX fl_X7_121 rfl rfl dX7_valueIn_40 rfl ?_
      refine g_iload_n (i := 2) hX dX7_valueIn_43 rfl rfl rfl ?_
      refine g_iload_n (i := 3) hX dX7_valueIn_44 rfl rfl rfl ?_
      refine g_callSi hX (c_X2_slot E _ j p hj1) kf_X2_slot rfl wk_X7_124 rfl rfl rfl rfl dX7_valueIn_45 rfl (fun x45 M45 h45 => ?_)
      obtain ⟨rfl, hm1⟩ := h45; have hm1 := hm1.symm; subst hm1
      refine g_iald hX rfl (rfl) (by omega) rfl dX7_valueIn_48 rfl ?_
      refine g_iret hX hR dX7_valueIn_49 ?_
      rw [cl_nI (by omega)]; exact ⟨by simp, rfl⟩
def x_clause (M : gM) (nc : Nat) (i : Int32) : Int32 := if i < 0 then -1 else if inR i nc = true then M 8 i.toNatClampNeg else -4
theorem c_X7_clause (E : gE) (i : Int32) (hW : WS M nm nc nk ne op br mb pl) : gMet E k_X7_clause [.ref 0, .int i] M (gInt fun r M' => r = x_clause M nc i ∧ M' = M) := by
  refine gMet.of (by decide +kernel) rfl (Nat.le_of_ble_eq_true rfl) (fun X hX hR => ?_)
  obtain ⟨⟨hm, hmb⟩, ⟨hc, hcb⟩, ⟨hk, hkb⟩, ⟨he, he1, he2⟩, ⟨hop, hbr⟩, hcm⟩ := id hW
  rcases pk_ix i (n := nc) (by omega) with h | h | ⟨j, hj, rfl⟩
  · have e : x_clause M nc i = -1 := by simp [x_clause, h]
    rw [e]
    refine g_iload_n (i := 1) hX dX7_clause_0 rfl rfl rfl ?_
    refine g_if_ge (tgt := 6) hX dX7_clause_1 (by decide) rfl (fun zc1 => absurd zc1 (Int32.not_le.mpr h)) (fun zc1 => ?_)
    refine g_iconst hX dX7_clause_4 ic_m1 rfl ?_
    refine g_iret hX hR dX7_clause_5 ?_
    exact ⟨rfl, rfl⟩
  · have h0 : ¬ i < 0 := fun q => absurd (Int32.lt_of_lt_of_le q (nI_pos' (n := nc) (by omega))) (Int32.not_lt.mpr h)
    have e : x_clause M nc i = -4 := by rw [x_clause, if_neg h0, inR_ge h]; rfl
    rw [e]
    refine g_iload_n (i := 1) hX dX7_clause_0 rfl rfl rfl ?_
    refine g_if_ge (tgt := 6) hX dX7_clause_1 (by decide) rfl (fun zc1 => ?_) (fun zc1 => absurd (Int32.not_lt.mp h0) zc1)
    refine g_iload_n (i := 1) hX dX7_clause_6 rfl rfl rfl ?_
    refine g_aload_n (i := 0) hX dX7_clause_7 rfl rfl rfl ?_
    refine g_getR hX fl_X7_10 rfl rfl dX7_clause_8 rfl ?_
    refine g_getR hX fl_X7_61 rfl rfl dX7_clause_11 rfl ?_
    refine g_getIv (x := nI nc) hX fl_X7_70 rfl rfl (hc) dX7_clause_14 rfl ?_
    refine g_icmp_ge (tgt := 35) hX dX7_clause_17 (by decide) rfl (fun zc17 => ?_) (fun zc17 => absurd h zc17)
    refine g_bipush hX dX7_clause_35 bc_m4 rfl ?_
    refine g_iret hX hR dX7_clause_37 ?_
    exact ⟨rfl, rfl⟩
  · have e : x_clause M nc (nI j) = M 8 j := by rw [x_clause, if_neg (nI_pos (by omega)), inR_nI (by omega) (by omega), decide_eq_true hj, cl_nI (by omega)]; rfl
    rw [e]
    refine g_iload_n (i := 1) hX dX7_clause_0 rfl rfl rfl ?_
    refine g_if_ge (tgt := 6) hX dX7_clause_1 (by decide) rfl (fun zc1 => ?_) (fun zc1 => absurd (nI_pos' (by omega)) zc1)
    refine g_iload_n (i := 1) hX dX7_clause_6 rfl rfl rfl ?_
    refine g_aload_n (i := 0) hX dX7_clause_7 rfl rfl rfl ?_
    refine g_getR hX fl_X7_10 rfl rfl dX7_clause_8 rfl ?_
    refine g_getR hX fl_X7_61 rfl rfl dX7_clause_11 rfl ?_
    refine g_getIv (x := nI nc) hX fl_X7_70 rfl rfl (hc) dX7_clause_14 rfl ?_
    first | refine g_icmp_geN (tgt := 35) hX dX7_clause_17 (by decide) rfl (by omega) (by omega) (fun zc17 => absurd zc17 (by omega)) (fun zc17 => ?_) | refine g_icmp_ge (tgt := 35) hX dX7_clause_17 (by decide) rfl (fun zc17 => absurd zc17 (by omega)) (fun zc17 => ?_)
    refine g_aload_n (i := 0) hX dX7_clause_20 rfl rfl rfl ?_
    refine g_getR hX fl_X7_10 rfl rfl dX7_clause_21 rfl ?_
    refine g_getR hX fl_X7_61 rfl rfl dX7_clause_24 rfl ?_
    refine g_getR hX fl_X7_128 rfl rfl dX7_clause_27 rfl ?_
    refine g_iload_n (i := 1) hX dX7_clause_30 rfl rfl rfl ?_
    refine g_iald hX rfl (rfl) (by omega) rfl dX7_clause_31 rfl ?_
    refine g_goto (n := 37) hX dX7_clause_32 (by decide) ?_
    refine g_iret hX hR dX7_clause_37 ?_
    exact ⟨rfl, rfl⟩
def cntF (M : gM) (nm nc nk ne hs : Nat) (op : Bool) (j : Nat) : Int32 := match j with
  | 0 => nI nm
  | 1 => nI nc
  | 2 => nI ne
  | 3 => M 1 5
  | 4 => gB op
  | 5 => M 14 3
  | 6 => nI nk
  | 7 => nI (cntTo nk (fun k => decide (M 21 k = 1)))
  | 8 => actW (M 3) (M 4) (M 25) nm
  | 9 => nI hs
  | 10 => M 128 1
  | _ => if op then M 14 4 - M 1 5 else 0
def x_count (M : gM) (nm nc nk ne hs : Nat) (op : Bool) (w : Int32) : Int32 := if inR w 25 = true then (if w.toNatClampNeg < 12 then cntF M nm nc nk ne hs op w.toNatClampNeg else if 20 ≤ w.toNatClampNeg then M 25 (w.toNatClampNeg - 20) else -1) else -1
theorem c_X7_count (E : gE) (w : Int32) (hW : WS M nm nc nk ne op br mb pl) (hH : WH M ol hs) : gMet E k_X7_count [.ref 0, .int w] M (gInt fun r M' => r = x_count M nm nc nk ne hs op w ∧ M' = M) := by
  refine gMet.of (by decide +kernel) rfl (Nat.le_of_ble_eq_true rfl) (fun X hX hR => ?_)
  obtain ⟨⟨hm, hmb⟩, ⟨hc, hcb⟩, ⟨hk, hkb⟩, ⟨he, he1, he2⟩, ⟨hop, hbr⟩, hcm⟩ := id hW
  obtain ⟨hol, holb, hhs, hhsb⟩ := id hH
  rcases pk_ix w (n := 25) (by decide) with h | h | ⟨j, hj, rfl⟩
  · have e : x_count M nm nc nk ne hs op w = -1 := by simp [x_count, inR_neg h]
    rw [e]
    refine g_iload_n (i := 1) hX dX7_count_0 rfl rfl rfl ?_
    refine g_bipush hX dX7_count_1 bc_20 rfl ?_
    refine g_icmp_lt (tgt := 25) hX dX7_count_3 (by decide) rfl (fun zc3 => ?_) (fun zc3 => absurd (Int32.lt_trans h (by decide : (0 : Int32) < nI 20)) zc3)
    refine g_iload_n (i := 1) hX dX7_count_25 rfl rfl rfl ?_
    refine g_tableOut (n := 241) hX dX7_count_26 (swOut (by decide) (Or.inl h) (by decide)) (by decide) ?_
    refine g_iconst hX dX7_count_241 ic_m1 rfl ?_
    refine g_iret hX hR dX7_count_242 ?_
    exact ⟨rfl, rfl⟩
  · have e : x_count M nm nc nk ne hs op w = -1 := by simp [x_count, inR_ge h]
    have h20 : nI 20 ≤ w := Int32.le_trans (by decide) h
    rw [e]
    refine g_iload_n (i := 1) hX dX7_count_0 rfl rfl rfl ?_
    refine g_bipush hX dX7_count_1 bc_20 rfl ?_
    refine g_icmp_lt (tgt := 25) hX dX7_count_3 (by decide) rfl (fun zc3 => absurd zc3 (Int32.not_lt.mpr h20)) (fun zc3 => ?_)
    refine g_iload_n (i := 1) hX dX7_count_6 rfl rfl rfl ?_
    refine g_bipush hX dX7_count_7 bc_25 rfl ?_
    refine g_icmp_ge (tgt := 25) hX dX7_count_9 (by decide) rfl (fun zc9 => ?_) (fun zc9 => absurd h zc9)
    refine g_iload_n (i := 1) hX dX7_count_25 rfl rfl rfl ?_
    refine g_tableOut (n := 241) hX dX7_count_26 (swOut (by decide) (Or.inr (Int32.le_trans (by decide : nI (11 + 1) ≤ nI 25) h)) (by decide)) (by decide) ?_
    refine g_iconst hX dX7_count_241 ic_m1 rfl ?_
    refine g_iret hX hR dX7_count_242 ?_
    exact ⟨rfl, rfl⟩
  · have e : x_count M nm nc nk ne hs op (nI j) = if j < 12 then cntF M nm nc nk ne hs op j else if 20 ≤ j then M 25 (j - 20) else -1 := by rw [x_count, inR_nI (by omega) (by decide), decide_eq_true hj, cl_nI (by omega)]; rfl
    rw [e]
    by_cases h20 : 20 ≤ j
    · rw [if_neg (by omega), if_pos h20]
      refine g_iload_n (i := 1) hX dX7_count_0 rfl rfl rfl ?_
      refine g_bipush hX dX7_count_1 bc_20 rfl ?_
      first | refine g_icmp_ltN (tgt := 25) hX dX7_count_3 (by decide) rfl (by omega) (by omega) (fun zc3 => absurd zc3 (by omega)) (fun zc3 => ?_) | refine g_icmp_lt (tgt := 25) hX dX7_count_3 (by decide) rfl (fun zc3 => absurd zc3 (by omega)) (fun zc3 => ?_)
      refine g_iload_n (i := 1) hX dX7_count_6 rfl rfl rfl ?_
      refine g_bipush hX dX7_count_7 bc_25 rfl ?_
      first | refine g_icmp_geN (tgt := 25) hX dX7_count_9 (by decide) rfl (by omega) (by omega) (fun zc9 => absurd zc9 (by omega)) (fun zc9 => ?_) | refine g_icmp_ge (tgt := 25) hX dX7_count_9 (by decide) rfl (fun zc9 => absurd zc9 (by omega)) (fun zc9 => ?_)
      refine g_aload_n (i := 0) hX dX7_count_12 rfl rfl rfl ?_
      refine g_getR hX fl_X7_10 rfl rfl dX7_count_13 rfl ?_
      refine g_getR hX fl_X7_82 rfl rfl dX7_count_16 rfl ?_
      refine g_iload_n (i := 1) hX dX7_count_19 rfl rfl rfl ?_
      refine g_bipush hX dX7_count_20 bc_20 rfl ?_
      refine g_isubN hX dX7_count_22 (by omega) rfl ?_
      refine g_iald hX rfl (rfl) (by omega) rfl dX7_count_23 rfl ?_
      refine g_iret hX hR dX7_count_24 ?_
      exact ⟨rfl, rfl⟩
    · by_cases h12 : j < 12
      · rw [if_pos h12]
        have hj12 : j = 0 ∨ j = 1 ∨ j = 2 ∨ j = 3 ∨ j = 4 ∨ j = 5 ∨ j = 6 ∨ j = 7 ∨ j = 8 ∨ j = 9 ∨ j = 10 ∨ j = 11 := by omega
        rcases hj12 with rfl | rfl | rfl | rfl | rfl | rfl | rfl | rfl | rfl | rfl | rfl | rfl
        · skip
          refine g_iload_n (i := 1) hX dX7_count_0 rfl rfl rfl ?_
          refine g_bipush hX dX7_count_1 bc_20 rfl ?_
          first | refine g_icmp_ltN (tgt := 25) hX dX7_count_3 (by decide) rfl (by omega) (by omega) (fun zc3 => ?_) (fun zc3 => absurd zc3 (by omega)) | refine g_icmp_lt (tgt := 25) hX dX7_count_3 (by decide) rfl (fun zc3 => ?_) (fun zc3 => absurd zc3 (by omega))
          refine g_iload_n (i := 1) hX dX7_count_25 rfl rfl rfl ?_
          refine g_tableIn (n := 88) hX dX7_count_26 (by decide) (by decide) rfl (by decide) ?_
          refine g_aload_n (i := 0) hX dX7_count_88 rfl rfl rfl ?_
          refine g_getR hX fl_X7_10 rfl rfl dX7_count_89 rfl ?_
          refine g_getR hX fl_X7_30 rfl rfl dX7_count_92 rfl ?_
          refine g_getIv hX fl_X7_34 rfl rfl (hm) dX7_count_95 rfl ?_
          refine g_iret hX hR dX7_count_98 ?_
          exact ⟨rfl, rfl⟩
        · skip
          refine g_iload_n (i := 1) hX dX7_count_0 rfl rfl rfl ?_
          refine g_bipush hX dX7_count_1 bc_20 rfl ?_
          first | refine g_icmp_ltN (tgt := 25) hX dX7_count_3 (by decide) rfl (by omega) (by omega) (fun zc3 => ?_) (fun zc3 => absurd zc3 (by omega)) | refine g_icmp_lt (tgt := 25) hX dX7_count_3 (by decide) rfl (fun zc3 => ?_) (fun zc3 => absurd zc3 (by omega))
          refine g_iload_n (i := 1) hX dX7_count_25 rfl rfl rfl ?_
          refine g_tableIn (n := 99) hX dX7_count_26 (by decide) (by decide) rfl (by decide) ?_
          refine g_aload_n (i := 0) hX dX7_count_99 rfl rfl rfl ?_
          refine g_getR hX fl_X7_10 rfl rfl dX7_count_100 rfl ?_
          refine g_getR hX fl_X7_61 rfl rfl dX7_count_103 rfl ?_
          refine g_getIv hX fl_X7_70 rfl rfl (hc) dX7_count_106 rfl ?_
          refine g_iret hX hR dX7_count_109 ?_
          exact ⟨rfl, rfl⟩
        · skip
          refine g_iload_n (i := 1) hX dX7_count_0 rfl rfl rfl ?_
          refine g_bipush hX dX7_count_1 bc_20 rfl ?_
          first | refine g_icmp_ltN (tgt := 25) hX dX7_count_3 (by decide) rfl (by omega) (by omega) (fun zc3 => ?_) (fun zc3 => absurd zc3 (by omega)) | refine g_icmp_lt (tgt := 25) hX dX7_count_3 (by decide) rfl (fun zc3 => ?_) (fun zc3 => absurd zc3 (by omega))
          refine g_iload_n (i := 1) hX dX7_count_25 rfl rfl rfl ?_
          refine g_tableIn (n := 110) hX dX7_count_26 (by decide) (by decide) rfl (by decide) ?_
          refine g_aload_n (i := 0) hX dX7_count_110 rfl rfl rfl ?_
          refine g_getR hX fl_X7_10 rfl rfl dX7_count_111 rfl ?_
          refine g_getR hX fl_X7_61 rfl rfl dX7_count_114 rfl ?_
          refine g_getIv hX fl_X7_130 rfl rfl (he) dX7_count_117 rfl ?_
          refine g_iret hX hR dX7_count_120 ?_
          exact ⟨rfl, rfl⟩
        · skip
          refine g_iload_n (i := 1) hX dX7_count_0 rfl rfl rfl ?_
          refine g_bipush hX dX7_count_1 bc_20 rfl ?_
          first | refine g_icmp_ltN (tgt := 25) hX dX7_count_3 (by decide) rfl (by omega) (by omega) (fun zc3 => ?_) (fun zc3 => absurd zc3 (by omega)) | refine g_icmp_lt (tgt := 25) hX dX7_count_3 (by decide) rfl (fun zc3 => ?_) (fun zc3 => absurd zc3 (by omega))
          refine g_iload_n (i := 1) hX dX7_count_25 rfl rfl rfl ?_
          refine g_tableIn (n := 121) hX dX7_count_26 (by decide) (by decide) rfl (by decide) ?_
          refine g_aload_n (i := 0) hX dX7_count_121 rfl rfl rfl ?_
          refine g_getR hX fl_X7_10 rfl rfl dX7_count_122 rfl ?_
          refine g_getI hX fl_X7_133 rfl rfl dX7_count_125 rfl ?_
          refine g_iret hX hR dX7_count_128 ?_
          exact ⟨rfl, rfl⟩
        · skip
          refine g_iload_n (i := 1) hX dX7_count_0 rfl rfl rfl ?_
          refine g_bipush hX dX7_count_1 bc_20 rfl ?_
          first | refine g_icmp_ltN (tgt := 25) hX dX7_count_3 (by decide) rfl (by omega) (by omega) (fun zc3 => ?_) (fun zc3 => absurd zc3 (by omega)) | refine g_icmp_lt (tgt := 25) hX dX7_count_3 (by decide) rfl (fun zc3 => ?_) (fun zc3 => absurd zc3 (by omega))
          refine g_iload_n (i := 1) hX dX7_count_25 rfl rfl rfl ?_
          refine g_tableIn (n := 129) hX dX7_count_26 (by decide) (by decide) rfl (by decide) ?_
          refine g_aload_n (i := 0) hX dX7_count_129 rfl rfl rfl ?_
          refine g_getR hX fl_X7_10 rfl rfl dX7_count_130 rfl ?_
          refine g_getR hX fl_X7_52 rfl rfl dX7_count_133 rfl ?_
          refine g_getIv (x := gB op) hX fl_X7_136 rfl rfl (hop) dX7_count_136 rfl ?_
          first | refine g_if_eqB (tgt := 146) hX dX7_count_139 (by decide) rfl (fun zc139 => ?_) (fun zc139 => ?_) | refine g_if_eq (tgt := 146) hX dX7_count_139 (by decide) rfl (fun zc139 => ?_) (fun zc139 => ?_)
          · skip
            refine g_iconst hX dX7_count_146 ic_0 rfl ?_
            refine g_iret hX hR dX7_count_147 ?_
            first | exact ⟨gB_1 zc139, rfl⟩ | exact ⟨gB_n zc139, rfl⟩
          · skip
            refine g_iconst hX dX7_count_142 ic_1 rfl ?_
            refine g_goto (n := 147) hX dX7_count_143 (by decide) ?_
            refine g_iret hX hR dX7_count_147 ?_
            first | exact ⟨gB_1 zc139, rfl⟩ | exact ⟨gB_n zc139, rfl⟩
        · skip
          refine g_iload_n (i := 1) hX dX7_count_0 rfl rfl rfl ?_
          refine g_bipush hX dX7_count_1 bc_20 rfl ?_
          first | refine g_icmp_ltN (tgt := 25) hX dX7_count_3 (by decide) rfl (by omega) (by omega) (fun zc3 => ?_) (fun zc3 => absurd zc3 (by omega)) | refine g_icmp_lt (tgt := 25) hX dX7_count_3 (by decide) rfl (fun zc3 => ?_) (fun zc3 => absurd zc3 (by omega))
          refine g_iload_n (i := 1) hX dX7_count_25 rfl rfl rfl ?_
          refine g_tableIn (n := 148) hX dX7_count_26 (by decide) (by decide) rfl (by decide) ?_
          refine g_aload_n (i := 0) hX dX7_count_148 rfl rfl rfl ?_
          refine g_getR hX fl_X7_10 rfl rfl dX7_count_149 rfl ?_
          refine g_getR hX fl_X7_52 rfl rfl dX7_count_152 rfl ?_
          refine g_getI hX fl_X7_56 rfl rfl dX7_count_155 rfl ?_
          refine g_iret hX hR dX7_count_158 ?_
          exact ⟨rfl, rfl⟩
        · skip
          refine g_iload_n (i := 1) hX dX7_count_0 rfl rfl rfl ?_
          refine g_bipush hX dX7_count_1 bc_20 rfl ?_
          first | refine g_icmp_ltN (tgt := 25) hX dX7_count_3 (by decide) rfl (by omega) (by omega) (fun zc3 => ?_) (fun zc3 => absurd zc3 (by omega)) | refine g_icmp_lt (tgt := 25) hX dX7_count_3 (by decide) rfl (fun zc3 => ?_) (fun zc3 => absurd zc3 (by omega))
          refine g_iload_n (i := 1) hX dX7_count_25 rfl rfl rfl ?_
          refine g_tableIn (n := 159) hX dX7_count_26 (by decide) (by decide) rfl (by decide) ?_
          refine g_aload_n (i := 0) hX dX7_count_159 rfl rfl rfl ?_
          refine g_getR hX fl_X7_10 rfl rfl dX7_count_160 rfl ?_
          refine g_getR hX fl_X7_103 rfl rfl dX7_count_163 rfl ?_
          refine g_getIv hX fl_X7_140 rfl rfl (hk) dX7_count_166 rfl ?_
          refine g_iret hX hR dX7_count_169 ?_
          exact ⟨rfl, rfl⟩
        · skip
          refine g_iload_n (i := 1) hX dX7_count_0 rfl rfl rfl ?_
          refine g_bipush hX dX7_count_1 bc_20 rfl ?_
          first | refine g_icmp_ltN (tgt := 25) hX dX7_count_3 (by decide) rfl (by omega) (by omega) (fun zc3 => ?_) (fun zc3 => absurd zc3 (by omega)) | refine g_icmp_lt (tgt := 25) hX dX7_count_3 (by decide) rfl (fun zc3 => ?_) (fun zc3 => absurd zc3 (by omega))
          refine g_iload_n (i := 1) hX dX7_count_25 rfl rfl rfl ?_
          refine g_tableIn (n := 170) hX dX7_count_26 (by decide) (by decide) rfl (by decide) ?_
          refine g_aload_n (i := 0) hX dX7_count_170 rfl rfl rfl ?_
          refine g_getR hX fl_X7_10 rfl rfl dX7_count_171 rfl ?_
          refine g_getR hX fl_X7_103 rfl rfl dX7_count_174 rfl ?_
          refine g_callVi hX (c_X1_pending E M nk hk hkb) kf_X1_pending rfl wk_X7_141 rfl rfl rfl rfl rfl dX7_count_177 rfl (fun x177 M177 h177 => ?_)
          obtain ⟨rfl, hm⟩ := h177; have hm := hm.symm; subst hm
          refine g_iret hX hR dX7_count_180 ?_
          exact ⟨rfl, rfl⟩
        · skip
          refine g_iload_n (i := 1) hX dX7_count_0 rfl rfl rfl ?_
          refine g_bipush hX dX7_count_1 bc_20 rfl ?_
          first | refine g_icmp_ltN (tgt := 25) hX dX7_count_3 (by decide) rfl (by omega) (by omega) (fun zc3 => ?_) (fun zc3 => absurd zc3 (by omega)) | refine g_icmp_lt (tgt := 25) hX dX7_count_3 (by decide) rfl (fun zc3 => ?_) (fun zc3 => absurd zc3 (by omega))
          refine g_iload_n (i := 1) hX dX7_count_25 rfl rfl rfl ?_
          refine g_tableIn (n := 181) hX dX7_count_26 (by decide) (by decide) rfl (by decide) ?_
          refine g_aload_n (i := 0) hX dX7_count_181 rfl rfl rfl ?_
          refine g_getR hX fl_X7_10 rfl rfl dX7_count_182 rfl ?_
          refine g_callVi hX (c_X5_activeWeight E M nm hm hmb) kf_X5_activeWeight rfl wk_X7_145 rfl rfl rfl rfl rfl dX7_count_185 rfl (fun x185 M185 h185 => ?_)
          obtain ⟨rfl, hm⟩ := h185; have hm := hm.symm; subst hm
          refine g_iret hX hR dX7_count_188 ?_
          exact ⟨rfl, rfl⟩
        · skip
          refine g_iload_n (i := 1) hX dX7_count_0 rfl rfl rfl ?_
          refine g_bipush hX dX7_count_1 bc_20 rfl ?_
          first | refine g_icmp_ltN (tgt := 25) hX dX7_count_3 (by decide) rfl (by omega) (by omega) (fun zc3 => ?_) (fun zc3 => absurd zc3 (by omega)) | refine g_icmp_lt (tgt := 25) hX dX7_count_3 (by decide) rfl (fun zc3 => ?_) (fun zc3 => absurd zc3 (by omega))
          refine g_iload_n (i := 1) hX dX7_count_25 rfl rfl rfl ?_
          refine g_tableIn (n := 189) hX dX7_count_26 (by decide) (by decide) rfl (by decide) ?_
          refine g_aload_n (i := 0) hX dX7_count_189 rfl rfl rfl ?_
          refine g_getR hX fl_X7_19 rfl rfl dX7_count_190 rfl ?_
          refine g_getIv hX fl_X7_148 rfl rfl (hhs) dX7_count_193 rfl ?_
          refine g_iret hX hR dX7_count_196 ?_
          exact ⟨rfl, rfl⟩
        · skip
          refine g_iload_n (i := 1) hX dX7_count_0 rfl rfl rfl ?_
          refine g_bipush hX dX7_count_1 bc_20 rfl ?_
          first | refine g_icmp_ltN (tgt := 25) hX dX7_count_3 (by decide) rfl (by omega) (by omega) (fun zc3 => ?_) (fun zc3 => absurd zc3 (by omega)) | refine g_icmp_lt (tgt := 25) hX dX7_count_3 (by decide) rfl (fun zc3 => ?_) (fun zc3 => absurd zc3 (by omega))
          refine g_iload_n (i := 1) hX dX7_count_25 rfl rfl rfl ?_
          refine g_tableIn (n := 197) hX dX7_count_26 (by decide) (by decide) rfl (by decide) ?_
          refine g_aload_n (i := 0) hX dX7_count_197 rfl rfl rfl ?_
          refine g_getR hX fl_X7_26 rfl rfl dX7_count_198 rfl ?_
          refine g_getI hX fl_X7_149 rfl rfl dX7_count_201 rfl ?_
          refine g_iret hX hR dX7_count_204 ?_
          exact ⟨rfl, rfl⟩
        · skip
          refine g_iload_n (i := 1) hX dX7_count_0 rfl rfl rfl ?_
          refine g_bipush hX dX7_count_1 bc_20 rfl ?_
          first | refine g_icmp_ltN (tgt := 25) hX dX7_count_3 (by decide) rfl (by omega) (by omega) (fun zc3 => ?_) (fun zc3 => absurd zc3 (by omega)) | refine g_icmp_lt (tgt := 25) hX dX7_count_3 (by decide) rfl (fun zc3 => ?_) (fun zc3 => absurd zc3 (by omega))
          refine g_iload_n (i := 1) hX dX7_count_25 rfl rfl rfl ?_
          refine g_tableIn (n := 205) hX dX7_count_26 (by decide) (by decide) rfl (by decide) ?_
          refine g_aload_n (i := 0) hX dX7_count_205 rfl rfl rfl ?_
          refine g_getR hX fl_X7_10 rfl rfl dX7_count_206 rfl ?_
          refine g_getR hX fl_X7_52 rfl rfl dX7_count_209 rfl ?_
          refine g_getIv (x := gB op) hX fl_X7_136 rfl rfl (hop) dX7_count_212 rfl ?_
          first | refine g_if_eqB (tgt := 239) hX dX7_count_215 (by decide) rfl (fun zc215 => ?_) (fun zc215 => ?_) | refine g_if_eq (tgt := 239) hX dX7_count_215 (by decide) rfl (fun zc215 => ?_) (fun zc215 => ?_)
          · skip
            refine g_iconst hX dX7_count_239 ic_0 rfl ?_
            refine g_iret hX hR dX7_count_240 ?_
            subst zc215; exact ⟨rfl, rfl⟩
          · skip
            refine g_aload_n (i := 0) hX dX7_count_218 rfl rfl rfl ?_
            refine g_getR hX fl_X7_10 rfl rfl dX7_count_219 rfl ?_
            refine g_getR hX fl_X7_52 rfl rfl dX7_count_222 rfl ?_
            refine g_getI hX fl_X7_152 rfl rfl dX7_count_225 rfl ?_
            refine g_aload_n (i := 0) hX dX7_count_228 rfl rfl rfl ?_
            refine g_getR hX fl_X7_10 rfl rfl dX7_count_229 rfl ?_
            refine g_getI hX fl_X7_133 rfl rfl dX7_count_232 rfl ?_
            refine g_isub hX dX7_count_235 rfl ?_
            refine g_goto (n := 240) hX dX7_count_236 (by decide) ?_
            refine g_iret hX hR dX7_count_240 ?_
            subst zc215; exact ⟨rfl, rfl⟩
      · rw [if_neg h12, if_neg h20]
        refine g_iload_n (i := 1) hX dX7_count_0 rfl rfl rfl ?_
        refine g_bipush hX dX7_count_1 bc_20 rfl ?_
        first | refine g_icmp_ltN (tgt := 25) hX dX7_count_3 (by decide) rfl (by omega) (by omega) (fun zc3 => ?_) (fun zc3 => absurd zc3 (by omega)) | refine g_icmp_lt (tgt := 25) hX dX7_count_3 (by decide) rfl (fun zc3 => ?_) (fun zc3 => absurd zc3 (by omega))
        refine g_iload_n (i := 1) hX dX7_count_25 rfl rfl rfl ?_
        refine g_tableOut (n := 241) hX dX7_count_26 (Or.inr (by rw [nI_toInt (by omega)]; omega)) (by decide) ?_
        refine g_iconst hX dX7_count_241 ic_m1 rfl ?_
        refine g_iret hX hR dX7_count_242 ?_
        exact ⟨rfl, rfl⟩
end

