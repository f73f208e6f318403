/-! the reference: settings, what is told -/
theorem inI_R' {w : Int32} {n : Nat} (hn : n + 1 < 2 ^ 31) : inI w (nI 0) (nI n) = inR w (n + 1) := by
  have h1 := nI_toInt (n := n) (by omega)
  have h2 := nI_toInt (n := n + 1) (by omega)
  have h0 : (nI 0).toInt = 0 := by decide
  have h00 : (0 : Int32).toInt = 0 := by decide
  simp only [inI, inR, Int32.le_iff_toInt_le, Int32.lt_iff_toInt_lt, h1, h2, h0, h00]
  congr 1
  apply propext
  constructor <;> intro h <;> omega
theorem swOut2 {x : Int32} {lo n : Nat} (h : x < nI lo ∨ nI (n + 1) ≤ x) (hlo : lo < 2 ^ 31) (hn2 : n + 1 < 2 ^ 31) : x.toInt < (lo : Int) ∨ (n : Int) < x.toInt := by
  rcases h with h | h
  · left; have := Int32.lt_iff_toInt_lt.mp h; rw [nI_toInt hlo] at this; exact this
  · right
    have := Int32.le_iff_toInt_le.mp h
    rw [nI_toInt hn2] at this
    omega
/-- whether a setting may get a value -/
def isSet5 (w v : Int32) : Bool := match fndTo 5 (fun j => decide (nI j = w)) with
  | none => false
  | some j => setOK j v
theorem isSet5_nI {j : Nat} {v : Int32} (hj : j < 5) : isSet5 (nI j) v = setOK j v := by
  have : fndTo 5 (fun i => decide (nI i = nI j)) = some j := fndTo_eq hj (decide_eq_true rfl) (fun i hi => decide_eq_false (fun q => by have := (nI_eq (by omega) (by omega)).mp q; omega))
  simp only [isSet5, this]
theorem isSet5_no {w v : Int32} (h : ∀ j, j < 5 → ¬ w = nI j) : isSet5 w v = false := by
  have : fndTo 5 (fun i => decide (nI i = w)) = none := fndTo_eqn (fun i hi => decide_eq_false (fun q => h i hi q.symm))
  simp only [isSet5, this]
theorem c_X8_isSetting (E : gE) (M : gM) (w v : Int32) : gMet E k_X8_isSetting [.int w, .int v] M (gInt fun r M' => r = gB (isSet5 w v) ∧ M' = M) := by
  refine gMet.of (by decide +kernel) rfl (Nat.le_of_ble_eq_true rfl) (fun X hX hR => ?_)
  rcases pk_ix w (n := 5) (by decide) with h | h | ⟨j, hj, rfl⟩
  · have e : isSet5 w v = false := isSet5_no (fun j hj q => by subst q; exact nI_pos (by omega) h)
    rw [e]
    refine g_iload_n (i := 0) hX dX8_isSetting_0 rfl rfl rfl ?_
    refine g_tableOut (n := 56) hX dX8_isSetting_1 (swOut (n := 3) (by decide) (Or.inl h) (by decide)) (by decide) ?_
    refine g_iload_n (i := 0) hX dX8_isSetting_56 rfl rfl rfl ?_
    refine g_iconst hX dX8_isSetting_57 ic_4 rfl ?_
    refine g_icmp_ne (tgt := 74) hX dX8_isSetting_58 (by decide) rfl (fun zc58 => ?_) (fun zc58 => absurd zc58 (fun q => by subst q; exact absurd h (by decide)))
    refine g_iconst hX dX8_isSetting_74 ic_0 rfl ?_
    refine g_zret hX hR (by first | exact Or.inl rfl | exact Or.inr rfl | exact gB_01 _) dX8_isSetting_75 ?_
    exact ⟨rfl, rfl⟩
  · have e : isSet5 w v = false := isSet5_no (fun j hj q => by subst q; have := (nI_leI (by decide) (by omega)).mp h; omega)
    rw [e]
    refine g_iload_n (i := 0) hX dX8_isSetting_0 rfl rfl rfl ?_
    refine g_tableOut (n := 56) hX dX8_isSetting_1 (swOut (n := 3) (by decide) (Or.inr (Int32.le_trans (by decide : nI (3 + 1) ≤ nI 5) h)) (by decide)) (by decide) ?_
    refine g_iload_n (i := 0) hX dX8_isSetting_56 rfl rfl rfl ?_
    refine g_iconst hX dX8_isSetting_57 ic_4 rfl ?_
    refine g_icmp_ne (tgt := 74) hX dX8_isSetting_58 (by decide) rfl (fun zc58 => ?_) (fun zc58 => absurd zc58 (fun q => by subst q; exact absurd h (by decide)))
    refine g_iconst hX dX8_isSetting_74 ic_0 rfl ?_
    refine g_zret hX hR (by first | exact Or.inl rfl | exact Or.inr rfl | exact gB_01 _) dX8_isSetting_75 ?_
    exact ⟨rfl, rfl⟩
  · rw [isSet5_nI hj]
    have hq6 : j = 0 ∨ j = 1 ∨ j = 2 ∨ j = 3 ∨ j = 4 := by omega
    rcases hq6 with rfl | rfl | rfl | rfl | rfl
    · skip
      refine g_iload_n (i := 0) hX dX8_isSetting_0 rfl rfl rfl ?_
      refine g_tableIn (n := 32) hX dX8_isSetting_1 (by decide) (by decide) rfl (by decide) ?_
      refine g_iload_n (i := 1) hX dX8_isSetting_32 rfl rfl rfl ?_
      refine g_iconst hX dX8_isSetting_33 ic_1 rfl ?_
      refine g_bipush hX dX8_isSetting_34 bc_100 rfl ?_
      refine g_callSi hX (c_X8_in E M _ _ _) kf_X8_in rfl wk_X8_23 rfl rfl rfl rfl dX8_isSetting_36 rfl (fun x36 M36 h36 => ?_)
      obtain ⟨rfl, hMq⟩ := h36; have hMq := hMq.symm; subst hMq
      refine g_zret hX hR (by first | exact Or.inl rfl | exact Or.inr rfl | exact gB_01 _) dX8_isSetting_39 ?_
      exact ⟨rfl, rfl⟩
    · skip
      refine g_iload_n (i := 0) hX dX8_isSetting_0 rfl rfl rfl ?_
      refine g_tableIn (n := 32) hX dX8_isSetting_1 (by decide) (by decide) rfl (by decide) ?_
      refine g_iload_n (i := 1) hX dX8_isSetting_32 rfl rfl rfl ?_
      refine g_iconst hX dX8_isSetting_33 ic_1 rfl ?_
      refine g_bipush hX dX8_isSetting_34 bc_100 rfl ?_
      refine g_callSi hX (c_X8_in E M _ _ _) kf_X8_in rfl wk_X8_23 rfl rfl rfl rfl dX8_isSetting_36 rfl (fun x36 M36 h36 => ?_)
      obtain ⟨rfl, hMq⟩ := h36; have hMq := hMq.symm; subst hMq
      refine g_zret hX hR (by first | exact Or.inl rfl | exact Or.inr rfl | exact gB_01 _) dX8_isSetting_39 ?_
      exact ⟨rfl, rfl⟩
    · skip
      refine g_iload_n (i := 0) hX dX8_isSetting_0 rfl rfl rfl ?_
      refine g_tableIn (n := 40) hX dX8_isSetting_1 (by decide) (by decide) rfl (by decide) ?_
      refine g_iload_n (i := 1) hX dX8_isSetting_40 rfl rfl rfl ?_
      refine g_iconst hX dX8_isSetting_41 ic_1 rfl ?_
      refine g_bipush hX dX8_isSetting_42 bc_60 rfl ?_
      refine g_callSi hX (c_X8_in E M _ _ _) kf_X8_in rfl wk_X8_23 rfl rfl rfl rfl dX8_isSetting_44 rfl (fun x44 M44 h44 => ?_)
      obtain ⟨rfl, hMq⟩ := h44; have hMq := hMq.symm; subst hMq
      refine g_zret hX hR (by first | exact Or.inl rfl | exact Or.inr rfl | exact gB_01 _) dX8_isSetting_47 ?_
      exact ⟨rfl, rfl⟩
    · skip
      refine g_iload_n (i := 0) hX dX8_isSetting_0 rfl rfl rfl ?_
      refine g_tableIn (n := 48) hX dX8_isSetting_1 (by decide) (by decide) rfl (by decide) ?_
      refine g_iload_n (i := 1) hX dX8_isSetting_48 rfl rfl rfl ?_
      refine g_iconst hX dX8_isSetting_49 ic_0 rfl ?_
      refine g_bipush hX dX8_isSetting_50 bc_60 rfl ?_
      refine g_callSi hX (c_X8_in E M _ _ _) kf_X8_in rfl wk_X8_23 rfl rfl rfl rfl dX8_isSetting_52 rfl (fun x52 M52 h52 => ?_)
      obtain ⟨rfl, hMq⟩ := h52; have hMq := hMq.symm; subst hMq
      refine g_zret hX hR (by first | exact Or.inl rfl | exact Or.inr rfl | exact gB_01 _) dX8_isSetting_55 ?_
      exact ⟨rfl, rfl⟩
    · skip
      refine g_iload_n (i := 0) hX dX8_isSetting_0 rfl rfl rfl ?_
      refine g_tableOut (n := 56) hX dX8_isSetting_1 (Or.inr (by decide)) (by decide) ?_
      refine g_iload_n (i := 0) hX dX8_isSetting_56 rfl rfl rfl ?_
      refine g_iconst hX dX8_isSetting_57 ic_4 rfl ?_
      first | refine g_icmp_neN (tgt := 74) hX dX8_isSetting_58 (by decide) rfl (by omega) (by omega) (fun zc58 => absurd zc58 (by omega)) (fun zc58 => ?_) | refine g_icmp_ne (tgt := 74) hX dX8_isSetting_58 (by decide) rfl (fun zc58 => absurd zc58 (by omega)) (fun zc58 => ?_)
      refine g_iload_n (i := 1) hX dX8_isSetting_61 rfl rfl rfl ?_
      refine g_iconst hX dX8_isSetting_62 ic_1 rfl ?_
      refine g_iconst hX dX8_isSetting_63 ic_5 rfl ?_
      refine g_callSi hX (c_X8_in E M _ _ _) kf_X8_in rfl wk_X8_23 rfl rfl rfl rfl dX8_isSetting_64 rfl (fun x64 M64 h64 => ?_)
      obtain ⟨rfl, hMq⟩ := h64; have hMq := hMq.symm; subst hMq
      first | refine g_if_eqB (tgt := 74) hX dX8_isSetting_67 (by decide) rfl (fun zc67 => ?_) (fun zc67 => ?_) | refine g_if_eq (tgt := 74) hX dX8_isSetting_67 (by decide) rfl (fun zc67 => ?_) (fun zc67 => ?_)
      · skip
        refine g_iconst hX dX8_isSetting_74 ic_0 rfl ?_
        refine g_zret hX hR (by first | exact Or.inl rfl | exact Or.inr rfl | exact gB_01 _) dX8_isSetting_75 ?_
        first | exact ⟨gB_1 zc67, rfl⟩ | exact ⟨gB_n zc67, rfl⟩
      · skip
        refine g_iconst hX dX8_isSetting_70 ic_1 rfl ?_
        refine g_goto (n := 75) hX dX8_isSetting_71 (by decide) ?_
        refine g_zret hX hR (by first | exact Or.inl rfl | exact Or.inr rfl | exact gB_01 _) dX8_isSetting_75 ?_
        first | exact ⟨gB_1 zc67, rfl⟩ | exact ⟨gB_n zc67, rfl⟩
def y_set (M : gM) (sv : Nat) (w v : Int32) (r : Int32) (M' : gM) : Prop :=
  (∃ j, j < 5 ∧ w = nI j ∧ setOK j v = true ∧ r = vSe (M 131) j ∧ M' = gset (m_rec M sv) 131 (upd (M 131) (12 + j) v)) ∨ ((∀ j, j < 5 → w = nI j → setOK j v = false) ∧ r = -1 ∧ M' = M)
theorem c_X8_set (E : gE) (M : gM) (sv : Nat) (w v : Int32) (hs : M 130 2 = nI sv) (hb : sv ≤ 4) : gMet E k_X8_set [.ref 130, .int w, .int v] M (gInt fun r M' => y_set M sv w v r M') := by
  refine gMet.of (by decide +kernel) rfl (Nat.le_of_ble_eq_true rfl) (fun X hX hR => ?_)
  have K : m_rec M sv 131 = M 131 := rec_ne (by decide)
  cases hi : isSet5 w v with
  | false =>
    refine g_iload_n (i := 1) hX dX8_set_0 rfl rfl rfl ?_
    refine g_iload_n (i := 2) hX dX8_set_1 rfl rfl rfl ?_
    refine g_callSi hX (c_X8_isSetting E M w v) kf_X8_isSetting rfl wk_X8_44 rfl rfl rfl rfl dX8_set_2 rfl (fun x2 M2 h2 => ?_)
    obtain ⟨rfl, hMq⟩ := h2; have hMq := hMq.symm; subst hMq
    first | refine g_if_neB (tgt := 10) hX dX8_set_5 (by decide) rfl (fun zc5 => Bool.noConfusion (hi.symm.trans zc5)) (fun zc5 => ?_) | refine g_if_ne (tgt := 10) hX dX8_set_5 (by decide) rfl (fun zc5 => Bool.noConfusion (hi.symm.trans zc5)) (fun zc5 => ?_)
    refine g_iconst hX dX8_set_8 ic_m1 rfl ?_
    refine g_iret hX hR dX8_set_9 ?_
    refine Or.inr ⟨fun j hj e => ?_, rfl, rfl⟩; subst e; rw [isSet5_nI hj] at hi; exact hi
  | true =>
    have hw : ∃ j, j < 5 ∧ w = nI j := by
      rcases pk_ix w (n := 5) (by decide) with h | h | ⟨j, hj, rfl⟩
      · rw [isSet5_no (fun j hj q => by subst q; exact nI_pos (by omega) h)] at hi; cases hi
      · rw [isSet5_no (fun j hj q => by subst q; have := (nI_leI (by decide) (by omega)).mp h; omega)] at hi; cases hi
      · exact ⟨j, hj, rfl⟩
    obtain ⟨j, hj, rfl⟩ := hw
    rw [isSet5_nI hj] at hi
    refine g_iload_n (i := 1) hX dX8_set_0 rfl rfl rfl ?_
    refine g_iload_n (i := 2) hX dX8_set_1 rfl rfl rfl ?_
    refine g_callSi hX (c_X8_isSetting E M _ v) kf_X8_isSetting rfl wk_X8_44 rfl rfl rfl rfl dX8_set_2 rfl (fun x2 M2 h2 => ?_)
    obtain ⟨rfl, hMq⟩ := h2; have hMq := hMq.symm; subst hMq
    first | refine g_if_neB (tgt := 10) hX dX8_set_5 (by decide) rfl (fun zc5 => ?_) (fun zc5 => Bool.noConfusion (hi.symm.trans ((isSet5_nI hj).symm.trans zc5))) | refine g_if_ne (tgt := 10) hX dX8_set_5 (by decide) rfl (fun zc5 => ?_) (fun zc5 => Bool.noConfusion (hi.symm.trans ((isSet5_nI hj).symm.trans zc5)))
    refine g_aload_n (i := 0) hX dX8_set_10 rfl rfl rfl ?_
    refine g_callVv hX (c_X8_records E M sv hs hb) kf_X8_records rfl wk_X8_31 rfl rfl rfl rfl rfl dX8_set_11 rfl (fun M11 h11 => ?_)
    subst h11
    refine g_aload_n (i := 0) hX dX8_set_14 rfl rfl rfl ?_
    refine g_getR hX fl_X8_7 rfl rfl dX8_set_15 rfl ?_
    refine g_bipush hX dX8_set_18 bc_12 rfl ?_
    refine g_iload_n (i := 1) hX dX8_set_20 rfl rfl rfl ?_
    first | refine g_iaddN hX dX8_set_21 rfl ?_ | refine g_iadd hX dX8_set_21 rfl ?_
    refine g_ialdv (x := vSe (M 131) j) hX rfl (rfl) (by omega) rfl ((congrFun K (12 + j))) dX8_set_22 rfl ?_
    refine g_istore_n (i := 3) hX dX8_set_23 rfl (Nat.le_of_ble_eq_true rfl) rfl ?_
    refine g_aload_n (i := 0) hX dX8_set_24 rfl rfl rfl ?_
    refine g_getR hX fl_X8_7 rfl rfl dX8_set_25 rfl ?_
    refine g_bipush hX dX8_set_28 bc_12 rfl ?_
    refine g_iload_n (i := 1) hX dX8_set_30 rfl rfl rfl ?_
    first | refine g_iaddN hX dX8_set_31 rfl ?_ | refine g_iadd hX dX8_set_31 rfl ?_
    refine g_iload_n (i := 2) hX dX8_set_32 rfl rfl rfl ?_
    refine g_iast hX rfl (rfl) (by omega) rfl dX8_set_33 rfl ?_
    refine g_iload_n (i := 3) hX dX8_set_34 rfl rfl rfl ?_
    refine g_iret hX hR dX8_set_35 ?_
    exact Or.inl ⟨j, hj, rfl, hi, rfl, by rw [K]⟩
def memG (N : Nat → Int32) (nk j w : Nat) : Int32 := match w with
  | 0 => vW N j
  | 1 => vMi N j
  | 2 => gB (lapB (vMi N) (vSe N) j)
  | 3 => if vVo N j = 0 then -4 else vVo N j - 1
  | 4 => nI (cntTo nk (fun k => decide (vCm N k = nI j)))
  | _ => vVd N j
def y_member (N : Nat → Int32) (nm nk : Nat) (m w : Int32) : Int32 := if inR m nm = true ∧ inR w 6 = true then memG N nk m.toNatClampNeg w.toNatClampNeg else -1
theorem c_X8_member (E : gE) (M : gM) (nm nk : Nat) (m w : Int32) (hm : M 131 0 = nI nm) (hmb : nm ≤ 10) (hk : M 131 9 = nI nk) (hkb : nk ≤ 30) : gMet E k_X8_member [.ref 130, .int m, .int w] M (gInt fun r M' => r = y_member (M 131) nm nk m w ∧ M' = M) := by
  refine gMet.of (by decide +kernel) rfl (Nat.le_of_ble_eq_true rfl) (fun X hX hR => ?_)
  cases hin : inR m nm with
  | false =>
    have e : y_member (M 131) nm nk m w = -1 := by simp [y_member, hin]
    refine g_aload_n (i := 0) hX dX8_member_0 rfl rfl rfl ?_
    refine g_iload_n (i := 1) hX dX8_member_1 rfl rfl rfl ?_
    refine g_callVi hX (c_X8_isMember E M m nm hm hmb) kf_X8_isMember rfl wk_X8_51 rfl rfl rfl rfl rfl dX8_member_2 rfl (fun x2 M2 h2 => ?_)
    obtain ⟨rfl, hMq⟩ := h2; have hMq := hMq.symm; subst hMq
    first | refine g_if_eqB (tgt := 17) hX dX8_member_5 (by decide) rfl (fun zc5 => ?_) (fun zc5 => Bool.noConfusion (hin.symm.trans zc5)) | refine g_if_eq (tgt := 17) hX dX8_member_5 (by decide) rfl (fun zc5 => ?_) (fun zc5 => Bool.noConfusion (hin.symm.trans zc5))
    refine g_iconst hX dX8_member_17 ic_m1 rfl ?_
    refine g_iret hX hR dX8_member_18 ?_
    exact ⟨e.symm, rfl⟩
  | true =>
    obtain ⟨j, hj, rfl⟩ := inR_t (by omega) hin
    have hcl := cl_nI (show j < 2 ^ 31 by omega)
    have e5 : inI w (nI 0) (nI 5) = inR w 6 := inI_R' (by decide)
    cases hw : inR w 6 with
    | false =>
      have e : y_member (M 131) nm nk (nI j) w = -1 := by simp [y_member, hw]
      refine g_aload_n (i := 0) hX dX8_member_0 rfl rfl rfl ?_
      refine g_iload_n (i := 1) hX dX8_member_1 rfl rfl rfl ?_
      refine g_callVi hX (c_X8_isMember E M _ nm hm hmb) kf_X8_isMember rfl wk_X8_51 rfl rfl rfl rfl rfl dX8_member_2 rfl (fun x2 M2 h2 => ?_)
      obtain ⟨rfl, hMq⟩ := h2; have hMq := hMq.symm; subst hMq
      first | refine g_if_eqB (tgt := 17) hX dX8_member_5 (by decide) rfl (fun zc5 => Bool.noConfusion (hin.symm.trans zc5)) (fun zc5 => ?_) | refine g_if_eq (tgt := 17) hX dX8_member_5 (by decide) rfl (fun zc5 => Bool.noConfusion (hin.symm.trans zc5)) (fun zc5 => ?_)
      refine g_iload_n (i := 2) hX dX8_member_8 rfl rfl rfl ?_
      refine g_iconst hX dX8_member_9 ic_0 rfl ?_
      refine g_iconst hX dX8_member_10 ic_5 rfl ?_
      refine g_callSi hX (c_X8_in E M _ _ _) kf_X8_in rfl wk_X8_23 rfl rfl rfl rfl dX8_member_11 rfl (fun x11 M11 h11 => ?_)
      obtain ⟨rfl, hMq⟩ := h11; have hMq := hMq.symm; subst hMq
      first | refine g_if_neB (tgt := 19) hX dX8_member_14 (by decide) rfl (fun zc14 => Bool.noConfusion (hw.symm.trans (e5.symm.trans zc14))) (fun zc14 => ?_) | refine g_if_ne (tgt := 19) hX dX8_member_14 (by decide) rfl (fun zc14 => Bool.noConfusion (hw.symm.trans (e5.symm.trans zc14))) (fun zc14 => ?_)
      refine g_iconst hX dX8_member_17 ic_m1 rfl ?_
      refine g_iret hX hR dX8_member_18 ?_
      exact ⟨e.symm, rfl⟩
    | true =>
      obtain ⟨q, hq, rfl⟩ := inR_t (by decide) hw
      have e : y_member (M 131) nm nk (nI j) (nI q) = memG (M 131) nk j q := by rw [y_member, if_pos ⟨hin, hw⟩, hcl, cl_nI (by omega)]
      rw [e]
      have hq6 : q = 0 ∨ q = 1 ∨ q = 2 ∨ q = 3 ∨ q = 4 ∨ q = 5 := by omega
      rcases hq6 with rfl | rfl | rfl | rfl | rfl | rfl
      · skip
        refine g_aload_n (i := 0) hX dX8_member_0 rfl rfl rfl ?_
        refine g_iload_n (i := 1) hX dX8_member_1 rfl rfl rfl ?_
        refine g_callVi hX (c_X8_isMember E M _ nm hm hmb) kf_X8_isMember rfl wk_X8_51 rfl rfl rfl rfl rfl dX8_member_2 rfl (fun x2 M2 h2 => ?_)
        obtain ⟨rfl, hMq⟩ := h2; have hMq := hMq.symm; subst hMq
        first | refine g_if_eqB (tgt := 17) hX dX8_member_5 (by decide) rfl (fun zc5 => Bool.noConfusion (hin.symm.trans zc5)) (fun zc5 => ?_) | refine g_if_eq (tgt := 17) hX dX8_member_5 (by decide) rfl (fun zc5 => Bool.noConfusion (hin.symm.trans zc5)) (fun zc5 => ?_)
        refine g_iload_n (i := 2) hX dX8_member_8 rfl rfl rfl ?_
        refine g_iconst hX dX8_member_9 ic_0 rfl ?_
        refine g_iconst hX dX8_member_10 ic_5 rfl ?_
        refine g_callSi hX (c_X8_in E M _ _ _) kf_X8_in rfl wk_X8_23 rfl rfl rfl rfl dX8_member_11 rfl (fun x11 M11 h11 => ?_)
        obtain ⟨rfl, hMq⟩ := h11; have hMq := hMq.symm; subst hMq
        first | refine g_if_neB (tgt := 19) hX dX8_member_14 (by decide) rfl (fun zc14 => ?_) (fun zc14 => Bool.noConfusion (hw.symm.trans (e5.symm.trans zc14))) | refine g_if_ne (tgt := 19) hX dX8_member_14 (by decide) rfl (fun zc14 => ?_) (fun zc14 => Bool.noConfusion (hw.symm.trans (e5.symm.trans zc14)))
        refine g_iload_n (i := 1) hX dX8_member_19 rfl rfl rfl ?_
        refine g_callSi hX (c_X8_memberAt E M j) kf_X8_memberAt rfl wk_X8_27 rfl rfl rfl rfl dX8_member_20 rfl (fun x20 M20 h20 => ?_)
        obtain ⟨rfl, hMq⟩ := h20; have hMq := hMq.symm; subst hMq
        refine g_istore_n (i := 3) hX dX8_member_23 rfl (Nat.le_of_ble_eq_true rfl) rfl ?_
        refine g_iload_n (i := 2) hX dX8_member_24 rfl rfl rfl ?_
        refine g_tableOut (n := 112) hX dX8_member_25 (Or.inl (by decide)) (by decide) ?_
        refine g_aload_n (i := 0) hX dX8_member_112 rfl rfl rfl ?_
        refine g_getR hX fl_X8_7 rfl rfl dX8_member_113 rfl ?_
        refine g_iload_n (i := 3) hX dX8_member_116 rfl rfl rfl ?_
        refine g_iload_n (i := 2) hX dX8_member_117 rfl rfl rfl ?_
        first | refine g_iaddN hX dX8_member_118 rfl ?_ | refine g_iadd hX dX8_member_118 rfl ?_
        refine g_iald hX rfl (rfl) (by omega) rfl dX8_member_119 rfl ?_
        refine g_iret hX hR dX8_member_120 ?_
        exact ⟨rfl, rfl⟩
      · skip
        refine g_aload_n (i := 0) hX dX8_member_0 rfl rfl rfl ?_
        refine g_iload_n (i := 1) hX dX8_member_1 rfl rfl rfl ?_
        refine g_callVi hX (c_X8_isMember E M _ nm hm hmb) kf_X8_isMember rfl wk_X8_51 rfl rfl rfl rfl rfl dX8_member_2 rfl (fun x2 M2 h2 => ?_)
        obtain ⟨rfl, hMq⟩ := h2; have hMq := hMq.symm; subst hMq
        first | refine g_if_eqB (tgt := 17) hX dX8_member_5 (by decide) rfl (fun zc5 => Bool.noConfusion (hin.symm.trans zc5)) (fun zc5 => ?_) | refine g_if_eq (tgt := 17) hX dX8_member_5 (by decide) rfl (fun zc5 => Bool.noConfusion (hin.symm.trans zc5)) (fun zc5 => ?_)
        refine g_iload_n (i := 2) hX dX8_member_8 rfl rfl rfl ?_
        refine g_iconst hX dX8_member_9 ic_0 rfl ?_
        refine g_iconst hX dX8_member_10 ic_5 rfl ?_
        refine g_callSi hX (c_X8_in E M _ _ _) kf_X8_in rfl wk_X8_23 rfl rfl rfl rfl dX8_member_11 rfl (fun x11 M11 h11 => ?_)
        obtain ⟨rfl, hMq⟩ := h11; have hMq := hMq.symm; subst hMq
        first | refine g_if_neB (tgt := 19) hX dX8_member_14 (by decide) rfl (fun zc14 => ?_) (fun zc14 => Bool.noConfusion (hw.symm.trans (e5.symm.trans zc14))) | refine g_if_ne (tgt := 19) hX dX8_member_14 (by decide) rfl (fun zc14 => ?_) (fun zc14 => Bool.noConfusion (hw.symm.trans (e5.symm.trans zc14)))
        refine g_iload_n (i := 1) hX dX8_member_19 rfl rfl rfl ?_
        refine g_callSi hX (c_X8_memberAt E M j) kf_X8_memberAt rfl wk_X8_27 rfl rfl rfl rfl dX8_member_20 rfl (fun x20 M20 h20 => ?_)
        obtain ⟨rfl, hMq⟩ := h20; have hMq := hMq.symm; subst hMq
        refine g_istore_n (i := 3) hX dX8_member_23 rfl (Nat.le_of_ble_eq_true rfl) rfl ?_
        refine g_iload_n (i := 2) hX dX8_member_24 rfl rfl rfl ?_
        refine g_tableOut (n := 112) hX dX8_member_25 (Or.inl (by decide)) (by decide) ?_
        refine g_aload_n (i := 0) hX dX8_member_112 rfl rfl rfl ?_
        refine g_getR hX fl_X8_7 rfl rfl dX8_member_113 rfl ?_
        refine g_iload_n (i := 3) hX dX8_member_116 rfl rfl rfl ?_
        refine g_iload_n (i := 2) hX dX8_member_117 rfl rfl rfl ?_
        first | refine g_iaddN hX dX8_member_118 rfl ?_ | refine g_iadd hX dX8_member_118 rfl ?_
        refine g_iald hX rfl (rfl) (by omega) rfl dX8_member_119 rfl ?_
        refine g_iret hX hR dX8_member_120 ?_
        exact ⟨rfl, rfl⟩
      · skip
        refine g_aload_n (i := 0) hX dX8_member_0 rfl rfl rfl ?_
        refine g_iload_n (i := 1) hX dX8_member_1 rfl rfl rfl ?_
        refine g_callVi hX (c_X8_isMember E M _ nm hm hmb) kf_X8_isMember rfl wk_X8_51 rfl rfl rfl rfl rfl dX8_member_2 rfl (fun x2 M2 h2 => ?_)
        obtain ⟨rfl, hMq⟩ := h2; have hMq := hMq.symm; subst hMq
        first | refine g_if_eqB (tgt := 17) hX dX8_member_5 (by decide) rfl (fun zc5 => Bool.noConfusion (hin.symm.trans zc5)) (fun zc5 => ?_) | refine g_if_eq (tgt := 17) hX dX8_member_5 (by decide) rfl (fun zc5 => Bool.noConfusion (hin.symm.trans zc5)) (fun zc5 => ?_)
        refine g_iload_n (i := 2) hX dX8_member_8 rfl rfl rfl ?_
        refine g_iconst hX dX8_member_9 ic_0 rfl ?_
        refine g_iconst hX dX8_member_10 ic_5 rfl ?_
        refine g_callSi hX (c_X8_in E M _ _ _) kf_X8_in rfl wk_X8_23 rfl rfl rfl rfl dX8_member_11 rfl (fun x11 M11 h11 => ?_)
        obtain ⟨rfl, hMq⟩ := h11; have hMq := hMq.symm; subst hMq
        first | refine g_if_neB (tgt := 19) hX dX8_member_14 (by decide) rfl (fun zc14 => ?_) (fun zc14 => Bool.noConfusion (hw.symm.trans (e5.symm.trans zc14))) | refine g_if_ne (tgt := 19) hX dX8_member_14 (by decide) rfl (fun zc14 => ?_) (fun zc14 => Bool.noConfusion (hw.symm.trans (e5.symm.trans zc14)))
        refine g_iload_n (i := 1) hX dX8_member_19 rfl rfl rfl ?_
        refine g_callSi hX (c_X8_memberAt E M j) kf_X8_memberAt rfl wk_X8_27 rfl rfl rfl rfl dX8_member_20 rfl (fun x20 M20 h20 => ?_)
        obtain ⟨rfl, hMq⟩ := h20; have hMq := hMq.symm; subst hMq
        refine g_istore_n (i := 3) hX dX8_member_23 rfl (Nat.le_of_ble_eq_true rfl) rfl ?_
        refine g_iload_n (i := 2) hX dX8_member_24 rfl rfl rfl ?_
        refine g_tableIn (n := 56) hX dX8_member_25 (by decide) (by decide) rfl (by decide) ?_
        refine g_aload_n (i := 0) hX dX8_member_56 rfl rfl rfl ?_
        refine g_iload_n (i := 1) hX dX8_member_57 rfl rfl rfl ?_
        refine g_callVi hX (c_X8_isLapsed E M j (by omega)) kf_X8_isLapsed rfl wk_X8_54 rfl rfl rfl rfl rfl dX8_member_58 rfl (fun x58 M58 h58 => ?_)
        obtain ⟨rfl, hMq⟩ := h58; have hMq := hMq.symm; subst hMq
        first | refine g_if_eqB (tgt := 68) hX dX8_member_61 (by decide) rfl (fun zc61 => ?_) (fun zc61 => ?_) | refine g_if_eq (tgt := 68) hX dX8_member_61 (by decide) rfl (fun zc61 => ?_) (fun zc61 => ?_)
        · skip
          refine g_iconst hX dX8_member_68 ic_0 rfl ?_
          refine g_iret hX hR dX8_member_69 ?_
          first | exact ⟨gB_1 zc61, rfl⟩ | exact ⟨gB_n zc61, rfl⟩
        · skip
          refine g_iconst hX dX8_member_64 ic_1 rfl ?_
          refine g_goto (n := 69) hX dX8_member_65 (by decide) ?_
          refine g_iret hX hR dX8_member_69 ?_
          first | exact ⟨gB_1 zc61, rfl⟩ | exact ⟨gB_n zc61, rfl⟩
      · skip
        refine g_aload_n (i := 0) hX dX8_member_0 rfl rfl rfl ?_
        refine g_iload_n (i := 1) hX dX8_member_1 rfl rfl rfl ?_
        refine g_callVi hX (c_X8_isMember E M _ nm hm hmb) kf_X8_isMember rfl wk_X8_51 rfl rfl rfl rfl rfl dX8_member_2 rfl (fun x2 M2 h2 => ?_)
        obtain ⟨rfl, hMq⟩ := h2; have hMq := hMq.symm; subst hMq
        first | refine g_if_eqB (tgt := 17) hX dX8_member_5 (by decide) rfl (fun zc5 => Bool.noConfusion (hin.symm.trans zc5)) (fun zc5 => ?_) | refine g_if_eq (tgt := 17) hX dX8_member_5 (by decide) rfl (fun zc5 => Bool.noConfusion (hin.symm.trans zc5)) (fun zc5 => ?_)
        refine g_iload_n (i := 2) hX dX8_member_8 rfl rfl rfl ?_
        refine g_iconst hX dX8_member_9 ic_0 rfl ?_
        refine g_iconst hX dX8_member_10 ic_5 rfl ?_
        refine g_callSi hX (c_X8_in E M _ _ _) kf_X8_in rfl wk_X8_23 rfl rfl rfl rfl dX8_member_11 rfl (fun x11 M11 h11 => ?_)
        obtain ⟨rfl, hMq⟩ := h11; have hMq := hMq.symm; subst hMq
        first | refine g_if_neB (tgt := 19) hX dX8_member_14 (by decide) rfl (fun zc14 => ?_) (fun zc14 => Bool.noConfusion (hw.symm.trans (e5.symm.trans zc14))) | refine g_if_ne (tgt := 19) hX dX8_member_14 (by decide) rfl (fun zc14 => ?_) (fun zc14 => Bool.noConfusion (hw.symm.trans (e5.symm.trans zc14)))
        refine g_iload_n (i := 1) hX dX8_member_19 rfl rfl rfl ?_
        refine g_callSi hX (c_X8_memberAt E M j) kf_X8_memberAt rfl wk_X8_27 rfl rfl rfl rfl dX8_member_20 rfl (fun x20 M20 h20 => ?_)
        obtain ⟨rfl, hMq⟩ := h20; have hMq := hMq.symm; subst hMq
        refine g_istore_n (i := 3) hX dX8_member_23 rfl (Nat.le_of_ble_eq_true rfl) rfl ?_
        refine g_iload_n (i := 2) hX dX8_member_24 rfl rfl rfl ?_
        refine g_tableIn (n := 70) hX dX8_member_25 (by decide) (by decide) rfl (by decide) ?_
        refine g_aload_n (i := 0) hX dX8_member_70 rfl rfl rfl ?_
        refine g_getR hX fl_X8_7 rfl rfl dX8_member_71 rfl ?_
        refine g_iload_n (i := 3) hX dX8_member_74 rfl rfl rfl ?_
        refine g_iconst hX dX8_member_75 ic_2 rfl ?_
        first | refine g_iaddN hX dX8_member_76 rfl ?_ | refine g_iadd hX dX8_member_76 rfl ?_
        refine g_iald hX rfl (rfl) (by omega) rfl dX8_member_77 rfl ?_
        refine g_if_ne (tgt := 86) hX dX8_member_78 (by decide) rfl (fun zc78 => ?_) (fun zc78 => ?_)
        · skip
          have zd : ¬ vVo (M 131) j = 0 := zc78
          refine g_aload_n (i := 0) hX dX8_member_86 rfl rfl rfl ?_
          refine g_getR hX fl_X8_7 rfl rfl dX8_member_87 rfl ?_
          refine g_iload_n (i := 3) hX dX8_member_90 rfl rfl rfl ?_
          refine g_iconst hX dX8_member_91 ic_2 rfl ?_
          first | refine g_iaddN hX dX8_member_92 rfl ?_ | refine g_iadd hX dX8_member_92 rfl ?_
          refine g_iald hX rfl (rfl) (by omega) rfl dX8_member_93 rfl ?_
          refine g_iconst hX dX8_member_94 ic_1 rfl ?_
          refine g_isub hX dX8_member_95 rfl ?_
          refine g_iret hX hR dX8_member_96 ?_
          first | (rw [memG, if_neg zd]; exact ⟨rfl, rfl⟩) | (rw [memG, if_pos zd]; exact ⟨rfl, rfl⟩)
        · skip
          have zd : vVo (M 131) j = 0 := zc78
          refine g_bipush hX dX8_member_81 bc_m4 rfl ?_
          refine g_goto (n := 96) hX dX8_member_83 (by decide) ?_
          refine g_iret hX hR dX8_member_96 ?_
          first | (rw [memG, if_neg zd]; exact ⟨rfl, rfl⟩) | (rw [memG, if_pos zd]; exact ⟨rfl, rfl⟩)
      · skip
        refine g_aload_n (i := 0) hX dX8_member_0 rfl rfl rfl ?_
        refine g_iload_n (i := 1) hX dX8_member_1 rfl rfl rfl ?_
        refine g_callVi hX (c_X8_isMember E M _ nm hm hmb) kf_X8_isMember rfl wk_X8_51 rfl rfl rfl rfl rfl dX8_member_2 rfl (fun x2 M2 h2 => ?_)
        obtain ⟨rfl, hMq⟩ := h2; have hMq := hMq.symm; subst hMq
        first | refine g_if_eqB (tgt := 17) hX dX8_member_5 (by decide) rfl (fun zc5 => Bool.noConfusion (hin.symm.trans zc5)) (fun zc5 => ?_) | refine g_if_eq (tgt := 17) hX dX8_member_5 (by decide) rfl (fun zc5 => Bool.noConfusion (hin.symm.trans zc5)) (fun zc5 => ?_)
        refine g_iload_n (i := 2) hX dX8_member_8 rfl rfl rfl ?_
        refine g_iconst hX dX8_member_9 ic_0 rfl ?_
        refine g_iconst hX dX8_member_10 ic_5 rfl ?_
        refine g_callSi hX (c_X8_in E M _ _ _) kf_X8_in rfl wk_X8_23 rfl rfl rfl rfl dX8_member_11 rfl (fun x11 M11 h11 => ?_)
        obtain ⟨rfl, hMq⟩ := h11; have hMq := hMq.symm; subst hMq
        first | refine g_if_neB (tgt := 19) hX dX8_member_14 (by decide) rfl (fun zc14 => ?_) (fun zc14 => Bool.noConfusion (hw.symm.trans (e5.symm.trans zc14))) | refine g_if_ne (tgt := 19) hX dX8_member_14 (by decide) rfl (fun zc14 => ?_) (fun zc14 => Bool.noConfusion (hw.symm.trans (e5.symm.trans zc14)))
        refine g_iload_n (i := 1) hX dX8_member_19 rfl rfl rfl ?_
        refine g_callSi hX (c_X8_memberAt E M j) kf_X8_memberAt rfl wk_X8_27 rfl rfl rfl rfl dX8_member_20 rfl (fun x20 M20 h20 => ?_)
        obtain ⟨rfl, hMq⟩ := h20; have hMq := hMq.symm; subst hMq
        refine g_istore_n (i := 3) hX dX8_member_23 rfl (Nat.le_of_ble_eq_true rfl) rfl ?_
        refine g_iload_n (i := 2) hX dX8_member_24 rfl rfl rfl ?_
        refine g_tableIn (n := 97) hX dX8_member_25 (by decide) (by decide) rfl (by decide) ?_
        refine g_aload_n (i := 0) hX dX8_member_97 rfl rfl rfl ?_
        refine g_iload_n (i := 1) hX dX8_member_98 rfl rfl rfl ?_
        refine g_callVi hX (c_X8_commentsOf E M nk _ hk hkb) kf_X8_commentsOf rfl wk_X8_57 rfl rfl rfl rfl rfl dX8_member_99 rfl (fun x99 M99 h99 => ?_)
        obtain ⟨rfl, hMq⟩ := h99; have hMq := hMq.symm; subst hMq
        refine g_iret hX hR dX8_member_102 ?_
        exact ⟨rfl, rfl⟩
      · skip
        refine g_aload_n (i := 0) hX dX8_member_0 rfl rfl rfl ?_
        refine g_iload_n (i := 1) hX dX8_member_1 rfl rfl rfl ?_
        refine g_callVi hX (c_X8_isMember E M _ nm hm hmb) kf_X8_isMember rfl wk_X8_51 rfl rfl rfl rfl rfl dX8_member_2 rfl (fun x2 M2 h2 => ?_)
        obtain ⟨rfl, hMq⟩ := h2; have hMq := hMq.symm; subst hMq
        first | refine g_if_eqB (tgt := 17) hX dX8_member_5 (by decide) rfl (fun zc5 => Bool.noConfusion (hin.symm.trans zc5)) (fun zc5 => ?_) | refine g_if_eq (tgt := 17) hX dX8_member_5 (by decide) rfl (fun zc5 => Bool.noConfusion (hin.symm.trans zc5)) (fun zc5 => ?_)
        refine g_iload_n (i := 2) hX dX8_member_8 rfl rfl rfl ?_
        refine g_iconst hX dX8_member_9 ic_0 rfl ?_
        refine g_iconst hX dX8_member_10 ic_5 rfl ?_
        refine g_callSi hX (c_X8_in E M _ _ _) kf_X8_in rfl wk_X8_23 rfl rfl rfl rfl dX8_member_11 rfl (fun x11 M11 h11 => ?_)
        obtain ⟨rfl, hMq⟩ := h11; have hMq := hMq.symm; subst hMq
        first | refine g_if_neB (tgt := 19) hX dX8_member_14 (by decide) rfl (fun zc14 => ?_) (fun zc14 => Bool.noConfusion (hw.symm.trans (e5.symm.trans zc14))) | refine g_if_ne (tgt := 19) hX dX8_member_14 (by decide) rfl (fun zc14 => ?_) (fun zc14 => Bool.noConfusion (hw.symm.trans (e5.symm.trans zc14)))
        refine g_iload_n (i := 1) hX dX8_member_19 rfl rfl rfl ?_
        refine g_callSi hX (c_X8_memberAt E M j) kf_X8_memberAt rfl wk_X8_27 rfl rfl rfl rfl dX8_member_20 rfl (fun x20 M20 h20 => ?_)
        obtain ⟨rfl, hMq⟩ := h20; have hMq := hMq.symm; subst hMq
        refine g_istore_n (i := 3) hX dX8_member_23 rfl (Nat.le_of_ble_eq_true rfl) rfl ?_
        refine g_iload_n (i := 2) hX dX8_member_24 rfl rfl rfl ?_
        refine g_tableIn (n := 103) hX dX8_member_25 (by decide) (by decide) rfl (by decide) ?_
        refine g_aload_n (i := 0) hX dX8_member_103 rfl rfl rfl ?_
        refine g_getR hX fl_X8_7 rfl rfl dX8_member_104 rfl ?_
        refine g_iload_n (i := 3) hX dX8_member_107 rfl rfl rfl ?_
        refine g_iconst hX dX8_member_108 ic_3 rfl ?_
        first | refine g_iaddN hX dX8_member_109 rfl ?_ | refine g_iadd hX dX8_member_109 rfl ?_
        refine g_iald hX rfl (rfl) (by omega) rfl dX8_member_110 rfl ?_
        refine g_iret hX hR dX8_member_111 ?_
        exact ⟨rfl, rfl⟩
def y_value (N : Nat → Int32) (nc : Nat) (c : Int32) : Int32 := match fndTo nc (fun k => decide (vNb N k = c)) with
  | none => -1
  | some p => vPr N p
theorem c_X8_value (E : gE) (M : gM) (nc : Nat) (c : Int32) (hc : M 131 1 = nI nc) (hcb : nc ≤ 20) : gMet E k_X8_value [.ref 130, .int c] M (gInt fun r M' => r = y_value (M 131) nc c ∧ M' = M) := by
  refine gMet.of (by decide +kernel) rfl (Nat.le_of_ble_eq_true rfl) (fun X hX hR => ?_)
  simp only [y_value]
  cases hf : fndTo nc (fun k => decide (vNb (M 131) k = c)) with
  | none =>
    refine g_aload_n (i := 0) hX dX8_value_0 rfl rfl rfl ?_
    refine g_iload_n (i := 1) hX dX8_value_1 rfl rfl rfl ?_
    refine g_callVi hX (c_X8_indexOf E M nc c hc hcb) kf_X8_indexOf rfl wk_X8_41 rfl rfl rfl rfl rfl dX8_value_2 rfl (fun x2 M2 h2 => ?_)
    obtain ⟨hx, hm0⟩ := h2; have hm0 := hm0.symm; subst hm0; rw [hf] at hx; subst hx
    refine g_istore_n (i := 2) hX dX8_value_5 rfl (Nat.le_of_ble_eq_true rfl) rfl ?_
    refine g_iload_n (i := 2) hX dX8_value_6 rfl rfl rfl ?_
    refine g_if_ge (tgt := 14) hX dX8_value_7 (by decide) rfl (fun zc7 => absurd zc7 (by decide)) (fun zc7 => ?_)
    refine g_iconst hX dX8_value_10 ic_m1 rfl ?_
    refine g_goto (n := 25) hX dX8_value_11 (by decide) ?_
    refine g_iret hX hR dX8_value_25 ?_
    exact ⟨rfl, rfl⟩
  | some p =>
    have hp := (fndTo_some hf).1
    refine g_aload_n (i := 0) hX dX8_value_0 rfl rfl rfl ?_
    refine g_iload_n (i := 1) hX dX8_value_1 rfl rfl rfl ?_
    refine g_callVi hX (c_X8_indexOf E M nc c hc hcb) kf_X8_indexOf rfl wk_X8_41 rfl rfl rfl rfl rfl dX8_value_2 rfl (fun x2 M2 h2 => ?_)
    obtain ⟨hx, hm0⟩ := h2; have hm0 := hm0.symm; subst hm0; rw [hf] at hx; subst hx
    refine g_istore_n (i := 2) hX dX8_value_5 rfl (Nat.le_of_ble_eq_true rfl) rfl ?_
    refine g_iload_n (i := 2) hX dX8_value_6 rfl rfl rfl ?_
    refine g_if_ge (tgt := 14) hX dX8_value_7 (by decide) rfl (fun zc7 => ?_) (fun zc7 => absurd (nI_pos' (by omega)) zc7)
    refine g_aload_n (i := 0) hX dX8_value_14 rfl rfl rfl ?_
    refine g_getR hX fl_X8_7 rfl rfl dX8_value_15 rfl ?_
    refine g_iload_n (i := 2) hX dX8_value_18 rfl rfl rfl ?_
    refine g_callSi hX (c_X8_clauseAt E M p) kf_X8_clauseAt rfl wk_X8_34 rfl rfl rfl rfl dX8_value_19 rfl (fun x19 M19 h19 => ?_)
    obtain ⟨rfl, hMq⟩ := h19; have hMq := hMq.symm; subst hMq
    refine g_iconst hX dX8_value_22 ic_1 rfl ?_
    first | refine g_iaddN hX dX8_value_23 rfl ?_ | refine g_iadd hX dX8_value_23 rfl ?_
    refine g_iald hX rfl (rfl) (by omega) rfl dX8_value_24 rfl ?_
    refine g_iret hX hR dX8_value_25 ?_
    exact ⟨rfl, rfl⟩
def y_valueIn (N : Nat → Int32) (nc ne : Nat) (c e : Int32) : Int32 := match fndTo nc (fun k => decide (vNb N k = c)) with
  | none => -1
  | some p => if inI e (nI 1) (nI ne) = true then N (73 + 45 * p + 3 + e.toNatClampNeg) else -1
theorem c_X8_valueIn (E : gE) (M : gM) (nc ne : Nat) (c e : Int32) (hc : M 131 1 = nI nc) (hcb : nc ≤ 20) (he : M 131 2 = nI ne) (heb : ne ≤ 12) : gMet E k_X8_valueIn [.ref 130, .int c, .int e] M (gInt fun r M' => r = y_valueIn (M 131) nc ne c e ∧ M' = M) := by
  refine gMet.of (by decide +kernel) rfl (Nat.le_of_ble_eq_true rfl) (fun X hX hR => ?_)
  simp only [y_valueIn]
  cases hf : fndTo nc (fun k => decide (vNb (M 131) k = c)) with
  | none =>
    refine g_aload_n (i := 0) hX dX8_valueIn_0 rfl rfl rfl ?_
    refine g_iload_n (i := 1) hX dX8_valueIn_1 rfl rfl rfl ?_
    refine g_callVi hX (c_X8_indexOf E M nc c hc hcb) kf_X8_indexOf rfl wk_X8_41 rfl rfl rfl rfl rfl dX8_valueIn_2 rfl (fun x2 M2 h2 => ?_)
    obtain ⟨hx, hm0⟩ := h2; have hm0 := hm0.symm; subst hm0; rw [hf] at hx; subst hx
    refine g_istore_n (i := 3) hX dX8_valueIn_5 rfl (Nat.le_of_ble_eq_true rfl) rfl ?_
    refine g_iload_n (i := 3) hX dX8_valueIn_6 rfl rfl rfl ?_
    refine g_if_lt (tgt := 18) hX dX8_valueIn_7 (by decide) rfl (fun zc7 => ?_) (fun zc7 => absurd (by decide) zc7)
    refine g_iconst hX dX8_valueIn_18 ic_m1 rfl ?_
    refine g_goto (n := 35) hX dX8_valueIn_19 (by decide) ?_
    refine g_iret hX hR dX8_valueIn_35 ?_
    exact ⟨rfl, rfl⟩
  | some p =>
    have hp := (fndTo_some hf).1
    cases hin : inI e (nI 1) (nI ne) with
    | false =>
      refine g_aload_n (i := 0) hX dX8_valueIn_0 rfl rfl rfl ?_
      refine g_iload_n (i := 1) hX dX8_valueIn_1 rfl rfl rfl ?_
      refine g_callVi hX (c_X8_indexOf E M nc c hc hcb) kf_X8_indexOf rfl wk_X8_41 rfl rfl rfl rfl rfl dX8_valueIn_2 rfl (fun x2 M2 h2 => ?_)
      obtain ⟨hx, hm0⟩ := h2; have hm0 := hm0.symm; subst hm0; rw [hf] at hx; subst hx
      refine g_istore_n (i := 3) hX dX8_valueIn_5 rfl (Nat.le_of_ble_eq_true rfl) rfl ?_
      refine g_iload_n (i := 3) hX dX8_valueIn_6 rfl rfl rfl ?_
      refine g_if_lt (tgt := 18) hX dX8_valueIn_7 (by decide) rfl (fun zc7 => absurd zc7 (nI_pos (by omega))) (fun zc7 => ?_)
      refine g_aload_n (i := 0) hX dX8_valueIn_10 rfl rfl rfl ?_
      refine g_iload_n (i := 2) hX dX8_valueIn_11 rfl rfl rfl ?_
      refine g_callVi hX (c_X8_isEdition E M e ne he) kf_X8_isEdition rfl wk_X8_60 rfl rfl rfl rfl rfl dX8_valueIn_12 rfl (fun x12 M12 h12 => ?_)
      obtain ⟨rfl, hMq⟩ := h12; have hMq := hMq.symm; subst hMq
      first | refine g_if_neB (tgt := 22) hX dX8_valueIn_15 (by decide) rfl (fun zc15 => Bool.noConfusion (hin.symm.trans zc15)) (fun zc15 => ?_) | refine g_if_ne (tgt := 22) hX dX8_valueIn_15 (by decide) rfl (fun zc15 => Bool.noConfusion (hin.symm.trans zc15)) (fun zc15 => ?_)
      refine g_iconst hX dX8_valueIn_18 ic_m1 rfl ?_
      refine g_goto (n := 35) hX dX8_valueIn_19 (by decide) ?_
      refine g_iret hX hR dX8_valueIn_35 ?_
      exact ⟨by simp, rfl⟩
    | true =>
      obtain ⟨j, hj1, hj2, rfl⟩ := inI_t (by decide) (by omega) hin
      refine g_aload_n (i := 0) hX dX8_valueIn_0 rfl rfl rfl ?_
      refine g_iload_n (i := 1) hX dX8_valueIn_1 rfl rfl rfl ?_
      refine g_callVi hX (c_X8_indexOf E M nc c hc hcb) kf_X8_indexOf rfl wk_X8_41 rfl rfl rfl rfl rfl dX8_valueIn_2 rfl (fun x2 M2 h2 => ?_)
      obtain ⟨hx, hm0⟩ := h2; have hm0 := hm0.symm; subst hm0; rw [hf] at hx; subst hx
      refine g_istore_n (i := 3) hX dX8_valueIn_5 rfl (Nat.le_of_ble_eq_true rfl) rfl ?_
      refine g_iload_n (i := 3) hX dX8_valueIn_6 rfl rfl rfl ?_
      refine g_if_lt (tgt := 18) hX dX8_valueIn_7 (by decide) rfl (fun zc7 => absurd zc7 (nI_pos (by omega))) (fun zc7 => ?_)
      refine g_aload_n (i := 0) hX dX8_valueIn_10 rfl rfl rfl ?_
      refine g_iload_n (i := 2) hX dX8_valueIn_11 rfl rfl rfl ?_
      refine g_callVi hX (c_X8_isEdition E M _ ne he) kf_X8_isEdition rfl wk_X8_60 rfl rfl rfl rfl rfl dX8_valueIn_12 rfl (fun x12 M12 h12 => ?_)
      obtain ⟨rfl, hMq⟩ := h12; have hMq := hMq.symm; subst hMq
      first | refine g_if_neB (tgt := 22) hX dX8_valueIn_15 (by decide) rfl (fun zc15 => ?_) (fun zc15 => Bool.noConfusion (hin.symm.trans zc15)) | refine g_if_ne (tgt := 22) hX dX8_valueIn_15 (by decide) rfl (fun zc15 => ?_) (fun zc15 => Bool.noConfusion (hin.symm.trans zc15))
      refine g_aload_n (i := 0) hX dX8_valueIn_22 rfl rfl rfl ?_
      refine g_getR hX fl_X8_7 rfl rfl dX8_valueIn_23 rfl ?_
      refine g_iload_n (i := 3) hX dX8_valueIn_26 rfl rfl rfl ?_
      refine g_callSi hX (c_X8_clauseAt E _ p) kf_X8_clauseAt rfl wk_X8_34 rfl rfl rfl rfl dX8_valueIn_27 rfl (fun x27 M27 h27 => ?_)
      obtain ⟨rfl, hMq⟩ := h27; have hMq := hMq.symm; subst hMq
      refine g_iconst hX dX8_valueIn_30 ic_3 rfl ?_
      first | refine g_iaddN hX dX8_valueIn_31 rfl ?_ | refine g_iadd hX dX8_valueIn_31 rfl ?_
      refine g_iload_n (i := 2) hX dX8_valueIn_32 rfl rfl rfl ?_
      first | refine g_iaddN hX dX8_valueIn_33 rfl ?_ | refine g_iadd hX dX8_valueIn_33 rfl ?_
      refine g_iald hX rfl (rfl) (by omega) rfl dX8_valueIn_34 rfl ?_
      refine g_iret hX hR dX8_valueIn_35 ?_
      rw [cl_nI (by omega)]; exact ⟨by simp, rfl⟩
def y_clause (N : Nat → Int32) (nc : Nat) (i : Int32) : Int32 := if i < 0 then -1 else if inR i nc = true then vNb N i.toNatClampNeg else -4
theorem c_X8_clause (E : gE) (M : gM) (nc : Nat) (i : Int32) (hc : M 131 1 = nI nc) (hcb : nc ≤ 20) : gMet E k_X8_clause [.ref 130, .int i] M (gInt fun r M' => r = y_clause (M 131) nc i ∧ M' = M) := by
  refine gMet.of (by decide +kernel) rfl (Nat.le_of_ble_eq_true rfl) (fun X hX hR => ?_)
  rcases pk_ix i (n := nc) (by omega) with h | h | ⟨j, hj, rfl⟩
  · have e : y_clause (M 131) nc i = -1 := by simp [y_clause, h]
    rw [e]
    refine g_iload_n (i := 1) hX dX8_clause_0 rfl rfl rfl ?_
    refine g_if_ge (tgt := 8) hX dX8_clause_1 (by decide) rfl (fun zc1 => absurd zc1 (Int32.not_le.mpr h)) (fun zc1 => ?_)
    refine g_iconst hX dX8_clause_4 ic_m1 rfl ?_
    refine g_goto (n := 34) hX dX8_clause_5 (by decide) ?_
    refine g_iret hX hR dX8_clause_34 ?_
    exact ⟨rfl, rfl⟩
  · have h0 : ¬ i < 0 := fun q => absurd (Int32.lt_of_lt_of_le q (nI_pos' (n := nc) (by omega))) (Int32.not_lt.mpr h)
    have e : y_clause (M 131) nc i = -4 := by rw [y_clause, if_neg h0, inR_ge h]; rfl
    rw [e]
    refine g_iload_n (i := 1) hX dX8_clause_0 rfl rfl rfl ?_
    refine g_if_ge (tgt := 8) hX dX8_clause_1 (by decide) rfl (fun zc1 => ?_) (fun zc1 => absurd (Int32.not_lt.mp h0) zc1)
    refine g_iload_n (i := 1) hX dX8_clause_8 rfl rfl rfl ?_
    refine g_aload_n (i := 0) hX dX8_clause_9 rfl rfl rfl ?_
    refine g_getR hX fl_X8_7 rfl rfl dX8_clause_10 rfl ?_
    refine g_iconst hX dX8_clause_13 ic_1 rfl ?_
    refine g_ialdv (x := nI nc) hX rfl (rfl) (by omega) rfl (hc) dX8_clause_14 rfl ?_
    refine g_icmp_lt (tgt := 23) hX dX8_clause_15 (by decide) rfl (fun zc15 => absurd zc15 (Int32.not_lt.mpr h)) (fun zc15 => ?_)
    refine g_bipush hX dX8_clause_18 bc_m4 rfl ?_
    refine g_goto (n := 34) hX dX8_clause_20 (by decide) ?_
    refine g_iret hX hR dX8_clause_34 ?_
    exact ⟨rfl, rfl⟩
  · have e : y_clause (M 131) nc (nI j) = vNb (M 131) j := by rw [y_clause, if_neg (nI_pos (by omega)), inR_nI (by omega) (by omega), decide_eq_true hj, cl_nI (by omega)]; rfl
    rw [e]
    refine g_iload_n (i := 1) hX dX8_clause_0 rfl rfl rfl ?_
    refine g_if_ge (tgt := 8) hX dX8_clause_1 (by decide) rfl (fun zc1 => ?_) (fun zc1 => absurd (nI_pos' (by omega)) zc1)
    refine g_iload_n (i := 1) hX dX8_clause_8 rfl rfl rfl ?_
    refine g_aload_n (i := 0) hX dX8_clause_9 rfl rfl rfl ?_
    refine g_getR hX fl_X8_7 rfl rfl dX8_clause_10 rfl ?_
    refine g_iconst hX dX8_clause_13 ic_1 rfl ?_
    refine g_ialdv (x := nI nc) hX rfl (rfl) (by omega) rfl (hc) dX8_clause_14 rfl ?_
    first | refine g_icmp_ltN (tgt := 23) hX dX8_clause_15 (by decide) rfl (by omega) (by omega) (fun zc15 => ?_) (fun zc15 => absurd zc15 (by omega)) | refine g_icmp_lt (tgt := 23) hX dX8_clause_15 (by decide) rfl (fun zc15 => ?_) (fun zc15 => absurd zc15 (by omega))
    refine g_aload_n (i := 0) hX dX8_clause_23 rfl rfl rfl ?_
    refine g_getR hX fl_X8_7 rfl rfl dX8_clause_24 rfl ?_
    refine g_iload_n (i := 1) hX dX8_clause_27 rfl rfl rfl ?_
    refine g_callSi hX (c_X8_clauseAt E M j) kf_X8_clauseAt rfl wk_X8_34 rfl rfl rfl rfl dX8_clause_28 rfl (fun x28 M28 h28 => ?_)
    obtain ⟨rfl, hMq⟩ := h28; have hMq := hMq.symm; subst hMq
    refine g_iconst hX dX8_clause_31 ic_0 rfl ?_
    first | refine g_iaddN hX dX8_clause_32 rfl ?_ | refine g_iadd hX dX8_clause_32 rfl ?_
    refine g_iald hX rfl (rfl) (by omega) rfl dX8_clause_33 rfl ?_
    refine g_iret hX hR dX8_clause_34 ?_
    exact ⟨rfl, rfl⟩
def cntG (M : gM) (nm nk : Nat) (op : Bool) (j : Nat) : Int32 := match j with
  | 0 => M 131 0
  | 1 => M 131 1
  | 2 => M 131 2
  | 3 => M 131 3
  | 4 => M 131 4
  | 5 => M 131 5
  | 6 => M 131 9
  | 7 => nI (cntTo nk (pendB (vSt (M 131))))
  | 8 => actW (vW (M 131)) (vMi (M 131)) (vSe (M 131)) nm
  | 9 => M 130 2
  | 10 => M 130 4
  | _ => if op then M 131 7 - M 131 3 + M 131 6 else 0
def y_count (M : gM) (nm nk : Nat) (op : Bool) (w : Int32) : Int32 := if inR w 25 = true then (if w.toNatClampNeg < 12 then cntG M nm nk op w.toNatClampNeg else if 20 ≤ w.toNatClampNeg then vSe (M 131) (w.toNatClampNeg - 20) else -1) else -1
theorem c_X8_count (E : gE) (M : gM) (nm nk : Nat) (op : Bool) (w : Int32) (hm : M 131 0 = nI nm) (hmb : nm ≤ 10) (hk : M 131 9 = nI nk) (hkb : nk ≤ 30) (hop : M 131 4 = gB op) : gMet E k_X8_count [.ref 130, .int w] M (gInt fun r M' => r = y_count M nm nk op w ∧ M' = M) := by
  refine gMet.of (by decide +kernel) rfl (Nat.le_of_ble_eq_true rfl) (fun X hX hR => ?_)
  rcases pk_ix w (n := 25) (by decide) with h | h | ⟨j, hj, rfl⟩
  · have e : y_count M nm nk op w = -1 := by simp [y_count, inR_neg h]
    rw [e]
    refine g_iload_n (i := 1) hX dX8_count_0 rfl rfl rfl ?_
    refine g_tableOut (n := 170) hX dX8_count_1 (swOut (n := 11) (by decide) (Or.inl h) (by decide)) (by decide) ?_
    refine g_iload_n (i := 1) hX dX8_count_170 rfl rfl rfl ?_
    refine g_bipush hX dX8_count_171 bc_20 rfl ?_
    refine g_bipush hX dX8_count_173 bc_24 rfl ?_
    refine g_callSi hX (c_X8_in E M _ _ _) kf_X8_in rfl wk_X8_23 rfl rfl rfl rfl dX8_count_175 rfl (fun x175 M175 h175 => ?_)
    obtain ⟨rfl, hMq⟩ := h175; have hMq := hMq.symm; subst hMq
    first | refine g_if_eqB (tgt := 196) hX dX8_count_178 (by decide) rfl (fun zc178 => ?_) (fun zc178 => Bool.noConfusion ((inI_2 (Int32.lt_trans h (by decide : (0 : Int32) < nI 20))).symm.trans zc178)) | refine g_if_eq (tgt := 196) hX dX8_count_178 (by decide) rfl (fun zc178 => ?_) (fun zc178 => Bool.noConfusion ((inI_2 (Int32.lt_trans h (by decide : (0 : Int32) < nI 20))).symm.trans zc178))
    refine g_iconst hX dX8_count_196 ic_m1 rfl ?_
    refine g_iret hX hR dX8_count_197 ?_
    exact ⟨rfl, rfl⟩
  · have e : y_count M nm nk op w = -1 := by simp [y_count, inR_ge h]
    rw [e]
    refine g_iload_n (i := 1) hX dX8_count_0 rfl rfl rfl ?_
    refine g_tableOut (n := 170) hX dX8_count_1 (swOut (n := 11) (by decide) (Or.inr (Int32.le_trans (by decide : nI (11 + 1) ≤ nI 25) h)) (by decide)) (by decide) ?_
    refine g_iload_n (i := 1) hX dX8_count_170 rfl rfl rfl ?_
    refine g_bipush hX dX8_count_171 bc_20 rfl ?_
    refine g_bipush hX dX8_count_173 bc_24 rfl ?_
    refine g_callSi hX (c_X8_in E M _ _ _) kf_X8_in rfl wk_X8_23 rfl rfl rfl rfl dX8_count_175 rfl (fun x175 M175 h175 => ?_)
    obtain ⟨rfl, hMq⟩ := h175; have hMq := hMq.symm; subst hMq
    first | refine g_if_eqB (tgt := 196) hX dX8_count_178 (by decide) rfl (fun zc178 => ?_) (fun zc178 => Bool.noConfusion ((inI_3 (Int32.lt_of_lt_of_le (by decide : nI 24 < nI 25) h)).symm.trans zc178)) | refine g_if_eq (tgt := 196) hX dX8_count_178 (by decide) rfl (fun zc178 => ?_) (fun zc178 => Bool.noConfusion ((inI_3 (Int32.lt_of_lt_of_le (by decide : nI 24 < nI 25) h)).symm.trans zc178))
    refine g_iconst hX dX8_count_196 ic_m1 rfl ?_
    refine g_iret hX hR dX8_count_197 ?_
    exact ⟨rfl, rfl⟩
  · have e : y_count M nm nk op (nI j) = if j < 12 then cntG M nm nk op j else if 20 ≤ j then vSe (M 131) (j - 20) else -1 := by rw [y_count, inR_nI (by omega) (by decide), decide_eq_true hj, cl_nI (by omega)]; rfl
    rw [e]
    have ei : inI (nI j) (nI 20) (nI 24) = decide (20 ≤ j ∧ j ≤ 24) := inI_nI (by decide) (by omega) (by decide)
    by_cases h12 : j < 12
    · rw [if_pos h12]
      have hj12 : j = 0 ∨ j = 1 ∨ j = 2 ∨ j = 3 ∨ j = 4 ∨ j = 5 ∨ j = 6 ∨ j = 7 ∨ j = 8 ∨ j = 9 ∨ j = 10 ∨ j = 11 := by omega
      rcases hj12 with rfl | rfl | rfl | rfl | rfl | rfl | rfl | rfl | rfl | rfl | rfl | rfl
      · skip
        refine g_iload_n (i := 1) hX dX8_count_0 rfl rfl rfl ?_
        refine g_tableIn (n := 64) hX dX8_count_1 (by decide) (by decide) rfl (by decide) ?_
        refine g_aload_n (i := 0) hX dX8_count_64 rfl rfl rfl ?_
        refine g_getR hX fl_X8_7 rfl rfl dX8_count_65 rfl ?_
        refine g_iconst hX dX8_count_68 ic_0 rfl ?_
        refine g_iald hX rfl (rfl) (by omega) rfl dX8_count_69 rfl ?_
        refine g_iret hX hR dX8_count_70 ?_
        exact ⟨rfl, rfl⟩
      · skip
        refine g_iload_n (i := 1) hX dX8_count_0 rfl rfl rfl ?_
        refine g_tableIn (n := 71) hX dX8_count_1 (by decide) (by decide) rfl (by decide) ?_
        refine g_aload_n (i := 0) hX dX8_count_71 rfl rfl rfl ?_
        refine g_getR hX fl_X8_7 rfl rfl dX8_count_72 rfl ?_
        refine g_iconst hX dX8_count_75 ic_1 rfl ?_
        refine g_iald hX rfl (rfl) (by omega) rfl dX8_count_76 rfl ?_
        refine g_iret hX hR dX8_count_77 ?_
        exact ⟨rfl, rfl⟩
      · skip
        refine g_iload_n (i := 1) hX dX8_count_0 rfl rfl rfl ?_
        refine g_tableIn (n := 78) hX dX8_count_1 (by decide) (by decide) rfl (by decide) ?_
        refine g_aload_n (i := 0) hX dX8_count_78 rfl rfl rfl ?_
        refine g_getR hX fl_X8_7 rfl rfl dX8_count_79 rfl ?_
        refine g_iconst hX dX8_count_82 ic_2 rfl ?_
        refine g_iald hX rfl (rfl) (by omega) rfl dX8_count_83 rfl ?_
        refine g_iret hX hR dX8_count_84 ?_
        exact ⟨rfl, rfl⟩
      · skip
        refine g_iload_n (i := 1) hX dX8_count_0 rfl rfl rfl ?_
        refine g_tableIn (n := 85) hX dX8_count_1 (by decide) (by decide) rfl (by decide) ?_
        refine g_aload_n (i := 0) hX dX8_count_85 rfl rfl rfl ?_
        refine g_getR hX fl_X8_7 rfl rfl dX8_count_86 rfl ?_
        refine g_iconst hX dX8_count_89 ic_3 rfl ?_
        refine g_iald hX rfl (rfl) (by omega) rfl dX8_count_90 rfl ?_
        refine g_iret hX hR dX8_count_91 ?_
        exact ⟨rfl, rfl⟩
      · skip
        refine g_iload_n (i := 1) hX dX8_count_0 rfl rfl rfl ?_
        refine g_tableIn (n := 92) hX dX8_count_1 (by decide) (by decide) rfl (by decide) ?_
        refine g_aload_n (i := 0) hX dX8_count_92 rfl rfl rfl ?_
        refine g_getR hX fl_X8_7 rfl rfl dX8_count_93 rfl ?_
        refine g_iconst hX dX8_count_96 ic_4 rfl ?_
        refine g_iald hX rfl (rfl) (by omega) rfl dX8_count_97 rfl ?_
        refine g_iret hX hR dX8_count_98 ?_
        exact ⟨rfl, rfl⟩
      · skip
        refine g_iload_n (i := 1) hX dX8_count_0 rfl rfl rfl ?_
        refine g_tableIn (n := 99) hX dX8_count_1 (by decide) (by decide) rfl (by decide) ?_
        refine g_aload_n (i := 0) hX dX8_count_99 rfl rfl rfl ?_
        refine g_getR hX fl_X8_7 rfl rfl dX8_count_100 rfl ?_
        refine g_iconst hX dX8_count_103 ic_5 rfl ?_
        refine g_iald hX rfl (rfl) (by omega) rfl dX8_count_104 rfl ?_
        refine g_iret hX hR dX8_count_105 ?_
        exact ⟨rfl, rfl⟩
      · skip
        refine g_iload_n (i := 1) hX dX8_count_0 rfl rfl rfl ?_
        refine g_tableIn (n := 106) hX dX8_count_1 (by decide) (by decide) rfl (by decide) ?_
        refine g_aload_n (i := 0) hX dX8_count_106 rfl rfl rfl ?_
        refine g_getR hX fl_X8_7 rfl rfl dX8_count_107 rfl ?_
        refine g_bipush hX dX8_count_110 bc_9 rfl ?_
        refine g_iald hX rfl (rfl) (by omega) rfl dX8_count_112 rfl ?_
        refine g_iret hX hR dX8_count_113 ?_
        exact ⟨rfl, rfl⟩
      · skip
        refine g_iload_n (i := 1) hX dX8_count_0 rfl rfl rfl ?_
        refine g_tableIn (n := 114) hX dX8_count_1 (by decide) (by decide) rfl (by decide) ?_
        refine g_aload_n (i := 0) hX dX8_count_114 rfl rfl rfl ?_
        refine g_callVi hX (c_X8_pending E M nk hk hkb) kf_X8_pending rfl wk_X8_63 rfl rfl rfl rfl rfl dX8_count_115 rfl (fun x115 M115 h115 => ?_)
        obtain ⟨rfl, hMq⟩ := h115; have hMq := hMq.symm; subst hMq
        refine g_iret hX hR dX8_count_118 ?_
        exact ⟨rfl, rfl⟩
      · skip
        refine g_iload_n (i := 1) hX dX8_count_0 rfl rfl rfl ?_
        refine g_tableIn (n := 119) hX dX8_count_1 (by decide) (by decide) rfl (by decide) ?_
        refine g_aload_n (i := 0) hX dX8_count_119 rfl rfl rfl ?_
        refine g_callVi hX (c_X8_activeWeight E M nm hm hmb) kf_X8_activeWeight rfl wk_X8_67 rfl rfl rfl rfl rfl dX8_count_120 rfl (fun x120 M120 h120 => ?_)
        obtain ⟨rfl, hMq⟩ := h120; have hMq := hMq.symm; subst hMq
        refine g_iret hX hR dX8_count_123 ?_
        exact ⟨rfl, rfl⟩
      · skip
        refine g_iload_n (i := 1) hX dX8_count_0 rfl rfl rfl ?_
        refine g_tableIn (n := 124) hX dX8_count_1 (by decide) (by decide) rfl (by decide) ?_
        refine g_aload_n (i := 0) hX dX8_count_124 rfl rfl rfl ?_
        refine g_getI hX fl_X8_19 rfl rfl dX8_count_125 rfl ?_
        refine g_iret hX hR dX8_count_128 ?_
        exact ⟨rfl, rfl⟩
      · skip
        refine g_iload_n (i := 1) hX dX8_count_0 rfl rfl rfl ?_
        refine g_tableIn (n := 129) hX dX8_count_1 (by decide) (by decide) rfl (by decide) ?_
        refine g_aload_n (i := 0) hX dX8_count_129 rfl rfl rfl ?_
        refine g_getI hX fl_X8_70 rfl rfl dX8_count_130 rfl ?_
        refine g_iret hX hR dX8_count_133 ?_
        exact ⟨rfl, rfl⟩
      · skip
        refine g_iload_n (i := 1) hX dX8_count_0 rfl rfl rfl ?_
        refine g_tableIn (n := 134) hX dX8_count_1 (by decide) (by decide) rfl (by decide) ?_
        refine g_aload_n (i := 0) hX dX8_count_134 rfl rfl rfl ?_
        refine g_getR hX fl_X8_7 rfl rfl dX8_count_135 rfl ?_
        refine g_iconst hX dX8_count_138 ic_4 rfl ?_
        refine g_ialdv (x := gB op) hX rfl (rfl) (by omega) rfl (hop) dX8_count_139 rfl ?_
        first | refine g_if_neB (tgt := 147) hX dX8_count_140 (by decide) rfl (fun zc140 => ?_) (fun zc140 => ?_) | refine g_if_ne (tgt := 147) hX dX8_count_140 (by decide) rfl (fun zc140 => ?_) (fun zc140 => ?_)
        · skip
          refine g_aload_n (i := 0) hX dX8_count_147 rfl rfl rfl ?_
          refine g_getR hX fl_X8_7 rfl rfl dX8_count_148 rfl ?_
          refine g_bipush hX dX8_count_151 bc_7 rfl ?_
          refine g_iald hX rfl (rfl) (by omega) rfl dX8_count_153 rfl ?_
          refine g_aload_n (i := 0) hX dX8_count_154 rfl rfl rfl ?_
          refine g_getR hX fl_X8_7 rfl rfl dX8_count_155 rfl ?_
          refine g_iconst hX dX8_count_158 ic_3 rfl ?_
          refine g_iald hX rfl (rfl) (by omega) rfl dX8_count_159 rfl ?_
          refine g_isub hX dX8_count_160 rfl ?_
          refine g_aload_n (i := 0) hX dX8_count_161 rfl rfl rfl ?_
          refine g_getR hX fl_X8_7 rfl rfl dX8_count_162 rfl ?_
          refine g_bipush hX dX8_count_165 bc_6 rfl ?_
          refine g_iald hX rfl (rfl) (by omega) rfl dX8_count_167 rfl ?_
          refine g_iadd hX dX8_count_168 rfl ?_
          refine g_iret hX hR dX8_count_169 ?_
          subst zc140; exact ⟨rfl, rfl⟩
        · skip
          refine g_iconst hX dX8_count_143 ic_0 rfl ?_
          refine g_goto (n := 169) hX dX8_count_144 (by decide) ?_
          refine g_iret hX hR dX8_count_169 ?_
          subst zc140; exact ⟨rfl, rfl⟩
    · rw [if_neg h12]
      by_cases h20 : 20 ≤ j
      · rw [if_pos h20]
        refine g_iload_n (i := 1) hX dX8_count_0 rfl rfl rfl ?_
        refine g_tableOut (n := 170) hX dX8_count_1 (Or.inr (by rw [nI_toInt (by omega)]; omega)) (by decide) ?_
        refine g_iload_n (i := 1) hX dX8_count_170 rfl rfl rfl ?_
        refine g_bipush hX dX8_count_171 bc_20 rfl ?_
        refine g_bipush hX dX8_count_173 bc_24 rfl ?_
        refine g_callSi hX (c_X8_in E M _ _ _) kf_X8_in rfl wk_X8_23 rfl rfl rfl rfl dX8_count_175 rfl (fun x175 M175 h175 => ?_)
        obtain ⟨rfl, hMq⟩ := h175; have hMq := hMq.symm; subst hMq
        first | refine g_if_eqB (tgt := 196) hX dX8_count_178 (by decide) rfl (fun zc178 => Bool.noConfusion (zc178.symm.trans (ei.trans (decide_eq_true ⟨h20, by omega⟩)))) (fun zc178 => ?_) | refine g_if_eq (tgt := 196) hX dX8_count_178 (by decide) rfl (fun zc178 => Bool.noConfusion (zc178.symm.trans (ei.trans (decide_eq_true ⟨h20, by omega⟩)))) (fun zc178 => ?_)
        refine g_aload_n (i := 0) hX dX8_count_181 rfl rfl rfl ?_
        refine g_getR hX fl_X8_7 rfl rfl dX8_count_182 rfl ?_
        refine g_bipush hX dX8_count_185 bc_12 rfl ?_
        refine g_iload_n (i := 1) hX dX8_count_187 rfl rfl rfl ?_
        first | refine g_iaddN hX dX8_count_188 rfl ?_ | refine g_iadd hX dX8_count_188 rfl ?_
        refine g_bipush hX dX8_count_189 bc_20 rfl ?_
        refine g_isubN hX dX8_count_191 (by omega) rfl ?_
        refine g_iald hX rfl ((congrArg nI (by omega) : _ = nI (12 + (j - 20)))) (by omega) rfl dX8_count_192 rfl ?_
        refine g_goto (n := 197) hX dX8_count_193 (by decide) ?_
        refine g_iret hX hR dX8_count_197 ?_
        exact ⟨rfl, rfl⟩
      · rw [if_neg h20]
        refine g_iload_n (i := 1) hX dX8_count_0 rfl rfl rfl ?_
        refine g_tableOut (n := 170) hX dX8_count_1 (Or.inr (by rw [nI_toInt (by omega)]; omega)) (by decide) ?_
        refine g_iload_n (i := 1) hX dX8_count_170 rfl rfl rfl ?_
        refine g_bipush hX dX8_count_171 bc_20 rfl ?_
        refine g_bipush hX dX8_count_173 bc_24 rfl ?_
        refine g_callSi hX (c_X8_in E M _ _ _) kf_X8_in rfl wk_X8_23 rfl rfl rfl rfl dX8_count_175 rfl (fun x175 M175 h175 => ?_)
        obtain ⟨rfl, hMq⟩ := h175; have hMq := hMq.symm; subst hMq
        first | refine g_if_eqB (tgt := 196) hX dX8_count_178 (by decide) rfl (fun zc178 => ?_) (fun zc178 => Bool.noConfusion (zc178.symm.trans (ei.trans (decide_eq_false (fun q => h20 q.1))))) | refine g_if_eq (tgt := 196) hX dX8_count_178 (by decide) rfl (fun zc178 => ?_) (fun zc178 => Bool.noConfusion (zc178.symm.trans (ei.trans (decide_eq_false (fun q => h20 q.1)))))
        refine g_iconst hX dX8_count_196 ic_m1 rfl ?_
        refine g_iret hX hR dX8_count_197 ?_
        exact ⟨rfl, rfl⟩

