/-! the reference: pass, tally, lacking, comments, changes -/
def y_pass (M : gM) (nm nk sv : Nat) (op : Bool) (d : Int32) : Int32 × gM := if inI d (nI 1) (nI 365) = true then (if M 131 3 + d ≤ nI 10000 then (if op = true ∧ ¬ M 131 3 + d - M 131 6 < M 131 7 then (if carB (talK (upd (M 131) 3 (M 131 3 + d)) nk nm) (vSe (upd (M 131) 3 (M 131 3 + d))) = true then 2 else 1, gset (m_rec M sv) 131 (n_end (upd (M 131) 3 (M 131 3 + d)) nm nk)) else (0, gset (m_rec M sv) 131 (upd (M 131) 3 (M 131 3 + d)))) else (-3, M)) else (-1, M)
theorem c_X8_pass (E : gE) (M : gM) (nm nk sv : Nat) (op : Bool) (vt : Nat → Nat) (d : Int32) (hm : M 131 0 = nI nm) (hmb : nm ≤ 10) (hk : M 131 9 = nI nk) (hkb : nk ≤ 30) (hv : ∀ m, m < nm → vt m ≤ 3 ∧ vVo (M 131) m = nI (vt m)) (hop : M 131 4 = gB op) (hs : M 130 2 = nI sv) (hb : sv ≤ 4) : gMet E k_X8_pass [.ref 130, .int d] M (gInt fun r M' => (r, M') = y_pass M nm nk sv op d) := by
  refine gMet.of (by decide +kernel) rfl (Nat.le_of_ble_eq_true rfl) (fun X hX hR => ?_)
  have K : m_rec M sv 131 = M 131 := rec_ne (by decide)
  have ev : ∀ j, j ≠ 3 → upd (M 131) 3 (M 131 3 + d) j = M 131 j := fun j h => upd_n _ _ h
  cases hi : inI d (nI 1) (nI 365) with
  | false =>
    have e : y_pass M nm nk sv op d = (-1, M) := by rw [y_pass, if_neg (fun q => Bool.noConfusion (q.symm.trans hi))]
    rw [e]
    refine g_iload_n (i := 1) hX dX8_pass_0 rfl rfl rfl ?_
    refine g_iconst hX dX8_pass_1 ic_1 rfl ?_
    refine g_sipush hX dX8_pass_2 sc_365 rfl ?_
    refine g_callSi hX (c_X8_in E M _ _ _) kf_X8_in rfl wk_X8_23 rfl rfl rfl rfl dX8_pass_5 rfl (fun x5 M5 h5 => ?_)
    obtain ⟨rfl, hMq⟩ := h5; have hMq := hMq.symm; subst hMq
    first | refine g_if_neB (tgt := 13) hX dX8_pass_8 (by decide) rfl (fun zc8 => Bool.noConfusion (hi.symm.trans zc8)) (fun zc8 => ?_) | refine g_if_ne (tgt := 13) hX dX8_pass_8 (by decide) rfl (fun zc8 => Bool.noConfusion (hi.symm.trans zc8)) (fun zc8 => ?_)
    refine g_iconst hX dX8_pass_11 ic_m1 rfl ?_
    refine g_iret hX hR dX8_pass_12 ?_
    rfl
  | true =>
    have e : y_pass M nm nk sv op d = if M 131 3 + d ≤ nI 10000 then (if op = true ∧ ¬ M 131 3 + d - M 131 6 < M 131 7 then (if carB (talK (upd (M 131) 3 (M 131 3 + d)) nk nm) (vSe (upd (M 131) 3 (M 131 3 + d))) = true then 2 else 1, gset (m_rec M sv) 131 (n_end (upd (M 131) 3 (M 131 3 + d)) nm nk)) else (0, gset (m_rec M sv) 131 (upd (M 131) 3 (M 131 3 + d)))) else (-3, M) := by rw [y_pass, if_pos hi]
    by_cases hle : M 131 3 + d ≤ nI 10000
    · rw [if_pos hle] at e
      have es : upd (M 131) 3 (M 131 3 + d) 3 = M 131 3 + d := upd_s _ _ _
      have e6 := ev 6 (by decide)
      have e7 := ev 7 (by decide)
      have e4 := ev 4 (by decide)
      cases hopv : op with
      | false =>
        rw [hopv] at hop e
        rw [e, if_neg (fun q => Bool.noConfusion q.1)]
        refine g_iload_n (i := 1) hX dX8_pass_0 rfl rfl rfl ?_
        refine g_iconst hX dX8_pass_1 ic_1 rfl ?_
        refine g_sipush hX dX8_pass_2 sc_365 rfl ?_
        refine g_callSi hX (c_X8_in E M _ _ _) kf_X8_in rfl wk_X8_23 rfl rfl rfl rfl dX8_pass_5 rfl (fun x5 M5 h5 => ?_)
        obtain ⟨rfl, hMq⟩ := h5; have hMq := hMq.symm; subst hMq
        first | refine g_if_neB (tgt := 13) hX dX8_pass_8 (by decide) rfl (fun zc8 => ?_) (fun zc8 => Bool.noConfusion (hi.symm.trans zc8)) | refine g_if_ne (tgt := 13) hX dX8_pass_8 (by decide) rfl (fun zc8 => ?_) (fun zc8 => Bool.noConfusion (hi.symm.trans zc8))
        refine g_aload_n (i := 0) hX dX8_pass_13 rfl rfl rfl ?_
        refine g_getR hX fl_X8_7 rfl rfl dX8_pass_14 rfl ?_
        refine g_iconst hX dX8_pass_17 ic_3 rfl ?_
        refine g_ialdv (x := M 131 3) hX rfl (rfl) (by omega) rfl (rfl) dX8_pass_18 rfl ?_
        refine g_iload_n (i := 1) hX dX8_pass_19 rfl rfl rfl ?_
        refine g_iadd hX dX8_pass_20 rfl ?_
        refine g_sipush hX dX8_pass_21 sc_10000 rfl ?_
        refine g_icmp_le (tgt := 30) hX dX8_pass_24 (by decide) rfl (fun zc24 => ?_) (fun zc24 => absurd hle zc24)
        refine g_aload_n (i := 0) hX dX8_pass_30 rfl rfl rfl ?_
        refine g_callVv hX (c_X8_records E M sv hs hb) kf_X8_records rfl wk_X8_31 rfl rfl rfl rfl rfl dX8_pass_31 rfl (fun M31 h31 => ?_)
        subst h31
        refine g_aload_n (i := 0) hX dX8_pass_34 rfl rfl rfl ?_
        refine g_getR hX fl_X8_7 rfl rfl dX8_pass_35 rfl ?_
        refine g_iconst hX dX8_pass_38 ic_3 rfl ?_
        refine g_dup2 hX dX8_pass_39 rfl rfl rfl ?_
        refine g_ialdv (x := M 131 3) hX rfl (rfl) (by omega) rfl ((congrFun K 3)) dX8_pass_40 rfl ?_
        refine g_iload_n (i := 1) hX dX8_pass_41 rfl rfl rfl ?_
        refine g_iadd hX dX8_pass_42 rfl ?_
        refine g_iast hX rfl (rfl) (by omega) rfl dX8_pass_43 rfl ?_
        rw [K]
        refine g_aload_n (i := 0) hX dX8_pass_44 rfl rfl rfl ?_
        refine g_getR hX fl_X8_7 rfl rfl dX8_pass_45 rfl ?_
        refine g_iconst hX dX8_pass_48 ic_4 rfl ?_
        refine g_ialdv (x := nI 0) hX rfl (rfl) (by omega) rfl (by rw [gset_eq]; exact e4.trans hop) dX8_pass_49 rfl ?_
        refine g_iconst hX dX8_pass_50 ic_1 rfl ?_
        refine g_icmp_ne (tgt := 82) hX dX8_pass_51 (by decide) rfl (fun zc51 => ?_) (fun zc51 => absurd zc51 (by decide))
        refine g_iconst hX dX8_pass_82 ic_0 rfl ?_
        refine g_istore_n (i := 2) hX dX8_pass_83 rfl (Nat.le_of_ble_eq_true rfl) rfl ?_
        refine g_iload_n (i := 2) hX dX8_pass_84 rfl rfl rfl ?_
        refine g_if_ne (tgt := 92) hX dX8_pass_85 (by decide) rfl (fun zc85 => absurd rfl zc85) (fun zc85 => ?_)
        refine g_iconst hX dX8_pass_88 ic_0 rfl ?_
        refine g_goto (n := 104) hX dX8_pass_89 (by decide) ?_
        refine g_iret hX hR dX8_pass_104 ?_
        rfl
      | true =>
        rw [hopv] at hop e
        by_cases hlt : M 131 3 + d - M 131 6 < M 131 7
        · rw [e, if_neg (fun q => q.2 hlt)]
          refine g_iload_n (i := 1) hX dX8_pass_0 rfl rfl rfl ?_
          refine g_iconst hX dX8_pass_1 ic_1 rfl ?_
          refine g_sipush hX dX8_pass_2 sc_365 rfl ?_
          refine g_callSi hX (c_X8_in E M _ _ _) kf_X8_in rfl wk_X8_23 rfl rfl rfl rfl dX8_pass_5 rfl (fun x5 M5 h5 => ?_)
          obtain ⟨rfl, hMq⟩ := h5; have hMq := hMq.symm; subst hMq
          first | refine g_if_neB (tgt := 13) hX dX8_pass_8 (by decide) rfl (fun zc8 => ?_) (fun zc8 => Bool.noConfusion (hi.symm.trans zc8)) | refine g_if_ne (tgt := 13) hX dX8_pass_8 (by decide) rfl (fun zc8 => ?_) (fun zc8 => Bool.noConfusion (hi.symm.trans zc8))
          refine g_aload_n (i := 0) hX dX8_pass_13 rfl rfl rfl ?_
          refine g_getR hX fl_X8_7 rfl rfl dX8_pass_14 rfl ?_
          refine g_iconst hX dX8_pass_17 ic_3 rfl ?_
          refine g_ialdv (x := M 131 3) hX rfl (rfl) (by omega) rfl (rfl) dX8_pass_18 rfl ?_
          refine g_iload_n (i := 1) hX dX8_pass_19 rfl rfl rfl ?_
          refine g_iadd hX dX8_pass_20 rfl ?_
          refine g_sipush hX dX8_pass_21 sc_10000 rfl ?_
          refine g_icmp_le (tgt := 30) hX dX8_pass_24 (by decide) rfl (fun zc24 => ?_) (fun zc24 => absurd hle zc24)
          refine g_aload_n (i := 0) hX dX8_pass_30 rfl rfl rfl ?_
          refine g_callVv hX (c_X8_records E M sv hs hb) kf_X8_records rfl wk_X8_31 rfl rfl rfl rfl rfl dX8_pass_31 rfl (fun M31 h31 => ?_)
          subst h31
          refine g_aload_n (i := 0) hX dX8_pass_34 rfl rfl rfl ?_
          refine g_getR hX fl_X8_7 rfl rfl dX8_pass_35 rfl ?_
          refine g_iconst hX dX8_pass_38 ic_3 rfl ?_
          refine g_dup2 hX dX8_pass_39 rfl rfl rfl ?_
          refine g_ialdv (x := M 131 3) hX rfl (rfl) (by omega) rfl ((congrFun K 3)) dX8_pass_40 rfl ?_
          refine g_iload_n (i := 1) hX dX8_pass_41 rfl rfl rfl ?_
          refine g_iadd hX dX8_pass_42 rfl ?_
          refine g_iast hX rfl (rfl) (by omega) rfl dX8_pass_43 rfl ?_
          rw [K]
          refine g_aload_n (i := 0) hX dX8_pass_44 rfl rfl rfl ?_
          refine g_getR hX fl_X8_7 rfl rfl dX8_pass_45 rfl ?_
          refine g_iconst hX dX8_pass_48 ic_4 rfl ?_
          refine g_ialdv (x := nI 1) hX rfl (rfl) (by omega) rfl (by rw [gset_eq]; exact e4.trans hop) dX8_pass_49 rfl ?_
          refine g_iconst hX dX8_pass_50 ic_1 rfl ?_
          refine g_icmp_ne (tgt := 82) hX dX8_pass_51 (by decide) rfl (fun zc51 => absurd rfl zc51) (fun zc51 => ?_)
          refine g_aload_n (i := 0) hX dX8_pass_54 rfl rfl rfl ?_
          refine g_getR hX fl_X8_7 rfl rfl dX8_pass_55 rfl ?_
          refine g_iconst hX dX8_pass_58 ic_3 rfl ?_
          refine g_ialdv (x := M 131 3 + d) hX rfl (rfl) (by omega) rfl (by rw [gset_eq]; exact es) dX8_pass_59 rfl ?_
          refine g_aload_n (i := 0) hX dX8_pass_60 rfl rfl rfl ?_
          refine g_getR hX fl_X8_7 rfl rfl dX8_pass_61 rfl ?_
          refine g_bipush hX dX8_pass_64 bc_6 rfl ?_
          refine g_ialdv (x := M 131 6) hX rfl (rfl) (by omega) rfl (by rw [gset_eq]; exact e6) dX8_pass_66 rfl ?_
          refine g_isub hX dX8_pass_67 rfl ?_
          refine g_aload_n (i := 0) hX dX8_pass_68 rfl rfl rfl ?_
          refine g_getR hX fl_X8_7 rfl rfl dX8_pass_69 rfl ?_
          refine g_bipush hX dX8_pass_72 bc_7 rfl ?_
          refine g_ialdv (x := M 131 7) hX rfl (rfl) (by omega) rfl (by rw [gset_eq]; exact e7) dX8_pass_74 rfl ?_
          refine g_icmp_lt (tgt := 82) hX dX8_pass_75 (by decide) rfl (fun zc75 => ?_) (fun zc75 => absurd hlt zc75)
          refine g_iconst hX dX8_pass_82 ic_0 rfl ?_
          refine g_istore_n (i := 2) hX dX8_pass_83 rfl (Nat.le_of_ble_eq_true rfl) rfl ?_
          refine g_iload_n (i := 2) hX dX8_pass_84 rfl rfl rfl ?_
          refine g_if_ne (tgt := 92) hX dX8_pass_85 (by decide) rfl (fun zc85 => absurd rfl zc85) (fun zc85 => ?_)
          refine g_iconst hX dX8_pass_88 ic_0 rfl ?_
          refine g_goto (n := 104) hX dX8_pass_89 (by decide) ?_
          refine g_iret hX hR dX8_pass_104 ?_
          rfl
        · rw [e, if_pos ⟨rfl, hlt⟩]
          refine g_iload_n (i := 1) hX dX8_pass_0 rfl rfl rfl ?_
          refine g_iconst hX dX8_pass_1 ic_1 rfl ?_
          refine g_sipush hX dX8_pass_2 sc_365 rfl ?_
          refine g_callSi hX (c_X8_in E M _ _ _) kf_X8_in rfl wk_X8_23 rfl rfl rfl rfl dX8_pass_5 rfl (fun x5 M5 h5 => ?_)
          obtain ⟨rfl, hMq⟩ := h5; have hMq := hMq.symm; subst hMq
          first | refine g_if_neB (tgt := 13) hX dX8_pass_8 (by decide) rfl (fun zc8 => ?_) (fun zc8 => Bool.noConfusion (hi.symm.trans zc8)) | refine g_if_ne (tgt := 13) hX dX8_pass_8 (by decide) rfl (fun zc8 => ?_) (fun zc8 => Bool.noConfusion (hi.symm.trans zc8))
          refine g_aload_n (i := 0) hX dX8_pass_13 rfl rfl rfl ?_
          refine g_getR hX fl_X8_7 rfl rfl dX8_pass_14 rfl ?_
          refine g_iconst hX dX8_pass_17 ic_3 rfl ?_
          refine g_ialdv (x := M 131 3) hX rfl (rfl) (by omega) rfl (rfl) dX8_pass_18 rfl ?_
          refine g_iload_n (i := 1) hX dX8_pass_19 rfl rfl rfl ?_
          refine g_iadd hX dX8_pass_20 rfl ?_
          refine g_sipush hX dX8_pass_21 sc_10000 rfl ?_
          refine g_icmp_le (tgt := 30) hX dX8_pass_24 (by decide) rfl (fun zc24 => ?_) (fun zc24 => absurd hle zc24)
          refine g_aload_n (i := 0) hX dX8_pass_30 rfl rfl rfl ?_
          refine g_callVv hX (c_X8_records E M sv hs hb) kf_X8_records rfl wk_X8_31 rfl rfl rfl rfl rfl dX8_pass_31 rfl (fun M31 h31 => ?_)
          subst h31
          refine g_aload_n (i := 0) hX dX8_pass_34 rfl rfl rfl ?_
          refine g_getR hX fl_X8_7 rfl rfl dX8_pass_35 rfl ?_
          refine g_iconst hX dX8_pass_38 ic_3 rfl ?_
          refine g_dup2 hX dX8_pass_39 rfl rfl rfl ?_
          refine g_ialdv (x := M 131 3) hX rfl (rfl) (by omega) rfl ((congrFun K 3)) dX8_pass_40 rfl ?_
          refine g_iload_n (i := 1) hX dX8_pass_41 rfl rfl rfl ?_
          refine g_iadd hX dX8_pass_42 rfl ?_
          refine g_iast hX rfl (rfl) (by omega) rfl dX8_pass_43 rfl ?_
          rw [K]
          refine g_aload_n (i := 0) hX dX8_pass_44 rfl rfl rfl ?_
          refine g_getR hX fl_X8_7 rfl rfl dX8_pass_45 rfl ?_
          refine g_iconst hX dX8_pass_48 ic_4 rfl ?_
          refine g_ialdv (x := nI 1) hX rfl (rfl) (by omega) rfl (by rw [gset_eq]; exact e4.trans hop) dX8_pass_49 rfl ?_
          refine g_iconst hX dX8_pass_50 ic_1 rfl ?_
          refine g_icmp_ne (tgt := 82) hX dX8_pass_51 (by decide) rfl (fun zc51 => absurd rfl zc51) (fun zc51 => ?_)
          refine g_aload_n (i := 0) hX dX8_pass_54 rfl rfl rfl ?_
          refine g_getR hX fl_X8_7 rfl rfl dX8_pass_55 rfl ?_
          refine g_iconst hX dX8_pass_58 ic_3 rfl ?_
          refine g_ialdv (x := M 131 3 + d) hX rfl (rfl) (by omega) rfl (by rw [gset_eq]; exact es) dX8_pass_59 rfl ?_
          refine g_aload_n (i := 0) hX dX8_pass_60 rfl rfl rfl ?_
          refine g_getR hX fl_X8_7 rfl rfl dX8_pass_61 rfl ?_
          refine g_bipush hX dX8_pass_64 bc_6 rfl ?_
          refine g_ialdv (x := M 131 6) hX rfl (rfl) (by omega) rfl (by rw [gset_eq]; exact e6) dX8_pass_66 rfl ?_
          refine g_isub hX dX8_pass_67 rfl ?_
          refine g_aload_n (i := 0) hX dX8_pass_68 rfl rfl rfl ?_
          refine g_getR hX fl_X8_7 rfl rfl dX8_pass_69 rfl ?_
          refine g_bipush hX dX8_pass_72 bc_7 rfl ?_
          refine g_ialdv (x := M 131 7) hX rfl (rfl) (by omega) rfl (by rw [gset_eq]; exact e7) dX8_pass_74 rfl ?_
          refine g_icmp_lt (tgt := 82) hX dX8_pass_75 (by decide) rfl (fun zc75 => absurd zc75 hlt) (fun zc75 => ?_)
          refine g_iconst hX dX8_pass_78 ic_1 rfl ?_
          refine g_goto (n := 83) hX dX8_pass_79 (by decide) ?_
          refine g_istore_n (i := 2) hX dX8_pass_83 rfl (Nat.le_of_ble_eq_true rfl) rfl ?_
          refine g_iload_n (i := 2) hX dX8_pass_84 rfl rfl rfl ?_
          refine g_if_ne (tgt := 92) hX dX8_pass_85 (by decide) rfl (fun zc85 => ?_) (fun zc85 => absurd zc85 (by decide))
          refine g_aload_n (i := 0) hX dX8_pass_92 rfl rfl rfl ?_
          refine g_callVi hX (c_X8_ends E _ nm nk vt (by rw [gset_eq, ev 0 (by decide)]; exact hm) hmb (by rw [gset_eq, ev 9 (by decide)]; exact hk) hkb (fun m h => ⟨(hv m h).1, by rw [gset_eq]; show upd (M 131) 3 _ _ = _; rw [upd_n _ _ (by omega)]; exact (hv m h).2⟩)) kf_X8_ends rfl wk_X8_83 rfl rfl rfl rfl rfl dX8_pass_93 rfl (fun x93 M93 h93 => ?_)
          obtain ⟨rfl, hMq⟩ := h93; have hMq := hMq.symm; subst hMq
          refine g_if_eq (tgt := 103) hX dX8_pass_96 (by decide) rfl (fun zc96 => ?_) (fun zc96 => ?_)
          · skip
            simp only [gset_eq] at zc96
            refine g_iconst hX dX8_pass_103 ic_1 rfl ?_
            refine g_iret hX hR dX8_pass_104 ?_
            skip
            cases hcb : carB (talK (upd (M 131) 3 (M 131 3 + d)) nk nm) (vSe (upd (M 131) 3 (M 131 3 + d))) with
            | true => first
              | (rw [hcb] at zc96; exact absurd zc96 (by decide))
              | (simp only [gset_gset, gset_eq]; rfl)
            | false => first
              | (rw [hcb] at zc96; exact absurd rfl zc96)
              | (simp only [gset_gset, gset_eq]; rfl)
          · skip
            simp only [gset_eq] at zc96
            refine g_iconst hX dX8_pass_99 ic_2 rfl ?_
            refine g_goto (n := 104) hX dX8_pass_100 (by decide) ?_
            refine g_iret hX hR dX8_pass_104 ?_
            skip
            cases hcb : carB (talK (upd (M 131) 3 (M 131 3 + d)) nk nm) (vSe (upd (M 131) 3 (M 131 3 + d))) with
            | true => first
              | (rw [hcb] at zc96; exact absurd zc96 (by decide))
              | (simp only [gset_gset, gset_eq]; rfl)
            | false => first
              | (rw [hcb] at zc96; exact absurd rfl zc96)
              | (simp only [gset_gset, gset_eq]; rfl)
    · rw [e, if_neg hle]
      refine g_iload_n (i := 1) hX dX8_pass_0 rfl rfl rfl ?_
      refine g_iconst hX dX8_pass_1 ic_1 rfl ?_
      refine g_sipush hX dX8_pass_2 sc_365 rfl ?_
      refine g_callSi hX (c_X8_in E M _ _ _) kf_X8_in rfl wk_X8_23 rfl rfl rfl rfl dX8_pass_5 rfl (fun x5 M5 h5 => ?_)
      obtain ⟨rfl, hMq⟩ := h5; have hMq := hMq.symm; subst hMq
      first | refine g_if_neB (tgt := 13) hX dX8_pass_8 (by decide) rfl (fun zc8 => ?_) (fun zc8 => Bool.noConfusion (hi.symm.trans zc8)) | refine g_if_ne (tgt := 13) hX dX8_pass_8 (by decide) rfl (fun zc8 => ?_) (fun zc8 => Bool.noConfusion (hi.symm.trans zc8))
      refine g_aload_n (i := 0) hX dX8_pass_13 rfl rfl rfl ?_
      refine g_getR hX fl_X8_7 rfl rfl dX8_pass_14 rfl ?_
      refine g_iconst hX dX8_pass_17 ic_3 rfl ?_
      refine g_ialdv (x := M 131 3) hX rfl (rfl) (by omega) rfl (rfl) dX8_pass_18 rfl ?_
      refine g_iload_n (i := 1) hX dX8_pass_19 rfl rfl rfl ?_
      refine g_iadd hX dX8_pass_20 rfl ?_
      refine g_sipush hX dX8_pass_21 sc_10000 rfl ?_
      refine g_icmp_le (tgt := 30) hX dX8_pass_24 (by decide) rfl (fun zc24 => absurd zc24 hle) (fun zc24 => ?_)
      refine g_bipush hX dX8_pass_27 bc_m3 rfl ?_
      refine g_iret hX hR dX8_pass_29 ?_
      rfl
def y_tally (M : gM) (nm nk : Nat) (op : Bool) (w : Int32) : Int32 × gM := if inR w 6 = true then (if M 131 5 = 0 then (-4, M) else if op = true then (talN (M 131) nk nm w.toNatClampNeg, gset M 131 (blkTo 17 6 (talN (M 131) nk nm) (M 131))) else (M 131 (17 + w.toNatClampNeg), M)) else (-1, M)
theorem c_X8_tally (E : gE) (M : gM) (nm nk : Nat) (op : Bool) (vt : Nat → Nat) (w : Int32) (hm : M 131 0 = nI nm) (hmb : nm ≤ 10) (hk : M 131 9 = nI nk) (hkb : nk ≤ 30) (hv : ∀ m, m < nm → vt m ≤ 3 ∧ vVo (M 131) m = nI (vt m)) (hop : M 131 4 = gB op) : gMet E k_X8_tally [.ref 130, .int w] M (gInt fun r M' => (r, M') = y_tally M nm nk op w) := by
  refine gMet.of (by decide +kernel) rfl (Nat.le_of_ble_eq_true rfl) (fun X hX hR => ?_)
  have e5 : inI w (nI 0) (nI 5) = inR w 6 := inI_R' (by decide)
  cases hw : inR w 6 with
  | false =>
    have e : y_tally M nm nk op w = (-1, M) := by simp [y_tally, hw]
    rw [e]
    refine g_iload_n (i := 1) hX dX8_tally_0 rfl rfl rfl ?_
    refine g_iconst hX dX8_tally_1 ic_0 rfl ?_
    refine g_iconst hX dX8_tally_2 ic_5 rfl ?_
    refine g_callSi hX (c_X8_in E M _ _ _) kf_X8_in rfl wk_X8_23 rfl rfl rfl rfl dX8_tally_3 rfl (fun x3 M3 h3 => ?_)
    obtain ⟨rfl, hMq⟩ := h3; have hMq := hMq.symm; subst hMq
    first | refine g_if_neB (tgt := 11) hX dX8_tally_6 (by decide) rfl (fun zc6 => Bool.noConfusion (hw.symm.trans (e5.symm.trans zc6))) (fun zc6 => ?_) | refine g_if_ne (tgt := 11) hX dX8_tally_6 (by decide) rfl (fun zc6 => Bool.noConfusion (hw.symm.trans (e5.symm.trans zc6))) (fun zc6 => ?_)
    refine g_iconst hX dX8_tally_9 ic_m1 rfl ?_
    refine g_iret hX hR dX8_tally_10 ?_
    rfl
  | true =>
    obtain ⟨j, hj, rfl⟩ := inR_t (by decide) hw
    have e : y_tally M nm nk op (nI j) = if M 131 5 = 0 then (-4, M) else if op = true then (talN (M 131) nk nm j, gset M 131 (blkTo 17 6 (talN (M 131) nk nm) (M 131))) else (M 131 (17 + j), M) := by rw [y_tally, hw, cl_nI (by omega)]; rfl
    rw [e]
    refine g_iload_n (i := 1) hX dX8_tally_0 rfl rfl rfl ?_
    refine g_iconst hX dX8_tally_1 ic_0 rfl ?_
    refine g_iconst hX dX8_tally_2 ic_5 rfl ?_
    refine g_callSi hX (c_X8_in E M _ _ _) kf_X8_in rfl wk_X8_23 rfl rfl rfl rfl dX8_tally_3 rfl (fun x3 M3 h3 => ?_)
    obtain ⟨rfl, hMq⟩ := h3; have hMq := hMq.symm; subst hMq
    first | refine g_if_neB (tgt := 11) hX dX8_tally_6 (by decide) rfl (fun zc6 => ?_) (fun zc6 => Bool.noConfusion (hw.symm.trans (e5.symm.trans zc6))) | refine g_if_ne (tgt := 11) hX dX8_tally_6 (by decide) rfl (fun zc6 => ?_) (fun zc6 => Bool.noConfusion (hw.symm.trans (e5.symm.trans zc6)))
    refine g_aload_n (i := 0) hX dX8_tally_11 rfl rfl rfl ?_
    refine g_getR hX fl_X8_7 rfl rfl dX8_tally_12 rfl ?_
    refine g_iconst hX dX8_tally_15 ic_5 rfl ?_
    refine g_ialdv (x := M 131 5) hX rfl (rfl) (by omega) rfl (rfl) dX8_tally_16 rfl ?_
    refine g_if_ne (tgt := 23) hX dX8_tally_17 (by decide) rfl (fun zc17 => ?_) (fun zc17 => ?_)
    · skip
      refine g_aload_n (i := 0) hX dX8_tally_23 rfl rfl rfl ?_
      refine g_getR hX fl_X8_7 rfl rfl dX8_tally_24 rfl ?_
      refine g_iconst hX dX8_tally_27 ic_4 rfl ?_
      refine g_ialdv (x := gB op) hX rfl (rfl) (by omega) rfl (hop) dX8_tally_28 rfl ?_
      refine g_iconst hX dX8_tally_29 ic_1 rfl ?_
      refine g_icmp_ne (tgt := 37) hX dX8_tally_30 (by decide) rfl (fun zc30 => ?_) (fun zc30 => ?_)
      · skip
        have zd30 : ¬ op = true := fun q => zc30 (by rw [q]; rfl)
        refine g_aload_n (i := 0) hX dX8_tally_37 rfl rfl rfl ?_
        refine g_getR hX fl_X8_7 rfl rfl dX8_tally_38 rfl ?_
        refine g_bipush hX dX8_tally_41 bc_17 rfl ?_
        refine g_iload_n (i := 1) hX dX8_tally_43 rfl rfl rfl ?_
        first | refine g_iaddN hX dX8_tally_44 rfl ?_ | refine g_iadd hX dX8_tally_44 rfl ?_
        refine g_iald hX rfl (rfl) (by omega) rfl dX8_tally_45 rfl ?_
        refine g_iret hX hR dX8_tally_46 ?_
        first
        | (rw [if_neg zc17, if_neg zd30]; done)
        | (rw [if_neg zc17, if_pos zd30, gset_eq, blk_in hj]; done)
      · skip
        have zd30 : op = true := by
          cases h : op with
          | true => rfl
          | false => rw [h] at zc30; exact absurd zc30 (by decide)
        refine g_aload_n (i := 0) hX dX8_tally_33 rfl rfl rfl ?_
        refine g_callVv hX (c_X8_tallies E M nm nk vt hm hmb hk hkb hv) kf_X8_tallies rfl wk_X8_80 rfl rfl rfl rfl rfl dX8_tally_34 rfl (fun M34 h34 => ?_)
        subst h34
        refine g_aload_n (i := 0) hX dX8_tally_37 rfl rfl rfl ?_
        refine g_getR hX fl_X8_7 rfl rfl dX8_tally_38 rfl ?_
        refine g_bipush hX dX8_tally_41 bc_17 rfl ?_
        refine g_iload_n (i := 1) hX dX8_tally_43 rfl rfl rfl ?_
        first | refine g_iaddN hX dX8_tally_44 rfl ?_ | refine g_iadd hX dX8_tally_44 rfl ?_
        refine g_iald hX rfl (rfl) (by omega) rfl dX8_tally_45 rfl ?_
        refine g_iret hX hR dX8_tally_46 ?_
        first
        | (rw [if_neg zc17, if_neg zd30]; done)
        | (rw [if_neg zc17, if_pos zd30, gset_eq, blk_in hj]; done)
    · skip
      refine g_bipush hX dX8_tally_20 bc_m4 rfl ?_
      refine g_iret hX hR dX8_tally_22 ?_
      rw [if_pos zc17]
theorem carB4_congr {a r y n : Int32} {f g : Nat → Int32} (h0 : f 0 = g 0) (h1 : f 1 = g 1) : carB4 a r y n f = carB4 a r y n g := by simp only [carB4, h0, h1]
def y_lacking (M : gM) (nm nk kL : Nat) (op : Bool) : Int32 × gM := if op = true then (if talN (M 131) nk nm 0 = 0 ∨ (vSe (M 131) 1 = 100 ∧ 0 < talN (M 131) nk nm 3) then -4 else nI kL, gset M 131 (blkTo 17 6 (talN (M 131) nk nm) (M 131))) else (-2, M)
theorem c_X8_lacking (E : gE) (M : gM) (nm nk kL : Nat) (op : Bool) (vt : Nat → Nat) (hm : M 131 0 = nI nm) (hmb : nm ≤ 10) (hk : M 131 9 = nI nk) (hkb : nk ≤ 30) (hv : ∀ m, m < nm → vt m ≤ 3 ∧ vVo (M 131) m = nI (vt m)) (hop : M 131 4 = gB op)
    (hL : op = true → ¬ (talN (M 131) nk nm 0 = 0 ∨ (vSe (M 131) 1 = 100 ∧ 0 < talN (M 131) nk nm 3)) → carB4 (talN (M 131) nk nm 0) (talN (M 131) nk nm 1 + nI kL) (talN (M 131) nk nm 2 + nI kL) (talN (M 131) nk nm 3) (vSe (M 131)) = true ∧ ∀ j, j < kL → carB4 (talN (M 131) nk nm 0) (talN (M 131) nk nm 1 + nI j) (talN (M 131) nk nm 2 + nI j) (talN (M 131) nk nm 3) (vSe (M 131)) = false) : gMet E k_X8_lacking [.ref 130] M (gInt fun r M' => (r, M') = y_lacking M nm nk kL op) := by
  refine gMet.of (by decide +kernel) rfl (Nat.le_of_ble_eq_true rfl) (fun X hX hR => ?_)
  cases hopv : op with
  | false =>
    subst hopv
    refine g_aload_n (i := 0) hX dX8_lacking_0 rfl rfl rfl ?_
    refine g_getR hX fl_X8_7 rfl rfl dX8_lacking_1 rfl ?_
    refine g_iconst hX dX8_lacking_4 ic_4 rfl ?_
    refine g_ialdv (x := nI 0) hX rfl (rfl) (by omega) rfl (hop) dX8_lacking_5 rfl ?_
    refine g_if_ne (tgt := 12) hX dX8_lacking_6 (by decide) rfl (fun zc6 => absurd zc6 (by decide)) (fun zc6 => ?_)
    refine g_bipush hX dX8_lacking_9 bc_m2 rfl ?_
    refine g_iret hX hR dX8_lacking_11 ?_
    rfl
  | true =>
    subst hopv
    have e : y_lacking M nm nk kL true = (if talN (M 131) nk nm 0 = 0 ∨ (vSe (M 131) 1 = 100 ∧ 0 < talN (M 131) nk nm 3) then -4 else nI kL, gset M 131 (blkTo 17 6 (talN (M 131) nk nm) (M 131))) := if_pos rfl
    rw [e]
    have b13 : ∀ g, blkTo 17 6 g (M 131) 13 = vSe (M 131) 1 := fun g => blk_out (by omega)
    have bi : ∀ j, j < 6 → blkTo 17 6 (talN (M 131) nk nm) (M 131) (17 + j) = talN (M 131) nk nm j := fun j h => blk_in h
    have ec : ∀ a r y n, carB4 a r y n (vSe (blkTo 17 6 (talN (M 131) nk nm) (M 131))) = carB4 a r y n (vSe (M 131)) := fun a r y n => carB4_congr (blk_out (by omega)) (blk_out (by omega))
    have tail : ¬ (talN (M 131) nk nm 0 = 0 ∨ (vSe (M 131) 1 = 100 ∧ 0 < talN (M 131) nk nm 3)) → ∀ k, k ≤ kL → gG X E (gset M 131 (blkTo 17 6 (talN (M 131) nk nm) (M 131))) 57 [some (.ref 130), some (.int (talN (M 131) nk nm 0)), some (.int (talN (M 131) nk nm 3)), some (.int (nI k))] [] (gQ X E (gInt fun r M' => (r, M') = (if talN (M 131) nk nm 0 = 0 ∨ (vSe (M 131) 1 = 100 ∧ 0 < talN (M 131) nk nm 3) then -4 else nI kL, gset M 131 (blkTo 17 6 (talN (M 131) nk nm) (M 131))))) := by
      intro hno
      obtain ⟨l1, l2⟩ := hL rfl hno
      refine up_loop kL _ ?_ ?_
      · skip
        refine g_aload_n (i := 0) hX dX8_lacking_57 rfl rfl rfl ?_
        refine g_iload_n (i := 1) hX dX8_lacking_58 rfl rfl rfl ?_
        refine g_aload_n (i := 0) hX dX8_lacking_59 rfl rfl rfl ?_
        refine g_getR hX fl_X8_7 rfl rfl dX8_lacking_60 rfl ?_
        refine g_bipush hX dX8_lacking_63 bc_18 rfl ?_
        refine g_ialdv (x := talN (M 131) nk nm 1) hX rfl ((rfl : _ = nI (17 + 1))) (by omega) rfl (bi 1 (by decide)) dX8_lacking_65 rfl ?_
        refine g_iload_n (i := 3) hX dX8_lacking_66 rfl rfl rfl ?_
        refine g_iadd hX dX8_lacking_67 rfl ?_
        refine g_aload_n (i := 0) hX dX8_lacking_68 rfl rfl rfl ?_
        refine g_getR hX fl_X8_7 rfl rfl dX8_lacking_69 rfl ?_
        refine g_bipush hX dX8_lacking_72 bc_19 rfl ?_
        refine g_ialdv (x := talN (M 131) nk nm 2) hX rfl ((rfl : _ = nI (17 + 2))) (by omega) rfl (bi 2 (by decide)) dX8_lacking_74 rfl ?_
        refine g_iload_n (i := 3) hX dX8_lacking_75 rfl rfl rfl ?_
        refine g_iadd hX dX8_lacking_76 rfl ?_
        refine g_iload_n (i := 2) hX dX8_lacking_77 rfl rfl rfl ?_
        refine g_callVi hX (c_X8_carries E _ _ _ _ _) kf_X8_carries rfl wk_X8_76 rfl rfl rfl rfl rfl dX8_lacking_78 rfl (fun x78 M78 h78 => ?_)
        obtain ⟨rfl, hMq⟩ := h78; have hMq := hMq.symm; subst hMq
        first | refine g_if_neB (tgt := 90) hX dX8_lacking_81 (by decide) rfl (fun zc81 => ?_) (fun zc81 => Bool.noConfusion (zc81.symm.trans ((ec _ _ _ _).trans l1))) | refine g_if_ne (tgt := 90) hX dX8_lacking_81 (by decide) rfl (fun zc81 => ?_) (fun zc81 => Bool.noConfusion (zc81.symm.trans ((ec _ _ _ _).trans l1)))
        refine g_iload_n (i := 3) hX dX8_lacking_90 rfl rfl rfl ?_
        refine g_iret hX hR dX8_lacking_91 ?_
        rw [if_neg hno]
      · intro k hk' ih
        refine g_aload_n (i := 0) hX dX8_lacking_57 rfl rfl rfl ?_
        refine g_iload_n (i := 1) hX dX8_lacking_58 rfl rfl rfl ?_
        refine g_aload_n (i := 0) hX dX8_lacking_59 rfl rfl rfl ?_
        refine g_getR hX fl_X8_7 rfl rfl dX8_lacking_60 rfl ?_
        refine g_bipush hX dX8_lacking_63 bc_18 rfl ?_
        refine g_ialdv (x := talN (M 131) nk nm 1) hX rfl ((rfl : _ = nI (17 + 1))) (by omega) rfl (bi 1 (by decide)) dX8_lacking_65 rfl ?_
        refine g_iload_n (i := 3) hX dX8_lacking_66 rfl rfl rfl ?_
        refine g_iadd hX dX8_lacking_67 rfl ?_
        refine g_aload_n (i := 0) hX dX8_lacking_68 rfl rfl rfl ?_
        refine g_getR hX fl_X8_7 rfl rfl dX8_lacking_69 rfl ?_
        refine g_bipush hX dX8_lacking_72 bc_19 rfl ?_
        refine g_ialdv (x := talN (M 131) nk nm 2) hX rfl ((rfl : _ = nI (17 + 2))) (by omega) rfl (bi 2 (by decide)) dX8_lacking_74 rfl ?_
        refine g_iload_n (i := 3) hX dX8_lacking_75 rfl rfl rfl ?_
        refine g_iadd hX dX8_lacking_76 rfl ?_
        refine g_iload_n (i := 2) hX dX8_lacking_77 rfl rfl rfl ?_
        refine g_callVi hX (c_X8_carries E _ _ _ _ _) kf_X8_carries rfl wk_X8_76 rfl rfl rfl rfl rfl dX8_lacking_78 rfl (fun x78 M78 h78 => ?_)
        obtain ⟨rfl, hMq⟩ := h78; have hMq := hMq.symm; subst hMq
        first | refine g_if_neB (tgt := 90) hX dX8_lacking_81 (by decide) rfl (fun zc81 => Bool.noConfusion (zc81.symm.trans ((ec _ _ _ _).trans (l2 k hk')))) (fun zc81 => ?_) | refine g_if_ne (tgt := 90) hX dX8_lacking_81 (by decide) rfl (fun zc81 => Bool.noConfusion (zc81.symm.trans ((ec _ _ _ _).trans (l2 k hk')))) (fun zc81 => ?_)
        first | refine g_iincN hX dX8_lacking_84 ic_1 rfl (Nat.le_of_ble_eq_true rfl) rfl ?_ | refine g_iinc hX dX8_lacking_84 ic_1 rfl rfl (Nat.le_of_ble_eq_true rfl) rfl ?_
        refine g_goto (n := 57) hX dX8_lacking_87 (by decide) ?_
        exact ih
    refine g_aload_n (i := 0) hX dX8_lacking_0 rfl rfl rfl ?_
    refine g_getR hX fl_X8_7 rfl rfl dX8_lacking_1 rfl ?_
    refine g_iconst hX dX8_lacking_4 ic_4 rfl ?_
    refine g_ialdv (x := nI 1) hX rfl (rfl) (by omega) rfl (hop) dX8_lacking_5 rfl ?_
    refine g_if_ne (tgt := 12) hX dX8_lacking_6 (by decide) rfl (fun zc6 => ?_) (fun zc6 => absurd zc6 (by decide))
    refine g_aload_n (i := 0) hX dX8_lacking_12 rfl rfl rfl ?_
    refine g_callVv hX (c_X8_tallies E M nm nk vt hm hmb hk hkb hv) kf_X8_tallies rfl wk_X8_80 rfl rfl rfl rfl rfl dX8_lacking_13 rfl (fun M13 h13 => ?_)
    subst h13
    refine g_aload_n (i := 0) hX dX8_lacking_16 rfl rfl rfl ?_
    refine g_getR hX fl_X8_7 rfl rfl dX8_lacking_17 rfl ?_
    refine g_bipush hX dX8_lacking_20 bc_17 rfl ?_
    refine g_ialdv (x := talN (M 131) nk nm 0) hX rfl ((rfl : _ = nI (17 + 0))) (by omega) rfl (bi 0 (by decide)) dX8_lacking_22 rfl ?_
    refine g_istore_n (i := 1) hX dX8_lacking_23 rfl (Nat.le_of_ble_eq_true rfl) rfl ?_
    refine g_aload_n (i := 0) hX dX8_lacking_24 rfl rfl rfl ?_
    refine g_getR hX fl_X8_7 rfl rfl dX8_lacking_25 rfl ?_
    refine g_bipush hX dX8_lacking_28 bc_20 rfl ?_
    refine g_ialdv (x := talN (M 131) nk nm 3) hX rfl ((rfl : _ = nI (17 + 3))) (by omega) rfl (bi 3 (by decide)) dX8_lacking_30 rfl ?_
    refine g_istore_n (i := 2) hX dX8_lacking_31 rfl (Nat.le_of_ble_eq_true rfl) rfl ?_
    refine g_iload_n (i := 1) hX dX8_lacking_32 rfl rfl rfl ?_
    refine g_if_eq (tgt := 52) hX dX8_lacking_33 (by decide) rfl (fun zc33 => ?_) (fun zc33 => ?_)
    · skip
      refine g_bipush hX dX8_lacking_52 bc_m4 rfl ?_
      refine g_iret hX hR dX8_lacking_54 ?_
      first
      | (rw [if_pos (Or.inl zc33)]; done)
      | (rw [if_pos (Or.inr ⟨zc45, zd49⟩)]; done)
    · skip
      refine g_aload_n (i := 0) hX dX8_lacking_36 rfl rfl rfl ?_
      refine g_getR hX fl_X8_7 rfl rfl dX8_lacking_37 rfl ?_
      refine g_bipush hX dX8_lacking_40 bc_13 rfl ?_
      refine g_ialdv (x := vSe (M 131) 1) hX rfl (rfl) (by omega) rfl (b13 (talN (M 131) nk nm)) dX8_lacking_42 rfl ?_
      refine g_bipush hX dX8_lacking_43 bc_100 rfl ?_
      refine g_icmp_ne (tgt := 55) hX dX8_lacking_45 (by decide) rfl (fun zc45 => ?_) (fun zc45 => ?_)
      · skip
        refine g_iconst hX dX8_lacking_55 ic_0 rfl ?_
        refine g_istore_n (i := 3) hX dX8_lacking_56 rfl (Nat.le_of_ble_eq_true rfl) rfl ?_
        first
        | exact tail (fun q => q.elim zc33 (fun q => zd49 q.2)) 0 (Nat.zero_le _)
        | exact tail (fun q => q.elim zc33 (fun q => zc45 q.1)) 0 (Nat.zero_le _)
      · skip
        refine g_iload_n (i := 2) hX dX8_lacking_48 rfl rfl rfl ?_
        refine g_if_le (tgt := 55) hX dX8_lacking_49 (by decide) rfl (fun zc49 => ?_) (fun zc49 => ?_)
        · skip
          have zd49 : ¬ 0 < talN (M 131) nk nm 3 := Int32.not_lt.mpr zc49
          refine g_iconst hX dX8_lacking_55 ic_0 rfl ?_
          refine g_istore_n (i := 3) hX dX8_lacking_56 rfl (Nat.le_of_ble_eq_true rfl) rfl ?_
          first
          | exact tail (fun q => q.elim zc33 (fun q => zd49 q.2)) 0 (Nat.zero_le _)
          | exact tail (fun q => q.elim zc33 (fun q => zc45 q.1)) 0 (Nat.zero_le _)
        · skip
          have zd49 : 0 < talN (M 131) nk nm 3 := Int32.not_le.mp zc49
          refine g_bipush hX dX8_lacking_52 bc_m4 rfl ?_
          refine g_iret hX hR dX8_lacking_54 ?_
          first
          | (rw [if_pos (Or.inl zc33)]; done)
          | (rw [if_pos (Or.inr ⟨zc45, zd49⟩)]; done)
def n_comment (N : Nat → Int32) (nk : Nat) (m c k v : Int32) : Nat → Int32 := upd (upd (upd (upd (upd (blkTo (973 + 8 * nk) 8 (fun _ => 0) N) (973 + 8 * nk + 0) m) (973 + 8 * nk + 1) c) (973 + 8 * nk + 2) k) (973 + 8 * nk + 3) v) 9 (nI (nk + 1))
theorem c_X8_comes (E : gE) (M : gM) (nk : Nat) (m c k v : Int32) (hk : M 131 9 = nI nk) (hkb : nk < 30) : gMet E k_X8_comes [.ref 130, .int m, .int c, .int k, .int v] M (gInt fun r M' => r = nI nk ∧ M' = gset M 131 (n_comment (M 131) nk m c k v)) := by
  refine gMet.of (by decide +kernel) rfl (Nat.le_of_ble_eq_true rfl) (fun X hX hR => ?_)
  have loop := up_loop 8 (fun q => gG X E (gset M 131 (blkTo (973 + 8 * nk) q (fun _ => 0) (M 131))) 15 [some (.ref 130), some (.int m), some (.int c), some (.int k), some (.int v), some (.int (nI (973 + 8 * nk))), some (.int (nI q))] [] (gQ X E (gInt fun r M' => r = nI nk ∧ M' = gset M 131 (n_comment (M 131) nk m c k v)))) ?_ ?_
  · skip
    refine g_aload_n (i := 0) hX dX8_comes_0 rfl rfl rfl ?_
    refine g_getR hX fl_X8_7 rfl rfl dX8_comes_1 rfl ?_
    refine g_bipush hX dX8_comes_4 bc_9 rfl ?_
    refine g_ialdv (x := nI nk) hX rfl (rfl) (by omega) rfl (hk) dX8_comes_6 rfl ?_
    refine g_callSi hX (c_X8_commentAt E M nk) kf_X8_commentAt rfl wk_X8_48 rfl rfl rfl rfl dX8_comes_7 rfl (fun x7 M7 h7 => ?_)
    obtain ⟨rfl, hMq⟩ := h7; have hMq := hMq.symm; subst hMq
    refine g_istore hX dX8_comes_10 (Nat.le_of_ble_eq_true rfl) rfl ?_
    refine g_iconst hX dX8_comes_12 ic_0 rfl ?_
    refine g_istore hX dX8_comes_13 (Nat.le_of_ble_eq_true rfl) rfl ?_
    exact gGM (by rw [blkTo_0, gset_self]) (loop 0 (Nat.zero_le _))
  · skip
    refine g_iload hX dX8_comes_15 rfl rfl ?_
    refine g_bipush hX dX8_comes_17 bc_8 rfl ?_
    first | refine g_icmp_geN (tgt := 39) hX dX8_comes_19 (by decide) rfl (by omega) (by omega) (fun zc19 => ?_) (fun zc19 => absurd zc19 (by omega)) | refine g_icmp_ge (tgt := 39) hX dX8_comes_19 (by decide) rfl (fun zc19 => ?_) (fun zc19 => absurd zc19 (by omega))
    refine g_aload_n (i := 0) hX dX8_comes_39 rfl rfl rfl ?_
    refine g_getR hX fl_X8_7 rfl rfl dX8_comes_40 rfl ?_
    refine g_iload hX dX8_comes_43 rfl rfl ?_
    refine g_iconst hX dX8_comes_45 ic_0 rfl ?_
    first | refine g_iaddN hX dX8_comes_46 rfl ?_ | refine g_iadd hX dX8_comes_46 rfl ?_
    refine g_iload_n (i := 1) hX dX8_comes_47 rfl rfl rfl ?_
    refine g_iast hX rfl (rfl) (by omega) rfl dX8_comes_48 rfl ?_
    refine g_aload_n (i := 0) hX dX8_comes_49 rfl rfl rfl ?_
    refine g_getR hX fl_X8_7 rfl rfl dX8_comes_50 rfl ?_
    refine g_iload hX dX8_comes_53 rfl rfl ?_
    refine g_iconst hX dX8_comes_55 ic_1 rfl ?_
    first | refine g_iaddN hX dX8_comes_56 rfl ?_ | refine g_iadd hX dX8_comes_56 rfl ?_
    refine g_iload_n (i := 2) hX dX8_comes_57 rfl rfl rfl ?_
    refine g_iast hX rfl (rfl) (by omega) rfl dX8_comes_58 rfl ?_
    refine g_aload_n (i := 0) hX dX8_comes_59 rfl rfl rfl ?_
    refine g_getR hX fl_X8_7 rfl rfl dX8_comes_60 rfl ?_
    refine g_iload hX dX8_comes_63 rfl rfl ?_
    refine g_iconst hX dX8_comes_65 ic_2 rfl ?_
    first | refine g_iaddN hX dX8_comes_66 rfl ?_ | refine g_iadd hX dX8_comes_66 rfl ?_
    refine g_iload_n (i := 3) hX dX8_comes_67 rfl rfl rfl ?_
    refine g_iast hX rfl (rfl) (by omega) rfl dX8_comes_68 rfl ?_
    refine g_aload_n (i := 0) hX dX8_comes_69 rfl rfl rfl ?_
    refine g_getR hX fl_X8_7 rfl rfl dX8_comes_70 rfl ?_
    refine g_iload hX dX8_comes_73 rfl rfl ?_
    refine g_iconst hX dX8_comes_75 ic_3 rfl ?_
    first | refine g_iaddN hX dX8_comes_76 rfl ?_ | refine g_iadd hX dX8_comes_76 rfl ?_
    refine g_iload hX dX8_comes_77 rfl rfl ?_
    refine g_iast hX rfl (rfl) (by omega) rfl dX8_comes_79 rfl ?_
    refine g_aload_n (i := 0) hX dX8_comes_80 rfl rfl rfl ?_
    refine g_getR hX fl_X8_7 rfl rfl dX8_comes_81 rfl ?_
    refine g_bipush hX dX8_comes_84 bc_9 rfl ?_
    refine g_dup2 hX dX8_comes_86 rfl rfl rfl ?_
    refine g_ialdv (x := nI nk) hX rfl (rfl) (by omega) rfl ((by simp only [gset_eq]; rw [upd_n _ _ (by omega), upd_n _ _ (by omega), upd_n _ _ (by omega), upd_n _ _ (by omega), blk_out (by omega)]; exact hk)) dX8_comes_87 rfl ?_
    refine g_iconst hX dX8_comes_88 ic_1 rfl ?_
    first | refine g_iaddN hX dX8_comes_89 rfl ?_ | refine g_iadd hX dX8_comes_89 rfl ?_
    refine g_iast hX rfl (rfl) (by omega) rfl dX8_comes_90 rfl ?_
    refine g_aload_n (i := 0) hX dX8_comes_91 rfl rfl rfl ?_
    refine g_getR hX fl_X8_7 rfl rfl dX8_comes_92 rfl ?_
    refine g_bipush hX dX8_comes_95 bc_9 rfl ?_
    refine g_ialdv (x := nI (nk + 1)) hX rfl (rfl) (by omega) rfl ((by simp only [gset_eq]; exact upd_s _ _ _)) dX8_comes_97 rfl ?_
    refine g_iconst hX dX8_comes_98 ic_1 rfl ?_
    refine g_isubN hX dX8_comes_99 (by omega) rfl ?_
    refine g_iret hX hR dX8_comes_100 ?_
    refine ⟨rfl, ?_⟩
    simp only [gset_gset, gset_eq]; rfl
  · intro q hq ih
    have hs2 := blkTo_succ (973 + 8 * nk) q (fun _ => 0) (M 131)
    refine g_iload hX dX8_comes_15 rfl rfl ?_
    refine g_bipush hX dX8_comes_17 bc_8 rfl ?_
    first | refine g_icmp_geN (tgt := 39) hX dX8_comes_19 (by decide) rfl (by omega) (by omega) (fun zc19 => absurd zc19 (by omega)) (fun zc19 => ?_) | refine g_icmp_ge (tgt := 39) hX dX8_comes_19 (by decide) rfl (fun zc19 => absurd zc19 (by omega)) (fun zc19 => ?_)
    refine g_aload_n (i := 0) hX dX8_comes_22 rfl rfl rfl ?_
    refine g_getR hX fl_X8_7 rfl rfl dX8_comes_23 rfl ?_
    refine g_iload hX dX8_comes_26 rfl rfl ?_
    refine g_iload hX dX8_comes_28 rfl rfl ?_
    first | refine g_iaddN hX dX8_comes_30 rfl ?_ | refine g_iadd hX dX8_comes_30 rfl ?_
    refine g_iconst hX dX8_comes_31 ic_0 rfl ?_
    refine g_iast hX rfl (rfl) (by omega) rfl dX8_comes_32 rfl ?_
    first | refine g_iincN hX dX8_comes_33 ic_1 rfl (Nat.le_of_ble_eq_true rfl) rfl ?_ | refine g_iinc hX dX8_comes_33 ic_1 rfl rfl (Nat.le_of_ble_eq_true rfl) rfl ?_
    refine g_goto (n := 15) hX dX8_comes_36 (by decide) ?_
    exact gGM (by rw [gset_gset]; exact congrArg (gset _ 131) hs2) ih
def y_comment (M : gM) (nm nc nk sv : Nat) (op : Bool) (m c k v : Int32) : Int32 × gM := match fndTo nc (fun q => decide (vNb (M 131) q = c)) with
  | none => (-1, M)
  | some p => if inR m nm = true ∧ inI k (nI 0) (nI 1) = true ∧ inI v (nI 0) (nI 9999) = true then (if op = false ∨ vPr (M 131) p = v then (-2, M) else if nk = 30 then (-3, M) else (nI nk, gset (m_rec M sv) 131 (n_comment (M 131) nk m c k v))) else (-1, M)
theorem c_X8_comment (E : gE) (M : gM) (nm nc nk sv : Nat) (op : Bool) (m c k v : Int32) (hm : M 131 0 = nI nm) (hmb : nm ≤ 10) (hc : M 131 1 = nI nc) (hcb : nc ≤ 20) (hk : M 131 9 = nI nk) (hkb : nk ≤ 30) (hop : M 131 4 = gB op) (hs : M 130 2 = nI sv) (hb : sv ≤ 4) : gMet E k_X8_comment [.ref 130, .int m, .int c, .int k, .int v] M (gInt fun r M' => (r, M') = y_comment M nm nc nk sv op m c k v) := by
  refine gMet.of (by decide +kernel) rfl (Nat.le_of_ble_eq_true rfl) (fun X hX hR => ?_)
  have K : m_rec M sv 131 = M 131 := rec_ne (by decide)
  cases hf : fndTo nc (fun q => decide (vNb (M 131) q = c)) with
  | none =>
    have e : y_comment M nm nc nk sv op m c k v = (-1, M) := by rw [y_comment, hf]
    rw [e]
    refine g_aload_n (i := 0) hX dX8_comment_0 rfl rfl rfl ?_
    refine g_iload_n (i := 2) hX dX8_comment_1 rfl rfl rfl ?_
    refine g_callVi hX (c_X8_indexOf E M nc c hc hcb) kf_X8_indexOf rfl wk_X8_41 rfl rfl rfl rfl rfl dX8_comment_2 rfl (fun x2 M2 h2 => ?_)
    obtain ⟨hx, hm0⟩ := h2; have hm0 := hm0.symm; subst hm0; rw [hf] at hx; subst hx
    refine g_istore hX dX8_comment_5 (Nat.le_of_ble_eq_true rfl) rfl ?_
    refine g_aload_n (i := 0) hX dX8_comment_7 rfl rfl rfl ?_
    refine g_iload_n (i := 1) hX dX8_comment_8 rfl rfl rfl ?_
    refine g_callVi hX (c_X8_isMember E M m nm hm hmb) kf_X8_isMember rfl wk_X8_51 rfl rfl rfl rfl rfl dX8_comment_9 rfl (fun x9 M9 h9 => ?_)
    obtain ⟨rfl, hMq⟩ := h9; have hMq := hMq.symm; subst hMq
    first | refine g_if_eqB (tgt := 37) hX dX8_comment_12 (by decide) rfl (fun zc12 => ?_) (fun zc12 => ?_) | refine g_if_eq (tgt := 37) hX dX8_comment_12 (by decide) rfl (fun zc12 => ?_) (fun zc12 => ?_)
    · skip
      refine g_iconst hX dX8_comment_37 ic_m1 rfl ?_
      refine g_iret hX hR dX8_comment_38 ?_
      rfl
    · skip
      refine g_iload hX dX8_comment_15 rfl rfl ?_
      refine g_if_lt (tgt := 37) hX dX8_comment_17 (by decide) rfl (fun zc17 => ?_) (fun zc17 => absurd (by decide) zc17)
      refine g_iconst hX dX8_comment_37 ic_m1 rfl ?_
      refine g_iret hX hR dX8_comment_38 ?_
      rfl
  | some p =>
    have hp := (fndTo_some hf).1
    have e : y_comment M nm nc nk sv op m c k v = if inR m nm = true ∧ inI k (nI 0) (nI 1) = true ∧ inI v (nI 0) (nI 9999) = true then (if op = false ∨ vPr (M 131) p = v then (-2, M) else if nk = 30 then (-3, M) else (nI nk, gset (m_rec M sv) 131 (n_comment (M 131) nk m c k v))) else (-1, M) := by rw [y_comment, hf]
    rw [e]
    refine g_aload_n (i := 0) hX dX8_comment_0 rfl rfl rfl ?_
    refine g_iload_n (i := 2) hX dX8_comment_1 rfl rfl rfl ?_
    refine g_callVi hX (c_X8_indexOf E M nc c hc hcb) kf_X8_indexOf rfl wk_X8_41 rfl rfl rfl rfl rfl dX8_comment_2 rfl (fun x2 M2 h2 => ?_)
    obtain ⟨hx, hm0⟩ := h2; have hm0 := hm0.symm; subst hm0; rw [hf] at hx; subst hx
    refine g_istore hX dX8_comment_5 (Nat.le_of_ble_eq_true rfl) rfl ?_
    refine g_aload_n (i := 0) hX dX8_comment_7 rfl rfl rfl ?_
    refine g_iload_n (i := 1) hX dX8_comment_8 rfl rfl rfl ?_
    refine g_callVi hX (c_X8_isMember E M m nm hm hmb) kf_X8_isMember rfl wk_X8_51 rfl rfl rfl rfl rfl dX8_comment_9 rfl (fun x9 M9 h9 => ?_)
    obtain ⟨rfl, hMq⟩ := h9; have hMq := hMq.symm; subst hMq
    first | refine g_if_eqB (tgt := 37) hX dX8_comment_12 (by decide) rfl (fun zc12 => ?_) (fun zc12 => ?_) | refine g_if_eq (tgt := 37) hX dX8_comment_12 (by decide) rfl (fun zc12 => ?_) (fun zc12 => ?_)
    · skip
      have zf : ¬ (inR m nm = true ∧ inI k (nI 0) (nI 1) = true ∧ inI v (nI 0) (nI 9999) = true) := fun q => Bool.noConfusion (q.1.symm.trans zc12)
      refine g_iconst hX dX8_comment_37 ic_m1 rfl ?_
      refine g_iret hX hR dX8_comment_38 ?_
      rw [if_neg zf]
    · skip
      refine g_iload hX dX8_comment_15 rfl rfl ?_
      refine g_if_lt (tgt := 37) hX dX8_comment_17 (by decide) rfl (fun zc17 => absurd zc17 (nI_pos (by omega))) (fun zc17 => ?_)
      refine g_iload_n (i := 3) hX dX8_comment_20 rfl rfl rfl ?_
      refine g_iconst hX dX8_comment_21 ic_0 rfl ?_
      refine g_iconst hX dX8_comment_22 ic_1 rfl ?_
      refine g_callSi hX (c_X8_in E M _ _ _) kf_X8_in rfl wk_X8_23 rfl rfl rfl rfl dX8_comment_23 rfl (fun x23 M23 h23 => ?_)
      obtain ⟨rfl, hMq⟩ := h23; have hMq := hMq.symm; subst hMq
      first | refine g_if_eqB (tgt := 37) hX dX8_comment_26 (by decide) rfl (fun zc26 => ?_) (fun zc26 => ?_) | refine g_if_eq (tgt := 37) hX dX8_comment_26 (by decide) rfl (fun zc26 => ?_) (fun zc26 => ?_)
      · skip
        have zf : ¬ (inR m nm = true ∧ inI k (nI 0) (nI 1) = true ∧ inI v (nI 0) (nI 9999) = true) := fun q => Bool.noConfusion (q.2.1.symm.trans zc26)
        refine g_iconst hX dX8_comment_37 ic_m1 rfl ?_
        refine g_iret hX hR dX8_comment_38 ?_
        rw [if_neg zf]
      · skip
        refine g_iload hX dX8_comment_29 rfl rfl ?_
        refine g_callSi hX (c_X8_isValue E M v) kf_X8_isValue rfl wk_X8_37 rfl rfl rfl rfl dX8_comment_31 rfl (fun x31 M31 h31 => ?_)
        obtain ⟨rfl, hMq⟩ := h31; have hMq := hMq.symm; subst hMq
        first | refine g_if_neB (tgt := 39) hX dX8_comment_34 (by decide) rfl (fun zc34 => ?_) (fun zc34 => ?_) | refine g_if_ne (tgt := 39) hX dX8_comment_34 (by decide) rfl (fun zc34 => ?_) (fun zc34 => ?_)
        · skip
          refine g_aload_n (i := 0) hX dX8_comment_39 rfl rfl rfl ?_
          refine g_getR hX fl_X8_7 rfl rfl dX8_comment_40 rfl ?_
          refine g_iconst hX dX8_comment_43 ic_4 rfl ?_
          refine g_ialdv (x := gB op) hX rfl (rfl) (by omega) rfl (hop) dX8_comment_44 rfl ?_
          first | refine g_if_eqB (tgt := 65) hX dX8_comment_45 (by decide) rfl (fun zc45 => ?_) (fun zc45 => ?_) | refine g_if_eq (tgt := 65) hX dX8_comment_45 (by decide) rfl (fun zc45 => ?_) (fun zc45 => ?_)
          · skip
            refine g_bipush hX dX8_comment_65 bc_m2 rfl ?_
            refine g_iret hX hR dX8_comment_67 ?_
            rw [if_pos ⟨zc12, zc26, zc34⟩]
            first
              | (rw [if_pos (Or.inl zc45)]; done)
              | (rw [if_pos (Or.inr zc62)]; done)
          · skip
            refine g_aload_n (i := 0) hX dX8_comment_48 rfl rfl rfl ?_
            refine g_getR hX fl_X8_7 rfl rfl dX8_comment_49 rfl ?_
            refine g_iload hX dX8_comment_52 rfl rfl ?_
            refine g_callSi hX (c_X8_clauseAt E _ p) kf_X8_clauseAt rfl wk_X8_34 rfl rfl rfl rfl dX8_comment_54 rfl (fun x54 M54 h54 => ?_)
            obtain ⟨rfl, hMq⟩ := h54; have hMq := hMq.symm; subst hMq
            refine g_iconst hX dX8_comment_57 ic_1 rfl ?_
            first | refine g_iaddN hX dX8_comment_58 rfl ?_ | refine g_iadd hX dX8_comment_58 rfl ?_
            refine g_iald hX rfl (rfl) (by omega) rfl dX8_comment_59 rfl ?_
            refine g_iload hX dX8_comment_60 rfl rfl ?_
            refine g_icmp_ne (tgt := 68) hX dX8_comment_62 (by decide) rfl (fun zc62 => ?_) (fun zc62 => ?_)
            · skip
              refine g_aload_n (i := 0) hX dX8_comment_68 rfl rfl rfl ?_
              refine g_getR hX fl_X8_7 rfl rfl dX8_comment_69 rfl ?_
              refine g_bipush hX dX8_comment_72 bc_9 rfl ?_
              refine g_ialdv (x := nI nk) hX rfl (rfl) (by omega) rfl (hk) dX8_comment_74 rfl ?_
              refine g_bipush hX dX8_comment_75 bc_30 rfl ?_
              first | refine g_icmp_neN (tgt := 83) hX dX8_comment_77 (by decide) rfl (by omega) (by omega) (fun zc77 => ?_) (fun zc77 => ?_) | refine g_icmp_ne (tgt := 83) hX dX8_comment_77 (by decide) rfl (fun zc77 => ?_) (fun zc77 => ?_)
              · skip
                refine g_aload_n (i := 0) hX dX8_comment_83 rfl rfl rfl ?_
                refine g_callVv hX (c_X8_records E M sv hs hb) kf_X8_records rfl wk_X8_31 rfl rfl rfl rfl rfl dX8_comment_84 rfl (fun M84 h84 => ?_)
                subst h84
                refine g_aload_n (i := 0) hX dX8_comment_87 rfl rfl rfl ?_
                refine g_iload_n (i := 1) hX dX8_comment_88 rfl rfl rfl ?_
                refine g_iload_n (i := 2) hX dX8_comment_89 rfl rfl rfl ?_
                refine g_iload_n (i := 3) hX dX8_comment_90 rfl rfl rfl ?_
                refine g_iload hX dX8_comment_91 rfl rfl ?_
                refine g_callVi hX (c_X8_comes E _ nk m c k v ((congrFun K 9).trans hk) (by omega)) kf_X8_comes rfl wk_X8_87 rfl rfl rfl rfl rfl dX8_comment_93 rfl (fun x93 M93 h93 => ?_)
                obtain ⟨rfl, hMq⟩ := h93; have hMq := hMq.symm; subst hMq
                refine g_iret hX hR dX8_comment_96 ?_
                rw [if_pos ⟨zc12, zc26, zc34⟩, if_neg (fun q => q.elim (fun q => Bool.noConfusion (q.symm.trans zc45)) zc62), if_neg zc77, K]
              · skip
                refine g_bipush hX dX8_comment_80 bc_m3 rfl ?_
                refine g_iret hX hR dX8_comment_82 ?_
                rw [if_pos ⟨zc12, zc26, zc34⟩, if_neg (fun q => q.elim (fun q => Bool.noConfusion (q.symm.trans zc45)) zc62), if_pos zc77]
            · skip
              refine g_bipush hX dX8_comment_65 bc_m2 rfl ?_
              refine g_iret hX hR dX8_comment_67 ?_
              rw [if_pos ⟨zc12, zc26, zc34⟩]
              first
                | (rw [if_pos (Or.inl zc45)]; done)
                | (rw [if_pos (Or.inr zc62)]; done)
        · skip
          have zf : ¬ (inR m nm = true ∧ inI k (nI 0) (nI 1) = true ∧ inI v (nI 0) (nI 9999) = true) := fun q => Bool.noConfusion (q.2.2.symm.trans zc34)
          refine g_iconst hX dX8_comment_37 ic_m1 rfl ?_
          refine g_iret hX hR dX8_comment_38 ?_
          rw [if_neg zf]
def tolG (N : Nat → Int32) (j w : Nat) : Int32 := match w with
  | 0 => vCm N j
  | 1 => vCc N j
  | 2 => vKd N j
  | 3 => vCv N j
  | 4 => vSt N j
  | 5 => if vSt N j < 2 then -4 else vDy N j
  | _ => if gaveB (vSt N j) then vGv N j else -4
def y_told (N : Nat → Int32) (nk : Nat) (c w : Int32) : Int32 := if inR c nk = true ∧ inR w 7 = true then tolG N c.toNatClampNeg w.toNatClampNeg else -1
theorem c_X8_told (E : gE) (M : gM) (nk : Nat) (c w : Int32) (hk : M 131 9 = nI nk) (hkb : nk ≤ 30) : gMet E k_X8_told [.ref 130, .int c, .int w] M (gInt fun r M' => r = y_told (M 131) nk c w ∧ M' = M) := by
  refine gMet.of (by decide +kernel) rfl (Nat.le_of_ble_eq_true rfl) (fun X hX hR => ?_)
  cases hin : inR c nk with
  | false =>
    have e : y_told (M 131) nk c w = -1 := by simp [y_told, hin]
    refine g_aload_n (i := 0) hX dX8_told_0 rfl rfl rfl ?_
    refine g_iload_n (i := 1) hX dX8_told_1 rfl rfl rfl ?_
    refine g_callVi hX (c_X8_isComment E M c nk hk hkb) kf_X8_isComment rfl wk_X8_91 rfl rfl rfl rfl rfl dX8_told_2 rfl (fun x2 M2 h2 => ?_)
    obtain ⟨rfl, hMq⟩ := h2; have hMq := hMq.symm; subst hMq
    first | refine g_if_eqB (tgt := 18) hX dX8_told_5 (by decide) rfl (fun zc5 => ?_) (fun zc5 => Bool.noConfusion (hin.symm.trans zc5)) | refine g_if_eq (tgt := 18) hX dX8_told_5 (by decide) rfl (fun zc5 => ?_) (fun zc5 => Bool.noConfusion (hin.symm.trans zc5))
    refine g_iconst hX dX8_told_18 ic_m1 rfl ?_
    refine g_iret hX hR dX8_told_19 ?_
    exact ⟨e.symm, rfl⟩
  | true =>
    obtain ⟨j, hj, rfl⟩ := inR_t (by omega) hin
    have e6 : inI w (nI 0) (nI 6) = inR w 7 := inI_R' (by decide)
    cases hw : inR w 7 with
    | false =>
      have e : y_told (M 131) nk (nI j) w = -1 := by simp [y_told, hw]
      refine g_aload_n (i := 0) hX dX8_told_0 rfl rfl rfl ?_
      refine g_iload_n (i := 1) hX dX8_told_1 rfl rfl rfl ?_
      refine g_callVi hX (c_X8_isComment E M _ nk hk hkb) kf_X8_isComment rfl wk_X8_91 rfl rfl rfl rfl rfl dX8_told_2 rfl (fun x2 M2 h2 => ?_)
      obtain ⟨rfl, hMq⟩ := h2; have hMq := hMq.symm; subst hMq
      first | refine g_if_eqB (tgt := 18) hX dX8_told_5 (by decide) rfl (fun zc5 => Bool.noConfusion (hin.symm.trans zc5)) (fun zc5 => ?_) | refine g_if_eq (tgt := 18) hX dX8_told_5 (by decide) rfl (fun zc5 => Bool.noConfusion (hin.symm.trans zc5)) (fun zc5 => ?_)
      refine g_iload_n (i := 2) hX dX8_told_8 rfl rfl rfl ?_
      refine g_iconst hX dX8_told_9 ic_0 rfl ?_
      refine g_bipush hX dX8_told_10 bc_6 rfl ?_
      refine g_callSi hX (c_X8_in E M _ _ _) kf_X8_in rfl wk_X8_23 rfl rfl rfl rfl dX8_told_12 rfl (fun x12 M12 h12 => ?_)
      obtain ⟨rfl, hMq⟩ := h12; have hMq := hMq.symm; subst hMq
      first | refine g_if_neB (tgt := 20) hX dX8_told_15 (by decide) rfl (fun zc15 => Bool.noConfusion (hw.symm.trans (e6.symm.trans zc15))) (fun zc15 => ?_) | refine g_if_ne (tgt := 20) hX dX8_told_15 (by decide) rfl (fun zc15 => Bool.noConfusion (hw.symm.trans (e6.symm.trans zc15))) (fun zc15 => ?_)
      refine g_iconst hX dX8_told_18 ic_m1 rfl ?_
      refine g_iret hX hR dX8_told_19 ?_
      exact ⟨e.symm, rfl⟩
    | true =>
      obtain ⟨q, hq, rfl⟩ := inR_t (by decide) hw
      have e : y_told (M 131) nk (nI j) (nI q) = tolG (M 131) j q := by rw [y_told, if_pos ⟨hin, hw⟩, cl_nI (by omega), cl_nI (by omega)]
      rw [e]
      by_cases h5 : q = 5
      · subst h5
        refine g_aload_n (i := 0) hX dX8_told_0 rfl rfl rfl ?_
        refine g_iload_n (i := 1) hX dX8_told_1 rfl rfl rfl ?_
        refine g_callVi hX (c_X8_isComment E M _ nk hk hkb) kf_X8_isComment rfl wk_X8_91 rfl rfl rfl rfl rfl dX8_told_2 rfl (fun x2 M2 h2 => ?_)
        obtain ⟨rfl, hMq⟩ := h2; have hMq := hMq.symm; subst hMq
        first | refine g_if_eqB (tgt := 18) hX dX8_told_5 (by decide) rfl (fun zc5 => Bool.noConfusion (hin.symm.trans zc5)) (fun zc5 => ?_) | refine g_if_eq (tgt := 18) hX dX8_told_5 (by decide) rfl (fun zc5 => Bool.noConfusion (hin.symm.trans zc5)) (fun zc5 => ?_)
        refine g_iload_n (i := 2) hX dX8_told_8 rfl rfl rfl ?_
        refine g_iconst hX dX8_told_9 ic_0 rfl ?_
        refine g_bipush hX dX8_told_10 bc_6 rfl ?_
        refine g_callSi hX (c_X8_in E M _ _ _) kf_X8_in rfl wk_X8_23 rfl rfl rfl rfl dX8_told_12 rfl (fun x12 M12 h12 => ?_)
        obtain ⟨rfl, hMq⟩ := h12; have hMq := hMq.symm; subst hMq
        first | refine g_if_neB (tgt := 20) hX dX8_told_15 (by decide) rfl (fun zc15 => ?_) (fun zc15 => Bool.noConfusion (hw.symm.trans (e6.symm.trans zc15))) | refine g_if_ne (tgt := 20) hX dX8_told_15 (by decide) rfl (fun zc15 => ?_) (fun zc15 => Bool.noConfusion (hw.symm.trans (e6.symm.trans zc15)))
        refine g_iload_n (i := 1) hX dX8_told_20 rfl rfl rfl ?_
        refine g_callSi hX (c_X8_commentAt E M j) kf_X8_commentAt rfl wk_X8_48 rfl rfl rfl rfl dX8_told_21 rfl (fun x21 M21 h21 => ?_)
        obtain ⟨rfl, hMq⟩ := h21; have hMq := hMq.symm; subst hMq
        refine g_istore_n (i := 3) hX dX8_told_24 rfl (Nat.le_of_ble_eq_true rfl) rfl ?_
        refine g_aload_n (i := 0) hX dX8_told_25 rfl rfl rfl ?_
        refine g_getR hX fl_X8_7 rfl rfl dX8_told_26 rfl ?_
        refine g_iload_n (i := 3) hX dX8_told_29 rfl rfl rfl ?_
        refine g_iconst hX dX8_told_30 ic_4 rfl ?_
        first | refine g_iaddN hX dX8_told_31 rfl ?_ | refine g_iadd hX dX8_told_31 rfl ?_
        refine g_ialdv (x := vSt (M 131) j) hX rfl (rfl) (by omega) rfl (rfl) dX8_told_32 rfl ?_
        refine g_istore hX dX8_told_33 (Nat.le_of_ble_eq_true rfl) rfl ?_
        refine g_iload_n (i := 2) hX dX8_told_35 rfl rfl rfl ?_
        refine g_iconst hX dX8_told_36 ic_5 rfl ?_
        first | refine g_icmp_neN (tgt := 46) hX dX8_told_37 (by decide) rfl (by omega) (by omega) (fun zc37 => absurd zc37 (by omega)) (fun zc37 => ?_) | refine g_icmp_ne (tgt := 46) hX dX8_told_37 (by decide) rfl (fun zc37 => absurd zc37 (by omega)) (fun zc37 => ?_)
        refine g_iload hX dX8_told_40 rfl rfl ?_
        refine g_iconst hX dX8_told_42 ic_2 rfl ?_
        refine g_icmp_lt (tgt := 64) hX dX8_told_43 (by decide) rfl (fun zc43 => ?_) (fun zc43 => ?_)
        · skip
          refine g_bipush hX dX8_told_64 bc_m4 rfl ?_
          refine g_iret hX hR dX8_told_66 ?_
          exact ⟨(if_pos zc43).symm, rfl⟩
        · skip
          refine g_iload_n (i := 2) hX dX8_told_46 rfl rfl rfl ?_
          refine g_bipush hX dX8_told_47 bc_6 rfl ?_
          first | refine g_icmp_neN (tgt := 67) hX dX8_told_49 (by decide) rfl (by omega) (by omega) (fun zc49 => ?_) (fun zc49 => absurd zc49 (by omega)) | refine g_icmp_ne (tgt := 67) hX dX8_told_49 (by decide) rfl (fun zc49 => ?_) (fun zc49 => absurd zc49 (by omega))
          refine g_aload_n (i := 0) hX dX8_told_67 rfl rfl rfl ?_
          refine g_getR hX fl_X8_7 rfl rfl dX8_told_68 rfl ?_
          refine g_iload_n (i := 3) hX dX8_told_71 rfl rfl rfl ?_
          refine g_iload_n (i := 2) hX dX8_told_72 rfl rfl rfl ?_
          first | refine g_iaddN hX dX8_told_73 rfl ?_ | refine g_iadd hX dX8_told_73 rfl ?_
          refine g_iald hX rfl (rfl) (by omega) rfl dX8_told_74 rfl ?_
          refine g_iret hX hR dX8_told_75 ?_
          exact ⟨(if_neg zc43).symm, rfl⟩
      · by_cases h6 : q = 6
        · subst h6
          refine g_aload_n (i := 0) hX dX8_told_0 rfl rfl rfl ?_
          refine g_iload_n (i := 1) hX dX8_told_1 rfl rfl rfl ?_
          refine g_callVi hX (c_X8_isComment E M _ nk hk hkb) kf_X8_isComment rfl wk_X8_91 rfl rfl rfl rfl rfl dX8_told_2 rfl (fun x2 M2 h2 => ?_)
          obtain ⟨rfl, hMq⟩ := h2; have hMq := hMq.symm; subst hMq
          first | refine g_if_eqB (tgt := 18) hX dX8_told_5 (by decide) rfl (fun zc5 => Bool.noConfusion (hin.symm.trans zc5)) (fun zc5 => ?_) | refine g_if_eq (tgt := 18) hX dX8_told_5 (by decide) rfl (fun zc5 => Bool.noConfusion (hin.symm.trans zc5)) (fun zc5 => ?_)
          refine g_iload_n (i := 2) hX dX8_told_8 rfl rfl rfl ?_
          refine g_iconst hX dX8_told_9 ic_0 rfl ?_
          refine g_bipush hX dX8_told_10 bc_6 rfl ?_
          refine g_callSi hX (c_X8_in E M _ _ _) kf_X8_in rfl wk_X8_23 rfl rfl rfl rfl dX8_told_12 rfl (fun x12 M12 h12 => ?_)
          obtain ⟨rfl, hMq⟩ := h12; have hMq := hMq.symm; subst hMq
          first | refine g_if_neB (tgt := 20) hX dX8_told_15 (by decide) rfl (fun zc15 => ?_) (fun zc15 => Bool.noConfusion (hw.symm.trans (e6.symm.trans zc15))) | refine g_if_ne (tgt := 20) hX dX8_told_15 (by decide) rfl (fun zc15 => ?_) (fun zc15 => Bool.noConfusion (hw.symm.trans (e6.symm.trans zc15)))
          refine g_iload_n (i := 1) hX dX8_told_20 rfl rfl rfl ?_
          refine g_callSi hX (c_X8_commentAt E M j) kf_X8_commentAt rfl wk_X8_48 rfl rfl rfl rfl dX8_told_21 rfl (fun x21 M21 h21 => ?_)
          obtain ⟨rfl, hMq⟩ := h21; have hMq := hMq.symm; subst hMq
          refine g_istore_n (i := 3) hX dX8_told_24 rfl (Nat.le_of_ble_eq_true rfl) rfl ?_
          refine g_aload_n (i := 0) hX dX8_told_25 rfl rfl rfl ?_
          refine g_getR hX fl_X8_7 rfl rfl dX8_told_26 rfl ?_
          refine g_iload_n (i := 3) hX dX8_told_29 rfl rfl rfl ?_
          refine g_iconst hX dX8_told_30 ic_4 rfl ?_
          first | refine g_iaddN hX dX8_told_31 rfl ?_ | refine g_iadd hX dX8_told_31 rfl ?_
          refine g_ialdv (x := vSt (M 131) j) hX rfl (rfl) (by omega) rfl (rfl) dX8_told_32 rfl ?_
          refine g_istore hX dX8_told_33 (Nat.le_of_ble_eq_true rfl) rfl ?_
          refine g_iload_n (i := 2) hX dX8_told_35 rfl rfl rfl ?_
          refine g_iconst hX dX8_told_36 ic_5 rfl ?_
          first | refine g_icmp_neN (tgt := 46) hX dX8_told_37 (by decide) rfl (by omega) (by omega) (fun zc37 => ?_) (fun zc37 => absurd zc37 (by omega)) | refine g_icmp_ne (tgt := 46) hX dX8_told_37 (by decide) rfl (fun zc37 => ?_) (fun zc37 => absurd zc37 (by omega))
          refine g_iload_n (i := 2) hX dX8_told_46 rfl rfl rfl ?_
          refine g_bipush hX dX8_told_47 bc_6 rfl ?_
          first | refine g_icmp_neN (tgt := 67) hX dX8_told_49 (by decide) rfl (by omega) (by omega) (fun zc49 => absurd zc49 (by omega)) (fun zc49 => ?_) | refine g_icmp_ne (tgt := 67) hX dX8_told_49 (by decide) rfl (fun zc49 => absurd zc49 (by omega)) (fun zc49 => ?_)
          refine g_iload hX dX8_told_52 rfl rfl ?_
          refine g_iconst hX dX8_told_54 ic_2 rfl ?_
          refine g_icmp_eq (tgt := 67) hX dX8_told_55 (by decide) rfl (fun zc55 => ?_) (fun zc55 => ?_)
          · skip
            have zg : gaveB (vSt (M 131) j) = true := by simp only [gaveB]; rw [decide_eq_true (show vSt (M 131) j = 2 from zc55)]; rfl
            refine g_aload_n (i := 0) hX dX8_told_67 rfl rfl rfl ?_
            refine g_getR hX fl_X8_7 rfl rfl dX8_told_68 rfl ?_
            refine g_iload_n (i := 3) hX dX8_told_71 rfl rfl rfl ?_
            refine g_iload_n (i := 2) hX dX8_told_72 rfl rfl rfl ?_
            first | refine g_iaddN hX dX8_told_73 rfl ?_ | refine g_iadd hX dX8_told_73 rfl ?_
            refine g_iald hX rfl (rfl) (by omega) rfl dX8_told_74 rfl ?_
            refine g_iret hX hR dX8_told_75 ?_
            exact ⟨by simp only [tolG, zg]; rfl, rfl⟩
          · skip
            refine g_iload hX dX8_told_58 rfl rfl ?_
            refine g_iconst hX dX8_told_60 ic_3 rfl ?_
            refine g_icmp_eq (tgt := 67) hX dX8_told_61 (by decide) rfl (fun zc61 => ?_) (fun zc61 => ?_)
            · skip
              have zg : gaveB (vSt (M 131) j) = true := by simp only [gaveB]; rw [decide_eq_true (show vSt (M 131) j = 3 from zc61), Bool.or_true]
              refine g_aload_n (i := 0) hX dX8_told_67 rfl rfl rfl ?_
              refine g_getR hX fl_X8_7 rfl rfl dX8_told_68 rfl ?_
              refine g_iload_n (i := 3) hX dX8_told_71 rfl rfl rfl ?_
              refine g_iload_n (i := 2) hX dX8_told_72 rfl rfl rfl ?_
              first | refine g_iaddN hX dX8_told_73 rfl ?_ | refine g_iadd hX dX8_told_73 rfl ?_
              refine g_iald hX rfl (rfl) (by omega) rfl dX8_told_74 rfl ?_
              refine g_iret hX hR dX8_told_75 ?_
              exact ⟨by simp only [tolG, zg]; rfl, rfl⟩
            · skip
              have zg : gaveB (vSt (M 131) j) = false := by simp only [gaveB]; rw [decide_eq_false (show ¬ vSt (M 131) j = 2 from zc55), decide_eq_false (show ¬ vSt (M 131) j = 3 from zc61)]; rfl
              refine g_bipush hX dX8_told_64 bc_m4 rfl ?_
              refine g_iret hX hR dX8_told_66 ?_
              exact ⟨by simp only [tolG, zg]; rfl, rfl⟩
        · have h4 : q = 0 ∨ q = 1 ∨ q = 2 ∨ q = 3 ∨ q = 4 := by omega
          refine g_aload_n (i := 0) hX dX8_told_0 rfl rfl rfl ?_
          refine g_iload_n (i := 1) hX dX8_told_1 rfl rfl rfl ?_
          refine g_callVi hX (c_X8_isComment E M _ nk hk hkb) kf_X8_isComment rfl wk_X8_91 rfl rfl rfl rfl rfl dX8_told_2 rfl (fun x2 M2 h2 => ?_)
          obtain ⟨rfl, hMq⟩ := h2; have hMq := hMq.symm; subst hMq
          first | refine g_if_eqB (tgt := 18) hX dX8_told_5 (by decide) rfl (fun zc5 => Bool.noConfusion (hin.symm.trans zc5)) (fun zc5 => ?_) | refine g_if_eq (tgt := 18) hX dX8_told_5 (by decide) rfl (fun zc5 => Bool.noConfusion (hin.symm.trans zc5)) (fun zc5 => ?_)
          refine g_iload_n (i := 2) hX dX8_told_8 rfl rfl rfl ?_
          refine g_iconst hX dX8_told_9 ic_0 rfl ?_
          refine g_bipush hX dX8_told_10 bc_6 rfl ?_
          refine g_callSi hX (c_X8_in E M _ _ _) kf_X8_in rfl wk_X8_23 rfl rfl rfl rfl dX8_told_12 rfl (fun x12 M12 h12 => ?_)
          obtain ⟨rfl, hMq⟩ := h12; have hMq := hMq.symm; subst hMq
          first | refine g_if_neB (tgt := 20) hX dX8_told_15 (by decide) rfl (fun zc15 => ?_) (fun zc15 => Bool.noConfusion (hw.symm.trans (e6.symm.trans zc15))) | refine g_if_ne (tgt := 20) hX dX8_told_15 (by decide) rfl (fun zc15 => ?_) (fun zc15 => Bool.noConfusion (hw.symm.trans (e6.symm.trans zc15)))
          refine g_iload_n (i := 1) hX dX8_told_20 rfl rfl rfl ?_
          refine g_callSi hX (c_X8_commentAt E M j) kf_X8_commentAt rfl wk_X8_48 rfl rfl rfl rfl dX8_told_21 rfl (fun x21 M21 h21 => ?_)
          obtain ⟨rfl, hMq⟩ := h21; have hMq := hMq.symm; subst hMq
          refine g_istore_n (i := 3) hX dX8_told_24 rfl (Nat.le_of_ble_eq_true rfl) rfl ?_
          refine g_aload_n (i := 0) hX dX8_told_25 rfl rfl rfl ?_
          refine g_getR hX fl_X8_7 rfl rfl dX8_told_26 rfl ?_
          refine g_iload_n (i := 3) hX dX8_told_29 rfl rfl rfl ?_
          refine g_iconst hX dX8_told_30 ic_4 rfl ?_
          first | refine g_iaddN hX dX8_told_31 rfl ?_ | refine g_iadd hX dX8_told_31 rfl ?_
          refine g_ialdv (x := vSt (M 131) j) hX rfl (rfl) (by omega) rfl (rfl) dX8_told_32 rfl ?_
          refine g_istore hX dX8_told_33 (Nat.le_of_ble_eq_true rfl) rfl ?_
          refine g_iload_n (i := 2) hX dX8_told_35 rfl rfl rfl ?_
          refine g_iconst hX dX8_told_36 ic_5 rfl ?_
          first | refine g_icmp_neN (tgt := 46) hX dX8_told_37 (by decide) rfl (by omega) (by omega) (fun zc37 => ?_) (fun zc37 => absurd zc37 (by omega)) | refine g_icmp_ne (tgt := 46) hX dX8_told_37 (by decide) rfl (fun zc37 => ?_) (fun zc37 => absurd zc37 (by omega))
          refine g_iload_n (i := 2) hX dX8_told_46 rfl rfl rfl ?_
          refine g_bipush hX dX8_told_47 bc_6 rfl ?_
          first | refine g_icmp_neN (tgt := 67) hX dX8_told_49 (by decide) rfl (by omega) (by omega) (fun zc49 => ?_) (fun zc49 => absurd zc49 (by omega)) | refine g_icmp_ne (tgt := 67) hX dX8_told_49 (by decide) rfl (fun zc49 => ?_) (fun zc49 => absurd zc49 (by omega))
          refine g_aload_n (i := 0) hX dX8_told_67 rfl rfl rfl ?_
          refine g_getR hX fl_X8_7 rfl rfl dX8_told_68 rfl ?_
          refine g_iload_n (i := 3) hX dX8_told_71 rfl rfl rfl ?_
          refine g_iload_n (i := 2) hX dX8_told_72 rfl rfl rfl ?_
          first | refine g_iaddN hX dX8_told_73 rfl ?_ | refine g_iadd hX dX8_told_73 rfl ?_
          refine g_iald hX rfl (rfl) (by omega) rfl dX8_told_74 rfl ?_
          refine g_iret hX hR dX8_told_75 ?_
          rcases h4 with rfl | rfl | rfl | rfl | rfl <;> exact ⟨rfl, rfl⟩
def difM (N : Nat → Int32) (e k : Nat) : Bool := decide (1 < e) && decide (N (73 + 45 * k + 3 + e) ≠ N (73 + 45 * k + 3 + e - 1))
theorem c_X8_isChanged (E : gE) (M : gM) (k e : Nat) (hk : k < 20) (h1 : 1 ≤ e) (he : e ≤ 12) : gMet E k_X8_isChanged [.ref 130, .int (nI k), .int (nI e)] M (gInt fun r M' => r = gB (difM (M 131) e k) ∧ M' = M) := by
  refine gMet.of (by decide +kernel) rfl (Nat.le_of_ble_eq_true rfl) (fun X hX hR => ?_)
  refine g_iload_n (i := 1) hX dX8_isChanged_0 rfl rfl rfl ?_
  refine g_callSi hX (c_X8_clauseAt E M k) kf_X8_clauseAt rfl wk_X8_34 rfl rfl rfl rfl dX8_isChanged_1 rfl (fun x1 M1 h1 => ?_)
  obtain ⟨rfl, hMq⟩ := h1; have hMq := hMq.symm; subst hMq
  refine g_iconst hX dX8_isChanged_4 ic_3 rfl ?_
  first | refine g_iaddN hX dX8_isChanged_5 rfl ?_ | refine g_iadd hX dX8_isChanged_5 rfl ?_
  refine g_iload_n (i := 2) hX dX8_isChanged_6 rfl rfl rfl ?_
  first | refine g_iaddN hX dX8_isChanged_7 rfl ?_ | refine g_iadd hX dX8_isChanged_7 rfl ?_
  refine g_istore_n (i := 3) hX dX8_isChanged_8 rfl (Nat.le_of_ble_eq_true rfl) rfl ?_
  refine g_iload_n (i := 2) hX dX8_isChanged_9 rfl rfl rfl ?_
  refine g_iconst hX dX8_isChanged_10 ic_1 rfl ?_
  first | refine g_icmp_leN (tgt := 35) hX dX8_isChanged_11 (by decide) rfl (by omega) (by omega) (fun zc11 => ?_) (fun zc11 => ?_) | refine g_icmp_le (tgt := 35) hX dX8_isChanged_11 (by decide) rfl (fun zc11 => ?_) (fun zc11 => ?_)
  · skip
    have zn : difM (M 131) e k = false := by simp only [difM]; rw [decide_eq_false (show ¬ 1 < e by omega)]; rfl
    refine g_iconst hX dX8_isChanged_35 ic_0 rfl ?_
    refine g_zret hX hR (by first | exact Or.inl rfl | exact Or.inr rfl | exact gB_01 _) dX8_isChanged_36 ?_
    exact ⟨by rw [zn]; rfl, rfl⟩
  · skip
    refine g_aload_n (i := 0) hX dX8_isChanged_14 rfl rfl rfl ?_
    refine g_getR hX fl_X8_7 rfl rfl dX8_isChanged_15 rfl ?_
    refine g_iload_n (i := 3) hX dX8_isChanged_18 rfl rfl rfl ?_
    refine g_iald hX rfl (rfl) (by omega) rfl dX8_isChanged_19 rfl ?_
    refine g_aload_n (i := 0) hX dX8_isChanged_20 rfl rfl rfl ?_
    refine g_getR hX fl_X8_7 rfl rfl dX8_isChanged_21 rfl ?_
    refine g_iload_n (i := 3) hX dX8_isChanged_24 rfl rfl rfl ?_
    refine g_iconst hX dX8_isChanged_25 ic_1 rfl ?_
    refine g_isubN hX dX8_isChanged_26 (by omega) rfl ?_
    refine g_iald hX rfl (rfl) (by omega) rfl dX8_isChanged_27 rfl ?_
    refine g_icmp_eq (tgt := 35) hX dX8_isChanged_28 (by decide) rfl (fun zc28 => ?_) (fun zc28 => ?_)
    · skip
      have zn : difM (M 131) e k = false := by simp only [difM]; rw [decide_eq_false (p := M 131 (73 + 45 * k + 3 + e) ≠ M 131 (73 + 45 * k + 3 + e - 1)) (fun q => q zc28), Bool.and_false]
      refine g_iconst hX dX8_isChanged_35 ic_0 rfl ?_
      refine g_zret hX hR (by first | exact Or.inl rfl | exact Or.inr rfl | exact gB_01 _) dX8_isChanged_36 ?_
      exact ⟨by rw [zn]; rfl, rfl⟩
    · skip
      have zn : difM (M 131) e k = true := by simp only [difM]; rw [decide_eq_true (show 1 < e by omega), decide_eq_true zc28]; rfl
      refine g_iconst hX dX8_isChanged_31 ic_1 rfl ?_
      refine g_goto (n := 36) hX dX8_isChanged_32 (by decide) ?_
      refine g_zret hX hR (by first | exact Or.inl rfl | exact Or.inr rfl | exact gB_01 _) dX8_isChanged_36 ?_
      exact ⟨by rw [zn]; rfl, rfl⟩
def y_changes (N : Nat → Int32) (nc ne : Nat) (e : Int32) : Int32 := if inI e (nI 1) (nI ne) = true then nI (cntTo nc (difM N e.toNatClampNeg)) else -1
theorem c_X8_changes (E : gE) (M : gM) (nc ne : Nat) (e : Int32) (hc : M 131 1 = nI nc) (hcb : nc ≤ 20) (he : M 131 2 = nI ne) (heb : ne ≤ 12) : gMet E k_X8_changes [.ref 130, .int e] M (gInt fun r M' => r = y_changes (M 131) nc ne e ∧ M' = M) := by
  refine gMet.of (by decide +kernel) rfl (Nat.le_of_ble_eq_true rfl) (fun X hX hR => ?_)
  cases hin : inI e (nI 1) (nI ne) with
  | false =>
    refine g_aload_n (i := 0) hX dX8_changes_0 rfl rfl rfl ?_
    refine g_iload_n (i := 1) hX dX8_changes_1 rfl rfl rfl ?_
    refine g_callVi hX (c_X8_isEdition E M e ne he) kf_X8_isEdition rfl wk_X8_60 rfl rfl rfl rfl rfl dX8_changes_2 rfl (fun x2 M2 h2 => ?_)
    obtain ⟨rfl, hMq⟩ := h2; have hMq := hMq.symm; subst hMq
    first | refine g_if_neB (tgt := 10) hX dX8_changes_5 (by decide) rfl (fun zc5 => Bool.noConfusion (hin.symm.trans zc5)) (fun zc5 => ?_) | refine g_if_ne (tgt := 10) hX dX8_changes_5 (by decide) rfl (fun zc5 => Bool.noConfusion (hin.symm.trans zc5)) (fun zc5 => ?_)
    refine g_iconst hX dX8_changes_8 ic_m1 rfl ?_
    refine g_iret hX hR dX8_changes_9 ?_
    exact ⟨by simp [y_changes, hin], rfl⟩
  | true =>
    obtain ⟨j, hj1, hj2, rfl⟩ := inI_t (by decide) (by omega) hin
    have loop := up_loop nc (fun k => gG X E M 14 [some (.ref 130), some (.int (nI j)), some (.int (nI (cntTo k (difM (M 131) j)))), some (.int (nI k))] [] (gQ X E (gInt fun r M' => r = y_changes (M 131) nc ne (nI j) ∧ M' = M))) ?_ ?_
    · skip
      refine g_aload_n (i := 0) hX dX8_changes_0 rfl rfl rfl ?_
      refine g_iload_n (i := 1) hX dX8_changes_1 rfl rfl rfl ?_
      refine g_callVi hX (c_X8_isEdition E M _ ne he) kf_X8_isEdition rfl wk_X8_60 rfl rfl rfl rfl rfl dX8_changes_2 rfl (fun x2 M2 h2 => ?_)
      obtain ⟨rfl, hMq⟩ := h2; have hMq := hMq.symm; subst hMq
      first | refine g_if_neB (tgt := 10) hX dX8_changes_5 (by decide) rfl (fun zc5 => ?_) (fun zc5 => Bool.noConfusion (hin.symm.trans zc5)) | refine g_if_ne (tgt := 10) hX dX8_changes_5 (by decide) rfl (fun zc5 => ?_) (fun zc5 => Bool.noConfusion (hin.symm.trans zc5))
      refine g_iconst hX dX8_changes_10 ic_0 rfl ?_
      refine g_istore_n (i := 2) hX dX8_changes_11 rfl (Nat.le_of_ble_eq_true rfl) rfl ?_
      refine g_iconst hX dX8_changes_12 ic_0 rfl ?_
      refine g_istore_n (i := 3) hX dX8_changes_13 rfl (Nat.le_of_ble_eq_true rfl) rfl ?_
      exact loop 0 (Nat.zero_le _)
    · skip
      refine g_iload_n (i := 3) hX dX8_changes_14 rfl rfl rfl ?_
      refine g_aload_n (i := 0) hX dX8_changes_15 rfl rfl rfl ?_
      refine g_getR hX fl_X8_7 rfl rfl dX8_changes_16 rfl ?_
      refine g_iconst hX dX8_changes_19 ic_1 rfl ?_
      refine g_ialdv (x := nI nc) hX rfl (rfl) (by omega) rfl (hc) dX8_changes_20 rfl ?_
      first | refine g_icmp_geN (tgt := 47) hX dX8_changes_21 (by decide) rfl (by omega) (by omega) (fun zc21 => ?_) (fun zc21 => absurd zc21 (by omega)) | refine g_icmp_ge (tgt := 47) hX dX8_changes_21 (by decide) rfl (fun zc21 => ?_) (fun zc21 => absurd zc21 (by omega))
      refine g_iload_n (i := 2) hX dX8_changes_47 rfl rfl rfl ?_
      refine g_iret hX hR dX8_changes_48 ?_
      exact ⟨by rw [y_changes, hin, cl_nI (by omega)]; rfl, rfl⟩
    · intro k hk ih
      simp only [cntTo] at ih
      refine g_iload_n (i := 3) hX dX8_changes_14 rfl rfl rfl ?_
      refine g_aload_n (i := 0) hX dX8_changes_15 rfl rfl rfl ?_
      refine g_getR hX fl_X8_7 rfl rfl dX8_changes_16 rfl ?_
      refine g_iconst hX dX8_changes_19 ic_1 rfl ?_
      refine g_ialdv (x := nI nc) hX rfl (rfl) (by omega) rfl (hc) dX8_changes_20 rfl ?_
      first | refine g_icmp_geN (tgt := 47) hX dX8_changes_21 (by decide) rfl (by omega) (by omega) (fun zc21 => absurd zc21 (by omega)) (fun zc21 => ?_) | refine g_icmp_ge (tgt := 47) hX dX8_changes_21 (by decide) rfl (fun zc21 => absurd zc21 (by omega)) (fun zc21 => ?_)
      refine g_iload_n (i := 2) hX dX8_changes_24 rfl rfl rfl ?_
      refine g_aload_n (i := 0) hX dX8_changes_25 rfl rfl rfl ?_
      refine g_iload_n (i := 3) hX dX8_changes_26 rfl rfl rfl ?_
      refine g_iload_n (i := 1) hX dX8_changes_27 rfl rfl rfl ?_
      refine g_callVi hX (c_X8_isChanged E M k j (by omega) hj1 (by omega)) kf_X8_isChanged rfl wk_X8_114 rfl rfl rfl rfl rfl dX8_changes_28 rfl (fun x28 M28 h28 => ?_)
      obtain ⟨rfl, hMq⟩ := h28; have hMq := hMq.symm; subst hMq
      first | refine g_if_eqB (tgt := 38) hX dX8_changes_31 (by decide) rfl (fun zc31 => ?_) (fun zc31 => ?_) | refine g_if_eq (tgt := 38) hX dX8_changes_31 (by decide) rfl (fun zc31 => ?_) (fun zc31 => ?_)
      · skip
        refine g_iconst hX dX8_changes_38 ic_0 rfl ?_
        first | refine g_iaddN hX dX8_changes_39 rfl ?_ | refine g_iadd hX dX8_changes_39 rfl ?_
        refine g_istore_n (i := 2) hX dX8_changes_40 rfl (Nat.le_of_ble_eq_true rfl) rfl ?_
        first | refine g_iincN hX dX8_changes_41 ic_1 rfl (Nat.le_of_ble_eq_true rfl) rfl ?_ | refine g_iinc hX dX8_changes_41 ic_1 rfl rfl (Nat.le_of_ble_eq_true rfl) rfl ?_
        refine g_goto (n := 14) hX dX8_changes_44 (by decide) ?_
        first
        | (rw [if_neg (fun q => Bool.noConfusion (q.symm.trans zc31))] at ih; exact ih)
        | (rw [if_pos zc31] at ih; exact ih)
      · skip
        refine g_iconst hX dX8_changes_34 ic_1 rfl ?_
        refine g_goto (n := 39) hX dX8_changes_35 (by decide) ?_
        first | refine g_iaddN hX dX8_changes_39 rfl ?_ | refine g_iadd hX dX8_changes_39 rfl ?_
        refine g_istore_n (i := 2) hX dX8_changes_40 rfl (Nat.le_of_ble_eq_true rfl) rfl ?_
        first | refine g_iincN hX dX8_changes_41 ic_1 rfl (Nat.le_of_ble_eq_true rfl) rfl ?_ | refine g_iinc hX dX8_changes_41 ic_1 rfl rfl (Nat.le_of_ble_eq_true rfl) rfl ?_
        refine g_goto (n := 14) hX dX8_changes_44 (by decide) ?_
        first
        | (rw [if_neg (fun q => Bool.noConfusion (q.symm.trans zc31))] at ih; exact ih)
        | (rw [if_pos zc31] at ih; exact ih)
def chaG (N : Nat → Int32) (j p w : Nat) : Int32 := match w with
  | 0 => vNb N p
  | 1 => N (73 + 45 * p + 17 + j)
  | _ => N (73 + 45 * p + 31 + j)
def y_change (N : Nat → Int32) (nc ne : Nat) (e i w : Int32) : Int32 := if inI e (nI 1) (nI ne) = true ∧ ¬ i < 0 ∧ inR w 3 = true then (match nthTo nc (difM N e.toNatClampNeg) i.toNatClampNeg with
  | none => -4
  | some p => chaG N e.toNatClampNeg p w.toNatClampNeg) else -1
theorem c_X8_change (E : gE) (M : gM) (nc ne : Nat) (e i w : Int32) (hc : M 131 1 = nI nc) (hcb : nc ≤ 20) (he : M 131 2 = nI ne) (heb : ne ≤ 12) : gMet E k_X8_change [.ref 130, .int e, .int i, .int w] M (gInt fun r M' => r = y_change (M 131) nc ne e i w ∧ M' = M) := by
  refine gMet.of (by decide +kernel) rfl (Nat.le_of_ble_eq_true rfl) (fun X hX hR => ?_)
  have e3 : inI w (nI 0) (nI 2) = inR w 3 := inI_R' (by decide)
  cases hin : inI e (nI 1) (nI ne) with
  | false =>
    refine g_aload_n (i := 0) hX dX8_change_0 rfl rfl rfl ?_
    refine g_iload_n (i := 1) hX dX8_change_1 rfl rfl rfl ?_
    refine g_callVi hX (c_X8_isEdition E M e ne he) kf_X8_isEdition rfl wk_X8_60 rfl rfl rfl rfl rfl dX8_change_2 rfl (fun x2 M2 h2 => ?_)
    obtain ⟨rfl, hMq⟩ := h2; have hMq := hMq.symm; subst hMq
    first | refine g_if_eqB (tgt := 21) hX dX8_change_5 (by decide) rfl (fun zc5 => ?_) (fun zc5 => Bool.noConfusion (hin.symm.trans zc5)) | refine g_if_eq (tgt := 21) hX dX8_change_5 (by decide) rfl (fun zc5 => ?_) (fun zc5 => Bool.noConfusion (hin.symm.trans zc5))
    refine g_iconst hX dX8_change_21 ic_m1 rfl ?_
    refine g_iret hX hR dX8_change_22 ?_
    exact ⟨by simp [y_change, hin], rfl⟩
  | true =>
    obtain ⟨j, hj1, hj2, rfl⟩ := inI_t (by decide) (by omega) hin
    by_cases hi0 : i < 0
    · skip
      refine g_aload_n (i := 0) hX dX8_change_0 rfl rfl rfl ?_
      refine g_iload_n (i := 1) hX dX8_change_1 rfl rfl rfl ?_
      refine g_callVi hX (c_X8_isEdition E M _ ne he) kf_X8_isEdition rfl wk_X8_60 rfl rfl rfl rfl rfl dX8_change_2 rfl (fun x2 M2 h2 => ?_)
      obtain ⟨rfl, hMq⟩ := h2; have hMq := hMq.symm; subst hMq
      first | refine g_if_eqB (tgt := 21) hX dX8_change_5 (by decide) rfl (fun zc5 => Bool.noConfusion (hin.symm.trans zc5)) (fun zc5 => ?_) | refine g_if_eq (tgt := 21) hX dX8_change_5 (by decide) rfl (fun zc5 => Bool.noConfusion (hin.symm.trans zc5)) (fun zc5 => ?_)
      refine g_iload_n (i := 2) hX dX8_change_8 rfl rfl rfl ?_
      refine g_if_lt (tgt := 21) hX dX8_change_9 (by decide) rfl (fun zc9 => ?_) (fun zc9 => absurd hi0 zc9)
      refine g_iconst hX dX8_change_21 ic_m1 rfl ?_
      refine g_iret hX hR dX8_change_22 ?_
      exact ⟨by simp [y_change, hi0], rfl⟩
    · obtain ⟨q, hq, rfl⟩ := nI_of hi0
      cases hw : inR w 3 with
      | false =>
        refine g_aload_n (i := 0) hX dX8_change_0 rfl rfl rfl ?_
        refine g_iload_n (i := 1) hX dX8_change_1 rfl rfl rfl ?_
        refine g_callVi hX (c_X8_isEdition E M _ ne he) kf_X8_isEdition rfl wk_X8_60 rfl rfl rfl rfl rfl dX8_change_2 rfl (fun x2 M2 h2 => ?_)
        obtain ⟨rfl, hMq⟩ := h2; have hMq := hMq.symm; subst hMq
        first | refine g_if_eqB (tgt := 21) hX dX8_change_5 (by decide) rfl (fun zc5 => Bool.noConfusion (hin.symm.trans zc5)) (fun zc5 => ?_) | refine g_if_eq (tgt := 21) hX dX8_change_5 (by decide) rfl (fun zc5 => Bool.noConfusion (hin.symm.trans zc5)) (fun zc5 => ?_)
        refine g_iload_n (i := 2) hX dX8_change_8 rfl rfl rfl ?_
        refine g_if_lt (tgt := 21) hX dX8_change_9 (by decide) rfl (fun zc9 => absurd zc9 (hi0)) (fun zc9 => ?_)
        refine g_iload_n (i := 3) hX dX8_change_12 rfl rfl rfl ?_
        refine g_iconst hX dX8_change_13 ic_0 rfl ?_
        refine g_iconst hX dX8_change_14 ic_2 rfl ?_
        refine g_callSi hX (c_X8_in E M _ _ _) kf_X8_in rfl wk_X8_23 rfl rfl rfl rfl dX8_change_15 rfl (fun x15 M15 h15 => ?_)
        obtain ⟨rfl, hMq⟩ := h15; have hMq := hMq.symm; subst hMq
        first | refine g_if_neB (tgt := 23) hX dX8_change_18 (by decide) rfl (fun zc18 => Bool.noConfusion (hw.symm.trans (e3.symm.trans zc18))) (fun zc18 => ?_) | refine g_if_ne (tgt := 23) hX dX8_change_18 (by decide) rfl (fun zc18 => Bool.noConfusion (hw.symm.trans (e3.symm.trans zc18))) (fun zc18 => ?_)
        refine g_iconst hX dX8_change_21 ic_m1 rfl ?_
        refine g_iret hX hR dX8_change_22 ?_
        exact ⟨by simp [y_change, hw], rfl⟩
      | true =>
        obtain ⟨z, hz, rfl⟩ := inR_t (by decide) hw
        have hx : y_change (M 131) nc ne (nI j) (nI q) (nI z) = match nthTo nc (difM (M 131) j) q with
          | none => -4
          | some p => chaG (M 131) j p z := by
          rw [y_change, if_pos ⟨hin, hi0, hw⟩, cl_nI (by omega), cl_nI (by omega), cl_nI (by omega)]
        rw [hx]
        have hz3 : z = 0 ∨ z = 1 ∨ z = 2 := by omega
        have loop := up_loop nc (fun k => ∀ b, (∀ i, i < k → (difM (M 131) j i && decide (cntTo i (difM (M 131) j) = q)) = false) → gG X E M 29 [some (.ref 130), some (.int (nI j)), some (.int (nI q)), some (.int (nI z)), some (.int (nI (cntTo k (difM (M 131) j)))), some (.int (nI k)), b] [] (gQ X E (gInt fun r M' => (r = match nthTo nc (difM (M 131) j) q with
          | none => -4
          | some p => chaG (M 131) j p z) ∧ M' = M))) ?_ ?_
        · skip
          refine g_aload_n (i := 0) hX dX8_change_0 rfl rfl rfl ?_
          refine g_iload_n (i := 1) hX dX8_change_1 rfl rfl rfl ?_
          refine g_callVi hX (c_X8_isEdition E M _ ne he) kf_X8_isEdition rfl wk_X8_60 rfl rfl rfl rfl rfl dX8_change_2 rfl (fun x2 M2 h2 => ?_)
          obtain ⟨rfl, hMq⟩ := h2; have hMq := hMq.symm; subst hMq
          first | refine g_if_eqB (tgt := 21) hX dX8_change_5 (by decide) rfl (fun zc5 => Bool.noConfusion (hin.symm.trans zc5)) (fun zc5 => ?_) | refine g_if_eq (tgt := 21) hX dX8_change_5 (by decide) rfl (fun zc5 => Bool.noConfusion (hin.symm.trans zc5)) (fun zc5 => ?_)
          refine g_iload_n (i := 2) hX dX8_change_8 rfl rfl rfl ?_
          refine g_if_lt (tgt := 21) hX dX8_change_9 (by decide) rfl (fun zc9 => absurd zc9 (hi0)) (fun zc9 => ?_)
          refine g_iload_n (i := 3) hX dX8_change_12 rfl rfl rfl ?_
          refine g_iconst hX dX8_change_13 ic_0 rfl ?_
          refine g_iconst hX dX8_change_14 ic_2 rfl ?_
          refine g_callSi hX (c_X8_in E M _ _ _) kf_X8_in rfl wk_X8_23 rfl rfl rfl rfl dX8_change_15 rfl (fun x15 M15 h15 => ?_)
          obtain ⟨rfl, hMq⟩ := h15; have hMq := hMq.symm; subst hMq
          first | refine g_if_neB (tgt := 23) hX dX8_change_18 (by decide) rfl (fun zc18 => ?_) (fun zc18 => Bool.noConfusion (hw.symm.trans (e3.symm.trans zc18))) | refine g_if_ne (tgt := 23) hX dX8_change_18 (by decide) rfl (fun zc18 => ?_) (fun zc18 => Bool.noConfusion (hw.symm.trans (e3.symm.trans zc18)))
          refine g_iconst hX dX8_change_23 ic_0 rfl ?_
          refine g_istore hX dX8_change_24 (Nat.le_of_ble_eq_true rfl) rfl ?_
          refine g_iconst hX dX8_change_26 ic_0 rfl ?_
          refine g_istore hX dX8_change_27 (Nat.le_of_ble_eq_true rfl) rfl ?_
          exact loop 0 (Nat.zero_le _) _ (fun i hi => absurd hi (by omega))
        · intro b h
          refine g_iload hX dX8_change_29 rfl rfl ?_
          refine g_aload_n (i := 0) hX dX8_change_31 rfl rfl rfl ?_
          refine g_getR hX fl_X8_7 rfl rfl dX8_change_32 rfl ?_
          refine g_iconst hX dX8_change_35 ic_1 rfl ?_
          refine g_ialdv (x := nI nc) hX rfl (rfl) (by omega) rfl (hc) dX8_change_36 rfl ?_
          first | refine g_icmp_geN (tgt := 111) hX dX8_change_37 (by decide) rfl (by omega) (by omega) (fun zc37 => ?_) (fun zc37 => absurd zc37 (by omega)) | refine g_icmp_ge (tgt := 111) hX dX8_change_37 (by decide) rfl (fun zc37 => ?_) (fun zc37 => absurd zc37 (by omega))
          refine g_bipush hX dX8_change_111 bc_m4 rfl ?_
          refine g_iret hX hR dX8_change_113 ?_
          rw [nthTo, fndTo_eqn h]; exact ⟨rfl, rfl⟩
        · intro k hk ih b h
          have hcn := cntTo_le k (difM (M 131) j)
          have step : (difM (M 131) j k && decide (cntTo k (difM (M 131) j) = q)) = false → ∀ i, i < k + 1 → (difM (M 131) j i && decide (cntTo i (difM (M 131) j) = q)) = false := by
            intro hk2 i hi
            by_cases ej : i = k
            · subst ej; exact hk2
            · exact h i (by omega)
          simp only [cntTo] at ih
          refine g_iload hX dX8_change_29 rfl rfl ?_
          refine g_aload_n (i := 0) hX dX8_change_31 rfl rfl rfl ?_
          refine g_getR hX fl_X8_7 rfl rfl dX8_change_32 rfl ?_
          refine g_iconst hX dX8_change_35 ic_1 rfl ?_
          refine g_ialdv (x := nI nc) hX rfl (rfl) (by omega) rfl (hc) dX8_change_36 rfl ?_
          first | refine g_icmp_geN (tgt := 111) hX dX8_change_37 (by decide) rfl (by omega) (by omega) (fun zc37 => absurd zc37 (by omega)) (fun zc37 => ?_) | refine g_icmp_ge (tgt := 111) hX dX8_change_37 (by decide) rfl (fun zc37 => absurd zc37 (by omega)) (fun zc37 => ?_)
          refine g_aload_n (i := 0) hX dX8_change_40 rfl rfl rfl ?_
          refine g_iload hX dX8_change_41 rfl rfl ?_
          refine g_iload_n (i := 1) hX dX8_change_43 rfl rfl rfl ?_
          refine g_callVi hX (c_X8_isChanged E M k j (by omega) hj1 (by omega)) kf_X8_isChanged rfl wk_X8_114 rfl rfl rfl rfl rfl dX8_change_44 rfl (fun x44 M44 h44 => ?_)
          obtain ⟨rfl, hMq⟩ := h44; have hMq := hMq.symm; subst hMq
          first | refine g_if_eqB (tgt := 105) hX dX8_change_47 (by decide) rfl (fun zc47 => ?_) (fun zc47 => ?_) | refine g_if_eq (tgt := 105) hX dX8_change_47 (by decide) rfl (fun zc47 => ?_) (fun zc47 => ?_)
          · skip
            have zn : (difM (M 131) j k && decide (cntTo k (difM (M 131) j) = q)) = false := by rw [zc47]; rfl
            first | refine g_iincN hX dX8_change_105 ic_1 rfl (Nat.le_of_ble_eq_true rfl) rfl ?_ | refine g_iinc hX dX8_change_105 ic_1 rfl rfl (Nat.le_of_ble_eq_true rfl) rfl ?_
            refine g_goto (n := 29) hX dX8_change_108 (by decide) ?_
            first
            | (rw [if_neg (fun q => Bool.noConfusion (q.symm.trans zc47))] at ih; exact ih _ (step zn))
            | (rw [if_pos zc47] at ih; exact ih _ (step zn))
          · skip
            refine g_iload hX dX8_change_50 rfl rfl ?_
            refine g_iload_n (i := 2) hX dX8_change_52 rfl rfl rfl ?_
            first | refine g_icmp_neN (tgt := 102) hX dX8_change_53 (by decide) rfl (by omega) (by omega) (fun zc53 => ?_) (fun zc53 => ?_) | refine g_icmp_ne (tgt := 102) hX dX8_change_53 (by decide) rfl (fun zc53 => ?_) (fun zc53 => ?_)
            · skip
              have zn : (difM (M 131) j k && decide (cntTo k (difM (M 131) j) = q)) = false := by rw [decide_eq_false zc53, Bool.and_false]
              first | refine g_iincN hX dX8_change_102 ic_1 rfl (Nat.le_of_ble_eq_true rfl) rfl ?_ | refine g_iinc hX dX8_change_102 ic_1 rfl rfl (Nat.le_of_ble_eq_true rfl) rfl ?_
              first | refine g_iincN hX dX8_change_105 ic_1 rfl (Nat.le_of_ble_eq_true rfl) rfl ?_ | refine g_iinc hX dX8_change_105 ic_1 rfl rfl (Nat.le_of_ble_eq_true rfl) rfl ?_
              refine g_goto (n := 29) hX dX8_change_108 (by decide) ?_
              first
              | (rw [if_neg (fun q => Bool.noConfusion (q.symm.trans zc47))] at ih; exact ih _ (step zn))
              | (rw [if_pos zc47] at ih; exact ih _ (step zn))
            · skip
              have zn : nthTo nc (difM (M 131) j) q = some k := fndTo_eq hk (by rw [zc47, decide_eq_true (show cntTo k (difM (M 131) j) = q by omega)]; rfl) h
              refine g_iload hX dX8_change_56 rfl rfl ?_
              refine g_callSi hX (c_X8_clauseAt E M k) kf_X8_clauseAt rfl wk_X8_34 rfl rfl rfl rfl dX8_change_58 rfl (fun x58 M58 h58 => ?_)
              obtain ⟨rfl, hMq⟩ := h58; have hMq := hMq.symm; subst hMq
              refine g_istore hX dX8_change_61 (Nat.le_of_ble_eq_true rfl) rfl ?_
              refine g_iload_n (i := 3) hX dX8_change_63 rfl rfl rfl ?_
              refine g_if_ne (tgt := 79) hX dX8_change_64 (by decide) rfl (fun zc64 => ?_) (fun zc64 => ?_)
              · skip
                have zz : z = 1 ∨ z = 2 := by
                  rcases hz3 with h | h | h
                  · exact absurd (show nI z = 0 by rw [h]; rfl) zc64
                  · exact Or.inl h
                  · exact Or.inr h
                refine g_aload_n (i := 0) hX dX8_change_79 rfl rfl rfl ?_
                refine g_getR hX fl_X8_7 rfl rfl dX8_change_80 rfl ?_
                refine g_iload hX dX8_change_83 rfl rfl ?_
                refine g_iload_n (i := 3) hX dX8_change_85 rfl rfl rfl ?_
                refine g_iconst hX dX8_change_86 ic_1 rfl ?_
                first | refine g_icmp_neN (tgt := 95) hX dX8_change_87 (by decide) rfl (by omega) (by omega) (fun zc87 => ?_) (fun zc87 => ?_) | refine g_icmp_ne (tgt := 95) hX dX8_change_87 (by decide) rfl (fun zc87 => ?_) (fun zc87 => ?_)
                · skip
                  refine g_bipush hX dX8_change_95 bc_31 rfl ?_
                  first | refine g_iaddN hX dX8_change_97 rfl ?_ | refine g_iadd hX dX8_change_97 rfl ?_
                  refine g_iload_n (i := 1) hX dX8_change_98 rfl rfl rfl ?_
                  first | refine g_iaddN hX dX8_change_99 rfl ?_ | refine g_iadd hX dX8_change_99 rfl ?_
                  refine g_iald hX rfl (rfl) (by omega) rfl dX8_change_100 rfl ?_
                  refine g_iret hX hR dX8_change_101 ?_
                  rw [zn]
                  first
                    | (subst zz; exact ⟨rfl, rfl⟩)
                    | (subst zc87; exact ⟨rfl, rfl⟩)
                    | (rcases zz with h | h
                       · exact absurd h zc87
                       · subst h; exact ⟨rfl, rfl⟩)
                · skip
                  refine g_bipush hX dX8_change_90 bc_17 rfl ?_
                  refine g_goto (n := 97) hX dX8_change_92 (by decide) ?_
                  first | refine g_iaddN hX dX8_change_97 rfl ?_ | refine g_iadd hX dX8_change_97 rfl ?_
                  refine g_iload_n (i := 1) hX dX8_change_98 rfl rfl rfl ?_
                  first | refine g_iaddN hX dX8_change_99 rfl ?_ | refine g_iadd hX dX8_change_99 rfl ?_
                  refine g_iald hX rfl (rfl) (by omega) rfl dX8_change_100 rfl ?_
                  refine g_iret hX hR dX8_change_101 ?_
                  rw [zn]
                  first
                    | (subst zz; exact ⟨rfl, rfl⟩)
                    | (subst zc87; exact ⟨rfl, rfl⟩)
                    | (rcases zz with h | h
                       · exact absurd h zc87
                       · subst h; exact ⟨rfl, rfl⟩)
              · skip
                have zz : z = 0 := (nI_eq (by omega) (by decide)).mp (show nI z = nI 0 from zc64)
                refine g_aload_n (i := 0) hX dX8_change_67 rfl rfl rfl ?_
                refine g_getR hX fl_X8_7 rfl rfl dX8_change_68 rfl ?_
                refine g_iload hX dX8_change_71 rfl rfl ?_
                refine g_iconst hX dX8_change_73 ic_0 rfl ?_
                first | refine g_iaddN hX dX8_change_74 rfl ?_ | refine g_iadd hX dX8_change_74 rfl ?_
                refine g_iald hX rfl (rfl) (by omega) rfl dX8_change_75 rfl ?_
                refine g_goto (n := 101) hX dX8_change_76 (by decide) ?_
                refine g_iret hX hR dX8_change_101 ?_
                rw [zn]
                first
                  | (subst zz; exact ⟨rfl, rfl⟩)
                  | (subst zc87; exact ⟨rfl, rfl⟩)
                  | (rcases zz with h | h
                     · exact absurd h zc87
                     · subst h; exact ⟨rfl, rfl⟩)

