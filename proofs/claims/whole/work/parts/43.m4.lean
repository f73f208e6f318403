/-! the reference: ballots -/
theorem st5_upd {o p n m : Nat} {g r : Nat → Int32} {v : Int32} (hp : p < 5) (h : p ≠ o) : upd (st5 o n g r) (23 + 5 * m + p) v = st5 o n g (upd r (23 + 5 * m + p) v) := by
  funext j; simp only [upd, st5]
  by_cases h1 : j = 23 + 5 * m + p
  · subst h1; rw [if_pos rfl, if_neg (by omega), if_pos rfl]
  · rw [if_neg h1]
    by_cases h2 : 23 ≤ j ∧ j < 23 + 5 * n ∧ (j - 23) % 5 = o
    · rw [if_pos h2, if_pos h2]
    · rw [if_neg h2, if_neg h2, if_neg h1]
def n_open0 (N : Nat → Int32) : Nat → Int32 := upd (upd (upd (upd (upd (upd (upd (upd N 4 1) 5 (N 5 + 1)) 6 (N 3)) 7 (N 14)) 8 0) 9 0) 10 0) 11 0
def n_open (N : Nat → Int32) (nm nc : Nat) : Nat → Int32 := st45 2 nc (vPr N) (st5 2 nm (fun _ => 0) (n_open0 N))
theorem n_open0_out {N : Nat → Int32} {j : Nat} (h : j < 4 ∨ 11 < j) : n_open0 N j = N j := by
  simp only [n_open0]
  rw [upd_n _ _ (by omega), upd_n _ _ (by omega), upd_n _ _ (by omega), upd_n _ _ (by omega), upd_n _ _ (by omega), upd_n _ _ (by omega), upd_n _ _ (by omega), upd_n _ _ (by omega)]
def y_open (M : gM) (nm nc nk ne sv : Nat) (op : Bool) : Int32 × gM := if op = true ∨ 0 < cntTo nk (pendB (vSt (M 131))) ∨ nc = 0 then (-2, M) else if ne = 12 then (-3, M) else (M 131 5 + 1, gset (m_rec M sv) 131 (n_open (M 131) nm nc))
theorem c_X8_open (E : gE) (M : gM) (nm nc nk ne sv : Nat) (op : Bool) (hm : M 131 0 = nI nm) (hmb : nm ≤ 10) (hc : M 131 1 = nI nc) (hcb : nc ≤ 20) (hk : M 131 9 = nI nk) (hkb : nk ≤ 30) (he : M 131 2 = nI ne) (heb : ne ≤ 12) (hop : M 131 4 = gB op) (hs : M 130 2 = nI sv) (hb : sv ≤ 4) : gMet E k_X8_open [.ref 130] M (gInt fun r M' => (r, M') = y_open M nm nc nk ne sv op) := by
  refine gMet.of (by decide +kernel) rfl (Nat.le_of_ble_eq_true rfl) (fun X hX hR => ?_)
  have K : m_rec M sv 131 = M 131 := rec_ne (by decide)
  have hcn := cntTo_le nk (pendB (vSt (M 131)))
  have loop2 : (∀ M', M' = gset (m_rec M sv) 131 (n_open (M 131) nm nc) → (M 131 5 + 1, M') = y_open M nm nc nk ne sv op) → ∀ k, k ≤ nc → gG X E (gset (m_rec M sv) 131 (st45 2 k (vPr (M 131)) (st5 2 nm (fun _ => 0) (n_open0 (M 131))))) 155 [some (.ref 130), some (.int (nI k))] [] (gQ X E (gInt fun r M' => (r, M') = y_open M nm nc nk ne sv op)) := by
    intro hy
    refine up_loop nc _ ?_ ?_
    · skip
      refine g_iload_n (i := 1) hX dX8_open_155 rfl rfl rfl ?_
      refine g_aload_n (i := 0) hX dX8_open_156 rfl rfl rfl ?_
      refine g_getR hX fl_X8_7 rfl rfl dX8_open_157 rfl ?_
      refine g_iconst hX dX8_open_160 ic_1 rfl ?_
      refine g_ialdv (x := nI nc) hX rfl (rfl) (by omega) rfl ((by rw [gset_eq, st45_out (Or.inl (by omega)), st5_out (Or.inl (by omega)), n_open0_out (Or.inl (by omega))]; exact hc)) dX8_open_161 rfl ?_
      first | refine g_icmp_geN (tgt := 193) hX dX8_open_162 (by decide) rfl (by omega) (by omega) (fun zc162 => ?_) (fun zc162 => absurd zc162 (by omega)) | refine g_icmp_ge (tgt := 193) hX dX8_open_162 (by decide) rfl (fun zc162 => ?_) (fun zc162 => absurd zc162 (by omega))
      refine g_aload_n (i := 0) hX dX8_open_193 rfl rfl rfl ?_
      refine g_getR hX fl_X8_7 rfl rfl dX8_open_194 rfl ?_
      refine g_iconst hX dX8_open_197 ic_5 rfl ?_
      refine g_ialdv (x := M 131 5 + 1) hX rfl (rfl) (by omega) rfl ((by rw [gset_eq, st45_out (Or.inl (by omega)), st5_out (Or.inl (by omega))]; rfl)) dX8_open_198 rfl ?_
      refine g_iret hX hR dX8_open_199 ?_
      exact hy _ rfl
    · intro k hk' ih
      have hs2 := st45_s (o := 2) (k := k) (by decide) (vPr (M 131)) (st5 2 nm (fun _ => 0) (n_open0 (M 131)))
      refine g_iload_n (i := 1) hX dX8_open_155 rfl rfl rfl ?_
      refine g_aload_n (i := 0) hX dX8_open_156 rfl rfl rfl ?_
      refine g_getR hX fl_X8_7 rfl rfl dX8_open_157 rfl ?_
      refine g_iconst hX dX8_open_160 ic_1 rfl ?_
      refine g_ialdv (x := nI nc) hX rfl (rfl) (by omega) rfl ((by rw [gset_eq, st45_out (Or.inl (by omega)), st5_out (Or.inl (by omega)), n_open0_out (Or.inl (by omega))]; exact hc)) dX8_open_161 rfl ?_
      first | refine g_icmp_geN (tgt := 193) hX dX8_open_162 (by decide) rfl (by omega) (by omega) (fun zc162 => absurd zc162 (by omega)) (fun zc162 => ?_) | refine g_icmp_ge (tgt := 193) hX dX8_open_162 (by decide) rfl (fun zc162 => absurd zc162 (by omega)) (fun zc162 => ?_)
      refine g_aload_n (i := 0) hX dX8_open_165 rfl rfl rfl ?_
      refine g_getR hX fl_X8_7 rfl rfl dX8_open_166 rfl ?_
      refine g_iload_n (i := 1) hX dX8_open_169 rfl rfl rfl ?_
      refine g_callSi hX (c_X8_clauseAt E _ k) kf_X8_clauseAt rfl wk_X8_34 rfl rfl rfl rfl dX8_open_170 rfl (fun x170 M170 h170 => ?_)
      obtain ⟨rfl, hMq⟩ := h170; have hMq := hMq.symm; subst hMq
      refine g_iconst hX dX8_open_173 ic_2 rfl ?_
      first | refine g_iaddN hX dX8_open_174 rfl ?_ | refine g_iadd hX dX8_open_174 rfl ?_
      refine g_aload_n (i := 0) hX dX8_open_175 rfl rfl rfl ?_
      refine g_getR hX fl_X8_7 rfl rfl dX8_open_176 rfl ?_
      refine g_iload_n (i := 1) hX dX8_open_179 rfl rfl rfl ?_
      refine g_callSi hX (c_X8_clauseAt E _ k) kf_X8_clauseAt rfl wk_X8_34 rfl rfl rfl rfl dX8_open_180 rfl (fun x180 M180 h180 => ?_)
      obtain ⟨rfl, hMq⟩ := h180; have hMq := hMq.symm; subst hMq
      refine g_iconst hX dX8_open_183 ic_1 rfl ?_
      first | refine g_iaddN hX dX8_open_184 rfl ?_ | refine g_iadd hX dX8_open_184 rfl ?_
      refine g_ialdv (x := vPr (M 131) k) hX rfl (rfl) (by omega) rfl ((by rw [gset_eq, st45_ne (by decide) (by decide), st5_out (Or.inr (by omega)), n_open0_out (Or.inr (by omega))])) dX8_open_185 rfl ?_
      refine g_iast hX rfl (rfl) (by omega) rfl dX8_open_186 rfl ?_
      first | refine g_iincN hX dX8_open_187 ic_1 rfl (Nat.le_of_ble_eq_true rfl) rfl ?_ | refine g_iinc hX dX8_open_187 ic_1 rfl rfl (Nat.le_of_ble_eq_true rfl) rfl ?_
      refine g_goto (n := 155) hX dX8_open_190 (by decide) ?_
      exact gGM (by rw [gset_gset]; exact congrArg (gset _ 131) hs2) ih
  have loop1 : (∀ M', M' = gset (m_rec M sv) 131 (n_open (M 131) nm nc) → (M 131 5 + 1, M') = y_open M nm nc nk ne sv op) → ∀ k, k ≤ nm → gG X E (gset (m_rec M sv) 131 (st5 2 k (fun _ => 0) (n_open0 (M 131)))) 125 [some (.ref 130), some (.int (nI k))] [] (gQ X E (gInt fun r M' => (r, M') = y_open M nm nc nk ne sv op)) := by
    intro hy
    refine up_loop nm _ ?_ ?_
    · skip
      refine g_iload_n (i := 1) hX dX8_open_125 rfl rfl rfl ?_
      refine g_aload_n (i := 0) hX dX8_open_126 rfl rfl rfl ?_
      refine g_getR hX fl_X8_7 rfl rfl dX8_open_127 rfl ?_
      refine g_iconst hX dX8_open_130 ic_0 rfl ?_
      refine g_ialdv (x := nI nm) hX rfl (rfl) (by omega) rfl ((by rw [gset_eq, st5_out (Or.inl (by omega)), n_open0_out (Or.inl (by omega))]; exact hm)) dX8_open_131 rfl ?_
      first | refine g_icmp_geN (tgt := 153) hX dX8_open_132 (by decide) rfl (by omega) (by omega) (fun zc132 => ?_) (fun zc132 => absurd zc132 (by omega)) | refine g_icmp_ge (tgt := 153) hX dX8_open_132 (by decide) rfl (fun zc132 => ?_) (fun zc132 => absurd zc132 (by omega))
      refine g_iconst hX dX8_open_153 ic_0 rfl ?_
      refine g_istore_n (i := 1) hX dX8_open_154 rfl (Nat.le_of_ble_eq_true rfl) rfl ?_
      exact gGM (by rw [st45_0]) (loop2 hy 0 (Nat.zero_le _))
    · intro k hk' ih
      have hs2 := st5_s (o := 2) (k := k) (by decide) (fun _ => 0) (n_open0 (M 131))
      refine g_iload_n (i := 1) hX dX8_open_125 rfl rfl rfl ?_
      refine g_aload_n (i := 0) hX dX8_open_126 rfl rfl rfl ?_
      refine g_getR hX fl_X8_7 rfl rfl dX8_open_127 rfl ?_
      refine g_iconst hX dX8_open_130 ic_0 rfl ?_
      refine g_ialdv (x := nI nm) hX rfl (rfl) (by omega) rfl ((by rw [gset_eq, st5_out (Or.inl (by omega)), n_open0_out (Or.inl (by omega))]; exact hm)) dX8_open_131 rfl ?_
      first | refine g_icmp_geN (tgt := 153) hX dX8_open_132 (by decide) rfl (by omega) (by omega) (fun zc132 => absurd zc132 (by omega)) (fun zc132 => ?_) | refine g_icmp_ge (tgt := 153) hX dX8_open_132 (by decide) rfl (fun zc132 => absurd zc132 (by omega)) (fun zc132 => ?_)
      refine g_aload_n (i := 0) hX dX8_open_135 rfl rfl rfl ?_
      refine g_getR hX fl_X8_7 rfl rfl dX8_open_136 rfl ?_
      refine g_iload_n (i := 1) hX dX8_open_139 rfl rfl rfl ?_
      refine g_callSi hX (c_X8_memberAt E _ k) kf_X8_memberAt rfl wk_X8_27 rfl rfl rfl rfl dX8_open_140 rfl (fun x140 M140 h140 => ?_)
      obtain ⟨rfl, hMq⟩ := h140; have hMq := hMq.symm; subst hMq
      refine g_iconst hX dX8_open_143 ic_2 rfl ?_
      first | refine g_iaddN hX dX8_open_144 rfl ?_ | refine g_iadd hX dX8_open_144 rfl ?_
      refine g_iconst hX dX8_open_145 ic_0 rfl ?_
      refine g_iast hX rfl (rfl) (by omega) rfl dX8_open_146 rfl ?_
      first | refine g_iincN hX dX8_open_147 ic_1 rfl (Nat.le_of_ble_eq_true rfl) rfl ?_ | refine g_iinc hX dX8_open_147 ic_1 rfl rfl (Nat.le_of_ble_eq_true rfl) rfl ?_
      refine g_goto (n := 125) hX dX8_open_150 (by decide) ?_
      exact gGM (by rw [gset_gset]; exact congrArg (gset _ 131) hs2) ih
  refine g_aload_n (i := 0) hX dX8_open_0 rfl rfl rfl ?_
  refine g_getR hX fl_X8_7 rfl rfl dX8_open_1 rfl ?_
  refine g_iconst hX dX8_open_4 ic_4 rfl ?_
  refine g_ialdv (x := gB op) hX rfl (rfl) (by omega) rfl (hop) dX8_open_5 rfl ?_
  refine g_iconst hX dX8_open_6 ic_1 rfl ?_
  refine g_icmp_eq (tgt := 26) hX dX8_open_7 (by decide) rfl (fun zc7 => ?_) (fun zc7 => ?_)
  · skip
    have zd7 : op = true := by
      cases h : op with
      | true => rfl
      | false => rw [h] at zc7; exact absurd zc7 (by decide)
    refine g_bipush hX dX8_open_26 bc_m2 rfl ?_
    refine g_iret hX hR dX8_open_28 ?_
    first
    | (rw [y_open, if_pos (Or.inl zd7)]; done)
    | (rw [y_open, if_pos (Or.inr (Or.inl zd14))]; done)
    | (rw [y_open, if_pos (Or.inr (Or.inr zd23))]; done)
  · skip
    have zd7 : ¬ op = true := fun q => zc7 (by rw [q]; rfl)
    refine g_aload_n (i := 0) hX dX8_open_10 rfl rfl rfl ?_
    refine g_callVi hX (c_X8_pending E M nk hk hkb) kf_X8_pending rfl wk_X8_63 rfl rfl rfl rfl rfl dX8_open_11 rfl (fun x11 M11 h11 => ?_)
    obtain ⟨rfl, hMq⟩ := h11; have hMq := hMq.symm; subst hMq
    refine g_if_gt (tgt := 26) hX dX8_open_14 (by decide) rfl (fun zc14 => ?_) (fun zc14 => ?_)
    · skip
      have zd14 : 0 < cntTo nk (pendB (vSt (M 131))) := by
        rcases Nat.eq_zero_or_pos (cntTo nk (pendB (vSt (M 131)))) with h | h
        · rw [h] at zc14; exact absurd zc14 (by decide)
        · exact h
      refine g_bipush hX dX8_open_26 bc_m2 rfl ?_
      refine g_iret hX hR dX8_open_28 ?_
      first
      | (rw [y_open, if_pos (Or.inl zd7)]; done)
      | (rw [y_open, if_pos (Or.inr (Or.inl zd14))]; done)
      | (rw [y_open, if_pos (Or.inr (Or.inr zd23))]; done)
    · skip
      have zd14 : ¬ 0 < cntTo nk (pendB (vSt (M 131))) := fun q => zc14 ((nI_ltI (a := 0) (b := cntTo nk (pendB (vSt (M 131)))) (by decide) (by omega)).mpr q)
      refine g_aload_n (i := 0) hX dX8_open_17 rfl rfl rfl ?_
      refine g_getR hX fl_X8_7 rfl rfl dX8_open_18 rfl ?_
      refine g_iconst hX dX8_open_21 ic_1 rfl ?_
      refine g_ialdv (x := nI nc) hX rfl (rfl) (by omega) rfl (hc) dX8_open_22 rfl ?_
      refine g_if_ne (tgt := 29) hX dX8_open_23 (by decide) rfl (fun zc23 => ?_) (fun zc23 => ?_)
      · skip
        have zd23 : ¬ nc = 0 := fun q => zc23 (by rw [q]; rfl)
        refine g_aload_n (i := 0) hX dX8_open_29 rfl rfl rfl ?_
        refine g_getR hX fl_X8_7 rfl rfl dX8_open_30 rfl ?_
        refine g_iconst hX dX8_open_33 ic_2 rfl ?_
        refine g_ialdv (x := nI ne) hX rfl (rfl) (by omega) rfl (he) dX8_open_34 rfl ?_
        refine g_bipush hX dX8_open_35 bc_12 rfl ?_
        first | refine g_icmp_neN (tgt := 43) hX dX8_open_37 (by decide) rfl (by omega) (by omega) (fun zc37 => ?_) (fun zc37 => ?_) | refine g_icmp_ne (tgt := 43) hX dX8_open_37 (by decide) rfl (fun zc37 => ?_) (fun zc37 => ?_)
        · skip
          refine g_aload_n (i := 0) hX dX8_open_43 rfl rfl rfl ?_
          refine g_callVv hX (c_X8_records E M sv hs hb) kf_X8_records rfl wk_X8_31 rfl rfl rfl rfl rfl dX8_open_44 rfl (fun M44 h44 => ?_)
          subst h44
          refine g_aload_n (i := 0) hX dX8_open_47 rfl rfl rfl ?_
          refine g_getR hX fl_X8_7 rfl rfl dX8_open_48 rfl ?_
          refine g_iconst hX dX8_open_51 ic_4 rfl ?_
          refine g_iconst hX dX8_open_52 ic_1 rfl ?_
          refine g_iast hX rfl (rfl) (by omega) rfl dX8_open_53 rfl ?_
          refine g_aload_n (i := 0) hX dX8_open_54 rfl rfl rfl ?_
          refine g_getR hX fl_X8_7 rfl rfl dX8_open_55 rfl ?_
          refine g_iconst hX dX8_open_58 ic_5 rfl ?_
          refine g_dup2 hX dX8_open_59 rfl rfl rfl ?_
          refine g_ialdv (x := M 131 5) hX rfl (rfl) (by omega) rfl ((congrFun K 5)) dX8_open_60 rfl ?_
          refine g_iconst hX dX8_open_61 ic_1 rfl ?_
          first | refine g_iaddN hX dX8_open_62 rfl ?_ | refine g_iadd hX dX8_open_62 rfl ?_
          refine g_iast hX rfl (rfl) (by omega) rfl dX8_open_63 rfl ?_
          refine g_aload_n (i := 0) hX dX8_open_64 rfl rfl rfl ?_
          refine g_getR hX fl_X8_7 rfl rfl dX8_open_65 rfl ?_
          refine g_bipush hX dX8_open_68 bc_6 rfl ?_
          refine g_aload_n (i := 0) hX dX8_open_70 rfl rfl rfl ?_
          refine g_getR hX fl_X8_7 rfl rfl dX8_open_71 rfl ?_
          refine g_iconst hX dX8_open_74 ic_3 rfl ?_
          refine g_ialdv (x := M 131 3) hX rfl (rfl) (by omega) rfl ((congrFun K 3)) dX8_open_75 rfl ?_
          refine g_iast hX rfl (rfl) (by omega) rfl dX8_open_76 rfl ?_
          refine g_aload_n (i := 0) hX dX8_open_77 rfl rfl rfl ?_
          refine g_getR hX fl_X8_7 rfl rfl dX8_open_78 rfl ?_
          refine g_bipush hX dX8_open_81 bc_7 rfl ?_
          refine g_aload_n (i := 0) hX dX8_open_83 rfl rfl rfl ?_
          refine g_getR hX fl_X8_7 rfl rfl dX8_open_84 rfl ?_
          refine g_bipush hX dX8_open_87 bc_14 rfl ?_
          refine g_ialdv (x := M 131 14) hX rfl (rfl) (by omega) rfl ((congrFun K 14)) dX8_open_89 rfl ?_
          refine g_iast hX rfl (rfl) (by omega) rfl dX8_open_90 rfl ?_
          refine g_aload_n (i := 0) hX dX8_open_91 rfl rfl rfl ?_
          refine g_getR hX fl_X8_7 rfl rfl dX8_open_92 rfl ?_
          refine g_bipush hX dX8_open_95 bc_8 rfl ?_
          refine g_iconst hX dX8_open_97 ic_0 rfl ?_
          refine g_iast hX rfl (rfl) (by omega) rfl dX8_open_98 rfl ?_
          refine g_aload_n (i := 0) hX dX8_open_99 rfl rfl rfl ?_
          refine g_getR hX fl_X8_7 rfl rfl dX8_open_100 rfl ?_
          refine g_bipush hX dX8_open_103 bc_9 rfl ?_
          refine g_iconst hX dX8_open_105 ic_0 rfl ?_
          refine g_iast hX rfl (rfl) (by omega) rfl dX8_open_106 rfl ?_
          refine g_aload_n (i := 0) hX dX8_open_107 rfl rfl rfl ?_
          refine g_getR hX fl_X8_7 rfl rfl dX8_open_108 rfl ?_
          refine g_bipush hX dX8_open_111 bc_10 rfl ?_
          refine g_iconst hX dX8_open_113 ic_0 rfl ?_
          refine g_iast hX rfl (rfl) (by omega) rfl dX8_open_114 rfl ?_
          refine g_aload_n (i := 0) hX dX8_open_115 rfl rfl rfl ?_
          refine g_getR hX fl_X8_7 rfl rfl dX8_open_116 rfl ?_
          refine g_bipush hX dX8_open_119 bc_11 rfl ?_
          refine g_iconst hX dX8_open_121 ic_0 rfl ?_
          refine g_iast hX rfl (rfl) (by omega) rfl dX8_open_122 rfl ?_
          refine g_iconst hX dX8_open_123 ic_0 rfl ?_
          refine g_istore_n (i := 1) hX dX8_open_124 rfl (Nat.le_of_ble_eq_true rfl) rfl ?_
          refine gGM ?_ (loop1 (fun M' h => by rw [y_open, if_neg (fun q => q.elim zd7 (fun q => q.elim zd14 zd23)), if_neg zc37, h]) 0 (Nat.zero_le _))
          rw [st5_0]
          simp only [gset_gset, gset_eq, K]
          rfl
        · skip
          refine g_bipush hX dX8_open_40 bc_m3 rfl ?_
          refine g_iret hX hR dX8_open_42 ?_
          rw [y_open, if_neg (fun q => q.elim zd7 (fun q => q.elim zd14 zd23)), if_pos zc37]
      · skip
        have zd23 : nc = 0 := (nI_eq (by omega) (by decide)).mp (show nI nc = nI 0 from zc23)
        refine g_bipush hX dX8_open_26 bc_m2 rfl ?_
        refine g_iret hX hR dX8_open_28 ?_
        first
        | (rw [y_open, if_pos (Or.inl zd7)]; done)
        | (rw [y_open, if_pos (Or.inr (Or.inl zd14))]; done)
        | (rw [y_open, if_pos (Or.inr (Or.inr zd23))]; done)
def y_vote (M : gM) (nm sv : Nat) (op : Bool) (m v : Int32) : Int32 × gM := if inR m nm = true ∧ inI v (nI 0) (nI 2) = true then (if op = true then (nI (cntTo nm (fun k => decide (0 < vVo (upd (M 131) (23 + 5 * m.toNatClampNeg + 2) (1 + v)) k))), gset (m_rec M sv) 131 (upd (M 131) (23 + 5 * m.toNatClampNeg + 2) (1 + v))) else (-2, M)) else (-1, M)
theorem c_X8_vote (E : gE) (M : gM) (nm sv : Nat) (op : Bool) (m v : Int32) (hm : M 131 0 = nI nm) (hmb : nm ≤ 10) (hop : M 131 4 = gB op) (hs : M 130 2 = nI sv) (hb : sv ≤ 4) : gMet E k_X8_vote [.ref 130, .int m, .int v] M (gInt fun r M' => (r, M') = y_vote M nm sv op m v) := by
  refine gMet.of (by decide +kernel) rfl (Nat.le_of_ble_eq_true rfl) (fun X hX hR => ?_)
  have K : m_rec M sv 131 = M 131 := rec_ne (by decide)
  cases hin : inR m nm with
  | false =>
    have e : y_vote M nm sv op m v = (-1, M) := by rw [y_vote, if_neg (fun q => Bool.noConfusion (q.1.symm.trans hin))]
    rw [e]
    refine g_aload_n (i := 0) hX dX8_vote_0 rfl rfl rfl ?_
    refine g_iload_n (i := 1) hX dX8_vote_1 rfl rfl rfl ?_
    refine g_callVi hX (c_X8_isMember E M m nm hm hmb) kf_X8_isMember rfl wk_X8_51 rfl rfl rfl rfl rfl dX8_vote_2 rfl (fun x2 M2 h2 => ?_)
    obtain ⟨rfl, hMq⟩ := h2; have hMq := hMq.symm; subst hMq
    first | refine g_if_eqB (tgt := 17) hX dX8_vote_5 (by decide) rfl (fun zc5 => ?_) (fun zc5 => Bool.noConfusion (hin.symm.trans zc5)) | refine g_if_eq (tgt := 17) hX dX8_vote_5 (by decide) rfl (fun zc5 => ?_) (fun zc5 => Bool.noConfusion (hin.symm.trans zc5))
    refine g_iconst hX dX8_vote_17 ic_m1 rfl ?_
    refine g_iret hX hR dX8_vote_18 ?_
    rfl
  | true =>
    obtain ⟨j, hj, rfl⟩ := inR_t (by omega) hin
    cases hv : inI v (nI 0) (nI 2) with
    | false =>
      have e : y_vote M nm sv op (nI j) v = (-1, M) := by rw [y_vote, if_neg (fun q => Bool.noConfusion (q.2.symm.trans hv))]
      rw [e]
      refine g_aload_n (i := 0) hX dX8_vote_0 rfl rfl rfl ?_
      refine g_iload_n (i := 1) hX dX8_vote_1 rfl rfl rfl ?_
      refine g_callVi hX (c_X8_isMember E M _ nm hm hmb) kf_X8_isMember rfl wk_X8_51 rfl rfl rfl rfl rfl dX8_vote_2 rfl (fun x2 M2 h2 => ?_)
      obtain ⟨rfl, hMq⟩ := h2; have hMq := hMq.symm; subst hMq
      first | refine g_if_eqB (tgt := 17) hX dX8_vote_5 (by decide) rfl (fun zc5 => Bool.noConfusion (hin.symm.trans zc5)) (fun zc5 => ?_) | refine g_if_eq (tgt := 17) hX dX8_vote_5 (by decide) rfl (fun zc5 => Bool.noConfusion (hin.symm.trans zc5)) (fun zc5 => ?_)
      refine g_iload_n (i := 2) hX dX8_vote_8 rfl rfl rfl ?_
      refine g_iconst hX dX8_vote_9 ic_0 rfl ?_
      refine g_iconst hX dX8_vote_10 ic_2 rfl ?_
      refine g_callSi hX (c_X8_in E M _ _ _) kf_X8_in rfl wk_X8_23 rfl rfl rfl rfl dX8_vote_11 rfl (fun x11 M11 h11 => ?_)
      obtain ⟨rfl, hMq⟩ := h11; have hMq := hMq.symm; subst hMq
      first | refine g_if_neB (tgt := 19) hX dX8_vote_14 (by decide) rfl (fun zc14 => Bool.noConfusion (hv.symm.trans zc14)) (fun zc14 => ?_) | refine g_if_ne (tgt := 19) hX dX8_vote_14 (by decide) rfl (fun zc14 => Bool.noConfusion (hv.symm.trans zc14)) (fun zc14 => ?_)
      refine g_iconst hX dX8_vote_17 ic_m1 rfl ?_
      refine g_iret hX hR dX8_vote_18 ?_
      rfl
    | true =>
      have e : y_vote M nm sv op (nI j) v = if op = true then (nI (cntTo nm (fun k => decide (0 < vVo (upd (M 131) (23 + 5 * j + 2) (1 + v)) k))), gset (m_rec M sv) 131 (upd (M 131) (23 + 5 * j + 2) (1 + v))) else (-2, M) := by rw [y_vote, if_pos ⟨hin, hv⟩, cl_nI (by omega)]
      rw [e]
      have loop : op = true → ∀ k, k ≤ nm → gG X E (gset (m_rec M sv) 131 (upd (M 131) (23 + 5 * j + 2) (1 + v))) 54 [some (.ref 130), some (.int (nI j)), some (.int v), some (.int (nI (cntTo k (fun k => decide (0 < vVo (upd (M 131) (23 + 5 * j + 2) (1 + v)) k))))), some (.int (nI k))] [] (gQ X E (gInt fun r M' => (r, M') = if op = true then (nI (cntTo nm (fun k => decide (0 < vVo (upd (M 131) (23 + 5 * j + 2) (1 + v)) k))), gset (m_rec M sv) 131 (upd (M 131) (23 + 5 * j + 2) (1 + v))) else (-2, M))) := by
        intro hopt
        refine up_loop nm _ ?_ ?_
        · skip
          refine g_iload hX dX8_vote_54 rfl rfl ?_
          refine g_aload_n (i := 0) hX dX8_vote_56 rfl rfl rfl ?_
          refine g_getR hX fl_X8_7 rfl rfl dX8_vote_57 rfl ?_
          refine g_iconst hX dX8_vote_60 ic_0 rfl ?_
          refine g_ialdv (x := nI nm) hX rfl (rfl) (by omega) rfl ((by rw [gset_eq, upd_n _ _ (by omega)]; exact hm)) dX8_vote_61 rfl ?_
          first | refine g_icmp_geN (tgt := 94) hX dX8_vote_62 (by decide) rfl (by omega) (by omega) (fun zc62 => ?_) (fun zc62 => absurd zc62 (by omega)) | refine g_icmp_ge (tgt := 94) hX dX8_vote_62 (by decide) rfl (fun zc62 => ?_) (fun zc62 => absurd zc62 (by omega))
          refine g_iload_n (i := 3) hX dX8_vote_94 rfl rfl rfl ?_
          refine g_iret hX hR dX8_vote_95 ?_
          rw [if_pos hopt]
        · intro k hk' ih
          simp only [cntTo] at ih
          refine g_iload hX dX8_vote_54 rfl rfl ?_
          refine g_aload_n (i := 0) hX dX8_vote_56 rfl rfl rfl ?_
          refine g_getR hX fl_X8_7 rfl rfl dX8_vote_57 rfl ?_
          refine g_iconst hX dX8_vote_60 ic_0 rfl ?_
          refine g_ialdv (x := nI nm) hX rfl (rfl) (by omega) rfl ((by rw [gset_eq, upd_n _ _ (by omega)]; exact hm)) dX8_vote_61 rfl ?_
          first | refine g_icmp_geN (tgt := 94) hX dX8_vote_62 (by decide) rfl (by omega) (by omega) (fun zc62 => absurd zc62 (by omega)) (fun zc62 => ?_) | refine g_icmp_ge (tgt := 94) hX dX8_vote_62 (by decide) rfl (fun zc62 => absurd zc62 (by omega)) (fun zc62 => ?_)
          refine g_iload_n (i := 3) hX dX8_vote_65 rfl rfl rfl ?_
          refine g_aload_n (i := 0) hX dX8_vote_66 rfl rfl rfl ?_
          refine g_getR hX fl_X8_7 rfl rfl dX8_vote_67 rfl ?_
          refine g_iload hX dX8_vote_70 rfl rfl ?_
          refine g_callSi hX (c_X8_memberAt E _ k) kf_X8_memberAt rfl wk_X8_27 rfl rfl rfl rfl dX8_vote_72 rfl (fun x72 M72 h72 => ?_)
          obtain ⟨rfl, hMq⟩ := h72; have hMq := hMq.symm; subst hMq
          refine g_iconst hX dX8_vote_75 ic_2 rfl ?_
          first | refine g_iaddN hX dX8_vote_76 rfl ?_ | refine g_iadd hX dX8_vote_76 rfl ?_
          refine g_ialdv (x := vVo (upd (M 131) (23 + 5 * j + 2) (1 + v)) k) hX rfl (rfl) (by omega) rfl (rfl) dX8_vote_77 rfl ?_
          refine g_if_le (tgt := 85) hX dX8_vote_78 (by decide) rfl (fun zc78 => ?_) (fun zc78 => ?_)
          · skip
            have zc : ¬ decide (0 < vVo (upd (M 131) (23 + 5 * j + 2) (1 + v)) k) = true := fun q => absurd (of_decide_eq_true q) (Int32.not_lt.mpr zc78)
            refine g_iconst hX dX8_vote_85 ic_0 rfl ?_
            first | refine g_iaddN hX dX8_vote_86 rfl ?_ | refine g_iadd hX dX8_vote_86 rfl ?_
            refine g_istore_n (i := 3) hX dX8_vote_87 rfl (Nat.le_of_ble_eq_true rfl) rfl ?_
            first | refine g_iincN hX dX8_vote_88 ic_1 rfl (Nat.le_of_ble_eq_true rfl) rfl ?_ | refine g_iinc hX dX8_vote_88 ic_1 rfl rfl (Nat.le_of_ble_eq_true rfl) rfl ?_
            refine g_goto (n := 54) hX dX8_vote_91 (by decide) ?_
            first | (rw [if_neg zc] at ih; exact ih) | (rw [if_pos zc] at ih; exact ih)
          · skip
            have zc : decide (0 < vVo (upd (M 131) (23 + 5 * j + 2) (1 + v)) k) = true := decide_eq_true (Int32.not_le.mp zc78)
            refine g_iconst hX dX8_vote_81 ic_1 rfl ?_
            refine g_goto (n := 86) hX dX8_vote_82 (by decide) ?_
            first | refine g_iaddN hX dX8_vote_86 rfl ?_ | refine g_iadd hX dX8_vote_86 rfl ?_
            refine g_istore_n (i := 3) hX dX8_vote_87 rfl (Nat.le_of_ble_eq_true rfl) rfl ?_
            first | refine g_iincN hX dX8_vote_88 ic_1 rfl (Nat.le_of_ble_eq_true rfl) rfl ?_ | refine g_iinc hX dX8_vote_88 ic_1 rfl rfl (Nat.le_of_ble_eq_true rfl) rfl ?_
            refine g_goto (n := 54) hX dX8_vote_91 (by decide) ?_
            first | (rw [if_neg zc] at ih; exact ih) | (rw [if_pos zc] at ih; exact ih)
      refine g_aload_n (i := 0) hX dX8_vote_0 rfl rfl rfl ?_
      refine g_iload_n (i := 1) hX dX8_vote_1 rfl rfl rfl ?_
      refine g_callVi hX (c_X8_isMember E M _ nm hm hmb) kf_X8_isMember rfl wk_X8_51 rfl rfl rfl rfl rfl dX8_vote_2 rfl (fun x2 M2 h2 => ?_)
      obtain ⟨rfl, hMq⟩ := h2; have hMq := hMq.symm; subst hMq
      first | refine g_if_eqB (tgt := 17) hX dX8_vote_5 (by decide) rfl (fun zc5 => Bool.noConfusion (hin.symm.trans zc5)) (fun zc5 => ?_) | refine g_if_eq (tgt := 17) hX dX8_vote_5 (by decide) rfl (fun zc5 => Bool.noConfusion (hin.symm.trans zc5)) (fun zc5 => ?_)
      refine g_iload_n (i := 2) hX dX8_vote_8 rfl rfl rfl ?_
      refine g_iconst hX dX8_vote_9 ic_0 rfl ?_
      refine g_iconst hX dX8_vote_10 ic_2 rfl ?_
      refine g_callSi hX (c_X8_in E M _ _ _) kf_X8_in rfl wk_X8_23 rfl rfl rfl rfl dX8_vote_11 rfl (fun x11 M11 h11 => ?_)
      obtain ⟨rfl, hMq⟩ := h11; have hMq := hMq.symm; subst hMq
      first | refine g_if_neB (tgt := 19) hX dX8_vote_14 (by decide) rfl (fun zc14 => ?_) (fun zc14 => Bool.noConfusion (hv.symm.trans zc14)) | refine g_if_ne (tgt := 19) hX dX8_vote_14 (by decide) rfl (fun zc14 => ?_) (fun zc14 => Bool.noConfusion (hv.symm.trans zc14))
      refine g_aload_n (i := 0) hX dX8_vote_19 rfl rfl rfl ?_
      refine g_getR hX fl_X8_7 rfl rfl dX8_vote_20 rfl ?_
      refine g_iconst hX dX8_vote_23 ic_4 rfl ?_
      refine g_ialdv (x := gB op) hX rfl (rfl) (by omega) rfl (hop) dX8_vote_24 rfl ?_
      first | refine g_if_neB (tgt := 31) hX dX8_vote_25 (by decide) rfl (fun zc25 => ?_) (fun zc25 => ?_) | refine g_if_ne (tgt := 31) hX dX8_vote_25 (by decide) rfl (fun zc25 => ?_) (fun zc25 => ?_)
      · skip
        refine g_aload_n (i := 0) hX dX8_vote_31 rfl rfl rfl ?_
        refine g_callVv hX (c_X8_records E M sv hs hb) kf_X8_records rfl wk_X8_31 rfl rfl rfl rfl rfl dX8_vote_32 rfl (fun M32 h32 => ?_)
        subst h32
        refine g_aload_n (i := 0) hX dX8_vote_35 rfl rfl rfl ?_
        refine g_getR hX fl_X8_7 rfl rfl dX8_vote_36 rfl ?_
        refine g_iload_n (i := 1) hX dX8_vote_39 rfl rfl rfl ?_
        refine g_callSi hX (c_X8_memberAt E _ j) kf_X8_memberAt rfl wk_X8_27 rfl rfl rfl rfl dX8_vote_40 rfl (fun x40 M40 h40 => ?_)
        obtain ⟨rfl, hMq⟩ := h40; have hMq := hMq.symm; subst hMq
        refine g_iconst hX dX8_vote_43 ic_2 rfl ?_
        first | refine g_iaddN hX dX8_vote_44 rfl ?_ | refine g_iadd hX dX8_vote_44 rfl ?_
        refine g_iconst hX dX8_vote_45 ic_1 rfl ?_
        refine g_iload_n (i := 2) hX dX8_vote_46 rfl rfl rfl ?_
        refine g_iadd hX dX8_vote_47 rfl ?_
        refine g_iast hX rfl (rfl) (by omega) rfl dX8_vote_48 rfl ?_
        refine g_iconst hX dX8_vote_49 ic_0 rfl ?_
        refine g_istore_n (i := 3) hX dX8_vote_50 rfl (Nat.le_of_ble_eq_true rfl) rfl ?_
        refine g_iconst hX dX8_vote_51 ic_0 rfl ?_
        refine g_istore hX dX8_vote_52 (Nat.le_of_ble_eq_true rfl) rfl ?_
        exact gGM (by rw [K]; rfl) (loop zc25 0 (Nat.zero_le _))
      · skip
        refine g_bipush hX dX8_vote_28 bc_m2 rfl ?_
        refine g_iret hX hR dX8_vote_30 ?_
        rw [if_neg (fun q => Bool.noConfusion (q.symm.trans zc25))]
abbrev vGi (N : Nat → Int32) (m : Nat) : Int32 := vVo N m - 1
abbrev talN (N : Nat → Int32) (nk nm : Nat) : Nat → Int32 := talF (vW N) (vMi N) (vSe N) (vGi N) (vCm N) (vKd N) nk nm
abbrev talK (N : Nat → Int32) (nk nm : Nat) : Nat → Int32 := talR (vW N) (vMi N) (vSe N) (vGi N) (vCm N) (vKd N) nk nm
theorem lapB_congr {mi mi' se se' : Nat → Int32} {m : Nat} (h1 : mi m = mi' m) (h2 : se 4 = se' 4) : lapB mi se m = lapB mi' se' m := by simp only [lapB, h1, h2]
theorem techB_congr {mb mb' kd kd' : Nat → Int32} {nk m : Nat} (h : ∀ k, k < nk → mb k = mb' k ∧ kd k = kd' k) : techB mb kd nk m = techB mb' kd' nk m := anyTo_congr (fun k hk => by rw [(h k hk).1, (h k hk).2])
theorem actW_congr {w w' mi mi' se se' : Nat → Int32} {n : Nat} (h : ∀ m, m < n → w m = w' m ∧ mi m = mi' m) (h4 : se 4 = se' 4) : actW w mi se n = actW w' mi' se' n := sumTo_congr (fun m hm => by rw [lapB_congr (h m hm).2 h4, (h m hm).1])
theorem talR_0 {w mi se gi mb kd : Nat → Int32} {nk n : Nat} : talR w mi se gi mb kd nk n 0 = actW w mi se n := sumTo_congr (fun m _ => by simp only [ctr]; split <;> rfl)
theorem upd_upd (r : Nat → Int32) (k : Nat) (x y : Int32) : upd (upd r k x) k y = upd r k y := by funext j; simp only [upd]; split <;> rfl
theorem upd_comm (r : Nat → Int32) {i k : Nat} (x y : Int32) (h : i ≠ k) : upd (upd r i x) k y = upd (upd r k y) i x := by
  funext j; simp only [upd]
  by_cases h1 : j = k
  · subst h1; rw [if_pos rfl, if_neg (Ne.symm h), if_pos rfl]
  · rw [if_neg h1, if_neg h1]
theorem talU_lap {w mi se gi mb kd : Nat → Int32} {nk n : Nat} (A : Int32) (h : lapB mi se n = true) : upd (talR w mi se gi mb kd nk (n + 1)) 0 A = upd (talR w mi se gi mb kd nk n) 0 A := by rw [talR_lap h]
theorem talU_not {w mi se gi mb kd : Nat → Int32} {nk n : Nat} (A : Int32) (hv : gi n = -1) : upd (talR w mi se gi mb kd nk (n + 1)) 0 A = upd (talR w mi se gi mb kd nk n) 0 A := by
  cases h : lapB mi se n with
  | true => rw [talR_lap h]
  | false => rw [talR_not h hv, upd_upd]
theorem talU_vote {w mi se gi mb kd : Nat → Int32} {nk n : Nat} (A : Int32) (h : lapB mi se n = false) (hv : ¬ gi n = -1) : upd (talR w mi se gi mb kd nk (n + 1)) 0 A = upd (upd (upd (talR w mi se gi mb kd nk n) 0 A) 1 (talR w mi se gi mb kd nk n 1 + w n)) (sforN gi mb kd nk n) (talR w mi se gi mb kd nk n (sforN gi mb kd nk n) + w n) := by
  have hs := sforN_in gi mb kd nk n
  rw [talR_vote h hv, upd_comm _ _ _ (by omega : sforN gi mb kd nk n ≠ 0), upd_comm _ _ _ (by omega : (1 : Nat) ≠ 0), upd_upd]
theorem c_X8_tallies (E : gE) (M : gM) (nm nk : Nat) (vt : Nat → Nat) (hm : M 131 0 = nI nm) (hmb : nm ≤ 10) (hk : M 131 9 = nI nk) (hkb : nk ≤ 30) (hv : ∀ m, m < nm → vt m ≤ 3 ∧ vVo (M 131) m = nI (vt m)) : gMet E k_X8_tallies [.ref 130] M (gVoid fun M' => M' = gset M 131 (blkTo 17 6 (talN (M 131) nk nm) (M 131))) := by
  refine gMet.of (by decide +kernel) rfl (Nat.le_of_ble_eq_true rfl) (fun X hX hR => ?_)
  have bo : ∀ g j, j < 17 ∨ 23 ≤ j → blkTo 17 6 g (M 131) j = M 131 j := fun g j h => blk_out (by omega)
  have eMi : ∀ g m, vMi (blkTo 17 6 g (M 131)) m = vMi (M 131) m := fun g m => bo g _ (Or.inr (by omega))
  have eW : ∀ g m, vW (blkTo 17 6 g (M 131)) m = vW (M 131) m := fun g m => bo g _ (Or.inr (by omega))
  have eSe : ∀ g j, j < 5 → vSe (blkTo 17 6 g (M 131)) j = vSe (M 131) j := fun g j h => bo g _ (Or.inl (by omega))
  have loop2 := up_loop nm (fun k => ∀ a b, gG X E (gset M 131 (blkTo 17 6 (upd (talK (M 131) nk k) 0 (actW (vW (M 131)) (vMi (M 131)) (vSe (M 131)) nm)) (M 131))) 37 [some (.ref 130), some (.int (nI k)), a, b] [] (gQ X E (gVoid fun M' => M' = gset M 131 (blkTo 17 6 (talN (M 131) nk nm) (M 131))))) ?_ ?_
  · have loop1 := up_loop 6 (fun k => ∀ a b, gG X E (gset M 131 (blkTo 17 k (fun _ => 0) (M 131))) 2 [some (.ref 130), some (.int (nI k)), a, b] [] (gQ X E (gVoid fun M' => M' = gset M 131 (blkTo 17 6 (talN (M 131) nk nm) (M 131))))) ?_ ?_
    · skip
      refine g_iconst hX dX8_tallies_0 ic_0 rfl ?_
      refine g_istore_n (i := 1) hX dX8_tallies_1 rfl (Nat.le_of_ble_eq_true rfl) rfl ?_
      exact gGM (by rw [blkTo_0, gset_self]) (loop1 0 (Nat.zero_le _) _ _)
    · intro a b
      refine g_iload_n (i := 1) hX dX8_tallies_2 rfl rfl rfl ?_
      refine g_bipush hX dX8_tallies_3 bc_6 rfl ?_
      first | refine g_icmp_geN (tgt := 24) hX dX8_tallies_5 (by decide) rfl (by omega) (by omega) (fun zc5 => ?_) (fun zc5 => absurd zc5 (by omega)) | refine g_icmp_ge (tgt := 24) hX dX8_tallies_5 (by decide) rfl (fun zc5 => ?_) (fun zc5 => absurd zc5 (by omega))
      refine g_aload_n (i := 0) hX dX8_tallies_24 rfl rfl rfl ?_
      refine g_getR hX fl_X8_7 rfl rfl dX8_tallies_25 rfl ?_
      refine g_bipush hX dX8_tallies_28 bc_17 rfl ?_
      refine g_aload_n (i := 0) hX dX8_tallies_30 rfl rfl rfl ?_
      refine g_callVi hX (c_X8_activeWeight E _ nm (by rw [gset_eq]; exact (bo _ 0 (Or.inl (by omega))).trans hm) hmb) kf_X8_activeWeight rfl wk_X8_67 rfl rfl rfl rfl rfl dX8_tallies_31 rfl (fun x31 M31 h31 => ?_)
      obtain ⟨rfl, hMq⟩ := h31; have hMq := hMq.symm; subst hMq
      refine g_iast hX rfl ((rfl : _ = nI (17 + 0))) (by omega) rfl dX8_tallies_34 rfl ?_
      refine g_iconst hX dX8_tallies_35 ic_0 rfl ?_
      refine g_istore_n (i := 1) hX dX8_tallies_36 rfl (Nat.le_of_ble_eq_true rfl) rfl ?_
      refine gGM ?_ (loop2 0 (Nat.zero_le _) _ _)
      rw [gset_gset, gset_eq, blk_upd (by decide), actW_congr (fun m _ => ⟨eW _ m, eMi _ m⟩) (eSe _ 4 (by decide))]
      rfl
    · intro k hk' ih a b
      have hs2 := blkTo_succ 17 k (fun _ => 0) (M 131)
      refine g_iload_n (i := 1) hX dX8_tallies_2 rfl rfl rfl ?_
      refine g_bipush hX dX8_tallies_3 bc_6 rfl ?_
      first | refine g_icmp_geN (tgt := 24) hX dX8_tallies_5 (by decide) rfl (by omega) (by omega) (fun zc5 => absurd zc5 (by omega)) (fun zc5 => ?_) | refine g_icmp_ge (tgt := 24) hX dX8_tallies_5 (by decide) rfl (fun zc5 => absurd zc5 (by omega)) (fun zc5 => ?_)
      refine g_aload_n (i := 0) hX dX8_tallies_8 rfl rfl rfl ?_
      refine g_getR hX fl_X8_7 rfl rfl dX8_tallies_9 rfl ?_
      refine g_bipush hX dX8_tallies_12 bc_17 rfl ?_
      refine g_iload_n (i := 1) hX dX8_tallies_14 rfl rfl rfl ?_
      first | refine g_iaddN hX dX8_tallies_15 rfl ?_ | refine g_iadd hX dX8_tallies_15 rfl ?_
      refine g_iconst hX dX8_tallies_16 ic_0 rfl ?_
      refine g_iast hX rfl (rfl) (by omega) rfl dX8_tallies_17 rfl ?_
      first | refine g_iincN hX dX8_tallies_18 ic_1 rfl (Nat.le_of_ble_eq_true rfl) rfl ?_ | refine g_iinc hX dX8_tallies_18 ic_1 rfl rfl (Nat.le_of_ble_eq_true rfl) rfl ?_
      refine g_goto (n := 2) hX dX8_tallies_21 (by decide) ?_
      exact gGM (by rw [gset_gset]; exact congrArg (gset _ 131) hs2) (ih _ _)
  · intro a b
    have e0 : upd (talK (M 131) nk nm) 0 (actW (vW (M 131)) (vMi (M 131)) (vSe (M 131)) nm) = talK (M 131) nk nm := upd_same talR_0
    rw [e0]
    have ec : carB4 (talK (M 131) nk nm 0) (talK (M 131) nk nm 1) (talK (M 131) nk nm 2) (talK (M 131) nk nm 3) (vSe (blkTo 17 6 (talK (M 131) nk nm) (M 131))) = carB (talK (M 131) nk nm) (vSe (M 131)) := by
      simp only [carB4, carB, eSe _ 0 (by decide), eSe _ 1 (by decide)]
    refine g_iload_n (i := 1) hX dX8_tallies_37 rfl rfl rfl ?_
    refine g_aload_n (i := 0) hX dX8_tallies_38 rfl rfl rfl ?_
    refine g_getR hX fl_X8_7 rfl rfl dX8_tallies_39 rfl ?_
    refine g_iconst hX dX8_tallies_42 ic_0 rfl ?_
    refine g_ialdv (x := nI nm) hX rfl (rfl) (by omega) rfl ((by rw [gset_eq, bo _ 0 (Or.inl (by omega))]; exact hm)) dX8_tallies_43 rfl ?_
    first | refine g_icmp_geN (tgt := 140) hX dX8_tallies_44 (by decide) rfl (by omega) (by omega) (fun zc44 => ?_) (fun zc44 => absurd zc44 (by omega)) | refine g_icmp_ge (tgt := 140) hX dX8_tallies_44 (by decide) rfl (fun zc44 => ?_) (fun zc44 => absurd zc44 (by omega))
    refine g_aload_n (i := 0) hX dX8_tallies_140 rfl rfl rfl ?_
    refine g_getR hX fl_X8_7 rfl rfl dX8_tallies_141 rfl ?_
    refine g_bipush hX dX8_tallies_144 bc_22 rfl ?_
    refine g_aload_n (i := 0) hX dX8_tallies_146 rfl rfl rfl ?_
    refine g_aload_n (i := 0) hX dX8_tallies_147 rfl rfl rfl ?_
    refine g_getR hX fl_X8_7 rfl rfl dX8_tallies_148 rfl ?_
    refine g_bipush hX dX8_tallies_151 bc_17 rfl ?_
    refine g_ialdv (x := talK (M 131) nk nm 0) hX rfl ((rfl : _ = nI (17 + 0))) (by omega) rfl ((by rw [gset_eq, blk_in (by decide)])) dX8_tallies_153 rfl ?_
    refine g_aload_n (i := 0) hX dX8_tallies_154 rfl rfl rfl ?_
    refine g_getR hX fl_X8_7 rfl rfl dX8_tallies_155 rfl ?_
    refine g_bipush hX dX8_tallies_158 bc_18 rfl ?_
    refine g_ialdv (x := talK (M 131) nk nm 1) hX rfl ((rfl : _ = nI (17 + 1))) (by omega) rfl ((by rw [gset_eq, blk_in (by decide)])) dX8_tallies_160 rfl ?_
    refine g_aload_n (i := 0) hX dX8_tallies_161 rfl rfl rfl ?_
    refine g_getR hX fl_X8_7 rfl rfl dX8_tallies_162 rfl ?_
    refine g_bipush hX dX8_tallies_165 bc_19 rfl ?_
    refine g_ialdv (x := talK (M 131) nk nm 2) hX rfl ((rfl : _ = nI (17 + 2))) (by omega) rfl ((by rw [gset_eq, blk_in (by decide)])) dX8_tallies_167 rfl ?_
    refine g_aload_n (i := 0) hX dX8_tallies_168 rfl rfl rfl ?_
    refine g_getR hX fl_X8_7 rfl rfl dX8_tallies_169 rfl ?_
    refine g_bipush hX dX8_tallies_172 bc_20 rfl ?_
    refine g_ialdv (x := talK (M 131) nk nm 3) hX rfl ((rfl : _ = nI (17 + 3))) (by omega) rfl ((by rw [gset_eq, blk_in (by decide)])) dX8_tallies_174 rfl ?_
    refine g_callVi hX (c_X8_carries E _ _ _ _ _) kf_X8_carries rfl wk_X8_76 rfl rfl rfl rfl rfl dX8_tallies_175 rfl (fun x175 M175 h175 => ?_)
    obtain ⟨rfl, hMq⟩ := h175; have hMq := hMq.symm; subst hMq
    first | refine g_if_eqB (tgt := 185) hX dX8_tallies_178 (by decide) rfl (fun zc178 => ?_) (fun zc178 => ?_) | refine g_if_eq (tgt := 185) hX dX8_tallies_178 (by decide) rfl (fun zc178 => ?_) (fun zc178 => ?_)
    · skip
      have zd : carB (talK (M 131) nk nm) (vSe (M 131)) = false := ec.symm.trans zc178
      refine g_iconst hX dX8_tallies_185 ic_0 rfl ?_
      refine g_iast hX rfl ((rfl : _ = nI (17 + 5))) (by omega) rfl dX8_tallies_186 rfl ?_
      refine g_vret hX hR dX8_tallies_187 ?_
      rw [gset_gset, gset_eq, blk_upd (by decide)]; simp only [talF, zd]; rfl
    · skip
      have zd : carB (talK (M 131) nk nm) (vSe (M 131)) = true := ec.symm.trans zc178
      refine g_iconst hX dX8_tallies_181 ic_1 rfl ?_
      refine g_goto (n := 186) hX dX8_tallies_182 (by decide) ?_
      refine g_iast hX rfl ((rfl : _ = nI (17 + 5))) (by omega) rfl dX8_tallies_186 rfl ?_
      refine g_vret hX hR dX8_tallies_187 ?_
      rw [gset_gset, gset_eq, blk_upd (by decide)]; simp only [talF, zd]; rfl
  · intro k hk' ih a b
    obtain ⟨v1, v2⟩ := hv k hk'
    have hs := sforN_in (vGi (M 131)) (vCm (M 131)) (vKd (M 131)) nk k
    have egi : vGi (M 131) k = nI (vt k) - 1 := congrArg (· - 1) v2
    have tail : ∀ c, 1 + c = sforN (vGi (M 131)) (vCm (M 131)) (vKd (M 131)) nk k → lapB (vMi (M 131)) (vSe (M 131)) k = false → ¬ vGi (M 131) k = -1 → ∀ a b, gG X E (gset M 131 (blkTo 17 6 (upd (talK (M 131) nk k) 0 (actW (vW (M 131)) (vMi (M 131)) (vSe (M 131)) nm)) (M 131))) 89 [some (.ref 130), some (.int (nI k)), a, b] [.int (nI c)] (gQ X E (gVoid fun M' => M' = gset M 131 (blkTo 17 6 (talN (M 131) nk nm) (M 131)))) := by
      intro c hc h1 h2 a b
      have ev := talU_vote (nk := nk) (w := vW (M 131)) (gi := vGi (M 131)) (mb := vCm (M 131)) (kd := vKd (M 131)) (actW (vW (M 131)) (vMi (M 131)) (vSe (M 131)) nm) h1 h2
      refine g_istore_n (i := 3) hX dX8_tallies_89 rfl (Nat.le_of_ble_eq_true rfl) rfl ?_
      refine g_aload_n (i := 0) hX dX8_tallies_90 rfl rfl rfl ?_
      refine g_getR hX fl_X8_7 rfl rfl dX8_tallies_91 rfl ?_
      refine g_bipush hX dX8_tallies_94 bc_18 rfl ?_
      refine g_dup2 hX dX8_tallies_96 rfl rfl rfl ?_
      refine g_ialdv (x := talK (M 131) nk k 1) hX rfl ((rfl : _ = nI (17 + 1))) (by omega) rfl ((by rw [gset_eq, blk_in (by decide), upd_n _ _ (by decide)])) dX8_tallies_97 rfl ?_
      refine g_aload_n (i := 0) hX dX8_tallies_98 rfl rfl rfl ?_
      refine g_getR hX fl_X8_7 rfl rfl dX8_tallies_99 rfl ?_
      refine g_iload_n (i := 1) hX dX8_tallies_102 rfl rfl rfl ?_
      refine g_callSi hX (c_X8_memberAt E _ k) kf_X8_memberAt rfl wk_X8_27 rfl rfl rfl rfl dX8_tallies_103 rfl (fun x103 M103 h103 => ?_)
      obtain ⟨rfl, hMq⟩ := h103; have hMq := hMq.symm; subst hMq
      refine g_iconst hX dX8_tallies_106 ic_0 rfl ?_
      first | refine g_iaddN hX dX8_tallies_107 rfl ?_ | refine g_iadd hX dX8_tallies_107 rfl ?_
      refine g_ialdv (x := vW (M 131) k) hX rfl (rfl) (by omega) rfl ((eW _ k)) dX8_tallies_108 rfl ?_
      first | refine g_iaddN hX dX8_tallies_109 rfl ?_ | refine g_iadd hX dX8_tallies_109 rfl ?_
      refine g_iast hX rfl ((rfl : _ = nI (17 + 1))) (by omega) rfl dX8_tallies_110 rfl ?_
      refine g_aload_n (i := 0) hX dX8_tallies_111 rfl rfl rfl ?_
      refine g_getR hX fl_X8_7 rfl rfl dX8_tallies_112 rfl ?_
      refine g_bipush hX dX8_tallies_115 bc_18 rfl ?_
      refine g_iload_n (i := 3) hX dX8_tallies_117 rfl rfl rfl ?_
      first | refine g_iaddN hX dX8_tallies_118 rfl ?_ | refine g_iadd hX dX8_tallies_118 rfl ?_
      refine g_dup2 hX dX8_tallies_119 rfl rfl rfl ?_
      refine g_ialdv (x := talK (M 131) nk k (sforN (vGi (M 131)) (vCm (M 131)) (vKd (M 131)) nk k)) hX rfl ((congrArg nI (by omega) : _ = nI (17 + sforN (vGi (M 131)) (vCm (M 131)) (vKd (M 131)) nk k))) (by omega) rfl ((by rw [gset_gset]; simp only [gset_eq]; rw [upd_n _ _ (by omega), blk_in (by omega), upd_n _ _ (by omega)])) dX8_tallies_120 rfl ?_
      refine g_aload_n (i := 0) hX dX8_tallies_121 rfl rfl rfl ?_
      refine g_getR hX fl_X8_7 rfl rfl dX8_tallies_122 rfl ?_
      refine g_iload_n (i := 1) hX dX8_tallies_125 rfl rfl rfl ?_
      refine g_callSi hX (c_X8_memberAt E _ k) kf_X8_memberAt rfl wk_X8_27 rfl rfl rfl rfl dX8_tallies_126 rfl (fun x126 M126 h126 => ?_)
      obtain ⟨rfl, hMq⟩ := h126; have hMq := hMq.symm; subst hMq
      refine g_iconst hX dX8_tallies_129 ic_0 rfl ?_
      first | refine g_iaddN hX dX8_tallies_130 rfl ?_ | refine g_iadd hX dX8_tallies_130 rfl ?_
      refine g_ialdv (x := vW (M 131) k) hX rfl (rfl) (by omega) rfl ((by rw [gset_gset]; simp only [gset_eq]; rw [upd_n _ _ (by omega)]; exact eW _ k)) dX8_tallies_131 rfl ?_
      first | refine g_iaddN hX dX8_tallies_132 rfl ?_ | refine g_iadd hX dX8_tallies_132 rfl ?_
      refine g_iast hX rfl ((congrArg nI (by omega) : _ = nI (17 + sforN (vGi (M 131)) (vCm (M 131)) (vKd (M 131)) nk k))) (by omega) rfl dX8_tallies_133 rfl ?_
      first | refine g_iincN hX dX8_tallies_134 ic_1 rfl (Nat.le_of_ble_eq_true rfl) rfl ?_ | refine g_iinc hX dX8_tallies_134 ic_1 rfl rfl (Nat.le_of_ble_eq_true rfl) rfl ?_
      refine g_goto (n := 37) hX dX8_tallies_137 (by decide) ?_
      refine gGM ?_ (ih _ _)
      rw [gset_gset]
      simp only [gset_gset, gset_eq]
      rw [blk_upd (by decide), blk_upd (by omega), ← ev]
    refine g_iload_n (i := 1) hX dX8_tallies_37 rfl rfl rfl ?_
    refine g_aload_n (i := 0) hX dX8_tallies_38 rfl rfl rfl ?_
    refine g_getR hX fl_X8_7 rfl rfl dX8_tallies_39 rfl ?_
    refine g_iconst hX dX8_tallies_42 ic_0 rfl ?_
    refine g_ialdv (x := nI nm) hX rfl (rfl) (by omega) rfl ((by rw [gset_eq, bo _ 0 (Or.inl (by omega))]; exact hm)) dX8_tallies_43 rfl ?_
    first | refine g_icmp_geN (tgt := 140) hX dX8_tallies_44 (by decide) rfl (by omega) (by omega) (fun zc44 => absurd zc44 (by omega)) (fun zc44 => ?_) | refine g_icmp_ge (tgt := 140) hX dX8_tallies_44 (by decide) rfl (fun zc44 => absurd zc44 (by omega)) (fun zc44 => ?_)
    refine g_aload_n (i := 0) hX dX8_tallies_47 rfl rfl rfl ?_
    refine g_getR hX fl_X8_7 rfl rfl dX8_tallies_48 rfl ?_
    refine g_iload_n (i := 1) hX dX8_tallies_51 rfl rfl rfl ?_
    refine g_callSi hX (c_X8_memberAt E _ k) kf_X8_memberAt rfl wk_X8_27 rfl rfl rfl rfl dX8_tallies_52 rfl (fun x52 M52 h52 => ?_)
    obtain ⟨rfl, hMq⟩ := h52; have hMq := hMq.symm; subst hMq
    refine g_iconst hX dX8_tallies_55 ic_2 rfl ?_
    first | refine g_iaddN hX dX8_tallies_56 rfl ?_ | refine g_iadd hX dX8_tallies_56 rfl ?_
    refine g_ialdv (x := nI (vt k)) hX rfl (rfl) (by omega) rfl ((by rw [gset_eq]; exact (bo _ _ (Or.inr (by omega))).trans v2)) dX8_tallies_57 rfl ?_
    refine g_istore_n (i := 2) hX dX8_tallies_58 rfl (Nat.le_of_ble_eq_true rfl) rfl ?_
    refine g_iload_n (i := 2) hX dX8_tallies_59 rfl rfl rfl ?_
    refine g_if_le (tgt := 134) hX dX8_tallies_60 (by decide) rfl (fun zc60 => ?_) (fun zc60 => ?_)
    · skip
      have zd60 : vt k = 0 := by
        rcases Nat.eq_zero_or_pos (vt k) with h | h
        · exact h
        · exact absurd zc60 (nI_nle h (by omega))
      first | refine g_iincN hX dX8_tallies_134 ic_1 rfl (Nat.le_of_ble_eq_true rfl) rfl ?_ | refine g_iinc hX dX8_tallies_134 ic_1 rfl rfl (Nat.le_of_ble_eq_true rfl) rfl ?_
      refine g_goto (n := 37) hX dX8_tallies_137 (by decide) ?_
      first
      | (have hg : vGi (M 131) k = -1 := by rw [egi, zd60]; decide
         exact gGM (by rw [talK, talK, talU_not _ hg]) (ih _ _))
      | exact gGM (by rw [talK, talK, talU_lap _ zl]) (ih _ _)
    · skip
      have zd60 : 0 < vt k := Nat.pos_of_ne_zero (fun q => zc60 (by rw [q]; decide))
      refine g_aload_n (i := 0) hX dX8_tallies_63 rfl rfl rfl ?_
      refine g_iload_n (i := 1) hX dX8_tallies_64 rfl rfl rfl ?_
      refine g_callVi hX (c_X8_isLapsed E _ k (by omega)) kf_X8_isLapsed rfl wk_X8_54 rfl rfl rfl rfl rfl dX8_tallies_65 rfl (fun x65 M65 h65 => ?_)
      obtain ⟨rfl, hMq⟩ := h65; have hMq := hMq.symm; subst hMq
      first | refine g_if_neB (tgt := 134) hX dX8_tallies_68 (by decide) rfl (fun zc68 => ?_) (fun zc68 => ?_) | refine g_if_ne (tgt := 134) hX dX8_tallies_68 (by decide) rfl (fun zc68 => ?_) (fun zc68 => ?_)
      · skip
        have zl : lapB (vMi (M 131)) (vSe (M 131)) k = true := (lapB_congr (eMi _ k) (eSe _ 4 (by decide))).symm.trans zc68
        first | refine g_iincN hX dX8_tallies_134 ic_1 rfl (Nat.le_of_ble_eq_true rfl) rfl ?_ | refine g_iinc hX dX8_tallies_134 ic_1 rfl rfl (Nat.le_of_ble_eq_true rfl) rfl ?_
        refine g_goto (n := 37) hX dX8_tallies_137 (by decide) ?_
        first
        | (have hg : vGi (M 131) k = -1 := by rw [egi, zd60]; decide
           exact gGM (by rw [talK, talK, talU_not _ hg]) (ih _ _))
        | exact gGM (by rw [talK, talK, talU_lap _ zl]) (ih _ _)
      · skip
        have zl : lapB (vMi (M 131)) (vSe (M 131)) k = false := (lapB_congr (eMi _ k) (eSe _ 4 (by decide))).symm.trans zc68
        refine g_iload_n (i := 2) hX dX8_tallies_71 rfl rfl rfl ?_
        refine g_iconst hX dX8_tallies_72 ic_2 rfl ?_
        first | refine g_icmp_neN (tgt := 88) hX dX8_tallies_73 (by decide) rfl (by omega) (by omega) (fun zc73 => ?_) (fun zc73 => ?_) | refine g_icmp_ne (tgt := 88) hX dX8_tallies_73 (by decide) rfl (fun zc73 => ?_) (fun zc73 => ?_)
        · skip
          have zs : 1 + vt k = sforN (vGi (M 131)) (vCm (M 131)) (vKd (M 131)) nk k := by
            have hg : vGi (M 131) k = nI (vt k - 1) := by rw [egi]; exact pk_sub (a := vt k) (b := 1) (by omega)
            have h3 : vt k = 1 ∨ vt k = 3 := by omega
            rcases h3 with h | h
            · simp only [sforN, hg, h]; exact (if_pos (by decide)).symm
            · simp only [sforN, hg, h]
              rw [if_neg (by decide), show decide (nI (3 - 1) = 1) = false by decide]; rfl
          refine g_iload_n (i := 2) hX dX8_tallies_88 rfl rfl rfl ?_
          have hg : vGi (M 131) k = nI (vt k - 1) := by rw [egi]; exact pk_sub (a := vt k) (b := 1) (by omega)
          have hgn : ¬ vGi (M 131) k = -1 := by rw [hg]; exact nI_ne_m1 (by omega)
          exact tail _ zs zl hgn _ _
        · skip
          refine g_aload_n (i := 0) hX dX8_tallies_76 rfl rfl rfl ?_
          refine g_iload_n (i := 1) hX dX8_tallies_77 rfl rfl rfl ?_
          refine g_callVi hX (c_X8_isTechnical E _ nk k (by rw [gset_eq]; exact (bo _ 9 (Or.inl (by omega))).trans hk) hkb) kf_X8_isTechnical rfl wk_X8_73 rfl rfl rfl rfl rfl dX8_tallies_78 rfl (fun x78 M78 h78 => ?_)
          obtain ⟨rfl, hMq⟩ := h78; have hMq := hMq.symm; subst hMq
          first | refine g_if_neB (tgt := 88) hX dX8_tallies_81 (by decide) rfl (fun zc81 => ?_) (fun zc81 => ?_) | refine g_if_ne (tgt := 88) hX dX8_tallies_81 (by decide) rfl (fun zc81 => ?_) (fun zc81 => ?_)
          · skip
            have zt : techB (vCm (M 131)) (vKd (M 131)) nk k = true := (techB_congr (fun c _ => ⟨bo _ _ (Or.inr (by omega)), bo _ _ (Or.inr (by omega))⟩)).symm.trans zc81
            have zs : 1 + vt k = sforN (vGi (M 131)) (vCm (M 131)) (vKd (M 131)) nk k := by
              have hg : vGi (M 131) k = nI (vt k - 1) := by rw [egi]; exact pk_sub (a := vt k) (b := 1) (by omega)
              simp only [sforN, hg, zt, zc73]; decide
            refine g_iload_n (i := 2) hX dX8_tallies_88 rfl rfl rfl ?_
            have hg : vGi (M 131) k = nI (vt k - 1) := by rw [egi]; exact pk_sub (a := vt k) (b := 1) (by omega)
            have hgn : ¬ vGi (M 131) k = -1 := by rw [hg]; exact nI_ne_m1 (by omega)
            exact tail _ zs zl hgn _ _
          · skip
            have zt : techB (vCm (M 131)) (vKd (M 131)) nk k = false := (techB_congr (fun c _ => ⟨bo _ _ (Or.inr (by omega)), bo _ _ (Or.inr (by omega))⟩)).symm.trans zc81
            have zs : 1 + 3 = sforN (vGi (M 131)) (vCm (M 131)) (vKd (M 131)) nk k := by
              have hg : vGi (M 131) k = nI (vt k - 1) := by rw [egi]; exact pk_sub (a := vt k) (b := 1) (by omega)
              simp only [sforN, hg, zt, zc73]; decide
            refine g_iconst hX dX8_tallies_84 ic_3 rfl ?_
            refine g_goto (n := 89) hX dX8_tallies_85 (by decide) ?_
            have hg : vGi (M 131) k = nI (vt k - 1) := by rw [egi]; exact pk_sub (a := vt k) (b := 1) (by omega)
            have hgn : ¬ vGi (M 131) k = -1 := by rw [hg]; exact nI_ne_m1 (by omega)
            exact tail _ zs zl hgn _ _

