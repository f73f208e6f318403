/-! the reference: editions, resolve -/
theorem st45_upd {o p n m : Nat} {g r : Nat → Int32} {v : Int32} (hp : p < 45) (h : p ≠ o) : upd (st45 o n g r) (73 + 45 * m + p) v = st45 o n g (upd r (73 + 45 * m + p) v) := by
  funext j; simp only [upd, st45]
  by_cases h1 : j = 73 + 45 * m + p
  · subst h1; rw [if_pos rfl, if_neg (by omega), if_pos rfl]
  · rw [if_neg h1]
    by_cases h2 : 73 ≤ j ∧ j < 73 + 45 * n ∧ (j - 73) % 45 = o
    · rw [if_pos h2, if_pos h2]
    · rw [if_neg h2, if_neg h2, if_neg h1]
def brgN (N : Nat → Int32) (nk q : Nat) : Int32 := optI (-1) (bestTo nk (behB (vCc N) (vSt N) (vGv N) (vNb N q) (vPr N q)) (turnB (vTn N)))
def eR0 (N : Nat → Int32) (ne : Nat) : Nat → Int32 := upd (upd N 2 (nI (ne + 1))) 11 1
def eR (N : Nat → Int32) (ne nk k : Nat) : Nat → Int32 := st45 (32 + ne) k (brgN N nk) (st45 (18 + ne) k (fun _ => N 5) (st45 (4 + ne) k (vPr N) (eR0 N ne)))
theorem eR0_out {N : Nat → Int32} {ne j : Nat} (h : j ≠ 2 ∧ j ≠ 11) : eR0 N ne j = N j := by
  simp only [eR0]; rw [upd_n _ _ h.2, upd_n _ _ h.1]
theorem eR_out {N : Nat → Int32} {ne nk k j : Nat} (h : j < 73 ∨ 73 + 45 * k ≤ j) : eR N ne nk k j = eR0 N ne j := by
  simp only [eR]; rw [st45_out h, st45_out h, st45_out h]
theorem eR_ne {N : Nat → Int32} {ne nk k m p : Nat} (hp : p < 45) (h : p ≠ 32 + ne ∧ p ≠ 18 + ne ∧ p ≠ 4 + ne) : eR N ne nk k (73 + 45 * m + p) = N (73 + 45 * m + p) := by
  simp only [eR]; rw [st45_ne hp h.1, st45_ne hp h.2.1, st45_ne hp h.2.2, eR0_out (by omega)]
theorem eR_s {N : Nat → Int32} {ne nk k : Nat} (hne : ne ≤ 11) : upd (upd (upd (eR N ne nk k) (73 + 45 * k + (4 + ne)) (vPr N k)) (73 + 45 * k + (18 + ne)) (N 5)) (73 + 45 * k + (32 + ne)) (brgN N nk k) = eR N ne nk (k + 1) := by
  simp only [eR]
  rw [st45_upd (p := 4 + ne) (by omega) (by omega), st45_upd (p := 4 + ne) (by omega) (by omega), st45_s (o := 4 + ne) (by omega),
    st45_upd (p := 18 + ne) (by omega) (by omega), st45_s (o := 18 + ne) (k := k) (by omega) (fun _ => N 5), st45_s (o := 32 + ne) (by omega)]
def chgM (N : Nat → Int32) (nc ne : Nat) : Bool := anyTo nc (fun k => decide (vPr N k ≠ N (73 + 45 * k + (3 + ne))))
def y_edition (N : Nat → Int32) (nc nk ne : Nat) : Nat → Int32 := if chgM N nc ne = true then eR N ne nk nc else N
theorem c_X8_comesEdition (E : gE) (M : gM) (nc nk ne : Nat) (hc : M 131 1 = nI nc) (hcb : nc ≤ 20) (hk : M 131 9 = nI nk) (hkb : nk ≤ 30) (he : M 131 2 = nI ne) (heb : ne ≤ 12) (hne : chgM (M 131) nc ne = true → ne ≤ 11) : gMet E k_X8_comesEdition [.ref 130] M (gVoid fun M' => M' = gset M 131 (y_edition (M 131) nc nk ne)) := by
  refine gMet.of (by decide +kernel) rfl (Nat.le_of_ble_eq_true rfl) (fun X hX hR => ?_)
  have loop2 : chgM (M 131) nc ne = true → ∀ a b k, k ≤ nc → gG X E (gset M 131 (eR (M 131) ne nk k)) 86 [some (.ref 130), a, some (.int (nI k)), b] [] (gQ X E (gVoid fun M' => M' = gset M 131 (y_edition (M 131) nc nk ne))) := by
    intro hch a
    have hne := hne hch
    have hy : y_edition (M 131) nc nk ne = eR (M 131) ne nk nc := if_pos hch
    rw [hy]
    have L : ∀ k, k ≤ nc → ∀ b, gG X E (gset M 131 (eR (M 131) ne nk k)) 86 [some (.ref 130), a, some (.int (nI k)), b] [] (gQ X E (gVoid fun M' => M' = gset M 131 (eR (M 131) ne nk nc))) := by
      refine up_loop nc _ ?_ ?_
      · intro b
        refine g_iload_n (i := 2) hX dX8_comesEdition_86 rfl rfl rfl ?_
        refine g_aload_n (i := 0) hX dX8_comesEdition_87 rfl rfl rfl ?_
        refine g_getR hX fl_X8_7 rfl rfl dX8_comesEdition_88 rfl ?_
        refine g_iconst hX dX8_comesEdition_91 ic_1 rfl ?_
        refine g_ialdv (x := nI nc) hX rfl (rfl) (by omega) rfl ((by rw [gset_eq, eR_out (Or.inl (by omega)), eR0_out (by omega)]; exact hc)) dX8_comesEdition_92 rfl ?_
        first | refine g_icmp_geN (tgt := 188) hX dX8_comesEdition_93 (by decide) rfl (by omega) (by omega) (fun zc93 => ?_) (fun zc93 => absurd zc93 (by omega)) | refine g_icmp_ge (tgt := 188) hX dX8_comesEdition_93 (by decide) rfl (fun zc93 => ?_) (fun zc93 => absurd zc93 (by omega))
        refine g_vret hX hR dX8_comesEdition_188 ?_
        rfl
      · intro k hk' ih b
        have e2 : ∀ q, eR (M 131) ne nk q 2 = nI (ne + 1) := fun q => by rw [eR_out (Or.inl (by omega))]; rfl
        have e5 : ∀ q, eR (M 131) ne nk q 5 = M 131 5 := fun q => by rw [eR_out (Or.inl (by omega)), eR0_out (by omega)]
        have e9 : ∀ q, eR (M 131) ne nk q 9 = M 131 9 := fun q => by rw [eR_out (Or.inl (by omega)), eR0_out (by omega)]
        have ep : ∀ q, eR (M 131) ne nk q (73 + 45 * k + 1) = vPr (M 131) k := fun q => eR_ne (by omega) (by omega)
        have en : ∀ q, eR (M 131) ne nk q (73 + 45 * k + 0) = vNb (M 131) k := fun q => eR_ne (by omega) (by omega)
        have eo : ∀ j, 973 ≤ j → eR (M 131) ne nk k j = M 131 j := fun j h => by rw [eR_out (Or.inr (by omega)), eR0_out (by omega)]
        have es := eR_s (N := M 131) (nk := nk) (k := k) hne
        refine g_iload_n (i := 2) hX dX8_comesEdition_86 rfl rfl rfl ?_
        refine g_aload_n (i := 0) hX dX8_comesEdition_87 rfl rfl rfl ?_
        refine g_getR hX fl_X8_7 rfl rfl dX8_comesEdition_88 rfl ?_
        refine g_iconst hX dX8_comesEdition_91 ic_1 rfl ?_
        refine g_ialdv (x := nI nc) hX rfl (rfl) (by omega) rfl ((by rw [gset_eq, eR_out (Or.inl (by omega)), eR0_out (by omega)]; exact hc)) dX8_comesEdition_92 rfl ?_
        first | refine g_icmp_geN (tgt := 188) hX dX8_comesEdition_93 (by decide) rfl (by omega) (by omega) (fun zc93 => absurd zc93 (by omega)) (fun zc93 => ?_) | refine g_icmp_ge (tgt := 188) hX dX8_comesEdition_93 (by decide) rfl (fun zc93 => absurd zc93 (by omega)) (fun zc93 => ?_)
        refine g_iload_n (i := 2) hX dX8_comesEdition_96 rfl rfl rfl ?_
        refine g_callSi hX (c_X8_clauseAt E _ k) kf_X8_clauseAt rfl wk_X8_34 rfl rfl rfl rfl dX8_comesEdition_97 rfl (fun x97 M97 h97 => ?_)
        obtain ⟨rfl, hMq⟩ := h97; have hMq := hMq.symm; subst hMq
        refine g_istore_n (i := 3) hX dX8_comesEdition_100 rfl (Nat.le_of_ble_eq_true rfl) rfl ?_
        refine g_aload_n (i := 0) hX dX8_comesEdition_101 rfl rfl rfl ?_
        refine g_getR hX fl_X8_7 rfl rfl dX8_comesEdition_102 rfl ?_
        refine g_iload_n (i := 3) hX dX8_comesEdition_105 rfl rfl rfl ?_
        refine g_iconst hX dX8_comesEdition_106 ic_3 rfl ?_
        first | refine g_iaddN hX dX8_comesEdition_107 rfl ?_ | refine g_iadd hX dX8_comesEdition_107 rfl ?_
        refine g_aload_n (i := 0) hX dX8_comesEdition_108 rfl rfl rfl ?_
        refine g_getR hX fl_X8_7 rfl rfl dX8_comesEdition_109 rfl ?_
        refine g_iconst hX dX8_comesEdition_112 ic_2 rfl ?_
        refine g_ialdv (x := nI (ne + 1)) hX rfl (rfl) (by omega) rfl (by rw [gset_eq]; exact e2 k) dX8_comesEdition_113 rfl ?_
        first | refine g_iaddN hX dX8_comesEdition_114 rfl ?_ | refine g_iadd hX dX8_comesEdition_114 rfl ?_
        refine g_aload_n (i := 0) hX dX8_comesEdition_115 rfl rfl rfl ?_
        refine g_getR hX fl_X8_7 rfl rfl dX8_comesEdition_116 rfl ?_
        refine g_iload_n (i := 3) hX dX8_comesEdition_119 rfl rfl rfl ?_
        refine g_iconst hX dX8_comesEdition_120 ic_1 rfl ?_
        first | refine g_iaddN hX dX8_comesEdition_121 rfl ?_ | refine g_iadd hX dX8_comesEdition_121 rfl ?_
        refine g_ialdv (x := vPr (M 131) k) hX rfl (rfl) (by omega) rfl (by rw [gset_eq]; exact ep k) dX8_comesEdition_122 rfl ?_
        refine g_iast hX rfl (congrArg nI (by omega : _ = 73 + 45 * k + (4 + ne))) (by omega) rfl dX8_comesEdition_123 rfl ?_
        refine g_aload_n (i := 0) hX dX8_comesEdition_124 rfl rfl rfl ?_
        refine g_getR hX fl_X8_7 rfl rfl dX8_comesEdition_125 rfl ?_
        refine g_iload_n (i := 3) hX dX8_comesEdition_128 rfl rfl rfl ?_
        refine g_bipush hX dX8_comesEdition_129 bc_17 rfl ?_
        first | refine g_iaddN hX dX8_comesEdition_131 rfl ?_ | refine g_iadd hX dX8_comesEdition_131 rfl ?_
        refine g_aload_n (i := 0) hX dX8_comesEdition_132 rfl rfl rfl ?_
        refine g_getR hX fl_X8_7 rfl rfl dX8_comesEdition_133 rfl ?_
        refine g_iconst hX dX8_comesEdition_136 ic_2 rfl ?_
        refine g_ialdv (x := nI (ne + 1)) hX rfl (rfl) (by omega) rfl (by simp only [gset_eq]; rw [upd_n _ _ (by omega)]; exact e2 k) dX8_comesEdition_137 rfl ?_
        first | refine g_iaddN hX dX8_comesEdition_138 rfl ?_ | refine g_iadd hX dX8_comesEdition_138 rfl ?_
        refine g_aload_n (i := 0) hX dX8_comesEdition_139 rfl rfl rfl ?_
        refine g_getR hX fl_X8_7 rfl rfl dX8_comesEdition_140 rfl ?_
        refine g_iconst hX dX8_comesEdition_143 ic_5 rfl ?_
        refine g_ialdv (x := M 131 5) hX rfl (rfl) (by omega) rfl (by simp only [gset_eq]; rw [upd_n _ _ (by omega)]; exact e5 k) dX8_comesEdition_144 rfl ?_
        refine g_iast hX rfl (congrArg nI (by omega : _ = 73 + 45 * k + (18 + ne))) (by omega) rfl dX8_comesEdition_145 rfl ?_
        refine g_aload_n (i := 0) hX dX8_comesEdition_146 rfl rfl rfl ?_
        refine g_getR hX fl_X8_7 rfl rfl dX8_comesEdition_147 rfl ?_
        refine g_iload_n (i := 3) hX dX8_comesEdition_150 rfl rfl rfl ?_
        refine g_bipush hX dX8_comesEdition_151 bc_31 rfl ?_
        first | refine g_iaddN hX dX8_comesEdition_153 rfl ?_ | refine g_iadd hX dX8_comesEdition_153 rfl ?_
        refine g_aload_n (i := 0) hX dX8_comesEdition_154 rfl rfl rfl ?_
        refine g_getR hX fl_X8_7 rfl rfl dX8_comesEdition_155 rfl ?_
        refine g_iconst hX dX8_comesEdition_158 ic_2 rfl ?_
        refine g_ialdv (x := nI (ne + 1)) hX rfl (rfl) (by omega) rfl (by simp only [gset_eq]; rw [upd_n _ _ (by omega), upd_n _ _ (by omega)]; exact e2 k) dX8_comesEdition_159 rfl ?_
        first | refine g_iaddN hX dX8_comesEdition_160 rfl ?_ | refine g_iadd hX dX8_comesEdition_160 rfl ?_
        refine g_aload_n (i := 0) hX dX8_comesEdition_161 rfl rfl rfl ?_
        refine g_aload_n (i := 0) hX dX8_comesEdition_162 rfl rfl rfl ?_
        refine g_getR hX fl_X8_7 rfl rfl dX8_comesEdition_163 rfl ?_
        refine g_iload_n (i := 3) hX dX8_comesEdition_166 rfl rfl rfl ?_
        refine g_iconst hX dX8_comesEdition_167 ic_0 rfl ?_
        first | refine g_iaddN hX dX8_comesEdition_168 rfl ?_ | refine g_iadd hX dX8_comesEdition_168 rfl ?_
        refine g_ialdv (x := vNb (M 131) k) hX rfl (rfl) (by omega) rfl (by simp only [gset_eq]; rw [upd_n _ _ (by omega), upd_n _ _ (by omega)]; exact en k) dX8_comesEdition_169 rfl ?_
        refine g_aload_n (i := 0) hX dX8_comesEdition_170 rfl rfl rfl ?_
        refine g_getR hX fl_X8_7 rfl rfl dX8_comesEdition_171 rfl ?_
        refine g_iload_n (i := 3) hX dX8_comesEdition_174 rfl rfl rfl ?_
        refine g_iconst hX dX8_comesEdition_175 ic_1 rfl ?_
        first | refine g_iaddN hX dX8_comesEdition_176 rfl ?_ | refine g_iadd hX dX8_comesEdition_176 rfl ?_
        refine g_ialdv (x := vPr (M 131) k) hX rfl (rfl) (by omega) rfl (by simp only [gset_eq]; rw [upd_n _ _ (by omega), upd_n _ _ (by omega)]; exact ep k) dX8_comesEdition_177 rfl ?_
        refine g_callVi hX (c_X8_giver E _ nk _ _ (by simp only [gset_eq]; rw [upd_n _ _ (by omega), upd_n _ _ (by omega), e9]; exact hk) hkb) kf_X8_giver rfl wk_X8_97 rfl rfl rfl rfl rfl dX8_comesEdition_178 rfl (fun x178 M178 h178 => ?_)
        obtain ⟨rfl, hMq⟩ := h178; have hMq := hMq.symm; subst hMq
        have eb : ∀ R : Nat → Int32, (∀ j, 973 ≤ j → R j = M 131 j) → optI (-1) (bestTo nk (behB (vCc R) (vSt R) (vGv R) (vNb (M 131) k) (vPr (M 131) k)) (turnB (vTn R))) = brgN (M 131) nk k := fun R hR => by
          simp only [brgN]
          refine congrArg _ (bestTo_congr (fun q _ => ?_) (fun q b _ _ _ _ => ?_))
          · simp only [behB, hR _ (show 973 ≤ 973 + 8 * q + 1 by omega), hR _ (show 973 ≤ 973 + 8 * q + 4 by omega), hR _ (show 973 ≤ 973 + 8 * q + 6 by omega)]
          · simp only [turnB, hR _ (show 973 ≤ 973 + 8 * q + 7 by omega), hR _ (show 973 ≤ 973 + 8 * b + 7 by omega)]
        rw [eb _ (fun j h => by simp only [gset_eq]; rw [upd_n _ _ (by omega), upd_n _ _ (by omega)]; exact eo j h)]
        refine g_iast hX rfl (congrArg nI (by omega : _ = 73 + 45 * k + (32 + ne))) (by omega) rfl dX8_comesEdition_181 rfl ?_
        first | refine g_iincN hX dX8_comesEdition_182 ic_1 rfl (Nat.le_of_ble_eq_true rfl) rfl ?_ | refine g_iinc hX dX8_comesEdition_182 ic_1 rfl rfl (Nat.le_of_ble_eq_true rfl) rfl ?_
        refine g_goto (n := 86) hX dX8_comesEdition_185 (by decide) ?_
        exact gGM (by simp only [gset_gset, gset_eq]; exact congrArg (gset M 131) es) (ih _)
    intro b k hk'
    exact L k hk' b
  have loop := up_loop nc (fun k => ∀ b, gG X E M 4 [some (.ref 130), some (.int (gB (anyTo k (fun k => decide (vPr (M 131) k ≠ M 131 (73 + 45 * k + (3 + ne))))))), some (.int (nI k)), b] [] (gQ X E (gVoid fun M' => M' = gset M 131 (y_edition (M 131) nc nk ne)))) ?_ ?_
  · skip
    refine g_iconst hX dX8_comesEdition_0 ic_0 rfl ?_
    refine g_istore_n (i := 1) hX dX8_comesEdition_1 rfl (Nat.le_of_ble_eq_true rfl) rfl ?_
    refine g_iconst hX dX8_comesEdition_2 ic_0 rfl ?_
    refine g_istore_n (i := 2) hX dX8_comesEdition_3 rfl (Nat.le_of_ble_eq_true rfl) rfl ?_
    exact loop 0 (Nat.zero_le _) _
  · intro b
    refine g_iload_n (i := 2) hX dX8_comesEdition_4 rfl rfl rfl ?_
    refine g_aload_n (i := 0) hX dX8_comesEdition_5 rfl rfl rfl ?_
    refine g_getR hX fl_X8_7 rfl rfl dX8_comesEdition_6 rfl ?_
    refine g_iconst hX dX8_comesEdition_9 ic_1 rfl ?_
    refine g_ialdv (x := nI nc) hX rfl (rfl) (by omega) rfl (hc) dX8_comesEdition_10 rfl ?_
    first | refine g_icmp_geN (tgt := 61) hX dX8_comesEdition_11 (by decide) rfl (by omega) (by omega) (fun zc11 => ?_) (fun zc11 => absurd zc11 (by omega)) | refine g_icmp_ge (tgt := 61) hX dX8_comesEdition_11 (by decide) rfl (fun zc11 => ?_) (fun zc11 => absurd zc11 (by omega))
    refine g_iload_n (i := 1) hX dX8_comesEdition_61 rfl rfl rfl ?_
    first | refine g_if_neB (tgt := 66) hX dX8_comesEdition_62 (by decide) rfl (fun zc62 => ?_) (fun zc62 => ?_) | refine g_if_ne (tgt := 66) hX dX8_comesEdition_62 (by decide) rfl (fun zc62 => ?_) (fun zc62 => ?_)
    · skip
      refine g_aload_n (i := 0) hX dX8_comesEdition_66 rfl rfl rfl ?_
      refine g_getR hX fl_X8_7 rfl rfl dX8_comesEdition_67 rfl ?_
      refine g_iconst hX dX8_comesEdition_70 ic_2 rfl ?_
      refine g_dup2 hX dX8_comesEdition_71 rfl rfl rfl ?_
      refine g_ialdv (x := nI ne) hX rfl (rfl) (by omega) rfl (he) dX8_comesEdition_72 rfl ?_
      refine g_iconst hX dX8_comesEdition_73 ic_1 rfl ?_
      first | refine g_iaddN hX dX8_comesEdition_74 rfl ?_ | refine g_iadd hX dX8_comesEdition_74 rfl ?_
      refine g_iast hX rfl (rfl) (by omega) rfl dX8_comesEdition_75 rfl ?_
      refine g_aload_n (i := 0) hX dX8_comesEdition_76 rfl rfl rfl ?_
      refine g_getR hX fl_X8_7 rfl rfl dX8_comesEdition_77 rfl ?_
      refine g_bipush hX dX8_comesEdition_80 bc_11 rfl ?_
      refine g_iconst hX dX8_comesEdition_82 ic_1 rfl ?_
      refine g_iast hX rfl (rfl) (by omega) rfl dX8_comesEdition_83 rfl ?_
      refine g_iconst hX dX8_comesEdition_84 ic_0 rfl ?_
      refine g_istore_n (i := 2) hX dX8_comesEdition_85 rfl (Nat.le_of_ble_eq_true rfl) rfl ?_
      exact gGM (by rw [gset_gset]; simp only [gset_eq, eR, st45_0, eR0]; rfl) (loop2 zc62 _ _ 0 (Nat.zero_le _))
    · skip
      refine g_vret hX hR dX8_comesEdition_65 ?_
      rw [y_edition, if_neg (fun q => Bool.noConfusion (q.symm.trans zc62)), gset_self]
  · intro k hk' ih b
    simp only [anyTo] at ih
    refine g_iload_n (i := 2) hX dX8_comesEdition_4 rfl rfl rfl ?_
    refine g_aload_n (i := 0) hX dX8_comesEdition_5 rfl rfl rfl ?_
    refine g_getR hX fl_X8_7 rfl rfl dX8_comesEdition_6 rfl ?_
    refine g_iconst hX dX8_comesEdition_9 ic_1 rfl ?_
    refine g_ialdv (x := nI nc) hX rfl (rfl) (by omega) rfl (hc) dX8_comesEdition_10 rfl ?_
    first | refine g_icmp_geN (tgt := 61) hX dX8_comesEdition_11 (by decide) rfl (by omega) (by omega) (fun zc11 => absurd zc11 (by omega)) (fun zc11 => ?_) | refine g_icmp_ge (tgt := 61) hX dX8_comesEdition_11 (by decide) rfl (fun zc11 => absurd zc11 (by omega)) (fun zc11 => ?_)
    refine g_iload_n (i := 2) hX dX8_comesEdition_14 rfl rfl rfl ?_
    refine g_callSi hX (c_X8_clauseAt E M k) kf_X8_clauseAt rfl wk_X8_34 rfl rfl rfl rfl dX8_comesEdition_15 rfl (fun x15 M15 h15 => ?_)
    obtain ⟨rfl, hMq⟩ := h15; have hMq := hMq.symm; subst hMq
    refine g_istore_n (i := 3) hX dX8_comesEdition_18 rfl (Nat.le_of_ble_eq_true rfl) rfl ?_
    refine g_iload_n (i := 1) hX dX8_comesEdition_19 rfl rfl rfl ?_
    first | refine g_if_neB (tgt := 49) hX dX8_comesEdition_20 (by decide) rfl (fun zc20 => ?_) (fun zc20 => ?_) | refine g_if_ne (tgt := 49) hX dX8_comesEdition_20 (by decide) rfl (fun zc20 => ?_) (fun zc20 => ?_)
    · skip
      refine g_iconst hX dX8_comesEdition_49 ic_1 rfl ?_
      refine g_goto (n := 54) hX dX8_comesEdition_50 (by decide) ?_
      refine g_istore_n (i := 1) hX dX8_comesEdition_54 rfl (Nat.le_of_ble_eq_true rfl) rfl ?_
      first | refine g_iincN hX dX8_comesEdition_55 ic_1 rfl (Nat.le_of_ble_eq_true rfl) rfl ?_ | refine g_iinc hX dX8_comesEdition_55 ic_1 rfl rfl (Nat.le_of_ble_eq_true rfl) rfl ?_
      refine g_goto (n := 4) hX dX8_comesEdition_58 (by decide) ?_
      first
      | (rw [zc20, Bool.true_or] at ih; exact ih _)
      | (rw [zc20, Bool.false_or, decide_eq_true zc46] at ih; exact ih _)
      | (rw [zc20, Bool.false_or, decide_eq_false (fun q => q zc46)] at ih; exact ih _)
    · skip
      refine g_aload_n (i := 0) hX dX8_comesEdition_23 rfl rfl rfl ?_
      refine g_getR hX fl_X8_7 rfl rfl dX8_comesEdition_24 rfl ?_
      refine g_iload_n (i := 3) hX dX8_comesEdition_27 rfl rfl rfl ?_
      refine g_iconst hX dX8_comesEdition_28 ic_1 rfl ?_
      first | refine g_iaddN hX dX8_comesEdition_29 rfl ?_ | refine g_iadd hX dX8_comesEdition_29 rfl ?_
      refine g_ialdv (x := vPr (M 131) k) hX rfl (rfl) (by omega) rfl (rfl) dX8_comesEdition_30 rfl ?_
      refine g_aload_n (i := 0) hX dX8_comesEdition_31 rfl rfl rfl ?_
      refine g_getR hX fl_X8_7 rfl rfl dX8_comesEdition_32 rfl ?_
      refine g_iload_n (i := 3) hX dX8_comesEdition_35 rfl rfl rfl ?_
      refine g_iconst hX dX8_comesEdition_36 ic_3 rfl ?_
      first | refine g_iaddN hX dX8_comesEdition_37 rfl ?_ | refine g_iadd hX dX8_comesEdition_37 rfl ?_
      refine g_aload_n (i := 0) hX dX8_comesEdition_38 rfl rfl rfl ?_
      refine g_getR hX fl_X8_7 rfl rfl dX8_comesEdition_39 rfl ?_
      refine g_iconst hX dX8_comesEdition_42 ic_2 rfl ?_
      refine g_ialdv (x := nI ne) hX rfl (rfl) (by omega) rfl (he) dX8_comesEdition_43 rfl ?_
      first | refine g_iaddN hX dX8_comesEdition_44 rfl ?_ | refine g_iadd hX dX8_comesEdition_44 rfl ?_
      refine g_iald hX rfl (congrArg nI (by omega : _ = 73 + 45 * k + (3 + ne))) (by omega) rfl dX8_comesEdition_45 rfl ?_
      refine g_icmp_eq (tgt := 53) hX dX8_comesEdition_46 (by decide) rfl (fun zc46 => ?_) (fun zc46 => ?_)
      · skip
        refine g_iconst hX dX8_comesEdition_53 ic_0 rfl ?_
        refine g_istore_n (i := 1) hX dX8_comesEdition_54 rfl (Nat.le_of_ble_eq_true rfl) rfl ?_
        first | refine g_iincN hX dX8_comesEdition_55 ic_1 rfl (Nat.le_of_ble_eq_true rfl) rfl ?_ | refine g_iinc hX dX8_comesEdition_55 ic_1 rfl rfl (Nat.le_of_ble_eq_true rfl) rfl ?_
        refine g_goto (n := 4) hX dX8_comesEdition_58 (by decide) ?_
        first
        | (rw [zc20, Bool.true_or] at ih; exact ih _)
        | (rw [zc20, Bool.false_or, decide_eq_true zc46] at ih; exact ih _)
        | (rw [zc20, Bool.false_or, decide_eq_false (fun q => q zc46)] at ih; exact ih _)
      · skip
        refine g_iconst hX dX8_comesEdition_49 ic_1 rfl ?_
        refine g_goto (n := 54) hX dX8_comesEdition_50 (by decide) ?_
        refine g_istore_n (i := 1) hX dX8_comesEdition_54 rfl (Nat.le_of_ble_eq_true rfl) rfl ?_
        first | refine g_iincN hX dX8_comesEdition_55 ic_1 rfl (Nat.le_of_ble_eq_true rfl) rfl ?_ | refine g_iinc hX dX8_comesEdition_55 ic_1 rfl rfl (Nat.le_of_ble_eq_true rfl) rfl ?_
        refine g_goto (n := 4) hX dX8_comesEdition_58 (by decide) ?_
        first
        | (rw [zc20, Bool.true_or] at ih; exact ih _)
        | (rw [zc20, Bool.false_or, decide_eq_true zc46] at ih; exact ih _)
        | (rw [zc20, Bool.false_or, decide_eq_false (fun q => q zc46)] at ih; exact ih _)

