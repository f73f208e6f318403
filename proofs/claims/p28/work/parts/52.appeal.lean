/-! isAppealed -/
def Rs (M M' : gM) : Prop := Eq25 M' M ∧ (∃ ol hs, WH M' ol hs) ∧ M' 128 = M 128 ∧ M' 129 = M 129
theorem all_ok : ∀ n, n ≤ 10 → 0 < n → inR (nI 1 <<< (nI n &&& 31) - nI 1) (2 ^ n) = true ∧ ¬ ((nI 1 <<< (nI n &&& 31) - nI 1) >>> (nI 0 &&& 31)) &&& 1 = 0 := by decide +kernel
theorem cnt_upd {n j : Nat} {s : Nat → Int32} (hj : j < n) (h : pendB s j = false) : cntTo n (pendB (upd s j 1)) = cntTo n (pendB s) + 1 := by
  induction n with
  | zero => omega
  | succ n ih =>
    simp only [cntTo]
    by_cases e : j = n
    · subst e
      have e1 : cntTo j (pendB (upd s j 1)) = cntTo j (pendB s) := cntTo_congr (fun k hk => by simp only [pendB]; rw [upd_n _ _ (by omega)])
      rw [e1, h]
      simp [pendB, upd_s]
    · have e1 : pendB (upd s j 1) n = pendB s n := by simp only [pendB]; rw [upd_n _ _ (fun q => e q.symm)]
      rw [ih (by omega), e1]
      omega
section
variable {E : gE} {M : gM} {nm nc nk ne nb td ol hs : Nat} {op br : Bool} {mb pl ch : Nat → Nat}
theorem c_L_low (E : gE) (M : gM) (v : Int32) (n : Nat) (h0 : 0 < n) (hn : n < 2 ^ 31) : gMet E k_L_low [.int v, .int (nI n)] M (gInt fun r M' => (∃ j, j < n ∧ r = nI j) ∧ M' = M) := by
  refine gMet.of (by decide +kernel) rfl (Nat.le_of_ble_eq_true rfl) (fun X hX hR => ?_)
  obtain ⟨q, hq, e⟩ := pk_andE v (m := 2147483647) 31 (by decide)
  refine g_iload_n (i := 0) hX dL_low_0 rfl rfl rfl ?_
  refine g_ldc hX wq_L_8 dL_low_1 rfl ?_
  refine g_iand hX dL_low_3 rfl ?_
  rw [e]
  refine g_iload_n (i := 1) hX dL_low_4 rfl rfl rfl ?_
  refine g_iremN hX dL_low_5 (by omega) (by omega) (by omega) rfl ?_
  refine g_iret hX hR dL_low_6 ?_
  exact ⟨⟨q % n, Nat.mod_lt _ h0, rfl⟩, rfl⟩
theorem reopen_row {c p a : Nat} (h : a ≠ 7 ∧ a ≠ 9 ∧ a ≠ 14 ∧ a ≠ 21) : m_reopen M c p nk ne br a = M a := by
  have ht : m_taken M c p nk a = M a := by
    simp only [m_taken]
    split
    · rw [gset_ne _ _ h.2.1, gset_ne _ _ h.2.2.2]
    · rw [gset_ne _ _ h.2.2.2]
  simp only [m_reopen]
  split
  · rw [gset_ne _ _ h.1, gset_ne _ _ h.2.2.1]; exact ht
  · exact ht
set_option maxHeartbeats 4000000 in
theorem c_L_isAppealed (h : J M nm nc nk ne nb td op br mb pl) (hH : WH M ol hs) (hz : Nz M nk nm op) (hnm0 : 0 < nm) (x : Int32) : gMet E k_L_isAppealed [.ref 0, .int x] M (gInt fun r M' => r = nI 1 ∧ Rs M M') := by
  refine gMet.of (by decide +kernel) rfl (Nat.le_of_ble_eq_true rfl) (fun X hX hR => ?_)
  have hW := h.ws
  have hm := hW.1.2
  have hk := hW.2.2.1.2
  have he := hW.2.2.2.1.2
  have htd := h.ht
  have hh4 := hH.2.2.2
  obtain ⟨al1, al2⟩ := all_ok nm hm hnm0
  have al3 := actIn_all (w := M 3) (mi := M 4) (se := M 25) hm
  obtain ⟨al, hal⟩ : ∃ al, al = nI 1 <<< (nI nm &&& 31) - nI 1 := ⟨_, rfl⟩
  rw [← hal] at al1 al2 al3
  have hrs : Rs M M := ⟨fun _ _ _ => rfl, ⟨ol, hs, hH⟩, rfl, rfl⟩
  by_cases hnk : nk = 0
  · skip
    refine g_iconst hX dL_isAppealed_0 ic_1 rfl ?_
    refine g_aload_n (i := 0) hX dL_isAppealed_1 rfl rfl rfl ?_
    refine g_iconst hX dL_isAppealed_2 ic_0 rfl ?_
    refine g_callVi hX (q_cnt hW hH 0 (v := nI nm) rfl rfl) kf_X7_count rfl wk_L_13 rfl rfl rfl rfl rfl dL_isAppealed_3 rfl (fun x3 M3 h3 => ?_)
    obtain ⟨rfl, hMq⟩ := h3; have hMq := hMq.symm; subst hMq
    refine g_ishl hX dL_isAppealed_6 rfl ?_
    refine g_iconst hX dL_isAppealed_7 ic_1 rfl ?_
    refine g_isub hX dL_isAppealed_8 rfl ?_
    refine g_istore_n (i := 2) hX dL_isAppealed_9 rfl (Nat.le_of_ble_eq_true rfl) rfl ?_
    refine g_aload_n (i := 0) hX dL_isAppealed_10 rfl rfl rfl ?_
    refine g_bipush hX dL_isAppealed_11 bc_6 rfl ?_
    refine g_callVi hX (q_cnt hW hH 6 (v := nI 0) rfl (by rw [← hnk]; rfl)) kf_X7_count rfl wk_L_13 rfl rfl rfl rfl rfl dL_isAppealed_13 rfl (fun x13 M13 h13 => ?_)
    obtain ⟨rfl, hMq⟩ := h13; have hMq := hMq.symm; subst hMq
    refine g_if_eq (tgt := 28) hX dL_isAppealed_16 (by decide) rfl (fun zc16 => ?_) (fun zc16 => absurd rfl zc16)
    refine g_iconst hX dL_isAppealed_28 ic_1 rfl ?_
    refine g_zret hX hR (by first | exact Or.inl rfl | exact Or.inr rfl | exact gB_01 _) dL_isAppealed_29 ?_
    exact ⟨rfl, hrs⟩
  cases ho : op with
  | true =>
    refine g_iconst hX dL_isAppealed_0 ic_1 rfl ?_
    refine g_aload_n (i := 0) hX dL_isAppealed_1 rfl rfl rfl ?_
    refine g_iconst hX dL_isAppealed_2 ic_0 rfl ?_
    refine g_callVi hX (q_cnt hW hH 0 (v := nI nm) rfl rfl) kf_X7_count rfl wk_L_13 rfl rfl rfl rfl rfl dL_isAppealed_3 rfl (fun x3 M3 h3 => ?_)
    obtain ⟨rfl, hMq⟩ := h3; have hMq := hMq.symm; subst hMq
    refine g_ishl hX dL_isAppealed_6 rfl ?_
    refine g_iconst hX dL_isAppealed_7 ic_1 rfl ?_
    refine g_isub hX dL_isAppealed_8 rfl ?_
    refine g_istore_n (i := 2) hX dL_isAppealed_9 rfl (Nat.le_of_ble_eq_true rfl) rfl ?_
    refine g_aload_n (i := 0) hX dL_isAppealed_10 rfl rfl rfl ?_
    refine g_bipush hX dL_isAppealed_11 bc_6 rfl ?_
    refine g_callVi hX (q_cnt hW hH 6 (v := nI nk) rfl rfl) kf_X7_count rfl wk_L_13 rfl rfl rfl rfl rfl dL_isAppealed_13 rfl (fun x13 M13 h13 => ?_)
    obtain ⟨rfl, hMq⟩ := h13; have hMq := hMq.symm; subst hMq
    refine g_if_eq (tgt := 28) hX dL_isAppealed_16 (by decide) rfl (fun zc16 => absurd zc16 (nI_ne0 (by omega) (by omega))) (fun zc16 => ?_)
    refine g_aload_n (i := 0) hX dL_isAppealed_19 rfl rfl rfl ?_
    refine g_iconst hX dL_isAppealed_20 ic_4 rfl ?_
    refine g_callVi hX (q_cnt hW hH 4 (v := nI 1) rfl (by show gB op = _; rw [ho]; rfl)) kf_X7_count rfl wk_L_13 rfl rfl rfl rfl rfl dL_isAppealed_21 rfl (fun x21 M21 h21 => ?_)
    obtain ⟨rfl, hMq⟩ := h21; have hMq := hMq.symm; subst hMq
    refine g_iconst hX dL_isAppealed_24 ic_1 rfl ?_
    refine g_icmp_ne (tgt := 30) hX dL_isAppealed_25 (by decide) rfl (fun zc25 => absurd rfl zc25) (fun zc25 => ?_)
    refine g_iconst hX dL_isAppealed_28 ic_1 rfl ?_
    refine g_zret hX hR (by first | exact Or.inl rfl | exact Or.inr rfl | exact gB_01 _) dL_isAppealed_29 ?_
    exact ⟨rfl, hrs⟩
  | false =>
    obtain ⟨P, hP⟩ : ∃ P, P = pr M nm nc nk ne op mb := ⟨_, rfl⟩
    have K266 : ∀ (M1 : gM) (x1 x2 x6 x7 x8 x9 x10 x11 : Option Value), Kp M M1 ol hs → gG X E M1 266 [some (.ref 0), x1, x2, some (.long P), none, some (.int (nI hs)), x6, x7, x8, x9, x10, x11, some (.int (nI 1))] [] (gQ X E (gInt fun r M' => r = nI 1 ∧ Rs M M')) := by
      intro M1 x1 x2 x6 x7 x8 x9 x10 x11 kp
      have K290 : ∀ M2 : gM, Eq25 M2 M → (∃ ol hs, WH M2 ol hs) → M2 128 = M 128 → M2 129 = M 129 → gG X E M2 290 [some (.ref 0), x1, x2, some (.long P), none, some (.int (nI hs)), x6, x7, x8, x9, x10, x11, some (.int (nI 1))] [] (gQ X E (gInt fun r M' => r = nI 1 ∧ Rs M M')) := by
        intro M2 e1 ⟨ol2, hs2, e2⟩ e3 e4
        refine g_aload_n (i := 0) hX dL_isAppealed_290 rfl rfl rfl ?_
        refine g_callSl hX (c_L_print (h.congr e1).ws e2 (hz.congr e1)) kf_L_print rfl wk_L_46 rfl rfl rfl rfl dL_isAppealed_291 rfl (fun x291 M291 h291 => ?_)
        obtain ⟨rfl, hMq⟩ := h291; have hMq := hMq.symm; subst hMq
        refine g_lload_n (i := 3) hX dL_isAppealed_294 rfl rfl rfl ?_
        refine g_lcmpE hX ((by rw [hP]; exact pr_congr e1)) dL_isAppealed_295 rfl ?_
        refine g_if_ne (tgt := 303) hX dL_isAppealed_296 (by decide) rfl (fun zc296 => absurd rfl zc296) (fun zc296 => ?_)
        refine g_iconst hX dL_isAppealed_299 ic_1 rfl ?_
        refine g_goto (n := 304) hX dL_isAppealed_300 (by decide) ?_
        refine g_zret hX hR (by first | exact Or.inl rfl | exact Or.inr rfl | exact gB_01 _) dL_isAppealed_304 ?_
        exact ⟨rfl, e1, ⟨ol2, hs2, e2⟩, e3, e4⟩
      by_cases h4 : hs = 4
      · have hk3 : hsK hs - 1 = 3 := by rw [h4]; rfl
        refine g_iload hX dL_isAppealed_266 rfl rfl ?_
        refine g_if_eq (tgt := 303) hX dL_isAppealed_268 (by decide) rfl (fun zc268 => absurd zc268 (by decide)) (fun zc268 => ?_)
        refine g_aload_n (i := 0) hX dL_isAppealed_271 rfl rfl rfl ?_
        refine g_callVi hX (kp_undo_c kp hH hW) kf_X7_undo rfl wk_L_105 rfl rfl rfl rfl rfl dL_isAppealed_272 rfl (fun x272 M272 h272 => ?_)
        obtain ⟨rfl, g1, g2, g3, g4⟩ := kp_undo_r kp hH h272
        refine g_iload hX dL_isAppealed_275 rfl rfl ?_
        refine g_iconst hX dL_isAppealed_277 ic_4 rfl ?_
        first | refine g_icmp_neN (tgt := 285) hX dL_isAppealed_278 (by decide) rfl (by omega) (by omega) (fun zc278 => absurd zc278 (by omega)) (fun zc278 => ?_) | refine g_icmp_ne (tgt := 285) hX dL_isAppealed_278 (by decide) rfl (fun zc278 => absurd zc278 (by omega)) (fun zc278 => ?_)
        refine g_iconst hX dL_isAppealed_281 ic_3 rfl ?_
        refine g_goto (n := 287) hX dL_isAppealed_282 (by decide) ?_
        refine g_icmp_ne (tgt := 303) hX dL_isAppealed_287 (by decide) rfl (fun zc287 => absurd (by rw [hk3]) zc287) (fun zc287 => ?_)
        exact K290 _ g1 ⟨_, _, g2⟩ g3 g4
      · have hk3 : hsK hs - 1 = hs := by unfold hsK; rw [if_pos (by omega)]; omega
        refine g_iload hX dL_isAppealed_266 rfl rfl ?_
        refine g_if_eq (tgt := 303) hX dL_isAppealed_268 (by decide) rfl (fun zc268 => absurd zc268 (by decide)) (fun zc268 => ?_)
        refine g_aload_n (i := 0) hX dL_isAppealed_271 rfl rfl rfl ?_
        refine g_callVi hX (kp_undo_c kp hH hW) kf_X7_undo rfl wk_L_105 rfl rfl rfl rfl rfl dL_isAppealed_272 rfl (fun x272 M272 h272 => ?_)
        obtain ⟨rfl, g1, g2, g3, g4⟩ := kp_undo_r kp hH h272
        refine g_iload hX dL_isAppealed_275 rfl rfl ?_
        refine g_iconst hX dL_isAppealed_277 ic_4 rfl ?_
        first | refine g_icmp_neN (tgt := 285) hX dL_isAppealed_278 (by decide) rfl (by omega) (by omega) (fun zc278 => ?_) (fun zc278 => absurd zc278 (by omega)) | refine g_icmp_ne (tgt := 285) hX dL_isAppealed_278 (by decide) rfl (fun zc278 => ?_) (fun zc278 => absurd zc278 (by omega))
        refine g_iload hX dL_isAppealed_285 rfl rfl ?_
        refine g_icmp_ne (tgt := 303) hX dL_isAppealed_287 (by decide) rfl (fun zc287 => absurd (by rw [hk3]) zc287) (fun zc287 => ?_)
        exact K290 _ g1 ⟨_, _, g2⟩ g3 g4
    have K59 : ∀ j, j < nk → gG X E M 53 [some (.ref 0), some (.int x), some (.int al), some (.long P), none, some (.int (nI hs)), none, none, none, none, none, none, none] [.int (nI j)] (gQ X E (gInt fun r M' => r = nI 1 ∧ Rs M M')) := by
      intro j hj
      obtain ⟨k1, k2, k3, k4, k5, k6, k7⟩ := h.cm j hj
      obtain ⟨st, hst, s1, s4⟩ : ∃ st : Nat, M 21 j = nI st ∧ 1 ≤ st ∧ st ≤ 4 := by
        rcases k4 ho with z | z | z | z
        · exact ⟨1, z, by decide, by decide⟩
        · exact ⟨2, z, by decide, by decide⟩
        · exact ⟨3, z, by decide, by decide⟩
        · exact ⟨4, z, by decide, by decide⟩
      have hst2 : M 21 j < 2 ↔ st < 2 := by rw [hst]; exact nI_ltI (by omega) (by decide)
      obtain ⟨ap, hap, -, ap60⟩ := inI_n (lo := 0) (hi := 60) (w := M 25 3) (by decide) (by decide) (h.st 3 (by decide))
      have pcl : cntTo nk (pendB (M 21)) ≤ nk := cntTo_le _ _
      obtain ⟨pp, hpp⟩ : ∃ pp, pp = cntTo nk (pendB (M 21)) := ⟨_, rfl⟩
      have hjn : (nI j).toNatClampNeg = j := nI_clamp (by omega)
      have c1 : inR (nI j) nk = true ∧ inR (nI 0) nm = true ∧ inR al (2 ^ nm) = true ∧ ¬ (al >>> (nI 0 &&& 31)) &&& 1 = 0 := ⟨by rw [inR_nI (by omega) (by omega)]; exact decide_eq_true hj, by rw [inR_nI (by decide) (by omega)]; exact decide_eq_true hnm0, al1, al2⟩
      have KL : (st < 2 ∨ ¬ M 1 5 ≤ M 22 j + M 25 3) → gG X E M 112 [some (.ref 0), some (.int x), some (.int al), some (.long P), none, some (.int (nI hs)), some (.int (nI j)), some (.int (nI st)), some (.int (nI pp)), some (.int (nI ne)), none, none, none] [.int (nI 1)] (gQ X E (gInt fun r M' => r = nI 1 ∧ Rs M M')) := by
        intro hl
        have hxa : x_appeal M nm nk ne ol hs op br pl (nI j) (nI 0) al = (-2, M) := by
          rw [x_appeal, if_pos c1, hjn, if_pos]
          rcases hl with q | q
          · exact Or.inr (Or.inl (hst2.mpr q))
          · exact Or.inr (Or.inr q)
        refine g_istore hX dL_isAppealed_112 (Nat.le_of_ble_eq_true rfl) rfl ?_
        refine g_aload_n (i := 0) hX dL_isAppealed_114 rfl rfl rfl ?_
        refine g_iload hX dL_isAppealed_115 rfl rfl ?_
        refine g_iconst hX dL_isAppealed_117 ic_0 rfl ?_
        refine g_iload_n (i := 2) hX dL_isAppealed_118 rfl rfl rfl ?_
        refine g_callVi hX (c_X7_appeal E (nI j) (nI 0) al hW hH) kf_X7_appeal rfl wk_L_77 rfl rfl rfl rfl rfl dL_isAppealed_119 rfl (fun x119 M119 h119 => ?_)
        replace h119 := (fun z => pr_e z hxa) h119
        obtain ⟨rfl, hMq⟩ := h119; have hMq := hMq.symm; subst hMq
        refine g_istore hX dL_isAppealed_122 (Nat.le_of_ble_eq_true rfl) rfl ?_
        refine g_iload hX dL_isAppealed_124 rfl rfl ?_
        refine g_if_eq (tgt := 162) hX dL_isAppealed_126 (by decide) rfl (fun zc126 => absurd zc126 (by decide)) (fun zc126 => ?_)
        refine g_iload hX dL_isAppealed_129 rfl rfl ?_
        refine g_bipush hX dL_isAppealed_131 bc_m2 rfl ?_
        refine g_icmp_ne (tgt := 160) hX dL_isAppealed_133 (by decide) rfl (fun zc133 => absurd rfl zc133) (fun zc133 => ?_)
        refine g_aload_n (i := 0) hX dL_isAppealed_136 rfl rfl rfl ?_
        refine g_callSl hX (c_L_print hW hH hz) kf_L_print rfl wk_L_46 rfl rfl rfl rfl dL_isAppealed_137 rfl (fun x137 M137 h137 => ?_)
        obtain ⟨rfl, hMq⟩ := h137; have hMq := hMq.symm; subst hMq
        refine g_lload_n (i := 3) hX dL_isAppealed_140 rfl rfl rfl ?_
        refine g_lcmpE hX (hP.symm) dL_isAppealed_141 rfl ?_
        refine g_if_ne (tgt := 160) hX dL_isAppealed_142 (by decide) rfl (fun zc142 => absurd rfl zc142) (fun zc142 => ?_)
        refine g_aload_n (i := 0) hX dL_isAppealed_145 rfl rfl rfl ?_
        refine g_bipush hX dL_isAppealed_146 bc_9 rfl ?_
        refine g_callVi hX (q_cnt hW hH 9 (v := nI hs) rfl rfl) kf_X7_count rfl wk_L_13 rfl rfl rfl rfl rfl dL_isAppealed_148 rfl (fun x148 M148 h148 => ?_)
        obtain ⟨rfl, hMq⟩ := h148; have hMq := hMq.symm; subst hMq
        refine g_iload hX dL_isAppealed_151 rfl rfl ?_
        refine g_icmp_ne (tgt := 160) hX dL_isAppealed_153 (by decide) rfl (fun zc153 => absurd rfl zc153) (fun zc153 => ?_)
        refine g_iconst hX dL_isAppealed_156 ic_1 rfl ?_
        refine g_goto (n := 161) hX dL_isAppealed_157 (by decide) ?_
        refine g_zret hX hR (by first | exact Or.inl rfl | exact Or.inr rfl | exact gB_01 _) dL_isAppealed_161 ?_
        exact ⟨rfl, hrs⟩
      have KO : ¬ st < 2 → M 1 5 ≤ M 22 j + M 25 3 → gG X E M 112 [some (.ref 0), some (.int x), some (.int al), some (.long P), none, some (.int (nI hs)), some (.int (nI j)), some (.int (nI st)), some (.int (nI pp)), some (.int (nI ne)), none, none, none] [.int (nI 0)] (gQ X E (gInt fun r M' => r = nI 1 ∧ Rs M M')) := by
        intro hs2 hdy
        obtain ⟨a, r0, y0, n0, s0, T⟩ := tal_ex nk hm h.wt
        have ha := T.ea
        have ha9 := T.ha
        have hno : ¬ (op = true ∨ M 21 j < 2 ∨ ¬ M 1 5 ≤ M 22 j + M 25 3) := by
          rintro (q | q | q)
          · rw [ho] at q; cases q
          · exact hs2 (hst2.mp q)
          · exact q hdy
        have hxa : x_appeal M nm nk ne ol hs op br pl (nI j) (nI 0) al = if 2 * nI a ≤ nI a then (0, m_keep M ol hs) else (1, m_reopen (m_keep M ol hs) j (pl j) nk ne br) := by
          rw [x_appeal, if_pos c1, hjn, if_neg hno, al3, ha]
        have hK := h.congr (keep_e25 (M := M) (ol := ol) (hs := hs))
        by_cases ha0 : a = 0
        · have hx2 : x_appeal M nm nk ne ol hs op br pl (nI j) (nI 0) al = (0, m_keep M ol hs) := by
            rw [hxa, if_pos (by rw [ha0]; decide)]
          have kp : Kp M (m_keep M ol hs) ol hs := fun _ _ => rfl
          have hH1 := kp_WH kp hH
          refine g_istore hX dL_isAppealed_112 (Nat.le_of_ble_eq_true rfl) rfl ?_
          refine g_aload_n (i := 0) hX dL_isAppealed_114 rfl rfl rfl ?_
          refine g_iload hX dL_isAppealed_115 rfl rfl ?_
          refine g_iconst hX dL_isAppealed_117 ic_0 rfl ?_
          refine g_iload_n (i := 2) hX dL_isAppealed_118 rfl rfl rfl ?_
          refine g_callVi hX (c_X7_appeal E (nI j) (nI 0) al hW hH) kf_X7_appeal rfl wk_L_77 rfl rfl rfl rfl rfl dL_isAppealed_119 rfl (fun x119 M119 h119 => ?_)
          obtain ⟨rfl, rfl⟩ := prE2 ((h119).trans hx2)
          refine g_istore hX dL_isAppealed_122 (Nat.le_of_ble_eq_true rfl) rfl ?_
          refine g_iload hX dL_isAppealed_124 rfl rfl ?_
          refine g_if_eq (tgt := 162) hX dL_isAppealed_126 (by decide) rfl (fun zc126 => ?_) (fun zc126 => absurd rfl zc126)
          refine g_iload hX dL_isAppealed_162 rfl rfl ?_
          refine g_aload_n (i := 0) hX dL_isAppealed_164 rfl rfl rfl ?_
          refine g_bipush hX dL_isAppealed_165 bc_8 rfl ?_
          refine g_callVi hX (q_cnt hK.ws hH1 8 (v := nI 0) rfl (by rw [← ha0, ← ha]; show actW (m_keep M ol hs 3) (m_keep M ol hs 4) (m_keep M ol hs 25) nm = _; rw [keep_ne (Or.inl (by decide)), keep_ne (Or.inl (by decide)), keep_ne (Or.inl (by decide))])) kf_X7_count rfl wk_L_13 rfl rfl rfl rfl rfl dL_isAppealed_167 rfl (fun x167 M167 h167 => ?_)
          obtain ⟨rfl, hMq⟩ := h167; have hMq := hMq.symm; subst hMq
          refine g_if_le (tgt := 177) hX dL_isAppealed_170 (by decide) rfl (fun zc170 => ?_) (fun zc170 => absurd (by decide) zc170)
          refine g_iconst hX dL_isAppealed_177 ic_0 rfl ?_
          refine g_icmp_ne (tgt := 185) hX dL_isAppealed_178 (by decide) rfl (fun zc178 => absurd rfl zc178) (fun zc178 => ?_)
          refine g_iconst hX dL_isAppealed_181 ic_1 rfl ?_
          refine g_goto (n := 186) hX dL_isAppealed_182 (by decide) ?_
          refine g_istore hX dL_isAppealed_186 (Nat.le_of_ble_eq_true rfl) rfl ?_
          refine g_iload hX dL_isAppealed_188 rfl rfl ?_
          refine g_if_eq (tgt := 266) hX dL_isAppealed_190 (by decide) rfl (fun zc190 => absurd zc190 (by decide)) (fun zc190 => ?_)
          refine g_iload hX dL_isAppealed_193 rfl rfl ?_
          refine g_iconst hX dL_isAppealed_195 ic_1 rfl ?_
          refine g_icmp_ne (tgt := 266) hX dL_isAppealed_196 (by decide) rfl (fun zc196 => ?_) (fun zc196 => absurd zc196 (by decide))
          exact K266 _ _ _ _ _ _ _ _ _ kp
        · have hx2 : x_appeal M nm nk ne ol hs op br pl (nI j) (nI 0) al = (1, m_reopen (m_keep M ol hs) j (pl j) nk ne br) := by
            rw [hxa, if_neg (fun q => by
              rw [show (2 : Int32) = nI 2 from rfl, pk_mul] at q
              have := (nI_leI (by omega) (by omega)).mp q
              omega)]
          have k21 : m_keep M ol hs 21 = M 21 := keep_ne (Or.inl (by decide))
          obtain ⟨ne', hne', hJ, h21⟩ := hK.reopened ho hj (by rw [k21]; exact fun q => hs2 (hst2.mp q))
          have kp : Kp M (m_reopen (m_keep M ol hs) j (pl j) nk ne br) ol hs := fun a ha => reopen_out ha
          have hH1 := kp_WH kp hH
          have hac : actW (m_reopen (m_keep M ol hs) j (pl j) nk ne br 3) (m_reopen (m_keep M ol hs) j (pl j) nk ne br 4) (m_reopen (m_keep M ol hs) j (pl j) nk ne br 25) nm = nI a := by
            rw [reopen_row (by decide), reopen_row (by decide), reopen_row (by decide), keep_ne (Or.inl (by decide)), keep_ne (Or.inl (by decide)), keep_ne (Or.inl (by decide))]
            exact ha
          have h21j : m_reopen (m_keep M ol hs) j (pl j) nk ne br 21 j = nI 1 := by rw [h21]; exact upd_s _ _ _
          have hct : cntTo nk (pendB (m_reopen (m_keep M ol hs) j (pl j) nk ne br 21)) = pp + 1 := by
            rw [h21, k21, hpp]
            refine cnt_upd hj (decide_eq_false (fun q => hs2 ?_))
            rw [hst] at q
            have := (nI_eq (by omega) (by decide)).mp (show nI st = nI 1 from q)
            omega
          have hne2 := hJ.ws.2.2.2.1.2
          have hzf : Nz (m_reopen (m_keep M ol hs) j (pl j) nk ne br) nk nm false := fun q => by cases q
          generalize m_reopen (m_keep M ol hs) j (pl j) nk ne br = M1 at hx2 hJ kp hH1 hac h21j hct hzf
          have K245 : gG X E M1 245 [some (.ref 0), some (.int x), some (.int al), some (.long P), none, some (.int (nI hs)), some (.int (nI j)), some (.int (nI st)), some (.int (nI pp)), some (.int (nI ne)), some (.int (nI 0)), some (.int 1), some (.int (nI 1))] [] (gQ X E (gInt fun r M' => r = nI 1 ∧ Rs M M')) := by
            refine g_aload_n (i := 0) hX dL_isAppealed_245 rfl rfl rfl ?_
            refine g_callSi hX (c_L_areEditions hJ hH1) kf_L_areEditions rfl wk_L_98 rfl rfl rfl rfl dL_isAppealed_246 rfl (fun x246 M246 h246 => ?_)
            obtain ⟨rfl, hMq⟩ := h246; have hMq := hMq.symm; subst hMq
            refine g_if_eq (tgt := 263) hX dL_isAppealed_249 (by decide) rfl (fun zc249 => absurd zc249 (by decide)) (fun zc249 => ?_)
            refine g_aload_n (i := 0) hX dL_isAppealed_252 rfl rfl rfl ?_
            refine g_callSi hX (c_L_areComments hJ hH1) kf_L_areComments rfl wk_L_102 rfl rfl rfl rfl dL_isAppealed_253 rfl (fun x253 M253 h253 => ?_)
            obtain ⟨rfl, hMq⟩ := h253; have hMq := hMq.symm; subst hMq
            refine g_if_eq (tgt := 263) hX dL_isAppealed_256 (by decide) rfl (fun zc256 => absurd zc256 (by decide)) (fun zc256 => ?_)
            refine g_iconst hX dL_isAppealed_259 ic_1 rfl ?_
            refine g_goto (n := 264) hX dL_isAppealed_260 (by decide) ?_
            refine g_istore hX dL_isAppealed_264 (Nat.le_of_ble_eq_true rfl) rfl ?_
            exact K266 _ _ _ _ _ _ _ _ _ kp
          rcases hne' with hne' | hne'
          · subst hne'
            refine g_istore hX dL_isAppealed_112 (Nat.le_of_ble_eq_true rfl) rfl ?_
            refine g_aload_n (i := 0) hX dL_isAppealed_114 rfl rfl rfl ?_
            refine g_iload hX dL_isAppealed_115 rfl rfl ?_
            refine g_iconst hX dL_isAppealed_117 ic_0 rfl ?_
            refine g_iload_n (i := 2) hX dL_isAppealed_118 rfl rfl rfl ?_
            refine g_callVi hX (c_X7_appeal E (nI j) (nI 0) al hW hH) kf_X7_appeal rfl wk_L_77 rfl rfl rfl rfl rfl dL_isAppealed_119 rfl (fun x119 M119 h119 => ?_)
            obtain ⟨rfl, rfl⟩ := prE2 ((h119).trans hx2)
            refine g_istore hX dL_isAppealed_122 (Nat.le_of_ble_eq_true rfl) rfl ?_
            refine g_iload hX dL_isAppealed_124 rfl rfl ?_
            refine g_if_eq (tgt := 162) hX dL_isAppealed_126 (by decide) rfl (fun zc126 => ?_) (fun zc126 => absurd rfl zc126)
            refine g_iload hX dL_isAppealed_162 rfl rfl ?_
            refine g_aload_n (i := 0) hX dL_isAppealed_164 rfl rfl rfl ?_
            refine g_bipush hX dL_isAppealed_165 bc_8 rfl ?_
            refine g_callVi hX (q_cnt hJ.ws hH1 8 (v := nI a) rfl hac) kf_X7_count rfl wk_L_13 rfl rfl rfl rfl rfl dL_isAppealed_167 rfl (fun x167 M167 h167 => ?_)
            obtain ⟨rfl, hMq⟩ := h167; have hMq := hMq.symm; subst hMq
            refine g_if_le (tgt := 177) hX dL_isAppealed_170 (by decide) rfl (fun zc170 => absurd zc170 (nI_nle (by omega) (by omega))) (fun zc170 => ?_)
            refine g_iconst hX dL_isAppealed_173 ic_1 rfl ?_
            refine g_goto (n := 178) hX dL_isAppealed_174 (by decide) ?_
            refine g_icmp_ne (tgt := 185) hX dL_isAppealed_178 (by decide) rfl (fun zc178 => absurd rfl zc178) (fun zc178 => ?_)
            refine g_iconst hX dL_isAppealed_181 ic_1 rfl ?_
            refine g_goto (n := 186) hX dL_isAppealed_182 (by decide) ?_
            refine g_istore hX dL_isAppealed_186 (Nat.le_of_ble_eq_true rfl) rfl ?_
            refine g_iload hX dL_isAppealed_188 rfl rfl ?_
            refine g_if_eq (tgt := 266) hX dL_isAppealed_190 (by decide) rfl (fun zc190 => absurd zc190 (by decide)) (fun zc190 => ?_)
            refine g_iload hX dL_isAppealed_193 rfl rfl ?_
            refine g_iconst hX dL_isAppealed_195 ic_1 rfl ?_
            refine g_icmp_ne (tgt := 266) hX dL_isAppealed_196 (by decide) rfl (fun zc196 => absurd rfl zc196) (fun zc196 => ?_)
            refine g_aload_n (i := 0) hX dL_isAppealed_199 rfl rfl rfl ?_
            refine g_iload hX dL_isAppealed_200 rfl rfl ?_
            refine g_iconst hX dL_isAppealed_202 ic_4 rfl ?_
            refine g_callVi hX (q_tol hJ.ws hj 4 (v := nI 1) rfl h21j) kf_X7_told rfl wk_L_32 rfl rfl rfl rfl rfl dL_isAppealed_203 rfl (fun x203 M203 h203 => ?_)
            obtain ⟨rfl, hMq⟩ := h203; have hMq := hMq.symm; subst hMq
            refine g_iconst hX dL_isAppealed_206 ic_1 rfl ?_
            refine g_icmp_ne (tgt := 263) hX dL_isAppealed_207 (by decide) rfl (fun zc207 => absurd rfl zc207) (fun zc207 => ?_)
            refine g_aload_n (i := 0) hX dL_isAppealed_210 rfl rfl rfl ?_
            refine g_bipush hX dL_isAppealed_211 bc_7 rfl ?_
            refine g_callVi hX (q_cnt hJ.ws hH1 7 (v := nI (pp + 1)) rfl (congrArg nI hct)) kf_X7_count rfl wk_L_13 rfl rfl rfl rfl rfl dL_isAppealed_213 rfl (fun x213 M213 h213 => ?_)
            obtain ⟨rfl, hMq⟩ := h213; have hMq := hMq.symm; subst hMq
            refine g_iload hX dL_isAppealed_216 rfl rfl ?_
            refine g_iconst hX dL_isAppealed_218 ic_1 rfl ?_
            first | refine g_iaddN hX dL_isAppealed_219 rfl ?_ | refine g_iadd hX dL_isAppealed_219 rfl ?_
            refine g_icmp_ne (tgt := 263) hX dL_isAppealed_220 (by decide) rfl (fun zc220 => absurd rfl zc220) (fun zc220 => ?_)
            refine g_aload_n (i := 0) hX dL_isAppealed_223 rfl rfl rfl ?_
            refine g_iconst hX dL_isAppealed_224 ic_2 rfl ?_
            refine g_callVi hX (q_cnt hJ.ws hH1 2 (v := nI ne') rfl rfl) kf_X7_count rfl wk_L_13 rfl rfl rfl rfl rfl dL_isAppealed_225 rfl (fun x225 M225 h225 => ?_)
            obtain ⟨rfl, hMq⟩ := h225; have hMq := hMq.symm; subst hMq
            refine g_iload hX dL_isAppealed_228 rfl rfl ?_
            refine g_icmp_eq (tgt := 245) hX dL_isAppealed_230 (by decide) rfl (fun zc230 => ?_) (fun zc230 => absurd rfl zc230)
            exact K245
          · by_cases hne9 : ne' = ne
            · subst hne9
              exfalso
              omega
            · skip
              refine g_istore hX dL_isAppealed_112 (Nat.le_of_ble_eq_true rfl) rfl ?_
              refine g_aload_n (i := 0) hX dL_isAppealed_114 rfl rfl rfl ?_
              refine g_iload hX dL_isAppealed_115 rfl rfl ?_
              refine g_iconst hX dL_isAppealed_117 ic_0 rfl ?_
              refine g_iload_n (i := 2) hX dL_isAppealed_118 rfl rfl rfl ?_
              refine g_callVi hX (c_X7_appeal E (nI j) (nI 0) al hW hH) kf_X7_appeal rfl wk_L_77 rfl rfl rfl rfl rfl dL_isAppealed_119 rfl (fun x119 M119 h119 => ?_)
              obtain ⟨rfl, rfl⟩ := prE2 ((h119).trans hx2)
              refine g_istore hX dL_isAppealed_122 (Nat.le_of_ble_eq_true rfl) rfl ?_
              refine g_iload hX dL_isAppealed_124 rfl rfl ?_
              refine g_if_eq (tgt := 162) hX dL_isAppealed_126 (by decide) rfl (fun zc126 => ?_) (fun zc126 => absurd rfl zc126)
              refine g_iload hX dL_isAppealed_162 rfl rfl ?_
              refine g_aload_n (i := 0) hX dL_isAppealed_164 rfl rfl rfl ?_
              refine g_bipush hX dL_isAppealed_165 bc_8 rfl ?_
              refine g_callVi hX (q_cnt hJ.ws hH1 8 (v := nI a) rfl hac) kf_X7_count rfl wk_L_13 rfl rfl rfl rfl rfl dL_isAppealed_167 rfl (fun x167 M167 h167 => ?_)
              obtain ⟨rfl, hMq⟩ := h167; have hMq := hMq.symm; subst hMq
              refine g_if_le (tgt := 177) hX dL_isAppealed_170 (by decide) rfl (fun zc170 => absurd zc170 (nI_nle (by omega) (by omega))) (fun zc170 => ?_)
              refine g_iconst hX dL_isAppealed_173 ic_1 rfl ?_
              refine g_goto (n := 178) hX dL_isAppealed_174 (by decide) ?_
              refine g_icmp_ne (tgt := 185) hX dL_isAppealed_178 (by decide) rfl (fun zc178 => absurd rfl zc178) (fun zc178 => ?_)
              refine g_iconst hX dL_isAppealed_181 ic_1 rfl ?_
              refine g_goto (n := 186) hX dL_isAppealed_182 (by decide) ?_
              refine g_istore hX dL_isAppealed_186 (Nat.le_of_ble_eq_true rfl) rfl ?_
              refine g_iload hX dL_isAppealed_188 rfl rfl ?_
              refine g_if_eq (tgt := 266) hX dL_isAppealed_190 (by decide) rfl (fun zc190 => absurd zc190 (by decide)) (fun zc190 => ?_)
              refine g_iload hX dL_isAppealed_193 rfl rfl ?_
              refine g_iconst hX dL_isAppealed_195 ic_1 rfl ?_
              refine g_icmp_ne (tgt := 266) hX dL_isAppealed_196 (by decide) rfl (fun zc196 => absurd rfl zc196) (fun zc196 => ?_)
              refine g_aload_n (i := 0) hX dL_isAppealed_199 rfl rfl rfl ?_
              refine g_iload hX dL_isAppealed_200 rfl rfl ?_
              refine g_iconst hX dL_isAppealed_202 ic_4 rfl ?_
              refine g_callVi hX (q_tol hJ.ws hj 4 (v := nI 1) rfl h21j) kf_X7_told rfl wk_L_32 rfl rfl rfl rfl rfl dL_isAppealed_203 rfl (fun x203 M203 h203 => ?_)
              obtain ⟨rfl, hMq⟩ := h203; have hMq := hMq.symm; subst hMq
              refine g_iconst hX dL_isAppealed_206 ic_1 rfl ?_
              refine g_icmp_ne (tgt := 263) hX dL_isAppealed_207 (by decide) rfl (fun zc207 => absurd rfl zc207) (fun zc207 => ?_)
              refine g_aload_n (i := 0) hX dL_isAppealed_210 rfl rfl rfl ?_
              refine g_bipush hX dL_isAppealed_211 bc_7 rfl ?_
              refine g_callVi hX (q_cnt hJ.ws hH1 7 (v := nI (pp + 1)) rfl (congrArg nI hct)) kf_X7_count rfl wk_L_13 rfl rfl rfl rfl rfl dL_isAppealed_213 rfl (fun x213 M213 h213 => ?_)
              obtain ⟨rfl, hMq⟩ := h213; have hMq := hMq.symm; subst hMq
              refine g_iload hX dL_isAppealed_216 rfl rfl ?_
              refine g_iconst hX dL_isAppealed_218 ic_1 rfl ?_
              first | refine g_iaddN hX dL_isAppealed_219 rfl ?_ | refine g_iadd hX dL_isAppealed_219 rfl ?_
              refine g_icmp_ne (tgt := 263) hX dL_isAppealed_220 (by decide) rfl (fun zc220 => absurd rfl zc220) (fun zc220 => ?_)
              refine g_aload_n (i := 0) hX dL_isAppealed_223 rfl rfl rfl ?_
              refine g_iconst hX dL_isAppealed_224 ic_2 rfl ?_
              refine g_callVi hX (q_cnt hJ.ws hH1 2 (v := nI ne') rfl rfl) kf_X7_count rfl wk_L_13 rfl rfl rfl rfl rfl dL_isAppealed_225 rfl (fun x225 M225 h225 => ?_)
              obtain ⟨rfl, hMq⟩ := h225; have hMq := hMq.symm; subst hMq
              refine g_iload hX dL_isAppealed_228 rfl rfl ?_
              first | refine g_icmp_eqN (tgt := 245) hX dL_isAppealed_230 (by decide) rfl (by omega) (by omega) (fun zc230 => absurd zc230 (by omega)) (fun zc230 => ?_) | refine g_icmp_eq (tgt := 245) hX dL_isAppealed_230 (by decide) rfl (fun zc230 => absurd zc230 (by omega)) (fun zc230 => ?_)
              refine g_aload_n (i := 0) hX dL_isAppealed_233 rfl rfl rfl ?_
              refine g_iconst hX dL_isAppealed_234 ic_2 rfl ?_
              refine g_callVi hX (q_cnt hJ.ws hH1 2 (v := nI ne') rfl rfl) kf_X7_count rfl wk_L_13 rfl rfl rfl rfl rfl dL_isAppealed_235 rfl (fun x235 M235 h235 => ?_)
              obtain ⟨rfl, hMq⟩ := h235; have hMq := hMq.symm; subst hMq
              refine g_iload hX dL_isAppealed_238 rfl rfl ?_
              refine g_iconst hX dL_isAppealed_240 ic_1 rfl ?_
              refine g_isubN hX dL_isAppealed_241 (by omega) rfl ?_
              first | refine g_icmp_neN (tgt := 263) hX dL_isAppealed_242 (by decide) rfl (by omega) (by omega) (fun zc242 => absurd zc242 (by omega)) (fun zc242 => ?_) | refine g_icmp_ne (tgt := 263) hX dL_isAppealed_242 (by decide) rfl (fun zc242 => absurd zc242 (by omega)) (fun zc242 => ?_)
              exact K245
      refine g_istore hX dL_isAppealed_53 (Nat.le_of_ble_eq_true rfl) rfl ?_
      refine g_aload_n (i := 0) hX dL_isAppealed_55 rfl rfl rfl ?_
      refine g_iload hX dL_isAppealed_56 rfl rfl ?_
      refine g_iconst hX dL_isAppealed_58 ic_4 rfl ?_
      refine g_callVi hX (q_tol hW hj 4 (v := nI st) rfl hst) kf_X7_told rfl wk_L_32 rfl rfl rfl rfl rfl dL_isAppealed_59 rfl (fun x59 M59 h59 => ?_)
      obtain ⟨rfl, hMq⟩ := h59; have hMq := hMq.symm; subst hMq
      refine g_istore hX dL_isAppealed_62 (Nat.le_of_ble_eq_true rfl) rfl ?_
      refine g_aload_n (i := 0) hX dL_isAppealed_64 rfl rfl rfl ?_
      refine g_bipush hX dL_isAppealed_65 bc_7 rfl ?_
      refine g_callVi hX (q_cnt hW hH 7 (v := nI pp) rfl (by rw [hpp]; rfl)) kf_X7_count rfl wk_L_13 rfl rfl rfl rfl rfl dL_isAppealed_67 rfl (fun x67 M67 h67 => ?_)
      obtain ⟨rfl, hMq⟩ := h67; have hMq := hMq.symm; subst hMq
      refine g_istore hX dL_isAppealed_70 (Nat.le_of_ble_eq_true rfl) rfl ?_
      refine g_aload_n (i := 0) hX dL_isAppealed_72 rfl rfl rfl ?_
      refine g_iconst hX dL_isAppealed_73 ic_2 rfl ?_
      refine g_callVi hX (q_cnt hW hH 2 (v := nI ne) rfl rfl) kf_X7_count rfl wk_L_13 rfl rfl rfl rfl rfl dL_isAppealed_74 rfl (fun x74 M74 h74 => ?_)
      obtain ⟨rfl, hMq⟩ := h74; have hMq := hMq.symm; subst hMq
      refine g_istore hX dL_isAppealed_77 (Nat.le_of_ble_eq_true rfl) rfl ?_
      refine g_iload hX dL_isAppealed_79 rfl rfl ?_
      refine g_iconst hX dL_isAppealed_81 ic_2 rfl ?_
      first | refine g_icmp_ltN (tgt := 107) hX dL_isAppealed_82 (by decide) rfl (by omega) (by omega) (fun zc82 => ?_) (fun zc82 => ?_) | refine g_icmp_lt (tgt := 107) hX dL_isAppealed_82 (by decide) rfl (fun zc82 => ?_) (fun zc82 => ?_)
      · skip
        refine g_iconst hX dL_isAppealed_107 ic_1 rfl ?_
        refine g_goto (n := 112) hX dL_isAppealed_108 (by decide) ?_
        first | exact KL (Or.inl (by omega)) | exact KO z82 zc104 | exact KL (Or.inr zc104)
      · skip
        have z82 : ¬ st < 2 := by omega
        refine g_aload_n (i := 0) hX dL_isAppealed_85 rfl rfl rfl ?_
        refine g_iconst hX dL_isAppealed_86 ic_3 rfl ?_
        refine g_callVi hX (q_cnt hW hH 3 (v := M 1 5) rfl rfl) kf_X7_count rfl wk_L_13 rfl rfl rfl rfl rfl dL_isAppealed_87 rfl (fun x87 M87 h87 => ?_)
        obtain ⟨rfl, hMq⟩ := h87; have hMq := hMq.symm; subst hMq
        refine g_aload_n (i := 0) hX dL_isAppealed_90 rfl rfl rfl ?_
        refine g_iload hX dL_isAppealed_91 rfl rfl ?_
        refine g_iconst hX dL_isAppealed_93 ic_5 rfl ?_
        refine g_callVi hX (q_tol hW hj 5 (v := M 22 j) rfl (if_neg (fun q => z82 (hst2.mp q)))) kf_X7_told rfl wk_L_32 rfl rfl rfl rfl rfl dL_isAppealed_94 rfl (fun x94 M94 h94 => ?_)
        obtain ⟨rfl, hMq⟩ := h94; have hMq := hMq.symm; subst hMq
        refine g_aload_n (i := 0) hX dL_isAppealed_97 rfl rfl rfl ?_
        refine g_bipush hX dL_isAppealed_98 bc_23 rfl ?_
        refine g_callVi hX (q_cnt hW hH 23 (v := M 25 3) rfl rfl) kf_X7_count rfl wk_L_13 rfl rfl rfl rfl rfl dL_isAppealed_100 rfl (fun x100 M100 h100 => ?_)
        obtain ⟨rfl, hMq⟩ := h100; have hMq := hMq.symm; subst hMq
        first | refine g_iaddN hX dL_isAppealed_103 rfl ?_ | refine g_iadd hX dL_isAppealed_103 rfl ?_
        refine g_icmp_le (tgt := 111) hX dL_isAppealed_104 (by decide) rfl (fun zc104 => ?_) (fun zc104 => ?_)
        · skip
          refine g_iconst hX dL_isAppealed_111 ic_0 rfl ?_
          first | exact KL (Or.inl (by omega)) | exact KO z82 zc104 | exact KL (Or.inr zc104)
        · skip
          refine g_iconst hX dL_isAppealed_107 ic_1 rfl ?_
          refine g_goto (n := 112) hX dL_isAppealed_108 (by decide) ?_
          first | exact KL (Or.inl (by omega)) | exact KO z82 zc104 | exact KL (Or.inr zc104)
    refine g_iconst hX dL_isAppealed_0 ic_1 rfl ?_
    refine g_aload_n (i := 0) hX dL_isAppealed_1 rfl rfl rfl ?_
    refine g_iconst hX dL_isAppealed_2 ic_0 rfl ?_
    refine g_callVi hX (q_cnt hW hH 0 (v := nI nm) rfl rfl) kf_X7_count rfl wk_L_13 rfl rfl rfl rfl rfl dL_isAppealed_3 rfl (fun x3 M3 h3 => ?_)
    obtain ⟨rfl, hMq⟩ := h3; have hMq := hMq.symm; subst hMq
    refine g_ishl hX dL_isAppealed_6 rfl ?_
    refine g_iconst hX dL_isAppealed_7 ic_1 rfl ?_
    refine g_isub hX dL_isAppealed_8 rfl ?_
    rw [← hal]
    refine g_istore_n (i := 2) hX dL_isAppealed_9 rfl (Nat.le_of_ble_eq_true rfl) rfl ?_
    refine g_aload_n (i := 0) hX dL_isAppealed_10 rfl rfl rfl ?_
    refine g_bipush hX dL_isAppealed_11 bc_6 rfl ?_
    refine g_callVi hX (q_cnt hW hH 6 (v := nI nk) rfl rfl) kf_X7_count rfl wk_L_13 rfl rfl rfl rfl rfl dL_isAppealed_13 rfl (fun x13 M13 h13 => ?_)
    obtain ⟨rfl, hMq⟩ := h13; have hMq := hMq.symm; subst hMq
    refine g_if_eq (tgt := 28) hX dL_isAppealed_16 (by decide) rfl (fun zc16 => absurd zc16 (nI_ne0 (by omega) (by omega))) (fun zc16 => ?_)
    refine g_aload_n (i := 0) hX dL_isAppealed_19 rfl rfl rfl ?_
    refine g_iconst hX dL_isAppealed_20 ic_4 rfl ?_
    refine g_callVi hX (q_cnt hW hH 4 (v := nI 0) rfl (by show gB op = _; rw [ho]; rfl)) kf_X7_count rfl wk_L_13 rfl rfl rfl rfl rfl dL_isAppealed_21 rfl (fun x21 M21 h21 => ?_)
    obtain ⟨rfl, hMq⟩ := h21; have hMq := hMq.symm; subst hMq
    refine g_iconst hX dL_isAppealed_24 ic_1 rfl ?_
    refine g_icmp_ne (tgt := 30) hX dL_isAppealed_25 (by decide) rfl (fun zc25 => ?_) (fun zc25 => absurd zc25 (by decide))
    refine g_aload_n (i := 0) hX dL_isAppealed_30 rfl rfl rfl ?_
    refine g_callSl hX (c_L_print hW hH hz) kf_L_print rfl wk_L_46 rfl rfl rfl rfl dL_isAppealed_31 rfl (fun x31 M31 h31 => ?_)
    obtain ⟨rfl, hMq⟩ := h31; have hMq := hMq.symm; subst hMq
    refine g_lstore_n (i := 3) hX dL_isAppealed_34 rfl (Nat.le_of_ble_eq_true rfl) rfl ?_
    refine g_aload_n (i := 0) hX dL_isAppealed_35 rfl rfl rfl ?_
    refine g_bipush hX dL_isAppealed_36 bc_9 rfl ?_
    refine g_callVi hX (q_cnt hW hH 9 (v := nI hs) rfl rfl) kf_X7_count rfl wk_L_13 rfl rfl rfl rfl rfl dL_isAppealed_38 rfl (fun x38 M38 h38 => ?_)
    obtain ⟨rfl, hMq⟩ := h38; have hMq := hMq.symm; subst hMq
    refine g_istore hX dL_isAppealed_41 (Nat.le_of_ble_eq_true rfl) rfl ?_
    refine g_iload_n (i := 1) hX dL_isAppealed_43 rfl rfl rfl ?_
    refine g_aload_n (i := 0) hX dL_isAppealed_44 rfl rfl rfl ?_
    refine g_bipush hX dL_isAppealed_45 bc_6 rfl ?_
    refine g_callVi hX (q_cnt hW hH 6 (v := nI nk) rfl rfl) kf_X7_count rfl wk_L_13 rfl rfl rfl rfl rfl dL_isAppealed_47 rfl (fun x47 M47 h47 => ?_)
    obtain ⟨rfl, hMq⟩ := h47; have hMq := hMq.symm; subst hMq
    refine g_callSi hX (c_L_low E M x nk (by omega) (by omega)) kf_L_low rfl wk_L_95 rfl rfl rfl rfl dL_isAppealed_50 rfl (fun x50 M50 h50 => ?_)
    obtain ⟨⟨j, hj, rfl⟩, hMq⟩ := h50
    have hMq := hMq.symm
    subst hMq
    rw [← hP]
    exact K59 j hj
end

