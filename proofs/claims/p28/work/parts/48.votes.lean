/-! areVotes -/
theorem kLn_iff {a r y n p0 p1 k : Nat} (h2 : p1 ≤ 100) (hn : ¬ (p1 = 100 ∧ 0 < n)) : (0 < y + n + k ∧ p0 * a ≤ 100 * (r + k) ∧ p1 * (y + n + k) ≤ 100 * (y + k)) ↔ kLn a r y n p0 p1 ≤ k := by
  have h := lack_nat (a := a) (r := r) (y := y) (n := n) (p0 := p0) (p1 := p1) (k := k) h2 hn
  rw [show y + k + n = y + n + k by omega] at h
  unfold kLn
  constructor
  · rintro ⟨g1, g2, g3⟩
    have := h.mp ⟨g1, by omega, by omega⟩
    omega
  · intro g
    have := h.mpr ⟨by omega, by omega, by omega⟩
    exact ⟨this.1, by omega, by omega⟩
theorem kLn_le {a r y n p0 p1 : Nat} (ba : a ≤ 90) (bn : n ≤ 90) (b0 : p0 ≤ 100) (b1 : p1 ≤ 100) : kLn a r y n p0 p1 ≤ 9200 := by
  have m0 : p0 * a ≤ 9000 := Nat.le_trans (Nat.mul_le_mul b0 ba) (by decide)
  have m1 : p1 * n ≤ 9000 := Nat.le_trans (Nat.mul_le_mul b1 bn) (by decide)
  have bB : (if p1 = 100 then 0 else (p1 * n + (100 - p1) - 1) / (100 - p1)) ≤ 9100 := by
    split
    · omega
    · exact Nat.le_trans (Nat.div_le_self _ _) (by omega)
  have bf : (if 0 < y + n then 0 else 1) ≤ 1 := by split <;> omega
  unfold kLn
  generalize (if p1 = 100 then 0 else (p1 * n + (100 - p1) - 1) / (100 - p1)) = B at bB ⊢
  generalize (if 0 < y + n then 0 else 1) = f at bf ⊢
  generalize p0 * a = X at m0 ⊢
  omega
section
variable {E : gE} {M : gM} {nm nc nk ne nb td ol hs : Nat} {op br : Bool} {mb pl ch : Nat → Nat}
theorem q_tal0 (hW : WS M nm nc nk ne op br mb pl) (h0 : ¬ M 14 3 = 0) (j : Nat) {v : Int32} (hj : Nat.blt j 6 = true) (ev : nrm M nk nm op 15 j = v) : gMet E k_X7_tally [.ref 0, .int (nI j)] M (gInt fun r M' => r = v ∧ M' = nrm M nk nm op) := by
  have hj : j < 6 := Nat.le_of_ble_eq_true hj
  have h := c_X7_tally E (nI j) hW
  have e : x_tally M nm nk op (nI j) = (v, nrm M nk nm op) := by
    rw [x_tally, if_pos (by rw [inR_nI (by omega) (by decide)]; exact decide_eq_true hj), nI_clamp (by omega), if_neg h0, ← ev]
    cases op <;> rfl
  rw [e] at h
  have e2 : (fun (r : Int32) (M' : gM) => (r, M') = (v, nrm M nk nm op)) = fun r M' => r = v ∧ M' = nrm M nk nm op := by
    funext r M'; simp
  rw [e2] at h
  exact h
theorem J.p0 (h : J M nm nc nk ne nb td op br mb pl) : ∃ p, M 25 0 = nI p ∧ 1 ≤ p ∧ p ≤ 100 := inI_n (lo := 1) (hi := 100) (by decide) (by decide) (h.st 0 (by decide))
theorem J.p1 (h : J M nm nc nk ne nb td op br mb pl) : ∃ p, M 25 1 = nI p ∧ 1 ≤ p ∧ p ≤ 100 := inI_n (lo := 1) (hi := 100) (by decide) (by decide) (h.st 1 (by decide))
/-- the sums, in numbers -/
theorem sums_J (h : J M nm nc nk ne nb td op br mb pl) (h0 : 0 < nb) {p0 p1 : Nat} (e0 : M 25 0 = nI p0) (e1 : M 25 1 = nI p1) (b0 : p0 ≤ 100) (b1 : p1 ≤ 100) : ∃ a r y n s q : Nat, (nrm M nk nm op 15 0 = nI a ∧ nrm M nk nm op 15 1 = nI r ∧ nrm M nk nm op 15 2 = nI y ∧ nrm M nk nm op 15 3 = nI n ∧ nrm M nk nm op 15 4 = nI s ∧ nrm M nk nm op 15 5 = nI q) ∧ (r = y + n + s ∧ r ≤ a ∧ a ≤ 90) ∧ (op = false → q = 1 ∨ q = 0 ∧ nk = 0) ∧ (op = true → actW (M 3) (M 4) (M 25) nm = nI a ∧ q = if carN a r y n p0 p1 then 1 else 0) := by
  cases ho : op with
  | false =>
    obtain ⟨a, r, y, n, s, q, g1, g2, g3, g4, g5⟩ := h.sm ho h0
    exact ⟨a, r, y, n, s, q, g1, ⟨g2, g3, g4⟩, fun _ => g5, fun q => by cases q⟩
  | true =>
    obtain ⟨a, r, y, n, s, T⟩ := tal_ex nk h.ws.1.2 h.wt
    refine ⟨a, r, y, n, s, if carN a r y n p0 p1 then 1 else 0, ⟨?_, ?_, ?_, ?_, ?_, ?_⟩, ⟨T.hs, T.hr, T.ha⟩, fun q => (by cases q), fun _ => ⟨T.ea, rfl⟩⟩
    · rw [nrm_15, talX_4 (by decide)]; exact T.e0
    · rw [nrm_15, talX_4 (by decide)]; exact T.e1
    · rw [nrm_15, talX_4 (by decide)]; exact T.e2
    · rw [nrm_15, talX_4 (by decide)]; exact T.e3
    · rw [nrm_15, talX_4 (by decide)]; exact T.e4
    · have h1 := T.hs; have h2 := T.hr; have h3 := T.ha
      rw [nrm_15, talX_5, carB_N T.e0 T.e1 T.e2 T.e3 e0 e1 h3 (by omega) (by omega) (by omega) b0 b1]
      by_cases c : carN a r y n p0 p1
      · rw [if_pos c, decide_eq_true c]; rfl
      · rw [if_neg c, decide_eq_false c]; rfl
set_option maxHeartbeats 4000000 in
theorem c_L_areVotes (h : J M nm nc nk ne nb td op br mb pl) (hH : WH M ol hs) : gMet E k_L_areVotes [.ref 0] M (gInt fun r M' => r = nI 1 ∧ M' = nrm M nk nm op) := by
  refine gMet.of (by decide +kernel) rfl (Nat.le_of_ble_eq_true rfl) (fun X hX hR => ?_)
  have hW := h.ws
  by_cases h0 : nb = 0
  · obtain ⟨-, -, ho, -⟩ := h.n0 h0
    have hz : Nz M nk nm op := fun q => by rw [ho] at q; cases q
    have hr : nrm M nk nm op = M := nrm_self hz
    have hb : M 14 3 = nI 0 := by rw [h.hb, h0]
    rw [hr]
    refine g_aload_n (i := 0) hX dL_areVotes_0 rfl rfl rfl ?_
    refine g_iconst hX dL_areVotes_1 ic_5 rfl ?_
    refine g_callVi hX (q_cnt hW hH 5 (v := nI 0) rfl hb) kf_X7_count rfl wk_L_13 rfl rfl rfl rfl rfl dL_areVotes_2 rfl (fun x2 M2 h2 => ?_)
    obtain ⟨rfl, hMq⟩ := h2; have hMq := hMq.symm; subst hMq
    refine g_if_ne (tgt := 33) hX dL_areVotes_5 (by decide) rfl (fun zc5 => absurd rfl zc5) (fun zc5 => ?_)
    refine g_aload_n (i := 0) hX dL_areVotes_8 rfl rfl rfl ?_
    refine g_iconst hX dL_areVotes_9 ic_0 rfl ?_
    refine g_callVi hX (gInt_e (q_taly hW hz (j := 0) (by decide)) (y := -4) (by rw [y_tal, if_pos (show M 14 3 = 0 from hb)])) kf_X7_tally rfl wk_L_19 rfl rfl rfl rfl rfl dL_areVotes_10 rfl (fun x10 M10 h10 => ?_)
    obtain ⟨rfl, hMq⟩ := h10; have hMq := hMq.symm; subst hMq
    refine g_bipush hX dL_areVotes_13 bc_m4 rfl ?_
    refine g_icmp_ne (tgt := 31) hX dL_areVotes_15 (by decide) rfl (fun zc15 => absurd rfl zc15) (fun zc15 => ?_)
    refine g_aload_n (i := 0) hX dL_areVotes_18 rfl rfl rfl ?_
    refine g_callVi hX (gInt_e (q_lack hW hz) (y := -2) (by rw [ho]; rfl)) kf_X7_lacking rfl wk_L_89 rfl rfl rfl rfl rfl dL_areVotes_19 rfl (fun x19 M19 h19 => ?_)
    obtain ⟨rfl, hMq⟩ := h19; have hMq := hMq.symm; subst hMq
    refine g_bipush hX dL_areVotes_22 bc_m2 rfl ?_
    refine g_icmp_ne (tgt := 31) hX dL_areVotes_24 (by decide) rfl (fun zc24 => absurd rfl zc24) (fun zc24 => ?_)
    refine g_iconst hX dL_areVotes_27 ic_1 rfl ?_
    refine g_goto (n := 32) hX dL_areVotes_28 (by decide) ?_
    refine g_zret hX hR (by first | exact Or.inl rfl | exact Or.inr rfl | exact gB_01 _) dL_areVotes_32 ?_
    exact ⟨rfl, rfl⟩
  · have h0 : 0 < nb := by omega
    have hnb : nb ≤ 10060 := by
      have htd := h.ht.2
      cases ho : op with
      | false => have := h.hn ho; omega
      | true => obtain ⟨-, -, -, en, -, -, h3, h4⟩ := h.ho ho; omega
    have hb0 : ¬ M 14 3 = 0 := by rw [h.hb]; exact nI_ne0 h0 (by omega)
    obtain ⟨p0, e0, -, b0⟩ := h.p0
    obtain ⟨p1, e1, -, b1⟩ := h.p1
    obtain ⟨a, r, y, n, s, q, ⟨E0, E1, E2, E3, E4, E5⟩, ⟨hs1, hr1, ha1⟩, hq1, hq2⟩ := sums_J h h0 e0 e1 b0 b1
    have hN := h.nrm
    have hzN := nrm_Nz M nk nm op
    have hHN : WH (nrm M nk nm op) ol hs := hH.congr (nrm_ne (by decide))
    have e0N : nrm M nk nm op 25 0 = nI p0 := by rw [nrm_ne (by decide)]; exact e0
    have e1N : nrm M nk nm op 25 1 = nI p1 := by rw [nrm_ne (by decide)]; exact e1
    have hb0N : ¬ nrm M nk nm op 14 3 = 0 := by rw [nrm_ne (by decide)]; exact hb0
    have hacN : actW (nrm M nk nm op 3) (nrm M nk nm op 4) (nrm M nk nm op 25) nm = actW (M 3) (M 4) (M 25) nm := by rw [nrm_ne (by decide), nrm_ne (by decide), nrm_ne (by decide)]
    obtain ⟨N, hNe⟩ : ∃ N, N = nrm M nk nm op := ⟨_, rfl⟩
    rw [← hNe] at hN hzN hHN e0N e1N hb0N E0 E1 E2 E3 E4 E5 hacN
    have hWN := hN.ws
    have m0 : p0 * a ≤ 9000 := Nat.le_trans (Nat.mul_le_mul b0 ha1) (by decide)
    have m1 : p1 * (y + n) ≤ 18000 := Nat.le_trans (Nat.mul_le_mul b1 (by omega : y + n ≤ 180)) (by decide)
    have K99 : gG X E N 99 [some (.ref 0), some (.int (nI a)), some (.int (nI r)), some (.int (nI y)), some (.int (nI n)), none, none, none, none, none, none] [.int (nI 1)] (gQ X E (gInt fun r M' => r = nI 1 ∧ M' = nrm M nk nm op)) := by
      cases ho : op with
      | false =>
        have ho2 : gB op = nI 0 := by rw [ho]; rfl
        rw [← ho]
        rcases hq1 ho with hq | ⟨hq, hk0⟩
        · subst hq
          refine g_istore hX dL_areVotes_99 (Nat.le_of_ble_eq_true rfl) rfl ?_
          refine g_aload_n (i := 0) hX dL_areVotes_101 rfl rfl rfl ?_
          refine g_iconst hX dL_areVotes_102 ic_4 rfl ?_
          refine g_callVi hX (q_cnt hWN hHN 4 (v := nI 0) rfl ho2) kf_X7_count rfl wk_L_13 rfl rfl rfl rfl rfl dL_areVotes_103 rfl (fun x103 M103 h103 => ?_)
          obtain ⟨rfl, hMq⟩ := h103; have hMq := hMq.symm; subst hMq
          refine g_if_ne (tgt := 138) hX dL_areVotes_106 (by decide) rfl (fun zc106 => absurd rfl zc106) (fun zc106 => ?_)
          refine g_iload hX dL_areVotes_109 rfl rfl ?_
          refine g_if_eq (tgt := 136) hX dL_areVotes_111 (by decide) rfl (fun zc111 => absurd zc111 (by decide)) (fun zc111 => ?_)
          refine g_aload_n (i := 0) hX dL_areVotes_114 rfl rfl rfl ?_
          refine g_iconst hX dL_areVotes_115 ic_5 rfl ?_
          refine g_callVi hX (q_tal hWN hzN hb0N 5 rfl E5) kf_X7_tally rfl wk_L_19 rfl rfl rfl rfl rfl dL_areVotes_116 rfl (fun x116 M116 h116 => ?_)
          obtain ⟨rfl, hMq⟩ := h116; have hMq := hMq.symm; subst hMq
          refine g_iconst hX dL_areVotes_119 ic_1 rfl ?_
          refine g_icmp_eq (tgt := 132) hX dL_areVotes_120 (by decide) rfl (fun zc120 => ?_) (fun zc120 => absurd rfl zc120)
          refine g_iconst hX dL_areVotes_132 ic_1 rfl ?_
          refine g_goto (n := 137) hX dL_areVotes_133 (by decide) ?_
          refine g_zret hX hR (by first | exact Or.inl rfl | exact Or.inr rfl | exact gB_01 _) dL_areVotes_137 ?_
          exact ⟨rfl, hNe⟩
        · subst hq
          refine g_istore hX dL_areVotes_99 (Nat.le_of_ble_eq_true rfl) rfl ?_
          refine g_aload_n (i := 0) hX dL_areVotes_101 rfl rfl rfl ?_
          refine g_iconst hX dL_areVotes_102 ic_4 rfl ?_
          refine g_callVi hX (q_cnt hWN hHN 4 (v := nI 0) rfl ho2) kf_X7_count rfl wk_L_13 rfl rfl rfl rfl rfl dL_areVotes_103 rfl (fun x103 M103 h103 => ?_)
          obtain ⟨rfl, hMq⟩ := h103; have hMq := hMq.symm; subst hMq
          refine g_if_ne (tgt := 138) hX dL_areVotes_106 (by decide) rfl (fun zc106 => absurd rfl zc106) (fun zc106 => ?_)
          refine g_iload hX dL_areVotes_109 rfl rfl ?_
          refine g_if_eq (tgt := 136) hX dL_areVotes_111 (by decide) rfl (fun zc111 => absurd zc111 (by decide)) (fun zc111 => ?_)
          refine g_aload_n (i := 0) hX dL_areVotes_114 rfl rfl rfl ?_
          refine g_iconst hX dL_areVotes_115 ic_5 rfl ?_
          refine g_callVi hX (q_tal hWN hzN hb0N 5 rfl E5) kf_X7_tally rfl wk_L_19 rfl rfl rfl rfl rfl dL_areVotes_116 rfl (fun x116 M116 h116 => ?_)
          obtain ⟨rfl, hMq⟩ := h116; have hMq := hMq.symm; subst hMq
          refine g_iconst hX dL_areVotes_119 ic_1 rfl ?_
          refine g_icmp_eq (tgt := 132) hX dL_areVotes_120 (by decide) rfl (fun zc120 => absurd zc120 (by decide)) (fun zc120 => ?_)
          refine g_aload_n (i := 0) hX dL_areVotes_123 rfl rfl rfl ?_
          refine g_bipush hX dL_areVotes_124 bc_6 rfl ?_
          refine g_callVi hX (q_cnt hWN hHN 6 (v := nI 0) rfl (by rw [← hk0]; rfl)) kf_X7_count rfl wk_L_13 rfl rfl rfl rfl rfl dL_areVotes_126 rfl (fun x126 M126 h126 => ?_)
          obtain ⟨rfl, hMq⟩ := h126; have hMq := hMq.symm; subst hMq
          refine g_if_ne (tgt := 136) hX dL_areVotes_129 (by decide) rfl (fun zc129 => absurd rfl zc129) (fun zc129 => ?_)
          refine g_iconst hX dL_areVotes_132 ic_1 rfl ?_
          refine g_goto (n := 137) hX dL_areVotes_133 (by decide) ?_
          refine g_zret hX hR (by first | exact Or.inl rfl | exact Or.inr rfl | exact gB_01 _) dL_areVotes_137 ?_
          exact ⟨rfl, hNe⟩
      | true =>
        have ho2 : gB op = nI 1 := by rw [ho]; rfl
        obtain ⟨hac, hqc⟩ := hq2 ho
        rw [← ho]
        obtain ⟨ob1, ob2, ob3, en, oe1, oe2, oe3, oe4⟩ := hN.ho ho
        have hct : cnF N nm nc nk ne hs op 11 = nI (en - td) := by
          show (if op then N 14 4 - N 1 5 else 0) = nI (en - td)
          rw [ho, oe1, hN.ht.1, if_pos rfl]
          exact pk_sub (by omega)
        have hlk : (if op then lackF (N 15) (N 25) else -2) = lackF (N 15) (N 25) := by rw [ho]; rfl
        have K187 : ∀ c : Nat, c = (if carN a r y n p0 p1 then 1 else 0) → gG X E N 187 [some (.ref 0), some (.int (nI a)), some (.int (nI r)), some (.int (nI y)), some (.int (nI n)), some (.int (nI 1)), none, none, none, none, none] [.int (nI c)] (gQ X E (gInt fun r M' => r = nI 1 ∧ M' = nrm M nk nm op)) := by
          intro c hc
          have hc1 : c ≤ 1 := by rw [hc]; split <;> omega
          have hqc2 : q = c := by rw [hqc, hc]
          have K238 : gG X E N 238 [some (.ref 0), some (.int (nI a)), some (.int (nI r)), some (.int (nI y)), some (.int (nI n)), some (.int (nI 1)), some (.int (nI c)), none, none, none, none] [] (gQ X E (gInt fun r M' => r = nI 1 ∧ M' = nrm M nk nm op)) := by
            by_cases hno : N 15 0 = 0 ∨ (N 25 1 = 100 ∧ 0 < N 15 3)
            · have hlk2 : lackF (N 15) (N 25) = -4 := by rw [lackF, if_pos hno]
              by_cases ha0 : a = 0
              · skip
                refine g_aload_n (i := 0) hX dL_areVotes_238 rfl rfl rfl ?_
                refine g_callVi hX (gInt_e (q_lack hWN hzN) (hlk.trans hlk2)) kf_X7_lacking rfl wk_L_89 rfl rfl rfl rfl rfl dL_areVotes_239 rfl (fun x239 M239 h239 => ?_)
                obtain ⟨rfl, hMq⟩ := h239; have hMq := hMq.symm; subst hMq
                refine g_istore hX dL_areVotes_242 (Nat.le_of_ble_eq_true rfl) rfl ?_
                refine g_iload hX dL_areVotes_244 rfl rfl ?_
                refine g_if_lt (tgt := 418) hX dL_areVotes_246 (by decide) rfl (fun zc246 => ?_) (fun zc246 => absurd (by decide) zc246)
                refine g_iload hX dL_areVotes_418 rfl rfl ?_
                refine g_if_eq (tgt := 454) hX dL_areVotes_420 (by decide) rfl (fun zc420 => absurd zc420 (by decide)) (fun zc420 => ?_)
                refine g_iload hX dL_areVotes_423 rfl rfl ?_
                refine g_bipush hX dL_areVotes_425 bc_m4 rfl ?_
                refine g_icmp_ne (tgt := 454) hX dL_areVotes_427 (by decide) rfl (fun zc427 => absurd rfl zc427) (fun zc427 => ?_)
                refine g_iload_n (i := 1) hX dL_areVotes_430 rfl rfl rfl ?_
                refine g_if_eq (tgt := 450) hX dL_areVotes_431 (by decide) rfl (fun zc431 => ?_) (fun zc431 => absurd (by rw [ha0]; rfl) zc431)
                refine g_iconst hX dL_areVotes_450 ic_1 rfl ?_
                refine g_goto (n := 455) hX dL_areVotes_451 (by decide) ?_
                refine g_zret hX hR (by first | exact Or.inl rfl | exact Or.inr rfl | exact gB_01 _) dL_areVotes_455 ?_
                exact ⟨rfl, hNe⟩
              · have hno2 : p1 = 100 ∧ 0 < n := by
                  rcases hno with hno | ⟨g1, g2⟩
                  · rw [E0] at hno
                    exact absurd hno (nI_ne0 (by omega) (by omega))
                  · rw [e1N] at g1
                    rw [E3] at g2
                    exact ⟨(nI_eq (by omega) (by decide)).mp g1, (nI_ltI (by decide) (by omega)).mp g2⟩
                refine g_aload_n (i := 0) hX dL_areVotes_238 rfl rfl rfl ?_
                refine g_callVi hX (gInt_e (q_lack hWN hzN) (hlk.trans hlk2)) kf_X7_lacking rfl wk_L_89 rfl rfl rfl rfl rfl dL_areVotes_239 rfl (fun x239 M239 h239 => ?_)
                obtain ⟨rfl, hMq⟩ := h239; have hMq := hMq.symm; subst hMq
                refine g_istore hX dL_areVotes_242 (Nat.le_of_ble_eq_true rfl) rfl ?_
                refine g_iload hX dL_areVotes_244 rfl rfl ?_
                refine g_if_lt (tgt := 418) hX dL_areVotes_246 (by decide) rfl (fun zc246 => ?_) (fun zc246 => absurd (by decide) zc246)
                refine g_iload hX dL_areVotes_418 rfl rfl ?_
                refine g_if_eq (tgt := 454) hX dL_areVotes_420 (by decide) rfl (fun zc420 => absurd zc420 (by decide)) (fun zc420 => ?_)
                refine g_iload hX dL_areVotes_423 rfl rfl ?_
                refine g_bipush hX dL_areVotes_425 bc_m4 rfl ?_
                refine g_icmp_ne (tgt := 454) hX dL_areVotes_427 (by decide) rfl (fun zc427 => absurd rfl zc427) (fun zc427 => ?_)
                refine g_iload_n (i := 1) hX dL_areVotes_430 rfl rfl rfl ?_
                refine g_if_eq (tgt := 450) hX dL_areVotes_431 (by decide) rfl (fun zc431 => absurd zc431 (nI_ne0 (by omega) (by omega))) (fun zc431 => ?_)
                refine g_aload_n (i := 0) hX dL_areVotes_434 rfl rfl rfl ?_
                refine g_bipush hX dL_areVotes_435 bc_21 rfl ?_
                refine g_callVi hX (q_cnt hWN hHN 21 (v := nI 100) rfl (by rw [← hno2.1]; exact e1N)) kf_X7_count rfl wk_L_13 rfl rfl rfl rfl rfl dL_areVotes_437 rfl (fun x437 M437 h437 => ?_)
                obtain ⟨rfl, hMq⟩ := h437; have hMq := hMq.symm; subst hMq
                refine g_bipush hX dL_areVotes_440 bc_100 rfl ?_
                refine g_icmp_ne (tgt := 454) hX dL_areVotes_442 (by decide) rfl (fun zc442 => absurd rfl zc442) (fun zc442 => ?_)
                refine g_iload hX dL_areVotes_445 rfl rfl ?_
                refine g_if_le (tgt := 454) hX dL_areVotes_447 (by decide) rfl (fun zc447 => absurd zc447 (nI_nle hno2.2 (by omega))) (fun zc447 => ?_)
                refine g_iconst hX dL_areVotes_450 ic_1 rfl ?_
                refine g_goto (n := 455) hX dL_areVotes_451 (by decide) ?_
                refine g_zret hX hR (by first | exact Or.inl rfl | exact Or.inr rfl | exact gB_01 _) dL_areVotes_455 ?_
                exact ⟨rfl, hNe⟩
            · have hlk2 : lackF (N 15) (N 25) = nI (kLn a r y n p0 p1) := lackF_nat E0 E1 E2 E3 e0N e1N ha1 (by omega) (by omega) (by omega) b0 b1 hno
              have ha0 : 0 < a := Nat.pos_of_ne_zero (fun z => hno (Or.inl (by rw [E0, z]; rfl)))
              have hno2 : ¬ (p1 = 100 ∧ 0 < n) := fun z => hno (Or.inr ⟨by rw [e1N, z.1]; rfl, by rw [E3]; exact nI_lt z.2 (by omega)⟩)
              have kB := kLn_le (a := a) (r := r) (y := y) (n := n) (p0 := p0) (p1 := p1) ha1 (by omega) b0 b1
              have kI := fun k => kLn_iff (a := a) (r := r) (y := y) (n := n) (p0 := p0) (p1 := p1) (k := k) b1 hno2
              generalize kLn a r y n p0 p1 = L at hlk2 kB kI
              obtain ⟨w1, w2, w3⟩ := (kI L).mpr (Nat.le_refl _)
              have n1 : p1 * (y + n + L) ≤ 1000000 := Nat.le_trans (Nat.mul_le_mul b1 (by omega : y + n + L ≤ 10000)) (by decide)
              have hcL : carN a r y n p0 p1 ↔ L = 0 := by
                have z := kI 0
                constructor
                · rintro ⟨g1, g2, g3, g4⟩
                  have := z.mp ⟨by omega, by simpa using g3, by simpa using g4⟩
                  omega
                · intro g
                  obtain ⟨g2, g3, g4⟩ := z.mpr (by omega)
                  exact ⟨ha0, by omega, by simpa using g3, by simpa using g4⟩
              by_cases hL : L = 0
              · have hc9 : c = 1 := by rw [hc, if_pos (hcL.mpr hL)]
                refine g_aload_n (i := 0) hX dL_areVotes_238 rfl rfl rfl ?_
                refine g_callVi hX (gInt_e (q_lack hWN hzN) (hlk.trans hlk2)) kf_X7_lacking rfl wk_L_89 rfl rfl rfl rfl rfl dL_areVotes_239 rfl (fun x239 M239 h239 => ?_)
                obtain ⟨rfl, hMq⟩ := h239; have hMq := hMq.symm; subst hMq
                refine g_istore hX dL_areVotes_242 (Nat.le_of_ble_eq_true rfl) rfl ?_
                refine g_iload hX dL_areVotes_244 rfl rfl ?_
                refine g_if_lt (tgt := 418) hX dL_areVotes_246 (by decide) rfl (fun zc246 => absurd zc246 (nI_pos (by omega))) (fun zc246 => ?_)
                refine g_iload hX dL_areVotes_249 rfl rfl ?_
                refine g_iconst hX dL_areVotes_251 ic_1 rfl ?_
                refine g_isub hX dL_areVotes_252 rfl ?_
                refine g_istore hX dL_areVotes_253 (Nat.le_of_ble_eq_true rfl) rfl ?_
                refine g_iload_n (i := 1) hX dL_areVotes_255 rfl rfl rfl ?_
                refine g_if_le (tgt := 315) hX dL_areVotes_256 (by decide) rfl (fun zc256 => absurd zc256 (nI_nle ha0 (by omega))) (fun zc256 => ?_)
                refine g_iload_n (i := 3) hX dL_areVotes_259 rfl rfl rfl ?_
                refine g_iload hX dL_areVotes_260 rfl rfl ?_
                first | refine g_iaddN hX dL_areVotes_262 rfl ?_ | refine g_iadd hX dL_areVotes_262 rfl ?_
                refine g_iload hX dL_areVotes_263 rfl rfl ?_
                first | refine g_iaddN hX dL_areVotes_265 rfl ?_ | refine g_iadd hX dL_areVotes_265 rfl ?_
                refine g_if_le (tgt := 315) hX dL_areVotes_266 (by decide) rfl (fun zc266 => absurd zc266 (nI_nle w1 (by omega))) (fun zc266 => ?_)
                refine g_bipush hX dL_areVotes_269 bc_100 rfl ?_
                refine g_iload_n (i := 2) hX dL_areVotes_271 rfl rfl rfl ?_
                refine g_iload hX dL_areVotes_272 rfl rfl ?_
                first | refine g_iaddN hX dL_areVotes_274 rfl ?_ | refine g_iadd hX dL_areVotes_274 rfl ?_
                first | refine g_imulN hX dL_areVotes_275 rfl ?_ | refine g_imul hX dL_areVotes_275 rfl ?_
                refine g_aload_n (i := 0) hX dL_areVotes_276 rfl rfl rfl ?_
                refine g_bipush hX dL_areVotes_277 bc_20 rfl ?_
                refine g_callVi hX (q_cnt hWN hHN 20 (v := nI p0) rfl e0N) kf_X7_count rfl wk_L_13 rfl rfl rfl rfl rfl dL_areVotes_279 rfl (fun x279 M279 h279 => ?_)
                obtain ⟨rfl, hMq⟩ := h279; have hMq := hMq.symm; subst hMq
                refine g_iload_n (i := 1) hX dL_areVotes_282 rfl rfl rfl ?_
                first | refine g_imulN hX dL_areVotes_283 rfl ?_ | refine g_imul hX dL_areVotes_283 rfl ?_
                first | refine g_icmp_ltN (tgt := 315) hX dL_areVotes_284 (by decide) rfl (by omega) (by omega) (fun zc284 => absurd zc284 (by omega)) (fun zc284 => ?_) | refine g_icmp_lt (tgt := 315) hX dL_areVotes_284 (by decide) rfl (fun zc284 => absurd zc284 (by omega)) (fun zc284 => ?_)
                refine g_bipush hX dL_areVotes_287 bc_100 rfl ?_
                refine g_iload_n (i := 3) hX dL_areVotes_289 rfl rfl rfl ?_
                refine g_iload hX dL_areVotes_290 rfl rfl ?_
                first | refine g_iaddN hX dL_areVotes_292 rfl ?_ | refine g_iadd hX dL_areVotes_292 rfl ?_
                first | refine g_imulN hX dL_areVotes_293 rfl ?_ | refine g_imul hX dL_areVotes_293 rfl ?_
                refine g_aload_n (i := 0) hX dL_areVotes_294 rfl rfl rfl ?_
                refine g_bipush hX dL_areVotes_295 bc_21 rfl ?_
                refine g_callVi hX (q_cnt hWN hHN 21 (v := nI p1) rfl e1N) kf_X7_count rfl wk_L_13 rfl rfl rfl rfl rfl dL_areVotes_297 rfl (fun x297 M297 h297 => ?_)
                obtain ⟨rfl, hMq⟩ := h297; have hMq := hMq.symm; subst hMq
                refine g_iload_n (i := 3) hX dL_areVotes_300 rfl rfl rfl ?_
                refine g_iload hX dL_areVotes_301 rfl rfl ?_
                first | refine g_iaddN hX dL_areVotes_303 rfl ?_ | refine g_iadd hX dL_areVotes_303 rfl ?_
                refine g_iload hX dL_areVotes_304 rfl rfl ?_
                first | refine g_iaddN hX dL_areVotes_306 rfl ?_ | refine g_iadd hX dL_areVotes_306 rfl ?_
                first | refine g_imulN hX dL_areVotes_307 rfl ?_ | refine g_imul hX dL_areVotes_307 rfl ?_
                first | refine g_icmp_ltN (tgt := 315) hX dL_areVotes_308 (by decide) rfl (by omega) (by omega) (fun zc308 => absurd zc308 (by omega)) (fun zc308 => ?_) | refine g_icmp_lt (tgt := 315) hX dL_areVotes_308 (by decide) rfl (fun zc308 => absurd zc308 (by omega)) (fun zc308 => ?_)
                refine g_iconst hX dL_areVotes_311 ic_1 rfl ?_
                refine g_goto (n := 316) hX dL_areVotes_312 (by decide) ?_
                refine g_istore hX dL_areVotes_316 (Nat.le_of_ble_eq_true rfl) rfl ?_
                refine g_iload hX dL_areVotes_318 rfl rfl ?_
                refine g_if_le (tgt := 379) hX dL_areVotes_320 (by decide) rfl (fun zc320 => ?_) (fun zc320 => absurd (by rw [hL]; decide) zc320)
                refine g_iconst hX dL_areVotes_379 ic_0 rfl ?_
                refine g_istore hX dL_areVotes_380 (Nat.le_of_ble_eq_true rfl) rfl ?_
                refine g_iload hX dL_areVotes_382 rfl rfl ?_
                refine g_if_eq (tgt := 416) hX dL_areVotes_384 (by decide) rfl (fun zc384 => absurd zc384 (by decide)) (fun zc384 => ?_)
                refine g_iload hX dL_areVotes_387 rfl rfl ?_
                refine g_if_eq (tgt := 416) hX dL_areVotes_389 (by decide) rfl (fun zc389 => absurd zc389 (by decide)) (fun zc389 => ?_)
                refine g_iload hX dL_areVotes_392 rfl rfl ?_
                refine g_if_ne (tgt := 416) hX dL_areVotes_394 (by decide) rfl (fun zc394 => absurd rfl zc394) (fun zc394 => ?_)
                refine g_iload hX dL_areVotes_397 rfl rfl ?_
                refine g_if_ne (tgt := 406) hX dL_areVotes_399 (by decide) rfl (fun zc399 => absurd (by rw [hL]; rfl) zc399) (fun zc399 => ?_)
                refine g_iconst hX dL_areVotes_402 ic_1 rfl ?_
                refine g_goto (n := 407) hX dL_areVotes_403 (by decide) ?_
                refine g_iload hX dL_areVotes_407 rfl rfl ?_
                refine g_icmp_ne (tgt := 416) hX dL_areVotes_409 (by decide) rfl (fun zc409 => absurd (by rw [hc9]) zc409) (fun zc409 => ?_)
                refine g_iconst hX dL_areVotes_412 ic_1 rfl ?_
                refine g_goto (n := 417) hX dL_areVotes_413 (by decide) ?_
                refine g_zret hX hR (by first | exact Or.inl rfl | exact Or.inr rfl | exact gB_01 _) dL_areVotes_417 ?_
                exact ⟨rfl, hNe⟩
              · have hc9 : c = 0 := by rw [hc, if_neg (fun z => hL (hcL.mp z))]
                have kw : ¬ (0 < y + n + (L - 1) ∧ p0 * a ≤ 100 * (r + (L - 1)) ∧ p1 * (y + n + (L - 1)) ≤ 100 * (y + (L - 1))) := fun z => by
                  have := (kI (L - 1)).mp z
                  omega
                have n2 : p1 * (y + n + (L - 1)) ≤ 1000000 := Nat.le_trans (Nat.mul_le_mul b1 (by omega : y + n + (L - 1) ≤ 10000)) (by decide)
                have K379 : gG X E N 379 [some (.ref 0), some (.int (nI a)), some (.int (nI r)), some (.int (nI y)), some (.int (nI n)), some (.int (nI 1)), some (.int (nI c)), some (.int (nI L)), some (.int (nI (L - 1))), some (.int (nI 1)), none] [] (gQ X E (gInt fun r M' => r = nI 1 ∧ M' = nrm M nk nm op)) := by
                  refine g_iconst hX dL_areVotes_379 ic_0 rfl ?_
                  refine g_istore hX dL_areVotes_380 (Nat.le_of_ble_eq_true rfl) rfl ?_
                  refine g_iload hX dL_areVotes_382 rfl rfl ?_
                  refine g_if_eq (tgt := 416) hX dL_areVotes_384 (by decide) rfl (fun zc384 => absurd zc384 (by decide)) (fun zc384 => ?_)
                  refine g_iload hX dL_areVotes_387 rfl rfl ?_
                  refine g_if_eq (tgt := 416) hX dL_areVotes_389 (by decide) rfl (fun zc389 => absurd zc389 (by decide)) (fun zc389 => ?_)
                  refine g_iload hX dL_areVotes_392 rfl rfl ?_
                  refine g_if_ne (tgt := 416) hX dL_areVotes_394 (by decide) rfl (fun zc394 => absurd rfl zc394) (fun zc394 => ?_)
                  refine g_iload hX dL_areVotes_397 rfl rfl ?_
                  refine g_if_ne (tgt := 406) hX dL_areVotes_399 (by decide) rfl (fun zc399 => ?_) (fun zc399 => absurd zc399 (nI_ne0 (by omega) (by omega)))
                  refine g_iconst hX dL_areVotes_406 ic_0 rfl ?_
                  refine g_iload hX dL_areVotes_407 rfl rfl ?_
                  refine g_icmp_ne (tgt := 416) hX dL_areVotes_409 (by decide) rfl (fun zc409 => absurd (by rw [hc9]) zc409) (fun zc409 => ?_)
                  refine g_iconst hX dL_areVotes_412 ic_1 rfl ?_
                  refine g_goto (n := 417) hX dL_areVotes_413 (by decide) ?_
                  refine g_zret hX hR (by first | exact Or.inl rfl | exact Or.inr rfl | exact gB_01 _) dL_areVotes_417 ?_
                  exact ⟨rfl, hNe⟩
                refine g_aload_n (i := 0) hX dL_areVotes_238 rfl rfl rfl ?_
                refine g_callVi hX (gInt_e (q_lack hWN hzN) (hlk.trans hlk2)) kf_X7_lacking rfl wk_L_89 rfl rfl rfl rfl rfl dL_areVotes_239 rfl (fun x239 M239 h239 => ?_)
                obtain ⟨rfl, hMq⟩ := h239; have hMq := hMq.symm; subst hMq
                refine g_istore hX dL_areVotes_242 (Nat.le_of_ble_eq_true rfl) rfl ?_
                refine g_iload hX dL_areVotes_244 rfl rfl ?_
                refine g_if_lt (tgt := 418) hX dL_areVotes_246 (by decide) rfl (fun zc246 => absurd zc246 (nI_pos (by omega))) (fun zc246 => ?_)
                refine g_iload hX dL_areVotes_249 rfl rfl ?_
                refine g_iconst hX dL_areVotes_251 ic_1 rfl ?_
                refine g_isubN hX dL_areVotes_252 (by omega) rfl ?_
                refine g_istore hX dL_areVotes_253 (Nat.le_of_ble_eq_true rfl) rfl ?_
                refine g_iload_n (i := 1) hX dL_areVotes_255 rfl rfl rfl ?_
                refine g_if_le (tgt := 315) hX dL_areVotes_256 (by decide) rfl (fun zc256 => absurd zc256 (nI_nle ha0 (by omega))) (fun zc256 => ?_)
                refine g_iload_n (i := 3) hX dL_areVotes_259 rfl rfl rfl ?_
                refine g_iload hX dL_areVotes_260 rfl rfl ?_
                first | refine g_iaddN hX dL_areVotes_262 rfl ?_ | refine g_iadd hX dL_areVotes_262 rfl ?_
                refine g_iload hX dL_areVotes_263 rfl rfl ?_
                first | refine g_iaddN hX dL_areVotes_265 rfl ?_ | refine g_iadd hX dL_areVotes_265 rfl ?_
                refine g_if_le (tgt := 315) hX dL_areVotes_266 (by decide) rfl (fun zc266 => absurd zc266 (nI_nle w1 (by omega))) (fun zc266 => ?_)
                refine g_bipush hX dL_areVotes_269 bc_100 rfl ?_
                refine g_iload_n (i := 2) hX dL_areVotes_271 rfl rfl rfl ?_
                refine g_iload hX dL_areVotes_272 rfl rfl ?_
                first | refine g_iaddN hX dL_areVotes_274 rfl ?_ | refine g_iadd hX dL_areVotes_274 rfl ?_
                first | refine g_imulN hX dL_areVotes_275 rfl ?_ | refine g_imul hX dL_areVotes_275 rfl ?_
                refine g_aload_n (i := 0) hX dL_areVotes_276 rfl rfl rfl ?_
                refine g_bipush hX dL_areVotes_277 bc_20 rfl ?_
                refine g_callVi hX (q_cnt hWN hHN 20 (v := nI p0) rfl e0N) kf_X7_count rfl wk_L_13 rfl rfl rfl rfl rfl dL_areVotes_279 rfl (fun x279 M279 h279 => ?_)
                obtain ⟨rfl, hMq⟩ := h279; have hMq := hMq.symm; subst hMq
                refine g_iload_n (i := 1) hX dL_areVotes_282 rfl rfl rfl ?_
                first | refine g_imulN hX dL_areVotes_283 rfl ?_ | refine g_imul hX dL_areVotes_283 rfl ?_
                first | refine g_icmp_ltN (tgt := 315) hX dL_areVotes_284 (by decide) rfl (by omega) (by omega) (fun zc284 => absurd zc284 (by omega)) (fun zc284 => ?_) | refine g_icmp_lt (tgt := 315) hX dL_areVotes_284 (by decide) rfl (fun zc284 => absurd zc284 (by omega)) (fun zc284 => ?_)
                refine g_bipush hX dL_areVotes_287 bc_100 rfl ?_
                refine g_iload_n (i := 3) hX dL_areVotes_289 rfl rfl rfl ?_
                refine g_iload hX dL_areVotes_290 rfl rfl ?_
                first | refine g_iaddN hX dL_areVotes_292 rfl ?_ | refine g_iadd hX dL_areVotes_292 rfl ?_
                first | refine g_imulN hX dL_areVotes_293 rfl ?_ | refine g_imul hX dL_areVotes_293 rfl ?_
                refine g_aload_n (i := 0) hX dL_areVotes_294 rfl rfl rfl ?_
                refine g_bipush hX dL_areVotes_295 bc_21 rfl ?_
                refine g_callVi hX (q_cnt hWN hHN 21 (v := nI p1) rfl e1N) kf_X7_count rfl wk_L_13 rfl rfl rfl rfl rfl dL_areVotes_297 rfl (fun x297 M297 h297 => ?_)
                obtain ⟨rfl, hMq⟩ := h297; have hMq := hMq.symm; subst hMq
                refine g_iload_n (i := 3) hX dL_areVotes_300 rfl rfl rfl ?_
                refine g_iload hX dL_areVotes_301 rfl rfl ?_
                first | refine g_iaddN hX dL_areVotes_303 rfl ?_ | refine g_iadd hX dL_areVotes_303 rfl ?_
                refine g_iload hX dL_areVotes_304 rfl rfl ?_
                first | refine g_iaddN hX dL_areVotes_306 rfl ?_ | refine g_iadd hX dL_areVotes_306 rfl ?_
                first | refine g_imulN hX dL_areVotes_307 rfl ?_ | refine g_imul hX dL_areVotes_307 rfl ?_
                first | refine g_icmp_ltN (tgt := 315) hX dL_areVotes_308 (by decide) rfl (by omega) (by omega) (fun zc308 => absurd zc308 (by omega)) (fun zc308 => ?_) | refine g_icmp_lt (tgt := 315) hX dL_areVotes_308 (by decide) rfl (fun zc308 => absurd zc308 (by omega)) (fun zc308 => ?_)
                refine g_iconst hX dL_areVotes_311 ic_1 rfl ?_
                refine g_goto (n := 316) hX dL_areVotes_312 (by decide) ?_
                refine g_istore hX dL_areVotes_316 (Nat.le_of_ble_eq_true rfl) rfl ?_
                refine g_iload hX dL_areVotes_318 rfl rfl ?_
                refine g_if_le (tgt := 379) hX dL_areVotes_320 (by decide) rfl (fun zc320 => absurd zc320 (nI_nle (by omega) (by omega))) (fun zc320 => ?_)
                refine g_iload_n (i := 3) hX dL_areVotes_323 rfl rfl rfl ?_
                refine g_iload hX dL_areVotes_324 rfl rfl ?_
                first | refine g_iaddN hX dL_areVotes_326 rfl ?_ | refine g_iadd hX dL_areVotes_326 rfl ?_
                refine g_iload hX dL_areVotes_327 rfl rfl ?_
                first | refine g_iaddN hX dL_areVotes_329 rfl ?_ | refine g_iadd hX dL_areVotes_329 rfl ?_
                refine g_if_le (tgt := 379) hX dL_areVotes_330 (by decide) rfl (fun zc330 => ?_) (fun zc330 => ?_)
                · skip
                  exact K379
                · skip
                  have z330 : 0 < y + n + (L - 1) := Nat.pos_of_ne_zero (fun z => zc330 (by rw [z]; decide))
                  refine g_bipush hX dL_areVotes_333 bc_100 rfl ?_
                  refine g_iload_n (i := 2) hX dL_areVotes_335 rfl rfl rfl ?_
                  refine g_iload hX dL_areVotes_336 rfl rfl ?_
                  first | refine g_iaddN hX dL_areVotes_338 rfl ?_ | refine g_iadd hX dL_areVotes_338 rfl ?_
                  first | refine g_imulN hX dL_areVotes_339 rfl ?_ | refine g_imul hX dL_areVotes_339 rfl ?_
                  refine g_aload_n (i := 0) hX dL_areVotes_340 rfl rfl rfl ?_
                  refine g_bipush hX dL_areVotes_341 bc_20 rfl ?_
                  refine g_callVi hX (q_cnt hWN hHN 20 (v := nI p0) rfl e0N) kf_X7_count rfl wk_L_13 rfl rfl rfl rfl rfl dL_areVotes_343 rfl (fun x343 M343 h343 => ?_)
                  obtain ⟨rfl, hMq⟩ := h343; have hMq := hMq.symm; subst hMq
                  refine g_iload_n (i := 1) hX dL_areVotes_346 rfl rfl rfl ?_
                  first | refine g_imulN hX dL_areVotes_347 rfl ?_ | refine g_imul hX dL_areVotes_347 rfl ?_
                  first | refine g_icmp_ltN (tgt := 379) hX dL_areVotes_348 (by decide) rfl (by omega) (by omega) (fun zc348 => ?_) (fun zc348 => ?_) | refine g_icmp_lt (tgt := 379) hX dL_areVotes_348 (by decide) rfl (fun zc348 => ?_) (fun zc348 => ?_)
                  · skip
                    exact K379
                  · skip
                    refine g_bipush hX dL_areVotes_351 bc_100 rfl ?_
                    refine g_iload_n (i := 3) hX dL_areVotes_353 rfl rfl rfl ?_
                    refine g_iload hX dL_areVotes_354 rfl rfl ?_
                    first | refine g_iaddN hX dL_areVotes_356 rfl ?_ | refine g_iadd hX dL_areVotes_356 rfl ?_
                    first | refine g_imulN hX dL_areVotes_357 rfl ?_ | refine g_imul hX dL_areVotes_357 rfl ?_
                    refine g_aload_n (i := 0) hX dL_areVotes_358 rfl rfl rfl ?_
                    refine g_bipush hX dL_areVotes_359 bc_21 rfl ?_
                    refine g_callVi hX (q_cnt hWN hHN 21 (v := nI p1) rfl e1N) kf_X7_count rfl wk_L_13 rfl rfl rfl rfl rfl dL_areVotes_361 rfl (fun x361 M361 h361 => ?_)
                    obtain ⟨rfl, hMq⟩ := h361; have hMq := hMq.symm; subst hMq
                    refine g_iload_n (i := 3) hX dL_areVotes_364 rfl rfl rfl ?_
                    refine g_iload hX dL_areVotes_365 rfl rfl ?_
                    first | refine g_iaddN hX dL_areVotes_367 rfl ?_ | refine g_iadd hX dL_areVotes_367 rfl ?_
                    refine g_iload hX dL_areVotes_368 rfl rfl ?_
                    first | refine g_iaddN hX dL_areVotes_370 rfl ?_ | refine g_iadd hX dL_areVotes_370 rfl ?_
                    first | refine g_imulN hX dL_areVotes_371 rfl ?_ | refine g_imul hX dL_areVotes_371 rfl ?_
                    first | refine g_icmp_ltN (tgt := 379) hX dL_areVotes_372 (by decide) rfl (by omega) (by omega) (fun zc372 => ?_) (fun zc372 => ?_) | refine g_icmp_lt (tgt := 379) hX dL_areVotes_372 (by decide) rfl (fun zc372 => ?_) (fun zc372 => ?_)
                    · skip
                      exact K379
                    · skip
                      exact absurd ⟨z330, by omega, by omega⟩ kw
          refine g_istore hX dL_areVotes_187 (Nat.le_of_ble_eq_true rfl) rfl ?_
          refine g_iload hX dL_areVotes_189 rfl rfl ?_
          refine g_if_eq (tgt := 235) hX dL_areVotes_191 (by decide) rfl (fun zc191 => absurd zc191 (by decide)) (fun zc191 => ?_)
          refine g_iload_n (i := 1) hX dL_areVotes_194 rfl rfl rfl ?_
          refine g_aload_n (i := 0) hX dL_areVotes_195 rfl rfl rfl ?_
          refine g_bipush hX dL_areVotes_196 bc_8 rfl ?_
          refine g_callVi hX (q_cnt hWN hHN 8 (v := nI a) rfl (hacN.trans hac)) kf_X7_count rfl wk_L_13 rfl rfl rfl rfl rfl dL_areVotes_198 rfl (fun x198 M198 h198 => ?_)
          obtain ⟨rfl, hMq⟩ := h198; have hMq := hMq.symm; subst hMq
          refine g_icmp_ne (tgt := 235) hX dL_areVotes_201 (by decide) rfl (fun zc201 => absurd rfl zc201) (fun zc201 => ?_)
          refine g_aload_n (i := 0) hX dL_areVotes_204 rfl rfl rfl ?_
          refine g_iconst hX dL_areVotes_205 ic_5 rfl ?_
          refine g_callVi hX (q_tal hWN hzN hb0N 5 rfl (E5.trans (by rw [hqc2]))) kf_X7_tally rfl wk_L_19 rfl rfl rfl rfl rfl dL_areVotes_206 rfl (fun x206 M206 h206 => ?_)
          obtain ⟨rfl, hMq⟩ := h206; have hMq := hMq.symm; subst hMq
          refine g_iload hX dL_areVotes_209 rfl rfl ?_
          refine g_if_eq (tgt := 218) hX dL_areVotes_211 (by decide) rfl (fun zc211 => ?_) (fun zc211 => ?_)
          · skip
            have z211 : c = 0 := (nI_eq (by omega) (by decide)).mp zc211
            refine g_iconst hX dL_areVotes_218 ic_0 rfl ?_
            refine g_icmp_ne (tgt := 235) hX dL_areVotes_219 (by decide) rfl (fun zc219 => absurd (by rw [z211]) zc219) (fun zc219 => ?_)
            refine g_aload_n (i := 0) hX dL_areVotes_222 rfl rfl rfl ?_
            refine g_bipush hX dL_areVotes_223 bc_11 rfl ?_
            refine g_callVi hX (q_cnt hWN hHN 11 rfl hct) kf_X7_count rfl wk_L_13 rfl rfl rfl rfl rfl dL_areVotes_225 rfl (fun x225 M225 h225 => ?_)
            obtain ⟨rfl, hMq⟩ := h225; have hMq := hMq.symm; subst hMq
            refine g_if_le (tgt := 235) hX dL_areVotes_228 (by decide) rfl (fun zc228 => absurd zc228 (nI_nle (by omega) (by omega))) (fun zc228 => ?_)
            refine g_iconst hX dL_areVotes_231 ic_1 rfl ?_
            refine g_goto (n := 236) hX dL_areVotes_232 (by decide) ?_
            refine g_istore hX dL_areVotes_236 (Nat.le_of_ble_eq_true rfl) rfl ?_
            exact K238
          · skip
            have z211 : c = 1 := by
              have : c ≠ 0 := fun z => zc211 (by rw [z]; rfl)
              omega
            refine g_iconst hX dL_areVotes_214 ic_1 rfl ?_
            refine g_goto (n := 219) hX dL_areVotes_215 (by decide) ?_
            refine g_icmp_ne (tgt := 235) hX dL_areVotes_219 (by decide) rfl (fun zc219 => absurd (by rw [z211]) zc219) (fun zc219 => ?_)
            refine g_aload_n (i := 0) hX dL_areVotes_222 rfl rfl rfl ?_
            refine g_bipush hX dL_areVotes_223 bc_11 rfl ?_
            refine g_callVi hX (q_cnt hWN hHN 11 rfl hct) kf_X7_count rfl wk_L_13 rfl rfl rfl rfl rfl dL_areVotes_225 rfl (fun x225 M225 h225 => ?_)
            obtain ⟨rfl, hMq⟩ := h225; have hMq := hMq.symm; subst hMq
            refine g_if_le (tgt := 235) hX dL_areVotes_228 (by decide) rfl (fun zc228 => absurd zc228 (nI_nle (by omega) (by omega))) (fun zc228 => ?_)
            refine g_iconst hX dL_areVotes_231 ic_1 rfl ?_
            refine g_goto (n := 236) hX dL_areVotes_232 (by decide) ?_
            refine g_istore hX dL_areVotes_236 (Nat.le_of_ble_eq_true rfl) rfl ?_
            exact K238
        refine g_istore hX dL_areVotes_99 (Nat.le_of_ble_eq_true rfl) rfl ?_
        refine g_aload_n (i := 0) hX dL_areVotes_101 rfl rfl rfl ?_
        refine g_iconst hX dL_areVotes_102 ic_4 rfl ?_
        refine g_callVi hX (q_cnt hWN hHN 4 (v := nI 1) rfl ho2) kf_X7_count rfl wk_L_13 rfl rfl rfl rfl rfl dL_areVotes_103 rfl (fun x103 M103 h103 => ?_)
        obtain ⟨rfl, hMq⟩ := h103; have hMq := hMq.symm; subst hMq
        refine g_if_ne (tgt := 138) hX dL_areVotes_106 (by decide) rfl (fun zc106 => ?_) (fun zc106 => absurd zc106 (by decide))
        refine g_iload_n (i := 1) hX dL_areVotes_138 rfl rfl rfl ?_
        refine g_if_le (tgt := 186) hX dL_areVotes_139 (by decide) rfl (fun zc139 => ?_) (fun zc139 => ?_)
        · skip
          have z139 : ¬ 0 < a := fun z => nI_nle z (by omega) zc139
          refine g_iconst hX dL_areVotes_186 ic_0 rfl ?_
          first | exact K187 1 (by rw [if_pos ⟨z139, z146, by omega, by omega⟩]) | exact K187 0 (by rw [if_neg (fun z => by have g1 := z.1; have g2 := z.2.1; have g3 := z.2.2.1; have g4 := z.2.2.2; omega)])
        · skip
          have z139 : 0 < a := Nat.pos_of_ne_zero (fun z => zc139 (by rw [z]; decide))
          refine g_iload_n (i := 3) hX dL_areVotes_142 rfl rfl rfl ?_
          refine g_iload hX dL_areVotes_143 rfl rfl ?_
          first | refine g_iaddN hX dL_areVotes_145 rfl ?_ | refine g_iadd hX dL_areVotes_145 rfl ?_
          refine g_if_le (tgt := 186) hX dL_areVotes_146 (by decide) rfl (fun zc146 => ?_) (fun zc146 => ?_)
          · skip
            have z146 : ¬ 0 < y + n := fun z => nI_nle z (by omega) zc146
            refine g_iconst hX dL_areVotes_186 ic_0 rfl ?_
            first | exact K187 1 (by rw [if_pos ⟨z139, z146, by omega, by omega⟩]) | exact K187 0 (by rw [if_neg (fun z => by have g1 := z.1; have g2 := z.2.1; have g3 := z.2.2.1; have g4 := z.2.2.2; omega)])
          · skip
            have z146 : 0 < y + n := Nat.pos_of_ne_zero (fun z => zc146 (by rw [z]; decide))
            refine g_bipush hX dL_areVotes_149 bc_100 rfl ?_
            refine g_iload_n (i := 2) hX dL_areVotes_151 rfl rfl rfl ?_
            first | refine g_imulN hX dL_areVotes_152 rfl ?_ | refine g_imul hX dL_areVotes_152 rfl ?_
            refine g_aload_n (i := 0) hX dL_areVotes_153 rfl rfl rfl ?_
            refine g_bipush hX dL_areVotes_154 bc_20 rfl ?_
            refine g_callVi hX (q_cnt hWN hHN 20 (v := nI p0) rfl e0N) kf_X7_count rfl wk_L_13 rfl rfl rfl rfl rfl dL_areVotes_156 rfl (fun x156 M156 h156 => ?_)
            obtain ⟨rfl, hMq⟩ := h156; have hMq := hMq.symm; subst hMq
            refine g_iload_n (i := 1) hX dL_areVotes_159 rfl rfl rfl ?_
            first | refine g_imulN hX dL_areVotes_160 rfl ?_ | refine g_imul hX dL_areVotes_160 rfl ?_
            first | refine g_icmp_ltN (tgt := 186) hX dL_areVotes_161 (by decide) rfl (by omega) (by omega) (fun zc161 => ?_) (fun zc161 => ?_) | refine g_icmp_lt (tgt := 186) hX dL_areVotes_161 (by decide) rfl (fun zc161 => ?_) (fun zc161 => ?_)
            · skip
              refine g_iconst hX dL_areVotes_186 ic_0 rfl ?_
              first | exact K187 1 (by rw [if_pos ⟨z139, z146, by omega, by omega⟩]) | exact K187 0 (by rw [if_neg (fun z => by have g1 := z.1; have g2 := z.2.1; have g3 := z.2.2.1; have g4 := z.2.2.2; omega)])
            · skip
              refine g_bipush hX dL_areVotes_164 bc_100 rfl ?_
              refine g_iload_n (i := 3) hX dL_areVotes_166 rfl rfl rfl ?_
              first | refine g_imulN hX dL_areVotes_167 rfl ?_ | refine g_imul hX dL_areVotes_167 rfl ?_
              refine g_aload_n (i := 0) hX dL_areVotes_168 rfl rfl rfl ?_
              refine g_bipush hX dL_areVotes_169 bc_21 rfl ?_
              refine g_callVi hX (q_cnt hWN hHN 21 (v := nI p1) rfl e1N) kf_X7_count rfl wk_L_13 rfl rfl rfl rfl rfl dL_areVotes_171 rfl (fun x171 M171 h171 => ?_)
              obtain ⟨rfl, hMq⟩ := h171; have hMq := hMq.symm; subst hMq
              refine g_iload_n (i := 3) hX dL_areVotes_174 rfl rfl rfl ?_
              refine g_iload hX dL_areVotes_175 rfl rfl ?_
              first | refine g_iaddN hX dL_areVotes_177 rfl ?_ | refine g_iadd hX dL_areVotes_177 rfl ?_
              first | refine g_imulN hX dL_areVotes_178 rfl ?_ | refine g_imul hX dL_areVotes_178 rfl ?_
              first | refine g_icmp_ltN (tgt := 186) hX dL_areVotes_179 (by decide) rfl (by omega) (by omega) (fun zc179 => ?_) (fun zc179 => ?_) | refine g_icmp_lt (tgt := 186) hX dL_areVotes_179 (by decide) rfl (fun zc179 => ?_) (fun zc179 => ?_)
              · skip
                refine g_iconst hX dL_areVotes_186 ic_0 rfl ?_
                first | exact K187 1 (by rw [if_pos ⟨z139, z146, by omega, by omega⟩]) | exact K187 0 (by rw [if_neg (fun z => by have g1 := z.1; have g2 := z.2.1; have g3 := z.2.2.1; have g4 := z.2.2.2; omega)])
              · skip
                refine g_iconst hX dL_areVotes_182 ic_1 rfl ?_
                refine g_goto (n := 187) hX dL_areVotes_183 (by decide) ?_
                first | exact K187 1 (by rw [if_pos ⟨z139, z146, by omega, by omega⟩]) | exact K187 0 (by rw [if_neg (fun z => by have g1 := z.1; have g2 := z.2.1; have g3 := z.2.2.1; have g4 := z.2.2.2; omega)])
    refine g_aload_n (i := 0) hX dL_areVotes_0 rfl rfl rfl ?_
    refine g_iconst hX dL_areVotes_1 ic_5 rfl ?_
    refine g_callVi hX (q_cnt hW hH 5 (v := nI nb) rfl h.hb) kf_X7_count rfl wk_L_13 rfl rfl rfl rfl rfl dL_areVotes_2 rfl (fun x2 M2 h2 => ?_)
    obtain ⟨rfl, hMq⟩ := h2; have hMq := hMq.symm; subst hMq
    refine g_if_ne (tgt := 33) hX dL_areVotes_5 (by decide) rfl (fun zc5 => ?_) (fun zc5 => absurd zc5 (nI_ne0 h0 (by omega)))
    refine g_aload_n (i := 0) hX dL_areVotes_33 rfl rfl rfl ?_
    refine g_iconst hX dL_areVotes_34 ic_0 rfl ?_
    refine g_callVi hX (q_tal0 hW hb0 0 (v := nI a) rfl (by rw [← hNe]; exact E0)) kf_X7_tally rfl wk_L_19 rfl rfl rfl rfl rfl dL_areVotes_35 rfl (fun x35 M35 h35 => ?_)
    obtain ⟨rfl, hMq⟩ := h35
    rw [← hNe] at hMq
    subst hMq
    refine g_istore_n (i := 1) hX dL_areVotes_38 rfl (Nat.le_of_ble_eq_true rfl) rfl ?_
    refine g_aload_n (i := 0) hX dL_areVotes_39 rfl rfl rfl ?_
    refine g_iconst hX dL_areVotes_40 ic_1 rfl ?_
    refine g_callVi hX (q_tal hWN hzN hb0N 1 rfl E1) kf_X7_tally rfl wk_L_19 rfl rfl rfl rfl rfl dL_areVotes_41 rfl (fun x41 M41 h41 => ?_)
    obtain ⟨rfl, hMq⟩ := h41; have hMq := hMq.symm; subst hMq
    refine g_istore_n (i := 2) hX dL_areVotes_44 rfl (Nat.le_of_ble_eq_true rfl) rfl ?_
    refine g_aload_n (i := 0) hX dL_areVotes_45 rfl rfl rfl ?_
    refine g_iconst hX dL_areVotes_46 ic_2 rfl ?_
    refine g_callVi hX (q_tal hWN hzN hb0N 2 rfl E2) kf_X7_tally rfl wk_L_19 rfl rfl rfl rfl rfl dL_areVotes_47 rfl (fun x47 M47 h47 => ?_)
    obtain ⟨rfl, hMq⟩ := h47; have hMq := hMq.symm; subst hMq
    refine g_istore_n (i := 3) hX dL_areVotes_50 rfl (Nat.le_of_ble_eq_true rfl) rfl ?_
    refine g_aload_n (i := 0) hX dL_areVotes_51 rfl rfl rfl ?_
    refine g_iconst hX dL_areVotes_52 ic_3 rfl ?_
    refine g_callVi hX (q_tal hWN hzN hb0N 3 rfl E3) kf_X7_tally rfl wk_L_19 rfl rfl rfl rfl rfl dL_areVotes_53 rfl (fun x53 M53 h53 => ?_)
    obtain ⟨rfl, hMq⟩ := h53; have hMq := hMq.symm; subst hMq
    refine g_istore hX dL_areVotes_56 (Nat.le_of_ble_eq_true rfl) rfl ?_
    refine g_iload_n (i := 2) hX dL_areVotes_58 rfl rfl rfl ?_
    refine g_iload_n (i := 3) hX dL_areVotes_59 rfl rfl rfl ?_
    refine g_iload hX dL_areVotes_60 rfl rfl ?_
    first | refine g_iaddN hX dL_areVotes_62 rfl ?_ | refine g_iadd hX dL_areVotes_62 rfl ?_
    refine g_aload_n (i := 0) hX dL_areVotes_63 rfl rfl rfl ?_
    refine g_iconst hX dL_areVotes_64 ic_4 rfl ?_
    refine g_callVi hX (q_tal hWN hzN hb0N 4 rfl E4) kf_X7_tally rfl wk_L_19 rfl rfl rfl rfl rfl dL_areVotes_65 rfl (fun x65 M65 h65 => ?_)
    obtain ⟨rfl, hMq⟩ := h65; have hMq := hMq.symm; subst hMq
    first | refine g_iaddN hX dL_areVotes_68 rfl ?_ | refine g_iadd hX dL_areVotes_68 rfl ?_
    first | refine g_icmp_neN (tgt := 98) hX dL_areVotes_69 (by decide) rfl (by omega) (by omega) (fun zc69 => absurd zc69 (by omega)) (fun zc69 => ?_) | refine g_icmp_ne (tgt := 98) hX dL_areVotes_69 (by decide) rfl (fun zc69 => absurd zc69 (by omega)) (fun zc69 => ?_)
    refine g_iload_n (i := 2) hX dL_areVotes_72 rfl rfl rfl ?_
    refine g_iload_n (i := 1) hX dL_areVotes_73 rfl rfl rfl ?_
    first | refine g_icmp_gtN (tgt := 98) hX dL_areVotes_74 (by decide) rfl (by omega) (by omega) (fun zc74 => absurd zc74 (by omega)) (fun zc74 => ?_) | refine g_icmp_gt (tgt := 98) hX dL_areVotes_74 (by decide) rfl (fun zc74 => absurd zc74 (by omega)) (fun zc74 => ?_)
    refine g_iload_n (i := 3) hX dL_areVotes_77 rfl rfl rfl ?_
    refine g_if_lt (tgt := 98) hX dL_areVotes_78 (by decide) rfl (fun zc78 => absurd zc78 (nI_pos (by omega))) (fun zc78 => ?_)
    refine g_iload hX dL_areVotes_81 rfl rfl ?_
    refine g_if_lt (tgt := 98) hX dL_areVotes_83 (by decide) rfl (fun zc83 => absurd zc83 (nI_pos (by omega))) (fun zc83 => ?_)
    refine g_aload_n (i := 0) hX dL_areVotes_86 rfl rfl rfl ?_
    refine g_iconst hX dL_areVotes_87 ic_4 rfl ?_
    refine g_callVi hX (q_tal hWN hzN hb0N 4 rfl E4) kf_X7_tally rfl wk_L_19 rfl rfl rfl rfl rfl dL_areVotes_88 rfl (fun x88 M88 h88 => ?_)
    obtain ⟨rfl, hMq⟩ := h88; have hMq := hMq.symm; subst hMq
    refine g_if_lt (tgt := 98) hX dL_areVotes_91 (by decide) rfl (fun zc91 => absurd zc91 (nI_pos (by omega))) (fun zc91 => ?_)
    refine g_iconst hX dL_areVotes_94 ic_1 rfl ?_
    refine g_goto (n := 99) hX dL_areVotes_95 (by decide) ?_
    exact K99
end

