/-! areMembers -/
theorem sumN_zero {n : Nat} {f : Nat → Nat} (h : ∀ k, k < n → f k = 0) : sumN n f = 0 := by
  induction n with
  | zero => rfl
  | succ n ih => rw [sumN, ih (fun k hk => h k (by omega)), h n (by omega)]
theorem sumN_one {n a : Nat} (h : a < n) : sumN n (fun m => if m = a then 1 else 0) = 1 := by
  induction n with
  | zero => omega
  | succ n ih =>
    by_cases e : n = a
    · subst e
      rw [sumN, sumN_zero (fun k hk => if_neg (by omega)), if_pos rfl]
    · rw [sumN, ih (by omega), if_neg e]
theorem sum_com {M : gM} {nm : Nat} {mb : Nat → Nat} (hm : nm ≤ 10) : ∀ nk : Nat, (∀ c, c < nk → mb c < nm ∧ M 17 c = nI (mb c)) → sumN nm (fun m => cntTo nk (fun c => decide (M 17 c = nI m))) = nk := by
  intro nk
  induction nk with
  | zero => exact fun _ => sumN_zero (fun _ _ => rfl)
  | succ n ih =>
    intro h
    obtain ⟨h1, h2⟩ := h n (by omega)
    have e : sumN nm (fun m => cntTo (n + 1) (fun c => decide (M 17 c = nI m))) = sumN nm (fun m => cntTo n (fun c => decide (M 17 c = nI m)) + (if m = mb n then 1 else 0)) := sumN_congr (fun m hm2 => by
      simp only [cntTo]
      congr 1
      have hd : decide (M 17 n = nI m) = decide (m = mb n) := by
        rw [h2]
        exact decide_eq_decide.mpr ⟨fun z => ((nI_eq (by omega) (by omega)).mp z).symm, fun z => by rw [z]⟩
      simp only [hd, decide_eq_true_eq])
    rw [e, sumN_add, ih (fun c hc => h c (by omega)), sumN_one h1]
section
variable {E : gE} {M : gM} {nm nc nk ne nb td ol hs : Nat} {op br : Bool} {mb pl ch : Nat → Nat}
set_option maxHeartbeats 2000000 in
theorem c_L_areMembers (h : J M nm nc nk ne nb td op br mb pl) (hH : WH M ol hs) : gMet E k_L_areMembers [.ref 0] M (gInt fun r M' => r = nI 1 ∧ M' = M) := by
  refine gMet.of (by decide +kernel) rfl (Nat.le_of_ble_eq_true rfl) (fun X hX hR => ?_)
  have hW := h.ws
  have hm := hW.1.2
  have hk := hW.2.2.1.2
  have htd := h.ht.2
  have hcom := sum_com (M := M) (mb := mb) hm nk (fun c hc => ⟨(hW.2.2.2.2.2 c hc).1, (hW.2.2.2.2.2 c hc).2.1⟩)
  obtain ⟨cn, hcn⟩ : ∃ cn : Nat → Nat, cn = fun m => cntTo nk (fun c => decide (M 17 c = nI m)) := ⟨_, rfl⟩
  rw [← hcn] at hcom
  obtain ⟨on, hon⟩ : ∃ on : Nat, on = if op then 1 else 0 := ⟨_, rfl⟩
  have hop : gB op = nI on := by rw [hon]; cases op <;> rfl
  have hnb : nb ≤ 10060 := by
    cases ho : op with
    | false => have := h.hn ho; omega
    | true => obtain ⟨-, -, -, en, -, -, h3, h4⟩ := h.ho ho; omega
  obtain ⟨aw, haw⟩ : ∃ aw : Nat → Int32, aw = actW (M 3) (M 4) (M 25) := ⟨_, rfl⟩
  have L : ∀ k, k ≤ nm → ∀ x : Option Value, gG X E M 9 [some (.ref 0), some (.int (aw k)), some (.int (nI (sumN k cn))), some (.int (nI 1)), some (.int (nI k)), x] [] (gQ X E (gInt fun r M' => r = nI 1 ∧ M' = M)) := by
    refine up_loop nm _ (fun x => ?_) (fun k hkn ih x => ?_)
    · skip
      refine g_iload hX dL_areMembers_9 rfl rfl ?_
      refine g_aload_n (i := 0) hX dL_areMembers_11 rfl rfl rfl ?_
      refine g_iconst hX dL_areMembers_12 ic_0 rfl ?_
      refine g_callVi hX (q_cnt hW hH 0 (v := nI nm) rfl rfl) kf_X7_count rfl wk_L_13 rfl rfl rfl rfl rfl dL_areMembers_13 rfl (fun x13 M13 h13 => ?_)
      obtain ⟨rfl, hMq⟩ := h13; have hMq := hMq.symm; subst hMq
      first | refine g_icmp_geN (tgt := 183) hX dL_areMembers_16 (by decide) rfl (by omega) (by omega) (fun zc16 => ?_) (fun zc16 => absurd zc16 (by omega)) | refine g_icmp_ge (tgt := 183) hX dL_areMembers_16 (by decide) rfl (fun zc16 => ?_) (fun zc16 => absurd zc16 (by omega))
      refine g_iload_n (i := 3) hX dL_areMembers_183 rfl rfl rfl ?_
      refine g_if_eq (tgt := 211) hX dL_areMembers_184 (by decide) rfl (fun zc184 => absurd zc184 (by decide)) (fun zc184 => ?_)
      refine g_aload_n (i := 0) hX dL_areMembers_187 rfl rfl rfl ?_
      refine g_bipush hX dL_areMembers_188 bc_8 rfl ?_
      refine g_callVi hX (q_cnt hW hH 8 (v := aw nm) rfl (by rw [haw]; rfl)) kf_X7_count rfl wk_L_13 rfl rfl rfl rfl rfl dL_areMembers_190 rfl (fun x190 M190 h190 => ?_)
      obtain ⟨rfl, hMq⟩ := h190; have hMq := hMq.symm; subst hMq
      refine g_iload_n (i := 1) hX dL_areMembers_193 rfl rfl rfl ?_
      refine g_icmp_ne (tgt := 211) hX dL_areMembers_194 (by decide) rfl (fun zc194 => absurd rfl zc194) (fun zc194 => ?_)
      refine g_aload_n (i := 0) hX dL_areMembers_197 rfl rfl rfl ?_
      refine g_bipush hX dL_areMembers_198 bc_6 rfl ?_
      refine g_callVi hX (q_cnt hW hH 6 (v := nI (sumN nm cn)) rfl (by rw [hcom]; rfl)) kf_X7_count rfl wk_L_13 rfl rfl rfl rfl rfl dL_areMembers_200 rfl (fun x200 M200 h200 => ?_)
      obtain ⟨rfl, hMq⟩ := h200; have hMq := hMq.symm; subst hMq
      refine g_iload_n (i := 2) hX dL_areMembers_203 rfl rfl rfl ?_
      refine g_icmp_ne (tgt := 211) hX dL_areMembers_204 (by decide) rfl (fun zc204 => absurd rfl zc204) (fun zc204 => ?_)
      refine g_iconst hX dL_areMembers_207 ic_1 rfl ?_
      refine g_goto (n := 212) hX dL_areMembers_208 (by decide) ?_
      refine g_zret hX hR (by first | exact Or.inl rfl | exact Or.inr rfl | exact gB_01 _) dL_areMembers_212 ?_
      exact ⟨rfl, rfl⟩
    · obtain ⟨w, hw, w1, w9⟩ := h.wt k hkn
      obtain ⟨v, hv, hvb⟩ := h.bv k hkn
      rw [← hon] at hvb
      have K150 : ∀ x : Option Value, gG X E M 150 [some (.ref 0), some (.int (aw (k + 1))), some (.int (nI (sumN k cn + cn k))), some (.int (nI 1)), some (.int (nI k)), x] [] (gQ X E (gInt fun r M' => r = nI 1 ∧ M' = M)) := by
        intro x
        refine g_aload_n (i := 0) hX dL_areMembers_150 rfl rfl rfl ?_
        refine g_iload hX dL_areMembers_151 rfl rfl ?_
        refine g_iconst hX dL_areMembers_153 ic_5 rfl ?_
        refine g_callVi hX (q_mem hW hkn 5 (v := nI v) rfl hv) kf_X7_member rfl wk_L_22 rfl rfl rfl rfl rfl dL_areMembers_154 rfl (fun x154 M154 h154 => ?_)
        obtain ⟨rfl, hMq⟩ := h154; have hMq := hMq.symm; subst hMq
        refine g_aload_n (i := 0) hX dL_areMembers_157 rfl rfl rfl ?_
        refine g_iconst hX dL_areMembers_158 ic_5 rfl ?_
        refine g_callVi hX (q_cnt hW hH 5 (v := nI nb) rfl h.hb) kf_X7_count rfl wk_L_13 rfl rfl rfl rfl rfl dL_areMembers_159 rfl (fun x159 M159 h159 => ?_)
        obtain ⟨rfl, hMq⟩ := h159; have hMq := hMq.symm; subst hMq
        refine g_aload_n (i := 0) hX dL_areMembers_162 rfl rfl rfl ?_
        refine g_iconst hX dL_areMembers_163 ic_4 rfl ?_
        refine g_callVi hX (q_cnt hW hH 4 (v := nI on) rfl hop) kf_X7_count rfl wk_L_13 rfl rfl rfl rfl rfl dL_areMembers_164 rfl (fun x164 M164 h164 => ?_)
        obtain ⟨rfl, hMq⟩ := h164; have hMq := hMq.symm; subst hMq
        refine g_isubN hX dL_areMembers_167 (by omega) rfl ?_
        first | refine g_icmp_gtN (tgt := 175) hX dL_areMembers_168 (by decide) rfl (by omega) (by omega) (fun zc168 => absurd zc168 (by omega)) (fun zc168 => ?_) | refine g_icmp_gt (tgt := 175) hX dL_areMembers_168 (by decide) rfl (fun zc168 => absurd zc168 (by omega)) (fun zc168 => ?_)
        refine g_iconst hX dL_areMembers_171 ic_1 rfl ?_
        refine g_goto (n := 176) hX dL_areMembers_172 (by decide) ?_
        refine g_istore_n (i := 3) hX dL_areMembers_176 rfl (Nat.le_of_ble_eq_true rfl) rfl ?_
        first | refine g_iincN hX dL_areMembers_177 ic_1 rfl (Nat.le_of_ble_eq_true rfl) rfl ?_ | refine g_iinc hX dL_areMembers_177 ic_1 rfl rfl (Nat.le_of_ble_eq_true rfl) rfl ?_
        refine g_goto (n := 9) hX dL_areMembers_180 (by decide) ?_
        exact ih _
      have K117 : ∀ x : Option Value, gG X E M 117 [some (.ref 0), some (.int (aw (k + 1))), some (.int (nI (sumN k cn + cn k))), some (.int (nI 1)), some (.int (nI k)), x] [] (gQ X E (gInt fun r M' => r = nI 1 ∧ M' = M)) := by
        intro x
        rcases h.gv k hkn with hg | ⟨g, hg, g2⟩
        · skip
          refine g_aload_n (i := 0) hX dL_areMembers_117 rfl rfl rfl ?_
          refine g_iload hX dL_areMembers_118 rfl rfl ?_
          refine g_iconst hX dL_areMembers_120 ic_3 rfl ?_
          refine g_callVi hX (q_mem hW hkn 3 (v := -4) rfl (if_pos hg)) kf_X7_member rfl wk_L_22 rfl rfl rfl rfl rfl dL_areMembers_121 rfl (fun x121 M121 h121 => ?_)
          obtain ⟨rfl, hMq⟩ := h121; have hMq := hMq.symm; subst hMq
          refine g_bipush hX dL_areMembers_124 bc_m4 rfl ?_
          refine g_icmp_eq (tgt := 150) hX dL_areMembers_126 (by decide) rfl (fun zc126 => ?_) (fun zc126 => absurd rfl zc126)
          exact K150 _
        · have hg3 : memF M nk k 3 = nI g := by
            show (if M 5 k = -1 then -4 else M 5 k) = nI g
            rw [hg, if_neg (nI_ne_m1 (by omega))]
          refine g_aload_n (i := 0) hX dL_areMembers_117 rfl rfl rfl ?_
          refine g_iload hX dL_areMembers_118 rfl rfl ?_
          refine g_iconst hX dL_areMembers_120 ic_3 rfl ?_
          refine g_callVi hX (q_mem hW hkn 3 (v := nI g) rfl hg3) kf_X7_member rfl wk_L_22 rfl rfl rfl rfl rfl dL_areMembers_121 rfl (fun x121 M121 h121 => ?_)
          obtain ⟨rfl, hMq⟩ := h121; have hMq := hMq.symm; subst hMq
          refine g_bipush hX dL_areMembers_124 bc_m4 rfl ?_
          refine g_icmp_eq (tgt := 150) hX dL_areMembers_126 (by decide) rfl (fun zc126 => absurd zc126 (fun q => nI_pos (n := g) (by omega) (by rw [q]; decide))) (fun zc126 => ?_)
          refine g_aload_n (i := 0) hX dL_areMembers_129 rfl rfl rfl ?_
          refine g_iload hX dL_areMembers_130 rfl rfl ?_
          refine g_iconst hX dL_areMembers_132 ic_3 rfl ?_
          refine g_callVi hX (q_mem hW hkn 3 (v := nI g) rfl hg3) kf_X7_member rfl wk_L_22 rfl rfl rfl rfl rfl dL_areMembers_133 rfl (fun x133 M133 h133 => ?_)
          obtain ⟨rfl, hMq⟩ := h133; have hMq := hMq.symm; subst hMq
          refine g_if_lt (tgt := 175) hX dL_areMembers_136 (by decide) rfl (fun zc136 => absurd zc136 (nI_pos (by omega))) (fun zc136 => ?_)
          refine g_aload_n (i := 0) hX dL_areMembers_139 rfl rfl rfl ?_
          refine g_iload hX dL_areMembers_140 rfl rfl ?_
          refine g_iconst hX dL_areMembers_142 ic_3 rfl ?_
          refine g_callVi hX (q_mem hW hkn 3 (v := nI g) rfl hg3) kf_X7_member rfl wk_L_22 rfl rfl rfl rfl rfl dL_areMembers_143 rfl (fun x143 M143 h143 => ?_)
          obtain ⟨rfl, hMq⟩ := h143; have hMq := hMq.symm; subst hMq
          refine g_iconst hX dL_areMembers_146 ic_3 rfl ?_
          first | refine g_icmp_geN (tgt := 175) hX dL_areMembers_147 (by decide) rfl (by omega) (by omega) (fun zc147 => absurd zc147 (by omega)) (fun zc147 => ?_) | refine g_icmp_ge (tgt := 175) hX dL_areMembers_147 (by decide) rfl (fun zc147 => absurd zc147 (by omega)) (fun zc147 => ?_)
          exact K150 _
      cases hl : lapB (M 4) (M 25) k with
      | true =>
        have hl2 : ¬ M 4 k < M 25 4 := of_decide_eq_true hl
        have e63 : aw (k + 1) = aw k + nI 0 := by
          rw [haw]
          show actW (M 3) (M 4) (M 25) k + (if lapB (M 4) (M 25) k then 0 else M 3 k) = _
          rw [hl]; rfl
        rw [e63] at K117
        refine g_iload hX dL_areMembers_9 rfl rfl ?_
        refine g_aload_n (i := 0) hX dL_areMembers_11 rfl rfl rfl ?_
        refine g_iconst hX dL_areMembers_12 ic_0 rfl ?_
        refine g_callVi hX (q_cnt hW hH 0 (v := nI nm) rfl rfl) kf_X7_count rfl wk_L_13 rfl rfl rfl rfl rfl dL_areMembers_13 rfl (fun x13 M13 h13 => ?_)
        obtain ⟨rfl, hMq⟩ := h13; have hMq := hMq.symm; subst hMq
        first | refine g_icmp_geN (tgt := 183) hX dL_areMembers_16 (by decide) rfl (by omega) (by omega) (fun zc16 => absurd zc16 (by omega)) (fun zc16 => ?_) | refine g_icmp_ge (tgt := 183) hX dL_areMembers_16 (by decide) rfl (fun zc16 => absurd zc16 (by omega)) (fun zc16 => ?_)
        refine g_iload_n (i := 3) hX dL_areMembers_19 rfl rfl rfl ?_
        refine g_if_eq (tgt := 183) hX dL_areMembers_20 (by decide) rfl (fun zc20 => absurd zc20 (by decide)) (fun zc20 => ?_)
        refine g_aload_n (i := 0) hX dL_areMembers_23 rfl rfl rfl ?_
        refine g_iload hX dL_areMembers_24 rfl rfl ?_
        refine g_iconst hX dL_areMembers_26 ic_1 rfl ?_
        refine g_callVi hX (q_mem hW hkn 1 (v := M 4 k) rfl rfl) kf_X7_member rfl wk_L_22 rfl rfl rfl rfl rfl dL_areMembers_27 rfl (fun x27 M27 h27 => ?_)
        obtain ⟨rfl, hMq⟩ := h27; have hMq := hMq.symm; subst hMq
        refine g_aload_n (i := 0) hX dL_areMembers_30 rfl rfl rfl ?_
        refine g_bipush hX dL_areMembers_31 bc_24 rfl ?_
        refine g_callVi hX (q_cnt hW hH 24 (v := M 25 4) rfl rfl) kf_X7_count rfl wk_L_13 rfl rfl rfl rfl rfl dL_areMembers_33 rfl (fun x33 M33 h33 => ?_)
        obtain ⟨rfl, hMq⟩ := h33; have hMq := hMq.symm; subst hMq
        refine g_icmp_lt (tgt := 43) hX dL_areMembers_36 (by decide) rfl (fun zc36 => absurd zc36 hl2) (fun zc36 => ?_)
        refine g_iconst hX dL_areMembers_39 ic_1 rfl ?_
        refine g_goto (n := 44) hX dL_areMembers_40 (by decide) ?_
        refine g_istore hX dL_areMembers_44 (Nat.le_of_ble_eq_true rfl) rfl ?_
        refine g_iload_n (i := 1) hX dL_areMembers_46 rfl rfl rfl ?_
        refine g_iload hX dL_areMembers_47 rfl rfl ?_
        refine g_if_eq (tgt := 56) hX dL_areMembers_49 (by decide) rfl (fun zc49 => absurd zc49 (by decide)) (fun zc49 => ?_)
        refine g_iconst hX dL_areMembers_52 ic_0 rfl ?_
        refine g_goto (n := 63) hX dL_areMembers_53 (by decide) ?_
        first | refine g_iaddN hX dL_areMembers_63 rfl ?_ | refine g_iadd hX dL_areMembers_63 rfl ?_
        refine g_istore_n (i := 1) hX dL_areMembers_64 rfl (Nat.le_of_ble_eq_true rfl) rfl ?_
        refine g_iload_n (i := 2) hX dL_areMembers_65 rfl rfl rfl ?_
        refine g_aload_n (i := 0) hX dL_areMembers_66 rfl rfl rfl ?_
        refine g_iload hX dL_areMembers_67 rfl rfl ?_
        refine g_iconst hX dL_areMembers_69 ic_4 rfl ?_
        refine g_callVi hX (q_mem hW hkn 4 (v := nI (cn k)) rfl (by rw [hcn]; rfl)) kf_X7_member rfl wk_L_22 rfl rfl rfl rfl rfl dL_areMembers_70 rfl (fun x70 M70 h70 => ?_)
        obtain ⟨rfl, hMq⟩ := h70; have hMq := hMq.symm; subst hMq
        first | refine g_iaddN hX dL_areMembers_73 rfl ?_ | refine g_iadd hX dL_areMembers_73 rfl ?_
        refine g_istore_n (i := 2) hX dL_areMembers_74 rfl (Nat.le_of_ble_eq_true rfl) rfl ?_
        refine g_aload_n (i := 0) hX dL_areMembers_75 rfl rfl rfl ?_
        refine g_iload hX dL_areMembers_76 rfl rfl ?_
        refine g_iconst hX dL_areMembers_78 ic_0 rfl ?_
        refine g_callVi hX (q_mem hW hkn 0 (v := nI w) rfl hw) kf_X7_member rfl wk_L_22 rfl rfl rfl rfl rfl dL_areMembers_79 rfl (fun x79 M79 h79 => ?_)
        obtain ⟨rfl, hMq⟩ := h79; have hMq := hMq.symm; subst hMq
        refine g_if_le (tgt := 175) hX dL_areMembers_82 (by decide) rfl (fun zc82 => absurd zc82 (nI_nle (by omega) (by omega))) (fun zc82 => ?_)
        refine g_aload_n (i := 0) hX dL_areMembers_85 rfl rfl rfl ?_
        refine g_iload hX dL_areMembers_86 rfl rfl ?_
        refine g_iconst hX dL_areMembers_88 ic_0 rfl ?_
        refine g_callVi hX (q_mem hW hkn 0 (v := nI w) rfl hw) kf_X7_member rfl wk_L_22 rfl rfl rfl rfl rfl dL_areMembers_89 rfl (fun x89 M89 h89 => ?_)
        obtain ⟨rfl, hMq⟩ := h89; have hMq := hMq.symm; subst hMq
        refine g_bipush hX dL_areMembers_92 bc_10 rfl ?_
        first | refine g_icmp_geN (tgt := 175) hX dL_areMembers_94 (by decide) rfl (by omega) (by omega) (fun zc94 => absurd zc94 (by omega)) (fun zc94 => ?_) | refine g_icmp_ge (tgt := 175) hX dL_areMembers_94 (by decide) rfl (fun zc94 => absurd zc94 (by omega)) (fun zc94 => ?_)
        refine g_aload_n (i := 0) hX dL_areMembers_97 rfl rfl rfl ?_
        refine g_iload hX dL_areMembers_98 rfl rfl ?_
        refine g_iconst hX dL_areMembers_100 ic_2 rfl ?_
        refine g_callVi hX (q_mem hW hkn 2 (v := nI 1) rfl (by show gB (lapB (M 4) (M 25) k) = _; rw [hl]; rfl)) kf_X7_member rfl wk_L_22 rfl rfl rfl rfl rfl dL_areMembers_101 rfl (fun x101 M101 h101 => ?_)
        obtain ⟨rfl, hMq⟩ := h101; have hMq := hMq.symm; subst hMq
        refine g_iload hX dL_areMembers_104 rfl rfl ?_
        refine g_if_eq (tgt := 113) hX dL_areMembers_106 (by decide) rfl (fun zc106 => absurd zc106 (by decide)) (fun zc106 => ?_)
        refine g_iconst hX dL_areMembers_109 ic_1 rfl ?_
        refine g_goto (n := 114) hX dL_areMembers_110 (by decide) ?_
        refine g_icmp_ne (tgt := 175) hX dL_areMembers_114 (by decide) rfl (fun zc114 => absurd rfl zc114) (fun zc114 => ?_)
        exact K117 _
      | false =>
        have hl2 : M 4 k < M 25 4 := by
          have := of_decide_eq_false hl
          exact Decidable.of_not_not this
        have e63 : aw (k + 1) = aw k + nI w := by
          rw [haw]
          show actW (M 3) (M 4) (M 25) k + (if lapB (M 4) (M 25) k then 0 else M 3 k) = _
          rw [hl, ← hw]; rfl
        rw [e63] at K117
        refine g_iload hX dL_areMembers_9 rfl rfl ?_
        refine g_aload_n (i := 0) hX dL_areMembers_11 rfl rfl rfl ?_
        refine g_iconst hX dL_areMembers_12 ic_0 rfl ?_
        refine g_callVi hX (q_cnt hW hH 0 (v := nI nm) rfl rfl) kf_X7_count rfl wk_L_13 rfl rfl rfl rfl rfl dL_areMembers_13 rfl (fun x13 M13 h13 => ?_)
        obtain ⟨rfl, hMq⟩ := h13; have hMq := hMq.symm; subst hMq
        first | refine g_icmp_geN (tgt := 183) hX dL_areMembers_16 (by decide) rfl (by omega) (by omega) (fun zc16 => absurd zc16 (by omega)) (fun zc16 => ?_) | refine g_icmp_ge (tgt := 183) hX dL_areMembers_16 (by decide) rfl (fun zc16 => absurd zc16 (by omega)) (fun zc16 => ?_)
        refine g_iload_n (i := 3) hX dL_areMembers_19 rfl rfl rfl ?_
        refine g_if_eq (tgt := 183) hX dL_areMembers_20 (by decide) rfl (fun zc20 => absurd zc20 (by decide)) (fun zc20 => ?_)
        refine g_aload_n (i := 0) hX dL_areMembers_23 rfl rfl rfl ?_
        refine g_iload hX dL_areMembers_24 rfl rfl ?_
        refine g_iconst hX dL_areMembers_26 ic_1 rfl ?_
        refine g_callVi hX (q_mem hW hkn 1 (v := M 4 k) rfl rfl) kf_X7_member rfl wk_L_22 rfl rfl rfl rfl rfl dL_areMembers_27 rfl (fun x27 M27 h27 => ?_)
        obtain ⟨rfl, hMq⟩ := h27; have hMq := hMq.symm; subst hMq
        refine g_aload_n (i := 0) hX dL_areMembers_30 rfl rfl rfl ?_
        refine g_bipush hX dL_areMembers_31 bc_24 rfl ?_
        refine g_callVi hX (q_cnt hW hH 24 (v := M 25 4) rfl rfl) kf_X7_count rfl wk_L_13 rfl rfl rfl rfl rfl dL_areMembers_33 rfl (fun x33 M33 h33 => ?_)
        obtain ⟨rfl, hMq⟩ := h33; have hMq := hMq.symm; subst hMq
        refine g_icmp_lt (tgt := 43) hX dL_areMembers_36 (by decide) rfl (fun zc36 => ?_) (fun zc36 => absurd hl2 zc36)
        refine g_iconst hX dL_areMembers_43 ic_0 rfl ?_
        refine g_istore hX dL_areMembers_44 (Nat.le_of_ble_eq_true rfl) rfl ?_
        refine g_iload_n (i := 1) hX dL_areMembers_46 rfl rfl rfl ?_
        refine g_iload hX dL_areMembers_47 rfl rfl ?_
        refine g_if_eq (tgt := 56) hX dL_areMembers_49 (by decide) rfl (fun zc49 => ?_) (fun zc49 => absurd rfl zc49)
        refine g_aload_n (i := 0) hX dL_areMembers_56 rfl rfl rfl ?_
        refine g_iload hX dL_areMembers_57 rfl rfl ?_
        refine g_iconst hX dL_areMembers_59 ic_0 rfl ?_
        refine g_callVi hX (q_mem hW hkn 0 (v := nI w) rfl hw) kf_X7_member rfl wk_L_22 rfl rfl rfl rfl rfl dL_areMembers_60 rfl (fun x60 M60 h60 => ?_)
        obtain ⟨rfl, hMq⟩ := h60; have hMq := hMq.symm; subst hMq
        first | refine g_iaddN hX dL_areMembers_63 rfl ?_ | refine g_iadd hX dL_areMembers_63 rfl ?_
        refine g_istore_n (i := 1) hX dL_areMembers_64 rfl (Nat.le_of_ble_eq_true rfl) rfl ?_
        refine g_iload_n (i := 2) hX dL_areMembers_65 rfl rfl rfl ?_
        refine g_aload_n (i := 0) hX dL_areMembers_66 rfl rfl rfl ?_
        refine g_iload hX dL_areMembers_67 rfl rfl ?_
        refine g_iconst hX dL_areMembers_69 ic_4 rfl ?_
        refine g_callVi hX (q_mem hW hkn 4 (v := nI (cn k)) rfl (by rw [hcn]; rfl)) kf_X7_member rfl wk_L_22 rfl rfl rfl rfl rfl dL_areMembers_70 rfl (fun x70 M70 h70 => ?_)
        obtain ⟨rfl, hMq⟩ := h70; have hMq := hMq.symm; subst hMq
        first | refine g_iaddN hX dL_areMembers_73 rfl ?_ | refine g_iadd hX dL_areMembers_73 rfl ?_
        refine g_istore_n (i := 2) hX dL_areMembers_74 rfl (Nat.le_of_ble_eq_true rfl) rfl ?_
        refine g_aload_n (i := 0) hX dL_areMembers_75 rfl rfl rfl ?_
        refine g_iload hX dL_areMembers_76 rfl rfl ?_
        refine g_iconst hX dL_areMembers_78 ic_0 rfl ?_
        refine g_callVi hX (q_mem hW hkn 0 (v := nI w) rfl hw) kf_X7_member rfl wk_L_22 rfl rfl rfl rfl rfl dL_areMembers_79 rfl (fun x79 M79 h79 => ?_)
        obtain ⟨rfl, hMq⟩ := h79; have hMq := hMq.symm; subst hMq
        refine g_if_le (tgt := 175) hX dL_areMembers_82 (by decide) rfl (fun zc82 => absurd zc82 (nI_nle (by omega) (by omega))) (fun zc82 => ?_)
        refine g_aload_n (i := 0) hX dL_areMembers_85 rfl rfl rfl ?_
        refine g_iload hX dL_areMembers_86 rfl rfl ?_
        refine g_iconst hX dL_areMembers_88 ic_0 rfl ?_
        refine g_callVi hX (q_mem hW hkn 0 (v := nI w) rfl hw) kf_X7_member rfl wk_L_22 rfl rfl rfl rfl rfl dL_areMembers_89 rfl (fun x89 M89 h89 => ?_)
        obtain ⟨rfl, hMq⟩ := h89; have hMq := hMq.symm; subst hMq
        refine g_bipush hX dL_areMembers_92 bc_10 rfl ?_
        first | refine g_icmp_geN (tgt := 175) hX dL_areMembers_94 (by decide) rfl (by omega) (by omega) (fun zc94 => absurd zc94 (by omega)) (fun zc94 => ?_) | refine g_icmp_ge (tgt := 175) hX dL_areMembers_94 (by decide) rfl (fun zc94 => absurd zc94 (by omega)) (fun zc94 => ?_)
        refine g_aload_n (i := 0) hX dL_areMembers_97 rfl rfl rfl ?_
        refine g_iload hX dL_areMembers_98 rfl rfl ?_
        refine g_iconst hX dL_areMembers_100 ic_2 rfl ?_
        refine g_callVi hX (q_mem hW hkn 2 (v := nI 0) rfl (by show gB (lapB (M 4) (M 25) k) = _; rw [hl]; rfl)) kf_X7_member rfl wk_L_22 rfl rfl rfl rfl rfl dL_areMembers_101 rfl (fun x101 M101 h101 => ?_)
        obtain ⟨rfl, hMq⟩ := h101; have hMq := hMq.symm; subst hMq
        refine g_iload hX dL_areMembers_104 rfl rfl ?_
        refine g_if_eq (tgt := 113) hX dL_areMembers_106 (by decide) rfl (fun zc106 => ?_) (fun zc106 => absurd rfl zc106)
        refine g_iconst hX dL_areMembers_113 ic_0 rfl ?_
        refine g_icmp_ne (tgt := 175) hX dL_areMembers_114 (by decide) rfl (fun zc114 => absurd rfl zc114) (fun zc114 => ?_)
        exact K117 _
  refine g_iconst hX dL_areMembers_0 ic_0 rfl ?_
  refine g_istore_n (i := 1) hX dL_areMembers_1 rfl (Nat.le_of_ble_eq_true rfl) rfl ?_
  refine g_iconst hX dL_areMembers_2 ic_0 rfl ?_
  refine g_istore_n (i := 2) hX dL_areMembers_3 rfl (Nat.le_of_ble_eq_true rfl) rfl ?_
  refine g_iconst hX dL_areMembers_4 ic_1 rfl ?_
  refine g_istore_n (i := 3) hX dL_areMembers_5 rfl (Nat.le_of_ble_eq_true rfl) rfl ?_
  refine g_iconst hX dL_areMembers_6 ic_0 rfl ?_
  refine g_istore hX dL_areMembers_7 (Nat.le_of_ble_eq_true rfl) rfl ?_
  exact gGM rfl (by have := L 0 (Nat.zero_le _) none; rw [haw] at this; exact this)
end

