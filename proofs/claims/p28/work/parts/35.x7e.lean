/-! CommitteeBallots: resolutions, appeals -/
section
variable {M : gM} {nm nc nk ne ol hs : Nat} {op br : Bool} {mb pl : Nat → Nat}
def wantI (M : gM) (c : Nat) (d v : Int32) : Int32 := if d = 0 then M 20 c else v
def getB (M : gM) (p : Nat) (v : Int32) : Bool := decide (M 9 p = M 10 p) || decide (M 9 p = v)
def m_res (M : gM) (mb pl : Nat → Nat) (nc ne nk ol hs c : Nat) (d v : Int32) : gM := m_settle (m_keep M ol hs) c (pl c) nc ne nk d (wantI M c d v)
def x_resolve (M : gM) (mb pl : Nat → Nat) (nc ne nk ol hs : Nat) (d v : Int32) : Int32 × gM := if inI d (nI 0) (nI 2) = true ∧ inI v (nI 0) (nI 9999) = true ∧ (d = 1 ∨ v = 0) then (match bstX M mb nk with
  | none => (-2, M)
  | some c => if d = 2 ∨ getB M (pl c) (wantI M c d v) = true then (nI (cntTo nk (pendB (m_res M mb pl nc ne nk ol hs c d v 21))), m_res M mb pl nc ne nk ol hs c d v) else (-2, M)) else (-1, M)
theorem m_settle_16 (M : gM) (c p nc e nk : Nat) (d v : Int32) : m_settle M c p nc e nk d v 16 8 = M 16 8 := by
  have h : m_gave M c p d v 16 8 = M 16 8 := by simp only [m_gave]; split <;> rfl
  unfold m_settle
  split <;> exact h
theorem c_X7_resolve (E : gE) (d v : Int32) (hW : WS M nm nc nk ne op br mb pl) (hH : WH M ol hs) (hne : ∀ c, bstX M mb nk = some c → ne < 12) : gMet E k_X7_resolve [.ref 0, .int d, .int v] M (gInt fun r M' => (r, M') = x_resolve M mb pl nc ne nk ol hs d v) := by
  refine gMet.of (by decide +kernel) rfl (Nat.le_of_ble_eq_true rfl) (fun X hX hR => ?_)
  have hmbs := hW.mbs
  obtain ⟨⟨hm, hmb⟩, ⟨hc, hcb⟩, ⟨hk, hkb⟩, ⟨he, he1, he2⟩, ⟨hop, hbr⟩, hcm⟩ := id hW
  obtain ⟨hol, holb, hhs, hhsb⟩ := id hH
  have z1 : M 14 1 = 0 ∨ M 14 1 = 1 := hop ▸ gB_01 op
  have z2 : M 14 2 = 0 ∨ M 14 2 = 1 := hbr ▸ gB_01 br
  obtain ⟨-, ⟨hc', -⟩, ⟨hk', -⟩, ⟨he', -⟩, -, hcm'⟩ := hW.keep (ol := ol) (hs := hs)
  cases ho : inI d (nI 0) (nI 2) with
  | false =>
    have e : x_resolve M mb pl nc ne nk ol hs d v = (-1, M) := by rw [x_resolve, if_neg (fun q => Bool.noConfusion (q.1.symm.trans ho))]
    rw [e]
    by_cases h0 : d < 0
    · skip
      refine g_iload_n (i := 1) hX dX7_resolve_0 rfl rfl rfl ?_
      refine g_if_lt (tgt := 16) hX dX7_resolve_1 (by decide) rfl (fun zc1 => ?_) (fun zc1 => absurd h0 zc1)
      refine g_iconst hX dX7_resolve_16 ic_m1 rfl ?_
      refine g_iret hX hR dX7_resolve_17 ?_
      rfl
    · have h2 : nI 2 < d := by
        rcases Int32.lt_or_le (nI 2) d with q | q
        · exact q
        · rw [inI_1 (show ¬ d < nI 0 from h0) (Int32.not_lt.mpr q)] at ho; cases ho
      refine g_iload_n (i := 1) hX dX7_resolve_0 rfl rfl rfl ?_
      refine g_if_lt (tgt := 16) hX dX7_resolve_1 (by decide) rfl (fun zc1 => absurd zc1 (h0)) (fun zc1 => ?_)
      refine g_iload_n (i := 1) hX dX7_resolve_4 rfl rfl rfl ?_
      refine g_iconst hX dX7_resolve_5 ic_2 rfl ?_
      refine g_icmp_gt (tgt := 16) hX dX7_resolve_6 (by decide) rfl (fun zc6 => ?_) (fun zc6 => absurd h2 zc6)
      refine g_iconst hX dX7_resolve_16 ic_m1 rfl ?_
      refine g_iret hX hR dX7_resolve_17 ?_
      rfl
  | true =>
    obtain ⟨z, -, hz, rfl⟩ := inI_t (by decide) (by decide) ho
    cases hv : inI v (nI 0) (nI 9999) with
    | false =>
      have e : x_resolve M mb pl nc ne nk ol hs (nI z) v = (-1, M) := by rw [x_resolve, if_neg (fun q => Bool.noConfusion (q.2.1.symm.trans hv))]
      rw [e]
      refine g_iload_n (i := 1) hX dX7_resolve_0 rfl rfl rfl ?_
      refine g_if_lt (tgt := 16) hX dX7_resolve_1 (by decide) rfl (fun zc1 => absurd zc1 (nI_pos (by omega))) (fun zc1 => ?_)
      refine g_iload_n (i := 1) hX dX7_resolve_4 rfl rfl rfl ?_
      refine g_iconst hX dX7_resolve_5 ic_2 rfl ?_
      first | refine g_icmp_gtN (tgt := 16) hX dX7_resolve_6 (by decide) rfl (by omega) (by omega) (fun zc6 => absurd zc6 (by omega)) (fun zc6 => ?_) | refine g_icmp_gt (tgt := 16) hX dX7_resolve_6 (by decide) rfl (fun zc6 => absurd zc6 (by omega)) (fun zc6 => ?_)
      refine g_iload_n (i := 2) hX dX7_resolve_9 rfl rfl rfl ?_
      refine g_callSi hX (c_X7_isValue E M v) kf_X7_isValue rfl wk_X7_48 rfl rfl rfl rfl dX7_resolve_10 rfl (fun x10 M10 h10 => ?_)
      obtain ⟨rfl, hMq⟩ := h10; have hMq := hMq.symm; subst hMq
      first | refine g_if_neB (tgt := 18) hX dX7_resolve_13 (by decide) rfl (fun zc13 => Bool.noConfusion (hv.symm.trans zc13)) (fun zc13 => ?_) | refine g_if_ne (tgt := 18) hX dX7_resolve_13 (by decide) rfl (fun zc13 => Bool.noConfusion (hv.symm.trans zc13)) (fun zc13 => ?_)
      refine g_iconst hX dX7_resolve_16 ic_m1 rfl ?_
      refine g_iret hX hR dX7_resolve_17 ?_
      rfl
    | true =>
      by_cases hdv : nI z = 1 ∨ v = 0
      · have e : x_resolve M mb pl nc ne nk ol hs (nI z) v = match bstX M mb nk with
          | none => (-2, M)
          | some c => if nI z = 2 ∨ getB M (pl c) (wantI M c (nI z) v) = true then (nI (cntTo nk (pendB (m_res M mb pl nc ne nk ol hs c (nI z) v 21))), m_res M mb pl nc ne nk ol hs c (nI z) v) else (-2, M) := by rw [x_resolve, if_pos ⟨ho, hv, hdv⟩]
        rw [e]
        have tail : gG X E M 29 [some (.ref 0), some (.int (nI z)), some (.int v), none, none] [] (gQ X E (gInt fun r M' => (r, M') = match bstX M mb nk with
          | none => (-2, M)
          | some c => if nI z = 2 ∨ getB M (pl c) (wantI M c (nI z) v) = true then (nI (cntTo nk (pendB (m_res M mb pl nc ne nk ol hs c (nI z) v 21))), m_res M mb pl nc ne nk ol hs c (nI z) v) else (-2, M))) := by
          cases hf : bstX M mb nk with
          | none =>
            refine g_aload_n (i := 0) hX dX7_resolve_29 rfl rfl rfl ?_
            refine g_getR hX fl_X7_10 rfl rfl dX7_resolve_30 rfl ?_
            refine g_getR hX fl_X7_103 rfl rfl dX7_resolve_33 rfl ?_
            refine g_aload_n (i := 0) hX dX7_resolve_36 rfl rfl rfl ?_
            refine g_getR hX fl_X7_10 rfl rfl dX7_resolve_37 rfl ?_
            refine g_getR hX fl_X7_30 rfl rfl dX7_resolve_40 rfl ?_
            refine g_callVi hX (c_X1_firstPending E M nk mb hk hkb hmbs) kf_X1_firstPending rfl wk_X7_209 rfl rfl rfl rfl rfl dX7_resolve_43 rfl (fun x43 M43 h43 => ?_)
            obtain ⟨hx, hm0⟩ := h43; have hm0 := hm0.symm; subst hm0; rw [show bestTo nk (pendB (M 21)) (aheadX (M 19) (M 18) (M 3) mb) = none from hf] at hx; subst hx
            refine g_istore_n (i := 3) hX dX7_resolve_46 rfl (Nat.le_of_ble_eq_true rfl) rfl ?_
            refine g_iload_n (i := 3) hX dX7_resolve_47 rfl rfl rfl ?_
            refine g_iconst hX dX7_resolve_48 ic_m1 rfl ?_
            refine g_icmp_ne (tgt := 55) hX dX7_resolve_49 (by decide) rfl (fun zc49 => absurd rfl zc49) (fun zc49 => ?_)
            refine g_bipush hX dX7_resolve_52 bc_m2 rfl ?_
            refine g_iret hX hR dX7_resolve_54 ?_
            rfl
          | some c =>
            have hcl := (bestTo_lt hf).1
            have hne' := hne c hf
            obtain ⟨-, -, hplb, hpl⟩ := hcm c hcl
            obtain ⟨-, -, -, hpl'⟩ := hcm' c hcl
            dsimp only
            have fin : ∀ w, w = wantI M c (nI z) v → (nI z = 2 ∨ getB M (pl c) (wantI M c (nI z) v) = true) → gG X E M 112 [some (.ref 0), some (.int (nI z)), some (.int v), some (.int (nI c)), some (.int w)] [] (gQ X E (gInt fun r M' => (r, M') = if nI z = 2 ∨ getB M (pl c) (wantI M c (nI z) v) = true then (nI (cntTo nk (pendB (m_res M mb pl nc ne nk ol hs c (nI z) v 21))), m_res M mb pl nc ne nk ol hs c (nI z) v) else (-2, M))) := by
              intro w hw hok
              subst hw
              rw [if_pos hok]
              have hs16 : m_res M mb pl nc ne nk ol hs c (nI z) v 16 8 = nI nk := (m_settle_16 _ _ _ _ _ _ _ _).trans hk'
              refine g_aload_n (i := 0) hX dX7_resolve_112 rfl rfl rfl ?_
              refine g_getR hX fl_X7_19 rfl rfl dX7_resolve_113 rfl ?_
              refine g_aload_n (i := 0) hX dX7_resolve_116 rfl rfl rfl ?_
              refine g_getR hX fl_X7_10 rfl rfl dX7_resolve_117 rfl ?_
              refine g_callVv hX (c_X3_keep E M ol hs hol holb hhs hhsb z1 z2) kf_X3_keep rfl wk_X7_40 rfl rfl rfl rfl rfl dX7_resolve_120 rfl (fun M120 h120 => ?_)
              subst h120
              refine g_aload_n (i := 0) hX dX7_resolve_123 rfl rfl rfl ?_
              refine g_getR hX fl_X7_10 rfl rfl dX7_resolve_124 rfl ?_
              refine g_iload_n (i := 3) hX dX7_resolve_127 rfl rfl rfl ?_
              refine g_iload_n (i := 1) hX dX7_resolve_128 rfl rfl rfl ?_
              refine g_iload hX dX7_resolve_129 rfl rfl ?_
              refine g_callVv hX (c_X5_settle E _ c (pl c) nc ne nk (nI z) (wantI M c (nI z) v) hcl hpl' hplb hc' hcb he' he1 hne' hk' hkb) kf_X5_settle rfl wk_X7_217 rfl rfl rfl rfl rfl dX7_resolve_131 rfl (fun M131 h131 => ?_)
              subst h131
              refine g_aload_n (i := 0) hX dX7_resolve_134 rfl rfl rfl ?_
              refine g_getR hX fl_X7_10 rfl rfl dX7_resolve_135 rfl ?_
              refine g_getR hX fl_X7_103 rfl rfl dX7_resolve_138 rfl ?_
              refine g_callVi hX (c_X1_pending E (m_res M mb pl nc ne nk ol hs c (nI z) v) nk hs16 hkb) kf_X1_pending rfl wk_X7_141 rfl rfl rfl rfl rfl dX7_resolve_141 rfl (fun x141 M141 h141 => ?_)
              obtain ⟨rfl, hMq⟩ := h141; have hMq := hMq.symm; subst hMq
              refine g_iret hX hR dX7_resolve_144 ?_
              rfl
            have mid : ∀ w, w = wantI M c (nI z) v → gG X E M 77 [some (.ref 0), some (.int (nI z)), some (.int v), some (.int (nI c)), some (.int w)] [] (gQ X E (gInt fun r M' => (r, M') = if nI z = 2 ∨ getB M (pl c) (wantI M c (nI z) v) = true then (nI (cntTo nk (pendB (m_res M mb pl nc ne nk ol hs c (nI z) v 21))), m_res M mb pl nc ne nk ol hs c (nI z) v) else (-2, M))) := by
              intro w hw
              refine g_iload_n (i := 1) hX dX7_resolve_77 rfl rfl rfl ?_
              refine g_iconst hX dX7_resolve_78 ic_2 rfl ?_
              first | refine g_icmp_eqN (tgt := 112) hX dX7_resolve_79 (by decide) rfl (by omega) (by omega) (fun zc79 => ?_) (fun zc79 => ?_) | refine g_icmp_eq (tgt := 112) hX dX7_resolve_79 (by decide) rfl (fun zc79 => ?_) (fun zc79 => ?_)
              · skip
                first
                | exact fin w hw (Or.inl (congrArg nI zc79))
                | exact fin w hw (Or.inr zd106)
              · skip
                refine g_aload_n (i := 0) hX dX7_resolve_82 rfl rfl rfl ?_
                refine g_getR hX fl_X7_10 rfl rfl dX7_resolve_83 rfl ?_
                refine g_getR hX fl_X7_61 rfl rfl dX7_resolve_86 rfl ?_
                refine g_aload_n (i := 0) hX dX7_resolve_89 rfl rfl rfl ?_
                refine g_getR hX fl_X7_10 rfl rfl dX7_resolve_90 rfl ?_
                refine g_getR hX fl_X7_103 rfl rfl dX7_resolve_93 rfl ?_
                refine g_getR hX fl_X7_185 rfl rfl dX7_resolve_96 rfl ?_
                refine g_iload_n (i := 3) hX dX7_resolve_99 rfl rfl rfl ?_
                refine g_ialdv (x := nI (pl c)) hX rfl (rfl) (by omega) rfl (hpl) dX7_resolve_100 rfl ?_
                refine g_iload hX dX7_resolve_101 rfl rfl ?_
                refine g_callVi hX (c_X2_canGet E M (pl c) w (by omega)) kf_X2_canGet rfl wk_X7_213 rfl rfl rfl rfl rfl dX7_resolve_103 rfl (fun x103 M103 h103 => ?_)
                obtain ⟨rfl, hMq⟩ := h103; have hMq := hMq.symm; subst hMq
                first | refine g_if_neB (tgt := 112) hX dX7_resolve_106 (by decide) rfl (fun zc106 => ?_) (fun zc106 => ?_) | refine g_if_ne (tgt := 112) hX dX7_resolve_106 (by decide) rfl (fun zc106 => ?_) (fun zc106 => ?_)
                · skip
                  have zd106 : getB M (pl c) (wantI M c (nI z) v) = true := hw ▸ zc106
                  first
                  | exact fin w hw (Or.inl (congrArg nI zc79))
                  | exact fin w hw (Or.inr zd106)
                · skip
                  have zd106 : getB M (pl c) (wantI M c (nI z) v) = false := hw ▸ zc106
                  refine g_bipush hX dX7_resolve_109 bc_m2 rfl ?_
                  refine g_iret hX hR dX7_resolve_111 ?_
                  rw [if_neg (fun q => q.elim (fun q => zc79 ((nI_eq (by omega) (by decide)).mp (show nI z = nI 2 from q))) (fun q => Bool.noConfusion (q.symm.trans zd106)))]
            refine g_aload_n (i := 0) hX dX7_resolve_29 rfl rfl rfl ?_
            refine g_getR hX fl_X7_10 rfl rfl dX7_resolve_30 rfl ?_
            refine g_getR hX fl_X7_103 rfl rfl dX7_resolve_33 rfl ?_
            refine g_aload_n (i := 0) hX dX7_resolve_36 rfl rfl rfl ?_
            refine g_getR hX fl_X7_10 rfl rfl dX7_resolve_37 rfl ?_
            refine g_getR hX fl_X7_30 rfl rfl dX7_resolve_40 rfl ?_
            refine g_callVi hX (c_X1_firstPending E M nk mb hk hkb hmbs) kf_X1_firstPending rfl wk_X7_209 rfl rfl rfl rfl rfl dX7_resolve_43 rfl (fun x43 M43 h43 => ?_)
            obtain ⟨hx, hm0⟩ := h43; have hm0 := hm0.symm; subst hm0; rw [show bestTo nk (pendB (M 21)) (aheadX (M 19) (M 18) (M 3) mb) = some c from hf] at hx; subst hx
            refine g_istore_n (i := 3) hX dX7_resolve_46 rfl (Nat.le_of_ble_eq_true rfl) rfl ?_
            refine g_iload_n (i := 3) hX dX7_resolve_47 rfl rfl rfl ?_
            refine g_iconst hX dX7_resolve_48 ic_m1 rfl ?_
            refine g_icmp_ne (tgt := 55) hX dX7_resolve_49 (by decide) rfl (fun zc49 => ?_) (fun zc49 => absurd zc49 (nI_ne_m1 (by omega)))
            refine g_iload_n (i := 1) hX dX7_resolve_55 rfl rfl rfl ?_
            refine g_if_ne (tgt := 74) hX dX7_resolve_56 (by decide) rfl (fun zc56 => ?_) (fun zc56 => ?_)
            · skip
              refine g_iload_n (i := 2) hX dX7_resolve_74 rfl rfl rfl ?_
              refine g_istore hX dX7_resolve_75 (Nat.le_of_ble_eq_true rfl) rfl ?_
              first
              | exact mid _ (if_neg (show ¬ nI z = 0 from zc56)).symm
              | exact mid _ (if_pos (show nI z = 0 from zc56)).symm
            · skip
              refine g_aload_n (i := 0) hX dX7_resolve_59 rfl rfl rfl ?_
              refine g_getR hX fl_X7_10 rfl rfl dX7_resolve_60 rfl ?_
              refine g_getR hX fl_X7_103 rfl rfl dX7_resolve_63 rfl ?_
              refine g_getR hX fl_X7_191 rfl rfl dX7_resolve_66 rfl ?_
              refine g_iload_n (i := 3) hX dX7_resolve_69 rfl rfl rfl ?_
              refine g_iald hX rfl ((rfl : _ = nI c)) (by omega) rfl dX7_resolve_70 rfl ?_
              refine g_goto (n := 75) hX dX7_resolve_71 (by decide) ?_
              refine g_istore hX dX7_resolve_75 (Nat.le_of_ble_eq_true rfl) rfl ?_
              first
              | exact mid _ (if_neg (show ¬ nI z = 0 from zc56)).symm
              | exact mid _ (if_pos (show nI z = 0 from zc56)).symm
        refine g_iload_n (i := 1) hX dX7_resolve_0 rfl rfl rfl ?_
        refine g_if_lt (tgt := 16) hX dX7_resolve_1 (by decide) rfl (fun zc1 => absurd zc1 (nI_pos (by omega))) (fun zc1 => ?_)
        refine g_iload_n (i := 1) hX dX7_resolve_4 rfl rfl rfl ?_
        refine g_iconst hX dX7_resolve_5 ic_2 rfl ?_
        first | refine g_icmp_gtN (tgt := 16) hX dX7_resolve_6 (by decide) rfl (by omega) (by omega) (fun zc6 => absurd zc6 (by omega)) (fun zc6 => ?_) | refine g_icmp_gt (tgt := 16) hX dX7_resolve_6 (by decide) rfl (fun zc6 => absurd zc6 (by omega)) (fun zc6 => ?_)
        refine g_iload_n (i := 2) hX dX7_resolve_9 rfl rfl rfl ?_
        refine g_callSi hX (c_X7_isValue E M v) kf_X7_isValue rfl wk_X7_48 rfl rfl rfl rfl dX7_resolve_10 rfl (fun x10 M10 h10 => ?_)
        obtain ⟨rfl, hMq⟩ := h10; have hMq := hMq.symm; subst hMq
        first | refine g_if_neB (tgt := 18) hX dX7_resolve_13 (by decide) rfl (fun zc13 => ?_) (fun zc13 => Bool.noConfusion (hv.symm.trans zc13)) | refine g_if_ne (tgt := 18) hX dX7_resolve_13 (by decide) rfl (fun zc13 => ?_) (fun zc13 => Bool.noConfusion (hv.symm.trans zc13))
        refine g_iload_n (i := 1) hX dX7_resolve_18 rfl rfl rfl ?_
        refine g_iconst hX dX7_resolve_19 ic_1 rfl ?_
        refine g_icmp_eq (tgt := 29) hX dX7_resolve_20 (by decide) rfl (fun zc20 => ?_) (fun zc20 => ?_)
        · skip
          exact tail
        · skip
          refine g_iload_n (i := 2) hX dX7_resolve_23 rfl rfl rfl ?_
          refine g_if_eq (tgt := 29) hX dX7_resolve_24 (by decide) rfl (fun zc24 => ?_) (fun zc24 => absurd (hdv.resolve_left zc20) zc24)
          exact tail
      · have e : x_resolve M mb pl nc ne nk ol hs (nI z) v = (-1, M) := by rw [x_resolve, if_neg (fun q => hdv q.2.2)]
        rw [e]
        refine g_iload_n (i := 1) hX dX7_resolve_0 rfl rfl rfl ?_
        refine g_if_lt (tgt := 16) hX dX7_resolve_1 (by decide) rfl (fun zc1 => absurd zc1 (nI_pos (by omega))) (fun zc1 => ?_)
        refine g_iload_n (i := 1) hX dX7_resolve_4 rfl rfl rfl ?_
        refine g_iconst hX dX7_resolve_5 ic_2 rfl ?_
        first | refine g_icmp_gtN (tgt := 16) hX dX7_resolve_6 (by decide) rfl (by omega) (by omega) (fun zc6 => absurd zc6 (by omega)) (fun zc6 => ?_) | refine g_icmp_gt (tgt := 16) hX dX7_resolve_6 (by decide) rfl (fun zc6 => absurd zc6 (by omega)) (fun zc6 => ?_)
        refine g_iload_n (i := 2) hX dX7_resolve_9 rfl rfl rfl ?_
        refine g_callSi hX (c_X7_isValue E M v) kf_X7_isValue rfl wk_X7_48 rfl rfl rfl rfl dX7_resolve_10 rfl (fun x10 M10 h10 => ?_)
        obtain ⟨rfl, hMq⟩ := h10; have hMq := hMq.symm; subst hMq
        first | refine g_if_neB (tgt := 18) hX dX7_resolve_13 (by decide) rfl (fun zc13 => ?_) (fun zc13 => Bool.noConfusion (hv.symm.trans zc13)) | refine g_if_ne (tgt := 18) hX dX7_resolve_13 (by decide) rfl (fun zc13 => ?_) (fun zc13 => Bool.noConfusion (hv.symm.trans zc13))
        refine g_iload_n (i := 1) hX dX7_resolve_18 rfl rfl rfl ?_
        refine g_iconst hX dX7_resolve_19 ic_1 rfl ?_
        refine g_icmp_eq (tgt := 29) hX dX7_resolve_20 (by decide) rfl (fun zc20 => absurd zc20 (fun q => hdv (Or.inl q))) (fun zc20 => ?_)
        refine g_iload_n (i := 2) hX dX7_resolve_23 rfl rfl rfl ?_
        refine g_if_eq (tgt := 29) hX dX7_resolve_24 (by decide) rfl (fun zc24 => absurd zc24 (fun q => hdv (Or.inr q))) (fun zc24 => ?_)
        refine g_iconst hX dX7_resolve_27 ic_m1 rfl ?_
        refine g_iret hX hR dX7_resolve_28 ?_
        rfl
def x_appeal (M : gM) (nm nk ne ol hs : Nat) (op br : Bool) (pl : Nat → Nat) (c m s : Int32) : Int32 × gM := if inR c nk = true ∧ inR m nm = true ∧ inR s (2 ^ nm) = true ∧ ¬ (s >>> (m &&& 31)) &&& 1 = 0 then (if op = true ∨ M 21 c.toNatClampNeg < 2 ∨ ¬ M 1 5 ≤ M 22 c.toNatClampNeg + M 25 3 then (-2, M) else if 2 * actIn (M 3) (M 4) (M 25) s nm ≤ actW (M 3) (M 4) (M 25) nm then (0, m_keep M ol hs) else (1, m_reopen (m_keep M ol hs) c.toNatClampNeg (pl c.toNatClampNeg) nk ne br)) else (-1, M)
theorem c_X7_appeal (E : gE) (c m s : Int32) (hW : WS M nm nc nk ne op br mb pl) (hH : WH M ol hs) : gMet E k_X7_appeal [.ref 0, .int c, .int m, .int s] M (gInt fun r M' => (r, M') = x_appeal M nm nk ne ol hs op br pl c m s) := by
  refine gMet.of (by decide +kernel) rfl (Nat.le_of_ble_eq_true rfl) (fun X hX hR => ?_)
  obtain ⟨⟨hm, hmb⟩, ⟨hc, hcb⟩, ⟨hk, hkb⟩, ⟨he, he1, he2⟩, ⟨hop, hbr⟩, hcm⟩ := id hW
  obtain ⟨hol, holb, hhs, hhsb⟩ := id hH
  have z1 : M 14 1 = 0 ∨ M 14 1 = 1 := hop ▸ gB_01 op
  have z2 : M 14 2 = 0 ∨ M 14 2 = 1 := hbr ▸ gB_01 br
  obtain ⟨⟨hm', -⟩, ⟨hc', -⟩, ⟨hk', -⟩, ⟨he', -⟩, ⟨-, hbr'⟩, hcm'⟩ := hW.keep (ol := ol) (hs := hs)
  have K3 : m_keep M ol hs 3 = M 3 := keep_ne (Or.inl (by decide))
  have K4 : m_keep M ol hs 4 = M 4 := keep_ne (Or.inl (by decide))
  have K25 : m_keep M ol hs 25 = M 25 := keep_ne (Or.inl (by decide))
  cases h1 : inR c nk with
  | false =>
    have e : x_appeal M nm nk ne ol hs op br pl c m s = (-1, M) := by rw [x_appeal, if_neg (fun q => Bool.noConfusion (q.1.symm.trans h1))]
    rw [e]
    refine g_aload_n (i := 0) hX dX7_appeal_0 rfl rfl rfl ?_
    refine g_getR hX fl_X7_10 rfl rfl dX7_appeal_1 rfl ?_
    refine g_getR hX fl_X7_103 rfl rfl dX7_appeal_4 rfl ?_
    refine g_iload_n (i := 1) hX dX7_appeal_7 rfl rfl rfl ?_
    refine g_callVi hX (c_X1_has E M nk c hk hkb) kf_X1_has rfl wk_X7_181 rfl rfl rfl rfl rfl dX7_appeal_8 rfl (fun x8 M8 h8 => ?_)
    obtain ⟨rfl, hMq⟩ := h8; have hMq := hMq.symm; subst hMq
    first | refine g_if_eqB (tgt := 28) hX dX7_appeal_11 (by decide) rfl (fun zc11 => ?_) (fun zc11 => Bool.noConfusion (h1.symm.trans zc11)) | refine g_if_eq (tgt := 28) hX dX7_appeal_11 (by decide) rfl (fun zc11 => ?_) (fun zc11 => Bool.noConfusion (h1.symm.trans zc11))
    refine g_iconst hX dX7_appeal_28 ic_m1 rfl ?_
    refine g_iret hX hR dX7_appeal_29 ?_
    rfl
  | true =>
    obtain ⟨j, hj, rfl⟩ := inR_t (by omega) h1
    obtain ⟨-, -, hplb, hpl⟩ := hcm j hj
    obtain ⟨-, -, -, hpl'⟩ := hcm' j hj
    have hcl := cl_nI (show j < 2 ^ 31 by omega)
    cases h2 : inR m nm with
    | false =>
      have e : x_appeal M nm nk ne ol hs op br pl (nI j) m s = (-1, M) := by rw [x_appeal, if_neg (fun q => Bool.noConfusion (q.2.1.symm.trans h2))]
      rw [e]
      refine g_aload_n (i := 0) hX dX7_appeal_0 rfl rfl rfl ?_
      refine g_getR hX fl_X7_10 rfl rfl dX7_appeal_1 rfl ?_
      refine g_getR hX fl_X7_103 rfl rfl dX7_appeal_4 rfl ?_
      refine g_iload_n (i := 1) hX dX7_appeal_7 rfl rfl rfl ?_
      refine g_callVi hX (c_X1_has E M nk _ hk hkb) kf_X1_has rfl wk_X7_181 rfl rfl rfl rfl rfl dX7_appeal_8 rfl (fun x8 M8 h8 => ?_)
      obtain ⟨rfl, hMq⟩ := h8; have hMq := hMq.symm; subst hMq
      first | refine g_if_eqB (tgt := 28) hX dX7_appeal_11 (by decide) rfl (fun zc11 => Bool.noConfusion (h1.symm.trans zc11)) (fun zc11 => ?_) | refine g_if_eq (tgt := 28) hX dX7_appeal_11 (by decide) rfl (fun zc11 => Bool.noConfusion (h1.symm.trans zc11)) (fun zc11 => ?_)
      refine g_aload_n (i := 0) hX dX7_appeal_14 rfl rfl rfl ?_
      refine g_getR hX fl_X7_10 rfl rfl dX7_appeal_15 rfl ?_
      refine g_getR hX fl_X7_30 rfl rfl dX7_appeal_18 rfl ?_
      refine g_iload_n (i := 2) hX dX7_appeal_21 rfl rfl rfl ?_
      refine g_callVi hX (c_X4_has E M nm m hm hmb) kf_X4_has rfl wk_X7_85 rfl rfl rfl rfl rfl dX7_appeal_22 rfl (fun x22 M22 h22 => ?_)
      obtain ⟨rfl, hMq⟩ := h22; have hMq := hMq.symm; subst hMq
      first | refine g_if_neB (tgt := 30) hX dX7_appeal_25 (by decide) rfl (fun zc25 => Bool.noConfusion (h2.symm.trans zc25)) (fun zc25 => ?_) | refine g_if_ne (tgt := 30) hX dX7_appeal_25 (by decide) rfl (fun zc25 => Bool.noConfusion (h2.symm.trans zc25)) (fun zc25 => ?_)
      refine g_iconst hX dX7_appeal_28 ic_m1 rfl ?_
      refine g_iret hX hR dX7_appeal_29 ?_
      rfl
    | true =>
      cases h3 : inR s (2 ^ nm) with
      | false =>
        have e : x_appeal M nm nk ne ol hs op br pl (nI j) m s = (-1, M) := by rw [x_appeal, if_neg (fun q => Bool.noConfusion (q.2.2.1.symm.trans h3))]
        rw [e]
        refine g_aload_n (i := 0) hX dX7_appeal_0 rfl rfl rfl ?_
        refine g_getR hX fl_X7_10 rfl rfl dX7_appeal_1 rfl ?_
        refine g_getR hX fl_X7_103 rfl rfl dX7_appeal_4 rfl ?_
        refine g_iload_n (i := 1) hX dX7_appeal_7 rfl rfl rfl ?_
        refine g_callVi hX (c_X1_has E M nk _ hk hkb) kf_X1_has rfl wk_X7_181 rfl rfl rfl rfl rfl dX7_appeal_8 rfl (fun x8 M8 h8 => ?_)
        obtain ⟨rfl, hMq⟩ := h8; have hMq := hMq.symm; subst hMq
        first | refine g_if_eqB (tgt := 28) hX dX7_appeal_11 (by decide) rfl (fun zc11 => Bool.noConfusion (h1.symm.trans zc11)) (fun zc11 => ?_) | refine g_if_eq (tgt := 28) hX dX7_appeal_11 (by decide) rfl (fun zc11 => Bool.noConfusion (h1.symm.trans zc11)) (fun zc11 => ?_)
        refine g_aload_n (i := 0) hX dX7_appeal_14 rfl rfl rfl ?_
        refine g_getR hX fl_X7_10 rfl rfl dX7_appeal_15 rfl ?_
        refine g_getR hX fl_X7_30 rfl rfl dX7_appeal_18 rfl ?_
        refine g_iload_n (i := 2) hX dX7_appeal_21 rfl rfl rfl ?_
        refine g_callVi hX (c_X4_has E M nm m hm hmb) kf_X4_has rfl wk_X7_85 rfl rfl rfl rfl rfl dX7_appeal_22 rfl (fun x22 M22 h22 => ?_)
        obtain ⟨rfl, hMq⟩ := h22; have hMq := hMq.symm; subst hMq
        first | refine g_if_neB (tgt := 30) hX dX7_appeal_25 (by decide) rfl (fun zc25 => ?_) (fun zc25 => Bool.noConfusion (h2.symm.trans zc25)) | refine g_if_ne (tgt := 30) hX dX7_appeal_25 (by decide) rfl (fun zc25 => ?_) (fun zc25 => Bool.noConfusion (h2.symm.trans zc25))
        refine g_aload_n (i := 0) hX dX7_appeal_30 rfl rfl rfl ?_
        refine g_getR hX fl_X7_10 rfl rfl dX7_appeal_31 rfl ?_
        refine g_getR hX fl_X7_30 rfl rfl dX7_appeal_34 rfl ?_
        refine g_iload_n (i := 3) hX dX7_appeal_37 rfl rfl rfl ?_
        refine g_callVi hX (c_X4_isSet E M nm s hm hmb) kf_X4_isSet rfl wk_X7_221 rfl rfl rfl rfl rfl dX7_appeal_38 rfl (fun x38 M38 h38 => ?_)
        obtain ⟨rfl, hMq⟩ := h38; have hMq := hMq.symm; subst hMq
        first | refine g_if_eqB (tgt := 52) hX dX7_appeal_41 (by decide) rfl (fun zc41 => ?_) (fun zc41 => Bool.noConfusion (h3.symm.trans zc41)) | refine g_if_eq (tgt := 52) hX dX7_appeal_41 (by decide) rfl (fun zc41 => ?_) (fun zc41 => Bool.noConfusion (h3.symm.trans zc41))
        refine g_iconst hX dX7_appeal_52 ic_m1 rfl ?_
        refine g_iret hX hR dX7_appeal_53 ?_
        rfl
      | true =>
        by_cases h4 : (s >>> (m &&& 31)) &&& 1 = 0
        · have e : x_appeal M nm nk ne ol hs op br pl (nI j) m s = (-1, M) := by rw [x_appeal, if_neg (fun q => q.2.2.2 h4)]
          rw [e]
          refine g_aload_n (i := 0) hX dX7_appeal_0 rfl rfl rfl ?_
          refine g_getR hX fl_X7_10 rfl rfl dX7_appeal_1 rfl ?_
          refine g_getR hX fl_X7_103 rfl rfl dX7_appeal_4 rfl ?_
          refine g_iload_n (i := 1) hX dX7_appeal_7 rfl rfl rfl ?_
          refine g_callVi hX (c_X1_has E M nk _ hk hkb) kf_X1_has rfl wk_X7_181 rfl rfl rfl rfl rfl dX7_appeal_8 rfl (fun x8 M8 h8 => ?_)
          obtain ⟨rfl, hMq⟩ := h8; have hMq := hMq.symm; subst hMq
          first | refine g_if_eqB (tgt := 28) hX dX7_appeal_11 (by decide) rfl (fun zc11 => Bool.noConfusion (h1.symm.trans zc11)) (fun zc11 => ?_) | refine g_if_eq (tgt := 28) hX dX7_appeal_11 (by decide) rfl (fun zc11 => Bool.noConfusion (h1.symm.trans zc11)) (fun zc11 => ?_)
          refine g_aload_n (i := 0) hX dX7_appeal_14 rfl rfl rfl ?_
          refine g_getR hX fl_X7_10 rfl rfl dX7_appeal_15 rfl ?_
          refine g_getR hX fl_X7_30 rfl rfl dX7_appeal_18 rfl ?_
          refine g_iload_n (i := 2) hX dX7_appeal_21 rfl rfl rfl ?_
          refine g_callVi hX (c_X4_has E M nm m hm hmb) kf_X4_has rfl wk_X7_85 rfl rfl rfl rfl rfl dX7_appeal_22 rfl (fun x22 M22 h22 => ?_)
          obtain ⟨rfl, hMq⟩ := h22; have hMq := hMq.symm; subst hMq
          first | refine g_if_neB (tgt := 30) hX dX7_appeal_25 (by decide) rfl (fun zc25 => ?_) (fun zc25 => Bool.noConfusion (h2.symm.trans zc25)) | refine g_if_ne (tgt := 30) hX dX7_appeal_25 (by decide) rfl (fun zc25 => ?_) (fun zc25 => Bool.noConfusion (h2.symm.trans zc25))
          refine g_aload_n (i := 0) hX dX7_appeal_30 rfl rfl rfl ?_
          refine g_getR hX fl_X7_10 rfl rfl dX7_appeal_31 rfl ?_
          refine g_getR hX fl_X7_30 rfl rfl dX7_appeal_34 rfl ?_
          refine g_iload_n (i := 3) hX dX7_appeal_37 rfl rfl rfl ?_
          refine g_callVi hX (c_X4_isSet E M nm s hm hmb) kf_X4_isSet rfl wk_X7_221 rfl rfl rfl rfl rfl dX7_appeal_38 rfl (fun x38 M38 h38 => ?_)
          obtain ⟨rfl, hMq⟩ := h38; have hMq := hMq.symm; subst hMq
          first | refine g_if_eqB (tgt := 52) hX dX7_appeal_41 (by decide) rfl (fun zc41 => Bool.noConfusion (h3.symm.trans zc41)) (fun zc41 => ?_) | refine g_if_eq (tgt := 52) hX dX7_appeal_41 (by decide) rfl (fun zc41 => Bool.noConfusion (h3.symm.trans zc41)) (fun zc41 => ?_)
          refine g_iload_n (i := 3) hX dX7_appeal_44 rfl rfl rfl ?_
          refine g_iload_n (i := 2) hX dX7_appeal_45 rfl rfl rfl ?_
          refine g_ishr hX dX7_appeal_46 rfl ?_
          refine g_iconst hX dX7_appeal_47 ic_1 rfl ?_
          refine g_iand hX dX7_appeal_48 rfl ?_
          refine g_if_ne (tgt := 54) hX dX7_appeal_49 (by decide) rfl (fun zc49 => absurd h4 zc49) (fun zc49 => ?_)
          refine g_iconst hX dX7_appeal_52 ic_m1 rfl ?_
          refine g_iret hX hR dX7_appeal_53 ?_
          rfl
        · rw [x_appeal, if_pos ⟨h1, h2, h3, h4⟩, hcl]
          have fin : (op = true ∨ M 21 j < 2 ∨ ¬ M 1 5 ≤ M 22 j + M 25 3 → False) → gG X E M 119 [some (.ref 0), some (.int (nI j)), some (.int m), some (.int s)] [] (gQ X E (gInt fun r M' => (r, M') = if op = true ∨ M 21 j < 2 ∨ ¬ M 1 5 ≤ M 22 j + M 25 3 then (-2, M) else if 2 * actIn (M 3) (M 4) (M 25) s nm ≤ actW (M 3) (M 4) (M 25) nm then (0, m_keep M ol hs) else (1, m_reopen (m_keep M ol hs) j (pl j) nk ne br))) := by
            intro hno
            rw [if_neg hno]
            refine g_aload_n (i := 0) hX dX7_appeal_119 rfl rfl rfl ?_
            refine g_getR hX fl_X7_19 rfl rfl dX7_appeal_120 rfl ?_
            refine g_aload_n (i := 0) hX dX7_appeal_123 rfl rfl rfl ?_
            refine g_getR hX fl_X7_10 rfl rfl dX7_appeal_124 rfl ?_
            refine g_callVv hX (c_X3_keep E M ol hs hol holb hhs hhsb z1 z2) kf_X3_keep rfl wk_X7_40 rfl rfl rfl rfl rfl dX7_appeal_127 rfl (fun M127 h127 => ?_)
            subst h127
            refine g_iconst hX dX7_appeal_130 ic_2 rfl ?_
            refine g_aload_n (i := 0) hX dX7_appeal_131 rfl rfl rfl ?_
            refine g_getR hX fl_X7_10 rfl rfl dX7_appeal_132 rfl ?_
            refine g_iload_n (i := 3) hX dX7_appeal_135 rfl rfl rfl ?_
            refine g_callVi hX (c_X5_activeWeightIn E _ nm s hm' hmb) kf_X5_activeWeightIn rfl wk_X7_224 rfl rfl rfl rfl rfl dX7_appeal_136 rfl (fun x136 M136 h136 => ?_)
            obtain ⟨rfl, hMq⟩ := h136; have hMq := hMq.symm; subst hMq
            first | refine g_imulN hX dX7_appeal_139 rfl ?_ | refine g_imul hX dX7_appeal_139 rfl ?_
            refine g_aload_n (i := 0) hX dX7_appeal_140 rfl rfl rfl ?_
            refine g_getR hX fl_X7_10 rfl rfl dX7_appeal_141 rfl ?_
            refine g_callVi hX (c_X5_activeWeight E _ nm hm' hmb) kf_X5_activeWeight rfl wk_X7_145 rfl rfl rfl rfl rfl dX7_appeal_144 rfl (fun x144 M144 h144 => ?_)
            obtain ⟨rfl, hMq⟩ := h144; have hMq := hMq.symm; subst hMq
            refine g_icmp_gt (tgt := 152) hX dX7_appeal_147 (by decide) rfl (fun zc147 => ?_) (fun zc147 => ?_)
            · skip
              have zd147 : ¬ 2 * actIn (M 3) (M 4) (M 25) s nm ≤ actW (M 3) (M 4) (M 25) nm := by
                have h := Int32.not_le.mpr zc147
                rw [K3, K4, K25] at h; exact h
              refine g_aload_n (i := 0) hX dX7_appeal_152 rfl rfl rfl ?_
              refine g_getR hX fl_X7_10 rfl rfl dX7_appeal_153 rfl ?_
              refine g_iload_n (i := 1) hX dX7_appeal_156 rfl rfl rfl ?_
              refine g_callVv hX (c_X5_reopen E _ j (pl j) nc ne nk br hj hpl' hplb hcb he' he1 hbr' hk' hkb) kf_X5_reopen rfl wk_X7_227 rfl rfl rfl rfl rfl dX7_appeal_157 rfl (fun M157 h157 => ?_)
              subst h157
              refine g_iconst hX dX7_appeal_160 ic_1 rfl ?_
              refine g_iret hX hR dX7_appeal_161 ?_
              rw [if_neg zd147]; rfl
            · skip
              have zd147 : 2 * actIn (M 3) (M 4) (M 25) s nm ≤ actW (M 3) (M 4) (M 25) nm := by
                have h := Int32.not_lt.mp zc147
                rw [K3, K4, K25] at h; exact h
              refine g_iconst hX dX7_appeal_150 ic_0 rfl ?_
              refine g_iret hX hR dX7_appeal_151 ?_
              rw [if_pos zd147]; rfl
          refine g_aload_n (i := 0) hX dX7_appeal_0 rfl rfl rfl ?_
          refine g_getR hX fl_X7_10 rfl rfl dX7_appeal_1 rfl ?_
          refine g_getR hX fl_X7_103 rfl rfl dX7_appeal_4 rfl ?_
          refine g_iload_n (i := 1) hX dX7_appeal_7 rfl rfl rfl ?_
          refine g_callVi hX (c_X1_has E M nk _ hk hkb) kf_X1_has rfl wk_X7_181 rfl rfl rfl rfl rfl dX7_appeal_8 rfl (fun x8 M8 h8 => ?_)
          obtain ⟨rfl, hMq⟩ := h8; have hMq := hMq.symm; subst hMq
          first | refine g_if_eqB (tgt := 28) hX dX7_appeal_11 (by decide) rfl (fun zc11 => Bool.noConfusion (h1.symm.trans zc11)) (fun zc11 => ?_) | refine g_if_eq (tgt := 28) hX dX7_appeal_11 (by decide) rfl (fun zc11 => Bool.noConfusion (h1.symm.trans zc11)) (fun zc11 => ?_)
          refine g_aload_n (i := 0) hX dX7_appeal_14 rfl rfl rfl ?_
          refine g_getR hX fl_X7_10 rfl rfl dX7_appeal_15 rfl ?_
          refine g_getR hX fl_X7_30 rfl rfl dX7_appeal_18 rfl ?_
          refine g_iload_n (i := 2) hX dX7_appeal_21 rfl rfl rfl ?_
          refine g_callVi hX (c_X4_has E M nm m hm hmb) kf_X4_has rfl wk_X7_85 rfl rfl rfl rfl rfl dX7_appeal_22 rfl (fun x22 M22 h22 => ?_)
          obtain ⟨rfl, hMq⟩ := h22; have hMq := hMq.symm; subst hMq
          first | refine g_if_neB (tgt := 30) hX dX7_appeal_25 (by decide) rfl (fun zc25 => ?_) (fun zc25 => Bool.noConfusion (h2.symm.trans zc25)) | refine g_if_ne (tgt := 30) hX dX7_appeal_25 (by decide) rfl (fun zc25 => ?_) (fun zc25 => Bool.noConfusion (h2.symm.trans zc25))
          refine g_aload_n (i := 0) hX dX7_appeal_30 rfl rfl rfl ?_
          refine g_getR hX fl_X7_10 rfl rfl dX7_appeal_31 rfl ?_
          refine g_getR hX fl_X7_30 rfl rfl dX7_appeal_34 rfl ?_
          refine g_iload_n (i := 3) hX dX7_appeal_37 rfl rfl rfl ?_
          refine g_callVi hX (c_X4_isSet E M nm s hm hmb) kf_X4_isSet rfl wk_X7_221 rfl rfl rfl rfl rfl dX7_appeal_38 rfl (fun x38 M38 h38 => ?_)
          obtain ⟨rfl, hMq⟩ := h38; have hMq := hMq.symm; subst hMq
          first | refine g_if_eqB (tgt := 52) hX dX7_appeal_41 (by decide) rfl (fun zc41 => Bool.noConfusion (h3.symm.trans zc41)) (fun zc41 => ?_) | refine g_if_eq (tgt := 52) hX dX7_appeal_41 (by decide) rfl (fun zc41 => Bool.noConfusion (h3.symm.trans zc41)) (fun zc41 => ?_)
          refine g_iload_n (i := 3) hX dX7_appeal_44 rfl rfl rfl ?_
          refine g_iload_n (i := 2) hX dX7_appeal_45 rfl rfl rfl ?_
          refine g_ishr hX dX7_appeal_46 rfl ?_
          refine g_iconst hX dX7_appeal_47 ic_1 rfl ?_
          refine g_iand hX dX7_appeal_48 rfl ?_
          refine g_if_ne (tgt := 54) hX dX7_appeal_49 (by decide) rfl (fun zc49 => ?_) (fun zc49 => absurd zc49 h4)
          refine g_aload_n (i := 0) hX dX7_appeal_54 rfl rfl rfl ?_
          refine g_getR hX fl_X7_10 rfl rfl dX7_appeal_55 rfl ?_
          refine g_getR hX fl_X7_52 rfl rfl dX7_appeal_58 rfl ?_
          refine g_getIv (x := gB op) hX fl_X7_136 rfl rfl (hop) dX7_appeal_61 rfl ?_
          first | refine g_if_neB (tgt := 81) hX dX7_appeal_64 (by decide) rfl (fun zc64 => ?_) (fun zc64 => ?_) | refine g_if_ne (tgt := 81) hX dX7_appeal_64 (by decide) rfl (fun zc64 => ?_) (fun zc64 => ?_)
          · skip
            refine g_bipush hX dX7_appeal_81 bc_m2 rfl ?_
            refine g_iret hX hR dX7_appeal_83 ?_
            first
            | (rw [if_pos (Or.inl zc64)]; done)
            | (rw [if_pos (Or.inr (Or.inl zd78))]; done)
          · skip
            refine g_aload_n (i := 0) hX dX7_appeal_67 rfl rfl rfl ?_
            refine g_getR hX fl_X7_10 rfl rfl dX7_appeal_68 rfl ?_
            refine g_getR hX fl_X7_103 rfl rfl dX7_appeal_71 rfl ?_
            refine g_iload_n (i := 1) hX dX7_appeal_74 rfl rfl rfl ?_
            refine g_callVi hX (c_X1_isResolved E M j (by omega)) kf_X1_isResolved rfl wk_X7_197 rfl rfl rfl rfl rfl dX7_appeal_75 rfl (fun x75 M75 h75 => ?_)
            obtain ⟨rfl, hMq⟩ := h75; have hMq := hMq.symm; subst hMq
            first | refine g_if_neB (tgt := 84) hX dX7_appeal_78 (by decide) rfl (fun zc78 => ?_) (fun zc78 => ?_) | refine g_if_ne (tgt := 84) hX dX7_appeal_78 (by decide) rfl (fun zc78 => ?_) (fun zc78 => ?_)
            · skip
              have zd78 : ¬ M 21 j < 2 := by simpa using zc78
              refine g_aload_n (i := 0) hX dX7_appeal_84 rfl rfl rfl ?_
              refine g_getR hX fl_X7_10 rfl rfl dX7_appeal_85 rfl ?_
              refine g_getI hX fl_X7_133 rfl rfl dX7_appeal_88 rfl ?_
              refine g_aload_n (i := 0) hX dX7_appeal_91 rfl rfl rfl ?_
              refine g_getR hX fl_X7_10 rfl rfl dX7_appeal_92 rfl ?_
              refine g_getR hX fl_X7_103 rfl rfl dX7_appeal_95 rfl ?_
              refine g_getR hX fl_X7_200 rfl rfl dX7_appeal_98 rfl ?_
              refine g_iload_n (i := 1) hX dX7_appeal_101 rfl rfl rfl ?_
              refine g_iald hX rfl (rfl) (by omega) rfl dX7_appeal_102 rfl ?_
              refine g_aload_n (i := 0) hX dX7_appeal_103 rfl rfl rfl ?_
              refine g_getR hX fl_X7_10 rfl rfl dX7_appeal_104 rfl ?_
              refine g_getR hX fl_X7_82 rfl rfl dX7_appeal_107 rfl ?_
              refine g_iconst hX dX7_appeal_110 ic_3 rfl ?_
              refine g_iald hX rfl (rfl) (by omega) rfl dX7_appeal_111 rfl ?_
              first | refine g_iaddN hX dX7_appeal_112 rfl ?_ | refine g_iadd hX dX7_appeal_112 rfl ?_
              refine g_icmp_le (tgt := 119) hX dX7_appeal_113 (by decide) rfl (fun zc113 => ?_) (fun zc113 => ?_)
              · skip
                exact fin (fun q => q.elim (fun q => Bool.noConfusion (q.symm.trans zc64)) (fun q => q.elim zd78 (fun q => q zc113)))
              · skip
                refine g_bipush hX dX7_appeal_116 bc_m2 rfl ?_
                refine g_iret hX hR dX7_appeal_118 ?_
                rw [if_pos (Or.inr (Or.inr zc113))]
            · skip
              have zd78 : M 21 j < 2 := by simpa using zc78
              refine g_bipush hX dX7_appeal_81 bc_m2 rfl ?_
              refine g_iret hX hR dX7_appeal_83 ?_
              first
              | (rw [if_pos (Or.inl zc64)]; done)
              | (rw [if_pos (Or.inr (Or.inl zd78))]; done)
end

