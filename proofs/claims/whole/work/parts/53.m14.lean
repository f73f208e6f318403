/-! the reference: entering -/
def entN (N : Nat → Int32) (ch : Nat → Nat) (L nk0 : Nat) (m : Int32) (k : Nat) : Nat → Int32 := match k with
  | 0 => N
  | k + 1 => n_comment (entN N ch L nk0 m k) (nk0 + k) m (nI (pCl ch L (posK (pNx ch L) k))) (nI (pKd ch L (posK (pNx ch L) k))) (nI (pVal ch L (posK (pNx ch L) k)))
theorem entN_9 {N : Nat → Int32} {ch : Nat → Nat} {L nk0 : Nat} {m : Int32} (h : N 9 = nI nk0) : ∀ k, entN N ch L nk0 m k 9 = nI (nk0 + k) := by
  intro k
  cases k with
  | zero => exact h
  | succ k => simp only [entN, n_comment]; exact upd_s _ _ _
def y_enter (M : gM) (ch : Nat → Nat) (L nm nc nk sv : Nat) (op : Bool) (m : Int32) (r : Int32) (M' : gM) : Prop :=
  if inR m nm = true then (if op = true ∧ (scanM (M 131) ch L nc nk).1 = 0 then r = nI (scanM (M 131) ch L nc nk).2.2 ∧ rd1 (gset (m_rec M sv) 131 (entN (M 131) ch L nk m (scanM (M 131) ch L nc nk).2.2)) M' else r = -2 ∧ rd1 M M') else r = -1 ∧ rd1 M M'
theorem rec_130 {M : gM} {sv : Nat} : m_rec M sv 130 = upd (M 130) 2 (nI (svN sv)) := by simp only [m_rec]; rw [gset_eq]
theorem rd1.rec {M M1 : gM} {sv : Nat} (h : rd1 M M1) : rd1 (m_rec M sv) (m_rec M1 sv) := by
  refine ⟨fun a ha => ?_, fun j hj => ?_⟩
  · simp only [m_rec]
    rw [gset_ne _ _ ha, gset_ne _ _ ha, h.1 132 (by decide), h.1 131 (by decide)]
    by_cases h2 : a = 132
    · subst h2; rw [gset_eq, gset_eq]
    · rw [gset_ne _ _ h2, gset_ne _ _ h2]; exact h.1 a ha
  · simp only [m_rec, gset_eq, upd]
    split
    · rfl
    · exact h.2 j hj
theorem scanM_no {N : Nat → Int32} {ch : Nat → Nat} {L nc nk : Nat} (h : (scanM N ch L nc nk).1 = 0) (hL : L ≤ 80) : ∃ q, scanM N ch L nc nk = (0, posK (pNx ch L) q, q) ∧ L ≤ posK (pNx ch L) q ∧ ∀ i, i < q → posK (pNx ch L) i < L ∧ whyB (vNb N) (vPr N) ch L nc nk i (posK (pNx ch L) i) = 0 := by
  obtain ⟨q, -, h2, h3, h4⟩ := scan_no (why := whyB (vNb N) (vPr N) ch L nc nk) (nx := pNx ch L) (L := L) whyB_5 17 0 h (by simp only [posK]; omega)
  exact ⟨q, h2, h3, fun i hi => h4 i (Nat.zero_le _) hi⟩
theorem c_X8_enter (E : gE) (M : gM) (ch : Nat → Nat) (L nm nc nk sv : Nat) (op : Bool) (m : Int32) (hT : TxM M ch L) (hm : M 131 0 = nI nm) (hmb : nm ≤ 10) (hc : M 131 1 = nI nc) (hcb : nc ≤ 20) (hk : M 131 9 = nI nk) (hkb : nk ≤ 30) (hop : M 131 4 = gB op) (hs : M 130 2 = nI sv) (hb : sv ≤ 4) : gMet E k_X8_enter [.ref 130, .int m] M (gInt fun r M' => y_enter M ch L nm nc nk sv op m r M') := by
  refine gMet.of (by decide +kernel) rfl (Nat.le_of_ble_eq_true rfl) (fun X hX hR => ?_)
  have hL8 := hT.2.1
  cases hin : inR m nm with
  | false =>
    refine g_aload_n (i := 0) hX dX8_enter_0 rfl rfl rfl ?_
    refine g_iload_n (i := 1) hX dX8_enter_1 rfl rfl rfl ?_
    refine g_callVi hX (c_X8_isMember E M m nm hm hmb) kf_X8_isMember rfl wk_X8_51 rfl rfl rfl rfl rfl dX8_enter_2 rfl (fun x2 M2 h2 => ?_)
    obtain ⟨rfl, hMq⟩ := h2; have hMq := hMq.symm; subst hMq
    first | refine g_if_neB (tgt := 10) hX dX8_enter_5 (by decide) rfl (fun zc5 => Bool.noConfusion (hin.symm.trans zc5)) (fun zc5 => ?_) | refine g_if_ne (tgt := 10) hX dX8_enter_5 (by decide) rfl (fun zc5 => Bool.noConfusion (hin.symm.trans zc5)) (fun zc5 => ?_)
    refine g_iconst hX dX8_enter_8 ic_m1 rfl ?_
    refine g_iret hX hR dX8_enter_9 ?_
    unfold y_enter; rw [if_neg (by rw [hin]; decide)]; exact ⟨rfl, rd1.rfl M⟩
  | true =>
    cases hopv : op with
    | false =>
      rw [hopv] at hop
      refine g_aload_n (i := 0) hX dX8_enter_0 rfl rfl rfl ?_
      refine g_iload_n (i := 1) hX dX8_enter_1 rfl rfl rfl ?_
      refine g_callVi hX (c_X8_isMember E M m nm hm hmb) kf_X8_isMember rfl wk_X8_51 rfl rfl rfl rfl rfl dX8_enter_2 rfl (fun x2 M2 h2 => ?_)
      obtain ⟨rfl, hMq⟩ := h2; have hMq := hMq.symm; subst hMq
      first | refine g_if_neB (tgt := 10) hX dX8_enter_5 (by decide) rfl (fun zc5 => ?_) (fun zc5 => Bool.noConfusion (hin.symm.trans zc5)) | refine g_if_ne (tgt := 10) hX dX8_enter_5 (by decide) rfl (fun zc5 => ?_) (fun zc5 => Bool.noConfusion (hin.symm.trans zc5))
      refine g_aload_n (i := 0) hX dX8_enter_10 rfl rfl rfl ?_
      refine g_getR hX fl_X8_7 rfl rfl dX8_enter_11 rfl ?_
      refine g_iconst hX dX8_enter_14 ic_4 rfl ?_
      refine g_ialdv (x := nI 0) hX rfl (rfl) (by omega) rfl (hop) dX8_enter_15 rfl ?_
      refine g_if_eq (tgt := 26) hX dX8_enter_16 (by decide) rfl (fun zc16 => ?_) (fun zc16 => absurd rfl zc16)
      refine g_bipush hX dX8_enter_26 bc_m2 rfl ?_
      refine g_iret hX hR dX8_enter_28 ?_
      unfold y_enter; rw [if_pos hin, if_neg (fun q => Bool.noConfusion q.1)]; exact ⟨rfl, rd1.rfl M⟩
    | true =>
      rw [hopv] at hop
      by_cases hz : (scanM (M 131) ch L nc nk).1 = 0
      · obtain ⟨q, hq1, hq2, hq3⟩ := scanM_no hz hL8
        have many : (scanM (M 131) ch L nc nk).2.2 = q := by rw [hq1]
        have pos5 : ∀ i, i ≤ q → 5 * i ≤ posK (pNx ch L) i ∧ posK (pNx ch L) i ≤ L := by
          intro i
          induction i with
          | zero => intro _; exact ⟨Nat.zero_le _, Nat.zero_le _⟩
          | succ i ih =>
            intro hi
            obtain ⟨i1, i2⟩ := ih (by omega)
            obtain ⟨i3, i4⟩ := hq3 i (by omega)
            have i5 := whyB_5 _ _ i4
            have hok : pOk ch L (posK (pNx ch L) i) = true := by
              cases hp : pOk ch L (posK (pNx ch L) i) with
              | true => rfl
              | false => simp [whyB, hp] at i4
            have i6 := (pNx_in hok).2
            simp only [posK]
            omega
        have q5 := pos5 q (Nat.le_refl q)
        have hqk : nk + q ≤ 30 ∨ q = 0 := by
          rcases Nat.eq_zero_or_pos q with h | h
          · exact Or.inr h
          · left
            obtain ⟨-, h4⟩ := hq3 (q - 1) (by omega)
            simp only [whyB] at h4
            split at h4
            · cases h4
            · split at h4
              · cases h4
              · split at h4
                · cases h4
                · split at h4
                  · cases h4
                  · omega
        have hTB : ∀ row, TxM (gset (m_rec M sv) 131 row) ch L := fun row => ⟨by rw [gset_ne _ _ (by decide)]; exact hT.1, hL8, fun i hi => by rw [gset_ne _ _ (by decide), rec_ne (by decide)]; exact hT.2.2 i hi⟩
        have loop := up_loop q (fun k => ∀ M1 b1 b2, rd1 (gset (m_rec M sv) 131 (entN (M 131) ch L nk m k)) M1 → M1 130 5 = nI (posK (pNx ch L) k) → gG X E M1 45 [some (.ref 130), some (.int m), some (.int (nI q)), some (.int (nI k)), b1, b2] [] (gQ X E (gInt fun r M' => y_enter M ch L nm nc nk sv true m r M'))) ?_ ?_
        · skip
          refine g_aload_n (i := 0) hX dX8_enter_0 rfl rfl rfl ?_
          refine g_iload_n (i := 1) hX dX8_enter_1 rfl rfl rfl ?_
          refine g_callVi hX (c_X8_isMember E M m nm hm hmb) kf_X8_isMember rfl wk_X8_51 rfl rfl rfl rfl rfl dX8_enter_2 rfl (fun x2 M2 h2 => ?_)
          obtain ⟨rfl, hMq⟩ := h2; have hMq := hMq.symm; subst hMq
          first | refine g_if_neB (tgt := 10) hX dX8_enter_5 (by decide) rfl (fun zc5 => ?_) (fun zc5 => Bool.noConfusion (hin.symm.trans zc5)) | refine g_if_ne (tgt := 10) hX dX8_enter_5 (by decide) rfl (fun zc5 => ?_) (fun zc5 => Bool.noConfusion (hin.symm.trans zc5))
          refine g_aload_n (i := 0) hX dX8_enter_10 rfl rfl rfl ?_
          refine g_getR hX fl_X8_7 rfl rfl dX8_enter_11 rfl ?_
          refine g_iconst hX dX8_enter_14 ic_4 rfl ?_
          refine g_ialdv (x := nI 1) hX rfl (rfl) (by omega) rfl (hop) dX8_enter_15 rfl ?_
          refine g_if_eq (tgt := 26) hX dX8_enter_16 (by decide) rfl (fun zc16 => absurd zc16 (by decide)) (fun zc16 => ?_)
          refine g_aload_n (i := 0) hX dX8_enter_19 rfl rfl rfl ?_
          refine g_callVi hX (c_X8_hasFault E M ch L nc nk hT hc hcb hk hkb) kf_X8_hasFault rfl wk_X8_150 rfl rfl rfl rfl rfl dX8_enter_20 rfl (fun x20 M20 h20 => ?_)
          obtain ⟨rfl, r1, r2, r3⟩ := h20
          have r3 := r3 hz
          rw [many] at r3
          rw [decide_eq_false (fun q => q hz)]
          refine g_if_eq (tgt := 29) hX dX8_enter_23 (by decide) rfl (fun zc23 => ?_) (fun zc23 => absurd rfl zc23)
          refine g_aload_n (i := 0) hX dX8_enter_29 rfl rfl rfl ?_
          refine g_callVv hX (c_X8_records E _ sv ((r1.2 2 (by decide)).trans hs) hb) kf_X8_records rfl wk_X8_31 rfl rfl rfl rfl rfl dX8_enter_30 rfl (fun M30 h30 => ?_)
          subst h30
          refine g_aload_n (i := 0) hX dX8_enter_33 rfl rfl rfl ?_
          refine g_getIv (x := nI q) hX fl_X8_138 rfl rfl (by rw [rec_130, upd_n _ _ (by decide)]; exact r3) dX8_enter_34 rfl ?_
          refine g_istore_n (i := 2) hX dX8_enter_37 rfl (Nat.le_of_ble_eq_true rfl) rfl ?_
          refine g_aload_n (i := 0) hX dX8_enter_38 rfl rfl rfl ?_
          refine g_iconst hX dX8_enter_39 ic_0 rfl ?_
          refine g_putI hX fp_X8_117 rfl rfl dX8_enter_40 rfl ?_
          refine g_iconst hX dX8_enter_43 ic_0 rfl ?_
          refine g_istore_n (i := 3) hX dX8_enter_44 rfl (Nat.le_of_ble_eq_true rfl) rfl ?_
          exact loop 0 (Nat.zero_le _) (fU (m_rec M20 sv) 5 (nI 0)) _ _ (rd1.up (by
          have h9 := rd1.rec (sv := sv) r1
          refine ⟨fun a ha => ?_, fun j hj => ?_⟩
          · by_cases h1 : a = 131
            · subst h1; rw [gset_eq]; exact (rec_ne (by decide)).trans (r1.1 131 (by decide))
            · rw [gset_ne _ _ h1]; exact h9.1 a ha
          · rw [gset_ne _ _ (by decide)]; exact h9.2 j hj) (by decide) (by decide)) (fU_s _ _ _)
        · intro M1 b1 b2 g1 g2
          refine g_iload_n (i := 3) hX dX8_enter_45 rfl rfl rfl ?_
          refine g_iload_n (i := 2) hX dX8_enter_46 rfl rfl rfl ?_
          first | refine g_icmp_geN (tgt := 81) hX dX8_enter_47 (by decide) rfl (by omega) (by omega) (fun zc47 => ?_) (fun zc47 => absurd zc47 (by omega)) | refine g_icmp_ge (tgt := 81) hX dX8_enter_47 (by decide) rfl (fun zc47 => ?_) (fun zc47 => absurd zc47 (by omega))
          refine g_iload_n (i := 2) hX dX8_enter_81 rfl rfl rfl ?_
          refine g_iret hX hR dX8_enter_82 ?_
          unfold y_enter; rw [if_pos hin, if_pos ⟨rfl, hz⟩, many]; exact ⟨rfl, g1⟩
        · intro k hk' ih M1 b1 b2 g1 g2
          obtain ⟨i3, i4⟩ := hq3 k hk'
          have hok : pOk ch L (posK (pNx ch L) k) = true := by
            cases hp : pOk ch L (posK (pNx ch L) k) with
            | true => rfl
            | false => simp [whyB, hp] at i4
          refine g_iload_n (i := 3) hX dX8_enter_45 rfl rfl rfl ?_
          refine g_iload_n (i := 2) hX dX8_enter_46 rfl rfl rfl ?_
          first | refine g_icmp_geN (tgt := 81) hX dX8_enter_47 (by decide) rfl (by omega) (by omega) (fun zc47 => absurd zc47 (by omega)) (fun zc47 => ?_) | refine g_icmp_ge (tgt := 81) hX dX8_enter_47 (by decide) rfl (fun zc47 => absurd zc47 (by omega)) (fun zc47 => ?_)
          refine g_aload_n (i := 0) hX dX8_enter_50 rfl rfl rfl ?_
          refine g_callVi hX (c_X8_readsComment E M1 ch L (posK (pNx ch L) k) (g1.T (hTB _)) g2 (Nat.le_of_lt i3)) kf_X8_readsComment rfl wk_X8_141 rfl rfl rfl rfl rfl dX8_enter_51 rfl (fun x51 M51 h51 => ?_)
          obtain ⟨rfl, r1, r2⟩ := h51
          obtain ⟨r5, r6, r7, r8⟩ := r2 hok
          have e131 : M51 131 = entN (M 131) ch L nk m k := (r1.1 131 (by decide)).trans ((g1.1 131 (by decide)).trans (gset_eq _ _ _))
          refine g_istore hX dX8_enter_54 (Nat.le_of_ble_eq_true rfl) rfl ?_
          refine g_aload_n (i := 0) hX dX8_enter_56 rfl rfl rfl ?_
          refine g_iload_n (i := 1) hX dX8_enter_57 rfl rfl rfl ?_
          refine g_aload_n (i := 0) hX dX8_enter_58 rfl rfl rfl ?_
          refine g_getIv (x := nI (pCl ch L (posK (pNx ch L) k))) hX fl_X8_126 rfl rfl (r6) dX8_enter_59 rfl ?_
          refine g_aload_n (i := 0) hX dX8_enter_62 rfl rfl rfl ?_
          refine g_getIv (x := nI (pKd ch L (posK (pNx ch L) k))) hX fl_X8_129 rfl rfl (r7) dX8_enter_63 rfl ?_
          refine g_aload_n (i := 0) hX dX8_enter_66 rfl rfl rfl ?_
          refine g_getIv (x := nI (pVal ch L (posK (pNx ch L) k))) hX fl_X8_135 rfl rfl (r8) dX8_enter_67 rfl ?_
          refine g_callVi hX (c_X8_comes E M51 (nk + k) m _ _ _ (by rw [e131]; exact entN_9 hk k) (by omega)) kf_X8_comes rfl wk_X8_87 rfl rfl rfl rfl rfl dX8_enter_70 rfl (fun x70 M70 h70 => ?_)
          obtain ⟨rfl, hMq⟩ := h70; have hMq := hMq.symm; subst hMq
          refine g_istore hX dX8_enter_73 (Nat.le_of_ble_eq_true rfl) rfl ?_
          first | refine g_iincN hX dX8_enter_75 ic_1 rfl (Nat.le_of_ble_eq_true rfl) rfl ?_ | refine g_iinc hX dX8_enter_75 ic_1 rfl rfl (Nat.le_of_ble_eq_true rfl) rfl ?_
          refine g_goto (n := 45) hX dX8_enter_78 (by decide) ?_
          exact ih _ _ _ (by
          refine ⟨fun a ha => ?_, fun j hj => ?_⟩
          · by_cases h1 : a = 131
            · subst h1; rw [gset_eq, gset_eq, e131]; rfl
            · rw [gset_ne _ _ h1, gset_ne _ _ h1]; exact (r1.1 a ha).trans ((g1.1 a ha).trans (gset_ne _ _ h1))
          · rw [gset_ne _ _ (by decide), gset_ne _ _ (by decide)]; exact (r1.2 j (by omega)).trans ((g1.2 j hj).trans (by rw [gset_ne _ _ (by decide)]))) (by rw [gset_ne _ _ (by decide)]; exact r5)
      · skip
        refine g_aload_n (i := 0) hX dX8_enter_0 rfl rfl rfl ?_
        refine g_iload_n (i := 1) hX dX8_enter_1 rfl rfl rfl ?_
        refine g_callVi hX (c_X8_isMember E M m nm hm hmb) kf_X8_isMember rfl wk_X8_51 rfl rfl rfl rfl rfl dX8_enter_2 rfl (fun x2 M2 h2 => ?_)
        obtain ⟨rfl, hMq⟩ := h2; have hMq := hMq.symm; subst hMq
        first | refine g_if_neB (tgt := 10) hX dX8_enter_5 (by decide) rfl (fun zc5 => ?_) (fun zc5 => Bool.noConfusion (hin.symm.trans zc5)) | refine g_if_ne (tgt := 10) hX dX8_enter_5 (by decide) rfl (fun zc5 => ?_) (fun zc5 => Bool.noConfusion (hin.symm.trans zc5))
        refine g_aload_n (i := 0) hX dX8_enter_10 rfl rfl rfl ?_
        refine g_getR hX fl_X8_7 rfl rfl dX8_enter_11 rfl ?_
        refine g_iconst hX dX8_enter_14 ic_4 rfl ?_
        refine g_ialdv (x := nI 1) hX rfl (rfl) (by omega) rfl (hop) dX8_enter_15 rfl ?_
        refine g_if_eq (tgt := 26) hX dX8_enter_16 (by decide) rfl (fun zc16 => absurd zc16 (by decide)) (fun zc16 => ?_)
        refine g_aload_n (i := 0) hX dX8_enter_19 rfl rfl rfl ?_
        refine g_callVi hX (c_X8_hasFault E M ch L nc nk hT hc hcb hk hkb) kf_X8_hasFault rfl wk_X8_150 rfl rfl rfl rfl rfl dX8_enter_20 rfl (fun x20 M20 h20 => ?_)
        obtain ⟨rfl, r1, r2, r3⟩ := h20
        rw [decide_eq_true hz]
        refine g_if_eq (tgt := 29) hX dX8_enter_23 (by decide) rfl (fun zc23 => absurd zc23 (by decide)) (fun zc23 => ?_)
        refine g_bipush hX dX8_enter_26 bc_m2 rfl ?_
        refine g_iret hX hR dX8_enter_28 ?_
        unfold y_enter; rw [if_pos hin, if_neg (fun q => hz q.2)]; exact ⟨rfl, r1⟩

