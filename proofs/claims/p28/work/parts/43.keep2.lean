/-! the invariant is kept: days, ends, resolutions, editions, appeals -/
section
variable {M : gM} {nm nc nk ne nb td : Nat} {op br : Bool} {mb pl : Nat → Nat}
theorem J.passed (h : J M nm nc nk ne nb td op br mb pl) {j : Nat} (h1 : td + j ≤ 10000) (h2 : op = true → nI (td + j) < M 14 4) : J (gset M 1 (upd (M 1) 5 (nI (td + j)))) nm nc nk ne nb (td + j) op br mb pl := by
  refine ⟨h.ws, h.wt, h.gv, h.hb, ⟨by show upd (M 1) 5 (nI (td + j)) 5 = _; exact upd_s _ _ _, h1⟩, fun q => Nat.le_trans (h.hn q) (Nat.le_add_right _ _), fun q => ?_, h.bv, h.nu, h.as, h.pv, fun c hc => ?_, h.st, h.sm, h.n0, h.e12, h.brp, h.ed, h.now, h.beg, h.beh⟩
  · obtain ⟨o1, o2, o3, en, e1, e2, e3, e4⟩ := h.ho q
    have h3 := h2 q
    rw [e1] at h3
    exact ⟨o1, o2, o3, en, e1, (nI_ltI (by omega) (by omega)).mp h3, e3, e4⟩
  · obtain ⟨c1, c2, c3, c4, c5, c6⟩ := h.cm c hc
    refine ⟨c1, c2, c3, c4, fun q => ⟨(c5 q).1, ?_⟩, c6⟩
    show M 22 c ≤ upd (M 1) 5 (nI (td + j)) 5
    rw [upd_s]
    have h3 := (c5 q).2
    rw [h.ht.1] at h3
    exact Int32.le_trans h3 (nI_le (by omega) (by omega))
theorem mapTo_lt {k j : Nat} {g r : Nat → Int32} (h : j < k) : mapTo k g r j = g j := if_pos h
theorem J.ended (h : J M nm nc nk ne nb td op br mb pl) (ho : op = true) {t : Nat} (h1 : t ≤ 10000) (h2 : ¬ nI t < M 14 4) : ∃ nk', J (m_end (gset M 1 (upd (M 1) 5 (nI t))) nm nk) nm nc nk' ne nb t false false mb pl := by
  obtain ⟨a, b, ⟨c1, c2⟩, d, e, f⟩ := h.ws
  have hbr := (h.ho ho).2.1
  have hnow := h.now (h.pend0 ho)
  subst ho; subst hbr
  obtain ⟨o1, -, o3, en, e1, e2, e3, e4⟩ := h.ho rfl
  have hnb : nb ≤ t := by
    rw [e1] at h2
    have h3 : ¬ t < en := fun q => h2 (nI_lt q (by omega))
    omega
  have bv : ∀ k, k < nm → ∃ v, mapTo nm (fun k => if M 5 k = -1 then M 6 k else M 6 k + 1) (M 6) k = nI v ∧ v + 0 ≤ nb := fun k hk => by
    obtain ⟨v, hv, hv2⟩ := h.bv k hk
    have hv3 : v + 1 ≤ nb := hv2
    rw [mapTo_lt hk]
    show ∃ v, (if M 5 k = -1 then M 6 k else M 6 k + 1) = nI v ∧ v + 0 ≤ nb
    split
    · exact ⟨v, hv, by omega⟩
    · exact ⟨v + 1, by rw [hv]; exact nI_1 v, by omega⟩
  obtain ⟨ta, tr, ty, tn, ts, T⟩ := tal_ex nk a.2 h.wt
  have hed : ∀ e, 2 ≤ e → e ≤ ne → EdOk M nc ne nb false e := h.ed
  have hcar : ∀ q : Bool, carB (talM M nk nm) (M 25) = q → ∀ n', (q = true ∨ n' = 0) → ∃ a r y n s q : Nat, (talX M nk nm 0 = nI a ∧ talX M nk nm 1 = nI r ∧ talX M nk nm 2 = nI y ∧ talX M nk nm 3 = nI n ∧ talX M nk nm 4 = nI s ∧ talX M nk nm 5 = nI q) ∧ r = y + n + s ∧ r ≤ a ∧ a ≤ 90 ∧ (q = 1 ∨ q = 0 ∧ n' = 0) := fun q hq n' hn' => by
    refine ⟨ta, tr, ty, tn, ts, if q then 1 else 0, ⟨?_, ?_, ?_, ?_, ?_, ?_⟩, T.hs, T.hr, T.ha, ?_⟩
    · rw [talX_4 (by decide)]; exact T.e0
    · rw [talX_4 (by decide)]; exact T.e1
    · rw [talX_4 (by decide)]; exact T.e2
    · rw [talX_4 (by decide)]; exact T.e3
    · rw [talX_4 (by decide)]; exact T.e4
    · rw [talX_5, hq]; cases q <;> rfl
    · cases q with
      | true => exact Or.inl rfl
      | false => exact Or.inr ⟨rfl, hn'.resolve_left (by decide)⟩
  unfold m_end
  split
  · next hc =>
    refine ⟨nk, ⟨a, b, ⟨c1, c2⟩, d, ⟨rfl, e.2⟩, f⟩, h.wt, h.gv, h.hb, ⟨by show upd (M 1) 5 (nI t) 5 = _; exact upd_s _ _ _, h1⟩, fun _ => hnb, fun q => (by cases q), bv, h.nu, h.as, h.pv, fun c hc => ?_, h.st, fun _ _ => hcar true hc nk (Or.inl rfl), fun q => (by omega), h.e12, fun q => (by cases q), hed, fun _ => hnow, h.beg, fun h0 k hk q => absurd (h.beh h0 k hk q).1 (by decide)⟩
    obtain ⟨k1, k2, -⟩ := h.cm c hc
    show (M 19 c = 0 ∨ M 19 c = 1) ∧ 0 ≤ M 20 c ∧ (false = true → mapTo nk (fun _ => 1) (M 21) c = 0) ∧ (false = false → mapTo nk (fun _ => 1) (M 21) c = 1 ∨ mapTo nk (fun _ => 1) (M 21) c = 2 ∨ mapTo nk (fun _ => 1) (M 21) c = 3 ∨ mapTo nk (fun _ => 1) (M 21) c = 4) ∧ (¬ mapTo nk (fun _ => 1) (M 21) c < 2 → 0 ≤ M 22 c ∧ M 22 c ≤ upd (M 1) 5 (nI t) 5) ∧ (gaveB (mapTo nk (fun _ => 1) (M 21) c) = true → 0 ≤ M 23 c) ∧ (mapTo nk (fun _ => 1) (M 21) c = 2 → M 23 c = M 20 c)
    rw [mapTo_lt hc]
    exact ⟨k1, k2, fun q => (by cases q), fun _ => Or.inl (by first | rfl | trivial), fun q => absurd (by decide) q, fun q => absurd q (by decide), fun q => absurd q (by decide)⟩
  · next hc =>
    refine ⟨0, ⟨a, b, ⟨rfl, by omega⟩, d, ⟨rfl, e.2⟩, fun k hk => absurd hk (Nat.not_lt_zero _)⟩, h.wt, h.gv, h.hb, ⟨by show upd (M 1) 5 (nI t) 5 = _; exact upd_s _ _ _, h1⟩, fun _ => hnb, fun q => (by cases q), bv, h.nu, h.as, h.pv, fun c hc => absurd hc (Nat.not_lt_zero _), h.st, fun _ _ => hcar false (Bool.not_eq_true _ ▸ hc) 0 (Or.inr rfl), fun q => (by omega), fun q => absurd q (Nat.lt_irrefl _), fun q => (by cases q), hed, fun _ => hnow, h.beg, fun h0 k hk q => absurd (h.beh h0 k hk q).1 (by decide)⟩
theorem gave_n {M : gM} {c p a : Nat} {d v : Int32} (h : a ≠ 9 ∧ a ≠ 16 ∧ a ≠ 21 ∧ a ≠ 22 ∧ a ≠ 23 ∧ a ≠ 24) : m_gave M c p d v a = M a := by
  obtain ⟨h1, h2, h3, h4, h5, h6⟩ := h
  unfold m_gave m_resolve
  split
  · rw [gset_ne _ _ h1, gset_ne _ _ h2, gset_ne _ _ h6, gset_ne _ _ h5, gset_ne _ _ h4, gset_ne _ _ h3]
  · rw [gset_ne _ _ h2, gset_ne _ _ h6, gset_ne _ _ h5, gset_ne _ _ h4, gset_ne _ _ h3]
theorem gave_21 (M : gM) (c p : Nat) (d v : Int32) : m_gave M c p d v 21 = upd (M 21) c (2 + d) := by unfold m_gave; split <;> rfl
theorem gave_22 (M : gM) (c p : Nat) (d v : Int32) : m_gave M c p d v 22 = upd (M 22) c (M 1 5) := by unfold m_gave; split <;> rfl
theorem gave_23 (M : gM) (c p : Nat) (d v : Int32) : m_gave M c p d v 23 = upd (M 23) c v := by unfold m_gave; split <;> rfl
theorem gave_16 (M : gM) (c p : Nat) (d v : Int32) : m_gave M c p d v 16 8 = M 16 8 := by unfold m_gave; split <;> rfl
theorem gave_9 (M : gM) (c p : Nat) (d v : Int32) : m_gave M c p d v 9 = if gaveB (2 + d) then upd (M 9) p v else M 9 := by unfold m_gave; split <;> rfl
theorem blk_out {base k j : Nat} {g r : Nat → Int32} (h : j < base ∨ base + k ≤ j) : blkTo base k g r j = r j := if_neg (by omega)
theorem blk_in {base k j : Nat} {g r : Nat → Int32} (h : j < k) : blkTo base k g r (base + j) = g j := by
  rw [blkTo, if_pos (by omega), Nat.add_sub_cancel_left]
theorem J.settled (h : J M nm nc nk ne nb td op br mb pl) (ho : op = false) {c d : Nat} {v : Int32} (hc : c < nk) (hp : M 21 c = 1) (hd : d ≤ 2) (hv : 0 ≤ v) (hv0 : d = 0 → v = M 20 c) : ∃ ne' br', J (m_settle M c (pl c) nc ne nk (nI d) v) nm nc nk ne' nb td false br' mb pl := by
  obtain ⟨a, ⟨b1, b2⟩, ⟨c1, c2⟩, ⟨d1, d2, d3⟩, ⟨e1, e2⟩, f⟩ := h.ws
  subst ho
  have hbr : br = false := by
    cases br with
    | false => rfl
    | true =>
      have h1 := (h.brp rfl).2.1
      have h2 := cnt0.mp h1 c hc
      simp [pendB, hp] at h2
  subst hbr
  have h0 : 0 < nb := Nat.pos_of_ne_zero (fun q => by have := (h.n0 q).1; omega)
  have he := h.e12 (by omega) rfl
  obtain ⟨N, hN⟩ : ∃ N, N = m_gave M c (pl c) (nI d) v := ⟨_, rfl⟩
  have N0 : ∀ a, a ≠ 9 ∧ a ≠ 16 ∧ a ≠ 21 ∧ a ≠ 22 ∧ a ≠ 23 ∧ a ≠ 24 → N a = M a := fun a ha => by rw [hN]; exact gave_n ha
  have N21 : N 21 = upd (M 21) c (2 + nI d) := by rw [hN]; exact gave_21 _ _ _ _ _
  have N22 : N 22 = upd (M 22) c (M 1 5) := by rw [hN]; exact gave_22 _ _ _ _ _
  have N23 : N 23 = upd (M 23) c v := by rw [hN]; exact gave_23 _ _ _ _ _
  have N16 : N 16 8 = M 16 8 := by rw [hN]; exact gave_16 _ _ _ _ _
  have N9 : N 9 = if gaveB (2 + nI d) then upd (M 9) (pl c) v else M 9 := by rw [hN]; exact gave_9 _ _ _ _ _
  have r1 := N0 1 (by decide)
  have r2 := N0 2 (by decide)
  have r3 := N0 3 (by decide)
  have r5 := N0 5 (by decide)
  have r6 := N0 6 (by decide)
  have r7 := N0 7 (by decide)
  have r8 := N0 8 (by decide)
  have r10 := N0 10 (by decide)
  have r11 := N0 11 (by decide)
  have r12 := N0 12 (by decide)
  have r13 := N0 13 (by decide)
  have r14 := N0 14 (by decide)
  have r15 := N0 15 (by decide)
  have r17 := N0 17 (by decide)
  have r18 := N0 18 (by decide)
  have r19 := N0 19 (by decide)
  have r20 := N0 20 (by decide)
  have r25 := N0 25 (by decide)
  have hcm : ∀ q, q < nk → CmOk N false q := fun q hq => by
    obtain ⟨k1, k2, k3, k4, k5, k6, k7⟩ := h.cm q hq
    simp only [CmOk, r19, r20, N21, N22, N23, r1]
    by_cases e : q = c
    · subst e
      simp only [upd_s]
      refine ⟨k1, k2, fun q => (by cases q), fun _ => ?_, fun _ => ⟨by rw [h.ht.1]; exact nI_pos' (by have := h.ht.2; omega), Int32.le_refl _⟩, fun _ => hv, fun q2 => hv0 ?_⟩
      · rcases (show d = 0 ∨ d = 1 ∨ d = 2 by omega) with rfl | rfl | rfl
        · exact Or.inr (Or.inl rfl)
        · exact Or.inr (Or.inr (Or.inl rfl))
        · exact Or.inr (Or.inr (Or.inr rfl))
      · rcases (show d = 0 ∨ d = 1 ∨ d = 2 by omega) with rfl | rfl | rfl
        · rfl
        · exact absurd q2 (by decide)
        · exact absurd q2 (by decide)
    · simp only [upd_n _ _ e]
      exact ⟨k1, k2, k3, fun _ => k4 rfl, k5, k6, k7⟩
  have hpv : ∀ k, k < nc → 0 ≤ N 9 k ∧ (0 < nb → 0 ≤ N 10 k) := fun k hk => by
    refine ⟨?_, fun q => by rw [r10]; exact (h.pv k hk).2 q⟩
    rw [N9]
    split
    · by_cases e : k = pl c
      · rw [e, upd_s]; exact hv
      · rw [upd_n _ _ e]; exact (h.pv k hk).1
    · exact (h.pv k hk).1
  have hbeh : ∀ k, k < nc → N 9 k ≠ M 10 k → ∃ q, q < nk ∧ pl q = k ∧ gaveB (N 21 q) = true ∧ N 23 q = N 9 k := fun k hk hne => by
    by_cases e : gaveB (2 + nI d) = true ∧ k = pl c
    · refine ⟨c, hc, e.2.symm, by rw [N21, upd_s]; exact e.1, ?_⟩
      rw [N23, upd_s, N9, if_pos e.1, e.2, upd_s]
    · have h9 : N 9 k = M 9 k := by
        rw [N9]
        split
        · next q => exact upd_n _ _ (fun q2 => e ⟨q, q2⟩)
        · rfl
      rw [h9] at hne ⊢
      obtain ⟨-, q, q1, q2, q3, q4⟩ := h.beh h0 k hk hne
      have q5 : q ≠ c := fun z => by
        rw [z, hp] at q3; exact absurd q3 (by decide)
      exact ⟨q, q1, q2, by rw [N21, upd_n _ _ q5]; exact q3, by rw [N23, upd_n _ _ q5]; exact q4⟩
  have hf : ∀ k, k < nk → mb k < nm ∧ N 17 k = nI (mb k) ∧ pl k < nc ∧ N 18 k = nI (pl k) := by rw [r17, r18]; exact f
  unfold m_settle
  rw [← hN]
  split
  · next hb =>
    obtain ⟨hb1, hb2⟩ := hb
    have A12o : ∀ j, j < ne * 20 → blkTo (ne * 20) nc (N 9) (N 12) j = M 12 j := fun j hj => by rw [blk_out (Or.inl hj), r12]
    have dlo : ∀ e k, 2 ≤ e → e ≤ ne → k < nc → difB (blkTo (ne * 20) nc (N 9) (N 12)) e k = difB (M 12) e k := fun e k h2 h3 hk => by
      simp only [difB]
      rw [A12o _ (by omega), A12o _ (by omega)]
    have dhi : ∀ k, k < nc → difB (blkTo (ne * 20) nc (N 9) (N 12)) (ne + 1) k = true → N 9 k ≠ M 12 ((ne - 1) * 20 + k) := fun k hk q => by
      simp only [difB, Bool.and_eq_true, decide_eq_true_eq] at q
      have q2 := q.2
      rw [show ne + 1 - 1 = ne by omega, blk_in hk, A12o _ (by omega)] at q2
      exact q2
    have who : ∀ k, k < nc → difB (blkTo (ne * 20) nc (N 9) (N 12)) (ne + 1) k = true → ∃ q, q < nk ∧ blkTo (ne * 20) nc (behI (N 18) (N 21) (N 23) (N 24) (N 9) nk) (N 13) (ne * 20 + k) = nI q ∧ pl q = k ∧ gaveB (N 21 q) = true ∧ N 23 q = N 9 k := fun k hk q => by
      have h3 := dhi k hk q
      have h4 := h.beg h0 k hk
      rw [show ne - 1 - (if false = true then 1 else 0) = ne - 1 from rfl] at h4
      rw [← h4] at h3
      obtain ⟨q0, g1, g2, g3, g4⟩ := hbeh k hk h3
      obtain ⟨q1, hq1⟩ := behB_ex (M := N) (fun z hz => (hf z hz).2.2.2) g1 g2 g3 g4
      obtain ⟨w1, w2, w3, w4⟩ := behB_of (M := N) (pl := pl) (fun z hz => ⟨by have := (hf z hz).2.2.1; omega, (hf z hz).2.2.2⟩) (by omega) hq1
      refine ⟨q1, w1, ?_, w2, w3, w4⟩
      rw [blk_in hk]
      simp only [behI, hq1, optI]
    refine ⟨ne + 1, true, ⟨by rw [← r2] at a; exact a, ⟨?_, b2⟩, ⟨by rw [← N16] at c1; exact c1, c2⟩, ⟨?_, by omega, by omega⟩, ⟨?_, rfl⟩, hf⟩, ?_, ?_, ?_, ?_, h.hn, fun q => (by cases q), ?_, ?_, ?_, hpv, hcm, ?_, ?_, fun q => absurd q (by omega), fun _ q => (by cases q), fun _ => ⟨by omega, hb1, ?_, fun k hk q => ?_⟩, fun e h2 h3 => ?_, fun _ k hk => ?_, fun _ k hk => ?_, fun _ k hk q => ⟨rfl, hbeh k hk (by rw [← r10]; exact q)⟩⟩
    · show upd (N 7) 7 (nI (ne + 1)) 6 = nI nc
      rw [upd_n _ _ (by decide), r7]; exact b1
    · show upd (N 7) 7 (nI (ne + 1)) 7 = _
      exact upd_s _ _ _
    · show upd (N 14) 2 1 1 = gB false
      rw [upd_n _ _ (by decide), r14]; exact e1
    · show ∀ k, k < nm → ∃ w, N 3 k = nI w ∧ 1 ≤ w ∧ w ≤ 9
      rw [r3]; exact h.wt
    · show ∀ k, k < nm → N 5 k = -1 ∨ ∃ v, N 5 k = nI v ∧ v ≤ 2
      rw [r5]; exact h.gv
    · show upd (N 14) 2 1 3 = nI nb
      rw [upd_n _ _ (by decide), r14]; exact h.hb
    · show N 1 5 = nI td ∧ td ≤ 10000
      rw [r1]; exact h.ht
    · show ∀ k, k < nm → ∃ v, N 6 k = nI v ∧ v + 0 ≤ nb
      rw [r6]; exact h.bv
    · show ∀ k, k < nc → ∃ c, N 8 k = nI c ∧ 1 ≤ c ∧ c ≤ 99
      rw [r8]; exact h.nu
    · show ∀ j k, j < k → k < nc → N 8 j < N 8 k
      rw [r8]; exact h.as
    · show ∀ j, j < 5 → setOK j (N 25 j) = true
      rw [r25]; exact h.st
    · show false = false → 0 < nb → SmOk N nk
      simp only [SmOk, r15]; exact fun _ => h.sm rfl
    · show upd (N 11) ne (N 14 3) (ne + 1 - 1) = nI nb
      rw [show ne + 1 - 1 = ne by omega, upd_s, r14]; exact h.hb
    · have q2 : difB (blkTo (ne * 20) nc (N 9) (N 12)) (ne + 1) k = true := q
      obtain ⟨q1, w1, w2, w3, w4, w5⟩ := who k hk q2
      refine ⟨q1, w1, ?_, w3, w4, ?_⟩
      · show blkTo (ne * 20) nc (behI (N 18) (N 21) (N 23) (N 24) (N 9) nk) (N 13) ((ne + 1 - 1) * 20 + k) = nI q1
        rw [show ne + 1 - 1 = ne by omega]; exact w2
      · show N 23 q1 = blkTo (ne * 20) nc (N 9) (N 12) ((ne + 1 - 1) * 20 + k)
        rw [show ne + 1 - 1 = ne by omega, blk_in hk]; exact w5
    · show (∃ b, upd (N 11) ne (N 14 3) (e - 1) = nI b ∧ 1 ≤ b ∧ b ≤ nb ∧ (b = nb → true = true ∧ e = ne + 1)) ∧ (∃ k, k < nc ∧ difB (blkTo (ne * 20) nc (N 9) (N 12)) e k = true) ∧ ∀ k, k < nc → difB (blkTo (ne * 20) nc (N 9) (N 12)) e k = true → ∃ c, c < 30 ∧ blkTo (ne * 20) nc (behI (N 18) (N 21) (N 23) (N 24) (N 9) nk) (N 13) ((e - 1) * 20 + k) = nI c
      by_cases e9 : e = ne + 1
      · subst e9
        refine ⟨⟨nb, ?_, h0, Nat.le_refl _, fun _ => ⟨rfl, rfl⟩⟩, ?_, fun k hk q => ?_⟩
        · rw [show ne + 1 - 1 = ne by omega, upd_s, r14]; exact h.hb
        · obtain ⟨k, hk, hq⟩ := anyTo_true.mp hb2
          refine ⟨k, hk, ?_⟩
          simp only [decide_eq_true_eq] at hq
          simp only [difB, Bool.and_eq_true, decide_eq_true_eq]
          refine ⟨by omega, ?_⟩
          rw [show ne + 1 - 1 = ne by omega, blk_in hk, A12o _ (by omega), ← r12]
          exact hq
        · obtain ⟨q1, w1, w2, -⟩ := who k hk q
          rw [show ne + 1 - 1 = ne by omega]
          exact ⟨q1, by omega, w2⟩
      · obtain ⟨⟨b0, g1, g2, g3, g4⟩, ⟨k, g5, g6⟩, g7⟩ := h.ed e h2 (by omega)
        refine ⟨⟨b0, by rw [upd_n _ _ (by omega), r11]; exact g1, g2, g3, fun q => absurd (g4 q).1 (by decide)⟩, ⟨k, g5, by rw [dlo e k h2 (by omega) g5]; exact g6⟩, fun k hk q => ?_⟩
        rw [dlo e k h2 (by omega) hk] at q
        rw [blk_out (Or.inl (by omega)), r13]
        exact g7 k hk q
    · show N 9 k = blkTo (ne * 20) nc (N 9) (N 12) ((ne + 1 - 1) * 20 + k)
      rw [show ne + 1 - 1 = ne by omega, blk_in hk]
    · show N 10 k = blkTo (ne * 20) nc (N 9) (N 12) ((ne + 1 - 1 - (if true = true then 1 else 0)) * 20 + k)
      rw [show ne + 1 - 1 - (if true = true then 1 else 0) = ne - 1 from rfl, A12o _ (by omega), r10]
      exact h.beg h0 k hk
  · next hb =>
    refine ⟨ne, false, ⟨by rw [← r2] at a; exact a, by rw [← r7] at b1; exact ⟨b1, b2⟩, ⟨by rw [← N16] at c1; exact c1, c2⟩, by rw [← r7] at d1; exact ⟨d1, d2, d3⟩, by rw [← r14] at e1 e2; exact ⟨e1, e2⟩, hf⟩, by rw [r3]; exact h.wt, by rw [r5]; exact h.gv, by rw [r14]; exact h.hb, by rw [r1]; exact h.ht, h.hn, fun q => (by cases q), by rw [r6]; exact h.bv, by rw [r8]; exact h.nu, by rw [r8]; exact h.as, hpv, hcm, by rw [r25]; exact h.st, by simp only [SmOk, r15]; exact fun _ => h.sm rfl, h.n0, h.e12, fun q => (by cases q), by simp only [EdOk, r11, r12, r13]; exact h.ed, fun q k hk => ?_, by rw [r10, r12]; exact h.beg, fun _ k hk q => ⟨rfl, hbeh k hk (by rw [← r10]; exact q)⟩⟩
    have hb2 : chgB N nc ne = false := by
      cases z : chgB N nc ne with
      | false => rfl
      | true => exact absurd ⟨q, z⟩ hb
    have := anyTo_false.mp hb2 k hk
    simpa using this
theorem J.reopened (h : J M nm nc nk ne nb td op br mb pl) (ho : op = false) {c : Nat} (hc : c < nk) (hr : ¬ M 21 c < 2) : ∃ ne', (ne' = ne ∨ ne' = ne - 1) ∧ J (m_reopen M c (pl c) nk ne br) nm nc nk ne' nb td false false mb pl ∧ m_reopen M c (pl c) nk ne br 21 = upd (M 21) c 1 := by
  obtain ⟨a, ⟨b1, b2⟩, ⟨c1, c2⟩, ⟨d1, d2, d3⟩, ⟨e1, e2⟩, f⟩ := h.ws
  subst ho
  have h0 : 0 < nb := Nat.pos_of_ne_zero (fun q => by have := (h.n0 q).1; omega)
  obtain ⟨T, hT⟩ : ∃ T, T = m_taken M c (pl c) nk := ⟨_, rfl⟩
  have T0 : ∀ a, a ≠ 9 ∧ a ≠ 21 → T a = M a := fun a ha => by
    rw [hT]; unfold m_taken
    split
    · rw [gset_ne _ _ ha.1, gset_ne _ _ ha.2]
    · rw [gset_ne _ _ ha.2]
  have T21 : T 21 = upd (M 21) c 1 := by rw [hT]; unfold m_taken; split <;> rfl
  have T9 : T 9 = if takB M c (pl c) nk then upd (M 9) (pl c) (M 10 (pl c)) else M 9 := by rw [hT]; unfold m_taken; split <;> rfl
  have r1 := T0 1 (by decide)
  have r2 := T0 2 (by decide)
  have r3 := T0 3 (by decide)
  have r5 := T0 5 (by decide)
  have r6 := T0 6 (by decide)
  have r7 := T0 7 (by decide)
  have r8 := T0 8 (by decide)
  have r10 := T0 10 (by decide)
  have r11 := T0 11 (by decide)
  have r12 := T0 12 (by decide)
  have r13 := T0 13 (by decide)
  have r14 := T0 14 (by decide)
  have r15 := T0 15 (by decide)
  have r16 := T0 16 (by decide)
  have r17 := T0 17 (by decide)
  have r18 := T0 18 (by decide)
  have r19 := T0 19 (by decide)
  have r20 := T0 20 (by decide)
  have r22 := T0 22 (by decide)
  have r23 := T0 23 (by decide)
  have r25 := T0 25 (by decide)
  have hcm : ∀ q, q < nk → CmOk T false q := fun q hq => by
    obtain ⟨k1, k2, k3, k4, k5, k6, k7⟩ := h.cm q hq
    simp only [CmOk, r19, r20, T21, r22, r23, r1]
    by_cases e : q = c
    · subst e
      simp only [upd_s]
      exact ⟨k1, k2, fun q => (by cases q), fun _ => Or.inl (by first | rfl | trivial), fun q => absurd (by decide) q, fun q => absurd q (by decide), fun q => absurd q (by decide)⟩
    · simp only [upd_n _ _ e]
      exact ⟨k1, k2, k3, fun _ => k4 rfl, k5, k6, k7⟩
  have hpv : ∀ k, k < nc → 0 ≤ T 9 k ∧ (0 < nb → 0 ≤ T 10 k) := fun k hk => by
    refine ⟨?_, fun q => by rw [r10]; exact (h.pv k hk).2 q⟩
    rw [T9]
    split
    · by_cases e : k = pl c
      · rw [e, upd_s]; exact (h.pv _ (f c hc).2.2.1).2 h0
      · rw [upd_n _ _ e]; exact (h.pv k hk).1
    · exact (h.pv k hk).1
  have hbeh : ∀ k, k < nc → T 9 k ≠ M 10 k → ∃ q, q < nk ∧ pl q = k ∧ gaveB (T 21 q) = true ∧ M 23 q = T 9 k := fun k hk hne => by
    by_cases tk : takB M c (pl c) nk = true
    · rw [if_pos tk] at T9
      by_cases e : k = pl c
      · rw [T9, e, upd_s] at hne; exact absurd rfl hne
      · rw [T9, upd_n _ _ e] at hne ⊢
        obtain ⟨-, q, q1, q2, q3, q4⟩ := h.beh h0 k hk hne
        have q5 : q ≠ c := fun z => e (by rw [← q2, z])
        exact ⟨q, q1, q2, by rw [T21, upd_n _ _ q5]; exact q3, q4⟩
    · rw [if_neg tk] at T9
      rw [T9] at hne ⊢
      obtain ⟨-, q, q1, q2, q3, q4⟩ := h.beh h0 k hk hne
      by_cases q5 : q = c
      · subst q5
        have hnn : ∃ z, bestTo nk (behB (M 18) (upd (M 21) q 1) (M 23) (nI (pl q)) (M 9 (pl q))) (turnB (M 24)) = some z := by
          cases hz : bestTo nk (behB (M 18) (upd (M 21) q 1) (M 23) (nI (pl q)) (M 9 (pl q))) (turnB (M 24)) with
          | some z => exact ⟨z, rfl⟩
          | none => exact absurd (by simp only [takB, hz, q3]; rfl) tk
        obtain ⟨z, hz⟩ := hnn
        obtain ⟨w1, w2, w3, w4⟩ := behB_of (M := gset M 21 (upd (M 21) q 1)) (pl := pl) (k := pl q) (fun z hz => ⟨by have := (f z hz).2.2.1; omega, (f z hz).2.2.2⟩) (by have := (f q q1).2.2.1; omega) hz
        refine ⟨z, w1, w2.trans q2, by rw [T21]; exact w3, ?_⟩
        rw [← q2]; exact w4
      · exact ⟨q, q1, q2, by rw [T21, upd_n _ _ q5]; exact q3, q4⟩
  have hf : ∀ k, k < nk → mb k < nm ∧ T 17 k = nI (mb k) ∧ pl k < nc ∧ T 18 k = nI (pl k) := by rw [r17, r18]; exact f
  have hpend : ¬ cntTo nk (pendB (upd (M 21) c 1)) = 0 := fun q => by
    have := cnt0.mp q c hc
    simp [pendB, upd_s] at this
  unfold m_reopen
  rw [← hT]
  cases br with
  | true =>
    obtain ⟨g1, g2, g3, -⟩ := h.brp rfl
    refine ⟨ne - 1, Or.inr rfl, ⟨⟨by rw [← r2] at a; exact a, ⟨?_, b2⟩, by rw [← r16] at c1; exact ⟨c1, c2⟩, ⟨?_, by omega, by omega⟩, ⟨?_, rfl⟩, hf⟩, ?_, ?_, ?_, ?_, h.hn, fun q => (by cases q), ?_, ?_, ?_, hpv, hcm, ?_, ?_, fun q => absurd q (by omega), fun _ _ => by omega, fun q => (by cases q), fun e h2 h3 => ?_, fun q => ?_, fun _ k hk => ?_, fun _ k hk q => ⟨rfl, ?_⟩⟩, T21⟩
    · show upd (M 7) 7 (nI (ne - 1)) 6 = nI nc
      rw [upd_n _ _ (by decide)]; exact b1
    · show upd (M 7) 7 (nI (ne - 1)) 7 = _
      exact upd_s _ _ _
    · show upd (M 14) 2 0 1 = gB false
      rw [upd_n _ _ (by decide)]; exact e1
    · show ∀ k, k < nm → ∃ w, T 3 k = nI w ∧ 1 ≤ w ∧ w ≤ 9
      rw [r3]; exact h.wt
    · show ∀ k, k < nm → T 5 k = -1 ∨ ∃ v, T 5 k = nI v ∧ v ≤ 2
      rw [r5]; exact h.gv
    · show upd (M 14) 2 0 3 = nI nb
      rw [upd_n _ _ (by decide)]; exact h.hb
    · show T 1 5 = nI td ∧ td ≤ 10000
      rw [r1]; exact h.ht
    · show ∀ k, k < nm → ∃ v, T 6 k = nI v ∧ v + 0 ≤ nb
      rw [r6]; exact h.bv
    · show ∀ k, k < nc → ∃ c, T 8 k = nI c ∧ 1 ≤ c ∧ c ≤ 99
      rw [r8]; exact h.nu
    · show ∀ j k, j < k → k < nc → T 8 j < T 8 k
      rw [r8]; exact h.as
    · show ∀ j, j < 5 → setOK j (T 25 j) = true
      rw [r25]; exact h.st
    · show false = false → 0 < nb → SmOk T nk
      simp only [SmOk, r15]; exact fun _ => h.sm rfl
    · show EdOk T nc (ne - 1) nb false e
      simp only [EdOk, r11, r12, r13]
      obtain ⟨⟨b0, k1, k2, k3, k4⟩, k5, k6⟩ := h.ed e h2 (by omega)
      exact ⟨⟨b0, k1, k2, k3, fun q => absurd (k4 q).2 (by omega)⟩, k5, k6⟩
    · have q2 : cntTo nk (pendB (T 21)) = 0 := q
      rw [T21] at q2
      exact absurd q2 hpend
    · show T 10 k = T 12 ((ne - 1 - 1 - 0) * 20 + k)
      rw [r10, r12]; exact h.beg h0 k hk
    · have q2 : T 9 k ≠ T 10 k := q
      rw [r10] at q2
      obtain ⟨z, z1, z2, z3, z4⟩ := hbeh k hk q2
      refine ⟨z, z1, z2, z3, ?_⟩
      show T 23 z = T 9 k
      rw [r23]; exact z4
  | false =>
    refine ⟨ne, Or.inl rfl, ⟨⟨by rw [← r2] at a; exact a, by rw [← r7] at b1; exact ⟨b1, b2⟩, by rw [← r16] at c1; exact ⟨c1, c2⟩, by rw [← r7] at d1; exact ⟨d1, d2, d3⟩, by rw [← r14] at e1 e2; exact ⟨e1, e2⟩, hf⟩, ?_, ?_, ?_, ?_, h.hn, fun q => (by cases q), ?_, ?_, ?_, hpv, hcm, ?_, ?_, h.n0, h.e12, fun q => (by cases q), ?_, fun q => ?_, ?_, fun _ k hk q => ⟨rfl, ?_⟩⟩, T21⟩
    · show ∀ k, k < nm → ∃ w, T 3 k = nI w ∧ 1 ≤ w ∧ w ≤ 9
      rw [r3]; exact h.wt
    · show ∀ k, k < nm → T 5 k = -1 ∨ ∃ v, T 5 k = nI v ∧ v ≤ 2
      rw [r5]; exact h.gv
    · show T 14 3 = nI nb
      rw [r14]; exact h.hb
    · show T 1 5 = nI td ∧ td ≤ 10000
      rw [r1]; exact h.ht
    · show ∀ k, k < nm → ∃ v, T 6 k = nI v ∧ v + 0 ≤ nb
      rw [r6]; exact h.bv
    · show ∀ k, k < nc → ∃ c, T 8 k = nI c ∧ 1 ≤ c ∧ c ≤ 99
      rw [r8]; exact h.nu
    · show ∀ j k, j < k → k < nc → T 8 j < T 8 k
      rw [r8]; exact h.as
    · show ∀ j, j < 5 → setOK j (T 25 j) = true
      rw [r25]; exact h.st
    · show false = false → 0 < nb → SmOk T nk
      simp only [SmOk, r15]; exact fun _ => h.sm rfl
    · show ∀ e, 2 ≤ e → e ≤ ne → EdOk T nc ne nb false e
      simp only [EdOk, r11, r12, r13]; exact h.ed
    · have q2 : cntTo nk (pendB (T 21)) = 0 := q
      rw [T21] at q2
      exact absurd q2 hpend
    · show 0 < nb → ∀ k, k < nc → T 10 k = T 12 ((ne - 1 - (if false = true then 1 else 0)) * 20 + k)
      rw [r10, r12]; exact h.beg
    · have q2 : T 9 k ≠ T 10 k := q
      rw [r10] at q2
      obtain ⟨z, z1, z2, z3, z4⟩ := hbeh k hk q2
      refine ⟨z, z1, z2, z3, ?_⟩
      show T 23 z = T 9 k
      rw [r23]; exact z4
end

