/-! the invariant is kept: members, clauses, settings, opening, votes, comments -/
section
variable {M : gM} {nm nc nk ne nb td : Nat} {op br : Bool} {mb pl : Nat → Nat}
theorem J.member (h : J M nm nc nk ne nb td op br mb pl) (hn : nm < 10) {w : Int32} (hw : inI w (nI 1) (nI 9) = true) : J (m_member M nm w) (nm + 1) nc nk ne nb td op br mb pl := by
  obtain ⟨⟨a1, a2⟩, b, c, d, e, f⟩ := h.ws
  obtain ⟨j, rfl, j1, j9⟩ := inI_n (by decide) (by decide) hw
  refine ⟨⟨⟨by show upd (M 2) 4 (nI (nm + 1)) 4 = _; exact upd_s _ _ _, by omega⟩, b, c, d, e, fun k hk => ⟨Nat.lt_succ_of_lt (f k hk).1, (f k hk).2⟩⟩, fun k hk => ?_, fun k hk => ?_, h.hb, h.ht, h.hn, h.ho, fun k hk => ?_, h.nu, h.as, h.pv, h.cm, h.st, h.sm, h.n0, h.e12, h.brp, h.ed, h.now, h.beg, h.beh⟩
  · show ∃ w, upd (M 3) nm (nI j) k = nI w ∧ 1 ≤ w ∧ w ≤ 9
    by_cases e : k = nm
    · subst e; exact ⟨j, upd_s _ _ _, j1, j9⟩
    · rw [upd_n _ _ e]; exact h.wt k (by omega)
  · show upd (M 5) nm (-1) k = -1 ∨ ∃ v, upd (M 5) nm (-1) k = nI v ∧ v ≤ 2
    by_cases e : k = nm
    · subst e; exact Or.inl (upd_s _ _ _)
    · rw [upd_n _ _ e]; exact h.gv k (by omega)
  · show ∃ v, upd (M 6) nm 0 k = nI v ∧ v + (if op then 1 else 0) ≤ nb
    by_cases e : k = nm
    · subst e
      refine ⟨0, upd_s _ _ _, ?_⟩
      cases op with
      | false => exact Nat.zero_le _
      | true => exact (h.ho rfl).1
    · rw [upd_n _ _ e]; exact h.bv k (by omega)
theorem insAt_lo {p n j : Nat} {x : Int32} {r : Nat → Int32} (h : j < p) : insAt p n x r j = r j := by
  rw [insAt, upd_n _ _ (by omega), shf_lo (by omega)]
theorem insAt_eq {p n : Nat} {x : Int32} {r : Nat → Int32} : insAt p n x r p = x := upd_s _ _ _
theorem insAt_hi {p n j : Nat} {x : Int32} {r : Nat → Int32} (h : p < j) (h2 : j ≤ n) : insAt p n x r j = r (j - 1) := by
  rw [insAt, upd_n _ _ (by omega), shf, if_pos ⟨h, h2⟩]
theorem J.clause (h : J M nm nc nk ne nb td op br mb pl) (hn : nc < 20) (h0 : nb = 0) {c v : Int32} {p : Nat} (hc : inI c (nI 1) (nI 99) = true) (hv : inI v (nI 0) (nI 9999) = true) (hf : fndTo nc (fun k => decide (M 8 k = c)) = none) (hp : insP (M 8) p nc c) : J (m_insert M p nc c v) nm (nc + 1) nk ne nb td op br mb pl := by
  obtain ⟨a, ⟨b1, b2⟩, c0, ⟨d1, d2⟩, e, f⟩ := h.ws
  obtain ⟨rfl, rfl, rfl, rfl⟩ := h.n0 h0
  subst h0
  obtain ⟨j, rfl, j1, j9⟩ := inI_n (by decide) (by decide) hc
  obtain ⟨v, rfl, -, v9⟩ := inI_n (by decide) (by decide) hv
  obtain ⟨p1, p2, p3⟩ := hp
  have hne : ∀ k, k < nc → M 8 k ≠ nI j := fun k hk q => by
    have := fndTo_none hf k hk
    simp [q] at this
  have lo : ∀ i, i < p → M 8 i < nI j := fun i hi => by
    rcases p3 with p3 | p3
    · omega
    · have h1 : M 8 (p - 1) ≤ nI j := Int32.not_lt.mp p3
      have h2 : M 8 (p - 1) < nI j := by
        rcases Int32.lt_or_eq_of_le h1 with h2 | h2
        · exact h2
        · exact absurd h2 (hne (p - 1) (by omega))
      by_cases e : i = p - 1
      · rw [e]; exact h2
      · exact Int32.lt_trans (h.as i (p - 1) (by omega) (by omega)) h2
  refine ⟨⟨a, ⟨by show upd (M 7) 6 (nI (nc + 1)) 6 = _; exact upd_s _ _ _, by omega⟩, c0, ⟨by show upd (M 7) 6 (nI (nc + 1)) 7 = _; rw [upd_n _ _ (by decide)]; exact d1, d2⟩, e, fun k hk => absurd hk (Nat.not_lt_zero _)⟩, h.wt, h.gv, h.hb, h.ht, h.hn, fun q => (by cases q), h.bv, fun k hk => ?_, fun i k hik hk => ?_, fun k hk => ⟨?_, fun q => absurd q (Nat.lt_irrefl _)⟩, fun c hc => absurd hc (Nat.not_lt_zero _), h.st, fun _ q => absurd q (Nat.lt_irrefl _), fun _ => ⟨rfl, rfl, rfl, rfl⟩, fun q => absurd q (Nat.lt_irrefl _), fun q => (by cases q), fun e h2 h1 => by omega, fun _ k hk => ?_, fun q => absurd q (Nat.lt_irrefl _), fun q => absurd q (Nat.lt_irrefl _)⟩
  · show ∃ c, insAt p nc (nI j) (M 8) k = nI c ∧ 1 ≤ c ∧ c ≤ 99
    rcases Nat.lt_trichotomy k p with q | q | q
    · rw [insAt_lo q]; exact h.nu k (by omega)
    · subst q; exact ⟨j, insAt_eq, j1, j9⟩
    · rw [insAt_hi q (by omega)]; exact h.nu (k - 1) (by omega)
  · show insAt p nc (nI j) (M 8) i < insAt p nc (nI j) (M 8) k
    rcases Nat.lt_trichotomy i p with q | q | q
    · rw [insAt_lo q]
      rcases Nat.lt_trichotomy k p with q2 | q2 | q2
      · rw [insAt_lo q2]; exact h.as i k hik (by omega)
      · subst q2; rw [insAt_eq]; exact lo i q
      · rw [insAt_hi q2 (by omega)]
        by_cases q3 : i = k - 1
        · omega
        · exact h.as i (k - 1) (by omega) (by omega)
    · subst q
      rw [insAt_eq, insAt_hi hik (by omega)]
      exact p2 (k - 1) (by omega) (by omega)
    · rw [insAt_hi q (by omega), insAt_hi (by omega) (by omega)]
      exact h.as (i - 1) (k - 1) (by omega) (by omega)
  · show 0 ≤ insAt p nc (nI v) (M 9) k
    rcases Nat.lt_trichotomy k p with q | q | q
    · rw [insAt_lo q]; exact (h.pv k (by omega)).1
    · subst q; rw [insAt_eq]; exact nI_pos' (by omega)
    · rw [insAt_hi q (by omega)]; exact (h.pv (k - 1) (by omega)).1
  · show insAt p nc (nI v) (M 9) k = insAt p nc (nI v) (M 12) ((1 - 1) * 20 + k)
    have E : ∀ k, k < nc → M 9 k = M 12 k := fun k hk => by
      have := h.now rfl k hk
      rw [show (1 - 1) * 20 + k = k by omega] at this
      exact this
    rw [show (1 - 1) * 20 + k = k by omega]
    rcases Nat.lt_trichotomy k p with q | q | q
    · rw [insAt_lo q, insAt_lo q]; exact E k (by omega)
    · subst q; rw [insAt_eq, insAt_eq]
    · rw [insAt_hi q (by omega), insAt_hi q (by omega)]; exact E (k - 1) (by omega)
theorem J.set (h : J M nm nc nk ne nb td op br mb pl) {j : Nat} {v : Int32} (hv : setOK j v = true) : J (gset M 25 (upd (M 25) j v)) nm nc nk ne nb td op br mb pl := by
  refine ⟨h.ws, h.wt, h.gv, h.hb, h.ht, h.hn, h.ho, h.bv, h.nu, h.as, h.pv, h.cm, fun i hi => ?_, h.sm, h.n0, h.e12, h.brp, h.ed, h.now, h.beg, h.beh⟩
  show setOK i (upd (M 25) j v i) = true
  by_cases e : i = j
  · subst e; rw [upd_s]; exact hv
  · rw [upd_n _ _ e]; exact h.st i hi
theorem J.st2 (h : J M nm nc nk ne nb td op br mb pl) : ∃ s, M 25 2 = nI s ∧ 1 ≤ s ∧ s ≤ 60 := inI_n (lo := 1) (hi := 60) (by decide) (by decide) (h.st 2 (by decide))
theorem J.opened (h : J M nm nc nk ne nb td op br mb pl) (ho : op = false) (hp : cntTo nk (pendB (M 21)) = 0) (he : ne < 12) : J (m_open M) nm nc 0 ne (nb + 1) td true false mb pl := by
  obtain ⟨a, b, ⟨c1, c2⟩, ⟨d1, d2, d3⟩, ⟨e1, e2⟩, f⟩ := h.ws
  subst ho
  obtain ⟨s, hs, s1, s60⟩ := h.st2
  have hn := h.hn rfl
  have E14 : ∀ j, m_open M 14 j = upd (upd (upd (upd (M 14) 1 1) 2 0) 3 (M 14 3 + 1)) 4 (M 1 5 + M 25 2) j := fun j => rfl
  have E16 : m_open M 16 8 = 0 := rfl
  refine ⟨⟨a, b, ⟨E16, by omega⟩, ⟨d1, d2, d3⟩, ⟨rfl, rfl⟩, fun k hk => absurd hk (Nat.not_lt_zero _)⟩, h.wt, fun k _ => Or.inl rfl, ?_, h.ht, fun q => (by cases q), fun _ => ⟨by omega, rfl, he, td + s, ?_, by omega, by omega, by have := h.ht.2; omega⟩, fun k hk => ?_, h.nu, h.as, fun k hk => ⟨(h.pv k hk).1, fun _ => (h.pv k hk).1⟩, fun c hc => absurd hc (Nat.not_lt_zero _), h.st, fun q => (by cases q), fun q => (by omega), fun q => absurd q (Nat.lt_irrefl _), fun q => (by cases q), fun e h2 h3 => ?_, fun _ => h.now hp, fun _ k hk => ?_, fun _ k hk q => absurd rfl q⟩
  · show M 14 3 + 1 = nI (nb + 1)
    rw [h.hb]; exact nI_1 nb
  · show M 1 5 + M 25 2 = nI (td + s)
    rw [h.ht.1, hs]; exact nI_add td s
  · obtain ⟨v, hv, h1⟩ := h.bv k hk
    exact ⟨v, hv, by simpa using h1⟩
  · obtain ⟨⟨b0, b1, b2, b3, -⟩, h4, h5⟩ := h.ed e h2 h3
    exact ⟨⟨b0, b1, b2, by omega, fun q => by omega⟩, h4, h5⟩
  · exact h.now hp k hk
theorem J.vote (h : J M nm nc nk ne nb td op br mb pl) {m v : Nat} (hv : v ≤ 2) : J (gset M 5 (upd (M 5) m (nI v))) nm nc nk ne nb td op br mb pl := by
  refine ⟨h.ws, h.wt, fun k hk => ?_, h.hb, h.ht, h.hn, h.ho, h.bv, h.nu, h.as, h.pv, h.cm, h.st, h.sm, h.n0, h.e12, h.brp, h.ed, h.now, h.beg, h.beh⟩
  show upd (M 5) m (nI v) k = -1 ∨ ∃ w, upd (M 5) m (nI v) k = nI w ∧ w ≤ 2
  by_cases e : k = m
  · subst e; rw [upd_s]; exact Or.inr ⟨v, rfl, hv⟩
  · rw [upd_n _ _ e]; exact h.gv k hk
theorem J.pend0 (h : J M nm nc nk ne nb td op br mb pl) (ho : op = true) : cntTo nk (pendB (M 21)) = 0 := cnt0.mpr (fun c hc => by
  have := (h.cm c hc).2.2.1 ho
  simp [pendB, this])
theorem J.comment (h : J M nm nc nk ne nb td op br mb pl) (ho : op = true) (hk : nk < 30) {m p : Nat} {k v : Int32} (hm : m < nm) (hp : p < nc) (hkd : inI k (nI 0) (nI 1) = true) (hv : inI v (nI 0) (nI 9999) = true) : J (m_comment M nk (nI m) (nI p) k v) nm nc (nk + 1) ne nb td op br (fun c => if c = nk then m else mb c) (fun c => if c = nk then p else pl c) := by
  obtain ⟨a, b, ⟨c1, c2⟩, d, e, f⟩ := h.ws
  obtain ⟨o1, o2, o3, o4⟩ := h.ho ho
  subst o2; subst ho
  obtain ⟨v, rfl, -, v9⟩ := inI_n (by decide) (by decide) hv
  obtain ⟨kd, rfl, -, k1⟩ := inI_n (by decide) (by decide) hkd
  refine ⟨⟨a, b, ⟨by show upd (M 16) 8 (nI (nk + 1)) 8 = _; exact upd_s _ _ _, by omega⟩, d, e, fun c hc => ?_⟩, h.wt, h.gv, h.hb, h.ht, h.hn, h.ho, h.bv, h.nu, h.as, h.pv, fun c hc => ?_, h.st, fun q => (by cases q), fun q => absurd q (by omega), fun _ _ => o3, fun q => (by cases q), h.ed, fun _ => h.now (h.pend0 rfl), h.beg, fun h0 k hk q => absurd (h.beh h0 k hk q).1 (by decide)⟩
  · show (if c = nk then m else mb c) < nm ∧ upd (M 17) nk (nI m) c = nI (if c = nk then m else mb c) ∧ (if c = nk then p else pl c) < nc ∧ upd (M 18) nk (nI p) c = nI (if c = nk then p else pl c)
    by_cases q : c = nk
    · subst q; simp only [if_true, upd_s]; exact ⟨hm, trivial, hp, trivial⟩
    · simp only [if_neg q, upd_n _ _ q]; exact f c (by omega)
  · show (upd (M 19) nk (nI kd) c = 0 ∨ upd (M 19) nk (nI kd) c = 1) ∧ 0 ≤ upd (M 20) nk (nI v) c ∧ (true = true → upd (M 21) nk 0 c = 0) ∧ (true = false → upd (M 21) nk 0 c = 1 ∨ upd (M 21) nk 0 c = 2 ∨ upd (M 21) nk 0 c = 3 ∨ upd (M 21) nk 0 c = 4) ∧ (¬ upd (M 21) nk 0 c < 2 → 0 ≤ M 22 c ∧ M 22 c ≤ M 1 5) ∧ (gaveB (upd (M 21) nk 0 c) = true → 0 ≤ M 23 c) ∧ (upd (M 21) nk 0 c = 2 → M 23 c = upd (M 20) nk (nI v) c)
    by_cases q : c = nk
    · subst q
      simp only [upd_s]
      refine ⟨?_, nI_pos' (by omega), fun _ => trivial, fun q => (by cases q), fun q => absurd (by decide) q, fun q => (by cases q), fun q => absurd q (by decide)⟩
      rcases (show kd = 0 ∨ kd = 1 by omega) with rfl | rfl
      · exact Or.inl rfl
      · exact Or.inr rfl
    · obtain ⟨k1, k2, k3, k4, k5, k6, k7⟩ := h.cm c (by omega)
      simp only [upd_n _ _ q]
      exact ⟨k1, k2, fun _ => k3 rfl, k4, k5, k6, k7⟩
end

