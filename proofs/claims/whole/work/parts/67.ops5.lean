/-! undo, the text, faults of both -/
section
variable {M M2 : gM} {nm nc nk ne td no ol hs L : Nat} {op br : Bool} {mb pl : Nat → Nat} {ch : Nat → Nat}
theorem why_eq (R : RS (nowS M) (M 131) nm nc nk ne td no op br mb pl) : whyB (vNb (M 131)) (vPr (M 131)) ch L nc nk = whyB (M 8) (M 9) ch L nc nk := by
  funext k p
  unfold whyB
  split
  · rfl
  · rw [R.fnd8]
    cases hf : fndTo nc (fun q => decide (vNb (M 131) q = nI (pCl ch L p))) with
    | none => rfl
    | some q =>
      show (if vPr (M 131) q = nI (pVal ch L p) then 3 else if 30 ≤ nk + k then 4 else 0) = (if M 9 q = nI (pVal ch L p) then 3 else if 30 ≤ nk + k then 4 else 0)
      rw [show M 9 q = vPr (M 131) q from (R.cl q (fndTo_some hf).1).2.1]
theorem scan_eq (R : RS (nowS M) (M 131) nm nc nk ne td no op br mb pl) : scanM (M 131) ch L nc nk = scanX M ch L nc nk := by
  simp only [scanM, scanX]; rw [why_eq R]
/-- nothing but the two readers' fields touched -/
theorem Inv.rd (t1 : TxX M ch L) (t2 : TxM M ch L) (H : HI M ol hs) (R : RSe (nowS M) (M 131)) (h : ∀ a, a ≠ 128 → a ≠ 130 → M2 a = M a) (h1 : M2 128 1 = M 128 1) (h2 : ∀ j, j < 5 → M2 130 j = M 130 j) : Inv M2 := by
  refine ⟨ch, L, ol, hs, t1.of h1 (h 129 (by decide) (by decide)), ⟨by rw [h2 4 (by decide)]; exact t2.1, t2.2.1, fun i hi => by rw [h 133 (by decide) (by decide)]; exact t2.2.2 i hi⟩, H.same (fun a ha hb => h a (by omega) (by omega)) (h 132 (by decide) (by decide)) (h2 2 (by decide)), ?_⟩
  rw [h 131 (by decide) (by decide)]
  exact R.congr (fun j hj => h (1 + j) (by omega) (by omega)) (fun _ _ => rfl)
end
theorem op_fault (E : gE) (w : Int32) : opEq E k_X7_fault k_X8_fault [.int w] := by
  intro M hI
  obtain ⟨ch, L, ol, hs, t1, t2, H, nm, nc, nk, ne, td, no, op, br, mb, pl, R⟩ := id hI
  refine ⟨_, c_X7_fault E w R.WS t1, fun r M1 hr => ?_⟩
  obtain ⟨h1, h2, h3⟩ := hr
  have t2' : TxM M1 ch L := ⟨by rw [h2 130 (by decide)]; exact t2.1, t2.2.1, fun i hi => by rw [h2 133 (by decide)]; exact t2.2.2 i hi⟩
  refine ⟨_, c_X8_fault E M1 ch L nc nk w t2' (by rw [h2 131 (by decide)]; exact R.rc) R.bc (by rw [h2 131 (by decide)]; exact R.rk) R.bk, fun r' M2 hr' => ?_⟩
  obtain ⟨q1, q2, q3⟩ := hr'
  rw [h2 131 (by decide)] at q1
  refine ⟨?_, Inv.rd t1 t2 H ⟨_, _, _, _, _, _, _, _, _, _, R⟩ (fun a ha hb => (q2 a hb).trans (h2 a ha)) ((congrFun (q2 128 (by decide)) 1).trans h3) (fun j hj => (q3 j (Or.inl hj)).trans (congrFun (h2 130 (by decide)) j))⟩
  rw [q1, h1, y_fault, x_fault, scan_eq R]
theorem op_type (E : gE) (c : Int32) : opEq E k_X7_type k_X8_type [.int c] := by
  intro M hI
  obtain ⟨ch, L, ol, hs, t1, t2, H, R⟩ := id hI
  have hL := t1.2.1
  refine ⟨_, c_X7_type E c t1, fun r M1 hr => ?_⟩
  unfold x_type at hr
  by_cases c1 : inI c (nI 32) (nI 126) = true
  · rw [if_pos c1] at hr
    by_cases c2 : L = 80
    · rw [if_pos c2] at hr
      obtain ⟨rfl, rfl⟩ := Prod.mk.inj hr
      refine ⟨_, c_X8_type E M1 L c t2.1 hL, fun r' M2 hr' => ?_⟩
      rw [y_type, if_pos c1, if_pos c2] at hr'
      obtain ⟨rfl, rfl⟩ := Prod.mk.inj hr'
      exact ⟨rfl, hI⟩
    · rw [if_neg c2] at hr
      obtain ⟨rfl, h2⟩ := Prod.mk.inj hr
      have e : ∀ a, a ≠ 128 → a ≠ 129 → M1 a = M a := fun a ha hb => by rw [h2, gset_ne _ _ ha, gset_ne _ _ hb]
      refine ⟨_, c_X8_type E M1 L c (by rw [e 130 (by decide) (by decide)]; exact t2.1) hL, fun r' M2 hr' => ?_⟩
      rw [y_type, if_pos c1, if_neg c2, e 130 (by decide) (by decide), e 133 (by decide) (by decide)] at hr'
      obtain ⟨rfl, h2'⟩ := Prod.mk.inj hr'
      obtain ⟨q, q1, q2, rfl⟩ := inI_t (by decide) (by decide) c1
      have g : ∀ a, a ≠ 130 → a ≠ 133 → M2 a = M1 a := fun a ha hb => by rw [h2', gset_ne _ _ ha, gset_ne _ _ hb]
      have g30 : M2 130 = upd (M 130) 4 (nI (L + 1)) := by rw [h2', gset_eq]
      have g33 : M2 133 = upd (M 133) L (nI q) := by rw [h2', gset_ne _ _ (by decide), gset_eq]
      have g28 : M2 128 = upd (M 128) 1 (nI (L + 1)) := by rw [g 128 (by decide) (by decide), h2, gset_eq]
      have g29 : M2 129 = upd (M 129) L (nI q) := by rw [g 129 (by decide) (by decide), h2, gset_ne _ _ (by decide), gset_eq]
      refine ⟨rfl, fun i => if i = L then q else ch i, L + 1, ol, hs, ⟨by rw [g28, upd_s], by omega, fun i hi => ?_⟩, ⟨by rw [g30, upd_s], by omega, fun i hi => ?_⟩, H.same (fun a ha hb => (g a (by omega) (by omega)).trans (e a (by omega) (by omega))) ((g 132 (by decide) (by decide)).trans (e 132 (by decide) (by decide))) (by rw [g30, upd_n _ _ (by decide)]), ?_⟩
      · rw [g29]
        by_cases ei : i = L
        · subst ei; rw [upd_s]; simp only [if_pos]; exact ⟨trivial, q1, q2⟩
        · rw [upd_n _ _ ei]; simp only [if_neg ei]; exact t1.2.2 i (by omega)
      · rw [g33]
        by_cases ei : i = L
        · subst ei; rw [upd_s]; simp only [if_pos]; exact ⟨trivial, q1, q2⟩
        · rw [upd_n _ _ ei]; simp only [if_neg ei]; exact t2.2.2 i (by omega)
      · rw [g 131 (by decide) (by decide), e 131 (by decide) (by decide)]
        exact R.congr (fun j hj => (g (1 + j) (by omega) (by omega)).trans (e (1 + j) (by omega) (by omega))) (fun _ _ => rfl)
  · rw [if_neg c1] at hr
    obtain ⟨rfl, rfl⟩ := Prod.mk.inj hr
    refine ⟨_, c_X8_type E M1 L c t2.1 hL, fun r' M2 hr' => ?_⟩
    rw [y_type, if_neg c1] at hr'
    obtain ⟨rfl, rfl⟩ := Prod.mk.inj hr'
    exact ⟨rfl, hI⟩
theorem op_clearText (E : gE) : opEq E k_X7_clearText k_X8_clearText [] := by
  intro M hI
  obtain ⟨ch, L, ol, hs, t1, t2, H, R⟩ := id hI
  refine ⟨_, c_X7_clearText E, fun r M1 hr => ?_⟩
  obtain ⟨h1, h2⟩ := hr
  have e : ∀ a, a ≠ 128 → M1 a = M a := fun a ha => by rw [h2, gset_ne _ _ ha]
  refine ⟨_, c_X8_clearText E M1 L (by rw [e 130 (by decide)]; exact t2.1), fun r' M2 hr' => ?_⟩
  rw [y_clear, e 130 (by decide)] at hr'
  obtain ⟨rfl, h2'⟩ := Prod.mk.inj hr'
  have g : ∀ a, a ≠ 130 → M2 a = M1 a := fun a ha => by rw [h2', gset_ne _ _ ha]
  refine ⟨(h1.trans t1.1).symm, ch, 0, ol, hs, ⟨by rw [g 128 (by decide), h2, gset_eq, upd_s]; rfl, by decide, fun i hi => absurd hi (by omega)⟩, ⟨by rw [h2', gset_eq, upd_s]; rfl, by decide, fun i hi => absurd hi (by omega)⟩, H.same (fun a ha hb => (g a (by omega)).trans (e a (by omega))) ((g 132 (by decide)).trans (e 132 (by decide))) (by rw [h2', gset_eq, upd_n _ _ (by decide)]), ?_⟩
  rw [g 131 (by decide), e 131 (by decide)]
  exact R.congr (fun j hj => (g (1 + j) (by omega)).trans (e (1 + j) (by omega))) (fun _ _ => rfl)
theorem op_undo (E : gE) : opEq E k_X7_undo k_X8_undo [] := by
  intro M hI
  obtain ⟨ch, L, ol, hs, t1, t2, H, R⟩ := id hI
  obtain ⟨hW, hsv, hp⟩ := id H
  obtain ⟨a1, a2, a3, a4⟩ := id hW
  refine ⟨_, c_X7_undo E hW (fun h0 => ?_), fun r M1 hr => ?_⟩
  · obtain ⟨_, _, _, _, _, _, o, b, _, _, R'⟩ := hp (hs - 1) (by omega)
    exact ⟨(show M (hisB ((ol + (hs - 1)) % 4) + 13) 1 = gB o from R'.so) ▸ gB_01 o, (show M (hisB ((ol + (hs - 1)) % 4) + 13) 2 = gB b from R'.sb) ▸ gB_01 b⟩
  · unfold x_undo at hr
    by_cases c1 : hs = 0
    · rw [if_pos c1] at hr
      obtain ⟨rfl, rfl⟩ := Prod.mk.inj hr
      refine ⟨_, c_X8_undo E M1 hs hsv a4, fun r' M2 hr' => ?_⟩
      rw [if_pos c1] at hr'
      obtain ⟨rfl, rfl⟩ := Prod.mk.inj hr'
      exact ⟨rfl, hI⟩
    · rw [if_neg c1] at hr
      obtain ⟨rfl, h2⟩ := Prod.mk.inj hr
      have e : ∀ a, 26 ≤ a → a ≠ 126 → M1 a = M a := fun a ha hb => by rw [h2]; exact rest_ne (Or.inr ⟨ha, hb⟩)
      have e126 : M1 126 = upd (M 126) 2 (nI (hs - 1)) := by rw [h2]; simp only [m_rest]; rw [cpS_ne (by decide), gset_eq]
      have en : ∀ j, j < 25 → M1 (1 + j) = M (hisB ((ol + (hs - 1)) % 4) + j) := fun j hj => by
        rw [h2]; simp only [m_rest]; rw [cpS_eq hj, gset_ne _ _ (by simp only [hisB]; omega)]
      refine ⟨_, c_X8_undo E M1 hs (by rw [e 130 (by decide) (by decide)]; exact hsv) a4, fun r' M2 hr' => ?_⟩
      rw [if_neg c1] at hr'
      obtain ⟨rfl, h2'⟩ := Prod.mk.inj hr'
      have g : ∀ a, a ≠ 130 → a ≠ 131 → M2 a = M1 a := fun a ha hb => by rw [h2']; simp only [m_und]; rw [gset_ne _ _ hb, gset_ne _ _ ha]
      have g30 : M2 130 = upd (M 130) 2 (nI (hs - 1)) := by rw [h2']; simp only [m_und]; rw [gset_ne _ _ (by decide), gset_eq, e 130 (by decide) (by decide)]
      have g31 : M2 131 = fun k => M 132 (1213 * (hs - 1) + k) := by rw [h2']; simp only [m_und]; rw [gset_eq, e 132 (by decide) (by decide)]
      have gh : ∀ a, 26 ≤ a → a < 126 → M2 a = M a := fun a ha hb => (g a (by omega) (by omega)).trans (e a ha (by omega))
      refine ⟨rfl, ch, L, ol, hs - 1, t1.of (by rw [g 128 (by decide) (by decide), e 128 (by decide) (by decide)]) (by rw [g 129 (by decide) (by decide), e 129 (by decide) (by decide)]), ⟨by rw [g30, upd_n _ _ (by decide)]; exact t2.1, t2.2.1, fun i hi => by rw [g 133 (by decide) (by decide), e 133 (by decide) (by decide)]; exact t2.2.2 i hi⟩,
        ⟨⟨by rw [g 126 (by decide) (by decide), e126, upd_n _ _ (by decide)]; exact a1, a2, by rw [g 126 (by decide) (by decide), e126, upd_s], by omega⟩, by rw [g30, upd_s], fun i hi => ?_⟩, ?_⟩
      · refine (hp i (by omega)).congr (fun j hj => gh _ (by simp only [hisB]; omega) (by simp only [hisB]; omega)) (fun k hk => ?_)
        rw [g 132 (by decide) (by decide), e 132 (by decide) (by decide)]
      · rw [g31]
        exact (hp (hs - 1) (by omega)).congr (fun j hj => (g (1 + j) (by omega) (by omega)).trans (en j hj)) (fun _ _ => rfl)

