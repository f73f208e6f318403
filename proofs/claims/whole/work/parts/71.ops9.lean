/-! appeals of both -/
section
variable {M M1 : gM} {N : Nat → Int32} {nm nc nk ne td no ol hs L : Nat} {op br : Bool} {mb pl : Nat → Nat}
theorem nI_m1 {n : Nat} (h : 1 ≤ n) : nI n - 1 = nI (n - 1) := by
  have e : nI n = nI (n - 1) + 1 := by
    have := nI_add (n - 1) 1
    rw [show n - 1 + 1 = n by omega] at this
    exact this.symm
  rw [e, Int32.add_sub_cancel]
theorem st_cases {x : Int32} (h : inI x (nI 0) (nI 4) = true) : x = 0 ∨ x = 1 ∨ x = 2 ∨ x = 3 ∨ x = 4 := by
  obtain ⟨j, -, h2, rfl⟩ := inI_t (by decide) (by decide) h
  have : j = 0 ∨ j = 1 ∨ j = 2 ∨ j = 3 ∨ j = 4 := by omega
  rcases this with rfl | rfl | rfl | rfl | rfl
  · exact Or.inl rfl
  · exact Or.inr (Or.inl rfl)
  · exact Or.inr (Or.inr (Or.inl rfl))
  · exact Or.inr (Or.inr (Or.inr (Or.inl rfl)))
  · exact Or.inr (Or.inr (Or.inr (Or.inr rfl)))
theorem gave_ge {x : Int32} (h : gaveB x = true) : ¬ x < 2 := by
  simp only [gaveB, Bool.or_eq_true, decide_eq_true_eq] at h
  rcases h with rfl | rfl <;> decide
theorem best_eq {pr : Int32} {p : Nat} {s : Nat → Int32} {N2 : Nat → Int32} (hp : p < nc) (R : RS (nowS M) N nm nc nk ne td no op br mb pl) (hs : ∀ k, k < nk → s k = vSt N2 k) (hg : ∀ k, k < nk → gaveB (vSt N2 k) = true → gaveB (vSt N k) = true) : bestTo nk (behB (vCc N) (vSt N2) (vGv N) (vNb N p) pr) (turnB (vTn N)) = bestTo nk (behB (M 18) s (M 23) (nI p) pr) (turnB (M 24)) := by
  have bc := R.bc
  refine bestTo_congr (fun k hk => ?_) (fun k b hbk hk g1 g2 => ?_)
  · obtain ⟨c0, c1, c2, c3, c4, c5, c6, c7, c8, c9, c10, c11⟩ := R.com k hk
    simp only [behB]
    rw [hs k hk, c5, show M 18 k = nI (pl k) from c4]
    have e1 : decide (vNb N (pl k) = vNb N p) = decide (nI (pl k) = nI p) := decide_eq_decide.mpr ((R.inj c3 hp).trans (nI_eq (by omega) (by omega)).symm)
    rw [e1]
    cases hg2 : gaveB (vSt N2 k) with
    | false => rw [Bool.and_false, Bool.false_and, Bool.false_and]
    | true => rw [show M 23 k = vGv N k from c11 (hg k hk hg2)]
  · have u : ∀ q, q < nk → behB (vCc N) (vSt N2) (vGv N) (vNb N p) pr q = true → M 24 q = vTn N q := fun q hq g => by
      simp only [behB, Bool.and_eq_true] at g
      exact ((R.com q hq).2.2.2.2.2.2.2.2.2.2.1 (gave_ge (hg q hq g.1.2))).2
    simp only [turnB]
    rw [u k hk g1, u b (by omega) g2]
theorem tak_eq {c : Nat} (hc : c < nk) (h2 : ¬ vSt N c < 2) (R : RS (nowS M) N nm nc nk ne td no op br mb pl) : tkN N c (pl c) nk = takB M c (pl c) nk := by
  obtain ⟨c0, c1, c2, c3, c4, c5, c6, c7, c8, c9, c10, c11⟩ := R.com c hc
  have g : decide (vSt N c < 4) = gaveB (M 21 c) := by
    rw [show M 21 c = vSt N c from c8]
    rcases st_cases c9 with h | h | h | h | h <;> rw [h] at h2 ⊢
    · exact absurd (by decide) h2
    · exact absurd (by decide) h2
    all_goals decide
  have hb := best_eq (N2 := upd N (973 + 8 * c + 4) 1) (s := upd (M 21) c 1) (pr := vPr N (pl c)) c3 R (fun k hk => by
      by_cases e : k = c
      · subst e; rw [upd_s]; exact (upd_s N (973 + 8 * k + 4) 1).symm
      · rw [upd_n _ _ e, show vSt (upd N (973 + 8 * c + 4) 1) k = vSt N k from upd_n _ _ (by omega)]; exact (R.com k hk).2.2.2.2.2.2.2.2.1)
    (fun k hk h => by
      by_cases e : k = c
      · subst e; rw [show vSt (upd N (973 + 8 * k + 4) 1) k = 1 from upd_s _ _ _] at h; exact absurd h (by decide)
      · rwa [show vSt (upd N (973 + 8 * c + 4) 1) k = vSt N k from upd_n _ _ (by omega)] at h)
  unfold tkN takB
  rw [g, c5, hb, show M 9 (pl c) = vPr N (pl c) from (R.cl (pl c) c3).2.1]
theorem rp1N_out {c p q : Nat} (h : q ≠ 973 + 8 * c + 4) (h2 : q ≠ 73 + 45 * p + 1) : rp1N N c p nk q = N q := by
  unfold rp1N; split
  · rw [upd_n _ _ h2, upd_n _ _ h]
  · rw [upd_n _ _ h]
theorem RS.taken {c : Nat} (ho : op = false) (hc : c < nk) (h2 : ¬ vSt N c < 2) (R : RS (nowS M) N nm nc nk ne td no op false mb pl) : RS (nowS (m_taken M c (pl c) nk)) (rp1N N c (pl c) nk) nm nc nk ne td no op false mb pl := by
  have bc := R.bc
  have bk := R.bk
  obtain ⟨c0, c1, c2, c3, c4, c5, c6, c7, c8, c9, c10, c11⟩ := R.com c hc
  have hno : no ≠ 0 := fun h => by have := (R.fr h).1; omega
  have o : ∀ q, (q < 73 ∨ 973 ≤ q) → q ≠ 973 + 8 * c + 4 → rp1N N c (pl c) nk q = N q := fun q h h4 => rp1N_out h4 (by omega)
  have oc : ∀ k q, k < nc → q < 45 → q ≠ 1 → rp1N N c (pl c) nk (73 + 45 * k + q) = N (73 + 45 * k + q) := fun k q hk hq h1 => rp1N_out (by omega) (by omega)
  have g : ∀ a, a ≠ 21 → a ≠ 9 → m_taken M c (pl c) nk a = M a := fun a h h9 => by
    unfold m_taken; split
    · rw [gset_ne _ _ h9, gset_ne _ _ h]
    · rw [gset_ne _ _ h]
  have g21 : m_taken M c (pl c) nk 21 = upd (M 21) c 1 := by
    unfold m_taken; split
    · rw [gset_ne _ _ (by decide), gset_eq]
    · rw [gset_eq]
  have r4 : rp1N N c (pl c) nk (973 + 8 * c + 4) = 1 := by
    unfold rp1N; split
    · rw [upd_n _ _ (by omega), upd_s]
    · rw [upd_s]
  have pr : ∀ k, k < nc → m_taken M c (pl c) nk 9 k = rp1N N c (pl c) nk (73 + 45 * k + 1) := fun k hk => by
    have b := R.cl k hk
    unfold m_taken rp1N
    rw [tak_eq hc h2 R]
    by_cases ht : takB M c (pl c) nk = true
    · rw [if_pos ht, if_pos ht, gset_eq]
      by_cases e : k = pl c
      · rw [e, upd_s, upd_s]; exact (R.cl (pl c) c3).2.2 hno
      · rw [upd_n _ _ e, upd_n _ _ (by omega), upd_n _ _ (by omega)]; exact b.2.1
    · rw [if_neg ht, if_neg ht, gset_ne _ _ (by decide), upd_n _ _ (by omega)]; exact b.2.1
  have gs : ∀ j, j ≠ 20 → j ≠ 8 → nowS (m_taken M c (pl c) nk) j = nowS M j := fun j h1 h2 => g (1 + j) (by omega) (by omega)
  exact RS.mk (sm := by rw [gs 1 (by decide) (by decide)]; exact R.sm) (bm := R.bm) (rm := (o 0 (by decide) (by omega)).trans R.rm) (sc := by rw [gs 6 (by decide) (by decide)]; exact R.sc) (bc := R.bc) (rc := (o 1 (by decide) (by omega)).trans R.rc) (se := by rw [gs 6 (by decide) (by decide)]; exact R.se) (be1 := R.be1) (be2 := R.be2) (re := (o 2 (by decide) (by omega)).trans R.re) (sk := by rw [gs 15 (by decide) (by decide)]; exact R.sk) (bk := R.bk) (rk := (o 9 (by decide) (by omega)).trans R.rk) (st := by rw [gs 0 (by decide) (by decide)]; exact R.st) (bt := R.bt) (rt := (o 3 (by decide) (by omega)).trans R.rt) (so := by rw [gs 13 (by decide) (by decide)]; exact R.so) (ro := (o 4 (by decide) (by omega)).trans R.ro) (sb := by rw [gs 13 (by decide) (by decide)]; exact R.sb) (rb := (o 11 (by decide) (by omega)).trans R.rb) (sn := by rw [gs 13 (by decide) (by decide)]; exact R.sn) (rn := (o 5 (by decide) (by omega)).trans R.rn) (bn := R.bn) (stn := by rw [gs 15 (by decide) (by decide)]; exact R.stn.trans (o 10 (by decide) (by omega)).symm) (z10 := by rw [gs 10 (by decide) (by decide)]; exact R.z10)
    (mem := R.mem' (gs 2 (by decide) (by decide)) (gs 3 (by decide) (by decide)) (gs 4 (by decide) (by decide)) (gs 5 (by decide) (by decide)) (fun j _ _ => o j (by omega) (by omega)))
    (cl := fun k hk => by
      obtain ⟨b1, b2, b3⟩ := R.cl k hk
      rw [gs 7 (by decide) (by decide), gs 9 (by decide) (by decide), show vNb (rp1N N c (pl c) nk) k = vNb N k from oc k 0 hk (by decide) (by decide), show vBg (rp1N N c (pl c) nk) k = vBg N k from oc k 2 hk (by decide) (by decide)]
      exact ⟨b1, pr k hk, b3⟩)
    (asc := R.asc' (fun k hk => oc k 0 hk (by decide) (by decide))) (ed := R.ed' (gs 10 (by decide) (by decide)) (gs 11 (by decide) (by decide)) (gs 12 (by decide) (by decide)) (fun k hk p h1 h2 => oc k p hk h2 (by omega)))
    (com := fun k hk => by
      obtain ⟨d0, d1, d2, d3, d4, d5, d6, d7, d8, d9, d10, d11⟩ := R.com k hk
      have f : ∀ w, w < 8 → w ≠ 4 → rp1N N c (pl c) nk (973 + 8 * k + w) = N (973 + 8 * k + w) := fun w hw h4 => o _ (by omega) (by omega)
      rw [gs 16 (by decide) (by decide), gs 17 (by decide) (by decide), gs 18 (by decide) (by decide), gs 19 (by decide) (by decide), gs 21 (by decide) (by decide), gs 22 (by decide) (by decide), gs 23 (by decide) (by decide), show nowS (m_taken M c (pl c) nk) 20 = upd (M 21) c 1 from g21, show vNb (rp1N N c (pl c) nk) (pl k) = vNb N (pl k) from oc _ 0 d3 (by decide) (by decide), show vCm (rp1N N c (pl c) nk) k = vCm N k from f 0 (by decide) (by decide), show vCc (rp1N N c (pl c) nk) k = vCc N k from f 1 (by decide) (by decide), show vKd (rp1N N c (pl c) nk) k = vKd N k from f 2 (by decide) (by decide), show vCv (rp1N N c (pl c) nk) k = vCv N k from f 3 (by decide) (by decide), show vDy (rp1N N c (pl c) nk) k = vDy N k from f 5 (by decide) (by decide), show vGv (rp1N N c (pl c) nk) k = vGv N k from f 6 (by decide) (by decide), show vTn (rp1N N c (pl c) nk) k = vTn N k from f 7 (by decide) (by decide)]
      by_cases e : k = c
      · subst e
        rw [show vSt (rp1N N k (pl k) nk) k = 1 from r4, upd_s]
        exact ⟨d0, d1, d2, d3, d4, d5, d6, d7, rfl, by decide, fun h => absurd (by decide) h, fun h => absurd h (by decide)⟩
      · rw [show vSt (rp1N N c (pl c) nk) k = vSt N k from o _ (by omega) (by omega), upd_n _ _ e]
        exact ⟨d0, d1, d2, d3, d4, d5, d6, d7, d8, d9, d10, d11⟩)
    (setl := R.setl' (gs 24 (by decide) (by decide)) (fun j _ _ => o j (by omega) (by omega))) (sum := R.sum' (gs 14 (by decide) (by decide)) (fun j _ _ => o j (by omega) (by omega))) (opn := R.opn' (by rw [gs 13 (by decide) (by decide)]) (o 6 (by decide) (by omega)) (o 7 (by decide) (by omega))) (fr := R.fr) (brp := ⟨fun h => absurd h (by decide), fun h => by rw [ho] at h; exact absurd h (by decide)⟩)
end

