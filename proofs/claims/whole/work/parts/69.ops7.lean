/-! entering of both -/
section
variable {M M1 : gM} {N : Nat → Int32} {nm nc nk ne td no ol hs L : Nat} {op br : Bool} {mb pl : Nat → Nat} {ch : Nat → Nat}
theorem why0 {nb pr : Nat → Int32} {k p : Nat} (h : whyB nb pr ch L nc nk k p = 0) : ∃ q, fndTo nc (fun q => decide (nb q = nI (pCl ch L p))) = some q ∧ nk + k < 30 := by
  unfold whyB at h
  split at h
  · cases h
  · split at h
    · cases h
    · rename_i q hq
      split at h
      · cases h
      · split at h
        · cases h
        · exact ⟨q, hq, by omega⟩
theorem ent_rel {j q : Nat} (hj : j < nm) (ho : op = true) (R : RS (nowS M) N nm nc nk ne td no op br mb pl) (hq : ∀ i, i < q → whyB (vNb N) (vPr N) ch L nc nk i (posK (pNx ch L) i) = 0) : ∀ k, k ≤ q → ∃ mb' pl', RS (nowS (entX M ch L nc nk (nI j) k)) (entN N ch L nk (nI j) k) nm nc (nk + k) ne td no op br mb' pl' := by
  intro k
  induction k with
  | zero => intro _; exact ⟨mb, pl, R⟩
  | succ k ih =>
    intro hk
    obtain ⟨mb', pl', Rk⟩ := ih (by omega)
    obtain ⟨p, hp, h30⟩ := why0 (hq k (by omega))
    obtain ⟨p1, p2, -⟩ := fndTo_some hp
    have e8 : entX M ch L nc nk (nI j) k 8 = M 8 := entX_ne (Or.inl (by decide)) k
    have hc : vNb (entN N ch L nk (nI j) k) p = nI (pCl ch L (posK (pNx ch L) k)) := by
      have q1 : entX M ch L nc nk (nI j) k 8 p = vNb (entN N ch L nk (nI j) k) p := (Rk.cl p p1).1
      have q2 : M 8 p = vNb N p := (R.cl p p1).1
      rw [← q1, e8, q2]; exact of_decide_eq_true p2
    have hf : fndTo nc (fun q => decide (M 8 q = nI (pCl ch L (posK (pNx ch L) k)))) = some p := (R.fnd _).trans hp
    have step := Rk.commented (c := nI (pCl ch L (posK (pNx ch L) k))) (k := nI (pKd ch L (posK (pNx ch L) k))) (v := nI (pVal ch L (posK (pNx ch L) k))) hj p1 hc h30 ho
    have eX : entX M ch L nc nk (nI j) (k + 1) = m_comment (entX M ch L nc nk (nI j) k) (nk + k) (nI j) (nI p) (nI (pKd ch L (posK (pNx ch L) k))) (nI (pVal ch L (posK (pNx ch L) k))) := by
      simp only [entX]; rw [hf]; rfl
    refine ⟨fun q => if q = nk + k then j else mb' q, fun q => if q = nk + k then p else pl' q, ?_⟩
    rw [eX]
    exact step
end
theorem op_enter (E : gE) (m : Int32) : opEq E k_X7_enter k_X8_enter [.int m] := by
  intro M hI
  obtain ⟨ch, L, ol, hs, t1, t2, H, nm, nc, nk, ne, td, no, op, br, mb, pl, R⟩ := id hI
  have bm := R.bm
  have hL8 := t2.2.1
  refine ⟨_, c_X7_enter E m R.WS H.1 t1, fun r M1 hr => ?_⟩
  have e : (∀ a, 126 < a → a ≠ 128 → M1 a = M a) ∧ M1 128 1 = M 128 1 := by
    unfold x_enter at hr
    split at hr
    · split at hr
      · obtain ⟨-, h1, h2⟩ := hr
        exact ⟨fun a ha hb => by rw [h2 a hb, entX_ne (Or.inr (by omega)), keep_ne (Or.inr ha)], h1⟩
      · obtain ⟨-, h1, h2⟩ := hr
        exact ⟨fun a _ hb => h2 a hb, h1⟩
    · obtain ⟨-, h1, h2⟩ := hr
      exact ⟨fun a _ hb => h2 a hb, h1⟩
  obtain ⟨e, e28⟩ := e
  have e1 := e 131 (by decide) (by decide)
  have e0 := e 130 (by decide) (by decide)
  have t2' : TxM M1 ch L := ⟨by rw [e0]; exact t2.1, t2.2.1, fun i hi => by rw [e 133 (by decide) (by decide)]; exact t2.2.2 i hi⟩
  refine ⟨_, c_X8_enter E M1 ch L nm nc nk hs op m t2' (by rw [e1]; exact R.rm) R.bm (by rw [e1]; exact R.rc) R.bc (by rw [e1]; exact R.rk) R.bk (by rw [e1]; exact R.ro) (by rw [e0]; exact H.2.1) H.1.2.2.2, fun r' M2 hr' => ?_⟩
  unfold y_enter at hr'
  rw [e1] at hr'
  unfold x_enter at hr
  have rdo : rd1 M1 M2 → (∀ a, a ≠ 128 → M1 a = M a) → Inv M2 := fun q2 h2 => Inv.rd' hI (fun a ha hb => (q2.1 a hb).trans (h2 a ha)) ((congrFun (q2.1 128 (by decide)) 1).trans e28) (fun j hj => (q2.2 j (Or.inl hj)).trans (congrFun (h2 130 (by decide)) j))
  by_cases c1 : inR m nm = true
  · rw [if_pos c1] at hr hr'
    have hsc : scanM (M 131) ch L nc nk = scanX M ch L nc nk := scan_eq R
    rw [← hsc] at hr
    by_cases c2 : op = true ∧ (scanM (M 131) ch L nc nk).1 = 0
    · rw [if_pos c2] at hr hr'
      obtain ⟨h1, h2, h3⟩ := hr
      obtain ⟨q1, q2⟩ := hr'
      obtain ⟨q, s1, s2, s3⟩ := scanM_no c2.2 hL8
      have many : (scanM (M 131) ch L nc nk).2.2 = q := by rw [s1]
      rw [many] at h1 h3 q1 q2
      obtain ⟨j, hj, rfl⟩ := inR_t (by omega) c1
      have K : ∀ a, a < 26 → m_keep M ol hs a = M a := fun a ha => keep_ne (Or.inl ha)
      have RK : RS (nowS (m_keep M ol hs)) (M 131) nm nc nk ne td no op br mb pl := R.congr (fun j hj => K (1 + j) (by omega)) (fun _ _ => rfl)
      obtain ⟨mb', pl', R'⟩ := ent_rel hj c2.1 RK (fun i hi => (s3 i hi).2) q (Nat.le_refl q)
      have IB := Inv.fin (M1 := entX (m_keep M ol hs) ch L nc nk (nI j) q) t1 t2 H ⟨_, _, _, _, _, _, _, _, _, _, R⟩ (fun a ha => entX_ne (Or.inr (by omega)) q) ⟨_, _, _, _, _, _, _, _, _, _, R'⟩
      refine ⟨q1.trans h1.symm, Inv.rd' IB (fun a ha hb => ?_) ?_ (fun i hi => ?_)⟩
      · rw [q2.1 a hb]
        by_cases a31 : a = 131
        · subst a31; rw [gset_eq, gset_eq]
        · rw [gset_ne _ _ a31, gset_ne _ _ a31]
          simp only [m_rec]
          rw [gset_ne _ _ hb, gset_ne _ _ hb, h3 132 (by decide), h3 131 (by decide)]
          by_cases a32 : a = 132
          · subst a32; rw [gset_eq, gset_eq]
          · rw [gset_ne _ _ a32, gset_ne _ _ a32]; exact h3 a ha
      · rw [q2.1 128 (by decide), gset_ne _ _ (by decide), gset_ne _ _ (by decide), rec_ne (by decide), rec_ne (by decide), e28, entX_ne (Or.inr (by decide)), keep_ne (Or.inr (by decide))]
      · rw [q2.2 i (Or.inl hi), gset_ne _ _ (by decide), gset_ne _ _ (by decide), rec_130, rec_130, h3 130 (by decide)]
    · rw [if_neg c2] at hr hr'
      obtain ⟨h1, h2, h3⟩ := hr
      exact ⟨hr'.1.trans h1.symm, rdo hr'.2 h3⟩
  · rw [if_neg c1] at hr hr'
    obtain ⟨h1, h2, h3⟩ := hr
    exact ⟨hr'.1.trans h1.symm, rdo hr'.2 h3⟩

