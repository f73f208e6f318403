/-! comments of both, told one by one or entered -/
section
variable {M M1 : gM} {N : Nat → Int32} {nm nc nk ne td no ol hs L : Nat} {op br : Bool} {mb pl : Nat → Nat} {ch : Nat → Nat}
theorem RS.commented {j p : Nat} {c k v : Int32} (hj : j < nm) (hp : p < nc) (hc : vNb N p = c) (hk30 : nk < 30) (ho : op = true) (R : RS (nowS M) N nm nc nk ne td no op br mb pl) : RS (nowS (m_comment M nk (nI j) (nI p) k v)) (n_comment N nk (nI j) c k v) nm nc (nk + 1) ne td no op br (fun q => if q = nk then j else mb q) (fun q => if q = nk then p else pl q) := by
  have bm := R.bm
  have bc := R.bc
  have o : ∀ q, q ≠ 9 → (q < 973 + 8 * nk ∨ 973 + 8 * nk + 8 ≤ q) → n_comment N nk (nI j) c k v q = N q := fun q h9 h => by
    simp only [n_comment]
    rw [upd_n _ _ h9, upd_n _ _ (by omega), upd_n _ _ (by omega), upd_n _ _ (by omega), upd_n _ _ (by omega), blk_out (by omega)]
  have on : ∀ q, q < nc → vNb (n_comment N nk (nI j) c k v) q = vNb N q := fun q hq => o _ (by omega) (by omega)
  have g : ∀ a, a < 16 ∨ 21 < a → m_comment M nk (nI j) (nI p) k v a = M a := fun a h => m_comment_ne h
  exact RS.mk (sm := R.sm) (bm := R.bm) (rm := (o 0 (by decide) (by omega)).trans R.rm) (sc := R.sc) (bc := R.bc) (rc := (o 1 (by decide) (by omega)).trans R.rc) (se := R.se) (be1 := R.be1) (be2 := R.be2) (re := (o 2 (by decide) (by omega)).trans R.re) (sk := m_comment_16) (bk := by omega) (rk := upd_s _ _ _) (st := R.st) (bt := R.bt) (rt := (o 3 (by decide) (by omega)).trans R.rt) (so := R.so) (ro := (o 4 (by decide) (by omega)).trans R.ro) (sb := R.sb) (rb := (o 11 (by decide) (by omega)).trans R.rb) (sn := R.sn) (rn := (o 5 (by decide) (by omega)).trans R.rn) (bn := R.bn) (stn := (show upd (M 16) 8 (nI (nk + 1)) 9 = M 16 9 from upd_n _ _ (by decide)).trans (R.stn.trans (o 10 (by decide) (by omega)).symm)) (z10 := R.z10)
    (mem := R.mem' rfl rfl rfl rfl (fun j _ _ => o j (by omega) (by omega))) (cl := R.cl' rfl rfl rfl (fun j _ _ => o j (by omega) (by omega))) (asc := R.asc' on) (ed := R.ed' rfl rfl rfl (fun k hk p _ _ => o _ (by omega) (by omega)))
    (com := fun q hq => by
      by_cases e : q = nk
      · subst e
        simp only [if_pos]
        rw [on p hp]
        have a0 : vCm (n_comment N q (nI j) c k v) q = nI j := by
          simp only [vCm, n_comment]; rw [upd_n _ _ (by omega), upd_n _ _ (by omega), upd_n _ _ (by omega), upd_n _ _ (by omega), upd_s]
        have a1 : vCc (n_comment N q (nI j) c k v) q = c := by
          simp only [vCc, n_comment]; rw [upd_n _ _ (by omega), upd_n _ _ (by omega), upd_n _ _ (by omega), upd_s]
        have a2 : vKd (n_comment N q (nI j) c k v) q = k := by
          simp only [vKd, n_comment]; rw [upd_n _ _ (by omega), upd_n _ _ (by omega), upd_s]
        have a3 : vCv (n_comment N q (nI j) c k v) q = v := by
          simp only [vCv, n_comment]; rw [upd_n _ _ (by omega), upd_s]
        have a4 : vSt (n_comment N q (nI j) c k v) q = 0 := by
          simp only [vSt, n_comment]; rw [upd_n _ _ (by omega), upd_n _ _ (by omega), upd_n _ _ (by omega), upd_n _ _ (by omega), upd_n _ _ (by omega), blk_in (by decide)]
        rw [a0, a1, a2, a3, a4]
        exact ⟨hj, show upd (M 17) q (nI j) q = nI j from upd_s _ _ _, rfl, hp, show upd (M 18) q (nI p) q = nI p from upd_s _ _ _, hc.symm, show upd (M 19) q k q = k from upd_s _ _ _, show upd (M 20) q v q = v from upd_s _ _ _, show upd (M 21) q 0 q = 0 from upd_s _ _ _, by decide, fun h => absurd (by decide) h, fun h => absurd h (by decide)⟩
      · have hq' : q < nk := by omega
        obtain ⟨c0, c1, c2, c3, c4, c5, c6, c7, c8, c9, c10, c11⟩ := R.com q hq'
        have f : ∀ w, w < 8 → n_comment N nk (nI j) c k v (973 + 8 * q + w) = N (973 + 8 * q + w) := fun w hw => o _ (by omega) (by omega)
        simp only [if_neg e]
        rw [on _ c3, show vCm (n_comment N nk (nI j) c k v) q = vCm N q from f 0 (by decide), show vCc (n_comment N nk (nI j) c k v) q = vCc N q from f 1 (by decide), show vKd (n_comment N nk (nI j) c k v) q = vKd N q from f 2 (by decide), show vCv (n_comment N nk (nI j) c k v) q = vCv N q from f 3 (by decide), show vSt (n_comment N nk (nI j) c k v) q = vSt N q from f 4 (by decide), show vDy (n_comment N nk (nI j) c k v) q = vDy N q from f 5 (by decide), show vGv (n_comment N nk (nI j) c k v) q = vGv N q from f 6 (by decide), show vTn (n_comment N nk (nI j) c k v) q = vTn N q from f 7 (by decide)]
        exact ⟨c0, (upd_n (M 17) _ e).trans c1, c2, c3, (upd_n (M 18) _ e).trans c4, c5, (upd_n (M 19) _ e).trans c6, (upd_n (M 20) _ e).trans c7, (upd_n (M 21) _ e).trans c8, c9, c10, c11⟩)
    (setl := R.setl' rfl (fun j _ _ => o j (by omega) (by omega))) (sum := R.sum' rfl (fun j _ _ => o j (by omega) (by omega))) (opn := R.opn' rfl (o 6 (by decide) (by omega)) (o 7 (by decide) (by omega)))
    (fr := fun h => by have := (R.fr h).2.2; rw [ho] at this; exact Bool.noConfusion this)
    (brp := by
      have a4 : vSt (n_comment N nk (nI j) c k v) nk = 0 := by
        simp only [vSt, n_comment]; rw [upd_n _ _ (by omega), upd_n _ _ (by omega), upd_n _ _ (by omega), upd_n _ _ (by omega), upd_n _ _ (by omega), blk_in (by decide)]
      have ep : pendB (vSt (n_comment N nk (nI j) c k v)) nk = false := by
        simp only [pendB]; rw [a4]; rfl
      have h0 := R.brp' (N' := n_comment N nk (nI j) c k v) (fun q hq => o _ (by omega) (by omega))
      have ec : cntTo (nk + 1) (pendB (vSt (n_comment N nk (nI j) c k v))) = cntTo nk (pendB (vSt (n_comment N nk (nI j) c k v))) := by rw [cntTo, ep]; rfl
      rw [ec]; exact h0)
theorem Inv.rd' {B M2 : gM} (hI : Inv B) (h : ∀ a, a ≠ 128 → a ≠ 130 → M2 a = B a) (h1 : M2 128 1 = B 128 1) (h2 : ∀ j, j < 5 → M2 130 j = B 130 j) : Inv M2 := by
  obtain ⟨ch, L, ol, hs, t1, t2, H, R⟩ := hI
  exact Inv.rd t1 t2 H R h h1 h2
end
theorem op_comment (E : gE) (m c k v : Int32) : opEq E k_X7_comment k_X8_comment [.int m, .int c, .int k, .int v] := by
  intro M hI
  obtain ⟨ch, L, ol, hs, t1, t2, H, nm, nc, nk, ne, td, no, op, br, mb, pl, R⟩ := id hI
  have bm := R.bm
  refine ⟨_, c_X7_comment E m c k v R.WS H.1, fun r M1 hr => ?_⟩
  have old : M1 = M → ∃ P2 : Int32 → gM → Prop, gMet E k_X8_comment [.ref 130, .int m, .int c, .int k, .int v] M1 (gInt P2) ∧ ∀ r' M2, P2 r' M2 → (r', M2) = y_comment M nm nc nk hs op m c k v := by
    intro h; subst h
    exact ⟨_, c_X8_comment E M1 nm nc nk hs op m c k v R.rm R.bm R.rc R.bc R.rk R.bk R.ro H.2.1 H.1.2.2.2, fun _ _ h => h⟩
  unfold x_comment at hr
  rw [R.fnd8] at hr
  cases hf : fndTo nc (fun q => decide (vNb (M 131) q = c)) with
  | none =>
    rw [hf] at hr
    obtain ⟨rfl, rfl⟩ := Prod.mk.inj hr
    obtain ⟨P2, q1, q2⟩ := old rfl
    refine ⟨P2, q1, fun r' M2 h => ?_⟩
    have h := q2 r' M2 h
    rw [y_comment, hf] at h
    obtain ⟨rfl, rfl⟩ := Prod.mk.inj h
    exact ⟨rfl, hI⟩
  | some p =>
    rw [hf] at hr
    have hp := fndTo_some hf
    have e9 : M 9 p = vPr (M 131) p := (R.cl p hp.1).2.1
    dsimp only at hr
    rw [e9] at hr
    have ey : ∀ M1, M1 131 = M 131 → y_comment M1 nm nc nk hs op m c k v = if inR m nm = true ∧ inI k (nI 0) (nI 1) = true ∧ inI v (nI 0) (nI 9999) = true then (if op = false ∨ vPr (M 131) p = v then (-2, M1) else if nk = 30 then (-3, M1) else (nI nk, gset (m_rec M1 hs) 131 (n_comment (M 131) nk m c k v))) else (-1, M1) := fun M1 h => by rw [y_comment, h, hf]
    by_cases c1 : inR m nm = true ∧ inI k (nI 0) (nI 1) = true ∧ inI v (nI 0) (nI 9999) = true
    · rw [if_pos c1] at hr
      by_cases c2 : op = false ∨ vPr (M 131) p = v
      · rw [if_pos c2] at hr
        obtain ⟨rfl, rfl⟩ := Prod.mk.inj hr
        obtain ⟨P2, q1, q2⟩ := old rfl
        refine ⟨P2, q1, fun r' M2 h => ?_⟩
        have h := q2 r' M2 h
        rw [ey _ rfl, if_pos c1, if_pos c2] at h
        obtain ⟨rfl, rfl⟩ := Prod.mk.inj h
        exact ⟨rfl, hI⟩
      · rw [if_neg c2] at hr
        by_cases c3 : nk = 30
        · rw [if_pos c3] at hr
          obtain ⟨rfl, rfl⟩ := Prod.mk.inj hr
          obtain ⟨P2, q1, q2⟩ := old rfl
          refine ⟨P2, q1, fun r' M2 h => ?_⟩
          have h := q2 r' M2 h
          rw [ey _ rfl, if_pos c1, if_neg c2, if_pos c3] at h
          obtain ⟨rfl, rfl⟩ := Prod.mk.inj h
          exact ⟨rfl, hI⟩
        · rw [if_neg c3] at hr
          obtain ⟨rfl, h2⟩ := Prod.mk.inj hr
          have hk : ∀ a, 26 ≤ a → M1 a = m_keep M ol hs a := fun a ha => by rw [h2]; exact m_comment_ne (by omega)
          obtain ⟨e1, e0⟩ := keep_hi hk
          refine ⟨_, c_X8_comment E M1 nm nc nk hs op m c k v (by rw [e1]; exact R.rm) R.bm (by rw [e1]; exact R.rc) R.bc (by rw [e1]; exact R.rk) R.bk (by rw [e1]; exact R.ro) (by rw [e0]; exact H.2.1) H.1.2.2.2, fun r' M2 hr' => ?_⟩
          rw [ey M1 e1, if_pos c1, if_neg c2, if_neg c3] at hr'
          obtain ⟨rfl, rfl⟩ := Prod.mk.inj hr'
          obtain ⟨j, hj, rfl⟩ := inR_t (by omega) c1.1
          have ho : op = true := by
            cases h : op with
            | true => rfl
            | false => exact absurd (Or.inl h) c2
          have bk := R.bk
          refine ⟨rfl, Inv.fin t1 t2 H ⟨_, _, _, _, _, _, _, _, _, _, R⟩ hk (RSe.low (fun a ha => ?_) ⟨_, _, _, _, _, _, _, _, _, _, R.commented (c := c) (k := k) (v := v) hj hp.1 (of_decide_eq_true hp.2.1) (by omega) ho⟩)⟩
          rw [h2]
          have K : ∀ a, a < 26 → m_keep M ol hs a = M a := fun a ha => keep_ne (Or.inl ha)
          simp only [m_comment, gset, K 16 (by decide), K 17 (by decide), K 18 (by decide), K 19 (by decide), K 20 (by decide), K 21 (by decide), K a ha]
    · rw [if_neg c1] at hr
      obtain ⟨rfl, rfl⟩ := Prod.mk.inj hr
      obtain ⟨P2, q1, q2⟩ := old rfl
      refine ⟨P2, q1, fun r' M2 h => ?_⟩
      have h := q2 r' M2 h
      rw [ey _ rfl, if_neg c1] at h
      obtain ⟨rfl, rfl⟩ := Prod.mk.inj h
      exact ⟨rfl, hI⟩

