/-! votes, openings of both -/
theorem vo_pos {x : Int32} (h : inI x (nI 0) (nI 3) = true) : decide (x - 1 ≠ -1) = decide (0 < x) := by
  obtain ⟨j, -, h2, rfl⟩ := inI_t (by decide) (by decide) h
  have : j = 0 ∨ j = 1 ∨ j = 2 ∨ j = 3 := by omega
  rcases this with rfl | rfl | rfl | rfl <;> decide
section
variable {M M1 : gM} {nm nc nk ne td no ol hs : Nat} {op br : Bool} {mb pl : Nat → Nat}
theorem RS.voted {j : Nat} {v : Int32} (hj : j < nm) (hv : inI v (nI 0) (nI 2) = true) (R : RS (nowS M) (M 131) nm nc nk ne td no op br mb pl) : RS (nowS (gset M 5 (upd (M 5) j v))) (upd (M 131) (23 + 5 * j + 2) (1 + v)) nm nc nk ne td no op br mb pl := by
  have bm := R.bm
  have o : ∀ q, q < 23 ∨ 73 ≤ q → upd (M 131) (23 + 5 * j + 2) (1 + v) q = M 131 q := fun q h => upd_n _ _ (by omega)
  have hv2 : v = 1 + v - 1 ∧ inI (1 + v) (nI 0) (nI 3) = true := by
    obtain ⟨q, -, h2, rfl⟩ := inI_t (by decide) (by decide) hv
    have : q = 0 ∨ q = 1 ∨ q = 2 := by omega
    rcases this with rfl | rfl | rfl <;> decide
  exact RS.mk (sm := R.sm) (bm := R.bm) (rm := (o 0 (by decide)).trans R.rm) (sc := R.sc) (bc := R.bc) (rc := (o 1 (by decide)).trans R.rc) (se := R.se) (be1 := R.be1) (be2 := R.be2) (re := (o 2 (by decide)).trans R.re) (sk := R.sk) (bk := R.bk) (rk := (o 9 (by decide)).trans R.rk) (st := R.st) (bt := R.bt) (rt := (o 3 (by decide)).trans R.rt) (so := R.so) (ro := (o 4 (by decide)).trans R.ro) (sb := R.sb) (rb := (o 11 (by decide)).trans R.rb) (sn := R.sn) (rn := (o 5 (by decide)).trans R.rn) (bn := R.bn) (stn := R.stn.trans (o 10 (by decide)).symm) (z10 := R.z10)
    (mem := fun m hm => by
      obtain ⟨b1, b2, b3, b4, b5, b6⟩ := R.mem m hm
      have q : ∀ p, p < 5 → p ≠ 2 → upd (M 131) (23 + 5 * j + 2) (1 + v) (23 + 5 * m + p) = M 131 (23 + 5 * m + p) := fun p hp hp2 => upd_n _ _ (by omega)
      rw [show vW (upd (M 131) (23 + 5 * j + 2) (1 + v)) m = vW (M 131) m from q 0 (by decide) (by decide), show vMi (upd (M 131) (23 + 5 * j + 2) (1 + v)) m = vMi (M 131) m from q 1 (by decide) (by decide), show vVd (upd (M 131) (23 + 5 * j + 2) (1 + v)) m = vVd (M 131) m from q 3 (by decide) (by decide)]
      by_cases e : m = j
      · subst e
        rw [show vVo (upd (M 131) (23 + 5 * m + 2) (1 + v)) m = 1 + v from upd_s _ _ _]
        exact ⟨b1, b2, (show upd (M 5) m v m = v from upd_s _ _ _).trans hv2.1, b4, b5, hv2.2⟩
      · rw [show vVo (upd (M 131) (23 + 5 * j + 2) (1 + v)) m = vVo (M 131) m from upd_n _ _ (by omega)]
        exact ⟨b1, b2, (upd_n (M 5) v e).trans b3, b4, b5, b6⟩)
    (cl := R.cl' rfl rfl rfl (fun j _ _ => o j (by omega))) (asc := R.asc' (fun k hk => o _ (by omega))) (ed := R.ed' rfl rfl rfl (fun k hk p _ _ => o _ (by omega)))
    (com := R.com' (fun j _ _ => gset_ne _ _ (by omega)) (fun k hk => o _ (by omega)) (fun j _ _ => o j (by omega))) (setl := R.setl' rfl (fun j _ _ => o j (by omega))) (sum := R.sum' rfl (fun j _ _ => o j (by omega))) (opn := R.opn' rfl (o 6 (by decide)) (o 7 (by decide))) (fr := R.fr) (brp := R.brp' (fun k _ => o _ (by omega)))
theorem RS.opened (hne : ne ≤ 11) (ho : op = false) (R : RS (nowS M) (M 131) nm nc nk ne td no op br mb pl) : RS (nowS (m_open M)) (n_open (M 131) nm nc) nm nc 0 ne td (no + 1) true false mb pl := by
  have bm := R.bm
  have bc := R.bc
  have o1 : ∀ q, q < 23 → n_open (M 131) nm nc q = n_open0 (M 131) q := fun q h => by
    simp only [n_open]; rw [st45_out (by omega), st5_out (by omega)]
  have o : ∀ q, q < 4 ∨ 11 < q → q < 23 → n_open (M 131) nm nc q = M 131 q := fun q h h2 => by rw [o1 q h2]; exact n_open0_out h
  have om : ∀ m p, m < nm → p < 5 → p ≠ 2 → n_open (M 131) nm nc (23 + 5 * m + p) = M 131 (23 + 5 * m + p) := fun m p hm hp h2 => by
    simp only [n_open]; rw [st45_out (by omega), st5_ne hp h2, n_open0_out (by omega)]
  have om2 : ∀ m, m < nm → n_open (M 131) nm nc (23 + 5 * m + 2) = 0 := fun m hm => by
    simp only [n_open]; rw [st45_out (by omega), st5_in (by decide) hm]
  have oc : ∀ k p, k < nc → p < 45 → p ≠ 2 → n_open (M 131) nm nc (73 + 45 * k + p) = M 131 (73 + 45 * k + p) := fun k p hk hp h2 => by
    simp only [n_open]; rw [st45_ne hp h2, st5_out (by omega), n_open0_out (by omega)]
  have oc2 : ∀ k, k < nc → n_open (M 131) nm nc (73 + 45 * k + 2) = vPr (M 131) k := fun k hk => by
    simp only [n_open]; exact st45_in (by decide) hk
  have hbn : no + 1 ≤ td + 1 := by have := R.bn; rw [ho] at this; simpa using this
  obtain ⟨dy, d1, d2, d3⟩ := inI_t (lo := 1) (hi := 60) (by decide) (by decide) (R.setl 2 (by decide)).2
  have sn : M 14 3 = nI no := R.sn
  have st : M 1 5 = nI td := R.st
  have s2 : M 25 2 = nI dy := (R.setl 2 (by decide)).1.trans d3
  exact RS.mk (sm := R.sm) (bm := R.bm) (rm := (o 0 (by decide) (by decide)).trans R.rm) (sc := R.sc) (bc := R.bc) (rc := (o 1 (by decide) (by decide)).trans R.rc) (se := R.se) (be1 := R.be1) (be2 := by simpa using hne) (re := (o 2 (by decide) (by decide)).trans R.re) (sk := rfl) (bk := by decide) (rk := o1 9 (by decide)) (st := R.st) (bt := R.bt) (rt := (o 3 (by decide) (by decide)).trans R.rt) (so := rfl) (ro := o1 4 (by decide)) (sb := rfl) (rb := o1 11 (by decide))
    (sn := show M 14 3 + 1 = nI (no + 1) by rw [sn]; exact nI_add no 1) (rn := (o1 5 (by decide)).trans (show M 131 5 + 1 = nI (no + 1) by rw [R.rn]; exact nI_add no 1)) (bn := by simpa using hbn) (stn := show (0 : Int32) = _ from (o1 10 (by decide)).symm) (z10 := R.z10)
    (mem := fun m hm => by
      obtain ⟨b1, b2, b3, b4, b5, b6⟩ := R.mem m hm
      rw [show vW (n_open (M 131) nm nc) m = vW (M 131) m from om m 0 hm (by decide) (by decide), show vMi (n_open (M 131) nm nc) m = vMi (M 131) m from om m 1 hm (by decide) (by decide), show vVd (n_open (M 131) nm nc) m = vVd (M 131) m from om m 3 hm (by decide) (by decide), show vVo (n_open (M 131) nm nc) m = 0 from om2 m hm]
      exact ⟨b1, b2, rfl, b4, b5, by decide⟩)
    (cl := fun k hk => by
      obtain ⟨b1, b2, -⟩ := R.cl k hk
      rw [show vNb (n_open (M 131) nm nc) k = vNb (M 131) k from oc k 0 hk (by decide) (by decide), show vPr (n_open (M 131) nm nc) k = vPr (M 131) k from oc k 1 hk (by decide) (by decide), show vBg (n_open (M 131) nm nc) k = vPr (M 131) k from oc2 k hk]
      exact ⟨b1, b2, fun _ => b2⟩)
    (asc := R.asc' (fun k hk => oc k 0 hk (by decide) (by decide))) (ed := R.ed' rfl rfl rfl (fun k hk p h1 h2 => oc k p hk h2 (by omega)))
    (com := fun k hk => absurd hk (by omega))
    (setl := R.setl' rfl (fun j h1 h2 => o j (by omega) (by omega))) (sum := R.sum' rfl (fun j _ _ => o j (by omega) (by omega)))
    (opn := fun _ => ⟨td, dy, Nat.le_refl _, by omega, (o1 6 (by decide)).trans R.rt, (o1 7 (by decide)).trans d3, show M 1 5 + M 25 2 = nI (td + dy) by rw [st, s2]; exact nI_add td dy⟩) (fr := fun h => absurd h (by omega)) (brp := ⟨fun h => absurd h (by decide), fun _ => ⟨rfl, rfl⟩⟩)
end
theorem op_vote (E : gE) (m v : Int32) : opEq E k_X7_vote k_X8_vote [.int m, .int v] := by
  intro M hI
  obtain ⟨ch, L, ol, hs, t1, t2, H, nm, nc, nk, ne, td, no, op, br, mb, pl, R⟩ := id hI
  refine ⟨_, c_X7_vote E m v R.WS H.1, fun r M1 hr => ?_⟩
  unfold x_vote at hr
  by_cases c1 : inR m nm = true ∧ inI v (nI 0) (nI 2) = true
  · rw [if_pos c1] at hr
    by_cases c2 : op = true
    · rw [if_pos c2] at hr
      obtain ⟨j, hj, rfl⟩ := inR_t (by have := R.bm; omega) c1.1
      rw [cl_nI (by have := R.bm; omega)] at hr
      obtain ⟨h1, h2⟩ := Prod.mk.inj hr
      have hk : ∀ a, 26 ≤ a → M1 a = m_keep M ol hs a := fun a ha => by rw [h2]; exact gset_ne _ _ (by omega)
      obtain ⟨e1, e0⟩ := keep_hi hk
      refine ⟨_, c_X8_vote E M1 nm hs op (nI j) v (by rw [e1]; exact R.rm) R.bm (by rw [e1]; exact R.ro) (by rw [e0]; exact H.2.1) H.1.2.2.2, fun r' M2 hr' => ?_⟩
      rw [y_vote, if_pos c1, if_pos c2, e1, cl_nI (by have := R.bm; omega)] at hr'
      obtain ⟨rfl, rfl⟩ := Prod.mk.inj hr'
      have R' := R.voted hj c1.2
      refine ⟨?_, Inv.fin t1 t2 H ⟨_, _, _, _, _, _, _, _, _, _, R⟩ hk (RSe.low (fun a ha => ?_) ⟨_, _, _, _, _, _, _, _, _, _, R'⟩)⟩
      · rw [h1]
        refine congrArg nI (cntTo_congr (fun k hk => ?_))
        have q := R'.mem k hk
        rw [← vo_pos q.2.2.2.2.2]
        have q3 : upd (M 5) j v k = _ := q.2.2.1
        rw [q3]
      · rw [h2]
        simp only [gset, keep_ne (M := M) (ol := ol) (hs := hs) (Or.inl ha)]
    · rw [if_neg c2] at hr
      obtain ⟨rfl, rfl⟩ := Prod.mk.inj hr
      refine ⟨_, c_X8_vote E M1 nm hs op m v R.rm R.bm R.ro H.2.1 H.1.2.2.2, fun r' M2 hr' => ?_⟩
      rw [y_vote, if_pos c1, if_neg c2] at hr'
      obtain ⟨rfl, rfl⟩ := Prod.mk.inj hr'
      exact ⟨rfl, hI⟩
  · rw [if_neg c1] at hr
    obtain ⟨rfl, rfl⟩ := Prod.mk.inj hr
    refine ⟨_, c_X8_vote E M1 nm hs op m v R.rm R.bm R.ro H.2.1 H.1.2.2.2, fun r' M2 hr' => ?_⟩
    rw [y_vote, if_neg c1] at hr'
    obtain ⟨rfl, rfl⟩ := Prod.mk.inj hr'
    exact ⟨rfl, hI⟩
theorem op_open (E : gE) : opEq E k_X7_open k_X8_open [] := by
  intro M hI
  obtain ⟨ch, L, ol, hs, t1, t2, H, nm, nc, nk, ne, td, no, op, br, mb, pl, R⟩ := id hI
  refine ⟨_, c_X7_open E R.WS H.1, fun r M1 hr => ?_⟩
  have ne12 := R.ne12
  have pe := pend_eq R
  have keepM : M1 = M → ∃ P2 : Int32 → gM → Prop, gMet E k_X8_open [.ref 130] M1 (gInt P2) ∧ ∀ r' M2, P2 r' M2 → (r', M2) = y_open M nm nc nk ne hs op := by
    intro h; subst h
    exact ⟨_, c_X8_open E M1 nm nc nk ne hs op R.rm R.bm R.rc R.bc R.rk R.bk R.re ne12 R.ro H.2.1 H.1.2.2.2, fun _ _ h => h⟩
  unfold x_open at hr
  rw [← pe] at hr
  by_cases c1 : op = true ∨ 0 < cntTo nk (pendB (vSt (M 131))) ∨ nc = 0
  · rw [if_pos c1] at hr
    obtain ⟨rfl, rfl⟩ := Prod.mk.inj hr
    obtain ⟨P2, q1, q2⟩ := keepM rfl
    refine ⟨P2, q1, fun r' M2 h => ?_⟩
    have h := q2 r' M2 h
    rw [y_open, if_pos c1] at h
    obtain ⟨rfl, rfl⟩ := Prod.mk.inj h
    exact ⟨rfl, hI⟩
  · rw [if_neg c1] at hr
    by_cases c2 : ne = 12
    · rw [if_pos c2] at hr
      obtain ⟨rfl, rfl⟩ := Prod.mk.inj hr
      obtain ⟨P2, q1, q2⟩ := keepM rfl
      refine ⟨P2, q1, fun r' M2 h => ?_⟩
      have h := q2 r' M2 h
      rw [y_open, if_neg c1, if_pos c2] at h
      obtain ⟨rfl, rfl⟩ := Prod.mk.inj h
      exact ⟨rfl, hI⟩
    · rw [if_neg c2] at hr
      obtain ⟨h1, h2⟩ := Prod.mk.inj hr
      have hk : ∀ a, 26 ≤ a → M1 a = m_keep M ol hs a := fun a ha => by
        rw [h2]; simp only [m_open]
        rw [gset_ne _ _ (by omega), gset_ne _ _ (by omega), gset_ne _ _ (by omega), gset_ne _ _ (by omega)]
      obtain ⟨e1, e0⟩ := keep_hi hk
      refine ⟨_, c_X8_open E M1 nm nc nk ne hs op (by rw [e1]; exact R.rm) R.bm (by rw [e1]; exact R.rc) R.bc (by rw [e1]; exact R.rk) R.bk (by rw [e1]; exact R.re) ne12 (by rw [e1]; exact R.ro) (by rw [e0]; exact H.2.1) H.1.2.2.2, fun r' M2 hr' => ?_⟩
      rw [y_open, e1, if_neg c1, if_neg c2] at hr'
      obtain ⟨rfl, rfl⟩ := Prod.mk.inj hr'
      have ho : op = false := by
        cases h : op with
        | false => rfl
        | true => exact absurd (Or.inl h) c1
      refine ⟨?_, Inv.fin t1 t2 H ⟨_, _, _, _, _, _, _, _, _, _, R⟩ hk (RSe.low (fun a ha => ?_) ⟨_, _, _, _, _, _, _, _, _, _, R.opened (by omega) ho⟩)⟩
      · rw [h1, R.rn, show M 14 3 = nI no from R.sn]
      · rw [h2]
        have K : ∀ a, a < 26 → m_keep M ol hs a = M a := fun a ha => keep_ne (Or.inl ha)
        simp only [m_open, gset, K 14 (by decide), K 1 (by decide), K 25 (by decide), K 16 (by decide), K 9 (by decide), K a ha]

