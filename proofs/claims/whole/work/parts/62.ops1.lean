/-! one operation of both, from a state of the invariant: those that change nothing -/
def opEq (E : gE) (kx ky : gK) (as : List Value) : Prop := ∀ M, Inv M → ∃ P1 : Int32 → gM → Prop, gMet E kx (.ref 0 :: as) M (gInt P1) ∧ ∀ r M1, P1 r M1 → ∃ P2 : Int32 → gM → Prop, gMet E ky (.ref 130 :: as) M1 (gInt P2) ∧ ∀ r' M2, P2 r' M2 → r' = r ∧ Inv M2
theorem opEq.ro {E : gE} {kx ky : gK} {as : List Value} (h : ∀ M ch L ol hs nm nc nk ne td no op br mb pl, TxX M ch L → TxM M ch L → HI M ol hs → RS (nowS M) (M 131) nm nc nk ne td no op br mb pl → ∃ x, gMet E kx (.ref 0 :: as) M (gInt fun r M' => r = x ∧ M' = M) ∧ gMet E ky (.ref 130 :: as) M (gInt fun r M' => r = x ∧ M' = M)) : opEq E kx ky as := by
  intro M hI
  obtain ⟨ch, L, ol, hs, t1, t2, H, nm, nc, nk, ne, td, no, op, br, mb, pl, R⟩ := id hI
  obtain ⟨x, h1, h2⟩ := h M ch L ol hs nm nc nk ne td no op br mb pl t1 t2 H R
  refine ⟨_, h1, fun r M1 hr => ?_⟩
  obtain ⟨rfl, rfl⟩ := hr
  refine ⟨_, h2, fun r' M2 hr => ?_⟩
  obtain ⟨rfl, rfl⟩ := hr
  exact ⟨rfl, hI⟩
section
variable {M : gM} {nm nc nk ne td no : Nat} {op br : Bool} {mb pl : Nat → Nat}
theorem RS.fnd8 (R : RS (nowS M) (M 131) nm nc nk ne td no op br mb pl) (c : Int32) : fndTo nc (fun k => decide (M 8 k = c)) = fndTo nc (fun k => decide (vNb (M 131) k = c)) := R.fnd c
theorem eq_value (R : RS (nowS M) (M 131) nm nc nk ne td no op br mb pl) (c : Int32) : y_value (M 131) nc c = x_value M nc c := by
  unfold x_value y_value
  rw [R.fnd8 c]
  cases hf : fndTo nc (fun k => decide (vNb (M 131) k = c)) with
  | none => rfl
  | some p => exact (R.cl p (fndTo_some hf).1).2.1.symm
theorem eq_valueIn (R : RS (nowS M) (M 131) nm nc nk ne td no op br mb pl) (c e : Int32) : y_valueIn (M 131) nc ne c e = x_valueIn M nc ne c e := by
  unfold x_valueIn y_valueIn
  rw [R.fnd8 c]
  have hne := R.ne12
  cases hf : fndTo nc (fun k => decide (vNb (M 131) k = c)) with
  | none => rfl
  | some p =>
    cases hi : inI e (nI 1) (nI ne) with
    | false => rfl
    | true =>
      obtain ⟨j, h1, h2, rfl⟩ := inI_t (by decide) (by omega) hi
      have q := (R.ed p (fndTo_some hf).1 j h1 h2).1
      show (M 131) (73 + 45 * p + 3 + (nI j).toNatClampNeg) = M 12 (((nI j).toNatClampNeg - 1) * 20 + p)
      rw [cl_nI (by omega)]
      exact q.symm
theorem eq_clause (R : RS (nowS M) (M 131) nm nc nk ne td no op br mb pl) (i : Int32) : y_clause (M 131) nc i = x_clause M nc i := by
  unfold x_clause y_clause
  have hb := R.bc
  split
  · rfl
  · split
    · rename_i h
      obtain ⟨j, h1, rfl⟩ := inR_t (by omega) h
      rw [cl_nI (by omega)]
      exact (R.cl j h1).1.symm
    · rfl
theorem lap_eq (R : RS (nowS M) (M 131) nm nc nk ne td no op br mb pl) {m : Nat} (hm : m < nm) : lapB (vMi (M 131)) (vSe (M 131)) m = lapB (M 4) (M 25) m := by
  simp only [lapB]
  rw [show M 4 m = vMi (M 131) m from (R.mem m hm).2.1, show M 25 4 = vSe (M 131) 4 from (R.setl 4 (by decide)).1]
theorem m1_iff (v : Int32) : v - 1 = -1 ↔ v = 0 := by
  constructor
  · intro h
    have h2 : v - 1 + 1 = -1 + 1 := by rw [h]
    rw [Int32.sub_add_cancel] at h2
    exact h2
  · intro h; rw [h]; rfl
theorem eq_mem (R : RS (nowS M) (M 131) nm nc nk ne td no op br mb pl) {j w : Nat} (hj : j < nm) : memG (M 131) nk j w = memF M nk j w := by
  obtain ⟨m1, m2, m3, m4, -, -⟩ := R.mem j hj
  match w with
  | 0 => exact m1.symm
  | 1 => exact m2.symm
  | 2 => exact congrArg gB (lap_eq R hj)
  | 3 =>
    show (if vVo (M 131) j = 0 then (-4 : Int32) else vVo (M 131) j - 1) = if M 5 j = -1 then -4 else M 5 j
    rw [show M 5 j = vVo (M 131) j - 1 from m3]
    by_cases h : vVo (M 131) j = 0
    · rw [if_pos h, if_pos ((m1_iff _).mpr h)]
    · rw [if_neg h, if_neg (fun q => h ((m1_iff _).mp q))]
  | 4 =>
    refine congrArg nI (cntTo_congr (fun k hk => ?_))
    obtain ⟨-, c1, c2, -⟩ := R.com k hk
    rw [c2, show M 17 k = nI (mb k) from c1]
  | n + 5 => exact m4.symm
theorem eq_member (R : RS (nowS M) (M 131) nm nc nk ne td no op br mb pl) (m w : Int32) : y_member (M 131) nm nk m w = x_member M nm nk m w := by
  unfold x_member y_member
  have hb := R.bm
  split
  · rename_i h
    obtain ⟨j, h1, rfl⟩ := inR_t (by omega) h.1
    rw [cl_nI (by omega)]
    exact eq_mem R h1
  · rfl
theorem dif_eq (R : RS (nowS M) (M 131) nm nc nk ne td no op br mb pl) {e k : Nat} (h1 : 1 ≤ e) (h2 : e ≤ ne) (hk : k < nc) : difM (M 131) e k = difB (M 12) e k := by
  simp only [difM, difB]
  by_cases h : 1 < e
  · have a := (R.ed k hk e h1 h2).1
    have b := (R.ed k hk (e - 1) (by omega) (by omega)).1
    rw [show M 12 ((e - 1) * 20 + k) = M 131 (73 + 45 * k + 3 + e) from a, show M 12 ((e - 1 - 1) * 20 + k) = M 131 (73 + 45 * k + 3 + (e - 1)) from b, show 73 + 45 * k + 3 + (e - 1) = 73 + 45 * k + 3 + e - 1 by omega]
  · rw [decide_eq_false h]; rfl
theorem eq_changes (R : RS (nowS M) (M 131) nm nc nk ne td no op br mb pl) (e : Int32) : y_changes (M 131) nc ne e = x_changes M nc ne e := by
  unfold x_changes y_changes
  have hb := R.ne12
  split
  · rename_i h
    obtain ⟨j, h1, h2, rfl⟩ := inI_t (by decide) (by omega) h
    rw [cl_nI (by omega)]
    exact congrArg nI (cntTo_congr (fun k hk => dif_eq R h1 h2 hk))
  · rfl
theorem eq_change (R : RS (nowS M) (M 131) nm nc nk ne td no op br mb pl) (e i w : Int32) : y_change (M 131) nc ne e i w = x_change M nc ne e i w := by
  unfold x_change y_change
  have hb := R.ne12
  split
  · rename_i h
    obtain ⟨j, h1, h2, rfl⟩ := inI_t (by decide) (by omega) h.1
    obtain ⟨z, hz, rfl⟩ := inR_t (by decide) h.2.2
    rw [cl_nI (show j < 2 ^ 31 by omega), cl_nI (show z < 2 ^ 31 by omega)]
    have hn : nthTo nc (difM (M 131) j) i.toNatClampNeg = nthTo nc (difB (M 12) j) i.toNatClampNeg := by
      simp only [nthTo]
      refine fndTo_congr (fun k hk => ?_)
      rw [dif_eq R h1 h2 hk, cntTo_congr (fun q hq => dif_eq R h1 h2 (show q < nc by omega))]
    rw [hn]
    cases hf : nthTo nc (difB (M 12) j) i.toNatClampNeg with
    | none => rfl
    | some p =>
      have hp := fndTo_some hf
      have hd : difB (M 12) j p = true := by
        have := hp.2.1
        simp only [Bool.and_eq_true] at this
        exact this.1
      have hj : 1 < j := by
        simp only [difB, Bool.and_eq_true, decide_eq_true_eq] at hd
        exact hd.1
      obtain ⟨a, b, c⟩ := R.ed p hp.1 j h1 h2
      have a0 := (R.cl p hp.1).1
      match z with
      | 0 => exact a0.symm
      | 1 => exact b.symm
      | n + 2 => exact (c (by omega)).symm
  · rfl
theorem eq_told (R : RS (nowS M) (M 131) nm nc nk ne td no op br mb pl) (c w : Int32) : y_told (M 131) nk c w = x_told M nk c w := by
  unfold x_told y_told
  have hb := R.bk
  have hc := R.bc
  split
  · rename_i h
    obtain ⟨j, h1, rfl⟩ := inR_t (by omega) h.1
    rw [cl_nI (show j < 2 ^ 31 by omega)]
    obtain ⟨-, c1, c2, c3, c4, c5, c6, c7, c8, -, c9, c10⟩ := R.com j h1
    have e8 : M 21 j = vSt (M 131) j := c8
    match w.toNatClampNeg with
    | 0 => exact c2.trans c1.symm
    | 1 =>
      show vCc (M 131) j = M 8 (M 18 j).toNatClampNeg
      rw [show M 18 j = nI (pl j) from c4, cl_nI (by omega)]
      exact c5.trans (R.cl (pl j) c3).1.symm
    | 2 => exact c6.symm
    | 3 => exact c7.symm
    | 4 => exact c8.symm
    | 5 =>
      show (if vSt (M 131) j < 2 then (-4 : Int32) else vDy (M 131) j) = if M 21 j < 2 then -4 else M 22 j
      rw [e8]
      by_cases q : vSt (M 131) j < 2
      · rw [if_pos q, if_pos q]
      · rw [if_neg q, if_neg q]; exact (c9 q).1.symm
    | n + 6 =>
      show (if gaveB (vSt (M 131) j) then vGv (M 131) j else (-4 : Int32)) = if gaveB (M 21 j) then M 23 j else -4
      rw [e8]
      by_cases q : gaveB (vSt (M 131) j) = true
      · rw [if_pos q, if_pos q]; exact (c10 q).symm
      · rw [if_neg q, if_neg q]
  · rfl
theorem bst_eq (R : RS (nowS M) (M 131) nm nc nk ne td no op br mb pl) : bstN (M 131) mb nk = bstX M mb nk := by
  simp only [bstN, bstX]
  refine bestTo_congr (fun k hk => ?_) (fun k b hbk hk _ _ => ?_)
  · simp only [pendB]
    rw [show M 21 k = vSt (M 131) k from (R.com k hk).2.2.2.2.2.2.2.2.1]
  · obtain ⟨k1, -, -, k3, k4, k5, k6, -⟩ := R.com k hk
    obtain ⟨b1, -, -, b3, b4, b5, b6, -⟩ := R.com b (by omega)
    have hb := R.bc
    simp only [aheadM, aheadX]
    rw [show M 19 k = vKd (M 131) k from k6, show M 19 b = vKd (M 131) b from b6, show M 18 k = nI (pl k) from k4, show M 18 b = nI (pl b) from b4, k5, b5, show M 3 (mb k) = vW (M 131) (mb k) from (R.mem _ k1).1, show M 3 (mb b) = vW (M 131) (mb b) from (R.mem _ b1).1]
    by_cases e1 : vKd (M 131) k = vKd (M 131) b
    · rw [if_pos e1, if_pos e1]
      by_cases e2 : pl k = pl b
      · have q1 : nI (pl k) = nI (pl b) := by rw [e2]
        rw [if_pos ((R.inj k3 b3).mpr e2), if_pos q1]
        by_cases e3 : vW (M 131) (mb k) = vW (M 131) (mb b)
        · rw [if_pos e3, e3, decide_eq_false (by omega), decide_eq_false (fun q => Int32.lt_irrefl q)]
        · rw [if_neg e3]
      · rw [if_neg (fun q => e2 ((R.inj k3 b3).mp q)), if_neg (fun q => e2 ((nI_eq (by omega) (by omega)).mp q))]
        exact decide_eq_decide.mpr ((R.lt k3 b3).trans (nI_ltI (by omega) (by omega)).symm)
    · rw [if_neg e1, if_neg e1]
theorem sub_comm3 (a b c : Int32) : a - b + c = c + a - b := by
  rw [Int32.sub_eq_add_neg, Int32.sub_eq_add_neg, Int32.add_comm c a, Int32.add_assoc, Int32.add_assoc, Int32.add_comm (-b) c]
theorem act_eq (R : RS (nowS M) (M 131) nm nc nk ne td no op br mb pl) : actW (vW (M 131)) (vMi (M 131)) (vSe (M 131)) nm = actW (M 3) (M 4) (M 25) nm := by
  simp only [actW]
  refine sumTo_congr (fun m hm => ?_)
  rw [lap_eq R hm, show M 3 m = vW (M 131) m from (R.mem m hm).1]
theorem pend_eq (R : RS (nowS M) (M 131) nm nc nk ne td no op br mb pl) : cntTo nk (pendB (vSt (M 131))) = cntTo nk (pendB (M 21)) := by
  refine cntTo_congr (fun k hk => ?_)
  simp only [pendB]
  rw [show M 21 k = vSt (M 131) k from (R.com k hk).2.2.2.2.2.2.2.2.1]
theorem eq_count {ch : Nat → Nat} {L ol hs : Nat} (t1 : TxX M ch L) (t2 : TxM M ch L) (H : HI M ol hs) (R : RS (nowS M) (M 131) nm nc nk ne td no op br mb pl) (w : Int32) : y_count M nm nk op w = x_count M nm nc nk ne hs op w := by
  unfold x_count y_count
  split
  · rename_i h
    obtain ⟨j, hj, rfl⟩ := inR_t (by decide) h
    rw [cl_nI (by omega)]
    by_cases h12 : j < 12
    · rw [if_pos h12, if_pos h12]
      match j, h12 with
      | 0, _ => exact R.rm
      | 1, _ => exact R.rc
      | 2, _ => exact R.re
      | 3, _ => exact R.rt.trans R.st.symm
      | 4, _ => exact R.ro
      | 5, _ => exact R.rn.trans R.sn.symm
      | 6, _ => exact R.rk
      | 7, _ => exact congrArg nI (pend_eq R)
      | 8, _ => exact act_eq R
      | 9, _ => exact H.2.1
      | 10, _ => exact t2.1.trans t1.1.symm
      | 11, _ =>
        show (if op = true then M 131 7 - M 131 3 + M 131 6 else 0) = if op = true then M 14 4 - M 1 5 else 0
        by_cases ho : op = true
        · rw [if_pos ho, if_pos ho]
          obtain ⟨si, dy, -, -, e6, e7, e4⟩ := R.opn ho
          rw [show M 14 4 = nI (si + dy) from e4, show M 1 5 = nI td from R.st, R.rt, e6, e7, sub_comm3, nI_add]
        · rw [if_neg ho, if_neg ho]
      | n + 12, h => omega
    · rw [if_neg h12, if_neg h12]
      by_cases h20 : 20 ≤ j
      · rw [if_pos h20, if_pos h20]
        exact (R.setl (j - 20) (by omega)).1.symm
      · rw [if_neg h20, if_neg h20]
  · rfl
end
variable (E : gE)
theorem op_value (c : Int32) : opEq E k_X7_value k_X8_value [.int c] := opEq.ro fun M _ _ _ _ _ nc _ _ _ _ _ _ _ _ _ _ _ R => ⟨x_value M nc c, c_X7_value E c R.WS, by rw [← eq_value R]; exact c_X8_value E M nc c R.rc R.bc⟩
theorem op_valueIn (c e : Int32) : opEq E k_X7_valueIn k_X8_valueIn [.int c, .int e] := opEq.ro fun M _ _ _ _ _ nc _ ne _ _ _ _ _ _ _ _ _ R => ⟨x_valueIn M nc ne c e, c_X7_valueIn E c e R.WS, by rw [← eq_valueIn R]; exact c_X8_valueIn E M nc ne c e R.rc R.bc R.re R.ne12⟩
theorem op_clause (i : Int32) : opEq E k_X7_clause k_X8_clause [.int i] := opEq.ro fun M _ _ _ _ _ nc _ _ _ _ _ _ _ _ _ _ _ R => ⟨x_clause M nc i, c_X7_clause E i R.WS, by rw [← eq_clause R]; exact c_X8_clause E M nc i R.rc R.bc⟩
theorem op_member (m w : Int32) : opEq E k_X7_member k_X8_member [.int m, .int w] := opEq.ro fun M _ _ _ _ nm _ nk _ _ _ _ _ _ _ _ _ _ R => ⟨x_member M nm nk m w, c_X7_member E m w R.WS, by rw [← eq_member R]; exact c_X8_member E M nm nk m w R.rm R.bm R.rk R.bk⟩
theorem op_count (w : Int32) : opEq E k_X7_count k_X8_count [.int w] := opEq.ro fun M _ _ _ hs nm nc nk ne _ _ op _ _ _ t1 t2 H R => ⟨x_count M nm nc nk ne hs op w, c_X7_count E w R.WS H.1, by rw [← eq_count t1 t2 H R]; exact c_X8_count E M nm nk op w R.rm R.bm R.rk R.bk R.ro⟩
theorem op_told (c w : Int32) : opEq E k_X7_told k_X8_told [.int c, .int w] := opEq.ro fun M _ _ _ _ _ _ nk _ _ _ _ _ _ _ _ _ _ R => ⟨x_told M nk c w, c_X7_told E c w R.WS, by rw [← eq_told R]; exact c_X8_told E M nk c w R.rk R.bk⟩
theorem op_next : opEq E k_X7_next k_X8_next [] := opEq.ro fun M _ _ _ _ _ _ nk _ _ _ _ _ mb _ _ _ _ R => ⟨optI (-4) (bstX M mb nk), c_X7_next E R.WS, by rw [← bst_eq R]; exact c_X8_next E M nk mb R.rk R.bk (fun k hk => ⟨by have := (R.com k hk).1; have := R.bm; omega, (R.com k hk).2.2.1⟩)⟩
theorem op_changes (e : Int32) : opEq E k_X7_changes k_X8_changes [.int e] := opEq.ro fun M _ _ _ _ _ nc _ ne _ _ _ _ _ _ _ _ _ R => ⟨x_changes M nc ne e, c_X7_changes E e R.WS, by rw [← eq_changes R]; exact c_X8_changes E M nc ne e R.rc R.bc R.re R.ne12⟩
theorem op_change (e i w : Int32) : opEq E k_X7_change k_X8_change [.int e, .int i, .int w] := opEq.ro fun M _ _ _ _ _ nc _ ne _ _ _ _ _ _ _ _ _ R => ⟨x_change M nc ne e i w, c_X7_change E e i w R.WS, by rw [← eq_change R]; exact c_X8_change E M nc ne e i w R.rc R.bc R.re R.ne12⟩

