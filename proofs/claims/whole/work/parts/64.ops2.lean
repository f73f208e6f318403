/-! sums, and the tally of both -/
def vtN (N : Nat → Int32) (m : Nat) : Nat := (vVo N m).toNatClampNeg
section
variable {M : gM} {nm nc nk ne td no : Nat} {op br : Bool} {mb pl : Nat → Nat}
theorem RS.vt {S : Nat → Nat → Int32} {N : Nat → Int32} (R : RS S N nm nc nk ne td no op br mb pl) : ∀ m, m < nm → vtN N m ≤ 3 ∧ vVo N m = nI (vtN N m) := by
  intro m hm
  obtain ⟨j, -, h2, h3⟩ := inI_t (by decide) (by decide) (R.mem m hm).2.2.2.2.2
  simp only [vtN]
  rw [h3, cl_nI (by omega)]
  exact ⟨h2, rfl⟩
theorem talR_eq (R : RS (nowS M) (M 131) nm nc nk ne td no op br mb pl) : talK (M 131) nk nm = talM M nk nm := by
  funext j
  simp only [talR]
  refine sumTo_congr (fun m hm => ?_)
  obtain ⟨m1, m2, m3, m4, -, -⟩ := R.mem m hm
  have m1 : M 3 m = vW (M 131) m := m1
  have m3 : M 5 m = vGi (M 131) m := m3
  have ht : techB (M 17) (M 19) nk m = techB (vCm (M 131)) (vKd (M 131)) nk m := by
    simp only [techB]
    refine anyTo_congr (fun k hk => ?_)
    obtain ⟨-, c1, c2, -, -, -, c6, -⟩ := R.com k hk
    rw [show M 17 k = vCm (M 131) k from c1.trans c2.symm, show M 19 k = vKd (M 131) k from c6]
  have hs : sforN (M 5) (M 17) (M 19) nk m = sforN (vGi (M 131)) (vCm (M 131)) (vKd (M 131)) nk m := by
    simp only [sforN]
    rw [m3, ht]
  simp only [ctr]
  rw [lap_eq R hm, hs, m1, m3]
theorem car_eq (R : RS (nowS M) (M 131) nm nc nk ne td no op br mb pl) (su : Nat → Int32) : carB su (vSe (M 131)) = carB su (M 25) := by
  simp only [carB]
  rw [show M 25 0 = vSe (M 131) 0 from (R.setl 0 (by decide)).1, show M 25 1 = vSe (M 131) 1 from (R.setl 1 (by decide)).1]
theorem tal_eq (R : RS (nowS M) (M 131) nm nc nk ne td no op br mb pl) : talN (M 131) nk nm = talX M nk nm := by
  have h := talR_eq R
  simp only [talN, talX, talF]
  simp only [talK, talM] at h
  rw [h, car_eq R]
theorem RS.sums {t : Nat → Int32} (R : RS (nowS M) (M 131) nm nc nk ne td no op br mb pl) : RS (nowS (gset M 15 t)) (blkTo 17 6 t (M 131)) nm nc nk ne td no op br mb pl := by
  have o : ∀ j, j < 17 ∨ 23 ≤ j → blkTo 17 6 t (M 131) j = M 131 j := fun j h => blk_out (by omega)
  exact RS.mk (sm := R.sm) (bm := R.bm) (rm := (o 0 (by decide)).trans R.rm) (sc := R.sc) (bc := R.bc) (rc := (o 1 (by decide)).trans R.rc) (se := R.se) (be1 := R.be1) (be2 := R.be2) (re := (o 2 (by decide)).trans R.re) (sk := R.sk) (bk := R.bk) (rk := (o 9 (by decide)).trans R.rk) (st := R.st) (bt := R.bt) (rt := (o 3 (by decide)).trans R.rt) (so := R.so) (ro := (o 4 (by decide)).trans R.ro) (sb := R.sb) (rb := (o 11 (by decide)).trans R.rb) (sn := R.sn) (rn := (o 5 (by decide)).trans R.rn) (bn := R.bn) (stn := R.stn.trans (o 10 (by decide)).symm) (z10 := R.z10)
    (mem := R.mem' rfl rfl rfl rfl (fun j _ _ => o j (by omega))) (cl := R.cl' rfl rfl rfl (fun j _ _ => o j (by omega))) (asc := R.asc' (fun k hk => o _ (by omega))) (ed := R.ed' rfl rfl rfl (fun k hk p _ _ => o _ (by omega)))
    (com := R.com' (fun j _ _ => gset_ne _ _ (by omega)) (fun k hk => o _ (by omega)) (fun j _ _ => o j (by omega))) (setl := R.setl' rfl (fun j _ _ => o j (by omega))) (sum := fun j hj => (blk_in hj).symm) (opn := R.opn' rfl (o 6 (by decide)) (o 7 (by decide))) (fr := R.fr) (brp := R.brp' (fun k _ => o _ (by omega)))
end
theorem op_tally (E : gE) (w : Int32) : opEq E k_X7_tally k_X8_tally [.int w] := by
  intro M hI
  obtain ⟨ch, L, ol, hs, t1, t2, H, nm, nc, nk, ne, td, no, op, br, mb, pl, R⟩ := id hI
  refine ⟨_, c_X7_tally E w R.WS, fun r M1 hr => ?_⟩
  have h1 := congrArg Prod.fst hr
  have h2 := congrArg Prod.snd hr
  have e131 : M1 131 = M 131 := by
    rw [show M1 = _ from h2]; unfold x_tally; repeat' split
    all_goals rfl
  refine ⟨_, c_X8_tally E M1 nm nk op (vtN (M 131)) w (by rw [e131]; exact R.rm) R.bm (by rw [e131]; exact R.rk) R.bk (by rw [e131]; exact R.vt) (by rw [e131]; exact R.ro), fun r' M2 hr' => ?_⟩
  unfold y_tally at hr'
  rw [e131, R.rn.trans R.sn.symm, tal_eq R] at hr'
  unfold x_tally at h1 h2
  by_cases c1 : inR w 6 = true
  · rw [if_pos c1] at h1 h2 hr'
    by_cases c2 : M 14 3 = 0
    · rw [if_pos c2] at h1 h2
      rw [if_pos (show nowS M 13 3 = 0 from c2)] at hr'
      obtain ⟨rfl, rfl⟩ := Prod.mk.inj hr'
      exact ⟨h1.symm, by rw [show M2 = M from h2]; exact hI⟩
    · rw [if_neg c2] at h1 h2
      rw [if_neg (show ¬ nowS M 13 3 = 0 from c2)] at hr'
      by_cases c3 : op = true
      · rw [if_pos c3] at h1 h2 hr'
        obtain ⟨rfl, rfl⟩ := Prod.mk.inj hr'
        refine ⟨h1.symm, ?_⟩
        have h2 : M1 = gset M 15 (talX M nk nm) := h2
        refine Inv.fin0 t1 t2 H (fun a ha => by rw [h2]; exact gset_ne _ _ (by omega)) ?_
        rw [h2]
        exact ⟨nm, nc, nk, ne, td, no, op, br, mb, pl, R.sums⟩
      · rw [if_neg c3] at h1 h2 hr'
        obtain ⟨rfl, rfl⟩ := Prod.mk.inj hr'
        obtain ⟨j, hj, rfl⟩ := inR_t (by decide) c1
        rw [cl_nI (by omega)] at h1
        rw [cl_nI (by omega)]
        exact ⟨(R.sum j hj).symm.trans h1.symm, by rw [show M2 = M from h2]; exact hI⟩
  · rw [if_neg c1] at h1 h2 hr'
    obtain ⟨rfl, rfl⟩ := Prod.mk.inj hr'
    exact ⟨h1.symm, by rw [show M2 = M from h2]; exact hI⟩

