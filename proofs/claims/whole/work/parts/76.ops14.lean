/-! a new edition of both -/
section
variable {M : gM} {N : Nat → Int32} {nm nc nk ne td no : Nat} {op br : Bool} {mb pl : Nat → Nat}
theorem eR_4 {k : Nat} (h : ne ≤ 11) (hk : k < nc) : eR N ne nk nc (73 + 45 * k + (4 + ne)) = vPr N k := by
  simp only [eR]; rw [st45_ne (by omega) (by omega), st45_ne (by omega) (by omega), st45_in (by omega) hk]
theorem eR_18 {k : Nat} (h : ne ≤ 11) (hk : k < nc) : eR N ne nk nc (73 + 45 * k + (18 + ne)) = N 5 := by
  simp only [eR]; rw [st45_ne (by omega) (by omega), st45_in (by omega) hk]
theorem eR_32 {k : Nat} (h : ne ≤ 11) (hk : k < nc) : eR N ne nk nc (73 + 45 * k + (32 + ne)) = brgN N nk k := by
  simp only [eR]; rw [st45_in (by omega) hk]
theorem RS.edition (hne : ne ≤ 11) (hp : cntTo nk (pendB (vSt N)) = 0) (R : RS (nowS M) N nm nc nk ne td no false false mb pl) (hno : no ≠ 0) : RS (nowS (m_brk M ne nk nc)) (eR N ne nk nc) nm nc nk (ne + 1) td no false true mb pl := by
  have bc := R.bc
  have be1 := R.be1
  have o : ∀ q, (q < 73 ∨ 973 ≤ q) → q ≠ 2 → q ≠ 11 → eR N ne nk nc q = N q := fun q h h2 h11 => by rw [eR_out (by omega), eR0_out ⟨h2, h11⟩]
  have oc : ∀ k q, q < 4 → eR N ne nk nc (73 + 45 * k + q) = N (73 + 45 * k + q) := fun k q hq => eR_ne (by omega) (by omega)
  have g : ∀ x, x ≠ 7 → x ≠ 11 → x ≠ 12 → x ≠ 13 → x ≠ 14 → m_brk M ne nk nc x = M x := fun x h7 h11 h12 h13 h14 => by
    simp only [m_brk, m_br0]; rw [gset_ne _ _ h13, gset_ne _ _ h12, gset_ne _ _ h14, gset_ne _ _ h11, gset_ne _ _ h7]
  have so : M 14 1 = gB false := R.so
  exact RS.mk (sm := R.sm) (bm := R.bm) (rm := (o 0 (by decide) (by decide) (by decide)).trans R.rm) (sc := (show upd (M 7) 7 (nI (ne + 1)) 6 = M 7 6 from upd_n _ _ (by decide)).trans R.sc) (bc := R.bc) (rc := (o 1 (by decide) (by decide) (by decide)).trans R.rc) (se := show upd (M 7) 7 (nI (ne + 1)) 7 = nI (ne + 1) from upd_s _ _ _) (be1 := by omega) (be2 := by simp; omega) (re := by rw [eR_out (Or.inl (by decide))]; rfl) (sk := R.sk) (bk := R.bk) (rk := (o 9 (by decide) (by decide) (by decide)).trans R.rk) (st := R.st) (bt := R.bt) (rt := (o 3 (by decide) (by decide) (by decide)).trans R.rt) (so := (show upd (M 14) 2 1 1 = M 14 1 from upd_n _ _ (by decide)).trans so) (ro := (o 4 (by decide) (by decide) (by decide)).trans R.ro) (sb := show upd (M 14) 2 1 2 = 1 from upd_s _ _ _) (rb := by rw [eR_out (Or.inl (by decide))]; rfl) (sn := (show upd (M 14) 2 1 3 = M 14 3 from upd_n _ _ (by decide)).trans R.sn) (rn := (o 5 (by decide) (by decide) (by decide)).trans R.rn) (bn := R.bn) (stn := R.stn.trans (o 10 (by decide) (by decide) (by decide)).symm) (z10 := (show upd (M 11) ne (M 14 3) 0 = M 11 0 from upd_n _ _ (by omega)).trans R.z10)
    (mem := R.mem' rfl rfl rfl rfl (fun j _ _ => o j (by omega) (by omega) (by omega)))
    (cl := fun k hk => by
      rw [show vNb (eR N ne nk nc) k = vNb N k from oc k 0 (by decide), show vPr (eR N ne nk nc) k = vPr N k from oc k 1 (by decide), show vBg (eR N ne nk nc) k = vBg N k from oc k 2 (by decide)]
      exact R.cl k hk)
    (asc := R.asc' (fun k _ => oc k 0 (by decide)))
    (ed := fun k hk e h1 h2 => by
      by_cases e' : e = ne + 1
      · subst e'
        have a1 : eR N ne nk nc (73 + 45 * k + 3 + (ne + 1)) = vPr N k := by rw [show 73 + 45 * k + 3 + (ne + 1) = 73 + 45 * k + (4 + ne) by omega]; exact eR_4 hne hk
        have a2 : eR N ne nk nc (73 + 45 * k + 17 + (ne + 1)) = N 5 := by rw [show 73 + 45 * k + 17 + (ne + 1) = 73 + 45 * k + (18 + ne) by omega]; exact eR_18 hne hk
        have a3 : eR N ne nk nc (73 + 45 * k + 31 + (ne + 1)) = brgN N nk k := by rw [show 73 + 45 * k + 31 + (ne + 1) = 73 + 45 * k + (32 + ne) by omega]; exact eR_32 hne hk
        rw [a1, a2, a3, show ne + 1 - 1 = ne by omega]
        refine ⟨(show blkTo (ne * 20) nc (M 9) (M 12) (ne * 20 + k) = M 9 k from blk_in hk).trans (R.cl k hk).2.1, (show upd (M 11) ne (M 14 3) ne = M 14 3 from upd_s _ _ _).trans (R.sn.trans R.rn.symm), fun _ => ?_⟩
        refine (show blkTo (ne * 20) nc (behI (M 18) (M 21) (M 23) (M 24) (M 9) nk) (M 13) (ne * 20 + k) = behI (M 18) (M 21) (M 23) (M 24) (M 9) nk k from blk_in hk).trans ?_
        simp only [behI, brgN]
        rw [show M 9 k = vPr N k from (R.cl k hk).2.1]
        exact congrArg (optI (-1)) (best_eq (N2 := N) (s := M 21) hk R (fun q hq => (R.com q hq).2.2.2.2.2.2.2.2.1) (fun _ _ h => h)).symm
      · obtain ⟨b1, b2, b3⟩ := R.ed k hk e h1 (by omega)
        have a1 : eR N ne nk nc (73 + 45 * k + 3 + e) = N (73 + 45 * k + 3 + e) := by rw [Nat.add_assoc (73 + 45 * k) 3 e]; exact eR_ne (by omega) (by omega)
        have a2 : eR N ne nk nc (73 + 45 * k + 17 + e) = N (73 + 45 * k + 17 + e) := by rw [Nat.add_assoc (73 + 45 * k) 17 e]; exact eR_ne (by omega) (by omega)
        have a3 : eR N ne nk nc (73 + 45 * k + 31 + e) = N (73 + 45 * k + 31 + e) := by rw [Nat.add_assoc (73 + 45 * k) 31 e]; exact eR_ne (by omega) (by omega)
        rw [a1, a2, a3]
        have hi : (e - 1) * 20 + k < ne * 20 := by omega
        exact ⟨(show blkTo (ne * 20) nc (M 9) (M 12) ((e - 1) * 20 + k) = M 12 ((e - 1) * 20 + k) from blk_out (Or.inl hi)).trans b1, (show upd (M 11) ne (M 14 3) (e - 1) = M 11 (e - 1) from upd_n _ _ (by omega)).trans b2, fun q => (show blkTo (ne * 20) nc (behI (M 18) (M 21) (M 23) (M 24) (M 9) nk) (M 13) ((e - 1) * 20 + k) = M 13 ((e - 1) * 20 + k) from blk_out (Or.inl hi)).trans (b3 q)⟩)
    (com := R.com' (fun j _ _ => g (1 + j) (by omega) (by omega) (by omega) (by omega) (by omega)) (fun k _ => oc k 0 (by decide)) (fun j _ _ => o j (by omega) (by omega) (by omega)))
    (setl := R.setl' rfl (fun j _ _ => o j (by omega) (by omega) (by omega))) (sum := R.sum' rfl (fun j _ _ => o j (by omega) (by omega) (by omega))) (opn := fun h => absurd h (by decide)) (fr := fun h => absurd h hno)
    (brp := ⟨fun _ => ⟨by rw [← hp]; exact cntTo_congr (fun k _ => by simp only [pendB]; rw [show vSt (eR N ne nk nc) k = vSt N k from o _ (by omega) (by omega) (by omega)]), by omega⟩, fun h => absurd h (by decide)⟩)
end

