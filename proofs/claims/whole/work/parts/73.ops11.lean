/-! days passing, of both -/
section
variable {M M1 : gM} {N : Nat → Int32} {nm nc nk ne td no ol hs L : Nat} {op br : Bool} {mb pl : Nat → Nat}
theorem RS.passed {d : Nat} (hd : td + d ≤ 10000) (R : RS (nowS M) N nm nc nk ne td no op br mb pl) : RS (nowS (gset M 1 (upd (M 1) 5 (M 1 5 + nI d)))) (upd N 3 (N 3 + nI d)) nm nc nk ne (td + d) no op br mb pl := by
  have o : ∀ q, q ≠ 3 → upd N 3 (N 3 + nI d) q = N q := fun q h => upd_n _ _ h
  have bn := R.bn
  exact RS.mk (sm := R.sm) (bm := R.bm) (rm := (o 0 (by decide)).trans R.rm) (sc := R.sc) (bc := R.bc) (rc := (o 1 (by decide)).trans R.rc) (se := R.se) (be1 := R.be1) (be2 := R.be2) (re := (o 2 (by decide)).trans R.re) (sk := R.sk) (bk := R.bk) (rk := (o 9 (by decide)).trans R.rk) (st := (show upd (M 1) 5 (M 1 5 + nI d) 5 = M 1 5 + nI d from upd_s _ _ _).trans (by rw [show M 1 5 = nI td from R.st]; exact nI_add td d)) (bt := hd) (rt := (upd_s N 3 _).trans (by rw [R.rt]; exact nI_add td d)) (so := R.so) (ro := (o 4 (by decide)).trans R.ro) (sb := R.sb) (rb := (o 11 (by decide)).trans R.rb) (sn := R.sn) (rn := (o 5 (by decide)).trans R.rn) (bn := by omega) (stn := R.stn.trans (o 10 (by decide)).symm) (z10 := R.z10)
    (mem := R.mem' rfl rfl rfl rfl (fun j _ _ => o j (by omega))) (cl := R.cl' rfl rfl rfl (fun j _ _ => o j (by omega))) (asc := R.asc' (fun k hk => o _ (by omega))) (ed := R.ed' rfl rfl rfl (fun k hk p _ _ => o _ (by omega)))
    (com := R.com' (fun j _ _ => gset_ne _ _ (by omega)) (fun k hk => o _ (by omega)) (fun j _ _ => o j (by omega))) (setl := R.setl' rfl (fun j _ _ => o j (by omega))) (sum := R.sum' rfl (fun j _ _ => o j (by omega)))
    (opn := fun h => by
      obtain ⟨si, dy, a1, a2, a3, a4, a5⟩ := R.opn h
      exact ⟨si, dy, by omega, a2, (o 6 (by decide)).trans a3, (o 7 (by decide)).trans a4, a5⟩) (fr := R.fr) (brp := R.brp' (fun k _ => o _ (by omega)))
theorem RS.cleared (hno : no ≠ 0) (R : RS (nowS M) N nm nc nk ne td no false br mb pl) : RS (nowS (gset M 16 (upd (M 16) 8 0))) (upd N 9 0) nm nc 0 ne td no false br mb pl := by
  have o : ∀ q, q ≠ 9 → upd N 9 0 q = N q := fun q h => upd_n _ _ h
  exact RS.mk (sm := R.sm) (bm := R.bm) (rm := (o 0 (by decide)).trans R.rm) (sc := R.sc) (bc := R.bc) (rc := (o 1 (by decide)).trans R.rc) (se := R.se) (be1 := R.be1) (be2 := R.be2) (re := (o 2 (by decide)).trans R.re) (sk := show upd (M 16) 8 0 8 = 0 from upd_s _ _ _) (bk := by decide) (rk := upd_s N 9 0) (st := R.st) (bt := R.bt) (rt := (o 3 (by decide)).trans R.rt) (so := R.so) (ro := (o 4 (by decide)).trans R.ro) (sb := R.sb) (rb := (o 11 (by decide)).trans R.rb) (sn := R.sn) (rn := (o 5 (by decide)).trans R.rn) (bn := R.bn) (stn := (show upd (M 16) 8 0 9 = M 16 9 from upd_n _ _ (by decide)).trans (R.stn.trans (o 10 (by decide)).symm)) (z10 := R.z10)
    (mem := R.mem' rfl rfl rfl rfl (fun j _ _ => o j (by omega))) (cl := R.cl' rfl rfl rfl (fun j _ _ => o j (by omega))) (asc := R.asc' (fun k hk => o _ (by omega))) (ed := R.ed' rfl rfl rfl (fun k hk p _ _ => o _ (by omega)))
    (com := fun k hk => absurd hk (by omega)) (setl := R.setl' rfl (fun j _ _ => o j (by omega))) (sum := R.sum' rfl (fun j _ _ => o j (by omega)))
    (opn := fun h => absurd h (by decide)) (fr := fun h => absurd h hno) (brp := ⟨fun h => ⟨rfl, (R.brp.1 h).2⟩, fun h => absurd h (by decide)⟩)
theorem RS.carried (R : RS (nowS M) N nm nc nk ne td no false false mb pl) : RS (nowS (gset M 21 (mapTo nk (fun _ => 1) (M 21)))) (st8 4 nk (fun _ => 1) N) nm nc nk ne td no false false mb pl := by
  have bk := R.bk
  have bc := R.bc
  have o : ∀ q, q < 973 → st8 4 nk (fun _ => 1) N q = N q := fun q h => st8_out (Or.inl h)
  exact RS.mk (sm := R.sm) (bm := R.bm) (rm := (o 0 (by decide)).trans R.rm) (sc := R.sc) (bc := R.bc) (rc := (o 1 (by decide)).trans R.rc) (se := R.se) (be1 := R.be1) (be2 := R.be2) (re := (o 2 (by decide)).trans R.re) (sk := R.sk) (bk := R.bk) (rk := (o 9 (by decide)).trans R.rk) (st := R.st) (bt := R.bt) (rt := (o 3 (by decide)).trans R.rt) (so := R.so) (ro := (o 4 (by decide)).trans R.ro) (sb := R.sb) (rb := (o 11 (by decide)).trans R.rb) (sn := R.sn) (rn := (o 5 (by decide)).trans R.rn) (bn := R.bn) (stn := R.stn.trans (o 10 (by decide)).symm) (z10 := R.z10)
    (mem := R.mem' rfl rfl rfl rfl (fun j _ _ => o j (by omega))) (cl := R.cl' rfl rfl rfl (fun j _ _ => o j (by omega))) (asc := R.asc' (fun k hk => o _ (by omega))) (ed := R.ed' rfl rfl rfl (fun k hk p _ _ => o _ (by omega)))
    (com := fun k hk => by
      obtain ⟨d0, d1, d2, d3, d4, d5, d6, d7, d8, d9, d10, d11⟩ := R.com k hk
      have f : ∀ w, w < 8 → w ≠ 4 → st8 4 nk (fun _ => 1) N (973 + 8 * k + w) = N (973 + 8 * k + w) := fun w hw h4 => st8_ne hw h4
      rw [show vNb (st8 4 nk (fun _ => 1) N) (pl k) = vNb N (pl k) from o _ (by omega), show vCm (st8 4 nk (fun _ => 1) N) k = vCm N k from f 0 (by decide) (by decide), show vCc (st8 4 nk (fun _ => 1) N) k = vCc N k from f 1 (by decide) (by decide), show vKd (st8 4 nk (fun _ => 1) N) k = vKd N k from f 2 (by decide) (by decide), show vCv (st8 4 nk (fun _ => 1) N) k = vCv N k from f 3 (by decide) (by decide), show vSt (st8 4 nk (fun _ => 1) N) k = 1 from st8_in (by decide) hk]
      exact ⟨d0, d1, d2, d3, d4, d5, d6, d7, if_pos hk, by decide, fun h => absurd (by decide) h, fun h => absurd h (by decide)⟩)
    (setl := R.setl' rfl (fun j _ _ => o j (by omega))) (sum := R.sum' rfl (fun j _ _ => o j (by omega))) (opn := fun h => absurd h (by decide)) (fr := R.fr) (brp := ⟨fun h => absurd h (by decide), fun h => absurd h (by decide)⟩)
theorem RS.endbase {T : Nat → Int32} (hb : no ≤ td) (R : RS (nowS M) N nm nc nk ne td no true br mb pl) : RS (nowS (gset (m_misses (gset M 15 T) nm) 14 (upd (M 14) 1 0))) (n_end3 N T nm) nm nc nk ne td no false br mb pl := by
  have bm := R.bm
  have o : ∀ q, q ≠ 4 → q ≠ 8 → (q < 17 ∨ 73 ≤ q) → n_end3 N T nm q = N q := fun q h4 h8 h => by
    simp only [n_end3, n_end2]
    rw [upd_n _ _ h8, upd_n _ _ h4, st5_out (by omega), st5_out (by omega), blk_out (by omega)]
  exact RS.mk (sm := R.sm) (bm := R.bm) (rm := (o 0 (by decide) (by decide) (by decide)).trans R.rm) (sc := R.sc) (bc := R.bc) (rc := (o 1 (by decide) (by decide) (by decide)).trans R.rc) (se := R.se) (be1 := R.be1) (be2 := R.be2) (re := (o 2 (by decide) (by decide) (by decide)).trans R.re) (sk := R.sk) (bk := R.bk) (rk := (o 9 (by decide) (by decide) (by decide)).trans R.rk) (st := R.st) (bt := R.bt) (rt := (o 3 (by decide) (by decide) (by decide)).trans R.rt) (so := show upd (M 14) 1 0 1 = 0 from upd_s _ _ _) (ro := show n_end3 N T nm 4 = 0 by simp only [n_end3]; rw [upd_n _ _ (by decide), upd_s]) (sb := (show upd (M 14) 1 0 2 = M 14 2 from upd_n _ _ (by decide)).trans R.sb) (rb := (o 11 (by decide) (by decide) (by decide)).trans R.rb) (sn := (show upd (M 14) 1 0 3 = M 14 3 from upd_n _ _ (by decide)).trans R.sn) (rn := (o 5 (by decide) (by decide) (by decide)).trans R.rn) (bn := by simp; omega) (stn := R.stn.trans (o 10 (by decide) (by decide) (by decide)).symm) (z10 := R.z10)
    (mem := fun m hm => by
      obtain ⟨b1, b2, b3, b4, b5, b6⟩ := R.mem m hm
      have a0 : vW (n_end3 N T nm) m = vW N m := by
        simp only [vW, n_end3, n_end2]; rw [upd_n _ _ (by omega), upd_n _ _ (by omega), st5_ne (by decide) (by decide), st5_ne (by decide) (by decide), blk_out (by omega)]
      have a1 : vMi (n_end3 N T nm) m = gMi5 N m := by
        simp only [vMi, n_end3, n_end2]; rw [upd_n _ _ (by omega), upd_n _ _ (by omega), st5_ne (by decide) (by decide), st5_in (by decide) hm]
      have a2 : vVo (n_end3 N T nm) m = vVo N m := by
        simp only [vVo, n_end3, n_end2]; rw [upd_n _ _ (by omega), upd_n _ _ (by omega), st5_ne (by decide) (by decide), st5_ne (by decide) (by decide), blk_out (by omega)]
      have a3 : vVd (n_end3 N T nm) m = gVd5 N m := by
        simp only [vVd, n_end3, n_end2]; rw [upd_n _ _ (by omega), upd_n _ _ (by omega), st5_in (by decide) hm]
      have b2 : M 4 m = vMi N m := b2
      have b3 : M 5 m = vVo N m - 1 := b3
      have b4 : M 6 m = vVd N m := b4
      have c3 : (mapTo nm (fun k => if M 5 k = -1 then M 4 k + 1 else 0) (M 4)) m = gMi5 N m := by
        simp only [mapTo, gMi5]; rw [if_pos hm, b3, b2]
        by_cases h : vVo N m = 0
        · rw [if_pos h, if_pos ((m1_iff _).mpr h)]
        · rw [if_neg h, if_neg (fun q => h ((m1_iff _).mp q))]
      have c5 : (mapTo nm (fun k => if M 5 k = -1 then M 6 k else M 6 k + 1) (M 6)) m = gVd5 N m := by
        simp only [mapTo, gVd5]; rw [if_pos hm, b3, b4]
        by_cases h : vVo N m = 0
        · rw [if_pos h, if_pos ((m1_iff _).mpr h)]
        · rw [if_neg h, if_neg (fun q => h ((m1_iff _).mp q))]
      rw [a0, a1, a2, a3]
      exact ⟨b1, c3, b3, c5, b5, b6⟩)
    (cl := R.cl' rfl rfl rfl (fun j _ _ => o j (by omega) (by omega) (by omega))) (asc := R.asc' (fun k hk => o _ (by omega) (by omega) (by omega))) (ed := R.ed' rfl rfl rfl (fun k hk p _ _ => o _ (by omega) (by omega) (by omega)))
    (com := R.com' (fun j _ _ => by
      show gset (m_misses (gset M 15 T) nm) 14 (upd (M 14) 1 0) (1 + j) = M (1 + j)
      simp only [m_misses]
      rw [gset_ne _ _ (by omega), gset_ne _ _ (by omega), gset_ne _ _ (by omega), gset_ne _ _ (by omega)]) (fun k hk => o _ (by omega) (by omega) (by omega)) (fun j _ _ => o j (by omega) (by omega) (by omega)))
    (setl := R.setl' rfl (fun j _ _ => o j (by omega) (by omega) (by omega)))
    (sum := fun j hj => by
      show T j = n_end3 N T nm (17 + j)
      simp only [n_end3, n_end2]
      rw [upd_n _ _ (by omega), upd_n _ _ (by omega), st5_out (by omega), st5_out (by omega), blk_in hj])
    (opn := fun h => absurd h (by decide)) (fr := fun h => absurd (R.fr h).2.2 (by decide))
    (brp := ⟨fun h => absurd (h.symm.trans (R.brp.2 rfl).1) (by decide), fun h => absurd h (by decide)⟩)
end

