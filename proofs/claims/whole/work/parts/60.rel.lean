/-! the class's state and the reference's row -/
def RS (S : Nat → Nat → Int32) (N : Nat → Int32) (nm nc nk ne td no : Nat) (op br : Bool) (mb pl : Nat → Nat) : Prop :=
  (S 1 4 = nI nm) ∧
  (nm ≤ 10) ∧
  (N 0 = nI nm) ∧
  (S 6 6 = nI nc) ∧
  (nc ≤ 20) ∧
  (N 1 = nI nc) ∧
  (S 6 7 = nI ne) ∧
  (1 ≤ ne) ∧
  (ne ≤ 11 + (if br = true then 1 else 0)) ∧
  (N 2 = nI ne) ∧
  (S 15 8 = nI nk) ∧
  (nk ≤ 30) ∧
  (N 9 = nI nk) ∧
  (S 0 5 = nI td) ∧
  (td ≤ 10000) ∧
  (N 3 = nI td) ∧
  (S 13 1 = gB op) ∧
  (N 4 = gB op) ∧
  (S 13 2 = gB br) ∧
  (N 11 = gB br) ∧
  (S 13 3 = nI no) ∧
  (N 5 = nI no) ∧
  (no + (if op = true then 0 else 1) ≤ td + 1) ∧
  (S 15 9 = N 10) ∧
  (S 10 0 = 0) ∧
  (∀ m, m < nm → S 2 m = vW N m ∧ S 3 m = vMi N m ∧ S 4 m = vVo N m - 1 ∧ S 5 m = vVd N m ∧ inI (vW N m) (nI 1) (nI 9) = true ∧ inI (vVo N m) (nI 0) (nI 3) = true) ∧
  (∀ k, k < nc → S 7 k = vNb N k ∧ S 8 k = vPr N k ∧ (no ≠ 0 → S 9 k = vBg N k)) ∧
  (∀ i k, i < k → k < nc → vNb N i < vNb N k) ∧
  (∀ k, k < nc → ∀ e, 1 ≤ e → e ≤ ne → S 11 ((e - 1) * 20 + k) = N (73 + 45 * k + 3 + e) ∧ S 10 (e - 1) = N (73 + 45 * k + 17 + e) ∧ (2 ≤ e → S 12 ((e - 1) * 20 + k) = N (73 + 45 * k + 31 + e))) ∧
  (∀ k, k < nk → mb k < nm ∧ S 16 k = nI (mb k) ∧ vCm N k = nI (mb k) ∧ pl k < nc ∧ S 17 k = nI (pl k) ∧ vCc N k = vNb N (pl k) ∧ S 18 k = vKd N k ∧ S 19 k = vCv N k ∧ S 20 k = vSt N k ∧ inI (vSt N k) (nI 0) (nI 4) = true ∧ (¬ vSt N k < 2 → S 21 k = vDy N k ∧ S 23 k = vTn N k) ∧ (gaveB (vSt N k) = true → S 22 k = vGv N k)) ∧
  (∀ j, j < 5 → S 24 j = vSe N j ∧ inI (vSe N j) (gLe j) (gGr j) = true) ∧
  (∀ j, j < 6 → S 14 j = N (17 + j)) ∧
  (op = true → ∃ si dy, si ≤ td ∧ dy ≤ 1000 ∧ N 6 = nI si ∧ N 7 = nI dy ∧ S 13 4 = nI (si + dy)) ∧
  (no = 0 → nk = 0 ∧ ne = 1 ∧ op = false) ∧
  ((br = true → cntTo nk (pendB (vSt N)) = 0 ∧ 2 ≤ ne) ∧ (op = true → br = false ∧ cntTo nk (pendB (vSt N)) = 0))
section
variable {S : Nat → Nat → Int32} {N : Nat → Int32} {nm nc nk ne td no : Nat} {op br : Bool} {mb pl : Nat → Nat}
theorem RS.sm (R : RS S N nm nc nk ne td no op br mb pl) : S 1 4 = nI nm := R.1
theorem RS.bm (R : RS S N nm nc nk ne td no op br mb pl) : nm ≤ 10 := R.2.1
theorem RS.rm (R : RS S N nm nc nk ne td no op br mb pl) : N 0 = nI nm := R.2.2.1
theorem RS.sc (R : RS S N nm nc nk ne td no op br mb pl) : S 6 6 = nI nc := R.2.2.2.1
theorem RS.bc (R : RS S N nm nc nk ne td no op br mb pl) : nc ≤ 20 := R.2.2.2.2.1
theorem RS.rc (R : RS S N nm nc nk ne td no op br mb pl) : N 1 = nI nc := R.2.2.2.2.2.1
theorem RS.se (R : RS S N nm nc nk ne td no op br mb pl) : S 6 7 = nI ne := R.2.2.2.2.2.2.1
theorem RS.be1 (R : RS S N nm nc nk ne td no op br mb pl) : 1 ≤ ne := R.2.2.2.2.2.2.2.1
theorem RS.be2 (R : RS S N nm nc nk ne td no op br mb pl) : ne ≤ 11 + (if br = true then 1 else 0) := R.2.2.2.2.2.2.2.2.1
theorem RS.re (R : RS S N nm nc nk ne td no op br mb pl) : N 2 = nI ne := R.2.2.2.2.2.2.2.2.2.1
theorem RS.sk (R : RS S N nm nc nk ne td no op br mb pl) : S 15 8 = nI nk := R.2.2.2.2.2.2.2.2.2.2.1
theorem RS.bk (R : RS S N nm nc nk ne td no op br mb pl) : nk ≤ 30 := R.2.2.2.2.2.2.2.2.2.2.2.1
theorem RS.rk (R : RS S N nm nc nk ne td no op br mb pl) : N 9 = nI nk := R.2.2.2.2.2.2.2.2.2.2.2.2.1
theorem RS.st (R : RS S N nm nc nk ne td no op br mb pl) : S 0 5 = nI td := R.2.2.2.2.2.2.2.2.2.2.2.2.2.1
theorem RS.bt (R : RS S N nm nc nk ne td no op br mb pl) : td ≤ 10000 := R.2.2.2.2.2.2.2.2.2.2.2.2.2.2.1
theorem RS.rt (R : RS S N nm nc nk ne td no op br mb pl) : N 3 = nI td := R.2.2.2.2.2.2.2.2.2.2.2.2.2.2.2.1
theorem RS.so (R : RS S N nm nc nk ne td no op br mb pl) : S 13 1 = gB op := R.2.2.2.2.2.2.2.2.2.2.2.2.2.2.2.2.1
theorem RS.ro (R : RS S N nm nc nk ne td no op br mb pl) : N 4 = gB op := R.2.2.2.2.2.2.2.2.2.2.2.2.2.2.2.2.2.1
theorem RS.sb (R : RS S N nm nc nk ne td no op br mb pl) : S 13 2 = gB br := R.2.2.2.2.2.2.2.2.2.2.2.2.2.2.2.2.2.2.1
theorem RS.rb (R : RS S N nm nc nk ne td no op br mb pl) : N 11 = gB br := R.2.2.2.2.2.2.2.2.2.2.2.2.2.2.2.2.2.2.2.1
theorem RS.sn (R : RS S N nm nc nk ne td no op br mb pl) : S 13 3 = nI no := R.2.2.2.2.2.2.2.2.2.2.2.2.2.2.2.2.2.2.2.2.1
theorem RS.rn (R : RS S N nm nc nk ne td no op br mb pl) : N 5 = nI no := R.2.2.2.2.2.2.2.2.2.2.2.2.2.2.2.2.2.2.2.2.2.1
theorem RS.bn (R : RS S N nm nc nk ne td no op br mb pl) : no + (if op = true then 0 else 1) ≤ td + 1 := R.2.2.2.2.2.2.2.2.2.2.2.2.2.2.2.2.2.2.2.2.2.2.1
theorem RS.stn (R : RS S N nm nc nk ne td no op br mb pl) : S 15 9 = N 10 := R.2.2.2.2.2.2.2.2.2.2.2.2.2.2.2.2.2.2.2.2.2.2.2.1
theorem RS.z10 (R : RS S N nm nc nk ne td no op br mb pl) : S 10 0 = 0 := R.2.2.2.2.2.2.2.2.2.2.2.2.2.2.2.2.2.2.2.2.2.2.2.2.1
theorem RS.mem (R : RS S N nm nc nk ne td no op br mb pl) : ∀ m, m < nm → S 2 m = vW N m ∧ S 3 m = vMi N m ∧ S 4 m = vVo N m - 1 ∧ S 5 m = vVd N m ∧ inI (vW N m) (nI 1) (nI 9) = true ∧ inI (vVo N m) (nI 0) (nI 3) = true := R.2.2.2.2.2.2.2.2.2.2.2.2.2.2.2.2.2.2.2.2.2.2.2.2.2.1
theorem RS.cl (R : RS S N nm nc nk ne td no op br mb pl) : ∀ k, k < nc → S 7 k = vNb N k ∧ S 8 k = vPr N k ∧ (no ≠ 0 → S 9 k = vBg N k) := R.2.2.2.2.2.2.2.2.2.2.2.2.2.2.2.2.2.2.2.2.2.2.2.2.2.2.1
theorem RS.asc (R : RS S N nm nc nk ne td no op br mb pl) : ∀ i k, i < k → k < nc → vNb N i < vNb N k := R.2.2.2.2.2.2.2.2.2.2.2.2.2.2.2.2.2.2.2.2.2.2.2.2.2.2.2.1
theorem RS.ed (R : RS S N nm nc nk ne td no op br mb pl) : ∀ k, k < nc → ∀ e, 1 ≤ e → e ≤ ne → S 11 ((e - 1) * 20 + k) = N (73 + 45 * k + 3 + e) ∧ S 10 (e - 1) = N (73 + 45 * k + 17 + e) ∧ (2 ≤ e → S 12 ((e - 1) * 20 + k) = N (73 + 45 * k + 31 + e)) := R.2.2.2.2.2.2.2.2.2.2.2.2.2.2.2.2.2.2.2.2.2.2.2.2.2.2.2.2.1
theorem RS.com (R : RS S N nm nc nk ne td no op br mb pl) : ∀ k, k < nk → mb k < nm ∧ S 16 k = nI (mb k) ∧ vCm N k = nI (mb k) ∧ pl k < nc ∧ S 17 k = nI (pl k) ∧ vCc N k = vNb N (pl k) ∧ S 18 k = vKd N k ∧ S 19 k = vCv N k ∧ S 20 k = vSt N k ∧ inI (vSt N k) (nI 0) (nI 4) = true ∧ (¬ vSt N k < 2 → S 21 k = vDy N k ∧ S 23 k = vTn N k) ∧ (gaveB (vSt N k) = true → S 22 k = vGv N k) := R.2.2.2.2.2.2.2.2.2.2.2.2.2.2.2.2.2.2.2.2.2.2.2.2.2.2.2.2.2.1
theorem RS.setl (R : RS S N nm nc nk ne td no op br mb pl) : ∀ j, j < 5 → S 24 j = vSe N j ∧ inI (vSe N j) (gLe j) (gGr j) = true := R.2.2.2.2.2.2.2.2.2.2.2.2.2.2.2.2.2.2.2.2.2.2.2.2.2.2.2.2.2.2.1
theorem RS.sum (R : RS S N nm nc nk ne td no op br mb pl) : ∀ j, j < 6 → S 14 j = N (17 + j) := R.2.2.2.2.2.2.2.2.2.2.2.2.2.2.2.2.2.2.2.2.2.2.2.2.2.2.2.2.2.2.2.1
theorem RS.opn (R : RS S N nm nc nk ne td no op br mb pl) : op = true → ∃ si dy, si ≤ td ∧ dy ≤ 1000 ∧ N 6 = nI si ∧ N 7 = nI dy ∧ S 13 4 = nI (si + dy) := R.2.2.2.2.2.2.2.2.2.2.2.2.2.2.2.2.2.2.2.2.2.2.2.2.2.2.2.2.2.2.2.2.1
theorem RS.fr (R : RS S N nm nc nk ne td no op br mb pl) : no = 0 → nk = 0 ∧ ne = 1 ∧ op = false := R.2.2.2.2.2.2.2.2.2.2.2.2.2.2.2.2.2.2.2.2.2.2.2.2.2.2.2.2.2.2.2.2.2.1
theorem RS.brp (R : RS S N nm nc nk ne td no op br mb pl) : (br = true → cntTo nk (pendB (vSt N)) = 0 ∧ 2 ≤ ne) ∧ (op = true → br = false ∧ cntTo nk (pendB (vSt N)) = 0) := R.2.2.2.2.2.2.2.2.2.2.2.2.2.2.2.2.2.2.2.2.2.2.2.2.2.2.2.2.2.2.2.2.2.2
theorem RS.mk (sm : S 1 4 = nI nm) (bm : nm ≤ 10) (rm : N 0 = nI nm) (sc : S 6 6 = nI nc) (bc : nc ≤ 20) (rc : N 1 = nI nc) (se : S 6 7 = nI ne) (be1 : 1 ≤ ne) (be2 : ne ≤ 11 + (if br = true then 1 else 0)) (re : N 2 = nI ne) (sk : S 15 8 = nI nk) (bk : nk ≤ 30) (rk : N 9 = nI nk) (st : S 0 5 = nI td) (bt : td ≤ 10000) (rt : N 3 = nI td) (so : S 13 1 = gB op) (ro : N 4 = gB op) (sb : S 13 2 = gB br) (rb : N 11 = gB br) (sn : S 13 3 = nI no) (rn : N 5 = nI no) (bn : no + (if op = true then 0 else 1) ≤ td + 1) (stn : S 15 9 = N 10) (z10 : S 10 0 = 0) (mem : ∀ m, m < nm → S 2 m = vW N m ∧ S 3 m = vMi N m ∧ S 4 m = vVo N m - 1 ∧ S 5 m = vVd N m ∧ inI (vW N m) (nI 1) (nI 9) = true ∧ inI (vVo N m) (nI 0) (nI 3) = true) (cl : ∀ k, k < nc → S 7 k = vNb N k ∧ S 8 k = vPr N k ∧ (no ≠ 0 → S 9 k = vBg N k)) (asc : ∀ i k, i < k → k < nc → vNb N i < vNb N k) (ed : ∀ k, k < nc → ∀ e, 1 ≤ e → e ≤ ne → S 11 ((e - 1) * 20 + k) = N (73 + 45 * k + 3 + e) ∧ S 10 (e - 1) = N (73 + 45 * k + 17 + e) ∧ (2 ≤ e → S 12 ((e - 1) * 20 + k) = N (73 + 45 * k + 31 + e))) (com : ∀ k, k < nk → mb k < nm ∧ S 16 k = nI (mb k) ∧ vCm N k = nI (mb k) ∧ pl k < nc ∧ S 17 k = nI (pl k) ∧ vCc N k = vNb N (pl k) ∧ S 18 k = vKd N k ∧ S 19 k = vCv N k ∧ S 20 k = vSt N k ∧ inI (vSt N k) (nI 0) (nI 4) = true ∧ (¬ vSt N k < 2 → S 21 k = vDy N k ∧ S 23 k = vTn N k) ∧ (gaveB (vSt N k) = true → S 22 k = vGv N k)) (setl : ∀ j, j < 5 → S 24 j = vSe N j ∧ inI (vSe N j) (gLe j) (gGr j) = true) (sum : ∀ j, j < 6 → S 14 j = N (17 + j)) (opn : op = true → ∃ si dy, si ≤ td ∧ dy ≤ 1000 ∧ N 6 = nI si ∧ N 7 = nI dy ∧ S 13 4 = nI (si + dy)) (fr : no = 0 → nk = 0 ∧ ne = 1 ∧ op = false) (brp : (br = true → cntTo nk (pendB (vSt N)) = 0 ∧ 2 ≤ ne) ∧ (op = true → br = false ∧ cntTo nk (pendB (vSt N)) = 0)) : RS S N nm nc nk ne td no op br mb pl :=
  ⟨sm, bm, rm, sc, bc, rc, se, be1, be2, re, sk, bk, rk, st, bt, rt, so, ro, sb, rb, sn, rn, bn, stn, z10, mem, cl, asc, ed, com, setl, sum, opn, fr, brp⟩
end
theorem RS.congr {S S' : Nat → Nat → Int32} {N N' : Nat → Int32} {nm nc nk ne td no : Nat} {op br : Bool} {mb pl : Nat → Nat} (hS : ∀ j, j < 25 → S' j = S j) (hN : ∀ j, j < 1213 → N' j = N j) (R : RS S N nm nc nk ne td no op br mb pl) : RS S' N' nm nc nk ne td no op br mb pl := by
  have b1 := R.bm
  have b2 := R.bc
  have b3 := R.bk
  have b4 := R.be2
  have b5 : (if br = true then 1 else 0) ≤ 1 := by cases br <;> decide
  have hS0 := hS 0 (by decide)
  have hS1 := hS 1 (by decide)
  have hS6 := hS 6 (by decide)
  have hS13 := hS 13 (by decide)
  have hS15 := hS 15 (by decide)
  refine RS.mk (sm := ?_) (bm := R.bm) (rm := (hN 0 (by decide)).trans R.rm) (sc := ?_) (bc := R.bc) (rc := (hN 1 (by decide)).trans R.rc) (se := ?_) (be1 := R.be1) (be2 := R.be2) (re := (hN 2 (by decide)).trans R.re) (sk := ?_) (bk := R.bk) (rk := (hN 9 (by decide)).trans R.rk) (st := ?_) (bt := R.bt) (rt := (hN 3 (by decide)).trans R.rt) (so := ?_) (ro := (hN 4 (by decide)).trans R.ro) (sb := ?_) (rb := (hN 11 (by decide)).trans R.rb) (sn := ?_) (rn := (hN 5 (by decide)).trans R.rn) (bn := R.bn) (stn := ?_) (z10 := ?_) (mem := ?_) (cl := ?_) (asc := ?_) (ed := ?_) (com := ?_) (setl := ?_) (sum := ?_) (opn := ?_) (fr := R.fr) (brp := ?_)
  · rw [hS1]; exact R.sm
  · rw [hS6]; exact R.sc
  · rw [hS6]; exact R.se
  · rw [hS15]; exact R.sk
  · rw [hS0]; exact R.st
  · rw [hS13]; exact R.so
  · rw [hS13]; exact R.sb
  · rw [hS13]; exact R.sn
  · rw [hS15, hN 10 (by decide)]; exact R.stn
  · rw [hS 10 (by decide)]; exact R.z10
  · intro m hm
    rw [hS 2 (by decide), hS 3 (by decide), hS 4 (by decide), hS 5 (by decide), show vW N' m = vW N m from hN _ (by omega), show vMi N' m = vMi N m from hN _ (by omega), show vVo N' m = vVo N m from hN _ (by omega), show vVd N' m = vVd N m from hN _ (by omega)]
    exact R.mem m hm
  · intro k hk
    rw [hS 7 (by decide), hS 8 (by decide), hS 9 (by decide), show vNb N' k = vNb N k from hN _ (by omega), show vPr N' k = vPr N k from hN _ (by omega), show vBg N' k = vBg N k from hN _ (by omega)]
    exact R.cl k hk
  · intro i k hik hk
    rw [show vNb N' k = vNb N k from hN _ (by omega), show vNb N' i = vNb N i from hN _ (by omega)]
    exact R.asc i k hik hk
  · intro k hk e he1 he2
    rw [hS 10 (by decide), hS 11 (by decide), hS 12 (by decide), hN (73 + 45 * k + 3 + e) (by omega), hN (73 + 45 * k + 17 + e) (by omega), hN (73 + 45 * k + 31 + e) (by omega)]
    exact R.ed k hk e he1 he2
  · intro k hk
    have hp := (R.com k hk).2.2.2.1
    rw [hS 16 (by decide), hS 17 (by decide), hS 18 (by decide), hS 19 (by decide), hS 20 (by decide), hS 21 (by decide), hS 22 (by decide), hS 23 (by decide), show vCm N' k = vCm N k from hN _ (by omega), show vCc N' k = vCc N k from hN _ (by omega), show vNb N' (pl k) = vNb N (pl k) from hN _ (by omega), show vKd N' k = vKd N k from hN _ (by omega), show vCv N' k = vCv N k from hN _ (by omega), show vSt N' k = vSt N k from hN _ (by omega), show vDy N' k = vDy N k from hN _ (by omega), show vTn N' k = vTn N k from hN _ (by omega), show vGv N' k = vGv N k from hN _ (by omega)]
    exact R.com k hk
  · intro j hj
    rw [hS 24 (by decide), show vSe N' j = vSe N j from hN _ (by omega)]
    exact R.setl j hj
  · intro j hj
    rw [hS 14 (by decide), hN (17 + j) (by omega)]
    exact R.sum j hj
  · intro h
    rw [hS13, hN 6 (by decide), hN 7 (by decide)]
    exact R.opn h
  · have c : cntTo nk (pendB (vSt N')) = cntTo nk (pendB (vSt N)) := cntTo_congr (fun k hk => by simp only [pendB]; rw [show vSt N' k = vSt N k from hN _ (by omega)])
    rw [c]; exact R.brp
/-- the state that stands now, at cell 1 -/
abbrev nowS (M : gM) : Nat → Nat → Int32 := fun j => M (1 + j)
theorem RS.ne12 {S : Nat → Nat → Int32} {N : Nat → Int32} {nm nc nk ne td no : Nat} {op br : Bool} {mb pl : Nat → Nat} (R : RS S N nm nc nk ne td no op br mb pl) : ne ≤ 12 := by
  have h := R.be2
  have b5 : (if br = true then 1 else 0) ≤ 1 := by cases br <;> decide
  omega
theorem RS.WS {M : gM} {N : Nat → Int32} {nm nc nk ne td no : Nat} {op br : Bool} {mb pl : Nat → Nat} (R : RS (nowS M) N nm nc nk ne td no op br mb pl) : WS M nm nc nk ne op br mb pl :=
  ⟨⟨R.sm, R.bm⟩, ⟨R.sc, R.bc⟩, ⟨R.sk, R.bk⟩, ⟨R.se, R.be1, R.ne12⟩, ⟨R.so, R.sb⟩, fun k hk => ⟨(R.com k hk).1, (R.com k hk).2.1, (R.com k hk).2.2.2.1, (R.com k hk).2.2.2.2.1⟩⟩
theorem RS.fnd {S : Nat → Nat → Int32} {N : Nat → Int32} {nm nc nk ne td no : Nat} {op br : Bool} {mb pl : Nat → Nat} (R : RS S N nm nc nk ne td no op br mb pl) (c : Int32) : fndTo nc (fun k => decide (S 7 k = c)) = fndTo nc (fun k => decide (vNb N k = c)) :=
  fndTo_congr (fun k hk => by rw [(R.cl k hk).1])
theorem RS.inj {S : Nat → Nat → Int32} {N : Nat → Int32} {nm nc nk ne td no : Nat} {op br : Bool} {mb pl : Nat → Nat} (R : RS S N nm nc nk ne td no op br mb pl) {i k : Nat} (hi : i < nc) (hk : k < nc) : vNb N i = vNb N k ↔ i = k := by
  constructor
  · intro h
    rcases Nat.lt_trichotomy i k with q | q | q
    · exact absurd (R.asc i k q hk) (by rw [h]; exact fun q => Int32.lt_irrefl q)
    · exact q
    · exact absurd (R.asc k i q hi) (by rw [h]; exact fun q => Int32.lt_irrefl q)
  · intro h; rw [h]
theorem RS.lt {S : Nat → Nat → Int32} {N : Nat → Int32} {nm nc nk ne td no : Nat} {op br : Bool} {mb pl : Nat → Nat} (R : RS S N nm nc nk ne td no op br mb pl) {i k : Nat} (hi : i < nc) (hk : k < nc) : vNb N i < vNb N k ↔ i < k := by
  constructor
  · intro h
    rcases Nat.lt_trichotomy i k with q | q | q
    · exact q
    · rw [q] at h; exact (Int32.lt_irrefl h).elim
    · exact (Int32.lt_irrefl (Int32.lt_trans (R.asc k i q hi) h)).elim
  · intro h; exact R.asc i k h hk
/-- the place of a comment's clause, found by its number -/
theorem RS.place {S : Nat → Nat → Int32} {N : Nat → Int32} {nm nc nk ne td no : Nat} {op br : Bool} {mb pl : Nat → Nat} (R : RS S N nm nc nk ne td no op br mb pl) : ∀ k, k < nk → pl k < nc ∧ fndTo nc (fun q => decide (vNb N q = vCc N k)) = some (pl k) := by
  intro k hk
  obtain ⟨-, -, -, h1, -, h2, -⟩ := R.com k hk
  refine ⟨h1, fndTo_eq h1 (decide_eq_true h2.symm) (fun j hj => decide_eq_false (fun q => ?_))⟩
  rw [h2] at q
  exact absurd ((R.inj (by omega) h1).mp q) (by omega)

