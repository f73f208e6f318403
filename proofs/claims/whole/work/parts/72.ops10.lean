/-! appeals of both: the operation -/
section
variable {M M1 : gM} {N : Nat → Int32} {nm nc nk ne td no ol hs L : Nat} {op br : Bool} {mb pl : Nat → Nat}
def unbM (M : gM) (ne : Nat) : gM := gset (gset M 14 (upd (M 14) 2 0)) 7 (upd (M 7) 7 (nI (ne - 1)))
def unbN (N : Nat → Int32) : Nat → Int32 := upd (upd N 11 0) 2 (N 2 - 1)
theorem RS.unb (R : RS (nowS M) N nm nc nk ne td no op true mb pl) : RS (nowS (unbM M ne)) (unbN N) nm nc nk (ne - 1) td no op false mb pl := by
  have h2 := (R.brp rfl).2
  have h12 := R.ne12
  have o : ∀ q, q ≠ 2 → q ≠ 11 → unbN N q = N q := fun q h1 h2 => by simp only [unbN]; rw [upd_n _ _ h1, upd_n _ _ h2]
  exact RS.mk (sm := R.sm) (bm := R.bm) (rm := (o 0 (by decide) (by decide)).trans R.rm) (sc := (show upd (M 7) 7 (nI (ne - 1)) 6 = M 7 6 from upd_n _ _ (by decide)).trans R.sc) (bc := R.bc) (rc := (o 1 (by decide) (by decide)).trans R.rc) (se := show upd (M 7) 7 (nI (ne - 1)) 7 = nI (ne - 1) from upd_s _ _ _) (be1 := by omega) (be2 := by simp; omega) (re := (show unbN N 2 = N 2 - 1 from upd_s _ _ _).trans (by rw [R.re]; exact nI_m1 R.be1)) (sk := R.sk) (bk := R.bk) (rk := (o 9 (by decide) (by decide)).trans R.rk) (st := R.st) (bt := R.bt) (rt := (o 3 (by decide) (by decide)).trans R.rt) (so := (show upd (M 14) 2 0 1 = M 14 1 from upd_n _ _ (by decide)).trans R.so) (ro := (o 4 (by decide) (by decide)).trans R.ro) (sb := show upd (M 14) 2 0 2 = 0 from upd_s _ _ _) (rb := (show unbN N 11 = 0 by simp only [unbN]; rw [upd_n _ _ (by decide), upd_s])) (sn := (show upd (M 14) 2 0 3 = M 14 3 from upd_n _ _ (by decide)).trans R.sn) (rn := (o 5 (by decide) (by decide)).trans R.rn) (bn := R.bn) (stn := R.stn.trans (o 10 (by decide) (by decide)).symm) (z10 := R.z10)
    (mem := R.mem' rfl rfl rfl rfl (fun j _ _ => o j (by omega) (by omega))) (cl := R.cl' rfl rfl rfl (fun j _ _ => o j (by omega) (by omega))) (asc := R.asc' (fun k hk => o _ (by omega) (by omega)))
    (ed := fun k hk e h1 h2 => R.ed' (S' := nowS (unbM M ne)) (N' := unbN N) rfl rfl rfl (fun k hk p _ _ => o _ (by omega) (by omega)) k hk e h1 (by omega))
    (com := R.com' (fun j _ _ => by show unbM M ne (1 + j) = M (1 + j); simp only [unbM]; rw [gset_ne _ _ (by omega), gset_ne _ _ (by omega)]) (fun k hk => o _ (by omega) (by omega)) (fun j _ _ => o j (by omega) (by omega)))
    (setl := R.setl' rfl (fun j _ _ => o j (by omega) (by omega))) (sum := R.sum' rfl (fun j _ _ => o j (by omega) (by omega))) (opn := R.opn' (show upd (M 14) 2 0 4 = M 14 4 from upd_n _ _ (by decide)) (o 6 (by decide) (by decide)) (o 7 (by decide) (by decide)))
    (fr := fun h => by have := (R.fr h).2.1; omega) (brp := fun h => absurd h (by decide))
theorem RSe.reopened {c : Nat} (hc : c < nk) (h2 : ¬ vSt N c < 2) (R : RS (nowS M) N nm nc nk ne td no op br mb pl) : RSe (nowS (m_reopen M c (pl c) nk ne br)) (rpN N c (pl c) nk br) := by
  cases br with
  | false => exact ⟨_, _, _, _, _, _, _, _, _, _, R.taken hc h2⟩
  | true =>
    have R0 := R.unb
    have e2 : ∀ q, q ≠ 2 → q ≠ 11 → unbN N q = N q := fun q h1 h2 => by simp only [unbN]; rw [upd_n _ _ h1, upd_n _ _ h2]
    have h20 : ¬ vSt (unbN N) c < 2 := by rw [show vSt (unbN N) c = vSt N c from e2 _ (by omega) (by omega)]; exact h2
    have RT := R0.taken hc h20
    have ht : takB (unbM M ne) c (pl c) nk = takB M c (pl c) nk := rfl
    have hn : tkN (unbN N) c (pl c) nk = tkN N c (pl c) nk := by rw [tak_eq hc h20 R0, tak_eq hc h2 R, ht]
    refine RSe.congr (fun j hj => ?_) (fun j hj => ?_) ⟨_, _, _, _, _, _, _, _, _, _, RT⟩
    · show m_reopen M c (pl c) nk ne true (1 + j) = m_taken (unbM M ne) c (pl c) nk (1 + j)
      unfold m_reopen m_taken
      rw [ht, if_pos rfl]
      split
      · simp only [gset, unbM]
        by_cases a1 : 1 + j = 7
        · rw [a1]; rfl
        · by_cases a2 : 1 + j = 14
          · rw [a2]; rfl
          · simp only [if_neg a1, if_neg a2]; rfl
      · simp only [gset, unbM]
        by_cases a1 : 1 + j = 7
        · rw [a1]; rfl
        · by_cases a2 : 1 + j = 14
          · rw [a2]; rfl
          · simp only [if_neg a1, if_neg a2]; rfl
    · have bg : vBg (unbN N) (pl c) = vBg N (pl c) := e2 _ (by omega) (by omega)
      unfold rpN rp1N
      rw [hn, if_pos rfl, bg]
      by_cases q2 : j = 2
      · subst q2
        rw [upd_s]
        split
        · rw [upd_n _ _ (by omega), upd_n _ _ (by omega)]; exact (upd_s _ _ _).symm
        · rw [upd_n _ _ (by omega)]; exact (upd_s _ _ _).symm
      · rw [upd_n _ _ q2]
        by_cases q11 : j = 11
        · subst q11
          have z : unbN N 11 = 0 := by simp only [unbN]; rw [upd_n _ _ (by decide), upd_s]
          rw [upd_s]
          split
          · rw [upd_n _ _ (by omega), upd_n _ _ (by omega), z]
          · rw [upd_n _ _ (by omega), z]
        · rw [upd_n _ _ q11]
          split
          · simp only [upd]; split
            · rfl
            · split
              · rfl
              · exact (e2 j q2 q11).symm
          · simp only [upd]; split
            · rfl
            · exact (e2 j q2 q11).symm
end

