/-! resolutions of both -/
section
variable {M M1 : gM} {N : Nat → Int32} {nm nc nk ne td no ol hs L : Nat} {op br : Bool} {mb pl : Nat → Nat}
theorem get_eq {p : Nat} {w : Int32} (hp : p < nc) (hno : no ≠ 0) (R : RS (nowS M) N nm nc nk ne td no op br mb pl) : getN N p w = getB M p w := by
  obtain ⟨-, b2, b3⟩ := R.cl p hp
  simp only [getN, getB]
  rw [show M 9 p = vPr N p from b2, show M 10 p = vBg N p from b3 hno]
theorem want_eq {c : Nat} {a v : Int32} (hc : c < nk) (R : RS (nowS M) N nm nc nk ne td no op br mb pl) : wanN N c a v = wantI M c a v := by
  simp only [wanN, wantI]
  rw [show M 20 c = vCv N c from (R.com c hc).2.2.2.2.2.2.2.1]
theorem chg_eq (R : RS (nowS M) N nm nc nk ne td no op br mb pl) : chgM N nc ne = chgB M nc ne := by
  simp only [chgM, chgB]
  refine anyTo_congr (fun k hk => ?_)
  have h := (R.ed k hk ne R.be1 (Nat.le_refl _)).1
  rw [show M 9 k = vPr N k from (R.cl k hk).2.1, show M 12 ((ne - 1) * 20 + k) = N (73 + 45 * k + 3 + ne) from h, Nat.add_assoc (73 + 45 * k) 3 ne]
end

