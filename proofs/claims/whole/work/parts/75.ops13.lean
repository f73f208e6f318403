/-! resolutions of both -/
section
variable {M M1 : gM} {N : Nat → Int32} {nm nc nk ne td no ol hs L : Nat} {op br : Bool} {mb pl : Nat → Nat}
theorem get_eq {p : Nat} {w : Int32} (hp : p < nc) (hno : no ≠ 0) (R : RS (nowS M) N nm nc nk ne td no op br mb pl) : getN N p w = getB M p w := by
  obtain ⟨-, b2, b3⟩ := R.cl p hp
  simp only [getN, getB]
  rw [show M 9 p = vPr N p from b2, show M 10 p = vBg N p from b3 hno]
theorem want_eq {c : Nat} {a v : Int32} (hc : c < nk) (R : RS (nowS M) N nm nc nk ne td no op br mb pl) : wanN N c a v = wantI M c a v := by
  simp only [wanN, wantI]
  rw [show M 20 c = vCv N c from (R.com c hc).2.2.2.2.2.2.2.1]
theorem chg_eq (R : RS (nowS M) N nm nc nk ne td no op br mb pl) : chgM N nc ne = chgB M nc ne := by
  simp only [chgM, chgB]
  refine anyTo_congr (fun k hk => ?_)
  have h := (R.ed k hk ne R.be1 (Nat.le_refl _)).1
  rw [show M 9 k = vPr N k from (R.cl k hk).2.1, show M 12 ((ne - 1) * 20 + k) = N (73 + 45 * k + 3 + ne) from h, Nat.add_assoc (73 + 45 * k) 3 ne]
theorem RS.gaveR {c : Nat} {a w : Int32} (hc : c < nk) (ha : a = 0 ∨ a = 1 ∨ a = 2) (R : RS (nowS M) N nm nc nk ne td no false false mb pl) : RS (nowS (m_gave M c (pl c) a w)) (rsgN N c (pl c) a w) nm nc nk ne td no false false mb pl := by
  have bc := R.bc
  have bk := R.bk
  have hg : gaveB (2 + a) = decide (a < 2) := by rcases ha with rfl | rfl | rfl <;> decide
  have o : ∀ q, q ≠ 10 → q ≠ 973 + 8 * c + 4 → q ≠ 973 + 8 * c + 5 → q ≠ 973 + 8 * c + 6 → q ≠ 973 + 8 * c + 7 → q ≠ 73 + 45 * pl c + 1 → rsgN N c (pl c) a w q = N q := fun q h1 h4 h5 h6 h7 hp => by
    unfold rsgN rslN; split
    · rw [upd_n _ _ hp, upd_n _ _ h6, upd_n _ _ h1, upd_n _ _ h7, upd_n _ _ h5, upd_n _ _ h4]
    · rw [upd_n _ _ h1, upd_n _ _ h7, upd_n _ _ h5, upd_n _ _ h4]
  obtain ⟨c0, c1, c2, c3, c4, c5, c6, c7, c8, c9, c10, c11⟩ := R.com c hc
  have ol : ∀ q, q < 73 → q ≠ 10 → rsgN N c (pl c) a w q = N q := fun q h h1 => o q h1 (by omega) (by omega) (by omega) (by omega) (by omega)
  have oc : ∀ k q, k < nc → q < 45 → q ≠ 1 → rsgN N c (pl c) a w (73 + 45 * k + q) = N (73 + 45 * k + q) := fun k q hk hq h1 => o _ (by omega) (by omega) (by omega) (by omega) (by omega) (by omega)
  have e10 : rsgN N c (pl c) a w 10 = N 10 + 1 := by
    unfold rsgN rslN; split
    · rw [upd_n _ _ (by omega), upd_n _ _ (by omega), upd_s]
    · rw [upd_s]
  have g : ∀ x, x ≠ 9 → x ≠ 16 → x ≠ 21 → x ≠ 22 → x ≠ 23 → x ≠ 24 → m_gave M c (pl c) a w x = M x := fun x h9 h16 h21 h22 h23 h24 => by
    unfold m_gave m_resolve; split
    · rw [gset_ne _ _ h9, gset_ne _ _ h16, gset_ne _ _ h24, gset_ne _ _ h23, gset_ne _ _ h22, gset_ne _ _ h21]
    · rw [gset_ne _ _ h16, gset_ne _ _ h24, gset_ne _ _ h23, gset_ne _ _ h22, gset_ne _ _ h21]
  have gs : ∀ j, j ≠ 8 → j ≠ 15 → j < 20 ∨ 23 < j → nowS (m_gave M c (pl c) a w) j = nowS M j := fun j h1 h2 h3 => g (1 + j) (by omega) (by omega) (by omega) (by omega) (by omega) (by omega)
  have g16 : m_gave M c (pl c) a w 16 = upd (M 16) 9 (M 16 9 + 1) := by
    unfold m_gave m_resolve; split <;> rfl
  have g21 : m_gave M c (pl c) a w 21 = upd (M 21) c (2 + a) := by
    unfold m_gave m_resolve; split <;> rfl
  have g22 : m_gave M c (pl c) a w 22 = upd (M 22) c (M 1 5) := by
    unfold m_gave m_resolve; split <;> rfl
  have g23 : m_gave M c (pl c) a w 23 = upd (M 23) c w := by
    unfold m_gave m_resolve; split <;> rfl
  have g24 : m_gave M c (pl c) a w 24 = upd (M 24) c (M 16 9) := by
    unfold m_gave m_resolve; split <;> rfl
  have n4 : rsgN N c (pl c) a w (973 + 8 * c + 4) = 2 + a := by
    unfold rsgN rslN; split
    · rw [upd_n _ _ (by omega), upd_n _ _ (by omega), upd_n _ _ (by omega), upd_n _ _ (by omega), upd_n _ _ (by omega), upd_s]
    · rw [upd_n _ _ (by omega), upd_n _ _ (by omega), upd_n _ _ (by omega), upd_s]
  have n5 : rsgN N c (pl c) a w (973 + 8 * c + 5) = N 3 := by
    unfold rsgN rslN; split
    · rw [upd_n _ _ (by omega), upd_n _ _ (by omega), upd_n _ _ (by omega), upd_n _ _ (by omega), upd_s]
    · rw [upd_n _ _ (by omega), upd_n _ _ (by omega), upd_s]
  have n7 : rsgN N c (pl c) a w (973 + 8 * c + 7) = N 10 := by
    unfold rsgN rslN; split
    · rw [upd_n _ _ (by omega), upd_n _ _ (by omega), upd_n _ _ (by omega), upd_s]
    · rw [upd_n _ _ (by omega), upd_s]
  have n6 : a < 2 → rsgN N c (pl c) a w (973 + 8 * c + 6) = w := fun h => by
    unfold rsgN; rw [if_pos h, upd_n _ _ (by omega), upd_s]
  have pr : ∀ k, k < nc → m_gave M c (pl c) a w 9 k = rsgN N c (pl c) a w (73 + 45 * k + 1) := fun k hk => by
    have b := (R.cl k hk).2.1
    unfold m_gave rsgN
    by_cases h : a < 2
    · rw [if_pos (hg.trans (decide_eq_true h)), if_pos h, gset_eq]
      by_cases e : k = pl c
      · rw [e, upd_s, upd_s]
      · rw [upd_n _ _ e, upd_n _ _ (by omega), upd_n _ _ (by omega), rslN_out (Or.inl (by omega))]; exact b
    · rw [if_neg (by rw [hg, decide_eq_false h]; decide), if_neg h, rslN_out (Or.inl (by omega))]; exact b
  exact RS.mk (sm := by rw [gs 1 (by decide) (by decide) (by decide)]; exact R.sm) (bm := R.bm) (rm := (ol 0 (by decide) (by decide)).trans R.rm) (sc := by rw [gs 6 (by decide) (by decide) (by decide)]; exact R.sc) (bc := R.bc) (rc := (ol 1 (by decide) (by decide)).trans R.rc) (se := by rw [gs 6 (by decide) (by decide) (by decide)]; exact R.se) (be1 := R.be1) (be2 := R.be2) (re := (ol 2 (by decide) (by decide)).trans R.re) (sk := by show m_gave M c (pl c) a w 16 8 = nI nk; rw [g16, upd_n _ _ (by decide)]; exact R.sk) (bk := R.bk) (rk := (ol 9 (by decide) (by decide)).trans R.rk) (st := by rw [gs 0 (by decide) (by decide) (by decide)]; exact R.st) (bt := R.bt) (rt := (ol 3 (by decide) (by decide)).trans R.rt) (so := by rw [gs 13 (by decide) (by decide) (by decide)]; exact R.so) (ro := (ol 4 (by decide) (by decide)).trans R.ro) (sb := by rw [gs 13 (by decide) (by decide) (by decide)]; exact R.sb) (rb := (ol 11 (by decide) (by decide)).trans R.rb) (sn := by rw [gs 13 (by decide) (by decide) (by decide)]; exact R.sn) (rn := (ol 5 (by decide) (by decide)).trans R.rn) (bn := R.bn) (stn := by show m_gave M c (pl c) a w 16 9 = _; rw [g16, upd_s, e10]; exact congrArg (· + 1) R.stn) (z10 := by rw [gs 10 (by decide) (by decide) (by decide)]; exact R.z10)
    (mem := R.mem' (gs 2 (by decide) (by decide) (by decide)) (gs 3 (by decide) (by decide) (by decide)) (gs 4 (by decide) (by decide) (by decide)) (gs 5 (by decide) (by decide) (by decide)) (fun j _ _ => ol j (by omega) (by omega)))
    (cl := fun k hk => by
      obtain ⟨b1, b2, b3⟩ := R.cl k hk
      rw [gs 7 (by decide) (by decide) (by decide), gs 9 (by decide) (by decide) (by decide), show vNb (rsgN N c (pl c) a w) k = vNb N k from oc k 0 hk (by decide) (by decide), show vBg (rsgN N c (pl c) a w) k = vBg N k from oc k 2 hk (by decide) (by decide)]
      exact ⟨b1, pr k hk, b3⟩)
    (asc := R.asc' (fun k hk => oc k 0 hk (by decide) (by decide))) (ed := R.ed' (gs 10 (by decide) (by decide) (by decide)) (gs 11 (by decide) (by decide) (by decide)) (gs 12 (by decide) (by decide) (by decide)) (fun k hk p h1 h2 => oc k p hk h2 (by omega)))
    (com := fun k hk => by
      obtain ⟨d0, d1, d2, d3, d4, d5, d6, d7, d8, d9, d10, d11⟩ := R.com k hk
      have f : ∀ x, x < 4 → rsgN N c (pl c) a w (973 + 8 * k + x) = N (973 + 8 * k + x) := fun x hx => o _ (by omega) (by omega) (by omega) (by omega) (by omega) (by omega)
      rw [gs 16 (by decide) (by decide) (by decide), gs 17 (by decide) (by decide) (by decide), gs 18 (by decide) (by decide) (by decide), gs 19 (by decide) (by decide) (by decide), show nowS (m_gave M c (pl c) a w) 20 = upd (M 21) c (2 + a) from g21, show nowS (m_gave M c (pl c) a w) 21 = upd (M 22) c (M 1 5) from g22, show nowS (m_gave M c (pl c) a w) 22 = upd (M 23) c w from g23, show nowS (m_gave M c (pl c) a w) 23 = upd (M 24) c (M 16 9) from g24, show vNb (rsgN N c (pl c) a w) (pl k) = vNb N (pl k) from oc _ 0 d3 (by decide) (by decide), show vCm (rsgN N c (pl c) a w) k = vCm N k from f 0 (by decide), show vCc (rsgN N c (pl c) a w) k = vCc N k from f 1 (by decide), show vKd (rsgN N c (pl c) a w) k = vKd N k from f 2 (by decide), show vCv (rsgN N c (pl c) a w) k = vCv N k from f 3 (by decide)]
      by_cases e : k = c
      · subst e
        rw [show vSt (rsgN N k (pl k) a w) k = 2 + a from n4, show vDy (rsgN N k (pl k) a w) k = N 3 from n5, show vTn (rsgN N k (pl k) a w) k = N 10 from n7, upd_s, upd_s, upd_s, upd_s]
        refine ⟨d0, d1, d2, d3, d4, d5, d6, d7, rfl, ?_, fun _ => ⟨R.st.trans R.rt.symm, R.stn⟩, fun h => ?_⟩
        · rcases ha with rfl | rfl | rfl <;> decide
        · rw [hg] at h; exact (n6 (of_decide_eq_true h)).symm
      · have f' : ∀ x, x < 8 → rsgN N c (pl c) a w (973 + 8 * k + x) = N (973 + 8 * k + x) := fun x hx => o _ (by omega) (by omega) (by omega) (by omega) (by omega) (by omega)
        rw [show vSt (rsgN N c (pl c) a w) k = vSt N k from f' 4 (by decide), show vDy (rsgN N c (pl c) a w) k = vDy N k from f' 5 (by decide), show vGv (rsgN N c (pl c) a w) k = vGv N k from f' 6 (by decide), show vTn (rsgN N c (pl c) a w) k = vTn N k from f' 7 (by decide), upd_n _ _ e, upd_n _ _ e, upd_n _ _ e, upd_n _ _ e]
        exact ⟨d0, d1, d2, d3, d4, d5, d6, d7, d8, d9, d10, d11⟩)
    (setl := R.setl' (gs 24 (by decide) (by decide) (by decide)) (fun j _ _ => ol j (by omega) (by omega))) (sum := R.sum' (gs 14 (by decide) (by decide) (by decide)) (fun j _ _ => ol j (by omega) (by omega))) (opn := fun h => absurd h (by decide)) (fr := R.fr) (brp := ⟨fun h => absurd h (by decide), fun h => absurd h (by decide)⟩)
end

