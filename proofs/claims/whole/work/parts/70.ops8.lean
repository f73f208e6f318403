/-! adding a clause, of both -/
section
variable {M M1 : gM} {N : Nat → Int32} {nm nc nk ne td no ol hs L : Nat} {op br : Bool} {mb pl : Nat → Nat}
theorem insAt_lo {p n k : Nat} {x : Int32} {r : Nat → Int32} (h : k < p) : insAt p n x r k = r k := by
  simp only [insAt]; rw [upd_n _ _ (by omega), shf_lo (by omega)]
theorem insAt_eq {p n : Nat} {x : Int32} {r : Nat → Int32} : insAt p n x r p = x := upd_s _ _ _
theorem insAt_hi {p n k : Nat} {x : Int32} {r : Nat → Int32} (h : p < k) (h2 : k ≤ n) : insAt p n x r k = r (k - 1) := by
  simp only [insAt]; rw [upd_n _ _ (by omega)]; exact if_pos ⟨h, h2⟩
theorem ins_out {p n j : Nat} {c v : Int32} (h1 : j ≠ 1) (h : j < 73 ∨ 73 + 45 * (n + 1) ≤ j) (hp : p ≤ n) : n_insert N p n c v j = N j := by
  simp only [n_insert]
  rw [upd_n _ _ h1, upd_n _ _ (by omega), upd_n _ _ (by omega), upd_n _ _ (by omega), blk_out (by omega)]
  simp only [shB]; rw [if_neg (by omega)]
theorem ins_lo {p n k q : Nat} {c v : Int32} (hk : k < p) (hq : q < 45) : n_insert N p n c v (73 + 45 * k + q) = N (73 + 45 * k + q) := by
  simp only [n_insert]
  rw [upd_n _ _ (by omega), upd_n _ _ (by omega), upd_n _ _ (by omega), upd_n _ _ (by omega), blk_out (by omega), shB_lo (by omega)]
theorem ins_hi {p n k q : Nat} {c v : Int32} (hk : p < k) (hn : k ≤ n) (hq : q < 45) : n_insert N p n c v (73 + 45 * k + q) = N (73 + 45 * (k - 1) + q) := by
  simp only [n_insert]
  rw [upd_n _ _ (by omega), upd_n _ _ (by omega), upd_n _ _ (by omega), upd_n _ _ (by omega), blk_out (by omega)]
  simp only [shB]; rw [if_pos (by omega)]; exact congrArg N (by omega)
theorem ins_0 {p n : Nat} {c v : Int32} : n_insert N p n c v (73 + 45 * p + 0) = c := by
  simp only [n_insert]; rw [upd_n _ _ (by omega), upd_n _ _ (by omega), upd_n _ _ (by omega), upd_s]
theorem ins_1 {p n : Nat} {c v : Int32} : n_insert N p n c v (73 + 45 * p + 1) = v := by
  simp only [n_insert]; rw [upd_n _ _ (by omega), upd_n _ _ (by omega), upd_s]
theorem ins_4 {p n : Nat} {c v : Int32} : n_insert N p n c v (73 + 45 * p + 3 + 1) = v := by
  simp only [n_insert]; rw [upd_n _ _ (by omega), upd_s]
theorem ins_z {p n q : Nat} {c v : Int32} (hq : q < 45) (h : q ≠ 0 ∧ q ≠ 1 ∧ q ≠ 4) : n_insert N p n c v (73 + 45 * p + q) = 0 := by
  simp only [n_insert]; rw [upd_n _ _ (by omega), upd_n _ _ (by omega), upd_n _ _ (by omega), upd_n _ _ (by omega), blk_in hq]
theorem RS.inserted {p : Nat} {c v : Int32} (hnc : nc < 20) (h0 : no = 0) (hI : insP (vNb N) p nc c) (hno : ∀ k, k < nc → vNb N k ≠ c) (R : RS (nowS M) N nm nc nk ne td no op br mb pl) : RS (nowS (m_insert M p nc c v)) (n_insert N p nc c v) nm (nc + 1) nk ne td no op br mb pl := by
  obtain ⟨f1, f2, f3⟩ := R.fr h0
  obtain ⟨hp, hge, hlt⟩ := hI
  have o : ∀ q, q ≠ 1 → (q < 73 ∨ 973 ≤ q) → n_insert N p nc c v q = N q := fun q h1 h => ins_out h1 (by omega) hp
  have lt : ∀ k, k < p → vNb N k < c := fun k hk => by
    have h1 : vNb N (p - 1) < c := by
      rcases hlt with h | h
      · omega
      · rcases Int32.lt_or_le (vNb N (p - 1)) c with q | q
        · exact q
        · rcases Int32.le_iff_lt_or_eq.mp q with q | q
          · exact absurd q h
          · exact absurd q.symm (hno (p - 1) (by omega))
    by_cases e : k = p - 1
    · rw [e]; exact h1
    · exact Int32.lt_trans (R.asc k (p - 1) (by omega) (by omega)) h1
  have nb : ∀ k, k < nc + 1 → vNb (n_insert N p nc c v) k = if k < p then vNb N k else if k = p then c else vNb N (k - 1) := fun k hk => by
    by_cases h1 : k < p
    · rw [if_pos h1]; exact ins_lo h1 (by decide)
    · rw [if_neg h1]
      by_cases h2 : k = p
      · rw [if_pos h2, h2]; exact ins_0
      · rw [if_neg h2]; exact ins_hi (by omega) (by omega) (by decide)
  exact RS.mk (sm := R.sm) (bm := R.bm) (rm := (o 0 (by decide) (by decide)).trans R.rm) (sc := show upd (M 7) 6 (nI (nc + 1)) 6 = nI (nc + 1) from upd_s _ _ _) (bc := hnc) (rc := upd_s _ _ _) (se := (show upd (M 7) 6 (nI (nc + 1)) 7 = M 7 7 from upd_n _ _ (by decide)).trans R.se) (be1 := R.be1) (be2 := R.be2) (re := (o 2 (by decide) (by decide)).trans R.re) (sk := R.sk) (bk := R.bk) (rk := (o 9 (by decide) (by decide)).trans R.rk) (st := R.st) (bt := R.bt) (rt := (o 3 (by decide) (by decide)).trans R.rt) (so := R.so) (ro := (o 4 (by decide) (by decide)).trans R.ro) (sb := R.sb) (rb := (o 11 (by decide) (by decide)).trans R.rb) (sn := R.sn) (rn := (o 5 (by decide) (by decide)).trans R.rn) (bn := R.bn) (stn := R.stn.trans (o 10 (by decide) (by decide)).symm) (z10 := R.z10)
    (mem := R.mem' rfl rfl rfl rfl (fun j _ _ => o j (by omega) (by omega)))
    (cl := fun k hk => by
      rcases Nat.lt_trichotomy k p with h | h | h
      · obtain ⟨b1, b2, -⟩ := R.cl k (by omega)
        exact ⟨(insAt_lo h : insAt p nc c (M 8) k = M 8 k).trans (b1.trans (ins_lo h (by decide)).symm), (insAt_lo h : insAt p nc v (M 9) k = M 9 k).trans (b2.trans (ins_lo h (by decide)).symm), fun q => absurd h0 q⟩
      · subst h
        exact ⟨(insAt_eq : insAt k nc c (M 8) k = c).trans ins_0.symm, (insAt_eq : insAt k nc v (M 9) k = v).trans ins_1.symm, fun q => absurd h0 q⟩
      · obtain ⟨b1, b2, -⟩ := R.cl (k - 1) (by omega)
        exact ⟨(insAt_hi h (by omega) : insAt p nc c (M 8) k = M 8 (k - 1)).trans (b1.trans (ins_hi h (by omega) (by decide)).symm), (insAt_hi h (by omega) : insAt p nc v (M 9) k = M 9 (k - 1)).trans (b2.trans (ins_hi h (by omega) (by decide)).symm), fun q => absurd h0 q⟩)
    (asc := fun i k hik hk => by
      rw [nb i (by omega), nb k hk]
      by_cases k1 : k < p
      · rw [if_pos (show i < p by omega), if_pos k1]; exact R.asc i k hik (by omega)
      · rw [if_neg k1]
        by_cases k2 : k = p
        · rw [if_pos k2, if_pos (show i < p by omega)]; exact lt i (by omega)
        · rw [if_neg k2]
          by_cases i1 : i < p
          · rw [if_pos i1]; exact R.asc i (k - 1) (by omega) (by omega)
          · rw [if_neg i1]
            by_cases i2 : i = p
            · rw [if_pos i2]; exact hge (k - 1) (by omega) (by omega)
            · rw [if_neg i2]; exact R.asc (i - 1) (k - 1) (by omega) (by omega))
    (ed := fun k hk e he1 he2 => by
      have ee : e = 1 := by omega
      subst ee
      refine ⟨?_, ?_, fun q => absurd q (by decide)⟩
      · show insAt p nc v (M 12) ((1 - 1) * 20 + k) = n_insert N p nc c v (73 + 45 * k + 3 + 1)
        rw [show (1 - 1) * 20 + k = k by omega]
        rcases Nat.lt_trichotomy k p with h | h | h
        · have b := (R.ed k (by omega) 1 (by decide) he2).1
          rw [show (1 - 1) * 20 + k = k by omega] at b
          rw [insAt_lo h, show M 12 k = N (73 + 45 * k + 3 + 1) from b]; exact (ins_lo h (by decide : 4 < 45)).symm
        · subst h; rw [insAt_eq, ins_4]
        · have b := (R.ed (k - 1) (by omega) 1 (by decide) he2).1
          rw [show (1 - 1) * 20 + (k - 1) = k - 1 by omega] at b
          rw [insAt_hi h (by omega), show M 12 (k - 1) = N (73 + 45 * (k - 1) + 3 + 1) from b]; exact (ins_hi h (by omega) (by decide : 4 < 45)).symm
      · show M 11 (1 - 1) = n_insert N p nc c v (73 + 45 * k + 17 + 1)
        rw [show M 11 (1 - 1) = 0 from R.z10]
        rcases Nat.lt_trichotomy k p with h | h | h
        · have b : M 11 (1 - 1) = N (73 + 45 * k + 17 + 1) := (R.ed k (by omega) 1 (by decide) he2).2.1
          rw [show M 11 (1 - 1) = 0 from R.z10] at b
          exact b.trans (ins_lo h (by decide : 18 < 45)).symm
        · subst h; exact (ins_z (by decide : 18 < 45) (by decide)).symm
        · have b : M 11 (1 - 1) = N (73 + 45 * (k - 1) + 17 + 1) := (R.ed (k - 1) (by omega) 1 (by decide) he2).2.1
          rw [show M 11 (1 - 1) = 0 from R.z10] at b
          exact b.trans (ins_hi h (by omega) (by decide : 18 < 45)).symm)
    (com := fun k hk => absurd hk (by omega))
    (setl := R.setl' rfl (fun j _ _ => o j (by omega) (by omega))) (sum := R.sum' rfl (fun j _ _ => o j (by omega) (by omega))) (opn := R.opn' rfl (o 6 (by decide) (by decide)) (o 7 (by decide) (by decide))) (fr := R.fr) (brp := R.brp' (fun k hk => absurd hk (by omega)))
theorem insP_uniq {r s : Nat → Int32} {p q n : Nat} {c : Int32} (h : ∀ k, k < n → r k = s k) (hp : insP r p n c) (hq : insP s q n c) : p = q := by
  obtain ⟨a1, a2, a3⟩ := hp
  obtain ⟨b1, b2, b3⟩ := hq
  rcases Nat.lt_trichotomy p q with e | e | e
  · rcases b3 with b3 | b3
    · omega
    · exact absurd (by rw [← h (q - 1) (by omega)]; exact a2 (q - 1) (by omega) (by omega)) b3
  · exact e
  · rcases a3 with a3 | a3
    · omega
    · exact absurd (by rw [h (p - 1) (by omega)]; exact b2 (p - 1) (by omega) (by omega)) a3
end
theorem op_addClause (E : gE) (c v : Int32) : opEq E k_X7_addClause k_X8_addClause [.int c, .int v] := by
  intro M hI
  obtain ⟨ch, L, ol, hs, t1, t2, H, nm, nc, nk, ne, td, no, op, br, mb, pl, R⟩ := id hI
  have bc := R.bc
  refine ⟨_, c_X7_addClause E c v R.WS H.1, fun r M1 hr => ?_⟩
  have e : M1 131 = M 131 ∧ M1 130 = M 130 := by
    unfold x_addClause at hr
    split at hr
    · rw [hr.2]; exact ⟨rfl, rfl⟩
    · split at hr
      · rw [hr.2]; exact ⟨rfl, rfl⟩
      · split at hr
        · rw [hr.2]; exact ⟨rfl, rfl⟩
        · obtain ⟨-, p, -, h2⟩ := hr
          exact keep_hi (ol := ol) (hs := hs) (fun a ha => by
            rw [h2]; simp only [m_insert]
            rw [gset_ne _ _ (by omega), gset_ne _ _ (by omega), gset_ne _ _ (by omega), gset_ne _ _ (by omega)])
  obtain ⟨e1, e0⟩ := e
  refine ⟨_, c_X8_addClause E M1 nc hs c v (by rw [e1]; exact R.rc) R.bc (by rw [e0]; exact H.2.1) H.1.2.2.2, fun r' M2 hr' => ?_⟩
  unfold y_addClause at hr'
  unfold x_addClause at hr
  rw [e1, R.rn] at hr'
  rw [R.fnd8, show M 14 3 = nI no from R.sn] at hr
  by_cases c1 : inI c (nI 1) (nI 99) = false ∨ inI v (nI 0) (nI 9999) = false
  · rw [if_pos c1] at hr hr'
    exact ⟨hr'.1.trans hr.1.symm, by rw [hr'.2, hr.2]; exact hI⟩
  · rw [if_neg c1] at hr hr'
    by_cases c2 : 0 < nI no ∨ ¬ fndTo nc (fun k => decide (vNb (M 131) k = c)) = none
    · rw [if_pos c2] at hr hr'
      exact ⟨hr'.1.trans hr.1.symm, by rw [hr'.2, hr.2]; exact hI⟩
    · rw [if_neg c2] at hr hr'
      by_cases c3 : nc = 20
      · rw [if_pos c3] at hr hr'
        exact ⟨hr'.1.trans hr.1.symm, by rw [hr'.2, hr.2]; exact hI⟩
      · rw [if_neg c3] at hr hr'
        obtain ⟨h1, p, hp, h2⟩ := hr
        obtain ⟨h1', p', hp', h2'⟩ := hr'
        have ep : p = p' := insP_uniq (fun k hk => (R.cl k hk).1) hp hp'
        subst ep
        have hk : ∀ a, 26 ≤ a → M1 a = m_keep M ol hs a := fun a ha => by
          rw [h2]; simp only [m_insert]
          rw [gset_ne _ _ (by omega), gset_ne _ _ (by omega), gset_ne _ _ (by omega), gset_ne _ _ (by omega)]
        have h0 : no = 0 := by
          have b1 := R.bn
          have b2 := R.bt
          rcases Nat.eq_zero_or_pos no with q | q
          · exact q
          · exact absurd (Or.inl ((nI_ltI (a := 0) (b := no) (by decide) (by omega)).mpr q)) c2
        have hnone : fndTo nc (fun k => decide (vNb (M 131) k = c)) = none := by
          cases hf : fndTo nc (fun k => decide (vNb (M 131) k = c)) with
          | none => rfl
          | some q => exact absurd (Or.inr (by rw [hf]; exact fun h => by cases h)) c2
        refine ⟨h1'.trans h1.symm, ?_⟩
        rw [h2']
        refine Inv.fin t1 t2 H ⟨_, _, _, _, _, _, _, _, _, _, R⟩ hk (RSe.low (fun a ha => ?_) ⟨_, _, _, _, _, _, _, _, _, _, R.inserted (v := v) (by omega) h0 hp' (fun k hk q => by
          have := fndTo_none hnone k hk
          exact absurd q (of_decide_eq_false this))⟩)
        rw [h2]
        have K : ∀ a, a < 26 → m_keep M ol hs a = M a := fun a ha => keep_ne (Or.inl ha)
        simp only [m_insert, gset, K 7 (by decide), K 8 (by decide), K 9 (by decide), K 12 (by decide), K a ha]

