/-! settings, members, votes of both -/
section
variable {M M1 : gM} {nm nc nk ne td no ol hs : Nat} {op br : Bool} {mb pl : Nat → Nat}
theorem keep_hi (h1 : ∀ a, 26 ≤ a → M1 a = m_keep M ol hs a) : M1 131 = M 131 ∧ M1 130 = M 130 :=
  ⟨(h1 131 (by decide)).trans (keep_ne (Or.inr (by decide))), (h1 130 (by decide)).trans (keep_ne (Or.inr (by decide)))⟩
theorem RSe.low {M2 : gM} {row : Nat → Int32} (h : ∀ a, a < 26 → M2 a = M1 a) (R : RSe (nowS M1) row) : RSe (nowS M2) row := R.congr (fun j hj => h (1 + j) (by omega)) (fun _ _ => rfl)
theorem RS.setting {j : Nat} {v : Int32} (hj : j < 5) (hv : setOK j v = true) (R : RS (nowS M) (M 131) nm nc nk ne td no op br mb pl) : RS (nowS (gset M 25 (upd (M 25) j v))) (upd (M 131) (12 + j) v) nm nc nk ne td no op br mb pl := by
  have o : ∀ q, q < 12 ∨ 17 ≤ q → upd (M 131) (12 + j) v q = M 131 q := fun q h => upd_n _ _ (by omega)
  exact RS.mk (sm := R.sm) (bm := R.bm) (rm := (o 0 (by decide)).trans R.rm) (sc := R.sc) (bc := R.bc) (rc := (o 1 (by decide)).trans R.rc) (se := R.se) (be1 := R.be1) (be2 := R.be2) (re := (o 2 (by decide)).trans R.re) (sk := R.sk) (bk := R.bk) (rk := (o 9 (by decide)).trans R.rk) (st := R.st) (bt := R.bt) (rt := (o 3 (by decide)).trans R.rt) (so := R.so) (ro := (o 4 (by decide)).trans R.ro) (sb := R.sb) (rb := (o 11 (by decide)).trans R.rb) (sn := R.sn) (rn := (o 5 (by decide)).trans R.rn) (bn := R.bn) (stn := R.stn.trans (o 10 (by decide)).symm) (z10 := R.z10)
    (mem := R.mem' rfl rfl rfl rfl (fun j _ _ => o j (by omega))) (cl := R.cl' rfl rfl rfl (fun j _ _ => o j (by omega))) (asc := R.asc' (fun k hk => o _ (by omega))) (ed := R.ed' rfl rfl rfl (fun k hk p _ _ => o _ (by omega)))
    (com := R.com' (fun j _ _ => gset_ne _ _ (by omega)) (fun k hk => o _ (by omega)) (fun j _ _ => o j (by omega)))
    (setl := fun q hq => by
      by_cases e : q = j
      · subst e
        exact ⟨(upd_s _ _ _).trans (upd_s _ _ _).symm, by rw [show vSe (upd (M 131) (12 + q) v) q = v from upd_s _ _ _]; exact hv⟩
      · have h1 : vSe (upd (M 131) (12 + j) v) q = vSe (M 131) q := upd_n _ _ (by omega)
        rw [h1]
        exact ⟨(upd_n _ _ e).trans (R.setl q hq).1, (R.setl q hq).2⟩)
    (sum := R.sum' rfl (fun j _ _ => o j (by omega))) (opn := R.opn' rfl (o 6 (by decide)) (o 7 (by decide))) (fr := R.fr) (brp := R.brp' (fun k _ => o _ (by omega)))
theorem RS.member {w : Int32} (hn : nm < 10) (hw : inI w (nI 1) (nI 9) = true) (R : RS (nowS M) (M 131) nm nc nk ne td no op br mb pl) : RS (nowS (m_member M nm w)) (n_member (M 131) nm w) (nm + 1) nc nk ne td no op br mb pl := by
  have o : ∀ q, 0 < q → (q < 23 + 5 * nm ∨ 23 + 5 * nm + 5 ≤ q) → n_member (M 131) nm w q = M 131 q := fun q h0 h => by
    simp only [n_member]; rw [upd_n _ _ (by omega), upd_n _ _ (by omega), blk_out (by omega)]
  exact RS.mk (sm := show upd (M 2) 4 (nI (nm + 1)) 4 = nI (nm + 1) from upd_s _ _ _) (bm := hn) (rm := upd_s _ _ _) (sc := R.sc) (bc := R.bc) (rc := (o 1 (by decide) (by omega)).trans R.rc) (se := R.se) (be1 := R.be1) (be2 := R.be2) (re := (o 2 (by decide) (by omega)).trans R.re) (sk := R.sk) (bk := R.bk) (rk := (o 9 (by decide) (by omega)).trans R.rk) (st := R.st) (bt := R.bt) (rt := (o 3 (by decide) (by omega)).trans R.rt) (so := R.so) (ro := (o 4 (by decide) (by omega)).trans R.ro) (sb := R.sb) (rb := (o 11 (by decide) (by omega)).trans R.rb) (sn := R.sn) (rn := (o 5 (by decide) (by omega)).trans R.rn) (bn := R.bn) (stn := R.stn.trans (o 10 (by decide) (by omega)).symm) (z10 := R.z10)
    (mem := fun m hm => by
      by_cases e : m = nm
      · subst e
        have a0 : vW (n_member (M 131) m w) m = w := by simp only [vW, n_member]; rw [upd_n _ _ (by omega), upd_s]
        have a1 : vMi (n_member (M 131) m w) m = 0 := by simp only [vMi, n_member]; rw [upd_n _ _ (by omega), upd_n _ _ (by omega)  , blk_in (by decide)]
        have a2 : vVo (n_member (M 131) m w) m = 0 := by simp only [vVo, n_member]; rw [upd_n _ _ (by omega), upd_n _ _ (by omega), blk_in (by decide)]
        have a3 : vVd (n_member (M 131) m w) m = 0 := by simp only [vVd, n_member]; rw [upd_n _ _ (by omega), upd_n _ _ (by omega), blk_in (by decide)]
        rw [a0, a1, a2, a3]
        exact ⟨show upd (M 3) m w m = w from upd_s _ _ _, show upd (M 4) m 0 m = 0 from upd_s _ _ _, show upd (M 5) m (-1) m = 0 - 1 from upd_s _ _ _, show upd (M 6) m 0 m = 0 from upd_s _ _ _, hw, by decide⟩
      · have hm' : m < nm := by omega
        have q : ∀ p, p < 5 → n_member (M 131) nm w (23 + 5 * m + p) = M 131 (23 + 5 * m + p) := fun p hp => o _ (by omega) (by omega)
        rw [show vW (n_member (M 131) nm w) m = vW (M 131) m from q 0 (by decide), show vMi (n_member (M 131) nm w) m = vMi (M 131) m from q 1 (by decide), show vVo (n_member (M 131) nm w) m = vVo (M 131) m from q 2 (by decide), show vVd (n_member (M 131) nm w) m = vVd (M 131) m from q 3 (by decide)]
        obtain ⟨b1, b2, b3, b4, b5, b6⟩ := R.mem m hm'
        exact ⟨(upd_n (M 3) _ e).trans b1, (upd_n (M 4) _ e).trans b2, (upd_n (M 5) _ e).trans b3, (upd_n (M 6) _ e).trans b4, b5, b6⟩)
    (cl := R.cl' rfl rfl rfl (fun j _ _ => o j (by omega) (by omega))) (asc := R.asc' (fun k hk => o _ (by omega) (by omega))) (ed := R.ed' rfl rfl rfl (fun k hk p _ _ => o _ (by omega) (by omega)))
    (com := fun k hk => by
      have h := R.com' (S' := nowS (m_member M nm w)) (N' := n_member (M 131) nm w) (fun j _ _ => by
        show m_member M nm w (1 + j) = M (1 + j)
        simp only [m_member]
        rw [gset_ne _ _ (by omega), gset_ne _ _ (by omega), gset_ne _ _ (by omega), gset_ne _ _ (by omega), gset_ne _ _ (by omega)]) (fun k hk => o _ (by omega) (by omega)) (fun j _ _ => o j (by omega) (by omega)) k hk
      exact ⟨Nat.lt_succ_of_lt h.1, h.2⟩)
    (setl := R.setl' rfl (fun j _ _ => o j (by omega) (by omega))) (sum := R.sum' rfl (fun j _ _ => o j (by omega) (by omega))) (opn := R.opn' rfl (o 6 (by decide) (by omega)) (o 7 (by decide) (by omega))) (fr := R.fr) (brp := R.brp' (fun k _ => o _ (by omega) (by omega)))
end
theorem op_set (E : gE) (w v : Int32) : opEq E k_X7_set k_X8_set [.int w, .int v] := by
  intro M hI
  obtain ⟨ch, L, ol, hs, t1, t2, H, nm, nc, nk, ne, td, no, op, br, mb, pl, R⟩ := id hI
  refine ⟨_, c_X7_set E w v R.WS H.1, fun r M1 hr => ?_⟩
  have e : M1 131 = M 131 ∧ M1 130 = M 130 := by
    rcases hr with ⟨j, -, -, -, -, h2⟩ | ⟨-, -, h2⟩
    · exact keep_hi (ol := ol) (hs := hs) (fun a ha => by rw [h2]; exact gset_ne _ _ (by omega))
    · rw [h2]; exact ⟨rfl, rfl⟩
  refine ⟨_, c_X8_set E M1 hs w v (by rw [e.2]; exact H.2.1) H.1.2.2.2, fun r' M2 hr' => ?_⟩
  rcases hr with ⟨j, hj, rfl, hok, h1, h2⟩ | ⟨hno, h1, h2⟩
  · rcases hr' with ⟨j', hj', hjj, -, h1', h2'⟩ | ⟨hno', -, -⟩
    · have ej : j = j' := (nI_eq (by omega) (by omega)).mp hjj
      subst ej
      rw [e.1] at h1' h2'
      refine ⟨h1'.trans ((R.setl j hj).1.symm.trans h1.symm), ?_⟩
      rw [h2']
      refine Inv.fin t1 t2 H ⟨_, _, _, _, _, _, _, _, _, _, R⟩ (fun a ha => by rw [h2]; exact gset_ne _ _ (by omega)) (RSe.low (fun a ha => ?_) ⟨_, _, _, _, _, _, _, _, _, _, R.setting hj hok⟩)
      rw [h2]
      simp only [gset, keep_ne (M := M) (ol := ol) (hs := hs) (Or.inl ha)]
    · exact absurd (hno' j hj rfl) (by rw [hok]; decide)
  · rcases hr' with ⟨j', hj', hjj, hok', -, -⟩ | ⟨-, h1', h2'⟩
    · exact absurd (hno j' hj' hjj) (by rw [hok']; decide)
    · exact ⟨h1'.trans h1.symm, by rw [h2', h2]; exact hI⟩
theorem op_addMember (E : gE) (w : Int32) : opEq E k_X7_addMember k_X8_addMember [.int w] := by
  intro M hI
  obtain ⟨ch, L, ol, hs, t1, t2, H, nm, nc, nk, ne, td, no, op, br, mb, pl, R⟩ := id hI
  refine ⟨_, c_X7_addMember E w R.WS H.1, fun r M1 hr => ?_⟩
  have kp : ∀ a, 26 ≤ a → m_member (m_keep M ol hs) nm w a = m_keep M ol hs a := fun a ha => by
    simp only [m_member]
    rw [gset_ne _ _ (by omega), gset_ne _ _ (by omega), gset_ne _ _ (by omega), gset_ne _ _ (by omega), gset_ne _ _ (by omega)]
  unfold x_addMember at hr
  by_cases c1 : inI w (nI 1) (nI 9) = false
  · rw [if_pos c1] at hr
    obtain ⟨rfl, rfl⟩ := Prod.mk.inj hr
    refine ⟨_, c_X8_addMember E M1 nm hs w R.rm R.bm H.2.1 H.1.2.2.2, fun r' M2 hr' => ?_⟩
    rw [y_addMember, if_pos c1] at hr'
    obtain ⟨rfl, rfl⟩ := Prod.mk.inj hr'
    exact ⟨rfl, hI⟩
  · rw [if_neg c1] at hr
    by_cases c2 : nm = 10
    · rw [if_pos c2] at hr
      obtain ⟨rfl, rfl⟩ := Prod.mk.inj hr
      refine ⟨_, c_X8_addMember E M1 nm hs w R.rm R.bm H.2.1 H.1.2.2.2, fun r' M2 hr' => ?_⟩
      rw [y_addMember, if_neg c1, if_pos c2] at hr'
      obtain ⟨rfl, rfl⟩ := Prod.mk.inj hr'
      exact ⟨rfl, hI⟩
    · rw [if_neg c2] at hr
      obtain ⟨h1, h2⟩ := Prod.mk.inj hr
      have hk : ∀ a, 26 ≤ a → M1 a = m_keep M ol hs a := fun a ha => by rw [h2]; exact kp a ha
      obtain ⟨e1, e0⟩ := keep_hi hk
      refine ⟨_, c_X8_addMember E M1 nm hs w (by rw [e1]; exact R.rm) R.bm (by rw [e0]; exact H.2.1) H.1.2.2.2, fun r' M2 hr' => ?_⟩
      rw [y_addMember, if_neg c1, if_neg c2, e1] at hr'
      obtain ⟨rfl, rfl⟩ := Prod.mk.inj hr'
      refine ⟨h1.symm, Inv.fin t1 t2 H ⟨_, _, _, _, _, _, _, _, _, _, R⟩ hk (RSe.low (fun a ha => ?_) ⟨_, _, _, _, _, _, _, _, _, _, R.member (by have := R.bm; omega) (by simpa using c1)⟩)⟩
      rw [h2]
      have K : ∀ a, a < 26 → m_keep M ol hs a = M a := fun a ha => keep_ne (Or.inl ha)
      simp only [m_member, gset, K 2 (by decide), K 3 (by decide), K 4 (by decide), K 5 (by decide), K 6 (by decide), K a ha]

