/-! appeals of both: the operation -/
section
variable {M M1 : gM} {N : Nat → Int32} {nm nc nk ne td no ol hs L : Nat} {op br : Bool} {mb pl : Nat → Nat}
def unbM (M : gM) (ne : Nat) : gM := gset (gset M 14 (upd (M 14) 2 0)) 7 (upd (M 7) 7 (nI (ne - 1)))
def unbN (N : Nat → Int32) : Nat → Int32 := upd (upd N 11 0) 2 (N 2 - 1)
theorem RS.unb (R : RS (nowS M) N nm nc nk ne td no op true mb pl) : RS (nowS (unbM M ne)) (unbN N) nm nc nk (ne - 1) td no op false mb pl := by
  have h2 := (R.brp.1 rfl).2
  have h12 := R.ne12
  have o : ∀ q, q ≠ 2 → q ≠ 11 → unbN N q = N q := fun q h1 h2 => by simp only [unbN]; rw [upd_n _ _ h1, upd_n _ _ h2]
  exact RS.mk (sm := R.sm) (bm := R.bm) (rm := (o 0 (by decide) (by decide)).trans R.rm) (sc := (show upd (M 7) 7 (nI (ne - 1)) 6 = M 7 6 from upd_n _ _ (by decide)).trans R.sc) (bc := R.bc) (rc := (o 1 (by decide) (by decide)).trans R.rc) (se := show upd (M 7) 7 (nI (ne - 1)) 7 = nI (ne - 1) from upd_s _ _ _) (be1 := by omega) (be2 := by simp; omega) (re := (show unbN N 2 = N 2 - 1 from upd_s _ _ _).trans (by rw [R.re]; exact nI_m1 R.be1)) (sk := R.sk) (bk := R.bk) (rk := (o 9 (by decide) (by decide)).trans R.rk) (st := R.st) (bt := R.bt) (rt := (o 3 (by decide) (by decide)).trans R.rt) (so := (show upd (M 14) 2 0 1 = M 14 1 from upd_n _ _ (by decide)).trans R.so) (ro := (o 4 (by decide) (by decide)).trans R.ro) (sb := show upd (M 14) 2 0 2 = 0 from upd_s _ _ _) (rb := (show unbN N 11 = 0 by simp only [unbN]; rw [upd_n _ _ (by decide), upd_s])) (sn := (show upd (M 14) 2 0 3 = M 14 3 from upd_n _ _ (by decide)).trans R.sn) (rn := (o 5 (by decide) (by decide)).trans R.rn) (bn := R.bn) (stn := R.stn.trans (o 10 (by decide) (by decide)).symm) (z10 := R.z10)
    (mem := R.mem' rfl rfl rfl rfl (fun j _ _ => o j (by omega) (by omega))) (cl := R.cl' rfl rfl rfl (fun j _ _ => o j (by omega) (by omega))) (asc := R.asc' (fun k hk => o _ (by omega) (by omega)))
    (ed := fun k hk e h1 h2 => R.ed' (S' := nowS (unbM M ne)) (N' := unbN N) rfl rfl rfl (fun k hk p _ _ => o _ (by omega) (by omega)) k hk e h1 (by omega))
    (com := R.com' (fun j _ _ => by show unbM M ne (1 + j) = M (1 + j); simp only [unbM]; rw [gset_ne _ _ (by omega), gset_ne _ _ (by omega)]) (fun k hk => o _ (by omega) (by omega)) (fun j _ _ => o j (by omega) (by omega)))
    (setl := R.setl' rfl (fun j _ _ => o j (by omega) (by omega))) (sum := R.sum' rfl (fun j _ _ => o j (by omega) (by omega))) (opn := R.opn' (show upd (M 14) 2 0 4 = M 14 4 from upd_n _ _ (by decide)) (o 6 (by decide) (by decide)) (o 7 (by decide) (by decide)))
    (fr := fun h => by have := (R.fr h).2.1; omega) (brp := ⟨fun h => absurd h (by decide), fun h => absurd (R.brp.2 h).1 (by decide)⟩)
theorem RSe.reopened {c : Nat} (ho : op = false) (hc : c < nk) (h2 : ¬ vSt N c < 2) (R : RS (nowS M) N nm nc nk ne td no op br mb pl) : RSe (nowS (m_reopen M c (pl c) nk ne br)) (rpN N c (pl c) nk br) := by
  cases br with
  | false => exact ⟨_, _, _, _, _, _, _, _, _, _, R.taken ho hc h2⟩
  | true =>
    have R0 := R.unb
    have e2 : ∀ q, q ≠ 2 → q ≠ 11 → unbN N q = N q := fun q h1 h2 => by simp only [unbN]; rw [upd_n _ _ h1, upd_n _ _ h2]
    have h20 : ¬ vSt (unbN N) c < 2 := by rw [show vSt (unbN N) c = vSt N c from e2 _ (by omega) (by omega)]; exact h2
    have RT := R0.taken ho hc h20
    have ht : takB (unbM M ne) c (pl c) nk = takB M c (pl c) nk := rfl
    have hn : tkN (unbN N) c (pl c) nk = tkN N c (pl c) nk := by rw [tak_eq hc h20 R0, tak_eq hc h2 R, ht]
    refine RSe.congr (fun j hj => ?_) (fun j hj => ?_) ⟨_, _, _, _, _, _, _, _, _, _, RT⟩
    · show m_reopen M c (pl c) nk ne true (1 + j) = m_taken (unbM M ne) c (pl c) nk (1 + j)
      unfold m_reopen m_taken
      rw [ht, if_pos rfl]
      split
      · simp only [gset, unbM]
        by_cases a1 : 1 + j = 7
        · rw [a1]; rfl
        · by_cases a2 : 1 + j = 14
          · rw [a2]; rfl
          · simp only [if_neg a1, if_neg a2]; rfl
      · simp only [gset, unbM]
        by_cases a1 : 1 + j = 7
        · rw [a1]; rfl
        · by_cases a2 : 1 + j = 14
          · rw [a2]; rfl
          · simp only [if_neg a1, if_neg a2]; rfl
    · have bg : vBg (unbN N) (pl c) = vBg N (pl c) := e2 _ (by omega) (by omega)
      unfold rpN rp1N
      rw [hn, if_pos rfl, bg]
      by_cases q2 : j = 2
      · subst q2
        rw [upd_s]
        split
        · rw [upd_n _ _ (by omega), upd_n _ _ (by omega)]; exact (upd_s _ _ _).symm
        · rw [upd_n _ _ (by omega)]; exact (upd_s _ _ _).symm
      · rw [upd_n _ _ q2]
        by_cases q11 : j = 11
        · subst q11
          have z : unbN N 11 = 0 := by simp only [unbN]; rw [upd_n _ _ (by decide), upd_s]
          rw [upd_s]
          split
          · rw [upd_n _ _ (by omega), upd_n _ _ (by omega), z]
          · rw [upd_n _ _ (by omega), z]
        · rw [upd_n _ _ q11]
          split
          · simp only [upd]; split
            · rfl
            · split
              · rfl
              · exact (e2 j q2 q11).symm
          · simp only [upd]; split
            · rfl
            · exact (e2 j q2 q11).symm
end
section
variable {M : gM} {nm nc nk ne td no : Nat} {op br : Bool} {mb pl : Nat → Nat}
theorem actIn_eq (R : RS (nowS M) (M 131) nm nc nk ne td no op br mb pl) (s : Int32) : actIn (vW (M 131)) (vMi (M 131)) (vSe (M 131)) s nm = actIn (M 3) (M 4) (M 25) s nm := by
  simp only [actIn]
  refine sumTo_congr (fun m hm => ?_)
  rw [lap_eq R hm, show M 3 m = vW (M 131) m from (R.mem m hm).1]
end
theorem op_appeal (E : gE) (c m s : Int32) : opEq E k_X7_appeal k_X8_appeal [.int c, .int m, .int s] := by
  intro M hI
  obtain ⟨ch, L, ol, hs, t1, t2, H, nm, nc, nk, ne, td, no, op, br, mb, pl, R⟩ := id hI
  have bk := R.bk
  refine ⟨_, c_X7_appeal E c m s R.WS H.1, fun r M1 hr => ?_⟩
  have old : M1 131 = M 131 → M1 130 = M 130 → ∃ P2 : Int32 → gM → Prop, gMet E k_X8_appeal [.ref 130, .int c, .int m, .int s] M1 (gInt P2) ∧ ∀ r' M2, P2 r' M2 → (r', M2) = y_appeal M1 nm nk hs op br pl c m s := fun e1 e0 =>
    ⟨_, c_X8_appeal E M1 nm nc nk hs op br pl c m s (by rw [e1]; exact R.rm) R.bm (by rw [e1]; exact R.rc) R.bc (by rw [e1]; exact R.rk) R.bk (by rw [e1]; exact R.ro) (by rw [e1]; exact R.rb) (by rw [e0]; exact H.2.1) H.1.2.2.2 (by rw [e1]; exact R.place), fun _ _ h => h⟩
  unfold x_appeal at hr
  have hbit : (s >>> (m &&& 31)) &&& 1 = 1 ↔ ¬ (s >>> (m &&& 31)) &&& 1 = 0 := by
    rcases and1_01 (s >>> (m &&& 31)) with h | h <;> rw [h] <;> decide
  by_cases c1 : inR c nk = true ∧ inR m nm = true ∧ inR s (2 ^ nm) = true ∧ ¬ (s >>> (m &&& 31)) &&& 1 = 0
  · rw [if_pos c1] at hr
    have c1' : inR c nk = true ∧ inR m nm = true ∧ inR s (2 ^ nm) = true ∧ (s >>> (m &&& 31)) &&& 1 = 1 := ⟨c1.1, c1.2.1, c1.2.2.1, hbit.mpr c1.2.2.2⟩
    obtain ⟨j, hj, rfl⟩ := inR_t (by omega) c1.1
    rw [cl_nI (by omega)] at hr
    obtain ⟨d0, d1, d2, d3, d4, d5, d6, d7, d8, d9, d10, d11⟩ := R.com j hj
    have d8 : M 21 j = vSt (M 131) j := d8
    have ey : ∀ M1, M1 131 = M 131 → y_appeal M1 nm nk hs op br pl (nI j) m s = if op = true ∨ vSt (M 131) j < 2 ∨ ¬ M 131 3 ≤ vDy (M 131) j + M 131 15 then (-2, M1) else if 2 * actIn (M 3) (M 4) (M 25) s nm ≤ actW (M 3) (M 4) (M 25) nm then (0, m_rec M1 hs) else (1, gset (m_rec M1 hs) 131 (rpN (M 131) j (pl j) nk br)) := fun M1 h => by
      rw [y_appeal, if_pos c1', cl_nI (by omega), h, actIn_eq R, act_eq R]
    have ec : (op = true ∨ M 21 j < 2 ∨ ¬ M 1 5 ≤ M 22 j + M 25 3) ↔ (op = true ∨ vSt (M 131) j < 2 ∨ ¬ M 131 3 ≤ vDy (M 131) j + M 131 15) := by
      rw [d8, show M 1 5 = M 131 3 from R.st.trans R.rt.symm, show M 25 3 = M 131 15 from (R.setl 3 (by decide)).1]
      by_cases h : vSt (M 131) j < 2
      · exact ⟨fun _ => Or.inr (Or.inl h), fun _ => Or.inr (Or.inl h)⟩
      · rw [show M 22 j = vDy (M 131) j from (d10 h).1]
    by_cases c2 : op = true ∨ M 21 j < 2 ∨ ¬ M 1 5 ≤ M 22 j + M 25 3
    · rw [if_pos c2] at hr
      obtain ⟨rfl, rfl⟩ := Prod.mk.inj hr
      obtain ⟨P2, q1, q2⟩ := old rfl rfl
      refine ⟨P2, q1, fun r' M2 h => ?_⟩
      have h := q2 r' M2 h
      rw [ey _ rfl, if_pos (ec.mp c2)] at h
      obtain ⟨rfl, rfl⟩ := Prod.mk.inj h
      exact ⟨rfl, hI⟩
    · rw [if_neg c2] at hr
      have c2' := fun h => c2 (ec.mpr h)
      have h2 : ¬ vSt (M 131) j < 2 := fun h => c2' (Or.inr (Or.inl h))
      have K : ∀ a, a < 26 → m_keep M ol hs a = M a := fun a ha => keep_ne (Or.inl ha)
      have RK : RS (nowS (m_keep M ol hs)) (M 131) nm nc nk ne td no op br mb pl := R.congr (fun j hj => K (1 + j) (by omega)) (fun _ _ => rfl)
      by_cases c3 : 2 * actIn (M 3) (M 4) (M 25) s nm ≤ actW (M 3) (M 4) (M 25) nm
      · rw [if_pos c3] at hr
        obtain ⟨rfl, h2'⟩ := Prod.mk.inj hr
        have hk : ∀ a, 26 ≤ a → M1 a = m_keep M ol hs a := fun a _ => by rw [h2']
        obtain ⟨e1, e0⟩ := keep_hi hk
        obtain ⟨P2, q1, q2⟩ := old e1 e0
        refine ⟨P2, q1, fun r' M2 h => ?_⟩
        have h := q2 r' M2 h
        rw [ey M1 e1, if_neg c2', if_pos c3] at h
        obtain ⟨rfl, h3⟩ := Prod.mk.inj h
        have IB := Inv.fin (M1 := M1) (row := M 131) t1 t2 H ⟨_, _, _, _, _, _, _, _, _, _, R⟩ hk (by rw [h2']; exact ⟨_, _, _, _, _, _, _, _, _, _, RK⟩)
        have eg : gset (m_rec M1 hs) 131 (M 131) = m_rec M1 hs := by
          rw [← e1, ← (rec_ne (M := M1) (sv := hs) (a := 131) (by decide)), gset_self]
        rw [eg] at IB
        exact ⟨rfl, by rw [h3]; exact IB⟩
      · rw [if_neg c3] at hr
        obtain ⟨rfl, h2'⟩ := Prod.mk.inj hr
        have hk : ∀ a, 26 ≤ a → M1 a = m_keep M ol hs a := fun a ha => by
          rw [h2']; unfold m_reopen m_taken
          split <;> split
          · rw [gset_ne _ _ (by omega), gset_ne _ _ (by omega), gset_ne _ _ (by omega), gset_ne _ _ (by omega)]
          · rw [gset_ne _ _ (by omega), gset_ne _ _ (by omega), gset_ne _ _ (by omega)]
          · rw [gset_ne _ _ (by omega), gset_ne _ _ (by omega)]
          · rw [gset_ne _ _ (by omega)]
        obtain ⟨e1, e0⟩ := keep_hi hk
        obtain ⟨P2, q1, q2⟩ := old e1 e0
        refine ⟨P2, q1, fun r' M2 h => ?_⟩
        have h := q2 r' M2 h
        rw [ey M1 e1, if_neg c2', if_neg c3] at h
        obtain ⟨rfl, h3⟩ := Prod.mk.inj h
        refine ⟨rfl, ?_⟩
        rw [h3]
        exact Inv.fin t1 t2 H ⟨_, _, _, _, _, _, _, _, _, _, R⟩ hk (by rw [h2']; exact RSe.reopened (by cases h : op with | false => rfl | true => exact absurd (Or.inl h) c2) hj h2 RK)
  · rw [if_neg c1] at hr
    obtain ⟨rfl, rfl⟩ := Prod.mk.inj hr
    obtain ⟨P2, q1, q2⟩ := old rfl rfl
    refine ⟨P2, q1, fun r' M2 h => ?_⟩
    have h := q2 r' M2 h
    rw [y_appeal, if_neg (fun q => c1 ⟨q.1, q.2.1, q.2.2.1, hbit.mp q.2.2.2⟩)] at h
    obtain ⟨rfl, rfl⟩ := Prod.mk.inj h
    exact ⟨rfl, hI⟩

