/-! days passing of both: the operation -/
section
variable {M : gM} {nm nc nk ne td no : Nat} {op br : Bool} {mb pl : Nat → Nat}
theorem RSe.ended (hb : no ≤ td) (R : RS (nowS M) (M 131) nm nc nk ne td no true br mb pl) : RSe (nowS (m_end M nm nk)) (n_end (M 131) nm nk) := by
  have hbr := (R.brp.2 rfl).1
  subst hbr
  have hno : no ≠ 0 := fun h => absurd (R.fr h).2.2 (by decide)
  have R0 := R.endbase (T := talX M nk nm) hb
  have hc : carB (talK (M 131) nk nm) (vSe (M 131)) = carB (talM M nk nm) (M 25) := by rw [talR_eq R, car_eq R]
  unfold m_end n_end
  rw [hc, tal_eq R]
  by_cases h : carB (talM M nk nm) (M 25) = true
  · rw [if_pos h, if_pos h, upd_same R0.rk]
    exact ⟨_, _, _, _, _, _, _, _, _, _, R0.carried⟩
  · rw [if_neg h, if_neg h]
    exact ⟨_, _, _, _, _, _, _, _, _, _, R0.cleared hno⟩
theorem m_end_low {X : gM} {row : Nat → Int32} {n k : Nat} : ∀ a, a < 26 → m_end X n k a = m_end (gset X 131 row) n k a := by
  intro a ha
  have h1 : a ≠ 131 := by omega
  have hc : carB (talM (gset X 131 row) k n) ((gset X 131 row) 25) = carB (talM X k n) (X 25) := rfl
  unfold m_end
  rw [hc]
  by_cases h : carB (talM X k n) (X 25) = true
  · rw [if_pos h, if_pos h]
    simp [gset, m_misses, h1]
  · rw [if_neg h, if_neg h]
    simp [gset, m_misses, h1]
end
theorem nI_subN {x y : Nat} (h : y ≤ x) : nI x - nI y = nI (x - y) := by
  have := nI_add (x - y) y
  rw [Nat.sub_add_cancel h] at this
  rw [← this, Int32.add_sub_cancel]
theorem op_pass (E : gE) (d : Int32) : opEq E k_X7_pass k_X8_pass [.int d] := by
  intro M hI
  obtain ⟨ch, L, ol, hs, t1, t2, H, nm, nc, nk, ne, td, no, op, br, mb, pl, R⟩ := id hI
  have bt := R.bt
  refine ⟨_, c_X7_pass E d R.WS H.1, fun r M1 hr => ?_⟩
  have old : M1 131 = M 131 → M1 130 = M 130 → ∃ P2 : Int32 → gM → Prop, gMet E k_X8_pass [.ref 130, .int d] M1 (gInt P2) ∧ ∀ r' M2, P2 r' M2 → (r', M2) = y_pass M1 nm nk hs op d := fun e1 e0 =>
    ⟨_, c_X8_pass E M1 nm nk hs op (vtN (M 131)) d (by rw [e1]; exact R.rm) R.bm (by rw [e1]; exact R.rk) R.bk (by rw [e1]; exact R.vt) (by rw [e1]; exact R.ro) (by rw [e0]; exact H.2.1) H.1.2.2.2, fun _ _ h => h⟩
  unfold x_pass at hr
  have s3 : M 131 3 = M 1 5 := R.rt.trans R.st.symm
  by_cases c1 : inI d (nI 1) (nI 365) = true
  · rw [if_pos c1] at hr
    obtain ⟨j, j1, j2, rfl⟩ := inI_t (by decide) (by decide) c1
    by_cases c2 : M 1 5 + nI j ≤ nI 10000
    · rw [if_pos c2] at hr
      have sum : M 1 5 + nI j = nI (td + j) := by rw [show M 1 5 = nI td from R.st]; exact nI_add td j
      have hd : td + j ≤ 10000 := by
        rw [sum] at c2
        have := Int32.le_iff_toInt_le.mp c2
        rw [nI_toInt (by omega), nI_toInt (by decide)] at this
        omega
      have K : ∀ a, a < 26 → m_keep M ol hs a = M a := fun a ha => keep_ne (Or.inl ha)
      have RP : RS (nowS (m_pass M ol hs (nI j))) (upd (M 131) 3 (M 131 3 + nI j)) nm nc nk ne (td + j) no op br mb pl := (R.passed hd).congr (fun q hq => by
        show gset (m_keep M ol hs) 1 (upd (M 1) 5 (M 1 5 + nI j)) (1 + q) = gset M 1 (upd (M 1) 5 (M 1 5 + nI j)) (1 + q)
        simp only [gset, K (1 + q) (by omega)]) (fun _ _ => rfl)
      have hkp : ∀ a, 26 ≤ a → m_pass M ol hs (nI j) a = m_keep M ol hs a := fun a ha => by simp only [m_pass]; rw [gset_ne _ _ (by omega)]
      have ec : (op = true ∧ ¬ M 1 5 + nI j < M 14 4) ↔ (op = true ∧ ¬ M 131 3 + nI j - M 131 6 < M 131 7) := by
        refine and_congr_right (fun ho => ?_)
        obtain ⟨si, dy, a1, a2, a3, a4, a5⟩ := R.opn ho
        rw [s3, sum, a3, a4, show M 14 4 = nI (si + dy) from a5, nI_subN (by omega), nI_ltI (by omega) (by omega), nI_ltI (by omega) (by omega)]
        omega
      by_cases c3 : op = true ∧ ¬ M 1 5 + nI j < M 14 4
      · rw [if_pos c3] at hr
        obtain ⟨h1, h2⟩ := Prod.mk.inj hr
        have hk : ∀ a, 26 ≤ a → M1 a = m_keep M ol hs a := fun a ha => by
          rw [h2]; unfold m_end m_misses
          split
          · rw [gset_ne _ _ (by omega), gset_ne _ _ (by omega), gset_ne _ _ (by omega), gset_ne _ _ (by omega), gset_ne _ _ (by omega)]; exact hkp a ha
          · rw [gset_ne _ _ (by omega), gset_ne _ _ (by omega), gset_ne _ _ (by omega), gset_ne _ _ (by omega), gset_ne _ _ (by omega)]; exact hkp a ha
        obtain ⟨e1, e0⟩ := keep_hi hk
        obtain ⟨P2, q1, q2⟩ := old e1 e0
        refine ⟨P2, q1, fun r' M2 h => ?_⟩
        have h := q2 r' M2 h
        rw [y_pass, if_pos c1, e1, if_pos (by rw [s3]; exact c2), if_pos (ec.mp c3)] at h
        obtain ⟨h3, h4⟩ := Prod.mk.inj h
        have RM : RS (nowS (gset (m_pass M ol hs (nI j)) 131 (upd (M 131) 3 (M 131 3 + nI j)))) (gset (m_pass M ol hs (nI j)) 131 (upd (M 131) 3 (M 131 3 + nI j)) 131) nm nc nk ne (td + j) no op br mb pl := RP.congr (fun q hq => gset_ne _ _ (by omega)) (fun _ _ => by rw [gset_eq])
        have ecar : carB (talK (upd (M 131) 3 (M 131 3 + nI j)) nk nm) (vSe (upd (M 131) 3 (M 131 3 + nI j))) = carB (talM (m_pass M ol hs (nI j)) nk nm) (M 25) := by
          have a := talR_eq RM
          have b := car_eq RM (talM (m_pass M ol hs (nI j)) nk nm)
          rw [gset_eq] at a b
          rw [a, ← K 25 (by decide)]
          exact b
        have ho := c3.1
        subst ho
        have bn := R.bn
        have RE := RSe.ended (by simp at bn; omega) RM
        rw [gset_eq] at RE
        refine ⟨?_, ?_⟩
        · rw [h3, h1, ecar]
        · rw [h4]
          exact Inv.fin t1 t2 H ⟨_, _, _, _, _, _, _, _, _, _, R⟩ hk (by rw [h2]; exact RSe.low (fun a ha => m_end_low a ha) RE)
      · rw [if_neg c3] at hr
        obtain ⟨rfl, h2⟩ := Prod.mk.inj hr
        have hk : ∀ a, 26 ≤ a → M1 a = m_keep M ol hs a := fun a ha => by rw [h2]; exact hkp a ha
        obtain ⟨e1, e0⟩ := keep_hi hk
        obtain ⟨P2, q1, q2⟩ := old e1 e0
        refine ⟨P2, q1, fun r' M2 h => ?_⟩
        have h := q2 r' M2 h
        rw [y_pass, if_pos c1, e1, if_pos (by rw [s3]; exact c2), if_neg (fun q => c3 (ec.mpr q))] at h
        obtain ⟨rfl, h4⟩ := Prod.mk.inj h
        refine ⟨rfl, ?_⟩
        rw [h4]
        exact Inv.fin t1 t2 H ⟨_, _, _, _, _, _, _, _, _, _, R⟩ hk (by rw [h2]; exact ⟨_, _, _, _, _, _, _, _, _, _, RP⟩)
    · rw [if_neg c2] at hr
      obtain ⟨rfl, rfl⟩ := Prod.mk.inj hr
      obtain ⟨P2, q1, q2⟩ := old rfl rfl
      refine ⟨P2, q1, fun r' M2 h => ?_⟩
      have h := q2 r' M2 h
      rw [y_pass, if_pos c1, if_neg (by rw [s3]; exact c2)] at h
      obtain ⟨rfl, rfl⟩ := Prod.mk.inj h
      exact ⟨rfl, hI⟩
  · rw [if_neg c1] at hr
    obtain ⟨rfl, rfl⟩ := Prod.mk.inj hr
    obtain ⟨P2, q1, q2⟩ := old rfl rfl
    refine ⟨P2, q1, fun r' M2 h => ?_⟩
    have h := q2 r' M2 h
    rw [y_pass, if_neg c1] at h
    obtain ⟨rfl, rfl⟩ := Prod.mk.inj h
    exact ⟨rfl, hI⟩

