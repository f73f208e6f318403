/-! closing a step, and the groups of the relation one by one -/
section
variable {M M1 : gM} {ch : Nat → Nat} {L ol hs : Nat} {row : Nat → Int32}
theorem Inv.fin (t1 : TxX M ch L) (t2 : TxM M ch L) (H : HI M ol hs) (R : RSe (nowS M) (M 131)) (h1 : ∀ a, 26 ≤ a → M1 a = m_keep M ol hs a) (R' : RSe (nowS M1) row) : Inv (gset (m_rec M1 hs) 131 row) := by
  have hk : ∀ a, 126 < a → M1 a = M a := fun a ha => (h1 a (by omega)).trans (keep_ne (Or.inr ha))
  have g1 : ∀ a, a < 130 → gset (m_rec M1 hs) 131 row a = M1 a := fun a ha => by rw [gset_ne _ _ (by omega), rec_ne (by omega)]
  have g30 : ∀ j, j ≠ 2 → gset (m_rec M1 hs) 131 row 130 j = M 130 j := fun j hj => by rw [gset_ne _ _ (by decide), rec_130, upd_n _ _ hj, hk 130 (by decide)]
  have hT : sameT M (gset (m_rec M1 hs) 131 row) := ⟨by rw [g1 128 (by decide), hk 128 (by decide)], by rw [g1 129 (by decide), hk 129 (by decide)], g30 4 (by decide), by rw [gset_ne _ _ (by decide), rec_ne (by decide), hk 133 (by decide)]⟩
  obtain ⟨ol', hs', H'⟩ := H.step (M2 := gset (m_rec M1 hs) 131 row) R (fun a ha hb => by rw [g1 a (by omega)]; exact h1 a ha)
    (by rw [gset_ne _ _ (by decide)]; simp only [m_rec]; rw [gset_ne _ _ (by decide), gset_eq, hk 132 (by decide), hk 131 (by decide)])
    (by rw [gset_ne _ _ (by decide), rec_130, upd_s])
  refine ⟨ch, L, ol', hs', hT.X t1, hT.M t2, H', ?_⟩
  rw [gset_eq]
  exact R'.congr (fun j hj => g1 (1 + j) (by omega)) (fun j _ => rfl)
theorem Inv.fin0 (t1 : TxX M ch L) (t2 : TxM M ch L) (H : HI M ol hs) (h1 : ∀ a, 26 ≤ a → M1 a = M a) (R' : RSe (nowS M1) row) : Inv (gset M1 131 row) := by
  have g1 : ∀ a, 26 ≤ a → a ≠ 131 → gset M1 131 row a = M a := fun a ha hb => by rw [gset_ne _ _ hb]; exact h1 a ha
  have hT : sameT M (gset M1 131 row) := ⟨by rw [g1 128 (by decide) (by decide)], g1 129 (by decide) (by decide), by rw [g1 130 (by decide) (by decide)], g1 133 (by decide) (by decide)⟩
  refine ⟨ch, L, ol, hs, hT.X t1, hT.M t2, H.same (fun a ha hb => g1 a ha (by omega)) (g1 132 (by decide) (by decide)) (by rw [g1 130 (by decide) (by decide)]), ?_⟩
  rw [gset_eq]
  exact R'.congr (fun j hj => gset_ne _ _ (by omega)) (fun j _ => rfl)
end
section
variable {S S' : Nat → Nat → Int32} {N N' : Nat → Int32} {nm nc nk ne td no : Nat} {op br : Bool} {mb pl : Nat → Nat}
theorem RS.mem' (R : RS S N nm nc nk ne td no op br mb pl) (h2 : S' 2 = S 2) (h3 : S' 3 = S 3) (h4 : S' 4 = S 4) (h5 : S' 5 = S 5) (hN : ∀ j, 23 ≤ j → j < 73 → N' j = N j) : ∀ m, m < nm → S' 2 m = vW N' m ∧ S' 3 m = vMi N' m ∧ S' 4 m = vVo N' m - 1 ∧ S' 5 m = vVd N' m ∧ inI (vW N' m) (nI 1) (nI 9) = true ∧ inI (vVo N' m) (nI 0) (nI 3) = true := by
  have b1 := R.bm
  intro m hm
  rw [h2, h3, h4, h5, show vW N' m = vW N m from hN _ (by omega) (by omega), show vMi N' m = vMi N m from hN _ (by omega) (by omega), show vVo N' m = vVo N m from hN _ (by omega) (by omega), show vVd N' m = vVd N m from hN _ (by omega) (by omega)]
  exact R.mem m hm
theorem RS.cl' (R : RS S N nm nc nk ne td no op br mb pl) (h7 : S' 7 = S 7) (h8 : S' 8 = S 8) (h9 : S' 9 = S 9) (hN : ∀ j, 73 ≤ j → j < 973 → N' j = N j) : ∀ k, k < nc → S' 7 k = vNb N' k ∧ S' 8 k = vPr N' k ∧ (no ≠ 0 → S' 9 k = vBg N' k) := by
  have b2 := R.bc
  intro k hk
  rw [h7, h8, h9, show vNb N' k = vNb N k from hN _ (by omega) (by omega), show vPr N' k = vPr N k from hN _ (by omega) (by omega), show vBg N' k = vBg N k from hN _ (by omega) (by omega)]
  exact R.cl k hk
theorem RS.asc' (R : RS S N nm nc nk ne td no op br mb pl) (hN : ∀ k, k < nc → vNb N' k = vNb N k) : ∀ i k, i < k → k < nc → vNb N' i < vNb N' k := by
  intro i k hik hk
  rw [hN i (by omega), hN k hk]
  exact R.asc i k hik hk
theorem RS.ed' (R : RS S N nm nc nk ne td no op br mb pl) (h10 : S' 10 = S 10) (h11 : S' 11 = S 11) (h12 : S' 12 = S 12) (hN : ∀ k, k < nc → ∀ p, 4 ≤ p → p < 45 → N' (73 + 45 * k + p) = N (73 + 45 * k + p)) : ∀ k, k < nc → ∀ e, 1 ≤ e → e ≤ ne → S' 11 ((e - 1) * 20 + k) = N' (73 + 45 * k + 3 + e) ∧ S' 10 (e - 1) = N' (73 + 45 * k + 17 + e) ∧ (2 ≤ e → S' 12 ((e - 1) * 20 + k) = N' (73 + 45 * k + 31 + e)) := by
  have b4 := R.ne12
  intro k hk e he1 he2
  have q1 : N' (73 + 45 * k + 3 + e) = N (73 + 45 * k + 3 + e) := by
    have := hN k hk (3 + e) (by omega) (by omega)
    rwa [← Nat.add_assoc] at this
  have q2 : N' (73 + 45 * k + 17 + e) = N (73 + 45 * k + 17 + e) := by
    have := hN k hk (17 + e) (by omega) (by omega)
    rwa [← Nat.add_assoc] at this
  have q3 : N' (73 + 45 * k + 31 + e) = N (73 + 45 * k + 31 + e) := by
    have := hN k hk (31 + e) (by omega) (by omega)
    rwa [← Nat.add_assoc] at this
  rw [h10, h11, h12, q1, q2, q3]
  exact R.ed k hk e he1 he2
theorem RS.com' (R : RS S N nm nc nk ne td no op br mb pl) (h : ∀ j, 16 ≤ j → j ≤ 23 → S' j = S j) (hb : ∀ k, k < nc → vNb N' k = vNb N k) (hN : ∀ j, 973 ≤ j → j < 1213 → N' j = N j) : ∀ k, k < nk → mb k < nm ∧ S' 16 k = nI (mb k) ∧ vCm N' k = nI (mb k) ∧ pl k < nc ∧ S' 17 k = nI (pl k) ∧ vCc N' k = vNb N' (pl k) ∧ S' 18 k = vKd N' k ∧ S' 19 k = vCv N' k ∧ S' 20 k = vSt N' k ∧ inI (vSt N' k) (nI 0) (nI 4) = true ∧ (¬ vSt N' k < 2 → S' 21 k = vDy N' k ∧ S' 23 k = vTn N' k) ∧ (gaveB (vSt N' k) = true → S' 22 k = vGv N' k) := by
  have b3 := R.bk
  intro k hk
  have hp := (R.com k hk).2.2.2.1
  rw [h 16 (by decide) (by decide), h 17 (by decide) (by decide), h 18 (by decide) (by decide), h 19 (by decide) (by decide), h 20 (by decide) (by decide), h 21 (by decide) (by decide), h 22 (by decide) (by decide), h 23 (by decide) (by decide), hb _ hp, show vCm N' k = vCm N k from hN _ (by omega) (by omega), show vCc N' k = vCc N k from hN _ (by omega) (by omega), show vKd N' k = vKd N k from hN _ (by omega) (by omega), show vCv N' k = vCv N k from hN _ (by omega) (by omega), show vSt N' k = vSt N k from hN _ (by omega) (by omega), show vDy N' k = vDy N k from hN _ (by omega) (by omega), show vTn N' k = vTn N k from hN _ (by omega) (by omega), show vGv N' k = vGv N k from hN _ (by omega) (by omega)]
  exact R.com k hk
theorem RS.setl' (R : RS S N nm nc nk ne td no op br mb pl) (h : S' 24 = S 24) (hN : ∀ j, 12 ≤ j → j < 17 → N' j = N j) : ∀ j, j < 5 → S' 24 j = vSe N' j ∧ inI (vSe N' j) (gLe j) (gGr j) = true := by
  intro j hj
  rw [h, show vSe N' j = vSe N j from hN _ (by omega) (by omega)]
  exact R.setl j hj
theorem RS.sum' (R : RS S N nm nc nk ne td no op br mb pl) (h : S' 14 = S 14) (hN : ∀ j, 17 ≤ j → j < 23 → N' j = N j) : ∀ j, j < 6 → S' 14 j = N' (17 + j) := by
  intro j hj
  rw [h, hN _ (by omega) (by omega)]
  exact R.sum j hj
theorem RS.opn' (R : RS S N nm nc nk ne td no op br mb pl) (h : S' 13 4 = S 13 4) (h6 : N' 6 = N 6) (h7 : N' 7 = N 7) : op = true → ∃ si dy, si ≤ td ∧ dy ≤ 1000 ∧ N' 6 = nI si ∧ N' 7 = nI dy ∧ S' 13 4 = nI (si + dy) := by
  rw [h, h6, h7]; exact R.opn
theorem RS.brp' (R : RS S N nm nc nk ne td no op br mb pl) (hN : ∀ k, k < nk → vSt N' k = vSt N k) : (br = true → cntTo nk (pendB (vSt N')) = 0 ∧ 2 ≤ ne) ∧ (op = true → br = false ∧ cntTo nk (pendB (vSt N')) = 0) := by
  have c : cntTo nk (pendB (vSt N')) = cntTo nk (pendB (vSt N)) := cntTo_congr (fun k hk => by simp only [pendB]; rw [hN k hk])
  rw [c]; exact R.brp
end

