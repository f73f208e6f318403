/-! the invariant of a run -/
def RSe (S : Nat → Nat → Int32) (N : Nat → Int32) : Prop := ∃ nm nc nk ne td no op br mb pl, RS S N nm nc nk ne td no op br mb pl
theorem RSe.congr {S S' : Nat → Nat → Int32} {N N' : Nat → Int32} (hS : ∀ j, j < 25 → S' j = S j) (hN : ∀ j, j < 1213 → N' j = N j) (R : RSe S N) : RSe S' N' := by
  obtain ⟨nm, nc, nk, ne, td, no, op, br, mb, pl, R⟩ := R
  exact ⟨nm, nc, nk, ne, td, no, op, br, mb, pl, R.congr hS hN⟩
def HI (M : gM) (ol hs : Nat) : Prop := WH M ol hs ∧ M 130 2 = nI hs ∧ ∀ i, i < hs → RSe (fun j => M (hisB ((ol + i) % 4) + j)) (fun k => M 132 (1213 * i + k))
theorem HI.same {M M2 : gM} {ol hs : Nat} (H : HI M ol hs) (h1 : ∀ a, 26 ≤ a → a < 128 → M2 a = M a) (h2 : M2 132 = M 132) (h3 : M2 130 2 = M 130 2) : HI M2 ol hs := by
  obtain ⟨⟨a1, a2, a3, a4⟩, b, c⟩ := H
  refine ⟨⟨by rw [h1 126 (by decide) (by decide)]; exact a1, a2, by rw [h1 126 (by decide) (by decide)]; exact a3, a4⟩, h3.trans b, fun i hi => ?_⟩
  refine (c i hi).congr (fun j hj => h1 _ (by simp only [hisB]; omega) (by simp only [hisB]; omega)) (fun k hk => by rw [h2])
theorem HI.step {M M2 : gM} {ol hs : Nat} (H : HI M ol hs) (R : RSe (nowS M) (M 131)) (h1 : ∀ a, 26 ≤ a → a < 128 → M2 a = m_keep M ol hs a) (h2 : M2 132 = pstN (M 132) (M 131) hs) (h3 : M2 130 2 = nI (svN hs)) : ∃ ol' hs', HI M2 ol' hs' := by
  obtain ⟨⟨a1, a2, a3, a4⟩, b, c⟩ := H
  by_cases h4 : hs < 4
  · have k126 : m_keep M ol hs 126 = upd (M 126) 2 (nI (hs + 1)) := by simp only [m_keep]; rw [if_pos h4, gset_eq]
    have kk : ∀ a, a ≠ 126 → m_keep M ol hs a = cpS M (hisB ((ol + hs) % 4)) 1 a := fun a ha => by simp only [m_keep]; rw [if_pos h4, gset_ne _ _ ha]
    have sv : svN hs = hs + 1 := by simp only [svN]; rw [if_neg (by omega)]
    have ps : pstN (M 132) (M 131) hs = blkTo (1213 * hs) 1213 (M 131) (M 132) := by simp only [pstN]; rw [if_neg (by omega)]
    refine ⟨ol, hs + 1, ⟨by rw [h1 126 (by decide) (by decide), k126, upd_n _ _ (by decide)]; exact a1, a2, by rw [h1 126 (by decide) (by decide), k126, upd_s], by omega⟩, by rw [h3, sv], fun i hi => ?_⟩
    by_cases ei : i = hs
    · subst ei
      refine R.congr (fun j hj => ?_) (fun k hk => ?_)
      · show M2 (hisB ((ol + i) % 4) + j) = M (1 + j)
        rw [h1 _ (by simp only [hisB]; omega) (by simp only [hisB]; omega), kk _ (by simp only [hisB]; omega), cpS_eq hj]
      · show M2 132 (1213 * i + k) = _
        rw [h2, ps, blk_in hk]
    · refine (c i (by omega)).congr (fun j hj => ?_) (fun k hk => ?_)
      · show M2 (hisB ((ol + i) % 4) + j) = M (hisB ((ol + i) % 4) + j)
        rw [h1 _ (by simp only [hisB]; omega) (by simp only [hisB]; omega), kk _ (by simp only [hisB]; omega), cpS_ne (by simp only [hisB]; omega)]
      · show M2 132 (1213 * i + k) = M 132 (1213 * i + k)
        rw [h2, ps, blk_out (by omega)]
  · have e4 : hs = 4 := by omega
    subst e4
    have k126 : m_keep M ol 4 126 = upd (M 126) 1 (nI ((ol + 1) % 4)) := by simp only [m_keep]; rw [if_neg h4, gset_eq]
    have kk : ∀ a, a ≠ 126 → m_keep M ol 4 a = cpS M (hisB ((ol + 4) % 4)) 1 a := fun a ha => by simp only [m_keep]; rw [if_neg h4, gset_ne _ _ ha]
    have ps : pstN (M 132) (M 131) 4 = blkTo 3639 1213 (M 131) (mapTo 3639 (fun k => M 132 (k + 1213)) (M 132)) := rfl
    refine ⟨(ol + 1) % 4, 4, ⟨by rw [h1 126 (by decide) (by decide), k126, upd_s], Nat.mod_lt _ (by decide), by rw [h1 126 (by decide) (by decide), k126, upd_n _ _ (by decide)]; exact a3, by omega⟩, h3, fun i hi => ?_⟩
    by_cases ei : i = 3
    · subst ei
      refine R.congr (fun j hj => ?_) (fun k hk => ?_)
      · show M2 (hisB (((ol + 1) % 4 + 3) % 4) + j) = M (1 + j)
        have er : ((ol + 1) % 4 + 3) % 4 = (ol + 4) % 4 := by omega
        rw [er, h1 _ (by simp only [hisB]; omega) (by simp only [hisB]; omega), kk _ (by simp only [hisB]; omega), cpS_eq hj]
      · show M2 132 (1213 * 3 + k) = _
        rw [h2, ps, blk_in hk]
    · refine (c (i + 1) (by omega)).congr (fun j hj => ?_) (fun k hk => ?_)
      · show M2 (hisB (((ol + 1) % 4 + i) % 4) + j) = M (hisB ((ol + (i + 1)) % 4) + j)
        have er : ((ol + 1) % 4 + i) % 4 = (ol + (i + 1)) % 4 := by omega
        rw [er, h1 _ (by simp only [hisB]; omega) (by simp only [hisB]; omega), kk _ (by simp only [hisB]; omega), cpS_ne (by simp only [hisB]; omega)]
      · show M2 132 (1213 * i + k) = M 132 (1213 * (i + 1) + k)
        rw [h2, ps, blk_out (by omega)]
        simp only [mapTo]
        rw [if_pos (by omega)]
        exact congrArg _ (by omega)
def Inv (M : gM) : Prop := ∃ ch L ol hs, TxX M ch L ∧ TxM M ch L ∧ HI M ol hs ∧ RSe (nowS M) (M 131)
/-- nothing of the texts or the history touched -/
def sameT (M M2 : gM) : Prop := M2 128 1 = M 128 1 ∧ M2 129 = M 129 ∧ M2 130 4 = M 130 4 ∧ M2 133 = M 133
theorem sameT.X {M M2 : gM} {ch : Nat → Nat} {L : Nat} (h : sameT M M2) (t : TxX M ch L) : TxX M2 ch L := t.of h.1 h.2.1
theorem sameT.M {M M2 : gM} {ch : Nat → Nat} {L : Nat} (h : sameT M M2) (t : TxM M ch L) : TxM M2 ch L := ⟨by rw [h.2.2.1]; exact t.1, t.2.1, fun i hi => by rw [h.2.2.2]; exact t.2.2 i hi⟩

