/-! days passing of both: the operation -/
section
variable {M : gM} {nm nc nk ne td no : Nat} {op br : Bool} {mb pl : Nat → Nat}
theorem RSe.ended (hb : no ≤ td) (R : RS (nowS M) (M 131) nm nc nk ne td no true br mb pl) : RSe (nowS (m_end M nm nk)) (n_end (M 131) nm nk) := by
  have hbr := (R.brp.2 rfl).1
  subst hbr
  have hno : no ≠ 0 := fun h => absurd (R.fr h).2.2 (by decide)
  have R0 := R.endbase (T := talX M nk nm) hb
  have hc : carB (talK (M 131) nk nm) (vSe (M 131)) = carB (talM M nk nm) (M 25) := by rw [talR_eq R, car_eq R]
  unfold m_end n_end
  rw [hc, tal_eq R]
  by_cases h : carB (talM M nk nm) (M 25) = true
  · rw [if_pos h, if_pos h, upd_same R0.rk]
    exact ⟨_, _, _, _, _, _, _, _, _, _, R0.carried⟩
  · rw [if_neg h, if_neg h]
    exact ⟨_, _, _, _, _, _, _, _, _, _, R0.cleared hno⟩
theorem m_end_low {X : gM} {row : Nat → Int32} {n k : Nat} : ∀ a, a < 26 → m_end X n k a = m_end (gset X 131 row) n k a := by
  intro a ha
  have h1 : a ≠ 131 := by omega
  have hc : carB (talM (gset X 131 row) k n) ((gset X 131 row) 25) = carB (talM X k n) (X 25) := rfl
  unfold m_end
  rw [hc]
  by_cases h : carB (talM X k n) (X 25) = true
  · rw [if_pos h, if_pos h]
    simp [gset, m_misses, h1]
  · rw [if_neg h, if_neg h]
    simp [gset, m_misses, h1]
end

