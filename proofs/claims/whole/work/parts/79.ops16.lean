/-! what is lacking, of both -/
theorem sumTo_nat {f : Nat → Int32} : ∀ n, (∀ m, m < n → ∃ q, q ≤ 9 ∧ f m = nI q) → ∃ t, t ≤ 9 * n ∧ sumTo n f = nI t := by
  intro n
  induction n with
  | zero => intro _; exact ⟨0, Nat.le_refl _, rfl⟩
  | succ n ih =>
    intro h
    obtain ⟨t, t1, t2⟩ := ih (fun m hm => h m (by omega))
    obtain ⟨q, q1, q2⟩ := h n (by omega)
    exact ⟨t + q, by omega, by simp only [sumTo]; rw [t2, q2]; exact nI_add t q⟩
theorem car_nat {se : Nat → Int32} {a r y n p0 p1 k : Nat} (h0 : se 0 = nI p0) (h1 : se 1 = nI p1) (ba : a ≤ 90) (br : r ≤ 90) (by' : y ≤ 90) (bn : n ≤ 90) (b0 : p0 ≤ 100) (b1 : p1 ≤ 100) (bk : k ≤ 100000) (ha : 0 < a) : carB4 (nI a) (nI r + nI k) (nI y + nI k) (nI n) se = true ↔ (0 < y + k + n ∧ p0 * a ≤ (r + k) * 100 ∧ p1 * (y + k + n) ≤ (y + k) * 100) := by
  have c100 : (100 : Int32) = nI 100 := rfl
  have c0 : (0 : Int32) = nI 0 := rfl
  have m0 : p0 * a ≤ 9000 := Nat.le_trans (Nat.mul_le_mul b0 ba) (by decide)
  have m1 : p1 * (y + k + n) ≤ 100 * (y + k + n) := Nat.mul_le_mul b1 (Nat.le_refl _)
  simp only [carB4, Bool.and_eq_true, decide_eq_true_eq]
  rw [h0, h1, nI_add, nI_add, nI_add, c100, c0, pk_mul, pk_mul, pk_mul, pk_mul, nI_ltI (by decide) (by omega), nI_ltI (by decide) (by omega), nI_ltI (by omega) (by omega), nI_ltI (by omega) (by omega)]
  omega

