/-! what is lacking, in numbers -/
theorem lack_d {X D z : Nat} (hD : 0 < D) : (X + D - 1) / D ≤ z ↔ X ≤ z * D := by
  rw [← Nat.lt_succ_iff, Nat.div_lt_iff_lt_mul hD, Nat.succ_mul]
  omega
theorem lack_nat {a r y n p0 p1 k : Nat} (h2 : p1 ≤ 100) (hn : ¬ (p1 = 100 ∧ 0 < n)) : (0 < y + k + n ∧ p0 * a ≤ (r + k) * 100 ∧ p1 * (y + k + n) ≤ (y + k) * 100) ↔ ((if 0 < y + n then 0 else 1) ≤ k ∧ (p0 * a + 99) / 100 - r ≤ k ∧ (if p1 = 100 then 0 else (p1 * n + (100 - p1) - 1) / (100 - p1)) - y ≤ k) := by
  have e0 : 0 < y + k + n ↔ (if 0 < y + n then 0 else 1) ≤ k := by split <;> omega
  have e1 : p0 * a ≤ (r + k) * 100 ↔ (p0 * a + 99) / 100 - r ≤ k := by
    generalize p0 * a = X
    omega
  have e2 : p1 * (y + k + n) ≤ (y + k) * 100 ↔ (if p1 = 100 then 0 else (p1 * n + (100 - p1) - 1) / (100 - p1)) - y ≤ k := by
    by_cases h : p1 = 100
    · have n0 : n = 0 := by omega
      subst h; subst n0
      simp
      omega
    · rw [if_neg h]
      have q := lack_d (X := p1 * n) (D := 100 - p1) (z := y + k) (by omega)
      have s : (y + k) * 100 = (y + k) * (100 - p1) + p1 * (y + k) := by
        rw [Nat.mul_comm p1, ← Nat.mul_add, Nat.sub_add_cancel h2]
      rw [Nat.mul_add, s]
      constructor
      · intro g
        have := q.mpr (by omega)
        omega
      · intro g
        have := q.mp (by omega)
        omega
  rw [e0, e1, e2]

