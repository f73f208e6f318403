/-! what is lacking, in numbers -/
theorem lack_d {X D z : Nat} (hD : 0 < D) : (X + D - 1) / D ≤ z ↔ X ≤ z * D := by
  rw [← Nat.lt_succ_iff, Nat.div_lt_iff_lt_mul hD, Nat.succ_mul]
  omega
theorem lack_nat {a r y n p0 p1 k : Nat} (h2 : p1 ≤ 100) (hn : ¬ (p1 = 100 ∧ 0 < n)) : (0 < y + k + n ∧ p0 * a ≤ (r + k) * 100 ∧ p1 * (y + k + n) ≤ (y + k) * 100) ↔ ((if 0 < y + n then 0 else 1) ≤ k ∧ (p0 * a + 99) / 100 - r ≤ k ∧ (if p1 = 100 then 0 else (p1 * n + (100 - p1) - 1) / (100 - p1)) - y ≤ k) := by
  have e0 : 0 < y + k + n ↔ (if 0 < y + n then 0 else 1) ≤ k := by split <;> omega
  have e1 : p0 * a ≤ (r + k) * 100 ↔ (p0 * a + 99) / 100 - r ≤ k := by
    generalize p0 * a = X
    omega
  have e2 : p1 * (y + k + n) ≤ (y + k) * 100 ↔ (if p1 = 100 then 0 else (p1 * n + (100 - p1) - 1) / (100 - p1)) - y ≤ k := by
    by_cases h : p1 = 100
    · have n0 : n = 0 := by omega
      subst h; subst n0
      simp
      omega
    · rw [if_neg h]
      have q := lack_d (X := p1 * n) (D := 100 - p1) (z := y + k) (by omega)
      have s : (y + k) * 100 = (y + k) * (100 - p1) + p1 * (y + k) := by
        rw [Nat.mul_comm p1, ← Nat.mul_add, Nat.sub_add_cancel h2]
      rw [Nat.mul_add, s]
      constructor
      · intro g
        have := q.mpr (by omega)
        omega
      · intro g
        have := q.mp (by omega)
        omega
  rw [e0, e1, e2]
def kLn (a r y n p0 p1 : Nat) : Nat := max (if 0 < y + n then 0 else 1) (max ((p0 * a + 99) / 100 - r) ((if p1 = 100 then 0 else (p1 * n + (100 - p1) - 1) / (100 - p1)) - y))
theorem mxI_int (a b : Int32) : (mxI a b).toInt = max a.toInt b.toInt := by
  unfold mxI
  split
  · rename_i h; have := Int32.lt_iff_toInt_lt.mp h; omega
  · rename_i h; have h2 : ¬ a.toInt < b.toInt := fun q => h (Int32.lt_iff_toInt_lt.mpr q)
    omega
theorem mxI_nat {f A r B y : Nat} (hf : f < 2 ^ 30) (hA : A < 2 ^ 30) (hr : r < 2 ^ 30) (hB : B < 2 ^ 30) (hy : y < 2 ^ 30) : mxI (nI f) (mxI (nI A - nI r) (nI B - nI y)) = nI (max f (max (A - r) (B - y))) := by
  refine Int32.toInt_inj.mp ?_
  rw [mxI_int, mxI_int, pk_sub_toInt hA hr, pk_sub_toInt hB hy, nI_toInt (by omega), nI_toInt (by omega)]
  omega
theorem lackF_nat {su se : Nat → Int32} {a r y n p0 p1 : Nat} (ha : su 0 = nI a) (hr : su 1 = nI r) (hy : su 2 = nI y) (hn : su 3 = nI n) (h0 : se 0 = nI p0) (h1 : se 1 = nI p1) (ba : a ≤ 90) (br : r ≤ 90) (by' : y ≤ 90) (bn : n ≤ 90) (b0 : p0 ≤ 100) (b1 : p1 ≤ 100) (hno : ¬ (su 0 = 0 ∨ (se 1 = 100 ∧ 0 < su 3))) : lackF su se = nI (kLn a r y n p0 p1) := by
  have c100 : (100 : Int32) = nI 100 := rfl
  have c1 : (1 : Int32) = nI 1 := rfl
  have c0 : (0 : Int32) = nI 0 := rfl
  have m0 : p0 * a ≤ 9000 := Nat.le_trans (Nat.mul_le_mul b0 ba) (by decide)
  have m1 : p1 * n ≤ 9000 := Nat.le_trans (Nat.mul_le_mul b1 bn) (by decide)
  have u1 : dU (se 0 * su 0) 100 = nI ((p0 * a + 99) / 100) := by
    unfold dU
    rw [if_neg (by decide), ha, h0, pk_mul, c100, c1, nI_add, pk_sub (by omega), pk_div (by omega) (by decide) (by decide)]
    exact congrArg nI (by omega)
  have u2 : dU (se 1 * su 3) (100 - se 1) = nI (if p1 = 100 then 0 else (p1 * n + (100 - p1) - 1) / (100 - p1)) := by
    unfold dU
    rw [hn, h1, pk_mul, c100, pk_sub b1, c1]
    by_cases h : p1 = 100
    · rw [if_pos ((nI_ltI (by omega) (by decide)).mpr (by omega)), if_pos h]; rfl
    · rw [if_neg (fun q => by have := (nI_ltI (by omega) (by decide)).mp q; omega), if_neg h, nI_add, pk_sub (by omega), pk_div (by omega) (by omega) (by omega)]
  have bA : (p0 * a + 99) / 100 ≤ 9099 := Nat.le_trans (Nat.div_le_self _ _) (by omega)
  have bB : (if p1 = 100 then 0 else (p1 * n + (100 - p1) - 1) / (100 - p1)) ≤ 9100 := by
    split
    · omega
    · exact Nat.le_trans (Nat.div_le_self _ _) (by omega)
  have uf : (if 0 < su 2 + su 3 then (0 : Int32) else 1) = nI (if 0 < y + n then 0 else 1) := by
    rw [hy, hn, nI_add, c0]
    by_cases h : 0 < y + n
    · rw [if_pos ((nI_ltI (by decide) (by omega)).mpr h), if_pos h]
    · rw [if_neg (fun q => h ((nI_ltI (by decide) (by omega)).mp q)), if_neg h]; rfl
  unfold lackF kLn
  rw [if_neg hno, u1, u2, uf, hr, hy]
  exact mxI_nat (by split <;> omega) (by omega) (by omega) (by omega) (by omega)

