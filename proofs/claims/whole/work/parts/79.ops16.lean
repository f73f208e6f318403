/-! what is lacking, of both -/
theorem sumTo_nat {f : Nat → Int32} : ∀ n, (∀ m, m < n → ∃ q, q ≤ 9 ∧ f m = nI q) → ∃ t, t ≤ 9 * n ∧ sumTo n f = nI t := by
  intro n
  induction n with
  | zero => intro _; exact ⟨0, Nat.le_refl _, rfl⟩
  | succ n ih =>
    intro h
    obtain ⟨t, t1, t2⟩ := ih (fun m hm => h m (by omega))
    obtain ⟨q, q1, q2⟩ := h n (by omega)
    exact ⟨t + q, by omega, by simp only [sumTo]; rw [t2, q2]; exact nI_add t q⟩
theorem car_nat {se : Nat → Int32} {a r y n p0 p1 k : Nat} (h0 : se 0 = nI p0) (h1 : se 1 = nI p1) (ba : a ≤ 90) (br : r ≤ 90) (by' : y ≤ 90) (bn : n ≤ 90) (b0 : p0 ≤ 100) (b1 : p1 ≤ 100) (bk : k ≤ 100000) (ha : 0 < a) : carB4 (nI a) (nI r + nI k) (nI y + nI k) (nI n) se = true ↔ (0 < y + k + n ∧ p0 * a ≤ (r + k) * 100 ∧ p1 * (y + k + n) ≤ (y + k) * 100) := by
  have c100 : (100 : Int32) = nI 100 := rfl
  have c0 : (0 : Int32) = nI 0 := rfl
  have m0 : p0 * a ≤ 9000 := Nat.le_trans (Nat.mul_le_mul b0 ba) (by decide)
  have m1 : p1 * (y + k + n) ≤ 100 * (y + k + n) := Nat.mul_le_mul b1 (Nat.le_refl _)
  simp only [carB4, Bool.and_eq_true, decide_eq_true_eq]
  rw [h0, h1, nI_add, nI_add, nI_add, c100, c0, pk_mul, pk_mul, pk_mul, pk_mul, nI_ltI (by decide) (by omega), nI_ltI (by decide) (by omega), nI_ltI (by omega) (by omega), nI_ltI (by omega) (by omega)]
  omega
section
variable {M : gM} {nm nc nk ne td no : Nat} {op br : Bool} {mb pl : Nat → Nat}
theorem tal_nat (R : RS (nowS M) (M 131) nm nc nk ne td no op br mb pl) {j : Nat} (hj : j < 5) : ∃ t, t ≤ 90 ∧ talX M nk nm j = nI t := by
  have bm := R.bm
  have h := sumTo_nat (f := fun m => ctr (M 3) (M 4) (M 25) (M 5) (M 17) (M 19) nk m j) nm (fun m hm => by
    obtain ⟨q, -, q2, q3⟩ := inI_t (by decide) (by decide) (R.mem m hm).2.2.2.2.1
    have w : M 3 m = nI q := (R.mem m hm).1.trans q3
    simp only [ctr]
    rw [w]
    repeat' split
    all_goals first | exact ⟨0, by decide, rfl⟩ | exact ⟨q, q2, rfl⟩)
  obtain ⟨t, t1, t2⟩ := h
  refine ⟨t, by omega, ?_⟩
  simp only [talX, talF]
  rw [upd_n _ _ (by omega)]
  exact t2
end
theorem op_lacking (E : gE) : opEq E k_X7_lacking k_X8_lacking [] := by
  intro M hI
  obtain ⟨ch, L, ol, hs, t1, t2, H, nm, nc, nk, ne, td, no, op, br, mb, pl, R⟩ := id hI
  refine ⟨_, c_X7_lacking E R.WS, fun r M1 hr => ?_⟩
  have e131 : M1 131 = M 131 := by
    rw [show M1 = _ from congrArg Prod.snd hr]; unfold x_lacking; split <;> rfl
  obtain ⟨a, ba, ha⟩ := tal_nat R (j := 0) (by decide)
  obtain ⟨rr, br', hrr⟩ := tal_nat R (j := 1) (by decide)
  obtain ⟨y, by', hy⟩ := tal_nat R (j := 2) (by decide)
  obtain ⟨n, bn, hn⟩ := tal_nat R (j := 3) (by decide)
  obtain ⟨p0, -, b0, h0⟩ := inI_t (lo := 1) (hi := 100) (by decide) (by decide) (R.setl 0 (by decide)).2
  obtain ⟨p1, -, b1, h1⟩ := inI_t (lo := 1) (hi := 100) (by decide) (by decide) (R.setl 1 (by decide)).2
  have te := tal_eq R
  have s0 : M 25 0 = nI p0 := (R.setl 0 (by decide)).1.trans h0
  have s1 : M 25 1 = nI p1 := (R.setl 1 (by decide)).1.trans h1
  have hk0 : kLn a rr y n p0 p1 ≤ 100000 := by
    have m0 : p0 * a ≤ 9000 := Nat.le_trans (Nat.mul_le_mul b0 ba) (by decide)
    have m1 : p1 * n ≤ 9000 := Nat.le_trans (Nat.mul_le_mul b1 bn) (by decide)
    have bA : (p0 * a + 99) / 100 ≤ 9099 := Nat.le_trans (Nat.div_le_self _ _) (by omega)
    have bB : (if p1 = 100 then 0 else (p1 * n + (100 - p1) - 1) / (100 - p1)) ≤ 9100 := by
      split
      · omega
      · exact Nat.le_trans (Nat.div_le_self _ _) (by omega)
    have bf : (if 0 < y + n then 0 else 1) ≤ 1 := by split <;> omega
    unfold kLn; omega
  refine ⟨_, c_X8_lacking E M1 nm nk (kLn a rr y n p0 p1) op (vtN (M 131)) (by rw [e131]; exact R.rm) R.bm (by rw [e131]; exact R.rk) R.bk (by rw [e131]; exact R.vt) (by rw [e131]; exact R.ro) (fun _ hno => ?_), fun r' M2 hr' => ?_⟩
  · rw [e131, te] at hno ⊢
    rw [ha, hrr, hy, hn]
    rw [ha, hn, h1] at hno
    have a0 : 0 < a := by
      rcases Nat.eq_zero_or_pos a with q | q
      · exact absurd (Or.inl (by rw [q]; rfl)) hno
      · exact q
    have hn1 : ¬ (p1 = 100 ∧ 0 < n) := fun q => hno (Or.inr ⟨by rw [q.1]; rfl, (nI_ltI (a := 0) (by decide) (by omega)).mpr q.2⟩)
    have le : ∀ k, k ≤ 100000 → (carB4 (nI a) (nI rr + nI k) (nI y + nI k) (nI n) (vSe (M 131)) = true ↔ kLn a rr y n p0 p1 ≤ k) := fun k hk => by
      rw [car_nat h0 h1 ba br' by' bn b0 b1 hk a0, lack_nat b1 hn1]
      unfold kLn
      omega
    refine ⟨(le _ hk0).mpr (Nat.le_refl _), fun j hj => ?_⟩
    cases hc : carB4 (nI a) (nI rr + nI j) (nI y + nI j) (nI n) (vSe (M 131)) with
    | false => rfl
    | true => have := (le j (by omega)).mp hc; omega
  · unfold y_lacking at hr'
    rw [e131, te] at hr'
    unfold x_lacking at hr
    by_cases c1 : op = true
    · rw [if_pos c1] at hr hr'
      obtain ⟨h2, h3⟩ := Prod.mk.inj hr
      obtain ⟨h4, h5⟩ := Prod.mk.inj hr'
      refine ⟨?_, ?_⟩
      · rw [h4, h2, show vSe (M 131) 1 = M 25 1 from (R.setl 1 (by decide)).1.symm]
        by_cases hno : talX M nk nm 0 = 0 ∨ (M 25 1 = 100 ∧ 0 < talX M nk nm 3)
        · rw [if_pos hno, lackF, if_pos hno]
        · rw [if_neg hno, lackF_nat ha hrr hy hn s0 s1 ba br' by' bn b0 b1 hno]
      · rw [h5]
        refine Inv.fin0 t1 t2 H (fun a ha => by rw [h3]; exact gset_ne _ _ (by omega)) ?_
        rw [h3]
        exact ⟨nm, nc, nk, ne, td, no, op, br, mb, pl, R.sums⟩
    · rw [if_neg c1] at hr hr'
      obtain ⟨rfl, rfl⟩ := Prod.mk.inj hr
      obtain ⟨rfl, rfl⟩ := Prod.mk.inj hr'
      exact ⟨rfl, hI⟩

