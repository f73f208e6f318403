/-! what the counting of votes comes to -/
theorem inI_n {w : Int32} {lo hi : Nat} (hl : lo < 2 ^ 31) (hh : hi < 2 ^ 31) (h : inI w (nI lo) (nI hi) = true) : ∃ j, w = nI j ∧ lo ≤ j ∧ j ≤ hi := by
  have h := of_decide_eq_true h
  have h1 := Int32.le_iff_toInt_le.mp h.1
  have h2 := Int32.le_iff_toInt_le.mp h.2
  rw [nI_toInt hl] at h1
  rw [nI_toInt hh] at h2
  refine ⟨w.toInt.toNat, Int32.toInt_inj.mp ?_, by omega, by omega⟩
  rw [nI_toInt (by omega)]
  omega
theorem inI_y {w : Int32} {lo hi j : Nat} (hh : hi < 2 ^ 31) (e : w = nI j) (h1 : lo ≤ j) (h2 : j ≤ hi) : inI w (nI lo) (nI hi) = true := by
  subst e
  exact decide_eq_true ⟨nI_le h1 (by omega), nI_le h2 hh⟩
def sumN (n : Nat) (f : Nat → Nat) : Nat := match n with
  | 0 => 0
  | n + 1 => sumN n f + f n
theorem sumN_nI {n : Nat} {f : Nat → Int32} {g : Nat → Nat} (h : ∀ k, k < n → f k = nI (g k)) : sumTo n f = nI (sumN n g) := by
  induction n with
  | zero => rfl
  | succ n ih => rw [sumTo, ih (fun k hk => h k (by omega)), h n (by omega), nI_add]; rfl
theorem sumN_le {n B : Nat} {f : Nat → Nat} (h : ∀ k, k < n → f k ≤ B) : sumN n f ≤ n * B := by
  induction n with
  | zero => simp [sumN]
  | succ n ih =>
    have h1 := ih (fun k hk => h k (by omega))
    have h2 := h n (by omega)
    rw [sumN, Nat.succ_mul]
    omega
theorem sumN_mono {n : Nat} {f g : Nat → Nat} (h : ∀ k, k < n → f k ≤ g k) : sumN n f ≤ sumN n g := by
  induction n with
  | zero => exact Nat.le_refl _
  | succ n ih =>
    have h1 := ih (fun k hk => h k (by omega))
    have h2 := h n (by omega)
    simp only [sumN]
    omega
theorem sumN_add (n : Nat) (f g : Nat → Nat) : sumN n (fun k => f k + g k) = sumN n f + sumN n g := by
  induction n with
  | zero => rfl
  | succ n ih => simp only [sumN, ih]; omega
theorem sumN_congr {n : Nat} {f g : Nat → Nat} (h : ∀ k, k < n → f k = g k) : sumN n f = sumN n g := by
  induction n with
  | zero => rfl
  | succ n ih => simp only [sumN]; rw [ih (fun k hk => h k (by omega)), h n (by omega)]
/-- the weight of a member that counts to the sum j -/
def ctN (w : Nat → Nat) (lap : Nat → Bool) (gi : Nat → Int32) (sf : Nat → Nat) (j m : Nat) : Nat := if lap m then 0 else if j = 0 then w m else if gi m = -1 then 0 else if j = 1 then w m else if j = sf m then w m else 0
abbrev Tal (M : gM) (nk nm a r y n s : Nat) : Prop :=
  (talM M nk nm 0 = nI a) ∧
  (talM M nk nm 1 = nI r) ∧
  (talM M nk nm 2 = nI y) ∧
  (talM M nk nm 3 = nI n) ∧
  (talM M nk nm 4 = nI s) ∧
  (actW (M 3) (M 4) (M 25) nm = nI a) ∧
  (r = y + n + s) ∧
  (r ≤ a) ∧
  (a ≤ 90)
theorem Tal.e0 {M : gM} {nk nm a r y n s : Nat} (h : Tal M nk nm a r y n s) : talM M nk nm 0 = nI a := h.1
theorem Tal.e1 {M : gM} {nk nm a r y n s : Nat} (h : Tal M nk nm a r y n s) : talM M nk nm 1 = nI r := h.2.1
theorem Tal.e2 {M : gM} {nk nm a r y n s : Nat} (h : Tal M nk nm a r y n s) : talM M nk nm 2 = nI y := h.2.2.1
theorem Tal.e3 {M : gM} {nk nm a r y n s : Nat} (h : Tal M nk nm a r y n s) : talM M nk nm 3 = nI n := h.2.2.2.1
theorem Tal.e4 {M : gM} {nk nm a r y n s : Nat} (h : Tal M nk nm a r y n s) : talM M nk nm 4 = nI s := h.2.2.2.2.1
theorem Tal.ea {M : gM} {nk nm a r y n s : Nat} (h : Tal M nk nm a r y n s) : actW (M 3) (M 4) (M 25) nm = nI a := h.2.2.2.2.2.1
theorem Tal.hs {M : gM} {nk nm a r y n s : Nat} (h : Tal M nk nm a r y n s) : r = y + n + s := h.2.2.2.2.2.2.1
theorem Tal.hr {M : gM} {nk nm a r y n s : Nat} (h : Tal M nk nm a r y n s) : r ≤ a := h.2.2.2.2.2.2.2.1
theorem Tal.ha {M : gM} {nk nm a r y n s : Nat} (h : Tal M nk nm a r y n s) : a ≤ 90 := h.2.2.2.2.2.2.2.2
theorem tal_ex {M : gM} {nm : Nat} (nk : Nat) (hn : nm ≤ 10) (hw : ∀ k, k < nm → ∃ w, M 3 k = nI w ∧ 1 ≤ w ∧ w ≤ 9) : ∃ a r y n s, Tal M nk nm a r y n s := by
  have hW : ∀ k, k < nm → M 3 k = nI ((M 3 k).toNatClampNeg) ∧ (M 3 k).toNatClampNeg ≤ 9 := fun k hk => by
    obtain ⟨w, e, -, h9⟩ := hw k hk
    rw [e, nI_clamp (by omega)]
    exact ⟨rfl, h9⟩
  obtain ⟨f, hf⟩ : ∃ f : Nat → Nat → Nat, f = ctN (fun k => (M 3 k).toNatClampNeg) (lapB (M 4) (M 25)) (M 5) (sforN (M 5) (M 17) (M 19) nk) := ⟨_, rfl⟩
  have E : ∀ j, talM M nk nm j = nI (sumN nm (f j)) := fun j => by
    refine sumN_nI (fun k hk => ?_)
    rw [hf]
    simp only [ctr, ctN]
    split
    · rfl
    · split
      · exact (hW k hk).1
      · split
        · rfl
        · split
          · exact (hW k hk).1
          · split
            · exact (hW k hk).1
            · rfl
  refine ⟨sumN nm (f 0), sumN nm (f 1), sumN nm (f 2), sumN nm (f 3), sumN nm (f 4), E 0, E 1, E 2, E 3, E 4, ?_, ?_, ?_, ?_⟩
  · refine sumN_nI (fun k hk => ?_)
    rw [hf]
    simp only [ctN]
    split
    · rfl
    · simpa using (hW k hk).1
  · rw [← sumN_add, ← sumN_add]
    refine sumN_congr (fun k hk => ?_)
    have h := sforN_in (M 5) (M 17) (M 19) nk k
    rw [hf]
    simp only [ctN]
    generalize sforN (M 5) (M 17) (M 19) nk k = q at h ⊢
    have hq : q = 2 ∨ q = 3 ∨ q = 4 := by omega
    by_cases h1 : lapB (M 4) (M 25) k = true
    · simp [h1]
    · by_cases h2 : M 5 k = -1
      · simp [h1, h2]
      · rcases hq with rfl | rfl | rfl <;> simp [h1, h2]
  · refine sumN_mono (fun k hk => ?_)
    rw [hf]
    simp only [ctN]
    by_cases h1 : lapB (M 4) (M 25) k = true
    · simp [h1]
    · by_cases h2 : M 5 k = -1
      · simp [h1, h2]
      · simp [h1, h2]
  · have h : sumN nm (f 0) ≤ nm * 9 := sumN_le (fun k hk => by
      rw [hf]
      simp only [ctN]
      split
      · omega
      · simpa using (hW k hk).2)
    omega
theorem talX_4 {M : gM} {nk nm j : Nat} (h : j ≠ 5) : talX M nk nm j = talM M nk nm j := upd_n _ _ h
theorem talX_5 (M : gM) (nk nm : Nat) : talX M nk nm 5 = gB (carB (talM M nk nm) (M 25)) := upd_s _ _ _
/-- carried, in numbers -/
abbrev carN (a r y n p0 p1 : Nat) : Prop := 0 < a ∧ 0 < y + n ∧ p0 * a ≤ 100 * r ∧ p1 * (y + n) ≤ 100 * y
theorem carB_N {su se : Nat → Int32} {a r y n p0 p1 : Nat} (h0 : su 0 = nI a) (h1 : su 1 = nI r) (h2 : su 2 = nI y) (h3 : su 3 = nI n) (e0 : se 0 = nI p0) (e1 : se 1 = nI p1) (ba : a ≤ 90) (br : r ≤ 90) (by' : y ≤ 90) (bn : n ≤ 90) (b0 : p0 ≤ 100) (b1 : p1 ≤ 100) : carB su se = decide (carN a r y n p0 p1) := by
  have c100 : (100 : Int32) = nI 100 := rfl
  have c0 : (0 : Int32) = nI 0 := rfl
  have m0 : p0 * a ≤ 9000 := Nat.le_trans (Nat.mul_le_mul b0 ba) (by decide)
  have m1 : p1 * (y + n) ≤ 18000 := Nat.le_trans (Nat.mul_le_mul b1 (by omega : y + n ≤ 180)) (by decide)
  unfold carB carN
  rw [h0, h1, h2, h3, e0, e1, c100, c0, nI_add, pk_mul, pk_mul, pk_mul, pk_mul]
  simp only [nI_ltI (show 0 < 2 ^ 31 by decide) (show a < 2 ^ 31 by omega), nI_ltI (show 0 < 2 ^ 31 by decide) (show y + n < 2 ^ 31 by omega), nI_ltI (show r * 100 < 2 ^ 31 by omega) (show p0 * a < 2 ^ 31 by omega), nI_ltI (show y * 100 < 2 ^ 31 by omega) (show p1 * (y + n) < 2 ^ 31 by omega), ← Bool.decide_and]
  congr 1
  simp only [eq_iff_iff, Nat.not_lt]
  constructor
  · rintro ⟨⟨⟨h1, h2⟩, h3⟩, h4⟩
    exact ⟨h1, h2, by omega, by omega⟩
  · rintro ⟨h1, h2, h3, h4⟩
    exact ⟨⟨⟨h1, h2⟩, by omega⟩, by omega⟩
/-- the first of those that count, as a comment -/
theorem behB_of {M : gM} {nk k c : Nat} {v : Int32} {pl : Nat → Nat} (hpl : ∀ c, c < nk → pl c < 20 ∧ M 18 c = nI (pl c)) (hk : k < 20) (h : bestTo nk (behB (M 18) (M 21) (M 23) (nI k) v) (turnB (M 24)) = some c) : c < nk ∧ pl c = k ∧ gaveB (M 21 c) = true ∧ M 23 c = v := by
  obtain ⟨h1, h2⟩ := bestTo_lt h
  simp only [behB, Bool.and_eq_true, decide_eq_true_eq] at h2
  refine ⟨h1, ?_, h2.1.2, h2.2⟩
  have h3 := h2.1.1
  obtain ⟨h4, h5⟩ := hpl c h1
  rw [h5] at h3
  exact (nI_eq (by omega) (by omega)).mp h3
theorem behB_ex {M : gM} {nk k c : Nat} {v : Int32} {pl : Nat → Nat} (hpl : ∀ c, c < nk → M 18 c = nI (pl c)) (hc : c < nk) (h1 : pl c = k) (h2 : gaveB (M 21 c) = true) (h3 : M 23 c = v) : ∃ q, bestTo nk (behB (M 18) (M 21) (M 23) (nI k) v) (turnB (M 24)) = some q := by
  cases h : bestTo nk (behB (M 18) (M 21) (M 23) (nI k) v) (turnB (M 24)) with
  | some q => exact ⟨q, rfl⟩
  | none =>
    have := bestTo_none.mp h c hc
    simp [behB, hpl c hc, h1, h2, h3] at this
theorem cnt0 {n : Nat} {p : Nat → Bool} : cntTo n p = 0 ↔ ∀ k, k < n → p k = false := by
  induction n with
  | zero => simp [cntTo]
  | succ n ih =>
    simp only [cntTo]
    constructor
    · intro h k hk
      by_cases e : k = n
      · subst e
        cases hp : p k with
        | false => rfl
        | true => rw [hp] at h; simp at h
      · exact ih.mp (by omega) k (by omega)
    · intro h
      rw [ih.mpr (fun k hk => h k (by omega)), h n (by omega)]
      rfl

