/-! pure functions of rows, shared by the class and the reference -/
def sumTo (n : Nat) (f : Nat → Int32) : Int32 := match n with
  | 0 => 0
  | n + 1 => sumTo n f + f n
def cntTo (n : Nat) (p : Nat → Bool) : Nat := match n with
  | 0 => 0
  | n + 1 => cntTo n p + (if p n then 1 else 0)
def anyTo (n : Nat) (p : Nat → Bool) : Bool := match n with
  | 0 => false
  | n + 1 => anyTo n p || p n
/-- the first place with p among those below n -/
def fndTo (n : Nat) (p : Nat → Bool) : Option Nat := match n with
  | 0 => none
  | n + 1 => match fndTo n p with
    | some k => some k
    | none => if p n then some n else none
/-- the best place below n of those that are ok; lt k b: k goes ahead of the best so far -/
def isB (lt : Nat → Nat → Bool) (o : Option Nat) (n : Nat) : Bool := match o with
  | none => true
  | some b => lt n b
def bestTo (n : Nat) (ok : Nat → Bool) (lt : Nat → Nat → Bool) : Option Nat := match n with
  | 0 => none
  | n + 1 => if ok n && isB lt (bestTo n ok lt) n then some n else bestTo n ok lt
def optI (d : Int32) (o : Option Nat) : Int32 := match o with
  | some k => nI k
  | none => d
theorem sumTo_congr {n : Nat} {f g : Nat → Int32} (h : ∀ k, k < n → f k = g k) : sumTo n f = sumTo n g := by
  induction n with
  | zero => rfl
  | succ n ih => simp only [sumTo]; rw [ih (fun k hk => h k (by omega)), h n (by omega)]
theorem cntTo_congr {n : Nat} {f g : Nat → Bool} (h : ∀ k, k < n → f k = g k) : cntTo n f = cntTo n g := by
  induction n with
  | zero => rfl
  | succ n ih => simp only [cntTo]; rw [ih (fun k hk => h k (by omega)), h n (by omega)]
theorem cntTo_le (n : Nat) (p : Nat → Bool) : cntTo n p ≤ n := by
  induction n with
  | zero => exact Nat.le_refl 0
  | succ n ih => simp only [cntTo]; split <;> omega
theorem anyTo_congr {n : Nat} {f g : Nat → Bool} (h : ∀ k, k < n → f k = g k) : anyTo n f = anyTo n g := by
  induction n with
  | zero => rfl
  | succ n ih => simp only [anyTo]; rw [ih (fun k hk => h k (by omega)), h n (by omega)]
theorem anyTo_true {n : Nat} {p : Nat → Bool} : anyTo n p = true ↔ ∃ k, k < n ∧ p k = true := by
  induction n with
  | zero => simp [anyTo]
  | succ n ih =>
    simp only [anyTo, Bool.or_eq_true, ih]
    constructor
    · rintro (⟨k, h1, h2⟩ | h)
      · exact ⟨k, by omega, h2⟩
      · exact ⟨n, by omega, h⟩
    · rintro ⟨k, h1, h2⟩
      by_cases hk : k = n
      · subst hk; exact Or.inr h2
      · exact Or.inl ⟨k, by omega, h2⟩
theorem anyTo_false {n : Nat} {p : Nat → Bool} : anyTo n p = false ↔ ∀ k, k < n → p k = false := by
  rw [← Bool.not_eq_true, anyTo_true]
  constructor
  · intro h k hk
    cases hp : p k with
    | false => rfl
    | true => exact absurd ⟨k, hk, hp⟩ h
  · rintro h ⟨k, hk, hp⟩
    rw [h k hk] at hp; cases hp
theorem fndTo_congr {n : Nat} {f g : Nat → Bool} (h : ∀ k, k < n → f k = g k) : fndTo n f = fndTo n g := by
  induction n with
  | zero => rfl
  | succ n ih => simp only [fndTo]; rw [ih (fun k hk => h k (by omega)), h n (by omega)]
theorem fndTo_some {n : Nat} {p : Nat → Bool} {k : Nat} (h : fndTo n p = some k) : k < n ∧ p k = true ∧ ∀ j, j < k → p j = false := by
  induction n with
  | zero => cases h
  | succ n ih =>
    simp only [fndTo] at h
    cases hf : fndTo n p with
    | some q =>
      rw [hf] at h; cases h
      obtain ⟨h1, h2, h3⟩ := ih hf
      exact ⟨by omega, h2, h3⟩
    | none =>
      rw [hf] at h
      have hn : ∀ j, j < n → p j = false := by
        clear ih h
        induction n with
        | zero => intro j hj; omega
        | succ n ih2 =>
          simp only [fndTo] at hf
          cases hf2 : fndTo n p with
          | some q => rw [hf2] at hf; cases hf
          | none =>
            rw [hf2] at hf
            intro j hj
            by_cases e : j = n
            · subst e
              cases hp : p j with
              | false => rfl
              | true => simp [hp] at hf
            · exact ih2 hf2 j (by omega)
      cases hp : p n with
      | true => simp [hp] at h; subst h; exact ⟨by omega, hp, hn⟩
      | false => simp [hp] at h
theorem fndTo_none {n : Nat} {p : Nat → Bool} (h : fndTo n p = none) : ∀ j, j < n → p j = false := by
  induction n with
  | zero => intro j hj; omega
  | succ n ih =>
    simp only [fndTo] at h
    cases hf : fndTo n p with
    | some q => rw [hf] at h; cases h
    | none =>
      rw [hf] at h
      intro j hj
      by_cases e : j = n
      · subst e
        cases hp : p j with
        | false => rfl
        | true => simp [hp] at h
      · exact ih hf j (by omega)
theorem fndTo_eq {n k : Nat} {p : Nat → Bool} (hk : k < n) (hp : p k = true) (hj : ∀ j, j < k → p j = false) : fndTo n p = some k := by
  cases h : fndTo n p with
  | none => rw [fndTo_none h k hk] at hp; cases hp
  | some q =>
    obtain ⟨h1, h2, h3⟩ := fndTo_some h
    rcases Nat.lt_trichotomy q k with h4 | h4 | h4
    · rw [hj q h4] at h2; cases h2
    · rw [h4]
    · rw [h3 k h4] at hp; cases hp
theorem fndTo_eqn {n : Nat} {p : Nat → Bool} (hj : ∀ j, j < n → p j = false) : fndTo n p = none := by
  cases h : fndTo n p with
  | none => rfl
  | some q =>
    obtain ⟨h1, h2, -⟩ := fndTo_some h
    rw [hj q h1] at h2; cases h2
theorem bestTo_lt {n k : Nat} {ok : Nat → Bool} {lt : Nat → Nat → Bool} (h : bestTo n ok lt = some k) : k < n ∧ ok k = true := by
  induction n with
  | zero => cases h
  | succ n ih =>
    simp only [bestTo] at h
    split at h
    · next c => cases h; simp only [Bool.and_eq_true] at c; exact ⟨by omega, c.1⟩
    · obtain ⟨h1, h2⟩ := ih h; exact ⟨by omega, h2⟩
theorem bestTo_congr {n : Nat} {ok ok' : Nat → Bool} {lt lt' : Nat → Nat → Bool} (h : ∀ k, k < n → ok k = ok' k) (h2 : ∀ k b, b < k → k < n → ok k = true → ok b = true → lt k b = lt' k b) : bestTo n ok lt = bestTo n ok' lt' := by
  induction n with
  | zero => rfl
  | succ n ih =>
    have e := ih (fun k hk => h k (by omega)) (fun k b hb hk => h2 k b hb (by omega))
    simp only [bestTo]
    rw [← e, ← h n (by omega)]
    cases hb : bestTo n ok lt with
    | none => rfl
    | some b =>
      obtain ⟨h3, h4⟩ := bestTo_lt hb
      cases hn : ok n with
      | false => simp
      | true => simp [isB, h2 n b h3 (by omega) hn h4]
theorem bestTo_none {n : Nat} {ok : Nat → Bool} {lt : Nat → Nat → Bool} : bestTo n ok lt = none ↔ ∀ k, k < n → ok k = false := by
  induction n with
  | zero => simp [bestTo]
  | succ n ih =>
    simp only [bestTo]
    constructor
    · intro h
      split at h
      · cases h
      · next c =>
        have h1 := ih.mp h
        intro k hk
        by_cases e : k = n
        · subst e
          rw [h] at c
          simpa [isB] using c
        · exact h1 k (by omega)
    · intro h
      have h1 : ok n = false := h n (by omega)
      simp [h1]
      exact ih.mpr (fun k hk => h k (by omega))
def inR (c : Int32) (n : Nat) : Bool := decide (0 ≤ c ∧ c < nI n)
theorem inR_nI {j n : Nat} (hj : j < 2 ^ 31) (hn : n < 2 ^ 31) : inR (nI j) n = decide (j < n) := by
  have h := nI_ltI hj hn
  have h0 : (0 : Int32) ≤ nI j := nI_pos' hj
  simp [inR, h, h0]
theorem inR_neg {c : Int32} {n : Nat} (h : c < 0) : inR c n = false := by
  have : ¬ (0 : Int32) ≤ c := Int32.not_le.mpr h
  simp [inR, this]
theorem inR_ge {c : Int32} {n : Nat} (h : nI n ≤ c) : inR c n = false := by
  have : ¬ c < nI n := Int32.not_lt.mpr h
  simp [inR, this]
theorem inR_t {c : Int32} {n : Nat} (hn : n < 2 ^ 31) (h : inR c n = true) : ∃ j, j < n ∧ c = nI j := by
  rcases pk_ix c hn with h1 | h1 | h1
  · rw [inR_neg h1] at h; cases h
  · rw [inR_ge h1] at h; cases h
  · exact h1
theorem inR_ok {c : Int32} {n : Nat} (h0 : ¬ c < 0) (h : ¬ nI n ≤ c) : inR c n = true := by
  have h0 := Int32.not_lt.mp h0
  have h := Int32.not_le.mp h
  simp [inR, h0, h]
/-- from lo to hi -/
def inI (c : Int32) (lo hi : Int32) : Bool := decide (lo ≤ c ∧ c ≤ hi)
theorem nI_ne_m1 {k : Nat} (h : k < 2 ^ 31) : ¬ nI k = -1 := by
  intro e
  have h1 := nI_toInt h
  rw [e] at h1
  have : ((-1 : Int32)).toInt = -1 := by decide
  omega
theorem optI_m1 {o : Option Nat} (h : ∀ k, o = some k → k < 2 ^ 31) : optI (-1) o = -1 ↔ o = none := by
  cases o with
  | none => simp [optI]
  | some k => simp [optI, nI_ne_m1 (h k rfl)]

