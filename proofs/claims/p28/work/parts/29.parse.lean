/-! a text of L signs ch, read: shared by the class and the reference -/
def digB (ch : Nat → Nat) (L i : Nat) : Bool := decide (i < L) && decide (48 ≤ ch i) && decide (ch i ≤ 57)
def sgN (ch : Nat → Nat) (L i : Nat) : Nat := if i < L then ch i else 0
/-- how many digits stand at i, counted up to m -/
def dgN (ch : Nat → Nat) (L i m : Nat) : Nat := (fndTo m (fun d => !digB ch L (i + d))).getD m
def valN (ch : Nat → Nat) (i d : Nat) : Nat := match d with
  | 0 => 0
  | d + 1 => valN ch i d * 10 + ch (i + d) - 48
theorem dgN_le (ch : Nat → Nat) (L i m : Nat) : dgN ch L i m ≤ m := by
  simp only [dgN]
  cases h : fndTo m (fun d => !digB ch L (i + d)) with
  | none => exact Nat.le_refl m
  | some k => exact Nat.le_of_lt (fndTo_some h).1
theorem dgN_dig {ch : Nat → Nat} {L i m d : Nat} (h : d < dgN ch L i m) : digB ch L (i + d) = true := by
  simp only [dgN] at h
  cases hf : fndTo m (fun d => !digB ch L (i + d)) with
  | none => rw [hf] at h; have := fndTo_none hf d h; simpa using this
  | some k => rw [hf] at h; have := (fndTo_some hf).2.2 d h; simpa using this
theorem dgN_end {ch : Nat → Nat} {L i m : Nat} (h : dgN ch L i m < m) : digB ch L (i + dgN ch L i m) = false := by
  simp only [dgN] at h ⊢
  cases hf : fndTo m (fun d => !digB ch L (i + d)) with
  | none => rw [hf] at h; simp at h
  | some k => have := (fndTo_some hf).2.1; simpa using this
theorem digB_in {ch : Nat → Nat} {L i : Nat} (h : digB ch L i = true) : i < L ∧ 48 ≤ ch i ∧ ch i ≤ 57 := by
  simp only [digB, Bool.and_eq_true, decide_eq_true_eq] at h
  exact ⟨h.1.1, h.1.2, h.2⟩
theorem dgN_in {ch : Nat → Nat} {L i m : Nat} (h : 0 < dgN ch L i m) : i + dgN ch L i m ≤ L := by
  have h1 := (digB_in (dgN_dig (show dgN ch L i m - 1 < dgN ch L i m by omega))).1
  omega
theorem valN_lt {ch : Nat → Nat} {L i : Nat} : ∀ d, (∀ e, e < d → digB ch L (i + e) = true) → valN ch i d < 10 ^ d := by
  intro d
  induction d with
  | zero => intro _; simp [valN]
  | succ d ih =>
    intro h
    have h1 := ih (fun e he => h e (by omega))
    have h2 := digB_in (h d (by omega))
    simp only [valN, Nat.pow_succ]
    omega
def pD1 (ch : Nat → Nat) (L i : Nat) : Nat := dgN ch L i 2
def pMk (ch : Nat → Nat) (L i : Nat) : Nat := i + pD1 ch L i
def pD2 (ch : Nat → Nat) (L i : Nat) : Nat := dgN ch L (pMk ch L i + 2) 4
def pCl (ch : Nat → Nat) (L i : Nat) : Nat := valN ch i (pD1 ch L i)
def pKd (ch : Nat → Nat) (L i : Nat) : Nat := if sgN ch L (pMk ch L i) = 116 then 1 else 0
def pVal (ch : Nat → Nat) (L i : Nat) : Nat := valN ch (pMk ch L i + 2) (pD2 ch L i)
def pNx (ch : Nat → Nat) (L i : Nat) : Nat := pMk ch L i + 2 + pD2 ch L i + 1
/-- whether a comment of the form stands at i -/
def pOk (ch : Nat → Nat) (L i : Nat) : Bool := decide (0 < pD1 ch L i) && (decide (sgN ch L (pMk ch L i) = 116) || decide (sgN ch L (pMk ch L i) = 101)) && decide (sgN ch L (pMk ch L i + 1) = 61) && decide (0 < pD2 ch L i) && decide (sgN ch L (pMk ch L i + 2 + pD2 ch L i) = 59)
theorem pOk_iff {ch : Nat → Nat} {L i : Nat} : pOk ch L i = true ↔ 0 < pD1 ch L i ∧ (sgN ch L (pMk ch L i) = 116 ∨ sgN ch L (pMk ch L i) = 101) ∧ sgN ch L (pMk ch L i + 1) = 61 ∧ 0 < pD2 ch L i ∧ sgN ch L (pMk ch L i + 2 + pD2 ch L i) = 59 := by
  simp only [pOk, Bool.and_eq_true, Bool.or_eq_true, decide_eq_true_eq, and_assoc]
theorem pOk_no {ch : Nat → Nat} {L i : Nat} (h : ¬ (0 < pD1 ch L i ∧ (sgN ch L (pMk ch L i) = 116 ∨ sgN ch L (pMk ch L i) = 101) ∧ sgN ch L (pMk ch L i + 1) = 61 ∧ 0 < pD2 ch L i ∧ sgN ch L (pMk ch L i + 2 + pD2 ch L i) = 59)) : pOk ch L i = false := by
  cases hp : pOk ch L i with
  | false => rfl
  | true => exact absurd (pOk_iff.mp hp) h
theorem sgN_in {ch : Nat → Nat} {L i c : Nat} (h : sgN ch L i = c) (hc : 0 < c) : i < L := by
  rcases Nat.lt_or_ge i L with q | q
  · exact q
  · simp only [sgN] at h; rw [if_neg (by omega)] at h; omega
theorem pNx_in {ch : Nat → Nat} {L i : Nat} (h : pOk ch L i = true) : i + 5 ≤ pNx ch L i ∧ pNx ch L i ≤ L := by
  obtain ⟨h1, -, -, h2, h3⟩ := pOk_iff.mp h
  have h4 := sgN_in h3 (by decide)
  simp only [pNx]
  simp only [pMk] at h4 ⊢
  omega
theorem pOk_L {ch : Nat → Nat} {L i : Nat} (h : L ≤ i) : pOk ch L i = false := by
  cases hp : pOk ch L i with
  | false => rfl
  | true => have := pNx_in hp; omega
theorem pD1_le (ch : Nat → Nat) (L i : Nat) : pD1 ch L i ≤ 2 := dgN_le ch L i 2
theorem pD2_le (ch : Nat → Nat) (L i : Nat) : pD2 ch L i ≤ 4 := dgN_le ch L _ 4
theorem pCl_lt (ch : Nat → Nat) (L i : Nat) : pCl ch L i < 100 := by
  have h := valN_lt (ch := ch) (L := L) (i := i) (pD1 ch L i) (fun e he => dgN_dig he)
  have h2 := pD1_le ch L i
  have h3 : 10 ^ pD1 ch L i ≤ 10 ^ 2 := Nat.pow_le_pow_right (by decide) h2
  simp only [pCl]; omega
theorem pVal_lt (ch : Nat → Nat) (L i : Nat) : pVal ch L i < 10000 := by
  have h := valN_lt (ch := ch) (L := L) (i := pMk ch L i + 2) (pD2 ch L i) (fun e he => dgN_dig he)
  have h2 := pD2_le ch L i
  have h3 : 10 ^ pD2 ch L i ≤ 10 ^ 4 := Nat.pow_le_pow_right (by decide) h2
  simp only [pVal]; omega
/-- the class's text, the reference's text -/
def TxX (M : gM) (ch : Nat → Nat) (L : Nat) : Prop := M 128 1 = nI L ∧ L ≤ 80 ∧ ∀ i, i < L → M 129 i = nI (ch i) ∧ 32 ≤ ch i ∧ ch i ≤ 126
def TxM (M : gM) (ch : Nat → Nat) (L : Nat) : Prop := M 130 4 = nI L ∧ L ≤ 80 ∧ ∀ i, i < L → M 133 i = nI (ch i) ∧ 32 ≤ ch i ∧ ch i ≤ 126

