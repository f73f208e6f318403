/-! what a committee is: the invariant of State 0's cells (1 to 25) -/
def CmOk (M : gM) (op : Bool) (c : Nat) : Prop :=
  (M 19 c = 0 ∨ M 19 c = 1) ∧ 0 ≤ M 20 c ∧ (op = true → M 21 c = 0) ∧ (op = false → M 21 c = 1 ∨ M 21 c = 2 ∨ M 21 c = 3 ∨ M 21 c = 4) ∧ (¬ M 21 c < 2 → 0 ≤ M 22 c ∧ M 22 c ≤ M 1 5) ∧ (gaveB (M 21 c) = true → 0 ≤ M 23 c) ∧ (M 21 c = 2 → M 23 c = M 20 c)
def SmOk (M : gM) (nk : Nat) : Prop :=
  ∃ a r y n s q : Nat, (M 15 0 = nI a ∧ M 15 1 = nI r ∧ M 15 2 = nI y ∧ M 15 3 = nI n ∧ M 15 4 = nI s ∧ M 15 5 = nI q) ∧ r = y + n + s ∧ r ≤ a ∧ a ≤ 90 ∧ (q = 1 ∨ q = 0 ∧ nk = 0)
def BrOk (M : gM) (nc nk ne nb : Nat) (pl : Nat → Nat) : Prop :=
  2 ≤ ne ∧ cntTo nk (pendB (M 21)) = 0 ∧ M 11 (ne - 1) = nI nb ∧ ∀ k, k < nc → difB (M 12) ne k = true → ∃ c, c < nk ∧ M 13 ((ne - 1) * 20 + k) = nI c ∧ pl c = k ∧ gaveB (M 21 c) = true ∧ M 23 c = M 12 ((ne - 1) * 20 + k)
def EdOk (M : gM) (nc ne nb : Nat) (br : Bool) (e : Nat) : Prop :=
  (∃ b, M 11 (e - 1) = nI b ∧ 1 ≤ b ∧ b ≤ nb ∧ (b = nb → br = true ∧ e = ne)) ∧ (∃ k, k < nc ∧ difB (M 12) e k = true) ∧ ∀ k, k < nc → difB (M 12) e k = true → ∃ c, c < 30 ∧ M 13 ((e - 1) * 20 + k) = nI c
def OpOk (M : gM) (ne nb td : Nat) (br : Bool) : Prop :=
  0 < nb ∧ br = false ∧ ne < 12 ∧ ∃ en, M 14 4 = nI en ∧ td < en ∧ nb ≤ en ∧ en ≤ 10060
abbrev J (M : gM) (nm nc nk ne nb td : Nat) (op br : Bool) (mb pl : Nat → Nat) : Prop :=
  (WS M nm nc nk ne op br mb pl) ∧
  (∀ k, k < nm → ∃ w, M 3 k = nI w ∧ 1 ≤ w ∧ w ≤ 9) ∧
  (∀ k, k < nm → M 5 k = -1 ∨ ∃ v, M 5 k = nI v ∧ v ≤ 2) ∧
  (M 14 3 = nI nb) ∧
  (M 1 5 = nI td ∧ td ≤ 10000) ∧
  (op = false → nb ≤ td) ∧
  (op = true → OpOk M ne nb td br) ∧
  (∀ k, k < nm → ∃ v, M 6 k = nI v ∧ v + (if op then 1 else 0) ≤ nb) ∧
  (∀ k, k < nc → ∃ c, M 8 k = nI c ∧ 1 ≤ c ∧ c ≤ 99) ∧
  (∀ j k, j < k → k < nc → M 8 j < M 8 k) ∧
  (∀ k, k < nc → 0 ≤ M 9 k ∧ (0 < nb → 0 ≤ M 10 k)) ∧
  (∀ c, c < nk → CmOk M op c) ∧
  (∀ j, j < 5 → setOK j (M 25 j) = true) ∧
  (op = false → 0 < nb → SmOk M nk) ∧
  (nb = 0 → nk = 0 ∧ ne = 1 ∧ op = false ∧ br = false) ∧
  (0 < nk → br = false → ne < 12) ∧
  (br = true → BrOk M nc nk ne nb pl) ∧
  (∀ e, 2 ≤ e → e ≤ ne → EdOk M nc ne nb br e) ∧
  (cntTo nk (pendB (M 21)) = 0 → ∀ k, k < nc → M 9 k = M 12 ((ne - 1) * 20 + k)) ∧
  (0 < nb → ∀ k, k < nc → M 10 k = M 12 ((ne - 1 - (if br then 1 else 0)) * 20 + k)) ∧
  (0 < nb → ∀ k, k < nc → M 9 k ≠ M 10 k → op = false ∧ ∃ c, c < nk ∧ pl c = k ∧ gaveB (M 21 c) = true ∧ M 23 c = M 9 k)
theorem J.ws {M : gM} {nm nc nk ne nb td : Nat} {op br : Bool} {mb pl : Nat → Nat} (h : J M nm nc nk ne nb td op br mb pl) : WS M nm nc nk ne op br mb pl := h.1
theorem J.wt {M : gM} {nm nc nk ne nb td : Nat} {op br : Bool} {mb pl : Nat → Nat} (h : J M nm nc nk ne nb td op br mb pl) : ∀ k, k < nm → ∃ w, M 3 k = nI w ∧ 1 ≤ w ∧ w ≤ 9 := h.2.1
theorem J.gv {M : gM} {nm nc nk ne nb td : Nat} {op br : Bool} {mb pl : Nat → Nat} (h : J M nm nc nk ne nb td op br mb pl) : ∀ k, k < nm → M 5 k = -1 ∨ ∃ v, M 5 k = nI v ∧ v ≤ 2 := h.2.2.1
theorem J.hb {M : gM} {nm nc nk ne nb td : Nat} {op br : Bool} {mb pl : Nat → Nat} (h : J M nm nc nk ne nb td op br mb pl) : M 14 3 = nI nb := h.2.2.2.1
theorem J.ht {M : gM} {nm nc nk ne nb td : Nat} {op br : Bool} {mb pl : Nat → Nat} (h : J M nm nc nk ne nb td op br mb pl) : M 1 5 = nI td ∧ td ≤ 10000 := h.2.2.2.2.1
theorem J.hn {M : gM} {nm nc nk ne nb td : Nat} {op br : Bool} {mb pl : Nat → Nat} (h : J M nm nc nk ne nb td op br mb pl) : op = false → nb ≤ td := h.2.2.2.2.2.1
theorem J.ho {M : gM} {nm nc nk ne nb td : Nat} {op br : Bool} {mb pl : Nat → Nat} (h : J M nm nc nk ne nb td op br mb pl) : op = true → OpOk M ne nb td br := h.2.2.2.2.2.2.1
theorem J.bv {M : gM} {nm nc nk ne nb td : Nat} {op br : Bool} {mb pl : Nat → Nat} (h : J M nm nc nk ne nb td op br mb pl) : ∀ k, k < nm → ∃ v, M 6 k = nI v ∧ v + (if op then 1 else 0) ≤ nb := h.2.2.2.2.2.2.2.1
theorem J.nu {M : gM} {nm nc nk ne nb td : Nat} {op br : Bool} {mb pl : Nat → Nat} (h : J M nm nc nk ne nb td op br mb pl) : ∀ k, k < nc → ∃ c, M 8 k = nI c ∧ 1 ≤ c ∧ c ≤ 99 := h.2.2.2.2.2.2.2.2.1
theorem J.as {M : gM} {nm nc nk ne nb td : Nat} {op br : Bool} {mb pl : Nat → Nat} (h : J M nm nc nk ne nb td op br mb pl) : ∀ j k, j < k → k < nc → M 8 j < M 8 k := h.2.2.2.2.2.2.2.2.2.1
theorem J.pv {M : gM} {nm nc nk ne nb td : Nat} {op br : Bool} {mb pl : Nat → Nat} (h : J M nm nc nk ne nb td op br mb pl) : ∀ k, k < nc → 0 ≤ M 9 k ∧ (0 < nb → 0 ≤ M 10 k) := h.2.2.2.2.2.2.2.2.2.2.1
theorem J.cm {M : gM} {nm nc nk ne nb td : Nat} {op br : Bool} {mb pl : Nat → Nat} (h : J M nm nc nk ne nb td op br mb pl) : ∀ c, c < nk → CmOk M op c := h.2.2.2.2.2.2.2.2.2.2.2.1
theorem J.st {M : gM} {nm nc nk ne nb td : Nat} {op br : Bool} {mb pl : Nat → Nat} (h : J M nm nc nk ne nb td op br mb pl) : ∀ j, j < 5 → setOK j (M 25 j) = true := h.2.2.2.2.2.2.2.2.2.2.2.2.1
theorem J.sm {M : gM} {nm nc nk ne nb td : Nat} {op br : Bool} {mb pl : Nat → Nat} (h : J M nm nc nk ne nb td op br mb pl) : op = false → 0 < nb → SmOk M nk := h.2.2.2.2.2.2.2.2.2.2.2.2.2.1
theorem J.n0 {M : gM} {nm nc nk ne nb td : Nat} {op br : Bool} {mb pl : Nat → Nat} (h : J M nm nc nk ne nb td op br mb pl) : nb = 0 → nk = 0 ∧ ne = 1 ∧ op = false ∧ br = false := h.2.2.2.2.2.2.2.2.2.2.2.2.2.2.1
theorem J.e12 {M : gM} {nm nc nk ne nb td : Nat} {op br : Bool} {mb pl : Nat → Nat} (h : J M nm nc nk ne nb td op br mb pl) : 0 < nk → br = false → ne < 12 := h.2.2.2.2.2.2.2.2.2.2.2.2.2.2.2.1
theorem J.brp {M : gM} {nm nc nk ne nb td : Nat} {op br : Bool} {mb pl : Nat → Nat} (h : J M nm nc nk ne nb td op br mb pl) : br = true → BrOk M nc nk ne nb pl := h.2.2.2.2.2.2.2.2.2.2.2.2.2.2.2.2.1
theorem J.ed {M : gM} {nm nc nk ne nb td : Nat} {op br : Bool} {mb pl : Nat → Nat} (h : J M nm nc nk ne nb td op br mb pl) : ∀ e, 2 ≤ e → e ≤ ne → EdOk M nc ne nb br e := h.2.2.2.2.2.2.2.2.2.2.2.2.2.2.2.2.2.1
theorem J.now {M : gM} {nm nc nk ne nb td : Nat} {op br : Bool} {mb pl : Nat → Nat} (h : J M nm nc nk ne nb td op br mb pl) : cntTo nk (pendB (M 21)) = 0 → ∀ k, k < nc → M 9 k = M 12 ((ne - 1) * 20 + k) := h.2.2.2.2.2.2.2.2.2.2.2.2.2.2.2.2.2.2.1
theorem J.beg {M : gM} {nm nc nk ne nb td : Nat} {op br : Bool} {mb pl : Nat → Nat} (h : J M nm nc nk ne nb td op br mb pl) : 0 < nb → ∀ k, k < nc → M 10 k = M 12 ((ne - 1 - (if br then 1 else 0)) * 20 + k) := h.2.2.2.2.2.2.2.2.2.2.2.2.2.2.2.2.2.2.2.1
theorem J.beh {M : gM} {nm nc nk ne nb td : Nat} {op br : Bool} {mb pl : Nat → Nat} (h : J M nm nc nk ne nb td op br mb pl) : 0 < nb → ∀ k, k < nc → M 9 k ≠ M 10 k → op = false ∧ ∃ c, c < nk ∧ pl c = k ∧ gaveB (M 21 c) = true ∧ M 23 c = M 9 k := h.2.2.2.2.2.2.2.2.2.2.2.2.2.2.2.2.2.2.2.2
def Eq25 (N M : gM) : Prop := ∀ a, 1 ≤ a → a ≤ 25 → N a = M a
theorem J.congr {M N : gM} {nm nc nk ne nb td : Nat} {op br : Bool} {mb pl : Nat → Nat} (h : J M nm nc nk ne nb td op br mb pl) (e : Eq25 N M) : J N nm nc nk ne nb td op br mb pl := by
  have e1 := e 1 (by decide) (by decide)
  have e2 := e 2 (by decide) (by decide)
  have e3 := e 3 (by decide) (by decide)
  have e4 := e 4 (by decide) (by decide)
  have e5 := e 5 (by decide) (by decide)
  have e6 := e 6 (by decide) (by decide)
  have e7 := e 7 (by decide) (by decide)
  have e8 := e 8 (by decide) (by decide)
  have e9 := e 9 (by decide) (by decide)
  have e10 := e 10 (by decide) (by decide)
  have e11 := e 11 (by decide) (by decide)
  have e12 := e 12 (by decide) (by decide)
  have e13 := e 13 (by decide) (by decide)
  have e14 := e 14 (by decide) (by decide)
  have e15 := e 15 (by decide) (by decide)
  have e16 := e 16 (by decide) (by decide)
  have e17 := e 17 (by decide) (by decide)
  have e18 := e 18 (by decide) (by decide)
  have e19 := e 19 (by decide) (by decide)
  have e20 := e 20 (by decide) (by decide)
  have e21 := e 21 (by decide) (by decide)
  have e22 := e 22 (by decide) (by decide)
  have e23 := e 23 (by decide) (by decide)
  have e25 := e 25 (by decide) (by decide)
  refine ⟨?_, ?_, ?_, ?_, ?_, ?_, ?_, ?_, ?_, ?_, ?_, ?_, ?_, ?_, ?_, ?_, ?_, ?_, ?_, ?_, ?_⟩
  · simp only [WS, e2, e7, e14, e16, e17, e18]; exact h.ws
  · rw [e3]; exact h.wt
  · rw [e5]; exact h.gv
  · rw [e14]; exact h.hb
  · rw [e1]; exact h.ht
  · exact h.hn
  · simp only [OpOk, e14]; exact h.ho
  · rw [e6]; exact h.bv
  · rw [e8]; exact h.nu
  · rw [e8]; exact h.as
  · rw [e9, e10]; exact h.pv
  · simp only [CmOk, e19, e20, e21, e22, e23, e1]; exact h.cm
  · rw [e25]; exact h.st
  · simp only [SmOk, e15]; exact h.sm
  · exact h.n0
  · exact h.e12
  · simp only [BrOk, e21, e11, e12, e13, e23]; exact h.brp
  · simp only [EdOk, e11, e12, e13]; exact h.ed
  · rw [e21, e9, e12]; exact h.now
  · rw [e10, e12]; exact h.beg
  · rw [e9, e10, e21, e23]; exact h.beh
/-- the sums of a ballot that runs are those that count now -/
def Nz (M : gM) (nk nm : Nat) (op : Bool) : Prop := op = true → M 15 = talX M nk nm
def nrm (M : gM) (nk nm : Nat) (op : Bool) : gM := if op then gset M 15 (talX M nk nm) else M
theorem nrm_ne {M : gM} {nk nm a : Nat} {op : Bool} (h : a ≠ 15) : nrm M nk nm op a = M a := by
  unfold nrm; split
  · exact gset_ne _ _ h
  · rfl
theorem nrm_15 {M : gM} {nk nm : Nat} : nrm M nk nm true 15 = talX M nk nm := by show gset M 15 (talX M nk nm) 15 = _; exact gset_eq _ _ _
theorem nrm_Nz (M : gM) (nk nm : Nat) (op : Bool) : Nz (nrm M nk nm op) nk nm op := by
  intro h; subst h
  rw [nrm_15]; rfl
theorem nrm_self {M : gM} {nk nm : Nat} {op : Bool} (h : Nz M nk nm op) : nrm M nk nm op = M := by
  unfold nrm; split
  · next c => rw [← h c, gset_self]
  · rfl
theorem Nz.congr {M N : gM} {nk nm : Nat} {op : Bool} (h : Nz M nk nm op) (e : Eq25 N M) : Nz N nk nm op := by
  intro c
  show N 15 = talF (N 3) (N 4) (N 25) (N 5) (N 17) (N 19) nk nm
  rw [e 15 (by decide) (by decide), e 3 (by decide) (by decide), e 4 (by decide) (by decide), e 25 (by decide) (by decide), e 5 (by decide) (by decide), e 17 (by decide) (by decide), e 19 (by decide) (by decide)]
  exact h c
theorem J.nrm {M : gM} {nm nc nk ne nb td : Nat} {op br : Bool} {mb pl : Nat → Nat} (h : J M nm nc nk ne nb td op br mb pl) : J (nrm M nk nm op) nm nc nk ne nb td op br mb pl := by
  cases op with
  | false => exact h
  | true =>
    have K : ∀ a, a ≠ 15 → gset M 15 (talX M nk nm) a = M a := fun a ha => gset_ne _ _ ha
    exact ⟨h.ws, h.wt, h.gv, h.hb, h.ht, h.hn, h.ho, h.bv, h.nu, h.as, h.pv, h.cm, h.st, fun c => (by cases c), h.n0, h.e12, h.brp, h.ed, h.now, h.beg, h.beh⟩
theorem WH.congr {M N : gM} {ol hs : Nat} (h : WH M ol hs) (e : N 126 = M 126) : WH N ol hs := by
  simp only [WH, e]; exact h

