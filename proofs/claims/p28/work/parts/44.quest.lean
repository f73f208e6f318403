/-! what the class answers, by its value -/
section
variable {E : gE} {M : gM} {nm nc nk ne nb td ol hs : Nat} {op br : Bool} {mb pl : Nat → Nat}
theorem gInt_e {k : gK} {as : List Value} {x y : Int32} {P : gM → Prop} (h : gMet E k as M (gInt fun r M' => r = x ∧ P M')) (e : x = y) : gMet E k as M (gInt fun r M' => r = y ∧ P M') := e ▸ h
def cnF (M : gM) (nm nc nk ne hs : Nat) (op : Bool) (j : Nat) : Int32 := if j < 12 then cntF M nm nc nk ne hs op j else if 20 ≤ j then M 25 (j - 20) else -1
theorem x_count_v {j : Nat} (hj : j < 25) : x_count M nm nc nk ne hs op (nI j) = cnF M nm nc nk ne hs op j := by
  rw [x_count, if_pos (by rw [inR_nI (by omega) (by decide)]; exact decide_eq_true hj), nI_clamp (by omega)]; rfl
theorem q_cnt (hW : WS M nm nc nk ne op br mb pl) (hH : WH M ol hs) (j : Nat) {v : Int32} (hj : Nat.blt j 25 = true) (e : cnF M nm nc nk ne hs op j = v) : gMet E k_X7_count [.ref 0, .int (nI j)] M (gInt fun r M' => r = v ∧ M' = M) :=
  gInt_e (c_X7_count E (nI j) hW hH) ((x_count_v (Nat.le_of_ble_eq_true hj)).trans e)
theorem x_member_v {k w : Nat} (hm : nm ≤ 10) (hk : k < nm) (hw : w < 6) : x_member M nm nk (nI k) (nI w) = memF M nk k w := by
  rw [x_member, if_pos ⟨by rw [inR_nI (by omega) (by omega)]; exact decide_eq_true hk, by rw [inR_nI (by omega) (by decide)]; exact decide_eq_true hw⟩, nI_clamp (by omega), nI_clamp (by omega)]
theorem q_mem (hW : WS M nm nc nk ne op br mb pl) {k : Nat} (hk : k < nm) (w : Nat) {v : Int32} (hw : Nat.blt w 6 = true) (e : memF M nk k w = v) : gMet E k_X7_member [.ref 0, .int (nI k), .int (nI w)] M (gInt fun r M' => r = v ∧ M' = M) :=
  gInt_e (c_X7_member E (nI k) (nI w) hW) ((x_member_v hW.1.2 hk (Nat.le_of_ble_eq_true hw)).trans e)
theorem x_told_v {c w : Nat} (hm : nk ≤ 30) (hc : c < nk) (hw : w < 7) : x_told M nk (nI c) (nI w) = tolF M c w := by
  rw [x_told, if_pos ⟨by rw [inR_nI (by omega) (by omega)]; exact decide_eq_true hc, by rw [inR_nI (by omega) (by decide)]; exact decide_eq_true hw⟩, nI_clamp (by omega), nI_clamp (by omega)]
theorem q_tol (hW : WS M nm nc nk ne op br mb pl) {c : Nat} (hc : c < nk) (w : Nat) {v : Int32} (hw : Nat.blt w 7 = true) (e : tolF M c w = v) : gMet E k_X7_told [.ref 0, .int (nI c), .int (nI w)] M (gInt fun r M' => r = v ∧ M' = M) :=
  gInt_e (c_X7_told E (nI c) (nI w) hW) ((x_told_v hW.2.2.1.2 hc (Nat.le_of_ble_eq_true hw)).trans e)
/-- a sum, where those of a running ballot are as they count -/
def y_tal (M : gM) (j : Nat) : Int32 := if M 14 3 = 0 then -4 else M 15 j
theorem q_taly (hW : WS M nm nc nk ne op br mb pl) (hz : Nz M nk nm op) {j : Nat} (hj : j < 6) : gMet E k_X7_tally [.ref 0, .int (nI j)] M (gInt fun r M' => r = y_tal M j ∧ M' = M) := by
  have h := c_X7_tally E (nI j) hW
  have e : x_tally M nm nk op (nI j) = (y_tal M j, M) := by
    rw [x_tally, if_pos (by rw [inR_nI (by omega) (by decide)]; exact decide_eq_true hj), nI_clamp (by omega), y_tal]
    split
    · rfl
    · split
      · next c => rw [← hz c, gset_self]
      · rfl
  rw [e] at h
  have e2 : (fun (r : Int32) (M' : gM) => (r, M') = (y_tal M j, M)) = fun r M' => r = y_tal M j ∧ M' = M := by
    funext r M'; simp
  rw [e2] at h
  exact h
theorem q_tal (hW : WS M nm nc nk ne op br mb pl) (hz : Nz M nk nm op) (h0 : ¬ M 14 3 = 0) (j : Nat) {v : Int32} (hj : Nat.blt j 6 = true) (e : M 15 j = v) : gMet E k_X7_tally [.ref 0, .int (nI j)] M (gInt fun r M' => r = v ∧ M' = M) :=
  gInt_e (q_taly hW hz (Nat.le_of_ble_eq_true hj)) (by rw [y_tal, if_neg h0]; exact e)
theorem q_lack (hW : WS M nm nc nk ne op br mb pl) (hz : Nz M nk nm op) : gMet E k_X7_lacking [.ref 0] M (gInt fun r M' => r = (if op then lackF (M 15) (M 25) else -2) ∧ M' = M) := by
  have h := c_X7_lacking E hW
  have e : x_lacking M nm nk op = ((if op then lackF (M 15) (M 25) else -2), M) := by
    rw [x_lacking]
    split
    · next c => rw [← hz c, gset_self]
    · rfl
  rw [e] at h
  have e2 : (fun (r : Int32) (M' : gM) => (r, M') = ((if op then lackF (M 15) (M 25) else -2), M)) = fun r M' => r = (if op then lackF (M 15) (M 25) else -2) ∧ M' = M := by
    funext r M'; simp
  rw [e2] at h
  exact h
theorem x_clause_v {k : Nat} (hn : nc ≤ 20) (hk : k < nc) : x_clause M nc (nI k) = M 8 k := by
  rw [x_clause, if_neg (nI_pos (by omega)), if_pos (by rw [inR_nI (by omega) (by omega)]; exact decide_eq_true hk), nI_clamp (by omega)]
theorem q_cla (hW : WS M nm nc nk ne op br mb pl) {k : Nat} (hk : k < nc) : gMet E k_X7_clause [.ref 0, .int (nI k)] M (gInt fun r M' => r = M 8 k ∧ M' = M) :=
  gInt_e (c_X7_clause E (nI k) hW) (x_clause_v hW.2.1.2 hk)
theorem asc_ne (as : ∀ j k, j < k → k < nc → M 8 j < M 8 k) {j k : Nat} (hj : j < nc) (hk : k < nc) (e : M 8 j = M 8 k) : j = k := by
  rcases Nat.lt_trichotomy j k with h | h | h
  · exact absurd e (Int32.ne_of_lt (as j k h hk))
  · exact h
  · exact absurd e.symm (Int32.ne_of_lt (as k j h hj))
theorem fnd_self (as : ∀ j k, j < k → k < nc → M 8 j < M 8 k) {k : Nat} (hk : k < nc) : fndTo nc (fun q => decide (M 8 q = M 8 k)) = some k :=
  fndTo_eq hk (decide_eq_true rfl) (fun j hj => decide_eq_false (fun e => by have := asc_ne as (by omega) hk e; omega))
theorem q_val (hW : WS M nm nc nk ne op br mb pl) (as : ∀ j k, j < k → k < nc → M 8 j < M 8 k) {k : Nat} (hk : k < nc) : gMet E k_X7_value [.ref 0, .int (M 8 k)] M (gInt fun r M' => r = M 9 k ∧ M' = M) :=
  gInt_e (c_X7_value E (M 8 k) hW) (by rw [x_value, fnd_self as hk])
theorem q_vin (hW : WS M nm nc nk ne op br mb pl) (as : ∀ j k, j < k → k < nc → M 8 j < M 8 k) {k e : Nat} (hk : k < nc) (h1 : 1 ≤ e) (h2 : e ≤ ne) : gMet E k_X7_valueIn [.ref 0, .int (M 8 k), .int (nI e)] M (gInt fun r M' => r = M 12 ((e - 1) * 20 + k) ∧ M' = M) :=
  gInt_e (c_X7_valueIn E (M 8 k) (nI e) hW) (by
    have h12 := hW.2.2.2.1.2.2
    rw [x_valueIn, fnd_self as hk]
    show (if inI (nI e) (nI 1) (nI ne) = true then M 12 (((nI e).toNatClampNeg - 1) * 20 + k) else -1) = _
    rw [if_pos (inI_y (by omega) rfl h1 h2), nI_clamp (by omega)])
theorem q_vinX (hW : WS M nm nc nk ne op br mb pl) (as : ∀ j k, j < k → k < nc → M 8 j < M 8 k) {k e : Nat} (hk : k < nc) (h : e < 1 ∨ ne < e) (he : e < 100) : gMet E k_X7_valueIn [.ref 0, .int (M 8 k), .int (nI e)] M (gInt fun r M' => r = -1 ∧ M' = M) :=
  gInt_e (c_X7_valueIn E (M 8 k) (nI e) hW) (by
    have h12 := hW.2.2.2.1.2.2
    rw [x_valueIn, fnd_self as hk]
    show (if inI (nI e) (nI 1) (nI ne) = true then M 12 (((nI e).toNatClampNeg - 1) * 20 + k) else -1) = _
    rw [if_neg (fun q => by
      obtain ⟨j, e1, e2, e3⟩ := inI_n (by decide) (by omega) q
      have := (nI_eq (by omega) (by omega)).mp e1
      omega)])
theorem q_chs (hW : WS M nm nc nk ne op br mb pl) {e : Nat} (h1 : 1 ≤ e) (h2 : e ≤ ne) : gMet E k_X7_changes [.ref 0, .int (nI e)] M (gInt fun r M' => r = nI (cntTo nc (difB (M 12) e)) ∧ M' = M) :=
  gInt_e (c_X7_changes E (nI e) hW) (by
    have h12 := hW.2.2.2.1.2.2
    rw [x_changes, if_pos (inI_y (by omega) rfl h1 h2), nI_clamp (by omega)])
theorem x_change_v {e i w : Nat} (h12 : ne ≤ 12) (h1 : 1 ≤ e) (h2 : e ≤ ne) (hi : i < 1000) (hw : w < 3) : x_change M nc ne (nI e) (nI i) (nI w) = (match nthTo nc (difB (M 12) e) i with
  | none => -4
  | some p => chaF M e p w) := by
  rw [x_change, if_pos ⟨inI_y (by omega) rfl h1 h2, nI_pos (by omega), by rw [inR_nI (by omega) (by decide)]; exact decide_eq_true hw⟩, nI_clamp (by omega), nI_clamp (by omega), nI_clamp (by omega)]
  cases nthTo nc (difB (M 12) e) i <;> rfl
theorem q_cha (hW : WS M nm nc nk ne op br mb pl) {e i p : Nat} (w : Nat) {v : Int32} (h1 : 1 ≤ e) (h2 : e ≤ ne) (hi : i < 1000) (hw : Nat.blt w 3 = true) (hp : nthTo nc (difB (M 12) e) i = some p) (hv : chaF M e p w = v) : gMet E k_X7_change [.ref 0, .int (nI e), .int (nI i), .int (nI w)] M (gInt fun r M' => r = v ∧ M' = M) :=
  gInt_e (c_X7_change E (nI e) (nI i) (nI w) hW) (by rw [x_change_v hW.2.2.2.1.2.2 h1 h2 hi (Nat.le_of_ble_eq_true hw), hp]; exact hv)
theorem q_chaX (hW : WS M nm nc nk ne op br mb pl) {e i : Nat} (w : Nat) (h1 : 1 ≤ e) (h2 : e ≤ ne) (hi : i < 1000) (hw : Nat.blt w 3 = true) (hp : nthTo nc (difB (M 12) e) i = none) : gMet E k_X7_change [.ref 0, .int (nI e), .int (nI i), .int (nI w)] M (gInt fun r M' => r = -4 ∧ M' = M) :=
  gInt_e (c_X7_change E (nI e) (nI i) (nI w) hW) (by rw [x_change_v hW.2.2.2.1.2.2 h1 h2 hi (Nat.le_of_ble_eq_true hw), hp])
theorem cnt_mono {p : Nat → Bool} (j d : Nat) : cntTo j p ≤ cntTo (j + d) p := by
  induction d with
  | zero => exact Nat.le_refl _
  | succ d ih =>
    show cntTo j p ≤ cntTo (j + d) p + (if p (j + d) then 1 else 0)
    omega
theorem cnt_lt {p : Nat → Bool} {j k : Nat} (h : j < k) (hp : p j = true) : cntTo j p < cntTo k p := by
  have h1 := cnt_mono (p := p) (j + 1) (k - (j + 1))
  rw [show j + 1 + (k - (j + 1)) = k by omega] at h1
  have h2 : cntTo (j + 1) p = cntTo j p + 1 := by simp only [cntTo, hp, if_true]
  omega
/-- the change at a place that differs has as its index how many differ ahead of it -/
theorem nth_at {n k : Nat} {p : Nat → Bool} (hk : k < n) (hp : p k = true) : nthTo n p (cntTo k p) = some k := by
  refine fndTo_eq hk (by simp [hp]) (fun j hj => ?_)
  cases hj2 : p j with
  | false => simp
  | true =>
    have h6 : ¬ cntTo j p = cntTo k p := by have := cnt_lt hj hj2; omega
    simp [h6]
theorem nth_end {n : Nat} {p : Nat → Bool} : nthTo n p (cntTo n p) = none := by
  refine fndTo_eqn (fun j hj => ?_)
  cases hj2 : p j with
  | false => simp
  | true =>
    have h6 : ¬ cntTo j p = cntTo n p := by have := cnt_lt hj hj2; omega
    simp [h6]
end

