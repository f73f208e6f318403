/-! texts: the first fault, and what is entered -/
/-- the first fault: reason (0 none), position, how many comments ahead -/
def scan (why : Nat → Nat → Nat) (nx : Nat → Nat) (L n k p : Nat) : Nat × Nat × Nat := match n with
  | 0 => (0, p, k)
  | n + 1 => if L ≤ p then (0, p, k) else if why k p = 0 then scan why nx L n (k + 1) (nx p) else (why k p, p, k)
def posK (nx : Nat → Nat) (k : Nat) : Nat := match k with
  | 0 => 0
  | k + 1 => nx (posK nx k)
theorem scan_no {why : Nat → Nat → Nat} {nx : Nat → Nat} {L : Nat} (hw : ∀ k p, why k p = 0 → p + 5 ≤ nx p) : ∀ n k, (scan why nx L n k (posK nx k)).1 = 0 → L < posK nx k + 5 * n → ∃ q, k ≤ q ∧ scan why nx L n k (posK nx k) = (0, posK nx q, q) ∧ L ≤ posK nx q ∧ ∀ i, k ≤ i → i < q → posK nx i < L ∧ why i (posK nx i) = 0 := by
  intro n
  induction n with
  | zero => intro k _ h; exact ⟨k, Nat.le_refl k, rfl, by omega, fun i h1 h2 => absurd h2 (by omega)⟩
  | succ n ih =>
    intro k h hL
    simp only [scan] at h ⊢
    by_cases h1 : L ≤ posK nx k
    · rw [if_pos h1]
      exact ⟨k, Nat.le_refl k, rfl, h1, fun i h2 h3 => absurd h3 (by omega)⟩
    · rw [if_neg h1] at h ⊢
      by_cases h2 : why k (posK nx k) = 0
      · rw [if_pos h2] at h ⊢
        have h5 := hw k (posK nx k) h2
        have e : nx (posK nx k) = posK nx (k + 1) := rfl
        rw [e] at h h5 ⊢
        obtain ⟨q, q1, q2, q3, q4⟩ := ih (k + 1) h (by omega)
        refine ⟨q, by omega, q2, q3, fun i h6 h7 => ?_⟩
        by_cases ei : i = k
        · subst ei; exact ⟨by omega, h2⟩
        · exact q4 i (by omega) h7
      · rw [if_neg h2] at h
        exact absurd h h2
/-- the reason of a fault of the k-th comment, at p -/
def whyB (nb pr : Nat → Int32) (ch : Nat → Nat) (L nc nk k p : Nat) : Nat := if pOk ch L p = false then 1 else match fndTo nc (fun q => decide (nb q = nI (pCl ch L p))) with
  | none => 2
  | some q => if pr q = nI (pVal ch L p) then 3 else if 30 ≤ nk + k then 4 else 0
theorem whyB_5 {nb pr : Nat → Int32} {ch : Nat → Nat} {L nc nk : Nat} : ∀ k p, whyB nb pr ch L nc nk k p = 0 → p + 5 ≤ pNx ch L p := by
  intro k p h
  cases hp : pOk ch L p with
  | true => exact (pNx_in hp).1
  | false => simp [whyB, hp] at h
abbrev scanX (M : gM) (ch : Nat → Nat) (L nc nk : Nat) : Nat × Nat × Nat := scan (whyB (M 8) (M 9) ch L nc nk) (pNx ch L) L 17 0 0
theorem whyB_le {nb pr : Nat → Int32} {ch : Nat → Nat} {L nc nk k p : Nat} : whyB nb pr ch L nc nk k p ≤ 4 := by
  simp only [whyB]
  split
  · omega
  · split
    · omega
    · split
      · omega
      · split <;> omega
theorem scan_le {why : Nat → Nat → Nat} {nx : Nat → Nat} {L : Nat} (hw : ∀ k p, why k p ≤ 4) : ∀ n k p, (scan why nx L n k p).1 ≤ 4 := by
  intro n
  induction n with
  | zero => intro k p; exact Nat.zero_le _
  | succ n ih =>
    intro k p
    simp only [scan]
    split
    · exact Nat.zero_le _
    · split
      · exact ih _ _
      · exact hw _ _
section
variable {M : gM} {nm nc nk ne ol hs : Nat} {op br : Bool} {mb pl : Nat → Nat} {ch : Nat → Nat} {L : Nat}
theorem sm_q : ∀ q, q < 127 → ((nI q).toUInt32 % 65536).toInt32 = nI q ∧ vp_nar .char (nI q) = nI q := by decide +kernel
def x_type (M : gM) (L : Nat) (c : Int32) : Int32 × gM := if inI c (nI 32) (nI 126) = true then (if L = 80 then (-3, M) else (nI (L + 1), gset (gset M 129 (upd (M 129) L c)) 128 (upd (M 128) 1 (nI (L + 1))))) else (-1, M)
theorem c_X7_type (E : gE) (c : Int32) (hT : TxX M ch L) : gMet E k_X7_type [.ref 0, .int c] M (gInt fun r M' => (r, M') = x_type M L c) := by
  refine gMet.of (by decide +kernel) rfl (Nat.le_of_ble_eq_true rfl) (fun X hX hR => ?_)
  obtain ⟨hL, hb, -⟩ := hT
  cases hi : inI c (nI 32) (nI 126) with
  | false =>
    have e : x_type M L c = (-1, M) := by rw [x_type, if_neg (fun q => Bool.noConfusion (q.symm.trans hi))]
    rw [e]
    by_cases h0 : c < nI 32
    · skip
      refine g_iload_n (i := 1) hX dX7_type_0 rfl rfl rfl ?_
      refine g_bipush hX dX7_type_1 bc_32 rfl ?_
      refine g_icmp_lt (tgt := 12) hX dX7_type_3 (by decide) rfl (fun zc3 => ?_) (fun zc3 => absurd h0 zc3)
      refine g_iconst hX dX7_type_12 ic_m1 rfl ?_
      refine g_iret hX hR dX7_type_13 ?_
      rfl
    · have h2 : nI 126 < c := by
        rcases Int32.lt_or_le (nI 126) c with q | q
        · exact q
        · rw [inI_1 h0 (Int32.not_lt.mpr q)] at hi; cases hi
      refine g_iload_n (i := 1) hX dX7_type_0 rfl rfl rfl ?_
      refine g_bipush hX dX7_type_1 bc_32 rfl ?_
      refine g_icmp_lt (tgt := 12) hX dX7_type_3 (by decide) rfl (fun zc3 => absurd zc3 (h0)) (fun zc3 => ?_)
      refine g_iload_n (i := 1) hX dX7_type_6 rfl rfl rfl ?_
      refine g_bipush hX dX7_type_7 bc_126 rfl ?_
      refine g_icmp_le (tgt := 14) hX dX7_type_9 (by decide) rfl (fun zc9 => absurd zc9 (Int32.not_le.mpr h2)) (fun zc9 => ?_)
      refine g_iconst hX dX7_type_12 ic_m1 rfl ?_
      refine g_iret hX hR dX7_type_13 ?_
      rfl
  | true =>
    obtain ⟨z, hz1, hz, rfl⟩ := inI_t (by decide) (by decide) hi
    obtain ⟨s1, s2⟩ := sm_q z (by omega)
    refine g_iload_n (i := 1) hX dX7_type_0 rfl rfl rfl ?_
    refine g_bipush hX dX7_type_1 bc_32 rfl ?_
    first | refine g_icmp_ltN (tgt := 12) hX dX7_type_3 (by decide) rfl (by omega) (by omega) (fun zc3 => absurd zc3 (by omega)) (fun zc3 => ?_) | refine g_icmp_lt (tgt := 12) hX dX7_type_3 (by decide) rfl (fun zc3 => absurd zc3 (by omega)) (fun zc3 => ?_)
    refine g_iload_n (i := 1) hX dX7_type_6 rfl rfl rfl ?_
    refine g_bipush hX dX7_type_7 bc_126 rfl ?_
    first | refine g_icmp_leN (tgt := 14) hX dX7_type_9 (by decide) rfl (by omega) (by omega) (fun zc9 => ?_) (fun zc9 => absurd zc9 (by omega)) | refine g_icmp_le (tgt := 14) hX dX7_type_9 (by decide) rfl (fun zc9 => ?_) (fun zc9 => absurd zc9 (by omega))
    refine g_aload_n (i := 0) hX dX7_type_14 rfl rfl rfl ?_
    refine g_getR hX fl_X7_26 rfl rfl dX7_type_15 rfl ?_
    refine g_getIv (x := nI L) hX fl_X7_149 rfl rfl (hL) dX7_type_18 rfl ?_
    refine g_bipush hX dX7_type_21 bc_80 rfl ?_
    first | refine g_icmp_ltN (tgt := 29) hX dX7_type_23 (by decide) rfl (by omega) (by omega) (fun zc23 => ?_) (fun zc23 => ?_) | refine g_icmp_lt (tgt := 29) hX dX7_type_23 (by decide) rfl (fun zc23 => ?_) (fun zc23 => ?_)
    · skip
      refine g_aload_n (i := 0) hX dX7_type_29 rfl rfl rfl ?_
      refine g_getR hX fl_X7_26 rfl rfl dX7_type_30 rfl ?_
      refine g_iload_n (i := 1) hX dX7_type_33 rfl rfl rfl ?_
      refine g_i2c hX dX7_type_34 rfl ?_
      rw [s1]
      refine g_callVv hX (c_X6_append E M L (nI z) hL (by omega)) kf_X6_append rfl wk_X7_246 rfl rfl rfl rfl rfl dX7_type_35 rfl (fun M35 h35 => ?_)
      subst h35
      refine g_aload_n (i := 0) hX dX7_type_38 rfl rfl rfl ?_
      refine g_getR hX fl_X7_26 rfl rfl dX7_type_39 rfl ?_
      refine g_getIv (x := nI (L + 1)) hX fl_X7_149 rfl rfl (rfl) dX7_type_42 rfl ?_
      refine g_iret hX hR dX7_type_45 ?_
      rw [x_type, if_pos hi, if_neg (by omega), s2]
    · skip
      refine g_bipush hX dX7_type_26 bc_m3 rfl ?_
      refine g_iret hX hR dX7_type_28 ?_
      rw [x_type, if_pos hi, if_pos (by omega)]
def ffX (M M' : gM) (ch : Nat → Nat) (L nc nk : Nat) (r : Int32) : Prop := r = nI (scanX M ch L nc nk).1 ∧ (∀ a, a ≠ 128 → M' a = M a) ∧ M' 128 1 = M 128 1 ∧ ((scanX M ch L nc nk).1 ≠ 0 → M' 128 2 = nI (scanX M ch L nc nk).2.1)
theorem WS.fr {M' : gM} (h : WS M nm nc nk ne op br mb pl) (hM : ∀ a, a < 26 → M' a = M a) : WS M' nm nc nk ne op br mb pl := by
  simp only [WS, hM 2 (by decide), hM 7 (by decide), hM 16 (by decide), hM 14 (by decide), hM 17 (by decide), hM 18 (by decide)]
  exact h
theorem c_X7_firstFault (E : gE) (hW : WS M nm nc nk ne op br mb pl) (hT : TxX M ch L) : gMet E k_X7_firstFault [.ref 0] M (gInt fun r M' => ffX M M' ch L nc nk r) := by
  refine gMet.of (by decide +kernel) rfl (Nat.le_of_ble_eq_true rfl) (fun X hX hR => ?_)
  obtain ⟨⟨hm, hmb⟩, ⟨hc, hcb⟩, ⟨hk, hkb⟩, ⟨he, he1, he2⟩, ⟨hop, hbr⟩, hcm⟩ := id hW
  have hL8 := hT.2.1
  have loop : ∀ n k p M1 b, (∀ a, a ≠ 128 → M1 a = M a) → M1 128 1 = M 128 1 → M1 128 3 = nI p → p ≤ L → 5 * k ≤ p → L < p + 5 * n → scan (whyB (M 8) (M 9) ch L nc nk) (pNx ch L) L n k p = scanX M ch L nc nk → gG X E M1 23 [some (.ref 0), some (.int (nI (30 - nk))), some (.int (nI k)), b] [] (gQ X E (gInt fun r M' => ffX M M' ch L nc nk r)) := by
    intro n
    induction n with
    | zero => intro k p M1 b _ _ _ _ _ h; omega
    | succ n ih =>
      intro k p M1 b g1 g2 g3 g4 g5 g6 g7
      have hT1 : TxX M1 ch L := hT.of g2 (g1 129 (by decide))
      have hL1 := hT1.1
      have m8 : M1 8 = M 8 := g1 8 (by decide)
      have m9 : M1 9 = M 9 := g1 9 (by decide)
      have hc1 : M1 7 6 = nI nc := by rw [g1 7 (by decide)]; exact hc
      rw [scan] at g7
      by_cases hLp : L ≤ p
      · rw [if_pos hLp] at g7
        refine g_iload_n (i := 2) hX dX7_firstFault_23 rfl rfl rfl ?_
        refine g_bipush hX dX7_firstFault_24 bc_80 rfl ?_
        first | refine g_icmp_geN (tgt := 113) hX dX7_firstFault_26 (by decide) rfl (by omega) (by omega) (fun zc26 => absurd zc26 (by omega)) (fun zc26 => ?_) | refine g_icmp_ge (tgt := 113) hX dX7_firstFault_26 (by decide) rfl (fun zc26 => absurd zc26 (by omega)) (fun zc26 => ?_)
        refine g_aload_n (i := 0) hX dX7_firstFault_29 rfl rfl rfl ?_
        refine g_getR hX fl_X7_26 rfl rfl dX7_firstFault_30 rfl ?_
        refine g_callVi hX (c_X6_isAtEnd E M1 L p hL1 hL8 g3 (by omega)) kf_X6_isAtEnd rfl wk_X7_269 rfl rfl rfl rfl rfl dX7_firstFault_33 rfl (fun x33 M33 h33 => ?_)
        obtain ⟨rfl, hMq⟩ := h33; have hMq := hMq.symm; subst hMq
        refine g_if_ne (tgt := 113) hX dX7_firstFault_36 (by decide) rfl (fun zc36 => ?_) (fun zc36 => absurd (show gB (decide (L ≤ p)) = 0 from zc36) (by rw [decide_eq_true hLp]; decide))
        refine g_iconst hX dX7_firstFault_113 ic_0 rfl ?_
        refine g_iret hX hR dX7_firstFault_114 ?_
        refine ⟨by rw [← g7], g1, g2, fun q => absurd (by rw [← g7]) q⟩
      · rw [if_neg hLp] at g7
        have s46 : ∀ (P : Prop) (M2 : gM), rdX M1 M2 ch L p → (rdX M1 M2 ch L p → P) → P := fun P M2 h f => f h
        cases hok : pOk ch L p with
        | false =>
          have hw : whyB (M 8) (M 9) ch L nc nk k p = 1 := by simp [whyB, hok]
          rw [hw, if_neg (by decide)] at g7
          refine g_iload_n (i := 2) hX dX7_firstFault_23 rfl rfl rfl ?_
          refine g_bipush hX dX7_firstFault_24 bc_80 rfl ?_
          first | refine g_icmp_geN (tgt := 113) hX dX7_firstFault_26 (by decide) rfl (by omega) (by omega) (fun zc26 => absurd zc26 (by omega)) (fun zc26 => ?_) | refine g_icmp_ge (tgt := 113) hX dX7_firstFault_26 (by decide) rfl (fun zc26 => absurd zc26 (by omega)) (fun zc26 => ?_)
          refine g_aload_n (i := 0) hX dX7_firstFault_29 rfl rfl rfl ?_
          refine g_getR hX fl_X7_26 rfl rfl dX7_firstFault_30 rfl ?_
          refine g_callVi hX (c_X6_isAtEnd E M1 L p hL1 hL8 g3 (by omega)) kf_X6_isAtEnd rfl wk_X7_269 rfl rfl rfl rfl rfl dX7_firstFault_33 rfl (fun x33 M33 h33 => ?_)
          obtain ⟨rfl, hMq⟩ := h33; have hMq := hMq.symm; subst hMq
          refine g_if_ne (tgt := 113) hX dX7_firstFault_36 (by decide) rfl (fun zc36 => absurd (show decide (L ≤ p) = true by cases h : decide (L ≤ p) with | true => rfl | false => rw [h] at zc36; exact absurd rfl zc36) (by simp [hLp])) (fun zc36 => ?_)
          refine g_aload_n (i := 0) hX dX7_firstFault_39 rfl rfl rfl ?_
          refine g_getR hX fl_X7_26 rfl rfl dX7_firstFault_40 rfl ?_
          refine g_callVi hX (c_X6_readComment E M1 ch L p hT1 g3 g4) kf_X6_readComment rfl wk_X7_258 rfl rfl rfl rfl rfl dX7_firstFault_43 rfl (fun x43 M43 h43 => ?_)
          obtain ⟨rfl, r1, r2, r3, r4⟩ := h43
          rw [hok]
          refine g_if_ne (tgt := 51) hX dX7_firstFault_46 (by decide) rfl (fun zc46 => absurd rfl zc46) (fun zc46 => ?_)
          refine g_iconst hX dX7_firstFault_49 ic_1 rfl ?_
          refine g_iret hX hR dX7_firstFault_50 ?_
          refine ⟨by rw [← g7], fun a ha => (r1 a ha).trans (g1 a ha), r2.trans g2, fun _ => by rw [← g7]; exact r3⟩
        | true =>
          obtain ⟨n1, n2⟩ := pNx_in hok
          cases hf : fndTo nc (fun q => decide (M 8 q = nI (pCl ch L p))) with
          | none =>
            have hw : whyB (M 8) (M 9) ch L nc nk k p = 2 := by simp [whyB, hok, hf]
            rw [hw, if_neg (by decide)] at g7
            refine g_iload_n (i := 2) hX dX7_firstFault_23 rfl rfl rfl ?_
            refine g_bipush hX dX7_firstFault_24 bc_80 rfl ?_
            first | refine g_icmp_geN (tgt := 113) hX dX7_firstFault_26 (by decide) rfl (by omega) (by omega) (fun zc26 => absurd zc26 (by omega)) (fun zc26 => ?_) | refine g_icmp_ge (tgt := 113) hX dX7_firstFault_26 (by decide) rfl (fun zc26 => absurd zc26 (by omega)) (fun zc26 => ?_)
            refine g_aload_n (i := 0) hX dX7_firstFault_29 rfl rfl rfl ?_
            refine g_getR hX fl_X7_26 rfl rfl dX7_firstFault_30 rfl ?_
            refine g_callVi hX (c_X6_isAtEnd E M1 L p hL1 hL8 g3 (by omega)) kf_X6_isAtEnd rfl wk_X7_269 rfl rfl rfl rfl rfl dX7_firstFault_33 rfl (fun x33 M33 h33 => ?_)
            obtain ⟨rfl, hMq⟩ := h33; have hMq := hMq.symm; subst hMq
            refine g_if_ne (tgt := 113) hX dX7_firstFault_36 (by decide) rfl (fun zc36 => absurd (show decide (L ≤ p) = true by cases h : decide (L ≤ p) with | true => rfl | false => rw [h] at zc36; exact absurd rfl zc36) (by simp [hLp])) (fun zc36 => ?_)
            refine g_aload_n (i := 0) hX dX7_firstFault_39 rfl rfl rfl ?_
            refine g_getR hX fl_X7_26 rfl rfl dX7_firstFault_40 rfl ?_
            refine g_callVi hX (c_X6_readComment E M1 ch L p hT1 g3 g4) kf_X6_readComment rfl wk_X7_258 rfl rfl rfl rfl rfl dX7_firstFault_43 rfl (fun x43 M43 h43 => ?_)
            obtain ⟨rfl, r1, r2, r3, r4⟩ := h43
            obtain ⟨r5, r6, r7, r8⟩ := r4 hok
            rw [hok]
            refine g_if_ne (tgt := 51) hX dX7_firstFault_46 (by decide) rfl (fun zc46 => ?_) (fun zc46 => absurd zc46 (by decide))
            refine g_aload_n (i := 0) hX dX7_firstFault_51 rfl rfl rfl ?_
            refine g_getR hX fl_X7_10 rfl rfl dX7_firstFault_52 rfl ?_
            refine g_getR hX fl_X7_61 rfl rfl dX7_firstFault_55 rfl ?_
            refine g_aload_n (i := 0) hX dX7_firstFault_58 rfl rfl rfl ?_
            refine g_getR hX fl_X7_26 rfl rfl dX7_firstFault_59 rfl ?_
            refine g_getIv (x := nI (pCl ch L p)) hX fl_X7_262 rfl rfl (r6) dX7_firstFault_62 rfl ?_
            refine g_callVi hX (c_X2_find E _ nc (nI (pCl ch L p)) (by rw [r1 7 (by decide)]; exact hc1) hcb) kf_X2_find rfl wk_X7_65 rfl rfl rfl rfl rfl dX7_firstFault_65 rfl (fun x65 M65 h65 => ?_)
            obtain ⟨hx, hm0⟩ := h65; have hm0 := hm0.symm; subst hm0; rw [r1 8 (by decide), m8, hf] at hx; subst hx
            refine g_istore_n (i := 3) hX dX7_firstFault_68 rfl (Nat.le_of_ble_eq_true rfl) rfl ?_
            refine g_iload_n (i := 3) hX dX7_firstFault_69 rfl rfl rfl ?_
            refine g_iconst hX dX7_firstFault_70 ic_m1 rfl ?_
            refine g_icmp_ne (tgt := 76) hX dX7_firstFault_71 (by decide) rfl (fun zc71 => absurd rfl zc71) (fun zc71 => ?_)
            refine g_iconst hX dX7_firstFault_74 ic_2 rfl ?_
            refine g_iret hX hR dX7_firstFault_75 ?_
            refine ⟨by rw [← g7], fun a ha => (r1 a ha).trans (g1 a ha), r2.trans g2, fun _ => by rw [← g7]; exact r3⟩
          | some q =>
            have hq := (fndTo_some hf).1
            by_cases hv : M 9 q = nI (pVal ch L p)
            · have hw : whyB (M 8) (M 9) ch L nc nk k p = 3 := by simp [whyB, hok, hf, hv]
              rw [hw, if_neg (by decide)] at g7
              refine g_iload_n (i := 2) hX dX7_firstFault_23 rfl rfl rfl ?_
              refine g_bipush hX dX7_firstFault_24 bc_80 rfl ?_
              first | refine g_icmp_geN (tgt := 113) hX dX7_firstFault_26 (by decide) rfl (by omega) (by omega) (fun zc26 => absurd zc26 (by omega)) (fun zc26 => ?_) | refine g_icmp_ge (tgt := 113) hX dX7_firstFault_26 (by decide) rfl (fun zc26 => absurd zc26 (by omega)) (fun zc26 => ?_)
              refine g_aload_n (i := 0) hX dX7_firstFault_29 rfl rfl rfl ?_
              refine g_getR hX fl_X7_26 rfl rfl dX7_firstFault_30 rfl ?_
              refine g_callVi hX (c_X6_isAtEnd E M1 L p hL1 hL8 g3 (by omega)) kf_X6_isAtEnd rfl wk_X7_269 rfl rfl rfl rfl rfl dX7_firstFault_33 rfl (fun x33 M33 h33 => ?_)
              obtain ⟨rfl, hMq⟩ := h33; have hMq := hMq.symm; subst hMq
              refine g_if_ne (tgt := 113) hX dX7_firstFault_36 (by decide) rfl (fun zc36 => absurd (show decide (L ≤ p) = true by cases h : decide (L ≤ p) with | true => rfl | false => rw [h] at zc36; exact absurd rfl zc36) (by simp [hLp])) (fun zc36 => ?_)
              refine g_aload_n (i := 0) hX dX7_firstFault_39 rfl rfl rfl ?_
              refine g_getR hX fl_X7_26 rfl rfl dX7_firstFault_40 rfl ?_
              refine g_callVi hX (c_X6_readComment E M1 ch L p hT1 g3 g4) kf_X6_readComment rfl wk_X7_258 rfl rfl rfl rfl rfl dX7_firstFault_43 rfl (fun x43 M43 h43 => ?_)
              obtain ⟨rfl, r1, r2, r3, r4⟩ := h43
              obtain ⟨r5, r6, r7, r8⟩ := r4 hok
              rw [hok]
              refine g_if_ne (tgt := 51) hX dX7_firstFault_46 (by decide) rfl (fun zc46 => ?_) (fun zc46 => absurd zc46 (by decide))
              refine g_aload_n (i := 0) hX dX7_firstFault_51 rfl rfl rfl ?_
              refine g_getR hX fl_X7_10 rfl rfl dX7_firstFault_52 rfl ?_
              refine g_getR hX fl_X7_61 rfl rfl dX7_firstFault_55 rfl ?_
              refine g_aload_n (i := 0) hX dX7_firstFault_58 rfl rfl rfl ?_
              refine g_getR hX fl_X7_26 rfl rfl dX7_firstFault_59 rfl ?_
              refine g_getIv (x := nI (pCl ch L p)) hX fl_X7_262 rfl rfl (r6) dX7_firstFault_62 rfl ?_
              refine g_callVi hX (c_X2_find E _ nc (nI (pCl ch L p)) (by rw [r1 7 (by decide)]; exact hc1) hcb) kf_X2_find rfl wk_X7_65 rfl rfl rfl rfl rfl dX7_firstFault_65 rfl (fun x65 M65 h65 => ?_)
              obtain ⟨hx, hm0⟩ := h65; have hm0 := hm0.symm; subst hm0; rw [r1 8 (by decide), m8, hf] at hx; subst hx
              refine g_istore_n (i := 3) hX dX7_firstFault_68 rfl (Nat.le_of_ble_eq_true rfl) rfl ?_
              refine g_iload_n (i := 3) hX dX7_firstFault_69 rfl rfl rfl ?_
              refine g_iconst hX dX7_firstFault_70 ic_m1 rfl ?_
              refine g_icmp_ne (tgt := 76) hX dX7_firstFault_71 (by decide) rfl (fun zc71 => ?_) (fun zc71 => absurd zc71 (nI_ne_m1 (by omega)))
              refine g_aload_n (i := 0) hX dX7_firstFault_76 rfl rfl rfl ?_
              refine g_getR hX fl_X7_10 rfl rfl dX7_firstFault_77 rfl ?_
              refine g_getR hX fl_X7_61 rfl rfl dX7_firstFault_80 rfl ?_
              refine g_getR hX fl_X7_115 rfl rfl dX7_firstFault_83 rfl ?_
              refine g_iload_n (i := 3) hX dX7_firstFault_86 rfl rfl rfl ?_
              refine g_ialdv (x := M 9 q) hX rfl ((rfl : _ = nI q)) (by omega) rfl ((by rw [r1 9 (by decide), m9])) dX7_firstFault_87 rfl ?_
              refine g_aload_n (i := 0) hX dX7_firstFault_88 rfl rfl rfl ?_
              refine g_getR hX fl_X7_26 rfl rfl dX7_firstFault_89 rfl ?_
              refine g_getIv (x := nI (pVal ch L p)) hX fl_X7_267 rfl rfl (r8) dX7_firstFault_92 rfl ?_
              refine g_icmp_ne (tgt := 100) hX dX7_firstFault_95 (by decide) rfl (fun zc95 => absurd hv zc95) (fun zc95 => ?_)
              refine g_iconst hX dX7_firstFault_98 ic_3 rfl ?_
              refine g_iret hX hR dX7_firstFault_99 ?_
              refine ⟨by rw [← g7], fun a ha => (r1 a ha).trans (g1 a ha), r2.trans g2, fun _ => by rw [← g7]; exact r3⟩
            · by_cases h30 : 30 ≤ nk + k
              · have hw : whyB (M 8) (M 9) ch L nc nk k p = 4 := by simp [whyB, hok, hf, hv, h30]
                rw [hw, if_neg (by decide)] at g7
                refine g_iload_n (i := 2) hX dX7_firstFault_23 rfl rfl rfl ?_
                refine g_bipush hX dX7_firstFault_24 bc_80 rfl ?_
                first | refine g_icmp_geN (tgt := 113) hX dX7_firstFault_26 (by decide) rfl (by omega) (by omega) (fun zc26 => absurd zc26 (by omega)) (fun zc26 => ?_) | refine g_icmp_ge (tgt := 113) hX dX7_firstFault_26 (by decide) rfl (fun zc26 => absurd zc26 (by omega)) (fun zc26 => ?_)
                refine g_aload_n (i := 0) hX dX7_firstFault_29 rfl rfl rfl ?_
                refine g_getR hX fl_X7_26 rfl rfl dX7_firstFault_30 rfl ?_
                refine g_callVi hX (c_X6_isAtEnd E M1 L p hL1 hL8 g3 (by omega)) kf_X6_isAtEnd rfl wk_X7_269 rfl rfl rfl rfl rfl dX7_firstFault_33 rfl (fun x33 M33 h33 => ?_)
                obtain ⟨rfl, hMq⟩ := h33; have hMq := hMq.symm; subst hMq
                refine g_if_ne (tgt := 113) hX dX7_firstFault_36 (by decide) rfl (fun zc36 => absurd (show decide (L ≤ p) = true by cases h : decide (L ≤ p) with | true => rfl | false => rw [h] at zc36; exact absurd rfl zc36) (by simp [hLp])) (fun zc36 => ?_)
                refine g_aload_n (i := 0) hX dX7_firstFault_39 rfl rfl rfl ?_
                refine g_getR hX fl_X7_26 rfl rfl dX7_firstFault_40 rfl ?_
                refine g_callVi hX (c_X6_readComment E M1 ch L p hT1 g3 g4) kf_X6_readComment rfl wk_X7_258 rfl rfl rfl rfl rfl dX7_firstFault_43 rfl (fun x43 M43 h43 => ?_)
                obtain ⟨rfl, r1, r2, r3, r4⟩ := h43
                obtain ⟨r5, r6, r7, r8⟩ := r4 hok
                rw [hok]
                refine g_if_ne (tgt := 51) hX dX7_firstFault_46 (by decide) rfl (fun zc46 => ?_) (fun zc46 => absurd zc46 (by decide))
                refine g_aload_n (i := 0) hX dX7_firstFault_51 rfl rfl rfl ?_
                refine g_getR hX fl_X7_10 rfl rfl dX7_firstFault_52 rfl ?_
                refine g_getR hX fl_X7_61 rfl rfl dX7_firstFault_55 rfl ?_
                refine g_aload_n (i := 0) hX dX7_firstFault_58 rfl rfl rfl ?_
                refine g_getR hX fl_X7_26 rfl rfl dX7_firstFault_59 rfl ?_
                refine g_getIv (x := nI (pCl ch L p)) hX fl_X7_262 rfl rfl (r6) dX7_firstFault_62 rfl ?_
                refine g_callVi hX (c_X2_find E _ nc (nI (pCl ch L p)) (by rw [r1 7 (by decide)]; exact hc1) hcb) kf_X2_find rfl wk_X7_65 rfl rfl rfl rfl rfl dX7_firstFault_65 rfl (fun x65 M65 h65 => ?_)
                obtain ⟨hx, hm0⟩ := h65; have hm0 := hm0.symm; subst hm0; rw [r1 8 (by decide), m8, hf] at hx; subst hx
                refine g_istore_n (i := 3) hX dX7_firstFault_68 rfl (Nat.le_of_ble_eq_true rfl) rfl ?_
                refine g_iload_n (i := 3) hX dX7_firstFault_69 rfl rfl rfl ?_
                refine g_iconst hX dX7_firstFault_70 ic_m1 rfl ?_
                refine g_icmp_ne (tgt := 76) hX dX7_firstFault_71 (by decide) rfl (fun zc71 => ?_) (fun zc71 => absurd zc71 (nI_ne_m1 (by omega)))
                refine g_aload_n (i := 0) hX dX7_firstFault_76 rfl rfl rfl ?_
                refine g_getR hX fl_X7_10 rfl rfl dX7_firstFault_77 rfl ?_
                refine g_getR hX fl_X7_61 rfl rfl dX7_firstFault_80 rfl ?_
                refine g_getR hX fl_X7_115 rfl rfl dX7_firstFault_83 rfl ?_
                refine g_iload_n (i := 3) hX dX7_firstFault_86 rfl rfl rfl ?_
                refine g_ialdv (x := M 9 q) hX rfl ((rfl : _ = nI q)) (by omega) rfl ((by rw [r1 9 (by decide), m9])) dX7_firstFault_87 rfl ?_
                refine g_aload_n (i := 0) hX dX7_firstFault_88 rfl rfl rfl ?_
                refine g_getR hX fl_X7_26 rfl rfl dX7_firstFault_89 rfl ?_
                refine g_getIv (x := nI (pVal ch L p)) hX fl_X7_267 rfl rfl (r8) dX7_firstFault_92 rfl ?_
                refine g_icmp_ne (tgt := 100) hX dX7_firstFault_95 (by decide) rfl (fun zc95 => ?_) (fun zc95 => absurd zc95 hv)
                refine g_iload_n (i := 2) hX dX7_firstFault_100 rfl rfl rfl ?_
                refine g_iload_n (i := 1) hX dX7_firstFault_101 rfl rfl rfl ?_
                first | refine g_icmp_ltN (tgt := 107) hX dX7_firstFault_102 (by decide) rfl (by omega) (by omega) (fun zc102 => absurd zc102 (by omega)) (fun zc102 => ?_) | refine g_icmp_lt (tgt := 107) hX dX7_firstFault_102 (by decide) rfl (fun zc102 => absurd zc102 (by omega)) (fun zc102 => ?_)
                refine g_iconst hX dX7_firstFault_105 ic_4 rfl ?_
                refine g_iret hX hR dX7_firstFault_106 ?_
                refine ⟨by rw [← g7], fun a ha => (r1 a ha).trans (g1 a ha), r2.trans g2, fun _ => by rw [← g7]; exact r3⟩
              · have hw : whyB (M 8) (M 9) ch L nc nk k p = 0 := by simp [whyB, hok, hf, hv, h30]
                rw [hw, if_pos rfl] at g7
                refine g_iload_n (i := 2) hX dX7_firstFault_23 rfl rfl rfl ?_
                refine g_bipush hX dX7_firstFault_24 bc_80 rfl ?_
                first | refine g_icmp_geN (tgt := 113) hX dX7_firstFault_26 (by decide) rfl (by omega) (by omega) (fun zc26 => absurd zc26 (by omega)) (fun zc26 => ?_) | refine g_icmp_ge (tgt := 113) hX dX7_firstFault_26 (by decide) rfl (fun zc26 => absurd zc26 (by omega)) (fun zc26 => ?_)
                refine g_aload_n (i := 0) hX dX7_firstFault_29 rfl rfl rfl ?_
                refine g_getR hX fl_X7_26 rfl rfl dX7_firstFault_30 rfl ?_
                refine g_callVi hX (c_X6_isAtEnd E M1 L p hL1 hL8 g3 (by omega)) kf_X6_isAtEnd rfl wk_X7_269 rfl rfl rfl rfl rfl dX7_firstFault_33 rfl (fun x33 M33 h33 => ?_)
                obtain ⟨rfl, hMq⟩ := h33; have hMq := hMq.symm; subst hMq
                refine g_if_ne (tgt := 113) hX dX7_firstFault_36 (by decide) rfl (fun zc36 => absurd (show decide (L ≤ p) = true by cases h : decide (L ≤ p) with | true => rfl | false => rw [h] at zc36; exact absurd rfl zc36) (by simp [hLp])) (fun zc36 => ?_)
                refine g_aload_n (i := 0) hX dX7_firstFault_39 rfl rfl rfl ?_
                refine g_getR hX fl_X7_26 rfl rfl dX7_firstFault_40 rfl ?_
                refine g_callVi hX (c_X6_readComment E M1 ch L p hT1 g3 g4) kf_X6_readComment rfl wk_X7_258 rfl rfl rfl rfl rfl dX7_firstFault_43 rfl (fun x43 M43 h43 => ?_)
                obtain ⟨rfl, r1, r2, r3, r4⟩ := h43
                obtain ⟨r5, r6, r7, r8⟩ := r4 hok
                rw [hok]
                refine g_if_ne (tgt := 51) hX dX7_firstFault_46 (by decide) rfl (fun zc46 => ?_) (fun zc46 => absurd zc46 (by decide))
                refine g_aload_n (i := 0) hX dX7_firstFault_51 rfl rfl rfl ?_
                refine g_getR hX fl_X7_10 rfl rfl dX7_firstFault_52 rfl ?_
                refine g_getR hX fl_X7_61 rfl rfl dX7_firstFault_55 rfl ?_
                refine g_aload_n (i := 0) hX dX7_firstFault_58 rfl rfl rfl ?_
                refine g_getR hX fl_X7_26 rfl rfl dX7_firstFault_59 rfl ?_
                refine g_getIv (x := nI (pCl ch L p)) hX fl_X7_262 rfl rfl (r6) dX7_firstFault_62 rfl ?_
                refine g_callVi hX (c_X2_find E _ nc (nI (pCl ch L p)) (by rw [r1 7 (by decide)]; exact hc1) hcb) kf_X2_find rfl wk_X7_65 rfl rfl rfl rfl rfl dX7_firstFault_65 rfl (fun x65 M65 h65 => ?_)
                obtain ⟨hx, hm0⟩ := h65; have hm0 := hm0.symm; subst hm0; rw [r1 8 (by decide), m8, hf] at hx; subst hx
                refine g_istore_n (i := 3) hX dX7_firstFault_68 rfl (Nat.le_of_ble_eq_true rfl) rfl ?_
                refine g_iload_n (i := 3) hX dX7_firstFault_69 rfl rfl rfl ?_
                refine g_iconst hX dX7_firstFault_70 ic_m1 rfl ?_
                refine g_icmp_ne (tgt := 76) hX dX7_firstFault_71 (by decide) rfl (fun zc71 => ?_) (fun zc71 => absurd zc71 (nI_ne_m1 (by omega)))
                refine g_aload_n (i := 0) hX dX7_firstFault_76 rfl rfl rfl ?_
                refine g_getR hX fl_X7_10 rfl rfl dX7_firstFault_77 rfl ?_
                refine g_getR hX fl_X7_61 rfl rfl dX7_firstFault_80 rfl ?_
                refine g_getR hX fl_X7_115 rfl rfl dX7_firstFault_83 rfl ?_
                refine g_iload_n (i := 3) hX dX7_firstFault_86 rfl rfl rfl ?_
                refine g_ialdv (x := M 9 q) hX rfl ((rfl : _ = nI q)) (by omega) rfl ((by rw [r1 9 (by decide), m9])) dX7_firstFault_87 rfl ?_
                refine g_aload_n (i := 0) hX dX7_firstFault_88 rfl rfl rfl ?_
                refine g_getR hX fl_X7_26 rfl rfl dX7_firstFault_89 rfl ?_
                refine g_getIv (x := nI (pVal ch L p)) hX fl_X7_267 rfl rfl (r8) dX7_firstFault_92 rfl ?_
                refine g_icmp_ne (tgt := 100) hX dX7_firstFault_95 (by decide) rfl (fun zc95 => ?_) (fun zc95 => absurd zc95 hv)
                refine g_iload_n (i := 2) hX dX7_firstFault_100 rfl rfl rfl ?_
                refine g_iload_n (i := 1) hX dX7_firstFault_101 rfl rfl rfl ?_
                first | refine g_icmp_ltN (tgt := 107) hX dX7_firstFault_102 (by decide) rfl (by omega) (by omega) (fun zc102 => ?_) (fun zc102 => absurd zc102 (by omega)) | refine g_icmp_lt (tgt := 107) hX dX7_firstFault_102 (by decide) rfl (fun zc102 => ?_) (fun zc102 => absurd zc102 (by omega))
                first | refine g_iincN hX dX7_firstFault_107 ic_1 rfl (Nat.le_of_ble_eq_true rfl) rfl ?_ | refine g_iinc hX dX7_firstFault_107 ic_1 rfl rfl (Nat.le_of_ble_eq_true rfl) rfl ?_
                refine g_goto (n := 23) hX dX7_firstFault_110 (by decide) ?_
                exact ih (k + 1) (pNx ch L p) _ _ (fun a ha => (r1 a ha).trans (g1 a ha)) (r2.trans g2) r5 n2 (by omega) (by omega) g7
  refine g_bipush hX dX7_firstFault_0 bc_30 rfl ?_
  refine g_aload_n (i := 0) hX dX7_firstFault_2 rfl rfl rfl ?_
  refine g_getR hX fl_X7_10 rfl rfl dX7_firstFault_3 rfl ?_
  refine g_getR hX fl_X7_103 rfl rfl dX7_firstFault_6 rfl ?_
  refine g_getIv (x := nI nk) hX fl_X7_140 rfl rfl (hk) dX7_firstFault_9 rfl ?_
  refine g_isubN hX dX7_firstFault_12 (by omega) rfl ?_
  refine g_istore_n (i := 1) hX dX7_firstFault_13 rfl (Nat.le_of_ble_eq_true rfl) rfl ?_
  refine g_aload_n (i := 0) hX dX7_firstFault_14 rfl rfl rfl ?_
  refine g_getR hX fl_X7_26 rfl rfl dX7_firstFault_15 rfl ?_
  refine g_callVv hX (c_X6_rewind E M) kf_X6_rewind rfl wk_X7_255 rfl rfl rfl rfl rfl dX7_firstFault_18 rfl (fun M18 h18 => ?_)
  subst h18
  refine g_iconst hX dX7_firstFault_21 ic_0 rfl ?_
  refine g_istore_n (i := 2) hX dX7_firstFault_22 rfl (Nat.le_of_ble_eq_true rfl) rfl ?_
  exact loop 17 0 0 _ _ (fun a ha => by simp only [gset, if_neg ha]) rfl rfl (by omega) (by omega) (by omega) rfl
end

