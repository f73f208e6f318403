/-! what a changing call comes to -/
def Kp (M M' : gM) (ol hs : Nat) : Prop := ∀ a, 26 ≤ a → M' a = m_keep M ol hs a
def JE (M : gM) : Prop := ∃ (nm nc nk ne nb td : Nat) (op br : Bool) (mb pl : Nat → Nat), J M nm nc nk ne nb td op br mb pl
def Out (M M' : gM) (ol hs : Nat) (r : Int32) : Prop := (-4 ≤ r ∧ r < 0 ∧ M' = M) ∨ (0 ≤ r ∧ JE M' ∧ Kp M M' ol hs)
def olK (ol hs : Nat) : Nat := if hs < 4 then ol else (ol + 1) % 4
def hsK (hs : Nat) : Nat := if hs < 4 then hs + 1 else 4
section
variable {E : gE} {M M' : gM} {nm nc nk ne nb td ol hs : Nat} {op br : Bool} {mb pl ch : Nat → Nat}
theorem keep_126 {j : Nat} : m_keep M ol hs 126 j = if hs < 4 then upd (M 126) 2 (nI (hs + 1)) j else upd (M 126) 1 (nI ((ol + 1) % 4)) j := by
  have hb : (ol + hs) % 4 < 4 := Nat.mod_lt _ (by decide)
  simp only [m_keep]
  split <;> rw [gset_eq]
theorem keep_his {i : Nat} (hi : i < 25) : m_keep M ol hs (hisB ((ol + hs) % 4) + i) = M (1 + i) := by
  have hb : (ol + hs) % 4 < 4 := Nat.mod_lt _ (by decide)
  simp only [m_keep]
  split <;> rw [gset_ne _ _ (by simp only [hisB]; omega), cpS_eq hi]
theorem keep_e25 : Eq25 (m_keep M ol hs) M := fun a _ ha => keep_ne (Or.inl (by omega))
theorem kp_WH (k : Kp M M' ol hs) (h : WH M ol hs) : WH M' (olK ol hs) (hsK hs) := by
  obtain ⟨h1, h2, h3, h4⟩ := h
  have e : ∀ j, M' 126 j = m_keep M ol hs 126 j := fun j => by rw [k 126 (by decide)]
  refine ⟨?_, ?_, ?_, ?_⟩
  · rw [e, keep_126, olK]
    split
    · rw [upd_n _ _ (by decide)]; exact h1
    · exact upd_s _ _ _
  · unfold olK; split
    · exact h2
    · exact Nat.mod_lt _ (by decide)
  · rw [e, keep_126, hsK]
    split
    · exact upd_s _ _ _
    · next c => rw [upd_n _ _ (by decide), h3, show hs = 4 by omega]
  · unfold hsK; split <;> omega
theorem kp_at (h4 : hs ≤ 4) (ho : ol < 4) : (olK ol hs + (hsK hs - 1)) % 4 = (ol + hs) % 4 := by
  unfold olK hsK
  split
  · rfl
  · rw [show hs = 4 by omega]; omega
theorem hsK_pos : 0 < hsK hs := by unfold hsK; split <;> omega
theorem hsK_le (h : hs ≤ 4) : hsK hs ≤ 4 := by unfold hsK; split <;> omega
theorem kp_his (k : Kp M M' ol hs) {i : Nat} (hi : i < 25) : M' (hisB ((ol + hs) % 4) + i) = M (1 + i) := by
  rw [k _ (by simp only [hisB]; omega)]; exact keep_his hi
/-- undone after one change -/
theorem kp_undo_c (k : Kp M M' ol hs) (h : WH M ol hs) (hW : WS M nm nc nk ne op br mb pl) : gMet E k_X7_undo [.ref 0] M' (gInt fun r M2 => (r, M2) = x_undo M' (olK ol hs) (hsK hs)) := by
  have hat := kp_at h.2.2.2 h.2.1
  exact c_X7_undo E (kp_WH k h) (fun _ => by
    rw [hat, kp_his k (by decide)]
    show (M 14 1 = 0 ∨ M 14 1 = 1) ∧ (M 14 2 = 0 ∨ M 14 2 = 1)
    rw [hW.2.2.2.2.1.1, hW.2.2.2.2.1.2]
    exact ⟨gB_01 _, gB_01 _⟩)
theorem kp_undo_r (k : Kp M M' ol hs) (h : WH M ol hs) {r : Int32} {M2 : gM} (z : (r, M2) = x_undo M' (olK ol hs) (hsK hs)) : r = nI (hsK hs - 1) ∧ Eq25 M2 M ∧ WH M2 (olK ol hs) (hsK hs - 1) ∧ M2 128 = M 128 ∧ M2 129 = M 129 := by
  have hH := kp_WH k h
  have hat := kp_at h.2.2.2 h.2.1
  have hp := hsK_pos (hs := hs)
  have e : x_undo M' (olK ol hs) (hsK hs) = (nI (hsK hs - 1), m_rest M' (olK ol hs) (hsK hs)) := if_neg (by omega)
  rw [e] at z
  obtain ⟨rfl, rfl⟩ := prE z
  have hb : (ol + hs) % 4 < 4 := Nat.mod_lt _ (by decide)
  refine ⟨rfl, fun a h1 h2 => ?_, ?_, ?_, ?_⟩
  · obtain ⟨i, rfl⟩ : ∃ i, a = 1 + i := ⟨a - 1, by omega⟩
    show m_rest M' (olK ol hs) (hsK hs) (1 + i) = M (1 + i)
    rw [m_rest, cpS_eq (by omega), hat, gset_ne _ _ (by simp only [hisB]; omega)]
    exact kp_his k (by omega)
  · obtain ⟨g1, g2, g3, g4⟩ := hH
    have e126 : m_rest M' (olK ol hs) (hsK hs) 126 = upd (M' 126) 2 (nI (hsK hs - 1)) := by
      rw [m_rest, cpS_ne (by omega), gset_eq]
    refine ⟨?_, g2, ?_, by omega⟩
    · show m_rest M' (olK ol hs) (hsK hs) 126 1 = _
      rw [e126, upd_n _ _ (by decide)]; exact g1
    · show m_rest M' (olK ol hs) (hsK hs) 126 2 = _
      rw [e126]; exact upd_s _ _ _
  · show m_rest M' (olK ol hs) (hsK hs) 128 = _
    rw [m_rest, cpS_ne (by omega), gset_ne _ _ (by decide), k 128 (by decide), keep_ne (by omega)]
  · show m_rest M' (olK ol hs) (hsK hs) 129 = _
    rw [m_rest, cpS_ne (by omega), gset_ne _ _ (by decide), k 129 (by decide), keep_ne (by omega)]
theorem prE2 {r a : Int32} {M' b : gM} (h : (r, M') = (a, b)) : r = a ∧ M' = b := ⟨congrArg Prod.fst h, congrArg Prod.snd h⟩
theorem Out.err {r : Int32} (z : (r, M') = (r, M)) (h1 : -4 ≤ r) (h2 : r < 0) : Out M M' ol hs r := Or.inl ⟨h1, h2, (prE z).2⟩
theorem out_member (h : J M nm nc nk ne nb td op br mb pl) {w r : Int32} (z : (r, M') = x_addMember M nm ol hs w) : Out M M' ol hs r := by
  rw [x_addMember] at z
  split at z
  · obtain ⟨rfl, rfl⟩ := prE2 z; exact Or.inl ⟨by decide, by decide, rfl⟩
  · next c =>
    split at z
    · obtain ⟨rfl, rfl⟩ := prE2 z; exact Or.inl ⟨by decide, by decide, rfl⟩
    · next c2 =>
      obtain ⟨rfl, rfl⟩ := prE2 z
      have hm := h.ws.1.2
      refine Or.inr ⟨nI_pos' (by omega), ⟨_, _, _, _, _, _, _, _, _, _, (h.congr keep_e25).member (by omega) (by simpa using c)⟩, fun a ha => ?_⟩
      show m_member (m_keep M ol hs) nm w a = _
      simp only [m_member]
      rw [gset_ne _ _ (by omega), gset_ne _ _ (by omega), gset_ne _ _ (by omega), gset_ne _ _ (by omega), gset_ne _ _ (by omega)]
theorem out_clause (h : J M nm nc nk ne nb td op br mb pl) {c v r : Int32} (z : x_addClause M nc ol hs c v r M') : Out M M' ol hs r := by
  rw [x_addClause] at z
  split at z
  · obtain ⟨rfl, rfl⟩ := z; exact Or.inl ⟨by decide, by decide, rfl⟩
  · next c1 =>
    split at z
    · obtain ⟨rfl, rfl⟩ := z; exact Or.inl ⟨by decide, by decide, rfl⟩
    · next c2 =>
      split at z
      · obtain ⟨rfl, rfl⟩ := z; exact Or.inl ⟨by decide, by decide, rfl⟩
      · next c3 =>
        obtain ⟨rfl, p, hp, rfl⟩ := z
        have hc := h.ws.2.1.2
        have hb := h.hb
        have htd := h.ht.2
        have h0 : nb = 0 := by
          rcases Nat.eq_zero_or_pos nb with q | q
          · exact q
          · exfalso
            have hnb : nb ≤ 10060 := by
              cases ho : op with
              | false => have := h.hn ho; omega
              | true => obtain ⟨-, -, -, en, -, -, h3, h4⟩ := h.ho ho; omega
            exact c2 (Or.inl (by rw [hb]; exact nI_lt q (by omega)))
        have hf : fndTo nc (fun k => decide (M 8 k = c)) = none := by
          cases q : fndTo nc (fun k => decide (M 8 k = c)) with
          | none => rfl
          | some k => exact absurd (Or.inr (by rw [q]; simp)) c2
        have g1 : inI c (nI 1) (nI 99) = true := by
          cases q : inI c (nI 1) (nI 99) with
          | true => rfl
          | false => exact absurd (Or.inl q) c1
        have g2 : inI v (nI 0) (nI 9999) = true := by
          cases q : inI v (nI 0) (nI 9999) with
          | true => rfl
          | false => exact absurd (Or.inr q) c1
        have k8 : m_keep M ol hs 8 = M 8 := keep_ne (Or.inl (by decide))
        refine Or.inr ⟨nI_pos' (by omega), ⟨_, _, _, _, _, _, _, _, _, _, (h.congr keep_e25).clause (by omega) h0 g1 g2 (by rw [k8]; exact hf) (by rw [k8]; exact hp)⟩, fun a ha => ?_⟩
        show m_insert (m_keep M ol hs) p nc c v a = _
        simp only [m_insert]
        rw [gset_ne _ _ (by omega), gset_ne _ _ (by omega), gset_ne _ _ (by omega), gset_ne _ _ (by omega)]
theorem set_pos {j : Nat} {v : Int32} (h : setOK j v = true) : 0 ≤ v := by
  have h1 := (of_decide_eq_true h).1
  have h2 : (0 : Int32) ≤ gLe j := by
    unfold gLe
    split <;> decide
  exact Int32.le_trans h2 h1
theorem out_set (h : J M nm nc nk ne nb td op br mb pl) {w v r : Int32} (z : x_set M ol hs w v r M') : Out M M' ol hs r := by
  rcases z with ⟨j, hj, -, hv, rfl, rfl⟩ | ⟨-, rfl, rfl⟩
  · have k25 : m_keep M ol hs 25 = M 25 := keep_ne (Or.inl (by decide))
    refine Or.inr ⟨set_pos (h.st j hj), ⟨nm, nc, nk, ne, nb, td, op, br, mb, pl, ?_⟩, fun a ha => gset_ne _ _ (by omega)⟩
    have := (h.congr (keep_e25 (M := M) (ol := ol) (hs := hs))).set hv
    rw [k25] at this
    exact this
  · exact Or.inl ⟨by decide, by decide, rfl⟩
theorem nb_le (h : J M nm nc nk ne nb td op br mb pl) : nb ≤ 10060 := by
  have htd := h.ht.2
  cases ho : op with
  | false => have := h.hn ho; omega
  | true => obtain ⟨-, -, -, en, -, -, h3, h4⟩ := h.ho ho; omega
theorem out_opened (h : J M nm nc nk ne nb td op br mb pl) {r : Int32} (z : (r, M') = x_open M nc nk ne ol hs op) : Out M M' ol hs r := by
  rw [x_open] at z
  split at z
  · obtain ⟨rfl, rfl⟩ := prE2 z; exact Or.inl ⟨by decide, by decide, rfl⟩
  · next c =>
    split at z
    · obtain ⟨rfl, rfl⟩ := prE2 z; exact Or.inl ⟨by decide, by decide, rfl⟩
    · next c2 =>
      obtain ⟨rfl, rfl⟩ := prE2 z
      have hnb := nb_le h
      have he := h.ws.2.2.2.1.2.2
      have ho : op = false := by
        cases q : op with
        | false => rfl
        | true => exact absurd (Or.inl q) c
      have hp : cntTo nk (pendB (M 21)) = 0 := by
        rcases Nat.eq_zero_or_pos (cntTo nk (pendB (M 21))) with q | q
        · exact q
        · exact absurd (Or.inr (Or.inl q)) c
      have k21 : m_keep M ol hs 21 = M 21 := keep_ne (Or.inl (by decide))
      refine Or.inr ⟨by show 0 ≤ M 14 3 + 1; rw [h.hb, nI_1]; exact nI_pos' (by omega), ⟨_, _, _, _, _, _, _, _, _, _, (h.congr keep_e25).opened ho (by rw [k21]; exact hp) (by omega)⟩, fun a ha => ?_⟩
      show m_open (m_keep M ol hs) a = _
      simp only [m_open]
      rw [gset_ne _ _ (by omega), gset_ne _ _ (by omega), gset_ne _ _ (by omega), gset_ne _ _ (by omega)]
theorem out_vote (h : J M nm nc nk ne nb td op br mb pl) {m v r : Int32} (z : (r, M') = x_vote M nm ol hs op m v) : Out M M' ol hs r := by
  rw [x_vote] at z
  split at z
  · next c =>
    split at z
    · obtain ⟨rfl, rfl⟩ := prE2 z
      have hm := h.ws.1.2
      obtain ⟨v, rfl, -, v2⟩ := inI_n (by decide) (by decide) c.2
      have k5 : m_keep M ol hs 5 = M 5 := keep_ne (Or.inl (by decide))
      have hc := cntTo_le nm (fun k => decide (upd (M 5) m.toNatClampNeg (nI v) k ≠ -1))
      refine Or.inr ⟨nI_pos' (by omega), ⟨nm, nc, nk, ne, nb, td, op, br, mb, pl, ?_⟩, fun a ha => gset_ne _ _ (by omega)⟩
      have := (h.congr (keep_e25 (M := M) (ol := ol) (hs := hs))).vote (m := m.toNatClampNeg) v2
      rw [k5] at this
      exact this
    · obtain ⟨rfl, rfl⟩ := prE2 z; exact Or.inl ⟨by decide, by decide, rfl⟩
  · obtain ⟨rfl, rfl⟩ := prE2 z; exact Or.inl ⟨by decide, by decide, rfl⟩
theorem out_pass (h : J M nm nc nk ne nb td op br mb pl) {d r : Int32} (z : (r, M') = x_pass M nm nk ol hs op d) : Out M M' ol hs r := by
  rw [x_pass] at z
  have htd := h.ht
  have k1 : m_keep M ol hs 1 = M 1 := keep_ne (Or.inl (by decide))
  have k14 : m_keep M ol hs 14 = M 14 := keep_ne (Or.inl (by decide))
  have hK := h.congr (keep_e25 (M := M) (ol := ol) (hs := hs))
  split at z
  · next c =>
    obtain ⟨j, rfl, j1, j365⟩ := inI_n (by decide) (by decide) c
    rw [htd.1, nI_add] at z
    have emp : m_pass M ol hs (nI j) = gset (m_keep M ol hs) 1 (upd (m_keep M ol hs 1) 5 (nI (td + j))) := by
      rw [m_pass, k1, htd.1, nI_add]
    split at z
    · next c2 =>
      have h1 : td + j ≤ 10000 := (nI_leI (by omega) (by decide)).mp c2
      split at z
      · next c3 =>
        obtain ⟨e1, rfl⟩ := prE2 z
        obtain ⟨nk', hJ⟩ := hK.ended c3.1 h1 (by rw [k14]; exact c3.2)
        rw [← emp] at hJ
        have hr : 0 ≤ r := by
          rw [e1]; split <;> decide
        refine Or.inr ⟨hr, ⟨_, _, _, _, _, _, _, _, _, _, hJ⟩, fun a ha => ?_⟩
        show m_end (m_pass M ol hs (nI j)) nm nk a = _
        have hpass : m_pass M ol hs (nI j) a = m_keep M ol hs a := gset_ne _ _ (by omega)
        simp only [m_end, m_misses]
        split
        · rw [gset_ne _ _ (by omega), gset_ne _ _ (by omega), gset_ne _ _ (by omega), gset_ne _ _ (by omega), gset_ne _ _ (by omega)]; exact hpass
        · rw [gset_ne _ _ (by omega), gset_ne _ _ (by omega), gset_ne _ _ (by omega), gset_ne _ _ (by omega), gset_ne _ _ (by omega)]; exact hpass
      · next c3 =>
        obtain ⟨rfl, rfl⟩ := prE2 z
        refine Or.inr ⟨by decide, ⟨nm, nc, nk, ne, nb, td + j, op, br, mb, pl, ?_⟩, fun a ha => ?_⟩
        · show J (m_pass M ol hs (nI j)) _ _ _ _ _ _ _ _ _ _
          rw [emp]
          exact hK.passed h1 (fun q => by
            rw [k14]
            exact Decidable.of_not_not (fun w => c3 ⟨q, w⟩))
        · show m_pass M ol hs (nI j) a = _
          exact gset_ne _ _ (by omega)
    · obtain ⟨rfl, rfl⟩ := prE2 z; exact Or.inl ⟨by decide, by decide, rfl⟩
  · obtain ⟨rfl, rfl⟩ := prE2 z; exact Or.inl ⟨by decide, by decide, rfl⟩
theorem out_comment (h : J M nm nc nk ne nb td op br mb pl) {m c k v r : Int32} (z : (r, M') = x_comment M nm nc nk ol hs op m c k v) : Out M M' ol hs r := by
  rw [x_comment] at z
  have hm := h.ws.1.2
  have hk := h.ws.2.2.1.2
  have hK := h.congr (keep_e25 (M := M) (ol := ol) (hs := hs))
  split at z
  · obtain ⟨rfl, rfl⟩ := prE2 z; exact Or.inl ⟨by decide, by decide, rfl⟩
  · next p hp =>
    split at z
    · next c1 =>
      split at z
      · obtain ⟨rfl, rfl⟩ := prE2 z; exact Or.inl ⟨by decide, by decide, rfl⟩
      · next c2 =>
        split at z
        · obtain ⟨rfl, rfl⟩ := prE2 z; exact Or.inl ⟨by decide, by decide, rfl⟩
        · next c3 =>
          obtain ⟨rfl, rfl⟩ := prE2 z
          obtain ⟨mi, hmi, rfl⟩ := inR_t (by omega) c1.1
          have ho : op = true := by
            cases q : op with
            | true => rfl
            | false => exact absurd (Or.inl q) c2
          refine Or.inr ⟨nI_pos' (by omega), ⟨_, _, _, _, _, _, _, _, _, _, hK.comment ho (by omega) hmi (fndTo_some hp).1 c1.2.1 c1.2.2⟩, fun a ha => ?_⟩
          show m_comment (m_keep M ol hs) nk (nI mi) (nI p) k v a = _
          simp only [m_comment]
          rw [gset_ne _ _ (by omega), gset_ne _ _ (by omega), gset_ne _ _ (by omega), gset_ne _ _ (by omega), gset_ne _ _ (by omega), gset_ne _ _ (by omega)]
    · obtain ⟨rfl, rfl⟩ := prE2 z; exact Or.inl ⟨by decide, by decide, rfl⟩
theorem out_resolve (h : J M nm nc nk ne nb td op br mb pl) {d v r : Int32} (z : (r, M') = x_resolve M mb pl nc ne nk ol hs d v) : Out M M' ol hs r := by
  rw [x_resolve] at z
  have hk := h.ws.2.2.1.2
  have hK := h.congr (keep_e25 (M := M) (ol := ol) (hs := hs))
  split at z
  · next c1 =>
    split at z
    · obtain ⟨rfl, rfl⟩ := prE2 z; exact Or.inl ⟨by decide, by decide, rfl⟩
    · next c hc =>
      split at z
      · obtain ⟨rfl, rfl⟩ := prE2 z
        obtain ⟨dn, rfl, -, d2⟩ := inI_n (by decide) (by decide) c1.1
        obtain ⟨vn, rfl, -, v9⟩ := inI_n (by decide) (by decide) c1.2.1
        obtain ⟨hc1, hc2⟩ := bestTo_lt hc
        have hp : M 21 c = 1 := of_decide_eq_true hc2
        have ho : op = false := by
          cases q : op with
          | false => rfl
          | true => have := (h.cm c hc1).2.2.1 q; rw [hp] at this; exact absurd this (by decide)
        have k20 : m_keep M ol hs 20 = M 20 := keep_ne (Or.inl (by decide))
        have k21 : m_keep M ol hs 21 = M 21 := keep_ne (Or.inl (by decide))
        have hw : 0 ≤ wantI M c (nI dn) (nI vn) := by
          unfold wantI; split
          · exact (h.cm c hc1).2.1
          · exact nI_pos' (by omega)
        obtain ⟨ne', br', hJ⟩ := hK.settled ho hc1 (by rw [k21]; exact hp) d2 hw (fun q => by rw [q, k20]; rfl)
        have hcn := cntTo_le nk (pendB (m_res M mb pl nc ne nk ol hs c (nI dn) (nI vn) 21))
        refine Or.inr ⟨nI_pos' (by omega), ⟨_, _, _, _, _, _, _, _, _, _, hJ⟩, fun a ha => ?_⟩
        show m_settle (m_keep M ol hs) c (pl c) nc ne nk (nI dn) (wantI M c (nI dn) (nI vn)) a = _
        simp only [m_settle]
        split
        · simp only [m_brk, m_br0]
          rw [gset_ne _ _ (by omega), gset_ne _ _ (by omega), gset_ne _ _ (by omega), gset_ne _ _ (by omega), gset_ne _ _ (by omega)]
          exact gave_n (by omega)
        · exact gave_n (by omega)
      · obtain ⟨rfl, rfl⟩ := prE2 z; exact Or.inl ⟨by decide, by decide, rfl⟩
  · obtain ⟨rfl, rfl⟩ := prE2 z; exact Or.inl ⟨by decide, by decide, rfl⟩
theorem reopen_out {c p : Nat} {a : Nat} (ha : 26 ≤ a) : m_reopen M c p nk ne br a = M a := by
  have ht : m_taken M c p nk a = M a := by
    simp only [m_taken]
    split
    · rw [gset_ne _ _ (by omega), gset_ne _ _ (by omega)]
    · rw [gset_ne _ _ (by omega)]
  simp only [m_reopen]
  split
  · rw [gset_ne _ _ (by omega), gset_ne _ _ (by omega)]; exact ht
  · exact ht
theorem out_appeal (h : J M nm nc nk ne nb td op br mb pl) {c m s r : Int32} (z : (r, M') = x_appeal M nm nk ne ol hs op br pl c m s) : Out M M' ol hs r := by
  rw [x_appeal] at z
  have hk := h.ws.2.2.1.2
  have hK := h.congr (keep_e25 (M := M) (ol := ol) (hs := hs))
  split at z
  · next c1 =>
    split at z
    · obtain ⟨rfl, rfl⟩ := prE2 z; exact Or.inl ⟨by decide, by decide, rfl⟩
    · next c2 =>
      split at z
      · obtain ⟨rfl, rfl⟩ := prE2 z
        exact Or.inr ⟨by decide, ⟨_, _, _, _, _, _, _, _, _, _, hK⟩, fun a ha => rfl⟩
      · obtain ⟨rfl, rfl⟩ := prE2 z
        obtain ⟨cn, hcn, rfl⟩ := inR_t (by omega) c1.1
        have ho : op = false := by
          cases q : op with
          | false => rfl
          | true => exact absurd (Or.inl q) c2
        have k21 : m_keep M ol hs 21 = M 21 := keep_ne (Or.inl (by decide))
        obtain ⟨ne', -, hJ, -⟩ := hK.reopened ho hcn (by rw [k21]; exact fun q => c2 (Or.inr (Or.inl (by rw [nI_clamp (by omega)]; exact q))))
        refine Or.inr ⟨by decide, ⟨_, _, _, _, _, _, _, _, _, _, by rw [nI_clamp (by omega)]; exact hJ⟩, fun a ha => ?_⟩
        exact reopen_out ha
  · obtain ⟨rfl, rfl⟩ := prE2 z; exact Or.inl ⟨by decide, by decide, rfl⟩
end

