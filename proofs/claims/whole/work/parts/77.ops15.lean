/-! resolutions of both: the operation -/
section
variable {M : gM} {nm nc nk ne td no : Nat} {op br : Bool} {mb pl : Nat → Nat}
theorem pendS {S : Nat → Nat → Int32} {N : Nat → Int32} (R : RS S N nm nc nk ne td no op br mb pl) : cntTo nk (pendB (vSt N)) = cntTo nk (pendB (S 20)) := by
  refine cntTo_congr (fun k hk => ?_)
  simp only [pendB]
  rw [(R.com k hk).2.2.2.2.2.2.2.2.1]
theorem cnt_pos {n k : Nat} {p : Nat → Bool} (hk : k < n) (h : p k = true) : cntTo n p ≠ 0 := by
  induction n with
  | zero => omega
  | succ n ih =>
    simp only [cntTo]
    by_cases e : k = n
    · subst e; rw [h]; simp
    · have := ih (by omega); omega
theorem RSe.settled {N : Nat → Int32} {c : Nat} {a w : Int32} (hc : c < nk) (ha : a = 0 ∨ a = 1 ∨ a = 2) (hne : ne ≤ 11) (R : RS (nowS M) N nm nc nk ne td no false false mb pl) : RSe (nowS (m_settle M c (pl c) nc ne nk a w)) (setN N nc nk ne c (pl c) a w) ∧ cntTo nk (pendB (m_settle M c (pl c) nc ne nk a w 21)) = cntTo nk (pendB (vSt (rsgN N c (pl c) a w))) := by
  have RG := R.gaveR (w := w) hc ha
  have hno : no ≠ 0 := fun h => by have := (R.fr h).1; omega
  have hcnt : cntTo nk (pendB (vSt (rsgN N c (pl c) a w))) = cntTo nk (pendB (m_gave M c (pl c) a w 21)) := pendS RG
  have hchg : chgM (rsgN N c (pl c) a w) nc ne = chgB (m_gave M c (pl c) a w) nc ne := chg_eq RG
  unfold m_settle setN y_edition
  rw [hchg, hcnt]
  by_cases h1 : cntTo nk (pendB (m_gave M c (pl c) a w 21)) = 0
  · rw [if_pos h1]
    by_cases h2 : chgB (m_gave M c (pl c) a w) nc ne = true
    · rw [if_pos h2, if_pos ⟨h1, h2⟩]
      exact ⟨⟨_, _, _, _, _, _, _, _, _, _, RG.edition hne (hcnt.trans h1) hno⟩, rfl⟩
    · rw [if_neg h2, if_neg (fun q => h2 q.2)]
      exact ⟨⟨_, _, _, _, _, _, _, _, _, _, RG⟩, rfl⟩
  · rw [if_neg h1, if_neg (fun q => h1 q.1)]
    exact ⟨⟨_, _, _, _, _, _, _, _, _, _, RG⟩, rfl⟩
end
theorem op_resolve (E : gE) (d v : Int32) : opEq E k_X7_resolve k_X8_resolve [.int d, .int v] := by
  intro M hI
  obtain ⟨ch, L, ol, hs, t1, t2, H, nm, nc, nk, ne, td, no, op, br, mb, pl, R⟩ := id hI
  have bm := R.bm
  have eb := bst_eq R
  have hb : ∀ c, bstN (M 131) mb nk = some c → c < nk ∧ br = false ∧ op = false ∧ ne ≤ 11 ∧ no ≠ 0 := fun c h => by
    obtain ⟨q1, q2⟩ := bestTo_lt h
    have hp := cnt_pos q1 q2
    have b0 : br = false := by
      cases hb : br with
      | false => rfl
      | true => exact absurd (R.brp.1 hb).1 hp
    have o0 : op = false := by
      cases ho : op with
      | false => rfl
      | true => exact absurd (R.brp.2 ho).2 hp
    have h2 := R.be2
    rw [b0] at h2
    exact ⟨q1, b0, o0, by simpa using h2, fun h => by have := (R.fr h).1; omega⟩
  refine ⟨_, c_X7_resolve E d v R.WS H.1 (fun c h => by have := (hb c (eb.trans h)).2.2.2.1; omega), fun r M1 hr => ?_⟩
  have old : M1 131 = M 131 → M1 130 = M 130 → ∃ P2 : Int32 → gM → Prop, gMet E k_X8_resolve [.ref 130, .int d, .int v] M1 (gInt P2) ∧ ∀ r' M2, P2 r' M2 → (r', M2) = y_resolve M1 mb pl nc nk ne hs d v := fun e1 e0 =>
    ⟨_, c_X8_resolve E M1 nc nk ne hs mb pl d v (by rw [e1]; exact R.rc) R.bc (by rw [e1]; exact R.rk) R.bk (by rw [e1]; exact R.re) R.ne12 (by rw [e0]; exact H.2.1) H.1.2.2.2 (by rw [e1]; exact fun k hk => ⟨by have := (R.com k hk).1; omega, (R.com k hk).2.2.1⟩) (by rw [e1]; exact R.place) (by rw [e1]; exact fun c h => (hb c h).2.2.2.1), fun _ _ h => h⟩
  unfold x_resolve at hr
  by_cases c1 : inI d (nI 0) (nI 2) = true ∧ inI v (nI 0) (nI 9999) = true ∧ (d = 1 ∨ v = 0)
  · rw [if_pos c1, ← eb] at hr
    cases hn : bstN (M 131) mb nk with
    | none =>
      rw [hn] at hr
      obtain ⟨rfl, rfl⟩ := Prod.mk.inj hr
      obtain ⟨P2, q1, q2⟩ := old rfl rfl
      refine ⟨P2, q1, fun r' M2 h => ?_⟩
      have h := q2 r' M2 h
      rw [y_resolve, if_pos c1, hn] at h
      obtain ⟨rfl, rfl⟩ := Prod.mk.inj h
      exact ⟨rfl, hI⟩
    | some c =>
      rw [hn] at hr
      dsimp only at hr
      obtain ⟨hc, rfl, rfl, hne, hno⟩ := hb c hn
      have ha : d = 0 ∨ d = 1 ∨ d = 2 := by
        obtain ⟨j, -, j2, rfl⟩ := inI_t (by decide) (by decide) c1.1
        have : j = 0 ∨ j = 1 ∨ j = 2 := by omega
        rcases this with rfl | rfl | rfl
        · exact Or.inl rfl
        · exact Or.inr (Or.inl rfl)
        · exact Or.inr (Or.inr rfl)
      have hp := (R.com c hc).2.2.2.1
      have ew : wanN (M 131) c d v = wantI M c d v := want_eq hc R
      have eg : getN (M 131) (pl c) (wantI M c d v) = getB M (pl c) (wantI M c d v) := get_eq hp hno R
      have ey : ∀ M1, M1 131 = M 131 → y_resolve M1 mb pl nc nk ne hs d v = if d < 2 ∧ getB M (pl c) (wantI M c d v) = false then (-2, M1) else (nI (cntTo nk (pendB (vSt (rsgN (M 131) c (pl c) d (wantI M c d v))))), gset (m_rec M1 hs) 131 (setN (M 131) nc nk ne c (pl c) d (wantI M c d v))) := fun M1 h => by
        rw [y_resolve, if_pos c1, h, hn]; dsimp only; rw [ew, eg]
      have ecd : (d < 2 ∧ getB M (pl c) (wantI M c d v) = false) ↔ ¬ (d = 2 ∨ getB M (pl c) (wantI M c d v) = true) := by
        have hd : d < 2 ↔ ¬ d = 2 := by rcases ha with rfl | rfl | rfl <;> decide
        rw [hd]
        cases getB M (pl c) (wantI M c d v) <;> simp
      by_cases c2 : d = 2 ∨ getB M (pl c) (wantI M c d v) = true
      · rw [if_pos c2] at hr
        obtain ⟨h1, h2⟩ := Prod.mk.inj hr
        have K : ∀ a, a < 26 → m_keep M ol hs a = M a := fun a ha => keep_ne (Or.inl ha)
        have RK : RS (nowS (m_keep M ol hs)) (M 131) nm nc nk ne td no false false mb pl := R.congr (fun j hj => K (1 + j) (by omega)) (fun _ _ => rfl)
        obtain ⟨s1, s2⟩ := RSe.settled (w := wantI M c d v) hc ha hne RK
        have hk : ∀ a, 26 ≤ a → M1 a = m_keep M ol hs a := fun a ha => by
          rw [h2]; unfold m_res m_settle m_brk m_br0 m_gave m_resolve
          repeat' split
          all_goals (repeat rw [gset_ne _ _ (by omega)])
        obtain ⟨e1, e0⟩ := keep_hi hk
        obtain ⟨P2, q1, q2⟩ := old e1 e0
        refine ⟨P2, q1, fun r' M2 h => ?_⟩
        have h := q2 r' M2 h
        rw [ey M1 e1, if_neg (fun q => (ecd.mp q) c2)] at h
        obtain ⟨h3, h4⟩ := Prod.mk.inj h
        refine ⟨?_, ?_⟩
        · rw [h3, h1, ← s2]; rfl
        · rw [h4]
          exact Inv.fin t1 t2 H ⟨_, _, _, _, _, _, _, _, _, _, R⟩ hk (by rw [h2]; exact s1)
      · rw [if_neg c2] at hr
        obtain ⟨rfl, rfl⟩ := Prod.mk.inj hr
        obtain ⟨P2, q1, q2⟩ := old rfl rfl
        refine ⟨P2, q1, fun r' M2 h => ?_⟩
        have h := q2 r' M2 h
        rw [ey _ rfl, if_pos (ecd.mpr c2)] at h
        obtain ⟨rfl, rfl⟩ := Prod.mk.inj h
        exact ⟨rfl, hI⟩
  · rw [if_neg c1] at hr
    obtain ⟨rfl, rfl⟩ := Prod.mk.inj hr
    obtain ⟨P2, q1, q2⟩ := old rfl rfl
    refine ⟨P2, q1, fun r' M2 h => ?_⟩
    have h := q2 r' M2 h
    rw [y_resolve, if_neg c1] at h
    obtain ⟨rfl, rfl⟩ := Prod.mk.inj h
    exact ⟨rfl, hI⟩

