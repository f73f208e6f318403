/-! areComments -/
theorem sub_neg {a b : Nat} (ha : a < 2 ^ 30) (hb : b < 2 ^ 30) : nI a - nI b < 0 ↔ a < b := by
  rw [Int32.lt_iff_toInt_lt, pk_sub_toInt ha hb, show (0 : Int32).toInt = 0 from rfl]
  omega
theorem sub_zero {a b : Nat} (ha : a < 2 ^ 30) (hb : b < 2 ^ 30) : nI a - nI b = 0 ↔ a = b := by
  rw [← Int32.toInt_inj, pk_sub_toInt ha hb, show (0 : Int32).toInt = 0 from rfl]
  omega
theorem sub_pos {a b : Nat} (ha : a < 2 ^ 30) (hb : b < 2 ^ 30) : 0 < nI a - nI b ↔ b < a := by
  rw [Int32.lt_iff_toInt_lt, pk_sub_toInt ha hb, show (0 : Int32).toInt = 0 from rfl]
  omega
/-- the best by a rank is ahead of all others -/
theorem best_rk {ok : Nat → Bool} {rk : Nat → Nat} : ∀ {n b : Nat}, bestTo n ok (fun k b => decide (rk k < rk b)) = some b → ∀ c, c < n → ok c = true → c ≠ b → (c < b → rk b < rk c) ∧ (b < c → rk b ≤ rk c) := by
  intro n
  induction n with
  | zero => intro b h; cases h
  | succ n ih =>
    intro b h c hc hok hne
    simp only [bestTo] at h
    cases hb : bestTo n ok (fun k b => decide (rk k < rk b)) with
    | none =>
      rw [hb] at h
      have hno := bestTo_none.mp hb
      split at h
      · cases h
        have : c < n := by omega
        rw [hno c this] at hok; cases hok
      · cases h
    | some q =>
      rw [hb] at h
      have hq := (bestTo_lt hb).1
      by_cases z : (ok n && isB (fun k b => decide (rk k < rk b)) (some q) n) = true
      · rw [if_pos z] at h
        cases h
        simp only [isB, Bool.and_eq_true, decide_eq_true_eq] at z
        by_cases e : c = q
        · subst e; exact ⟨fun _ => z.2, fun _ => by omega⟩
        · obtain ⟨g1, g2⟩ := ih hb c (by omega) hok e
          refine ⟨fun _ => ?_, fun _ => by omega⟩
          rcases Nat.lt_or_ge c q with w | w
          · have := g1 w; omega
          · have := g2 (by omega); omega
      · rw [if_neg z] at h
        cases h
        by_cases e : c = n
        · subst e
          refine ⟨fun _ => by omega, fun _ => ?_⟩
          rw [hok] at z
          simpa [isB] using z
        · exact ih hb c (by omega) hok hne
section
variable {E : gE} {M : gM} {nm nc nk ne nb td ol hs : Nat} {op br : Bool} {mb pl ch : Nat → Nat}
/-- how a pending comment that is not the next stands to it -/
theorem J.rank (h : J M nm nc nk ne nb td op br mb pl) {b c : Nat} (hb : bstX M mb nk = some b) (hc : c < nk) (hp : M 21 c = 1) (hne : c ≠ b) : ∃ kc kb wc wb cc cb : Nat, (M 19 c = nI kc ∧ M 19 b = nI kb ∧ M 3 (mb c) = nI wc ∧ M 3 (mb b) = nI wb ∧ M 8 (pl c) = nI cc ∧ M 8 (pl b) = nI cb) ∧ (kc ≤ 1 ∧ kb ≤ 1 ∧ wc ≤ 9 ∧ wb ≤ 9 ∧ cc ≤ 99 ∧ cb ≤ 99) ∧ (kc < kb ∨ kc = kb ∧ (cb < cc ∨ cc = cb ∧ (wc < wb ∨ wc = wb ∧ b < c))) := by
  have hW := h.ws
  have f := hW.2.2.2.2.2
  have hc20 := hW.2.1.2
  have hnm := hW.1.2
  have kx : ∀ q, q < nk → ∃ k : Nat, M 19 q = nI k ∧ k ≤ 1 := fun q hq => by
    rcases (h.cm q hq).1 with z | z
    · exact ⟨0, z, by decide⟩
    · exact ⟨1, z, by decide⟩
  obtain ⟨kf, K⟩ : ∃ kf : Nat → Nat, ∀ q, q < nk → M 19 q = nI (kf q) ∧ kf q ≤ 1 := ⟨fun q => (M 19 q).toNatClampNeg, fun q hq => by
    obtain ⟨k, e, k1⟩ := kx q hq
    show M 19 q = nI ((M 19 q).toNatClampNeg) ∧ (M 19 q).toNatClampNeg ≤ 1
    rw [e, nI_clamp (by omega)]; exact ⟨rfl, k1⟩⟩
  obtain ⟨wf, Wt⟩ : ∃ wf : Nat → Nat, ∀ q, q < nk → M 3 (mb q) = nI (wf q) ∧ wf q ≤ 9 := ⟨fun q => (M 3 (mb q)).toNatClampNeg, fun q hq => by
    obtain ⟨w, e, -, w9⟩ := h.wt (mb q) (f q hq).1
    show M 3 (mb q) = nI ((M 3 (mb q)).toNatClampNeg) ∧ (M 3 (mb q)).toNatClampNeg ≤ 9
    rw [e, nI_clamp (by omega)]; exact ⟨rfl, w9⟩⟩
  obtain ⟨rk, hrk⟩ : ∃ rk : Nat → Nat, ∀ q, rk q = (1 - kf q) * 1000 + pl q * 10 + (9 - wf q) := ⟨fun q => (1 - kf q) * 1000 + pl q * 10 + (9 - wf q), fun _ => rfl⟩
  have eb : bestTo nk (pendB (M 21)) (fun k b => decide (rk k < rk b)) = some b := by
    rw [← hb]
    refine bestTo_congr (fun _ _ => rfl) (fun x y hy hx _ _ => ?_)
    obtain ⟨a1, k1⟩ := K x hx
    obtain ⟨a2, k2⟩ := K y (by omega)
    obtain ⟨a3, k3⟩ := Wt x hx
    obtain ⟨a4, k4⟩ := Wt y (by omega)
    have px := f x hx
    have py := f y (by omega)
    have px3 := px.2.2.1
    have py3 := py.2.2.1
    have rx := hrk x
    have ry := hrk y
    simp only [aheadX]
    rw [px.2.2.2, py.2.2.2, a1, a2, a3, a4]
    by_cases z : kf x = kf y
    · rw [if_pos (by rw [z])]
      by_cases z2 : pl x = pl y
      · rw [if_pos (by rw [z2]), show decide (nI (wf y) < nI (wf x)) = decide (wf y < wf x) from decide_eq_decide.mpr (nI_ltI (by omega) (by omega))]
        exact decide_eq_decide.mpr (by omega)
      · rw [if_neg (fun q => z2 ((nI_eq (by omega) (by omega)).mp q)), show decide (nI (pl x) < nI (pl y)) = decide (pl x < pl y) from decide_eq_decide.mpr (nI_ltI (by omega) (by omega))]
        exact decide_eq_decide.mpr (by omega)
    · rw [if_neg (fun q => z ((nI_eq (by omega) (by omega)).mp q))]
      rcases (show kf x = 0 ∧ kf y = 1 ∨ kf x = 1 ∧ kf y = 0 by omega) with ⟨z1, z2⟩ | ⟨z1, z2⟩
      · rw [z1]; exact decide_eq_decide.mpr ⟨fun q => by omega, fun q => absurd q (by decide)⟩
      · rw [z1]; exact decide_eq_decide.mpr ⟨fun q => rfl, fun q => by omega⟩
  obtain ⟨hb1, hb2⟩ := bestTo_lt hb
  obtain ⟨g1, g2⟩ := best_rk eb c hc (by simp [pendB, hp]) hne
  obtain ⟨cc, ecc, cc1, cc9⟩ := h.nu (pl c) (f c hc).2.2.1
  obtain ⟨cb, ecb, cb1, cb9⟩ := h.nu (pl b) (f b hb1).2.2.1
  have o1 : pl b < pl c → cb < cc := fun z => by
    have := h.as (pl b) (pl c) z (f c hc).2.2.1
    rw [ecc, ecb] at this
    exact (nI_ltI (by omega) (by omega)).mp this
  have o2 : pl b = pl c → cb = cc := fun z => by
    rw [← z, ecb] at ecc
    exact (nI_eq (by omega) (by omega)).mp ecc
  obtain ⟨q1, k1⟩ := K c hc
  obtain ⟨q2, k2⟩ := K b hb1
  obtain ⟨q3, k3⟩ := Wt c hc
  obtain ⟨q4, k4⟩ := Wt b hb1
  have q5 := (f c hc).2.2.1
  have q6 := (f b hb1).2.2.1
  have rb := hrk b
  have rc := hrk c
  exact ⟨kf c, kf b, wf c, wf b, cc, cb, ⟨q1, q2, q3, q4, ecc, ecb⟩, ⟨k1, k2, k3, k4, cc9, cb9⟩, by omega⟩
set_option maxHeartbeats 4000000 in
theorem c_L_areComments (h : J M nm nc nk ne nb td op br mb pl) (hH : WH M ol hs) : gMet E k_L_areComments [.ref 0] M (gInt fun r M' => r = nI 1 ∧ M' = M) := by
  refine gMet.of (by decide +kernel) rfl (Nat.le_of_ble_eq_true rfl) (fun X hX hR => ?_)
  have hW := h.ws
  have hk := hW.2.2.1.2
  have f := hW.2.2.2.2.2
  have hc20 := hW.2.1.2
  have hnm := hW.1.2
  have htd := h.ht.2
  obtain ⟨pc, hpc⟩ : ∃ pc : Nat → Nat, pc = fun c => cntTo c (pendB (M 21)) := ⟨_, rfl⟩
  have pc30 : ∀ c, pc c ≤ c := fun c => by rw [hpc]; exact cntTo_le _ _
  obtain ⟨nx, hnx⟩ : ∃ nx, nx = optI (-4) (bstX M mb nk) := ⟨_, rfl⟩
  have L : ∀ c, c ≤ nk → ∀ x5 x6 x7 x8 : Option Value, gG X E M 32 [some (.ref 0), some (.int nx), some (.int (nI (pc c))), some (.int (nI 1)), some (.int (nI c)), x5, x6, x7, x8] [] (gQ X E (gInt fun r M' => r = nI 1 ∧ M' = M)) := by
    refine up_loop nk _ (fun x5 x6 x7 x8 => ?_) (fun c hc ih x5 x6 x7 x8 => ?_)
    · have hcnt : cnF M nm nc nk ne hs op 7 = nI (pc nk) := by rw [hpc]; rfl
      cases hb : bstX M mb nk with
      | none =>
        have hp0 : pc nk = 0 := by rw [hpc]; exact cnt0.mpr (bestTo_none.mp hb)
        rw [hb] at hnx
        have hnx : nx = -4 := hnx
        subst hnx
        refine g_iload hX dL_areComments_32 rfl rfl ?_
        refine g_aload_n (i := 0) hX dL_areComments_34 rfl rfl rfl ?_
        refine g_bipush hX dL_areComments_35 bc_6 rfl ?_
        refine g_callVi hX (q_cnt hW hH 6 (v := nI nk) rfl rfl) kf_X7_count rfl wk_L_13 rfl rfl rfl rfl rfl dL_areComments_37 rfl (fun x37 M37 h37 => ?_)
        obtain ⟨rfl, hMq⟩ := h37; have hMq := hMq.symm; subst hMq
        first | refine g_icmp_geN (tgt := 364) hX dL_areComments_40 (by decide) rfl (by omega) (by omega) (fun zc40 => ?_) (fun zc40 => absurd zc40 (by omega)) | refine g_icmp_ge (tgt := 364) hX dL_areComments_40 (by decide) rfl (fun zc40 => ?_) (fun zc40 => absurd zc40 (by omega))
        refine g_iload_n (i := 3) hX dL_areComments_364 rfl rfl rfl ?_
        refine g_if_eq (tgt := 405) hX dL_areComments_365 (by decide) rfl (fun zc365 => absurd zc365 (by decide)) (fun zc365 => ?_)
        refine g_iload_n (i := 2) hX dL_areComments_368 rfl rfl rfl ?_
        refine g_aload_n (i := 0) hX dL_areComments_369 rfl rfl rfl ?_
        refine g_bipush hX dL_areComments_370 bc_7 rfl ?_
        refine g_callVi hX (q_cnt hW hH 7 rfl hcnt) kf_X7_count rfl wk_L_13 rfl rfl rfl rfl rfl dL_areComments_372 rfl (fun x372 M372 h372 => ?_)
        obtain ⟨rfl, hMq⟩ := h372; have hMq := hMq.symm; subst hMq
        refine g_icmp_ne (tgt := 405) hX dL_areComments_375 (by decide) rfl (fun zc375 => absurd rfl zc375) (fun zc375 => ?_)
        refine g_iload_n (i := 2) hX dL_areComments_378 rfl rfl rfl ?_
        refine g_if_ne (tgt := 386) hX dL_areComments_379 (by decide) rfl (fun zc379 => absurd (by rw [hp0]; rfl) zc379) (fun zc379 => ?_)
        refine g_iconst hX dL_areComments_382 ic_1 rfl ?_
        refine g_goto (n := 387) hX dL_areComments_383 (by decide) ?_
        refine g_iload_n (i := 1) hX dL_areComments_387 rfl rfl rfl ?_
        refine g_bipush hX dL_areComments_388 bc_m4 rfl ?_
        refine g_icmp_ne (tgt := 397) hX dL_areComments_390 (by decide) rfl (fun zc390 => absurd rfl zc390) (fun zc390 => ?_)
        refine g_iconst hX dL_areComments_393 ic_1 rfl ?_
        refine g_goto (n := 398) hX dL_areComments_394 (by decide) ?_
        refine g_icmp_ne (tgt := 405) hX dL_areComments_398 (by decide) rfl (fun zc398 => absurd rfl zc398) (fun zc398 => ?_)
        refine g_iconst hX dL_areComments_401 ic_1 rfl ?_
        refine g_goto (n := 406) hX dL_areComments_402 (by decide) ?_
        refine g_zret hX hR (by first | exact Or.inl rfl | exact Or.inr rfl | exact gB_01 _) dL_areComments_406 ?_
        exact ⟨rfl, rfl⟩
      | some b =>
        obtain ⟨hb1, hb2⟩ := bestTo_lt hb
        have hp0 : pc nk ≠ 0 := fun z => by
          rw [hpc] at z
          have := cnt0.mp z b hb1
          rw [hb2] at this; cases this
        have pn := pc30 nk
        rw [hb] at hnx
        have hnx : nx = nI b := hnx
        subst hnx
        refine g_iload hX dL_areComments_32 rfl rfl ?_
        refine g_aload_n (i := 0) hX dL_areComments_34 rfl rfl rfl ?_
        refine g_bipush hX dL_areComments_35 bc_6 rfl ?_
        refine g_callVi hX (q_cnt hW hH 6 (v := nI nk) rfl rfl) kf_X7_count rfl wk_L_13 rfl rfl rfl rfl rfl dL_areComments_37 rfl (fun x37 M37 h37 => ?_)
        obtain ⟨rfl, hMq⟩ := h37; have hMq := hMq.symm; subst hMq
        first | refine g_icmp_geN (tgt := 364) hX dL_areComments_40 (by decide) rfl (by omega) (by omega) (fun zc40 => ?_) (fun zc40 => absurd zc40 (by omega)) | refine g_icmp_ge (tgt := 364) hX dL_areComments_40 (by decide) rfl (fun zc40 => ?_) (fun zc40 => absurd zc40 (by omega))
        refine g_iload_n (i := 3) hX dL_areComments_364 rfl rfl rfl ?_
        refine g_if_eq (tgt := 405) hX dL_areComments_365 (by decide) rfl (fun zc365 => absurd zc365 (by decide)) (fun zc365 => ?_)
        refine g_iload_n (i := 2) hX dL_areComments_368 rfl rfl rfl ?_
        refine g_aload_n (i := 0) hX dL_areComments_369 rfl rfl rfl ?_
        refine g_bipush hX dL_areComments_370 bc_7 rfl ?_
        refine g_callVi hX (q_cnt hW hH 7 rfl hcnt) kf_X7_count rfl wk_L_13 rfl rfl rfl rfl rfl dL_areComments_372 rfl (fun x372 M372 h372 => ?_)
        obtain ⟨rfl, hMq⟩ := h372; have hMq := hMq.symm; subst hMq
        refine g_icmp_ne (tgt := 405) hX dL_areComments_375 (by decide) rfl (fun zc375 => absurd rfl zc375) (fun zc375 => ?_)
        refine g_iload_n (i := 2) hX dL_areComments_378 rfl rfl rfl ?_
        refine g_if_ne (tgt := 386) hX dL_areComments_379 (by decide) rfl (fun zc379 => ?_) (fun zc379 => absurd zc379 (nI_ne0 (by omega) (by omega)))
        refine g_iconst hX dL_areComments_386 ic_0 rfl ?_
        refine g_iload_n (i := 1) hX dL_areComments_387 rfl rfl rfl ?_
        refine g_bipush hX dL_areComments_388 bc_m4 rfl ?_
        refine g_icmp_ne (tgt := 397) hX dL_areComments_390 (by decide) rfl (fun zc390 => ?_) (fun zc390 => absurd zc390 (fun q => nI_pos (n := b) (by omega) (by rw [q]; decide)))
        refine g_iconst hX dL_areComments_397 ic_0 rfl ?_
        refine g_icmp_ne (tgt := 405) hX dL_areComments_398 (by decide) rfl (fun zc398 => absurd rfl zc398) (fun zc398 => ?_)
        refine g_iconst hX dL_areComments_401 ic_1 rfl ?_
        refine g_goto (n := 406) hX dL_areComments_402 (by decide) ?_
        refine g_zret hX hR (by first | exact Or.inl rfl | exact Or.inr rfl | exact gB_01 _) dL_areComments_406 ?_
        exact ⟨rfl, rfl⟩
    · have pcc := pc30 c
      obtain ⟨k1, k2, k3, k4, k5, k6, k7⟩ := h.cm c hc
      have hpl := (f c hc).2.2.1
      have hge := (h.pv (pl c) hpl).1
      have t1 : tolF M c 1 = M 8 (pl c) := by
        show M 8 (M 18 c).toNatClampNeg = _
        rw [(f c hc).2.2.2, nI_clamp (by omega)]
      have K358 : ∀ (p : Nat) (x5 x6 x7 x8 : Option Value), p = pc (c + 1) → gG X E M 358 [some (.ref 0), some (.int nx), some (.int (nI p)), some (.int (nI 1)), some (.int (nI c)), x5, x6, x7, x8] [] (gQ X E (gInt fun r M' => r = nI 1 ∧ M' = M)) := by
        intro p x5 x6 x7 x8 hp
        subst hp
        first | refine g_iincN hX dL_areComments_358 ic_1 rfl (Nat.le_of_ble_eq_true rfl) rfl ?_ | refine g_iinc hX dL_areComments_358 ic_1 rfl rfl (Nat.le_of_ble_eq_true rfl) rfl ?_
        refine g_goto (n := 32) hX dL_areComments_361 (by decide) ?_
        exact ih _ _ _ _
      have pcs : pc (c + 1) = pc c + (if pendB (M 21) c then 1 else 0) := by rw [hpc]; rfl
      have dd : ¬ M 21 c < 2 → ∃ d, M 22 c = nI d ∧ d ≤ td := fun z => by
        obtain ⟨z1, z2⟩ := k5 z
        rw [h.ht.1] at z2
        obtain ⟨d, hd, e⟩ := nI_of (Int32.not_lt.mpr z1)
        rw [e] at z2
        exact ⟨d, e, (nI_leI hd (by omega)).mp z2⟩
      have gg : gaveB (M 21 c) = true → ∃ g, g < 2 ^ 31 ∧ M 23 c = nI g := fun z => nI_of (Int32.not_lt.mpr (k6 z))
      have hst : (op = true ∧ M 21 c = nI 0) ∨ (op = false ∧ M 21 c = nI 1) ∨ (op = false ∧ M 21 c = nI 2) ∨ (op = false ∧ M 21 c = nI 3) ∨ (op = false ∧ M 21 c = nI 4) := by
        cases ho : op with
        | true => exact Or.inl ⟨rfl, k3 ho⟩
        | false =>
          rcases k4 ho with z | z | z | z
          · exact Or.inr (Or.inl ⟨rfl, z⟩)
          · exact Or.inr (Or.inr (Or.inl ⟨rfl, z⟩))
          · exact Or.inr (Or.inr (Or.inr (Or.inl ⟨rfl, z⟩)))
          · exact Or.inr (Or.inr (Or.inr (Or.inr ⟨rfl, z⟩)))
      rcases hst with ⟨ho, hst⟩ | ⟨ho, hst⟩ | ⟨ho, hst⟩ | ⟨ho, hst⟩ | ⟨ho, hst⟩
      · have hpn : pc c + 0 = pc (c + 1) := by rw [pcs]; simp [pendB, hst]; decide
        refine g_iload hX dL_areComments_32 rfl rfl ?_
        refine g_aload_n (i := 0) hX dL_areComments_34 rfl rfl rfl ?_
        refine g_bipush hX dL_areComments_35 bc_6 rfl ?_
        refine g_callVi hX (q_cnt hW hH 6 (v := nI nk) rfl rfl) kf_X7_count rfl wk_L_13 rfl rfl rfl rfl rfl dL_areComments_37 rfl (fun x37 M37 h37 => ?_)
        obtain ⟨rfl, hMq⟩ := h37; have hMq := hMq.symm; subst hMq
        first | refine g_icmp_geN (tgt := 364) hX dL_areComments_40 (by decide) rfl (by omega) (by omega) (fun zc40 => absurd zc40 (by omega)) (fun zc40 => ?_) | refine g_icmp_ge (tgt := 364) hX dL_areComments_40 (by decide) rfl (fun zc40 => absurd zc40 (by omega)) (fun zc40 => ?_)
        refine g_iload_n (i := 3) hX dL_areComments_43 rfl rfl rfl ?_
        refine g_if_eq (tgt := 364) hX dL_areComments_44 (by decide) rfl (fun zc44 => absurd zc44 (by decide)) (fun zc44 => ?_)
        refine g_aload_n (i := 0) hX dL_areComments_47 rfl rfl rfl ?_
        refine g_iload hX dL_areComments_48 rfl rfl ?_
        refine g_iconst hX dL_areComments_50 ic_4 rfl ?_
        refine g_callVi hX (q_tol hW hc 4 (v := nI 0) rfl hst) kf_X7_told rfl wk_L_32 rfl rfl rfl rfl rfl dL_areComments_51 rfl (fun x51 M51 h51 => ?_)
        obtain ⟨rfl, hMq⟩ := h51; have hMq := hMq.symm; subst hMq
        refine g_istore hX dL_areComments_54 (Nat.le_of_ble_eq_true rfl) rfl ?_
        refine g_iload_n (i := 2) hX dL_areComments_56 rfl rfl rfl ?_
        refine g_iload hX dL_areComments_57 rfl rfl ?_
        refine g_iconst hX dL_areComments_59 ic_1 rfl ?_
        refine g_icmp_ne (tgt := 67) hX dL_areComments_60 (by decide) rfl (fun zc60 => ?_) (fun zc60 => absurd zc60 (by decide))
        refine g_iconst hX dL_areComments_67 ic_0 rfl ?_
        first | refine g_iaddN hX dL_areComments_68 rfl ?_ | refine g_iadd hX dL_areComments_68 rfl ?_
        refine g_istore_n (i := 2) hX dL_areComments_69 rfl (Nat.le_of_ble_eq_true rfl) rfl ?_
        refine g_iload hX dL_areComments_70 rfl rfl ?_
        refine g_if_lt (tgt := 240) hX dL_areComments_72 (by decide) rfl (fun zc72 => absurd zc72 (by decide)) (fun zc72 => ?_)
        refine g_iload hX dL_areComments_75 rfl rfl ?_
        refine g_iconst hX dL_areComments_77 ic_5 rfl ?_
        refine g_icmp_ge (tgt := 240) hX dL_areComments_78 (by decide) rfl (fun zc78 => absurd zc78 (by decide)) (fun zc78 => ?_)
        refine g_iload hX dL_areComments_81 rfl rfl ?_
        refine g_if_ne (tgt := 90) hX dL_areComments_83 (by decide) rfl (fun zc83 => absurd rfl zc83) (fun zc83 => ?_)
        refine g_iconst hX dL_areComments_86 ic_1 rfl ?_
        refine g_goto (n := 91) hX dL_areComments_87 (by decide) ?_
        refine g_aload_n (i := 0) hX dL_areComments_91 rfl rfl rfl ?_
        refine g_iconst hX dL_areComments_92 ic_4 rfl ?_
        refine g_callVi hX (q_cnt hW hH 4 (v := nI 1) rfl (by show gB op = _; rw [ho]; rfl)) kf_X7_count rfl wk_L_13 rfl rfl rfl rfl rfl dL_areComments_93 rfl (fun x93 M93 h93 => ?_)
        obtain ⟨rfl, hMq⟩ := h93; have hMq := hMq.symm; subst hMq
        refine g_iconst hX dL_areComments_96 ic_1 rfl ?_
        refine g_icmp_ne (tgt := 104) hX dL_areComments_97 (by decide) rfl (fun zc97 => absurd rfl zc97) (fun zc97 => ?_)
        refine g_iconst hX dL_areComments_100 ic_1 rfl ?_
        refine g_goto (n := 105) hX dL_areComments_101 (by decide) ?_
        refine g_icmp_ne (tgt := 240) hX dL_areComments_105 (by decide) rfl (fun zc105 => absurd rfl zc105) (fun zc105 => ?_)
        refine g_aload_n (i := 0) hX dL_areComments_108 rfl rfl rfl ?_
        refine g_iload hX dL_areComments_109 rfl rfl ?_
        refine g_iconst hX dL_areComments_111 ic_5 rfl ?_
        refine g_callVi hX (q_tol hW hc 5 (v := -4) rfl (by show (if M 21 c < 2 then -4 else M 22 c) = _; rw [hst]; rfl)) kf_X7_told rfl wk_L_32 rfl rfl rfl rfl rfl dL_areComments_112 rfl (fun x112 M112 h112 => ?_)
        obtain ⟨rfl, hMq⟩ := h112; have hMq := hMq.symm; subst hMq
        refine g_bipush hX dL_areComments_115 bc_m4 rfl ?_
        refine g_icmp_ne (tgt := 124) hX dL_areComments_117 (by decide) rfl (fun zc117 => absurd rfl zc117) (fun zc117 => ?_)
        refine g_iconst hX dL_areComments_120 ic_1 rfl ?_
        refine g_goto (n := 125) hX dL_areComments_121 (by decide) ?_
        refine g_iload hX dL_areComments_125 rfl rfl ?_
        refine g_iconst hX dL_areComments_127 ic_2 rfl ?_
        refine g_icmp_ge (tgt := 135) hX dL_areComments_128 (by decide) rfl (fun zc128 => absurd zc128 (by decide)) (fun zc128 => ?_)
        refine g_iconst hX dL_areComments_131 ic_1 rfl ?_
        refine g_goto (n := 136) hX dL_areComments_132 (by decide) ?_
        refine g_icmp_ne (tgt := 240) hX dL_areComments_136 (by decide) rfl (fun zc136 => absurd rfl zc136) (fun zc136 => ?_)
        refine g_aload_n (i := 0) hX dL_areComments_139 rfl rfl rfl ?_
        refine g_iload hX dL_areComments_140 rfl rfl ?_
        refine g_bipush hX dL_areComments_142 bc_6 rfl ?_
        refine g_callVi hX (q_tol hW hc 6 (v := -4) rfl (by show (if gaveB (M 21 c) then M 23 c else -4) = _; rw [hst]; rfl)) kf_X7_told rfl wk_L_32 rfl rfl rfl rfl rfl dL_areComments_144 rfl (fun x144 M144 h144 => ?_)
        obtain ⟨rfl, hMq⟩ := h144; have hMq := hMq.symm; subst hMq
        refine g_bipush hX dL_areComments_147 bc_m4 rfl ?_
        refine g_icmp_ne (tgt := 156) hX dL_areComments_149 (by decide) rfl (fun zc149 => absurd rfl zc149) (fun zc149 => ?_)
        refine g_iconst hX dL_areComments_152 ic_1 rfl ?_
        refine g_goto (n := 157) hX dL_areComments_153 (by decide) ?_
        refine g_iload hX dL_areComments_157 rfl rfl ?_
        refine g_iconst hX dL_areComments_159 ic_2 rfl ?_
        refine g_icmp_eq (tgt := 173) hX dL_areComments_160 (by decide) rfl (fun zc160 => absurd zc160 (by decide)) (fun zc160 => ?_)
        refine g_iload hX dL_areComments_163 rfl rfl ?_
        refine g_iconst hX dL_areComments_165 ic_3 rfl ?_
        refine g_icmp_eq (tgt := 173) hX dL_areComments_166 (by decide) rfl (fun zc166 => absurd zc166 (by decide)) (fun zc166 => ?_)
        refine g_iconst hX dL_areComments_169 ic_1 rfl ?_
        refine g_goto (n := 174) hX dL_areComments_170 (by decide) ?_
        refine g_icmp_ne (tgt := 240) hX dL_areComments_174 (by decide) rfl (fun zc174 => absurd rfl zc174) (fun zc174 => ?_)
        refine g_iload hX dL_areComments_177 rfl rfl ?_
        refine g_iconst hX dL_areComments_179 ic_2 rfl ?_
        refine g_icmp_ne (tgt := 201) hX dL_areComments_180 (by decide) rfl (fun zc180 => ?_) (fun zc180 => absurd zc180 (by decide))
        refine g_iload hX dL_areComments_201 rfl rfl ?_
        refine g_iconst hX dL_areComments_203 ic_2 rfl ?_
        refine g_icmp_lt (tgt := 222) hX dL_areComments_204 (by decide) rfl (fun zc204 => ?_) (fun zc204 => absurd (by decide) zc204)
        refine g_aload_n (i := 0) hX dL_areComments_222 rfl rfl rfl ?_
        refine g_aload_n (i := 0) hX dL_areComments_223 rfl rfl rfl ?_
        refine g_iload hX dL_areComments_224 rfl rfl ?_
        refine g_iconst hX dL_areComments_226 ic_1 rfl ?_
        refine g_callVi hX (q_tol hW hc 1 rfl t1) kf_X7_told rfl wk_L_32 rfl rfl rfl rfl rfl dL_areComments_227 rfl (fun x227 M227 h227 => ?_)
        obtain ⟨rfl, hMq⟩ := h227; have hMq := hMq.symm; subst hMq
        refine g_callVi hX (q_val hW h.as hpl) kf_X7_value rfl wk_L_29 rfl rfl rfl rfl rfl dL_areComments_230 rfl (fun x230 M230 h230 => ?_)
        obtain ⟨rfl, hMq⟩ := h230; have hMq := hMq.symm; subst hMq
        refine g_if_lt (tgt := 240) hX dL_areComments_233 (by decide) rfl (fun zc233 => absurd zc233 (Int32.not_lt.mpr hge)) (fun zc233 => ?_)
        refine g_iconst hX dL_areComments_236 ic_1 rfl ?_
        refine g_goto (n := 241) hX dL_areComments_237 (by decide) ?_
        refine g_istore_n (i := 3) hX dL_areComments_241 rfl (Nat.le_of_ble_eq_true rfl) rfl ?_
        refine g_iload_n (i := 3) hX dL_areComments_242 rfl rfl rfl ?_
        refine g_if_eq (tgt := 358) hX dL_areComments_243 (by decide) rfl (fun zc243 => absurd zc243 (by decide)) (fun zc243 => ?_)
        refine g_iload hX dL_areComments_246 rfl rfl ?_
        refine g_iconst hX dL_areComments_248 ic_1 rfl ?_
        refine g_icmp_ne (tgt := 358) hX dL_areComments_249 (by decide) rfl (fun zc249 => ?_) (fun zc249 => absurd zc249 (by decide))
        exact K358 _ _ _ _ _ hpn
      · have hpn : pc c + 1 = pc (c + 1) := by rw [pcs]; simp [pendB, hst]; rfl
        have hb0 : ∃ b, bstX M mb nk = some b := by
          cases hb : bstX M mb nk with
          | some b => exact ⟨b, rfl⟩
          | none =>
            have := bestTo_none.mp hb c hc
            simp [pendB, hst] at this
            exact absurd rfl this
        obtain ⟨b, hb⟩ := hb0
        obtain ⟨hb1, hb2⟩ := bestTo_lt hb
        have hnx : nx = nI b := by rw [hnx, hb]; rfl
        subst hnx
        have t1b : tolF M b 1 = M 8 (pl b) := by
          show M 8 (M 18 b).toNatClampNeg = _
          have := (f b hb1).2.2.1
          rw [(f b hb1).2.2.2, nI_clamp (by omega)]
        refine g_iload hX dL_areComments_32 rfl rfl ?_
        refine g_aload_n (i := 0) hX dL_areComments_34 rfl rfl rfl ?_
        refine g_bipush hX dL_areComments_35 bc_6 rfl ?_
        refine g_callVi hX (q_cnt hW hH 6 (v := nI nk) rfl rfl) kf_X7_count rfl wk_L_13 rfl rfl rfl rfl rfl dL_areComments_37 rfl (fun x37 M37 h37 => ?_)
        obtain ⟨rfl, hMq⟩ := h37; have hMq := hMq.symm; subst hMq
        first | refine g_icmp_geN (tgt := 364) hX dL_areComments_40 (by decide) rfl (by omega) (by omega) (fun zc40 => absurd zc40 (by omega)) (fun zc40 => ?_) | refine g_icmp_ge (tgt := 364) hX dL_areComments_40 (by decide) rfl (fun zc40 => absurd zc40 (by omega)) (fun zc40 => ?_)
        refine g_iload_n (i := 3) hX dL_areComments_43 rfl rfl rfl ?_
        refine g_if_eq (tgt := 364) hX dL_areComments_44 (by decide) rfl (fun zc44 => absurd zc44 (by decide)) (fun zc44 => ?_)
        refine g_aload_n (i := 0) hX dL_areComments_47 rfl rfl rfl ?_
        refine g_iload hX dL_areComments_48 rfl rfl ?_
        refine g_iconst hX dL_areComments_50 ic_4 rfl ?_
        refine g_callVi hX (q_tol hW hc 4 (v := nI 1) rfl hst) kf_X7_told rfl wk_L_32 rfl rfl rfl rfl rfl dL_areComments_51 rfl (fun x51 M51 h51 => ?_)
        obtain ⟨rfl, hMq⟩ := h51; have hMq := hMq.symm; subst hMq
        refine g_istore hX dL_areComments_54 (Nat.le_of_ble_eq_true rfl) rfl ?_
        refine g_iload_n (i := 2) hX dL_areComments_56 rfl rfl rfl ?_
        refine g_iload hX dL_areComments_57 rfl rfl ?_
        refine g_iconst hX dL_areComments_59 ic_1 rfl ?_
        refine g_icmp_ne (tgt := 67) hX dL_areComments_60 (by decide) rfl (fun zc60 => absurd rfl zc60) (fun zc60 => ?_)
        refine g_iconst hX dL_areComments_63 ic_1 rfl ?_
        refine g_goto (n := 68) hX dL_areComments_64 (by decide) ?_
        first | refine g_iaddN hX dL_areComments_68 rfl ?_ | refine g_iadd hX dL_areComments_68 rfl ?_
        refine g_istore_n (i := 2) hX dL_areComments_69 rfl (Nat.le_of_ble_eq_true rfl) rfl ?_
        refine g_iload hX dL_areComments_70 rfl rfl ?_
        refine g_if_lt (tgt := 240) hX dL_areComments_72 (by decide) rfl (fun zc72 => absurd zc72 (by decide)) (fun zc72 => ?_)
        refine g_iload hX dL_areComments_75 rfl rfl ?_
        refine g_iconst hX dL_areComments_77 ic_5 rfl ?_
        refine g_icmp_ge (tgt := 240) hX dL_areComments_78 (by decide) rfl (fun zc78 => absurd zc78 (by decide)) (fun zc78 => ?_)
        refine g_iload hX dL_areComments_81 rfl rfl ?_
        refine g_if_ne (tgt := 90) hX dL_areComments_83 (by decide) rfl (fun zc83 => ?_) (fun zc83 => absurd zc83 (by decide))
        refine g_iconst hX dL_areComments_90 ic_0 rfl ?_
        refine g_aload_n (i := 0) hX dL_areComments_91 rfl rfl rfl ?_
        refine g_iconst hX dL_areComments_92 ic_4 rfl ?_
        refine g_callVi hX (q_cnt hW hH 4 (v := nI 0) rfl (by show gB op = _; rw [ho]; rfl)) kf_X7_count rfl wk_L_13 rfl rfl rfl rfl rfl dL_areComments_93 rfl (fun x93 M93 h93 => ?_)
        obtain ⟨rfl, hMq⟩ := h93; have hMq := hMq.symm; subst hMq
        refine g_iconst hX dL_areComments_96 ic_1 rfl ?_
        refine g_icmp_ne (tgt := 104) hX dL_areComments_97 (by decide) rfl (fun zc97 => ?_) (fun zc97 => absurd zc97 (by decide))
        refine g_iconst hX dL_areComments_104 ic_0 rfl ?_
        refine g_icmp_ne (tgt := 240) hX dL_areComments_105 (by decide) rfl (fun zc105 => absurd rfl zc105) (fun zc105 => ?_)
        refine g_aload_n (i := 0) hX dL_areComments_108 rfl rfl rfl ?_
        refine g_iload hX dL_areComments_109 rfl rfl ?_
        refine g_iconst hX dL_areComments_111 ic_5 rfl ?_
        refine g_callVi hX (q_tol hW hc 5 (v := -4) rfl (by show (if M 21 c < 2 then -4 else M 22 c) = _; rw [hst]; rfl)) kf_X7_told rfl wk_L_32 rfl rfl rfl rfl rfl dL_areComments_112 rfl (fun x112 M112 h112 => ?_)
        obtain ⟨rfl, hMq⟩ := h112; have hMq := hMq.symm; subst hMq
        refine g_bipush hX dL_areComments_115 bc_m4 rfl ?_
        refine g_icmp_ne (tgt := 124) hX dL_areComments_117 (by decide) rfl (fun zc117 => absurd rfl zc117) (fun zc117 => ?_)
        refine g_iconst hX dL_areComments_120 ic_1 rfl ?_
        refine g_goto (n := 125) hX dL_areComments_121 (by decide) ?_
        refine g_iload hX dL_areComments_125 rfl rfl ?_
        refine g_iconst hX dL_areComments_127 ic_2 rfl ?_
        refine g_icmp_ge (tgt := 135) hX dL_areComments_128 (by decide) rfl (fun zc128 => absurd zc128 (by decide)) (fun zc128 => ?_)
        refine g_iconst hX dL_areComments_131 ic_1 rfl ?_
        refine g_goto (n := 136) hX dL_areComments_132 (by decide) ?_
        refine g_icmp_ne (tgt := 240) hX dL_areComments_136 (by decide) rfl (fun zc136 => absurd rfl zc136) (fun zc136 => ?_)
        refine g_aload_n (i := 0) hX dL_areComments_139 rfl rfl rfl ?_
        refine g_iload hX dL_areComments_140 rfl rfl ?_
        refine g_bipush hX dL_areComments_142 bc_6 rfl ?_
        refine g_callVi hX (q_tol hW hc 6 (v := -4) rfl (by show (if gaveB (M 21 c) then M 23 c else -4) = _; rw [hst]; rfl)) kf_X7_told rfl wk_L_32 rfl rfl rfl rfl rfl dL_areComments_144 rfl (fun x144 M144 h144 => ?_)
        obtain ⟨rfl, hMq⟩ := h144; have hMq := hMq.symm; subst hMq
        refine g_bipush hX dL_areComments_147 bc_m4 rfl ?_
        refine g_icmp_ne (tgt := 156) hX dL_areComments_149 (by decide) rfl (fun zc149 => absurd rfl zc149) (fun zc149 => ?_)
        refine g_iconst hX dL_areComments_152 ic_1 rfl ?_
        refine g_goto (n := 157) hX dL_areComments_153 (by decide) ?_
        refine g_iload hX dL_areComments_157 rfl rfl ?_
        refine g_iconst hX dL_areComments_159 ic_2 rfl ?_
        refine g_icmp_eq (tgt := 173) hX dL_areComments_160 (by decide) rfl (fun zc160 => absurd zc160 (by decide)) (fun zc160 => ?_)
        refine g_iload hX dL_areComments_163 rfl rfl ?_
        refine g_iconst hX dL_areComments_165 ic_3 rfl ?_
        refine g_icmp_eq (tgt := 173) hX dL_areComments_166 (by decide) rfl (fun zc166 => absurd zc166 (by decide)) (fun zc166 => ?_)
        refine g_iconst hX dL_areComments_169 ic_1 rfl ?_
        refine g_goto (n := 174) hX dL_areComments_170 (by decide) ?_
        refine g_icmp_ne (tgt := 240) hX dL_areComments_174 (by decide) rfl (fun zc174 => absurd rfl zc174) (fun zc174 => ?_)
        refine g_iload hX dL_areComments_177 rfl rfl ?_
        refine g_iconst hX dL_areComments_179 ic_2 rfl ?_
        refine g_icmp_ne (tgt := 201) hX dL_areComments_180 (by decide) rfl (fun zc180 => ?_) (fun zc180 => absurd zc180 (by decide))
        refine g_iload hX dL_areComments_201 rfl rfl ?_
        refine g_iconst hX dL_areComments_203 ic_2 rfl ?_
        refine g_icmp_lt (tgt := 222) hX dL_areComments_204 (by decide) rfl (fun zc204 => ?_) (fun zc204 => absurd (by decide) zc204)
        refine g_aload_n (i := 0) hX dL_areComments_222 rfl rfl rfl ?_
        refine g_aload_n (i := 0) hX dL_areComments_223 rfl rfl rfl ?_
        refine g_iload hX dL_areComments_224 rfl rfl ?_
        refine g_iconst hX dL_areComments_226 ic_1 rfl ?_
        refine g_callVi hX (q_tol hW hc 1 rfl t1) kf_X7_told rfl wk_L_32 rfl rfl rfl rfl rfl dL_areComments_227 rfl (fun x227 M227 h227 => ?_)
        obtain ⟨rfl, hMq⟩ := h227; have hMq := hMq.symm; subst hMq
        refine g_callVi hX (q_val hW h.as hpl) kf_X7_value rfl wk_L_29 rfl rfl rfl rfl rfl dL_areComments_230 rfl (fun x230 M230 h230 => ?_)
        obtain ⟨rfl, hMq⟩ := h230; have hMq := hMq.symm; subst hMq
        refine g_if_lt (tgt := 240) hX dL_areComments_233 (by decide) rfl (fun zc233 => absurd zc233 (Int32.not_lt.mpr hge)) (fun zc233 => ?_)
        refine g_iconst hX dL_areComments_236 ic_1 rfl ?_
        refine g_goto (n := 241) hX dL_areComments_237 (by decide) ?_
        refine g_istore_n (i := 3) hX dL_areComments_241 rfl (Nat.le_of_ble_eq_true rfl) rfl ?_
        refine g_iload_n (i := 3) hX dL_areComments_242 rfl rfl rfl ?_
        refine g_if_eq (tgt := 358) hX dL_areComments_243 (by decide) rfl (fun zc243 => absurd zc243 (by decide)) (fun zc243 => ?_)
        refine g_iload hX dL_areComments_246 rfl rfl ?_
        refine g_iconst hX dL_areComments_248 ic_1 rfl ?_
        refine g_icmp_ne (tgt := 358) hX dL_areComments_249 (by decide) rfl (fun zc249 => absurd rfl zc249) (fun zc249 => ?_)
        refine g_iload hX dL_areComments_252 rfl rfl ?_
        refine g_iload_n (i := 1) hX dL_areComments_254 rfl rfl rfl ?_
        skip
        by_cases hcb : c = b
        · skip
          first | refine g_icmp_eqN (tgt := 358) hX dL_areComments_255 (by decide) rfl (by omega) (by omega) (fun zc255 => ?_) (fun zc255 => absurd zc255 (by omega)) | refine g_icmp_eq (tgt := 358) hX dL_areComments_255 (by decide) rfl (fun zc255 => ?_) (fun zc255 => absurd zc255 (by omega))
          exact K358 _ _ _ _ _ hpn
        · obtain ⟨kc, kb, wc, wb, cc, cb, ⟨e1, e2, e3, e4, e5, e6⟩, ⟨u1, u2, u3, u4, u5, u6⟩, hrk⟩ := h.rank hb hc hst hcb
          have h30 : (2 : Nat) ^ 30 = 1073741824 := by decide
          first | refine g_icmp_eqN (tgt := 358) hX dL_areComments_255 (by decide) rfl (by omega) (by omega) (fun zc255 => absurd zc255 (by omega)) (fun zc255 => ?_) | refine g_icmp_eq (tgt := 358) hX dL_areComments_255 (by decide) rfl (fun zc255 => absurd zc255 (by omega)) (fun zc255 => ?_)
          refine g_aload_n (i := 0) hX dL_areComments_258 rfl rfl rfl ?_
          refine g_iload hX dL_areComments_259 rfl rfl ?_
          refine g_iconst hX dL_areComments_261 ic_2 rfl ?_
          refine g_callVi hX (q_tol hW hc 2 (v := nI kc) rfl e1) kf_X7_told rfl wk_L_32 rfl rfl rfl rfl rfl dL_areComments_262 rfl (fun x262 M262 h262 => ?_)
          obtain ⟨rfl, hMq⟩ := h262; have hMq := hMq.symm; subst hMq
          refine g_aload_n (i := 0) hX dL_areComments_265 rfl rfl rfl ?_
          refine g_iload_n (i := 1) hX dL_areComments_266 rfl rfl rfl ?_
          refine g_iconst hX dL_areComments_267 ic_2 rfl ?_
          refine g_callVi hX (q_tol hW hb1 2 (v := nI kb) rfl e2) kf_X7_told rfl wk_L_32 rfl rfl rfl rfl rfl dL_areComments_268 rfl (fun x268 M268 h268 => ?_)
          obtain ⟨rfl, hMq⟩ := h268; have hMq := hMq.symm; subst hMq
          refine g_isub hX dL_areComments_271 rfl ?_
          refine g_istore hX dL_areComments_272 (Nat.le_of_ble_eq_true rfl) rfl ?_
          refine g_aload_n (i := 0) hX dL_areComments_274 rfl rfl rfl ?_
          refine g_iload hX dL_areComments_275 rfl rfl ?_
          refine g_iconst hX dL_areComments_277 ic_1 rfl ?_
          refine g_callVi hX (q_tol hW hc 1 (v := nI cc) rfl (t1.trans e5)) kf_X7_told rfl wk_L_32 rfl rfl rfl rfl rfl dL_areComments_278 rfl (fun x278 M278 h278 => ?_)
          obtain ⟨rfl, hMq⟩ := h278; have hMq := hMq.symm; subst hMq
          refine g_aload_n (i := 0) hX dL_areComments_281 rfl rfl rfl ?_
          refine g_iload_n (i := 1) hX dL_areComments_282 rfl rfl rfl ?_
          refine g_iconst hX dL_areComments_283 ic_1 rfl ?_
          refine g_callVi hX (q_tol hW hb1 1 (v := nI cb) rfl (t1b.trans e6)) kf_X7_told rfl wk_L_32 rfl rfl rfl rfl rfl dL_areComments_284 rfl (fun x284 M284 h284 => ?_)
          obtain ⟨rfl, hMq⟩ := h284; have hMq := hMq.symm; subst hMq
          refine g_isub hX dL_areComments_287 rfl ?_
          refine g_istore hX dL_areComments_288 (Nat.le_of_ble_eq_true rfl) rfl ?_
          refine g_aload_n (i := 0) hX dL_areComments_290 rfl rfl rfl ?_
          refine g_aload_n (i := 0) hX dL_areComments_291 rfl rfl rfl ?_
          refine g_iload hX dL_areComments_292 rfl rfl ?_
          refine g_iconst hX dL_areComments_294 ic_0 rfl ?_
          refine g_callVi hX (q_tol hW hc 0 (v := nI (mb c)) rfl (f c hc).2.1) kf_X7_told rfl wk_L_32 rfl rfl rfl rfl rfl dL_areComments_295 rfl (fun x295 M295 h295 => ?_)
          obtain ⟨rfl, hMq⟩ := h295; have hMq := hMq.symm; subst hMq
          refine g_iconst hX dL_areComments_298 ic_0 rfl ?_
          refine g_callVi hX (q_mem hW (f c hc).1 0 (v := nI wc) rfl e3) kf_X7_member rfl wk_L_22 rfl rfl rfl rfl rfl dL_areComments_299 rfl (fun x299 M299 h299 => ?_)
          obtain ⟨rfl, hMq⟩ := h299; have hMq := hMq.symm; subst hMq
          refine g_aload_n (i := 0) hX dL_areComments_302 rfl rfl rfl ?_
          refine g_aload_n (i := 0) hX dL_areComments_303 rfl rfl rfl ?_
          refine g_iload_n (i := 1) hX dL_areComments_304 rfl rfl rfl ?_
          refine g_iconst hX dL_areComments_305 ic_0 rfl ?_
          refine g_callVi hX (q_tol hW hb1 0 (v := nI (mb b)) rfl (f b hb1).2.1) kf_X7_told rfl wk_L_32 rfl rfl rfl rfl rfl dL_areComments_306 rfl (fun x306 M306 h306 => ?_)
          obtain ⟨rfl, hMq⟩ := h306; have hMq := hMq.symm; subst hMq
          refine g_iconst hX dL_areComments_309 ic_0 rfl ?_
          refine g_callVi hX (q_mem hW (f b hb1).1 0 (v := nI wb) rfl e4) kf_X7_member rfl wk_L_22 rfl rfl rfl rfl rfl dL_areComments_310 rfl (fun x310 M310 h310 => ?_)
          obtain ⟨rfl, hMq⟩ := h310; have hMq := hMq.symm; subst hMq
          refine g_isub hX dL_areComments_313 rfl ?_
          refine g_istore hX dL_areComments_314 (Nat.le_of_ble_eq_true rfl) rfl ?_
          refine g_iload hX dL_areComments_316 rfl rfl ?_
          refine g_if_lt (tgt := 352) hX dL_areComments_318 (by decide) rfl (fun zc318 => ?_) (fun zc318 => ?_)
          · skip
            refine g_iconst hX dL_areComments_352 ic_1 rfl ?_
            refine g_goto (n := 357) hX dL_areComments_353 (by decide) ?_
            refine g_istore_n (i := 3) hX dL_areComments_357 rfl (Nat.le_of_ble_eq_true rfl) rfl ?_
            exact K358 _ _ _ _ _ hpn
          · skip
            have z318 : ¬ kc < kb := fun z => zc318 ((sub_neg (by omega) (by omega)).mpr z)
            refine g_iload hX dL_areComments_321 rfl rfl ?_
            refine g_if_ne (tgt := 356) hX dL_areComments_323 (by decide) rfl (fun zc323 => ?_) (fun zc323 => ?_)
            · skip
              have z323 : ¬ kc = kb := fun z => zc323 ((sub_zero (by omega) (by omega)).mpr z)
              exact absurd hrk (by omega)
            · skip
              have z323 : kc = kb := (sub_zero (by omega) (by omega)).mp zc323
              refine g_iload hX dL_areComments_326 rfl rfl ?_
              refine g_if_gt (tgt := 352) hX dL_areComments_328 (by decide) rfl (fun zc328 => ?_) (fun zc328 => ?_)
              · skip
                refine g_iconst hX dL_areComments_352 ic_1 rfl ?_
                refine g_goto (n := 357) hX dL_areComments_353 (by decide) ?_
                refine g_istore_n (i := 3) hX dL_areComments_357 rfl (Nat.le_of_ble_eq_true rfl) rfl ?_
                exact K358 _ _ _ _ _ hpn
              · skip
                have z328 : ¬ cb < cc := fun z => zc328 ((sub_pos (by omega) (by omega)).mpr z)
                refine g_iload hX dL_areComments_331 rfl rfl ?_
                refine g_if_ne (tgt := 356) hX dL_areComments_333 (by decide) rfl (fun zc333 => ?_) (fun zc333 => ?_)
                · skip
                  have z333 : ¬ cc = cb := fun z => zc333 ((sub_zero (by omega) (by omega)).mpr z)
                  exact absurd hrk (by omega)
                · skip
                  have z333 : cc = cb := (sub_zero (by omega) (by omega)).mp zc333
                  refine g_iload hX dL_areComments_336 rfl rfl ?_
                  refine g_if_lt (tgt := 352) hX dL_areComments_338 (by decide) rfl (fun zc338 => ?_) (fun zc338 => ?_)
                  · skip
                    refine g_iconst hX dL_areComments_352 ic_1 rfl ?_
                    refine g_goto (n := 357) hX dL_areComments_353 (by decide) ?_
                    refine g_istore_n (i := 3) hX dL_areComments_357 rfl (Nat.le_of_ble_eq_true rfl) rfl ?_
                    exact K358 _ _ _ _ _ hpn
                  · skip
                    have z338 : ¬ wc < wb := fun z => zc338 ((sub_neg (by omega) (by omega)).mpr z)
                    refine g_iload hX dL_areComments_341 rfl rfl ?_
                    refine g_if_ne (tgt := 356) hX dL_areComments_343 (by decide) rfl (fun zc343 => ?_) (fun zc343 => ?_)
                    · skip
                      have z343 : ¬ wc = wb := fun z => zc343 ((sub_zero (by omega) (by omega)).mpr z)
                      exact absurd hrk (by omega)
                    · skip
                      have z343 : wc = wb := (sub_zero (by omega) (by omega)).mp zc343
                      refine g_iload hX dL_areComments_346 rfl rfl ?_
                      refine g_iload_n (i := 1) hX dL_areComments_348 rfl rfl rfl ?_
                      first | refine g_icmp_leN (tgt := 356) hX dL_areComments_349 (by decide) rfl (by omega) (by omega) (fun zc349 => ?_) (fun zc349 => ?_) | refine g_icmp_le (tgt := 356) hX dL_areComments_349 (by decide) rfl (fun zc349 => ?_) (fun zc349 => ?_)
                      · skip
                        exact absurd hrk (by omega)
                      · skip
                        refine g_iconst hX dL_areComments_352 ic_1 rfl ?_
                        refine g_goto (n := 357) hX dL_areComments_353 (by decide) ?_
                        refine g_istore_n (i := 3) hX dL_areComments_357 rfl (Nat.le_of_ble_eq_true rfl) rfl ?_
                        exact K358 _ _ _ _ _ hpn
      · obtain ⟨d, hd, hdt⟩ := dd (by rw [hst]; decide)
        obtain ⟨g, hg31, hg⟩ := gg (by rw [hst]; rfl)
        have hpn : pc c + 0 = pc (c + 1) := by rw [pcs]; simp [pendB, hst]; decide
        refine g_iload hX dL_areComments_32 rfl rfl ?_
        refine g_aload_n (i := 0) hX dL_areComments_34 rfl rfl rfl ?_
        refine g_bipush hX dL_areComments_35 bc_6 rfl ?_
        refine g_callVi hX (q_cnt hW hH 6 (v := nI nk) rfl rfl) kf_X7_count rfl wk_L_13 rfl rfl rfl rfl rfl dL_areComments_37 rfl (fun x37 M37 h37 => ?_)
        obtain ⟨rfl, hMq⟩ := h37; have hMq := hMq.symm; subst hMq
        first | refine g_icmp_geN (tgt := 364) hX dL_areComments_40 (by decide) rfl (by omega) (by omega) (fun zc40 => absurd zc40 (by omega)) (fun zc40 => ?_) | refine g_icmp_ge (tgt := 364) hX dL_areComments_40 (by decide) rfl (fun zc40 => absurd zc40 (by omega)) (fun zc40 => ?_)
        refine g_iload_n (i := 3) hX dL_areComments_43 rfl rfl rfl ?_
        refine g_if_eq (tgt := 364) hX dL_areComments_44 (by decide) rfl (fun zc44 => absurd zc44 (by decide)) (fun zc44 => ?_)
        refine g_aload_n (i := 0) hX dL_areComments_47 rfl rfl rfl ?_
        refine g_iload hX dL_areComments_48 rfl rfl ?_
        refine g_iconst hX dL_areComments_50 ic_4 rfl ?_
        refine g_callVi hX (q_tol hW hc 4 (v := nI 2) rfl hst) kf_X7_told rfl wk_L_32 rfl rfl rfl rfl rfl dL_areComments_51 rfl (fun x51 M51 h51 => ?_)
        obtain ⟨rfl, hMq⟩ := h51; have hMq := hMq.symm; subst hMq
        refine g_istore hX dL_areComments_54 (Nat.le_of_ble_eq_true rfl) rfl ?_
        refine g_iload_n (i := 2) hX dL_areComments_56 rfl rfl rfl ?_
        refine g_iload hX dL_areComments_57 rfl rfl ?_
        refine g_iconst hX dL_areComments_59 ic_1 rfl ?_
        refine g_icmp_ne (tgt := 67) hX dL_areComments_60 (by decide) rfl (fun zc60 => ?_) (fun zc60 => absurd zc60 (by decide))
        refine g_iconst hX dL_areComments_67 ic_0 rfl ?_
        first | refine g_iaddN hX dL_areComments_68 rfl ?_ | refine g_iadd hX dL_areComments_68 rfl ?_
        refine g_istore_n (i := 2) hX dL_areComments_69 rfl (Nat.le_of_ble_eq_true rfl) rfl ?_
        refine g_iload hX dL_areComments_70 rfl rfl ?_
        refine g_if_lt (tgt := 240) hX dL_areComments_72 (by decide) rfl (fun zc72 => absurd zc72 (by decide)) (fun zc72 => ?_)
        refine g_iload hX dL_areComments_75 rfl rfl ?_
        refine g_iconst hX dL_areComments_77 ic_5 rfl ?_
        refine g_icmp_ge (tgt := 240) hX dL_areComments_78 (by decide) rfl (fun zc78 => absurd zc78 (by decide)) (fun zc78 => ?_)
        refine g_iload hX dL_areComments_81 rfl rfl ?_
        refine g_if_ne (tgt := 90) hX dL_areComments_83 (by decide) rfl (fun zc83 => ?_) (fun zc83 => absurd zc83 (by decide))
        refine g_iconst hX dL_areComments_90 ic_0 rfl ?_
        refine g_aload_n (i := 0) hX dL_areComments_91 rfl rfl rfl ?_
        refine g_iconst hX dL_areComments_92 ic_4 rfl ?_
        refine g_callVi hX (q_cnt hW hH 4 (v := nI 0) rfl (by show gB op = _; rw [ho]; rfl)) kf_X7_count rfl wk_L_13 rfl rfl rfl rfl rfl dL_areComments_93 rfl (fun x93 M93 h93 => ?_)
        obtain ⟨rfl, hMq⟩ := h93; have hMq := hMq.symm; subst hMq
        refine g_iconst hX dL_areComments_96 ic_1 rfl ?_
        refine g_icmp_ne (tgt := 104) hX dL_areComments_97 (by decide) rfl (fun zc97 => ?_) (fun zc97 => absurd zc97 (by decide))
        refine g_iconst hX dL_areComments_104 ic_0 rfl ?_
        refine g_icmp_ne (tgt := 240) hX dL_areComments_105 (by decide) rfl (fun zc105 => absurd rfl zc105) (fun zc105 => ?_)
        refine g_aload_n (i := 0) hX dL_areComments_108 rfl rfl rfl ?_
        refine g_iload hX dL_areComments_109 rfl rfl ?_
        refine g_iconst hX dL_areComments_111 ic_5 rfl ?_
        refine g_callVi hX (q_tol hW hc 5 (v := nI d) rfl (by show (if M 21 c < 2 then -4 else M 22 c) = _; rw [hst, if_neg (by decide)]; exact hd)) kf_X7_told rfl wk_L_32 rfl rfl rfl rfl rfl dL_areComments_112 rfl (fun x112 M112 h112 => ?_)
        obtain ⟨rfl, hMq⟩ := h112; have hMq := hMq.symm; subst hMq
        refine g_bipush hX dL_areComments_115 bc_m4 rfl ?_
        refine g_icmp_ne (tgt := 124) hX dL_areComments_117 (by decide) rfl (fun zc117 => ?_) (fun zc117 => absurd zc117 (fun q => nI_pos (n := d) (by omega) (by rw [q]; decide)))
        refine g_iconst hX dL_areComments_124 ic_0 rfl ?_
        refine g_iload hX dL_areComments_125 rfl rfl ?_
        refine g_iconst hX dL_areComments_127 ic_2 rfl ?_
        refine g_icmp_ge (tgt := 135) hX dL_areComments_128 (by decide) rfl (fun zc128 => ?_) (fun zc128 => absurd (by decide) zc128)
        refine g_iconst hX dL_areComments_135 ic_0 rfl ?_
        refine g_icmp_ne (tgt := 240) hX dL_areComments_136 (by decide) rfl (fun zc136 => absurd rfl zc136) (fun zc136 => ?_)
        refine g_aload_n (i := 0) hX dL_areComments_139 rfl rfl rfl ?_
        refine g_iload hX dL_areComments_140 rfl rfl ?_
        refine g_bipush hX dL_areComments_142 bc_6 rfl ?_
        refine g_callVi hX (q_tol hW hc 6 (v := nI g) rfl (by show (if gaveB (M 21 c) then M 23 c else -4) = _; rw [hst]; exact hg)) kf_X7_told rfl wk_L_32 rfl rfl rfl rfl rfl dL_areComments_144 rfl (fun x144 M144 h144 => ?_)
        obtain ⟨rfl, hMq⟩ := h144; have hMq := hMq.symm; subst hMq
        refine g_bipush hX dL_areComments_147 bc_m4 rfl ?_
        refine g_icmp_ne (tgt := 156) hX dL_areComments_149 (by decide) rfl (fun zc149 => ?_) (fun zc149 => absurd zc149 (fun q => nI_pos (n := g) (by omega) (by rw [q]; decide)))
        refine g_iconst hX dL_areComments_156 ic_0 rfl ?_
        refine g_iload hX dL_areComments_157 rfl rfl ?_
        refine g_iconst hX dL_areComments_159 ic_2 rfl ?_
        refine g_icmp_eq (tgt := 173) hX dL_areComments_160 (by decide) rfl (fun zc160 => ?_) (fun zc160 => absurd rfl zc160)
        refine g_iconst hX dL_areComments_173 ic_0 rfl ?_
        refine g_icmp_ne (tgt := 240) hX dL_areComments_174 (by decide) rfl (fun zc174 => absurd rfl zc174) (fun zc174 => ?_)
        refine g_iload hX dL_areComments_177 rfl rfl ?_
        refine g_iconst hX dL_areComments_179 ic_2 rfl ?_
        refine g_icmp_ne (tgt := 201) hX dL_areComments_180 (by decide) rfl (fun zc180 => absurd rfl zc180) (fun zc180 => ?_)
        refine g_aload_n (i := 0) hX dL_areComments_183 rfl rfl rfl ?_
        refine g_iload hX dL_areComments_184 rfl rfl ?_
        refine g_bipush hX dL_areComments_186 bc_6 rfl ?_
        refine g_callVi hX (q_tol hW hc 6 (v := nI g) rfl (by show (if gaveB (M 21 c) then M 23 c else -4) = _; rw [hst]; exact hg)) kf_X7_told rfl wk_L_32 rfl rfl rfl rfl rfl dL_areComments_188 rfl (fun x188 M188 h188 => ?_)
        obtain ⟨rfl, hMq⟩ := h188; have hMq := hMq.symm; subst hMq
        refine g_aload_n (i := 0) hX dL_areComments_191 rfl rfl rfl ?_
        refine g_iload hX dL_areComments_192 rfl rfl ?_
        refine g_iconst hX dL_areComments_194 ic_3 rfl ?_
        refine g_callVi hX (q_tol hW hc 3 (v := nI g) rfl ((k7 hst).symm.trans hg)) kf_X7_told rfl wk_L_32 rfl rfl rfl rfl rfl dL_areComments_195 rfl (fun x195 M195 h195 => ?_)
        obtain ⟨rfl, hMq⟩ := h195; have hMq := hMq.symm; subst hMq
        refine g_icmp_ne (tgt := 240) hX dL_areComments_198 (by decide) rfl (fun zc198 => absurd rfl zc198) (fun zc198 => ?_)
        refine g_iload hX dL_areComments_201 rfl rfl ?_
        refine g_iconst hX dL_areComments_203 ic_2 rfl ?_
        refine g_icmp_lt (tgt := 222) hX dL_areComments_204 (by decide) rfl (fun zc204 => absurd zc204 (by decide)) (fun zc204 => ?_)
        refine g_aload_n (i := 0) hX dL_areComments_207 rfl rfl rfl ?_
        refine g_iload hX dL_areComments_208 rfl rfl ?_
        refine g_iconst hX dL_areComments_210 ic_5 rfl ?_
        refine g_callVi hX (q_tol hW hc 5 (v := nI d) rfl (by show (if M 21 c < 2 then -4 else M 22 c) = _; rw [hst, if_neg (by decide)]; exact hd)) kf_X7_told rfl wk_L_32 rfl rfl rfl rfl rfl dL_areComments_211 rfl (fun x211 M211 h211 => ?_)
        obtain ⟨rfl, hMq⟩ := h211; have hMq := hMq.symm; subst hMq
        refine g_aload_n (i := 0) hX dL_areComments_214 rfl rfl rfl ?_
        refine g_iconst hX dL_areComments_215 ic_3 rfl ?_
        refine g_callVi hX (q_cnt hW hH 3 (v := nI td) rfl h.ht.1) kf_X7_count rfl wk_L_13 rfl rfl rfl rfl rfl dL_areComments_216 rfl (fun x216 M216 h216 => ?_)
        obtain ⟨rfl, hMq⟩ := h216; have hMq := hMq.symm; subst hMq
        first | refine g_icmp_gtN (tgt := 240) hX dL_areComments_219 (by decide) rfl (by omega) (by omega) (fun zc219 => absurd zc219 (by omega)) (fun zc219 => ?_) | refine g_icmp_gt (tgt := 240) hX dL_areComments_219 (by decide) rfl (fun zc219 => absurd zc219 (by omega)) (fun zc219 => ?_)
        refine g_aload_n (i := 0) hX dL_areComments_222 rfl rfl rfl ?_
        refine g_aload_n (i := 0) hX dL_areComments_223 rfl rfl rfl ?_
        refine g_iload hX dL_areComments_224 rfl rfl ?_
        refine g_iconst hX dL_areComments_226 ic_1 rfl ?_
        refine g_callVi hX (q_tol hW hc 1 rfl t1) kf_X7_told rfl wk_L_32 rfl rfl rfl rfl rfl dL_areComments_227 rfl (fun x227 M227 h227 => ?_)
        obtain ⟨rfl, hMq⟩ := h227; have hMq := hMq.symm; subst hMq
        refine g_callVi hX (q_val hW h.as hpl) kf_X7_value rfl wk_L_29 rfl rfl rfl rfl rfl dL_areComments_230 rfl (fun x230 M230 h230 => ?_)
        obtain ⟨rfl, hMq⟩ := h230; have hMq := hMq.symm; subst hMq
        refine g_if_lt (tgt := 240) hX dL_areComments_233 (by decide) rfl (fun zc233 => absurd zc233 (Int32.not_lt.mpr hge)) (fun zc233 => ?_)
        refine g_iconst hX dL_areComments_236 ic_1 rfl ?_
        refine g_goto (n := 241) hX dL_areComments_237 (by decide) ?_
        refine g_istore_n (i := 3) hX dL_areComments_241 rfl (Nat.le_of_ble_eq_true rfl) rfl ?_
        refine g_iload_n (i := 3) hX dL_areComments_242 rfl rfl rfl ?_
        refine g_if_eq (tgt := 358) hX dL_areComments_243 (by decide) rfl (fun zc243 => absurd zc243 (by decide)) (fun zc243 => ?_)
        refine g_iload hX dL_areComments_246 rfl rfl ?_
        refine g_iconst hX dL_areComments_248 ic_1 rfl ?_
        refine g_icmp_ne (tgt := 358) hX dL_areComments_249 (by decide) rfl (fun zc249 => ?_) (fun zc249 => absurd zc249 (by decide))
        exact K358 _ _ _ _ _ hpn
      · obtain ⟨d, hd, hdt⟩ := dd (by rw [hst]; decide)
        obtain ⟨g, hg31, hg⟩ := gg (by rw [hst]; rfl)
        have hpn : pc c + 0 = pc (c + 1) := by rw [pcs]; simp [pendB, hst]; decide
        refine g_iload hX dL_areComments_32 rfl rfl ?_
        refine g_aload_n (i := 0) hX dL_areComments_34 rfl rfl rfl ?_
        refine g_bipush hX dL_areComments_35 bc_6 rfl ?_
        refine g_callVi hX (q_cnt hW hH 6 (v := nI nk) rfl rfl) kf_X7_count rfl wk_L_13 rfl rfl rfl rfl rfl dL_areComments_37 rfl (fun x37 M37 h37 => ?_)
        obtain ⟨rfl, hMq⟩ := h37; have hMq := hMq.symm; subst hMq
        first | refine g_icmp_geN (tgt := 364) hX dL_areComments_40 (by decide) rfl (by omega) (by omega) (fun zc40 => absurd zc40 (by omega)) (fun zc40 => ?_) | refine g_icmp_ge (tgt := 364) hX dL_areComments_40 (by decide) rfl (fun zc40 => absurd zc40 (by omega)) (fun zc40 => ?_)
        refine g_iload_n (i := 3) hX dL_areComments_43 rfl rfl rfl ?_
        refine g_if_eq (tgt := 364) hX dL_areComments_44 (by decide) rfl (fun zc44 => absurd zc44 (by decide)) (fun zc44 => ?_)
        refine g_aload_n (i := 0) hX dL_areComments_47 rfl rfl rfl ?_
        refine g_iload hX dL_areComments_48 rfl rfl ?_
        refine g_iconst hX dL_areComments_50 ic_4 rfl ?_
        refine g_callVi hX (q_tol hW hc 4 (v := nI 3) rfl hst) kf_X7_told rfl wk_L_32 rfl rfl rfl rfl rfl dL_areComments_51 rfl (fun x51 M51 h51 => ?_)
        obtain ⟨rfl, hMq⟩ := h51; have hMq := hMq.symm; subst hMq
        refine g_istore hX dL_areComments_54 (Nat.le_of_ble_eq_true rfl) rfl ?_
        refine g_iload_n (i := 2) hX dL_areComments_56 rfl rfl rfl ?_
        refine g_iload hX dL_areComments_57 rfl rfl ?_
        refine g_iconst hX dL_areComments_59 ic_1 rfl ?_
        refine g_icmp_ne (tgt := 67) hX dL_areComments_60 (by decide) rfl (fun zc60 => ?_) (fun zc60 => absurd zc60 (by decide))
        refine g_iconst hX dL_areComments_67 ic_0 rfl ?_
        first | refine g_iaddN hX dL_areComments_68 rfl ?_ | refine g_iadd hX dL_areComments_68 rfl ?_
        refine g_istore_n (i := 2) hX dL_areComments_69 rfl (Nat.le_of_ble_eq_true rfl) rfl ?_
        refine g_iload hX dL_areComments_70 rfl rfl ?_
        refine g_if_lt (tgt := 240) hX dL_areComments_72 (by decide) rfl (fun zc72 => absurd zc72 (by decide)) (fun zc72 => ?_)
        refine g_iload hX dL_areComments_75 rfl rfl ?_
        refine g_iconst hX dL_areComments_77 ic_5 rfl ?_
        refine g_icmp_ge (tgt := 240) hX dL_areComments_78 (by decide) rfl (fun zc78 => absurd zc78 (by decide)) (fun zc78 => ?_)
        refine g_iload hX dL_areComments_81 rfl rfl ?_
        refine g_if_ne (tgt := 90) hX dL_areComments_83 (by decide) rfl (fun zc83 => ?_) (fun zc83 => absurd zc83 (by decide))
        refine g_iconst hX dL_areComments_90 ic_0 rfl ?_
        refine g_aload_n (i := 0) hX dL_areComments_91 rfl rfl rfl ?_
        refine g_iconst hX dL_areComments_92 ic_4 rfl ?_
        refine g_callVi hX (q_cnt hW hH 4 (v := nI 0) rfl (by show gB op = _; rw [ho]; rfl)) kf_X7_count rfl wk_L_13 rfl rfl rfl rfl rfl dL_areComments_93 rfl (fun x93 M93 h93 => ?_)
        obtain ⟨rfl, hMq⟩ := h93; have hMq := hMq.symm; subst hMq
        refine g_iconst hX dL_areComments_96 ic_1 rfl ?_
        refine g_icmp_ne (tgt := 104) hX dL_areComments_97 (by decide) rfl (fun zc97 => ?_) (fun zc97 => absurd zc97 (by decide))
        refine g_iconst hX dL_areComments_104 ic_0 rfl ?_
        refine g_icmp_ne (tgt := 240) hX dL_areComments_105 (by decide) rfl (fun zc105 => absurd rfl zc105) (fun zc105 => ?_)
        refine g_aload_n (i := 0) hX dL_areComments_108 rfl rfl rfl ?_
        refine g_iload hX dL_areComments_109 rfl rfl ?_
        refine g_iconst hX dL_areComments_111 ic_5 rfl ?_
        refine g_callVi hX (q_tol hW hc 5 (v := nI d) rfl (by show (if M 21 c < 2 then -4 else M 22 c) = _; rw [hst, if_neg (by decide)]; exact hd)) kf_X7_told rfl wk_L_32 rfl rfl rfl rfl rfl dL_areComments_112 rfl (fun x112 M112 h112 => ?_)
        obtain ⟨rfl, hMq⟩ := h112; have hMq := hMq.symm; subst hMq
        refine g_bipush hX dL_areComments_115 bc_m4 rfl ?_
        refine g_icmp_ne (tgt := 124) hX dL_areComments_117 (by decide) rfl (fun zc117 => ?_) (fun zc117 => absurd zc117 (fun q => nI_pos (n := d) (by omega) (by rw [q]; decide)))
        refine g_iconst hX dL_areComments_124 ic_0 rfl ?_
        refine g_iload hX dL_areComments_125 rfl rfl ?_
        refine g_iconst hX dL_areComments_127 ic_2 rfl ?_
        refine g_icmp_ge (tgt := 135) hX dL_areComments_128 (by decide) rfl (fun zc128 => ?_) (fun zc128 => absurd (by decide) zc128)
        refine g_iconst hX dL_areComments_135 ic_0 rfl ?_
        refine g_icmp_ne (tgt := 240) hX dL_areComments_136 (by decide) rfl (fun zc136 => absurd rfl zc136) (fun zc136 => ?_)
        refine g_aload_n (i := 0) hX dL_areComments_139 rfl rfl rfl ?_
        refine g_iload hX dL_areComments_140 rfl rfl ?_
        refine g_bipush hX dL_areComments_142 bc_6 rfl ?_
        refine g_callVi hX (q_tol hW hc 6 (v := nI g) rfl (by show (if gaveB (M 21 c) then M 23 c else -4) = _; rw [hst]; exact hg)) kf_X7_told rfl wk_L_32 rfl rfl rfl rfl rfl dL_areComments_144 rfl (fun x144 M144 h144 => ?_)
        obtain ⟨rfl, hMq⟩ := h144; have hMq := hMq.symm; subst hMq
        refine g_bipush hX dL_areComments_147 bc_m4 rfl ?_
        refine g_icmp_ne (tgt := 156) hX dL_areComments_149 (by decide) rfl (fun zc149 => ?_) (fun zc149 => absurd zc149 (fun q => nI_pos (n := g) (by omega) (by rw [q]; decide)))
        refine g_iconst hX dL_areComments_156 ic_0 rfl ?_
        refine g_iload hX dL_areComments_157 rfl rfl ?_
        refine g_iconst hX dL_areComments_159 ic_2 rfl ?_
        refine g_icmp_eq (tgt := 173) hX dL_areComments_160 (by decide) rfl (fun zc160 => absurd zc160 (by decide)) (fun zc160 => ?_)
        refine g_iload hX dL_areComments_163 rfl rfl ?_
        refine g_iconst hX dL_areComments_165 ic_3 rfl ?_
        refine g_icmp_eq (tgt := 173) hX dL_areComments_166 (by decide) rfl (fun zc166 => ?_) (fun zc166 => absurd rfl zc166)
        refine g_iconst hX dL_areComments_173 ic_0 rfl ?_
        refine g_icmp_ne (tgt := 240) hX dL_areComments_174 (by decide) rfl (fun zc174 => absurd rfl zc174) (fun zc174 => ?_)
        refine g_iload hX dL_areComments_177 rfl rfl ?_
        refine g_iconst hX dL_areComments_179 ic_2 rfl ?_
        refine g_icmp_ne (tgt := 201) hX dL_areComments_180 (by decide) rfl (fun zc180 => ?_) (fun zc180 => absurd zc180 (by decide))
        refine g_iload hX dL_areComments_201 rfl rfl ?_
        refine g_iconst hX dL_areComments_203 ic_2 rfl ?_
        refine g_icmp_lt (tgt := 222) hX dL_areComments_204 (by decide) rfl (fun zc204 => absurd zc204 (by decide)) (fun zc204 => ?_)
        refine g_aload_n (i := 0) hX dL_areComments_207 rfl rfl rfl ?_
        refine g_iload hX dL_areComments_208 rfl rfl ?_
        refine g_iconst hX dL_areComments_210 ic_5 rfl ?_
        refine g_callVi hX (q_tol hW hc 5 (v := nI d) rfl (by show (if M 21 c < 2 then -4 else M 22 c) = _; rw [hst, if_neg (by decide)]; exact hd)) kf_X7_told rfl wk_L_32 rfl rfl rfl rfl rfl dL_areComments_211 rfl (fun x211 M211 h211 => ?_)
        obtain ⟨rfl, hMq⟩ := h211; have hMq := hMq.symm; subst hMq
        refine g_aload_n (i := 0) hX dL_areComments_214 rfl rfl rfl ?_
        refine g_iconst hX dL_areComments_215 ic_3 rfl ?_
        refine g_callVi hX (q_cnt hW hH 3 (v := nI td) rfl h.ht.1) kf_X7_count rfl wk_L_13 rfl rfl rfl rfl rfl dL_areComments_216 rfl (fun x216 M216 h216 => ?_)
        obtain ⟨rfl, hMq⟩ := h216; have hMq := hMq.symm; subst hMq
        first | refine g_icmp_gtN (tgt := 240) hX dL_areComments_219 (by decide) rfl (by omega) (by omega) (fun zc219 => absurd zc219 (by omega)) (fun zc219 => ?_) | refine g_icmp_gt (tgt := 240) hX dL_areComments_219 (by decide) rfl (fun zc219 => absurd zc219 (by omega)) (fun zc219 => ?_)
        refine g_aload_n (i := 0) hX dL_areComments_222 rfl rfl rfl ?_
        refine g_aload_n (i := 0) hX dL_areComments_223 rfl rfl rfl ?_
        refine g_iload hX dL_areComments_224 rfl rfl ?_
        refine g_iconst hX dL_areComments_226 ic_1 rfl ?_
        refine g_callVi hX (q_tol hW hc 1 rfl t1) kf_X7_told rfl wk_L_32 rfl rfl rfl rfl rfl dL_areComments_227 rfl (fun x227 M227 h227 => ?_)
        obtain ⟨rfl, hMq⟩ := h227; have hMq := hMq.symm; subst hMq
        refine g_callVi hX (q_val hW h.as hpl) kf_X7_value rfl wk_L_29 rfl rfl rfl rfl rfl dL_areComments_230 rfl (fun x230 M230 h230 => ?_)
        obtain ⟨rfl, hMq⟩ := h230; have hMq := hMq.symm; subst hMq
        refine g_if_lt (tgt := 240) hX dL_areComments_233 (by decide) rfl (fun zc233 => absurd zc233 (Int32.not_lt.mpr hge)) (fun zc233 => ?_)
        refine g_iconst hX dL_areComments_236 ic_1 rfl ?_
        refine g_goto (n := 241) hX dL_areComments_237 (by decide) ?_
        refine g_istore_n (i := 3) hX dL_areComments_241 rfl (Nat.le_of_ble_eq_true rfl) rfl ?_
        refine g_iload_n (i := 3) hX dL_areComments_242 rfl rfl rfl ?_
        refine g_if_eq (tgt := 358) hX dL_areComments_243 (by decide) rfl (fun zc243 => absurd zc243 (by decide)) (fun zc243 => ?_)
        refine g_iload hX dL_areComments_246 rfl rfl ?_
        refine g_iconst hX dL_areComments_248 ic_1 rfl ?_
        refine g_icmp_ne (tgt := 358) hX dL_areComments_249 (by decide) rfl (fun zc249 => ?_) (fun zc249 => absurd zc249 (by decide))
        exact K358 _ _ _ _ _ hpn
      · obtain ⟨d, hd, hdt⟩ := dd (by rw [hst]; decide)
        have hpn : pc c + 0 = pc (c + 1) := by rw [pcs]; simp [pendB, hst]; decide
        refine g_iload hX dL_areComments_32 rfl rfl ?_
        refine g_aload_n (i := 0) hX dL_areComments_34 rfl rfl rfl ?_
        refine g_bipush hX dL_areComments_35 bc_6 rfl ?_
        refine g_callVi hX (q_cnt hW hH 6 (v := nI nk) rfl rfl) kf_X7_count rfl wk_L_13 rfl rfl rfl rfl rfl dL_areComments_37 rfl (fun x37 M37 h37 => ?_)
        obtain ⟨rfl, hMq⟩ := h37; have hMq := hMq.symm; subst hMq
        first | refine g_icmp_geN (tgt := 364) hX dL_areComments_40 (by decide) rfl (by omega) (by omega) (fun zc40 => absurd zc40 (by omega)) (fun zc40 => ?_) | refine g_icmp_ge (tgt := 364) hX dL_areComments_40 (by decide) rfl (fun zc40 => absurd zc40 (by omega)) (fun zc40 => ?_)
        refine g_iload_n (i := 3) hX dL_areComments_43 rfl rfl rfl ?_
        refine g_if_eq (tgt := 364) hX dL_areComments_44 (by decide) rfl (fun zc44 => absurd zc44 (by decide)) (fun zc44 => ?_)
        refine g_aload_n (i := 0) hX dL_areComments_47 rfl rfl rfl ?_
        refine g_iload hX dL_areComments_48 rfl rfl ?_
        refine g_iconst hX dL_areComments_50 ic_4 rfl ?_
        refine g_callVi hX (q_tol hW hc 4 (v := nI 4) rfl hst) kf_X7_told rfl wk_L_32 rfl rfl rfl rfl rfl dL_areComments_51 rfl (fun x51 M51 h51 => ?_)
        obtain ⟨rfl, hMq⟩ := h51; have hMq := hMq.symm; subst hMq
        refine g_istore hX dL_areComments_54 (Nat.le_of_ble_eq_true rfl) rfl ?_
        refine g_iload_n (i := 2) hX dL_areComments_56 rfl rfl rfl ?_
        refine g_iload hX dL_areComments_57 rfl rfl ?_
        refine g_iconst hX dL_areComments_59 ic_1 rfl ?_
        refine g_icmp_ne (tgt := 67) hX dL_areComments_60 (by decide) rfl (fun zc60 => ?_) (fun zc60 => absurd zc60 (by decide))
        refine g_iconst hX dL_areComments_67 ic_0 rfl ?_
        first | refine g_iaddN hX dL_areComments_68 rfl ?_ | refine g_iadd hX dL_areComments_68 rfl ?_
        refine g_istore_n (i := 2) hX dL_areComments_69 rfl (Nat.le_of_ble_eq_true rfl) rfl ?_
        refine g_iload hX dL_areComments_70 rfl rfl ?_
        refine g_if_lt (tgt := 240) hX dL_areComments_72 (by decide) rfl (fun zc72 => absurd zc72 (by decide)) (fun zc72 => ?_)
        refine g_iload hX dL_areComments_75 rfl rfl ?_
        refine g_iconst hX dL_areComments_77 ic_5 rfl ?_
        refine g_icmp_ge (tgt := 240) hX dL_areComments_78 (by decide) rfl (fun zc78 => absurd zc78 (by decide)) (fun zc78 => ?_)
        refine g_iload hX dL_areComments_81 rfl rfl ?_
        refine g_if_ne (tgt := 90) hX dL_areComments_83 (by decide) rfl (fun zc83 => ?_) (fun zc83 => absurd zc83 (by decide))
        refine g_iconst hX dL_areComments_90 ic_0 rfl ?_
        refine g_aload_n (i := 0) hX dL_areComments_91 rfl rfl rfl ?_
        refine g_iconst hX dL_areComments_92 ic_4 rfl ?_
        refine g_callVi hX (q_cnt hW hH 4 (v := nI 0) rfl (by show gB op = _; rw [ho]; rfl)) kf_X7_count rfl wk_L_13 rfl rfl rfl rfl rfl dL_areComments_93 rfl (fun x93 M93 h93 => ?_)
        obtain ⟨rfl, hMq⟩ := h93; have hMq := hMq.symm; subst hMq
        refine g_iconst hX dL_areComments_96 ic_1 rfl ?_
        refine g_icmp_ne (tgt := 104) hX dL_areComments_97 (by decide) rfl (fun zc97 => ?_) (fun zc97 => absurd zc97 (by decide))
        refine g_iconst hX dL_areComments_104 ic_0 rfl ?_
        refine g_icmp_ne (tgt := 240) hX dL_areComments_105 (by decide) rfl (fun zc105 => absurd rfl zc105) (fun zc105 => ?_)
        refine g_aload_n (i := 0) hX dL_areComments_108 rfl rfl rfl ?_
        refine g_iload hX dL_areComments_109 rfl rfl ?_
        refine g_iconst hX dL_areComments_111 ic_5 rfl ?_
        refine g_callVi hX (q_tol hW hc 5 (v := nI d) rfl (by show (if M 21 c < 2 then -4 else M 22 c) = _; rw [hst, if_neg (by decide)]; exact hd)) kf_X7_told rfl wk_L_32 rfl rfl rfl rfl rfl dL_areComments_112 rfl (fun x112 M112 h112 => ?_)
        obtain ⟨rfl, hMq⟩ := h112; have hMq := hMq.symm; subst hMq
        refine g_bipush hX dL_areComments_115 bc_m4 rfl ?_
        refine g_icmp_ne (tgt := 124) hX dL_areComments_117 (by decide) rfl (fun zc117 => ?_) (fun zc117 => absurd zc117 (fun q => nI_pos (n := d) (by omega) (by rw [q]; decide)))
        refine g_iconst hX dL_areComments_124 ic_0 rfl ?_
        refine g_iload hX dL_areComments_125 rfl rfl ?_
        refine g_iconst hX dL_areComments_127 ic_2 rfl ?_
        refine g_icmp_ge (tgt := 135) hX dL_areComments_128 (by decide) rfl (fun zc128 => ?_) (fun zc128 => absurd (by decide) zc128)
        refine g_iconst hX dL_areComments_135 ic_0 rfl ?_
        refine g_icmp_ne (tgt := 240) hX dL_areComments_136 (by decide) rfl (fun zc136 => absurd rfl zc136) (fun zc136 => ?_)
        refine g_aload_n (i := 0) hX dL_areComments_139 rfl rfl rfl ?_
        refine g_iload hX dL_areComments_140 rfl rfl ?_
        refine g_bipush hX dL_areComments_142 bc_6 rfl ?_
        refine g_callVi hX (q_tol hW hc 6 (v := -4) rfl (by show (if gaveB (M 21 c) then M 23 c else -4) = _; rw [hst]; rfl)) kf_X7_told rfl wk_L_32 rfl rfl rfl rfl rfl dL_areComments_144 rfl (fun x144 M144 h144 => ?_)
        obtain ⟨rfl, hMq⟩ := h144; have hMq := hMq.symm; subst hMq
        refine g_bipush hX dL_areComments_147 bc_m4 rfl ?_
        refine g_icmp_ne (tgt := 156) hX dL_areComments_149 (by decide) rfl (fun zc149 => absurd rfl zc149) (fun zc149 => ?_)
        refine g_iconst hX dL_areComments_152 ic_1 rfl ?_
        refine g_goto (n := 157) hX dL_areComments_153 (by decide) ?_
        refine g_iload hX dL_areComments_157 rfl rfl ?_
        refine g_iconst hX dL_areComments_159 ic_2 rfl ?_
        refine g_icmp_eq (tgt := 173) hX dL_areComments_160 (by decide) rfl (fun zc160 => absurd zc160 (by decide)) (fun zc160 => ?_)
        refine g_iload hX dL_areComments_163 rfl rfl ?_
        refine g_iconst hX dL_areComments_165 ic_3 rfl ?_
        refine g_icmp_eq (tgt := 173) hX dL_areComments_166 (by decide) rfl (fun zc166 => absurd zc166 (by decide)) (fun zc166 => ?_)
        refine g_iconst hX dL_areComments_169 ic_1 rfl ?_
        refine g_goto (n := 174) hX dL_areComments_170 (by decide) ?_
        refine g_icmp_ne (tgt := 240) hX dL_areComments_174 (by decide) rfl (fun zc174 => absurd rfl zc174) (fun zc174 => ?_)
        refine g_iload hX dL_areComments_177 rfl rfl ?_
        refine g_iconst hX dL_areComments_179 ic_2 rfl ?_
        refine g_icmp_ne (tgt := 201) hX dL_areComments_180 (by decide) rfl (fun zc180 => ?_) (fun zc180 => absurd zc180 (by decide))
        refine g_iload hX dL_areComments_201 rfl rfl ?_
        refine g_iconst hX dL_areComments_203 ic_2 rfl ?_
        refine g_icmp_lt (tgt := 222) hX dL_areComments_204 (by decide) rfl (fun zc204 => absurd zc204 (by decide)) (fun zc204 => ?_)
        refine g_aload_n (i := 0) hX dL_areComments_207 rfl rfl rfl ?_
        refine g_iload hX dL_areComments_208 rfl rfl ?_
        refine g_iconst hX dL_areComments_210 ic_5 rfl ?_
        refine g_callVi hX (q_tol hW hc 5 (v := nI d) rfl (by show (if M 21 c < 2 then -4 else M 22 c) = _; rw [hst, if_neg (by decide)]; exact hd)) kf_X7_told rfl wk_L_32 rfl rfl rfl rfl rfl dL_areComments_211 rfl (fun x211 M211 h211 => ?_)
        obtain ⟨rfl, hMq⟩ := h211; have hMq := hMq.symm; subst hMq
        refine g_aload_n (i := 0) hX dL_areComments_214 rfl rfl rfl ?_
        refine g_iconst hX dL_areComments_215 ic_3 rfl ?_
        refine g_callVi hX (q_cnt hW hH 3 (v := nI td) rfl h.ht.1) kf_X7_count rfl wk_L_13 rfl rfl rfl rfl rfl dL_areComments_216 rfl (fun x216 M216 h216 => ?_)
        obtain ⟨rfl, hMq⟩ := h216; have hMq := hMq.symm; subst hMq
        first | refine g_icmp_gtN (tgt := 240) hX dL_areComments_219 (by decide) rfl (by omega) (by omega) (fun zc219 => absurd zc219 (by omega)) (fun zc219 => ?_) | refine g_icmp_gt (tgt := 240) hX dL_areComments_219 (by decide) rfl (fun zc219 => absurd zc219 (by omega)) (fun zc219 => ?_)
        refine g_aload_n (i := 0) hX dL_areComments_222 rfl rfl rfl ?_
        refine g_aload_n (i := 0) hX dL_areComments_223 rfl rfl rfl ?_
        refine g_iload hX dL_areComments_224 rfl rfl ?_
        refine g_iconst hX dL_areComments_226 ic_1 rfl ?_
        refine g_callVi hX (q_tol hW hc 1 rfl t1) kf_X7_told rfl wk_L_32 rfl rfl rfl rfl rfl dL_areComments_227 rfl (fun x227 M227 h227 => ?_)
        obtain ⟨rfl, hMq⟩ := h227; have hMq := hMq.symm; subst hMq
        refine g_callVi hX (q_val hW h.as hpl) kf_X7_value rfl wk_L_29 rfl rfl rfl rfl rfl dL_areComments_230 rfl (fun x230 M230 h230 => ?_)
        obtain ⟨rfl, hMq⟩ := h230; have hMq := hMq.symm; subst hMq
        refine g_if_lt (tgt := 240) hX dL_areComments_233 (by decide) rfl (fun zc233 => absurd zc233 (Int32.not_lt.mpr hge)) (fun zc233 => ?_)
        refine g_iconst hX dL_areComments_236 ic_1 rfl ?_
        refine g_goto (n := 241) hX dL_areComments_237 (by decide) ?_
        refine g_istore_n (i := 3) hX dL_areComments_241 rfl (Nat.le_of_ble_eq_true rfl) rfl ?_
        refine g_iload_n (i := 3) hX dL_areComments_242 rfl rfl rfl ?_
        refine g_if_eq (tgt := 358) hX dL_areComments_243 (by decide) rfl (fun zc243 => absurd zc243 (by decide)) (fun zc243 => ?_)
        refine g_iload hX dL_areComments_246 rfl rfl ?_
        refine g_iconst hX dL_areComments_248 ic_1 rfl ?_
        refine g_icmp_ne (tgt := 358) hX dL_areComments_249 (by decide) rfl (fun zc249 => ?_) (fun zc249 => absurd zc249 (by decide))
        exact K358 _ _ _ _ _ hpn
  cases hb : bstX M mb nk with
  | none =>
    refine g_aload_n (i := 0) hX dL_areComments_0 rfl rfl rfl ?_
    refine g_callVi hX (gInt_e (c_X7_next E hW) (y := -4) (by rw [hb]; rfl)) kf_X7_next rfl wk_L_42 rfl rfl rfl rfl rfl dL_areComments_1 rfl (fun x1 M1 h1 => ?_)
    obtain ⟨rfl, hMq⟩ := h1; have hMq := hMq.symm; subst hMq
    refine g_istore_n (i := 1) hX dL_areComments_4 rfl (Nat.le_of_ble_eq_true rfl) rfl ?_
    refine g_iconst hX dL_areComments_5 ic_0 rfl ?_
    refine g_istore_n (i := 2) hX dL_areComments_6 rfl (Nat.le_of_ble_eq_true rfl) rfl ?_
    refine g_iload_n (i := 1) hX dL_areComments_7 rfl rfl rfl ?_
    refine g_bipush hX dL_areComments_8 bc_m4 rfl ?_
    refine g_icmp_eq (tgt := 23) hX dL_areComments_10 (by decide) rfl (fun zc10 => ?_) (fun zc10 => absurd rfl zc10)
    refine g_iconst hX dL_areComments_23 ic_1 rfl ?_
    refine g_goto (n := 28) hX dL_areComments_24 (by decide) ?_
    refine g_istore_n (i := 3) hX dL_areComments_28 rfl (Nat.le_of_ble_eq_true rfl) rfl ?_
    refine g_iconst hX dL_areComments_29 ic_0 rfl ?_
    refine g_istore hX dL_areComments_30 (Nat.le_of_ble_eq_true rfl) rfl ?_
    have := L 0 (Nat.zero_le _) none none none none
    rw [hpc, hnx, hb] at this
    exact this
  | some b =>
    obtain ⟨hb1, hb2⟩ := bestTo_lt hb
    refine g_aload_n (i := 0) hX dL_areComments_0 rfl rfl rfl ?_
    refine g_callVi hX (gInt_e (c_X7_next E hW) (y := nI b) (by rw [hb]; rfl)) kf_X7_next rfl wk_L_42 rfl rfl rfl rfl rfl dL_areComments_1 rfl (fun x1 M1 h1 => ?_)
    obtain ⟨rfl, hMq⟩ := h1; have hMq := hMq.symm; subst hMq
    refine g_istore_n (i := 1) hX dL_areComments_4 rfl (Nat.le_of_ble_eq_true rfl) rfl ?_
    refine g_iconst hX dL_areComments_5 ic_0 rfl ?_
    refine g_istore_n (i := 2) hX dL_areComments_6 rfl (Nat.le_of_ble_eq_true rfl) rfl ?_
    refine g_iload_n (i := 1) hX dL_areComments_7 rfl rfl rfl ?_
    refine g_bipush hX dL_areComments_8 bc_m4 rfl ?_
    refine g_icmp_eq (tgt := 23) hX dL_areComments_10 (by decide) rfl (fun zc10 => absurd zc10 (fun q => nI_pos (n := b) (by omega) (by rw [q]; decide))) (fun zc10 => ?_)
    refine g_aload_n (i := 0) hX dL_areComments_13 rfl rfl rfl ?_
    refine g_iload_n (i := 1) hX dL_areComments_14 rfl rfl rfl ?_
    refine g_iconst hX dL_areComments_15 ic_4 rfl ?_
    refine g_callVi hX (q_tol hW hb1 4 (v := nI 1) rfl (of_decide_eq_true hb2)) kf_X7_told rfl wk_L_32 rfl rfl rfl rfl rfl dL_areComments_16 rfl (fun x16 M16 h16 => ?_)
    obtain ⟨rfl, hMq⟩ := h16; have hMq := hMq.symm; subst hMq
    refine g_iconst hX dL_areComments_19 ic_1 rfl ?_
    refine g_icmp_ne (tgt := 27) hX dL_areComments_20 (by decide) rfl (fun zc20 => absurd rfl zc20) (fun zc20 => ?_)
    refine g_iconst hX dL_areComments_23 ic_1 rfl ?_
    refine g_goto (n := 28) hX dL_areComments_24 (by decide) ?_
    refine g_istore_n (i := 3) hX dL_areComments_28 rfl (Nat.le_of_ble_eq_true rfl) rfl ?_
    refine g_iconst hX dL_areComments_29 ic_0 rfl ?_
    refine g_istore hX dL_areComments_30 (Nat.le_of_ble_eq_true rfl) rfl ?_
    have := L 0 (Nat.zero_le _) none none none none
    rw [hpc, hnx, hb] at this
    exact this
end

