section
variable {X : bX} {B : bB} {cc : ByteArray} {own : String} {nL f lo mc ms : Nat} {ws : va_W} {cells slots pc n : Nat} {ls : List (Nat × Value)} {st : List Value} {Q : State → Prop}
/-- the first settings, read off their constant, copied and cast: three instructions -/
theorem b_first (hX : bOk X B cc RX5 nL f lo mc ms) (hf : Nat.ble 1 f = true) (hlo : Nat.ble 30 lo = true) (hst : (st.map fun v => v.category).sum ≤ 8) (hcm : Nat.ble (cells + 1) mc = true) (hsm : Nat.ble (slots + 5) ms = true) (hd1 : decode cc pc = .ok (.getstatic 39, 3)) (hd2 : decode cc (pc + 3) = .ok (.invokevirtual 43, 3)) (hd3 : decode cc (pc + 3 + 3) = .ok (.checkcast 44, 3)) (hn : pc + 3 + 3 + 3 = n)
    (kk : ∀ q : Nat, bG X B (ws ++ [(q, .inl (B.2.2.1, 5, .inl gFi))]) (cells + 1) (slots + 5) n ls (.ref q :: st) Q) : bG X B ws cells slots pc ls st Q := by
  obtain ⟨p, e, R, s, m, args, below, meth, c, A⟩ := X
  intro H locs lsr hP hD hS hL
  subst hn
  obtain ⟨⟨hexec, hb, hml, hown, hts⟩, -, ⟨hRf, hRl, hRc, hRs⟩, ⟨hK, hN, -, hcl, hnm, t, hZ, cell, g1, g2, g3, g4, g5, g6⟩, hA⟩ := hX
  have hw : va_Nw (.fieldLinkNest RX5 39 "CommitteeBallots" "FIRST_SETTINGS" "[I" "CommitteeBallots") s := hN _ (List.mem_of_getElem? (i := 5) rfl)
  refine va_getsN hexec hb hZ hS hown (va_Nw.use (A := args) rfl hw) (fun _ h => h) hd1 ?_
  have hsz : cell.slots.size = 5 := by rw [g5]; exact arrV_size _ _ _
  have hcellE : ({ cls := cell.cls, slots := cell.slots } : Cell) = vp_cell B.2.2.1 (5, .inl gFi) := by rw [g2, g5]; rfl
  have hlt : t < s.heap.size := (Array.getElem?_eq_some_iff.mp g1).1
  obtain ⟨c0, t0', f1, f2, f3⟩ := Cond.castable_spec (va_Nw.use (A := args) rfl hcl)
  cases hnm.symm.trans f1
  intro T hT Y
  have hcellT : T.heap[t]? = some cell := by rw [hT, hS.2.1 t hlt g6]; exact g1
  obtain ⟨-, kA, hkA, comp, hkind⟩ := State.isArrayOf_alike Y.warmed.alike ((hK.2 0 _ rfl).1 0 (fun _ => .null))
  obtain ⟨-, kS, hkS, compS, hkindS⟩ := (hK.2 0 _ rfl).1 0 (fun _ => .null)
  have h1 := Nat.le_of_ble_eq_true hf
  have h2 := Nat.le_of_ble_eq_true hlo
  have h3 := Nat.le_of_ble_eq_true hcm
  have h4 := Nat.le_of_ble_eq_true hsm
  have l1 : Cond.methodLink RX5 43 ⟨"[I", "clone", "()Ljava/lang/Object;"⟩ ∈ gW := gW_1 (List.mem_of_getElem? (i := 186) rfl) rfl
  have l2 : Cond.sameMethod "[I" "java/lang/Object" "clone" "()Ljava/lang/Object;" ∈ gW := gW_1 (List.mem_of_getElem? (i := 187) rfl) rfl
  have l3 : Cond.native ⟨"java/lang/Object", "clone", "()Ljava/lang/Object;"⟩ ∈ gW := gW_1 (List.mem_of_getElem? (i := 188) rfl) rfl
  have l4 : Cond.instanceMethod ⟨"java/lang/Object", "clone", "()Ljava/lang/Object;"⟩ ∈ gW := gW_1 (List.mem_of_getElem? (i := 189) rfl) rfl
  have l5 : Cond.selects "[I" ⟨"[I", "clone", "()Ljava/lang/Object;"⟩ ⟨"java/lang/Object", "clone", "()Ljava/lang/Object;"⟩ ∈ gW := gW_1 (List.mem_of_getElem? (i := 190) rfl) rfl
  obtain ⟨vm', X', hstep⟩ := Y.cloneArray hexec hown (hts _ l1) (hts _ l2) (hts _ l3) (hts _ l4) (hts _ l5) (a := t) (cell := cell) hcellT (fun k h => by rw [h] at g3; cases g3) g4 (by rw [g2]; exact hnm) f2 (by rw [g2]; exact f3)
    (fun i v hv => by
      have hk' : T.vm.classes[B.2.2.1]? = some kA := hkA
      rw [g2]
      rw [g5] at hv
      have hi : i < 5 := by
        have h := (Array.getElem?_eq_some_iff.mp hv).1
        rw [show (vp_cell B.2.2.1 (5, .inl gFi)).slots.size = 5 from arrV_size _ _ _] at h
        exact h
      have hv2 : v = .int (gFi i) := by
        have h := arrV_read B.2.2.1 (fun j => Value.int (gFi j)) hi
        exact Option.some.inj (hv.symm.trans h)
      subst hv2
      simp [State.fitsSlot, State.slotType?, hk', hkind, fits])
    (g := F0 m (pc + 3) lsr (.ref t :: st)) rfl (by show lsr.size = _; exact hL.1) rfl (by rw [hb]; exact hd2) (by omega) (by show 2 * 0 + _ + 14 ≤ _; omega) (by omega) (by rw [hsz]; omega) (hloader := by rw [g2]; exact Vm.clonesLoader_of_array hkS hkindS)
  rw [hcellE, hsz] at X'
  generalize hH1 : H.push (vp_cell B.2.2.1 (5, .inl gFi)) = H1
  have z1 : H1.size = H.size + 1 := by rw [← hH1, Array.size_push]
  have e1 : H1[H.size]? = some (vp_cell B.2.2.1 (5, .inl gFi)) := by rw [← hH1, Array.getElem?_push_size]
  have o1 : ∀ q : Nat, q < H.size → H1[q]? = H[q]? := fun q hq => by rw [← hH1, Array.getElem?_push, if_neg (Nat.ne_of_lt hq)]
  have hk : ∀ (k : Nat) (y : Nat × va_E), ws[k]? = some y → H1[y.1]? = H[y.1]? := fun k y hy => o1 y.1 ((hP k y hy).lt)
  have hP1 : va_P B.2.1 vwCl (ws ++ [(H.size, .inl (B.2.2.1, 5, .inl gFi))]) H1 := (hP.kept hk).app (fun k y hy => by
      have hz : k < 1 := (List.getElem?_eq_some_iff.mp hy).1
      rw [show k = 0 by omega] at hy
      cases hy
      exact e1)
  have hD1 : va_D A (ws ++ [(H.size, .inl (B.2.2.1, 5, .inl gFi))]) := hD.push hP rfl (hA _ hS.1)
  have hS1 : va_S A s.heap H1 locs := ⟨Nat.le_trans hS.1 (by omega), fun y h1 h2 => (o1 y (Nat.lt_of_lt_of_le h1 hS.1)).trans (hS.2.1 y h1 h2), hS.2.2⟩
  have hlast : (ws ++ [(H.size, (Sum.inl (B.2.2.1, 5, .inl gFi) : va_E))])[ws.length]? = some (H.size, .inl (B.2.2.1, 5, .inl gFi)) := by rw [List.getElem?_append_right (Nat.le_refl _), Nat.sub_self]; rfl
  have l6 : Cond.classLink RX5 44 "[I" ∈ gW := wn_X5_44
  have hgo : W p B.1 e R s m args below meth c H1 locs (cells + 1) (slots + 5) Q (F0 m (pc + 3 + 3) lsr (.ref H.size :: st)) := va_castA hexec hb hown (hts _ l6) hP1 ws.length hlast hnm hd3 (kk H.size H1 locs lsr hP1 hD1 hS1 hL)
  obtain ⟨tt, b1, b2⟩ := hgo ((T.setVm vm').pushCell (vp_cell B.2.2.1 (5, .inl gFi))) (by rw [← hH1, ← hT]; rfl) X'
  refine ⟨tt, hstep tt ?_, b2⟩
  rw [hcellE, hT]
  exact b1
theorem b_join {A0 : Nat → Prop} {D : va_G} {cl : List vw_C} {w0 w1 : va_W} {q : Nat} {e : va_E} {H H1 : Heap} (hP : va_P D cl (w0 ++ [(q, e)]) H) (hD : va_D A0 (w0 ++ [(q, e)])) (hk : ∀ a : Nat, a < H.size → ¬ bA q H.size a → H1[a]? = H[a]?) (hF : ∀ a, bA q H.size a → A0 a) (hP1 : va_P D cl w1 H1) (hD1 : va_D (bA q H.size) w1) : va_P D cl (w0 ++ w1) H1 ∧ va_D A0 (w0 ++ w1) := by
  have low : ∀ (k : Nat) (x : Nat × va_E), w0[k]? = some x → (w0 ++ [(q, e)])[k]? = some x := fun k x hx => by
    rw [List.getElem?_append_left (List.getElem?_eq_some_iff.mp hx).1]; exact hx
  have hlast : (w0 ++ [(q, e)])[w0.length]? = some (q, e) := by rw [List.getElem?_append_right (Nat.le_refl _), Nat.sub_self]; rfl
  have apart : ∀ (k : Nat) (x : Nat × va_E), w0[k]? = some x → x.1 < H.size ∧ ¬ bA q H.size x.1 := by
    intro k x hx
    have hl := (hP k x (low k x hx)).lt
    refine ⟨hl, fun h => ?_⟩
    rcases h with h | h
    · have h1 := hD.1 k w0.length x (q, e) (low k x hx) hlast h
      have h2 := (List.getElem?_eq_some_iff.mp hx).1
      omega
    · omega
  refine ⟨va_P.app (fun k x hx => ?_) hP1, va_D.app ⟨fun i j x y hx hy => hD.1 i j x y (low i x hx) (low j y hy), fun k x hx => hD.2 k x (low k x hx)⟩ (hD1.weaken (fun k x _ h => hF x.1 h)) (fun i j x y hx hy hxy => ?_)⟩
  · obtain ⟨g1, g2⟩ := apart k x hx
    exact (hP k x (low k x hx)).kept (hk x.1 g1 g2)
  · exact (apart i x hx).2 (by rw [hxy]; exact hD1.2 j y hy)
theorem b_run {p : Program} {l : Launch} {e : Env} {R : Room} {s : State} {m : MethodId} {args : Array Value} {below : List Frame} {meth : Method} {c : Code} {A : Nat → Prop} {H : Heap} {locs : List Loc} {lsr : Array Slot} {st0 rest : List Value} {a : Array Value} {q r c1 n1 : Nat} {ci : Nat} {fs : List Value} {sh : List gSh} {M : gM}
    (hr : va_Run p l e R s m args below meth c H locs cells slots c1 n1 (F0 m pc lsr st0) rest (bPost B q H.size r sh M a) (bA q H.size)) (hP : va_P B.2.1 vwCl (ws ++ [(q, .inr (ci, fs))]) H) (hD : va_D A (ws ++ [(q, .inr (ci, fs))])) (hS : va_S A s.heap H locs) (hA : ∀ x, bA q H.size x → A x)
    (kk : ∀ (ρ : Nat → Nat) (H1 : Heap) (locs1 : List Loc), ρ r = q → va_P B.2.1 vwCl (ws ++ blk B ρ sh M) H1 → va_D A (ws ++ blk B ρ sh M) → va_S A s.heap H1 locs1 → W p l e R s m args below meth c H1 locs1 (cells + c1) (slots + n1) Q (F0 m (pc + 3) lsr rest)) : W p l e R s m args below meth c H locs cells slots Q (F0 m pc lsr st0) := by
  intro T hT X
  obtain ⟨v, st₀, t, T', L, h0, X', hL, e1, e2, ⟨⟨hv, ρ, hρ, hp, hdd⟩, hz, hk⟩, hst⟩ := hr T hT X
  cases hv
  rw [h0] at hz hk
  have hj := b_join hP hD hk hA hp hdd
  rw [← e1] at hj
  obtain ⟨t2, a1, b1⟩ := kk ρ T'.heap (locs ++ L) hρ hj.1 hj.2
    ⟨Nat.le_trans hS.1 (by rw [e1]; exact hz), fun x h1 h2 => by rw [e1, hk x (Nat.lt_of_lt_of_le h1 hS.1) (fun z => h2 (hA x z))]; exact hS.2.1 x h1 h2, fun x hx => by
      rcases List.mem_append.mp hx with h | h
      · exact hS.2.2 x h
      · exact hA _ (hL x h)⟩ T' rfl X'
  exact ⟨t2, hst t2 a1, b1⟩
def bFact (k : gK) : Prop := Cond.code k.1 k.2.1 k.2.2.1 none ∈ gW ∧ k.2.2.2.1 = none ∧ Cond.initialized k.1.cls ∈ gW ∧ (k.1.cls ≠ "java/lang/invoke/MethodHandle" ∧ k.1.cls ≠ "java/lang/invoke/VarHandle") ∧ (parseMethodDescriptor k.1.desc).map (fun d => d.parameters.length) = some 0 ∧ k.1.name = "<init>" ∧ Cond.instanceMethod k.1 ∈ gW
/-- a call of a constructor of a nest mate, over the object just made -/
theorem b_callN (hX : bOk X B cc own nL f lo mc ms) {k : gK} {c1 n1 ci r idx q : Nat} {host : String} {fs : List Value} {sh : List gSh} {M : gM} (hM : bMet B k c1 n1 ci fs r sh M) (hF : bFact k) (hr : gRoom f lo k = true) (hlink : Cond.methodLinkNest own idx k.1 host ∈ gNest) (hst : (st.map fun v => v.category).sum ≤ 8) (hcm : Nat.ble (cells + c1) mc = true) (hsm : Nat.ble (slots + n1) ms = true) (hd : decode cc pc = .ok (.invokespecial idx, 3)) (hn : pc + 3 = n)
    (kk : ∀ ρ : Nat → Nat, ρ r = q → bG X B (ws ++ blk B ρ sh M) (cells + c1) (slots + n1) n ls st Q) : bG X B (ws ++ [(q, .inr (ci, fs))]) cells slots pc ls (.ref q :: st) Q := by
  obtain ⟨p, e, R, s, m, args, below, meth, c, A⟩ := X
  intro H locs lsr hP hD hS hL
  subst hn
  obtain ⟨h1, h1r, h2, h3, h4, h5, h6⟩ := hF
  simp only [Bool.and_eq_true, gRoom] at hr
  have hlast : (ws ++ [(q, (Sum.inr (ci, fs) : va_E))])[ws.length]? = some (q, .inr (ci, fs)) := by rw [List.getElem?_append_right (Nat.le_refl _), Nat.sub_self]; rfl
  have hsub : ∀ x, bA q H.size x → A x := fun x hx => by
    rcases hx with rfl | hx
    · exact hD.2 _ _ hlast
    · exact hX.2.2.2.2 x (Nat.le_trans hS.1 hx)
  obtain ⟨y, code, maxL, ret, fr, lc⟩ := k
  obtain rfl : ret = none := h1r
  have hrun := va_runIN (p := p) (l := B.1) (e := e) (below := below) (meth := meth) (H := H) (locs := locs) (cells := cells) (slots := slots) (b := q) (As := []) (rest := st) (g := F0 m pc lsr (.ref q :: st)) hX.1 (hM q H.size) ⟨va_cnB 0 hX.1.2.2.2.2 (gC_goodW h1) rfl rfl rfl (hX.2.2.2.1.2.1 _ hlink) (hX.1.2.2.2.2 _ h2) ⟨h3.1, h3.2, h4⟩ ⟨by rw [hX.2.2.1.1]; exact Nat.le_of_ble_eq_true hr.1, by rw [hX.2.2.1.2.1]; exact Nat.le_of_ble_eq_true hr.2⟩, h5, hX.1.2.2.2.2 _ h6⟩
    ⟨bPre.blind, fun U hU hW => ⟨rfl, by rw [hU], fun k x hk => by
        have hz : k < 1 := (List.getElem?_eq_some_iff.mp hk).1
        rw [show k = 0 by omega] at hk
        cases hk
        rw [hU]
        exact hP _ _ hlast, hX.2.2.2.1.call (locs := locs) (by rw [hU]; exact hS) hW hsub⟩⟩ rfl rfl (by show lsr.size = nL; rw [hL.1]; exact hX.1.2.2.1) rfl (lv_room hst) hd ⟨by rw [hX.2.2.1.2.2.1]; exact Nat.le_of_ble_eq_true hcm, by rw [hX.2.2.1.2.2.2]; exact Nat.le_of_ble_eq_true hsm⟩
  exact b_run hrun hP hD hS hsub (fun ρ H1 locs1 hρ hP1 hD1 hS1 => kk ρ hρ H1 locs1 lsr hP1 hD1 hS1 hL)
theorem b_callI (hX : bOk X B cc own nL f lo mc ms) {k : gK} {c1 n1 ci r idx q : Nat} {fs : List Value} {sh : List gSh} {M : gM} (hM : bMet B k c1 n1 ci fs r sh M) (hF : bFact k) (hr : gRoom f lo k = true) (hlink : Cond.methodLink own idx k.1 ∈ gW) (hst : (st.map fun v => v.category).sum ≤ 8) (hcm : Nat.ble (cells + c1) mc = true) (hsm : Nat.ble (slots + n1) ms = true) (hd : decode cc pc = .ok (.invokespecial idx, 3)) (hn : pc + 3 = n)
    (kk : ∀ ρ : Nat → Nat, ρ r = q → bG X B (ws ++ blk B ρ sh M) (cells + c1) (slots + n1) n ls st Q) : bG X B (ws ++ [(q, .inr (ci, fs))]) cells slots pc ls (.ref q :: st) Q := by
  obtain ⟨p, e, R, s, m, args, below, meth, c, A⟩ := X
  intro H locs lsr hP hD hS hL
  subst hn
  obtain ⟨h1, h1r, h2, h3, h4, h5, h6⟩ := hF
  simp only [Bool.and_eq_true, gRoom] at hr
  have hlast : (ws ++ [(q, (Sum.inr (ci, fs) : va_E))])[ws.length]? = some (q, .inr (ci, fs)) := by rw [List.getElem?_append_right (Nat.le_refl _), Nat.sub_self]; rfl
  have hsub : ∀ x, bA q H.size x → A x := fun x hx => by
    rcases hx with rfl | hx
    · exact hD.2 _ _ hlast
    · exact hX.2.2.2.2 x (Nat.le_trans hS.1 hx)
  obtain ⟨y, code, maxL, ret, fr, lc⟩ := k
  obtain rfl : ret = none := h1r
  have hcb : CallB R s args own idx y code maxL none (gC y code maxL none) { frames := fr, cells := c1, slots := n1, locals := lc } c1 n1 0 := by
    refine ⟨rfl, rfl, ?_, ?_, pay_in hX.1.2.2.2.2 (gC_goodW h1), List.mem_cons_self, hX.1.2.2.2.2 _ h1, hX.1.2.2.2.2 _ h2, h3, fun sig h => ?_, hX.1.2.2.2.2 _ hlink⟩
    · rw [hX.2.2.1.1]; exact Nat.le_of_ble_eq_true hr.1
    · rw [hX.2.2.1.2.1]; exact Nat.le_of_ble_eq_true hr.2
    · have h4' : (parseMethodDescriptor y.desc).map (fun d => d.parameters.length) = some 0 := h4
      rw [h] at h4'
      simpa using h4'.symm
  have hrun := va_runI (p := p) (l := B.1) (e := e) (below := below) (meth := meth) (H := H) (locs := locs) (cells := cells) (slots := slots) (b := q) (As := []) (rest := st) (g := F0 m pc lsr (.ref q :: st)) hX.1 (hM q H.size) ⟨hcb, h5, hX.1.2.2.2.2 _ h6⟩
    ⟨bPre.blind, fun U hU hW => ⟨rfl, by rw [hU], fun k x hk => by
        have hz : k < 1 := (List.getElem?_eq_some_iff.mp hk).1
        rw [show k = 0 by omega] at hk
        cases hk
        rw [hU]
        exact hP _ _ hlast, hX.2.2.2.1.call (locs := locs) (by rw [hU]; exact hS) hW hsub⟩⟩ rfl rfl (by show lsr.size = nL; rw [hL.1]; exact hX.1.2.2.1) rfl (lv_room hst) hd ⟨by rw [hX.2.2.1.2.2.1]; exact Nat.le_of_ble_eq_true hcm, by rw [hX.2.2.1.2.2.2]; exact Nat.le_of_ble_eq_true hsm⟩
  exact b_run hrun hP hD hS hsub (fun ρ H1 locs1 hρ hP1 hD1 hS1 => kk ρ hρ H1 locs1 lsr hP1 hD1 hS1 hL)
theorem b_vret (hX : bOk X B cc own nL f lo mc ms) (hI : bIn X) {h0 sz r : Nat} {sh : List gSh} {M : gM} (hH : bHm X h0 sz) (hd : decode cc pc = .ok (.return_, 1)) (ρ : Nat → Nat) (hρ : ρ r = h0) (hw : ∀ {A : Nat → Prop} {H : Heap}, va_P B.2.1 vwCl ws H → va_D A ws → va_P B.2.1 vwCl (blk B ρ sh M) H ∧ va_D A (blk B ρ sh M)) : bG X B ws mc ms pc ls [] (bQ X B h0 sz r sh M mc ms) := by
  obtain ⟨p, e, R, s, m, args, below, meth, c, A⟩ := X
  intro H locs lsr hP hD hS hL
  obtain ⟨rfl, rfl⟩ := hH
  obtain ⟨h1, h2⟩ := hw hP hD
  exact W.vret hX.1.1 hX.1.2.1 hI.2 (fun t ht hW => ⟨⟨rfl, ρ, hρ, by rw [ht]; exact h1, h2⟩, hS.F ht⟩) hS.2.2 hd hX.2.1
theorem bMet.of {k : gK} {ci r : Nat} {fs : List Value} {sh : List gSh} {M : gM} (hy : plainName k.1.cls = true) (hr : k.2.2.2.1 = none) (hi : k.1.name = "<init>") (hn : 1 ≤ k.2.2.1)
    (body : ∀ (h0 sz : Nat) (X : bX), bOk X B k.2.1 k.1.cls k.2.2.1 k.2.2.2.2.1 k.2.2.2.2.2 mc ms → bIn X → bHm X h0 sz → bG X B [(h0, .inr (ci, fs))] 0 0 0 [(0, .ref h0)] [] (bQ X B h0 sz r sh M mc ms)) : bMet B k mc ms ci fs r sh M := by
  obtain ⟨y, cc, n, ret, f, lo⟩ := k
  intro h0 sz
  refine Met.ofW (cc := cc) (maxL := n) (ret := ret) hy rfl ?_
  intro p e s m args below meth c s₁ BB hml hv
  obtain ⟨rfl, hsz, hP, hEnv⟩ := hv
  have hts := atoms_spec (ws := gC y cc n ret) BB.pre
  have hl := lv_entry ([.ref h0]) (n := n) (show (lg_sl [.ref h0]).length ≤ n from hn)
  rw [lg_entry_eq]
  have hb := body h0 sz (p, e, { frames := f, cells := mc, slots := ms, locals := lo }, s, m, _, below, meth, c, bA h0 sz) ⟨⟨BB.exec, BB.bytes, hml, findClass_of_methodNamed BB.named, fun w hw => hts w (List.mem_cons_of_mem _ hw)⟩, BB.notSynchronized, ⟨rfl, rfl, rfl, rfl⟩, hEnv, fun q h => Or.inr (by rw [← hsz]; exact h)⟩ ⟨(name_of_methodNamed BB.named BB.method).1.trans hi, BB.returns.trans hr⟩ ⟨rfl, hsz⟩
  refine hb s.heap [] _ hP ⟨fun i j x y hx hy _ => ?_, fun k x hk => ?_⟩ va_S.rf (by rw [hml]; exact hl)
  · have hz : i < 1 := (List.getElem?_eq_some_iff.mp hx).1
    have hz2 : j < 1 := (List.getElem?_eq_some_iff.mp hy).1
    omega
  · have hz : k < 1 := (List.getElem?_eq_some_iff.mp hk).1
    rw [show k = 0 by omega] at hk
    cases hk
    exact Or.inl rfl
end

