def gPostL (E : gE) (post : Int64 → gM → Prop) : Array Value → State → Outcome → State → Prop := fun _ st oc t =>
  (∃ (r : Int64) (M' : gM), oc = .returned (some (.long r)) ∧ post r M' ∧ va_P E.2.2.1 vwCl (gws E M') t.heap) ∧ va_F (gA E) st t
/-- a contract of a method that answers a long -/
def gMetL (E : gE) (k : gK) (as : List Value) (M : gM) (post : Int64 → gM → Prop) : Prop :=
  Met E.1 k.1 (gC k.1 k.2.1 k.2.2.1 k.2.2.2.1) { frames := k.2.2.2.2.1, cells := 0, slots := 0, locals := k.2.2.2.2.2 } (gPre E as M) (gPostL E post) 0 0 (gA E)
def gQL (X : gX) (E : gE) (post : Int64 → gM → Prop) : State → Prop := match X with
  | (_, _, _, s, _, args, below, _, _, _, _, _) => MQ below (gPostL E post) args s 0 0 (gA E)
theorem gMetL.of {E : gE} {k : gK} {as : List Value} {M : gM} {post : Int64 → gM → Prop} (hy : plainName k.1.cls = true) (hc : as.all (fun v => v.category == 1) = true) (hn : as.length ≤ k.2.2.1)
    (body : ∀ X : gX, gOk X E k.2.1 k.1.cls k.2.2.1 k.2.2.2.2.1 k.2.2.2.2.2 → gRt X E k.2.2.2.1 → gG X E M 0 (gEntry as k.2.2.1) [] (gQL X E post)) : gMetL E k as M post := by
  obtain ⟨y, cc, n, ret, f, lo⟩ := k
  refine Met.ofW (cc := cc) (maxL := n) (ret := ret) hy rfl ?_
  intro p e s m args below meth c s₁ B hml hv
  obtain ⟨rfl, hP, hEnv⟩ := hv
  have hts := atoms_spec (ws := gC y cc n ret) B.pre
  have hcat : ∀ v ∈ as, v.category = 1 := fun v hv => by simpa using List.all_eq_true.mp hc v hv
  have hsl : lg_sl (as.map (gtr E.2.1)) = (as.map (gtr E.2.1)).map Slot.val := by
    clear hP hEnv hts B hml hn hc body
    induction as with
    | nil => rfl
    | cons v as ih =>
      have h1 : (gtr E.2.1 v).category = 1 := by rw [gtr_cat]; exact hcat v List.mem_cons_self
      have h2 := ih (fun w hw => hcat w (List.mem_cons_of_mem _ hw))
      have e : lg_sl ((v :: as).map (gtr E.2.1)) = (if (gtr E.2.1 v).category = 2 then [Slot.val (gtr E.2.1 v), .second] else [.val (gtr E.2.1 v)]) ++ lg_sl (as.map (gtr E.2.1)) := rfl
      rw [e, h1, h2]
      rfl
  have hle : (lg_sl (as.map (gtr E.2.1))).length ≤ n := by rw [hsl]; simpa using hn
  have hent := lv_entry (as.map (gtr E.2.1)) (n := n) hle
  rw [lg_entry_eq]
  have hb := body (p, e, { frames := f, cells := 0, slots := 0, locals := lo }, s, m, _, below, meth, c, 0, 0, gA E) ⟨⟨B.exec, B.bytes, hml, findClass_of_methodNamed B.named, fun w hw => hts w (List.mem_cons_of_mem _ hw)⟩, B.notSynchronized, ⟨rfl, rfl, Nat.zero_le _, Nat.zero_le _⟩, hEnv⟩ ⟨B.returns, rfl, rfl, rfl⟩
  refine hb s.heap [] _ hP va_S.rf ⟨?_, hent.2.1, fun i v hv => ?_⟩
  · rw [hent.1]
    simp only [gEntry, List.length_append, List.length_map, List.length_replicate]
    have : as.length ≤ n := hn
    omega
  · have hi : i < as.length := by
      rcases Nat.lt_or_ge i as.length with h | h
      · exact h
      · exfalso
        simp only [gEntry] at hv
        rw [List.getElem?_append_right (by simpa using h)] at hv
        have h2 := List.mem_of_getElem? hv
        have h3 := (List.mem_replicate.mp h2).2
        cases h3
    simp only [gEntry] at hv
    rw [List.getElem?_append_left (by simpa using hi)] at hv
    have h1 : as[i]? = some v := by simpa using hv
    refine ⟨trivial, ?_⟩
    rw [hsl, List.getElem?_toArray, List.getElem?_append_left (by simpa using hi)]
    simp [h1]
variable {X : gX} {E : gE} {cc : ByteArray} {own : String} {nL f lo : Nat} {M : gM} {pc n : Nat} {ls : gLs} {st : List Value} {Q : State → Prop}
theorem g_lload_n (hX : gOk X E cc own nL f lo) {q : Fin 4} {i : Nat} {x : Int64} (hd : decode cc pc = .ok (.lload_n q, 1)) (hi : (q : Nat) = i) (hl : ls[i]? = some (some (.long x))) (hn : pc + 1 = n) (kk : gG X E M n ls (.long x :: st) Q) : gG X E M pc ls st Q := by
  obtain ⟨p, e, R, s, m, args, below, meth, c, cells, slots, A⟩ := X
  intro H locs lsr hP hS hL
  subst hn
  exact lv_lload_n hX.1.1 hX.1.2.1 hd hi (hL.2.2 _ _ hl).2 (kk H locs lsr hP hS hL)
theorem g_lload (hX : gOk X E cc own nL f lo) {i : Nat} {x : Int64} (hd : decode cc pc = .ok (.lload i, 2)) (hl : ls[i]? = some (some (.long x))) (hn : pc + 2 = n) (kk : gG X E M n ls (.long x :: st) Q) : gG X E M pc ls st Q := by
  obtain ⟨p, e, R, s, m, args, below, meth, c, cells, slots, A⟩ := X
  intro H locs lsr hP hS hL
  subst hn
  exact lv_lload hX.1.1 hX.1.2.1 hd (hL.2.2 _ _ hl).2 (kk H locs lsr hP hS hL)
theorem g_lstore_n (hX : gOk X E cc own nL f lo) {q : Fin 4} {i : Nat} {x : Int64} (hd : decode cc pc = .ok (.lstore_n q, 1)) (hi : (q : Nat) = i) (hlt : i + 1 < ls.length) (hn : pc + 1 = n) (kk : gG X E M n ((ls.set i (some (.long x))).set (i + 1) none) st Q) (hq : gpl ls i = true := by rfl) : gG X E M pc ls (.long x :: st) Q := by
  obtain ⟨p, e, R, s, m, args, below, meth, c, cells, slots, A⟩ := X
  intro H locs lsr hP hS hL
  subst hn
  exact lv_lstore_n hX.1.1 hX.1.2.1 hd hi hL.has hlt rfl (fun lsr' h' => kk H locs lsr' hP hS (hL.set2 (v := .long x) hq hlt h'))
theorem g_lstore (hX : gOk X E cc own nL f lo) {i : Nat} {x : Int64} (hd : decode cc pc = .ok (.lstore i, 2)) (hlt : i + 1 < ls.length) (hn : pc + 2 = n) (kk : gG X E M n ((ls.set i (some (.long x))).set (i + 1) none) st Q) (hq : gpl ls i = true := by rfl) : gG X E M pc ls (.long x :: st) Q := by
  obtain ⟨p, e, R, s, m, args, below, meth, c, cells, slots, A⟩ := X
  intro H locs lsr hP hS hL
  subst hn
  exact lv_lstore hX.1.1 hX.1.2.1 hd hL.has hlt rfl (fun lsr' h' => kk H locs lsr' hP hS (hL.set2 (v := .long x) hq hlt h'))
theorem g_ladd (hX : gOk X E cc own nL f lo) {x y : Int64} (hd : decode cc pc = .ok (.ladd, 1)) (hn : pc + 1 = n) (kk : gG X E M n ls (.long (x + y) :: st) Q) : gG X E M pc ls (.long y :: .long x :: st) Q := by
  obtain ⟨p, e, R, s, m, args, below, meth, c, cells, slots, A⟩ := X
  intro H locs lsr hP hS hL
  subst hn
  exact lv_ladd hX.1.1 hX.1.2.1 hd (kk H locs lsr hP hS hL)
theorem g_lmul (hX : gOk X E cc own nL f lo) {x y : Int64} (hd : decode cc pc = .ok (.lmul, 1)) (hn : pc + 1 = n) (kk : gG X E M n ls (.long (x * y) :: st) Q) : gG X E M pc ls (.long y :: .long x :: st) Q := by
  obtain ⟨p, e, R, s, m, args, below, meth, c, cells, slots, A⟩ := X
  intro H locs lsr hP hS hL
  subst hn
  exact lv_lmul hX.1.1 hX.1.2.1 hd (kk H locs lsr hP hS hL)
theorem g_i2l (hX : gOk X E cc own nL f lo) {x : Int32} (hd : decode cc pc = .ok (.i2l, 1)) (hn : pc + 1 = n) (kk : gG X E M n ls (.long x.toInt64 :: st) Q) : gG X E M pc ls (.int x :: st) Q := by
  obtain ⟨p, e, R, s, m, args, below, meth, c, cells, slots, A⟩ := X
  intro H locs lsr hP hS hL
  subst hn
  exact lv_i2l hX.1.1 hX.1.2.1 hd rfl (kk H locs lsr hP hS hL)
theorem g_lcmpE (hX : gOk X E cc own nL f lo) {x y : Int64} (hxy : x = y) (hd : decode cc pc = .ok (.lcmp, 1)) (hn : pc + 1 = n) (kk : gG X E M n ls (.int 0 :: st) Q) : gG X E M pc ls (.long y :: .long x :: st) Q := by
  obtain ⟨p, e, R, s, m, args, below, meth, c, cells, slots, A⟩ := X
  intro H locs lsr hP hS hL
  subst hn
  subst hxy
  refine W.lcmp hX.1.1 hX.1.2.1 hd ?_
  have e : lg_cmp x x = 0 := by simp [lg_cmp]
  rw [e]
  exact kk H locs lsr hP hS hL
theorem g_ixor (hX : gOk X E cc own nL f lo) {x y : Int32} (hd : decode cc pc = .ok (.ixor, 1)) (hn : pc + 1 = n) (kk : gG X E M n ls (.int (x ^^^ y) :: st) Q) : gG X E M pc ls (.int y :: .int x :: st) Q := by
  obtain ⟨p, e, R, s, m, args, below, meth, c, cells, slots, A⟩ := X
  intro H locs lsr hP hS hL
  subst hn
  exact lv_ixor hX.1.1 hX.1.2.1 hd (kk H locs lsr hP hS hL)
theorem g_ior (hX : gOk X E cc own nL f lo) {x y : Int32} (hd : decode cc pc = .ok (.ior, 1)) (hn : pc + 1 = n) (kk : gG X E M n ls (.int (x ||| y) :: st) Q) : gG X E M pc ls (.int y :: .int x :: st) Q := by
  obtain ⟨p, e, R, s, m, args, below, meth, c, cells, slots, A⟩ := X
  intro H locs lsr hP hS hL
  subst hn
  exact lv_ior hX.1.1 hX.1.2.1 hd (kk H locs lsr hP hS hL)
theorem g_iushr (hX : gOk X E cc own nL f lo) {x y : Int32} (hd : decode cc pc = .ok (.iushr, 1)) (hn : pc + 1 = n) (kk : gG X E M n ls (.int ((x.toUInt32 >>> (y.toUInt32 &&& Int32.toUInt32 31)).toInt32) :: st) Q) : gG X E M pc ls (.int y :: .int x :: st) Q := by
  obtain ⟨p, e, R, s, m, args, below, meth, c, cells, slots, A⟩ := X
  intro H locs lsr hP hS hL
  subst hn
  exact lv_iushr hX.1.1 hX.1.2.1 hd rfl (kk H locs lsr hP hS hL)
theorem g_iremN (hX : gOk X E cc own nL f lo) {a b : Nat} (hd : decode cc pc = .ok (.irem, 1)) (ha : a < 2 ^ 31) (h0 : 0 < b) (hb : b < 2 ^ 31) (hn : pc + 1 = n) (kk : gG X E M n ls (.int (nI (a % b)) :: st) Q) : gG X E M pc ls (.int (nI b) :: .int (nI a) :: st) Q := by
  obtain ⟨p, e, R, s, m, args, below, meth, c, cells, slots, A⟩ := X
  intro H locs lsr hP hS hL
  subst hn
  exact lv_irem hX.1.1 hX.1.2.1 hd (nI_ne0 h0 hb) (by rw [pk_rem ha h0 hb]; exact kk H locs lsr hP hS hL)
theorem g_ldc (hX : gOk X E cc own nL f lo) {idx : Nat} {v : Int32} (hw : Cond.constant own idx v ∈ gW) (hd : decode cc pc = .ok (.ldc idx, 2)) (hn : pc + 2 = n) (kk : gG X E M n ls (.int v :: st) Q) : gG X E M pc ls st Q := by
  obtain ⟨p, e, R, s, m, args, below, meth, c, cells, slots, A⟩ := X
  intro H locs lsr hP hS hL
  subst hn
  exact lv_ldc hX.1.1 hX.1.2.1 hX.1.2.2.2.1 (hX.1.2.2.2.2 _ hw) hd (kk H locs lsr hP hS hL)
theorem g_ldc2 (hX : gOk X E cc own nL f lo) {idx : Nat} {v : Int64} (hw : Cond.constantLong own idx v ∈ gW) (hd : decode cc pc = .ok (.ldc2_w idx, 3)) (hn : pc + 3 = n) (kk : gG X E M n ls (.long v :: st) Q) : gG X E M pc ls st Q := by
  obtain ⟨p, e, R, s, m, args, below, meth, c, cells, slots, A⟩ := X
  intro H locs lsr hP hS hL
  subst hn
  exact lv_ldc2 hX.1.1 hX.1.2.1 hX.1.2.2.2.1 (hX.1.2.2.2.2 _ hw) hd (kk H locs lsr hP hS hL)
theorem g_lret (hX : gOk X E cc own nL f lo) (hR : gRt X E (some .long)) {P : Int64 → gM → Prop} {x : Int64} (hd : decode cc pc = .ok (.lreturn, 1)) (h : P x M) : gG X E M pc ls [.long x] (gQL X E P) := by
  obtain ⟨p, e, R, s, m, args, below, meth, c, cells, slots, A⟩ := X
  intro H locs lsr hP hS hL
  obtain ⟨hr, rfl, rfl, rfl⟩ := hR
  exact W.lret hX.1.1 hX.1.2.1 hr (fun t ht hW => ⟨⟨x, M, rfl, h, by rw [ht]; exact hP⟩, hS.F ht⟩) hS.2.2 hd hX.2.1
theorem g_runL {p : Program} {e : Env} {R : Room} {s : State} {m : MethodId} {args : Array Value} {below : List Frame} {meth : Method} {c : Code} {cells slots : Nat} {A : Nat → Prop} {H : Heap} {locs : List Loc} {lsr : Array Slot} {st0 rest : List Value} {a : Array Value} {post : Int64 → gM → Prop} {l : Launch}
    (hr : va_Run p l e R s m args below meth c H locs cells slots 0 0 (F0 m pc lsr st0) rest (gPostL E post a) (gA E)) (hS : va_S A s.heap H locs) (hA : ∀ q, gA E q → A q)
    (kk : ∀ (r : Int64) (M' : gM) (H1 : Heap) (locs1 : List Loc), post r M' → va_P E.2.2.1 vwCl (gws E M') H1 → va_S A s.heap H1 locs1 → W p l e R s m args below meth c H1 locs1 cells slots Q (F0 m (pc + 3) lsr (.long r :: rest))) : W p l e R s m args below meth c H locs cells slots Q (F0 m pc lsr st0) := by
  intro T hT X
  obtain ⟨v, st₀, t, T', L, h0, X', hL, e1, e2, ⟨⟨r, M', hv, hp, hb⟩, hz, hk⟩, st⟩ := hr T hT X
  cases hv
  rw [h0] at hz hk
  obtain ⟨t2, a1, b1⟩ := kk r M' T'.heap (locs ++ L) hp (by rw [e1]; exact hb)
    ⟨Nat.le_trans hS.1 (by rw [e1]; exact hz), fun q h1 h2 => by rw [e1, hk q (Nat.lt_of_lt_of_le h1 hS.1) (fun z => h2 (hA q z))]; exact hS.2.1 q h1 h2, fun q hq => by
      rcases List.mem_append.mp hq with h | h
      · exact hS.2.2 q h
      · exact hA _ (hL q h)⟩ T' rfl X'
  exact ⟨t2, st t2 a1, b1⟩
theorem g_callSl (hX : gOk X E cc own nL f lo) {k : gK} {np idx : Nat} {As rest : List Value} {post : Int64 → gM → Prop} (hM : gMetL E k As M post) (hF : gFactS k np) (hr : gRoom f lo k = true) (hlink : Cond.methodLink own idx k.1 ∈ gW) (hAs : As.length = np) (hst : st = As.reverse ++ rest) (hrest : Nat.ble ((rest.map fun v => v.category).sum) 8 = true) (hlen : ls.length = nL) (hd : decode cc pc = .ok (.invokestatic idx, 3)) (hn : pc + 3 = n)
    (kk : ∀ (r : Int64) (M' : gM), post r M' → gG X E M' n ls (.long r :: rest) Q) : gG X E M pc ls st Q := by
  obtain ⟨p, e, R, s, m, args, below, meth, c, cells, slots, A⟩ := X
  intro H locs lsr hP hS hL
  subst hn; subst hst
  obtain ⟨hF0, hi⟩ := hF
  have hAA : ∀ q, gA E q → A q := fun q ⟨a, ha, e⟩ => e ▸ hX.2.2.2.2.2.2.2.2.2.2 a ha
  have hrun := va_runS (p := p) (l := E.1) (e := e) (below := below) (meth := meth) (H := H) (locs := locs) (cells := cells) (slots := slots) (As := As.map (gtr E.2.1)) (rest := rest.map (gtr E.2.1)) (g := F0 m pc lsr ((As.reverse ++ rest).map (gtr E.2.1))) hX.1 hM ⟨g_callB hX.1 ⟨hX.2.2.1.1, hX.2.2.1.2.1⟩ hF0 hr hlink, hX.1.2.2.2.2 _ hi⟩
    ⟨gMet.blind, fun U hU hW => ⟨rfl, by rw [hU]; exact hP, hX.2.2.2.call (locs := locs) (by rw [hU]; exact hS) hW⟩⟩ rfl (by rw [List.length_map]; exact hAs) (by show lsr.size = nL; rw [hL.1, hlen]) (by simp [List.map_reverse]) (lv_room (by rw [g_cat]; exact Nat.le_of_ble_eq_true hrest)) hd ⟨hX.2.2.1.2.2.1, hX.2.2.1.2.2.2⟩
  refine g_runL hrun hS hAA (fun r M' H1 locs1 hp hP1 hS1 => ?_)
  exact kk r M' hp H1 locs1 lsr hP1 hS1 hL
/-- the law's script: any element -/
theorem g_scl (hX : gOk X E cc own nL f lo) (hd : decode cc pc = .ok (.arraylength, 1)) (hn : pc + 1 = n) (kk : ∀ L : Nat, L ≤ 260 → (∀ (j : Nat) (n2 pc2 : Nat) (ls2 : gLs) (st2 : List Value), j < L → decode cc pc2 = .ok (.iaload, 1) → pc2 + 1 = n2 → (∀ x : Int32, gG X E M n2 ls2 (.int x :: st2) Q) → gG X E M pc2 ls2 (.int (nI j) :: .ref 136 :: st2) Q) → gG X E M n ls (.int (nI L) :: st) Q) : gG X E M pc ls (.ref 136 :: st) Q := by
  obtain ⟨p, e, R, s, m, args, below, meth, c, cells, slots, A⟩ := X
  intro H locs lsr hP hS hL
  subst hn
  obtain ⟨L, f, hL0, hT⟩ := hX.2.2.2.2.2.2.2.2.1.2
  refine va_tlen hX.1.1 hX.1.2.1 hT hS (v := nI L) rfl hd (kk L hL0 ?_ H locs lsr hP hS hL)
  intro j n2 pc2 ls2 st2 hj hd2 hn2 k2 H locs lsr hP hS hL
  subst hn2
  have hc : (nI j).toNatClampNeg = j := nI_clamp (by omega)
  exact va_ti hX.1.1 hX.1.2.1 hT hS (vp_in_nI (N := L) hj (by omega)) (v := .int (f j)) (by rw [hc]) hd2 (k2 (f j) H locs lsr hP hS hL)
