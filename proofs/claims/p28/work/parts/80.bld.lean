/-! constructors: worlds that grow. B: the launch, the slots' numbers, the array kinds; ws: the cells made so far, at their addresses -/
abbrev bB : Type := Launch × va_G × (ClassId × ClassId × ClassId)
def bTys (B : bB) : List (ClassId × FieldType) := [(B.2.2.1, .int), (B.2.2.2.1, .char), (B.2.2.2.2, .object RX5)]
def gFi (j : Nat) : Int32 := match j with
  | 0 => 50
  | 1 => 67
  | 2 => 30
  | 3 => 14
  | _ => 2
def bSrc (cI : ClassId) (t : Nat) (A : Nat → Prop) (H : Heap) : Prop := ∃ cell : Cell, H[t]? = some cell ∧ cell.cls = cI ∧ cell.vm.isStatics = false ∧ cell.vm ≠ .unknown ∧ cell.slots = (vp_cell cI (5, .inl gFi)).slots ∧ ¬ A t
def bEnv (B : bB) (A : Nat → Prop) (U : State) : Prop :=
  va_K B.2.1 vwCl (bTys B) U ∧ (∀ w ∈ gNest, va_Nw w U) ∧ va_AO RX5 U ∧ va_Nw (.castable "[I" "java/lang/Cloneable") U ∧ U.vm.findClass "[I" = some B.2.2.1 ∧
  ∃ t : Nat, va_Z RX7 "FIRST_SETTINGS" "[I" (.ref t) A U U.heap ∧ bSrc B.2.2.1 t A U.heap
def bA (h0 sz : Nat) : Nat → Prop := fun q => q = h0 ∨ sz ≤ q
theorem bEnv.call {B : bB} {A A1 : Nat → Prop} {s U : State} {locs : List Loc} (h : bEnv B A s) (hS : va_S A s.heap U.heap locs) (hW : s.WarmedH U.vm) (hA : ∀ q, A1 q → A q) : bEnv B A1 U := by
  obtain ⟨h1, h2, h3, h4, h5, t, h6, cell, g1, g2, g3, g4, g5, g6⟩ := h
  refine ⟨va_K.moved hW.alike h1, gNest_warm hW h2, va_AO.moved hW.alike h3, va_Nw.warmC hW h4, by rw [hW.alike.findClass]; exact h5, t, ((h6.kept hS.2.1).moved hW.alike).narrow hA, cell, ?_, g2, g3, g4, g5, fun z => g6 (hA t z)⟩
  rw [hS.2.1 t (Array.getElem?_eq_some_iff.mp g1).1 g6]
  exact g1
theorem bEnv.blind {B : bB} {A : Nat → Prop} {U : State} (a : Array Value) (g : JFrame) (mk : MethodId) (h : bEnv B A U) : bEnv B A (U.calling g mk a) := by
  obtain ⟨h1, h2, h3, h4, h5, t, h6, h7⟩ := h
  have hv : U.vm.Alike (U.calling g mk a).vm := Vm.Alike.refl U.vm
  exact ⟨va_K.moved hv h1, gNest_same (s := U) (U := U.calling g mk a) rfl h2, va_AO.moved hv h3, va_Nw.same rfl (u := U) (U := U.calling g mk a) rfl h4, h5, t, h6.moved hv, h7⟩
def bE (B : bB) (ρ : Nat → Nat) : gE := (B.1, ρ, B.2)
def blk (B : bB) (ρ : Nat → Nat) (sh : List gSh) (M : gM) : va_W := sh.mapIdx (fun a q => (ρ a, gcell (bE B ρ) (M a) q))
def bPre (B : bB) (h0 sz ci : Nat) (fs : List Value) : Array Value → State → Prop := va_Pc [.ref h0] (fun U => U.heap.size = sz ∧ va_P B.2.1 vwCl [(h0, .inr (ci, fs))] U.heap ∧ bEnv B (bA h0 sz) U)
def bPost (B : bB) (h0 sz r : Nat) (sh : List gSh) (M : gM) : Array Value → State → Outcome → State → Prop := fun _ st oc t =>
  (oc = .returned none ∧ ∃ ρ : Nat → Nat, ρ r = h0 ∧ va_P B.2.1 vwCl (blk B ρ sh M) t.heap ∧ va_D (bA h0 sz) (blk B ρ sh M)) ∧ va_F (bA h0 sz) st t
/-- a constructor's contract: out of the bare object comes the block of cells sh, its r-th the object itself -/
def bMet (B : bB) (k : gK) (mc ms ci : Nat) (fs : List Value) (r : Nat) (sh : List gSh) (M : gM) : Prop := ∀ h0 sz : Nat,
  Met B.1 k.1 (gC k.1 k.2.1 k.2.2.1 k.2.2.2.1) { frames := k.2.2.2.2.1, cells := mc, slots := ms, locals := k.2.2.2.2.2 } (bPre B h0 sz ci fs) (bPost B h0 sz r sh M) mc ms (bA h0 sz)
theorem bPre.blind {B : bB} {h0 sz ci : Nat} {fs : List Value} : FrameBlind (bPre B h0 sz ci fs) := fun a U g mk ⟨h1, h2, h3, h4⟩ => ⟨h1, h2, h3, h4.blind a g mk⟩
abbrev bX : Type := Program × Env × Room × State × MethodId × Array Value × List Frame × Method × Code × (Nat → Prop)
def bG (X : bX) (B : bB) (ws : va_W) (cells slots pc : Nat) (ls : List (Nat × Value)) (st : List Value) (Q : State → Prop) : Prop := match X with
  | (p, e, R, s, m, args, below, meth, c, A) => ∀ (H : Heap) (locs : List Loc) (lsr : Array Slot), va_P B.2.1 vwCl ws H → va_D A ws → va_S A s.heap H locs → lv_has lsr c.maxLocals ls → W p B.1 e R s m args below meth c H locs cells slots Q (F0 m pc lsr st)
def bOk (X : bX) (B : bB) (cc : ByteArray) (own : String) (nL f lo mc ms : Nat) : Prop := match X with
  | (p, _, R, s, m, args, _, meth, c, A) => CallFix p m c cc nL s args gW own ∧ meth.locks = false ∧ (R.frames = f ∧ R.locals = lo ∧ R.cells = mc ∧ R.slots = ms) ∧ bEnv B A s ∧ (∀ q, s.heap.size ≤ q → A q)
def bIn (X : bX) : Prop := match X with
  | (_, _, _, _, _, _, _, meth, _, _) => meth.name = "<init>" ∧ meth.sig.returnType = none
def bQ (X : bX) (B : bB) (h0 sz r : Nat) (sh : List gSh) (M : gM) (mc ms : Nat) : State → Prop := match X with
  | (_, _, _, s, _, args, below, _, _, _) => MQ below (bPost B h0 sz r sh M) args s mc ms (bA h0 sz)
def bHm (X : bX) (h0 sz : Nat) : Prop := match X with
  | (_, _, _, s, _, _, _, _, _, A) => A = bA h0 sz ∧ s.heap.size = sz
section
variable {X : bX} {B : bB} {cc : ByteArray} {own : String} {nL f lo mc ms : Nat} {ws : va_W} {cells slots pc n : Nat} {ls : List (Nat × Value)} {st : List Value} {Q : State → Prop}
theorem b_iconst (hX : bOk X B cc own nL f lo mc ms) {z : Int} {v : Int32} (hd : decode cc pc = .ok (.iconst z, 1)) (hv : Int32.ofInt z = v) (hn : pc + 1 = n) (kk : bG X B ws cells slots n ls (.int v :: st) Q) : bG X B ws cells slots pc ls st Q := by
  obtain ⟨p, e, R, s, m, args, below, meth, c, A⟩ := X
  intro H locs lsr hP hD hS hL
  subst hn
  exact lv_iconst hX.1.1 hX.1.2.1 hd hv (kk H locs lsr hP hD hS hL)
theorem b_bipush (hX : bOk X B cc own nL f lo mc ms) {z : Int} {v : Int32} (hd : decode cc pc = .ok (.bipush z, 2)) (hv : (Int8.ofInt z).toInt32 = v) (hn : pc + 2 = n) (kk : bG X B ws cells slots n ls (.int v :: st) Q) : bG X B ws cells slots pc ls st Q := by
  obtain ⟨p, e, R, s, m, args, below, meth, c, A⟩ := X
  intro H locs lsr hP hD hS hL
  subst hn
  exact lv_bipush hX.1.1 hX.1.2.1 hd hv (kk H locs lsr hP hD hS hL)
theorem b_sipush (hX : bOk X B cc own nL f lo mc ms) {z : Int} {v : Int32} (hd : decode cc pc = .ok (.sipush z, 3)) (hv : (Int16.ofInt z).toInt32 = v) (hn : pc + 3 = n) (kk : bG X B ws cells slots n ls (.int v :: st) Q) : bG X B ws cells slots pc ls st Q := by
  obtain ⟨p, e, R, s, m, args, below, meth, c, A⟩ := X
  intro H locs lsr hP hD hS hL
  subst hn
  exact lv_sipush hX.1.1 hX.1.2.1 hd hv (kk H locs lsr hP hD hS hL)
theorem b_dup (hX : bOk X B cc own nL f lo mc ms) {v : Value} (hd : decode cc pc = .ok (.dup, 1)) (hv : v.category = 1) (hn : pc + 1 = n) (kk : bG X B ws cells slots n ls (v :: v :: st) Q) : bG X B ws cells slots pc ls (v :: st) Q := by
  obtain ⟨p, e, R, s, m, args, below, meth, c, A⟩ := X
  intro H locs lsr hP hD hS hL
  subst hn
  exact lv_dup hX.1.1 hX.1.2.1 hd hv (kk H locs lsr hP hD hS hL)
theorem b_aload (hX : bOk X B cc own nL f lo mc ms) {q : Fin 4} {i a : Nat} (j : Nat) (hl : ls[j]? = some (i, .ref a)) (hd : decode cc pc = .ok (.aload_n q, 1)) (hi : (q : Nat) = i) (hn : pc + 1 = n) (kk : bG X B ws cells slots n ls (.ref a :: st) Q) : bG X B ws cells slots pc ls st Q := by
  obtain ⟨p, e, R, s, m, args, below, meth, c, A⟩ := X
  intro H locs lsr hP hD hS hL
  subst hn
  exact lv_aload_n hX.1.1 hX.1.2.1 hd hi (lv_at hL j hl) (kk H locs lsr hP hD hS hL)
theorem b_iload (hX : bOk X B cc own nL f lo mc ms) {q : Fin 4} {i : Nat} {a : Int32} (j : Nat) (hl : ls[j]? = some (i, .int a)) (hd : decode cc pc = .ok (.iload_n q, 1)) (hi : (q : Nat) = i) (hn : pc + 1 = n) (kk : bG X B ws cells slots n ls (.int a :: st) Q) : bG X B ws cells slots pc ls st Q := by
  obtain ⟨p, e, R, s, m, args, below, meth, c, A⟩ := X
  intro H locs lsr hP hD hS hL
  subst hn
  exact lv_iload_n hX.1.1 hX.1.2.1 hd hi (lv_at hL j hl) (kk H locs lsr hP hD hS hL)
theorem b_astore (hX : bOk X B cc own nL f lo mc ms) {q : Fin 4} {i a : Nat} {ls' : List (Nat × Value)} (hd : decode cc pc = .ok (.astore_n q, 1)) (hi : (q : Nat) = i) (hlt : i < nL) (hl : (i, Value.ref a) :: ls.filter (fun q => !(q.1 == i) && !(q.1 + 1 == i && q.2.category == 2)) = ls') (hn : pc + 1 = n) (kk : bG X B ws cells slots n ls' st Q) : bG X B ws cells slots pc ls (.ref a :: st) Q := by
  obtain ⟨p, e, R, s, m, args, below, meth, c, A⟩ := X
  intro H locs lsr hP hD hS hL
  subst hn
  exact lv_astore_n hX.1.1 hX.1.2.1 hd hi hL (by rw [hX.1.2.2.1]; exact hlt) hl (fun lsr' h' => kk H locs lsr' hP hD hS h')
theorem b_istore (hX : bOk X B cc own nL f lo mc ms) {q : Fin 4} {i : Nat} {a : Int32} {ls' : List (Nat × Value)} (hd : decode cc pc = .ok (.istore_n q, 1)) (hi : (q : Nat) = i) (hlt : i < nL) (hl : (i, Value.int a) :: ls.filter (fun q => !(q.1 == i) && !(q.1 + 1 == i && q.2.category == 2)) = ls') (hn : pc + 1 = n) (kk : bG X B ws cells slots n ls' st Q) : bG X B ws cells slots pc ls (.int a :: st) Q := by
  obtain ⟨p, e, R, s, m, args, below, meth, c, A⟩ := X
  intro H locs lsr hP hD hS hL
  subst hn
  exact lv_istore_n hX.1.1 hX.1.2.1 hd hi hL (by rw [hX.1.2.2.1]; exact hlt) hl (fun lsr' h' => kk H locs lsr' hP hD hS h')
theorem b_goto (hX : bOk X B cc own nL f lo mc ms) {off : Int} (hd : decode cc pc = .ok (.goto off, 3)) (hn : (pc : Int) + off = (n : Int)) (kk : bG X B ws cells slots n ls st Q) : bG X B ws cells slots pc ls st Q := by
  obtain ⟨p, e, R, s, m, args, below, meth, c, A⟩ := X
  intro H locs lsr hP hD hS hL
  exact lv_goto hX.1.1 hX.1.2.1 hd hn (kk H locs lsr hP hD hS hL)
theorem b_objInit (hX : bOk X B cc own nL f lo mc ms) {a idx : Nat} (hlink : Cond.methodLink own idx ⟨"java/lang/Object", "<init>", "()V"⟩ ∈ gW) (hd : decode cc pc = .ok (.invokespecial idx, 3)) (hf : Nat.ble 1 f = true) (hlo : Nat.ble 20 lo = true) (hst : (st.map fun v => v.category).sum ≤ 8) (hn : pc + 3 = n) (kk : bG X B ws cells slots n ls st Q) : bG X B ws cells slots pc ls (.ref a :: st) Q := by
  obtain ⟨p, e, R, s, m, args, below, meth, c, A⟩ := X
  intro H locs lsr hP hD hS hL
  subst hn
  have h1 := Nat.le_of_ble_eq_true hf
  have h2 := Nat.le_of_ble_eq_true hlo
  refine W.objInit hX.1.1 hX.1.2.1 hX.1.2.2.2.1 (hX.1.2.2.2.2 _ hlink) (hX.1.2.2.2.2 _ (gW_1 (List.mem_of_getElem? (i := 18) rfl) rfl)) (hX.1.2.2.2.2 (.code Lib.objectInit ⟨#[0xb1]⟩ 1 none) (gW_1 (List.mem_of_getElem? (i := 19) rfl) rfl)) rfl hL.1 rfl hd (by rw [hX.2.2.1.1]; exact h1) (by
    have h3 := lv_room (m := m) (pc := pc) (ls := lsr) (rest := .ref a :: st) hst
    rw [hX.2.2.1.2.1]
    omega) ?_
  exact kk H locs lsr hP hD hS hL
end

