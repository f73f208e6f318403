abbrev gM : Type := Nat → Nat → Int32
abbrev gSh : Type := Nat × Nat × List (Option Nat)
abbrev gE : Type := Launch × (Nat → Nat) × va_G × (ClassId × ClassId × ClassId)
def shp : List gSh := [(0, 7, [some 1, some 126, some 128]),
  (0, 5, [some 2, some 7, some 14, some 16, some 25, none]),
  (0, 4, [some 3, some 4, some 5, some 6, none]),
  (1, 10, []),
  (1, 10, []),
  (1, 10, []),
  (1, 10, []),
  (0, 2, [some 8, some 9, some 10, some 11, some 12, some 13, none, none]),
  (1, 20, []),
  (1, 20, []),
  (1, 20, []),
  (1, 12, []),
  (1, 240, []),
  (1, 240, []),
  (0, 0, [some 15, none, none, none, none]),
  (1, 6, []),
  (0, 1, [some 17, some 18, some 19, some 20, some 21, some 22, some 23, some 24, none, none]),
  (1, 30, []),
  (1, 30, []),
  (1, 30, []),
  (1, 30, []),
  (1, 30, []),
  (1, 30, []),
  (1, 30, []),
  (1, 30, []),
  (1, 5, []),
  (0, 5, [some 27, some 32, some 39, some 41, some 50, none]),
  (0, 4, [some 28, some 29, some 30, some 31, none]),
  (1, 10, []),
  (1, 10, []),
  (1, 10, []),
  (1, 10, []),
  (0, 2, [some 33, some 34, some 35, some 36, some 37, some 38, none, none]),
  (1, 20, []),
  (1, 20, []),
  (1, 20, []),
  (1, 12, []),
  (1, 240, []),
  (1, 240, []),
  (0, 0, [some 40, none, none, none, none]),
  (1, 6, []),
  (0, 1, [some 42, some 43, some 44, some 45, some 46, some 47, some 48, some 49, none, none]),
  (1, 30, []),
  (1, 30, []),
  (1, 30, []),
  (1, 30, []),
  (1, 30, []),
  (1, 30, []),
  (1, 30, []),
  (1, 30, []),
  (1, 5, []),
  (0, 5, [some 52, some 57, some 64, some 66, some 75, none]),
  (0, 4, [some 53, some 54, some 55, some 56, none]),
  (1, 10, []),
  (1, 10, []),
  (1, 10, []),
  (1, 10, []),
  (0, 2, [some 58, some 59, some 60, some 61, some 62, some 63, none, none]),
  (1, 20, []),
  (1, 20, []),
  (1, 20, []),
  (1, 12, []),
  (1, 240, []),
  (1, 240, []),
  (0, 0, [some 65, none, none, none, none]),
  (1, 6, []),
  (0, 1, [some 67, some 68, some 69, some 70, some 71, some 72, some 73, some 74, none, none]),
  (1, 30, []),
  (1, 30, []),
  (1, 30, []),
  (1, 30, []),
  (1, 30, []),
  (1, 30, []),
  (1, 30, []),
  (1, 30, []),
  (1, 5, []),
  (0, 5, [some 77, some 82, some 89, some 91, some 100, none]),
  (0, 4, [some 78, some 79, some 80, some 81, none]),
  (1, 10, []),
  (1, 10, []),
  (1, 10, []),
  (1, 10, []),
  (0, 2, [some 83, some 84, some 85, some 86, some 87, some 88, none, none]),
  (1, 20, []),
  (1, 20, []),
  (1, 20, []),
  (1, 12, []),
  (1, 240, []),
  (1, 240, []),
  (0, 0, [some 90, none, none, none, none]),
  (1, 6, []),
  (0, 1, [some 92, some 93, some 94, some 95, some 96, some 97, some 98, some 99, none, none]),
  (1, 30, []),
  (1, 30, []),
  (1, 30, []),
  (1, 30, []),
  (1, 30, []),
  (1, 30, []),
  (1, 30, []),
  (1, 30, []),
  (1, 5, []),
  (0, 5, [some 102, some 107, some 114, some 116, some 125, none]),
  (0, 4, [some 103, some 104, some 105, some 106, none]),
  (1, 10, []),
  (1, 10, []),
  (1, 10, []),
  (1, 10, []),
  (0, 2, [some 108, some 109, some 110, some 111, some 112, some 113, none, none]),
  (1, 20, []),
  (1, 20, []),
  (1, 20, []),
  (1, 12, []),
  (1, 240, []),
  (1, 240, []),
  (0, 0, [some 115, none, none, none, none]),
  (1, 6, []),
  (0, 1, [some 117, some 118, some 119, some 120, some 121, some 122, some 123, some 124, none, none]),
  (1, 30, []),
  (1, 30, []),
  (1, 30, []),
  (1, 30, []),
  (1, 30, []),
  (1, 30, []),
  (1, 30, []),
  (1, 30, []),
  (1, 5, []),
  (0, 3, [some 127, none, none]),
  (3, 4, [some 26, some 51, some 76, some 101]),
  (0, 6, [some 129, none, none, none, none, none, none]),
  (2, 80, [])]
def gset (M : gM) (a : Nat) (r : Nat → Int32) : gM := fun b => if b = a then r else M b
theorem gset_eq (M : gM) (a : Nat) (r : Nat → Int32) : gset M a r a = r := if_pos rfl
theorem gset_ne (M : gM) {a b : Nat} (r : Nat → Int32) (h : b ≠ a) : gset M a r b = M b := if_neg h
def gfs (ρ : Nat → Nat) (r : Nat → Int32) : Nat → List (Option Nat) → List Value
  | _, [] => []
  | k, some b :: l => .ref (ρ b) :: gfs ρ r (k + 1) l
  | k, none :: l => .int (r k) :: gfs ρ r (k + 1) l
def gfv (ρ : Nat → Nat) (r : Nat → Int32) (k : Nat) (o : Option Nat) : Value := match o with
  | some b => .ref (ρ b)
  | none => .int (r k)
theorem gfs_get (ρ : Nat → Nat) (r : Nat → Int32) : ∀ (l : List (Option Nat)) (j k : Nat), (gfs ρ r j l)[k]? = (l[k]?).map (gfv ρ r (j + k)) := by
  intro l
  induction l with
  | nil => intro j k; simp [gfs]
  | cons o l ih =>
    intro j k
    cases k with
    | zero => cases o <;> simp [gfs, gfv]
    | succ k =>
      have e : j + 1 + k = j + (k + 1) := by omega
      cases o <;> simp [gfs, ih, e]
theorem gfs_len (ρ : Nat → Nat) (r : Nat → Int32) : ∀ (l : List (Option Nat)) (j : Nat), (gfs ρ r j l).length = l.length := by
  intro l
  induction l with
  | nil => intro j; simp [gfs]
  | cons o l ih => intro j; cases o <;> simp [gfs, ih]
theorem gfs_set (ρ : Nat → Nat) (r : Nat → Int32) (l : List (Option Nat)) (k : Nat) (v : Int32) (h : l[k]? = some none) : (gfs ρ r 0 l).set k (.int v) = gfs ρ (upd r k v) 0 l := by
  apply List.ext_getElem?
  intro i
  by_cases hi : i = k
  · subst hi
    have hl : i < (gfs ρ r 0 l).length := by rw [gfs_len]; exact (List.getElem?_eq_some_iff.mp h).1
    rw [List.getElem?_set_self hl, gfs_get, h]
    simp [gfv, upd]
  · rw [List.getElem?_set_ne (Ne.symm hi), gfs_get, gfs_get]
    cases l[i]? with
    | none => rfl
    | some o => cases o <;> simp [gfv, upd, hi]
def gcell (E : gE) (r : Nat → Int32) (q : gSh) : va_E := match q.1 with
  | 0 => .inr (q.2.1, gfs E.2.1 r 0 q.2.2)
  | 1 => .inl (E.2.2.2.1, q.2.1, .inl r)
  | 2 => .inl (E.2.2.2.2.1, q.2.1, .inl r)
  | _ => .inl (E.2.2.2.2.2, q.2.1, .inr (.inr (.inr (.inr (fun k => (q.2.2.getD k none).map E.2.1)))))
def gws (E : gE) (M : gM) : va_W := shp.mapIdx (fun a q => (E.2.1 a, gcell E (M a) q))
theorem gws_get {E : gE} {M : gM} {a : Nat} {q : gSh} (h : shp[a]? = some q) : (gws E M)[a]? = some (E.2.1 a, gcell E (M a) q) := by
  simp [gws, List.getElem?_mapIdx, h]
theorem gws_inv {E : gE} {M : gM} {k : Nat} {q : Nat × va_E} (h : (gws E M)[k]? = some q) : ∃ sh : gSh, shp[k]? = some sh ∧ q = (E.2.1 k, gcell E (M k) sh) := by
  simp only [gws, List.getElem?_mapIdx, Option.map_eq_some_iff] at h
  obtain ⟨sh, h1, h2⟩ := h
  exact ⟨sh, h1, h2.symm⟩
theorem gws_set {E : gE} {M : gM} {a : Nat} {q : gSh} {r : Nat → Int32} (h : shp[a]? = some q) : (gws E M).set a (E.2.1 a, gcell E r q) = gws E (gset M a r) := by
  apply List.ext_getElem?
  intro i
  by_cases hi : i = a
  · subst hi
    have hl : i < (gws E M).length := (List.getElem?_eq_some_iff.mp (gws_get (E := E) (M := M) h)).1
    rw [List.getElem?_set_self hl, gws_get h, gset_eq]
  · rw [List.getElem?_set_ne (Ne.symm hi)]
    simp only [gws, List.getElem?_mapIdx, gset_ne M r hi]
def gA (E : gE) : Nat → Prop := fun q => ∃ a, a < 130 ∧ q = E.2.1 a
def gtys (E : gE) : List (ClassId × FieldType) := [(E.2.2.2.1, .int), (E.2.2.2.2.1, .char), (E.2.2.2.2.2, .object RX5)]
def gLe (j : Nat) : Int32 := match j with
  | 0 => 1
  | 1 => 1
  | 2 => 1
  | 3 => 0
  | _ => 1
def gGr (j : Nat) : Int32 := match j with
  | 0 => 100
  | 1 => 100
  | 2 => 60
  | 3 => 60
  | _ => 5
def gEnv (E : gE) (A : Nat → Prop) (U : State) : Prop :=
  va_K E.2.2.1 vwCl (gtys E) U ∧ va_Z RX7 "LEAST_SETTINGS" "[I" (.ref (E.2.1 134)) A U U.heap ∧ va_T .int (E.2.1 134) 5 (fun j => .int (gLe j)) A U U.heap ∧
  va_Z RX7 "GREATEST_SETTINGS" "[I" (.ref (E.2.1 135)) A U U.heap ∧ va_T .int (E.2.1 135) 5 (fun j => .int (gGr j)) A U U.heap ∧ ((∀ w ∈ gNest, va_Nw w U) ∧ ∃ (L : Nat) (f : Nat → Int32), L ≤ 260 ∧ va_T .int (E.2.1 136) L (fun j => .int (f j)) A U U.heap) ∧
  (∀ a b, a < 130 → b < 130 → E.2.1 a = E.2.1 b → a = b) ∧ (∀ a, a < 130 → A (E.2.1 a))
theorem gEnv.D {E : gE} {A : Nat → Prop} {U : State} {M : gM} (h : gEnv E A U) : va_D A (gws E M) := by
  obtain ⟨-, -, -, -, -, -, hi, ha⟩ := h
  have hlt : ∀ {k : Nat} {sh : gSh}, shp[k]? = some sh → k < 130 := fun hk => (List.getElem?_eq_some_iff.mp hk).1
  refine ⟨fun i j x y hx hy e => ?_, fun k q hk => ?_⟩
  · obtain ⟨s1, h1, rfl⟩ := gws_inv hx
    obtain ⟨s2, h2, rfl⟩ := gws_inv hy
    exact hi i j (hlt h1) (hlt h2) e
  · obtain ⟨s1, h1, rfl⟩ := gws_inv hk
    exact ha k (hlt h1)
theorem gNest_warm {s U : State} (hW : s.WarmedH U.vm) (h : ∀ w ∈ gNest, va_Nw w s) : ∀ w ∈ gNest, va_Nw w U := by
  intro w hw
  have h1 := h w hw
  simp only [gNest, List.mem_cons, List.not_mem_nil, or_false] at hw
  rcases hw with rfl | rfl | rfl | rfl | rfl | rfl | rfl | rfl | rfl | rfl | rfl | rfl | rfl <;> first | exact va_Nw.warmM hW h1 | exact va_Nw.warmF hW h1
theorem gNest_same {s U : State} (hv : s.vm = U.vm) (h : ∀ w ∈ gNest, va_Nw w s) : ∀ w ∈ gNest, va_Nw w U := by
  intro w hw
  have h1 := h w hw
  simp only [gNest, List.mem_cons, List.not_mem_nil, or_false] at hw
  rcases hw with rfl | rfl | rfl | rfl | rfl | rfl | rfl | rfl | rfl | rfl | rfl | rfl | rfl <;> exact va_Nw.same rfl hv h1
/-- the surroundings of a callee, out of its caller's -/
theorem gEnv.call {E : gE} {A : Nat → Prop} {s U : State} {locs : List Loc} (h : gEnv E A s) (hS : va_S A s.heap U.heap locs) (hW : s.WarmedH U.vm) : gEnv E (gA E) U := by
  obtain ⟨h1, h2, h3, h4, h5, ⟨h6, L, f, hL, hT⟩, h7, h8⟩ := h
  have hA : ∀ q, gA E q → A q := fun q ⟨a, ha, e⟩ => e ▸ h8 a ha
  exact ⟨va_K.moved hW.alike h1, ((h2.kept hS.2.1).moved hW.alike).narrow hA, ((h3.kept hS.2.1).moved hW.alike).narrow hA, ((h4.kept hS.2.1).moved hW.alike).narrow hA, ((h5.kept hS.2.1).moved hW.alike).narrow hA, ⟨gNest_warm hW h6, L, f, hL, ((hT.kept hS.2.1).moved hW.alike).narrow hA⟩, h7, fun a ha => ⟨a, ha, rfl⟩⟩
theorem gEnv.blind {E : gE} {A : Nat → Prop} {U : State} (a : Array Value) (g : JFrame) (mk : MethodId) (h : gEnv E A U) : gEnv E A (U.calling g mk a) := by
  obtain ⟨h1, h2, h3, h4, h5, ⟨h6, L, f, hL, hT⟩, h7, h8⟩ := h
  have hv : U.vm.Alike (U.calling g mk a).vm := Vm.Alike.refl U.vm
  exact ⟨va_K.moved hv h1, h2.moved hv, h3.moved hv, h4.moved hv, h5.moved hv, ⟨gNest_same (s := U) (U := U.calling g mk a) rfl h6, L, f, hL, hT.moved hv⟩, h7, h8⟩
def gtr (ρ : Nat → Nat) (v : Value) : Value := match v with
  | .ref a => .ref (ρ a)
  | v => v
abbrev gLs : Type := List (Option Value)
def gL (ρ : Nat → Nat) (lsr : Array Slot) (ls : gLs) : Prop := lsr.size = ls.length ∧ lv_wf lsr ∧ ∀ (i : Nat) (v : Value), ls[i]? = some (some v) → True ∧ lsr[i]? = some (.val (gtr ρ v))
def gassoc (ρ : Nat → Nat) (ls : gLs) : List (Nat × Value) := (List.range ls.length).filterMap (fun j => match ls[j]? with
  | some (some v) => some (j, gtr ρ v)
  | _ => none)
theorem gtr_cat (ρ : Nat → Nat) (v : Value) : (gtr ρ v).category = v.category := by cases v <;> rfl
theorem gL.has {ρ : Nat → Nat} {lsr : Array Slot} {ls : gLs} (h : gL ρ lsr ls) : lv_has lsr ls.length (gassoc ρ ls) := by
  refine ⟨h.1, h.2.1, fun q hq => ?_⟩
  obtain ⟨j, -, hj⟩ := List.mem_filterMap.mp hq
  split at hj
  · next v hv => cases hj; exact (h.2.2 j v hv).2
  · cases hj
def gpl (ls : gLs) (i : Nat) : Bool := match i with
  | 0 => true
  | k + 1 => match ls[k]? with
    | some (some v) => v.category == 1
    | _ => true
theorem gL.set {ρ : Nat → Nat} {lsr lsr' : Array Slot} {ls : gLs} {i : Nat} {v : Value} (h : gL ρ lsr ls) (hq : gpl ls i = true) (hi : i < ls.length) (h' : lv_has lsr' ls.length ((i, gtr ρ v) :: (gassoc ρ ls).filter (fun q => !(q.1 == i) && !(q.1 + 1 == i && q.2.category == 2)))) : gL ρ lsr' (ls.set i (some v)) := by
  refine ⟨by rw [List.length_set]; exact h'.1, h'.2.1, fun j w hj => ?_⟩
  by_cases e : j = i
  · subst e
    rw [List.getElem?_set_self hi] at hj
    cases hj
    exact ⟨trivial, h'.2.2 _ List.mem_cons_self⟩
  · rw [List.getElem?_set_ne (Ne.symm e)] at hj
    refine ⟨trivial, h'.2.2 (j, gtr ρ w) (List.mem_cons_of_mem _ (List.mem_filter.mpr ⟨List.mem_filterMap.mpr ⟨j, List.mem_range.mpr (List.getElem?_eq_some_iff.mp hj).1, by simp [hj]⟩, ?_⟩))⟩
    by_cases e2 : j + 1 = i
    · subst e2
      simp only [gpl, hj, beq_iff_eq] at hq
      simp [gtr_cat, hq]
      try omega
    · simp [e, e2]
theorem gL.set2 {ρ : Nat → Nat} {lsr lsr' : Array Slot} {ls : gLs} {i : Nat} {v : Value} (h : gL ρ lsr ls) (hq : gpl ls i = true) (hi : i + 1 < ls.length) (h' : lv_has lsr' ls.length ((i, gtr ρ v) :: (gassoc ρ ls).filter (fun q => !(q.1 == i) && (!(q.1 == i + 1) && !(q.1 + 1 == i && q.2.category == 2))))) : gL ρ lsr' ((ls.set i (some v)).set (i + 1) none) := by
  refine ⟨by rw [List.length_set, List.length_set]; exact h'.1, h'.2.1, fun j w hj => ?_⟩
  by_cases e1 : j = i + 1
  · subst e1
    rw [List.getElem?_set_self (by rw [List.length_set]; exact hi)] at hj
    cases hj
  rw [List.getElem?_set_ne (Ne.symm e1)] at hj
  by_cases e : j = i
  · subst e
    rw [List.getElem?_set_self (by omega)] at hj
    cases hj
    exact ⟨trivial, h'.2.2 _ List.mem_cons_self⟩
  · rw [List.getElem?_set_ne (Ne.symm e)] at hj
    refine ⟨trivial, h'.2.2 (j, gtr ρ w) (List.mem_cons_of_mem _ (List.mem_filter.mpr ⟨List.mem_filterMap.mpr ⟨j, List.mem_range.mpr (List.getElem?_eq_some_iff.mp hj).1, by simp [hj]⟩, ?_⟩))⟩
    by_cases e2 : j + 1 = i
    · subst e2
      simp only [gpl, hj, beq_iff_eq] at hq
      simp [gtr_cat, hq]
      try omega
    · simp [e, e2, e1]
abbrev gX : Type := Program × Env × Room × State × MethodId × Array Value × List Frame × Method × Code × Nat × Nat × (Nat → Prop)
def gG (X : gX) (E : gE) (M : gM) (pc : Nat) (ls : gLs) (st : List Value) (Q : State → Prop) : Prop := match X with
  | (p, e, R, s, m, args, below, meth, c, cells, slots, A) => ∀ (H : Heap) (locs : List Loc) (lsr : Array Slot), va_P E.2.2.1 vwCl (gws E M) H → va_S A s.heap H locs → gL E.2.1 lsr ls → W p E.1 e R s m args below meth c H locs cells slots Q (F0 m pc lsr (st.map (gtr E.2.1)))
def gOk (X : gX) (E : gE) (cc : ByteArray) (own : String) (nL f lo : Nat) : Prop := match X with
  | (p, e, R, s, m, args, below, meth, c, cells, slots, A) => CallFix p m c cc nL s args gW own ∧ meth.locks = false ∧ (R.frames = f ∧ R.locals = lo ∧ cells ≤ R.cells ∧ slots ≤ R.slots) ∧ gEnv E A s
abbrev gK : Type := MethodName × ByteArray × Nat × Option FieldType × Nat × Nat
def gPost (E : gE) (post : Option Int32 → gM → Prop) : Array Value → State → Outcome → State → Prop := fun _ st oc t =>
  (∃ (r : Option Int32) (M' : gM), oc = .returned (r.map Value.int) ∧ post r M' ∧ va_P E.2.2.1 vwCl (gws E M') t.heap) ∧ va_F (gA E) st t
def gPre (E : gE) (as : List Value) (M : gM) : Array Value → State → Prop := va_Pc (as.map (gtr E.2.1)) (fun U => va_P E.2.2.1 vwCl (gws E M) U.heap ∧ gEnv E (gA E) U)
/-- a method's contract over the made objects -/
def gMet (E : gE) (k : gK) (as : List Value) (M : gM) (post : Option Int32 → gM → Prop) : Prop :=
  Met E.1 k.1 (gC k.1 k.2.1 k.2.2.1 k.2.2.2.1) { frames := k.2.2.2.2.1, cells := 0, slots := 0, locals := k.2.2.2.2.2 } (gPre E as M) (gPost E post) 0 0 (gA E)
def gQ (X : gX) (E : gE) (post : Option Int32 → gM → Prop) : State → Prop := match X with
  | (_, _, _, s, _, args, below, _, _, _, _, _) => MQ below (gPost E post) args s 0 0 (gA E)
def gRt (X : gX) (E : gE) (ret : Option FieldType) : Prop := match X with
  | (_, _, _, _, _, _, _, meth, _, cells, slots, A) => meth.sig.returnType = ret ∧ cells = 0 ∧ slots = 0 ∧ A = gA E
def gInt (P : Int32 → gM → Prop) : Option Int32 → gM → Prop := fun r M => ∃ x, r = some x ∧ P x M
def gVoid (P : gM → Prop) : Option Int32 → gM → Prop := fun r M => r = none ∧ P M
def gEntry (as : List Value) (n : Nat) : gLs := as.map some ++ List.replicate (n - as.length) none
theorem gMet.of {E : gE} {k : gK} {as : List Value} {M : gM} {post : Option Int32 → gM → Prop} (hy : plainName k.1.cls = true) (hc : as.all (fun v => v.category == 1) = true) (hn : as.length ≤ k.2.2.1)
    (body : ∀ X : gX, gOk X E k.2.1 k.1.cls k.2.2.1 k.2.2.2.2.1 k.2.2.2.2.2 → gRt X E k.2.2.2.1 → gG X E M 0 (gEntry as k.2.2.1) [] (gQ X E post)) : gMet E k as M post := by
  obtain ⟨y, cc, n, ret, f, lo⟩ := k
  refine Met.ofW (cc := cc) (maxL := n) (ret := ret) hy rfl ?_
  intro p e s m args below meth c s₁ B hml hv
  obtain ⟨rfl, hP, hEnv⟩ := hv
  have hts := atoms_spec (ws := gC y cc n ret) B.pre
  have hcat : ∀ v ∈ as, v.category = 1 := fun v hv => by simpa using List.all_eq_true.mp hc v hv
  have hsl : lg_sl (as.map (gtr E.2.1)) = (as.map (gtr E.2.1)).map Slot.val := by
    clear hP hEnv hts B hml hn hc body
    induction as with
    | nil => rfl
    | cons v as ih =>
      have h1 : (gtr E.2.1 v).category = 1 := by rw [gtr_cat]; exact hcat v List.mem_cons_self
      have h2 := ih (fun w hw => hcat w (List.mem_cons_of_mem _ hw))
      have e : lg_sl ((v :: as).map (gtr E.2.1)) = (if (gtr E.2.1 v).category = 2 then [Slot.val (gtr E.2.1 v), .second] else [.val (gtr E.2.1 v)]) ++ lg_sl (as.map (gtr E.2.1)) := rfl
      rw [e, h1, h2]
      rfl
  have hle : (lg_sl (as.map (gtr E.2.1))).length ≤ n := by rw [hsl]; simpa using hn
  have hent := lv_entry (as.map (gtr E.2.1)) (n := n) hle
  rw [lg_entry_eq]
  have hb := body (p, e, { frames := f, cells := 0, slots := 0, locals := lo }, s, m, _, below, meth, c, 0, 0, gA E) ⟨⟨B.exec, B.bytes, hml, findClass_of_methodNamed B.named, fun w hw => hts w (List.mem_cons_of_mem _ hw)⟩, B.notSynchronized, ⟨rfl, rfl, Nat.zero_le _, Nat.zero_le _⟩, hEnv⟩ ⟨B.returns, rfl, rfl, rfl⟩
  refine hb s.heap [] _ hP va_S.rf ⟨?_, hent.2.1, fun i v hv => ?_⟩
  · rw [hent.1]
    simp only [gEntry, List.length_append, List.length_map, List.length_replicate]
    have : as.length ≤ n := hn
    omega
  · have hi : i < as.length := by
      rcases Nat.lt_or_ge i as.length with h | h
      · exact h
      · exfalso
        simp only [gEntry] at hv
        rw [List.getElem?_append_right (by simpa using h)] at hv
        have h2 := List.mem_of_getElem? hv
        have h3 := (List.mem_replicate.mp h2).2
        cases h3
    simp only [gEntry] at hv
    rw [List.getElem?_append_left (by simpa using hi)] at hv
    have h1 : as[i]? = some v := by simpa using hv
    refine ⟨trivial, ?_⟩
    rw [hsl, List.getElem?_toArray, List.getElem?_append_left (by simpa using hi)]
    simp [h1]
