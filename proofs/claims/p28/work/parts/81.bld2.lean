section
variable {X : bX} {B : bB} {cc : ByteArray} {own : String} {nL f lo mc ms : Nat} {ws : va_W} {cells slots pc n : Nat} {ls : List (Nat × Value)} {st : List Value} {Q : State → Prop}
theorem b_new (hX : bOk X B cc own nL f lo mc ms) {C : String} {T : u_T} {N ci idx : Nat} (ty : Nat → FieldType) (hc : vwCl[ci]? = some (C, T, N)) (hu : ∀ w ∈ u_ws C T N, w ∈ gW) (hty : ∀ k, k < N → parseFieldDescriptor (T k).2.2.1 = some (ty k)) (hcl : Cond.classLink own idx C ∈ gW) (hinst : Cond.instantiable C N ∈ gW) (hini : Cond.initialized C ∈ gW) (fs : List Value) (hfs : ∀ j, j < N → defaultValue (ty j) = vp_V fs j) (hcm : Nat.ble (cells + 1) mc = true) (hsm : Nat.ble (slots + N) ms = true) (hd : decode cc pc = .ok (.new idx, 3)) (hn : pc + 3 = n)
    (kk : ∀ q : Nat, bG X B (ws ++ [(q, .inr (ci, fs))]) (cells + 1) (slots + N) n ls (.ref q :: st) Q) : bG X B ws cells slots pc ls st Q := by
  obtain ⟨p, e, R, s, m, args, below, meth, c, A⟩ := X
  intro H locs lsr hP hD hS hL
  subst hn
  exact va_new hX.1.1 hX.1.2.1 hX.1.2.2.2.2 hu ty hty hX.1.2.2.2.1 (hX.1.2.2.2.2 _ hcl) (hX.1.2.2.2.2 _ hinst) (hX.1.2.2.2.2 _ hini) hX.2.2.2.1.1 hP hD hS hX.2.2.2.2 hc hfs (by rw [hX.2.2.1.2.2.1]; exact Nat.le_of_ble_eq_true hcm) (by rw [hX.2.2.1.2.2.2]; exact Nat.le_of_ble_eq_true hsm) hd (fun q H1 hP1 hD1 hS1 => kk q H1 locs lsr hP1 hD1 hS1 hL)
theorem b_kind {B : bB} {s : State} {cA : ClassId} {ty : FieldType} {i : Nat} {c0 : ClassId} (hK : va_K B.2.1 vwCl (bTys B) s) (hi : (bTys B)[i]? = some (c0, ty)) (tys : List (ClassId × FieldType)) (h : va_K B.2.1 vwCl (tys ++ [(cA, ty)]) s) (hp : ∀ c d : ClassId, va_RA s c ty → va_RA s d ty → c = d) : cA = c0 := by
  have h1 := (h.2 tys.length (cA, ty) (by rw [List.getElem?_append_right (Nat.le_refl _), Nat.sub_self]; rfl)).2
  exact hp _ _ h1 (hK.2 i _ hi).2
theorem b_newaI (hX : bOk X B cc own nL f lo mc ms) {x : Int32} {N : Nat} (hx : ¬ x < 0) (hN : x.toNatClampNeg = N) (hNb : Nat.ble N 5000 = true) (hcm : Nat.ble (cells + 1) mc = true) (hsm : Nat.ble (slots + N) ms = true) (hd : decode cc pc = .ok (.newarray .int, 2)) (hn : pc + 2 = n)
    (kk : ∀ q : Nat, bG X B (ws ++ [(q, .inl (B.2.2.1, N, .inl (fun _ => 0)))]) (cells + 1) (slots + N) n ls (.ref q :: st) Q) : bG X B ws cells slots pc ls (.int x :: st) Q := by
  obtain ⟨p, e, R, s, m, args, below, meth, c, A⟩ := X
  intro H locs lsr hP hD hS hL
  subst hn
  have hN' := Nat.le_of_ble_eq_true hNb
  refine va_newa (atype := .int) (ty := .int) (a0 := (N, .inl (fun _ => 0))) hX.1.1 hX.1.2.1 (hX.1.2.2.2.2 (.arrayClass .int) (gW_1 (List.mem_of_getElem? (i := 58) rfl) rfl)) rfl hX.2.2.2.1.1 hP hD hS hX.2.2.2.2 (fun _ => rfl) hx hN (by show N * 4 ≤ _; omega) (by rw [hX.2.2.1.2.2.1]; exact Nat.le_of_ble_eq_true hcm) (by rw [hX.2.2.1.2.2.2]; exact Nat.le_of_ble_eq_true hsm) hd (fun q cA H1 hK1 hP1 hD1 hS1 => ?_)
  obtain rfl := b_kind (i := 0) hX.2.2.2.1.1 rfl _ hK1 (fun c d h1 h2 => Option.some.inj (h1.symm.trans h2))
  exact kk q H1 locs lsr hP1 hD1 hS1 hL
theorem b_newaC (hX : bOk X B cc own nL f lo mc ms) {x : Int32} {N : Nat} (hx : ¬ x < 0) (hN : x.toNatClampNeg = N) (hNb : Nat.ble N 5000 = true) (hcm : Nat.ble (cells + 1) mc = true) (hsm : Nat.ble (slots + N) ms = true) (hd : decode cc pc = .ok (.newarray .char, 2)) (hn : pc + 2 = n)
    (kk : ∀ q : Nat, bG X B (ws ++ [(q, .inl (B.2.2.2.1, N, .inl (fun _ => 0)))]) (cells + 1) (slots + N) n ls (.ref q :: st) Q) : bG X B ws cells slots pc ls (.int x :: st) Q := by
  obtain ⟨p, e, R, s, m, args, below, meth, c, A⟩ := X
  intro H locs lsr hP hD hS hL
  subst hn
  have hN' := Nat.le_of_ble_eq_true hNb
  refine va_newa (atype := .char) (ty := .char) (a0 := (N, .inl (fun _ => 0))) hX.1.1 hX.1.2.1 (hX.1.2.2.2.2 (.arrayClass .char) (gW_2 (List.mem_of_getElem? (i := 31) rfl) rfl)) rfl hX.2.2.2.1.1 hP hD hS hX.2.2.2.2 (fun _ => rfl) hx hN (by show N * 2 ≤ _; omega) (by rw [hX.2.2.1.2.2.1]; exact Nat.le_of_ble_eq_true hcm) (by rw [hX.2.2.1.2.2.2]; exact Nat.le_of_ble_eq_true hsm) hd (fun q cA H1 hK1 hP1 hD1 hS1 => ?_)
  obtain rfl := b_kind (i := 1) hX.2.2.2.1.1 rfl _ hK1 (fun c d h1 h2 => Option.some.inj (h1.symm.trans h2))
  exact kk q H1 locs lsr hP1 hD1 hS1 hL
theorem b_newq (hX : bOk X B cc own nL f lo mc ms) {x : Int32} {N idx : Nat} (hcl : Cond.classLink own idx RX5 ∈ gW) (hx : ¬ x < 0) (hN : x.toNatClampNeg = N) (hNb : Nat.ble N 5000 = true) (hcm : Nat.ble (cells + 1) mc = true) (hsm : Nat.ble (slots + N) ms = true) (hd : decode cc pc = .ok (.anewarray idx, 3)) (hn : pc + 3 = n)
    (kk : ∀ q : Nat, bG X B (ws ++ [(q, .inl (B.2.2.2.2, N, .inr (.inr (.inr (.inr (fun _ => none))))))]) (cells + 1) (slots + N) n ls (.ref q :: st) Q) : bG X B ws cells slots pc ls (.int x :: st) Q := by
  obtain ⟨p, e, R, s, m, args, below, meth, c, A⟩ := X
  intro H locs lsr hP hD hS hL
  subst hn
  have hN' := Nat.le_of_ble_eq_true hNb
  refine va_newq hX.1.1 hX.1.2.1 hX.1.2.2.2.1 (hX.1.2.2.2.2 _ hcl) hX.2.2.2.1.2.2.1 hX.2.2.2.1.1 hP hD hS hX.2.2.2.2 hx hN (by omega) (by rw [hX.2.2.1.2.2.1]; exact Nat.le_of_ble_eq_true hcm) (by rw [hX.2.2.1.2.2.2]; exact Nat.le_of_ble_eq_true hsm) hd (fun q cA H1 hK1 hP1 hD1 hS1 => ?_)
  obtain rfl := b_kind (i := 2) hX.2.2.2.1.1 rfl _ hK1 (fun c d ⟨_, _, _, _, _, h1⟩ ⟨_, _, _, _, _, h2⟩ => Option.some.inj (h1.symm.trans h2))
  exact kk q H1 locs lsr hP1 hD1 hS1 hL
/-- a final field of a class of the table, as its own constructor sets it -/
def gFf (own : String) (idx ci k : Nat) : Prop := ∃ (C : String) (T : u_T) (N : Nat) (ty0 : Nat → FieldType) (ty : FieldType), vwCl[ci]? = some (C, T, N) ∧ (∀ w ∈ u_ws C T N, w ∈ gW) ∧ k < N ∧ Cond.fieldLink own idx (T k).1 (T k).2.1 (T k).2.2.1 ∈ gW ∧ (∀ k, k < N → parseFieldDescriptor (T k).2.2.1 = some (ty0 k)) ∧ (∀ a, a < N → ∀ b, b < N → a ≠ b → (T a).2.1 ≠ (T b).2.1) ∧ (T k).2.2.2 = true ∧ (T k).1 = own ∧ parseFieldDescriptor (T k).2.2.1 = some ty ∧ ∀ a : Nat, narrow ty (.ref a) = .ref a ∧ fits ty (.ref a) = true
theorem b_putF (hX : bOk X B cc own nL f lo mc ms) (hI : bIn X) {idx ci k a v : Nat} {fs : List Value} (hF : gFf own idx ci k) (q0 : Nat) (he : ws[q0]? = some (a, .inr (ci, fs))) (hl : k < fs.length) (hd : decode cc pc = .ok (.putfield idx, 3)) (hn : pc + 3 = n)
    (kk : bG X B (ws.set q0 (a, .inr (ci, fs.set k (.ref v)))) cells slots n ls st Q) : bG X B ws cells slots pc ls (.ref v :: .ref a :: st) Q := by
  obtain ⟨p, e, R, s, m, args, below, meth, c, A⟩ := X
  intro H locs lsr hP hD hS hL
  subst hn
  obtain ⟨C, T, N, ty0, ty, h1, h2, h3, h4, h5, h6, h7, h8, h9, h10⟩ := hF
  exact va_putF hX.1.1 hX.1.2.1 hX.1.2.2.2.2 h2 ty0 h5 h6 hX.1.2.2.2.1 hX.2.2.2.1.1 hP hD hS q0 he h1 k h3 (hX.1.2.2.2.2 _ h4) (fun _ h => h) h7 hI.1 h8 h9 (h10 v).1 (h10 v).2 hl hd (fun H1 locs1 hP1 hD1 hS1 => kk H1 locs1 lsr hP1 hD1 hS1 hL)
theorem b_putI (hX : bOk X B cc own nL f lo mc ms) {idx ci k a : Nat} {v : Int32} {fs : List Value} (hF : gFp own idx ci k .int) (q0 : Nat) (he : ws[q0]? = some (a, .inr (ci, fs))) (hl : k < fs.length) (hd : decode cc pc = .ok (.putfield idx, 3)) (hn : pc + 3 = n)
    (kk : bG X B (ws.set q0 (a, .inr (ci, fs.set k (.int v)))) cells slots n ls st Q) : bG X B ws cells slots pc ls (.int v :: .ref a :: st) Q := by
  obtain ⟨p, e, R, s, m, args, below, meth, c, A⟩ := X
  intro H locs lsr hP hD hS hL
  subst hn
  obtain ⟨C, T, N, ty0, h1, h2, h3, h4, h5, h6, h7, h8⟩ := hF
  exact va_put hX.1.1 hX.1.2.1 hX.1.2.2.2.2 h2 ty0 h5 h6 hX.1.2.2.2.1 hX.2.2.2.1.1 hP hD hS q0 he h1 k h3 (hX.1.2.2.2.2 _ h4) (fun _ h => h) h7 h8 rfl rfl hl hd (fun H1 locs1 hP1 hD1 hS1 => kk H1 locs1 lsr hP1 hD1 hS1 hL)
theorem b_get (hX : bOk X B cc own nL f lo mc ms) {idx ci k a : Nat} {v : Value} {fs : List Value} (hF : gFl own idx ci k) (q0 : Nat) (he : ws[q0]? = some (a, .inr (ci, fs))) (hv : fs[k]? = some v) (hd : decode cc pc = .ok (.getfield idx, 3)) (hn : pc + 3 = n)
    (kk : bG X B ws cells slots n ls (v :: st) Q) : bG X B ws cells slots pc ls (.ref a :: st) Q := by
  obtain ⟨p, e, R, s, m, args, below, meth, c, A⟩ := X
  intro H locs lsr hP hD hS hL
  subst hn
  obtain ⟨C, T, N, h1, h2, h3, h4⟩ := hF
  exact va_get hX.1.1 hX.1.2.1 hX.1.2.2.2.2 h2 hX.1.2.2.2.1 hX.2.2.2.1.1 hP q0 he h1 k h3 (hX.1.2.2.2.2 _ h4) (fun _ h => h) hv hd (kk H locs lsr hP hD hS hL)
theorem b_iast (hX : bOk X B cc own nL f lo mc ms) {a N j : Nat} {fn : Nat → Int32} {i x : Int32} (q0 : Nat) (ha : ws[q0]? = some (a, .inl (B.2.2.1, N, .inl fn))) (hi : ¬ i < 0) (hj : i.toNatClampNeg = j) (hjN : Nat.blt j N = true) (hd : decode cc pc = .ok (.iastore, 1)) (hn : pc + 1 = n)
    (kk : bG X B (ws.set q0 (a, .inl (B.2.2.1, N, .inl (upd fn j x)))) cells slots n ls st Q) : bG X B ws cells slots pc ls (.int x :: .int i :: .ref a :: st) Q := by
  obtain ⟨p, e, R, s, m, args, below, meth, c, A⟩ := X
  intro H locs lsr hP hD hS hL
  subst hn
  subst hj
  have hlt : i.toNatClampNeg < N := Nat.le_of_ble_eq_true hjN
  exact va_iast hX.1.1 hX.1.2.1 hX.2.2.2.1.1 hP hD hS q0 0 ha rfl (fun h => by rcases h with h | h <;> first | exact hi h | omega) hd (fun H1 locs1 hP1 hD1 hS1 => kk H1 locs1 lsr hP1 hD1 hS1 hL)
theorem b_astq (hX : bOk X B cc own nL f lo mc ms) {a v N j : Nat} {vs : List Value} {fn : Nat → Option Nat} {i : Int32} (q0 qk : Nat) (ha : ws[q0]? = some (a, .inl (B.2.2.2.2, N, .inr (.inr (.inr (.inr fn)))))) (hv : ws[qk]? = some (v, .inr (5, vs))) (hi : ¬ i < 0) (hj : i.toNatClampNeg = j) (hjN : Nat.blt j N = true) (hd : decode cc pc = .ok (.aastore, 1)) (hn : pc + 1 = n)
    (kk : bG X B (ws.set q0 (a, .inl (B.2.2.2.2, N, .inr (.inr (.inr (.inr (va_up fn j (some v)))))))) cells slots n ls st Q) : bG X B ws cells slots pc ls (.ref v :: .int i :: .ref a :: st) Q := by
  obtain ⟨p, e, R, s, m, args, below, meth, c, A⟩ := X
  intro H locs lsr hP hD hS hL
  subst hn
  subst hj
  have hlt : i.toNatClampNeg < N := Nat.le_of_ble_eq_true hjN
  exact va_astq hX.1.1 hX.1.2.1 hX.2.2.2.1.1 hP hD hS q0 2 qk 5 (r := (RX5, TX5, 6)) ha rfl hv rfl (fun h => by rcases h with h | h <;> first | exact hi h | omega) hd (fun H1 locs1 hP1 hD1 hS1 => kk H1 locs1 lsr hP1 hD1 hS1 hL)
end

