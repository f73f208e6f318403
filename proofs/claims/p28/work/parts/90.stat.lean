/-! what the start says of the constants, and of the tables -/
theorem lw_1 {w : Cond} (h : w ∈ tables_1_1) : w ∈ lw_tbl := List.mem_append_right _ (List.mem_append_left _ h)
theorem lw_2 {w : Cond} (h : w ∈ tables_1_2) : w ∈ lw_tbl := List.mem_append_right _ (List.mem_append_right _ (List.mem_append_left _ h))
theorem lw_3 {w : Cond} (h : w ∈ tables_1_3) : w ∈ lw_tbl := List.mem_append_right _ (List.mem_append_right _ (List.mem_append_right _ h))
section
variable {args : Array Value} {s : State} {A : Nat → Prop}
theorem st_nest (hts : ∀ w ∈ lw_tbl, w.before args s = true) : ∀ w ∈ gNest, va_Nw w s := by
  intro w hw
  simp only [gNest, List.mem_cons, List.not_mem_nil, or_false] at hw
  rcases hw with rfl | rfl | rfl | rfl | rfl | rfl | rfl | rfl | rfl | rfl | rfl | rfl | rfl
  · exact va_Nw.of rfl (hts _ (lw_1 (List.mem_of_getElem? (i := 22) rfl)))
  · exact va_Nw.of rfl (hts _ (lw_1 (List.mem_of_getElem? (i := 28) rfl)))
  · exact va_Nw.of rfl (hts _ (lw_1 (List.mem_of_getElem? (i := 61) rfl)))
  · exact va_Nw.of rfl (hts _ (lw_1 (List.mem_of_getElem? (i := 106) rfl)))
  · exact va_Nw.of rfl (hts _ (lw_1 (List.mem_of_getElem? (i := 137) rfl)))
  · exact va_Nw.of rfl (hts _ (lw_1 (List.mem_of_getElem? (i := 184) rfl)))
  · exact va_Nw.of rfl (hts _ (lw_1 (List.mem_of_getElem? (i := 226) rfl)))
  · exact va_Nw.of rfl (hts _ (lw_2 (List.mem_of_getElem? (i := 0) rfl)))
  · exact va_Nw.of rfl (hts _ (lw_2 (List.mem_of_getElem? (i := 78) rfl)))
  · exact va_Nw.of rfl (hts _ (lw_2 (List.mem_of_getElem? (i := 91) rfl)))
  · exact va_Nw.of rfl (hts _ (lw_2 (List.mem_of_getElem? (i := 96) rfl)))
  · exact va_Nw.of rfl (hts _ (lw_2 (List.mem_of_getElem? (i := 101) rfl)))
  · exact va_Nw.of rfl (hts _ (lw_2 (List.mem_of_getElem? (i := 102) rfl)))
/-- the kinds of the objects and of the arrays -/
theorem st_kinds (hts : ∀ w ∈ lw_tbl, w.before args s = true) : ∃ (D : va_G) (ids : ClassId × ClassId × ClassId), va_K D vwCl [(ids.1, .int), (ids.2.1, .char), (ids.2.2, .object RX5)] s ∧ s.vm.findClass "[I" = some ids.1 := by
  have hg := gW_hts hts
  have hcl : ∀ k : Nat, ∃ x : ClassId × (Nat → Nat), ∀ q : vw_C, vwCl[k]? = some q → u_Kn s q.1 q.2.1 q.2.2 x.1 x.2 := by
    intro k
    have mk : ∀ (C : String) (T : u_T) (N n : Nat), vwCl[k]? = some (C, T, N) → (∀ w ∈ u_ws C T N, w ∈ gW) → Cond.instantiable C n ∈ gW → ∃ x : ClassId × (Nat → Nat), ∀ q : vw_C, vwCl[k]? = some q → u_Kn s q.1 q.2.1 q.2.2 x.1 x.2 := by
      intro C T N n hk hu hi
      obtain ⟨c0, i0, h0⟩ := u_known hg hu (hg _ hi)
      exact ⟨(c0, i0), fun q hq => by cases hk.symm.trans hq; exact h0⟩
    by_cases hk9 : k < 8
    · rcases (show k = 0 ∨ k = 1 ∨ k = 2 ∨ k = 3 ∨ k = 4 ∨ k = 5 ∨ k = 6 ∨ k = 7 by omega) with rfl | rfl | rfl | rfl | rfl | rfl | rfl | rfl
      · exact mk _ _ _ _ rfl wu_X0 wt_X0
      · exact mk _ _ _ _ rfl wu_X1 wt_X1
      · exact mk _ _ _ _ rfl wu_X2 wt_X2
      · exact mk _ _ _ _ rfl wu_X3 wt_X3
      · exact mk _ _ _ _ rfl wu_X4 wt_X4
      · exact mk _ _ _ _ rfl wu_X5 wt_X5
      · exact mk _ _ _ _ rfl wu_X6 wt_X6
      · exact mk _ _ _ _ rfl wu_X7 wt_X7
    · obtain ⟨c0, i0, h0⟩ := u_known hg wu_X0 (hg _ wt_X0)
      exact ⟨(c0, i0), fun q hq => absurd (List.getElem?_eq_some_iff.mp hq).1 hk9⟩
  obtain ⟨f, hf⟩ := Classical.axiomOfChoice hcl
  have a1 : Cond.arrayClass .int ∈ lw_tbl := lw_1 (List.mem_of_getElem? (i := 58) rfl)
  have a2 : Cond.arrayClass .char ∈ lw_tbl := lw_2 (List.mem_of_getElem? (i := 31) rfl)
  have a3 : Cond.arrayOver (.object RX5) ∈ lw_tbl := lw_1 (List.mem_of_getElem? (i := 225) rfl)
  obtain ⟨c1, k1, m1, e1, e2, e3⟩ := Cond.arrayClass_spec (hts _ a1)
  obtain ⟨c2, k2, m2, g1, g2, g3⟩ := Cond.arrayClass_spec (hts _ a2)
  obtain ⟨m3, c3, k3, f1, f2, f3, f4, f5⟩ := Cond.arrayOver_spec (hts _ a3)
  refine ⟨(fun k => (f k).1, fun k => (f k).2), (c1, c2, c3), ⟨fun c q hq => hf c q hq, fun k q hk => ?_⟩, e1⟩
  have hz : k < 3 := (List.getElem?_eq_some_iff.mp hk).1
  rcases (show k = 0 ∨ k = 1 ∨ k = 2 by omega) with rfl | rfl | rfl
  · cases hk
    exact ⟨fun n z => ⟨fun k h => (by cases h), k1, e2, m1, e3⟩, e1⟩
  · cases hk
    exact ⟨fun n z => ⟨fun k h => (by cases h), k2, g2, m2, g3⟩, g1⟩
  · cases hk
    exact ⟨fun n z => ⟨fun k h => (by cases h), k3, f3, m3, f4⟩, k3, m3, f3, f4, f1, f5⟩
theorem st_table (hts : ∀ w ∈ lw_tbl, w.before args s = true) {nm : String} {f : Nat → Int32} (hl : (Cond.laysStatic RX7 nm "[I").before args s = true) (harr : (Cond.arrayOf (.static RX7 nm "[I") .int).before args s = true) (hlen : (Cond.eq (.length (.static RX7 nm "[I")) (.int 5)).before args s = true) (h0 : (Cond.eq (.elem (.static RX7 nm "[I") (.int 0)) (.int (f 0))).before args s = true) (h1 : (Cond.eq (.elem (.static RX7 nm "[I") (.int 1)) (.int (f 1))).before args s = true) (h2 : (Cond.eq (.elem (.static RX7 nm "[I") (.int 2)) (.int (f 2))).before args s = true) (h3 : (Cond.eq (.elem (.static RX7 nm "[I") (.int 3)) (.int (f 3))).before args s = true) (h4 : (Cond.eq (.elem (.static RX7 nm "[I") (.int 4)) (.int (f 4))).before args s = true) (hA : ∀ a : Nat, a < s.heap.size → ¬ A a) :
    ∃ t : Nat, va_Z RX7 nm "[I" (.ref t) A s s.heap ∧ va_T .int t 5 (fun j => .int (f j)) A s s.heap := by
  obtain ⟨t, ht, hT⟩ := va_Tof (tm := .static RX7 nm "[I") (ty := .int) (N := 5) (f := fun j => .int (f j)) (A := A) (by decide) harr (va_eqt hlen) (fun j hj => by
    rcases (show j = 0 ∨ j = 1 ∨ j = 2 ∨ j = 3 ∨ j = 4 by omega) with rfl | rfl | rfl | rfl | rfl
    · exact va_eqt h0
    · exact va_eqt h1
    · exact va_eqt h2
    · exact va_eqt h3
    · exact va_eqt h4) hA
  have hini : Cond.initialized RX7 ∈ gW := wi_X7
  exact ⟨t, va_Zof hl (gW_hts hts _ hini) ht hA, hT⟩
theorem len_small {tm : Term} {t : Nat} {cell : Cell} {v : Value} (h1 : tm.eval args s none [] s = some (.ref t)) (h2 : s.arrayAt? t = some cell) (h : (Term.length tm).eval args s none [] s = some v) : cell.slots.size < 2 ^ 31 := by
  simp only [Term.eval, h1, h2, Option.bind_eq_bind, Option.bind_some] at h
  split at h
  · assumption
  · cases h
theorem st_first (hts : ∀ w ∈ lw_tbl, w.before args s = true) {cI : ClassId} (hcI : s.vm.findClass "[I" = some cI) (hl : (Cond.laysStatic RX7 "FIRST_SETTINGS" "[I").before args s = true) (harr : (Cond.arrayOf (.static RX7 "FIRST_SETTINGS" "[I") .int).before args s = true) (hlen : (Cond.eq (.length (.static RX7 "FIRST_SETTINGS" "[I")) (.int 5)).before args s = true) (h0 : (Cond.eq (.elem (.static RX7 "FIRST_SETTINGS" "[I") (.int 0)) (.int (gFi 0))).before args s = true) (h1 : (Cond.eq (.elem (.static RX7 "FIRST_SETTINGS" "[I") (.int 1)) (.int (gFi 1))).before args s = true) (h2 : (Cond.eq (.elem (.static RX7 "FIRST_SETTINGS" "[I") (.int 2)) (.int (gFi 2))).before args s = true) (h3 : (Cond.eq (.elem (.static RX7 "FIRST_SETTINGS" "[I") (.int 3)) (.int (gFi 3))).before args s = true) (h4 : (Cond.eq (.elem (.static RX7 "FIRST_SETTINGS" "[I") (.int 4)) (.int (gFi 4))).before args s = true) (hex : (Cond.exactly (.static RX7 "FIRST_SETTINGS" "[I") "[I").before args s = true) (hA : ∀ a : Nat, a < s.heap.size → ¬ A a) :
    ∃ t : Nat, va_Z RX7 "FIRST_SETTINGS" "[I" (.ref t) A s s.heap ∧ bSrc cI t A s.heap := by
  obtain ⟨t, ht, hT⟩ := va_Tof (tm := .static RX7 "FIRST_SETTINGS" "[I") (ty := .int) (N := 5) (f := fun j => .int (gFi j)) (A := A) (by decide) harr (va_eqt hlen) (fun j hj => by
    rcases (show j = 0 ∨ j = 1 ∨ j = 2 ∨ j = 3 ∨ j = 4 by omega) with rfl | rfl | rfl | rfl | rfl
    · exact va_eqt h0
    · exact va_eqt h1
    · exact va_eqt h2
    · exact va_eqt h3
    · exact va_eqt h4) hA
  have hini : Cond.initialized RX7 ∈ gW := wi_X7
  refine ⟨t, va_Zof hl (gW_hts hts _ hini) ht hA, ?_⟩
  obtain ⟨cell, q1, q2, q3, q4, q5, q6, q7⟩ := hT
  obtain ⟨t', c', cell', k', r1, r2, r3, r4, r5, r6, -⟩ := Cond.exactly_spec hex
  cases ht.symm.trans r1
  cases q1.symm.trans r3
  cases hcI.symm.trans r2
  have hsz : cell.slots.size = 5 := by
    obtain ⟨t2, cell2, w1, w2, w3⟩ := Term.length_spec (va_eqt hlen)
    cases ht.symm.trans w1
    have w4 := (State.arrayAt?_spec w2).1
    cases q1.symm.trans w4
    have hlt := len_small w1 w2 (va_eqt hlen)
    have e1 : cell.slots.size.toInt32 = 5 := (Value.int.inj w3).symm
    have e2 := congrArg Int32.toInt e1
    have e3 : (cell.slots.size.toInt32).toInt = (cell.slots.size : Int) := nI_toInt hlt
    rw [e3] at e2
    have e4 : (5 : Int32).toInt = 5 := by decide
    omega
  refine ⟨cell, q1, r6, r5, q3, ?_, q7⟩
  apply Array.ext
  · rw [hsz]
    exact (arrV_size _ _ _).symm
  · intro i g1 g2
    have hi : i < 5 := by rw [hsz] at g1; exact g1
    have u1 := q6 i hi
    have u2 : (vp_cell cI (5, .inl gFi)).slots[i]? = some (.int (gFi i)) := arrV_read cI (fun j => Value.int (gFi j)) hi
    rw [Array.getElem?_eq_getElem g1] at u1
    rw [Array.getElem?_eq_getElem g2] at u2
    exact (Option.some.inj u1).trans (Option.some.inj u2).symm
end

