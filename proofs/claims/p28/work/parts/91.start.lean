theorem shCb_len : shCb.length = 130 := by decide +kernel
theorem shCb_cl : gcl shCb = true := by decide +kernel
set_option maxHeartbeats 4000000 in
set_option maxRecDepth 100000 in
theorem whole_start {p : Program} {e : Env} {s : State} {m : MethodId} {below : List Frame} {meth : Method} {c : Code} (l : Launch) (hflags : l.flags = flags0) {b L : Nat} {xs : Nat → Int32} (hL : L ≤ 260) (C0 : lw_At p s m meth c b L xs) : W p l e room_1 s m #[Value.ref b] below meth c s.heap [] 0 0 (lw_Z below #[Value.ref b] s) (entryFrame m ([Value.ref b] : List Value).toArray 12) := by
  obtain ⟨hx, hb, hr, hml, hown, hts, hX, hbl, hlocks, hgv⟩ := C0
  have hs := flat_of_before _ hgv
  obtain ⟨A, hAe⟩ : ∃ A : Nat → Prop, A = fun q => s.heap.size ≤ q := ⟨_, rfl⟩
  have hA : ∀ a : Nat, a < s.heap.size → ¬ A a := fun a h => by rw [hAe]; exact Nat.not_le.mpr h
  have hA2 : ∀ q : Nat, s.heap.size ≤ q → A q := fun q h => by rw [hAe]; exact h
  obtain ⟨D, ids, hK, hnm⟩ := st_kinds hts
  obtain ⟨tF, hZF, hSF⟩ := st_first (A := A) hts hnm (hts _ (lw_1 (List.mem_of_getElem? (i := 185) rfl))) (hs _ (by decide +kernel)) (hs _ (by decide +kernel)) (hs _ (by decide +kernel)) (hs _ (by decide +kernel)) (hs _ (by decide +kernel)) (hs _ (by decide +kernel)) (hs _ (by decide +kernel)) (hs _ (by decide +kernel)) hA
  obtain ⟨tL, hZL, hTL⟩ := st_table (A := A) (nm := "LEAST_SETTINGS") (f := gLe) hts (hts _ (lw_3 (List.mem_of_getElem? (i := 16) rfl))) (hs _ (by decide +kernel)) (hs _ (by decide +kernel)) (hs _ (by decide +kernel)) (hs _ (by decide +kernel)) (hs _ (by decide +kernel)) (hs _ (by decide +kernel)) (hs _ (by decide +kernel)) hA
  obtain ⟨tG, hZG, hTG⟩ := st_table (A := A) (nm := "GREATEST_SETTINGS") (f := gGr) hts (hts _ (lw_3 (List.mem_of_getElem? (i := 18) rfl))) (hs _ (by decide +kernel)) (hs _ (by decide +kernel)) (hs _ (by decide +kernel)) (hs _ (by decide +kernel)) (hs _ (by decide +kernel)) (hs _ (by decide +kernel)) (hs _ (by decide +kernel)) hA
  have hEnv : bEnv (l, D, ids) A s := ⟨hK, st_nest hts, va_AO.of (hts _ (lw_1 (List.mem_of_getElem? (i := 225) rfl))), va_Nw.of rfl (hts _ (lw_1 (List.mem_of_getElem? (i := 191) rfl))), hnm, tF, hZF, hSF⟩
  have hXb : bOk (p, e, room_1, s, m, #[Value.ref b], below, meth, c, A) (l, D, ids) code RL 12 9 326 600000 7302250 := ⟨⟨hx, hb, hml, hown, gW_hts hts⟩, hlocks, ⟨rfl, rfl, rfl, rfl⟩, hEnv, hA2⟩
  have hgo : bG (p, e, room_1, s, m, #[Value.ref b], below, meth, c, A) (l, D, ids) [] 0 0 0 [(0, .ref b)] [] (lw_Z below #[Value.ref b] s) := by
    refine b_new hXb tyX7 (T := TX7) (N := 3) (ci := 7) rfl wu_X7 tyX7_ok wn_L_14 wt_X7 wi_X7 [.null, .null, .null] df_X7 rfl rfl dL_law_0 rfl (fun q1 => ?_)
    refine b_dup hXb dL_law_3 rfl rfl ?_
    refine b_callI hXb (c_X7_init (l, D, ids)) kb_X7_init rfl wk_L_108 (Nat.le_of_ble_eq_true rfl) rfl rfl dL_law_4 rfl (fun ρ1 h1 => ?_)
    subst h1
    refine b_astore hXb (ls' := [(1, .ref (ρ1 0)), (0, .ref b)]) dL_law_7 rfl (by decide) rfl rfl ?_
    rw [List.nil_append]
    intro H locs lsr hP hD hS hLs
    refine W.widen (k := 134) (n := 10639) (Nat.le_of_ble_eq_true rfl) (Nat.le_of_ble_eq_true rfl) ?_
    obtain ⟨ρ, hρ⟩ : ∃ ρ : Nat → Nat, ρ = fun a => if a < 130 then ρ1 (gpi a) else if a = 134 then tL else if a = 135 then tG else b := ⟨_, rfl⟩
    obtain ⟨hP1, hinj, hin⟩ := relab (B := (l, D, ids)) (ρ := ρ) (fun a ha => by rw [hρ]; exact if_pos ha) hP hD
    have r0 : ρ 0 = ρ1 0 := by rw [hρ]; rfl
    have r134 : ρ 134 = tL := by rw [hρ]; rfl
    have r135 : ρ 135 = tG := by rw [hρ]; rfl
    have r136 : ρ 136 = b := by rw [hρ]; rfl
    have hSc : va_T .int b L (fun j => .int (xs j)) A s s.heap := by
      obtain ⟨scr, x1, x2, x3, x4, x5⟩ := hX
      exact ⟨scr, x1, x2, x3, by omega, by first | (rw [x4]; done) | (rw [x4]; rfl), x5, hA b hbl⟩
    have hEnvG : gEnv (bE (l, D, ids) ρ) A s := ⟨hK, by show va_Z RX7 "LEAST_SETTINGS" "[I" (.ref (ρ 134)) A s s.heap; rw [r134]; exact hZL, by show va_T .int (ρ 134) 5 (fun j => .int (gLe j)) A s s.heap; rw [r134]; exact hTL, by show va_Z RX7 "GREATEST_SETTINGS" "[I" (.ref (ρ 135)) A s s.heap; rw [r135]; exact hZG, by show va_T .int (ρ 135) 5 (fun j => .int (gGr j)) A s s.heap; rw [r135]; exact hTG, ⟨st_nest hts, L, xs, hL, by show va_T .int (ρ 136) L (fun j => .int (xs j)) A s s.heap; rw [r136]; exact hSc⟩, hinj, hin⟩
    have hXg : gOk (p, e, room_1, s, m, #[Value.ref b], below, meth, c, 134, 10639, A) (bE (l, D, ids) ρ) code RL 12 9 326 := ⟨⟨hx, hb, hml, hown, gW_hts hts⟩, hlocks, ⟨rfl, rfl, Nat.le_of_ble_eq_true rfl, Nat.le_of_ble_eq_true rfl⟩, hEnvG⟩
    have hLg : gL ρ lsr [some (.ref 136), some (.ref 0), none, none, none, none, none, none, none, none, none, none] := by
      refine ⟨by rw [hLs.1, hml]; rfl, hLs.2.1, fun i v hv => ?_⟩
      have hi : i < 12 := (List.getElem?_eq_some_iff.mp hv).1
      rcases (show i = 0 ∨ i = 1 ∨ i = 2 ∨ i = 3 ∨ i = 4 ∨ i = 5 ∨ i = 6 ∨ i = 7 ∨ i = 8 ∨ i = 9 ∨ i = 10 ∨ i = 11 by omega) with rfl | rfl | rfl | rfl | rfl | rfl | rfl | rfl | rfl | rfl | rfl | rfl
      · cases hv
        exact ⟨trivial, by show lsr[0]? = some (.val (.ref (ρ 136))); rw [r136]; exact lv_at hLs 1 rfl⟩
      · cases hv
        exact ⟨trivial, by show lsr[1]? = some (.val (.ref (ρ 0))); rw [r0]; exact lv_at hLs 0 rfl⟩
      · cases hv
      · cases hv
      · cases hv
      · cases hv
      · cases hv
      · cases hv
      · cases hv
      · cases hv
      · cases hv
      · cases hv
    have fin : ∀ (M1 : gM) (ls : gLs), gG (p, e, room_1, s, m, #[Value.ref b], below, meth, c, 134, 10639, A) (bE (l, D, ids) ρ) M1 477 ls [.int (nI 1)] (lw_Z below #[Value.ref b] s) := fun M1 ls => by
      intro H locs lsr hP hS hL2
      refine va_forget (fun q hq => ?_) (W.widen (Nat.le_of_ble_eq_true rfl) (Nat.le_of_ble_eq_true rfl) (lw_ret hx hb hr hlocks dL_law_477))
      have h9 := hS.2.2 q hq
      rw [hAe] at h9
      exact h9
    exact law_all hXg fin LI0 WH0 H locs lsr hP1 hS hLg
  have hl := lv_entry ([.ref b]) (n := 12) (Nat.le_of_ble_eq_true rfl)
  rw [lg_entry_eq]
  exact hgo s.heap [] _ (fun k q h => by simp at h) ⟨fun i j p q h => by simp at h, fun k q h => by simp at h⟩ va_S.rf (by rw [hml]; exact hl)

