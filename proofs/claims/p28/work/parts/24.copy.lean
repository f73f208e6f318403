/-! the JDK's own methods that are called, copies -/
theorem wcopy_s : Cond.static arraycopyName ∈ gW := gW_2 (List.mem_of_getElem? (i := 85) rfl) rfl
theorem wcopy_n : Cond.native arraycopyName ∈ gW := gW_2 (List.mem_of_getElem? (i := 86) rfl) rfl
theorem lmin_name : Lib.Math.min.name = yJ9_min_7cf53 := rfl
theorem lmax_name : Lib.Math.max.name = yJ9_max_7cf53 := rfl
theorem lmin_code : Cond.code Lib.Math.min.name Lib.Math.min.code 2 (some .int) ∈ gW := by
  have h : cJ9_min_7cf53 = Lib.Math.min.code := by decide +kernel
  rw [lmin_name, ← h]; exact wc_J9_min_7cf53
theorem lmax_code : Cond.code Lib.Math.max.name Lib.Math.max.code 2 (some .int) ∈ gW := by
  have h : cJ9_max_7cf53 = Lib.Math.max.code := by decide +kernel
  rw [lmax_name, ← h]; exact wc_J9_max_7cf53
section
variable {X : gX} {E : gE} {cc : ByteArray} {own : String} {nL f lo : Nat} {M : gM} {pc n : Nat} {ls : gLs} {st : List Value} {Q : State → Prop}
theorem g_cat1 {st : List Value} (h : Nat.ble ((st.map fun v => v.category).sum) 8 = true) : (((st.map (gtr E.2.1)).map fun v => v.category).sum) ≤ 8 := by
  rw [g_cat]; exact Nat.le_of_ble_eq_true h
theorem g_mmin (hX : gOk X E cc own nL f lo) {idx : Nat} {x y : Int32} (hlink : Cond.methodLink own idx yJ9_min_7cf53 ∈ gW) (hlen : ls.length = nL) (hr : (Nat.ble 1 f && Nat.ble 21 lo) = true) (hst : Nat.ble ((st.map fun v => v.category).sum) 8 = true) (hd : decode cc pc = .ok (.invokestatic idx, 3)) (hn : pc + 3 = n) (kk : gG X E M n ls (.int (if y < x then y else x) :: st) Q) : gG X E M pc ls (.int y :: .int x :: st) Q := by
  obtain ⟨p, e, R, s, m, args, below, meth, c, cells, slots, A⟩ := X
  intro H locs lsr hP hS hL
  subst hn
  simp only [Bool.and_eq_true] at hr
  have h8 := g_cat1 (E := E) hst
  exact va_mmin hX.1.1 hX.1.2.1 (by rw [hX.1.2.2.1, hL.1, hlen]) hX.1.2.2.2.1 (hX.1.2.2.2.2 _ hlink) (hX.1.2.2.2.2 _ ws_J9_min_7cf53) (hX.1.2.2.2.2 _ wi_J9) (hX.1.2.2.2.2 _ lmin_code) (by rw [hX.2.2.1.1]; exact Nat.le_of_ble_eq_true hr.1) (by rw [hX.2.2.1.2.1]; have := Nat.le_of_ble_eq_true hr.2; omega) hX.2.2.1.2.2.1 hX.2.2.1.2.2.2 hd (kk H locs lsr hP hS hL)
theorem g_mmax (hX : gOk X E cc own nL f lo) {idx : Nat} {x y : Int32} (hlink : Cond.methodLink own idx yJ9_max_7cf53 ∈ gW) (hlen : ls.length = nL) (hr : (Nat.ble 1 f && Nat.ble 21 lo) = true) (hst : Nat.ble ((st.map fun v => v.category).sum) 8 = true) (hd : decode cc pc = .ok (.invokestatic idx, 3)) (hn : pc + 3 = n) (kk : gG X E M n ls (.int (if x < y then y else x) :: st) Q) : gG X E M pc ls (.int y :: .int x :: st) Q := by
  obtain ⟨p, e, R, s, m, args, below, meth, c, cells, slots, A⟩ := X
  intro H locs lsr hP hS hL
  subst hn
  simp only [Bool.and_eq_true] at hr
  have h8 := g_cat1 (E := E) hst
  exact va_mmax hX.1.1 hX.1.2.1 (by rw [hX.1.2.2.1, hL.1, hlen]) hX.1.2.2.2.1 (hX.1.2.2.2.2 _ hlink) (hX.1.2.2.2.2 _ ws_J9_max_7cf53) (hX.1.2.2.2.2 _ wi_J9) (hX.1.2.2.2.2 _ lmax_code) (by rw [hX.2.2.1.1]; exact Nat.le_of_ble_eq_true hr.1) (by rw [hX.2.2.1.2.1]; have := Nat.le_of_ble_eq_true hr.2; omega) hX.2.2.1.2.2.1 hX.2.2.1.2.2.2 hd (kk H locs lsr hP hS hL)
theorem vp_congr {cA : ClassId} {n : Nat} {f g : Nat → Int32} (h : ∀ j, j < n → f j = g j) : vp_cell cA (n, .inl f) = vp_cell cA (n, .inl g) := by
  rw [vp_cell_i, vp_cell_i]
  have e : (fun j : Fin n => Value.int (f j.val)) = (fun j : Fin n => Value.int (g j.val)) := funext fun j => by rw [h j.val j.isLt]
  simp only [arrV, e]
/-- rows that a cell can't tell apart -/
def gEq (sh : gSh) (r r' : Nat → Int32) : Prop := ∀ (E : gE) (a : Nat) (H : Heap), va_at E.2.2.1 vwCl (a, gcell E r sh) H ↔ va_at E.2.2.1 vwCl (a, gcell E r' sh) H
theorem gEq.arr {n : Nat} {fs : List (Option Nat)} {r r' : Nat → Int32} (h : ∀ j, j < n → r j = r' j) : gEq (1, n, fs) r r' := by
  intro E a H
  show (H[a]? = some (vp_cell E.2.2.2.1 (n, .inl r))) ↔ (H[a]? = some (vp_cell E.2.2.2.1 (n, .inl r')))
  rw [vp_congr h]
theorem gEq.obj {sh : gSh} {r r' : Nat → Int32} (h : ∀ E : gE, gcell E r sh = gcell E r' sh) : gEq sh r r' := fun E a H => by rw [h E]
theorem gG_row {a : Nat} {sh : gSh} {r r' : Nat → Int32} (hs : shp[a]? = some sh) (h : gEq sh r r') (kk : gG X E (gset M a r') pc ls st Q) : gG X E (gset M a r) pc ls st Q := by
  obtain ⟨p, e, R, s, m, args, below, meth, c, cells, slots, A⟩ := X
  intro H locs lsr hP hS hL
  refine kk H locs lsr (fun k q hk => ?_) hS hL
  obtain ⟨sh', h1, rfl⟩ := gws_inv hk
  have h2 := hP k _ (gws_get h1)
  by_cases e : k = a
  · subst e
    rw [hs] at h1; cases h1
    rw [gset_eq] at h2 ⊢
    exact (h E _ H).mp h2
  · rw [gset_ne _ _ e] at h2 ⊢
    exact h2
theorem g_copy (hX : gOk X E cc own nL f lo) {idx a b N : Nat} {fs fs' : List (Option Nat)} (hlink : Cond.methodLink own idx arraycopyName ∈ gW) (hlen : ls.length = nL) (hr : (Nat.ble 1 f && Nat.ble 29 lo) = true) (hst : Nat.ble ((st.map fun v => v.category).sum) 8 = true) (ha : shp[a]? = some (1, N, fs)) (hb : shp[b]? = some (1, N, fs')) (hN : Nat.ble N 5000 = true) (hd : decode cc pc = .ok (.invokestatic idx, 3)) (hn : pc + 3 = n) (kk : gG X E (gset M b (M a)) n ls st Q) : gG X E M pc ls (.int (nI N) :: .int (nI 0) :: .ref b :: .int (nI 0) :: .ref a :: st) Q := by
  obtain ⟨p, e, R, s, m, args, below, meth, c, cells, slots, A⟩ := X
  intro H locs lsr hP hS hL
  subst hn
  simp only [Bool.and_eq_true] at hr
  have h8 := g_cat1 (E := E) hst
  have hN' := Nat.le_of_ble_eq_true hN
  have hz : (nI 0).toNatClampNeg = 0 := by decide
  have hc : (nI N).toNatClampNeg = N := nI_clamp (by omega)
  have hw : nativeFrameWords "java/lang/System" "arraycopy" 5 ≤ 10 := by decide
  refine va_copyi hX.1.1 hX.1.2.1 (by rw [hX.1.2.2.1, hL.1, hlen]) hX.1.2.2.2.1 (hX.1.2.2.2.2 _ hlink) (hX.1.2.2.2.2 _ wcopy_n) (hX.1.2.2.2.2 _ wcopy_s) (hX.1.2.2.2.2 _ wi_J10) hX.2.2.2.1 hP hX.2.2.2.D hS a b 0 0 (gws_get ha) (gws_get hb) rfl rfl rfl (by decide) (by decide) (nI_pos (by omega)) (by rw [hz, hc]; exact Nat.le_of_eq (Nat.zero_add N)) (by rw [hz, hc]; exact Nat.le_of_eq (Nat.zero_add N)) (fun i _ => rfl) (by rw [hX.2.2.1.1]; exact Nat.le_of_ble_eq_true hr.1) (by rw [hX.2.2.1.2.1]; have := Nat.le_of_ble_eq_true hr.2; omega) hd (fun H1 locs1 hP1 hD1 hS1 => ?_)
  have e1 := gws_set (E := E) (M := M) (r := va_cpy (M a) (M b) (nI 0).toNatClampNeg (nI 0).toNatClampNeg (nI N).toNatClampNeg) hb
  have hP2 : va_P E.2.2.1 vwCl (gws E (gset M b (va_cpy (M a) (M b) (nI 0).toNatClampNeg (nI 0).toNatClampNeg (nI N).toNatClampNeg))) H1 := by rw [← e1]; exact hP1
  refine gG_row (X := (p, e, R, s, m, args, below, meth, c, cells, slots, A)) hb (gEq.arr (r' := M a) (fun j hj => ?_)) kk H1 locs1 lsr hP2 hS1 hL
  rw [hz, hc]
  simp only [va_cpy]
  rw [if_pos ⟨Nat.zero_le _, by omega⟩]
  rw [Nat.zero_add, Nat.sub_zero]
end
theorem c_X7_copyAll (E : gE) (M : gM) (a b N : Nat) (fs fs' : List (Option Nat)) (ha : shp[a]? = some (1, N, fs)) (hb : shp[b]? = some (1, N, fs')) (hN : Nat.ble N 5000 = true) : gMet E k_X7_copyAll [.ref a, .ref b] M (gVoid fun M' => M' = gset M b (M a)) := by
  refine gMet.of (by decide +kernel) rfl (Nat.le_of_ble_eq_true rfl) (fun X hX hR => ?_)
  have e : (if nI N < nI N then nI N else nI N) = nI N := by split <;> rfl
  refine g_aload_n (i := 0) hX dX7_copyAll_0 rfl rfl rfl ?_
  refine g_iconst hX dX7_copyAll_1 ic_0 rfl ?_
  refine g_aload_n (i := 1) hX dX7_copyAll_2 rfl rfl rfl ?_
  refine g_iconst hX dX7_copyAll_3 ic_0 rfl ?_
  refine g_aload_n (i := 0) hX dX7_copyAll_4 rfl rfl rfl ?_
  refine g_alen hX ha dX7_copyAll_5 rfl ?_
  refine g_aload_n (i := 1) hX dX7_copyAll_6 rfl rfl rfl ?_
  refine g_alen hX hb dX7_copyAll_7 rfl ?_
  refine g_mmin hX wk_X7_272 rfl rfl rfl dX7_copyAll_8 rfl ?_
  rw [e]
  refine g_copy hX wk_X7_275 rfl rfl rfl ha hb hN dX7_copyAll_11 rfl ?_
  refine g_vret hX hR dX7_copyAll_14 ?_
  rfl
theorem c_fill (E : gE) (M : gM) (a N : Nat) (x : Int32) (fs : List (Option Nat)) (ha : shp[a]? = some (1, N, fs)) (hN : Nat.ble N 5000 = true) : gMet E k_J7_fill_53178 [.ref a, .int x] M (gVoid fun M' => M' = gset M a (fun _ => x)) := by
  refine gMet.of (by decide +kernel) rfl (Nat.le_of_ble_eq_true rfl) (fun X hX hR => ?_)
  have hN' := Nat.le_of_ble_eq_true hN
  have loop := up_loop N (fun k => gG X E (gset M a (mapTo k (fun _ => x) (M a))) 5 [some (.ref a), some (.int x), some (.int (nI k)), some (.int (nI N))] [] (gQ X E (gVoid fun M' => M' = gset M a (fun _ => x)))) ?_ ?_
  · skip
    refine g_iconst hX dJ7_fill_53178_0 ic_0 rfl ?_
    refine g_istore_n (i := 2) hX dJ7_fill_53178_1 rfl (Nat.le_of_ble_eq_true rfl) rfl ?_
    refine g_aload_n (i := 0) hX dJ7_fill_53178_2 rfl rfl rfl ?_
    refine g_alen hX ha dJ7_fill_53178_3 rfl ?_
    refine g_istore_n (i := 3) hX dJ7_fill_53178_4 rfl (Nat.le_of_ble_eq_true rfl) rfl ?_
    exact gGM (by simp only [mapTo_0, gset_self]) (loop 0 (Nat.zero_le _))
  · skip
    refine g_iload_n (i := 2) hX dJ7_fill_53178_5 rfl rfl rfl ?_
    refine g_iload_n (i := 3) hX dJ7_fill_53178_6 rfl rfl rfl ?_
    first | refine g_icmp_geN (tgt := 20) hX dJ7_fill_53178_7 (by decide) rfl (by omega) (by omega) (fun zc7 => ?_) (fun zc7 => absurd zc7 (by omega)) | refine g_icmp_ge (tgt := 20) hX dJ7_fill_53178_7 (by decide) rfl (fun zc7 => ?_) (fun zc7 => absurd zc7 (by omega))
    refine gG_row ha (gEq.arr (r' := fun _ => x) (fun j hj => by simp [mapTo, hj])) ?_
    refine g_vret hX hR dJ7_fill_53178_20 ?_
    rfl
  · intro k hk ih
    have s := mapTo_succ k (fun _ => x) (M a)
    refine g_iload_n (i := 2) hX dJ7_fill_53178_5 rfl rfl rfl ?_
    refine g_iload_n (i := 3) hX dJ7_fill_53178_6 rfl rfl rfl ?_
    first | refine g_icmp_geN (tgt := 20) hX dJ7_fill_53178_7 (by decide) rfl (by omega) (by omega) (fun zc7 => absurd zc7 (by omega)) (fun zc7 => ?_) | refine g_icmp_ge (tgt := 20) hX dJ7_fill_53178_7 (by decide) rfl (fun zc7 => absurd zc7 (by omega)) (fun zc7 => ?_)
    refine g_aload_n (i := 0) hX dJ7_fill_53178_10 rfl rfl rfl ?_
    refine g_iload_n (i := 2) hX dJ7_fill_53178_11 rfl rfl rfl ?_
    refine g_iload_n (i := 1) hX dJ7_fill_53178_12 rfl rfl rfl ?_
    refine g_iast hX ha rfl (by omega) hN dJ7_fill_53178_13 rfl ?_
    first | refine g_iincN hX dJ7_fill_53178_14 ic_1 rfl (Nat.le_of_ble_eq_true rfl) rfl ?_ | refine g_iinc hX dJ7_fill_53178_14 ic_1 rfl rfl (Nat.le_of_ble_eq_true rfl) rfl ?_
    refine g_goto (n := 5) hX dJ7_fill_53178_17 (by decide) ?_
    exact gGM (by rw [gset_gset, gset_eq]; exact congrArg (gset M a) s) ih
theorem c_X7_copyAllr (E : gE) (M : gM) (a b N : Nat) (fs fs' : List (Option Nat)) (ha : shp[a]? = some (1, N, fs)) (hb : shp[b]? = some (1, N, fs')) (hN : Nat.ble N 5000 = true) (r : Nat → Int32) (hr : M a = r) : gMet E k_X7_copyAll [.ref a, .ref b] M (gVoid fun M' => M' = gset M b r) := by
  subst hr; exact c_X7_copyAll E M a b N fs fs' ha hb hN

