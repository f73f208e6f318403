variable {X : gX} {E : gE} {cc : ByteArray} {own : String} {nL f lo : Nat} {M : gM} {pc n : Nat} {ls : gLs} {st : List Value} {Q : State → Prop}
theorem g_iconst (hX : gOk X E cc own nL f lo) {z : Int} {v : Int32} (hd : decode cc pc = .ok (.iconst z, 1)) (hv : Int32.ofInt z = v) (hn : pc + 1 = n) (kk : gG X E M n ls (.int v :: st) Q) : gG X E M pc ls st Q := by
  obtain ⟨p, e, R, s, m, args, below, meth, c, cells, slots, A⟩ := X
  intro H locs lsr hP hS hL
  subst hn
  exact lv_iconst hX.1.1 hX.1.2.1 hd hv (kk H locs lsr hP hS hL)
theorem g_bipush (hX : gOk X E cc own nL f lo) {z : Int} {v : Int32} (hd : decode cc pc = .ok (.bipush z, 2)) (hv : (Int8.ofInt z).toInt32 = v) (hn : pc + 2 = n) (kk : gG X E M n ls (.int v :: st) Q) : gG X E M pc ls st Q := by
  obtain ⟨p, e, R, s, m, args, below, meth, c, cells, slots, A⟩ := X
  intro H locs lsr hP hS hL
  subst hn
  exact lv_bipush hX.1.1 hX.1.2.1 hd hv (kk H locs lsr hP hS hL)
theorem g_sipush (hX : gOk X E cc own nL f lo) {z : Int} {v : Int32} (hd : decode cc pc = .ok (.sipush z, 3)) (hv : (Int16.ofInt z).toInt32 = v) (hn : pc + 3 = n) (kk : gG X E M n ls (.int v :: st) Q) : gG X E M pc ls st Q := by
  obtain ⟨p, e, R, s, m, args, below, meth, c, cells, slots, A⟩ := X
  intro H locs lsr hP hS hL
  subst hn
  exact lv_sipush hX.1.1 hX.1.2.1 hd hv (kk H locs lsr hP hS hL)
theorem g_iload_n (hX : gOk X E cc own nL f lo) {q : Fin 4} {i : Nat} {x : Int32} (hd : decode cc pc = .ok (.iload_n q, 1)) (hi : (q : Nat) = i) (hl : ls[i]? = some (some (.int x))) (hn : pc + 1 = n) (kk : gG X E M n ls (.int x :: st) Q) : gG X E M pc ls st Q := by
  obtain ⟨p, e, R, s, m, args, below, meth, c, cells, slots, A⟩ := X
  intro H locs lsr hP hS hL
  subst hn
  exact lv_iload_n hX.1.1 hX.1.2.1 hd hi (hL.2.2 _ _ hl).2 (kk H locs lsr hP hS hL)
theorem g_iload (hX : gOk X E cc own nL f lo) {i : Nat} {x : Int32} (hd : decode cc pc = .ok (.iload i, 2)) (hl : ls[i]? = some (some (.int x))) (hn : pc + 2 = n) (kk : gG X E M n ls (.int x :: st) Q) : gG X E M pc ls st Q := by
  obtain ⟨p, e, R, s, m, args, below, meth, c, cells, slots, A⟩ := X
  intro H locs lsr hP hS hL
  subst hn
  exact lv_iload hX.1.1 hX.1.2.1 hd (hL.2.2 _ _ hl).2 (kk H locs lsr hP hS hL)
theorem g_aload_n (hX : gOk X E cc own nL f lo) {q : Fin 4} {i a : Nat} (hd : decode cc pc = .ok (.aload_n q, 1)) (hi : (q : Nat) = i) (hl : ls[i]? = some (some (.ref a))) (hn : pc + 1 = n) (kk : gG X E M n ls (.ref a :: st) Q) : gG X E M pc ls st Q := by
  obtain ⟨p, e, R, s, m, args, below, meth, c, cells, slots, A⟩ := X
  intro H locs lsr hP hS hL
  subst hn
  exact lv_aload_n hX.1.1 hX.1.2.1 hd hi (hL.2.2 _ _ hl).2 (kk H locs lsr hP hS hL)
theorem g_aload (hX : gOk X E cc own nL f lo) {i a : Nat} (hd : decode cc pc = .ok (.aload i, 2)) (hl : ls[i]? = some (some (.ref a))) (hn : pc + 2 = n) (kk : gG X E M n ls (.ref a :: st) Q) : gG X E M pc ls st Q := by
  obtain ⟨p, e, R, s, m, args, below, meth, c, cells, slots, A⟩ := X
  intro H locs lsr hP hS hL
  subst hn
  exact lv_aload hX.1.1 hX.1.2.1 hd (hL.2.2 _ _ hl).2 (kk H locs lsr hP hS hL)
theorem g_istore_n (hX : gOk X E cc own nL f lo) {q : Fin 4} {i : Nat} {x : Int32} (hd : decode cc pc = .ok (.istore_n q, 1)) (hi : (q : Nat) = i) (hlt : i < ls.length) (hn : pc + 1 = n) (kk : gG X E M n (ls.set i (some (.int x))) st Q) (hq : gpl ls i = true := by rfl) : gG X E M pc ls (.int x :: st) Q := by
  obtain ⟨p, e, R, s, m, args, below, meth, c, cells, slots, A⟩ := X
  intro H locs lsr hP hS hL
  subst hn
  exact lv_istore_n hX.1.1 hX.1.2.1 hd hi hL.has hlt rfl (fun lsr' h' => kk H locs lsr' hP hS (hL.set (v := .int x) hq hlt h'))
theorem g_istore (hX : gOk X E cc own nL f lo) {i : Nat} {x : Int32} (hd : decode cc pc = .ok (.istore i, 2)) (hlt : i < ls.length) (hn : pc + 2 = n) (kk : gG X E M n (ls.set i (some (.int x))) st Q) (hq : gpl ls i = true := by rfl) : gG X E M pc ls (.int x :: st) Q := by
  obtain ⟨p, e, R, s, m, args, below, meth, c, cells, slots, A⟩ := X
  intro H locs lsr hP hS hL
  subst hn
  exact lv_istore hX.1.1 hX.1.2.1 hd hL.has hlt rfl (fun lsr' h' => kk H locs lsr' hP hS (hL.set (v := .int x) hq hlt h'))
theorem g_astore_n (hX : gOk X E cc own nL f lo) {q : Fin 4} {i a : Nat} (hd : decode cc pc = .ok (.astore_n q, 1)) (hi : (q : Nat) = i) (hlt : i < ls.length) (hn : pc + 1 = n) (kk : gG X E M n (ls.set i (some (.ref a))) st Q) (hq : gpl ls i = true := by rfl) : gG X E M pc ls (.ref a :: st) Q := by
  obtain ⟨p, e, R, s, m, args, below, meth, c, cells, slots, A⟩ := X
  intro H locs lsr hP hS hL
  subst hn
  exact lv_astore_n hX.1.1 hX.1.2.1 hd hi hL.has hlt rfl (fun lsr' h' => kk H locs lsr' hP hS (hL.set (v := .ref a) hq hlt h'))
theorem g_astore (hX : gOk X E cc own nL f lo) {i a : Nat} (hd : decode cc pc = .ok (.astore i, 2)) (hlt : i < ls.length) (hn : pc + 2 = n) (kk : gG X E M n (ls.set i (some (.ref a))) st Q) (hq : gpl ls i = true := by rfl) : gG X E M pc ls (.ref a :: st) Q := by
  obtain ⟨p, e, R, s, m, args, below, meth, c, cells, slots, A⟩ := X
  intro H locs lsr hP hS hL
  subst hn
  exact lv_astore hX.1.1 hX.1.2.1 hd hL.has hlt rfl (fun lsr' h' => kk H locs lsr' hP hS (hL.set (v := .ref a) hq hlt h'))
theorem g_iinc (hX : gOk X E cc own nL f lo) {i : Nat} {z : Int} {x v w : Int32} (hd : decode cc pc = .ok (.iinc i z, 3)) (hw : Int32.ofInt z = w) (hl : ls[i]? = some (some (.int x))) (hv : x + w = v) (hlt : i < ls.length) (hn : pc + 3 = n) (kk : gG X E M n (ls.set i (some (.int v))) st Q) (hq : gpl ls i = true := by rfl) : gG X E M pc ls st Q := by
  obtain ⟨p, e, R, s, m, args, below, meth, c, cells, slots, A⟩ := X
  intro H locs lsr hP hS hL
  subst hn
  subst hw; subst hv
  obtain ⟨j, hj⟩ : ∃ j : Nat, (gassoc E.2.1 ls)[j]? = some (i, Value.int x) := List.getElem?_of_mem (List.mem_filterMap.mpr ⟨i, List.mem_range.mpr hlt, by simp [hl, gtr]⟩)
  exact lv_iinc hX.1.1 hX.1.2.1 hd hL.has hj rfl hlt rfl (fun lsr' h' => kk H locs lsr' hP hS (hL.set (v := .int _) hq hlt h'))
theorem g_iadd (hX : gOk X E cc own nL f lo) {x y : Int32} (hd : decode cc pc = .ok (.iadd, 1)) (hn : pc + 1 = n) (kk : gG X E M n ls (.int (x + y) :: st) Q) : gG X E M pc ls (.int y :: .int x :: st) Q := by
  obtain ⟨p, e, R, s, m, args, below, meth, c, cells, slots, A⟩ := X
  intro H locs lsr hP hS hL
  subst hn
  exact lv_iadd hX.1.1 hX.1.2.1 hd (kk H locs lsr hP hS hL)
theorem g_isub (hX : gOk X E cc own nL f lo) {x y : Int32} (hd : decode cc pc = .ok (.isub, 1)) (hn : pc + 1 = n) (kk : gG X E M n ls (.int (x - y) :: st) Q) : gG X E M pc ls (.int y :: .int x :: st) Q := by
  obtain ⟨p, e, R, s, m, args, below, meth, c, cells, slots, A⟩ := X
  intro H locs lsr hP hS hL
  subst hn
  exact lv_isub hX.1.1 hX.1.2.1 hd (kk H locs lsr hP hS hL)
theorem g_imul (hX : gOk X E cc own nL f lo) {x y : Int32} (hd : decode cc pc = .ok (.imul, 1)) (hn : pc + 1 = n) (kk : gG X E M n ls (.int (x * y) :: st) Q) : gG X E M pc ls (.int y :: .int x :: st) Q := by
  obtain ⟨p, e, R, s, m, args, below, meth, c, cells, slots, A⟩ := X
  intro H locs lsr hP hS hL
  subst hn
  exact lv_imul hX.1.1 hX.1.2.1 hd (kk H locs lsr hP hS hL)
theorem g_iand (hX : gOk X E cc own nL f lo) {x y : Int32} (hd : decode cc pc = .ok (.iand, 1)) (hn : pc + 1 = n) (kk : gG X E M n ls (.int (x &&& y) :: st) Q) : gG X E M pc ls (.int y :: .int x :: st) Q := by
  obtain ⟨p, e, R, s, m, args, below, meth, c, cells, slots, A⟩ := X
  intro H locs lsr hP hS hL
  subst hn
  exact lv_iand hX.1.1 hX.1.2.1 hd (kk H locs lsr hP hS hL)
theorem g_ishl (hX : gOk X E cc own nL f lo) {x y : Int32} (hd : decode cc pc = .ok (.ishl, 1)) (hn : pc + 1 = n) (kk : gG X E M n ls (.int (x <<< (y &&& 31)) :: st) Q) : gG X E M pc ls (.int y :: .int x :: st) Q := by
  obtain ⟨p, e, R, s, m, args, below, meth, c, cells, slots, A⟩ := X
  intro H locs lsr hP hS hL
  subst hn
  exact lv_ishl hX.1.1 hX.1.2.1 hd (kk H locs lsr hP hS hL)
theorem g_ishr (hX : gOk X E cc own nL f lo) {x y : Int32} (hd : decode cc pc = .ok (.ishr, 1)) (hn : pc + 1 = n) (kk : gG X E M n ls (.int (x >>> (y &&& 31)) :: st) Q) : gG X E M pc ls (.int y :: .int x :: st) Q := by
  obtain ⟨p, e, R, s, m, args, below, meth, c, cells, slots, A⟩ := X
  intro H locs lsr hP hS hL
  subst hn
  exact lv_ishr hX.1.1 hX.1.2.1 hd (kk H locs lsr hP hS hL)
theorem g_idiv (hX : gOk X E cc own nL f lo) {x y : Int32} (hd : decode cc pc = .ok (.idiv, 1)) (hne : ¬ y = 0) (hn : pc + 1 = n) (kk : gG X E M n ls (.int (x / y) :: st) Q) : gG X E M pc ls (.int y :: .int x :: st) Q := by
  obtain ⟨p, e, R, s, m, args, below, meth, c, cells, slots, A⟩ := X
  intro H locs lsr hP hS hL
  subst hn
  exact lv_idiv hX.1.1 hX.1.2.1 hd hne (kk H locs lsr hP hS hL)
theorem g_irem (hX : gOk X E cc own nL f lo) {x y : Int32} (hd : decode cc pc = .ok (.irem, 1)) (hne : ¬ y = 0) (hn : pc + 1 = n) (kk : gG X E M n ls (.int (x - x / y * y) :: st) Q) : gG X E M pc ls (.int y :: .int x :: st) Q := by
  obtain ⟨p, e, R, s, m, args, below, meth, c, cells, slots, A⟩ := X
  intro H locs lsr hP hS hL
  subst hn
  exact lv_irem hX.1.1 hX.1.2.1 hd hne (kk H locs lsr hP hS hL)
theorem g_iaddN (hX : gOk X E cc own nL f lo) {a b : Nat} (hd : decode cc pc = .ok (.iadd, 1)) (hn : pc + 1 = n) (kk : gG X E M n ls (.int (nI (a + b)) :: st) Q) : gG X E M pc ls (.int (nI b) :: .int (nI a) :: st) Q := by
  obtain ⟨p, e, R, s, m, args, below, meth, c, cells, slots, A⟩ := X
  intro H locs lsr hP hS hL
  subst hn
  exact lv_iadd hX.1.1 hX.1.2.1 hd (by rw [nI_add]; exact kk H locs lsr hP hS hL)
theorem g_imulN (hX : gOk X E cc own nL f lo) {a b : Nat} (hd : decode cc pc = .ok (.imul, 1)) (hn : pc + 1 = n) (kk : gG X E M n ls (.int (nI (a * b)) :: st) Q) : gG X E M pc ls (.int (nI b) :: .int (nI a) :: st) Q := by
  obtain ⟨p, e, R, s, m, args, below, meth, c, cells, slots, A⟩ := X
  intro H locs lsr hP hS hL
  subst hn
  exact lv_imul hX.1.1 hX.1.2.1 hd (by rw [pk_mul]; exact kk H locs lsr hP hS hL)
theorem g_isubN (hX : gOk X E cc own nL f lo) {a b : Nat} (hd : decode cc pc = .ok (.isub, 1)) (hle : b ≤ a) (hn : pc + 1 = n) (kk : gG X E M n ls (.int (nI (a - b)) :: st) Q) : gG X E M pc ls (.int (nI b) :: .int (nI a) :: st) Q := by
  obtain ⟨p, e, R, s, m, args, below, meth, c, cells, slots, A⟩ := X
  intro H locs lsr hP hS hL
  subst hn
  exact lv_isub hX.1.1 hX.1.2.1 hd (by rw [pk_sub hle]; exact kk H locs lsr hP hS hL)
theorem g_iincN (hX : gOk X E cc own nL f lo) {i a b : Nat} {z : Int} (hd : decode cc pc = .ok (.iinc i z, 3)) (hw : Int32.ofInt z = nI b) (hl : ls[i]? = some (some (.int (nI a)))) (hlt : i < ls.length) (hn : pc + 3 = n) (kk : gG X E M n (ls.set i (some (.int (nI (a + b))))) st Q) (hq : gpl ls i = true := by rfl) : gG X E M pc ls st Q := g_iinc hX hd hw hl (nI_add a b) hlt hn kk hq
theorem g_i2c (hX : gOk X E cc own nL f lo) {x : Int32} (hd : decode cc pc = .ok (.i2c, 1)) (hn : pc + 1 = n) (kk : gG X E M n ls (.int (x.toUInt32 % 65536).toInt32 :: st) Q) : gG X E M pc ls (.int x :: st) Q := by
  obtain ⟨p, e, R, s, m, args, below, meth, c, cells, slots, A⟩ := X
  intro H locs lsr hP hS hL
  subst hn
  exact lv_i2c hX.1.1 hX.1.2.1 hd rfl (kk H locs lsr hP hS hL)
theorem g_dup (hX : gOk X E cc own nL f lo) {v : Value} (hd : decode cc pc = .ok (.dup, 1)) (hv : v.category = 1) (hn : pc + 1 = n) (kk : gG X E M n ls (v :: v :: st) Q) : gG X E M pc ls (v :: st) Q := by
  obtain ⟨p, e, R, s, m, args, below, meth, c, cells, slots, A⟩ := X
  intro H locs lsr hP hS hL
  subst hn
  exact lv_dup hX.1.1 hX.1.2.1 hd ((gtr_cat _ _).trans hv) (kk H locs lsr hP hS hL)
theorem g_dup2 (hX : gOk X E cc own nL f lo) {v w : Value} (hd : decode cc pc = .ok (.dup2, 1)) (hv : v.category = 1) (hw : w.category = 1) (hn : pc + 1 = n) (kk : gG X E M n ls (v :: w :: v :: w :: st) Q) : gG X E M pc ls (v :: w :: st) Q := by
  obtain ⟨p, e, R, s, m, args, below, meth, c, cells, slots, A⟩ := X
  intro H locs lsr hP hS hL
  subst hn
  exact lv_dup2_11 hX.1.1 hX.1.2.1 hd ((gtr_cat _ _).trans hv) ((gtr_cat _ _).trans hw) (kk H locs lsr hP hS hL)
theorem g_pop (hX : gOk X E cc own nL f lo) {v : Value} (hd : decode cc pc = .ok (.pop, 1)) (hv : v.category = 1) (hn : pc + 1 = n) (kk : gG X E M n ls st Q) : gG X E M pc ls (v :: st) Q := by
  obtain ⟨p, e, R, s, m, args, below, meth, c, cells, slots, A⟩ := X
  intro H locs lsr hP hS hL
  subst hn
  exact lv_pop hX.1.1 hX.1.2.1 hd ((gtr_cat _ _).trans hv) (kk H locs lsr hP hS hL)
theorem g_goto (hX : gOk X E cc own nL f lo) {off : Int} (hd : decode cc pc = .ok (.goto off, 3)) (hn : (pc : Int) + off = (n : Int)) (kk : gG X E M n ls st Q) : gG X E M pc ls st Q := by
  obtain ⟨p, e, R, s, m, args, below, meth, c, cells, slots, A⟩ := X
  intro H locs lsr hP hS hL
  exact lv_goto hX.1.1 hX.1.2.1 hd hn (kk H locs lsr hP hS hL)
theorem g_if_eq (hX : gOk X E cc own nL f lo) {x : Int32} {off : Int} {tgt : Nat} (hd : decode cc pc = .ok (.ifCond .eq off, 3)) (ht : (pc : Int) + off = (tgt : Int)) (hn : pc + 3 = n) (kt : x = 0 → gG X E M tgt ls st Q) (kf : ¬ (x = 0) → gG X E M n ls st Q) : gG X E M pc ls (.int x :: st) Q := by
  obtain ⟨p, e, R, s, m, args, below, meth, c, cells, slots, A⟩ := X
  intro H locs lsr hP hS hL
  subst hn
  exact lv_if_eq hX.1.1 hX.1.2.1 hd ht (fun h => kt h H locs lsr hP hS hL) (fun h => kf h H locs lsr hP hS hL)
theorem g_if_ne (hX : gOk X E cc own nL f lo) {x : Int32} {off : Int} {tgt : Nat} (hd : decode cc pc = .ok (.ifCond .ne off, 3)) (ht : (pc : Int) + off = (tgt : Int)) (hn : pc + 3 = n) (kt : ¬ x = 0 → gG X E M tgt ls st Q) (kf : x = 0 → gG X E M n ls st Q) : gG X E M pc ls (.int x :: st) Q := by
  obtain ⟨p, e, R, s, m, args, below, meth, c, cells, slots, A⟩ := X
  intro H locs lsr hP hS hL
  subst hn
  exact lv_if_ne hX.1.1 hX.1.2.1 hd ht (fun h => kt h H locs lsr hP hS hL) (fun h => kf h H locs lsr hP hS hL)
theorem g_if_lt (hX : gOk X E cc own nL f lo) {x : Int32} {off : Int} {tgt : Nat} (hd : decode cc pc = .ok (.ifCond .lt off, 3)) (ht : (pc : Int) + off = (tgt : Int)) (hn : pc + 3 = n) (kt : x < 0 → gG X E M tgt ls st Q) (kf : ¬ (x < 0) → gG X E M n ls st Q) : gG X E M pc ls (.int x :: st) Q := by
  obtain ⟨p, e, R, s, m, args, below, meth, c, cells, slots, A⟩ := X
  intro H locs lsr hP hS hL
  subst hn
  exact lv_if_lt hX.1.1 hX.1.2.1 hd ht (fun h => kt h H locs lsr hP hS hL) (fun h => kf h H locs lsr hP hS hL)
theorem g_if_ge (hX : gOk X E cc own nL f lo) {x : Int32} {off : Int} {tgt : Nat} (hd : decode cc pc = .ok (.ifCond .ge off, 3)) (ht : (pc : Int) + off = (tgt : Int)) (hn : pc + 3 = n) (kt : 0 ≤ x → gG X E M tgt ls st Q) (kf : ¬ (0 ≤ x) → gG X E M n ls st Q) : gG X E M pc ls (.int x :: st) Q := by
  obtain ⟨p, e, R, s, m, args, below, meth, c, cells, slots, A⟩ := X
  intro H locs lsr hP hS hL
  subst hn
  exact lv_if_ge hX.1.1 hX.1.2.1 hd ht (fun h => kt h H locs lsr hP hS hL) (fun h => kf h H locs lsr hP hS hL)
theorem g_if_gt (hX : gOk X E cc own nL f lo) {x : Int32} {off : Int} {tgt : Nat} (hd : decode cc pc = .ok (.ifCond .gt off, 3)) (ht : (pc : Int) + off = (tgt : Int)) (hn : pc + 3 = n) (kt : 0 < x → gG X E M tgt ls st Q) (kf : ¬ (0 < x) → gG X E M n ls st Q) : gG X E M pc ls (.int x :: st) Q := by
  obtain ⟨p, e, R, s, m, args, below, meth, c, cells, slots, A⟩ := X
  intro H locs lsr hP hS hL
  subst hn
  exact lv_if_gt hX.1.1 hX.1.2.1 hd ht (fun h => kt h H locs lsr hP hS hL) (fun h => kf h H locs lsr hP hS hL)
theorem g_if_le (hX : gOk X E cc own nL f lo) {x : Int32} {off : Int} {tgt : Nat} (hd : decode cc pc = .ok (.ifCond .le off, 3)) (ht : (pc : Int) + off = (tgt : Int)) (hn : pc + 3 = n) (kt : x ≤ 0 → gG X E M tgt ls st Q) (kf : ¬ (x ≤ 0) → gG X E M n ls st Q) : gG X E M pc ls (.int x :: st) Q := by
  obtain ⟨p, e, R, s, m, args, below, meth, c, cells, slots, A⟩ := X
  intro H locs lsr hP hS hL
  subst hn
  exact lv_if_le hX.1.1 hX.1.2.1 hd ht (fun h => kt h H locs lsr hP hS hL) (fun h => kf h H locs lsr hP hS hL)
theorem g_icmp_eq (hX : gOk X E cc own nL f lo) {x y : Int32} {off : Int} {tgt : Nat} (hd : decode cc pc = .ok (.if_icmp .eq off, 3)) (ht : (pc : Int) + off = (tgt : Int)) (hn : pc + 3 = n) (kt : x = y → gG X E M tgt ls st Q) (kf : ¬ (x = y) → gG X E M n ls st Q) : gG X E M pc ls (.int y :: .int x :: st) Q := by
  obtain ⟨p, e, R, s, m, args, below, meth, c, cells, slots, A⟩ := X
  intro H locs lsr hP hS hL
  subst hn
  exact lv_icmp_eq hX.1.1 hX.1.2.1 hd ht (fun h => kt h H locs lsr hP hS hL) (fun h => kf h H locs lsr hP hS hL)
theorem g_icmp_eqN (hX : gOk X E cc own nL f lo) {a b : Nat} {off : Int} {tgt : Nat} (hd : decode cc pc = .ok (.if_icmp .eq off, 3)) (ht : (pc : Int) + off = (tgt : Int)) (hn : pc + 3 = n) (ha : a < 2 ^ 31) (hb : b < 2 ^ 31) (kt : a = b → gG X E M tgt ls st Q) (kf : ¬ (a = b) → gG X E M n ls st Q) : gG X E M pc ls (.int (nI b) :: .int (nI a) :: st) Q :=
  g_icmp_eq hX hd ht hn (fun h => kt ((nI_eq ha hb).mp h)) (fun h => kf (fun q => h ((nI_eq ha hb).mpr q)))
theorem g_icmp_ne (hX : gOk X E cc own nL f lo) {x y : Int32} {off : Int} {tgt : Nat} (hd : decode cc pc = .ok (.if_icmp .ne off, 3)) (ht : (pc : Int) + off = (tgt : Int)) (hn : pc + 3 = n) (kt : ¬ x = y → gG X E M tgt ls st Q) (kf : x = y → gG X E M n ls st Q) : gG X E M pc ls (.int y :: .int x :: st) Q := by
  obtain ⟨p, e, R, s, m, args, below, meth, c, cells, slots, A⟩ := X
  intro H locs lsr hP hS hL
  subst hn
  exact lv_icmp_ne hX.1.1 hX.1.2.1 hd ht (fun h => kt h H locs lsr hP hS hL) (fun h => kf h H locs lsr hP hS hL)
theorem g_icmp_neN (hX : gOk X E cc own nL f lo) {a b : Nat} {off : Int} {tgt : Nat} (hd : decode cc pc = .ok (.if_icmp .ne off, 3)) (ht : (pc : Int) + off = (tgt : Int)) (hn : pc + 3 = n) (ha : a < 2 ^ 31) (hb : b < 2 ^ 31) (kt : ¬ a = b → gG X E M tgt ls st Q) (kf : a = b → gG X E M n ls st Q) : gG X E M pc ls (.int (nI b) :: .int (nI a) :: st) Q :=
  g_icmp_ne hX hd ht hn (fun h => kt ((not_congr (nI_eq ha hb)).mp h)) (fun h => kf ((nI_eq ha hb).mp h))
theorem g_icmp_lt (hX : gOk X E cc own nL f lo) {x y : Int32} {off : Int} {tgt : Nat} (hd : decode cc pc = .ok (.if_icmp .lt off, 3)) (ht : (pc : Int) + off = (tgt : Int)) (hn : pc + 3 = n) (kt : x < y → gG X E M tgt ls st Q) (kf : ¬ (x < y) → gG X E M n ls st Q) : gG X E M pc ls (.int y :: .int x :: st) Q := by
  obtain ⟨p, e, R, s, m, args, below, meth, c, cells, slots, A⟩ := X
  intro H locs lsr hP hS hL
  subst hn
  exact lv_icmp_lt hX.1.1 hX.1.2.1 hd ht (fun h => kt h H locs lsr hP hS hL) (fun h => kf h H locs lsr hP hS hL)
theorem g_icmp_ltN (hX : gOk X E cc own nL f lo) {a b : Nat} {off : Int} {tgt : Nat} (hd : decode cc pc = .ok (.if_icmp .lt off, 3)) (ht : (pc : Int) + off = (tgt : Int)) (hn : pc + 3 = n) (ha : a < 2 ^ 31) (hb : b < 2 ^ 31) (kt : a < b → gG X E M tgt ls st Q) (kf : ¬ (a < b) → gG X E M n ls st Q) : gG X E M pc ls (.int (nI b) :: .int (nI a) :: st) Q :=
  g_icmp_lt hX hd ht hn (fun h => kt ((nI_ltI ha hb).mp h)) (fun h => kf (fun q => h ((nI_ltI ha hb).mpr q)))
theorem g_icmp_ge (hX : gOk X E cc own nL f lo) {x y : Int32} {off : Int} {tgt : Nat} (hd : decode cc pc = .ok (.if_icmp .ge off, 3)) (ht : (pc : Int) + off = (tgt : Int)) (hn : pc + 3 = n) (kt : y ≤ x → gG X E M tgt ls st Q) (kf : ¬ (y ≤ x) → gG X E M n ls st Q) : gG X E M pc ls (.int y :: .int x :: st) Q := by
  obtain ⟨p, e, R, s, m, args, below, meth, c, cells, slots, A⟩ := X
  intro H locs lsr hP hS hL
  subst hn
  exact lv_icmp_ge hX.1.1 hX.1.2.1 hd ht (fun h => kt h H locs lsr hP hS hL) (fun h => kf h H locs lsr hP hS hL)
theorem g_icmp_geN (hX : gOk X E cc own nL f lo) {a b : Nat} {off : Int} {tgt : Nat} (hd : decode cc pc = .ok (.if_icmp .ge off, 3)) (ht : (pc : Int) + off = (tgt : Int)) (hn : pc + 3 = n) (ha : a < 2 ^ 31) (hb : b < 2 ^ 31) (kt : b ≤ a → gG X E M tgt ls st Q) (kf : ¬ (b ≤ a) → gG X E M n ls st Q) : gG X E M pc ls (.int (nI b) :: .int (nI a) :: st) Q :=
  g_icmp_ge hX hd ht hn (fun h => kt ((nI_leI hb ha).mp h)) (fun h => kf (fun q => h ((nI_leI hb ha).mpr q)))
theorem g_icmp_gt (hX : gOk X E cc own nL f lo) {x y : Int32} {off : Int} {tgt : Nat} (hd : decode cc pc = .ok (.if_icmp .gt off, 3)) (ht : (pc : Int) + off = (tgt : Int)) (hn : pc + 3 = n) (kt : y < x → gG X E M tgt ls st Q) (kf : ¬ (y < x) → gG X E M n ls st Q) : gG X E M pc ls (.int y :: .int x :: st) Q := by
  obtain ⟨p, e, R, s, m, args, below, meth, c, cells, slots, A⟩ := X
  intro H locs lsr hP hS hL
  subst hn
  exact lv_icmp_gt hX.1.1 hX.1.2.1 hd ht (fun h => kt h H locs lsr hP hS hL) (fun h => kf h H locs lsr hP hS hL)
theorem g_icmp_gtN (hX : gOk X E cc own nL f lo) {a b : Nat} {off : Int} {tgt : Nat} (hd : decode cc pc = .ok (.if_icmp .gt off, 3)) (ht : (pc : Int) + off = (tgt : Int)) (hn : pc + 3 = n) (ha : a < 2 ^ 31) (hb : b < 2 ^ 31) (kt : b < a → gG X E M tgt ls st Q) (kf : ¬ (b < a) → gG X E M n ls st Q) : gG X E M pc ls (.int (nI b) :: .int (nI a) :: st) Q :=
  g_icmp_gt hX hd ht hn (fun h => kt ((nI_ltI hb ha).mp h)) (fun h => kf (fun q => h ((nI_ltI hb ha).mpr q)))
theorem g_icmp_le (hX : gOk X E cc own nL f lo) {x y : Int32} {off : Int} {tgt : Nat} (hd : decode cc pc = .ok (.if_icmp .le off, 3)) (ht : (pc : Int) + off = (tgt : Int)) (hn : pc + 3 = n) (kt : x ≤ y → gG X E M tgt ls st Q) (kf : ¬ (x ≤ y) → gG X E M n ls st Q) : gG X E M pc ls (.int y :: .int x :: st) Q := by
  obtain ⟨p, e, R, s, m, args, below, meth, c, cells, slots, A⟩ := X
  intro H locs lsr hP hS hL
  subst hn
  exact lv_icmp_le hX.1.1 hX.1.2.1 hd ht (fun h => kt h H locs lsr hP hS hL) (fun h => kf h H locs lsr hP hS hL)
theorem g_icmp_leN (hX : gOk X E cc own nL f lo) {a b : Nat} {off : Int} {tgt : Nat} (hd : decode cc pc = .ok (.if_icmp .le off, 3)) (ht : (pc : Int) + off = (tgt : Int)) (hn : pc + 3 = n) (ha : a < 2 ^ 31) (hb : b < 2 ^ 31) (kt : a ≤ b → gG X E M tgt ls st Q) (kf : ¬ (a ≤ b) → gG X E M n ls st Q) : gG X E M pc ls (.int (nI b) :: .int (nI a) :: st) Q :=
  g_icmp_le hX hd ht hn (fun h => kt ((nI_leI ha hb).mp h)) (fun h => kf (fun q => h ((nI_leI ha hb).mpr q)))
theorem g_tableIn (hX : gOk X E cc own nL f lo) {dflt l0 h0 : Int} {offs : Array Int} {len : Nat} {x : Int32} {off : Int} (hd : decode cc pc = .ok (.tableswitch dflt l0 h0 offs, len)) (h1 : ¬ x.toInt < l0) (h2 : ¬ h0 < x.toInt) (ho : offs[(x.toInt - l0).toNat]? = some off) (hn : (pc : Int) + off = (n : Int)) (kk : gG X E M n ls st Q) : gG X E M pc ls (.int x :: st) Q := by
  obtain ⟨p, e, R, s, m, args, below, meth, c, cells, slots, A⟩ := X
  intro H locs lsr hP hS hL
  exact lv_tableIn hX.1.1 hX.1.2.1 hd h1 h2 ho hn (kk H locs lsr hP hS hL)
theorem g_tableOut (hX : gOk X E cc own nL f lo) {dflt l0 h0 : Int} {offs : Array Int} {len : Nat} {x : Int32} (hd : decode cc pc = .ok (.tableswitch dflt l0 h0 offs, len)) (h : x.toInt < l0 ∨ h0 < x.toInt) (hn : (pc : Int) + dflt = (n : Int)) (kk : gG X E M n ls st Q) : gG X E M pc ls (.int x :: st) Q := by
  obtain ⟨p, e, R, s, m, args, below, meth, c, cells, slots, A⟩ := X
  intro H locs lsr hP hS hL
  exact lv_tableOut hX.1.1 hX.1.2.1 hd h hn (kk H locs lsr hP hS hL)
theorem g_lookup (hX : gOk X E cc own nL f lo) {dflt : Int} {ps : Array (Int × Int)} {len : Nat} {x : Int32} {off : Int} (hd : decode cc pc = .ok (.lookupswitch dflt ps, len)) (hp : (ps.toList.zip (ps.toList.drop 1)).all (fun (a, next) => a.1 < next.1) = true) (ho : Op.lookupswitch.offset ps.toList dflt x.toInt = off) (hn : (pc : Int) + off = (n : Int)) (kk : gG X E M n ls st Q) : gG X E M pc ls (.int x :: st) Q := by
  obtain ⟨p, e, R, s, m, args, below, meth, c, cells, slots, A⟩ := X
  intro H locs lsr hP hS hL
  exact lv_lookup hX.1.1 hX.1.2.1 hd hp ho hn (kk H locs lsr hP hS hL)
def gFl (own : String) (idx ci k : Nat) : Prop := ∃ (C : String) (T : u_T) (N : Nat), vwCl[ci]? = some (C, T, N) ∧ (∀ w ∈ u_ws C T N, w ∈ gW) ∧ k < N ∧ Cond.fieldLink own idx (T k).1 (T k).2.1 (T k).2.2.1 ∈ gW
def gFp (own : String) (idx ci k : Nat) (ty : FieldType) : Prop := ∃ (C : String) (T : u_T) (N : Nat) (ty0 : Nat → FieldType), vwCl[ci]? = some (C, T, N) ∧ (∀ w ∈ u_ws C T N, w ∈ gW) ∧ k < N ∧ Cond.fieldLink own idx (T k).1 (T k).2.1 (T k).2.2.1 ∈ gW ∧ (∀ k, k < N → parseFieldDescriptor (T k).2.2.1 = some (ty0 k)) ∧ (∀ a, a < N → ∀ b, b < N → a ≠ b → (T a).2.1 ≠ (T b).2.1) ∧ (T k).2.2.2 = false ∧ parseFieldDescriptor (T k).2.2.1 = some ty
theorem g_getV (hX : gOk X E cc own nL f lo) {idx ci k a : Nat} {fs : List (Option Nat)} {o : Option Nat} (hF : gFl own idx ci k) (hs : shp[a]? = some (0, ci, fs)) (hf : fs[k]? = some o) (hd : decode cc pc = .ok (.getfield idx, 3)) {p e R s m args below meth c cells slots A} (eX : X = (p, e, R, s, m, args, below, meth, c, cells, slots, A)) {H : Heap} {locs : List Loc} {lsr : Array Slot} {rest : List Value} (hP : va_P E.2.2.1 vwCl (gws E M) H)
    (kk : W p E.1 e R s m args below meth c H locs cells slots Q (F0 m (pc + 3) lsr (gfv E.2.1 (M a) k o :: rest))) : W p E.1 e R s m args below meth c H locs cells slots Q (F0 m pc lsr (.ref (E.2.1 a) :: rest)) := by
  subst eX
  obtain ⟨C, T, N, h1, h2, h3, h4⟩ := hF
  have hv : (gfs E.2.1 (M a) 0 fs)[k]? = some (gfv E.2.1 (M a) k o) := by rw [gfs_get, hf]; simp
  exact va_get hX.1.1 hX.1.2.1 hX.1.2.2.2.2 h2 hX.1.2.2.2.1 hX.2.2.2.1 hP a (gws_get hs) h1 k h3 (hX.1.2.2.2.2 _ h4) (fun _ h => h) hv hd kk
theorem g_getI (hX : gOk X E cc own nL f lo) {idx ci k a : Nat} {fs : List (Option Nat)} (hF : gFl own idx ci k) (hs : shp[a]? = some (0, ci, fs)) (hf : fs[k]? = some none) (hd : decode cc pc = .ok (.getfield idx, 3)) (hn : pc + 3 = n) (kk : gG X E M n ls (.int (M a k) :: st) Q) : gG X E M pc ls (.ref a :: st) Q := by
  obtain ⟨p, e, R, s, m, args, below, meth, c, cells, slots, A⟩ := X
  intro H locs lsr hP hS hL
  subst hn
  exact g_getV hX hF hs hf hd rfl hP (kk H locs lsr hP hS hL)
theorem g_getR (hX : gOk X E cc own nL f lo) {idx ci k a b : Nat} {fs : List (Option Nat)} (hF : gFl own idx ci k) (hs : shp[a]? = some (0, ci, fs)) (hf : fs[k]? = some (some b)) (hd : decode cc pc = .ok (.getfield idx, 3)) (hn : pc + 3 = n) (kk : gG X E M n ls (.ref b :: st) Q) : gG X E M pc ls (.ref a :: st) Q := by
  obtain ⟨p, e, R, s, m, args, below, meth, c, cells, slots, A⟩ := X
  intro H locs lsr hP hS hL
  subst hn
  exact g_getV hX hF hs hf hd rfl hP (kk H locs lsr hP hS hL)
theorem g_putV (hX : gOk X E cc own nL f lo) {idx ci k a : Nat} {fs : List (Option Nat)} {ty : FieldType} {x : Int32} (hF : gFp own idx ci k ty) (hs : shp[a]? = some (0, ci, fs)) (hf : fs[k]? = some none) (hn1 : narrow ty (.int x) = .int x) (hfit : fits ty (.int x) = true) (hd : decode cc pc = .ok (.putfield idx, 3)) (hn : pc + 3 = n) (kk : gG X E (gset M a (upd (M a) k x)) n ls st Q) : gG X E M pc ls (.int x :: .ref a :: st) Q := by
  obtain ⟨p, e, R, s, m, args, below, meth, c, cells, slots, A⟩ := X
  intro H locs lsr hP hS hL
  subst hn
  obtain ⟨C, T, N, ty0, h1, h2, h3, h4, h5, h6, h7, h8⟩ := hF
  have hlen : k < (gfs E.2.1 (M a) 0 fs).length := by rw [gfs_len]; exact (List.getElem?_eq_some_iff.mp hf).1
  refine va_put hX.1.1 hX.1.2.1 hX.1.2.2.2.2 h2 ty0 h5 h6 hX.1.2.2.2.1 hX.2.2.2.1 hP hX.2.2.2.D hS a (gws_get hs) h1 k h3 (hX.1.2.2.2.2 _ h4) (fun _ h => h) h7 h8 hn1 hfit hlen hd (fun H1 locs1 hP1 hD1 hS1 => kk H1 locs1 lsr ?_ hS1 hL)
  have hP1 : va_P E.2.2.1 vwCl ((gws E M).set a (E.2.1 a, .inr (ci, (gfs E.2.1 (M a) 0 fs).set k (.int x)))) H1 := hP1
  rw [gfs_set _ _ _ _ _ hf] at hP1
  have e := gws_set (E := E) (M := M) (r := upd (M a) k x) hs
  rw [← e]
  exact hP1
theorem g_putI (hX : gOk X E cc own nL f lo) {idx ci k a : Nat} {fs : List (Option Nat)} {x : Int32} (hF : gFp own idx ci k .int) (hs : shp[a]? = some (0, ci, fs)) (hf : fs[k]? = some none) (hd : decode cc pc = .ok (.putfield idx, 3)) (hn : pc + 3 = n) (kk : gG X E (gset M a (upd (M a) k x)) n ls st Q) : gG X E M pc ls (.int x :: .ref a :: st) Q := g_putV hX hF hs hf rfl rfl hd hn kk
theorem g_putZ (hX : gOk X E cc own nL f lo) {idx ci k a : Nat} {fs : List (Option Nat)} {x : Int32} (hF : gFp own idx ci k .boolean) (hs : shp[a]? = some (0, ci, fs)) (hf : fs[k]? = some none) (hx : x = 0 ∨ x = 1) (hd : decode cc pc = .ok (.putfield idx, 3)) (hn : pc + 3 = n) (kk : gG X E (gset M a (upd (M a) k x)) n ls st Q) : gG X E M pc ls (.int x :: .ref a :: st) Q := g_putV hX hF hs hf (by rcases hx with rfl | rfl <;> rfl) (by rcases hx with rfl | rfl <;> rfl) hd hn kk
theorem g_iald (hX : gOk X E cc own nL f lo) {a N j : Nat} {fs : List (Option Nat)} {i : Int32} (hs : shp[a]? = some (1, N, fs)) (hi : i = nI j) (hj : j < N) (hN : Nat.ble N 5000 = true) (hd : decode cc pc = .ok (.iaload, 1)) (hn : pc + 1 = n) (kk : gG X E M n ls (.int (M a j) :: st) Q) : gG X E M pc ls (.int i :: .ref a :: st) Q := by
  obtain ⟨p, e, R, s, m, args, below, meth, c, cells, slots, A⟩ := X
  intro H locs lsr hP hS hL
  subst hn
  have hN' : N ≤ 5000 := Nat.le_of_ble_eq_true hN
  have hc : i.toNatClampNeg = j := by rw [hi]; exact nI_clamp (by omega)
  rw [← hc] at kk
  exact va_iald hX.1.1 hX.1.2.1 hX.2.2.2.1 hP a 0 (gws_get hs) rfl (by rw [hi]; exact vp_in_nI (N := N) hj (by omega)) hd (kk H locs lsr hP hS hL)
theorem g_cald (hX : gOk X E cc own nL f lo) {a N j : Nat} {fs : List (Option Nat)} {i : Int32} (hs : shp[a]? = some (2, N, fs)) (hi : i = nI j) (hj : j < N) (hN : Nat.ble N 5000 = true) (hd : decode cc pc = .ok (.caload, 1)) (hn : pc + 1 = n) (kk : gG X E M n ls (.int (M a j) :: st) Q) : gG X E M pc ls (.int i :: .ref a :: st) Q := by
  obtain ⟨p, e, R, s, m, args, below, meth, c, cells, slots, A⟩ := X
  intro H locs lsr hP hS hL
  subst hn
  have hN' : N ≤ 5000 := Nat.le_of_ble_eq_true hN
  have hc : i.toNatClampNeg = j := by rw [hi]; exact nI_clamp (by omega)
  rw [← hc] at kk
  exact va_cald hX.1.1 hX.1.2.1 hX.2.2.2.1 hP a 1 (gws_get hs) rfl (by rw [hi]; exact vp_in_nI (N := N) hj (by omega)) hd (kk H locs lsr hP hS hL)
theorem g_iast (hX : gOk X E cc own nL f lo) {a N j : Nat} {fs : List (Option Nat)} {i x : Int32} (hs : shp[a]? = some (1, N, fs)) (hi : i = nI j) (hj : j < N) (hN : Nat.ble N 5000 = true) (hd : decode cc pc = .ok (.iastore, 1)) (hn : pc + 1 = n) (kk : gG X E (gset M a (upd (M a) j x)) n ls st Q) : gG X E M pc ls (.int x :: .int i :: .ref a :: st) Q := by
  obtain ⟨p, e, R, s, m, args, below, meth, c, cells, slots, A⟩ := X
  intro H locs lsr hP hS hL
  subst hn
  have hN' : N ≤ 5000 := Nat.le_of_ble_eq_true hN
  have hc : i.toNatClampNeg = j := by rw [hi]; exact nI_clamp (by omega)
  rw [← hc] at kk
  refine va_iast hX.1.1 hX.1.2.1 hX.2.2.2.1 hP hX.2.2.2.D hS a 0 (gws_get hs) rfl (by rw [hi]; exact vp_in_nI (N := N) hj (by omega)) hd (fun H1 locs1 hP1 hD1 hS1 => kk H1 locs1 lsr ?_ hS1 hL)
  have e := gws_set (E := E) (M := M) (r := upd (M a) i.toNatClampNeg x) hs
  rw [← e]
  exact hP1
theorem g_cast (hX : gOk X E cc own nL f lo) {a N j : Nat} {fs : List (Option Nat)} {i x : Int32} (hs : shp[a]? = some (2, N, fs)) (hi : i = nI j) (hj : j < N) (hN : Nat.ble N 5000 = true) (hd : decode cc pc = .ok (.castore, 1)) (hn : pc + 1 = n) (kk : gG X E (gset M a (upd (M a) j (vp_nar .char x))) n ls st Q) : gG X E M pc ls (.int x :: .int i :: .ref a :: st) Q := by
  obtain ⟨p, e, R, s, m, args, below, meth, c, cells, slots, A⟩ := X
  intro H locs lsr hP hS hL
  subst hn
  have hN' : N ≤ 5000 := Nat.le_of_ble_eq_true hN
  have hc : i.toNatClampNeg = j := by rw [hi]; exact nI_clamp (by omega)
  rw [← hc] at kk
  refine va_cast hX.1.1 hX.1.2.1 hX.2.2.2.1 hP hX.2.2.2.D hS a 1 (gws_get hs) rfl (by rw [hi]; exact vp_in_nI (N := N) hj (by omega)) hd (fun H1 locs1 hP1 hD1 hS1 => kk H1 locs1 lsr ?_ hS1 hL)
  have e := gws_set (E := E) (M := M) (r := upd (M a) i.toNatClampNeg (vp_nar .char x)) hs
  rw [← e]
  exact hP1
theorem g_aald (hX : gOk X E cc own nL f lo) {a N j b : Nat} {fs : List (Option Nat)} {i : Int32} (hs : shp[a]? = some (3, N, fs)) (hi : i = nI j) (hj : j < N) (hb : fs[j]? = some (some b)) (hN : Nat.ble N 5000 = true) (hd : decode cc pc = .ok (.aaload, 1)) (hn : pc + 1 = n) (kk : gG X E M n ls (.ref b :: st) Q) : gG X E M pc ls (.int i :: .ref a :: st) Q := by
  obtain ⟨p, e, R, s, m, args, below, meth, c, cells, slots, A⟩ := X
  intro H locs lsr hP hS hL
  subst hn
  have hN' : N ≤ 5000 := Nat.le_of_ble_eq_true hN
  have hc : i.toNatClampNeg = j := by rw [hi]; exact nI_clamp (by omega)
  refine va_aldq hX.1.1 hX.1.2.1 hX.2.2.2.1 hP a 2 (gws_get hs) rfl (by rw [hi]; exact vp_in_nI (N := N) hj (by omega)) hd ?_
  have hq : (fs.getD j none).map E.2.1 = some (E.2.1 b) := by simp [List.getD, hb]
  rw [hc]
  dsimp only
  rw [hq]
  exact kk H locs lsr hP hS hL
theorem g_alen (hX : gOk X E cc own nL f lo) {a N : Nat} {fs : List (Option Nat)} (hs : shp[a]? = some (1, N, fs)) (hd : decode cc pc = .ok (.arraylength, 1)) (hn : pc + 1 = n) (kk : gG X E M n ls (.int (nI N) :: st) Q) : gG X E M pc ls (.ref a :: st) Q := by
  obtain ⟨p, e, R, s, m, args, below, meth, c, cells, slots, A⟩ := X
  intro H locs lsr hP hS hL
  subst hn
  exact va_alen hX.1.1 hX.1.2.1 hX.2.2.2.1 hP a 0 (gws_get hs) rfl rfl hd (kk H locs lsr hP hS hL)
theorem g_least (hX : gOk X E cc own nL f lo) {idx : Nat} (hlink : Cond.fieldLink own idx RX7 "LEAST_SETTINGS" "[I" ∈ gW) (hd : decode cc pc = .ok (.getstatic idx, 3)) (hn : pc + 3 = n) (kk : gG X E M n ls (.ref 134 :: st) Q) : gG X E M pc ls st Q := by
  obtain ⟨p, e, R, s, m, args, below, meth, c, cells, slots, A⟩ := X
  intro H locs lsr hP hS hL
  subst hn
  exact va_gets hX.1.1 hX.1.2.1 hX.2.2.2.2.1 hS hX.1.2.2.2.1 (hX.1.2.2.2.2 _ hlink) (fun _ h => h) hd (kk H locs lsr hP hS hL)
theorem g_least_ld (hX : gOk X E cc own nL f lo) {j : Nat} {i : Int32} (hi : i = nI j) (hj : j < 5) (hd : decode cc pc = .ok (.iaload, 1)) (hn : pc + 1 = n) (kk : gG X E M n ls (.int (gLe j) :: st) Q) : gG X E M pc ls (.int i :: .ref 134 :: st) Q := by
  obtain ⟨p, e, R, s, m, args, below, meth, c, cells, slots, A⟩ := X
  intro H locs lsr hP hS hL
  subst hn
  have hc : i.toNatClampNeg = j := by rw [hi]; exact nI_clamp (by omega)
  exact va_ti hX.1.1 hX.1.2.1 hX.2.2.2.2.2.1 hS (by rw [hi]; exact vp_in_nI (N := 5) hj (by omega)) (v := .int (gLe j)) (by rw [hc]) hd (kk H locs lsr hP hS hL)
theorem g_great (hX : gOk X E cc own nL f lo) {idx : Nat} (hlink : Cond.fieldLink own idx RX7 "GREATEST_SETTINGS" "[I" ∈ gW) (hd : decode cc pc = .ok (.getstatic idx, 3)) (hn : pc + 3 = n) (kk : gG X E M n ls (.ref 135 :: st) Q) : gG X E M pc ls st Q := by
  obtain ⟨p, e, R, s, m, args, below, meth, c, cells, slots, A⟩ := X
  intro H locs lsr hP hS hL
  subst hn
  exact va_gets hX.1.1 hX.1.2.1 hX.2.2.2.2.2.2.1 hS hX.1.2.2.2.1 (hX.1.2.2.2.2 _ hlink) (fun _ h => h) hd (kk H locs lsr hP hS hL)
theorem g_great_ld (hX : gOk X E cc own nL f lo) {j : Nat} {i : Int32} (hi : i = nI j) (hj : j < 5) (hd : decode cc pc = .ok (.iaload, 1)) (hn : pc + 1 = n) (kk : gG X E M n ls (.int (gGr j) :: st) Q) : gG X E M pc ls (.int i :: .ref 135 :: st) Q := by
  obtain ⟨p, e, R, s, m, args, below, meth, c, cells, slots, A⟩ := X
  intro H locs lsr hP hS hL
  subst hn
  have hc : i.toNatClampNeg = j := by rw [hi]; exact nI_clamp (by omega)
  exact va_ti hX.1.1 hX.1.2.1 hX.2.2.2.2.2.2.2.1 hS (by rw [hi]; exact vp_in_nI (N := 5) hj (by omega)) (v := .int (gGr j)) (by rw [hc]) hd (kk H locs lsr hP hS hL)
theorem g_iret (hX : gOk X E cc own nL f lo) (hR : gRt X E (some .int)) {P : Int32 → gM → Prop} {x : Int32} (hd : decode cc pc = .ok (.ireturn, 1)) (h : P x M) : gG X E M pc ls [.int x] (gQ X E (gInt P)) := by
  obtain ⟨p, e, R, s, m, args, below, meth, c, cells, slots, A⟩ := X
  intro H locs lsr hP hS hL
  obtain ⟨hr, rfl, rfl, rfl⟩ := hR
  exact W.iret hX.1.1 hX.1.2.1 hr (fun t ht hW => ⟨⟨some x, M, rfl, ⟨x, rfl, h⟩, by rw [ht]; exact hP⟩, hS.F ht⟩) hS.2.2 hd hX.2.1
theorem g_zret (hX : gOk X E cc own nL f lo) (hR : gRt X E (some .boolean)) {P : Int32 → gM → Prop} {x : Int32} (hx : x = 0 ∨ x = 1) (hd : decode cc pc = .ok (.ireturn, 1)) (h : P x M) : gG X E M pc ls [.int x] (gQ X E (gInt P)) := by
  obtain ⟨p, e, R, s, m, args, below, meth, c, cells, slots, A⟩ := X
  intro H locs lsr hP hS hL
  obtain ⟨hr, rfl, rfl, rfl⟩ := hR
  exact W.zret hX.1.1 hX.1.2.1 hr (by rcases hx with rfl | rfl <;> rfl) (fun t ht hW => ⟨⟨some x, M, rfl, ⟨x, rfl, h⟩, by rw [ht]; exact hP⟩, hS.F ht⟩) hS.2.2 hd hX.2.1
theorem g_cret (hX : gOk X E cc own nL f lo) (hR : gRt X E (some .char)) {P : Int32 → gM → Prop} {x : Int32} (hx : narrow .char (.int x) = .int x) (hd : decode cc pc = .ok (.ireturn, 1)) (h : P x M) : gG X E M pc ls [.int x] (gQ X E (gInt P)) := by
  obtain ⟨p, e, R, s, m, args, below, meth, c, cells, slots, A⟩ := X
  intro H locs lsr hP hS hL
  obtain ⟨hr, rfl, rfl, rfl⟩ := hR
  exact W.zret hX.1.1 hX.1.2.1 hr hx (fun t ht hW => ⟨⟨some x, M, rfl, ⟨x, rfl, h⟩, by rw [ht]; exact hP⟩, hS.F ht⟩) hS.2.2 hd hX.2.1
theorem g_vret (hX : gOk X E cc own nL f lo) (hR : gRt X E none) {P : gM → Prop} (hd : decode cc pc = .ok (.return_, 1)) (h : P M) : gG X E M pc ls [] (gQ X E (gVoid P)) := by
  obtain ⟨p, e, R, s, m, args, below, meth, c, cells, slots, A⟩ := X
  intro H locs lsr hP hS hL
  obtain ⟨hr, rfl, rfl, rfl⟩ := hR
  exact W.vret hX.1.1 hX.1.2.1 hr (fun t ht hW => ⟨⟨none, M, rfl, ⟨rfl, h⟩, by rw [ht]; exact hP⟩, hS.F ht⟩) hS.2.2 hd hX.2.1
def gFact (k : gK) (n : Nat) : Prop := Cond.code k.1 k.2.1 k.2.2.1 k.2.2.2.1 ∈ gW ∧ Cond.initialized k.1.cls ∈ gW ∧ (k.1.cls ≠ "java/lang/invoke/MethodHandle" ∧ k.1.cls ≠ "java/lang/invoke/VarHandle") ∧ (parseMethodDescriptor k.1.desc).map (fun d => d.parameters.length) = some n
def gFactV (k : gK) (n ci : Nat) : Prop := gFact k n ∧ Cond.instanceMethod k.1 ∈ gW ∧ Cond.selects k.1.cls k.1 k.1 ∈ gW ∧ ∃ (T : u_T) (N : Nat), vwCl[ci]? = some (k.1.cls, T, N)
def gFactS (k : gK) (n : Nat) : Prop := gFact k n ∧ Cond.static k.1 ∈ gW
def gRoom (f lo : Nat) (k : gK) : Bool := Nat.ble (k.2.2.2.2.1 + 1) f && Nat.ble (8 + (k.2.2.1 + 11) + k.2.2.2.2.2) lo
theorem gMet.blind {as : List Value} : FrameBlind (gPre E as M) := fun a U g mk ⟨h1, h2, h3⟩ => ⟨h1, h2, h3.blind a g mk⟩
theorem g_cat {l : List Value} : (((l.map (gtr E.2.1)).map fun v => v.category).sum) = (l.map fun v => v.category).sum := by
  congr 1
  rw [List.map_map]
  exact List.map_congr_left (fun v _ => gtr_cat _ v)
theorem g_callB {k : gK} {n : Nat} {p : Program} {m : MethodId} {c : Code} {s : State} {args : Array Value} {R : Room} {idx : Nat} (S : CallFix p m c cc nL s args gW own) (hR : R.frames = f ∧ R.locals = lo) (hF : gFact k n) (hr : gRoom f lo k = true) (hlink : Cond.methodLink own idx k.1 ∈ gW) :
    CallB R s args own idx k.1 k.2.1 k.2.2.1 k.2.2.2.1 (gC k.1 k.2.1 k.2.2.1 k.2.2.2.1) { frames := k.2.2.2.2.1, cells := 0, slots := 0, locals := k.2.2.2.2.2 } 0 0 n := by
  obtain ⟨h1, h2, h3, h4⟩ := hF
  simp only [gRoom, Bool.and_eq_true] at hr
  refine ⟨rfl, rfl, ?_, ?_, pay_in S.2.2.2.2 (gC_goodW h1), List.mem_cons_self, S.2.2.2.2 _ h1, S.2.2.2.2 _ h2, h3, fun sig h => ?_, S.2.2.2.2 _ hlink⟩
  · rw [hR.1]; exact Nat.le_of_ble_eq_true hr.1
  · rw [hR.2]; exact Nat.le_of_ble_eq_true hr.2
  · rw [h] at h4
    simpa using h4.symm
theorem g_run {p : Program} {e : Env} {R : Room} {s : State} {m : MethodId} {args : Array Value} {below : List Frame} {meth : Method} {c : Code} {cells slots : Nat} {A : Nat → Prop} {H : Heap} {locs : List Loc} {lsr : Array Slot} {st0 rest : List Value} {a : Array Value} {post : Option Int32 → gM → Prop} {l : Launch}
    (hr : va_Run p l e R s m args below meth c H locs cells slots 0 0 (F0 m pc lsr st0) rest (gPost E post a) (gA E)) (hS : va_S A s.heap H locs) (hA : ∀ q, gA E q → A q)
    (kk : ∀ (r : Option Int32) (M' : gM) (H1 : Heap) (locs1 : List Loc), post r M' → va_P E.2.2.1 vwCl (gws E M') H1 → va_S A s.heap H1 locs1 → W p l e R s m args below meth c H1 locs1 cells slots Q (F0 m (pc + 3) lsr ((r.map Value.int).toList ++ rest))) : W p l e R s m args below meth c H locs cells slots Q (F0 m pc lsr st0) := by
  intro T hT X
  obtain ⟨v, st₀, t, T', L, h0, X', hL, e1, e2, ⟨⟨r, M', hv, hp, hb⟩, hz, hk⟩, st⟩ := hr T hT X
  cases hv
  rw [h0] at hz hk
  obtain ⟨t2, a1, b1⟩ := kk r M' T'.heap (locs ++ L) hp (by rw [e1]; exact hb)
    ⟨Nat.le_trans hS.1 (by rw [e1]; exact hz), fun q h1 h2 => by rw [e1, hk q (Nat.lt_of_lt_of_le h1 hS.1) (fun z => h2 (hA q z))]; exact hS.2.1 q h1 h2, fun q hq => by
      rcases List.mem_append.mp hq with h | h
      · exact hS.2.2 q h
      · exact hA _ (hL q h)⟩ T' rfl X'
  exact ⟨t2, st t2 a1, b1⟩
theorem g_callV0 (hX : gOk X E cc own nL f lo) {k : gK} {np ci b idx : Nat} {As rest : List Value} {fs : List (Option Nat)} {post : Option Int32 → gM → Prop} (hM : gMet E k (.ref b :: As) M post) (hF : gFactV k np ci) (hr : gRoom f lo k = true) (hlink : Cond.methodLink own idx k.1 ∈ gW) (hs : shp[b]? = some (0, ci, fs)) (hAs : As.length = np) (hst : st = As.reverse ++ .ref b :: rest) (hrest : Nat.ble ((rest.map fun v => v.category).sum) 8 = true) (hlen : ls.length = nL) (hd : decode cc pc = .ok (.invokevirtual idx, 3)) (hn : pc + 3 = n)
    (kk : ∀ (r : Option Int32) (M' : gM), post r M' → gG X E M' n ls ((r.map Value.int).toList ++ rest) Q) : gG X E M pc ls st Q := by
  obtain ⟨p, e, R, s, m, args, below, meth, c, cells, slots, A⟩ := X
  intro H locs lsr hP hS hL
  subst hn; subst hst
  obtain ⟨hF0, hi, hse, T, N, hcl⟩ := hF
  have hAA : ∀ q, gA E q → A q := fun q ⟨a, ha, e⟩ => e ▸ hX.2.2.2.2.2.2.2.2.2.2 a ha
  have hrun := va_runV (p := p) (l := E.1) (e := e) (below := below) (meth := meth) (H := H) (locs := locs) (cells := cells) (slots := slots) (C := k.1.cls) (b := E.2.1 b) (As := As.map (gtr E.2.1)) (rest := rest.map (gtr E.2.1)) (g := F0 m pc lsr ((As.reverse ++ .ref b :: rest).map (gtr E.2.1))) hX.1 hM ⟨g_callB hX.1 ⟨hX.2.2.1.1, hX.2.2.1.2.1⟩ hF0 hr hlink, hX.1.2.2.2.2 _ hi, hX.1.2.2.2.2 _ hse⟩
    ⟨gMet.blind, va_recv hX.2.2.2.1 hP hcl (gws_get hs), fun U hU hW => ⟨rfl, by rw [hU]; exact hP, hX.2.2.2.call (locs := locs) (by rw [hU]; exact hS) hW⟩⟩ rfl (by rw [List.length_map]; exact hAs) (by show lsr.size = nL; rw [hL.1, hlen]) (by simp [List.map_reverse, gtr]) (lv_room (by rw [g_cat]; exact Nat.le_of_ble_eq_true hrest)) hd ⟨hX.2.2.1.2.2.1, hX.2.2.1.2.2.2⟩
  refine g_run hrun hS hAA (fun r M' H1 locs1 hp hP1 hS1 => ?_)
  have h := kk r M' hp H1 locs1 lsr hP1 hS1 hL
  have e : ((r.map Value.int).toList ++ rest).map (gtr E.2.1) = (r.map Value.int).toList ++ rest.map (gtr E.2.1) := by cases r <;> simp [gtr]
  rw [e] at h
  exact h
theorem g_callS0 (hX : gOk X E cc own nL f lo) {k : gK} {np idx : Nat} {As rest : List Value} {post : Option Int32 → gM → Prop} (hM : gMet E k As M post) (hF : gFactS k np) (hr : gRoom f lo k = true) (hlink : Cond.methodLink own idx k.1 ∈ gW) (hAs : As.length = np) (hst : st = As.reverse ++ rest) (hrest : Nat.ble ((rest.map fun v => v.category).sum) 8 = true) (hlen : ls.length = nL) (hd : decode cc pc = .ok (.invokestatic idx, 3)) (hn : pc + 3 = n)
    (kk : ∀ (r : Option Int32) (M' : gM), post r M' → gG X E M' n ls ((r.map Value.int).toList ++ rest) Q) : gG X E M pc ls st Q := by
  obtain ⟨p, e, R, s, m, args, below, meth, c, cells, slots, A⟩ := X
  intro H locs lsr hP hS hL
  subst hn; subst hst
  obtain ⟨hF0, hi⟩ := hF
  have hAA : ∀ q, gA E q → A q := fun q ⟨a, ha, e⟩ => e ▸ hX.2.2.2.2.2.2.2.2.2.2 a ha
  have hrun := va_runS (p := p) (l := E.1) (e := e) (below := below) (meth := meth) (H := H) (locs := locs) (cells := cells) (slots := slots) (As := As.map (gtr E.2.1)) (rest := rest.map (gtr E.2.1)) (g := F0 m pc lsr ((As.reverse ++ rest).map (gtr E.2.1))) hX.1 hM ⟨g_callB hX.1 ⟨hX.2.2.1.1, hX.2.2.1.2.1⟩ hF0 hr hlink, hX.1.2.2.2.2 _ hi⟩
    ⟨gMet.blind, fun U hU hW => ⟨rfl, by rw [hU]; exact hP, hX.2.2.2.call (locs := locs) (by rw [hU]; exact hS) hW⟩⟩ rfl (by rw [List.length_map]; exact hAs) (by show lsr.size = nL; rw [hL.1, hlen]) (by simp [List.map_reverse]) (lv_room (by rw [g_cat]; exact Nat.le_of_ble_eq_true hrest)) hd ⟨hX.2.2.1.2.2.1, hX.2.2.1.2.2.2⟩
  refine g_run hrun hS hAA (fun r M' H1 locs1 hp hP1 hS1 => ?_)
  have h := kk r M' hp H1 locs1 lsr hP1 hS1 hL
  have e : ((r.map Value.int).toList ++ rest).map (gtr E.2.1) = (r.map Value.int).toList ++ rest.map (gtr E.2.1) := by cases r <;> simp [gtr]
  rw [e] at h
  exact h
theorem g_callN0 (hX : gOk X E cc own nL f lo) {k : gK} {np idx : Nat} {host : String} {As rest : List Value} {post : Option Int32 → gM → Prop} (hM : gMet E k As M post) (hF : gFactS k np) (hr : gRoom f lo k = true) (hlink : Cond.methodLinkNest own idx k.1 host ∈ gNest) (hAs : As.length = np) (hst : st = As.reverse ++ rest) (hrest : Nat.ble ((rest.map fun v => v.category).sum) 8 = true) (hlen : ls.length = nL) (hd : decode cc pc = .ok (.invokestatic idx, 3)) (hn : pc + 3 = n)
    (kk : ∀ (r : Option Int32) (M' : gM), post r M' → gG X E M' n ls ((r.map Value.int).toList ++ rest) Q) : gG X E M pc ls st Q := by
  obtain ⟨p, e, R, s, m, args, below, meth, c, cells, slots, A⟩ := X
  intro H locs lsr hP hS hL
  subst hn; subst hst
  obtain ⟨⟨h1, h2, h3, h4⟩, hi⟩ := hF
  simp only [Bool.and_eq_true, gRoom] at hr
  have hAA : ∀ q, gA E q → A q := fun q ⟨a, ha, e⟩ => e ▸ hX.2.2.2.2.2.2.2.2.2.2 a ha
  have hrun := va_runSN (p := p) (l := E.1) (e := e) (below := below) (meth := meth) (H := H) (locs := locs) (cells := cells) (slots := slots) (As := As.map (gtr E.2.1)) (rest := rest.map (gtr E.2.1)) (g := F0 m pc lsr ((As.reverse ++ rest).map (gtr E.2.1))) hX.1 hM ⟨va_cnB np hX.1.2.2.2.2 (gC_goodW h1) rfl rfl rfl (hX.2.2.2.2.2.2.2.2.1.1 _ hlink) (hX.1.2.2.2.2 _ h2) ⟨h3.1, h3.2, h4⟩ ⟨by rw [hX.2.2.1.1]; exact Nat.le_of_ble_eq_true hr.1, by rw [hX.2.2.1.2.1]; exact Nat.le_of_ble_eq_true hr.2⟩, hX.1.2.2.2.2 _ hi, trivial⟩
    ⟨gMet.blind, fun U hU hW => ⟨rfl, by rw [hU]; exact hP, hX.2.2.2.call (locs := locs) (by rw [hU]; exact hS) hW⟩⟩ rfl (by rw [List.length_map]; exact hAs) (by show lsr.size = nL; rw [hL.1, hlen]) (by simp [List.map_reverse]) (lv_room (by rw [g_cat]; exact Nat.le_of_ble_eq_true hrest)) hd ⟨hX.2.2.1.2.2.1, hX.2.2.1.2.2.2⟩
  refine g_run hrun hS hAA (fun r M' H1 locs1 hp hP1 hS1 => ?_)
  have h := kk r M' hp H1 locs1 lsr hP1 hS1 hL
  have e : ((r.map Value.int).toList ++ rest).map (gtr E.2.1) = (r.map Value.int).toList ++ rest.map (gtr E.2.1) := by cases r <;> simp [gtr]
  rw [e] at h
  exact h
theorem g_callVi (hX : gOk X E cc own nL f lo) {k : gK} {np idx : Nat} {ci b : Nat} {fs : List (Option Nat)} {As rest : List Value} {P : Int32 → gM → Prop} (hM : gMet E k (.ref b :: As) M (gInt P)) (hF : gFactV k np ci) (hr : gRoom f lo k = true) (hlink : Cond.methodLink own idx k.1 ∈ gW) (hs : shp[b]? = some (0, ci, fs)) (hAs : As.length = np) (hst : st = As.reverse ++ .ref b :: rest) (hrest : Nat.ble ((rest.map fun v => v.category).sum) 8 = true) (hlen : ls.length = nL) (hd : decode cc pc = .ok (.invokevirtual idx, 3)) (hn : pc + 3 = n) (kk : ∀ (x : Int32) (M' : gM), P x M' → gG X E M' n ls (.int x :: rest) Q) : gG X E M pc ls st Q :=
  g_callV0 hX hM hF hr hlink hs hAs hst hrest hlen hd hn (fun r M' ⟨x, e, h⟩ => by subst e; exact kk x M' h)
theorem g_callVv (hX : gOk X E cc own nL f lo) {k : gK} {np idx : Nat} {ci b : Nat} {fs : List (Option Nat)} {As rest : List Value} {P : gM → Prop} (hM : gMet E k (.ref b :: As) M (gVoid P)) (hF : gFactV k np ci) (hr : gRoom f lo k = true) (hlink : Cond.methodLink own idx k.1 ∈ gW) (hs : shp[b]? = some (0, ci, fs)) (hAs : As.length = np) (hst : st = As.reverse ++ .ref b :: rest) (hrest : Nat.ble ((rest.map fun v => v.category).sum) 8 = true) (hlen : ls.length = nL) (hd : decode cc pc = .ok (.invokevirtual idx, 3)) (hn : pc + 3 = n) (kk : ∀ (M' : gM), P M' → gG X E M' n ls rest Q) : gG X E M pc ls st Q :=
  g_callV0 hX hM hF hr hlink hs hAs hst hrest hlen hd hn (fun r M' ⟨e, h⟩ => by subst e; exact kk M' h)
theorem g_callSi (hX : gOk X E cc own nL f lo) {k : gK} {np idx : Nat} {As rest : List Value} {P : Int32 → gM → Prop} (hM : gMet E k As M (gInt P)) (hF : gFactS k np) (hr : gRoom f lo k = true) (hlink : Cond.methodLink own idx k.1 ∈ gW) (hAs : As.length = np) (hst : st = As.reverse ++ rest) (hrest : Nat.ble ((rest.map fun v => v.category).sum) 8 = true) (hlen : ls.length = nL) (hd : decode cc pc = .ok (.invokestatic idx, 3)) (hn : pc + 3 = n) (kk : ∀ (x : Int32) (M' : gM), P x M' → gG X E M' n ls (.int x :: rest) Q) : gG X E M pc ls st Q :=
  g_callS0 hX hM hF hr hlink hAs hst hrest hlen hd hn (fun r M' ⟨x, e, h⟩ => by subst e; exact kk x M' h)
theorem g_callSv (hX : gOk X E cc own nL f lo) {k : gK} {np idx : Nat} {As rest : List Value} {P : gM → Prop} (hM : gMet E k As M (gVoid P)) (hF : gFactS k np) (hr : gRoom f lo k = true) (hlink : Cond.methodLink own idx k.1 ∈ gW) (hAs : As.length = np) (hst : st = As.reverse ++ rest) (hrest : Nat.ble ((rest.map fun v => v.category).sum) 8 = true) (hlen : ls.length = nL) (hd : decode cc pc = .ok (.invokestatic idx, 3)) (hn : pc + 3 = n) (kk : ∀ (M' : gM), P M' → gG X E M' n ls rest Q) : gG X E M pc ls st Q :=
  g_callS0 hX hM hF hr hlink hAs hst hrest hlen hd hn (fun r M' ⟨e, h⟩ => by subst e; exact kk M' h)
theorem g_callNi (hX : gOk X E cc own nL f lo) {k : gK} {np idx : Nat} {host : String} {As rest : List Value} {P : Int32 → gM → Prop} (hM : gMet E k As M (gInt P)) (hF : gFactS k np) (hr : gRoom f lo k = true) (hlink : Cond.methodLinkNest own idx k.1 host ∈ gNest) (hAs : As.length = np) (hst : st = As.reverse ++ rest) (hrest : Nat.ble ((rest.map fun v => v.category).sum) 8 = true) (hlen : ls.length = nL) (hd : decode cc pc = .ok (.invokestatic idx, 3)) (hn : pc + 3 = n) (kk : ∀ (x : Int32) (M' : gM), P x M' → gG X E M' n ls (.int x :: rest) Q) : gG X E M pc ls st Q :=
  g_callN0 hX hM hF hr hlink hAs hst hrest hlen hd hn (fun r M' ⟨x, e, h⟩ => by subst e; exact kk x M' h)
theorem g_callNv (hX : gOk X E cc own nL f lo) {k : gK} {np idx : Nat} {host : String} {As rest : List Value} {P : gM → Prop} (hM : gMet E k As M (gVoid P)) (hF : gFactS k np) (hr : gRoom f lo k = true) (hlink : Cond.methodLinkNest own idx k.1 host ∈ gNest) (hAs : As.length = np) (hst : st = As.reverse ++ rest) (hrest : Nat.ble ((rest.map fun v => v.category).sum) 8 = true) (hlen : ls.length = nL) (hd : decode cc pc = .ok (.invokestatic idx, 3)) (hn : pc + 3 = n) (kk : ∀ (M' : gM), P M' → gG X E M' n ls rest Q) : gG X E M pc ls st Q :=
  g_callN0 hX hM hF hr hlink hAs hst hrest hlen hd hn (fun r M' ⟨e, h⟩ => by subst e; exact kk M' h)
