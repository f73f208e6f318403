/-! the reference: the end of a ballot, days, sums -/
def gMi5 (N : Nat → Int32) (m : Nat) : Int32 := if vVo N m = 0 then vMi N m + 1 else 0
def gVd5 (N : Nat → Int32) (m : Nat) : Int32 := if vVo N m = 0 then vVd N m else vVd N m + 1
def n_end2 (N T : Nat → Int32) (nm : Nat) : Nat → Int32 := st5 3 nm (gVd5 N) (st5 1 nm (gMi5 N) (blkTo 17 6 T N))
def n_end3 (N T : Nat → Int32) (nm : Nat) : Nat → Int32 := upd (upd (n_end2 N T nm) 4 0) 8 (T 5)
def n_end (N : Nat → Int32) (nm nk : Nat) : Nat → Int32 := if carB (talK N nk nm) (vSe N) then st8 4 nk (fun _ => 1) (upd (n_end3 N (talN N nk nm) nm) 9 (nI nk)) else upd (n_end3 N (talN N nk nm) nm) 9 0
theorem c_X8_ends (E : gE) (M : gM) (nm nk : Nat) (vt : Nat → Nat) (hm : M 131 0 = nI nm) (hmb : nm ≤ 10) (hk : M 131 9 = nI nk) (hkb : nk ≤ 30) (hv : ∀ m, m < nm → vt m ≤ 3 ∧ vVo (M 131) m = nI (vt m)) : gMet E k_X8_ends [.ref 130] M (gInt fun r M' => r = gB (carB (talK (M 131) nk nm) (vSe (M 131))) ∧ M' = gset M 131 (n_end (M 131) nm nk)) := by
  refine gMet.of (by decide +kernel) rfl (Nat.le_of_ble_eq_true rfl) (fun X hX hR => ?_)
  have bo : ∀ g j, j < 17 ∨ 23 ≤ j → blkTo 17 6 g (M 131) j = M 131 j := fun g j h => blk_out (by omega)
  have T5 : talN (M 131) nk nm 5 = gB (carB (talK (M 131) nk nm) (vSe (M 131))) := upd_s _ _ _
  -- a place of the row behind k members
  have at1 : ∀ k p m, p < 5 → p ≠ 1 → p ≠ 3 → st5 3 k (gVd5 (M 131)) (st5 1 k (gMi5 (M 131)) (blkTo 17 6 (talN (M 131) nk nm) (M 131))) (23 + 5 * m + p) = M 131 (23 + 5 * m + p) := fun k p m h1 h2 h3 => by rw [st5_ne h1 h3, st5_ne h1 h2, bo _ _ (Or.inr (by omega))]
  have lo : ∀ k j, j < 17 → st5 3 k (gVd5 (M 131)) (st5 1 k (gMi5 (M 131)) (blkTo 17 6 (talN (M 131) nk nm) (M 131))) j = M 131 j := fun k j h => by rw [st5_out (by omega), st5_out (by omega), bo _ _ (Or.inl h)]
  have fin : ∀ (r : Int32) (cc : Bool) (a : Option Value) (N : Nat → Int32), carB (talK (M 131) nk nm) (vSe (M 131)) = cc → N 8 = gB cc → n_end (M 131) nm nk = N → ∀ b, gG X E (gset M 131 N) 167 [some (.ref 130), a, b] [] (gQ X E (gInt fun r M' => r = gB (carB (talK (M 131) nk nm) (vSe (M 131))) ∧ M' = gset M 131 (n_end (M 131) nm nk))) := by
    intro r cc a N h1 h2 h3 b
    rw [h1, h3]
    cases cc with
    | true =>
      refine g_aload_n (i := 0) hX dX8_ends_167 rfl rfl rfl ?_
      refine g_getR hX fl_X8_7 rfl rfl dX8_ends_168 rfl ?_
      refine g_bipush hX dX8_ends_171 bc_8 rfl ?_
      refine g_ialdv (x := nI 1) hX rfl (rfl) (by omega) rfl (h2) dX8_ends_173 rfl ?_
      refine g_iconst hX dX8_ends_174 ic_1 rfl ?_
      first | refine g_icmp_neN (tgt := 182) hX dX8_ends_175 (by decide) rfl (by omega) (by omega) (fun zc175 => absurd zc175 (by omega)) (fun zc175 => ?_) | refine g_icmp_ne (tgt := 182) hX dX8_ends_175 (by decide) rfl (fun zc175 => absurd zc175 (by omega)) (fun zc175 => ?_)
      refine g_iconst hX dX8_ends_178 ic_1 rfl ?_
      refine g_goto (n := 183) hX dX8_ends_179 (by decide) ?_
      refine g_zret hX hR (by first | exact Or.inl rfl | exact Or.inr rfl | exact gB_01 _) dX8_ends_183 ?_
      exact ⟨rfl, rfl⟩
    | false =>
      refine g_aload_n (i := 0) hX dX8_ends_167 rfl rfl rfl ?_
      refine g_getR hX fl_X8_7 rfl rfl dX8_ends_168 rfl ?_
      refine g_bipush hX dX8_ends_171 bc_8 rfl ?_
      refine g_ialdv (x := nI 0) hX rfl (rfl) (by omega) rfl (h2) dX8_ends_173 rfl ?_
      refine g_iconst hX dX8_ends_174 ic_1 rfl ?_
      first | refine g_icmp_neN (tgt := 182) hX dX8_ends_175 (by decide) rfl (by omega) (by omega) (fun zc175 => ?_) (fun zc175 => absurd zc175 (by omega)) | refine g_icmp_ne (tgt := 182) hX dX8_ends_175 (by decide) rfl (fun zc175 => ?_) (fun zc175 => absurd zc175 (by omega))
      refine g_iconst hX dX8_ends_182 ic_0 rfl ?_
      refine g_zret hX hR (by first | exact Or.inl rfl | exact Or.inr rfl | exact gB_01 _) dX8_ends_183 ?_
      exact ⟨rfl, rfl⟩
  have e8 : n_end3 (M 131) (talN (M 131) nk nm) nm 8 = gB (carB (talK (M 131) nk nm) (vSe (M 131))) := (upd_s _ _ _).trans T5
  have loop2 := up_loop nm (fun k => ∀ b, gG X E (gset M 131 (st5 3 k (gVd5 (M 131)) (st5 1 k (gMi5 (M 131)) (blkTo 17 6 (talN (M 131) nk nm) (M 131))))) 6 [some (.ref 130), some (.int (nI k)), b] [] (gQ X E (gInt fun r M' => r = gB (carB (talK (M 131) nk nm) (vSe (M 131))) ∧ M' = gset M 131 (n_end (M 131) nm nk)))) ?_ ?_
  · skip
    refine g_aload_n (i := 0) hX dX8_ends_0 rfl rfl rfl ?_
    refine g_callVv hX (c_X8_tallies E M nm nk vt hm hmb hk hkb hv) kf_X8_tallies rfl wk_X8_80 rfl rfl rfl rfl rfl dX8_ends_1 rfl (fun M1 h1 => ?_)
    subst h1
    refine g_iconst hX dX8_ends_4 ic_0 rfl ?_
    refine g_istore_n (i := 1) hX dX8_ends_5 rfl (Nat.le_of_ble_eq_true rfl) rfl ?_
    exact gGM (by rw [st5_0, st5_0]) (loop2 0 (Nat.zero_le _) _)
  · intro b
    cases hcar : carB (talK (M 131) nk nm) (vSe (M 131)) with
    | false =>
      have hN : n_end (M 131) nm nk = upd (n_end3 (M 131) (talN (M 131) nk nm) nm) 9 0 := by rw [n_end, if_neg (by rw [hcar]; decide)]
      have hf := fin 0 false (some (.int (nI 0))) (upd (n_end3 (M 131) (talN (M 131) nk nm) nm) 9 0) hcar (by rw [upd_n _ _ (by decide), e8, hcar]) hN b
      rw [hcar] at hf
      refine g_iload_n (i := 1) hX dX8_ends_6 rfl rfl rfl ?_
      refine g_aload_n (i := 0) hX dX8_ends_7 rfl rfl rfl ?_
      refine g_getR hX fl_X8_7 rfl rfl dX8_ends_8 rfl ?_
      refine g_iconst hX dX8_ends_11 ic_0 rfl ?_
      refine g_ialdv (x := nI nm) hX rfl (rfl) (by omega) rfl ((by rw [gset_eq]; exact (lo _ 0 (by decide)).trans hm)) dX8_ends_12 rfl ?_
      first | refine g_icmp_geN (tgt := 87) hX dX8_ends_13 (by decide) rfl (by omega) (by omega) (fun zc13 => ?_) (fun zc13 => absurd zc13 (by omega)) | refine g_icmp_ge (tgt := 87) hX dX8_ends_13 (by decide) rfl (fun zc13 => ?_) (fun zc13 => absurd zc13 (by omega))
      refine g_aload_n (i := 0) hX dX8_ends_87 rfl rfl rfl ?_
      refine g_getR hX fl_X8_7 rfl rfl dX8_ends_88 rfl ?_
      refine g_iconst hX dX8_ends_91 ic_4 rfl ?_
      refine g_iconst hX dX8_ends_92 ic_0 rfl ?_
      refine g_iast hX rfl (rfl) (by omega) rfl dX8_ends_93 rfl ?_
      refine g_aload_n (i := 0) hX dX8_ends_94 rfl rfl rfl ?_
      refine g_getR hX fl_X8_7 rfl rfl dX8_ends_95 rfl ?_
      refine g_bipush hX dX8_ends_98 bc_8 rfl ?_
      refine g_aload_n (i := 0) hX dX8_ends_100 rfl rfl rfl ?_
      refine g_getR hX fl_X8_7 rfl rfl dX8_ends_101 rfl ?_
      refine g_bipush hX dX8_ends_104 bc_22 rfl ?_
      refine g_ialdv (x := nI 0) hX rfl (rfl) (by omega) rfl ((by rw [gset_gset]; simp only [gset_eq]; rw [upd_n _ _ (by decide), st5_out (by omega), st5_out (by omega), show (22 : Nat) = 17 + 5 from rfl, blk_in (by decide), T5, hcar]; rfl)) dX8_ends_106 rfl ?_
      refine g_iast hX rfl (rfl) (by omega) rfl dX8_ends_107 rfl ?_
      refine g_aload_n (i := 0) hX dX8_ends_108 rfl rfl rfl ?_
      refine g_getR hX fl_X8_7 rfl rfl dX8_ends_109 rfl ?_
      refine g_bipush hX dX8_ends_112 bc_9 rfl ?_
      refine g_aload_n (i := 0) hX dX8_ends_114 rfl rfl rfl ?_
      refine g_getR hX fl_X8_7 rfl rfl dX8_ends_115 rfl ?_
      refine g_bipush hX dX8_ends_118 bc_8 rfl ?_
      refine g_ialdv (x := nI 0) hX rfl (rfl) (by omega) rfl ((by rw [gset_gset]; simp only [gset_eq]; exact upd_s _ _ _)) dX8_ends_120 rfl ?_
      refine g_if_ne (tgt := 128) hX dX8_ends_121 (by decide) rfl (fun zc121 => absurd zc121 (by decide)) (fun zc121 => ?_)
      refine g_iconst hX dX8_ends_124 ic_0 rfl ?_
      refine g_goto (n := 135) hX dX8_ends_125 (by decide) ?_
      refine g_iast hX rfl (rfl) (by omega) rfl dX8_ends_135 rfl ?_
      refine g_iconst hX dX8_ends_136 ic_0 rfl ?_
      refine g_istore_n (i := 1) hX dX8_ends_137 rfl (Nat.le_of_ble_eq_true rfl) rfl ?_
      refine g_iload_n (i := 1) hX dX8_ends_138 rfl rfl rfl ?_
      refine g_aload_n (i := 0) hX dX8_ends_139 rfl rfl rfl ?_
      refine g_getR hX fl_X8_7 rfl rfl dX8_ends_140 rfl ?_
      refine g_bipush hX dX8_ends_143 bc_9 rfl ?_
      refine g_ialdv (x := nI 0) hX rfl (rfl) (by omega) rfl ((by rw [gset_gset]; simp only [gset_eq]; exact upd_s _ _ _)) dX8_ends_145 rfl ?_
      first | refine g_icmp_geN (tgt := 167) hX dX8_ends_146 (by decide) rfl (by omega) (by omega) (fun zc146 => ?_) (fun zc146 => absurd zc146 (by omega)) | refine g_icmp_ge (tgt := 167) hX dX8_ends_146 (by decide) rfl (fun zc146 => ?_) (fun zc146 => absurd zc146 (by omega))
      refine gGM ?_ hf
      rw [gset_gset, gset_gset, gset_gset]
      simp only [gset_eq, n_end3, n_end2, T5, hcar]
      rfl
    | true =>
      have hN : n_end (M 131) nm nk = st8 4 nk (fun _ => 1) (upd (n_end3 (M 131) (talN (M 131) nk nm) nm) 9 (nI nk)) := by rw [n_end, if_pos hcar]
      have loop3 := up_loop nk (fun k => ∀ b, gG X E (gset M 131 (st8 4 k (fun _ => 1) (upd (n_end3 (M 131) (talN (M 131) nk nm) nm) 9 (nI nk)))) 138 [some (.ref 130), some (.int (nI k)), b] [] (gQ X E (gInt fun r M' => r = gB (carB (talK (M 131) nk nm) (vSe (M 131))) ∧ M' = gset M 131 (n_end (M 131) nm nk)))) ?_ ?_
      · rw [hcar] at loop3
        refine g_iload_n (i := 1) hX dX8_ends_6 rfl rfl rfl ?_
        refine g_aload_n (i := 0) hX dX8_ends_7 rfl rfl rfl ?_
        refine g_getR hX fl_X8_7 rfl rfl dX8_ends_8 rfl ?_
        refine g_iconst hX dX8_ends_11 ic_0 rfl ?_
        refine g_ialdv (x := nI nm) hX rfl (rfl) (by omega) rfl ((by rw [gset_eq]; exact (lo _ 0 (by decide)).trans hm)) dX8_ends_12 rfl ?_
        first | refine g_icmp_geN (tgt := 87) hX dX8_ends_13 (by decide) rfl (by omega) (by omega) (fun zc13 => ?_) (fun zc13 => absurd zc13 (by omega)) | refine g_icmp_ge (tgt := 87) hX dX8_ends_13 (by decide) rfl (fun zc13 => ?_) (fun zc13 => absurd zc13 (by omega))
        refine g_aload_n (i := 0) hX dX8_ends_87 rfl rfl rfl ?_
        refine g_getR hX fl_X8_7 rfl rfl dX8_ends_88 rfl ?_
        refine g_iconst hX dX8_ends_91 ic_4 rfl ?_
        refine g_iconst hX dX8_ends_92 ic_0 rfl ?_
        refine g_iast hX rfl (rfl) (by omega) rfl dX8_ends_93 rfl ?_
        refine g_aload_n (i := 0) hX dX8_ends_94 rfl rfl rfl ?_
        refine g_getR hX fl_X8_7 rfl rfl dX8_ends_95 rfl ?_
        refine g_bipush hX dX8_ends_98 bc_8 rfl ?_
        refine g_aload_n (i := 0) hX dX8_ends_100 rfl rfl rfl ?_
        refine g_getR hX fl_X8_7 rfl rfl dX8_ends_101 rfl ?_
        refine g_bipush hX dX8_ends_104 bc_22 rfl ?_
        refine g_ialdv (x := nI 1) hX rfl (rfl) (by omega) rfl ((by rw [gset_gset]; simp only [gset_eq]; rw [upd_n _ _ (by decide), st5_out (by omega), st5_out (by omega), show (22 : Nat) = 17 + 5 from rfl, blk_in (by decide), T5, hcar]; rfl)) dX8_ends_106 rfl ?_
        refine g_iast hX rfl (rfl) (by omega) rfl dX8_ends_107 rfl ?_
        refine g_aload_n (i := 0) hX dX8_ends_108 rfl rfl rfl ?_
        refine g_getR hX fl_X8_7 rfl rfl dX8_ends_109 rfl ?_
        refine g_bipush hX dX8_ends_112 bc_9 rfl ?_
        refine g_aload_n (i := 0) hX dX8_ends_114 rfl rfl rfl ?_
        refine g_getR hX fl_X8_7 rfl rfl dX8_ends_115 rfl ?_
        refine g_bipush hX dX8_ends_118 bc_8 rfl ?_
        refine g_ialdv (x := nI 1) hX rfl (rfl) (by omega) rfl ((by rw [gset_gset]; simp only [gset_eq]; exact upd_s _ _ _)) dX8_ends_120 rfl ?_
        refine g_if_ne (tgt := 128) hX dX8_ends_121 (by decide) rfl (fun zc121 => ?_) (fun zc121 => absurd zc121 (by decide))
        refine g_aload_n (i := 0) hX dX8_ends_128 rfl rfl rfl ?_
        refine g_getR hX fl_X8_7 rfl rfl dX8_ends_129 rfl ?_
        refine g_bipush hX dX8_ends_132 bc_9 rfl ?_
        refine g_ialdv (x := nI nk) hX rfl (rfl) (by omega) rfl ((by rw [gset_gset]; simp only [gset_eq]; rw [upd_n _ _ (by decide), upd_n _ _ (by decide), st5_out (by omega), st5_out (by omega), bo _ _ (Or.inl (by omega))]; exact hk)) dX8_ends_134 rfl ?_
        refine g_iast hX rfl (rfl) (by omega) rfl dX8_ends_135 rfl ?_
        refine g_iconst hX dX8_ends_136 ic_0 rfl ?_
        refine g_istore_n (i := 1) hX dX8_ends_137 rfl (Nat.le_of_ble_eq_true rfl) rfl ?_
        refine gGM ?_ (loop3 0 (Nat.zero_le _) _)
        rw [gset_gset, gset_gset, gset_gset, st8_0]
        simp only [gset_eq, n_end3, n_end2, T5, hcar]
        rfl
      · intro b
        rw [hcar]
        have hf := fin 0 true (some (.int (nI nk))) _ hcar (by rw [st8_out (by omega), upd_n _ _ (by decide), e8, hcar]) hN b
        rw [hcar] at hf
        refine g_iload_n (i := 1) hX dX8_ends_138 rfl rfl rfl ?_
        refine g_aload_n (i := 0) hX dX8_ends_139 rfl rfl rfl ?_
        refine g_getR hX fl_X8_7 rfl rfl dX8_ends_140 rfl ?_
        refine g_bipush hX dX8_ends_143 bc_9 rfl ?_
        refine g_ialdv (x := nI nk) hX rfl (rfl) (by omega) rfl ((by rw [gset_eq, st8_out (by omega)]; exact upd_s _ _ _)) dX8_ends_145 rfl ?_
        first | refine g_icmp_geN (tgt := 167) hX dX8_ends_146 (by decide) rfl (by omega) (by omega) (fun zc146 => ?_) (fun zc146 => absurd zc146 (by omega)) | refine g_icmp_ge (tgt := 167) hX dX8_ends_146 (by decide) rfl (fun zc146 => ?_) (fun zc146 => absurd zc146 (by omega))
        exact hf
      · intro k hk' ih b
        have hs2 := st8_s (o := 4) (k := k) (by decide) (fun _ => 1) (upd (n_end3 (M 131) (talN (M 131) nk nm) nm) 9 (nI nk))
        rw [hcar] at ih ⊢
        refine g_iload_n (i := 1) hX dX8_ends_138 rfl rfl rfl ?_
        refine g_aload_n (i := 0) hX dX8_ends_139 rfl rfl rfl ?_
        refine g_getR hX fl_X8_7 rfl rfl dX8_ends_140 rfl ?_
        refine g_bipush hX dX8_ends_143 bc_9 rfl ?_
        refine g_ialdv (x := nI nk) hX rfl (rfl) (by omega) rfl ((by rw [gset_eq, st8_out (by omega)]; exact upd_s _ _ _)) dX8_ends_145 rfl ?_
        first | refine g_icmp_geN (tgt := 167) hX dX8_ends_146 (by decide) rfl (by omega) (by omega) (fun zc146 => absurd zc146 (by omega)) (fun zc146 => ?_) | refine g_icmp_ge (tgt := 167) hX dX8_ends_146 (by decide) rfl (fun zc146 => absurd zc146 (by omega)) (fun zc146 => ?_)
        refine g_aload_n (i := 0) hX dX8_ends_149 rfl rfl rfl ?_
        refine g_getR hX fl_X8_7 rfl rfl dX8_ends_150 rfl ?_
        refine g_iload_n (i := 1) hX dX8_ends_153 rfl rfl rfl ?_
        refine g_callSi hX (c_X8_commentAt E _ k) kf_X8_commentAt rfl wk_X8_48 rfl rfl rfl rfl dX8_ends_154 rfl (fun x154 M154 h154 => ?_)
        obtain ⟨rfl, hMq⟩ := h154; have hMq := hMq.symm; subst hMq
        refine g_iconst hX dX8_ends_157 ic_4 rfl ?_
        first | refine g_iaddN hX dX8_ends_158 rfl ?_ | refine g_iadd hX dX8_ends_158 rfl ?_
        refine g_iconst hX dX8_ends_159 ic_1 rfl ?_
        refine g_iast hX rfl (rfl) (by omega) rfl dX8_ends_160 rfl ?_
        first | refine g_iincN hX dX8_ends_161 ic_1 rfl (Nat.le_of_ble_eq_true rfl) rfl ?_ | refine g_iinc hX dX8_ends_161 ic_1 rfl rfl (Nat.le_of_ble_eq_true rfl) rfl ?_
        refine g_goto (n := 138) hX dX8_ends_164 (by decide) ?_
        exact gGM (by rw [gset_gset]; exact congrArg (gset _ 131) hs2) (ih _)
  · intro k hk' ih b
    have a2 := at1 k 2 k (by decide) (by decide) (by decide)
    have s1 := st5_s (o := 1) (k := k) (by decide) (gMi5 (M 131)) (blkTo 17 6 (talN (M 131) nk nm) (M 131))
    have s3 := st5_s (o := 3) (k := k) (by decide) (gVd5 (M 131)) (st5 1 (k + 1) (gMi5 (M 131)) (blkTo 17 6 (talN (M 131) nk nm) (M 131)))
    have r1 : st5 3 k (gVd5 (M 131)) (st5 1 k (gMi5 (M 131)) (blkTo 17 6 (talN (M 131) nk nm) (M 131))) (23 + 5 * k + 1) = vMi (M 131) k := by rw [st5_ne (by decide) (by decide), st5_out (by omega), bo _ _ (Or.inr (by omega))]
    have r3 : ∀ v, upd (st5 3 k (gVd5 (M 131)) (st5 1 k (gMi5 (M 131)) (blkTo 17 6 (talN (M 131) nk nm) (M 131)))) (23 + 5 * k + 1) v (23 + 5 * k + 3) = vVd (M 131) k := fun v => by rw [upd_n _ _ (by omega), st5_out (by omega), st5_out (by omega), bo _ _ (Or.inr (by omega))]
    have r2 : ∀ v, upd (st5 3 k (gVd5 (M 131)) (st5 1 k (gMi5 (M 131)) (blkTo 17 6 (talN (M 131) nk nm) (M 131)))) (23 + 5 * k + 1) v (23 + 5 * k + 2) = vVo (M 131) k := fun v => by rw [upd_n _ _ (by omega)]; exact a2
    have fold : gset M 131 (upd (upd (st5 3 k (gVd5 (M 131)) (st5 1 k (gMi5 (M 131)) (blkTo 17 6 (talN (M 131) nk nm) (M 131)))) (23 + 5 * k + 1) (gMi5 (M 131) k)) (23 + 5 * k + 3) (gVd5 (M 131) k)) = gset M 131 (st5 3 (k + 1) (gVd5 (M 131)) (st5 1 (k + 1) (gMi5 (M 131)) (blkTo 17 6 (talN (M 131) nk nm) (M 131)))) := by
      rw [st5_upd (by decide) (by decide), s1, s3]
    by_cases h0 : vVo (M 131) k = 0
    · have g1 : gMi5 (M 131) k = vMi (M 131) k + 1 := if_pos h0
      have g3 : gVd5 (M 131) k = vVd (M 131) k := if_pos h0
      refine g_iload_n (i := 1) hX dX8_ends_6 rfl rfl rfl ?_
      refine g_aload_n (i := 0) hX dX8_ends_7 rfl rfl rfl ?_
      refine g_getR hX fl_X8_7 rfl rfl dX8_ends_8 rfl ?_
      refine g_iconst hX dX8_ends_11 ic_0 rfl ?_
      refine g_ialdv (x := nI nm) hX rfl (rfl) (by omega) rfl ((by rw [gset_eq]; exact (lo _ 0 (by decide)).trans hm)) dX8_ends_12 rfl ?_
      first | refine g_icmp_geN (tgt := 87) hX dX8_ends_13 (by decide) rfl (by omega) (by omega) (fun zc13 => absurd zc13 (by omega)) (fun zc13 => ?_) | refine g_icmp_ge (tgt := 87) hX dX8_ends_13 (by decide) rfl (fun zc13 => absurd zc13 (by omega)) (fun zc13 => ?_)
      refine g_iload_n (i := 1) hX dX8_ends_16 rfl rfl rfl ?_
      refine g_callSi hX (c_X8_memberAt E _ k) kf_X8_memberAt rfl wk_X8_27 rfl rfl rfl rfl dX8_ends_17 rfl (fun x17 M17 h17 => ?_)
      obtain ⟨rfl, hMq⟩ := h17; have hMq := hMq.symm; subst hMq
      refine g_istore_n (i := 2) hX dX8_ends_20 rfl (Nat.le_of_ble_eq_true rfl) rfl ?_
      refine g_aload_n (i := 0) hX dX8_ends_21 rfl rfl rfl ?_
      refine g_getR hX fl_X8_7 rfl rfl dX8_ends_22 rfl ?_
      refine g_iload_n (i := 2) hX dX8_ends_25 rfl rfl rfl ?_
      refine g_iconst hX dX8_ends_26 ic_1 rfl ?_
      first | refine g_iaddN hX dX8_ends_27 rfl ?_ | refine g_iadd hX dX8_ends_27 rfl ?_
      refine g_aload_n (i := 0) hX dX8_ends_28 rfl rfl rfl ?_
      refine g_getR hX fl_X8_7 rfl rfl dX8_ends_29 rfl ?_
      refine g_iload_n (i := 2) hX dX8_ends_32 rfl rfl rfl ?_
      refine g_iconst hX dX8_ends_33 ic_2 rfl ?_
      first | refine g_iaddN hX dX8_ends_34 rfl ?_ | refine g_iadd hX dX8_ends_34 rfl ?_
      refine g_ialdv (x := 0) hX rfl (rfl) (by omega) rfl ((by rw [gset_eq]; exact a2.trans h0)) dX8_ends_35 rfl ?_
      refine g_if_ne (tgt := 52) hX dX8_ends_36 (by decide) rfl (fun zc36 => absurd rfl zc36) (fun zc36 => ?_)
      refine g_aload_n (i := 0) hX dX8_ends_39 rfl rfl rfl ?_
      refine g_getR hX fl_X8_7 rfl rfl dX8_ends_40 rfl ?_
      refine g_iload_n (i := 2) hX dX8_ends_43 rfl rfl rfl ?_
      refine g_iconst hX dX8_ends_44 ic_1 rfl ?_
      first | refine g_iaddN hX dX8_ends_45 rfl ?_ | refine g_iadd hX dX8_ends_45 rfl ?_
      refine g_ialdv (x := vMi (M 131) k) hX rfl (rfl) (by omega) rfl ((by rw [gset_eq]; exact r1)) dX8_ends_46 rfl ?_
      refine g_iconst hX dX8_ends_47 ic_1 rfl ?_
      refine g_iadd hX dX8_ends_48 rfl ?_
      refine g_goto (n := 53) hX dX8_ends_49 (by decide) ?_
      refine g_iast hX rfl (rfl) (by omega) rfl dX8_ends_53 rfl ?_
      refine g_aload_n (i := 0) hX dX8_ends_54 rfl rfl rfl ?_
      refine g_getR hX fl_X8_7 rfl rfl dX8_ends_55 rfl ?_
      refine g_iload_n (i := 2) hX dX8_ends_58 rfl rfl rfl ?_
      refine g_iconst hX dX8_ends_59 ic_3 rfl ?_
      first | refine g_iaddN hX dX8_ends_60 rfl ?_ | refine g_iadd hX dX8_ends_60 rfl ?_
      refine g_dup2 hX dX8_ends_61 rfl rfl rfl ?_
      refine g_ialdv (x := vVd (M 131) k) hX rfl (rfl) (by omega) rfl ((by simp only [gset_eq]; exact r3 _)) dX8_ends_62 rfl ?_
      refine g_aload_n (i := 0) hX dX8_ends_63 rfl rfl rfl ?_
      refine g_getR hX fl_X8_7 rfl rfl dX8_ends_64 rfl ?_
      refine g_iload_n (i := 2) hX dX8_ends_67 rfl rfl rfl ?_
      refine g_iconst hX dX8_ends_68 ic_2 rfl ?_
      first | refine g_iaddN hX dX8_ends_69 rfl ?_ | refine g_iadd hX dX8_ends_69 rfl ?_
      refine g_ialdv (x := 0) hX rfl (rfl) (by omega) rfl ((by simp only [gset_eq]; exact (r2 _).trans h0)) dX8_ends_70 rfl ?_
      refine g_if_ne (tgt := 78) hX dX8_ends_71 (by decide) rfl (fun zc71 => absurd rfl zc71) (fun zc71 => ?_)
      refine g_iconst hX dX8_ends_74 ic_0 rfl ?_
      refine g_goto (n := 79) hX dX8_ends_75 (by decide) ?_
      refine g_iadd hX dX8_ends_79 rfl ?_
      refine g_iast hX rfl (rfl) (by omega) rfl dX8_ends_80 rfl ?_
      first | refine g_iincN hX dX8_ends_81 ic_1 rfl (Nat.le_of_ble_eq_true rfl) rfl ?_ | refine g_iinc hX dX8_ends_81 ic_1 rfl rfl (Nat.le_of_ble_eq_true rfl) rfl ?_
      refine g_goto (n := 6) hX dX8_ends_84 (by decide) ?_
      refine gGM ?_ (ih _)
      rw [← fold, g1, g3]
      simp only [gset_gset, gset_eq]
      rw [show vVd (M 131) k + nI 0 = vVd (M 131) k from Int32.add_zero _]
      rfl
    · have g1 : gMi5 (M 131) k = 0 := if_neg h0
      have g3 : gVd5 (M 131) k = vVd (M 131) k + 1 := if_neg h0
      refine g_iload_n (i := 1) hX dX8_ends_6 rfl rfl rfl ?_
      refine g_aload_n (i := 0) hX dX8_ends_7 rfl rfl rfl ?_
      refine g_getR hX fl_X8_7 rfl rfl dX8_ends_8 rfl ?_
      refine g_iconst hX dX8_ends_11 ic_0 rfl ?_
      refine g_ialdv (x := nI nm) hX rfl (rfl) (by omega) rfl ((by rw [gset_eq]; exact (lo _ 0 (by decide)).trans hm)) dX8_ends_12 rfl ?_
      first | refine g_icmp_geN (tgt := 87) hX dX8_ends_13 (by decide) rfl (by omega) (by omega) (fun zc13 => absurd zc13 (by omega)) (fun zc13 => ?_) | refine g_icmp_ge (tgt := 87) hX dX8_ends_13 (by decide) rfl (fun zc13 => absurd zc13 (by omega)) (fun zc13 => ?_)
      refine g_iload_n (i := 1) hX dX8_ends_16 rfl rfl rfl ?_
      refine g_callSi hX (c_X8_memberAt E _ k) kf_X8_memberAt rfl wk_X8_27 rfl rfl rfl rfl dX8_ends_17 rfl (fun x17 M17 h17 => ?_)
      obtain ⟨rfl, hMq⟩ := h17; have hMq := hMq.symm; subst hMq
      refine g_istore_n (i := 2) hX dX8_ends_20 rfl (Nat.le_of_ble_eq_true rfl) rfl ?_
      refine g_aload_n (i := 0) hX dX8_ends_21 rfl rfl rfl ?_
      refine g_getR hX fl_X8_7 rfl rfl dX8_ends_22 rfl ?_
      refine g_iload_n (i := 2) hX dX8_ends_25 rfl rfl rfl ?_
      refine g_iconst hX dX8_ends_26 ic_1 rfl ?_
      first | refine g_iaddN hX dX8_ends_27 rfl ?_ | refine g_iadd hX dX8_ends_27 rfl ?_
      refine g_aload_n (i := 0) hX dX8_ends_28 rfl rfl rfl ?_
      refine g_getR hX fl_X8_7 rfl rfl dX8_ends_29 rfl ?_
      refine g_iload_n (i := 2) hX dX8_ends_32 rfl rfl rfl ?_
      refine g_iconst hX dX8_ends_33 ic_2 rfl ?_
      first | refine g_iaddN hX dX8_ends_34 rfl ?_ | refine g_iadd hX dX8_ends_34 rfl ?_
      refine g_ialdv (x := vVo (M 131) k) hX rfl (rfl) (by omega) rfl ((by rw [gset_eq]; exact a2)) dX8_ends_35 rfl ?_
      refine g_if_ne (tgt := 52) hX dX8_ends_36 (by decide) rfl (fun zc36 => ?_) (fun zc36 => absurd zc36 h0)
      refine g_iconst hX dX8_ends_52 ic_0 rfl ?_
      refine g_iast hX rfl (rfl) (by omega) rfl dX8_ends_53 rfl ?_
      refine g_aload_n (i := 0) hX dX8_ends_54 rfl rfl rfl ?_
      refine g_getR hX fl_X8_7 rfl rfl dX8_ends_55 rfl ?_
      refine g_iload_n (i := 2) hX dX8_ends_58 rfl rfl rfl ?_
      refine g_iconst hX dX8_ends_59 ic_3 rfl ?_
      first | refine g_iaddN hX dX8_ends_60 rfl ?_ | refine g_iadd hX dX8_ends_60 rfl ?_
      refine g_dup2 hX dX8_ends_61 rfl rfl rfl ?_
      refine g_ialdv (x := vVd (M 131) k) hX rfl (rfl) (by omega) rfl ((by simp only [gset_eq]; exact r3 _)) dX8_ends_62 rfl ?_
      refine g_aload_n (i := 0) hX dX8_ends_63 rfl rfl rfl ?_
      refine g_getR hX fl_X8_7 rfl rfl dX8_ends_64 rfl ?_
      refine g_iload_n (i := 2) hX dX8_ends_67 rfl rfl rfl ?_
      refine g_iconst hX dX8_ends_68 ic_2 rfl ?_
      first | refine g_iaddN hX dX8_ends_69 rfl ?_ | refine g_iadd hX dX8_ends_69 rfl ?_
      refine g_ialdv (x := vVo (M 131) k) hX rfl (rfl) (by omega) rfl ((by simp only [gset_eq]; exact r2 _)) dX8_ends_70 rfl ?_
      refine g_if_ne (tgt := 78) hX dX8_ends_71 (by decide) rfl (fun zc71 => ?_) (fun zc71 => absurd zc71 h0)
      refine g_iconst hX dX8_ends_78 ic_1 rfl ?_
      refine g_iadd hX dX8_ends_79 rfl ?_
      refine g_iast hX rfl (rfl) (by omega) rfl dX8_ends_80 rfl ?_
      first | refine g_iincN hX dX8_ends_81 ic_1 rfl (Nat.le_of_ble_eq_true rfl) rfl ?_ | refine g_iinc hX dX8_ends_81 ic_1 rfl rfl (Nat.le_of_ble_eq_true rfl) rfl ?_
      refine g_goto (n := 6) hX dX8_ends_84 (by decide) ?_
      refine gGM ?_ (ih _)
      rw [← fold, g1, g3]
      simp only [gset_gset, gset_eq]
      rfl

