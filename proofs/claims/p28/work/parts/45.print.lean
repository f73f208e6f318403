/-! the print of all that can be asked -/
def itr (f : Nat → Int64 → Int64) (n : Nat) (h : Int64) : Int64 := match n with
  | 0 => h
  | n + 1 => f n (itr f n h)
theorem itr_congr {f g : Nat → Int64 → Int64} : ∀ (n : Nat) (h : Int64), (∀ k h, k < n → f k h = g k h) → itr f n h = itr g n h := by
  intro n
  induction n with
  | zero => exact fun _ _ => rfl
  | succ n ih => exact fun h e => by rw [itr, itr, ih h (fun k h hk => e k h (by omega)), e n _ (by omega)]
def pcn (M : gM) (nm nc nk ne : Nat) (op : Bool) (k : Nat) : Int32 := if k = 9 ∨ k = 10 then nI 0 else x_count M nm nc nk ne 0 op (nI k)
def s1 (M : gM) (nm nc nk ne : Nat) (op : Bool) (k : Nat) (h : Int64) : Int64 := 31 * (31 * h + (pcn M nm nc nk ne op k).toInt64) + (y_tal M (k % 6)).toInt64
def s2 (M : gM) (nm nk k w : Nat) (h : Int64) : Int64 := 31 * h + (x_member M nm nk (nI k) (nI w)).toInt64
def s3 (M : gM) (nc k : Nat) (h : Int64) : Int64 := 31 * (31 * h + (x_clause M nc (nI k)).toInt64) + (x_value M nc (x_clause M nc (nI k))).toInt64
def s4 (M : gM) (nk k w : Nat) (h : Int64) : Int64 := 31 * h + (x_told M nk (nI k) (nI w)).toInt64
def s5 (M : gM) (nc ne k : Nat) (h : Int64) : Int64 := 31 * (31 * (31 * h + (x_changes M nc ne (nI (k + 1))).toInt64) + (x_change M nc ne (nI (k + 1)) (nI 0) (nI 0)).toInt64) + (x_change M nc ne (nI (k + 1)) (nI 1) (nI 2)).toInt64
def pr (M : gM) (nm nc nk ne : Nat) (op : Bool) (mb : Nat → Nat) : Int64 :=
  31 * itr (s5 M nc ne) 12 (itr (fun k => itr (s4 M nk k) 7) 30 (itr (s3 M nc) 20 (itr (fun k => itr (s2 M nm nk k) 6) 10 (itr (s1 M nm nc nk ne op) 25 73)))) + (optI (-4) (bstX M mb nk)).toInt64
abbrev pL (h : Int64) (k : Int32) (x : Option Value) : gLs := [some (.ref 0), some (.long h), none, some (.int k), x]
section
variable {E : gE} {M : gM} {nm nc nk ne nb td ol hs : Nat} {op br : Bool} {mb pl : Nat → Nat}
theorem pcn_c {k : Nat} (hk : k < 25) (h9 : ¬ k = 9) (h10 : ¬ k = 10) : x_count M nm nc nk ne hs op (nI k) = pcn M nm nc nk ne op k := by
  rw [pcn, if_neg (by omega), x_count_v hk, x_count_v hk]
  unfold cnF
  split
  · rcases (show k = 0 ∨ k = 1 ∨ k = 2 ∨ k = 3 ∨ k = 4 ∨ k = 5 ∨ k = 6 ∨ k = 7 ∨ k = 8 ∨ k = 11 by omega) with rfl | rfl | rfl | rfl | rfl | rfl | rfl | rfl | rfl | rfl <;> rfl
  · rfl
set_option maxHeartbeats 2000000 in
theorem c_L_print (hW : WS M nm nc nk ne op br mb pl) (hH : WH M ol hs) (hz : Nz M nk nm op) : gMetL E k_L_print [.ref 0] M (fun v M' => v = pr M nm nc nk ne op mb ∧ M' = M) := by
  refine gMetL.of (by decide +kernel) rfl (Nat.le_of_ble_eq_true rfl) (fun X hX hR => ?_)
  obtain ⟨A1, e1⟩ : ∃ a, a = itr (s1 M nm nc nk ne op) 25 73 := ⟨_, rfl⟩
  obtain ⟨A2, e2⟩ : ∃ a, a = itr (fun k => itr (s2 M nm nk k) 6) 10 A1 := ⟨_, rfl⟩
  obtain ⟨A3, e3⟩ : ∃ a, a = itr (s3 M nc) 20 A2 := ⟨_, rfl⟩
  obtain ⟨A4, e4⟩ : ∃ a, a = itr (fun k => itr (s4 M nk k) 7) 30 A3 := ⟨_, rfl⟩
  obtain ⟨A5, e5⟩ : ∃ a, a = itr (s5 M nc ne) 12 A4 := ⟨_, rfl⟩
  have epr : pr M nm nc nk ne op mb = 31 * A5 + (optI (-4) (bstX M mb nk)).toInt64 := by
    rw [e5, e4, e3, e2, e1]; rfl
  obtain ⟨Q, hQ⟩ : ∃ Q, Q = gQL X E (fun v M' => v = pr M nm nc nk ne op mb ∧ M' = M) := ⟨_, rfl⟩
  rw [← hQ]
  have L5 : ∀ x : Option Value, ∀ k, k ≤ 12 → gG X E M 195 (pL (itr (s5 M nc ne) k A4) (nI (k + 1)) x) [] Q := by
    intro x
    refine up_loop 12 _ ?_ (fun k hk ih => ?_)
    · rw [← e5, hQ]
      refine g_iload_n (i := 3) hX dL_print_195 rfl rfl rfl ?_
      refine g_bipush hX dL_print_196 bc_13 rfl ?_
      first | refine g_icmp_geN (tgt := 246) hX dL_print_198 (by decide) rfl (by omega) (by omega) (fun zc198 => ?_) (fun zc198 => absurd zc198 (by omega)) | refine g_icmp_ge (tgt := 246) hX dL_print_198 (by decide) rfl (fun zc198 => ?_) (fun zc198 => absurd zc198 (by omega))
      refine g_ldc2 hX wq_L_11 dL_print_246 rfl ?_
      refine g_lload_n (i := 1) hX dL_print_249 rfl rfl rfl ?_
      refine g_lmul hX dL_print_250 rfl ?_
      refine g_aload_n (i := 0) hX dL_print_251 rfl rfl rfl ?_
      refine g_callVi hX (c_X7_next E hW) kf_X7_next rfl wk_L_42 rfl rfl rfl rfl rfl dL_print_252 rfl (fun x252 M252 h252 => ?_)
      obtain ⟨rfl, hMq⟩ := h252; have hMq := hMq.symm; subst hMq
      refine g_i2l hX dL_print_255 rfl ?_
      refine g_ladd hX dL_print_256 rfl ?_
      refine g_lret hX hR dL_print_257 ?_
      exact ⟨epr.symm, rfl⟩
    · have ih2 : gG X E M 195 (pL (s5 M nc ne k (itr (s5 M nc ne) k A4)) (nI (k + 1 + 1)) x) [] Q := ih
      generalize itr (s5 M nc ne) k A4 = h at ih2 ⊢
      refine g_iload_n (i := 3) hX dL_print_195 rfl rfl rfl ?_
      refine g_bipush hX dL_print_196 bc_13 rfl ?_
      first | refine g_icmp_geN (tgt := 246) hX dL_print_198 (by decide) rfl (by omega) (by omega) (fun zc198 => absurd zc198 (by omega)) (fun zc198 => ?_) | refine g_icmp_ge (tgt := 246) hX dL_print_198 (by decide) rfl (fun zc198 => absurd zc198 (by omega)) (fun zc198 => ?_)
      refine g_ldc2 hX wq_L_11 dL_print_201 rfl ?_
      refine g_ldc2 hX wq_L_11 dL_print_204 rfl ?_
      refine g_ldc2 hX wq_L_11 dL_print_207 rfl ?_
      refine g_lload_n (i := 1) hX dL_print_210 rfl rfl rfl ?_
      refine g_lmul hX dL_print_211 rfl ?_
      refine g_aload_n (i := 0) hX dL_print_212 rfl rfl rfl ?_
      refine g_iload_n (i := 3) hX dL_print_213 rfl rfl rfl ?_
      refine g_callVi hX (c_X7_changes E (nI (k + 1)) hW) kf_X7_changes rfl wk_L_35 rfl rfl rfl rfl rfl dL_print_214 rfl (fun x214 M214 h214 => ?_)
      obtain ⟨rfl, hMq⟩ := h214; have hMq := hMq.symm; subst hMq
      refine g_i2l hX dL_print_217 rfl ?_
      refine g_ladd hX dL_print_218 rfl ?_
      refine g_lmul hX dL_print_219 rfl ?_
      refine g_aload_n (i := 0) hX dL_print_220 rfl rfl rfl ?_
      refine g_iload_n (i := 3) hX dL_print_221 rfl rfl rfl ?_
      refine g_iconst hX dL_print_222 ic_0 rfl ?_
      refine g_iconst hX dL_print_223 ic_0 rfl ?_
      refine g_callVi hX (c_X7_change E (nI (k + 1)) (nI 0) (nI 0) hW) kf_X7_change rfl wk_L_38 rfl rfl rfl rfl rfl dL_print_224 rfl (fun x224 M224 h224 => ?_)
      obtain ⟨rfl, hMq⟩ := h224; have hMq := hMq.symm; subst hMq
      refine g_i2l hX dL_print_227 rfl ?_
      refine g_ladd hX dL_print_228 rfl ?_
      refine g_lmul hX dL_print_229 rfl ?_
      refine g_aload_n (i := 0) hX dL_print_230 rfl rfl rfl ?_
      refine g_iload_n (i := 3) hX dL_print_231 rfl rfl rfl ?_
      refine g_iconst hX dL_print_232 ic_1 rfl ?_
      refine g_iconst hX dL_print_233 ic_2 rfl ?_
      refine g_callVi hX (c_X7_change E (nI (k + 1)) (nI 1) (nI 2) hW) kf_X7_change rfl wk_L_38 rfl rfl rfl rfl rfl dL_print_234 rfl (fun x234 M234 h234 => ?_)
      obtain ⟨rfl, hMq⟩ := h234; have hMq := hMq.symm; subst hMq
      refine g_i2l hX dL_print_237 rfl ?_
      refine g_ladd hX dL_print_238 rfl ?_
      refine g_lstore_n (i := 1) hX dL_print_239 rfl (Nat.le_of_ble_eq_true rfl) rfl ?_
      first | refine g_iincN hX dL_print_240 ic_1 rfl (Nat.le_of_ble_eq_true rfl) rfl ?_ | refine g_iinc hX dL_print_240 ic_1 rfl rfl (Nat.le_of_ble_eq_true rfl) rfl ?_
      refine g_goto (n := 195) hX dL_print_243 (by decide) ?_
      exact ih2
  have L4 : ∀ k, k ≤ 30 → ∀ x : Option Value, gG X E M 150 (pL (itr (fun k => itr (s4 M nk k) 7) k A3) (nI k) x) [] Q := by
    refine up_loop 30 _ (fun x => ?_) (fun k hk ih x => ?_)
    · rw [← e4]
      refine g_iload_n (i := 3) hX dL_print_150 rfl rfl rfl ?_
      refine g_bipush hX dL_print_151 bc_30 rfl ?_
      first | refine g_icmp_geN (tgt := 193) hX dL_print_153 (by decide) rfl (by omega) (by omega) (fun zc153 => ?_) (fun zc153 => absurd zc153 (by omega)) | refine g_icmp_ge (tgt := 193) hX dL_print_153 (by decide) rfl (fun zc153 => ?_) (fun zc153 => absurd zc153 (by omega))
      refine g_iconst hX dL_print_193 ic_1 rfl ?_
      refine g_istore_n (i := 3) hX dL_print_194 rfl (Nat.le_of_ble_eq_true rfl) rfl ?_
      exact L5 x 0 (by decide)
    · have ih2 : ∀ x : Option Value, gG X E M 150 (pL (itr (s4 M nk k) 7 (itr (fun k => itr (s4 M nk k) 7) k A3)) (nI (k + 1)) x) [] Q := ih
      generalize itr (fun k => itr (s4 M nk k) 7) k A3 = h at ih2 ⊢
      clear ih
      have Li : ∀ w, w ≤ 7 → gG X E M 159 (pL (itr (s4 M nk k) w h) (nI k) (some (.int (nI w)))) [] Q := by
        refine up_loop 7 _ ?_ (fun w hw ihw => ?_)
        · generalize itr (s4 M nk k) 7 h = g at ih2 ⊢
          refine g_iload hX dL_print_159 rfl rfl ?_
          refine g_bipush hX dL_print_161 bc_7 rfl ?_
          first | refine g_icmp_geN (tgt := 187) hX dL_print_163 (by decide) rfl (by omega) (by omega) (fun zc163 => ?_) (fun zc163 => absurd zc163 (by omega)) | refine g_icmp_ge (tgt := 187) hX dL_print_163 (by decide) rfl (fun zc163 => ?_) (fun zc163 => absurd zc163 (by omega))
          first | refine g_iincN hX dL_print_187 ic_1 rfl (Nat.le_of_ble_eq_true rfl) rfl ?_ | refine g_iinc hX dL_print_187 ic_1 rfl rfl (Nat.le_of_ble_eq_true rfl) rfl ?_
          refine g_goto (n := 150) hX dL_print_190 (by decide) ?_
          exact ih2 _
        · have ihw2 : gG X E M 159 (pL (s4 M nk k w (itr (s4 M nk k) w h)) (nI k) (some (.int (nI (w + 1))))) [] Q := ihw
          generalize itr (s4 M nk k) w h = g at ihw2 ⊢
          refine g_iload hX dL_print_159 rfl rfl ?_
          refine g_bipush hX dL_print_161 bc_7 rfl ?_
          first | refine g_icmp_geN (tgt := 187) hX dL_print_163 (by decide) rfl (by omega) (by omega) (fun zc163 => absurd zc163 (by omega)) (fun zc163 => ?_) | refine g_icmp_ge (tgt := 187) hX dL_print_163 (by decide) rfl (fun zc163 => absurd zc163 (by omega)) (fun zc163 => ?_)
          refine g_ldc2 hX wq_L_11 dL_print_166 rfl ?_
          refine g_lload_n (i := 1) hX dL_print_169 rfl rfl rfl ?_
          refine g_lmul hX dL_print_170 rfl ?_
          refine g_aload_n (i := 0) hX dL_print_171 rfl rfl rfl ?_
          refine g_iload_n (i := 3) hX dL_print_172 rfl rfl rfl ?_
          refine g_iload hX dL_print_173 rfl rfl ?_
          refine g_callVi hX (c_X7_told E (nI k) (nI w) hW) kf_X7_told rfl wk_L_32 rfl rfl rfl rfl rfl dL_print_175 rfl (fun x175 M175 h175 => ?_)
          obtain ⟨rfl, hMq⟩ := h175; have hMq := hMq.symm; subst hMq
          refine g_i2l hX dL_print_178 rfl ?_
          refine g_ladd hX dL_print_179 rfl ?_
          refine g_lstore_n (i := 1) hX dL_print_180 rfl (Nat.le_of_ble_eq_true rfl) rfl ?_
          first | refine g_iincN hX dL_print_181 ic_1 rfl (Nat.le_of_ble_eq_true rfl) rfl ?_ | refine g_iinc hX dL_print_181 ic_1 rfl rfl (Nat.le_of_ble_eq_true rfl) rfl ?_
          refine g_goto (n := 159) hX dL_print_184 (by decide) ?_
          exact ihw2
      refine g_iload_n (i := 3) hX dL_print_150 rfl rfl rfl ?_
      refine g_bipush hX dL_print_151 bc_30 rfl ?_
      first | refine g_icmp_geN (tgt := 193) hX dL_print_153 (by decide) rfl (by omega) (by omega) (fun zc153 => absurd zc153 (by omega)) (fun zc153 => ?_) | refine g_icmp_ge (tgt := 193) hX dL_print_153 (by decide) rfl (fun zc153 => absurd zc153 (by omega)) (fun zc153 => ?_)
      refine g_iconst hX dL_print_156 ic_0 rfl ?_
      refine g_istore hX dL_print_157 (Nat.le_of_ble_eq_true rfl) rfl ?_
      exact Li 0 (by decide)
  have L3 : ∀ x : Option Value, ∀ k, k ≤ 20 → gG X E M 108 (pL (itr (s3 M nc) k A2) (nI k) x) [] Q := by
    intro x
    refine up_loop 20 _ ?_ (fun k hk ih => ?_)
    · rw [← e3]
      refine g_iload_n (i := 3) hX dL_print_108 rfl rfl rfl ?_
      refine g_bipush hX dL_print_109 bc_20 rfl ?_
      first | refine g_icmp_geN (tgt := 148) hX dL_print_111 (by decide) rfl (by omega) (by omega) (fun zc111 => ?_) (fun zc111 => absurd zc111 (by omega)) | refine g_icmp_ge (tgt := 148) hX dL_print_111 (by decide) rfl (fun zc111 => ?_) (fun zc111 => absurd zc111 (by omega))
      refine g_iconst hX dL_print_148 ic_0 rfl ?_
      refine g_istore_n (i := 3) hX dL_print_149 rfl (Nat.le_of_ble_eq_true rfl) rfl ?_
      exact L4 0 (by decide) x
    · have ih2 : gG X E M 108 (pL (s3 M nc k (itr (s3 M nc) k A2)) (nI (k + 1)) x) [] Q := ih
      generalize itr (s3 M nc) k A2 = h at ih2 ⊢
      refine g_iload_n (i := 3) hX dL_print_108 rfl rfl rfl ?_
      refine g_bipush hX dL_print_109 bc_20 rfl ?_
      first | refine g_icmp_geN (tgt := 148) hX dL_print_111 (by decide) rfl (by omega) (by omega) (fun zc111 => absurd zc111 (by omega)) (fun zc111 => ?_) | refine g_icmp_ge (tgt := 148) hX dL_print_111 (by decide) rfl (fun zc111 => absurd zc111 (by omega)) (fun zc111 => ?_)
      refine g_ldc2 hX wq_L_11 dL_print_114 rfl ?_
      refine g_ldc2 hX wq_L_11 dL_print_117 rfl ?_
      refine g_lload_n (i := 1) hX dL_print_120 rfl rfl rfl ?_
      refine g_lmul hX dL_print_121 rfl ?_
      refine g_aload_n (i := 0) hX dL_print_122 rfl rfl rfl ?_
      refine g_iload_n (i := 3) hX dL_print_123 rfl rfl rfl ?_
      refine g_callVi hX (c_X7_clause E (nI k) hW) kf_X7_clause rfl wk_L_26 rfl rfl rfl rfl rfl dL_print_124 rfl (fun x124 M124 h124 => ?_)
      obtain ⟨rfl, hMq⟩ := h124; have hMq := hMq.symm; subst hMq
      refine g_i2l hX dL_print_127 rfl ?_
      refine g_ladd hX dL_print_128 rfl ?_
      refine g_lmul hX dL_print_129 rfl ?_
      refine g_aload_n (i := 0) hX dL_print_130 rfl rfl rfl ?_
      refine g_aload_n (i := 0) hX dL_print_131 rfl rfl rfl ?_
      refine g_iload_n (i := 3) hX dL_print_132 rfl rfl rfl ?_
      refine g_callVi hX (c_X7_clause E (nI k) hW) kf_X7_clause rfl wk_L_26 rfl rfl rfl rfl rfl dL_print_133 rfl (fun x133 M133 h133 => ?_)
      obtain ⟨rfl, hMq⟩ := h133; have hMq := hMq.symm; subst hMq
      refine g_callVi hX (c_X7_value E (x_clause M nc (nI k)) hW) kf_X7_value rfl wk_L_29 rfl rfl rfl rfl rfl dL_print_136 rfl (fun x136 M136 h136 => ?_)
      obtain ⟨rfl, hMq⟩ := h136; have hMq := hMq.symm; subst hMq
      refine g_i2l hX dL_print_139 rfl ?_
      refine g_ladd hX dL_print_140 rfl ?_
      refine g_lstore_n (i := 1) hX dL_print_141 rfl (Nat.le_of_ble_eq_true rfl) rfl ?_
      first | refine g_iincN hX dL_print_142 ic_1 rfl (Nat.le_of_ble_eq_true rfl) rfl ?_ | refine g_iinc hX dL_print_142 ic_1 rfl rfl (Nat.le_of_ble_eq_true rfl) rfl ?_
      refine g_goto (n := 108) hX dL_print_145 (by decide) ?_
      exact ih2
  have L2 : ∀ k, k ≤ 10 → ∀ x : Option Value, gG X E M 63 (pL (itr (fun k => itr (s2 M nm nk k) 6) k A1) (nI k) x) [] Q := by
    refine up_loop 10 _ (fun x => ?_) (fun k hk ih x => ?_)
    · rw [← e2]
      refine g_iload_n (i := 3) hX dL_print_63 rfl rfl rfl ?_
      refine g_bipush hX dL_print_64 bc_10 rfl ?_
      first | refine g_icmp_geN (tgt := 106) hX dL_print_66 (by decide) rfl (by omega) (by omega) (fun zc66 => ?_) (fun zc66 => absurd zc66 (by omega)) | refine g_icmp_ge (tgt := 106) hX dL_print_66 (by decide) rfl (fun zc66 => ?_) (fun zc66 => absurd zc66 (by omega))
      refine g_iconst hX dL_print_106 ic_0 rfl ?_
      refine g_istore_n (i := 3) hX dL_print_107 rfl (Nat.le_of_ble_eq_true rfl) rfl ?_
      exact L3 x 0 (by decide)
    · have ih2 : ∀ x : Option Value, gG X E M 63 (pL (itr (s2 M nm nk k) 6 (itr (fun k => itr (s2 M nm nk k) 6) k A1)) (nI (k + 1)) x) [] Q := ih
      generalize itr (fun k => itr (s2 M nm nk k) 6) k A1 = h at ih2 ⊢
      clear ih
      have Li : ∀ w, w ≤ 6 → gG X E M 72 (pL (itr (s2 M nm nk k) w h) (nI k) (some (.int (nI w)))) [] Q := by
        refine up_loop 6 _ ?_ (fun w hw ihw => ?_)
        · generalize itr (s2 M nm nk k) 6 h = g at ih2 ⊢
          refine g_iload hX dL_print_72 rfl rfl ?_
          refine g_bipush hX dL_print_74 bc_6 rfl ?_
          first | refine g_icmp_geN (tgt := 100) hX dL_print_76 (by decide) rfl (by omega) (by omega) (fun zc76 => ?_) (fun zc76 => absurd zc76 (by omega)) | refine g_icmp_ge (tgt := 100) hX dL_print_76 (by decide) rfl (fun zc76 => ?_) (fun zc76 => absurd zc76 (by omega))
          first | refine g_iincN hX dL_print_100 ic_1 rfl (Nat.le_of_ble_eq_true rfl) rfl ?_ | refine g_iinc hX dL_print_100 ic_1 rfl rfl (Nat.le_of_ble_eq_true rfl) rfl ?_
          refine g_goto (n := 63) hX dL_print_103 (by decide) ?_
          exact ih2 _
        · have ihw2 : gG X E M 72 (pL (s2 M nm nk k w (itr (s2 M nm nk k) w h)) (nI k) (some (.int (nI (w + 1))))) [] Q := ihw
          generalize itr (s2 M nm nk k) w h = g at ihw2 ⊢
          refine g_iload hX dL_print_72 rfl rfl ?_
          refine g_bipush hX dL_print_74 bc_6 rfl ?_
          first | refine g_icmp_geN (tgt := 100) hX dL_print_76 (by decide) rfl (by omega) (by omega) (fun zc76 => absurd zc76 (by omega)) (fun zc76 => ?_) | refine g_icmp_ge (tgt := 100) hX dL_print_76 (by decide) rfl (fun zc76 => absurd zc76 (by omega)) (fun zc76 => ?_)
          refine g_ldc2 hX wq_L_11 dL_print_79 rfl ?_
          refine g_lload_n (i := 1) hX dL_print_82 rfl rfl rfl ?_
          refine g_lmul hX dL_print_83 rfl ?_
          refine g_aload_n (i := 0) hX dL_print_84 rfl rfl rfl ?_
          refine g_iload_n (i := 3) hX dL_print_85 rfl rfl rfl ?_
          refine g_iload hX dL_print_86 rfl rfl ?_
          refine g_callVi hX (c_X7_member E (nI k) (nI w) hW) kf_X7_member rfl wk_L_22 rfl rfl rfl rfl rfl dL_print_88 rfl (fun x88 M88 h88 => ?_)
          obtain ⟨rfl, hMq⟩ := h88; have hMq := hMq.symm; subst hMq
          refine g_i2l hX dL_print_91 rfl ?_
          refine g_ladd hX dL_print_92 rfl ?_
          refine g_lstore_n (i := 1) hX dL_print_93 rfl (Nat.le_of_ble_eq_true rfl) rfl ?_
          first | refine g_iincN hX dL_print_94 ic_1 rfl (Nat.le_of_ble_eq_true rfl) rfl ?_ | refine g_iinc hX dL_print_94 ic_1 rfl rfl (Nat.le_of_ble_eq_true rfl) rfl ?_
          refine g_goto (n := 72) hX dL_print_97 (by decide) ?_
          exact ihw2
      refine g_iload_n (i := 3) hX dL_print_63 rfl rfl rfl ?_
      refine g_bipush hX dL_print_64 bc_10 rfl ?_
      first | refine g_icmp_geN (tgt := 106) hX dL_print_66 (by decide) rfl (by omega) (by omega) (fun zc66 => absurd zc66 (by omega)) (fun zc66 => ?_) | refine g_icmp_ge (tgt := 106) hX dL_print_66 (by decide) rfl (fun zc66 => absurd zc66 (by omega)) (fun zc66 => ?_)
      refine g_iconst hX dL_print_69 ic_0 rfl ?_
      refine g_istore hX dL_print_70 (Nat.le_of_ble_eq_true rfl) rfl ?_
      exact Li 0 (by decide)
  have L1 : ∀ k, k ≤ 25 → gG X E M 6 (pL (itr (s1 M nm nc nk ne op) k 73) (nI k) none) [] Q := by
    refine up_loop 25 _ ?_ (fun k hk ih => ?_)
    · rw [← e1]
      refine g_iload_n (i := 3) hX dL_print_6 rfl rfl rfl ?_
      refine g_bipush hX dL_print_7 bc_25 rfl ?_
      first | refine g_icmp_geN (tgt := 61) hX dL_print_9 (by decide) rfl (by omega) (by omega) (fun zc9 => ?_) (fun zc9 => absurd zc9 (by omega)) | refine g_icmp_ge (tgt := 61) hX dL_print_9 (by decide) rfl (fun zc9 => ?_) (fun zc9 => absurd zc9 (by omega))
      refine g_iconst hX dL_print_61 ic_0 rfl ?_
      refine g_istore_n (i := 3) hX dL_print_62 rfl (Nat.le_of_ble_eq_true rfl) rfl ?_
      exact L2 0 (by decide) none
    · have ih2 : gG X E M 6 (pL (s1 M nm nc nk ne op k (itr (s1 M nm nc nk ne op) k 73)) (nI (k + 1)) none) [] Q := ih
      generalize itr (s1 M nm nc nk ne op) k 73 = h at ih2 ⊢
      have K41 : ∀ v : Int32, v = pcn M nm nc nk ne op k → gG X E M 41 (pL h (nI k) none) [.int v, .long (31 * h), .long 31] Q := by
        intro v hv
        subst hv
        refine g_i2l hX dL_print_41 rfl ?_
        refine g_ladd hX dL_print_42 rfl ?_
        refine g_lmul hX dL_print_43 rfl ?_
        refine g_aload_n (i := 0) hX dL_print_44 rfl rfl rfl ?_
        refine g_iload_n (i := 3) hX dL_print_45 rfl rfl rfl ?_
        refine g_bipush hX dL_print_46 bc_6 rfl ?_
        refine g_iremN hX dL_print_48 (by omega) (by omega) (by omega) rfl ?_
        refine g_callVi hX (q_taly hW hz (Nat.mod_lt _ (by decide))) kf_X7_tally rfl wk_L_19 rfl rfl rfl rfl rfl dL_print_49 rfl (fun x49 M49 h49 => ?_)
        obtain ⟨rfl, hMq⟩ := h49; have hMq := hMq.symm; subst hMq
        refine g_i2l hX dL_print_52 rfl ?_
        refine g_ladd hX dL_print_53 rfl ?_
        refine g_lstore_n (i := 1) hX dL_print_54 rfl (Nat.le_of_ble_eq_true rfl) rfl ?_
        first | refine g_iincN hX dL_print_55 ic_1 rfl (Nat.le_of_ble_eq_true rfl) rfl ?_ | refine g_iinc hX dL_print_55 ic_1 rfl rfl (Nat.le_of_ble_eq_true rfl) rfl ?_
        refine g_goto (n := 6) hX dL_print_58 (by decide) ?_
        exact ih2
      refine g_iload_n (i := 3) hX dL_print_6 rfl rfl rfl ?_
      refine g_bipush hX dL_print_7 bc_25 rfl ?_
      first | refine g_icmp_geN (tgt := 61) hX dL_print_9 (by decide) rfl (by omega) (by omega) (fun zc9 => absurd zc9 (by omega)) (fun zc9 => ?_) | refine g_icmp_ge (tgt := 61) hX dL_print_9 (by decide) rfl (fun zc9 => absurd zc9 (by omega)) (fun zc9 => ?_)
      refine g_ldc2 hX wq_L_11 dL_print_12 rfl ?_
      refine g_ldc2 hX wq_L_11 dL_print_15 rfl ?_
      refine g_lload_n (i := 1) hX dL_print_18 rfl rfl rfl ?_
      refine g_lmul hX dL_print_19 rfl ?_
      refine g_iload_n (i := 3) hX dL_print_20 rfl rfl rfl ?_
      refine g_bipush hX dL_print_21 bc_9 rfl ?_
      first | refine g_icmp_eqN (tgt := 32) hX dL_print_23 (by decide) rfl (by omega) (by omega) (fun zc23 => ?_) (fun zc23 => ?_) | refine g_icmp_eq (tgt := 32) hX dL_print_23 (by decide) rfl (fun zc23 => ?_) (fun zc23 => ?_)
      · skip
        refine g_iconst hX dL_print_32 ic_0 rfl ?_
        refine g_goto (n := 41) hX dL_print_33 (by decide) ?_
        first | exact K41 _ (by rw [pcn, if_pos (by omega)]) | exact K41 _ (pcn_c (by omega) (by omega) (by omega))
      · skip
        refine g_iload_n (i := 3) hX dL_print_26 rfl rfl rfl ?_
        refine g_bipush hX dL_print_27 bc_10 rfl ?_
        first | refine g_icmp_neN (tgt := 36) hX dL_print_29 (by decide) rfl (by omega) (by omega) (fun zc29 => ?_) (fun zc29 => ?_) | refine g_icmp_ne (tgt := 36) hX dL_print_29 (by decide) rfl (fun zc29 => ?_) (fun zc29 => ?_)
        · skip
          refine g_aload_n (i := 0) hX dL_print_36 rfl rfl rfl ?_
          refine g_iload_n (i := 3) hX dL_print_37 rfl rfl rfl ?_
          refine g_callVi hX (c_X7_count E (nI k) hW hH) kf_X7_count rfl wk_L_13 rfl rfl rfl rfl rfl dL_print_38 rfl (fun x38 M38 h38 => ?_)
          obtain ⟨rfl, hMq⟩ := h38; have hMq := hMq.symm; subst hMq
          first | exact K41 _ (by rw [pcn, if_pos (by omega)]) | exact K41 _ (pcn_c (by omega) (by omega) (by omega))
        · skip
          refine g_iconst hX dL_print_32 ic_0 rfl ?_
          refine g_goto (n := 41) hX dL_print_33 (by decide) ?_
          first | exact K41 _ (by rw [pcn, if_pos (by omega)]) | exact K41 _ (pcn_c (by omega) (by omega) (by omega))
  refine g_ldc2 hX wq_L_9 dL_print_0 rfl ?_
  refine g_lstore_n (i := 1) hX dL_print_3 rfl (Nat.le_of_ble_eq_true rfl) rfl ?_
  refine g_iconst hX dL_print_4 ic_0 rfl ?_
  refine g_istore_n (i := 3) hX dL_print_5 rfl (Nat.le_of_ble_eq_true rfl) rfl ?_
  exact L1 0 (by decide)
end

