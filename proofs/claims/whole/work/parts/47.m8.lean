/-! the reference: resolve -/
def rslN (N : Nat → Int32) (c : Nat) (a : Int32) : Nat → Int32 := upd (upd (upd (upd N (973 + 8 * c + 4) (2 + a)) (973 + 8 * c + 5) (N 3)) (973 + 8 * c + 7) (N 10)) 10 (N 10 + 1)
def rsgN (N : Nat → Int32) (c p : Nat) (a w : Int32) : Nat → Int32 := if a < 2 then upd (upd (rslN N c a) (973 + 8 * c + 6) w) (73 + 45 * p + 1) w else rslN N c a
theorem rslN_out {N : Nat → Int32} {c j : Nat} {a : Int32} (h : j < 973 ∧ j ≠ 10 ∨ 973 ≤ j ∧ ¬ ((j - 973) / 8 = c)) : rslN N c a j = N j := by
  simp only [rslN]; rw [upd_n _ _ (by omega), upd_n _ _ (by omega), upd_n _ _ (by omega), upd_n _ _ (by omega)]
theorem rsgN_out {N : Nat → Int32} {c p j : Nat} {a w : Int32} (h : j < 73 ∧ j ≠ 10) : rsgN N c p a w j = N j := by
  unfold rsgN; split
  · rw [upd_n _ _ (by omega), upd_n _ _ (by omega)]; exact rslN_out (Or.inl ⟨by omega, h.2⟩)
  · exact rslN_out (Or.inl ⟨by omega, h.2⟩)
def bstN (N : Nat → Int32) (mb : Nat → Nat) (nk : Nat) : Option Nat := bestTo nk (pendB (vSt N)) (aheadM (vKd N) (vCc N) (vW N) mb)
def wanN (N : Nat → Int32) (c : Nat) (a v : Int32) : Int32 := if a = 0 then vCv N c else v
def getN (N : Nat → Int32) (p : Nat) (w : Int32) : Bool := decide (vPr N p = vBg N p) || decide (vPr N p = w)
def setN (N : Nat → Int32) (nc nk ne c p : Nat) (a w : Int32) : Nat → Int32 := if cntTo nk (pendB (vSt (rsgN N c p a w))) = 0 then y_edition (rsgN N c p a w) nc nk ne else rsgN N c p a w
def y_resolve (M : gM) (mb pl : Nat → Nat) (nc nk ne sv : Nat) (a v : Int32) : Int32 × gM := if inI a (nI 0) (nI 2) = true ∧ inI v (nI 0) (nI 9999) = true ∧ (a = 1 ∨ v = 0) then (match bstN (M 131) mb nk with
  | none => (-2, M)
  | some c => if a < 2 ∧ getN (M 131) (pl c) (wanN (M 131) c a v) = false then (-2, M) else (nI (cntTo nk (pendB (vSt (rsgN (M 131) c (pl c) a (wanN (M 131) c a v))))), gset (m_rec M sv) 131 (setN (M 131) nc nk ne c (pl c) a (wanN (M 131) c a v)))) else (-1, M)
theorem c_X8_resolve (E : gE) (M : gM) (nc nk ne sv : Nat) (mb pl : Nat → Nat) (a v : Int32) (hc : M 131 1 = nI nc) (hcb : nc ≤ 20) (hk : M 131 9 = nI nk) (hkb : nk ≤ 30) (he : M 131 2 = nI ne) (heb : ne ≤ 12) (hs : M 130 2 = nI sv) (hb : sv ≤ 4)
    (hm : ∀ k, k < nk → mb k < 10 ∧ vCm (M 131) k = nI (mb k)) (hp : ∀ k, k < nk → pl k < nc ∧ fndTo nc (fun q => decide (vNb (M 131) q = vCc (M 131) k)) = some (pl k))
    (hne : ∀ c, bstN (M 131) mb nk = some c → ne ≤ 11) : gMet E k_X8_resolve [.ref 130, .int a, .int v] M (gInt fun r M' => (r, M') = y_resolve M mb pl nc nk ne sv a v) := by
  refine gMet.of (by decide +kernel) rfl (Nat.le_of_ble_eq_true rfl) (fun X hX hR => ?_)
  have K : m_rec M sv 131 = M 131 := rec_ne (by decide)
  cases h1 : inI a (nI 0) (nI 2) with
  | false =>
    have e : y_resolve M mb pl nc nk ne sv a v = (-1, M) := by rw [y_resolve, if_neg (fun q => Bool.noConfusion (q.1.symm.trans h1))]
    rw [e]
    refine g_iload_n (i := 1) hX dX8_resolve_0 rfl rfl rfl ?_
    refine g_iconst hX dX8_resolve_1 ic_0 rfl ?_
    refine g_iconst hX dX8_resolve_2 ic_2 rfl ?_
    refine g_callSi hX (c_X8_in E M _ _ _) kf_X8_in rfl wk_X8_23 rfl rfl rfl rfl dX8_resolve_3 rfl (fun x3 M3 h3 => ?_)
    obtain ⟨rfl, hMq⟩ := h3; have hMq := hMq.symm; subst hMq
    first | refine g_if_eqB (tgt := 25) hX dX8_resolve_6 (by decide) rfl (fun zc6 => ?_) (fun zc6 => Bool.noConfusion (h1.symm.trans zc6)) | refine g_if_eq (tgt := 25) hX dX8_resolve_6 (by decide) rfl (fun zc6 => ?_) (fun zc6 => Bool.noConfusion (h1.symm.trans zc6))
    refine g_iconst hX dX8_resolve_25 ic_m1 rfl ?_
    refine g_iret hX hR dX8_resolve_26 ?_
    rfl
  | true =>
    cases h2 : inI v (nI 0) (nI 9999) with
    | false =>
      have e : y_resolve M mb pl nc nk ne sv a v = (-1, M) := by rw [y_resolve, if_neg (fun q => Bool.noConfusion (q.2.1.symm.trans h2))]
      rw [e]
      refine g_iload_n (i := 1) hX dX8_resolve_0 rfl rfl rfl ?_
      refine g_iconst hX dX8_resolve_1 ic_0 rfl ?_
      refine g_iconst hX dX8_resolve_2 ic_2 rfl ?_
      refine g_callSi hX (c_X8_in E M _ _ _) kf_X8_in rfl wk_X8_23 rfl rfl rfl rfl dX8_resolve_3 rfl (fun x3 M3 h3 => ?_)
      obtain ⟨rfl, hMq⟩ := h3; have hMq := hMq.symm; subst hMq
      first | refine g_if_eqB (tgt := 25) hX dX8_resolve_6 (by decide) rfl (fun zc6 => Bool.noConfusion (h1.symm.trans zc6)) (fun zc6 => ?_) | refine g_if_eq (tgt := 25) hX dX8_resolve_6 (by decide) rfl (fun zc6 => Bool.noConfusion (h1.symm.trans zc6)) (fun zc6 => ?_)
      refine g_iload_n (i := 2) hX dX8_resolve_9 rfl rfl rfl ?_
      refine g_callSi hX (c_X8_isValue E M v) kf_X8_isValue rfl wk_X8_37 rfl rfl rfl rfl dX8_resolve_10 rfl (fun x10 M10 h10 => ?_)
      obtain ⟨rfl, hMq⟩ := h10; have hMq := hMq.symm; subst hMq
      first | refine g_if_eqB (tgt := 25) hX dX8_resolve_13 (by decide) rfl (fun zc13 => ?_) (fun zc13 => Bool.noConfusion (h2.symm.trans zc13)) | refine g_if_eq (tgt := 25) hX dX8_resolve_13 (by decide) rfl (fun zc13 => ?_) (fun zc13 => Bool.noConfusion (h2.symm.trans zc13))
      refine g_iconst hX dX8_resolve_25 ic_m1 rfl ?_
      refine g_iret hX hR dX8_resolve_26 ?_
      rfl
    | true =>
      by_cases h3 : a = 1 ∨ v = 0
      · have h27 : ∀ b3 b4 b5 b6 b7, gG X E M 27 [some (.ref 130), some (.int a), some (.int v), b3, b4, b5, b6, b7] [] (gQ X E (gInt fun r M' => (r, M') = y_resolve M mb pl nc nk ne sv a v)) := by
          intro b3 b4 b5 b6 b7
          cases hn : bstN (M 131) mb nk with
          | none =>
            have e : y_resolve M mb pl nc nk ne sv a v = (-2, M) := by rw [y_resolve, if_pos ⟨h1, h2, h3⟩, hn]
            rw [e]
            refine g_aload_n (i := 0) hX dX8_resolve_27 rfl rfl rfl ?_
            refine g_callVi hX (c_X8_next E M nk mb hk hkb hm) kf_X8_next rfl wk_X8_101 rfl rfl rfl rfl rfl dX8_resolve_28 rfl (fun x28 M28 h28 => ?_)
            obtain ⟨hx, hm0⟩ := h28; have hm0 := hm0.symm; subst hm0; rw [show bestTo nk _ _ = none from hn] at hx; subst hx
            refine g_istore_n (i := 3) hX dX8_resolve_31 rfl (Nat.le_of_ble_eq_true rfl) rfl ?_
            refine g_iload_n (i := 3) hX dX8_resolve_32 rfl rfl rfl ?_
            refine g_if_ge (tgt := 39) hX dX8_resolve_33 (by decide) rfl (fun zc33 => absurd zc33 (by decide)) (fun zc33 => ?_)
            refine g_bipush hX dX8_resolve_36 bc_m2 rfl ?_
            refine g_iret hX hR dX8_resolve_38 ?_
            rfl
          | some c =>
            have hcn : c < nk := (bestTo_lt hn).1
            have hne := hne c hn
            obtain ⟨hpc, hpf⟩ := hp c hcn
            have e : y_resolve M mb pl nc nk ne sv a v = if a < 2 ∧ getN (M 131) (pl c) (wanN (M 131) c a v) = false then (-2, M) else (nI (cntTo nk (pendB (vSt (rsgN (M 131) c (pl c) a (wanN (M 131) c a v))))), gset (m_rec M sv) 131 (setN (M 131) nc nk ne c (pl c) a (wanN (M 131) c a v))) := by rw [y_resolve, if_pos ⟨h1, h2, h3⟩, hn]
            rw [e]
            have e10 : ∀ j, j ≠ 10 → j < 973 → rslN (M 131) c a j = M 131 j := fun j h h' => rslN_out (Or.inl ⟨h', h⟩)
            have go188 : ∀ w, wanN (M 131) c a v = w → ¬ (a < 2 ∧ getN (M 131) (pl c) w = false) → ∀ c1 c2 c3 c5 c6 c7, gG X E (gset (m_rec M sv) 131 (rsgN (M 131) c (pl c) a w)) 188 [some (.ref 130), c1, c2, c3, some (.int (nI (973 + 8 * c))), c5, c6, c7] [] (gQ X E (gInt fun r M' => (r, M') = if a < 2 ∧ getN (M 131) (pl c) (wanN (M 131) c a v) = false then (-2, M) else (nI (cntTo nk (pendB (vSt (rsgN (M 131) c (pl c) a (wanN (M 131) c a v))))), gset (m_rec M sv) 131 (setN (M 131) nc nk ne c (pl c) a (wanN (M 131) c a v))))) := by
              intro w hw hno c1 c2 c3 c5 c6 c7
              rw [hw, if_neg hno]
              have hcb' := cntTo_le nk (pendB (vSt (rsgN (M 131) c (pl c) a w)))
              have hk' : gset (m_rec M sv) 131 (rsgN (M 131) c (pl c) a w) 131 9 = nI nk := by rw [gset_eq, rsgN_out ⟨by decide, by decide⟩]; exact hk
              by_cases hz : cntTo nk (pendB (vSt (rsgN (M 131) c (pl c) a w))) = 0
              · skip
                refine g_aload_n (i := 0) hX dX8_resolve_188 rfl rfl rfl ?_
                refine g_callVi hX (c_X8_pending E _ nk hk' hkb) kf_X8_pending rfl wk_X8_63 rfl rfl rfl rfl rfl dX8_resolve_189 rfl (fun x189 M189 h189 => ?_)
                obtain ⟨rfl, hMq⟩ := h189; have hMq := hMq.symm; subst hMq
                simp only [gset_eq]
                refine g_istore hX dX8_resolve_192 (Nat.le_of_ble_eq_true rfl) rfl ?_
                refine g_iload hX dX8_resolve_194 rfl rfl ?_
                refine g_if_ne (tgt := 203) hX dX8_resolve_196 (by decide) rfl (fun zc196 => absurd (by rw [hz]; rfl) zc196) (fun zc196 => ?_)
                refine g_aload_n (i := 0) hX dX8_resolve_199 rfl rfl rfl ?_
                refine g_callVv hX (c_X8_comesEdition E _ nc nk ne (by rw [gset_eq, rsgN_out ⟨by decide, by decide⟩]; exact hc) hcb hk' hkb (by rw [gset_eq, rsgN_out ⟨by decide, by decide⟩]; exact he) heb (fun _ => hne)) kf_X8_comesEdition rfl wk_X8_107 rfl rfl rfl rfl rfl dX8_resolve_200 rfl (fun M200 h200 => ?_)
                subst h200
                refine g_iload hX dX8_resolve_203 rfl rfl ?_
                refine g_iret hX hR dX8_resolve_205 ?_
                simp only [gset_eq, gset_gset]; rw [setN, if_pos hz]
              · skip
                refine g_aload_n (i := 0) hX dX8_resolve_188 rfl rfl rfl ?_
                refine g_callVi hX (c_X8_pending E _ nk hk' hkb) kf_X8_pending rfl wk_X8_63 rfl rfl rfl rfl rfl dX8_resolve_189 rfl (fun x189 M189 h189 => ?_)
                obtain ⟨rfl, hMq⟩ := h189; have hMq := hMq.symm; subst hMq
                simp only [gset_eq]
                refine g_istore hX dX8_resolve_192 (Nat.le_of_ble_eq_true rfl) rfl ?_
                refine g_iload hX dX8_resolve_194 rfl rfl ?_
                refine g_if_ne (tgt := 203) hX dX8_resolve_196 (by decide) rfl (fun zc196 => ?_) (fun zc196 => absurd ((nI_eq (by omega) (by decide)).mp (show _ = nI 0 from zc196)) hz)
                refine g_iload hX dX8_resolve_203 rfl rfl ?_
                refine g_iret hX hR dX8_resolve_205 ?_
                rw [setN, if_neg hz]
            have go98 : ∀ w, wanN (M 131) c a v = w → ¬ (a < 2 ∧ getN (M 131) (pl c) w = false) → ∀ c2 c3 c7, gG X E M 98 [some (.ref 130), some (.int a), c2, c3, some (.int (nI (973 + 8 * c))), some (.int (nI (pl c))), some (.int w), c7] [] (gQ X E (gInt fun r M' => (r, M') = if a < 2 ∧ getN (M 131) (pl c) (wanN (M 131) c a v) = false then (-2, M) else (nI (cntTo nk (pendB (vSt (rsgN (M 131) c (pl c) a (wanN (M 131) c a v))))), gset (m_rec M sv) 131 (setN (M 131) nc nk ne c (pl c) a (wanN (M 131) c a v))))) := by
              intro w hw hno c2 c3 c7
              refine g_aload_n (i := 0) hX dX8_resolve_98 rfl rfl rfl ?_
              refine g_callVv hX (c_X8_records E M sv hs hb) kf_X8_records rfl wk_X8_31 rfl rfl rfl rfl rfl dX8_resolve_99 rfl (fun M99 h99 => ?_)
              subst h99
              refine g_aload_n (i := 0) hX dX8_resolve_102 rfl rfl rfl ?_
              refine g_getR hX fl_X8_7 rfl rfl dX8_resolve_103 rfl ?_
              refine g_iload hX dX8_resolve_106 rfl rfl ?_
              refine g_iconst hX dX8_resolve_108 ic_4 rfl ?_
              first | refine g_iaddN hX dX8_resolve_109 rfl ?_ | refine g_iadd hX dX8_resolve_109 rfl ?_
              refine g_iconst hX dX8_resolve_110 ic_2 rfl ?_
              refine g_iload_n (i := 1) hX dX8_resolve_111 rfl rfl rfl ?_
              refine g_iadd hX dX8_resolve_112 rfl ?_
              refine g_iast hX rfl (rfl) (by omega) rfl dX8_resolve_113 rfl ?_
              refine g_aload_n (i := 0) hX dX8_resolve_114 rfl rfl rfl ?_
              refine g_getR hX fl_X8_7 rfl rfl dX8_resolve_115 rfl ?_
              refine g_iload hX dX8_resolve_118 rfl rfl ?_
              refine g_iconst hX dX8_resolve_120 ic_5 rfl ?_
              first | refine g_iaddN hX dX8_resolve_121 rfl ?_ | refine g_iadd hX dX8_resolve_121 rfl ?_
              refine g_aload_n (i := 0) hX dX8_resolve_122 rfl rfl rfl ?_
              refine g_getR hX fl_X8_7 rfl rfl dX8_resolve_123 rfl ?_
              refine g_iconst hX dX8_resolve_126 ic_3 rfl ?_
              refine g_ialdv (x := M 131 3) hX rfl (rfl) (by omega) rfl (by simp only [gset_eq]; rw [upd_n _ _ (by omega)]; exact congrFun K 3) dX8_resolve_127 rfl ?_
              refine g_iast hX rfl (rfl) (by omega) rfl dX8_resolve_128 rfl ?_
              refine g_aload_n (i := 0) hX dX8_resolve_129 rfl rfl rfl ?_
              refine g_getR hX fl_X8_7 rfl rfl dX8_resolve_130 rfl ?_
              refine g_iload hX dX8_resolve_133 rfl rfl ?_
              refine g_bipush hX dX8_resolve_135 bc_7 rfl ?_
              first | refine g_iaddN hX dX8_resolve_137 rfl ?_ | refine g_iadd hX dX8_resolve_137 rfl ?_
              refine g_aload_n (i := 0) hX dX8_resolve_138 rfl rfl rfl ?_
              refine g_getR hX fl_X8_7 rfl rfl dX8_resolve_139 rfl ?_
              refine g_bipush hX dX8_resolve_142 bc_10 rfl ?_
              refine g_ialdv (x := M 131 10) hX rfl (rfl) (by omega) rfl (by simp only [gset_eq]; rw [upd_n _ _ (by omega), upd_n _ _ (by omega)]; exact congrFun K 10) dX8_resolve_144 rfl ?_
              refine g_iast hX rfl (rfl) (by omega) rfl dX8_resolve_145 rfl ?_
              refine g_aload_n (i := 0) hX dX8_resolve_146 rfl rfl rfl ?_
              refine g_getR hX fl_X8_7 rfl rfl dX8_resolve_147 rfl ?_
              refine g_bipush hX dX8_resolve_150 bc_10 rfl ?_
              refine g_dup2 hX dX8_resolve_152 rfl rfl rfl ?_
              refine g_ialdv (x := M 131 10) hX rfl (rfl) (by omega) rfl (by simp only [gset_eq]; rw [upd_n _ _ (by omega), upd_n _ _ (by omega), upd_n _ _ (by omega)]; exact congrFun K 10) dX8_resolve_153 rfl ?_
              refine g_iconst hX dX8_resolve_154 ic_1 rfl ?_
              refine g_iadd hX dX8_resolve_155 rfl ?_
              refine g_iast hX rfl (rfl) (by omega) rfl dX8_resolve_156 rfl ?_
              refine g_iload_n (i := 1) hX dX8_resolve_157 rfl rfl rfl ?_
              refine g_iconst hX dX8_resolve_158 ic_2 rfl ?_
              refine g_icmp_ge (tgt := 188) hX dX8_resolve_159 (by decide) rfl (fun zc159 => ?_) (fun zc159 => ?_)
              · skip
                have zd159 : ¬ a < 2 := Int32.not_lt.mpr zc159
                first
                | exact gGM (by simp only [gset_gset, gset_eq, K]; rw [rsgN, if_neg (fun q => zd159 q)]; rfl) (go188 w hw hno _ _ _ _ _ _)
                | exact gGM (by simp only [gset_gset, gset_eq, K]; rw [rsgN, if_pos zd159]; rfl) (go188 w hw hno _ _ _ _ _ _)
              · skip
                have zd159 : a < 2 := Int32.not_le.mp zc159
                refine g_aload_n (i := 0) hX dX8_resolve_162 rfl rfl rfl ?_
                refine g_getR hX fl_X8_7 rfl rfl dX8_resolve_163 rfl ?_
                refine g_iload hX dX8_resolve_166 rfl rfl ?_
                refine g_bipush hX dX8_resolve_168 bc_6 rfl ?_
                first | refine g_iaddN hX dX8_resolve_170 rfl ?_ | refine g_iadd hX dX8_resolve_170 rfl ?_
                refine g_iload hX dX8_resolve_171 rfl rfl ?_
                refine g_iast hX rfl (rfl) (by omega) rfl dX8_resolve_173 rfl ?_
                refine g_aload_n (i := 0) hX dX8_resolve_174 rfl rfl rfl ?_
                refine g_getR hX fl_X8_7 rfl rfl dX8_resolve_175 rfl ?_
                refine g_iload hX dX8_resolve_178 rfl rfl ?_
                refine g_callSi hX (c_X8_clauseAt E _ (pl c)) kf_X8_clauseAt rfl wk_X8_34 rfl rfl rfl rfl dX8_resolve_180 rfl (fun x180 M180 h180 => ?_)
                obtain ⟨rfl, hMq⟩ := h180; have hMq := hMq.symm; subst hMq
                refine g_iconst hX dX8_resolve_183 ic_1 rfl ?_
                first | refine g_iaddN hX dX8_resolve_184 rfl ?_ | refine g_iadd hX dX8_resolve_184 rfl ?_
                refine g_iload hX dX8_resolve_185 rfl rfl ?_
                refine g_iast hX rfl (rfl) (by omega) rfl dX8_resolve_187 rfl ?_
                first
                | exact gGM (by simp only [gset_gset, gset_eq, K]; rw [rsgN, if_neg (fun q => zd159 q)]; rfl) (go188 w hw hno _ _ _ _ _ _)
                | exact gGM (by simp only [gset_gset, gset_eq, K]; rw [rsgN, if_pos zd159]; rfl) (go188 w hw hno _ _ _ _ _ _)
            refine g_aload_n (i := 0) hX dX8_resolve_27 rfl rfl rfl ?_
            refine g_callVi hX (c_X8_next E M nk mb hk hkb hm) kf_X8_next rfl wk_X8_101 rfl rfl rfl rfl rfl dX8_resolve_28 rfl (fun x28 M28 h28 => ?_)
            obtain ⟨hx, hm0⟩ := h28; have hm0 := hm0.symm; subst hm0; rw [show bestTo nk _ _ = some c from hn] at hx; subst hx
            refine g_istore_n (i := 3) hX dX8_resolve_31 rfl (Nat.le_of_ble_eq_true rfl) rfl ?_
            refine g_iload_n (i := 3) hX dX8_resolve_32 rfl rfl rfl ?_
            refine g_if_ge (tgt := 39) hX dX8_resolve_33 (by decide) rfl (fun zc33 => ?_) (fun zc33 => absurd (show (0 : Int32) ≤ optI (-4) (some c) from Int32.not_lt.mp (nI_pos (show c < 2 ^ 31 by omega))) zc33)
            refine g_iload_n (i := 3) hX dX8_resolve_39 rfl rfl rfl ?_
            refine g_callSi hX (c_X8_commentAt E M c) kf_X8_commentAt rfl wk_X8_48 rfl rfl rfl rfl dX8_resolve_40 rfl (fun x40 M40 h40 => ?_)
            obtain ⟨rfl, hMq⟩ := h40; have hMq := hMq.symm; subst hMq
            refine g_istore hX dX8_resolve_43 (Nat.le_of_ble_eq_true rfl) rfl ?_
            refine g_aload_n (i := 0) hX dX8_resolve_45 rfl rfl rfl ?_
            refine g_aload_n (i := 0) hX dX8_resolve_46 rfl rfl rfl ?_
            refine g_getR hX fl_X8_7 rfl rfl dX8_resolve_47 rfl ?_
            refine g_iload hX dX8_resolve_50 rfl rfl ?_
            refine g_iconst hX dX8_resolve_52 ic_1 rfl ?_
            first | refine g_iaddN hX dX8_resolve_53 rfl ?_ | refine g_iadd hX dX8_resolve_53 rfl ?_
            refine g_iald hX rfl (rfl) (by omega) rfl dX8_resolve_54 rfl ?_
            refine g_callVi hX (c_X8_indexOf E M nc _ hc hcb) kf_X8_indexOf rfl wk_X8_41 rfl rfl rfl rfl rfl dX8_resolve_55 rfl (fun x55 M55 h55 => ?_)
            obtain ⟨hx, hm0⟩ := h55; have hm0 := hm0.symm; subst hm0; rw [show fndTo nc _ = some (pl c) from hpf] at hx; subst hx
            refine g_istore hX dX8_resolve_58 (Nat.le_of_ble_eq_true rfl) rfl ?_
            refine g_iload_n (i := 1) hX dX8_resolve_60 rfl rfl rfl ?_
            refine g_if_ne (tgt := 76) hX dX8_resolve_61 (by decide) rfl (fun zc61 => ?_) (fun zc61 => ?_)
            · skip
              have zw : wanN (M 131) c a v = v := if_neg zc61
              refine g_iload_n (i := 2) hX dX8_resolve_76 rfl rfl rfl ?_
              refine g_istore hX dX8_resolve_77 (Nat.le_of_ble_eq_true rfl) rfl ?_
              refine g_iload_n (i := 1) hX dX8_resolve_79 rfl rfl rfl ?_
              refine g_iconst hX dX8_resolve_80 ic_2 rfl ?_
              refine g_icmp_ge (tgt := 98) hX dX8_resolve_81 (by decide) rfl (fun zc81 => ?_) (fun zc81 => ?_)
              · skip
                have zd81 : ¬ a < 2 := Int32.not_lt.mpr zc81
                first
                | exact go98 _ zw (fun q => zd81 q.1) _ _ _
                | exact go98 _ zw (fun q => Bool.noConfusion (q.2.symm.trans zc92)) _ _ _
              · skip
                have zd81 : a < 2 := Int32.not_le.mp zc81
                refine g_aload_n (i := 0) hX dX8_resolve_84 rfl rfl rfl ?_
                refine g_iload hX dX8_resolve_85 rfl rfl ?_
                refine g_iload hX dX8_resolve_87 rfl rfl ?_
                refine g_callVi hX (c_X8_canGet E M (pl c) _ (by omega)) kf_X8_canGet rfl wk_X8_104 rfl rfl rfl rfl rfl dX8_resolve_89 rfl (fun x89 M89 h89 => ?_)
                obtain ⟨rfl, hMq⟩ := h89; have hMq := hMq.symm; subst hMq
                first | refine g_if_neB (tgt := 98) hX dX8_resolve_92 (by decide) rfl (fun zc92 => ?_) (fun zc92 => ?_) | refine g_if_ne (tgt := 98) hX dX8_resolve_92 (by decide) rfl (fun zc92 => ?_) (fun zc92 => ?_)
                · skip
                  first
                  | exact go98 _ zw (fun q => zd81 q.1) _ _ _
                  | exact go98 _ zw (fun q => Bool.noConfusion (q.2.symm.trans zc92)) _ _ _
                · skip
                  refine g_bipush hX dX8_resolve_95 bc_m2 rfl ?_
                  refine g_iret hX hR dX8_resolve_97 ?_
                  rw [zw, if_pos ⟨zd81, zc92⟩]
            · skip
              have zw : wanN (M 131) c a v = vCv (M 131) c := if_pos zc61
              refine g_aload_n (i := 0) hX dX8_resolve_64 rfl rfl rfl ?_
              refine g_getR hX fl_X8_7 rfl rfl dX8_resolve_65 rfl ?_
              refine g_iload hX dX8_resolve_68 rfl rfl ?_
              refine g_iconst hX dX8_resolve_70 ic_3 rfl ?_
              first | refine g_iaddN hX dX8_resolve_71 rfl ?_ | refine g_iadd hX dX8_resolve_71 rfl ?_
              refine g_iald hX rfl (rfl) (by omega) rfl dX8_resolve_72 rfl ?_
              refine g_goto (n := 77) hX dX8_resolve_73 (by decide) ?_
              refine g_istore hX dX8_resolve_77 (Nat.le_of_ble_eq_true rfl) rfl ?_
              refine g_iload_n (i := 1) hX dX8_resolve_79 rfl rfl rfl ?_
              refine g_iconst hX dX8_resolve_80 ic_2 rfl ?_
              refine g_icmp_ge (tgt := 98) hX dX8_resolve_81 (by decide) rfl (fun zc81 => ?_) (fun zc81 => ?_)
              · skip
                have zd81 : ¬ a < 2 := Int32.not_lt.mpr zc81
                first
                | exact go98 _ zw (fun q => zd81 q.1) _ _ _
                | exact go98 _ zw (fun q => Bool.noConfusion (q.2.symm.trans zc92)) _ _ _
              · skip
                have zd81 : a < 2 := Int32.not_le.mp zc81
                refine g_aload_n (i := 0) hX dX8_resolve_84 rfl rfl rfl ?_
                refine g_iload hX dX8_resolve_85 rfl rfl ?_
                refine g_iload hX dX8_resolve_87 rfl rfl ?_
                refine g_callVi hX (c_X8_canGet E M (pl c) _ (by omega)) kf_X8_canGet rfl wk_X8_104 rfl rfl rfl rfl rfl dX8_resolve_89 rfl (fun x89 M89 h89 => ?_)
                obtain ⟨rfl, hMq⟩ := h89; have hMq := hMq.symm; subst hMq
                first | refine g_if_neB (tgt := 98) hX dX8_resolve_92 (by decide) rfl (fun zc92 => ?_) (fun zc92 => ?_) | refine g_if_ne (tgt := 98) hX dX8_resolve_92 (by decide) rfl (fun zc92 => ?_) (fun zc92 => ?_)
                · skip
                  first
                  | exact go98 _ zw (fun q => zd81 q.1) _ _ _
                  | exact go98 _ zw (fun q => Bool.noConfusion (q.2.symm.trans zc92)) _ _ _
                · skip
                  refine g_bipush hX dX8_resolve_95 bc_m2 rfl ?_
                  refine g_iret hX hR dX8_resolve_97 ?_
                  rw [zw, if_pos ⟨zd81, zc92⟩]
        refine g_iload_n (i := 1) hX dX8_resolve_0 rfl rfl rfl ?_
        refine g_iconst hX dX8_resolve_1 ic_0 rfl ?_
        refine g_iconst hX dX8_resolve_2 ic_2 rfl ?_
        refine g_callSi hX (c_X8_in E M _ _ _) kf_X8_in rfl wk_X8_23 rfl rfl rfl rfl dX8_resolve_3 rfl (fun x3 M3 h3 => ?_)
        obtain ⟨rfl, hMq⟩ := h3; have hMq := hMq.symm; subst hMq
        first | refine g_if_eqB (tgt := 25) hX dX8_resolve_6 (by decide) rfl (fun zc6 => Bool.noConfusion (h1.symm.trans zc6)) (fun zc6 => ?_) | refine g_if_eq (tgt := 25) hX dX8_resolve_6 (by decide) rfl (fun zc6 => Bool.noConfusion (h1.symm.trans zc6)) (fun zc6 => ?_)
        refine g_iload_n (i := 2) hX dX8_resolve_9 rfl rfl rfl ?_
        refine g_callSi hX (c_X8_isValue E M v) kf_X8_isValue rfl wk_X8_37 rfl rfl rfl rfl dX8_resolve_10 rfl (fun x10 M10 h10 => ?_)
        obtain ⟨rfl, hMq⟩ := h10; have hMq := hMq.symm; subst hMq
        first | refine g_if_eqB (tgt := 25) hX dX8_resolve_13 (by decide) rfl (fun zc13 => Bool.noConfusion (h2.symm.trans zc13)) (fun zc13 => ?_) | refine g_if_eq (tgt := 25) hX dX8_resolve_13 (by decide) rfl (fun zc13 => Bool.noConfusion (h2.symm.trans zc13)) (fun zc13 => ?_)
        refine g_iload_n (i := 1) hX dX8_resolve_16 rfl rfl rfl ?_
        refine g_iconst hX dX8_resolve_17 ic_1 rfl ?_
        refine g_icmp_eq (tgt := 27) hX dX8_resolve_18 (by decide) rfl (fun zc18 => ?_) (fun zc18 => ?_)
        · skip
          exact h27 _ _ _ _ _
        · skip
          refine g_iload_n (i := 2) hX dX8_resolve_21 rfl rfl rfl ?_
          refine g_if_eq (tgt := 27) hX dX8_resolve_22 (by decide) rfl (fun zc22 => ?_) (fun zc22 => ?_)
          · skip
            exact h27 _ _ _ _ _
          · skip
            refine g_iconst hX dX8_resolve_25 ic_m1 rfl ?_
            refine g_iret hX hR dX8_resolve_26 ?_
            exact absurd h3 (fun q => q.elim zc18 zc22)
      · have e : y_resolve M mb pl nc nk ne sv a v = (-1, M) := by rw [y_resolve, if_neg (fun q => h3 q.2.2)]
        rw [e]
        refine g_iload_n (i := 1) hX dX8_resolve_0 rfl rfl rfl ?_
        refine g_iconst hX dX8_resolve_1 ic_0 rfl ?_
        refine g_iconst hX dX8_resolve_2 ic_2 rfl ?_
        refine g_callSi hX (c_X8_in E M _ _ _) kf_X8_in rfl wk_X8_23 rfl rfl rfl rfl dX8_resolve_3 rfl (fun x3 M3 h3 => ?_)
        obtain ⟨rfl, hMq⟩ := h3; have hMq := hMq.symm; subst hMq
        first | refine g_if_eqB (tgt := 25) hX dX8_resolve_6 (by decide) rfl (fun zc6 => Bool.noConfusion (h1.symm.trans zc6)) (fun zc6 => ?_) | refine g_if_eq (tgt := 25) hX dX8_resolve_6 (by decide) rfl (fun zc6 => Bool.noConfusion (h1.symm.trans zc6)) (fun zc6 => ?_)
        refine g_iload_n (i := 2) hX dX8_resolve_9 rfl rfl rfl ?_
        refine g_callSi hX (c_X8_isValue E M v) kf_X8_isValue rfl wk_X8_37 rfl rfl rfl rfl dX8_resolve_10 rfl (fun x10 M10 h10 => ?_)
        obtain ⟨rfl, hMq⟩ := h10; have hMq := hMq.symm; subst hMq
        first | refine g_if_eqB (tgt := 25) hX dX8_resolve_13 (by decide) rfl (fun zc13 => Bool.noConfusion (h2.symm.trans zc13)) (fun zc13 => ?_) | refine g_if_eq (tgt := 25) hX dX8_resolve_13 (by decide) rfl (fun zc13 => Bool.noConfusion (h2.symm.trans zc13)) (fun zc13 => ?_)
        refine g_iload_n (i := 1) hX dX8_resolve_16 rfl rfl rfl ?_
        refine g_iconst hX dX8_resolve_17 ic_1 rfl ?_
        refine g_icmp_eq (tgt := 27) hX dX8_resolve_18 (by decide) rfl (fun zc18 => absurd (Or.inl zc18) h3) (fun zc18 => ?_)
        refine g_iload_n (i := 2) hX dX8_resolve_21 rfl rfl rfl ?_
        refine g_if_eq (tgt := 27) hX dX8_resolve_22 (by decide) rfl (fun zc22 => absurd (Or.inr zc22) h3) (fun zc22 => ?_)
        refine g_iconst hX dX8_resolve_25 ic_m1 rfl ?_
        refine g_iret hX hR dX8_resolve_26 ?_
        rfl

