/-! the law's body over the made objects: its script at cell 136 -/
def gScr (X : gX) (E : gE) (L : Nat) (xs : Nat → Int32) : Prop := match X with
  | (_, _, _, s, _, _, _, _, _, _, _, A) => va_X (E.2.1 136) L xs s s.heap ∧ E.2.1 136 < s.heap.size ∧ ¬ A (E.2.1 136)
section
variable {X : gX} {E : gE} {cc : ByteArray} {own : String} {nL f lo : Nat} {M : gM} {pc n : Nat} {ls : gLs} {st : List Value} {Q : State → Prop} {L : Nat} {xs : Nat → Int32}
theorem g_sld (hX : gOk X E cc own nL f lo) (hS0 : gScr X E L xs) {j : Nat} {i : Int32} (hi : i = nI j) (hj : j < L) (hL0 : L ≤ 2560) (hd : decode cc pc = .ok (.iaload, 1)) (hn : pc + 1 = n) (kk : gG X E M n ls (.int (xs j) :: st) Q) : gG X E M pc ls (.int i :: .ref 136 :: st) Q := by
  obtain ⟨p, e, R, s, m, args, below, meth, c, cells, slots, A⟩ := X
  intro H locs lsr hP hS hL
  subst hn
  have hc : i.toNatClampNeg = j := by rw [hi]; exact nI_clamp (by omega)
  rw [← hc] at kk
  exact va_sld hX.1.1 hX.1.2.1 hS0.1 hS0.2.1 hS0.2.2 hS (by rw [hi]; exact vp_in_nI (N := L) hj (by omega)) hd (kk H locs lsr hP hS hL)
theorem g_slen (hX : gOk X E cc own nL f lo) (hS0 : gScr X E L xs) (hd : decode cc pc = .ok (.arraylength, 1)) (hn : pc + 1 = n) (kk : gG X E M n ls (.int (nI L) :: st) Q) : gG X E M pc ls (.ref 136 :: st) Q := by
  obtain ⟨p, e, R, s, m, args, below, meth, c, cells, slots, A⟩ := X
  intro H locs lsr hP hS hL
  subst hn
  exact va_slen hX.1.1 hX.1.2.1 hS0.1 hS0.2.1 hS0.2.2 hS hd (kk H locs lsr hP hS hL)
end
abbrev lawL (i : Int32) : gLs := [some (.ref 136), some (.ref 0), some (.ref 130), some (.int i)]
set_option maxHeartbeats 1000000 in
theorem lc_addMember {X : gX} {E : gE} {M : gM} {Q : State → Prop} {L i : Nat} {xs : Nat → Int32} (hX : gOk X E code RL 4 8 266) (hS0 : gScr X E L xs) (hL0 : L ≤ 2560) (hi : 5 * i + 5 ≤ L) (hI : Inv M) (kk : ∀ M1 : gM, Inv M1 → gG X E M1 813 (lawL (nI (5 * i))) [] Q) : gG X E M 148 (lawL (nI (5 * i))) [] Q := by
  obtain ⟨P1, h1, h2⟩ := op_addMember (E := E) (w := xs (5 * i + 1)) M hI
  refine g_aload_n (i := 1) hX dL_law_148 rfl rfl rfl ?_
  refine g_aload_n (i := 0) hX dL_law_149 rfl rfl rfl ?_
  refine g_iload_n (i := 3) hX dL_law_150 rfl rfl rfl ?_
  refine g_iconst hX dL_law_151 ic_1 rfl ?_
  first | refine g_iaddN hX dL_law_152 rfl ?_ | refine g_iadd hX dL_law_152 rfl ?_
  refine g_sld hX hS0 rfl (by omega) hL0 dL_law_153 rfl ?_
  refine g_callVi hX (h1) kf_X7_addMember rfl wk_L_13 rfl rfl rfl rfl rfl dL_law_154 rfl (fun x154 M154 h154 => ?_)
  obtain ⟨P2, g1, g2⟩ := h2 _ _ h154
  refine g_aload_n (i := 2) hX dL_law_157 rfl rfl rfl ?_
  refine g_aload_n (i := 0) hX dL_law_158 rfl rfl rfl ?_
  refine g_iload_n (i := 3) hX dL_law_159 rfl rfl rfl ?_
  refine g_iconst hX dL_law_160 ic_1 rfl ?_
  first | refine g_iaddN hX dL_law_161 rfl ?_ | refine g_iadd hX dL_law_161 rfl ?_
  refine g_sld hX hS0 rfl (by omega) hL0 dL_law_162 rfl ?_
  refine g_callVi hX (g1) kf_X8_addMember rfl wk_L_17 rfl rfl rfl rfl rfl dL_law_163 rfl (fun x163 M163 h163 => ?_)
  obtain ⟨e9, hI9⟩ := g2 _ _ h163
  refine g_icmp_eq (tgt := 813) hX dL_law_166 (by decide) rfl (fun zc166 => ?_) (fun zc166 => absurd e9.symm zc166)
  exact kk _ hI9
set_option maxHeartbeats 1000000 in
theorem lc_addClause {X : gX} {E : gE} {M : gM} {Q : State → Prop} {L i : Nat} {xs : Nat → Int32} (hX : gOk X E code RL 4 8 266) (hS0 : gScr X E L xs) (hL0 : L ≤ 2560) (hi : 5 * i + 5 ≤ L) (hI : Inv M) (kk : ∀ M1 : gM, Inv M1 → gG X E M1 813 (lawL (nI (5 * i))) [] Q) : gG X E M 171 (lawL (nI (5 * i))) [] Q := by
  obtain ⟨P1, h1, h2⟩ := op_addClause (E := E) (c := xs (5 * i + 1)) (v := xs (5 * i + 2)) M hI
  refine g_aload_n (i := 1) hX dL_law_171 rfl rfl rfl ?_
  refine g_aload_n (i := 0) hX dL_law_172 rfl rfl rfl ?_
  refine g_iload_n (i := 3) hX dL_law_173 rfl rfl rfl ?_
  refine g_iconst hX dL_law_174 ic_1 rfl ?_
  first | refine g_iaddN hX dL_law_175 rfl ?_ | refine g_iadd hX dL_law_175 rfl ?_
  refine g_sld hX hS0 rfl (by omega) hL0 dL_law_176 rfl ?_
  refine g_aload_n (i := 0) hX dL_law_177 rfl rfl rfl ?_
  refine g_iload_n (i := 3) hX dL_law_178 rfl rfl rfl ?_
  refine g_iconst hX dL_law_179 ic_2 rfl ?_
  first | refine g_iaddN hX dL_law_180 rfl ?_ | refine g_iadd hX dL_law_180 rfl ?_
  refine g_sld hX hS0 rfl (by omega) hL0 dL_law_181 rfl ?_
  refine g_callVi hX (h1) kf_X7_addClause rfl wk_L_18 rfl rfl rfl rfl rfl dL_law_182 rfl (fun x182 M182 h182 => ?_)
  obtain ⟨P2, g1, g2⟩ := h2 _ _ h182
  refine g_aload_n (i := 2) hX dL_law_185 rfl rfl rfl ?_
  refine g_aload_n (i := 0) hX dL_law_186 rfl rfl rfl ?_
  refine g_iload_n (i := 3) hX dL_law_187 rfl rfl rfl ?_
  refine g_iconst hX dL_law_188 ic_1 rfl ?_
  first | refine g_iaddN hX dL_law_189 rfl ?_ | refine g_iadd hX dL_law_189 rfl ?_
  refine g_sld hX hS0 rfl (by omega) hL0 dL_law_190 rfl ?_
  refine g_aload_n (i := 0) hX dL_law_191 rfl rfl rfl ?_
  refine g_iload_n (i := 3) hX dL_law_192 rfl rfl rfl ?_
  refine g_iconst hX dL_law_193 ic_2 rfl ?_
  first | refine g_iaddN hX dL_law_194 rfl ?_ | refine g_iadd hX dL_law_194 rfl ?_
  refine g_sld hX hS0 rfl (by omega) hL0 dL_law_195 rfl ?_
  refine g_callVi hX (g1) kf_X8_addClause rfl wk_L_22 rfl rfl rfl rfl rfl dL_law_196 rfl (fun x196 M196 h196 => ?_)
  obtain ⟨e9, hI9⟩ := g2 _ _ h196
  refine g_icmp_eq (tgt := 813) hX dL_law_199 (by decide) rfl (fun zc199 => ?_) (fun zc199 => absurd e9.symm zc199)
  exact kk _ hI9
set_option maxHeartbeats 1000000 in
theorem lc_set {X : gX} {E : gE} {M : gM} {Q : State → Prop} {L i : Nat} {xs : Nat → Int32} (hX : gOk X E code RL 4 8 266) (hS0 : gScr X E L xs) (hL0 : L ≤ 2560) (hi : 5 * i + 5 ≤ L) (hI : Inv M) (kk : ∀ M1 : gM, Inv M1 → gG X E M1 813 (lawL (nI (5 * i))) [] Q) : gG X E M 204 (lawL (nI (5 * i))) [] Q := by
  obtain ⟨P1, h1, h2⟩ := op_set (E := E) (w := xs (5 * i + 1)) (v := xs (5 * i + 2)) M hI
  refine g_aload_n (i := 1) hX dL_law_204 rfl rfl rfl ?_
  refine g_aload_n (i := 0) hX dL_law_205 rfl rfl rfl ?_
  refine g_iload_n (i := 3) hX dL_law_206 rfl rfl rfl ?_
  refine g_iconst hX dL_law_207 ic_1 rfl ?_
  first | refine g_iaddN hX dL_law_208 rfl ?_ | refine g_iadd hX dL_law_208 rfl ?_
  refine g_sld hX hS0 rfl (by omega) hL0 dL_law_209 rfl ?_
  refine g_aload_n (i := 0) hX dL_law_210 rfl rfl rfl ?_
  refine g_iload_n (i := 3) hX dL_law_211 rfl rfl rfl ?_
  refine g_iconst hX dL_law_212 ic_2 rfl ?_
  first | refine g_iaddN hX dL_law_213 rfl ?_ | refine g_iadd hX dL_law_213 rfl ?_
  refine g_sld hX hS0 rfl (by omega) hL0 dL_law_214 rfl ?_
  refine g_callVi hX (h1) kf_X7_set rfl wk_L_23 rfl rfl rfl rfl rfl dL_law_215 rfl (fun x215 M215 h215 => ?_)
  obtain ⟨P2, g1, g2⟩ := h2 _ _ h215
  refine g_aload_n (i := 2) hX dL_law_218 rfl rfl rfl ?_
  refine g_aload_n (i := 0) hX dL_law_219 rfl rfl rfl ?_
  refine g_iload_n (i := 3) hX dL_law_220 rfl rfl rfl ?_
  refine g_iconst hX dL_law_221 ic_1 rfl ?_
  first | refine g_iaddN hX dL_law_222 rfl ?_ | refine g_iadd hX dL_law_222 rfl ?_
  refine g_sld hX hS0 rfl (by omega) hL0 dL_law_223 rfl ?_
  refine g_aload_n (i := 0) hX dL_law_224 rfl rfl rfl ?_
  refine g_iload_n (i := 3) hX dL_law_225 rfl rfl rfl ?_
  refine g_iconst hX dL_law_226 ic_2 rfl ?_
  first | refine g_iaddN hX dL_law_227 rfl ?_ | refine g_iadd hX dL_law_227 rfl ?_
  refine g_sld hX hS0 rfl (by omega) hL0 dL_law_228 rfl ?_
  refine g_callVi hX (g1) kf_X8_set rfl wk_L_26 rfl rfl rfl rfl rfl dL_law_229 rfl (fun x229 M229 h229 => ?_)
  obtain ⟨e9, hI9⟩ := g2 _ _ h229
  refine g_icmp_eq (tgt := 813) hX dL_law_232 (by decide) rfl (fun zc232 => ?_) (fun zc232 => absurd e9.symm zc232)
  exact kk _ hI9
set_option maxHeartbeats 1000000 in
theorem lc_member {X : gX} {E : gE} {M : gM} {Q : State → Prop} {L i : Nat} {xs : Nat → Int32} (hX : gOk X E code RL 4 8 266) (hS0 : gScr X E L xs) (hL0 : L ≤ 2560) (hi : 5 * i + 5 ≤ L) (hI : Inv M) (kk : ∀ M1 : gM, Inv M1 → gG X E M1 813 (lawL (nI (5 * i))) [] Q) : gG X E M 237 (lawL (nI (5 * i))) [] Q := by
  obtain ⟨P1, h1, h2⟩ := op_member (E := E) (m := xs (5 * i + 1)) (w := xs (5 * i + 2)) M hI
  refine g_aload_n (i := 1) hX dL_law_237 rfl rfl rfl ?_
  refine g_aload_n (i := 0) hX dL_law_238 rfl rfl rfl ?_
  refine g_iload_n (i := 3) hX dL_law_239 rfl rfl rfl ?_
  refine g_iconst hX dL_law_240 ic_1 rfl ?_
  first | refine g_iaddN hX dL_law_241 rfl ?_ | refine g_iadd hX dL_law_241 rfl ?_
  refine g_sld hX hS0 rfl (by omega) hL0 dL_law_242 rfl ?_
  refine g_aload_n (i := 0) hX dL_law_243 rfl rfl rfl ?_
  refine g_iload_n (i := 3) hX dL_law_244 rfl rfl rfl ?_
  refine g_iconst hX dL_law_245 ic_2 rfl ?_
  first | refine g_iaddN hX dL_law_246 rfl ?_ | refine g_iadd hX dL_law_246 rfl ?_
  refine g_sld hX hS0 rfl (by omega) hL0 dL_law_247 rfl ?_
  refine g_callVi hX (h1) kf_X7_member rfl wk_L_27 rfl rfl rfl rfl rfl dL_law_248 rfl (fun x248 M248 h248 => ?_)
  obtain ⟨P2, g1, g2⟩ := h2 _ _ h248
  refine g_aload_n (i := 2) hX dL_law_251 rfl rfl rfl ?_
  refine g_aload_n (i := 0) hX dL_law_252 rfl rfl rfl ?_
  refine g_iload_n (i := 3) hX dL_law_253 rfl rfl rfl ?_
  refine g_iconst hX dL_law_254 ic_1 rfl ?_
  first | refine g_iaddN hX dL_law_255 rfl ?_ | refine g_iadd hX dL_law_255 rfl ?_
  refine g_sld hX hS0 rfl (by omega) hL0 dL_law_256 rfl ?_
  refine g_aload_n (i := 0) hX dL_law_257 rfl rfl rfl ?_
  refine g_iload_n (i := 3) hX dL_law_258 rfl rfl rfl ?_
  refine g_iconst hX dL_law_259 ic_2 rfl ?_
  first | refine g_iaddN hX dL_law_260 rfl ?_ | refine g_iadd hX dL_law_260 rfl ?_
  refine g_sld hX hS0 rfl (by omega) hL0 dL_law_261 rfl ?_
  refine g_callVi hX (g1) kf_X8_member rfl wk_L_30 rfl rfl rfl rfl rfl dL_law_262 rfl (fun x262 M262 h262 => ?_)
  obtain ⟨e9, hI9⟩ := g2 _ _ h262
  refine g_icmp_eq (tgt := 813) hX dL_law_265 (by decide) rfl (fun zc265 => ?_) (fun zc265 => absurd e9.symm zc265)
  exact kk _ hI9
set_option maxHeartbeats 1000000 in
theorem lc_value {X : gX} {E : gE} {M : gM} {Q : State → Prop} {L i : Nat} {xs : Nat → Int32} (hX : gOk X E code RL 4 8 266) (hS0 : gScr X E L xs) (hL0 : L ≤ 2560) (hi : 5 * i + 5 ≤ L) (hI : Inv M) (kk : ∀ M1 : gM, Inv M1 → gG X E M1 813 (lawL (nI (5 * i))) [] Q) : gG X E M 270 (lawL (nI (5 * i))) [] Q := by
  obtain ⟨P1, h1, h2⟩ := op_value (E := E) (c := xs (5 * i + 1)) M hI
  refine g_aload_n (i := 1) hX dL_law_270 rfl rfl rfl ?_
  refine g_aload_n (i := 0) hX dL_law_271 rfl rfl rfl ?_
  refine g_iload_n (i := 3) hX dL_law_272 rfl rfl rfl ?_
  refine g_iconst hX dL_law_273 ic_1 rfl ?_
  first | refine g_iaddN hX dL_law_274 rfl ?_ | refine g_iadd hX dL_law_274 rfl ?_
  refine g_sld hX hS0 rfl (by omega) hL0 dL_law_275 rfl ?_
  refine g_callVi hX (h1) kf_X7_value rfl wk_L_31 rfl rfl rfl rfl rfl dL_law_276 rfl (fun x276 M276 h276 => ?_)
  obtain ⟨P2, g1, g2⟩ := h2 _ _ h276
  refine g_aload_n (i := 2) hX dL_law_279 rfl rfl rfl ?_
  refine g_aload_n (i := 0) hX dL_law_280 rfl rfl rfl ?_
  refine g_iload_n (i := 3) hX dL_law_281 rfl rfl rfl ?_
  refine g_iconst hX dL_law_282 ic_1 rfl ?_
  first | refine g_iaddN hX dL_law_283 rfl ?_ | refine g_iadd hX dL_law_283 rfl ?_
  refine g_sld hX hS0 rfl (by omega) hL0 dL_law_284 rfl ?_
  refine g_callVi hX (g1) kf_X8_value rfl wk_L_34 rfl rfl rfl rfl rfl dL_law_285 rfl (fun x285 M285 h285 => ?_)
  obtain ⟨e9, hI9⟩ := g2 _ _ h285
  refine g_icmp_eq (tgt := 813) hX dL_law_288 (by decide) rfl (fun zc288 => ?_) (fun zc288 => absurd e9.symm zc288)
  exact kk _ hI9
set_option maxHeartbeats 1000000 in
theorem lc_valueIn {X : gX} {E : gE} {M : gM} {Q : State → Prop} {L i : Nat} {xs : Nat → Int32} (hX : gOk X E code RL 4 8 266) (hS0 : gScr X E L xs) (hL0 : L ≤ 2560) (hi : 5 * i + 5 ≤ L) (hI : Inv M) (kk : ∀ M1 : gM, Inv M1 → gG X E M1 813 (lawL (nI (5 * i))) [] Q) : gG X E M 293 (lawL (nI (5 * i))) [] Q := by
  obtain ⟨P1, h1, h2⟩ := op_valueIn (E := E) (c := xs (5 * i + 1)) (e := xs (5 * i + 2)) M hI
  refine g_aload_n (i := 1) hX dL_law_293 rfl rfl rfl ?_
  refine g_aload_n (i := 0) hX dL_law_294 rfl rfl rfl ?_
  refine g_iload_n (i := 3) hX dL_law_295 rfl rfl rfl ?_
  refine g_iconst hX dL_law_296 ic_1 rfl ?_
  first | refine g_iaddN hX dL_law_297 rfl ?_ | refine g_iadd hX dL_law_297 rfl ?_
  refine g_sld hX hS0 rfl (by omega) hL0 dL_law_298 rfl ?_
  refine g_aload_n (i := 0) hX dL_law_299 rfl rfl rfl ?_
  refine g_iload_n (i := 3) hX dL_law_300 rfl rfl rfl ?_
  refine g_iconst hX dL_law_301 ic_2 rfl ?_
  first | refine g_iaddN hX dL_law_302 rfl ?_ | refine g_iadd hX dL_law_302 rfl ?_
  refine g_sld hX hS0 rfl (by omega) hL0 dL_law_303 rfl ?_
  refine g_callVi hX (h1) kf_X7_valueIn rfl wk_L_35 rfl rfl rfl rfl rfl dL_law_304 rfl (fun x304 M304 h304 => ?_)
  obtain ⟨P2, g1, g2⟩ := h2 _ _ h304
  refine g_aload_n (i := 2) hX dL_law_307 rfl rfl rfl ?_
  refine g_aload_n (i := 0) hX dL_law_308 rfl rfl rfl ?_
  refine g_iload_n (i := 3) hX dL_law_309 rfl rfl rfl ?_
  refine g_iconst hX dL_law_310 ic_1 rfl ?_
  first | refine g_iaddN hX dL_law_311 rfl ?_ | refine g_iadd hX dL_law_311 rfl ?_
  refine g_sld hX hS0 rfl (by omega) hL0 dL_law_312 rfl ?_
  refine g_aload_n (i := 0) hX dL_law_313 rfl rfl rfl ?_
  refine g_iload_n (i := 3) hX dL_law_314 rfl rfl rfl ?_
  refine g_iconst hX dL_law_315 ic_2 rfl ?_
  first | refine g_iaddN hX dL_law_316 rfl ?_ | refine g_iadd hX dL_law_316 rfl ?_
  refine g_sld hX hS0 rfl (by omega) hL0 dL_law_317 rfl ?_
  refine g_callVi hX (g1) kf_X8_valueIn rfl wk_L_38 rfl rfl rfl rfl rfl dL_law_318 rfl (fun x318 M318 h318 => ?_)
  obtain ⟨e9, hI9⟩ := g2 _ _ h318
  refine g_icmp_eq (tgt := 813) hX dL_law_321 (by decide) rfl (fun zc321 => ?_) (fun zc321 => absurd e9.symm zc321)
  exact kk _ hI9
set_option maxHeartbeats 1000000 in
theorem lc_clause {X : gX} {E : gE} {M : gM} {Q : State → Prop} {L i : Nat} {xs : Nat → Int32} (hX : gOk X E code RL 4 8 266) (hS0 : gScr X E L xs) (hL0 : L ≤ 2560) (hi : 5 * i + 5 ≤ L) (hI : Inv M) (kk : ∀ M1 : gM, Inv M1 → gG X E M1 813 (lawL (nI (5 * i))) [] Q) : gG X E M 326 (lawL (nI (5 * i))) [] Q := by
  obtain ⟨P1, h1, h2⟩ := op_clause (E := E) (i := xs (5 * i + 1)) M hI
  refine g_aload_n (i := 1) hX dL_law_326 rfl rfl rfl ?_
  refine g_aload_n (i := 0) hX dL_law_327 rfl rfl rfl ?_
  refine g_iload_n (i := 3) hX dL_law_328 rfl rfl rfl ?_
  refine g_iconst hX dL_law_329 ic_1 rfl ?_
  first | refine g_iaddN hX dL_law_330 rfl ?_ | refine g_iadd hX dL_law_330 rfl ?_
  refine g_sld hX hS0 rfl (by omega) hL0 dL_law_331 rfl ?_
  refine g_callVi hX (h1) kf_X7_clause rfl wk_L_39 rfl rfl rfl rfl rfl dL_law_332 rfl (fun x332 M332 h332 => ?_)
  obtain ⟨P2, g1, g2⟩ := h2 _ _ h332
  refine g_aload_n (i := 2) hX dL_law_335 rfl rfl rfl ?_
  refine g_aload_n (i := 0) hX dL_law_336 rfl rfl rfl ?_
  refine g_iload_n (i := 3) hX dL_law_337 rfl rfl rfl ?_
  refine g_iconst hX dL_law_338 ic_1 rfl ?_
  first | refine g_iaddN hX dL_law_339 rfl ?_ | refine g_iadd hX dL_law_339 rfl ?_
  refine g_sld hX hS0 rfl (by omega) hL0 dL_law_340 rfl ?_
  refine g_callVi hX (g1) kf_X8_clause rfl wk_L_42 rfl rfl rfl rfl rfl dL_law_341 rfl (fun x341 M341 h341 => ?_)
  obtain ⟨e9, hI9⟩ := g2 _ _ h341
  refine g_icmp_eq (tgt := 813) hX dL_law_344 (by decide) rfl (fun zc344 => ?_) (fun zc344 => absurd e9.symm zc344)
  exact kk _ hI9
set_option maxHeartbeats 1000000 in
theorem lc_count {X : gX} {E : gE} {M : gM} {Q : State → Prop} {L i : Nat} {xs : Nat → Int32} (hX : gOk X E code RL 4 8 266) (hS0 : gScr X E L xs) (hL0 : L ≤ 2560) (hi : 5 * i + 5 ≤ L) (hI : Inv M) (kk : ∀ M1 : gM, Inv M1 → gG X E M1 813 (lawL (nI (5 * i))) [] Q) : gG X E M 349 (lawL (nI (5 * i))) [] Q := by
  obtain ⟨P1, h1, h2⟩ := op_count (E := E) (w := xs (5 * i + 1)) M hI
  refine g_aload_n (i := 1) hX dL_law_349 rfl rfl rfl ?_
  refine g_aload_n (i := 0) hX dL_law_350 rfl rfl rfl ?_
  refine g_iload_n (i := 3) hX dL_law_351 rfl rfl rfl ?_
  refine g_iconst hX dL_law_352 ic_1 rfl ?_
  first | refine g_iaddN hX dL_law_353 rfl ?_ | refine g_iadd hX dL_law_353 rfl ?_
  refine g_sld hX hS0 rfl (by omega) hL0 dL_law_354 rfl ?_
  refine g_callVi hX (h1) kf_X7_count rfl wk_L_43 rfl rfl rfl rfl rfl dL_law_355 rfl (fun x355 M355 h355 => ?_)
  obtain ⟨P2, g1, g2⟩ := h2 _ _ h355
  refine g_aload_n (i := 2) hX dL_law_358 rfl rfl rfl ?_
  refine g_aload_n (i := 0) hX dL_law_359 rfl rfl rfl ?_
  refine g_iload_n (i := 3) hX dL_law_360 rfl rfl rfl ?_
  refine g_iconst hX dL_law_361 ic_1 rfl ?_
  first | refine g_iaddN hX dL_law_362 rfl ?_ | refine g_iadd hX dL_law_362 rfl ?_
  refine g_sld hX hS0 rfl (by omega) hL0 dL_law_363 rfl ?_
  refine g_callVi hX (g1) kf_X8_count rfl wk_L_46 rfl rfl rfl rfl rfl dL_law_364 rfl (fun x364 M364 h364 => ?_)
  obtain ⟨e9, hI9⟩ := g2 _ _ h364
  refine g_icmp_eq (tgt := 813) hX dL_law_367 (by decide) rfl (fun zc367 => ?_) (fun zc367 => absurd e9.symm zc367)
  exact kk _ hI9
set_option maxHeartbeats 1000000 in
theorem lc_open {X : gX} {E : gE} {M : gM} {Q : State → Prop} {L i : Nat} {xs : Nat → Int32} (hX : gOk X E code RL 4 8 266) (hS0 : gScr X E L xs) (hL0 : L ≤ 2560) (hi : 5 * i + 5 ≤ L) (hI : Inv M) (kk : ∀ M1 : gM, Inv M1 → gG X E M1 813 (lawL (nI (5 * i))) [] Q) : gG X E M 372 (lawL (nI (5 * i))) [] Q := by
  obtain ⟨P1, h1, h2⟩ := op_open (E := E)  M hI
  refine g_aload_n (i := 1) hX dL_law_372 rfl rfl rfl ?_
  refine g_callVi hX (h1) kf_X7_open rfl wk_L_47 rfl rfl rfl rfl rfl dL_law_373 rfl (fun x373 M373 h373 => ?_)
  obtain ⟨P2, g1, g2⟩ := h2 _ _ h373
  refine g_aload_n (i := 2) hX dL_law_376 rfl rfl rfl ?_
  refine g_callVi hX (g1) kf_X8_open rfl wk_L_51 rfl rfl rfl rfl rfl dL_law_377 rfl (fun x377 M377 h377 => ?_)
  obtain ⟨e9, hI9⟩ := g2 _ _ h377
  refine g_icmp_eq (tgt := 813) hX dL_law_380 (by decide) rfl (fun zc380 => ?_) (fun zc380 => absurd e9.symm zc380)
  exact kk _ hI9
set_option maxHeartbeats 1000000 in
theorem lc_vote {X : gX} {E : gE} {M : gM} {Q : State → Prop} {L i : Nat} {xs : Nat → Int32} (hX : gOk X E code RL 4 8 266) (hS0 : gScr X E L xs) (hL0 : L ≤ 2560) (hi : 5 * i + 5 ≤ L) (hI : Inv M) (kk : ∀ M1 : gM, Inv M1 → gG X E M1 813 (lawL (nI (5 * i))) [] Q) : gG X E M 385 (lawL (nI (5 * i))) [] Q := by
  obtain ⟨P1, h1, h2⟩ := op_vote (E := E) (m := xs (5 * i + 1)) (v := xs (5 * i + 2)) M hI
  refine g_aload_n (i := 1) hX dL_law_385 rfl rfl rfl ?_
  refine g_aload_n (i := 0) hX dL_law_386 rfl rfl rfl ?_
  refine g_iload_n (i := 3) hX dL_law_387 rfl rfl rfl ?_
  refine g_iconst hX dL_law_388 ic_1 rfl ?_
  first | refine g_iaddN hX dL_law_389 rfl ?_ | refine g_iadd hX dL_law_389 rfl ?_
  refine g_sld hX hS0 rfl (by omega) hL0 dL_law_390 rfl ?_
  refine g_aload_n (i := 0) hX dL_law_391 rfl rfl rfl ?_
  refine g_iload_n (i := 3) hX dL_law_392 rfl rfl rfl ?_
  refine g_iconst hX dL_law_393 ic_2 rfl ?_
  first | refine g_iaddN hX dL_law_394 rfl ?_ | refine g_iadd hX dL_law_394 rfl ?_
  refine g_sld hX hS0 rfl (by omega) hL0 dL_law_395 rfl ?_
  refine g_callVi hX (h1) kf_X7_vote rfl wk_L_52 rfl rfl rfl rfl rfl dL_law_396 rfl (fun x396 M396 h396 => ?_)
  obtain ⟨P2, g1, g2⟩ := h2 _ _ h396
  refine g_aload_n (i := 2) hX dL_law_399 rfl rfl rfl ?_
  refine g_aload_n (i := 0) hX dL_law_400 rfl rfl rfl ?_
  refine g_iload_n (i := 3) hX dL_law_401 rfl rfl rfl ?_
  refine g_iconst hX dL_law_402 ic_1 rfl ?_
  first | refine g_iaddN hX dL_law_403 rfl ?_ | refine g_iadd hX dL_law_403 rfl ?_
  refine g_sld hX hS0 rfl (by omega) hL0 dL_law_404 rfl ?_
  refine g_aload_n (i := 0) hX dL_law_405 rfl rfl rfl ?_
  refine g_iload_n (i := 3) hX dL_law_406 rfl rfl rfl ?_
  refine g_iconst hX dL_law_407 ic_2 rfl ?_
  first | refine g_iaddN hX dL_law_408 rfl ?_ | refine g_iadd hX dL_law_408 rfl ?_
  refine g_sld hX hS0 rfl (by omega) hL0 dL_law_409 rfl ?_
  refine g_callVi hX (g1) kf_X8_vote rfl wk_L_55 rfl rfl rfl rfl rfl dL_law_410 rfl (fun x410 M410 h410 => ?_)
  obtain ⟨e9, hI9⟩ := g2 _ _ h410
  refine g_icmp_eq (tgt := 813) hX dL_law_413 (by decide) rfl (fun zc413 => ?_) (fun zc413 => absurd e9.symm zc413)
  exact kk _ hI9
set_option maxHeartbeats 1000000 in
theorem lc_pass {X : gX} {E : gE} {M : gM} {Q : State → Prop} {L i : Nat} {xs : Nat → Int32} (hX : gOk X E code RL 4 8 266) (hS0 : gScr X E L xs) (hL0 : L ≤ 2560) (hi : 5 * i + 5 ≤ L) (hI : Inv M) (kk : ∀ M1 : gM, Inv M1 → gG X E M1 813 (lawL (nI (5 * i))) [] Q) : gG X E M 418 (lawL (nI (5 * i))) [] Q := by
  obtain ⟨P1, h1, h2⟩ := op_pass (E := E) (d := xs (5 * i + 1)) M hI
  refine g_aload_n (i := 1) hX dL_law_418 rfl rfl rfl ?_
  refine g_aload_n (i := 0) hX dL_law_419 rfl rfl rfl ?_
  refine g_iload_n (i := 3) hX dL_law_420 rfl rfl rfl ?_
  refine g_iconst hX dL_law_421 ic_1 rfl ?_
  first | refine g_iaddN hX dL_law_422 rfl ?_ | refine g_iadd hX dL_law_422 rfl ?_
  refine g_sld hX hS0 rfl (by omega) hL0 dL_law_423 rfl ?_
  refine g_callVi hX (h1) kf_X7_pass rfl wk_L_56 rfl rfl rfl rfl rfl dL_law_424 rfl (fun x424 M424 h424 => ?_)
  obtain ⟨P2, g1, g2⟩ := h2 _ _ h424
  refine g_aload_n (i := 2) hX dL_law_427 rfl rfl rfl ?_
  refine g_aload_n (i := 0) hX dL_law_428 rfl rfl rfl ?_
  refine g_iload_n (i := 3) hX dL_law_429 rfl rfl rfl ?_
  refine g_iconst hX dL_law_430 ic_1 rfl ?_
  first | refine g_iaddN hX dL_law_431 rfl ?_ | refine g_iadd hX dL_law_431 rfl ?_
  refine g_sld hX hS0 rfl (by omega) hL0 dL_law_432 rfl ?_
  refine g_callVi hX (g1) kf_X8_pass rfl wk_L_59 rfl rfl rfl rfl rfl dL_law_433 rfl (fun x433 M433 h433 => ?_)
  obtain ⟨e9, hI9⟩ := g2 _ _ h433
  refine g_icmp_eq (tgt := 813) hX dL_law_436 (by decide) rfl (fun zc436 => ?_) (fun zc436 => absurd e9.symm zc436)
  exact kk _ hI9
set_option maxHeartbeats 1000000 in
theorem lc_tally {X : gX} {E : gE} {M : gM} {Q : State → Prop} {L i : Nat} {xs : Nat → Int32} (hX : gOk X E code RL 4 8 266) (hS0 : gScr X E L xs) (hL0 : L ≤ 2560) (hi : 5 * i + 5 ≤ L) (hI : Inv M) (kk : ∀ M1 : gM, Inv M1 → gG X E M1 813 (lawL (nI (5 * i))) [] Q) : gG X E M 441 (lawL (nI (5 * i))) [] Q := by
  obtain ⟨P1, h1, h2⟩ := op_tally (E := E) (w := xs (5 * i + 1)) M hI
  refine g_aload_n (i := 1) hX dL_law_441 rfl rfl rfl ?_
  refine g_aload_n (i := 0) hX dL_law_442 rfl rfl rfl ?_
  refine g_iload_n (i := 3) hX dL_law_443 rfl rfl rfl ?_
  refine g_iconst hX dL_law_444 ic_1 rfl ?_
  first | refine g_iaddN hX dL_law_445 rfl ?_ | refine g_iadd hX dL_law_445 rfl ?_
  refine g_sld hX hS0 rfl (by omega) hL0 dL_law_446 rfl ?_
  refine g_callVi hX (h1) kf_X7_tally rfl wk_L_60 rfl rfl rfl rfl rfl dL_law_447 rfl (fun x447 M447 h447 => ?_)
  obtain ⟨P2, g1, g2⟩ := h2 _ _ h447
  refine g_aload_n (i := 2) hX dL_law_450 rfl rfl rfl ?_
  refine g_aload_n (i := 0) hX dL_law_451 rfl rfl rfl ?_
  refine g_iload_n (i := 3) hX dL_law_452 rfl rfl rfl ?_
  refine g_iconst hX dL_law_453 ic_1 rfl ?_
  first | refine g_iaddN hX dL_law_454 rfl ?_ | refine g_iadd hX dL_law_454 rfl ?_
  refine g_sld hX hS0 rfl (by omega) hL0 dL_law_455 rfl ?_
  refine g_callVi hX (g1) kf_X8_tally rfl wk_L_63 rfl rfl rfl rfl rfl dL_law_456 rfl (fun x456 M456 h456 => ?_)
  obtain ⟨e9, hI9⟩ := g2 _ _ h456
  refine g_icmp_eq (tgt := 813) hX dL_law_459 (by decide) rfl (fun zc459 => ?_) (fun zc459 => absurd e9.symm zc459)
  exact kk _ hI9
set_option maxHeartbeats 1000000 in
theorem lc_lacking {X : gX} {E : gE} {M : gM} {Q : State → Prop} {L i : Nat} {xs : Nat → Int32} (hX : gOk X E code RL 4 8 266) (hS0 : gScr X E L xs) (hL0 : L ≤ 2560) (hi : 5 * i + 5 ≤ L) (hI : Inv M) (kk : ∀ M1 : gM, Inv M1 → gG X E M1 813 (lawL (nI (5 * i))) [] Q) : gG X E M 464 (lawL (nI (5 * i))) [] Q := by
  obtain ⟨P1, h1, h2⟩ := op_lacking (E := E)  M hI
  refine g_aload_n (i := 1) hX dL_law_464 rfl rfl rfl ?_
  refine g_callVi hX (h1) kf_X7_lacking rfl wk_L_64 rfl rfl rfl rfl rfl dL_law_465 rfl (fun x465 M465 h465 => ?_)
  obtain ⟨P2, g1, g2⟩ := h2 _ _ h465
  refine g_aload_n (i := 2) hX dL_law_468 rfl rfl rfl ?_
  refine g_callVi hX (g1) kf_X8_lacking rfl wk_L_67 rfl rfl rfl rfl rfl dL_law_469 rfl (fun x469 M469 h469 => ?_)
  obtain ⟨e9, hI9⟩ := g2 _ _ h469
  refine g_icmp_eq (tgt := 813) hX dL_law_472 (by decide) rfl (fun zc472 => ?_) (fun zc472 => absurd e9.symm zc472)
  exact kk _ hI9
set_option maxHeartbeats 1000000 in
theorem lc_comment {X : gX} {E : gE} {M : gM} {Q : State → Prop} {L i : Nat} {xs : Nat → Int32} (hX : gOk X E code RL 4 8 266) (hS0 : gScr X E L xs) (hL0 : L ≤ 2560) (hi : 5 * i + 5 ≤ L) (hI : Inv M) (kk : ∀ M1 : gM, Inv M1 → gG X E M1 813 (lawL (nI (5 * i))) [] Q) : gG X E M 477 (lawL (nI (5 * i))) [] Q := by
  obtain ⟨P1, h1, h2⟩ := op_comment (E := E) (m := xs (5 * i + 1)) (c := xs (5 * i + 2)) (k := xs (5 * i + 3)) (v := xs (5 * i + 4)) M hI
  refine g_aload_n (i := 1) hX dL_law_477 rfl rfl rfl ?_
  refine g_aload_n (i := 0) hX dL_law_478 rfl rfl rfl ?_
  refine g_iload_n (i := 3) hX dL_law_479 rfl rfl rfl ?_
  refine g_iconst hX dL_law_480 ic_1 rfl ?_
  first | refine g_iaddN hX dL_law_481 rfl ?_ | refine g_iadd hX dL_law_481 rfl ?_
  refine g_sld hX hS0 rfl (by omega) hL0 dL_law_482 rfl ?_
  refine g_aload_n (i := 0) hX dL_law_483 rfl rfl rfl ?_
  refine g_iload_n (i := 3) hX dL_law_484 rfl rfl rfl ?_
  refine g_iconst hX dL_law_485 ic_2 rfl ?_
  first | refine g_iaddN hX dL_law_486 rfl ?_ | refine g_iadd hX dL_law_486 rfl ?_
  refine g_sld hX hS0 rfl (by omega) hL0 dL_law_487 rfl ?_
  refine g_aload_n (i := 0) hX dL_law_488 rfl rfl rfl ?_
  refine g_iload_n (i := 3) hX dL_law_489 rfl rfl rfl ?_
  refine g_iconst hX dL_law_490 ic_3 rfl ?_
  first | refine g_iaddN hX dL_law_491 rfl ?_ | refine g_iadd hX dL_law_491 rfl ?_
  refine g_sld hX hS0 rfl (by omega) hL0 dL_law_492 rfl ?_
  refine g_aload_n (i := 0) hX dL_law_493 rfl rfl rfl ?_
  refine g_iload_n (i := 3) hX dL_law_494 rfl rfl rfl ?_
  refine g_iconst hX dL_law_495 ic_4 rfl ?_
  first | refine g_iaddN hX dL_law_496 rfl ?_ | refine g_iadd hX dL_law_496 rfl ?_
  refine g_sld hX hS0 rfl (by omega) hL0 dL_law_497 rfl ?_
  refine g_callVi hX (h1) kf_X7_comment rfl wk_L_68 rfl rfl rfl rfl rfl dL_law_498 rfl (fun x498 M498 h498 => ?_)
  obtain ⟨P2, g1, g2⟩ := h2 _ _ h498
  refine g_aload_n (i := 2) hX dL_law_501 rfl rfl rfl ?_
  refine g_aload_n (i := 0) hX dL_law_502 rfl rfl rfl ?_
  refine g_iload_n (i := 3) hX dL_law_503 rfl rfl rfl ?_
  refine g_iconst hX dL_law_504 ic_1 rfl ?_
  first | refine g_iaddN hX dL_law_505 rfl ?_ | refine g_iadd hX dL_law_505 rfl ?_
  refine g_sld hX hS0 rfl (by omega) hL0 dL_law_506 rfl ?_
  refine g_aload_n (i := 0) hX dL_law_507 rfl rfl rfl ?_
  refine g_iload_n (i := 3) hX dL_law_508 rfl rfl rfl ?_
  refine g_iconst hX dL_law_509 ic_2 rfl ?_
  first | refine g_iaddN hX dL_law_510 rfl ?_ | refine g_iadd hX dL_law_510 rfl ?_
  refine g_sld hX hS0 rfl (by omega) hL0 dL_law_511 rfl ?_
  refine g_aload_n (i := 0) hX dL_law_512 rfl rfl rfl ?_
  refine g_iload_n (i := 3) hX dL_law_513 rfl rfl rfl ?_
  refine g_iconst hX dL_law_514 ic_3 rfl ?_
  first | refine g_iaddN hX dL_law_515 rfl ?_ | refine g_iadd hX dL_law_515 rfl ?_
  refine g_sld hX hS0 rfl (by omega) hL0 dL_law_516 rfl ?_
  refine g_aload_n (i := 0) hX dL_law_517 rfl rfl rfl ?_
  refine g_iload_n (i := 3) hX dL_law_518 rfl rfl rfl ?_
  refine g_iconst hX dL_law_519 ic_4 rfl ?_
  first | refine g_iaddN hX dL_law_520 rfl ?_ | refine g_iadd hX dL_law_520 rfl ?_
  refine g_sld hX hS0 rfl (by omega) hL0 dL_law_521 rfl ?_
  refine g_callVi hX (g1) kf_X8_comment rfl wk_L_72 rfl rfl rfl rfl rfl dL_law_522 rfl (fun x522 M522 h522 => ?_)
  obtain ⟨e9, hI9⟩ := g2 _ _ h522
  refine g_icmp_eq (tgt := 813) hX dL_law_525 (by decide) rfl (fun zc525 => ?_) (fun zc525 => absurd e9.symm zc525)
  exact kk _ hI9
set_option maxHeartbeats 1000000 in
theorem lc_told {X : gX} {E : gE} {M : gM} {Q : State → Prop} {L i : Nat} {xs : Nat → Int32} (hX : gOk X E code RL 4 8 266) (hS0 : gScr X E L xs) (hL0 : L ≤ 2560) (hi : 5 * i + 5 ≤ L) (hI : Inv M) (kk : ∀ M1 : gM, Inv M1 → gG X E M1 813 (lawL (nI (5 * i))) [] Q) : gG X E M 530 (lawL (nI (5 * i))) [] Q := by
  obtain ⟨P1, h1, h2⟩ := op_told (E := E) (c := xs (5 * i + 1)) (w := xs (5 * i + 2)) M hI
  refine g_aload_n (i := 1) hX dL_law_530 rfl rfl rfl ?_
  refine g_aload_n (i := 0) hX dL_law_531 rfl rfl rfl ?_
  refine g_iload_n (i := 3) hX dL_law_532 rfl rfl rfl ?_
  refine g_iconst hX dL_law_533 ic_1 rfl ?_
  first | refine g_iaddN hX dL_law_534 rfl ?_ | refine g_iadd hX dL_law_534 rfl ?_
  refine g_sld hX hS0 rfl (by omega) hL0 dL_law_535 rfl ?_
  refine g_aload_n (i := 0) hX dL_law_536 rfl rfl rfl ?_
  refine g_iload_n (i := 3) hX dL_law_537 rfl rfl rfl ?_
  refine g_iconst hX dL_law_538 ic_2 rfl ?_
  first | refine g_iaddN hX dL_law_539 rfl ?_ | refine g_iadd hX dL_law_539 rfl ?_
  refine g_sld hX hS0 rfl (by omega) hL0 dL_law_540 rfl ?_
  refine g_callVi hX (h1) kf_X7_told rfl wk_L_73 rfl rfl rfl rfl rfl dL_law_541 rfl (fun x541 M541 h541 => ?_)
  obtain ⟨P2, g1, g2⟩ := h2 _ _ h541
  refine g_aload_n (i := 2) hX dL_law_544 rfl rfl rfl ?_
  refine g_aload_n (i := 0) hX dL_law_545 rfl rfl rfl ?_
  refine g_iload_n (i := 3) hX dL_law_546 rfl rfl rfl ?_
  refine g_iconst hX dL_law_547 ic_1 rfl ?_
  first | refine g_iaddN hX dL_law_548 rfl ?_ | refine g_iadd hX dL_law_548 rfl ?_
  refine g_sld hX hS0 rfl (by omega) hL0 dL_law_549 rfl ?_
  refine g_aload_n (i := 0) hX dL_law_550 rfl rfl rfl ?_
  refine g_iload_n (i := 3) hX dL_law_551 rfl rfl rfl ?_
  refine g_iconst hX dL_law_552 ic_2 rfl ?_
  first | refine g_iaddN hX dL_law_553 rfl ?_ | refine g_iadd hX dL_law_553 rfl ?_
  refine g_sld hX hS0 rfl (by omega) hL0 dL_law_554 rfl ?_
  refine g_callVi hX (g1) kf_X8_told rfl wk_L_76 rfl rfl rfl rfl rfl dL_law_555 rfl (fun x555 M555 h555 => ?_)
  obtain ⟨e9, hI9⟩ := g2 _ _ h555
  refine g_icmp_eq (tgt := 813) hX dL_law_558 (by decide) rfl (fun zc558 => ?_) (fun zc558 => absurd e9.symm zc558)
  exact kk _ hI9
set_option maxHeartbeats 1000000 in
theorem lc_next {X : gX} {E : gE} {M : gM} {Q : State → Prop} {L i : Nat} {xs : Nat → Int32} (hX : gOk X E code RL 4 8 266) (hS0 : gScr X E L xs) (hL0 : L ≤ 2560) (hi : 5 * i + 5 ≤ L) (hI : Inv M) (kk : ∀ M1 : gM, Inv M1 → gG X E M1 813 (lawL (nI (5 * i))) [] Q) : gG X E M 563 (lawL (nI (5 * i))) [] Q := by
  obtain ⟨P1, h1, h2⟩ := op_next (E := E)  M hI
  refine g_aload_n (i := 1) hX dL_law_563 rfl rfl rfl ?_
  refine g_callVi hX (h1) kf_X7_next rfl wk_L_77 rfl rfl rfl rfl rfl dL_law_564 rfl (fun x564 M564 h564 => ?_)
  obtain ⟨P2, g1, g2⟩ := h2 _ _ h564
  refine g_aload_n (i := 2) hX dL_law_567 rfl rfl rfl ?_
  refine g_callVi hX (g1) kf_X8_next rfl wk_L_80 rfl rfl rfl rfl rfl dL_law_568 rfl (fun x568 M568 h568 => ?_)
  obtain ⟨e9, hI9⟩ := g2 _ _ h568
  refine g_icmp_eq (tgt := 813) hX dL_law_571 (by decide) rfl (fun zc571 => ?_) (fun zc571 => absurd e9.symm zc571)
  exact kk _ hI9
set_option maxHeartbeats 1000000 in
theorem lc_resolve {X : gX} {E : gE} {M : gM} {Q : State → Prop} {L i : Nat} {xs : Nat → Int32} (hX : gOk X E code RL 4 8 266) (hS0 : gScr X E L xs) (hL0 : L ≤ 2560) (hi : 5 * i + 5 ≤ L) (hI : Inv M) (kk : ∀ M1 : gM, Inv M1 → gG X E M1 813 (lawL (nI (5 * i))) [] Q) : gG X E M 576 (lawL (nI (5 * i))) [] Q := by
  obtain ⟨P1, h1, h2⟩ := op_resolve (E := E) (d := xs (5 * i + 1)) (v := xs (5 * i + 2)) M hI
  refine g_aload_n (i := 1) hX dL_law_576 rfl rfl rfl ?_
  refine g_aload_n (i := 0) hX dL_law_577 rfl rfl rfl ?_
  refine g_iload_n (i := 3) hX dL_law_578 rfl rfl rfl ?_
  refine g_iconst hX dL_law_579 ic_1 rfl ?_
  first | refine g_iaddN hX dL_law_580 rfl ?_ | refine g_iadd hX dL_law_580 rfl ?_
  refine g_sld hX hS0 rfl (by omega) hL0 dL_law_581 rfl ?_
  refine g_aload_n (i := 0) hX dL_law_582 rfl rfl rfl ?_
  refine g_iload_n (i := 3) hX dL_law_583 rfl rfl rfl ?_
  refine g_iconst hX dL_law_584 ic_2 rfl ?_
  first | refine g_iaddN hX dL_law_585 rfl ?_ | refine g_iadd hX dL_law_585 rfl ?_
  refine g_sld hX hS0 rfl (by omega) hL0 dL_law_586 rfl ?_
  refine g_callVi hX (h1) kf_X7_resolve rfl wk_L_81 rfl rfl rfl rfl rfl dL_law_587 rfl (fun x587 M587 h587 => ?_)
  obtain ⟨P2, g1, g2⟩ := h2 _ _ h587
  refine g_aload_n (i := 2) hX dL_law_590 rfl rfl rfl ?_
  refine g_aload_n (i := 0) hX dL_law_591 rfl rfl rfl ?_
  refine g_iload_n (i := 3) hX dL_law_592 rfl rfl rfl ?_
  refine g_iconst hX dL_law_593 ic_1 rfl ?_
  first | refine g_iaddN hX dL_law_594 rfl ?_ | refine g_iadd hX dL_law_594 rfl ?_
  refine g_sld hX hS0 rfl (by omega) hL0 dL_law_595 rfl ?_
  refine g_aload_n (i := 0) hX dL_law_596 rfl rfl rfl ?_
  refine g_iload_n (i := 3) hX dL_law_597 rfl rfl rfl ?_
  refine g_iconst hX dL_law_598 ic_2 rfl ?_
  first | refine g_iaddN hX dL_law_599 rfl ?_ | refine g_iadd hX dL_law_599 rfl ?_
  refine g_sld hX hS0 rfl (by omega) hL0 dL_law_600 rfl ?_
  refine g_callVi hX (g1) kf_X8_resolve rfl wk_L_84 rfl rfl rfl rfl rfl dL_law_601 rfl (fun x601 M601 h601 => ?_)
  obtain ⟨e9, hI9⟩ := g2 _ _ h601
  refine g_icmp_eq (tgt := 813) hX dL_law_604 (by decide) rfl (fun zc604 => ?_) (fun zc604 => absurd e9.symm zc604)
  exact kk _ hI9
set_option maxHeartbeats 1000000 in
theorem lc_appeal {X : gX} {E : gE} {M : gM} {Q : State → Prop} {L i : Nat} {xs : Nat → Int32} (hX : gOk X E code RL 4 8 266) (hS0 : gScr X E L xs) (hL0 : L ≤ 2560) (hi : 5 * i + 5 ≤ L) (hI : Inv M) (kk : ∀ M1 : gM, Inv M1 → gG X E M1 813 (lawL (nI (5 * i))) [] Q) : gG X E M 609 (lawL (nI (5 * i))) [] Q := by
  obtain ⟨P1, h1, h2⟩ := op_appeal (E := E) (c := xs (5 * i + 1)) (m := xs (5 * i + 2)) (s := xs (5 * i + 3)) M hI
  refine g_aload_n (i := 1) hX dL_law_609 rfl rfl rfl ?_
  refine g_aload_n (i := 0) hX dL_law_610 rfl rfl rfl ?_
  refine g_iload_n (i := 3) hX dL_law_611 rfl rfl rfl ?_
  refine g_iconst hX dL_law_612 ic_1 rfl ?_
  first | refine g_iaddN hX dL_law_613 rfl ?_ | refine g_iadd hX dL_law_613 rfl ?_
  refine g_sld hX hS0 rfl (by omega) hL0 dL_law_614 rfl ?_
  refine g_aload_n (i := 0) hX dL_law_615 rfl rfl rfl ?_
  refine g_iload_n (i := 3) hX dL_law_616 rfl rfl rfl ?_
  refine g_iconst hX dL_law_617 ic_2 rfl ?_
  first | refine g_iaddN hX dL_law_618 rfl ?_ | refine g_iadd hX dL_law_618 rfl ?_
  refine g_sld hX hS0 rfl (by omega) hL0 dL_law_619 rfl ?_
  refine g_aload_n (i := 0) hX dL_law_620 rfl rfl rfl ?_
  refine g_iload_n (i := 3) hX dL_law_621 rfl rfl rfl ?_
  refine g_iconst hX dL_law_622 ic_3 rfl ?_
  first | refine g_iaddN hX dL_law_623 rfl ?_ | refine g_iadd hX dL_law_623 rfl ?_
  refine g_sld hX hS0 rfl (by omega) hL0 dL_law_624 rfl ?_
  refine g_callVi hX (h1) kf_X7_appeal rfl wk_L_85 rfl rfl rfl rfl rfl dL_law_625 rfl (fun x625 M625 h625 => ?_)
  obtain ⟨P2, g1, g2⟩ := h2 _ _ h625
  refine g_aload_n (i := 2) hX dL_law_628 rfl rfl rfl ?_
  refine g_aload_n (i := 0) hX dL_law_629 rfl rfl rfl ?_
  refine g_iload_n (i := 3) hX dL_law_630 rfl rfl rfl ?_
  refine g_iconst hX dL_law_631 ic_1 rfl ?_
  first | refine g_iaddN hX dL_law_632 rfl ?_ | refine g_iadd hX dL_law_632 rfl ?_
  refine g_sld hX hS0 rfl (by omega) hL0 dL_law_633 rfl ?_
  refine g_aload_n (i := 0) hX dL_law_634 rfl rfl rfl ?_
  refine g_iload_n (i := 3) hX dL_law_635 rfl rfl rfl ?_
  refine g_iconst hX dL_law_636 ic_2 rfl ?_
  first | refine g_iaddN hX dL_law_637 rfl ?_ | refine g_iadd hX dL_law_637 rfl ?_
  refine g_sld hX hS0 rfl (by omega) hL0 dL_law_638 rfl ?_
  refine g_aload_n (i := 0) hX dL_law_639 rfl rfl rfl ?_
  refine g_iload_n (i := 3) hX dL_law_640 rfl rfl rfl ?_
  refine g_iconst hX dL_law_641 ic_3 rfl ?_
  first | refine g_iaddN hX dL_law_642 rfl ?_ | refine g_iadd hX dL_law_642 rfl ?_
  refine g_sld hX hS0 rfl (by omega) hL0 dL_law_643 rfl ?_
  refine g_callVi hX (g1) kf_X8_appeal rfl wk_L_89 rfl rfl rfl rfl rfl dL_law_644 rfl (fun x644 M644 h644 => ?_)
  obtain ⟨e9, hI9⟩ := g2 _ _ h644
  refine g_icmp_eq (tgt := 813) hX dL_law_647 (by decide) rfl (fun zc647 => ?_) (fun zc647 => absurd e9.symm zc647)
  exact kk _ hI9
set_option maxHeartbeats 1000000 in
theorem lc_changes {X : gX} {E : gE} {M : gM} {Q : State → Prop} {L i : Nat} {xs : Nat → Int32} (hX : gOk X E code RL 4 8 266) (hS0 : gScr X E L xs) (hL0 : L ≤ 2560) (hi : 5 * i + 5 ≤ L) (hI : Inv M) (kk : ∀ M1 : gM, Inv M1 → gG X E M1 813 (lawL (nI (5 * i))) [] Q) : gG X E M 652 (lawL (nI (5 * i))) [] Q := by
  obtain ⟨P1, h1, h2⟩ := op_changes (E := E) (e := xs (5 * i + 1)) M hI
  refine g_aload_n (i := 1) hX dL_law_652 rfl rfl rfl ?_
  refine g_aload_n (i := 0) hX dL_law_653 rfl rfl rfl ?_
  refine g_iload_n (i := 3) hX dL_law_654 rfl rfl rfl ?_
  refine g_iconst hX dL_law_655 ic_1 rfl ?_
  first | refine g_iaddN hX dL_law_656 rfl ?_ | refine g_iadd hX dL_law_656 rfl ?_
  refine g_sld hX hS0 rfl (by omega) hL0 dL_law_657 rfl ?_
  refine g_callVi hX (h1) kf_X7_changes rfl wk_L_90 rfl rfl rfl rfl rfl dL_law_658 rfl (fun x658 M658 h658 => ?_)
  obtain ⟨P2, g1, g2⟩ := h2 _ _ h658
  refine g_aload_n (i := 2) hX dL_law_661 rfl rfl rfl ?_
  refine g_aload_n (i := 0) hX dL_law_662 rfl rfl rfl ?_
  refine g_iload_n (i := 3) hX dL_law_663 rfl rfl rfl ?_
  refine g_iconst hX dL_law_664 ic_1 rfl ?_
  first | refine g_iaddN hX dL_law_665 rfl ?_ | refine g_iadd hX dL_law_665 rfl ?_
  refine g_sld hX hS0 rfl (by omega) hL0 dL_law_666 rfl ?_
  refine g_callVi hX (g1) kf_X8_changes rfl wk_L_93 rfl rfl rfl rfl rfl dL_law_667 rfl (fun x667 M667 h667 => ?_)
  obtain ⟨e9, hI9⟩ := g2 _ _ h667
  refine g_icmp_eq (tgt := 813) hX dL_law_670 (by decide) rfl (fun zc670 => ?_) (fun zc670 => absurd e9.symm zc670)
  exact kk _ hI9
set_option maxHeartbeats 1000000 in
theorem lc_change {X : gX} {E : gE} {M : gM} {Q : State → Prop} {L i : Nat} {xs : Nat → Int32} (hX : gOk X E code RL 4 8 266) (hS0 : gScr X E L xs) (hL0 : L ≤ 2560) (hi : 5 * i + 5 ≤ L) (hI : Inv M) (kk : ∀ M1 : gM, Inv M1 → gG X E M1 813 (lawL (nI (5 * i))) [] Q) : gG X E M 675 (lawL (nI (5 * i))) [] Q := by
  obtain ⟨P1, h1, h2⟩ := op_change (E := E) (e := xs (5 * i + 1)) (i := xs (5 * i + 2)) (w := xs (5 * i + 3)) M hI
  refine g_aload_n (i := 1) hX dL_law_675 rfl rfl rfl ?_
  refine g_aload_n (i := 0) hX dL_law_676 rfl rfl rfl ?_
  refine g_iload_n (i := 3) hX dL_law_677 rfl rfl rfl ?_
  refine g_iconst hX dL_law_678 ic_1 rfl ?_
  first | refine g_iaddN hX dL_law_679 rfl ?_ | refine g_iadd hX dL_law_679 rfl ?_
  refine g_sld hX hS0 rfl (by omega) hL0 dL_law_680 rfl ?_
  refine g_aload_n (i := 0) hX dL_law_681 rfl rfl rfl ?_
  refine g_iload_n (i := 3) hX dL_law_682 rfl rfl rfl ?_
  refine g_iconst hX dL_law_683 ic_2 rfl ?_
  first | refine g_iaddN hX dL_law_684 rfl ?_ | refine g_iadd hX dL_law_684 rfl ?_
  refine g_sld hX hS0 rfl (by omega) hL0 dL_law_685 rfl ?_
  refine g_aload_n (i := 0) hX dL_law_686 rfl rfl rfl ?_
  refine g_iload_n (i := 3) hX dL_law_687 rfl rfl rfl ?_
  refine g_iconst hX dL_law_688 ic_3 rfl ?_
  first | refine g_iaddN hX dL_law_689 rfl ?_ | refine g_iadd hX dL_law_689 rfl ?_
  refine g_sld hX hS0 rfl (by omega) hL0 dL_law_690 rfl ?_
  refine g_callVi hX (h1) kf_X7_change rfl wk_L_94 rfl rfl rfl rfl rfl dL_law_691 rfl (fun x691 M691 h691 => ?_)
  obtain ⟨P2, g1, g2⟩ := h2 _ _ h691
  refine g_aload_n (i := 2) hX dL_law_694 rfl rfl rfl ?_
  refine g_aload_n (i := 0) hX dL_law_695 rfl rfl rfl ?_
  refine g_iload_n (i := 3) hX dL_law_696 rfl rfl rfl ?_
  refine g_iconst hX dL_law_697 ic_1 rfl ?_
  first | refine g_iaddN hX dL_law_698 rfl ?_ | refine g_iadd hX dL_law_698 rfl ?_
  refine g_sld hX hS0 rfl (by omega) hL0 dL_law_699 rfl ?_
  refine g_aload_n (i := 0) hX dL_law_700 rfl rfl rfl ?_
  refine g_iload_n (i := 3) hX dL_law_701 rfl rfl rfl ?_
  refine g_iconst hX dL_law_702 ic_2 rfl ?_
  first | refine g_iaddN hX dL_law_703 rfl ?_ | refine g_iadd hX dL_law_703 rfl ?_
  refine g_sld hX hS0 rfl (by omega) hL0 dL_law_704 rfl ?_
  refine g_aload_n (i := 0) hX dL_law_705 rfl rfl rfl ?_
  refine g_iload_n (i := 3) hX dL_law_706 rfl rfl rfl ?_
  refine g_iconst hX dL_law_707 ic_3 rfl ?_
  first | refine g_iaddN hX dL_law_708 rfl ?_ | refine g_iadd hX dL_law_708 rfl ?_
  refine g_sld hX hS0 rfl (by omega) hL0 dL_law_709 rfl ?_
  refine g_callVi hX (g1) kf_X8_change rfl wk_L_97 rfl rfl rfl rfl rfl dL_law_710 rfl (fun x710 M710 h710 => ?_)
  obtain ⟨e9, hI9⟩ := g2 _ _ h710
  refine g_icmp_eq (tgt := 813) hX dL_law_713 (by decide) rfl (fun zc713 => ?_) (fun zc713 => absurd e9.symm zc713)
  exact kk _ hI9
set_option maxHeartbeats 1000000 in
theorem lc_undo {X : gX} {E : gE} {M : gM} {Q : State → Prop} {L i : Nat} {xs : Nat → Int32} (hX : gOk X E code RL 4 8 266) (hS0 : gScr X E L xs) (hL0 : L ≤ 2560) (hi : 5 * i + 5 ≤ L) (hI : Inv M) (kk : ∀ M1 : gM, Inv M1 → gG X E M1 813 (lawL (nI (5 * i))) [] Q) : gG X E M 718 (lawL (nI (5 * i))) [] Q := by
  obtain ⟨P1, h1, h2⟩ := op_undo (E := E)  M hI
  refine g_aload_n (i := 1) hX dL_law_718 rfl rfl rfl ?_
  refine g_callVi hX (h1) kf_X7_undo rfl wk_L_98 rfl rfl rfl rfl rfl dL_law_719 rfl (fun x719 M719 h719 => ?_)
  obtain ⟨P2, g1, g2⟩ := h2 _ _ h719
  refine g_aload_n (i := 2) hX dL_law_722 rfl rfl rfl ?_
  refine g_callVi hX (g1) kf_X8_undo rfl wk_L_101 rfl rfl rfl rfl rfl dL_law_723 rfl (fun x723 M723 h723 => ?_)
  obtain ⟨e9, hI9⟩ := g2 _ _ h723
  refine g_icmp_eq (tgt := 813) hX dL_law_726 (by decide) rfl (fun zc726 => ?_) (fun zc726 => absurd e9.symm zc726)
  exact kk _ hI9
set_option maxHeartbeats 1000000 in
theorem lc_type {X : gX} {E : gE} {M : gM} {Q : State → Prop} {L i : Nat} {xs : Nat → Int32} (hX : gOk X E code RL 4 8 266) (hS0 : gScr X E L xs) (hL0 : L ≤ 2560) (hi : 5 * i + 5 ≤ L) (hI : Inv M) (kk : ∀ M1 : gM, Inv M1 → gG X E M1 813 (lawL (nI (5 * i))) [] Q) : gG X E M 731 (lawL (nI (5 * i))) [] Q := by
  obtain ⟨P1, h1, h2⟩ := op_type (E := E) (c := xs (5 * i + 1)) M hI
  refine g_aload_n (i := 1) hX dL_law_731 rfl rfl rfl ?_
  refine g_aload_n (i := 0) hX dL_law_732 rfl rfl rfl ?_
  refine g_iload_n (i := 3) hX dL_law_733 rfl rfl rfl ?_
  refine g_iconst hX dL_law_734 ic_1 rfl ?_
  first | refine g_iaddN hX dL_law_735 rfl ?_ | refine g_iadd hX dL_law_735 rfl ?_
  refine g_sld hX hS0 rfl (by omega) hL0 dL_law_736 rfl ?_
  refine g_callVi hX (h1) kf_X7_type rfl wk_L_102 rfl rfl rfl rfl rfl dL_law_737 rfl (fun x737 M737 h737 => ?_)
  obtain ⟨P2, g1, g2⟩ := h2 _ _ h737
  refine g_aload_n (i := 2) hX dL_law_740 rfl rfl rfl ?_
  refine g_aload_n (i := 0) hX dL_law_741 rfl rfl rfl ?_
  refine g_iload_n (i := 3) hX dL_law_742 rfl rfl rfl ?_
  refine g_iconst hX dL_law_743 ic_1 rfl ?_
  first | refine g_iaddN hX dL_law_744 rfl ?_ | refine g_iadd hX dL_law_744 rfl ?_
  refine g_sld hX hS0 rfl (by omega) hL0 dL_law_745 rfl ?_
  refine g_callVi hX (g1) kf_X8_type rfl wk_L_105 rfl rfl rfl rfl rfl dL_law_746 rfl (fun x746 M746 h746 => ?_)
  obtain ⟨e9, hI9⟩ := g2 _ _ h746
  refine g_icmp_eq (tgt := 813) hX dL_law_749 (by decide) rfl (fun zc749 => ?_) (fun zc749 => absurd e9.symm zc749)
  exact kk _ hI9
set_option maxHeartbeats 1000000 in
theorem lc_clearText {X : gX} {E : gE} {M : gM} {Q : State → Prop} {L i : Nat} {xs : Nat → Int32} (hX : gOk X E code RL 4 8 266) (hS0 : gScr X E L xs) (hL0 : L ≤ 2560) (hi : 5 * i + 5 ≤ L) (hI : Inv M) (kk : ∀ M1 : gM, Inv M1 → gG X E M1 813 (lawL (nI (5 * i))) [] Q) : gG X E M 754 (lawL (nI (5 * i))) [] Q := by
  obtain ⟨P1, h1, h2⟩ := op_clearText (E := E)  M hI
  refine g_aload_n (i := 1) hX dL_law_754 rfl rfl rfl ?_
  refine g_callVi hX (h1) kf_X7_clearText rfl wk_L_106 rfl rfl rfl rfl rfl dL_law_755 rfl (fun x755 M755 h755 => ?_)
  obtain ⟨P2, g1, g2⟩ := h2 _ _ h755
  refine g_aload_n (i := 2) hX dL_law_758 rfl rfl rfl ?_
  refine g_callVi hX (g1) kf_X8_clearText rfl wk_L_109 rfl rfl rfl rfl rfl dL_law_759 rfl (fun x759 M759 h759 => ?_)
  obtain ⟨e9, hI9⟩ := g2 _ _ h759
  refine g_icmp_eq (tgt := 813) hX dL_law_762 (by decide) rfl (fun zc762 => ?_) (fun zc762 => absurd e9.symm zc762)
  exact kk _ hI9
set_option maxHeartbeats 1000000 in
theorem lc_fault {X : gX} {E : gE} {M : gM} {Q : State → Prop} {L i : Nat} {xs : Nat → Int32} (hX : gOk X E code RL 4 8 266) (hS0 : gScr X E L xs) (hL0 : L ≤ 2560) (hi : 5 * i + 5 ≤ L) (hI : Inv M) (kk : ∀ M1 : gM, Inv M1 → gG X E M1 813 (lawL (nI (5 * i))) [] Q) : gG X E M 767 (lawL (nI (5 * i))) [] Q := by
  obtain ⟨P1, h1, h2⟩ := op_fault (E := E) (w := xs (5 * i + 1)) M hI
  refine g_aload_n (i := 1) hX dL_law_767 rfl rfl rfl ?_
  refine g_aload_n (i := 0) hX dL_law_768 rfl rfl rfl ?_
  refine g_iload_n (i := 3) hX dL_law_769 rfl rfl rfl ?_
  refine g_iconst hX dL_law_770 ic_1 rfl ?_
  first | refine g_iaddN hX dL_law_771 rfl ?_ | refine g_iadd hX dL_law_771 rfl ?_
  refine g_sld hX hS0 rfl (by omega) hL0 dL_law_772 rfl ?_
  refine g_callVi hX (h1) kf_X7_fault rfl wk_L_110 rfl rfl rfl rfl rfl dL_law_773 rfl (fun x773 M773 h773 => ?_)
  obtain ⟨P2, g1, g2⟩ := h2 _ _ h773
  refine g_aload_n (i := 2) hX dL_law_776 rfl rfl rfl ?_
  refine g_aload_n (i := 0) hX dL_law_777 rfl rfl rfl ?_
  refine g_iload_n (i := 3) hX dL_law_778 rfl rfl rfl ?_
  refine g_iconst hX dL_law_779 ic_1 rfl ?_
  first | refine g_iaddN hX dL_law_780 rfl ?_ | refine g_iadd hX dL_law_780 rfl ?_
  refine g_sld hX hS0 rfl (by omega) hL0 dL_law_781 rfl ?_
  refine g_callVi hX (g1) kf_X8_fault rfl wk_L_113 rfl rfl rfl rfl rfl dL_law_782 rfl (fun x782 M782 h782 => ?_)
  obtain ⟨e9, hI9⟩ := g2 _ _ h782
  refine g_icmp_eq (tgt := 813) hX dL_law_785 (by decide) rfl (fun zc785 => ?_) (fun zc785 => absurd e9.symm zc785)
  exact kk _ hI9
set_option maxHeartbeats 1000000 in
theorem lc_enter {X : gX} {E : gE} {M : gM} {Q : State → Prop} {L i : Nat} {xs : Nat → Int32} (hX : gOk X E code RL 4 8 266) (hS0 : gScr X E L xs) (hL0 : L ≤ 2560) (hi : 5 * i + 5 ≤ L) (hI : Inv M) (kk : ∀ M1 : gM, Inv M1 → gG X E M1 813 (lawL (nI (5 * i))) [] Q) : gG X E M 790 (lawL (nI (5 * i))) [] Q := by
  obtain ⟨P1, h1, h2⟩ := op_enter (E := E) (m := xs (5 * i + 1)) M hI
  refine g_aload_n (i := 1) hX dL_law_790 rfl rfl rfl ?_
  refine g_aload_n (i := 0) hX dL_law_791 rfl rfl rfl ?_
  refine g_iload_n (i := 3) hX dL_law_792 rfl rfl rfl ?_
  refine g_iconst hX dL_law_793 ic_1 rfl ?_
  first | refine g_iaddN hX dL_law_794 rfl ?_ | refine g_iadd hX dL_law_794 rfl ?_
  refine g_sld hX hS0 rfl (by omega) hL0 dL_law_795 rfl ?_
  refine g_callVi hX (h1) kf_X7_enter rfl wk_L_114 rfl rfl rfl rfl rfl dL_law_796 rfl (fun x796 M796 h796 => ?_)
  obtain ⟨P2, g1, g2⟩ := h2 _ _ h796
  refine g_aload_n (i := 2) hX dL_law_799 rfl rfl rfl ?_
  refine g_aload_n (i := 0) hX dL_law_800 rfl rfl rfl ?_
  refine g_iload_n (i := 3) hX dL_law_801 rfl rfl rfl ?_
  refine g_iconst hX dL_law_802 ic_1 rfl ?_
  first | refine g_iaddN hX dL_law_803 rfl ?_ | refine g_iadd hX dL_law_803 rfl ?_
  refine g_sld hX hS0 rfl (by omega) hL0 dL_law_804 rfl ?_
  refine g_callVi hX (g1) kf_X8_enter rfl wk_L_117 rfl rfl rfl rfl rfl dL_law_805 rfl (fun x805 M805 h805 => ?_)
  obtain ⟨e9, hI9⟩ := g2 _ _ h805
  refine g_icmp_eq (tgt := 813) hX dL_law_808 (by decide) rfl (fun zc808 => ?_) (fun zc808 => absurd e9.symm zc808)
  exact kk _ hI9
theorem sw25 (d : Int32) : d = nI 0 ∨ d = nI 1 ∨ d = nI 2 ∨ d = nI 3 ∨ d = nI 4 ∨ d = nI 5 ∨ d = nI 6 ∨ d = nI 7 ∨ d = nI 8 ∨ d = nI 9 ∨ d = nI 10 ∨ d = nI 11 ∨ d = nI 12 ∨ d = nI 13 ∨ d = nI 14 ∨ d = nI 15 ∨ d = nI 16 ∨ d = nI 17 ∨ d = nI 18 ∨ d = nI 19 ∨ d = nI 20 ∨ d = nI 21 ∨ d = nI 22 ∨ d = nI 23 ∨ d = nI 24 ∨ (d.toInt < 0 ∨ 24 < d.toInt) := by
  by_cases h : d.toInt < 0 ∨ 24 < d.toInt
  · right; right; right; right; right; right; right; right; right; right; right; right; right; right; right; right; right; right; right; right; right; right; right; right; right; exact h
  · have h3 : d.toInt = 0 ∨ d.toInt = 1 ∨ d.toInt = 2 ∨ d.toInt = 3 ∨ d.toInt = 4 ∨ d.toInt = 5 ∨ d.toInt = 6 ∨ d.toInt = 7 ∨ d.toInt = 8 ∨ d.toInt = 9 ∨ d.toInt = 10 ∨ d.toInt = 11 ∨ d.toInt = 12 ∨ d.toInt = 13 ∨ d.toInt = 14 ∨ d.toInt = 15 ∨ d.toInt = 16 ∨ d.toInt = 17 ∨ d.toInt = 18 ∨ d.toInt = 19 ∨ d.toInt = 20 ∨ d.toInt = 21 ∨ d.toInt = 22 ∨ d.toInt = 23 ∨ d.toInt = 24 := by omega
    have key : ∀ k : Nat, k < 25 → d.toInt = (k : Int) → d = nI k := fun k hk e => Int32.toInt_inj.mp (e.trans (nI_toInt (by omega)).symm)
    rcases h3 with h3 | h3 | h3 | h3 | h3 | h3 | h3 | h3 | h3 | h3 | h3 | h3 | h3 | h3 | h3 | h3 | h3 | h3 | h3 | h3 | h3 | h3 | h3 | h3 | h3
    · left; exact key 0 (by omega) h3
    · right; left; exact key 1 (by omega) h3
    · right; right; left; exact key 2 (by omega) h3
    · right; right; right; left; exact key 3 (by omega) h3
    · right; right; right; right; left; exact key 4 (by omega) h3
    · right; right; right; right; right; left; exact key 5 (by omega) h3
    · right; right; right; right; right; right; left; exact key 6 (by omega) h3
    · right; right; right; right; right; right; right; left; exact key 7 (by omega) h3
    · right; right; right; right; right; right; right; right; left; exact key 8 (by omega) h3
    · right; right; right; right; right; right; right; right; right; left; exact key 9 (by omega) h3
    · right; right; right; right; right; right; right; right; right; right; left; exact key 10 (by omega) h3
    · right; right; right; right; right; right; right; right; right; right; right; left; exact key 11 (by omega) h3
    · right; right; right; right; right; right; right; right; right; right; right; right; left; exact key 12 (by omega) h3
    · right; right; right; right; right; right; right; right; right; right; right; right; right; left; exact key 13 (by omega) h3
    · right; right; right; right; right; right; right; right; right; right; right; right; right; right; left; exact key 14 (by omega) h3
    · right; right; right; right; right; right; right; right; right; right; right; right; right; right; right; left; exact key 15 (by omega) h3
    · right; right; right; right; right; right; right; right; right; right; right; right; right; right; right; right; left; exact key 16 (by omega) h3
    · right; right; right; right; right; right; right; right; right; right; right; right; right; right; right; right; right; left; exact key 17 (by omega) h3
    · right; right; right; right; right; right; right; right; right; right; right; right; right; right; right; right; right; right; left; exact key 18 (by omega) h3
    · right; right; right; right; right; right; right; right; right; right; right; right; right; right; right; right; right; right; right; left; exact key 19 (by omega) h3
    · right; right; right; right; right; right; right; right; right; right; right; right; right; right; right; right; right; right; right; right; left; exact key 20 (by omega) h3
    · right; right; right; right; right; right; right; right; right; right; right; right; right; right; right; right; right; right; right; right; right; left; exact key 21 (by omega) h3
    · right; right; right; right; right; right; right; right; right; right; right; right; right; right; right; right; right; right; right; right; right; right; left; exact key 22 (by omega) h3
    · right; right; right; right; right; right; right; right; right; right; right; right; right; right; right; right; right; right; right; right; right; right; right; left; exact key 23 (by omega) h3
    · right; right; right; right; right; right; right; right; right; right; right; right; right; right; right; right; right; right; right; right; right; right; right; right; left; exact key 24 (by omega) h3
theorem law_step {X : gX} {E : gE} {M : gM} {Q : State → Prop} {L i : Nat} {xs : Nat → Int32} (hX : gOk X E code RL 4 8 266) (hS0 : gScr X E L xs) (hL0 : L ≤ 2560) (hi : 5 * i ≤ L) (hI : Inv M) (fin : ∀ M1 : gM, gG X E M1 819 (lawL (nI (5 * i))) [] Q) (kk : 5 * i + 5 ≤ L → ∀ M1 : gM, Inv M1 → gG X E M1 18 (lawL (nI (5 * i + 5))) [] Q) : gG X E M 18 (lawL (nI (5 * i))) [] Q := by
  refine g_iload_n (i := 3) hX dL_law_18 rfl rfl rfl ?_
  refine g_aload_n (i := 0) hX dL_law_19 rfl rfl rfl ?_
  refine g_slen hX hS0 dL_law_20 rfl ?_
  refine g_iconst hX dL_law_21 ic_5 rfl ?_
  refine g_isub hX dL_law_22 rfl ?_
  refine g_icmp_gt (tgt := 819) hX dL_law_23 (by decide) rfl (fun zc23 => ?_) (fun zc23 => ?_)
  · skip
    exact fin _
  · skip
    have hi5 : 5 * i + 5 ≤ L := by
      have h1 : (nI L - nI 5).toInt = (L : Int) - 5 := by
        rw [Int32.toInt_sub, nI_toInt (by omega), nI_toInt (by omega)]
        exact Int.bmod_eq_of_le (by omega) (by omega)
      have h2 : ¬ (nI L - nI 5).toInt < (nI (5 * i)).toInt := fun h => zc23 (Int32.lt_iff_toInt_lt.mpr h)
      rw [h1, nI_toInt (by omega)] at h2
      omega
    have k813 : ∀ M1 : gM, Inv M1 → gG X E M1 813 (lawL (nI (5 * i))) [] Q := fun M1 hI1 => by
      refine g_iincN hX dL_law_813 ic_5 rfl (Nat.le_of_ble_eq_true rfl) rfl ?_
      refine g_goto (n := 18) hX dL_law_816 (by decide) ?_
      exact kk hi5 M1 hI1
    refine g_aload_n (i := 0) hX dL_law_26 rfl rfl rfl ?_
    refine g_iload_n (i := 3) hX dL_law_27 rfl rfl rfl ?_
    refine g_sld hX hS0 rfl (by omega) hL0 dL_law_28 rfl ?_
    refine g_bipush hX dL_law_29 bc_31 rfl ?_
    refine g_iand hX dL_law_31 rfl ?_
    skip
    generalize xs (5 * i) &&& nI 31 = d
    rcases sw25 d with rfl | rfl | rfl | rfl | rfl | rfl | rfl | rfl | rfl | rfl | rfl | rfl | rfl | rfl | rfl | rfl | rfl | rfl | rfl | rfl | rfl | rfl | rfl | rfl | rfl | hd
    · refine g_tableIn (n := 148) hX dL_law_32 (by decide) (by decide) rfl (by decide) ?_
      exact lc_addMember hX hS0 hL0 hi5 hI k813
    · refine g_tableIn (n := 171) hX dL_law_32 (by decide) (by decide) rfl (by decide) ?_
      exact lc_addClause hX hS0 hL0 hi5 hI k813
    · refine g_tableIn (n := 204) hX dL_law_32 (by decide) (by decide) rfl (by decide) ?_
      exact lc_set hX hS0 hL0 hi5 hI k813
    · refine g_tableIn (n := 237) hX dL_law_32 (by decide) (by decide) rfl (by decide) ?_
      exact lc_member hX hS0 hL0 hi5 hI k813
    · refine g_tableIn (n := 270) hX dL_law_32 (by decide) (by decide) rfl (by decide) ?_
      exact lc_value hX hS0 hL0 hi5 hI k813
    · refine g_tableIn (n := 293) hX dL_law_32 (by decide) (by decide) rfl (by decide) ?_
      exact lc_valueIn hX hS0 hL0 hi5 hI k813
    · refine g_tableIn (n := 326) hX dL_law_32 (by decide) (by decide) rfl (by decide) ?_
      exact lc_clause hX hS0 hL0 hi5 hI k813
    · refine g_tableIn (n := 349) hX dL_law_32 (by decide) (by decide) rfl (by decide) ?_
      exact lc_count hX hS0 hL0 hi5 hI k813
    · refine g_tableIn (n := 372) hX dL_law_32 (by decide) (by decide) rfl (by decide) ?_
      exact lc_open hX hS0 hL0 hi5 hI k813
    · refine g_tableIn (n := 385) hX dL_law_32 (by decide) (by decide) rfl (by decide) ?_
      exact lc_vote hX hS0 hL0 hi5 hI k813
    · refine g_tableIn (n := 418) hX dL_law_32 (by decide) (by decide) rfl (by decide) ?_
      exact lc_pass hX hS0 hL0 hi5 hI k813
    · refine g_tableIn (n := 441) hX dL_law_32 (by decide) (by decide) rfl (by decide) ?_
      exact lc_tally hX hS0 hL0 hi5 hI k813
    · refine g_tableIn (n := 464) hX dL_law_32 (by decide) (by decide) rfl (by decide) ?_
      exact lc_lacking hX hS0 hL0 hi5 hI k813
    · refine g_tableIn (n := 477) hX dL_law_32 (by decide) (by decide) rfl (by decide) ?_
      exact lc_comment hX hS0 hL0 hi5 hI k813
    · refine g_tableIn (n := 530) hX dL_law_32 (by decide) (by decide) rfl (by decide) ?_
      exact lc_told hX hS0 hL0 hi5 hI k813
    · refine g_tableIn (n := 563) hX dL_law_32 (by decide) (by decide) rfl (by decide) ?_
      exact lc_next hX hS0 hL0 hi5 hI k813
    · refine g_tableIn (n := 576) hX dL_law_32 (by decide) (by decide) rfl (by decide) ?_
      exact lc_resolve hX hS0 hL0 hi5 hI k813
    · refine g_tableIn (n := 609) hX dL_law_32 (by decide) (by decide) rfl (by decide) ?_
      exact lc_appeal hX hS0 hL0 hi5 hI k813
    · refine g_tableIn (n := 652) hX dL_law_32 (by decide) (by decide) rfl (by decide) ?_
      exact lc_changes hX hS0 hL0 hi5 hI k813
    · refine g_tableIn (n := 675) hX dL_law_32 (by decide) (by decide) rfl (by decide) ?_
      exact lc_change hX hS0 hL0 hi5 hI k813
    · refine g_tableIn (n := 718) hX dL_law_32 (by decide) (by decide) rfl (by decide) ?_
      exact lc_undo hX hS0 hL0 hi5 hI k813
    · refine g_tableIn (n := 731) hX dL_law_32 (by decide) (by decide) rfl (by decide) ?_
      exact lc_type hX hS0 hL0 hi5 hI k813
    · refine g_tableIn (n := 754) hX dL_law_32 (by decide) (by decide) rfl (by decide) ?_
      exact lc_clearText hX hS0 hL0 hi5 hI k813
    · refine g_tableIn (n := 767) hX dL_law_32 (by decide) (by decide) rfl (by decide) ?_
      exact lc_fault hX hS0 hL0 hi5 hI k813
    · refine g_tableIn (n := 790) hX dL_law_32 (by decide) (by decide) rfl (by decide) ?_
      exact lc_enter hX hS0 hL0 hi5 hI k813
    · refine g_tableOut (n := 813) hX dL_law_32 hd (by decide) ?_
      exact k813 _ hI
theorem law_loop {X : gX} {E : gE} {Q : State → Prop} {L : Nat} {xs : Nat → Int32} (hX : gOk X E code RL 4 8 266) (hS0 : gScr X E L xs) (hL0 : L ≤ 2560) (fin : ∀ (M1 : gM) (k : Nat), gG X E M1 819 (lawL (nI k)) [] Q) : ∀ n i : Nat, 5 * i ≤ L → L ≤ 5 * i + n → ∀ M : gM, Inv M → gG X E M 18 (lawL (nI (5 * i))) [] Q := by
  intro n
  induction n with
  | zero => exact fun i h1 h2 M hI => law_step hX hS0 hL0 h1 hI (fun M1 => fin M1 _) (fun h => by omega)
  | succ n ih =>
    intro i h1 h2 M hI
    refine law_step hX hS0 hL0 h1 hI (fun M1 => fin M1 _) (fun h M1 hI1 => ?_)
    have h9 := ih (i + 1) (by omega) (by omega) M1 hI1
    rw [show 5 * (i + 1) = 5 * i + 5 from rfl] at h9
    exact h9

