/-! acts -/
theorem shl_ne : ∀ n, n ≤ 10 → ¬ nI 1 <<< (nI n &&& 31) = 0 := by decide +kernel
section
variable {E : gE} {M : gM} {nm nc nk ne nb td ol hs : Nat} {op br : Bool} {mb pl ch : Nat → Nat}
set_option maxHeartbeats 4000000 in
theorem c_L_acts (h : J M nm nc nk ne nb td op br mb pl) (hH : WH M ol hs) (x y : Int32) : gMet E k_L_acts [.ref 0, .int x, .int y] M (gInt fun r M' => Out M M' ol hs r) := by
  refine gMet.of (by decide +kernel) rfl (Nat.le_of_ble_eq_true rfl) (fun X hX hR => ?_)
  have hW := h.ws
  have hm := hW.1.2
  have hk := hW.2.2.1.2
  have hc := hW.2.1.2
  have herr : Out M M ol hs (-1) := Or.inl ⟨by decide, by decide, rfl⟩
  have K32 : ∀ cl : Int32, gG X E M 32 [some (.ref 0), some (.int x), some (.int y), some (.int (nI nm)), none, none] [.int cl] (gQ X E (gInt fun r M' => Out M M' ol hs r)) := by
    intro cl
    obtain ⟨ls, hls⟩ : ∃ ls : gLs, ls = [some (.ref 0), some (.int x), some (.int y), some (.int (nI nm)), some (.int cl), none] := ⟨_, rfl⟩
    have T124 : gG X E M 124 ls [] (gQ X E (gInt fun r M' => Out M M' ol hs r)) := by
      subst hls
      refine g_aload_n (i := 0) hX dL_acts_124 rfl rfl rfl ?_
      refine g_iconst hX dL_acts_125 ic_1 rfl ?_
      refine g_iload_n (i := 2) hX dL_acts_126 rfl rfl rfl ?_
      refine g_bipush hX dL_acts_127 bc_9 rfl ?_
      refine g_irem hX dL_acts_129 (by decide) rfl ?_
      first | refine g_iaddN hX dL_acts_130 rfl ?_ | refine g_iadd hX dL_acts_130 rfl ?_
      refine g_callVi hX (c_X7_addMember E _ hW hH) kf_X7_addMember rfl wk_L_52 rfl rfl rfl rfl rfl dL_acts_131 rfl (fun x131 M131 h131 => ?_)
      skip
      refine g_iret hX hR dL_acts_134 ?_
      exact out_member h h131
    have T135 : gG X E M 135 ls [] (gQ X E (gInt fun r M' => Out M M' ol hs r)) := by
      subst hls
      refine g_aload_n (i := 0) hX dL_acts_135 rfl rfl rfl ?_
      refine g_iconst hX dL_acts_136 ic_1 rfl ?_
      refine g_iload_n (i := 2) hX dL_acts_137 rfl rfl rfl ?_
      refine g_bipush hX dL_acts_138 bc_99 rfl ?_
      refine g_irem hX dL_acts_140 (by decide) rfl ?_
      first | refine g_iaddN hX dL_acts_141 rfl ?_ | refine g_iadd hX dL_acts_141 rfl ?_
      refine g_iload_n (i := 2) hX dL_acts_142 rfl rfl rfl ?_
      refine g_bipush hX dL_acts_143 bc_99 rfl ?_
      refine g_idiv hX dL_acts_145 (by decide) rfl ?_
      refine g_bipush hX dL_acts_146 bc_9 rfl ?_
      refine g_irem hX dL_acts_148 (by decide) rfl ?_
      refine g_callVi hX (c_X7_addClause E _ _ hW hH) kf_X7_addClause rfl wk_L_55 rfl rfl rfl rfl rfl dL_acts_149 rfl (fun x149 M149 h149 => ?_)
      skip
      refine g_iret hX hR dL_acts_152 ?_
      exact out_clause h h149
    have T153 : gG X E M 153 ls [] (gQ X E (gInt fun r M' => Out M M' ol hs r)) := by
      subst hls
      have K217 : ∀ v w : Int32, gG X E M 217 [some (.ref 0), some (.int x), some (.int y), some (.int (nI nm)), some (.int cl), some (.int w)] [.int v, .int w, .ref 0] (gQ X E (gInt fun r M' => Out M M' ol hs r)) := by
        intro v w
        refine g_callVi hX (c_X7_set E _ _ hW hH) kf_X7_set rfl wk_L_58 rfl rfl rfl rfl rfl dL_acts_217 rfl (fun x217 M217 h217 => ?_)
        skip
        refine g_iret hX hR dL_acts_220 ?_
        exact out_set h h217
      refine g_iload_n (i := 2) hX dL_acts_153 rfl rfl rfl ?_
      refine g_iconst hX dL_acts_154 ic_5 rfl ?_
      refine g_irem hX dL_acts_155 (by decide) rfl ?_
      refine g_istore hX dL_acts_156 (Nat.le_of_ble_eq_true rfl) rfl ?_
      refine g_aload_n (i := 0) hX dL_acts_158 rfl rfl rfl ?_
      refine g_iload hX dL_acts_159 rfl rfl ?_
      refine g_iload hX dL_acts_161 rfl rfl ?_
      refine g_iconst hX dL_acts_163 ic_2 rfl ?_
      refine g_icmp_ge (tgt := 178) hX dL_acts_164 (by decide) rfl (fun zc164 => ?_) (fun zc164 => ?_)
      · skip
        refine g_iload hX dL_acts_178 rfl rfl ?_
        refine g_iconst hX dL_acts_180 ic_2 rfl ?_
        refine g_icmp_ne (tgt := 195) hX dL_acts_181 (by decide) rfl (fun zc181 => ?_) (fun zc181 => ?_)
        · skip
          refine g_iload hX dL_acts_195 rfl rfl ?_
          refine g_iconst hX dL_acts_197 ic_3 rfl ?_
          refine g_icmp_ne (tgt := 210) hX dL_acts_198 (by decide) rfl (fun zc198 => ?_) (fun zc198 => ?_)
          · skip
            refine g_iconst hX dL_acts_210 ic_1 rfl ?_
            refine g_iload_n (i := 2) hX dL_acts_211 rfl rfl rfl ?_
            refine g_iconst hX dL_acts_212 ic_5 rfl ?_
            refine g_idiv hX dL_acts_213 (by decide) rfl ?_
            refine g_iconst hX dL_acts_214 ic_5 rfl ?_
            refine g_irem hX dL_acts_215 (by decide) rfl ?_
            first | refine g_iaddN hX dL_acts_216 rfl ?_ | refine g_iadd hX dL_acts_216 rfl ?_
            exact K217 _ _
          · skip
            refine g_iload_n (i := 2) hX dL_acts_201 rfl rfl rfl ?_
            refine g_iconst hX dL_acts_202 ic_5 rfl ?_
            refine g_idiv hX dL_acts_203 (by decide) rfl ?_
            refine g_bipush hX dL_acts_204 bc_40 rfl ?_
            refine g_irem hX dL_acts_206 (by decide) rfl ?_
            refine g_goto (n := 217) hX dL_acts_207 (by decide) ?_
            exact K217 _ _
        · skip
          refine g_iconst hX dL_acts_184 ic_1 rfl ?_
          refine g_iload_n (i := 2) hX dL_acts_185 rfl rfl rfl ?_
          refine g_iconst hX dL_acts_186 ic_5 rfl ?_
          refine g_idiv hX dL_acts_187 (by decide) rfl ?_
          refine g_bipush hX dL_acts_188 bc_12 rfl ?_
          refine g_irem hX dL_acts_190 (by decide) rfl ?_
          first | refine g_iaddN hX dL_acts_191 rfl ?_ | refine g_iadd hX dL_acts_191 rfl ?_
          refine g_goto (n := 217) hX dL_acts_192 (by decide) ?_
          exact K217 _ _
      · skip
        refine g_iconst hX dL_acts_167 ic_1 rfl ?_
        refine g_iload_n (i := 2) hX dL_acts_168 rfl rfl rfl ?_
        refine g_iconst hX dL_acts_169 ic_5 rfl ?_
        refine g_idiv hX dL_acts_170 (by decide) rfl ?_
        refine g_bipush hX dL_acts_171 bc_100 rfl ?_
        refine g_irem hX dL_acts_173 (by decide) rfl ?_
        first | refine g_iaddN hX dL_acts_174 rfl ?_ | refine g_iadd hX dL_acts_174 rfl ?_
        refine g_goto (n := 217) hX dL_acts_175 (by decide) ?_
        exact K217 _ _
    have T221 : gG X E M 221 ls [] (gQ X E (gInt fun r M' => Out M M' ol hs r)) := by
      subst hls
      refine g_aload_n (i := 0) hX dL_acts_221 rfl rfl rfl ?_
      refine g_callVi hX (c_X7_open E hW hH) kf_X7_open rfl wk_L_92 rfl rfl rfl rfl rfl dL_acts_222 rfl (fun x222 M222 h222 => ?_)
      skip
      refine g_iret hX hR dL_acts_225 ?_
      exact out_opened h h222
    have T226 : gG X E M 226 ls [] (gQ X E (gInt fun r M' => Out M M' ol hs r)) := by
      subst hls
      have K257 : ∀ v w : Int32, gG X E M 257 [some (.ref 0), some (.int x), some (.int y), some (.int (nI nm)), some (.int cl), none] [.int v, .int w, .ref 0] (gQ X E (gInt fun r M' => Out M M' ol hs r)) := by
        intro v w
        refine g_callVi hX (c_X7_vote E _ _ hW hH) kf_X7_vote rfl wk_L_64 rfl rfl rfl rfl rfl dL_acts_257 rfl (fun x257 M257 h257 => ?_)
        skip
        refine g_iret hX hR dL_acts_260 ?_
        exact out_vote h h257
      refine g_iload_n (i := 3) hX dL_acts_226 rfl rfl rfl ?_
      refine g_if_ne (tgt := 234) hX dL_acts_227 (by decide) rfl (fun zc227 => ?_) (fun zc227 => ?_)
      · skip
        refine g_aload_n (i := 0) hX dL_acts_234 rfl rfl rfl ?_
        refine g_iload_n (i := 2) hX dL_acts_235 rfl rfl rfl ?_
        refine g_iload_n (i := 3) hX dL_acts_236 rfl rfl rfl ?_
        refine g_irem hX dL_acts_237 (zc227) rfl ?_
        refine g_iload_n (i := 2) hX dL_acts_238 rfl rfl rfl ?_
        refine g_bipush hX dL_acts_239 bc_10 rfl ?_
        refine g_idiv hX dL_acts_241 (by decide) rfl ?_
        refine g_iconst hX dL_acts_242 ic_4 rfl ?_
        refine g_irem hX dL_acts_243 (by decide) rfl ?_
        refine g_if_ne (tgt := 256) hX dL_acts_244 (by decide) rfl (fun zc244 => ?_) (fun zc244 => ?_)
        · skip
          refine g_iconst hX dL_acts_256 ic_0 rfl ?_
          exact K257 _ _
        · skip
          refine g_iload_n (i := 2) hX dL_acts_247 rfl rfl rfl ?_
          refine g_bipush hX dL_acts_248 bc_40 rfl ?_
          refine g_idiv hX dL_acts_250 (by decide) rfl ?_
          refine g_iconst hX dL_acts_251 ic_3 rfl ?_
          refine g_irem hX dL_acts_252 (by decide) rfl ?_
          refine g_goto (n := 257) hX dL_acts_253 (by decide) ?_
          exact K257 _ _
      · skip
        refine g_iconst hX dL_acts_230 ic_m1 rfl ?_
        refine g_goto (n := 260) hX dL_acts_231 (by decide) ?_
        refine g_iret hX hR dL_acts_260 ?_
        exact herr
    have T261 : gG X E M 261 ls [] (gQ X E (gInt fun r M' => Out M M' ol hs r)) := by
      subst hls
      refine g_iload_n (i := 3) hX dL_acts_261 rfl rfl rfl ?_
      refine g_if_ne (tgt := 269) hX dL_acts_262 (by decide) rfl (fun zc262 => ?_) (fun zc262 => ?_)
      · skip
        refine g_aload_n (i := 0) hX dL_acts_269 rfl rfl rfl ?_
        refine g_iload_n (i := 2) hX dL_acts_270 rfl rfl rfl ?_
        refine g_iload_n (i := 3) hX dL_acts_271 rfl rfl rfl ?_
        refine g_irem hX dL_acts_272 (zc262) rfl ?_
        refine g_iload hX dL_acts_273 rfl rfl ?_
        refine g_iload_n (i := 2) hX dL_acts_275 rfl rfl rfl ?_
        refine g_bipush hX dL_acts_276 bc_7 rfl ?_
        refine g_idiv hX dL_acts_278 (by decide) rfl ?_
        refine g_iconst hX dL_acts_279 ic_2 rfl ?_
        refine g_irem hX dL_acts_280 (by decide) rfl ?_
        refine g_iload_n (i := 2) hX dL_acts_281 rfl rfl rfl ?_
        refine g_sipush hX dL_acts_282 sc_400 rfl ?_
        refine g_idiv hX dL_acts_285 (by decide) rfl ?_
        refine g_bipush hX dL_acts_286 bc_12 rfl ?_
        refine g_irem hX dL_acts_288 (by decide) rfl ?_
        refine g_callVi hX (c_X7_comment E _ _ _ _ hW hH) kf_X7_comment rfl wk_L_70 rfl rfl rfl rfl rfl dL_acts_289 rfl (fun x289 M289 h289 => ?_)
        skip
        refine g_iret hX hR dL_acts_292 ?_
        first | exact out_comment h h289 | exact herr
      · skip
        refine g_iconst hX dL_acts_265 ic_m1 rfl ?_
        refine g_goto (n := 292) hX dL_acts_266 (by decide) ?_
        refine g_iret hX hR dL_acts_292 ?_
        first | exact out_comment h h289 | exact herr
    have T293 : gG X E M 293 ls [] (gQ X E (gInt fun r M' => Out M M' ol hs r)) := by
      subst hls
      have K319 : ∀ v : Int32, gG X E M 319 [some (.ref 0), some (.int x), some (.int y), some (.int (nI nm)), some (.int cl), none] [.int v, .ref 0] (gQ X E (gInt fun r M' => Out M M' ol hs r)) := by
        intro v
        refine g_callVi hX (c_X7_pass E _ hW hH) kf_X7_pass rfl wk_L_67 rfl rfl rfl rfl rfl dL_acts_319 rfl (fun x319 M319 h319 => ?_)
        skip
        refine g_iret hX hR dL_acts_322 ?_
        exact out_pass h h319
      refine g_aload_n (i := 0) hX dL_acts_293 rfl rfl rfl ?_
      refine g_iload_n (i := 2) hX dL_acts_294 rfl rfl rfl ?_
      refine g_iconst hX dL_acts_295 ic_3 rfl ?_
      refine g_irem hX dL_acts_296 (by decide) rfl ?_
      refine g_if_ne (tgt := 311) hX dL_acts_297 (by decide) rfl (fun zc297 => ?_) (fun zc297 => ?_)
      · skip
        refine g_iconst hX dL_acts_311 ic_1 rfl ?_
        refine g_iload_n (i := 2) hX dL_acts_312 rfl rfl rfl ?_
        refine g_iconst hX dL_acts_313 ic_3 rfl ?_
        refine g_idiv hX dL_acts_314 (by decide) rfl ?_
        refine g_bipush hX dL_acts_315 bc_6 rfl ?_
        refine g_irem hX dL_acts_317 (by decide) rfl ?_
        first | refine g_iaddN hX dL_acts_318 rfl ?_ | refine g_iadd hX dL_acts_318 rfl ?_
        exact K319 _
      · skip
        refine g_iconst hX dL_acts_300 ic_1 rfl ?_
        refine g_iload_n (i := 2) hX dL_acts_301 rfl rfl rfl ?_
        refine g_iconst hX dL_acts_302 ic_3 rfl ?_
        refine g_idiv hX dL_acts_303 (by decide) rfl ?_
        refine g_bipush hX dL_acts_304 bc_40 rfl ?_
        refine g_irem hX dL_acts_306 (by decide) rfl ?_
        first | refine g_iaddN hX dL_acts_307 rfl ?_ | refine g_iadd hX dL_acts_307 rfl ?_
        refine g_goto (n := 319) hX dL_acts_308 (by decide) ?_
        exact K319 _
    have T323 : gG X E M 323 ls [] (gQ X E (gInt fun r M' => Out M M' ol hs r)) := by
      subst hls
      refine g_iload_n (i := 2) hX dL_acts_323 rfl rfl rfl ?_
      refine g_iconst hX dL_acts_324 ic_4 rfl ?_
      refine g_irem hX dL_acts_325 (by decide) rfl ?_
      refine g_if_ne (tgt := 338) hX dL_acts_326 (by decide) rfl (fun zc326 => ?_) (fun zc326 => ?_)
      · skip
        refine g_iload_n (i := 2) hX dL_acts_338 rfl rfl rfl ?_
        refine g_iconst hX dL_acts_339 ic_4 rfl ?_
        refine g_irem hX dL_acts_340 (by decide) rfl ?_
        refine g_iconst hX dL_acts_341 ic_1 rfl ?_
        refine g_icmp_ne (tgt := 359) hX dL_acts_342 (by decide) rfl (fun zc342 => ?_) (fun zc342 => ?_)
        · skip
          refine g_aload_n (i := 0) hX dL_acts_359 rfl rfl rfl ?_
          refine g_iconst hX dL_acts_360 ic_0 rfl ?_
          refine g_iconst hX dL_acts_361 ic_0 rfl ?_
          refine g_callVi hX (c_X7_resolve E (nI 0) (nI 0) hW hH (fun c q => h.resne q)) kf_X7_resolve rfl wk_L_74 rfl rfl rfl rfl rfl dL_acts_362 rfl (fun x362 M362 h362 => ?_)
          have z := h362
          refine g_iret hX hR dL_acts_365 ?_
          exact out_resolve h z
        · skip
          refine g_aload_n (i := 0) hX dL_acts_345 rfl rfl rfl ?_
          refine g_iconst hX dL_acts_346 ic_1 rfl ?_
          refine g_iload_n (i := 2) hX dL_acts_347 rfl rfl rfl ?_
          refine g_iconst hX dL_acts_348 ic_4 rfl ?_
          refine g_idiv hX dL_acts_349 (by decide) rfl ?_
          refine g_bipush hX dL_acts_350 bc_12 rfl ?_
          refine g_irem hX dL_acts_352 (by decide) rfl ?_
          refine g_callVi hX (c_X7_resolve E _ _ hW hH (fun c q => h.resne q)) kf_X7_resolve rfl wk_L_74 rfl rfl rfl rfl rfl dL_acts_353 rfl (fun x353 M353 h353 => ?_)
          have z := h353
          refine g_goto (n := 365) hX dL_acts_356 (by decide) ?_
          refine g_iret hX hR dL_acts_365 ?_
          exact out_resolve h z
      · skip
        refine g_aload_n (i := 0) hX dL_acts_329 rfl rfl rfl ?_
        refine g_iconst hX dL_acts_330 ic_2 rfl ?_
        refine g_iconst hX dL_acts_331 ic_0 rfl ?_
        refine g_callVi hX (c_X7_resolve E (nI 2) (nI 0) hW hH (fun c q => h.resne q)) kf_X7_resolve rfl wk_L_74 rfl rfl rfl rfl rfl dL_acts_332 rfl (fun x332 M332 h332 => ?_)
        have z := h332
        refine g_goto (n := 365) hX dL_acts_335 (by decide) ?_
        refine g_iret hX hR dL_acts_365 ?_
        exact out_resolve h z
    have T366 : gG X E M 366 ls [] (gQ X E (gInt fun r M' => Out M M' ol hs r)) := by
      subst hls
      refine g_iload_n (i := 3) hX dL_acts_366 rfl rfl rfl ?_
      refine g_if_eq (tgt := 379) hX dL_acts_367 (by decide) rfl (fun zc367 => ?_) (fun zc367 => ?_)
      · skip
        refine g_iconst hX dL_acts_379 ic_m1 rfl ?_
        refine g_goto (n := 419) hX dL_acts_380 (by decide) ?_
        refine g_iret hX hR dL_acts_419 ?_
        first | exact out_appeal h h416 | exact herr
      · skip
        refine g_aload_n (i := 0) hX dL_acts_370 rfl rfl rfl ?_
        refine g_bipush hX dL_acts_371 bc_6 rfl ?_
        refine g_callVi hX (q_cnt hW hH 6 (v := nI nk) rfl rfl) kf_X7_count rfl wk_L_13 rfl rfl rfl rfl rfl dL_acts_373 rfl (fun x373 M373 h373 => ?_)
        obtain ⟨rfl, hMq⟩ := h373; have hMq := hMq.symm; subst hMq
        refine g_if_ne (tgt := 383) hX dL_acts_376 (by decide) rfl (fun zc376 => ?_) (fun zc376 => ?_)
        · skip
          refine g_aload_n (i := 0) hX dL_acts_383 rfl rfl rfl ?_
          refine g_iload_n (i := 2) hX dL_acts_384 rfl rfl rfl ?_
          refine g_aload_n (i := 0) hX dL_acts_385 rfl rfl rfl ?_
          refine g_bipush hX dL_acts_386 bc_6 rfl ?_
          refine g_callVi hX (q_cnt hW hH 6 (v := nI nk) rfl rfl) kf_X7_count rfl wk_L_13 rfl rfl rfl rfl rfl dL_acts_388 rfl (fun x388 M388 h388 => ?_)
          obtain ⟨rfl, hMq⟩ := h388; have hMq := hMq.symm; subst hMq
          refine g_irem hX dL_acts_391 (zc376) rfl ?_
          refine g_iload_n (i := 2) hX dL_acts_392 rfl rfl rfl ?_
          refine g_bipush hX dL_acts_393 bc_30 rfl ?_
          refine g_idiv hX dL_acts_395 (by decide) rfl ?_
          refine g_iload_n (i := 3) hX dL_acts_396 rfl rfl rfl ?_
          refine g_irem hX dL_acts_397 (zc367) rfl ?_
          refine g_iconst hX dL_acts_398 ic_1 rfl ?_
          refine g_iload_n (i := 2) hX dL_acts_399 rfl rfl rfl ?_
          refine g_bipush hX dL_acts_400 bc_30 rfl ?_
          refine g_idiv hX dL_acts_402 (by decide) rfl ?_
          refine g_iload_n (i := 3) hX dL_acts_403 rfl rfl rfl ?_
          refine g_irem hX dL_acts_404 (zc367) rfl ?_
          refine g_ishl hX dL_acts_405 rfl ?_
          refine g_iload_n (i := 2) hX dL_acts_406 rfl rfl rfl ?_
          refine g_sipush hX dL_acts_407 sc_300 rfl ?_
          refine g_idiv hX dL_acts_410 (by decide) rfl ?_
          refine g_iconst hX dL_acts_411 ic_1 rfl ?_
          refine g_iload_n (i := 3) hX dL_acts_412 rfl rfl rfl ?_
          refine g_ishl hX dL_acts_413 rfl ?_
          refine g_irem hX dL_acts_414 (shl_ne nm hm) rfl ?_
          refine g_ior hX dL_acts_415 rfl ?_
          refine g_callVi hX (c_X7_appeal E _ _ _ hW hH) kf_X7_appeal rfl wk_L_77 rfl rfl rfl rfl rfl dL_acts_416 rfl (fun x416 M416 h416 => ?_)
          skip
          refine g_iret hX hR dL_acts_419 ?_
          first | exact out_appeal h h416 | exact herr
        · skip
          refine g_iconst hX dL_acts_379 ic_m1 rfl ?_
          refine g_goto (n := 419) hX dL_acts_380 (by decide) ?_
          refine g_iret hX hR dL_acts_419 ?_
          first | exact out_appeal h h416 | exact herr
    refine g_istore hX dL_acts_32 (Nat.le_of_ble_eq_true rfl) rfl ?_
    refine g_iload_n (i := 1) hX dL_acts_34 rfl rfl rfl ?_
    refine g_bipush hX dL_acts_35 bc_20 rfl ?_
    refine g_callSi hX (c_L_low E M x 20 (by decide) (by decide)) kf_L_low rfl wk_L_95 rfl rfl rfl rfl dL_acts_37 rfl (fun x37 M37 h37 => ?_)
    obtain ⟨⟨j, hj, rfl⟩, hMq⟩ := h37
    have hMq := hMq.symm
    subst hMq
    skip
    have goal : ∀ ls2 : gLs, ls2 = ls → gG X E M 40 ls2 [.int (nI j)] (gQ X E (gInt fun r M' => Out M M' ol hs r)) := by
      intro ls2 e
      subst e
      rcases (show j = 0 ∨ j = 1 ∨ j = 2 ∨ j = 3 ∨ j = 4 ∨ j = 5 ∨ j = 6 ∨ j = 7 ∨ j = 8 ∨ j = 9 ∨ j = 10 ∨ j = 11 ∨ j = 12 ∨ j = 13 ∨ j = 14 ∨ j = 15 ∨ j = 16 ∨ j = 17 ∨ j = 18 ∨ j = 19 by omega) with rfl | rfl | rfl | rfl | rfl | rfl | rfl | rfl | rfl | rfl | rfl | rfl | rfl | rfl | rfl | rfl | rfl | rfl | rfl | rfl
      · exact g_tableIn (n := 124) hX dL_acts_40 (by decide) (by decide) rfl (by decide) T124
      · exact g_tableIn (n := 135) hX dL_acts_40 (by decide) (by decide) rfl (by decide) T135
      · exact g_tableIn (n := 153) hX dL_acts_40 (by decide) (by decide) rfl (by decide) T153
      · exact g_tableIn (n := 221) hX dL_acts_40 (by decide) (by decide) rfl (by decide) T221
      · exact g_tableIn (n := 221) hX dL_acts_40 (by decide) (by decide) rfl (by decide) T221
      · exact g_tableIn (n := 226) hX dL_acts_40 (by decide) (by decide) rfl (by decide) T226
      · exact g_tableIn (n := 226) hX dL_acts_40 (by decide) (by decide) rfl (by decide) T226
      · exact g_tableIn (n := 226) hX dL_acts_40 (by decide) (by decide) rfl (by decide) T226
      · exact g_tableIn (n := 226) hX dL_acts_40 (by decide) (by decide) rfl (by decide) T226
      · exact g_tableIn (n := 261) hX dL_acts_40 (by decide) (by decide) rfl (by decide) T261
      · exact g_tableIn (n := 261) hX dL_acts_40 (by decide) (by decide) rfl (by decide) T261
      · exact g_tableIn (n := 261) hX dL_acts_40 (by decide) (by decide) rfl (by decide) T261
      · exact g_tableIn (n := 293) hX dL_acts_40 (by decide) (by decide) rfl (by decide) T293
      · exact g_tableIn (n := 293) hX dL_acts_40 (by decide) (by decide) rfl (by decide) T293
      · exact g_tableIn (n := 323) hX dL_acts_40 (by decide) (by decide) rfl (by decide) T323
      · exact g_tableIn (n := 323) hX dL_acts_40 (by decide) (by decide) rfl (by decide) T323
      · exact g_tableIn (n := 323) hX dL_acts_40 (by decide) (by decide) rfl (by decide) T323
      · exact g_tableOut (n := 366) hX dL_acts_40 (by decide) (by decide) T366
      · exact g_tableOut (n := 366) hX dL_acts_40 (by decide) (by decide) T366
      · exact g_tableOut (n := 366) hX dL_acts_40 (by decide) (by decide) T366
    exact goal _ hls.symm
  refine g_aload_n (i := 0) hX dL_acts_0 rfl rfl rfl ?_
  refine g_iconst hX dL_acts_1 ic_0 rfl ?_
  refine g_callVi hX (q_cnt hW hH 0 (v := nI nm) rfl rfl) kf_X7_count rfl wk_L_13 rfl rfl rfl rfl rfl dL_acts_2 rfl (fun x2 M2 h2 => ?_)
  obtain ⟨rfl, hMq⟩ := h2; have hMq := hMq.symm; subst hMq
  refine g_istore_n (i := 3) hX dL_acts_5 rfl (Nat.le_of_ble_eq_true rfl) rfl ?_
  refine g_aload_n (i := 0) hX dL_acts_6 rfl rfl rfl ?_
  refine g_iconst hX dL_acts_7 ic_1 rfl ?_
  refine g_callVi hX (q_cnt hW hH 1 (v := nI nc) rfl rfl) kf_X7_count rfl wk_L_13 rfl rfl rfl rfl rfl dL_acts_8 rfl (fun x8 M8 h8 => ?_)
  obtain ⟨rfl, hMq⟩ := h8; have hMq := hMq.symm; subst hMq
  refine g_if_ne (tgt := 18) hX dL_acts_11 (by decide) rfl (fun zc11 => ?_) (fun zc11 => ?_)
  · skip
    refine g_aload_n (i := 0) hX dL_acts_18 rfl rfl rfl ?_
    refine g_iload_n (i := 2) hX dL_acts_19 rfl rfl rfl ?_
    refine g_bipush hX dL_acts_20 bc_16 rfl ?_
    refine g_idiv hX dL_acts_22 (by decide) rfl ?_
    refine g_aload_n (i := 0) hX dL_acts_23 rfl rfl rfl ?_
    refine g_iconst hX dL_acts_24 ic_1 rfl ?_
    refine g_callVi hX (q_cnt hW hH 1 (v := nI nc) rfl rfl) kf_X7_count rfl wk_L_13 rfl rfl rfl rfl rfl dL_acts_25 rfl (fun x25 M25 h25 => ?_)
    obtain ⟨rfl, hMq⟩ := h25; have hMq := hMq.symm; subst hMq
    refine g_irem hX dL_acts_28 (zc11) rfl ?_
    refine g_callVi hX (c_X7_clause E _ hW) kf_X7_clause rfl wk_L_26 rfl rfl rfl rfl rfl dL_acts_29 rfl (fun x29 M29 h29 => ?_)
    obtain ⟨rfl, hMq⟩ := h29; have hMq := hMq.symm; subst hMq
    exact K32 _
  · skip
    refine g_iconst hX dL_acts_14 ic_5 rfl ?_
    refine g_goto (n := 32) hX dL_acts_15 (by decide) ?_
    exact K32 _
end

