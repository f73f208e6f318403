/-! the reference: appeal -/
theorem shr_int (s : Int32) : ∀ n, n ≤ 10 → (s >>> (nI n &&& 31)).toInt = s.toInt / 2 ^ n := by
  intro n hn
  have h1 : ∀ n, n ≤ 10 → ((nI n &&& 31).toBitVec.smod 32#32) = BitVec.ofNat 32 n := by decide
  show (s.toBitVec.sshiftRight' ((nI n &&& 31).toBitVec.smod 32#32)).toInt = _
  rw [h1 n hn]
  show (s.toBitVec.sshiftRight (BitVec.ofNat 32 n).toNat).toInt = _
  rw [BitVec.toInt_sshiftRight, Int.shiftRight_eq_div_pow, BitVec.toNat_ofNat, Nat.mod_eq_of_lt (by omega)]
  show s.toInt / ((2 ^ n : Nat) : Int) = _
  rw [Int.natCast_pow]; rfl
theorem shr_in {j n : Nat} (hj : j < 2 ^ 31) (hn : n ≤ 10) : nI j >>> (nI n &&& 31) = 0 ↔ j < 2 ^ n := by
  have h := shr_int (nI j) n hn
  have e : (nI j).toInt = (j : Int) := nI_toInt hj
  rw [e] at h
  have hd : ((j : Int) / 2 ^ n) = ((j / 2 ^ n : Nat) : Int) := by
    rw [Int.natCast_ediv, Int.natCast_pow]; rfl
  rw [hd] at h
  constructor
  · intro q
    rw [q] at h
    have : (j / 2 ^ n : Nat) = 0 := by
      have h0 : (0 : Int32).toInt = 0 := rfl
      omega
    rcases Nat.div_eq_zero_iff.mp this with q | q
    · exact absurd q (Nat.ne_of_gt (Nat.two_pow_pos n))
    · exact q
  · intro q
    rw [Nat.div_eq_of_lt q] at h
    exact Int32.toInt_inj.mp h
theorem shr_ok {s : Int32} {n : Nat} (hn : n ≤ 10) (h0 : ¬ s < 0) : s >>> (nI n &&& 31) = 0 ↔ inR s (2 ^ n) = true := by
  obtain ⟨j, hj, rfl⟩ := nI_of h0
  have hp : (2 : Nat) ^ n ≤ 2 ^ 10 := Nat.pow_le_pow_right (by decide) hn
  rw [shr_in hj hn, inR_nI hj (by omega), decide_eq_true_iff]
def y_appeal (M : gM) (nm nk sv : Nat) (op br : Bool) (pl : Nat → Nat) (c m s : Int32) : Int32 × gM := if inR c nk = true ∧ inR m nm = true ∧ inR s (2 ^ nm) = true ∧ (s >>> (m &&& 31)) &&& 1 = 1 then (if op = true ∨ vSt (M 131) c.toNatClampNeg < 2 ∨ ¬ M 131 3 ≤ vDy (M 131) c.toNatClampNeg + M 131 15 then (-2, M) else if 2 * actIn (vW (M 131)) (vMi (M 131)) (vSe (M 131)) s nm ≤ actW (vW (M 131)) (vMi (M 131)) (vSe (M 131)) nm then (0, m_rec M sv) else (1, gset (m_rec M sv) 131 (rpN (M 131) c.toNatClampNeg (pl c.toNatClampNeg) nk br))) else (-1, M)
theorem c_X8_appeal (E : gE) (M : gM) (nm nc nk sv : Nat) (op br : Bool) (pl : Nat → Nat) (c m s : Int32) (hm : M 131 0 = nI nm) (hmb : nm ≤ 10) (hc : M 131 1 = nI nc) (hcb : nc ≤ 20) (hk : M 131 9 = nI nk) (hkb : nk ≤ 30) (hop : M 131 4 = gB op) (hbr : M 131 11 = gB br) (hs : M 130 2 = nI sv) (hb : sv ≤ 4)
    (hp : ∀ k, k < nk → pl k < nc ∧ fndTo nc (fun q => decide (vNb (M 131) q = vCc (M 131) k)) = some (pl k)) : gMet E k_X8_appeal [.ref 130, .int c, .int m, .int s] M (gInt fun r M' => (r, M') = y_appeal M nm nk sv op br pl c m s) := by
  refine gMet.of (by decide +kernel) rfl (Nat.le_of_ble_eq_true rfl) (fun X hX hR => ?_)
  have K : m_rec M sv 131 = M 131 := rec_ne (by decide)
  cases h1 : inR c nk with
  | false =>
    have e : y_appeal M nm nk sv op br pl c m s = (-1, M) := by rw [y_appeal, if_neg (fun q => Bool.noConfusion (q.1.symm.trans h1))]
    rw [e]
    refine g_aload_n (i := 0) hX dX8_appeal_0 rfl rfl rfl ?_
    refine g_iload_n (i := 1) hX dX8_appeal_1 rfl rfl rfl ?_
    refine g_callVi hX (c_X8_isComment E M c nk hk hkb) kf_X8_isComment rfl wk_X8_91 rfl rfl rfl rfl rfl dX8_appeal_2 rfl (fun x2 M2 h2 => ?_)
    obtain ⟨rfl, hMq⟩ := h2; have hMq := hMq.symm; subst hMq
    first | refine g_if_eqB (tgt := 44) hX dX8_appeal_5 (by decide) rfl (fun zc5 => ?_) (fun zc5 => Bool.noConfusion (h1.symm.trans zc5)) | refine g_if_eq (tgt := 44) hX dX8_appeal_5 (by decide) rfl (fun zc5 => ?_) (fun zc5 => Bool.noConfusion (h1.symm.trans zc5))
    refine g_iconst hX dX8_appeal_44 ic_0 rfl ?_
    refine g_istore hX dX8_appeal_45 (Nat.le_of_ble_eq_true rfl) rfl ?_
    refine g_iload hX dX8_appeal_47 rfl rfl ?_
    refine g_if_ne (tgt := 54) hX dX8_appeal_49 (by decide) rfl (fun zc49 => absurd rfl zc49) (fun zc49 => ?_)
    refine g_iconst hX dX8_appeal_52 ic_m1 rfl ?_
    refine g_iret hX hR dX8_appeal_53 ?_
    rfl
  | true =>
    obtain ⟨j, hj, rfl⟩ := inR_t (by omega) h1
    have hcl := cl_nI (show j < 2 ^ 31 by omega)
    obtain ⟨hpb, hpf⟩ := hp j hj
    cases h2 : inR m nm with
    | false =>
      have e : y_appeal M nm nk sv op br pl (nI j) m s = (-1, M) := by rw [y_appeal, if_neg (fun q => Bool.noConfusion (q.2.1.symm.trans h2))]
      rw [e]
      refine g_aload_n (i := 0) hX dX8_appeal_0 rfl rfl rfl ?_
      refine g_iload_n (i := 1) hX dX8_appeal_1 rfl rfl rfl ?_
      refine g_callVi hX (c_X8_isComment E M _ nk hk hkb) kf_X8_isComment rfl wk_X8_91 rfl rfl rfl rfl rfl dX8_appeal_2 rfl (fun x2 M2 h2 => ?_)
      obtain ⟨rfl, hMq⟩ := h2; have hMq := hMq.symm; subst hMq
      first | refine g_if_eqB (tgt := 44) hX dX8_appeal_5 (by decide) rfl (fun zc5 => Bool.noConfusion (h1.symm.trans zc5)) (fun zc5 => ?_) | refine g_if_eq (tgt := 44) hX dX8_appeal_5 (by decide) rfl (fun zc5 => Bool.noConfusion (h1.symm.trans zc5)) (fun zc5 => ?_)
      refine g_aload_n (i := 0) hX dX8_appeal_8 rfl rfl rfl ?_
      refine g_iload_n (i := 2) hX dX8_appeal_9 rfl rfl rfl ?_
      refine g_callVi hX (c_X8_isMember E M m nm hm hmb) kf_X8_isMember rfl wk_X8_51 rfl rfl rfl rfl rfl dX8_appeal_10 rfl (fun x10 M10 h10 => ?_)
      obtain ⟨rfl, hMq⟩ := h10; have hMq := hMq.symm; subst hMq
      first | refine g_if_eqB (tgt := 44) hX dX8_appeal_13 (by decide) rfl (fun zc13 => ?_) (fun zc13 => Bool.noConfusion (h2.symm.trans zc13)) | refine g_if_eq (tgt := 44) hX dX8_appeal_13 (by decide) rfl (fun zc13 => ?_) (fun zc13 => Bool.noConfusion (h2.symm.trans zc13))
      refine g_iconst hX dX8_appeal_44 ic_0 rfl ?_
      refine g_istore hX dX8_appeal_45 (Nat.le_of_ble_eq_true rfl) rfl ?_
      refine g_iload hX dX8_appeal_47 rfl rfl ?_
      refine g_if_ne (tgt := 54) hX dX8_appeal_49 (by decide) rfl (fun zc49 => absurd rfl zc49) (fun zc49 => ?_)
      refine g_iconst hX dX8_appeal_52 ic_m1 rfl ?_
      refine g_iret hX hR dX8_appeal_53 ?_
      rfl
    | true =>
      have bad : ¬ (¬ s < 0 ∧ inR s (2 ^ nm) = true ∧ (s >>> (m &&& 31)) &&& 1 = 1) → (-1, M) = y_appeal M nm nk sv op br pl (nI j) m s := by
        intro hb
        rw [y_appeal, if_neg]
        intro q
        refine hb ⟨fun hq => ?_, q.2.2.1, q.2.2.2⟩
        rw [inR_neg hq] at q; exact Bool.noConfusion q.2.2.1
      have go112 : ∀ c4 c5 c6 c7, ¬ s < 0 → inR s (2 ^ nm) = true → (s >>> (m &&& 31)) &&& 1 = 1 → ¬ (op = true ∨ vSt (M 131) j < 2 ∨ ¬ M 131 3 ≤ vDy (M 131) j + M 131 15) → gG X E M 112 [some (.ref 130), some (.int (nI j)), some (.int m), some (.int s), c4, c5, c6, c7] [] (gQ X E (gInt fun r M' => (r, M') = y_appeal M nm nk sv op br pl (nI j) m s)) := by
        intro c4 c5 c6 c7 g0 g1 g2 g3
        rw [y_appeal, if_pos ⟨h1, h2, g1, g2⟩, hcl, if_neg g3]
        have loop := up_loop nm (fun k => gG X E (m_rec M sv) 122 [some (.ref 130), some (.int (nI j)), some (.int m), some (.int s), c4, c5, some (.int (actIn (vW (M 131)) (vMi (M 131)) (vSe (M 131)) s k)), some (.int (nI k))] [] (gQ X E (gInt fun r M' => (r, M') = if 2 * actIn (vW (M 131)) (vMi (M 131)) (vSe (M 131)) s nm ≤ actW (vW (M 131)) (vMi (M 131)) (vSe (M 131)) nm then (0, m_rec M sv) else (1, gset (m_rec M sv) 131 (rpN (M 131) j (pl j) nk br))))) ?_ ?_
        · skip
          refine g_aload_n (i := 0) hX dX8_appeal_112 rfl rfl rfl ?_
          refine g_callVv hX (c_X8_records E M sv hs hb) kf_X8_records rfl wk_X8_31 rfl rfl rfl rfl rfl dX8_appeal_113 rfl (fun M113 h113 => ?_)
          subst h113
          refine g_iconst hX dX8_appeal_116 ic_0 rfl ?_
          refine g_istore hX dX8_appeal_117 (Nat.le_of_ble_eq_true rfl) rfl ?_
          refine g_iconst hX dX8_appeal_119 ic_0 rfl ?_
          refine g_istore hX dX8_appeal_120 (Nat.le_of_ble_eq_true rfl) rfl ?_
          exact loop 0 (Nat.zero_le _)
        · skip
          refine g_iload hX dX8_appeal_122 rfl rfl ?_
          refine g_aload_n (i := 0) hX dX8_appeal_124 rfl rfl rfl ?_
          refine g_getR hX fl_X8_7 rfl rfl dX8_appeal_125 rfl ?_
          refine g_iconst hX dX8_appeal_128 ic_0 rfl ?_
          refine g_ialdv (x := nI nm) hX rfl (rfl) (by omega) rfl ((congrFun K 0).trans hm) dX8_appeal_129 rfl ?_
          first | refine g_icmp_geN (tgt := 179) hX dX8_appeal_130 (by decide) rfl (by omega) (by omega) (fun zc130 => ?_) (fun zc130 => absurd zc130 (by omega)) | refine g_icmp_ge (tgt := 179) hX dX8_appeal_130 (by decide) rfl (fun zc130 => ?_) (fun zc130 => absurd zc130 (by omega))
          refine g_iconst hX dX8_appeal_179 ic_2 rfl ?_
          refine g_iload hX dX8_appeal_180 rfl rfl ?_
          refine g_imul hX dX8_appeal_182 rfl ?_
          refine g_aload_n (i := 0) hX dX8_appeal_183 rfl rfl rfl ?_
          refine g_callVi hX (c_X8_activeWeight E _ nm ((congrFun K 0).trans hm) hmb) kf_X8_activeWeight rfl wk_X8_67 rfl rfl rfl rfl rfl dX8_appeal_184 rfl (fun x184 M184 h184 => ?_)
          obtain ⟨rfl, hMq⟩ := h184; have hMq := hMq.symm; subst hMq
          simp only [K]
          refine g_icmp_gt (tgt := 192) hX dX8_appeal_187 (by decide) rfl (fun zc187 => ?_) (fun zc187 => ?_)
          · skip
            have zd187 : ¬ 2 * actIn (vW (M 131)) (vMi (M 131)) (vSe (M 131)) s nm ≤ actW (vW (M 131)) (vMi (M 131)) (vSe (M 131)) nm := fun q => absurd zc187 (Int32.not_lt.mpr q)
            refine g_aload_n (i := 0) hX dX8_appeal_192 rfl rfl rfl ?_
            refine g_iload_n (i := 1) hX dX8_appeal_193 rfl rfl rfl ?_
            refine g_callVv hX (c_X8_reopens E _ nc nk j (pl j) br ((congrFun K 1).trans hc) hcb ((congrFun K 9).trans hk) hkb hj hpb (by rw [K]; exact hpf) ((congrFun K 11).trans hbr)) kf_X8_reopens rfl wk_X8_110 rfl rfl rfl rfl rfl dX8_appeal_194 rfl (fun M194 h194 => ?_)
            subst h194
            refine g_iconst hX dX8_appeal_197 ic_1 rfl ?_
            refine g_iret hX hR dX8_appeal_198 ?_
            rw [if_neg zd187]; simp only [K]; rfl
          · skip
            refine g_iconst hX dX8_appeal_190 ic_0 rfl ?_
            refine g_iret hX hR dX8_appeal_191 ?_
            rw [if_pos (show 2 * actIn (vW (M 131)) (vMi (M 131)) (vSe (M 131)) s nm ≤ _ from Int32.not_lt.mp zc187)]; rfl
        · intro k hk' ih
          have n0 : nI 0 = 0 := rfl
          simp only [actIn, sumTo] at ih
          refine g_iload hX dX8_appeal_122 rfl rfl ?_
          refine g_aload_n (i := 0) hX dX8_appeal_124 rfl rfl rfl ?_
          refine g_getR hX fl_X8_7 rfl rfl dX8_appeal_125 rfl ?_
          refine g_iconst hX dX8_appeal_128 ic_0 rfl ?_
          refine g_ialdv (x := nI nm) hX rfl (rfl) (by omega) rfl ((congrFun K 0).trans hm) dX8_appeal_129 rfl ?_
          first | refine g_icmp_geN (tgt := 179) hX dX8_appeal_130 (by decide) rfl (by omega) (by omega) (fun zc130 => absurd zc130 (by omega)) (fun zc130 => ?_) | refine g_icmp_ge (tgt := 179) hX dX8_appeal_130 (by decide) rfl (fun zc130 => absurd zc130 (by omega)) (fun zc130 => ?_)
          refine g_iload hX dX8_appeal_133 rfl rfl ?_
          refine g_iload_n (i := 3) hX dX8_appeal_135 rfl rfl rfl ?_
          refine g_iload hX dX8_appeal_136 rfl rfl ?_
          refine g_ishr hX dX8_appeal_138 rfl ?_
          refine g_iconst hX dX8_appeal_139 ic_1 rfl ?_
          refine g_iand hX dX8_appeal_140 rfl ?_
          refine g_iconst hX dX8_appeal_141 ic_1 rfl ?_
          refine g_icmp_ne (tgt := 169) hX dX8_appeal_142 (by decide) rfl (fun zc142 => ?_) (fun zc142 => ?_)
          · skip
            have zs : setB s k = false := decide_eq_false zc142
            have zl := True.intro
            refine g_iconst hX dX8_appeal_169 ic_0 rfl ?_
            refine g_iadd hX dX8_appeal_170 rfl ?_
            refine g_istore hX dX8_appeal_171 (Nat.le_of_ble_eq_true rfl) rfl ?_
            first | refine g_iincN hX dX8_appeal_173 ic_1 rfl (Nat.le_of_ble_eq_true rfl) rfl ?_ | refine g_iinc hX dX8_appeal_173 ic_1 rfl rfl (Nat.le_of_ble_eq_true rfl) rfl ?_
            refine g_goto (n := 122) hX dX8_appeal_176 (by decide) ?_
            first
            | exact (by simpa [actIn, zs, n0] using ih)
            | exact (by simpa [actIn, zs, zl, n0] using ih)
          · skip
            have zs : setB s k = true := decide_eq_true zc142
            refine g_aload_n (i := 0) hX dX8_appeal_145 rfl rfl rfl ?_
            refine g_iload hX dX8_appeal_146 rfl rfl ?_
            refine g_callVi hX (c_X8_isLapsed E _ k (by omega)) kf_X8_isLapsed rfl wk_X8_54 rfl rfl rfl rfl rfl dX8_appeal_148 rfl (fun x148 M148 h148 => ?_)
            obtain ⟨rfl, hMq⟩ := h148; have hMq := hMq.symm; subst hMq
            simp only [K]
            first | refine g_if_neB (tgt := 169) hX dX8_appeal_151 (by decide) rfl (fun zc151 => ?_) (fun zc151 => ?_) | refine g_if_ne (tgt := 169) hX dX8_appeal_151 (by decide) rfl (fun zc151 => ?_) (fun zc151 => ?_)
            · skip
              have zl : lapB (vMi (M 131)) (vSe (M 131)) k = true := zc151
              refine g_iconst hX dX8_appeal_169 ic_0 rfl ?_
              refine g_iadd hX dX8_appeal_170 rfl ?_
              refine g_istore hX dX8_appeal_171 (Nat.le_of_ble_eq_true rfl) rfl ?_
              first | refine g_iincN hX dX8_appeal_173 ic_1 rfl (Nat.le_of_ble_eq_true rfl) rfl ?_ | refine g_iinc hX dX8_appeal_173 ic_1 rfl rfl (Nat.le_of_ble_eq_true rfl) rfl ?_
              refine g_goto (n := 122) hX dX8_appeal_176 (by decide) ?_
              first
              | exact (by simpa [actIn, zs, n0] using ih)
              | exact (by simpa [actIn, zs, zl, n0] using ih)
            · skip
              have zl : lapB (vMi (M 131)) (vSe (M 131)) k = false := zc151
              refine g_aload_n (i := 0) hX dX8_appeal_154 rfl rfl rfl ?_
              refine g_getR hX fl_X8_7 rfl rfl dX8_appeal_155 rfl ?_
              refine g_iload hX dX8_appeal_158 rfl rfl ?_
              refine g_callSi hX (c_X8_memberAt E _ k) kf_X8_memberAt rfl wk_X8_27 rfl rfl rfl rfl dX8_appeal_160 rfl (fun x160 M160 h160 => ?_)
              obtain ⟨rfl, hMq⟩ := h160; have hMq := hMq.symm; subst hMq
              refine g_iconst hX dX8_appeal_163 ic_0 rfl ?_
              first | refine g_iaddN hX dX8_appeal_164 rfl ?_ | refine g_iadd hX dX8_appeal_164 rfl ?_
              refine g_ialdv (x := vW (M 131) k) hX rfl (rfl) (by omega) rfl (congrFun K _) dX8_appeal_165 rfl ?_
              refine g_goto (n := 170) hX dX8_appeal_166 (by decide) ?_
              refine g_iadd hX dX8_appeal_170 rfl ?_
              refine g_istore hX dX8_appeal_171 (Nat.le_of_ble_eq_true rfl) rfl ?_
              first | refine g_iincN hX dX8_appeal_173 ic_1 rfl (Nat.le_of_ble_eq_true rfl) rfl ?_ | refine g_iinc hX dX8_appeal_173 ic_1 rfl rfl (Nat.le_of_ble_eq_true rfl) rfl ?_
              refine g_goto (n := 122) hX dX8_appeal_176 (by decide) ?_
              first
              | exact (by simpa [actIn, zs, n0] using ih)
              | exact (by simpa [actIn, zs, zl, n0] using ih)
      have go54 : ∀ c4 c5 c6 c7, ¬ s < 0 → inR s (2 ^ nm) = true → (s >>> (m &&& 31)) &&& 1 = 1 → gG X E M 54 [some (.ref 130), some (.int (nI j)), some (.int m), some (.int s), c4, c5, c6, c7] [] (gQ X E (gInt fun r M' => (r, M') = y_appeal M nm nk sv op br pl (nI j) m s)) := by
        intro c4 c5 c6 c7 g0 g1 g2
        have ey : y_appeal M nm nk sv op br pl (nI j) m s = if op = true ∨ vSt (M 131) j < 2 ∨ ¬ M 131 3 ≤ vDy (M 131) j + M 131 15 then (-2, M) else if 2 * actIn (vW (M 131)) (vMi (M 131)) (vSe (M 131)) s nm ≤ actW (vW (M 131)) (vMi (M 131)) (vSe (M 131)) nm then (0, m_rec M sv) else (1, gset (m_rec M sv) 131 (rpN (M 131) j (pl j) nk br)) := by rw [y_appeal, if_pos ⟨h1, h2, g1, g2⟩, hcl]
        refine g_iload_n (i := 1) hX dX8_appeal_54 rfl rfl rfl ?_
        refine g_callSi hX (c_X8_commentAt E M j) kf_X8_commentAt rfl wk_X8_48 rfl rfl rfl rfl dX8_appeal_55 rfl (fun x55 M55 h55 => ?_)
        obtain ⟨rfl, hMq⟩ := h55; have hMq := hMq.symm; subst hMq
        refine g_istore hX dX8_appeal_58 (Nat.le_of_ble_eq_true rfl) rfl ?_
        refine g_aload_n (i := 0) hX dX8_appeal_60 rfl rfl rfl ?_
        refine g_getR hX fl_X8_7 rfl rfl dX8_appeal_61 rfl ?_
        refine g_iconst hX dX8_appeal_64 ic_4 rfl ?_
        refine g_ialdv (x := gB op) hX rfl (rfl) (by omega) rfl (hop) dX8_appeal_65 rfl ?_
        refine g_iconst hX dX8_appeal_66 ic_1 rfl ?_
        refine g_icmp_eq (tgt := 109) hX dX8_appeal_67 (by decide) rfl (fun zc67 => ?_) (fun zc67 => ?_)
        · skip
          have zf : op = true ∨ vSt (M 131) j < 2 ∨ ¬ M 131 3 ≤ vDy (M 131) j + M 131 15 := by
            cases h : op with
            | true => exact Or.inl rfl
            | false => rw [h] at zc67; exact absurd zc67 (by decide)
          refine g_bipush hX dX8_appeal_109 bc_m2 rfl ?_
          refine g_iret hX hR dX8_appeal_111 ?_
          rw [ey, if_pos zf]
        · skip
          have zo : ¬ op = true := by
            intro h; rw [h] at zc67; exact zc67 rfl
          refine g_aload_n (i := 0) hX dX8_appeal_70 rfl rfl rfl ?_
          refine g_getR hX fl_X8_7 rfl rfl dX8_appeal_71 rfl ?_
          refine g_iload hX dX8_appeal_74 rfl rfl ?_
          refine g_iconst hX dX8_appeal_76 ic_4 rfl ?_
          first | refine g_iaddN hX dX8_appeal_77 rfl ?_ | refine g_iadd hX dX8_appeal_77 rfl ?_
          refine g_ialdv (x := vSt (M 131) j) hX rfl (rfl) (by omega) rfl (rfl) dX8_appeal_78 rfl ?_
          refine g_iconst hX dX8_appeal_79 ic_2 rfl ?_
          refine g_icmp_lt (tgt := 109) hX dX8_appeal_80 (by decide) rfl (fun zc80 => ?_) (fun zc80 => ?_)
          · skip
            have zf : op = true ∨ vSt (M 131) j < 2 ∨ ¬ M 131 3 ≤ vDy (M 131) j + M 131 15 := Or.inr (Or.inl zc80)
            refine g_bipush hX dX8_appeal_109 bc_m2 rfl ?_
            refine g_iret hX hR dX8_appeal_111 ?_
            rw [ey, if_pos zf]
          · skip
            refine g_aload_n (i := 0) hX dX8_appeal_83 rfl rfl rfl ?_
            refine g_getR hX fl_X8_7 rfl rfl dX8_appeal_84 rfl ?_
            refine g_iconst hX dX8_appeal_87 ic_3 rfl ?_
            refine g_iald hX rfl (rfl) (by omega) rfl dX8_appeal_88 rfl ?_
            refine g_aload_n (i := 0) hX dX8_appeal_89 rfl rfl rfl ?_
            refine g_getR hX fl_X8_7 rfl rfl dX8_appeal_90 rfl ?_
            refine g_iload hX dX8_appeal_93 rfl rfl ?_
            refine g_iconst hX dX8_appeal_95 ic_5 rfl ?_
            first | refine g_iaddN hX dX8_appeal_96 rfl ?_ | refine g_iadd hX dX8_appeal_96 rfl ?_
            refine g_ialdv (x := vDy (M 131) j) hX rfl (rfl) (by omega) rfl (rfl) dX8_appeal_97 rfl ?_
            refine g_aload_n (i := 0) hX dX8_appeal_98 rfl rfl rfl ?_
            refine g_getR hX fl_X8_7 rfl rfl dX8_appeal_99 rfl ?_
            refine g_bipush hX dX8_appeal_102 bc_15 rfl ?_
            refine g_iald hX rfl (rfl) (by omega) rfl dX8_appeal_104 rfl ?_
            refine g_iadd hX dX8_appeal_105 rfl ?_
            refine g_icmp_le (tgt := 112) hX dX8_appeal_106 (by decide) rfl (fun zc106 => ?_) (fun zc106 => ?_)
            · skip
              exact go112 _ _ _ _ g0 g1 g2 (fun q => q.elim zo (fun q => q.elim zc80 (fun q => q zc106)))
            · skip
              have zf : op = true ∨ vSt (M 131) j < 2 ∨ ¬ M 131 3 ≤ vDy (M 131) j + M 131 15 := Or.inr (Or.inr zc106)
              refine g_bipush hX dX8_appeal_109 bc_m2 rfl ?_
              refine g_iret hX hR dX8_appeal_111 ?_
              rw [ey, if_pos zf]
      refine g_aload_n (i := 0) hX dX8_appeal_0 rfl rfl rfl ?_
      refine g_iload_n (i := 1) hX dX8_appeal_1 rfl rfl rfl ?_
      refine g_callVi hX (c_X8_isComment E M _ nk hk hkb) kf_X8_isComment rfl wk_X8_91 rfl rfl rfl rfl rfl dX8_appeal_2 rfl (fun x2 M2 h2 => ?_)
      obtain ⟨rfl, hMq⟩ := h2; have hMq := hMq.symm; subst hMq
      first | refine g_if_eqB (tgt := 44) hX dX8_appeal_5 (by decide) rfl (fun zc5 => Bool.noConfusion (h1.symm.trans zc5)) (fun zc5 => ?_) | refine g_if_eq (tgt := 44) hX dX8_appeal_5 (by decide) rfl (fun zc5 => Bool.noConfusion (h1.symm.trans zc5)) (fun zc5 => ?_)
      refine g_aload_n (i := 0) hX dX8_appeal_8 rfl rfl rfl ?_
      refine g_iload_n (i := 2) hX dX8_appeal_9 rfl rfl rfl ?_
      refine g_callVi hX (c_X8_isMember E M m nm hm hmb) kf_X8_isMember rfl wk_X8_51 rfl rfl rfl rfl rfl dX8_appeal_10 rfl (fun x10 M10 h10 => ?_)
      obtain ⟨rfl, hMq⟩ := h10; have hMq := hMq.symm; subst hMq
      first | refine g_if_eqB (tgt := 44) hX dX8_appeal_13 (by decide) rfl (fun zc13 => Bool.noConfusion (h2.symm.trans zc13)) (fun zc13 => ?_) | refine g_if_eq (tgt := 44) hX dX8_appeal_13 (by decide) rfl (fun zc13 => Bool.noConfusion (h2.symm.trans zc13)) (fun zc13 => ?_)
      refine g_iload_n (i := 3) hX dX8_appeal_16 rfl rfl rfl ?_
      refine g_if_lt (tgt := 44) hX dX8_appeal_17 (by decide) rfl (fun zc17 => ?_) (fun zc17 => ?_)
      · skip
        refine g_iconst hX dX8_appeal_44 ic_0 rfl ?_
        refine g_istore hX dX8_appeal_45 (Nat.le_of_ble_eq_true rfl) rfl ?_
        refine g_iload hX dX8_appeal_47 rfl rfl ?_
        refine g_if_ne (tgt := 54) hX dX8_appeal_49 (by decide) rfl (fun zc49 => ?_) (fun zc49 => ?_)
        · skip
          first
          | exact go54 _ _ _ _ zc17 ((shr_ok hmb zc17).mp zc28) zc37
          | exact absurd rfl zc49
        · skip
          refine g_iconst hX dX8_appeal_52 ic_m1 rfl ?_
          refine g_iret hX hR dX8_appeal_53 ?_
          skip
          first
            | exact absurd zc49 (by decide)
            | exact bad (fun q => q.1 zc17)
            | exact bad (fun q => zc28 ((shr_ok hmb q.1).mpr q.2.1))
            | exact bad (fun q => zc37 q.2.2)
      · skip
        refine g_iload_n (i := 3) hX dX8_appeal_20 rfl rfl rfl ?_
        refine g_aload_n (i := 0) hX dX8_appeal_21 rfl rfl rfl ?_
        refine g_getR hX fl_X8_7 rfl rfl dX8_appeal_22 rfl ?_
        refine g_iconst hX dX8_appeal_25 ic_0 rfl ?_
        refine g_ialdv (x := nI nm) hX rfl (rfl) (by omega) rfl (hm) dX8_appeal_26 rfl ?_
        refine g_ishr hX dX8_appeal_27 rfl ?_
        refine g_if_ne (tgt := 44) hX dX8_appeal_28 (by decide) rfl (fun zc28 => ?_) (fun zc28 => ?_)
        · skip
          refine g_iconst hX dX8_appeal_44 ic_0 rfl ?_
          refine g_istore hX dX8_appeal_45 (Nat.le_of_ble_eq_true rfl) rfl ?_
          refine g_iload hX dX8_appeal_47 rfl rfl ?_
          refine g_if_ne (tgt := 54) hX dX8_appeal_49 (by decide) rfl (fun zc49 => ?_) (fun zc49 => ?_)
          · skip
            first
            | exact go54 _ _ _ _ zc17 ((shr_ok hmb zc17).mp zc28) zc37
            | exact absurd rfl zc49
          · skip
            refine g_iconst hX dX8_appeal_52 ic_m1 rfl ?_
            refine g_iret hX hR dX8_appeal_53 ?_
            skip
            first
              | exact absurd zc49 (by decide)
              | exact bad (fun q => q.1 zc17)
              | exact bad (fun q => zc28 ((shr_ok hmb q.1).mpr q.2.1))
              | exact bad (fun q => zc37 q.2.2)
        · skip
          refine g_iload_n (i := 3) hX dX8_appeal_31 rfl rfl rfl ?_
          refine g_iload_n (i := 2) hX dX8_appeal_32 rfl rfl rfl ?_
          refine g_ishr hX dX8_appeal_33 rfl ?_
          refine g_iconst hX dX8_appeal_34 ic_1 rfl ?_
          refine g_iand hX dX8_appeal_35 rfl ?_
          refine g_iconst hX dX8_appeal_36 ic_1 rfl ?_
          refine g_icmp_ne (tgt := 44) hX dX8_appeal_37 (by decide) rfl (fun zc37 => ?_) (fun zc37 => ?_)
          · skip
            refine g_iconst hX dX8_appeal_44 ic_0 rfl ?_
            refine g_istore hX dX8_appeal_45 (Nat.le_of_ble_eq_true rfl) rfl ?_
            refine g_iload hX dX8_appeal_47 rfl rfl ?_
            refine g_if_ne (tgt := 54) hX dX8_appeal_49 (by decide) rfl (fun zc49 => ?_) (fun zc49 => ?_)
            · skip
              first
              | exact go54 _ _ _ _ zc17 ((shr_ok hmb zc17).mp zc28) zc37
              | exact absurd rfl zc49
            · skip
              refine g_iconst hX dX8_appeal_52 ic_m1 rfl ?_
              refine g_iret hX hR dX8_appeal_53 ?_
              skip
              first
                | exact absurd zc49 (by decide)
                | exact bad (fun q => q.1 zc17)
                | exact bad (fun q => zc28 ((shr_ok hmb q.1).mpr q.2.1))
                | exact bad (fun q => zc37 q.2.2)
          · skip
            refine g_iconst hX dX8_appeal_40 ic_1 rfl ?_
            refine g_goto (n := 45) hX dX8_appeal_41 (by decide) ?_
            refine g_istore hX dX8_appeal_45 (Nat.le_of_ble_eq_true rfl) rfl ?_
            refine g_iload hX dX8_appeal_47 rfl rfl ?_
            refine g_if_ne (tgt := 54) hX dX8_appeal_49 (by decide) rfl (fun zc49 => ?_) (fun zc49 => ?_)
            · skip
              first
              | exact go54 _ _ _ _ zc17 ((shr_ok hmb zc17).mp zc28) zc37
              | exact absurd rfl zc49
            · skip
              refine g_iconst hX dX8_appeal_52 ic_m1 rfl ?_
              refine g_iret hX hR dX8_appeal_53 ?_
              skip
              first
                | exact absurd zc49 (by decide)
                | exact bad (fun q => q.1 zc17)
                | exact bad (fun q => zc28 ((shr_ok hmb q.1).mpr q.2.1))
                | exact bad (fun q => zc37 q.2.2)

