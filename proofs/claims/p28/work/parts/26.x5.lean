/-! CommitteeBallots$State: the present state (cell 1) -/
def lapB (mi se : Nat → Int32) (m : Nat) : Bool := decide (¬ mi m < se 4)
theorem c_X5_isLapsed (E : gE) (M : gM) (k : Nat) (hk : k < 10) : gMet E k_X5_isLapsed [.ref 1, .int (nI k)] M (gInt fun r M' => r = gB (lapB (M 4) (M 25) k) ∧ M' = M) := by
  refine gMet.of (by decide +kernel) rfl (Nat.le_of_ble_eq_true rfl) (fun X hX hR => ?_)
  refine g_aload_n (i := 0) hX dX5_isLapsed_0 rfl rfl rfl ?_
  refine g_getR hX fl_X5_12 rfl rfl dX5_isLapsed_1 rfl ?_
  refine g_getR hX fl_X5_72 rfl rfl dX5_isLapsed_4 rfl ?_
  refine g_iload_n (i := 1) hX dX5_isLapsed_7 rfl rfl rfl ?_
  refine g_iald hX rfl (rfl) (by omega) rfl dX5_isLapsed_8 rfl ?_
  refine g_aload_n (i := 0) hX dX5_isLapsed_9 rfl rfl rfl ?_
  refine g_getR hX fl_X5_48 rfl rfl dX5_isLapsed_10 rfl ?_
  refine g_iconst hX dX5_isLapsed_13 ic_4 rfl ?_
  refine g_iald hX rfl (rfl) (by omega) rfl dX5_isLapsed_14 rfl ?_
  refine g_icmp_lt (tgt := 22) hX dX5_isLapsed_15 (by decide) rfl (fun zc15 => ?_) (fun zc15 => ?_)
  · skip
    refine g_iconst hX dX5_isLapsed_22 ic_0 rfl ?_
    refine g_zret hX hR (by first | exact Or.inl rfl | exact Or.inr rfl | exact gB_01 _) dX5_isLapsed_23 ?_
    refine ⟨?_, rfl⟩; first | exact gB_1 (decide_eq_true zc15) | exact gB_n (decide_eq_false (fun q => q zc15))
  · skip
    refine g_iconst hX dX5_isLapsed_18 ic_1 rfl ?_
    refine g_goto (n := 23) hX dX5_isLapsed_19 (by decide) ?_
    refine g_zret hX hR (by first | exact Or.inl rfl | exact Or.inr rfl | exact gB_01 _) dX5_isLapsed_23 ?_
    refine ⟨?_, rfl⟩; first | exact gB_1 (decide_eq_true zc15) | exact gB_n (decide_eq_false (fun q => q zc15))
def setB (s : Int32) (m : Nat) : Bool := decide ((s >>> (nI m &&& 31)) &&& 1 = 1)
def actIn (w mi se : Nat → Int32) (s : Int32) (n : Nat) : Int32 := sumTo n (fun m => if setB s m && !lapB mi se m then w m else 0)
theorem c_X5_activeWeightIn (E : gE) (M : gM) (n : Nat) (s : Int32) (hn : M 2 4 = nI n) (hb : n ≤ 10) : gMet E k_X5_activeWeightIn [.ref 1, .int s] M (gInt fun r M' => r = actIn (M 3) (M 4) (M 25) s n ∧ M' = M) := by
  refine gMet.of (by decide +kernel) rfl (Nat.le_of_ble_eq_true rfl) (fun X hX hR => ?_)
  have loop := up_loop n (fun k => gG X E M 4 [some (.ref 1), some (.int s), some (.int (actIn (M 3) (M 4) (M 25) s k)), some (.int (nI k))] [] (gQ X E (gInt fun r M' => r = actIn (M 3) (M 4) (M 25) s n ∧ M' = M))) ?_ ?_
  · skip
    refine g_iconst hX dX5_activeWeightIn_0 ic_0 rfl ?_
    refine g_istore_n (i := 2) hX dX5_activeWeightIn_1 rfl (Nat.le_of_ble_eq_true rfl) rfl ?_
    refine g_iconst hX dX5_activeWeightIn_2 ic_0 rfl ?_
    refine g_istore_n (i := 3) hX dX5_activeWeightIn_3 rfl (Nat.le_of_ble_eq_true rfl) rfl ?_
    exact loop 0 (Nat.zero_le _)
  · skip
    refine g_iload_n (i := 3) hX dX5_activeWeightIn_4 rfl rfl rfl ?_
    refine g_aload_n (i := 0) hX dX5_activeWeightIn_5 rfl rfl rfl ?_
    refine g_getR hX fl_X5_12 rfl rfl dX5_activeWeightIn_6 rfl ?_
    refine g_getIv hX fl_X5_75 rfl rfl (hn) dX5_activeWeightIn_9 rfl ?_
    first | refine g_icmp_geN (tgt := 50) hX dX5_activeWeightIn_12 (by decide) rfl (by omega) (by omega) (fun zc12 => ?_) (fun zc12 => absurd zc12 (by omega)) | refine g_icmp_ge (tgt := 50) hX dX5_activeWeightIn_12 (by decide) rfl (fun zc12 => ?_) (fun zc12 => absurd zc12 (by omega))
    refine g_iload_n (i := 2) hX dX5_activeWeightIn_50 rfl rfl rfl ?_
    refine g_iret hX hR dX5_activeWeightIn_51 ?_
    exact ⟨rfl, rfl⟩
  · intro k hk ih
    simp only [actIn, sumTo] at ih
    refine g_iload_n (i := 3) hX dX5_activeWeightIn_4 rfl rfl rfl ?_
    refine g_aload_n (i := 0) hX dX5_activeWeightIn_5 rfl rfl rfl ?_
    refine g_getR hX fl_X5_12 rfl rfl dX5_activeWeightIn_6 rfl ?_
    refine g_getIv hX fl_X5_75 rfl rfl (hn) dX5_activeWeightIn_9 rfl ?_
    first | refine g_icmp_geN (tgt := 50) hX dX5_activeWeightIn_12 (by decide) rfl (by omega) (by omega) (fun zc12 => absurd zc12 (by omega)) (fun zc12 => ?_) | refine g_icmp_ge (tgt := 50) hX dX5_activeWeightIn_12 (by decide) rfl (fun zc12 => absurd zc12 (by omega)) (fun zc12 => ?_)
    refine g_iload_n (i := 1) hX dX5_activeWeightIn_15 rfl rfl rfl ?_
    refine g_iload_n (i := 3) hX dX5_activeWeightIn_16 rfl rfl rfl ?_
    refine g_ishr hX dX5_activeWeightIn_17 rfl ?_
    refine g_iconst hX dX5_activeWeightIn_18 ic_1 rfl ?_
    refine g_iand hX dX5_activeWeightIn_19 rfl ?_
    refine g_iconst hX dX5_activeWeightIn_20 ic_1 rfl ?_
    refine g_icmp_ne (tgt := 44) hX dX5_activeWeightIn_21 (by decide) rfl (fun zc21 => ?_) (fun zc21 => ?_)
    · skip
      have c : setB s k = false := decide_eq_false zc21
      first | refine g_iincN hX dX5_activeWeightIn_44 ic_1 rfl (Nat.le_of_ble_eq_true rfl) rfl ?_ | refine g_iinc hX dX5_activeWeightIn_44 ic_1 rfl rfl (Nat.le_of_ble_eq_true rfl) rfl ?_
      refine g_goto (n := 4) hX dX5_activeWeightIn_47 (by decide) ?_
      first | exact (by simpa [actIn, c] using ih) | exact (by simpa [actIn, c, zc29] using ih)
    · skip
      have c : setB s k = true := decide_eq_true zc21
      refine g_aload_n (i := 0) hX dX5_activeWeightIn_24 rfl rfl rfl ?_
      refine g_iload_n (i := 3) hX dX5_activeWeightIn_25 rfl rfl rfl ?_
      refine g_callVi hX (c_X5_isLapsed E M k (by omega)) kf_X5_isLapsed rfl wk_X5_82 rfl rfl rfl rfl rfl dX5_activeWeightIn_26 rfl (fun x26 M26 h26 => ?_)
      obtain ⟨rfl, hm⟩ := h26; have hm := hm.symm; subst hm
      first | refine g_if_neB (tgt := 44) hX dX5_activeWeightIn_29 (by decide) rfl (fun zc29 => ?_) (fun zc29 => ?_) | refine g_if_ne (tgt := 44) hX dX5_activeWeightIn_29 (by decide) rfl (fun zc29 => ?_) (fun zc29 => ?_)
      · skip
        first | refine g_iincN hX dX5_activeWeightIn_44 ic_1 rfl (Nat.le_of_ble_eq_true rfl) rfl ?_ | refine g_iinc hX dX5_activeWeightIn_44 ic_1 rfl rfl (Nat.le_of_ble_eq_true rfl) rfl ?_
        refine g_goto (n := 4) hX dX5_activeWeightIn_47 (by decide) ?_
        first | exact (by simpa [actIn, c] using ih) | exact (by simpa [actIn, c, zc29] using ih)
      · skip
        refine g_iload_n (i := 2) hX dX5_activeWeightIn_32 rfl rfl rfl ?_
        refine g_aload_n (i := 0) hX dX5_activeWeightIn_33 rfl rfl rfl ?_
        refine g_getR hX fl_X5_12 rfl rfl dX5_activeWeightIn_34 rfl ?_
        refine g_getR hX fl_X5_86 rfl rfl dX5_activeWeightIn_37 rfl ?_
        refine g_iload_n (i := 3) hX dX5_activeWeightIn_40 rfl rfl rfl ?_
        refine g_iald hX rfl (rfl) (by omega) rfl dX5_activeWeightIn_41 rfl ?_
        first | refine g_iaddN hX dX5_activeWeightIn_42 rfl ?_ | refine g_iadd hX dX5_activeWeightIn_42 rfl ?_
        refine g_istore_n (i := 2) hX dX5_activeWeightIn_43 rfl (Nat.le_of_ble_eq_true rfl) rfl ?_
        first | refine g_iincN hX dX5_activeWeightIn_44 ic_1 rfl (Nat.le_of_ble_eq_true rfl) rfl ?_ | refine g_iinc hX dX5_activeWeightIn_44 ic_1 rfl rfl (Nat.le_of_ble_eq_true rfl) rfl ?_
        refine g_goto (n := 4) hX dX5_activeWeightIn_47 (by decide) ?_
        first | exact (by simpa [actIn, c] using ih) | exact (by simpa [actIn, c, zc29] using ih)
def actW (w mi se : Nat → Int32) (n : Nat) : Int32 := sumTo n (fun m => if lapB mi se m then 0 else w m)
theorem setB_all : ∀ n, n ≤ 10 → ∀ m, m < n → setB (nI 1 <<< (nI n &&& 31) - nI 1) m = true := by decide +kernel
theorem actIn_all {w mi se : Nat → Int32} {n : Nat} (h : n ≤ 10) : actIn w mi se (nI 1 <<< (nI n &&& 31) - nI 1) n = actW w mi se n := by
  refine sumTo_congr (fun m hm => ?_)
  rw [setB_all n h m hm]
  cases lapB mi se m <;> rfl
theorem c_X5_activeWeight (E : gE) (M : gM) (n : Nat) (hn : M 2 4 = nI n) (hb : n ≤ 10) : gMet E k_X5_activeWeight [.ref 1] M (gInt fun r M' => r = actW (M 3) (M 4) (M 25) n ∧ M' = M) := by
  refine gMet.of (by decide +kernel) rfl (Nat.le_of_ble_eq_true rfl) (fun X hX hR => ?_)
  refine g_aload_n (i := 0) hX dX5_activeWeight_0 rfl rfl rfl ?_
  refine g_iconst hX dX5_activeWeight_1 ic_1 rfl ?_
  refine g_aload_n (i := 0) hX dX5_activeWeight_2 rfl rfl rfl ?_
  refine g_getR hX fl_X5_12 rfl rfl dX5_activeWeight_3 rfl ?_
  refine g_getIv hX fl_X5_75 rfl rfl (hn) dX5_activeWeight_6 rfl ?_
  refine g_ishl hX dX5_activeWeight_9 rfl ?_
  refine g_iconst hX dX5_activeWeight_10 ic_1 rfl ?_
  refine g_isub hX dX5_activeWeight_11 rfl ?_
  refine g_callVi hX (c_X5_activeWeightIn E M n _ hn hb) kf_X5_activeWeightIn rfl wk_X5_78 rfl rfl rfl rfl rfl dX5_activeWeight_12 rfl (fun x12 M12 h12 => ?_)
  obtain ⟨rfl, hm⟩ := h12; have hm := hm.symm; subst hm
  refine g_iret hX hR dX5_activeWeight_15 ?_
  exact ⟨actIn_all hb, rfl⟩
def techB (mb kd : Nat → Int32) (nk : Nat) (m : Nat) : Bool := anyTo nk (fun k => decide (mb k = nI m) && decide (kd k = 1))
/-- the sum that the vote of a member counts to -/
def sforN (gi mb kd : Nat → Int32) (nk m : Nat) : Nat := if gi m = 0 then 2 else if (decide (gi m = 1) && techB mb kd nk m) = true then 3 else 4
theorem c_X5_sumFor (E : gE) (M : gM) (nk m : Nat) (hk : M 16 8 = nI nk) (hb : nk ≤ 30) (hm : m < 10) : gMet E k_X5_sumFor [.ref 1, .int (nI m)] M (gInt fun r M' => r = nI (sforN (M 5) (M 17) (M 19) nk m) ∧ M' = M) := by
  refine gMet.of (by decide +kernel) rfl (Nat.le_of_ble_eq_true rfl) (fun X hX hR => ?_)
  refine g_aload_n (i := 0) hX dX5_sumFor_0 rfl rfl rfl ?_
  refine g_getR hX fl_X5_12 rfl rfl dX5_sumFor_1 rfl ?_
  refine g_getR hX fl_X5_106 rfl rfl dX5_sumFor_4 rfl ?_
  refine g_iload_n (i := 1) hX dX5_sumFor_7 rfl rfl rfl ?_
  refine g_iald hX rfl (rfl) (by omega) rfl dX5_sumFor_8 rfl ?_
  refine g_istore_n (i := 2) hX dX5_sumFor_9 rfl (Nat.le_of_ble_eq_true rfl) rfl ?_
  refine g_iload_n (i := 2) hX dX5_sumFor_10 rfl rfl rfl ?_
  first | refine g_if_neB (tgt := 16) hX dX5_sumFor_11 (by decide) rfl (fun zc11 => ?_) (fun zc11 => ?_) | refine g_if_ne (tgt := 16) hX dX5_sumFor_11 (by decide) rfl (fun zc11 => ?_) (fun zc11 => ?_)
  · skip
    refine g_iload_n (i := 2) hX dX5_sumFor_16 rfl rfl rfl ?_
    refine g_iconst hX dX5_sumFor_17 ic_1 rfl ?_
    refine g_icmp_ne (tgt := 36) hX dX5_sumFor_18 (by decide) rfl (fun zc18 => ?_) (fun zc18 => ?_)
    · skip
      have c : ¬ M 5 m = 1 := zc18
      refine g_iconst hX dX5_sumFor_36 ic_4 rfl ?_
      refine g_iret hX hR dX5_sumFor_37 ?_
      refine ⟨?_, rfl⟩; first | (simp [sforN, zc11, c]; done) | (simp [sforN, zc11, c, c']; done)
    · skip
      have c : M 5 m = 1 := zc18
      refine g_aload_n (i := 0) hX dX5_sumFor_21 rfl rfl rfl ?_
      refine g_getR hX fl_X5_35 rfl rfl dX5_sumFor_22 rfl ?_
      refine g_iload_n (i := 1) hX dX5_sumFor_25 rfl rfl rfl ?_
      refine g_callVi hX (c_X1_hasTechnicalOf E M nk _ hk hb) kf_X1_hasTechnicalOf rfl wk_X5_134 rfl rfl rfl rfl rfl dX5_sumFor_26 rfl (fun x26 M26 h26 => ?_)
      obtain ⟨rfl, hm⟩ := h26; have hm := hm.symm; subst hm
      first | refine g_if_eqB (tgt := 36) hX dX5_sumFor_29 (by decide) rfl (fun zc29 => ?_) (fun zc29 => ?_) | refine g_if_eq (tgt := 36) hX dX5_sumFor_29 (by decide) rfl (fun zc29 => ?_) (fun zc29 => ?_)
      · skip
        have c' : techB (M 17) (M 19) nk m = false := zc29
        refine g_iconst hX dX5_sumFor_36 ic_4 rfl ?_
        refine g_iret hX hR dX5_sumFor_37 ?_
        refine ⟨?_, rfl⟩; first | (simp [sforN, zc11, c]; done) | (simp [sforN, zc11, c, c']; done)
      · skip
        have c' : techB (M 17) (M 19) nk m = true := zc29
        refine g_iconst hX dX5_sumFor_32 ic_3 rfl ?_
        refine g_goto (n := 37) hX dX5_sumFor_33 (by decide) ?_
        refine g_iret hX hR dX5_sumFor_37 ?_
        refine ⟨?_, rfl⟩; first | (simp [sforN, zc11, c]; done) | (simp [sforN, zc11, c, c']; done)
  · skip
    refine g_iconst hX dX5_sumFor_14 ic_2 rfl ?_
    refine g_iret hX hR dX5_sumFor_15 ?_
    exact ⟨by simp [sforN, zc11], rfl⟩
def carB (su se : Nat → Int32) : Bool := decide (0 < su 0) && decide (0 < su 2 + su 3) && decide (¬ su 1 * 100 < se 0 * su 0) && decide (¬ su 2 * 100 < se 1 * (su 2 + su 3))
theorem c_X5_isCarriedBy (E : gE) (M : gM) : gMet E k_X5_isCarriedBy [.ref 1, .ref 15] M (gInt fun r M' => r = gB (carB (M 15) (M 25)) ∧ M' = M) := by
  refine gMet.of (by decide +kernel) rfl (Nat.le_of_ble_eq_true rfl) (fun X hX hR => ?_)
  have e100 : nI 100 = 100 := rfl
  refine g_aload_n (i := 1) hX dX5_isCarriedBy_0 rfl rfl rfl ?_
  refine g_iconst hX dX5_isCarriedBy_1 ic_2 rfl ?_
  refine g_iald hX rfl (rfl) (by omega) rfl dX5_isCarriedBy_2 rfl ?_
  refine g_aload_n (i := 1) hX dX5_isCarriedBy_3 rfl rfl rfl ?_
  refine g_iconst hX dX5_isCarriedBy_4 ic_3 rfl ?_
  refine g_iald hX rfl (rfl) (by omega) rfl dX5_isCarriedBy_5 rfl ?_
  first | refine g_iaddN hX dX5_isCarriedBy_6 rfl ?_ | refine g_iadd hX dX5_isCarriedBy_6 rfl ?_
  refine g_istore_n (i := 2) hX dX5_isCarriedBy_7 rfl (Nat.le_of_ble_eq_true rfl) rfl ?_
  refine g_aload_n (i := 1) hX dX5_isCarriedBy_8 rfl rfl rfl ?_
  refine g_iconst hX dX5_isCarriedBy_9 ic_0 rfl ?_
  refine g_iald hX rfl (rfl) (by omega) rfl dX5_isCarriedBy_10 rfl ?_
  refine g_if_le (tgt := 58) hX dX5_isCarriedBy_11 (by decide) rfl (fun zc11 => ?_) (fun zc11 => ?_)
  · skip
    have zd11 : ¬ (0 : Int32) < M 15 0 := Int32.not_lt.mpr zc11
    refine g_iconst hX dX5_isCarriedBy_58 ic_0 rfl ?_
    refine g_zret hX hR (by first | exact Or.inl rfl | exact Or.inr rfl | exact gB_01 _) dX5_isCarriedBy_59 ?_
    refine ⟨?_, rfl⟩; first | (refine gB_1 ?_; simp only [carB, zd11, zd15, zd34, zd51]; decide) | (refine gB_n ?_; simp only [carB, zd11]; simp; done) | (refine gB_n ?_; simp only [carB, zd15]; simp; done) | (refine gB_n ?_; simp only [carB, zd34]; simp; done) | (refine gB_n ?_; simp only [carB, zd51]; simp; done)
  · skip
    have zd11 : (0 : Int32) < M 15 0 := Int32.not_le.mp zc11
    refine g_iload_n (i := 2) hX dX5_isCarriedBy_14 rfl rfl rfl ?_
    refine g_if_le (tgt := 58) hX dX5_isCarriedBy_15 (by decide) rfl (fun zc15 => ?_) (fun zc15 => ?_)
    · skip
      have zd15 : ¬ (0 : Int32) < M 15 2 + M 15 3 := Int32.not_lt.mpr zc15
      refine g_iconst hX dX5_isCarriedBy_58 ic_0 rfl ?_
      refine g_zret hX hR (by first | exact Or.inl rfl | exact Or.inr rfl | exact gB_01 _) dX5_isCarriedBy_59 ?_
      refine ⟨?_, rfl⟩; first | (refine gB_1 ?_; simp only [carB, zd11, zd15, zd34, zd51]; decide) | (refine gB_n ?_; simp only [carB, zd11]; simp; done) | (refine gB_n ?_; simp only [carB, zd15]; simp; done) | (refine gB_n ?_; simp only [carB, zd34]; simp; done) | (refine gB_n ?_; simp only [carB, zd51]; simp; done)
    · skip
      have zd15 : (0 : Int32) < M 15 2 + M 15 3 := Int32.not_le.mp zc15
      refine g_aload_n (i := 1) hX dX5_isCarriedBy_18 rfl rfl rfl ?_
      refine g_iconst hX dX5_isCarriedBy_19 ic_1 rfl ?_
      refine g_iald hX rfl (rfl) (by omega) rfl dX5_isCarriedBy_20 rfl ?_
      refine g_bipush hX dX5_isCarriedBy_21 bc_100 rfl ?_
      first | refine g_imulN hX dX5_isCarriedBy_23 rfl ?_ | refine g_imul hX dX5_isCarriedBy_23 rfl ?_
      refine g_aload_n (i := 0) hX dX5_isCarriedBy_24 rfl rfl rfl ?_
      refine g_getR hX fl_X5_48 rfl rfl dX5_isCarriedBy_25 rfl ?_
      refine g_iconst hX dX5_isCarriedBy_28 ic_0 rfl ?_
      refine g_iald hX rfl (rfl) (by omega) rfl dX5_isCarriedBy_29 rfl ?_
      refine g_aload_n (i := 1) hX dX5_isCarriedBy_30 rfl rfl rfl ?_
      refine g_iconst hX dX5_isCarriedBy_31 ic_0 rfl ?_
      refine g_iald hX rfl (rfl) (by omega) rfl dX5_isCarriedBy_32 rfl ?_
      first | refine g_imulN hX dX5_isCarriedBy_33 rfl ?_ | refine g_imul hX dX5_isCarriedBy_33 rfl ?_
      refine g_icmp_lt (tgt := 58) hX dX5_isCarriedBy_34 (by decide) rfl (fun zc34 => ?_) (fun zc34 => ?_)
      · skip
        have zd34 : M 15 1 * 100 < M 25 0 * M 15 0 := zc34
        refine g_iconst hX dX5_isCarriedBy_58 ic_0 rfl ?_
        refine g_zret hX hR (by first | exact Or.inl rfl | exact Or.inr rfl | exact gB_01 _) dX5_isCarriedBy_59 ?_
        refine ⟨?_, rfl⟩; first | (refine gB_1 ?_; simp only [carB, zd11, zd15, zd34, zd51]; decide) | (refine gB_n ?_; simp only [carB, zd11]; simp; done) | (refine gB_n ?_; simp only [carB, zd15]; simp; done) | (refine gB_n ?_; simp only [carB, zd34]; simp; done) | (refine gB_n ?_; simp only [carB, zd51]; simp; done)
      · skip
        have zd34 : ¬ M 15 1 * 100 < M 25 0 * M 15 0 := zc34
        refine g_aload_n (i := 1) hX dX5_isCarriedBy_37 rfl rfl rfl ?_
        refine g_iconst hX dX5_isCarriedBy_38 ic_2 rfl ?_
        refine g_iald hX rfl (rfl) (by omega) rfl dX5_isCarriedBy_39 rfl ?_
        refine g_bipush hX dX5_isCarriedBy_40 bc_100 rfl ?_
        first | refine g_imulN hX dX5_isCarriedBy_42 rfl ?_ | refine g_imul hX dX5_isCarriedBy_42 rfl ?_
        refine g_aload_n (i := 0) hX dX5_isCarriedBy_43 rfl rfl rfl ?_
        refine g_getR hX fl_X5_48 rfl rfl dX5_isCarriedBy_44 rfl ?_
        refine g_iconst hX dX5_isCarriedBy_47 ic_1 rfl ?_
        refine g_iald hX rfl (rfl) (by omega) rfl dX5_isCarriedBy_48 rfl ?_
        refine g_iload_n (i := 2) hX dX5_isCarriedBy_49 rfl rfl rfl ?_
        first | refine g_imulN hX dX5_isCarriedBy_50 rfl ?_ | refine g_imul hX dX5_isCarriedBy_50 rfl ?_
        refine g_icmp_lt (tgt := 58) hX dX5_isCarriedBy_51 (by decide) rfl (fun zc51 => ?_) (fun zc51 => ?_)
        · skip
          have zd51 : M 15 2 * 100 < M 25 1 * (M 15 2 + M 15 3) := zc51
          refine g_iconst hX dX5_isCarriedBy_58 ic_0 rfl ?_
          refine g_zret hX hR (by first | exact Or.inl rfl | exact Or.inr rfl | exact gB_01 _) dX5_isCarriedBy_59 ?_
          refine ⟨?_, rfl⟩; first | (refine gB_1 ?_; simp only [carB, zd11, zd15, zd34, zd51]; decide) | (refine gB_n ?_; simp only [carB, zd11]; simp; done) | (refine gB_n ?_; simp only [carB, zd15]; simp; done) | (refine gB_n ?_; simp only [carB, zd34]; simp; done) | (refine gB_n ?_; simp only [carB, zd51]; simp; done)
        · skip
          have zd51 : ¬ M 15 2 * 100 < M 25 1 * (M 15 2 + M 15 3) := zc51
          refine g_iconst hX dX5_isCarriedBy_54 ic_1 rfl ?_
          refine g_goto (n := 59) hX dX5_isCarriedBy_55 (by decide) ?_
          refine g_zret hX hR (by first | exact Or.inl rfl | exact Or.inr rfl | exact gB_01 _) dX5_isCarriedBy_59 ?_
          refine ⟨?_, rfl⟩; first | (refine gB_1 ?_; simp only [carB, zd11, zd15, zd34, zd51]; decide) | (refine gB_n ?_; simp only [carB, zd11]; simp; done) | (refine gB_n ?_; simp only [carB, zd15]; simp; done) | (refine gB_n ?_; simp only [carB, zd34]; simp; done) | (refine gB_n ?_; simp only [carB, zd51]; simp; done)
/-- what a member's vote gives to the sum j -/
def ctr (w mi se gi mb kd : Nat → Int32) (nk m j : Nat) : Int32 := if lapB mi se m then 0 else if j = 0 then w m else if gi m = -1 then 0 else if j = 1 then w m else if j = sforN gi mb kd nk m then w m else 0
def talR (w mi se gi mb kd : Nat → Int32) (nk n : Nat) : Nat → Int32 := fun j => sumTo n (fun m => ctr w mi se gi mb kd nk m j)
def talF (w mi se gi mb kd : Nat → Int32) (nk n : Nat) : Nat → Int32 := upd (talR w mi se gi mb kd nk n) 5 (gB (carB (talR w mi se gi mb kd nk n) se))
abbrev talM (M : gM) (nk n : Nat) : Nat → Int32 := talR (M 3) (M 4) (M 25) (M 5) (M 17) (M 19) nk n
theorem sforN_in (gi mb kd : Nat → Int32) (nk m : Nat) : 2 ≤ sforN gi mb kd nk m ∧ sforN gi mb kd nk m < 5 := by
  simp only [sforN]; split
  · omega
  · split <;> omega
theorem talR_s (w mi se gi mb kd : Nat → Int32) (nk n : Nat) (j : Nat) : talR w mi se gi mb kd nk (n + 1) j = talR w mi se gi mb kd nk n j + ctr w mi se gi mb kd nk n j := rfl
theorem talR_lap {w mi se gi mb kd : Nat → Int32} {nk n : Nat} (h : lapB mi se n = true) : talR w mi se gi mb kd nk (n + 1) = talR w mi se gi mb kd nk n := by
  funext j; rw [talR_s]; simp [ctr, h]
theorem talR_not {w mi se gi mb kd : Nat → Int32} {nk n : Nat} (h : lapB mi se n = false) (hv : gi n = -1) : talR w mi se gi mb kd nk (n + 1) = upd (talR w mi se gi mb kd nk n) 0 (talR w mi se gi mb kd nk n 0 + w n) := by
  funext j; rw [talR_s]
  by_cases h0 : j = 0
  · subst h0; simp [ctr, h, upd]
  · simp [ctr, h, upd, h0, hv]
theorem talR_vote {w mi se gi mb kd : Nat → Int32} {nk n : Nat} (h : lapB mi se n = false) (hv : ¬ gi n = -1) : talR w mi se gi mb kd nk (n + 1) = upd (upd (upd (talR w mi se gi mb kd nk n) 0 (talR w mi se gi mb kd nk n 0 + w n)) 1 (talR w mi se gi mb kd nk n 1 + w n)) (sforN gi mb kd nk n) (talR w mi se gi mb kd nk n (sforN gi mb kd nk n) + w n) := by
  obtain ⟨s2, s5⟩ := sforN_in gi mb kd nk n
  funext j; rw [talR_s]
  by_cases h0 : j = 0
  · subst h0
    have e : ¬ 0 = sforN gi mb kd nk n := by omega
    simp [ctr, h, upd, e]
  · by_cases h1 : j = 1
    · subst h1
      have e : ¬ 1 = sforN gi mb kd nk n := by omega
      simp [ctr, h, upd, hv, e]
    · by_cases hs : j = sforN gi mb kd nk n
      · subst hs; simp only [ctr, h, upd]; simp [h0, h1, hv]
      · simp [ctr, h, upd, h0, h1, hs, hv]
theorem c_X5_countVotes (E : gE) (M : gM) (n nk : Nat) (hn : M 2 4 = nI n) (hb : n ≤ 10) (hk : M 16 8 = nI nk) (hbk : nk ≤ 30) : gMet E k_X5_countVotes [.ref 1] M (gVoid fun M' => M' = gset M 15 (talF (M 3) (M 4) (M 25) (M 5) (M 17) (M 19) nk n)) := by
  refine gMet.of (by decide +kernel) rfl (Nat.le_of_ble_eq_true rfl) (fun X hX hR => ?_)
  have loop := up_loop n (fun k => gG X E (gset M 15 (talM M nk k)) 15 [some (.ref 1), some (.ref 15), some (.int (nI k))] [] (gQ X E (gVoid fun M' => M' = gset M 15 (talF (M 3) (M 4) (M 25) (M 5) (M 17) (M 19) nk n)))) ?_ ?_
  · skip
    refine g_aload_n (i := 0) hX dX5_countVotes_0 rfl rfl rfl ?_
    refine g_getR hX fl_X5_28 rfl rfl dX5_countVotes_1 rfl ?_
    refine g_getR hX fl_X5_121 rfl rfl dX5_countVotes_4 rfl ?_
    refine g_astore_n (i := 1) hX dX5_countVotes_7 rfl (Nat.le_of_ble_eq_true rfl) rfl ?_
    refine g_aload_n (i := 1) hX dX5_countVotes_8 rfl rfl rfl ?_
    refine g_iconst hX dX5_countVotes_9 ic_0 rfl ?_
    refine g_callSv hX (c_fill E M 15 6 _ _ rfl rfl) kf_J7_fill_53178 rfl wk_X5_109 rfl rfl rfl rfl dX5_countVotes_10 rfl (fun M10 h10 => ?_)
    subst h10
    refine g_iconst hX dX5_countVotes_13 ic_0 rfl ?_
    refine g_istore_n (i := 2) hX dX5_countVotes_14 rfl (Nat.le_of_ble_eq_true rfl) rfl ?_
    exact loop 0 (Nat.zero_le _)
  · skip
    refine g_iload_n (i := 2) hX dX5_countVotes_15 rfl rfl rfl ?_
    refine g_aload_n (i := 0) hX dX5_countVotes_16 rfl rfl rfl ?_
    refine g_getR hX fl_X5_12 rfl rfl dX5_countVotes_17 rfl ?_
    refine g_getIv (x := nI n) hX fl_X5_75 rfl rfl (hn) dX5_countVotes_20 rfl ?_
    first | refine g_icmp_geN (tgt := 100) hX dX5_countVotes_23 (by decide) rfl (by omega) (by omega) (fun zc23 => ?_) (fun zc23 => absurd zc23 (by omega)) | refine g_icmp_ge (tgt := 100) hX dX5_countVotes_23 (by decide) rfl (fun zc23 => ?_) (fun zc23 => absurd zc23 (by omega))
    refine g_aload_n (i := 1) hX dX5_countVotes_100 rfl rfl rfl ?_
    refine g_iconst hX dX5_countVotes_101 ic_5 rfl ?_
    refine g_aload_n (i := 0) hX dX5_countVotes_102 rfl rfl rfl ?_
    refine g_aload_n (i := 1) hX dX5_countVotes_103 rfl rfl rfl ?_
    refine g_callVi hX (c_X5_isCarriedBy E _) kf_X5_isCarriedBy rfl wk_X5_130 rfl rfl rfl rfl rfl dX5_countVotes_104 rfl (fun x104 M104 h104 => ?_)
    obtain ⟨rfl, hm⟩ := h104; have hm := hm.symm; subst hm
    first | refine g_if_eqB (tgt := 114) hX dX5_countVotes_107 (by decide) rfl (fun zc107 => ?_) (fun zc107 => ?_) | refine g_if_eq (tgt := 114) hX dX5_countVotes_107 (by decide) rfl (fun zc107 => ?_) (fun zc107 => ?_)
    · skip
      have d : carB (talM M nk n) (M 25) = false := zc107
      refine g_iconst hX dX5_countVotes_114 ic_0 rfl ?_
      refine g_iast hX rfl (rfl) (by omega) rfl dX5_countVotes_115 rfl ?_
      refine g_vret hX hR dX5_countVotes_116 ?_
      rw [gset_gset]; simp only [talF, d]; rfl
    · skip
      have d : carB (talM M nk n) (M 25) = true := zc107
      refine g_iconst hX dX5_countVotes_110 ic_1 rfl ?_
      refine g_goto (n := 115) hX dX5_countVotes_111 (by decide) ?_
      refine g_iast hX rfl (rfl) (by omega) rfl dX5_countVotes_115 rfl ?_
      refine g_vret hX hR dX5_countVotes_116 ?_
      rw [gset_gset]; simp only [talF, d]; rfl
  · intro k hk' ih
    have hs := sforN_in (M 5) (M 17) (M 19) nk k
    refine g_iload_n (i := 2) hX dX5_countVotes_15 rfl rfl rfl ?_
    refine g_aload_n (i := 0) hX dX5_countVotes_16 rfl rfl rfl ?_
    refine g_getR hX fl_X5_12 rfl rfl dX5_countVotes_17 rfl ?_
    refine g_getIv (x := nI n) hX fl_X5_75 rfl rfl (hn) dX5_countVotes_20 rfl ?_
    first | refine g_icmp_geN (tgt := 100) hX dX5_countVotes_23 (by decide) rfl (by omega) (by omega) (fun zc23 => absurd zc23 (by omega)) (fun zc23 => ?_) | refine g_icmp_ge (tgt := 100) hX dX5_countVotes_23 (by decide) rfl (fun zc23 => absurd zc23 (by omega)) (fun zc23 => ?_)
    refine g_aload_n (i := 0) hX dX5_countVotes_26 rfl rfl rfl ?_
    refine g_iload_n (i := 2) hX dX5_countVotes_27 rfl rfl rfl ?_
    refine g_callVi hX (c_X5_isLapsed E _ k (by omega)) kf_X5_isLapsed rfl wk_X5_82 rfl rfl rfl rfl rfl dX5_countVotes_28 rfl (fun x28 M28 h28 => ?_)
    obtain ⟨rfl, hm⟩ := h28; have hm := hm.symm; subst hm
    first | refine g_if_neB (tgt := 94) hX dX5_countVotes_31 (by decide) rfl (fun zc31 => ?_) (fun zc31 => ?_) | refine g_if_ne (tgt := 94) hX dX5_countVotes_31 (by decide) rfl (fun zc31 => ?_) (fun zc31 => ?_)
    · skip
      have d : lapB (M 4) (M 25) k = true := zc31
      first | refine g_iincN hX dX5_countVotes_94 ic_1 rfl (Nat.le_of_ble_eq_true rfl) rfl ?_ | refine g_iinc hX dX5_countVotes_94 ic_1 rfl rfl (Nat.le_of_ble_eq_true rfl) rfl ?_
      refine g_goto (n := 15) hX dX5_countVotes_97 (by decide) ?_
      first
      | exact gGM (by rw [talM, talM, talR_lap d]) ih
      | exact gGM (by rw [gset_gset, talM, talM, talR_not d zd2]; rfl) ih
      | exact gGM (by rw [gset_gset, gset_gset, gset_gset, talM, talM, talR_vote d zd2]; rfl) ih
    · skip
      have d : lapB (M 4) (M 25) k = false := zc31
      refine g_aload_n (i := 1) hX dX5_countVotes_34 rfl rfl rfl ?_
      refine g_iconst hX dX5_countVotes_35 ic_0 rfl ?_
      refine g_dup2 hX dX5_countVotes_36 rfl rfl rfl ?_
      refine g_ialdv (x := talM M nk k 0) hX rfl (rfl) (by omega) rfl (rfl) dX5_countVotes_37 rfl ?_
      refine g_aload_n (i := 0) hX dX5_countVotes_38 rfl rfl rfl ?_
      refine g_getR hX fl_X5_12 rfl rfl dX5_countVotes_39 rfl ?_
      refine g_getR hX fl_X5_86 rfl rfl dX5_countVotes_42 rfl ?_
      refine g_iload_n (i := 2) hX dX5_countVotes_45 rfl rfl rfl ?_
      refine g_ialdv (x := M 3 k) hX rfl (rfl) (by omega) rfl (rfl) dX5_countVotes_46 rfl ?_
      first | refine g_iaddN hX dX5_countVotes_47 rfl ?_ | refine g_iadd hX dX5_countVotes_47 rfl ?_
      refine g_iast hX rfl (rfl) (by omega) rfl dX5_countVotes_48 rfl ?_
      refine g_aload_n (i := 0) hX dX5_countVotes_49 rfl rfl rfl ?_
      refine g_getR hX fl_X5_12 rfl rfl dX5_countVotes_50 rfl ?_
      refine g_iload_n (i := 2) hX dX5_countVotes_53 rfl rfl rfl ?_
      refine g_callVi hX (c_X4_hasVoted E _ k (by omega)) kf_X4_hasVoted rfl wk_X5_124 rfl rfl rfl rfl rfl dX5_countVotes_54 rfl (fun x54 M54 h54 => ?_)
      obtain ⟨rfl, hm⟩ := h54; have hm := hm.symm; subst hm
      first | refine g_if_eqB (tgt := 94) hX dX5_countVotes_57 (by decide) rfl (fun zc57 => ?_) (fun zc57 => ?_) | refine g_if_eq (tgt := 94) hX dX5_countVotes_57 (by decide) rfl (fun zc57 => ?_) (fun zc57 => ?_)
      · skip
        have zd2 : M 5 k = -1 := by simpa using (show decide (M 5 k ≠ -1) = false from zc57)
        first | refine g_iincN hX dX5_countVotes_94 ic_1 rfl (Nat.le_of_ble_eq_true rfl) rfl ?_ | refine g_iinc hX dX5_countVotes_94 ic_1 rfl rfl (Nat.le_of_ble_eq_true rfl) rfl ?_
        refine g_goto (n := 15) hX dX5_countVotes_97 (by decide) ?_
        first
        | exact gGM (by rw [talM, talM, talR_lap d]) ih
        | exact gGM (by rw [gset_gset, talM, talM, talR_not d zd2]; rfl) ih
        | exact gGM (by rw [gset_gset, gset_gset, gset_gset, talM, talM, talR_vote d zd2]; rfl) ih
      · skip
        have zd2 : ¬ M 5 k = -1 := by simpa using (show decide (M 5 k ≠ -1) = true from zc57)
        refine g_aload_n (i := 1) hX dX5_countVotes_60 rfl rfl rfl ?_
        refine g_iconst hX dX5_countVotes_61 ic_1 rfl ?_
        refine g_dup2 hX dX5_countVotes_62 rfl rfl rfl ?_
        refine g_ialdv (x := talM M nk k 1) hX rfl (rfl) (by omega) rfl (rfl) dX5_countVotes_63 rfl ?_
        refine g_aload_n (i := 0) hX dX5_countVotes_64 rfl rfl rfl ?_
        refine g_getR hX fl_X5_12 rfl rfl dX5_countVotes_65 rfl ?_
        refine g_getR hX fl_X5_86 rfl rfl dX5_countVotes_68 rfl ?_
        refine g_iload_n (i := 2) hX dX5_countVotes_71 rfl rfl rfl ?_
        refine g_ialdv (x := M 3 k) hX rfl (rfl) (by omega) rfl (rfl) dX5_countVotes_72 rfl ?_
        first | refine g_iaddN hX dX5_countVotes_73 rfl ?_ | refine g_iadd hX dX5_countVotes_73 rfl ?_
        refine g_iast hX rfl (rfl) (by omega) rfl dX5_countVotes_74 rfl ?_
        refine g_aload_n (i := 1) hX dX5_countVotes_75 rfl rfl rfl ?_
        refine g_aload_n (i := 0) hX dX5_countVotes_76 rfl rfl rfl ?_
        refine g_iload_n (i := 2) hX dX5_countVotes_77 rfl rfl rfl ?_
        refine g_callVi hX (c_X5_sumFor E _ nk k hk hbk (by omega)) kf_X5_sumFor rfl wk_X5_127 rfl rfl rfl rfl rfl dX5_countVotes_78 rfl (fun x78 M78 h78 => ?_)
        obtain ⟨hx, hm⟩ := h78
        have hx : x78 = nI (sforN (M 5) (M 17) (M 19) nk k) := hx
        have hm := hm.symm
        subst hm
        rw [hx]
        refine g_dup2 hX dX5_countVotes_81 rfl rfl rfl ?_
        refine g_ialdv (x := talM M nk k (sforN (M 5) (M 17) (M 19) nk k)) hX rfl ((rfl : _ = nI (sforN (M 5) (M 17) (M 19) nk k))) (by omega) rfl ((upd_n _ _ (by omega)).trans (upd_n _ _ (by omega))) dX5_countVotes_82 rfl ?_
        refine g_aload_n (i := 0) hX dX5_countVotes_83 rfl rfl rfl ?_
        refine g_getR hX fl_X5_12 rfl rfl dX5_countVotes_84 rfl ?_
        refine g_getR hX fl_X5_86 rfl rfl dX5_countVotes_87 rfl ?_
        refine g_iload_n (i := 2) hX dX5_countVotes_90 rfl rfl rfl ?_
        refine g_ialdv (x := M 3 k) hX rfl (rfl) (by omega) rfl (rfl) dX5_countVotes_91 rfl ?_
        first | refine g_iaddN hX dX5_countVotes_92 rfl ?_ | refine g_iadd hX dX5_countVotes_92 rfl ?_
        refine g_iast hX rfl ((rfl : _ = nI (sforN (M 5) (M 17) (M 19) nk k))) (by omega) rfl dX5_countVotes_93 rfl ?_
        first | refine g_iincN hX dX5_countVotes_94 ic_1 rfl (Nat.le_of_ble_eq_true rfl) rfl ?_ | refine g_iinc hX dX5_countVotes_94 ic_1 rfl rfl (Nat.le_of_ble_eq_true rfl) rfl ?_
        refine g_goto (n := 15) hX dX5_countVotes_97 (by decide) ?_
        first
        | exact gGM (by rw [talM, talM, talR_lap d]) ih
        | exact gGM (by rw [gset_gset, talM, talM, talR_not d zd2]; rfl) ih
        | exact gGM (by rw [gset_gset, gset_gset, gset_gset, talM, talM, talR_vote d zd2]; rfl) ih

