/-! the reference: a comment read -/
def fU (M : gM) (j : Nat) (x : Int32) : gM := gset M 130 (upd (M 130) j x)
theorem fU_s (M : gM) (j : Nat) (x : Int32) : fU M j x 130 j = x := by simp only [fU]; rw [gset_eq, upd_s]
theorem fU_n {M : gM} {j k : Nat} (x : Int32) (h : k ≠ j) : fU M j x 130 k = M 130 k := by simp only [fU]; rw [gset_eq, upd_n _ _ h]
theorem fU_o {M : gM} {j a : Nat} (x : Int32) (h : a ≠ 130) : fU M j x a = M a := by simp only [fU]; rw [gset_ne _ _ h]
theorem sp_fU (M : gM) (i : Nat) : spN M i = fU M 5 (nI i) := rfl
def rd0 (M M' : gM) : Prop := (∀ a, a ≠ 130 → M' a = M a) ∧ ∀ j, j < 5 ∨ 8 < j → M' 130 j = M 130 j
theorem rd0.rfl (M : gM) : rd0 M M := ⟨fun _ _ => Eq.refl _, fun _ _ => Eq.refl _⟩
theorem rd0.up {M M' : gM} {j : Nat} {x : Int32} (h : rd0 M M') (h1 : 5 ≤ j) (h2 : j ≤ 8) : rd0 M (fU M' j x) :=
  ⟨fun a ha => by rw [fU_o x ha]; exact h.1 a ha, fun k hk => by rw [fU_n x (by omega)]; exact h.2 k hk⟩
theorem rd0.T {M M' : gM} {ch : Nat → Nat} {L : Nat} (h : rd0 M M') (hT : TxM M ch L) : TxM M' ch L :=
  ⟨by rw [h.2 4 (by decide)]; exact hT.1, hT.2.1, fun i hi => by rw [h.1 133 (by decide)]; exact hT.2.2 i hi⟩
def rdM (M M' : gM) (ch : Nat → Nat) (L i : Nat) : Prop := rd0 M M' ∧ (pOk ch L i = true → M' 130 5 = nI (pNx ch L i) ∧ M' 130 6 = nI (pCl ch L i) ∧ M' 130 7 = nI (pKd ch L i) ∧ M' 130 8 = nI (pVal ch L i))
theorem rdM_no {M M' : gM} {ch : Nat → Nat} {L i : Nat} {b : Bool} (hb : b = false) (hp : pOk ch L i = false) (h : rd0 M M') : gB b = gB (pOk ch L i) ∧ rdM M M' ch L i := by
  rw [hb, hp]; exact ⟨rfl, h, fun q => Bool.noConfusion (q.symm.trans hp)⟩
theorem c_X8_readsComment (E : gE) (M : gM) (ch : Nat → Nat) (L i : Nat) (hT : TxM M ch L) (hs : M 130 5 = nI i) (hi : i ≤ L) : gMet E k_X8_readsComment [.ref 130] M (gInt fun r M' => r = gB (pOk ch L i) ∧ rdM M M' ch L i) := by
  refine gMet.of (by decide +kernel) rfl (Nat.le_of_ble_eq_true rfl) (fun X hX hR => ?_)
  have hL8 := hT.2.1
  have hd1 := pD1_le ch L i
  have hd2 := pD2_le ch L i
  have hmk : pMk ch L i = i + pD1 ch L i := rfl
  have go56 : 0 < pD1 ch L i → (sgN ch L (pMk ch L i) = 116 ∨ sgN ch L (pMk ch L i) = 101) → ∀ MC, rd0 M MC → MC 130 5 = nI (pMk ch L i) → MC 130 6 = nI (pCl ch L i) → MC 130 7 = nI (pKd ch L i) → gG X E MC 56 [some (.ref 130)] [] (gQ X E (gInt fun r M' => r = gB (pOk ch L i) ∧ rdM M M' ch L i)) := by
    intro g1 g2 MC h0 h5 h6 h7
    have hA : rd0 M (fU MC 5 (nI (pMk ch L i + 1))) := h0.up (by decide) (by decide)
    by_cases c3 : sgN ch L (pMk ch L i + 1) = 61
    · have hB : rd0 M (spN (fU MC 5 (nI (pMk ch L i + 1))) (if sgN ch L (pMk ch L i + 1) = 61 then pMk ch L i + 1 + 1 else pMk ch L i + 1)) := hA.up (by decide) (by decide)
      have e2 : (if sgN ch L (pMk ch L i + 1) = 61 then pMk ch L i + 1 + 1 else pMk ch L i + 1) = pMk ch L i + 2 := if_pos c3
      rw [e2] at hB
      have hC : rd0 M (spN (spN (fU MC 5 (nI (pMk ch L i + 1))) (pMk ch L i + 2)) (pMk ch L i + 2 + pD2 ch L i)) := hB.up (by decide) (by decide)
      have hD : rd0 M (fU (spN (spN (fU MC 5 (nI (pMk ch L i + 1))) (pMk ch L i + 2)) (pMk ch L i + 2 + pD2 ch L i)) 8 (vlI ch (pMk ch L i + 2) (pD2 ch L i))) := hC.up (by decide) (by decide)
      have hv : ∀ x, vlI ch (pMk ch L i + 2) (pD2 ch L i) = x → fU (spN (spN (fU MC 5 (nI (pMk ch L i + 1))) (pMk ch L i + 2)) (pMk ch L i + 2 + pD2 ch L i)) 8 (vlI ch (pMk ch L i + 2) (pD2 ch L i)) 130 8 = x := fun x hx => (fU_s _ _ _).trans hx
      by_cases c4 : 0 < pD2 ch L i
      · have ev : vlI ch (pMk ch L i + 2) (pD2 ch L i) = nI (pVal ch L i) := if_neg (by omega)
        have s5 : fU (spN (spN (fU MC 5 (nI (pMk ch L i + 1))) (pMk ch L i + 2)) (pMk ch L i + 2 + pD2 ch L i)) 8 (vlI ch (pMk ch L i + 2) (pD2 ch L i)) 130 5 = nI (pMk ch L i + 2 + pD2 ch L i) := by rw [fU_n _ (by decide), spN_5]
        refine g_aload_n (i := 0) hX dX8_readsComment_56 rfl rfl rfl ?_
        refine g_dup hX dX8_readsComment_57 rfl rfl ?_
        refine g_getIv (x := nI (pMk ch L i)) hX fl_X8_117 rfl rfl (h5) dX8_readsComment_58 rfl ?_
        refine g_iconst hX dX8_readsComment_61 ic_1 rfl ?_
        first | refine g_iaddN hX dX8_readsComment_62 rfl ?_ | refine g_iadd hX dX8_readsComment_62 rfl ?_
        refine g_putI hX fp_X8_117 rfl rfl dX8_readsComment_63 rfl ?_
        refine g_aload_n (i := 0) hX dX8_readsComment_66 rfl rfl rfl ?_
        refine g_bipush hX dX8_readsComment_67 bc_61 rfl ?_
        refine g_callVi hX (c_X8_takes E _ ch L (pMk ch L i + 1) 61 (hA.T hT) (fU_s MC 5 _) (by omega) (by decide) (by decide)) kf_X8_takes rfl wk_X8_132 rfl rfl rfl rfl rfl dX8_readsComment_69 rfl (fun x69 M69 h69 => ?_)
        obtain ⟨rfl, hMq⟩ := h69; have hMq := hMq.symm; subst hMq
        first | refine g_if_neB (tgt := 77) hX dX8_readsComment_72 (by decide) rfl (fun zc72 => ?_) (fun zc72 => Bool.noConfusion ((decide_eq_true c3).symm.trans zc72)) | refine g_if_ne (tgt := 77) hX dX8_readsComment_72 (by decide) rfl (fun zc72 => ?_) (fun zc72 => Bool.noConfusion ((decide_eq_true c3).symm.trans zc72))
        refine g_aload_n (i := 0) hX dX8_readsComment_77 rfl rfl rfl ?_
        refine g_aload_n (i := 0) hX dX8_readsComment_78 rfl rfl rfl ?_
        refine g_iconst hX dX8_readsComment_79 ic_4 rfl ?_
        rw [e2]
        refine g_callVi hX (c_X8_readNumber E _ ch L (pMk ch L i + 2) 4 (hB.T hT) (spN_5 _ _) (by omega) (by decide)) kf_X8_readNumber rfl wk_X8_123 rfl rfl rfl rfl rfl dX8_readsComment_80 rfl (fun x80 M80 h80 => ?_)
        obtain ⟨rfl, hMq⟩ := h80; have hMq := hMq.symm; subst hMq
        refine g_putI hX fp_X8_135 rfl rfl dX8_readsComment_83 rfl ?_
        refine g_aload_n (i := 0) hX dX8_readsComment_86 rfl rfl rfl ?_
        refine g_getIv (x := nI (pVal ch L i)) hX fl_X8_135 rfl rfl (hv _ ev) dX8_readsComment_87 rfl ?_
        refine g_if_lt (tgt := 106) hX dX8_readsComment_90 (by decide) rfl (fun zc90 => absurd zc90 (nI_pos (by have := pVal_lt ch L i; omega))) (fun zc90 => ?_)
        refine g_aload_n (i := 0) hX dX8_readsComment_93 rfl rfl rfl ?_
        refine g_bipush hX dX8_readsComment_94 bc_59 rfl ?_
        refine g_callVi hX (c_X8_takes E _ ch L (pMk ch L i + 2 + pD2 ch L i) 59 (hD.T hT) s5 (by omega) (by decide) (by decide)) kf_X8_takes rfl wk_X8_132 rfl rfl rfl rfl rfl dX8_readsComment_96 rfl (fun x96 M96 h96 => ?_)
        obtain ⟨rfl, hMq⟩ := h96; have hMq := hMq.symm; subst hMq
        first | refine g_if_eqB (tgt := 106) hX dX8_readsComment_99 (by decide) rfl (fun zc99 => ?_) (fun zc99 => ?_) | refine g_if_eq (tgt := 106) hX dX8_readsComment_99 (by decide) rfl (fun zc99 => ?_) (fun zc99 => ?_)
        · skip
          have zp : pOk ch L i = false := pOk_no (fun q => Bool.noConfusion ((decide_eq_true q.2.2.2.2).symm.trans zc99))
          refine g_iconst hX dX8_readsComment_106 ic_0 rfl ?_
          refine g_zret hX hR (by first | exact Or.inl rfl | exact Or.inr rfl | exact gB_01 _) dX8_readsComment_107 ?_
          first
          | exact rdM_no (b := false) rfl zp (hD.up (by decide) (by decide))
          | exact ⟨by rw [zp]; rfl, hD.up (by decide) (by decide), fun _ => ⟨(spN_5 _ _).trans (by rw [if_pos (of_decide_eq_true zc99)]; rfl),
              (by show fU (fU (fU (fU (fU MC 5 _) 5 _) 5 _) 8 _) 5 _ 130 6 = _; rw [fU_n _ (by decide), fU_n _ (by decide), fU_n _ (by decide), fU_n _ (by decide), fU_n _ (by decide)]; exact h6),
              (by show fU (fU (fU (fU (fU MC 5 _) 5 _) 5 _) 8 _) 5 _ 130 7 = _; rw [fU_n _ (by decide), fU_n _ (by decide), fU_n _ (by decide), fU_n _ (by decide), fU_n _ (by decide)]; exact h7),
              (by show fU (fU _ 8 _) 5 _ 130 8 = _; rw [fU_n _ (by decide), fU_s]; exact ev)⟩⟩
        · skip
          have zp : pOk ch L i = true := pOk_iff.mpr ⟨g1, g2, c3, c4, of_decide_eq_true zc99⟩
          refine g_iconst hX dX8_readsComment_102 ic_1 rfl ?_
          refine g_goto (n := 107) hX dX8_readsComment_103 (by decide) ?_
          refine g_zret hX hR (by first | exact Or.inl rfl | exact Or.inr rfl | exact gB_01 _) dX8_readsComment_107 ?_
          first
          | exact rdM_no (b := false) rfl zp (hD.up (by decide) (by decide))
          | exact ⟨by rw [zp]; rfl, hD.up (by decide) (by decide), fun _ => ⟨(spN_5 _ _).trans (by rw [if_pos (of_decide_eq_true zc99)]; rfl),
              (by show fU (fU (fU (fU (fU MC 5 _) 5 _) 5 _) 8 _) 5 _ 130 6 = _; rw [fU_n _ (by decide), fU_n _ (by decide), fU_n _ (by decide), fU_n _ (by decide), fU_n _ (by decide)]; exact h6),
              (by show fU (fU (fU (fU (fU MC 5 _) 5 _) 5 _) 8 _) 5 _ 130 7 = _; rw [fU_n _ (by decide), fU_n _ (by decide), fU_n _ (by decide), fU_n _ (by decide), fU_n _ (by decide)]; exact h7),
              (by show fU (fU _ 8 _) 5 _ 130 8 = _; rw [fU_n _ (by decide), fU_s]; exact ev)⟩⟩
      · have hp : pOk ch L i = false := pOk_no (fun q => c4 q.2.2.2.1)
        have ev : vlI ch (pMk ch L i + 2) (pD2 ch L i) = -1 := if_pos (by omega)
        refine g_aload_n (i := 0) hX dX8_readsComment_56 rfl rfl rfl ?_
        refine g_dup hX dX8_readsComment_57 rfl rfl ?_
        refine g_getIv (x := nI (pMk ch L i)) hX fl_X8_117 rfl rfl (h5) dX8_readsComment_58 rfl ?_
        refine g_iconst hX dX8_readsComment_61 ic_1 rfl ?_
        first | refine g_iaddN hX dX8_readsComment_62 rfl ?_ | refine g_iadd hX dX8_readsComment_62 rfl ?_
        refine g_putI hX fp_X8_117 rfl rfl dX8_readsComment_63 rfl ?_
        refine g_aload_n (i := 0) hX dX8_readsComment_66 rfl rfl rfl ?_
        refine g_bipush hX dX8_readsComment_67 bc_61 rfl ?_
        refine g_callVi hX (c_X8_takes E _ ch L (pMk ch L i + 1) 61 (hA.T hT) (fU_s MC 5 _) (by omega) (by decide) (by decide)) kf_X8_takes rfl wk_X8_132 rfl rfl rfl rfl rfl dX8_readsComment_69 rfl (fun x69 M69 h69 => ?_)
        obtain ⟨rfl, hMq⟩ := h69; have hMq := hMq.symm; subst hMq
        first | refine g_if_neB (tgt := 77) hX dX8_readsComment_72 (by decide) rfl (fun zc72 => ?_) (fun zc72 => Bool.noConfusion ((decide_eq_true c3).symm.trans zc72)) | refine g_if_ne (tgt := 77) hX dX8_readsComment_72 (by decide) rfl (fun zc72 => ?_) (fun zc72 => Bool.noConfusion ((decide_eq_true c3).symm.trans zc72))
        refine g_aload_n (i := 0) hX dX8_readsComment_77 rfl rfl rfl ?_
        refine g_aload_n (i := 0) hX dX8_readsComment_78 rfl rfl rfl ?_
        refine g_iconst hX dX8_readsComment_79 ic_4 rfl ?_
        rw [e2]
        refine g_callVi hX (c_X8_readNumber E _ ch L (pMk ch L i + 2) 4 (hB.T hT) (spN_5 _ _) (by omega) (by decide)) kf_X8_readNumber rfl wk_X8_123 rfl rfl rfl rfl rfl dX8_readsComment_80 rfl (fun x80 M80 h80 => ?_)
        obtain ⟨rfl, hMq⟩ := h80; have hMq := hMq.symm; subst hMq
        refine g_putI hX fp_X8_135 rfl rfl dX8_readsComment_83 rfl ?_
        refine g_aload_n (i := 0) hX dX8_readsComment_86 rfl rfl rfl ?_
        refine g_getIv (x := -1) hX fl_X8_135 rfl rfl (hv _ ev) dX8_readsComment_87 rfl ?_
        refine g_if_lt (tgt := 106) hX dX8_readsComment_90 (by decide) rfl (fun zc90 => ?_) (fun zc90 => absurd (by decide) zc90)
        refine g_iconst hX dX8_readsComment_106 ic_0 rfl ?_
        refine g_zret hX hR (by first | exact Or.inl rfl | exact Or.inr rfl | exact gB_01 _) dX8_readsComment_107 ?_
        exact rdM_no (b := false) rfl hp hD
    · have hp : pOk ch L i = false := pOk_no (fun q => c3 q.2.2.1)
      refine g_aload_n (i := 0) hX dX8_readsComment_56 rfl rfl rfl ?_
      refine g_dup hX dX8_readsComment_57 rfl rfl ?_
      refine g_getIv (x := nI (pMk ch L i)) hX fl_X8_117 rfl rfl (h5) dX8_readsComment_58 rfl ?_
      refine g_iconst hX dX8_readsComment_61 ic_1 rfl ?_
      first | refine g_iaddN hX dX8_readsComment_62 rfl ?_ | refine g_iadd hX dX8_readsComment_62 rfl ?_
      refine g_putI hX fp_X8_117 rfl rfl dX8_readsComment_63 rfl ?_
      refine g_aload_n (i := 0) hX dX8_readsComment_66 rfl rfl rfl ?_
      refine g_bipush hX dX8_readsComment_67 bc_61 rfl ?_
      refine g_callVi hX (c_X8_takes E _ ch L (pMk ch L i + 1) 61 (hA.T hT) (fU_s MC 5 _) (by omega) (by decide) (by decide)) kf_X8_takes rfl wk_X8_132 rfl rfl rfl rfl rfl dX8_readsComment_69 rfl (fun x69 M69 h69 => ?_)
      obtain ⟨rfl, hMq⟩ := h69; have hMq := hMq.symm; subst hMq
      first | refine g_if_neB (tgt := 77) hX dX8_readsComment_72 (by decide) rfl (fun zc72 => Bool.noConfusion ((decide_eq_false c3).symm.trans zc72)) (fun zc72 => ?_) | refine g_if_ne (tgt := 77) hX dX8_readsComment_72 (by decide) rfl (fun zc72 => Bool.noConfusion ((decide_eq_false c3).symm.trans zc72)) (fun zc72 => ?_)
      refine g_iconst hX dX8_readsComment_75 ic_0 rfl ?_
      refine g_zret hX hR (by first | exact Or.inl rfl | exact Or.inr rfl | exact gB_01 _) dX8_readsComment_76 ?_
      exact rdM_no (b := false) rfl hp (hA.up (by decide) (by decide))
  have hA : rd0 M (spN M (i + pD1 ch L i)) := (rd0.rfl M).up (by decide) (by decide)
  have hB : ∀ x, rd0 M (fU (spN M (i + pD1 ch L i)) 6 x) := fun x => hA.up (by decide) (by decide)
  have hC : ∀ x y, rd0 M (fU (fU (spN M (i + pD1 ch L i)) 6 x) 7 y) := fun x y => (hB x).up (by decide) (by decide)
  have s5 : ∀ x, fU (spN M (i + pD1 ch L i)) 6 x 130 5 = nI (pMk ch L i) := fun x => by rw [fU_n _ (by decide), spN_5]; rfl
  have s6 : ∀ x y, fU (fU (spN M (i + pD1 ch L i)) 6 x) 7 y 130 6 = x := fun x y => by rw [fU_n _ (by decide), fU_s]
  have q116 := fun (MB : gM) (hT : TxM MB ch L) => heN_c (i := pMk ch L i) (c := 116) hT (by decide) (by decide)
  have q101 := fun (MB : gM) (hT : TxM MB ch L) => heN_c (i := pMk ch L i) (c := 101) hT (by decide) (by decide)
  by_cases c1 : 0 < pD1 ch L i
  · have ev : vlI ch i (dgN ch L i 2) = nI (pCl ch L i) := if_neg (by show ¬ pD1 ch L i = 0; omega)
    by_cases c2 : sgN ch L (pMk ch L i) = 116
    · skip
      refine g_aload_n (i := 0) hX dX8_readsComment_0 rfl rfl rfl ?_
      refine g_aload_n (i := 0) hX dX8_readsComment_1 rfl rfl rfl ?_
      refine g_iconst hX dX8_readsComment_2 ic_2 rfl ?_
      refine g_callVi hX (c_X8_readNumber E M ch L i 2 hT hs (by omega) (by decide)) kf_X8_readNumber rfl wk_X8_123 rfl rfl rfl rfl rfl dX8_readsComment_3 rfl (fun x3 M3 h3 => ?_)
      obtain ⟨rfl, hMq⟩ := h3; have hMq := hMq.symm; subst hMq
      rw [ev]
      refine g_putI hX fp_X8_126 rfl rfl dX8_readsComment_6 rfl ?_
      refine g_aload_n (i := 0) hX dX8_readsComment_9 rfl rfl rfl ?_
      refine g_aload_n (i := 0) hX dX8_readsComment_10 rfl rfl rfl ?_
      refine g_callVi hX (c_X8_here E _ ch L (pMk ch L i) ((hB _).T hT) (s5 _) (by omega)) kf_X8_here rfl wk_X8_120 rfl rfl rfl rfl rfl dX8_readsComment_11 rfl (fun x11 M11 h11 => ?_)
      obtain ⟨rfl, hMq⟩ := h11; have hMq := hMq.symm; subst hMq
      refine g_bipush hX dX8_readsComment_14 bc_116 rfl ?_
      refine g_icmp_ne (tgt := 23) hX dX8_readsComment_16 (by decide) rfl (fun zc16 => absurd ((q116 M hT).mpr c2) zc16) (fun zc16 => ?_)
      refine g_iconst hX dX8_readsComment_19 ic_1 rfl ?_
      refine g_goto (n := 37) hX dX8_readsComment_20 (by decide) ?_
      refine g_putI hX fp_X8_129 rfl rfl dX8_readsComment_37 rfl ?_
      refine g_aload_n (i := 0) hX dX8_readsComment_40 rfl rfl rfl ?_
      refine g_getIv (x := nI (pCl ch L i)) hX fl_X8_126 rfl rfl (s6 _ _) dX8_readsComment_41 rfl ?_
      refine g_if_lt (tgt := 54) hX dX8_readsComment_44 (by decide) rfl (fun zc44 => absurd zc44 (nI_pos (by have := pCl_lt ch L i; omega))) (fun zc44 => ?_)
      refine g_aload_n (i := 0) hX dX8_readsComment_47 rfl rfl rfl ?_
      refine g_getIv (x := nI 1) hX fl_X8_129 rfl rfl (fU_s _ _ _) dX8_readsComment_48 rfl ?_
      refine g_if_ge (tgt := 56) hX dX8_readsComment_51 (by decide) rfl (fun zc51 => ?_) (fun zc51 => absurd (by decide) zc51)
      exact go56 c1 (Or.inl c2) _ (hC _ _) (by show fU (fU _ 6 _) 7 _ 130 5 = _; rw [fU_n _ (by decide)]; exact s5 _) (s6 _ _) (by show fU _ 7 _ 130 7 = _; rw [fU_s, pKd, if_pos c2])
    · by_cases c2' : sgN ch L (pMk ch L i) = 101
      · skip
        refine g_aload_n (i := 0) hX dX8_readsComment_0 rfl rfl rfl ?_
        refine g_aload_n (i := 0) hX dX8_readsComment_1 rfl rfl rfl ?_
        refine g_iconst hX dX8_readsComment_2 ic_2 rfl ?_
        refine g_callVi hX (c_X8_readNumber E M ch L i 2 hT hs (by omega) (by decide)) kf_X8_readNumber rfl wk_X8_123 rfl rfl rfl rfl rfl dX8_readsComment_3 rfl (fun x3 M3 h3 => ?_)
        obtain ⟨rfl, hMq⟩ := h3; have hMq := hMq.symm; subst hMq
        rw [ev]
        refine g_putI hX fp_X8_126 rfl rfl dX8_readsComment_6 rfl ?_
        refine g_aload_n (i := 0) hX dX8_readsComment_9 rfl rfl rfl ?_
        refine g_aload_n (i := 0) hX dX8_readsComment_10 rfl rfl rfl ?_
        refine g_callVi hX (c_X8_here E _ ch L (pMk ch L i) ((hB _).T hT) (s5 _) (by omega)) kf_X8_here rfl wk_X8_120 rfl rfl rfl rfl rfl dX8_readsComment_11 rfl (fun x11 M11 h11 => ?_)
        obtain ⟨rfl, hMq⟩ := h11; have hMq := hMq.symm; subst hMq
        refine g_bipush hX dX8_readsComment_14 bc_116 rfl ?_
        refine g_icmp_ne (tgt := 23) hX dX8_readsComment_16 (by decide) rfl (fun zc16 => ?_) (fun zc16 => absurd ((q116 M hT).mp zc16) c2)
        refine g_aload_n (i := 0) hX dX8_readsComment_23 rfl rfl rfl ?_
        refine g_callVi hX (c_X8_here E _ ch L (pMk ch L i) ((hB _).T hT) (s5 _) (by omega)) kf_X8_here rfl wk_X8_120 rfl rfl rfl rfl rfl dX8_readsComment_24 rfl (fun x24 M24 h24 => ?_)
        obtain ⟨rfl, hMq⟩ := h24; have hMq := hMq.symm; subst hMq
        refine g_bipush hX dX8_readsComment_27 bc_101 rfl ?_
        refine g_icmp_ne (tgt := 36) hX dX8_readsComment_29 (by decide) rfl (fun zc29 => absurd ((q101 M hT).mpr c2') zc29) (fun zc29 => ?_)
        refine g_iconst hX dX8_readsComment_32 ic_0 rfl ?_
        refine g_goto (n := 37) hX dX8_readsComment_33 (by decide) ?_
        refine g_putI hX fp_X8_129 rfl rfl dX8_readsComment_37 rfl ?_
        refine g_aload_n (i := 0) hX dX8_readsComment_40 rfl rfl rfl ?_
        refine g_getIv (x := nI (pCl ch L i)) hX fl_X8_126 rfl rfl (s6 _ _) dX8_readsComment_41 rfl ?_
        refine g_if_lt (tgt := 54) hX dX8_readsComment_44 (by decide) rfl (fun zc44 => absurd zc44 (nI_pos (by have := pCl_lt ch L i; omega))) (fun zc44 => ?_)
        refine g_aload_n (i := 0) hX dX8_readsComment_47 rfl rfl rfl ?_
        refine g_getIv (x := nI 0) hX fl_X8_129 rfl rfl (fU_s _ _ _) dX8_readsComment_48 rfl ?_
        refine g_if_ge (tgt := 56) hX dX8_readsComment_51 (by decide) rfl (fun zc51 => ?_) (fun zc51 => absurd (by decide) zc51)
        exact go56 c1 (Or.inr c2') _ (hC _ _) (by show fU (fU _ 6 _) 7 _ 130 5 = _; rw [fU_n _ (by decide)]; exact s5 _) (s6 _ _) (by show fU _ 7 _ 130 7 = _; rw [fU_s, pKd, if_neg c2])
      · have hp : pOk ch L i = false := pOk_no (fun q => q.2.1.elim c2 c2')
        refine g_aload_n (i := 0) hX dX8_readsComment_0 rfl rfl rfl ?_
        refine g_aload_n (i := 0) hX dX8_readsComment_1 rfl rfl rfl ?_
        refine g_iconst hX dX8_readsComment_2 ic_2 rfl ?_
        refine g_callVi hX (c_X8_readNumber E M ch L i 2 hT hs (by omega) (by decide)) kf_X8_readNumber rfl wk_X8_123 rfl rfl rfl rfl rfl dX8_readsComment_3 rfl (fun x3 M3 h3 => ?_)
        obtain ⟨rfl, hMq⟩ := h3; have hMq := hMq.symm; subst hMq
        rw [ev]
        refine g_putI hX fp_X8_126 rfl rfl dX8_readsComment_6 rfl ?_
        refine g_aload_n (i := 0) hX dX8_readsComment_9 rfl rfl rfl ?_
        refine g_aload_n (i := 0) hX dX8_readsComment_10 rfl rfl rfl ?_
        refine g_callVi hX (c_X8_here E _ ch L (pMk ch L i) ((hB _).T hT) (s5 _) (by omega)) kf_X8_here rfl wk_X8_120 rfl rfl rfl rfl rfl dX8_readsComment_11 rfl (fun x11 M11 h11 => ?_)
        obtain ⟨rfl, hMq⟩ := h11; have hMq := hMq.symm; subst hMq
        refine g_bipush hX dX8_readsComment_14 bc_116 rfl ?_
        refine g_icmp_ne (tgt := 23) hX dX8_readsComment_16 (by decide) rfl (fun zc16 => ?_) (fun zc16 => absurd ((q116 M hT).mp zc16) c2)
        refine g_aload_n (i := 0) hX dX8_readsComment_23 rfl rfl rfl ?_
        refine g_callVi hX (c_X8_here E _ ch L (pMk ch L i) ((hB _).T hT) (s5 _) (by omega)) kf_X8_here rfl wk_X8_120 rfl rfl rfl rfl rfl dX8_readsComment_24 rfl (fun x24 M24 h24 => ?_)
        obtain ⟨rfl, hMq⟩ := h24; have hMq := hMq.symm; subst hMq
        refine g_bipush hX dX8_readsComment_27 bc_101 rfl ?_
        refine g_icmp_ne (tgt := 36) hX dX8_readsComment_29 (by decide) rfl (fun zc29 => ?_) (fun zc29 => absurd ((q101 M hT).mp zc29) c2')
        refine g_iconst hX dX8_readsComment_36 ic_m1 rfl ?_
        refine g_putI hX fp_X8_129 rfl rfl dX8_readsComment_37 rfl ?_
        refine g_aload_n (i := 0) hX dX8_readsComment_40 rfl rfl rfl ?_
        refine g_getIv (x := nI (pCl ch L i)) hX fl_X8_126 rfl rfl (s6 _ _) dX8_readsComment_41 rfl ?_
        refine g_if_lt (tgt := 54) hX dX8_readsComment_44 (by decide) rfl (fun zc44 => absurd zc44 (nI_pos (by have := pCl_lt ch L i; omega))) (fun zc44 => ?_)
        refine g_aload_n (i := 0) hX dX8_readsComment_47 rfl rfl rfl ?_
        refine g_getIv (x := -1) hX fl_X8_129 rfl rfl (fU_s _ _ _) dX8_readsComment_48 rfl ?_
        refine g_if_ge (tgt := 56) hX dX8_readsComment_51 (by decide) rfl (fun zc51 => absurd zc51 (by decide)) (fun zc51 => ?_)
        refine g_iconst hX dX8_readsComment_54 ic_0 rfl ?_
        refine g_zret hX hR (by first | exact Or.inl rfl | exact Or.inr rfl | exact gB_01 _) dX8_readsComment_55 ?_
        exact rdM_no (b := false) rfl hp (hC _ _)
  · have hp : pOk ch L i = false := pOk_no (fun q => c1 q.1)
    have ev : vlI ch i (dgN ch L i 2) = -1 := if_pos (by show pD1 ch L i = 0; omega)
    refine g_aload_n (i := 0) hX dX8_readsComment_0 rfl rfl rfl ?_
    refine g_aload_n (i := 0) hX dX8_readsComment_1 rfl rfl rfl ?_
    refine g_iconst hX dX8_readsComment_2 ic_2 rfl ?_
    refine g_callVi hX (c_X8_readNumber E M ch L i 2 hT hs (by omega) (by decide)) kf_X8_readNumber rfl wk_X8_123 rfl rfl rfl rfl rfl dX8_readsComment_3 rfl (fun x3 M3 h3 => ?_)
    obtain ⟨rfl, hMq⟩ := h3; have hMq := hMq.symm; subst hMq
    rw [ev]
    refine g_putI hX fp_X8_126 rfl rfl dX8_readsComment_6 rfl ?_
    refine g_aload_n (i := 0) hX dX8_readsComment_9 rfl rfl rfl ?_
    refine g_aload_n (i := 0) hX dX8_readsComment_10 rfl rfl rfl ?_
    refine g_callVi hX (c_X8_here E _ ch L (pMk ch L i) ((hB _).T hT) (s5 _) (by omega)) kf_X8_here rfl wk_X8_120 rfl rfl rfl rfl rfl dX8_readsComment_11 rfl (fun x11 M11 h11 => ?_)
    obtain ⟨rfl, hMq⟩ := h11; have hMq := hMq.symm; subst hMq
    refine g_bipush hX dX8_readsComment_14 bc_116 rfl ?_
    refine g_icmp_ne (tgt := 23) hX dX8_readsComment_16 (by decide) rfl (fun zc16 => ?_) (fun zc16 => ?_)
    · skip
      refine g_aload_n (i := 0) hX dX8_readsComment_23 rfl rfl rfl ?_
      refine g_callVi hX (c_X8_here E _ ch L (pMk ch L i) ((hB _).T hT) (s5 _) (by omega)) kf_X8_here rfl wk_X8_120 rfl rfl rfl rfl rfl dX8_readsComment_24 rfl (fun x24 M24 h24 => ?_)
      obtain ⟨rfl, hMq⟩ := h24; have hMq := hMq.symm; subst hMq
      refine g_bipush hX dX8_readsComment_27 bc_101 rfl ?_
      refine g_icmp_ne (tgt := 36) hX dX8_readsComment_29 (by decide) rfl (fun zc29 => ?_) (fun zc29 => ?_)
      · skip
        refine g_iconst hX dX8_readsComment_36 ic_m1 rfl ?_
        refine g_putI hX fp_X8_129 rfl rfl dX8_readsComment_37 rfl ?_
        refine g_aload_n (i := 0) hX dX8_readsComment_40 rfl rfl rfl ?_
        refine g_getIv (x := -1) hX fl_X8_126 rfl rfl (s6 _ _) dX8_readsComment_41 rfl ?_
        refine g_if_lt (tgt := 54) hX dX8_readsComment_44 (by decide) rfl (fun zc44 => ?_) (fun zc44 => absurd (by decide) zc44)
        refine g_iconst hX dX8_readsComment_54 ic_0 rfl ?_
        refine g_zret hX hR (by first | exact Or.inl rfl | exact Or.inr rfl | exact gB_01 _) dX8_readsComment_55 ?_
        exact rdM_no (b := false) rfl hp (hC _ _)
      · skip
        refine g_iconst hX dX8_readsComment_32 ic_0 rfl ?_
        refine g_goto (n := 37) hX dX8_readsComment_33 (by decide) ?_
        refine g_putI hX fp_X8_129 rfl rfl dX8_readsComment_37 rfl ?_
        refine g_aload_n (i := 0) hX dX8_readsComment_40 rfl rfl rfl ?_
        refine g_getIv (x := -1) hX fl_X8_126 rfl rfl (s6 _ _) dX8_readsComment_41 rfl ?_
        refine g_if_lt (tgt := 54) hX dX8_readsComment_44 (by decide) rfl (fun zc44 => ?_) (fun zc44 => absurd (by decide) zc44)
        refine g_iconst hX dX8_readsComment_54 ic_0 rfl ?_
        refine g_zret hX hR (by first | exact Or.inl rfl | exact Or.inr rfl | exact gB_01 _) dX8_readsComment_55 ?_
        exact rdM_no (b := false) rfl hp (hC _ _)
    · skip
      refine g_iconst hX dX8_readsComment_19 ic_1 rfl ?_
      refine g_goto (n := 37) hX dX8_readsComment_20 (by decide) ?_
      refine g_putI hX fp_X8_129 rfl rfl dX8_readsComment_37 rfl ?_
      refine g_aload_n (i := 0) hX dX8_readsComment_40 rfl rfl rfl ?_
      refine g_getIv (x := -1) hX fl_X8_126 rfl rfl (s6 _ _) dX8_readsComment_41 rfl ?_
      refine g_if_lt (tgt := 54) hX dX8_readsComment_44 (by decide) rfl (fun zc44 => ?_) (fun zc44 => absurd (by decide) zc44)
      refine g_iconst hX dX8_readsComment_54 ic_0 rfl ?_
      refine g_zret hX hR (by first | exact Or.inl rfl | exact Or.inr rfl | exact gB_01 _) dX8_readsComment_55 ?_
      exact rdM_no (b := false) rfl hp (hC _ _)

