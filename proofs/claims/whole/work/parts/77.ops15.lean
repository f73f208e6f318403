/-! resolutions of both: the operation -/
section
variable {M : gM} {nm nc nk ne td no : Nat} {op br : Bool} {mb pl : Nat → Nat}
theorem pendS {S : Nat → Nat → Int32} {N : Nat → Int32} (R : RS S N nm nc nk ne td no op br mb pl) : cntTo nk (pendB (vSt N)) = cntTo nk (pendB (S 20)) := by
  refine cntTo_congr (fun k hk => ?_)
  simp only [pendB]
  rw [(R.com k hk).2.2.2.2.2.2.2.2.1]
theorem cnt_pos {n k : Nat} {p : Nat → Bool} (hk : k < n) (h : p k = true) : cntTo n p ≠ 0 := by
  induction n with
  | zero => omega
  | succ n ih =>
    simp only [cntTo]
    by_cases e : k = n
    · subst e; rw [h]; simp
    · have := ih (by omega); omega
theorem RSe.settled {N : Nat → Int32} {c : Nat} {a w : Int32} (hc : c < nk) (ha : a = 0 ∨ a = 1 ∨ a = 2) (hne : ne ≤ 11) (R : RS (nowS M) N nm nc nk ne td no false false mb pl) : RSe (nowS (m_settle M c (pl c) nc ne nk a w)) (setN N nc nk ne c (pl c) a w) ∧ cntTo nk (pendB (m_settle M c (pl c) nc ne nk a w 21)) = cntTo nk (pendB (vSt (rsgN N c (pl c) a w))) := by
  have RG := R.gaveR (w := w) hc ha
  have hno : no ≠ 0 := fun h => by have := (R.fr h).1; omega
  have hcnt : cntTo nk (pendB (vSt (rsgN N c (pl c) a w))) = cntTo nk (pendB (m_gave M c (pl c) a w 21)) := pendS RG
  have hchg : chgM (rsgN N c (pl c) a w) nc ne = chgB (m_gave M c (pl c) a w) nc ne := chg_eq RG
  unfold m_settle setN y_edition
  rw [hchg, hcnt]
  by_cases h1 : cntTo nk (pendB (m_gave M c (pl c) a w 21)) = 0
  · rw [if_pos h1]
    by_cases h2 : chgB (m_gave M c (pl c) a w) nc ne = true
    · rw [if_pos h2, if_pos ⟨h1, h2⟩]
      exact ⟨⟨_, _, _, _, _, _, _, _, _, _, RG.edition hne (hcnt.trans h1) hno⟩, rfl⟩
    · rw [if_neg h2, if_neg (fun q => h2 q.2)]
      exact ⟨⟨_, _, _, _, _, _, _, _, _, _, RG⟩, rfl⟩
  · rw [if_neg h1, if_neg (fun q => h1 q.1)]
    exact ⟨⟨_, _, _, _, _, _, _, _, _, _, RG⟩, rfl⟩
end

