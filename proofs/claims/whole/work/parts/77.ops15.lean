/-! resolutions of both: the operation -/
section
variable {M : gM} {nm nc nk ne td no : Nat} {op br : Bool} {mb pl : Nat → Nat}
theorem pendS {S : Nat → Nat → Int32} {N : Nat → Int32} (R : RS S N nm nc nk ne td no op br mb pl) : cntTo nk (pendB (vSt N)) = cntTo nk (pendB (S 20)) := by
  refine cntTo_congr (fun k hk => ?_)
  simp only [pendB]
  rw [(R.com k hk).2.2.2.2.2.2.2.2.1]
theorem cnt_pos {n k : Nat} {p : Nat → Bool} (hk : k < n) (h : p k = true) : cntTo n p ≠ 0 := by
  induction n with
  | zero => omega
  | succ n ih =>
    simp only [cntTo]
    by_cases e : k = n
    · subst e; rw [h]; simp
    · have := ih (by omega); omega
end

