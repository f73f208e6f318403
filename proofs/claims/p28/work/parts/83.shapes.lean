/-! shapes of the blocks that the constructors make, and how blocks are put together -/
def shBa : List gSh := [(0, 0, [some 1, none, none, none, none]), (1, 6, [])]
def shCo : List gSh := [(0, 1, [some 1, some 2, some 3, some 4, some 5, some 6, some 7, some 8, none, none]), (1, 30, []), (1, 30, []), (1, 30, []), (1, 30, []), (1, 30, []), (1, 30, []), (1, 30, []), (1, 30, [])]
def shDo : List gSh := [(0, 2, [some 1, some 2, some 3, some 4, some 5, some 6, none, none]), (1, 20, []), (1, 20, []), (1, 20, []), (1, 12, []), (1, 240, []), (1, 240, [])]
def shMe : List gSh := [(0, 4, [some 1, some 2, some 3, some 4, none]), (1, 10, []), (1, 10, []), (1, 10, []), (1, 10, [])]
def shTx : List gSh := [(0, 6, [some 1, none, none, none, none, none, none]), (2, 80, [])]
def shMo : List gSh := [(0, 8, [some 1, some 2, none, some 3, none, none, none, none, none, none, none, none]), (1, 1213, []), (1, 4852, []), (1, 80, [])]
def zA : gM := fun _ _ => 0
def zD : gM := fun a => match a with
  | 0 => upd (fun _ => 0) 7 1
  | _ => fun _ => 0
def zN : gM := fun a => match a with
  | 1 => upd (upd (upd (upd (upd (upd (fun _ => 0) 2 1) 12 50) 13 67) 14 30) 15 14) 16 2
  | _ => fun _ => 0
def gsf (k : Nat) (q : gSh) : gSh := (q.1, q.2.1, q.2.2.map (Option.map (· + k)))
def gcat (s1 s2 : List gSh) : List gSh := s1 ++ s2.map (gsf s1.length)
def glu {α : Type} (n : Nat) (f g : Nat → α) : Nat → α := fun a => if a < n then f a else g (a - n)
def gcl (s : List gSh) : Bool := s.all (fun q => q.2.2.all (fun o => match o with
  | some b => Nat.blt b s.length
  | none => true))
theorem gfs_congr {ρ ρ' : Nat → Nat} {r : Nat → Int32} : ∀ (l : List (Option Nat)) (k : Nat), (∀ b, some b ∈ l → ρ b = ρ' b) → gfs ρ r k l = gfs ρ' r k l := by
  intro l
  induction l with
  | nil => intro k _; rfl
  | cons o l ih =>
    intro k h
    have ht := ih (k + 1) (fun b hb => h b (List.mem_cons_of_mem _ hb))
    cases o with
    | none => simp only [gfs, ht]
    | some b => simp only [gfs, ht, h b List.mem_cons_self]
theorem gfs_map {ρ : Nat → Nat} {r : Nat → Int32} {g : Nat → Nat} : ∀ (l : List (Option Nat)) (k : Nat), gfs ρ r k (l.map (Option.map g)) = gfs (fun b => ρ (g b)) r k l := by
  intro l
  induction l with
  | nil => intro k; rfl
  | cons o l ih => intro k; cases o <;> simp [gfs, ih]
theorem gcell_congr {B : bB} {ρ ρ' : Nat → Nat} {r : Nat → Int32} {q : gSh} (h : ∀ b, some b ∈ q.2.2 → ρ b = ρ' b) : gcell (bE B ρ) r q = gcell (bE B ρ') r q := by
  obtain ⟨t, n, l⟩ := q
  match t with
  | 0 => exact congrArg (fun z => (Sum.inr (n, z) : va_E)) (gfs_congr l 0 h)
  | 1 => rfl
  | 2 => rfl
  | t + 3 =>
    have e : (fun k => (l.getD k none).map ρ) = (fun k => (l.getD k none).map ρ') := by
      funext k
      cases hk : l.getD k none with
      | none => rfl
      | some b =>
        have hm : some b ∈ l := by
          rw [List.getD_eq_getElem?_getD] at hk
          cases hq : l[k]? with
          | none => rw [hq] at hk; cases hk
          | some o => rw [hq] at hk; exact hk ▸ List.mem_of_getElem? hq
        show some (ρ b) = some (ρ' b)
        rw [h b hm]
    exact congrArg (fun z => (Sum.inl (B.2.2.2.2, n, Sum.inr (Sum.inr (Sum.inr (Sum.inr z)))) : va_E)) e
theorem gcell_map {B : bB} {ρ g : Nat → Nat} {r : Nat → Int32} {q : gSh} : gcell (bE B ρ) r (q.1, q.2.1, q.2.2.map (Option.map g)) = gcell (bE B (fun b => ρ (g b))) r q := by
  obtain ⟨t, n, l⟩ := q
  match t with
  | 0 => exact congrArg (fun z => (Sum.inr (n, z) : va_E)) (gfs_map l 0)
  | 1 => rfl
  | 2 => rfl
  | t + 3 =>
    have e : (fun k => ((l.map (Option.map g)).getD k none).map ρ) = (fun k => (l.getD k none).map (fun b => ρ (g b))) := by
      funext k
      rw [List.getD_eq_getElem?_getD, List.getD_eq_getElem?_getD, List.getElem?_map]
      cases l[k]? with
      | none => rfl
      | some o => cases o <;> rfl
    exact congrArg (fun z => (Sum.inl (B.2.2.2.2, n, Sum.inr (Sum.inr (Sum.inr (Sum.inr z)))) : va_E)) e
theorem blk_get {B : bB} {ρ : Nat → Nat} {sh : List gSh} {M : gM} {a : Nat} {q : gSh} (h : sh[a]? = some q) : (blk B ρ sh M)[a]? = some (ρ a, gcell (bE B ρ) (M a) q) := by
  simp [blk, List.getElem?_mapIdx, h]
theorem blk_inv {B : bB} {ρ : Nat → Nat} {sh : List gSh} {M : gM} {k : Nat} {q : Nat × va_E} (h : (blk B ρ sh M)[k]? = some q) : ∃ s : gSh, sh[k]? = some s ∧ q = (ρ k, gcell (bE B ρ) (M k) s) := by
  simp only [blk, List.getElem?_mapIdx, Option.map_eq_some_iff] at h
  obtain ⟨s, h1, h2⟩ := h
  exact ⟨s, h1, h2.symm⟩
theorem blk_len {B : bB} {ρ : Nat → Nat} {sh : List gSh} {M : gM} : (blk B ρ sh M).length = sh.length := by simp [blk]
/-- two blocks side by side are one block -/
theorem blk_cat {B : bB} {ρ1 ρ2 : Nat → Nat} {s1 s2 : List gSh} {M1 M2 : gM} {n : Nat} (hn : s1.length = n) (hc : gcl s1 = true) : blk B (glu n ρ1 ρ2) (gcat s1 s2) (glu n M1 M2) = blk B ρ1 s1 M1 ++ blk B ρ2 s2 M2 := by
  subst hn
  apply List.ext_getElem?
  intro i
  have hcl : ∀ (a : Nat) (q : gSh), s1[a]? = some q → ∀ b, some b ∈ q.2.2 → b < s1.length := by
    intro a q hq b hb
    have h1 := List.all_eq_true.mp hc q (List.mem_of_getElem? hq)
    have h2 := List.all_eq_true.mp h1 (some b) hb
    exact Nat.le_of_ble_eq_true h2
  by_cases hi : i < s1.length
  · rw [List.getElem?_append_left (by rw [blk_len]; exact hi)]
    have hq : s1[i]? = some s1[i] := List.getElem?_eq_getElem hi
    have hq2 : (gcat s1 s2)[i]? = some s1[i] := by rw [gcat, List.getElem?_append_left hi]; exact hq
    rw [blk_get hq, blk_get hq2]
    have e1 : glu s1.length ρ1 ρ2 i = ρ1 i := if_pos hi
    have e2 : glu s1.length M1 M2 i = M1 i := if_pos hi
    rw [e1, e2, gcell_congr (ρ := glu s1.length ρ1 ρ2) (ρ' := ρ1) (fun b hb => if_pos (hcl i _ hq b hb))]
  · have hi' : s1.length ≤ i := Nat.not_lt.mp hi
    rw [List.getElem?_append_right (by rw [blk_len]; exact hi'), blk_len]
    have e1 : glu s1.length ρ1 ρ2 i = ρ2 (i - s1.length) := if_neg hi
    have e2 : glu s1.length M1 M2 i = M2 (i - s1.length) := if_neg hi
    cases hq : s2[i - s1.length]? with
    | none =>
      have h1 : (gcat s1 s2)[i]? = none := by rw [gcat, List.getElem?_append_right hi', List.getElem?_map, hq]; rfl
      have h2 : (blk B ρ2 s2 M2)[i - s1.length]? = none := by simp [blk, List.getElem?_mapIdx, hq]
      have h3 : (blk B (glu s1.length ρ1 ρ2) (gcat s1 s2) (glu s1.length M1 M2))[i]? = none := by simp [blk, List.getElem?_mapIdx, h1]
      rw [h2, h3]
    | some q =>
      have h1 : (gcat s1 s2)[i]? = some (gsf s1.length q) := by rw [gcat, List.getElem?_append_right hi', List.getElem?_map, hq]; rfl
      rw [blk_get h1, blk_get hq, e1, e2, gsf, gcell_map, gcell_congr (ρ := fun b => glu s1.length ρ1 ρ2 (b + s1.length)) (ρ' := ρ2) (fun b _ => by
        show (if b + s1.length < s1.length then ρ1 (b + s1.length) else ρ2 (b + s1.length - s1.length)) = ρ2 b
        rw [if_neg (by omega), Nat.add_sub_cancel])]
def gpre {α : Type} (x : α) (f : Nat → α) : Nat → α := fun a => match a with
  | 0 => x
  | a + 1 => f a
/-- a cell ahead of a block -/
theorem blk_cons {B : bB} {ρ : Nat → Nat} {x : Nat} {q : gSh} {s : List gSh} {M : gM} {r : Nat → Int32} : blk B (gpre x ρ) (q :: s.map (gsf 1)) (gpre r M) = (x, gcell (bE B (gpre x ρ)) r q) :: blk B ρ s M := by
  apply List.ext_getElem?
  intro i
  cases i with
  | zero => exact blk_get (a := 0) rfl
  | succ i =>
    rw [List.getElem?_cons_succ]
    cases hq : s[i]? with
    | none =>
      have h1 : (q :: s.map (gsf 1))[i + 1]? = none := by rw [List.getElem?_cons_succ, List.getElem?_map, hq]; rfl
      have h2 : (blk B ρ s M)[i]? = none := by simp [blk, List.getElem?_mapIdx, hq]
      have h3 : (blk B (gpre x ρ) (q :: s.map (gsf 1)) (gpre r M))[i + 1]? = none := by simp [blk, List.getElem?_mapIdx, hq]
      rw [h2, h3]
    | some t =>
      have h1 : (q :: s.map (gsf 1))[i + 1]? = some (gsf 1 t) := by rw [List.getElem?_cons_succ, List.getElem?_map, hq]; rfl
      rw [blk_get h1, blk_get hq, gsf, gcell_map]
      rfl

