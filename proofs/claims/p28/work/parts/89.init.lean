/-! the memory at the start, and the relation there -/
def shT : List gSh := shCb
def zT : gM := zCb
def gpi (a : Nat) : Nat := if a < 26 then a else if a < 126 then a + 2 else if a < 128 then a - 100 else a
def M0 : gM := fun a => zT (gpi a)
theorem shT_ok : ∀ a, a < 130 → shT[gpi a]? = (shp[a]?).map (fun q => ((q.1, q.2.1, q.2.2.map (Option.map gpi)) : gSh)) := by decide +kernel
theorem shp_cl : gcl shp = true := by decide +kernel
def gpn (a : Nat) : Nat := if a < 26 then a else if a < 28 then a + 100 else if a < 128 then a - 2 else a
theorem gpn_pi : ∀ a, a < 130 → gpn (gpi a) = a := by decide +kernel
theorem gpi_inj {a b : Nat} (ha : a < 130) (hb : b < 130) (h : gpi a = gpi b) : a = b := by
  rw [← gpn_pi a ha, ← gpn_pi b hb, h]
theorem relab {B : bB} {ρ ρT : Nat → Nat} {H : Heap} {A : Nat → Prop} (hρ : ∀ a, a < 130 → ρ a = ρT (gpi a)) (hP : va_P B.2.1 vwCl (blk B ρT shT zT) H) (hD : va_D A (blk B ρT shT zT)) : va_P B.2.1 vwCl (gws (bE B ρ) M0) H ∧ (∀ a b, a < 130 → b < 130 → ρ a = ρ b → a = b) ∧ (∀ a, a < 130 → A (ρ a)) := by
  have hsh : ∀ a, a < 130 → ∃ q : gSh, shp[a]? = some q := fun a ha => ⟨_, List.getElem?_eq_getElem (show a < shp.length from ha)⟩
  have hat : ∀ (a : Nat) (q : gSh), shp[a]? = some q → (blk B ρT shT zT)[gpi a]? = some (ρ a, gcell (bE B ρ) (M0 a) q) := by
    intro a q hq
    have ha : a < 130 := (List.getElem?_eq_some_iff.mp hq).1
    have h1 := shT_ok a ha
    rw [hq] at h1
    rw [blk_get h1, hρ a ha, gcell_map, gcell_congr (ρ := fun b => ρT (gpi b)) (ρ' := ρ) (fun b hb => (hρ b ?_).symm)]
    · rfl
    · have h2 := List.all_eq_true.mp shp_cl q (List.mem_of_getElem? hq)
      have h3 := List.all_eq_true.mp h2 (some b) hb
      exact Nat.le_of_ble_eq_true h3
  refine ⟨fun k x hk => ?_, fun a b ha hb e => ?_, fun a ha => ?_⟩
  · obtain ⟨q, hq, rfl⟩ := gws_inv hk
    exact hP _ _ (hat k q hq)
  · obtain ⟨q1, h1⟩ := hsh a ha
    obtain ⟨q2, h2⟩ := hsh b hb
    exact gpi_inj ha hb (hD.1 _ _ _ _ (hat a q1 h1) (hat b q2 h2) e)
  · obtain ⟨q1, h1⟩ := hsh a ha
    exact hD.2 _ _ (hat a q1 h1)
theorem WH0 : WH M0 0 0 := ⟨by decide +kernel, by decide, by decide +kernel, by decide⟩
theorem J0 : J M0 0 0 0 1 0 0 false false (fun _ => 0) (fun _ => 0) := by
  refine ⟨⟨⟨by decide +kernel, by decide⟩, ⟨by decide +kernel, by decide⟩, ⟨by decide +kernel, by decide⟩, ⟨by decide +kernel, by decide, by decide⟩, ⟨by decide +kernel, by decide +kernel⟩, fun k hk => absurd hk (Nat.not_lt_zero _)⟩, fun k hk => absurd hk (Nat.not_lt_zero _), fun k hk => absurd hk (Nat.not_lt_zero _), by decide +kernel, ⟨by decide +kernel, by decide⟩, fun _ => Nat.le_refl _, fun q => (by cases q), fun k hk => absurd hk (Nat.not_lt_zero _), fun k hk => absurd hk (Nat.not_lt_zero _), fun j k _ hk => absurd hk (Nat.not_lt_zero _), fun k hk => absurd hk (Nat.not_lt_zero _), fun k hk => absurd hk (Nat.not_lt_zero _), by decide +kernel, fun _ q => absurd q (Nat.lt_irrefl _), fun _ => ⟨rfl, rfl, rfl, rfl⟩, fun q => absurd q (Nat.lt_irrefl _), fun q => (by cases q), fun e h2 h1 => by omega, fun _ k hk => absurd hk (Nat.not_lt_zero _), fun q => absurd q (Nat.lt_irrefl _), fun q => absurd q (Nat.lt_irrefl _)⟩
theorem LI0 : LI M0 := ⟨0, 0, 0, 1, 0, 0, 0, 0, false, false, fun _ => 0, fun _ => 0, fun _ => 0, J0, WH0, fun q => (by cases q), ⟨by decide +kernel, by decide, fun i hi => absurd hi (Nat.not_lt_zero _)⟩⟩

