theorem g_getIv {X : gX} {E : gE} {cc : ByteArray} {own : String} {nL f lo : Nat} {M : gM} {pc n : Nat} {ls : gLs} {st : List Value} {Q : State → Prop} {x : Int32} (hX : gOk X E cc own nL f lo) {idx ci k a : Nat} {fs : List (Option Nat)} (hF : gFl own idx ci k) (hs : shp[a]? = some (0, ci, fs)) (hf : fs[k]? = some none) (hv : M a k = x) (hd : decode cc pc = .ok (.getfield idx, 3)) (hn : pc + 3 = n) (kk : gG X E M n ls (.int x :: st) Q) : gG X E M pc ls (.ref a :: st) Q := g_getI hX hF hs hf hd hn (hv ▸ kk)
theorem g_ialdv {X : gX} {E : gE} {cc : ByteArray} {own : String} {nL f lo : Nat} {M : gM} {pc n : Nat} {ls : gLs} {st : List Value} {Q : State → Prop} {x : Int32} (hX : gOk X E cc own nL f lo) {a N j : Nat} {fs : List (Option Nat)} {i : Int32} (hs : shp[a]? = some (1, N, fs)) (hi : i = nI j) (hj : j < N) (hN : Nat.ble N 5000 = true) (hv : M a j = x) (hd : decode cc pc = .ok (.iaload, 1)) (hn : pc + 1 = n) (kk : gG X E M n ls (.int x :: st) Q) : gG X E M pc ls (.int i :: .ref a :: st) Q := g_iald hX hs hi hj hN hd hn (hv ▸ kk)
theorem g_caldv {X : gX} {E : gE} {cc : ByteArray} {own : String} {nL f lo : Nat} {M : gM} {pc n : Nat} {ls : gLs} {st : List Value} {Q : State → Prop} {x : Int32} (hX : gOk X E cc own nL f lo) {a N j : Nat} {fs : List (Option Nat)} {i : Int32} (hs : shp[a]? = some (2, N, fs)) (hi : i = nI j) (hj : j < N) (hN : Nat.ble N 5000 = true) (hv : M a j = x) (hd : decode cc pc = .ok (.caload, 1)) (hn : pc + 1 = n) (kk : gG X E M n ls (.int x :: st) Q) : gG X E M pc ls (.int i :: .ref a :: st) Q := g_cald hX hs hi hj hN hd hn (hv ▸ kk)
theorem gset_gset (M : gM) (a : Nat) (r s : Nat → Int32) : gset (gset M a r) a s = gset M a s := by
  funext b; simp only [gset]; split <;> rfl
theorem gset_self (M : gM) (a : Nat) : gset M a (M a) = M := by
  funext b; simp only [gset]; split
  · next h => rw [h]
  · rfl
def mapTo (k : Nat) (g r : Nat → Int32) : Nat → Int32 := fun j => if j < k then g j else r j
theorem mapTo_0 (g r : Nat → Int32) : mapTo 0 g r = r := by funext j; simp [mapTo]
theorem mapTo_succ (k : Nat) (g r : Nat → Int32) : upd (mapTo k g r) k (g k) = mapTo (k + 1) g r := by
  funext j
  simp only [upd, mapTo]
  by_cases h : j = k
  · subst h; simp
  · by_cases h2 : j < k
    · simp [h, h2, show j < k + 1 by omega]
    · simp [h, h2, show ¬ j < k + 1 by omega]
theorem upd_s (r : Nat → Int32) (k : Nat) (x : Int32) : upd r k x k = x := by simp [upd]
theorem upd_n (r : Nat → Int32) (x : Int32) {j k : Nat} (h : j ≠ k) : upd r k x j = r j := by simp [upd, h]
/-- a row with x put in at p, the rest behind moved on, up to n -/
def shf (p n : Nat) (r : Nat → Int32) : Nat → Int32 := fun j => if p < j ∧ j ≤ n then r (j - 1) else r j
def insAt (p n : Nat) (x : Int32) (r : Nat → Int32) : Nat → Int32 := upd (shf p n r) p x
theorem shf_0 (n : Nat) (r : Nat → Int32) : shf n n r = r := by
  funext j; simp only [shf]
  rw [if_neg (by omega)]
theorem shf_lo {p n j : Nat} {r : Nat → Int32} (h : j ≤ p) : shf p n r j = r j := if_neg (by omega)
theorem shf_step {p n : Nat} (r : Nat → Int32) (h : p + 1 ≤ n) : upd (shf (p + 1) n r) (p + 1) (shf (p + 1) n r p) = shf p n r := by
  rw [shf_lo (by omega : p ≤ p + 1)]
  funext j
  simp only [upd, shf]
  by_cases h1 : j = p + 1
  · subst h1; rw [if_pos rfl, if_pos (by omega)]; rfl
  · rw [if_neg h1]
    by_cases h2 : p + 1 < j ∧ j ≤ n
    · rw [if_pos h2, if_pos (by omega)]
    · rw [if_neg h2, if_neg (by omega)]
theorem gGM {X : gX} {E : gE} {M M' : gM} {pc : Nat} {ls : gLs} {st : List Value} {Q : State → Prop} (e : M = M') (h : gG X E M' pc ls st Q) : gG X E M pc ls st Q := e ▸ h
theorem upd_same {r : Nat → Int32} {k : Nat} {x : Int32} (h : r k = x) : upd r k x = r := by
  funext j; simp only [upd]; split
  · next e => rw [e, h]
  · rfl

