/-! the cheapest version, as the reference finds it; doubles and longs -/
theorem fst_ext (p : Nat → Bool) : ∀ (n f : Nat), f + n < 2 ^ 31 → fstD p f (n + 1) = if fstD p f n = -1 then (if p (f + n) = true then nI (f + n) else -1) else fstD p f n
  | 0, f, _ => by rw [fstD, fstD, if_pos rfl, fstD, Nat.add_zero]
  | n + 1, f, h => by
    rw [fstD, fst_ext p n (f + 1) (by omega)]
    conv => rhs; rw [fstD]
    by_cases q : p f = true
    · rw [if_pos q, if_pos q, if_neg (nIm1 (by omega))]
    · rw [if_neg q, if_neg q, show f + 1 + n = f + (n + 1) by omega]
theorem fst_more (p : Nat → Bool) (f n : Nat) (h : ¬ fstD p f n = -1) : ∀ m, f + n + m < 2 ^ 31 → fstD p f (n + m) = fstD p f n
  | 0, _ => rfl
  | m + 1, hm => by rw [← Nat.add_assoc, fst_ext p _ _ (by omega), fst_more p f n h m (by omega), if_neg h]
theorem cp_t {p : Nat → Bool} {f i : Nat} {g : Bool} (hi : f ≤ i) (h9 : i < 2 ^ 30) (hg : g = decide (fstD p f (i - f) = -1)) (hc : g = true) (h : p i = false) : true = decide (fstD p f (i + 1 - f) = -1) := by
  have h1 : fstD p f (i - f) = -1 := of_decide_eq_true (hg.symm.trans hc)
  rw [show i + 1 - f = (i - f) + 1 by omega, fst_ext p _ _ (by omega), if_pos h1, show f + (i - f) = i by omega, h, if_neg (by decide), decide_eq_true rfl]
theorem cp_f {p : Nat → Bool} {f i : Nat} {g : Bool} (hi : f ≤ i) (h9 : i < 2 ^ 30) (hg : g = decide (fstD p f (i - f) = -1)) (hc : g = true) (h : p i = true) : false = decide (fstD p f (i + 1 - f) = -1) := by
  have h1 : fstD p f (i - f) = -1 := of_decide_eq_true (hg.symm.trans hc)
  rw [show i + 1 - f = (i - f) + 1 by omega, fst_ext p _ _ (by omega), if_pos h1, show f + (i - f) = i by omega, h, if_pos rfl, decide_eq_false (nIm1 (by omega))]
theorem cp_F {N : Nat → Nat} {Z : Nat → Nat → Int32} {x y z : Int32} {f w k i : Nat} {g : Bool} (hy : vcl N Z x f w k = (y, z)) (hw : w < 2 ^ 29) (hi : f ≤ i) (hi2 : i ≤ w + 1) (hg : g = decide (fstD (unB N Z x k) f (i - f) = -1)) (hc : g = false) : vcl N Z x f w (k + 1) = (y, z) := by
  have h1 : ¬ fstD (unB N Z x k) f (i - f) = -1 := of_decide_eq_false (hg.symm.trans hc)
  have h2 := fst_more _ f (i - f) h1 (w + 1 - i) (by omega)
  rw [show i - f + (w + 1 - i) = w + 1 - f by omega] at h2
  rw [vcl, hy, if_neg (fun q => h1 (h2.symm.trans q.1))]
theorem cp_T {N : Nat → Nat} {Z : Nat → Nat → Int32} {x y z s : Int32} {f w k i : Nat} {g : Bool} (hy : vcl N Z x f w k = (y, z)) (hi : i = w + 1) (hg : g = decide (fstD (unB N Z x k) f (i - f) = -1)) (hc : g = true) (hs : s = smD (cstD N Z x k) f (i - f)) (h : y = -1 ∨ s < z) : vcl N Z x f w (k + 1) = (nI k, s) := by
  have h1 : fstD (unB N Z x k) f (i - f) = -1 := of_decide_eq_true (hg.symm.trans hc)
  subst hi
  rw [vcl, hy, if_pos ⟨h1, by rw [← hs]; exact h⟩, ← hs]
theorem cp_K {N : Nat → Nat} {Z : Nat → Nat → Int32} {x y z s : Int32} {f w k i : Nat} (hy : vcl N Z x f w k = (y, z)) (hi : i = w + 1) (hs : s = smD (cstD N Z x k) f (i - f)) (h : ¬ y = -1) (h2 : ¬ s < z) : vcl N Z x f w (k + 1) = (y, z) := by
  subst hi
  rw [vcl, hy, if_neg]
  rintro ⟨-, q⟩
  rw [← hs] at q
  exact q.elim h h2
def shr (N : Nat → Nat) (Z : Nat → Nat → Int32) (d : Int32) : UInt64 := if usC Z (N 2) = 0 then FP.dconst1 else FP.ddiv (FP.i2d (usC Z (N 2) - unC N Z d (N 2))) (FP.i2d (usC Z (N 2)))
