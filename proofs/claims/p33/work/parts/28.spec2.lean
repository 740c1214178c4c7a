/-! the calendar's questions about one day -/
theorem isT_nat {i : Int32} {n : Nat} (hn : n < 2 ^ 31) (h : isT i (nI n) = true) : ∃ k, k < n ∧ i = nI k := by
  simp only [isT, Bool.and_eq_true, decide_eq_true_eq] at h
  obtain ⟨k, h1, rfl⟩ := nI_of (x := i) (by rw [Int32.not_lt]; exact h.1)
  exact ⟨k, (nI_ltI h1 hn).mp h.2, rfl⟩
theorem isT_of {k n : Nat} (hn : n < 2 ^ 31) (h : k < n) : isT (nI k) (nI n) = true := by
  simp only [isT, Bool.and_eq_true, decide_eq_true_eq]
  exact ⟨nI_pos' (by omega), (nI_ltI (by omega) hn).mpr h⟩
def plF (N : Nat → Nat) (u v d : Int32) : Int32 := if isT u (nI (N 2)) = true ∧ isT v (nI (N 0)) = true then (if isW d 0 999 = true then 0 else 2) else 1
def slF (N : Nat → Nat) (Z : Nat → Nat → Int32) (u t : Int32) : Int32 := if isT u (nI (N 2)) = true then (if isW t 1 99 = true then (if pled Z u.toNatClampNeg = true ∧ Z 8 u.toNatClampNeg + t ≤ 999 then 0 else 3) else 2) else 1
def exF (N : Nat → Nat) (Z : Nat → Nat → Int32) (v t : Int32) : Int32 := if isT v (nI (N 0)) = true then (if isW t 1 99 = true then (if Z 2 v.toNatClampNeg + t ≤ 1000 then 0 else 3) else 2) else 1
def shF (N : Nat → Nat) (f v a b q : Int32) : Int32 := if isT f (nI (N 1)) = true ∧ isT v (nI (N 0)) = true then (if isW a 0 999 = true ∧ isW b a 999 = true ∧ isW q 1 99 = true then (if N 3 < 12 then 0 else 3) else 2) else 1
def drF (N : Nat → Nat) (t : Int32) : Int32 := if isT t (nI (N 3)) = true then 0 else 1
def ofV (N : Nat → Nat) (Z : Nat → Nat → Int32) (v : Nat) : Nat → Int32
  | 0 => Z 1 v
  | 1 => Z 2 v
  | 2 => Z 4 v
  | 3 => Z 3 v
  | _ => cntFor Z (nI v) (N 3)
def hsv (N : Nat → Nat) (Z : Nat → Nat → Int32) (u : Nat) (f d : Int32) : Int32 :=
  if cnt1 (Z 6 u) f = true then (if d < Z 1 (onN Z u d) then 2 else if Z 2 (onN Z u d) ≤ d then 3 else if cnt1 (Z 4 (onN Z u d)) f = true then 0 else if cnt1 (actS Z (nI (onN Z u d)) d (N 3)) f = true then 1 else 4) else 5
def uns (N : Nat → Nat) (Z : Nat → Nat → Int32) (x : Int32) (v : Nat) (d : Int32) : Int32 := if aliv Z v d = true then x &&& ((Z 4 v ||| actS Z (nI v) d (N 3)) ^^^ (-1)) else x
def unU (N : Nat → Nat) (Z : Nat → Nat → Int32) (u : Nat) (d : Int32) : Int32 := uns N Z (Z 6 u) (onN Z u d) d
def unC (N : Nat → Nat) (Z : Nat → Nat → Int32) (d : Int32) : Nat → Int32
  | 0 => 0
  | u + 1 => unC N Z d u + bc (unU N Z u d)
def stU (N : Nat → Nat) (Z : Nat → Nat → Int32) (d : Int32) : Nat → Int32
  | 0 => 0
  | u + 1 => if unU N Z u d = 0 then stU N Z d u else stU N Z d u ||| ((1 : Int32) <<< (nI u &&& 31))
def cfS (N : Nat → Nat) (Z : Nat → Nat → Int32) (x : Int32) (v : Nat) (d : Int32) : Nat → Int32
  | 0 => 0
  | f + 1 => if cnt1 (x &&& (Z 4 v ^^^ (-1))) (nI f) = true then cfS N Z x v d f + lowP Z (nI f) (nI v) d (N 3) else cfS N Z x v d f
def cst (N : Nat → Nat) (Z : Nat → Nat → Int32) (x : Int32) (v : Nat) (d : Int32) : Int32 := if aliv Z v d = true then cfS N Z x v d (N 1) else 0
def cAl (N : Nat → Nat) (Z : Nat → Nat → Int32) (d : Int32) : Nat → Int32
  | 0 => 0
  | u + 1 => cAl N Z d u + cst N Z (Z 6 u) (onN Z u d) d
def lak (N : Nat → Nat) (Z : Nat → Nat → Int32) (v : Nat) (d : Int32) : Nat → Int32
  | 0 => 0
  | u + 1 => if onN Z u d = v then lak N Z v d u ||| unU N Z u d else lak N Z v d u
def prs (N : Nat → Nat) (Z : Nat → Nat → Int32) (d : Int32) : Nat → Int32
  | 0 => 0
  | v + 1 => if aliv Z v d = true then prs N Z d v + bc (lak N Z v d (N 2)) else prs N Z d v
/-- the version that serves most, and how many it leaves -/
def vsm (N : Nat → Nat) (Z : Nat → Nat → Int32) (x d : Int32) : Nat → Int32 × Int32
  | 0 => (-1, 0)
  | v + 1 => if aliv Z v d = true ∧ ((vsm N Z x d v).1 = -1 ∨ bc (uns N Z x v d) < (vsm N Z x d v).2) then (nI v, bc (uns N Z x v d)) else vsm N Z x d v
def ear (n ch d : Int32) : Int32 := if d < ch ∧ ch < n then ch else n
def nx1 (Z : Nat → Nat → Int32) (d : Int32) : Nat → Int32
  | 0 => 1000
  | v + 1 => ear (ear (nx1 Z d v) (Z 1 v) d) (Z 2 v) d
def nx2 (Z : Nat → Nat → Int32) (d x : Int32) : Nat → Int32
  | 0 => x
  | u + 1 => ear (nx2 Z d x u) (Z 8 u) d
def nx3 (Z : Nat → Nat → Int32) (d x : Int32) : Nat → Int32
  | 0 => x
  | t + 1 => ear (ear (nx3 Z d x t) (Z 13 t) d) (Z 14 t + 1) d
def nxC (N : Nat → Nat) (Z : Nat → Nat → Int32) (d : Int32) : Int32 := nx3 Z d (nx2 Z d (nx1 Z d (N 0)) (N 2)) (N 3)
