/-! what the calendar's writers do to its rows -/
def vAdd (N : Nat → Nat) (Z : Nat → Nat → Int32) (x z : Int32) : Nat → Nat → Int32 := va_up (va_up (va_up (va_up Z 1 (upd (Z 1) (N 0) x)) 2 (upd (Z 2) (N 0) z)) 3 (upd (Z 3) (N 0) 0)) 4 (upd (Z 4) (N 0) 0)
def vExt (Z : Nat → Nat → Int32) (v : Nat) (t : Int32) : Nat → Nat → Int32 := va_up (va_up Z 2 (upd (Z 2) v (Z 2 v + t))) 3 (upd (Z 3) v (Z 3 v + t))
def uPl (Z : Nat → Nat → Int32) (u : Nat) (v d : Int32) : Nat → Nat → Int32 := va_up (va_up Z 7 (upd (Z 7) u v)) 8 (upd (Z 8) u d)
def uSl (Z : Nat → Nat → Int32) (u : Nat) (t : Int32) : Nat → Nat → Int32 := va_up (va_up (va_up Z 8 (upd (Z 8) u (Z 8 u + t))) 9 (upd (Z 9) u (Z 9 u + 1))) 10 (upd (Z 10) u (Z 10 u + t))
def uAdd (N : Nat → Nat) (Z : Nat → Nat → Int32) (v x : Int32) : Nat → Nat → Int32 := va_up (va_up (va_up (va_up (va_up (va_up Z 5 (upd (Z 5) (N 2) v)) 6 (upd (Z 6) (N 2) x)) 7 (upd (Z 7) (N 2) (-1))) 8 (upd (Z 8) (N 2) (-1))) 9 (upd (Z 9) (N 2) 0)) 10 (upd (Z 10) (N 2) 0)
def sAdd (N : Nat → Nat) (Z : Nat → Nat → Int32) (f v x z q : Int32) : Nat → Nat → Int32 := va_up (va_up (va_up (va_up (va_up Z 11 (upd (Z 11) (N 3) f)) 12 (upd (Z 12) (N 3) v)) 13 (upd (Z 13) (N 3) x)) 14 (upd (Z 14) (N 3) z)) 15 (upd (Z 15) (N 3) q)
def shf (f : Nat → Int32) (t k : Nat) : Nat → Int32 := fun j => if t ≤ j ∧ j < k then f (j + 1) else f j
theorem shf_0 (f : Nat → Int32) (t : Nat) : shf f t t = f := by
  funext j; unfold shf; rw [if_neg (by omega)]
theorem shf_s (f : Nat → Int32) {t k : Nat} (h : t ≤ k) : upd (shf f t k) k (shf f t k (k + 1)) = shf f t (k + 1) := by
  funext j
  by_cases q : j = k
  · subst q; rw [pk_us]; unfold shf; rw [if_neg (by omega), if_pos (by omega)]
  · rw [pk_un q]; unfold shf
    by_cases r : t ≤ j ∧ j < k
    · rw [if_pos r, if_pos (by omega)]
    · rw [if_neg r, if_neg (by omega)]
def sDel (Z : Nat → Nat → Int32) (t n : Nat) : Nat → Nat → Int32 := va_up (va_up (va_up (va_up (va_up Z 11 (shf (Z 11) t n)) 12 (shf (Z 12) t n)) 13 (shf (Z 13) t n)) 14 (shf (Z 14) t n)) 15 (shf (Z 15) t n)
def apF (g : Nat → Int32) (x : Int32) (f : Nat) : Nat → Nat → Int32
  | 0 => g
  | k + 1 => if cnt1 x (nI k) = true then upd (apF g x f k) k (apF g x f k k ||| ((1 : Int32) <<< (nI f &&& 31))) else apF g x f k
