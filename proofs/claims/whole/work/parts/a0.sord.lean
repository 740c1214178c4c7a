/-! the system's reader of orders -/
def isN (tx : Nat → Int32) (L p : Nat) (lo hi : Int32) : Bool := decide (p < L) && isW (tx p) lo hi
/-- what is next lies within lo .. hi, said of the character there (-1 at the end) -/
theorem isN_chr {tx : Nat → Int32} {L p : Nat} {lo hi : Int32} (h0 : ¬ lo ≤ -1) : isN tx L p lo hi = isW (chr tx L p) lo hi := by
  unfold isN chr
  by_cases q : p < L
  · rw [decide_eq_true q, if_pos q, Bool.true_and]
  · rw [decide_eq_false q, if_neg q, Bool.false_and]
    unfold isW; rw [decide_eq_false h0, Bool.false_and]
theorem isN_s {tx : Nat → Int32} {L p : Nat} {s : Int32} (h0 : ¬ s = -1) : isN tx L p s s = decide (chr tx L p = s) := by
  unfold isN chr
  by_cases q : p < L
  · rw [decide_eq_true q, if_pos q, Bool.true_and]
    unfold isW
    by_cases e : tx p = s
    · rw [e, decide_eq_true rfl, decide_eq_true (Int32.le_refl s)]; rfl
    · rw [decide_eq_false e]
      by_cases a : s ≤ tx p
      · rw [decide_eq_true a, Bool.true_and, decide_eq_false]
        intro b
        rw [i3le] at a b
        exact e ((i3eq _ _).mpr (by omega))
      · rw [decide_eq_false a, Bool.false_and]
  · rw [decide_eq_false q, if_neg q, Bool.false_and, decide_eq_false (fun e => h0 e.symm)]
theorem chr_w {tx : Nat → Int32} {L p : Nat} {hi : Int32} (h : isW (chr tx L p) 48 hi = true) : p < L := by
  by_cases q : p < L
  · exact q
  · unfold chr at h
    rw [if_neg q] at h
    simp only [isW, Bool.and_eq_true, decide_eq_true_eq] at h
    exact absurd h.1 (by decide)
def numB (tx : Nat → Int32) (L k : Nat) (lo : Int32) (p : Nat) : Bool := !decide (ru tx L k p = 0) && (!isG tx L (p + ru tx L k p) 9 && !decide (vn tx p (ru tx L k p) < lo))
def numE (tx : Nat → Int32) (L k p : Nat) : Nat := if isG tx L (p + ru tx L k p) 9 = true then p + ru tx L k p else p
theorem isG_no {tx : Nat → Int32} {L p : Nat} (h : ¬ p < L) (m : Int32) : isG tx L p m = false := Bool.eq_false_iff.mpr (fun q => h (chr_lt q))
theorem num_of {tx : Nat → Int32} {L k p j : Nat} {lo : Int32} (hr : ru tx L k p = j) : numB tx L k lo p = (!decide (j = 0) && (!isG tx L (p + j) 9 && !decide (vn tx p j < lo))) ∧ numE tx L k p = if isG tx L (p + j) 9 = true then p + j else p := by
  unfold numB numE; rw [hr]; exact ⟨rfl, rfl⟩
