/-! orders, 2: where one stands lies within the text -/
theorem isG9 (tx : Nat → Int32) (L p : Nat) : isG tx L p 9 = isW (chr tx L p) 48 57 := by unfold isG; rw [show (48 + 9 : Int32) = 57 by decide]
def wfo (L : Nat) : PO → Prop
  | .inl (p, _) => p ≤ L
  | .inr (.inl (q, a)) => q ≤ L ∧ a ≤ L
  | .inr (.inr q) => q ≤ L
theorem chr_s {tx : Nat → Int32} {L p : Nat} {s : Int32} (hs : ¬ s = -1) (h : chr tx L p = s) : p < L := by
  by_cases q : p < L
  · exact q
  · unfold chr at h; rw [if_neg q] at h; exact absurd h.symm hs
theorem wfo_dg {tx : Nat → Int32} {L : Nat} {m : Int32} {o : PO} (h : wfo L o) : wfo L (pDg tx L m o) := by
  rcases o with ⟨p, ns⟩ | ⟨q, a⟩ | q
  · show wfo L (if isG tx L p m = true then pok (p + 1) (ns ++ [tx p - 48]) else per p p)
    split
    · rename_i c; exact Nat.succ_le_of_lt (chr_lt c)
    · exact ⟨h, h⟩
  · exact h
  · exact ⟨h, h⟩
theorem wfo_sg {tx : Nat → Int32} {L : Nat} {s : Int32} {o : PO} (hs : ¬ s = -1) (h : wfo L o) : wfo L (pSg tx L s o) := by
  rcases o with ⟨p, ns⟩ | ⟨q, a⟩ | q
  · show wfo L (if chr tx L p = s then pok (p + 1) ns else per p p)
    split
    · rename_i c; exact Nat.succ_le_of_lt (chr_s hs c)
    · exact ⟨h, h⟩
  · exact h
  · show wfo L (if chr tx L q = s then pok (q + 1) [] else per q q)
    split
    · rename_i c; exact Nat.succ_le_of_lt (chr_s hs c)
    · exact ⟨h, h⟩
theorem ru_le {tx : Nat → Int32} {L : Nat} : ∀ k p, p ≤ L → p + ru tx L k p ≤ L
  | 0, p, h => h
  | k + 1, p, h => by
    rw [ru]
    split
    · rename_i c
      have := ru_le (tx := tx) k (p + 1) (Nat.succ_le_of_lt (chr_lt c)); omega
    · exact h
theorem wfo_nm {tx : Nat → Int32} {L k : Nat} {lo : Int32} {o : PO} (h : wfo L o) : wfo L (pNm tx L k lo o) := by
  rcases o with ⟨p, ns⟩ | ⟨q, a⟩ | q
  · have h2 := ru_le (tx := tx) k p (show p ≤ L from h)
    unfold pNm
    show wfo L (if _ then per p p else if _ then per p (p + ru tx L k p) else if _ then ppe (p + ru tx L k p) else pok (p + ru tx L k p) (ns ++ [vn tx p (ru tx L k p)]))
    split
    · exact ⟨h, h⟩
    · split
      · exact ⟨h, h2⟩
      · split
        · exact h2
        · exact h2
  · exact h
  · exact ⟨h, h⟩
theorem nm_ab {tx : Nat → Int32} {L k p j : Nat} {lo : Int32} {ns : List Int32} (hr : ru tx L k p = j) (hj : 1 ≤ j) (h : ¬ vn tx p j < lo ∨ isG tx L (p + j) 9 = true) : acO (pNm tx L k lo (pok p ns)) = p + j ∧ eaO (pNm tx L k lo (pok p ns)) = -1 := by
  have e : pNm tx L k lo (pok p ns) = if isG tx L (p + j) 9 = true then ppe (p + j) else pok (p + j) (ns ++ [vn tx p j]) := by
    show (if ru tx L k p = 0 then per p p else if vn tx p (ru tx L k p) < lo ∧ isG tx L (p + ru tx L k p) 9 = false then per p (p + ru tx L k p) else if isG tx L (p + ru tx L k p) 9 = true then ppe (p + ru tx L k p) else pok (p + ru tx L k p) (ns ++ [vn tx p (ru tx L k p)])) = _
    rw [hr, if_neg (by omega), if_neg]
    rintro ⟨a, b⟩
    rcases h with h | h
    · exact h a
    · rw [h] at b; cases b
  rw [e]
  split <;> exact ⟨rfl, rfl⟩
theorem nm_c {tx : Nat → Int32} {L k p j : Nat} {lo : Int32} {ns : List Int32} (hr : ru tx L k p = j) (hj : 1 ≤ j) (h : vn tx p j < lo) (h2 : isG tx L (p + j) 9 = false) : pNm tx L k lo (pok p ns) = per p (p + j) := by
  show (if ru tx L k p = 0 then per p p else if vn tx p (ru tx L k p) < lo ∧ isG tx L (p + ru tx L k p) 9 = false then per p (p + ru tx L k p) else if isG tx L (p + ru tx L k p) 9 = true then ppe (p + ru tx L k p) else pok (p + ru tx L k p) (ns ++ [vn tx p (ru tx L k p)])) = _
  rw [hr, if_neg (by omega), if_pos ⟨h, h2⟩]
theorem nm_0 {tx : Nat → Int32} {L k p : Nat} {lo : Int32} {ns : List Int32} (hr : ru tx L k p = 0) : pNm tx L k lo (pok p ns) = per p p := if_pos hr
theorem ru_0 {tx : Nat → Int32} {L k p : Nat} (h : isG tx L p 9 = false) : ru tx L k p = 0 := by
  cases k with
  | zero => rfl
  | succ k => rw [ru, if_neg (Bool.eq_false_iff.mp h)]
theorem vn_1 (tx : Nat → Int32) (p : Nat) : tx p - 48 = vn tx p 1 := by
  show tx p - 48 = 10 * 0 + tx (p + 0) - 48
  rw [Int32.mul_zero, Int32.zero_add, Nat.add_zero]
