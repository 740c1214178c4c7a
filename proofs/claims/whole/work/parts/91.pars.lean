/-! orders, as they are read: PO is where one stands: pok, at an error (q, where it stopped), or behind a number that goes on too long -/
abbrev PO : Type := (Nat × List Int32) ⊕ ((Nat × Nat) ⊕ Nat)
abbrev pok (p : Nat) (ns : List Int32) : PO := .inl (p, ns)
abbrev per (q a : Nat) : PO := .inr (.inl (q, a))
abbrev ppe (q : Nat) : PO := .inr (.inr q)
def acO : PO → Nat
  | .inl (p, _) => p
  | .inr (.inl (_, a)) => a
  | .inr (.inr q) => q
def eaO : PO → Int32
  | .inl (_, _) => -1
  | .inr (.inl (q, _)) => nI q
  | .inr (.inr _) => -1
def chr (tx : Nat → Int32) (L p : Nat) : Int32 := if p < L then tx p else -1
abbrev isG (tx : Nat → Int32) (L p : Nat) (m : Int32) : Bool := isW (chr tx L p) 48 (48 + m)
def pDg (tx : Nat → Int32) (L : Nat) (m : Int32) : PO → PO
  | .inl (p, ns) => if isG tx L p m = true then pok (p + 1) (ns ++ [tx p - 48]) else per p p
  | .inr (.inl (q, a)) => per q a
  | .inr (.inr q) => per q q
def dgv (tx : Nat → Int32) (L : Nat) (m : Int32) : PO → Int32
  | .inl (p, _) => if isG tx L p m = true then tx p - 48 else 0
  | _ => 0
def pSg (tx : Nat → Int32) (L : Nat) (s : Int32) : PO → PO
  | .inl (p, ns) => if chr tx L p = s then pok (p + 1) ns else per p p
  | .inr (.inl (q, a)) => per q a
  | .inr (.inr q) => if chr tx L q = s then pok (q + 1) [] else per q q
def ru (tx : Nat → Int32) (L : Nat) : Nat → Nat → Nat
  | 0, _ => 0
  | k + 1, p => if isG tx L p 9 = true then ru tx L k (p + 1) + 1 else 0
def vn (tx : Nat → Int32) (p : Nat) : Nat → Int32
  | 0 => 0
  | r + 1 => 10 * vn tx p r + tx (p + r) - 48
def pNm (tx : Nat → Int32) (L k : Nat) (lo : Int32) : PO → PO
  | .inl (p, ns) => if ru tx L k p = 0 then per p p else if vn tx p (ru tx L k p) < lo ∧ isG tx L (p + ru tx L k p) 9 = false then per p (p + ru tx L k p) else if isG tx L (p + ru tx L k p) 9 = true then ppe (p + ru tx L k p) else pok (p + ru tx L k p) (ns ++ [vn tx p (ru tx L k p)])
  | .inr (.inl (q, a)) => per q a
  | .inr (.inr q) => per q q
def nmv (tx : Nat → Int32) (L k : Nat) : PO → Int32
  | .inl (p, _) => vn tx p (ru tx L k p)
  | _ => 0
def npe : PO → Prop
  | .inr (.inr _) => False
  | _ => True
theorem npe_dg (tx : Nat → Int32) (L : Nat) (m : Int32) (o : PO) : npe (pDg tx L m o) := by
  rcases o with ⟨p, ns⟩ | ⟨q, a⟩ | q
  · show npe (if isG tx L p m = true then pok (p + 1) (ns ++ [tx p - 48]) else per p p)
    split <;> exact True.intro
  · exact True.intro
  · exact True.intro
theorem npe_sg (tx : Nat → Int32) (L : Nat) (s : Int32) (o : PO) : npe (pSg tx L s o) := by
  rcases o with ⟨p, ns⟩ | ⟨q, a⟩ | q
  · show npe (if chr tx L p = s then pok (p + 1) ns else per p p)
    split <;> exact True.intro
  · exact True.intro
  · show npe (if chr tx L q = s then pok (q + 1) [] else per q q)
    split <;> exact True.intro
theorem chr_lt {tx : Nat → Int32} {L p : Nat} {m : Int32} (h : isG tx L p m = true) : p < L := by
  by_cases q : p < L
  · exact q
  · unfold isG chr at h
    rw [if_neg q] at h
    simp only [isW, Bool.and_eq_true, decide_eq_true_eq] at h
    exact absurd h.1 (by decide)
theorem ru_more {tx : Nat → Int32} {L p k : Nat} : ∀ j, j ≤ k → (∀ i, i < j → isG tx L (p + i) 9 = true) → ru tx L k p = j + ru tx L (k - j) (p + j) := by
  intro j
  induction j generalizing p k with
  | zero => intro _ _; rw [Nat.zero_add]; rfl
  | succ j ih =>
    intro hj h
    obtain ⟨k', rfl⟩ : ∃ k', k = k' + 1 := ⟨k - 1, by omega⟩
    rw [ru, if_pos (show isG tx L p 9 = true from h 0 (by omega)), ih (p := p + 1) (k := k') (by omega) (fun i hi => by rw [show p + 1 + i = p + (i + 1) by omega]; exact h (i + 1) (by omega))]
    rw [show k' + 1 - (j + 1) = k' - j by omega, show p + 1 + j = p + (j + 1) by omega]; omega
theorem ru_end {tx : Nat → Int32} {L p k j : Nat} (hj : j ≤ k) (h : ∀ i, i < j → isG tx L (p + i) 9 = true) (he : j = k ∨ isG tx L (p + j) 9 = false) : ru tx L k p = j := by
  rw [ru_more j hj h]
  rcases he with rfl | he
  · rw [Nat.sub_self, ru]; omega
  · cases e : k - j with
    | zero => rw [ru]; omega
    | succ n => rw [ru, he, if_neg (by decide)]; omega
/-- an order from p on -/
def prs1 (tx : Nat → Int32) (L p : Nat) : PO :=
  if tx p = 112 then pSg tx L 59 (pNm tx L 3 0 (pSg tx L 64 (pDg tx L 7 (pDg tx L 9 (pSg tx L (tx p) (pok p []))))))
  else if tx p = 108 then pSg tx L 59 (pNm tx L 2 1 (pSg tx L 43 (pDg tx L 9 (pSg tx L (tx p) (pok p [])))))
  else if tx p = 101 then pSg tx L 59 (pNm tx L 2 1 (pSg tx L 43 (pDg tx L 7 (pSg tx L (tx p) (pok p [])))))
  else if tx p = 115 then pSg tx L 59 (pNm tx L 2 1 (pSg tx L 44 (pNm tx L 3 0 (pSg tx L 45 (pNm tx L 3 0 (pSg tx L 58 (pDg tx L 7 (pDg tx L 9 (pSg tx L (tx p) (pok p []))))))))))
  else if tx p = 100 then pSg tx L 59 (pNm tx L 2 0 (pSg tx L (tx p) (pok p [])))
  else per p p
/-- the numbers of an order that was read -/
def nms (le : Int32) (ns : List Int32) (w1 w2 w3 w4 w5 : Int32) : Prop :=
  (le = 112 → ns = [w1, w2, w3]) ∧ (le = 108 → ns = [w1, w2]) ∧ (le = 101 → ns = [w1, w2]) ∧ (le = 115 → ns = [w1, w2, w3, w4, w5]) ∧ (le = 100 → ns = [w1])
