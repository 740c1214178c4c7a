/-! what the system reads is what prs1 says -/
theorem nm_t {tx : Nat → Int32} {L k p : Nat} {lo : Int32} {ns : List Int32} (h : numB tx L k lo p = true) : pNm tx L k lo (pok p ns) = pok (p + ru tx L k p) (ns ++ [vn tx p (ru tx L k p)]) := by
  unfold numB at h
  simp only [Bool.and_eq_true, Bool.not_eq_true', decide_eq_false_iff_not] at h
  obtain ⟨h1, h2, h3⟩ := h
  exact (if_neg h1).trans ((if_neg (fun q => h3 q.1)).trans (if_neg (Bool.eq_false_iff.mp h2)))
theorem nm_f {tx : Nat → Int32} {L k p : Nat} {lo s : Int32} {ns : List Int32} (hk : 1 ≤ k) (hs : isW s 48 57 = false) (h : numB tx L k lo p = false) : ∃ a, pSg tx L s (pNm tx L k lo (pok p ns)) = per (numE tx L k p) a := by
  by_cases c1 : ru tx L k p = 0
  · rw [show pNm tx L k lo (pok p ns) = per p p from if_pos c1]
    have hg : isG tx L p 9 = false := by
      obtain ⟨k', rfl⟩ : ∃ k', k = k' + 1 := ⟨k - 1, by omega⟩
      rw [ru] at c1
      split at c1
      · omega
      · rename_i q; exact Bool.eq_false_iff.mpr q
    refine ⟨p, ?_⟩
    unfold numE
    rw [c1, Nat.add_zero, hg, if_neg (by decide)]
    rfl
  · by_cases c3 : isG tx L (p + ru tx L k p) 9 = true
    · rw [show pNm tx L k lo (pok p ns) = ppe (p + ru tx L k p) from (if_neg c1).trans ((if_neg (fun q => by rw [c3] at q; exact absurd q.2 (by decide))).trans (if_pos c3))]
      refine ⟨p + ru tx L k p, ?_⟩
      unfold numE
      rw [if_pos c3]
      show (if chr tx L (p + ru tx L k p) = s then pok (p + ru tx L k p + 1) [] else per (p + ru tx L k p) (p + ru tx L k p)) = _
      rw [if_neg (fun q => by rw [isG9, q, hs] at c3; cases c3)]
    · have c4 : isG tx L (p + ru tx L k p) 9 = false := Bool.eq_false_iff.mpr c3
      have c2 : vn tx p (ru tx L k p) < lo := by
        by_cases q : vn tx p (ru tx L k p) < lo
        · exact q
        · unfold numB at h
          rw [decide_eq_false c1, c4, decide_eq_false q] at h
          exact absurd h (by decide)
      rw [show pNm tx L k lo (pok p ns) = per p (p + ru tx L k p) from (if_neg c1).trans (if_pos ⟨c2, c4⟩)]
      refine ⟨p + ru tx L k p, ?_⟩
      unfold numE
      rw [if_neg c3]
      rfl
theorem isG7 (tx : Nat → Int32) (L p : Nat) : isG tx L p 7 = isW (chr tx L p) 48 55 := by unfold isG; rw [show (48 + 7 : Int32) = 55 by decide]
