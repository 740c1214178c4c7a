/-! orders, 4: from one to the next -/
theorem ac_sg (tx : Nat → Int32) (L : Nat) (s : Int32) (o : PO) : acO o ≤ acO (pSg tx L s o) := by
  rcases o with ⟨p, ns⟩ | ⟨q, a⟩ | q
  · show p ≤ acO (if chr tx L p = s then pok (p + 1) ns else per p p)
    split
    · exact Nat.le_succ p
    · exact Nat.le_refl p
  · exact Nat.le_refl a
  · show q ≤ acO (if chr tx L q = s then pok (q + 1) [] else per q q)
    split
    · exact Nat.le_succ q
    · exact Nat.le_refl q
theorem ac_dg (tx : Nat → Int32) (L : Nat) (m : Int32) (o : PO) : acO o ≤ acO (pDg tx L m o) := by
  rcases o with ⟨p, ns⟩ | ⟨q, a⟩ | q
  · show p ≤ acO (if isG tx L p m = true then pok (p + 1) (ns ++ [tx p - 48]) else per p p)
    split
    · exact Nat.le_succ p
    · exact Nat.le_refl p
  · exact Nat.le_refl a
  · exact Nat.le_refl q
theorem ac_nm (tx : Nat → Int32) (L k : Nat) (lo : Int32) (o : PO) : acO o ≤ acO (pNm tx L k lo o) := by
  rcases o with ⟨p, ns⟩ | ⟨q, a⟩ | q
  · show p ≤ acO (if ru tx L k p = 0 then per p p else if vn tx p (ru tx L k p) < lo ∧ isG tx L (p + ru tx L k p) 9 = false then per p (p + ru tx L k p) else if isG tx L (p + ru tx L k p) 9 = true then ppe (p + ru tx L k p) else pok (p + ru tx L k p) (ns ++ [vn tx p (ru tx L k p)]))
    split
    · exact Nat.le_refl p
    · split
      · exact Nat.le_add_right p _
      · split <;> exact Nat.le_add_right p _
  · exact Nat.le_refl a
  · exact Nat.le_refl q
theorem ac_1 {tx : Nat → Int32} {L p : Nat} (hp : p < L) : acO (pSg tx L (tx p) (pok p [])) = p + 1 := by
  rw [show pSg tx L (tx p) (pok p []) = pok (p + 1) [] from if_pos (if_pos hp)]; rfl
theorem prs1_npe (tx : Nat → Int32) (L p : Nat) : npe (prs1 tx L p) := by
  unfold prs1
  split
  · exact npe_sg _ _ _ _
  · split
    · exact npe_sg _ _ _ _
    · split
      · exact npe_sg _ _ _ _
      · split
        · exact npe_sg _ _ _ _
        · split
          · exact npe_sg _ _ _ _
          · exact True.intro
theorem prs1_let {tx : Nat → Int32} {L p q : Nat} {ns : List Int32} (h : prs1 tx L p = pok q ns) : tx p = 112 ∨ tx p = 108 ∨ tx p = 101 ∨ tx p = 115 ∨ tx p = 100 := by
  by_cases c1 : tx p = 112
  · exact Or.inl c1
  · by_cases c2 : tx p = 108
    · exact Or.inr (Or.inl c2)
    · by_cases c3 : tx p = 101
      · exact Or.inr (Or.inr (Or.inl c3))
      · by_cases c4 : tx p = 115
        · exact Or.inr (Or.inr (Or.inr (Or.inl c4)))
        · by_cases c5 : tx p = 100
          · exact Or.inr (Or.inr (Or.inr (Or.inr c5)))
          · unfold prs1 at h; rw [if_neg c1, if_neg c2, if_neg c3, if_neg c4, if_neg c5] at h; cases h
theorem prs1_fwd {tx : Nat → Int32} {L p q : Nat} {ns : List Int32} (hp : p < L) (h : prs1 tx L p = pok q ns) : p + 1 ≤ q := by
  have h1 := ac_1 (tx := tx) hp
  have key : p + 1 ≤ acO (prs1 tx L p) := by
    unfold prs1
    split
    · exact Nat.le_trans (Nat.le_of_eq h1.symm) (Nat.le_trans (ac_dg _ _ _ _) (Nat.le_trans (ac_dg _ _ _ _) (Nat.le_trans (ac_sg _ _ _ _) (Nat.le_trans (ac_nm _ _ _ _ _) (ac_sg _ _ _ _)))))
    · split
      · exact Nat.le_trans (Nat.le_of_eq h1.symm) (Nat.le_trans (ac_dg _ _ _ _) (Nat.le_trans (ac_sg _ _ _ _) (Nat.le_trans (ac_nm _ _ _ _ _) (ac_sg _ _ _ _))))
      · split
        · exact Nat.le_trans (Nat.le_of_eq h1.symm) (Nat.le_trans (ac_dg _ _ _ _) (Nat.le_trans (ac_sg _ _ _ _) (Nat.le_trans (ac_nm _ _ _ _ _) (ac_sg _ _ _ _))))
        · split
          · exact Nat.le_trans (Nat.le_of_eq h1.symm) (Nat.le_trans (ac_dg _ _ _ _) (Nat.le_trans (ac_dg _ _ _ _) (Nat.le_trans (ac_sg _ _ _ _) (Nat.le_trans (ac_nm _ _ _ _ _) (Nat.le_trans (ac_sg _ _ _ _) (Nat.le_trans (ac_nm _ _ _ _ _) (Nat.le_trans (ac_sg _ _ _ _) (Nat.le_trans (ac_nm _ _ _ _ _) (ac_sg _ _ _ _)))))))))
          · split
            · exact Nat.le_trans (Nat.le_of_eq h1.symm) (Nat.le_trans (ac_nm _ _ _ _ _) (ac_sg _ _ _ _))
            · rename_i c1 c2 c3 c4 c5
              unfold prs1 at h; rw [if_neg c1, if_neg c2, if_neg c3, if_neg c4, if_neg c5] at h; cases h
  rw [h] at key; exact key
theorem prs1_wf {tx : Nat → Int32} {L p : Nat} (htx : ∀ i, i < L → ¬ tx i = -1) (hp : p < L) : wfo L (prs1 tx L p) := by
  have h0 : wfo L (pSg tx L (tx p) (pok p [])) := wfo_sg (htx p hp) (show p ≤ L by omega)
  unfold prs1
  split
  · exact wfo_sg (by decide) (wfo_nm (wfo_sg (by decide) (wfo_dg (wfo_dg h0))))
  · split
    · exact wfo_sg (by decide) (wfo_nm (wfo_sg (by decide) (wfo_dg h0)))
    · split
      · exact wfo_sg (by decide) (wfo_nm (wfo_sg (by decide) (wfo_dg h0)))
      · split
        · exact wfo_sg (by decide) (wfo_nm (wfo_sg (by decide) (wfo_nm (wfo_sg (by decide) (wfo_nm (wfo_sg (by decide) (wfo_dg (wfo_dg h0))))))))
        · split
          · exact wfo_sg (by decide) (wfo_nm h0)
          · exact ⟨by omega, by omega⟩
theorem or_ns {N : Nat → Nat} {Z : Nat → Nat → Int32} {le w1 w2 w3 w4 w5 : Int32} {ns : List Int32} (h : nms le ns w1 w2 w3 w4 w5) (hl : le = 112 ∨ le = 108 ∨ le = 101 ∨ le = 115 ∨ le = 100) :
    orF N Z le (gtn ns 0) (gtn ns 1) (gtn ns 2) (gtn ns 3) (gtn ns 4) = orF N Z le w1 w2 w3 w4 w5 ∧ apZ N Z le (gtn ns 0) (gtn ns 1) (gtn ns 2) (gtn ns 3) (gtn ns 4) = apZ N Z le w1 w2 w3 w4 w5 := by
  obtain ⟨h1, h2, h3, h4, h5⟩ := h
  rcases hl with c | c | c | c | c
  · rw [h1 c]; unfold orF apZ; simp only [if_pos c]; exact ⟨rfl, rfl⟩
  · rw [h2 c]; unfold orF apZ; simp only [if_neg (show ¬ le = 112 by rw [c]; decide), if_pos c]; exact ⟨rfl, rfl⟩
  · rw [h3 c]; unfold orF apZ; simp only [if_neg (show ¬ le = 112 by rw [c]; decide), if_neg (show ¬ le = 108 by rw [c]; decide), if_pos c]; exact ⟨rfl, rfl⟩
  · rw [h4 c]; unfold orF apZ; simp only [if_neg (show ¬ le = 112 by rw [c]; decide), if_neg (show ¬ le = 108 by rw [c]; decide), if_neg (show ¬ le = 101 by rw [c]; decide), if_pos c]; exact ⟨rfl, rfl⟩
  · rw [h5 c]; unfold orF apZ; simp only [if_neg (show ¬ le = 112 by rw [c]; decide), if_neg (show ¬ le = 108 by rw [c]; decide), if_neg (show ¬ le = 101 by rw [c]; decide), if_neg (show ¬ le = 115 by rw [c]; decide)]; exact ⟨rfl, rfl⟩
theorem chk_ok {tx : Nat → Int32} {L f p q : Nat} {ns : List Int32} (hp : p < L) (h : prs1 tx L p = pok q ns) : chk tx L (f + 1) p = chk tx L f q := by
  rw [chk, if_pos hp, h]
theorem chk_er {tx : Nat → Int32} {L f p q a : Nat} (hp : p < L) (h : prs1 tx L p = per q a) : chk tx L (f + 1) p = some q := by
  rw [chk, if_pos hp, h]
theorem chk_no {tx : Nat → Int32} {L p : Nat} (hp : ¬ p < L) : ∀ f, chk tx L f p = none
  | 0 => rfl
  | f + 1 => by rw [chk, if_neg hp]
theorem cry_no {tx : Nat → Int32} {L p n : Nat} {N : Nat → Nat} {Z : Nat → Nat → Int32} (hp : ¬ p < L) : ∀ f, cry tx L f p N Z n = (n, N, Z)
  | 0 => rfl
  | f + 1 => by rw [cry, if_neg hp]
theorem cry_ok {tx : Nat → Int32} {L f p q n : Nat} {N : Nat → Nat} {Z : Nat → Nat → Int32} {ns : List Int32} {w1 w2 w3 w4 w5 : Int32} (hp : p < L) (h : prs1 tx L p = pok q ns) (hn : nms (tx p) ns w1 w2 w3 w4 w5) (ho : orF N Z (tx p) w1 w2 w3 w4 w5 = 0) : cry tx L (f + 1) p N Z n = cry tx L f q (apN N (tx p)) (apZ N Z (tx p) w1 w2 w3 w4 w5) (n + 1) := by
  have e := or_ns (N := N) (Z := Z) hn (prs1_let h)
  rw [cry, if_pos hp, h]
  show (if orF N Z (tx p) (gtn ns 0) (gtn ns 1) (gtn ns 2) (gtn ns 3) (gtn ns 4) = 0 then _ else _) = _
  rw [e.1, if_pos ho, e.2]
theorem cry_st {tx : Nat → Int32} {L f p q n : Nat} {N : Nat → Nat} {Z : Nat → Nat → Int32} {ns : List Int32} {w1 w2 w3 w4 w5 : Int32} (hp : p < L) (h : prs1 tx L p = pok q ns) (hn : nms (tx p) ns w1 w2 w3 w4 w5) (ho : ¬ orF N Z (tx p) w1 w2 w3 w4 w5 = 0) : cry tx L (f + 1) p N Z n = (n, N, Z) := by
  have e := or_ns (N := N) (Z := Z) hn (prs1_let h)
  rw [cry, if_pos hp, h]
  show (if orF N Z (tx p) (gtn ns 0) (gtn ns 1) (gtn ns 2) (gtn ns 3) (gtn ns 4) = 0 then _ else _) = _
  rw [e.1, if_neg ho]
/-- what the reference has behind carryOut -/
def coP (G : va_G) (T : Nat → ClassId) (r : Nat → Nat) (N : Nat → Nat) (Z : Nat → Nat → Int32) (mm pp xx : Nat → Int32) (sv n1 : Nat) : Option Value → Heap → Prop := fun v9 H9 =>
  (∃ q, chk xx n1 101 0 = some q ∧ v9 = some (.int (-10 - nI q)) ∧ ∃ ac ea le w1 w2 w3 w4 w5 : Int32, va_P G vwCl (wMod T r mm pp xx 0 sv n1 ac ea le w1 w2 w3 w4 w5) H9) ∨
  (chk xx n1 101 0 = none ∧ v9 = some (.int (nI (cry xx n1 101 0 N Z 0).1)) ∧ ∃ (m9 : Nat → Int32) (ac ea le w1 w2 w3 w4 w5 : Int32), wf (cry xx n1 101 0 N Z 0).2.1 (cry xx n1 101 0 N Z 0).2.2 ∧ rel (cry xx n1 101 0 N Z 0).2.1 (cry xx n1 101 0 N Z 0).2.2 m9 ∧ va_P G vwCl (wMod T r m9 (svP sv pp mm) xx 0 (svC sv) n1 ac ea le w1 w2 w3 w4 w5) H9)
