/-! orders, 3: the numbers of an order that was read -/
theorem dg_inv {tx : Nat → Int32} {L q : Nat} {m : Int32} {o : PO} {ns : List Int32} (h : pDg tx L m o = pok q ns) : ∃ p0 n0, o = pok p0 n0 ∧ ns = n0 ++ [dgv tx L m o] := by
  rcases o with ⟨p, n0⟩ | ⟨q0, a⟩ | q0
  · replace h : (if isG tx L p m = true then pok (p + 1) (n0 ++ [tx p - 48]) else per p p) = pok q ns := h
    split at h
    · rename_i c
      cases h
      exact ⟨p, n0, rfl, by show _ = n0 ++ [if isG tx L p m = true then tx p - 48 else 0]; rw [if_pos c]⟩
    · cases h
  · cases h
  · cases h
theorem sg_inv {tx : Nat → Int32} {L q : Nat} {s : Int32} {o : PO} {ns : List Int32} (ho : npe o) (h : pSg tx L s o = pok q ns) : ∃ p0, o = pok p0 ns := by
  rcases o with ⟨p, n0⟩ | ⟨q0, a⟩ | q0
  · replace h : (if chr tx L p = s then pok (p + 1) n0 else per p p) = pok q ns := h
    split at h
    · cases h; exact ⟨p, rfl⟩
    · cases h
  · cases h
  · exact ho.elim
theorem nmsg_inv {tx : Nat → Int32} {L k q : Nat} {lo s : Int32} {o : PO} {ns : List Int32} (hs : isW s 48 57 = false) (h : pSg tx L s (pNm tx L k lo o) = pok q ns) : ∃ p0 n0, o = pok p0 n0 ∧ ns = n0 ++ [nmv tx L k o] := by
  rcases o with ⟨p, n0⟩ | ⟨q0, a⟩ | q0
  · by_cases c1 : ru tx L k p = 0
    · rw [show pNm tx L k lo (.inl (p, n0)) = per p p from if_pos c1] at h; cases h
    · by_cases c2 : vn tx p (ru tx L k p) < lo ∧ isG tx L (p + ru tx L k p) 9 = false
      · rw [show pNm tx L k lo (.inl (p, n0)) = per p (p + ru tx L k p) from (if_neg c1).trans (if_pos c2)] at h; cases h
      · by_cases c3 : isG tx L (p + ru tx L k p) 9 = true
        · rw [show pNm tx L k lo (.inl (p, n0)) = ppe (p + ru tx L k p) from (if_neg c1).trans ((if_neg c2).trans (if_pos c3))] at h
          replace h : (if chr tx L (p + ru tx L k p) = s then pok (p + ru tx L k p + 1) [] else per (p + ru tx L k p) (p + ru tx L k p)) = pok q ns := h
          split at h
          · rename_i c; rw [isG9, c, hs] at c3; cases c3
          · cases h
        · rw [show pNm tx L k lo (.inl (p, n0)) = pok (p + ru tx L k p) (n0 ++ [vn tx p (ru tx L k p)]) from (if_neg c1).trans ((if_neg c2).trans (if_neg c3))] at h
          obtain ⟨p0, e⟩ := sg_inv (o := pok (p + ru tx L k p) (n0 ++ [vn tx p (ru tx L k p)])) True.intro h
          cases e
          exact ⟨p, n0, rfl, rfl⟩
  · cases h
  · cases h
theorem pok_inj {p q : Nat} {a b : List Int32} (h : pok p a = pok q b) : p = q ∧ a = b := by cases h; exact ⟨rfl, rfl⟩
theorem nms_p {tx : Nat → Int32} {L p q : Nat} {s : Int32} {ns : List Int32} (h : pSg tx L 59 (pNm tx L 3 0 (pSg tx L 64 (pDg tx L 7 (pDg tx L 9 (pSg tx L s (pok p [])))))) = pok q ns) :
    ns = [dgv tx L 9 (pSg tx L s (pok p [])), dgv tx L 7 (pDg tx L 9 (pSg tx L s (pok p []))), nmv tx L 3 (pSg tx L 64 (pDg tx L 7 (pDg tx L 9 (pSg tx L s (pok p [])))))] := by
  obtain ⟨p1, n1, e1, rfl⟩ := nmsg_inv (by decide) h
  obtain ⟨p2, e2⟩ := sg_inv (npe_dg _ _ _ _) e1
  obtain ⟨p3, n3, e3, h3⟩ := dg_inv e2
  obtain ⟨p4, n4, e4, h4⟩ := dg_inv e3
  obtain ⟨p5, e5⟩ := sg_inv (o := pok p []) True.intro e4
  rw [h3, h4, ← (pok_inj e5).2]; rfl
theorem nms_le {tx : Nat → Int32} {L p q : Nat} {s g : Int32} {ns : List Int32} (h : pSg tx L 59 (pNm tx L 2 1 (pSg tx L 43 (pDg tx L g (pSg tx L s (pok p []))))) = pok q ns) :
    ns = [dgv tx L g (pSg tx L s (pok p [])), nmv tx L 2 (pSg tx L 43 (pDg tx L g (pSg tx L s (pok p []))))] := by
  obtain ⟨p1, n1, e1, rfl⟩ := nmsg_inv (by decide) h
  obtain ⟨p2, e2⟩ := sg_inv (npe_dg _ _ _ _) e1
  obtain ⟨p3, n3, e3, h3⟩ := dg_inv e2
  obtain ⟨p5, e5⟩ := sg_inv (o := pok p []) True.intro e3
  rw [h3, ← (pok_inj e5).2]; rfl
theorem nms_d {tx : Nat → Int32} {L p q : Nat} {s : Int32} {ns : List Int32} (h : pSg tx L 59 (pNm tx L 2 0 (pSg tx L s (pok p []))) = pok q ns) : ns = [nmv tx L 2 (pSg tx L s (pok p []))] := by
  obtain ⟨p1, n1, e1, rfl⟩ := nmsg_inv (by decide) h
  obtain ⟨p5, e5⟩ := sg_inv (o := pok p []) True.intro e1
  rw [← (pok_inj e5).2]; rfl
theorem nms_s {tx : Nat → Int32} {L p q : Nat} {s : Int32} {ns : List Int32} (h : pSg tx L 59 (pNm tx L 2 1 (pSg tx L 44 (pNm tx L 3 0 (pSg tx L 45 (pNm tx L 3 0 (pSg tx L 58 (pDg tx L 7 (pDg tx L 9 (pSg tx L s (pok p [])))))))))) = pok q ns) :
    ns = [dgv tx L 9 (pSg tx L s (pok p [])), dgv tx L 7 (pDg tx L 9 (pSg tx L s (pok p []))), nmv tx L 3 (pSg tx L 58 (pDg tx L 7 (pDg tx L 9 (pSg tx L s (pok p []))))), nmv tx L 3 (pSg tx L 45 (pNm tx L 3 0 (pSg tx L 58 (pDg tx L 7 (pDg tx L 9 (pSg tx L s (pok p []))))))), nmv tx L 2 (pSg tx L 44 (pNm tx L 3 0 (pSg tx L 45 (pNm tx L 3 0 (pSg tx L 58 (pDg tx L 7 (pDg tx L 9 (pSg tx L s (pok p [])))))))))] := by
  obtain ⟨p1, n1, e1, rfl⟩ := nmsg_inv (by decide) h
  obtain ⟨p2, n2, e2, h2⟩ := nmsg_inv (by decide) e1
  obtain ⟨p3, n3, e3, h3⟩ := nmsg_inv (by decide) e2
  obtain ⟨p4, e4⟩ := sg_inv (npe_dg _ _ _ _) e3
  obtain ⟨p5, n5, e5, h5⟩ := dg_inv e4
  obtain ⟨p6, n6, e6, h6⟩ := dg_inv e5
  obtain ⟨p7, e7⟩ := sg_inv (o := pok p []) True.intro e6
  rw [h2, h3, h5, h6, ← (pok_inj e7).2]; rfl
/-- what the reference has behind an order that was read -/
def rdP (G : va_G) (T : Nat → ClassId) (r : Nat → Nat) (mm pp xx : Nat → Int32) (th : Int32) (sv n1 pz : Nat) : Option Value → Heap → Prop := fun v9 H9 => v9 = none ∧ ∃ w1 w2 w3 w4 w5 : Int32, (∀ q ns, prs1 xx n1 pz = pok q ns → nms (xx pz) ns w1 w2 w3 w4 w5) ∧ va_P G vwCl (wMod T r mm pp xx th sv n1 (nI (acO (prs1 xx n1 pz))) (eaO (prs1 xx n1 pz)) (xx pz) w1 w2 w3 w4 w5) H9
theorem nms_of {le : Int32} {ns : List Int32} {w1 w2 w3 w4 w5 : Int32} (h : (le = 112 ∧ ns = [w1, w2, w3]) ∨ (le = 108 ∧ ns = [w1, w2]) ∨ (le = 101 ∧ ns = [w1, w2]) ∨ (le = 115 ∧ ns = [w1, w2, w3, w4, w5]) ∨ (le = 100 ∧ ns = [w1])) : nms le ns w1 w2 w3 w4 w5 := by
  rcases h with ⟨rfl, h⟩ | ⟨rfl, h⟩ | ⟨rfl, h⟩ | ⟨rfl, h⟩ | ⟨rfl, h⟩
  · exact ⟨fun _ => h, fun q => absurd q (by decide), fun q => absurd q (by decide), fun q => absurd q (by decide), fun q => absurd q (by decide)⟩
  · exact ⟨fun q => absurd q (by decide), fun _ => h, fun q => absurd q (by decide), fun q => absurd q (by decide), fun q => absurd q (by decide)⟩
  · exact ⟨fun q => absurd q (by decide), fun q => absurd q (by decide), fun _ => h, fun q => absurd q (by decide), fun q => absurd q (by decide)⟩
  · exact ⟨fun q => absurd q (by decide), fun q => absurd q (by decide), fun q => absurd q (by decide), fun _ => h, fun q => absurd q (by decide)⟩
  · exact ⟨fun q => absurd q (by decide), fun q => absurd q (by decide), fun q => absurd q (by decide), fun q => absurd q (by decide), fun _ => h⟩
