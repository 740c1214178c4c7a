/-! what a fault that is none tells; addresses of the main world -/
theorem rfF_z {z : Int32} (h : rfF z = 0) (hz : z = 0 ∨ z = 1 ∨ z = 2 ∨ z = 3) : z = 0 := by
  rcases hz with rfl | rfl | rfl | rfl
  · rfl
  · exact absurd h (by decide)
  · exact absurd h (by decide)
  · exact absurd h (by decide)
theorem isW_nat {v x z : Int32} (h : isW v x z = true) {a b : Nat} (hx : x = nI a := by rfl) (hz : z = nI b := by rfl) (ha : a < 2 ^ 31 := by omega) (hb : b < 2 ^ 31 := by omega) : ∃ k, a ≤ k ∧ k ≤ b ∧ v = nI k := wiF_nat (x := x) (z := z) (by unfold wiF; rw [if_pos h]) hx hz ha hb
theorem pl_ok {N : Nat → Nat} {u v d : Int32} (h : rfF (plF N u v d) = 0) (h2 : N 2 < 2 ^ 31) (h0 : N 0 < 2 ^ 31) : ∃ k j i, k < N 2 ∧ j < N 0 ∧ i ≤ 999 ∧ u = nI k ∧ v = nI j ∧ d = nI i := by
  have hz := rfF_z h (by unfold plF; split <;> (try split) <;> simp)
  unfold plF at hz
  split at hz
  · rename_i q
    split at hz
    · rename_i r
      obtain ⟨k, hk, rfl⟩ := isT_nat h2 q.1
      obtain ⟨j, hj, rfl⟩ := isT_nat h0 q.2
      obtain ⟨i, -, hi, rfl⟩ := isW_nat (a := 0) (b := 999) r
      exact ⟨k, j, i, hk, hj, hi, rfl, rfl, rfl⟩
    · exact absurd hz (by decide)
  · exact absurd hz (by decide)
theorem sl_ok {N : Nat → Nat} {Z : Nat → Nat → Int32} {u t : Int32} (h : rfF (slF N Z u t) = 0) (h2 : N 2 < 2 ^ 31) : ∃ k i, k < N 2 ∧ 1 ≤ i ∧ i ≤ 99 ∧ u = nI k ∧ t = nI i ∧ pled Z k = true ∧ Z 8 k + t ≤ 999 := by
  have hz := rfF_z h (by unfold slF; split <;> (try split) <;> (try split) <;> simp)
  unfold slF at hz
  split at hz
  · rename_i q
    split at hz
    · rename_i r
      split at hz
      · rename_i w
        obtain ⟨k, hk, rfl⟩ := isT_nat h2 q
        obtain ⟨i, h1, hi, rfl⟩ := isW_nat (a := 1) (b := 99) r
        rw [nI_clamp (by omega)] at w
        exact ⟨k, i, hk, h1, hi, rfl, rfl, w.1, w.2⟩
      · exact absurd hz (by decide)
    · exact absurd hz (by decide)
  · exact absurd hz (by decide)
theorem ex_ok {N : Nat → Nat} {Z : Nat → Nat → Int32} {v t : Int32} (h : rfF (exF N Z v t) = 0) (h2 : N 0 < 2 ^ 31) : ∃ k i, k < N 0 ∧ 1 ≤ i ∧ i ≤ 99 ∧ v = nI k ∧ t = nI i ∧ Z 2 k + t ≤ 1000 := by
  have hz := rfF_z h (by unfold exF; split <;> (try split) <;> (try split) <;> simp)
  unfold exF at hz
  split at hz
  · rename_i q
    split at hz
    · rename_i r
      split at hz
      · rename_i w
        obtain ⟨k, hk, rfl⟩ := isT_nat h2 q
        obtain ⟨i, h1, hi, rfl⟩ := isW_nat (a := 1) (b := 99) r
        rw [nI_clamp (by omega)] at w
        exact ⟨k, i, hk, h1, hi, rfl, rfl, w⟩
      · exact absurd hz (by decide)
    · exact absurd hz (by decide)
  · exact absurd hz (by decide)
theorem sh_ok {N : Nat → Nat} {f v x z y : Int32} (h : rfF (shF N f v x z y) = 0) (h1 : N 1 < 2 ^ 31) (h0 : N 0 < 2 ^ 31) : ∃ k j i w r, k < N 1 ∧ j < N 0 ∧ i ≤ w ∧ w ≤ 999 ∧ 1 ≤ r ∧ r ≤ 99 ∧ f = nI k ∧ v = nI j ∧ x = nI i ∧ z = nI w ∧ y = nI r ∧ N 3 < 12 := by
  have hz := rfF_z h (by unfold shF; split <;> (try split) <;> (try split) <;> simp)
  unfold shF at hz
  split at hz
  · rename_i q
    split at hz
    · rename_i r
      split at hz
      · rename_i w
        obtain ⟨k, hk, rfl⟩ := isT_nat h1 q.1
        obtain ⟨j, hj, rfl⟩ := isT_nat h0 q.2
        obtain ⟨i, -, hi, rfl⟩ := isW_nat (a := 0) (b := 999) r.1
        obtain ⟨g, hg, hg9, rfl⟩ := isW_nat (a := i) (b := 999) r.2.1
        obtain ⟨p, hp, hp9, rfl⟩ := isW_nat (a := 1) (b := 99) r.2.2
        exact ⟨k, j, i, g, p, hk, hj, hg, hg9, hp, hp9, rfl, rfl, rfl, rfl, rfl, w⟩
      · exact absurd hz (by decide)
    · exact absurd hz (by decide)
  · exact absurd hz (by decide)
theorem dr_ok {N : Nat → Nat} {t : Int32} (h : rfF (drF N t) = 0) (h3 : N 3 < 2 ^ 31) : ∃ k, k < N 3 ∧ t = nI k := by
  have hz := rfF_z h (by unfold drF; split <;> simp)
  unfold drF at hz
  split at hz
  · rename_i q; exact isT_nat h3 q
  · exact absurd hz (by decide)
theorem bI_inj {x y : Bool} (h : bI x = bI y) : x = y := by
  cases x <;> cases y <;> first | rfl | exact absurd h (by decide)
theorem byte_nI {k : Nat} (h : k ≤ 127) : (nI k).toInt8.toInt32 = nI k := (by decide +kernel : ∀ k : Nat, k < 128 → (nI k).toInt8.toInt32 = nI k) k (by omega)
section ADDR
variable {T : Nat → ClassId} {q a : Nat → Nat} {N N2 : Nat → Nat} {Z Z2 : Nat → Nat → Int32} {b : Nat → Nat → Nat} {M : Nat → Nat → Nat} {Y : Nat → Nat → Nat → Int32} {sc sc2 : Nat} {tx tx2 : Nat → Int32} {L L2 cu cu2 : Nat} {er er2 le le2 : Int32} {nb nb2 : Nat → Int32} {nc nc2 : Nat} {rf rf2 : Nat → Option Nat}
theorem rot_addr {M2 : Nat → Nat → Nat} {Y2 : Nat → Nat → Nat → Int32} : ((wMainR T q a N2 Z2 (rot b) M2 Y2 sc2 tx2 L2 cu2 er2 le2 nb2 nc2 rf2).map Prod.fst).Perm ((wMainR T q a N Z b M Y sc tx L cu er le nb nc rf).map Prod.fst) :=
  ((List.Perm.append_left (wHd T q a rf sc tx L cu er le nb nc) (List.Perm.append_left (wCal T a N Z) (rot_perm b M Y))).map Prod.fst).symm
theorem sv_addr {M2 : Nat → Nat → Nat} {Y2 : Nat → Nat → Nat → Int32} {k : Nat} : ((wMainR T q a N2 Z2 (svB k b) M2 Y2 sc2 tx2 L2 cu2 er2 le2 nb2 nc2 rf2).map Prod.fst).Perm ((wMainR T q a N Z b M Y sc tx L cu er le nb nc rf).map Prod.fst) := by
  unfold svB
  split
  · exact rot_addr
  · exact List.Perm.refl _
end ADDR
