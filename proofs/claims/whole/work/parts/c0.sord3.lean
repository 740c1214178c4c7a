/-! the system's text as a whole: what syntaxError and carryOut have behind them -/
theorem ap_wf {N : Nat → Nat} {Z : Nat → Nat → Int32} (hw : wf N Z) {le w1 w2 w3 w4 w5 : Int32} (h : orF N Z le w1 w2 w3 w4 w5 = 0) : wf (apN N le) (apZ N Z le w1 w2 w3 w4 w5) := by
  have hb := hw.1
  unfold orF at h
  unfold apN apZ
  by_cases c1 : le = 112
  · simp only [if_pos c1] at h ⊢
    obtain ⟨k, j, i, hk, hj, hi, rfl, rfl, rfl⟩ := pl_ok (N := N) (u := w1) (v := w2) (d := w3) (by rw [h]; rfl) (by omega) (by omega)
    rw [show tn (nI k) = k from nI_clamp (by omega)]
    refine wf_pl hw (Or.inr ⟨j, hj, rfl, ?_, ?_⟩)
    · rw [nI_toInt (by omega)]; omega
    · rw [nI_toInt (by omega)]; omega
  · by_cases c2 : le = 108
    · simp only [if_neg c1, if_pos c2] at h ⊢
      obtain ⟨k, i, hk, hi1, hi, rfl, rfl, hp, h9⟩ := sl_ok (N := N) (Z := Z) (u := w1) (t := w2) (by rw [h]; rfl) (by omega)
      rw [show tn (nI k) = k from nI_clamp (by omega)]
      exact wf_sl hw hk hi hp h9
    · by_cases c3 : le = 101
      · simp only [if_neg c1, if_neg c2, if_pos c3] at h ⊢
        obtain ⟨k, i, hk, hi1, hi, rfl, rfl, h9⟩ := ex_ok (N := N) (Z := Z) (v := w1) (t := w2) (by rw [h]; rfl) (by omega)
        rw [show tn (nI k) = k from nI_clamp (by omega)]
        exact wf_ex hw hi h9
      · by_cases c4 : le = 115
        · simp only [if_neg c1, if_neg c2, if_neg c3, if_pos c4] at h ⊢
          obtain ⟨k, j, i, w, r, hk, hj, hiw, hw9, hr1, hr9, rfl, rfl, rfl, rfl, rfl, h12⟩ := sh_ok (N := N) (f := w1) (v := w2) (x := w3) (z := w4) (y := w5) (by rw [h]; rfl) (by omega) (by omega)
          refine wf_sh hw h12 ⟨⟨k, hk, rfl⟩, ⟨j, hj, rfl⟩, ?_, ?_, ?_, ?_, ?_, ?_⟩
          all_goals (rw [nI_toInt (by omega)]; omega)
        · simp only [if_neg c1, if_neg c2, if_neg c3, if_neg c4] at h ⊢
          obtain ⟨k, hk, rfl⟩ := dr_ok (N := N) (t := w1) (by rw [h]; rfl) (by omega)
          rw [show tn (nI k) = k from nI_clamp (by omega)]
          exact wf_dr hw hk
def syO (G : va_G) (T : Nat → ClassId) (q a : Nat → Nat) (N : Nat → Nat) (Z : Nat → Nat → Int32) (b : Nat → Nat → Nat) (M : Nat → Nat → Nat) (Y : Nat → Nat → Nat → Int32) (sc : Nat) (tx : Nat → Int32) (L : Nat) : Option Value → Heap → Prop := fun v9 H9 =>
  (∃ p9, chk tx L 101 0 = some p9 ∧ p9 ≤ L ∧ v9 = some (.int (nI p9)) ∧ ∃ (cu2 : Nat) (er2 le2 : Int32) (nb2 : Nat → Int32) (nc2 : Nat), va_P G vwCl (wMain T q a N Z b M Y sc tx L cu2 er2 le2 nb2 nc2) H9) ∨
  (chk tx L 101 0 = none ∧ v9 = some (.int (-1)) ∧ ∃ (cu2 : Nat) (er2 le2 : Int32) (nb2 : Nat → Int32) (nc2 : Nat), va_P G vwCl (wMain T q a N Z b M Y sc tx L cu2 er2 le2 nb2 nc2) H9)
def coO (G : va_G) (T : Nat → ClassId) (q a : Nat → Nat) (N : Nat → Nat) (Z : Nat → Nat → Int32) (b : Nat → Nat → Nat) (M : Nat → Nat → Nat) (Y : Nat → Nat → Nat → Int32) (sc : Nat) (tx : Nat → Int32) (L : Nat) : Option Value → Heap → Prop := fun v9 H9 =>
  (∃ p9, chk tx L 101 0 = some p9 ∧ v9 = some (.int (-10 - nI p9)) ∧ ∃ (cu2 : Nat) (er2 le2 : Int32) (nb2 : Nat → Int32) (nc2 : Nat), va_P G vwCl (wMain T q a N Z b M Y sc tx L cu2 er2 le2 nb2 nc2) H9) ∨
  (chk tx L 101 0 = none ∧ v9 = some (.int (nI (cry tx L 101 0 N Z 0).1)) ∧ ∃ (cu2 : Nat) (er2 le2 : Int32) (nb2 : Nat → Int32) (nc2 : Nat), va_P G vwCl (wMain T q a (cry tx L 101 0 N Z 0).2.1 (cry tx L 101 0 N Z 0).2.2 (svB sc b) (psh sc M N) (psh sc Y Z) (svC sc) tx L cu2 er2 le2 nb2 nc2) H9)
theorem svA_addr (T : Nat → ClassId) (q a : Nat → Nat) (N N2 : Nat → Nat) (Z Z2 : Nat → Nat → Int32) (b : Nat → Nat → Nat) (M M2 : Nat → Nat → Nat) (Y Y2 : Nat → Nat → Nat → Int32) (sc sc2 : Nat) (tx : Nat → Int32) (L L2 cu cu2 : Nat) (er er2 le le2 : Int32) (nb nb2 : Nat → Int32) (nc nc2 : Nat) :
    ((wMain T q a N2 Z2 b M2 Y2 sc2 tx L2 cu2 er2 le2 nb2 nc2).map Prod.fst).Perm ((wMain T q a N Z b M Y sc tx L cu er le nb nc).map Prod.fst) := List.Perm.refl _
