/-! what an order does -/
def orF (N : Nat → Nat) (Z : Nat → Nat → Int32) (le w1 w2 w3 w4 w5 : Int32) : Int32 := if le = 112 then plF N w1 w2 w3 else if le = 108 then slF N Z w1 w2 else if le = 101 then exF N Z w1 w2 else if le = 115 then shF N w1 w2 w3 w4 w5 else drF N w1
def apN (N : Nat → Nat) (le : Int32) : Nat → Nat := if le = 112 then N else if le = 108 then N else if le = 101 then N else if le = 115 then va_up N 3 (N 3 + 1) else va_up N 3 (N 3 - 1)
def apZ (N : Nat → Nat) (Z : Nat → Nat → Int32) (le w1 w2 w3 w4 w5 : Int32) : Nat → Nat → Int32 := if le = 112 then uPl Z (tn w1) w2 w3 else if le = 108 then uSl Z (tn w1) w2 else if le = 101 then vExt Z (tn w1) w2 else if le = 115 then sAdd N Z w1 w2 w3 w4 w5 else sDel Z (tn w1) (N 3 - 1)
def apM (N : Nat → Nat) (m : Nat → Int32) (le w1 w2 w3 w4 w5 : Int32) : Nat → Int32 := if le = 112 then mPl m (tn w1) w2 w3 else if le = 108 then mSl m (tn w1) w2 else if le = 101 then mEx m (tn w1) w2 else if le = 115 then mSh m (N 3) w1 w2 w3 w4 w5 else mDr m (N 3) (tn w1)
theorem rf_0 : rfF 0 = 0 := rfl
theorem pl_0 {N : Nat → Nat} {u v d : Int32} (hb : N 2 < 2 ^ 31 ∧ N 0 < 2 ^ 31) (h : plF N u v d = 0) : ∃ k j i, k < N 2 ∧ j < N 0 ∧ i ≤ 999 ∧ u = nI k ∧ v = nI j ∧ d = nI i := pl_ok (by rw [h]; rfl) hb.1 hb.2
theorem ap_pl {N : Nat → Nat} {Z : Nat → Nat → Int32} {m : Nat → Int32} (hw : wf N Z) (hr : rel N Z m) {u v d : Int32} (h : plF N u v d = 0) : wf N (uPl Z (tn u) v d) ∧ rel N (uPl Z (tn u) v d) (mPl m (tn u) v d) := by
  have hb := hw.1
  obtain ⟨k, j, i, hk, hj, hi, rfl, rfl, rfl⟩ := pl_ok (N := N) (u := u) (v := v) (d := d) (by rw [h]; rfl) (by omega) (by omega)
  rw [show tn (nI k) = k from nI_clamp (by omega)]
  refine ⟨wf_pl hw (Or.inr ⟨j, hj, rfl, ?_, ?_⟩), rel_pl hw hr _ _ hk⟩
  · rw [nI_toInt (by omega)]; omega
  · rw [nI_toInt (by omega)]; omega
theorem ap_sl {N : Nat → Nat} {Z : Nat → Nat → Int32} {m : Nat → Int32} (hw : wf N Z) (hr : rel N Z m) {u t : Int32} (h : slF N Z u t = 0) : wf N (uSl Z (tn u) t) ∧ rel N (uSl Z (tn u) t) (mSl m (tn u) t) := by
  have hb := hw.1
  obtain ⟨k, i, hk, hi1, hi, rfl, rfl, hp, h9⟩ := sl_ok (N := N) (Z := Z) (u := u) (t := t) (by rw [h]; rfl) (by omega)
  rw [show tn (nI k) = k from nI_clamp (by omega)]
  exact ⟨wf_sl hw hk hi hp h9, rel_sl hw hr _ hk⟩
theorem ap_ex {N : Nat → Nat} {Z : Nat → Nat → Int32} {m : Nat → Int32} (hw : wf N Z) (hr : rel N Z m) {v t : Int32} (h : exF N Z v t = 0) : wf N (vExt Z (tn v) t) ∧ rel N (vExt Z (tn v) t) (mEx m (tn v) t) := by
  have hb := hw.1
  obtain ⟨k, i, hk, hi1, hi, rfl, rfl, h9⟩ := ex_ok (N := N) (Z := Z) (v := v) (t := t) (by rw [h]; rfl) (by omega)
  rw [show tn (nI k) = k from nI_clamp (by omega)]
  exact ⟨wf_ex hw hi h9, rel_ex hw hr _ hk⟩
theorem ap_sh {N : Nat → Nat} {Z : Nat → Nat → Int32} {m : Nat → Int32} (hw : wf N Z) (hr : rel N Z m) {f v x z y : Int32} (h : shF N f v x z y = 0) : wf (va_up N 3 (N 3 + 1)) (sAdd N Z f v x z y) ∧ rel (va_up N 3 (N 3 + 1)) (sAdd N Z f v x z y) (mSh m (N 3) f v x z y) := by
  have hb := hw.1
  obtain ⟨k, j, i, w, r, hk, hj, hiw, hw9, hr1, hr9, rfl, rfl, rfl, rfl, rfl, h12⟩ := sh_ok (N := N) (f := f) (v := v) (x := x) (z := z) (y := y) (by rw [h]; rfl) (by omega) (by omega)
  refine ⟨wf_sh hw h12 ⟨⟨k, hk, rfl⟩, ⟨j, hj, rfl⟩, ?_, ?_, ?_, ?_, ?_, ?_⟩, rel_sh hw hr _ _ _ _ _ h12⟩
  all_goals (rw [nI_toInt (by omega)]; omega)
theorem ap_dr {N : Nat → Nat} {Z : Nat → Nat → Int32} {m : Nat → Int32} (hw : wf N Z) (hr : rel N Z m) {t : Int32} (h : drF N t = 0) : wf (va_up N 3 (N 3 - 1)) (sDel Z (tn t) (N 3 - 1)) ∧ rel (va_up N 3 (N 3 - 1)) (sDel Z (tn t) (N 3 - 1)) (mDr m (N 3) (tn t)) := by
  have hb := hw.1
  obtain ⟨k, hk, rfl⟩ := dr_ok (N := N) (t := t) (by rw [h]; rfl) (by omega)
  rw [show tn (nI k) = k from nI_clamp (by omega)]
  exact ⟨wf_dr hw hk, rel_dr hw hr hk⟩
theorem ap_ok {N : Nat → Nat} {Z : Nat → Nat → Int32} {m : Nat → Int32} (hw : wf N Z) (hr : rel N Z m) {le w1 w2 w3 w4 w5 : Int32} (h : orF N Z le w1 w2 w3 w4 w5 = 0) : wf (apN N le) (apZ N Z le w1 w2 w3 w4 w5) ∧ rel (apN N le) (apZ N Z le w1 w2 w3 w4 w5) (apM N m le w1 w2 w3 w4 w5) := by
  unfold orF at h
  unfold apN apZ apM
  by_cases c1 : le = 112
  · simp only [if_pos c1] at h ⊢; exact ap_pl hw hr h
  · by_cases c2 : le = 108
    · simp only [if_neg c1, if_pos c2] at h ⊢; exact ap_sl hw hr h
    · by_cases c3 : le = 101
      · simp only [if_neg c1, if_neg c2, if_pos c3] at h ⊢; exact ap_ex hw hr h
      · by_cases c4 : le = 115
        · simp only [if_neg c1, if_neg c2, if_neg c3, if_pos c4] at h ⊢; exact ap_sh hw hr h
        · simp only [if_neg c1, if_neg c2, if_neg c3, if_neg c4] at h ⊢; exact ap_dr hw hr h
/-- is there a syntax error, and where -/
def chk (tx : Nat → Int32) (L : Nat) : Nat → Nat → Option Nat
  | 0, _ => none
  | f + 1, p => if p < L then (match prs1 tx L p with | .inl (q, _) => chk tx L f q | .inr (.inl (q, _)) => some q | .inr (.inr q) => some q) else none
def gtn (ns : List Int32) (i : Nat) : Int32 := ns.getD i 0
/-- the orders from p on are carried out, till one is refused: how many, and what has become of the calendar -/
def cry (tx : Nat → Int32) (L : Nat) : Nat → Nat → (Nat → Nat) → (Nat → Nat → Int32) → Nat → Nat × (Nat → Nat) × (Nat → Nat → Int32)
  | 0, _, N, Z, n => (n, N, Z)
  | f + 1, p, N, Z, n => if p < L then (match prs1 tx L p with
      | .inl (q, ns) => if orF N Z (tx p) (gtn ns 0) (gtn ns 1) (gtn ns 2) (gtn ns 3) (gtn ns 4) = 0 then cry tx L f q (apN N (tx p)) (apZ N Z (tx p) (gtn ns 0) (gtn ns 1) (gtn ns 2) (gtn ns 3) (gtn ns 4)) (n + 1) else (n, N, Z)
      | _ => (n, N, Z)) else (n, N, Z)
/-- what the reference does with an order -/
def onP (G : va_G) (w : va_W) : Option Value → Heap → Prop := fun v9 H9 => ∃ z : Int32, v9 = some (.int z) ∧ ¬ z < -1 ∧ va_P G vwCl w H9
theorem nlt_nat {k : Nat} (h : k < 2 ^ 31) : ¬ nI k < -1 := by
  rw [i3lt, nI_toInt h, show Int32.toInt (-1) = -1 from rfl]; omega
theorem nlt_pl {N : Nat → Nat} {Z : Nat → Nat → Int32} (hw : wf N Z) {u : Nat} (hu : u < N 2) : ¬ Z 8 u < -1 := by
  rcases hw.2.2.2.1 u hu with ⟨-, e⟩ | ⟨k, hk, -, h, -⟩
  · rw [e]; decide
  · rw [i3lt, show Int32.toInt (-1) = -1 from rfl]; omega
theorem nlt_sl {N : Nat → Nat} {Z : Nat → Nat → Int32} (hw : wf N Z) {u i : Nat} (hu : u < N 2) (hi : i ≤ 99) (hp : pled Z u = true) : ¬ Z 8 u + nI i < -1 := by
  rcases hw.2.2.2.1 u hu with ⟨e, -⟩ | ⟨k, hk, -, h, h9⟩
  · exact absurd e (of_decide_eq_true hp)
  · rw [i3lt, i3add h (by omega) (by omega), show Int32.toInt (-1) = -1 from rfl]; omega
theorem nlt_ex {N : Nat → Nat} {Z : Nat → Nat → Int32} (hw : wf N Z) {v i : Nat} (hv : v < N 0) (hi : i ≤ 99) : ¬ Z 2 v + nI i < -1 := by
  obtain ⟨a0, a1, a2⟩ := hw.2.1 v hv
  rw [i3lt, i3add (by omega) (by omega) (by omega), show Int32.toInt (-1) = -1 from rfl]; omega
