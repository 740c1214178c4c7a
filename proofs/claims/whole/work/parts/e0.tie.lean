/-! what a call of both sides keeps: the calendar in order, the reference's row tied to it, the saved ones too -/
def tie (N : Nat → Nat) (Z : Nat → Nat → Int32) (mm : Nat → Int32) (M : Nat → Nat → Nat) (Y : Nat → Nat → Nat → Int32) (pp : Nat → Int32) (sc : Nat) : Prop := wf N Z ∧ rel N Z mm ∧ srel sc M Y pp ∧ sc ≤ 4
section TIE
variable {N : Nat → Nat} {Z : Nat → Nat → Int32} {mm : Nat → Int32} {M : Nat → Nat → Nat} {Y : Nat → Nat → Nat → Int32} {pp : Nat → Int32} {sc : Nat}
theorem svC_le (h : sc ≤ 4) : svC sc ≤ 4 := by unfold svC; split <;> omega
theorem tie_sv {N2 : Nat → Nat} {Z2 : Nat → Nat → Int32} {m2 : Nat → Int32} (h : tie N Z mm M Y pp sc) (h2 : wf N2 Z2 ∧ rel N2 Z2 m2) : tie N2 Z2 m2 (psh sc M N) (psh sc Y Z) (svP sc pp mm) (svC sc) :=
  ⟨h2.1, h2.2, srel_sv h.2.2.2 h.2.2.1 h.1 h.2.1, svC_le h.2.2.2⟩
theorem po_d {b : Bool} (h : poF (bI b) = 0) : b = true := by
  cases b
  · exact absurd h (by decide)
  · rfl
theorem sh_v : ∀ n, n < 11 → (((1 : Int32) <<< (nI n &&& 31)) - 1).toInt = 2 ^ n - 1 := by decide +kernel
theorem se_ok {x : Int32} {n : Nat} (hn : n ≤ 10) (h : seF x (nI n) = 0) : 0 ≤ x.toInt ∧ x.toInt < 2 ^ n := by
  unfold seF wiF at h
  split at h
  · rename_i q
    simp only [isW, Bool.and_eq_true, decide_eq_true_eq] at q
    have h1 := (i3le _ _).mp q.1
    have h2 := (i3le _ _).mp q.2
    rw [sh_v n (by omega)] at h2
    rw [i3z] at h1
    exact ⟨h1, Int.lt_of_le_sub_one h2⟩
  · cases h
theorem t_addVersion {x z : Int32} (h : tie N Z mm M Y pp sc) (hF : sq (wiF x 0 998) (sq (wiF z (x + 1) 1000) (poF (bI (decide (N 0 < 8))))) = 0) : tie (va_up N 0 (N 0 + 1)) (vAdd N Z x z) (mAV mm (N 0) x z) (psh sc M N) (psh sc Y Z) (svP sc pp mm) (svC sc) := by
  obtain ⟨h1, h23⟩ := sq_z hF
  obtain ⟨h2, h3⟩ := sq_z h23
  have h8 : N 0 < 8 := of_decide_eq_true (po_d h3)
  obtain ⟨i, -, hi, rfl⟩ := wiF_nat (a := 0) (b := 998) h1
  rw [show nI i + 1 = nI (i + 1) from nI_add i 1] at h2
  obtain ⟨w, hw1, hw2, rfl⟩ := wiF_nat (a := i + 1) (b := 1000) h2
  refine tie_sv h ⟨wf_av h.1 h8 ?_, rel_av h.1 h.2.1 _ _ h8⟩
  rw [nI_toInt (by omega), nI_toInt (by omega)]
  omega
theorem t_addFeature {x : Int32} (h : tie N Z mm M Y pp sc) (hF : sq (seF x (nI (N 0))) (poF (bI (decide (N 1 < 10)))) = 0) : tie (va_up N 1 (N 1 + 1)) (va_up Z 4 (apF (Z 4) x (N 1) (N 0))) (mAF mm (N 1) x) (psh sc M N) (psh sc Y Z) (svP sc pp mm) (svC sc) := by
  obtain ⟨h1, h3⟩ := sq_z hF
  have h8 : N 1 < 10 := of_decide_eq_true (po_d h3)
  have hb := h.1.1
  obtain ⟨g0, g1⟩ := se_ok (by omega) h1
  exact tie_sv h ⟨wf_af h.1 x h8, rel_af h.1 h.2.1 h8 g0 g1⟩
theorem t_put {f v : Int32} {h9 : Bool} (h : tie N Z mm M Y pp sc) (hF : sq (thF f (nI (N 1))) (sq (thF v (nI (N 0))) (poF (bI (decide (¬ cnt1 (Z 4 (tn v)) f = h9))))) = 0) : tie N (va_up Z 4 (upd (Z 4) (tn v) (Z 4 (tn v) ^^^ ((1 : Int32) <<< (f &&& 31))))) (mPu mm (tn f) (tn v) h9) (psh sc M N) (psh sc Y Z) (svP sc pp mm) (svC sc) := by
  obtain ⟨h1, h23⟩ := sq_z hF
  obtain ⟨h2, h3⟩ := sq_z h23
  have hb := h.1.1
  obtain ⟨k1, hk1, rfl⟩ := thF_nat (n := N 1) h1 (by omega)
  obtain ⟨k2, hk2, rfl⟩ := thF_nat (n := N 0) h2 (by omega)
  have e1 : tn (nI k1) = k1 := nI_clamp (by omega)
  have e2 : tn (nI k2) = k2 := nI_clamp (by omega)
  rw [e2] at h3 ⊢
  rw [e1]
  exact tie_sv h ⟨wf_pu h.1 hk1, rel_pu h.1 h.2.1 hk1 hk2 (of_decide_eq_true (po_d h3))⟩
theorem t_addUser {v x : Int32} (h : tie N Z mm M Y pp sc) (hF : sq (thF v (nI (N 0))) (sq (seF x (nI (N 1))) (poF (bI (decide (N 2 < 10))))) = 0) : tie (va_up N 2 (N 2 + 1)) (uAdd N Z v x) (mAU mm (N 2) v x) (psh sc M N) (psh sc Y Z) (svP sc pp mm) (svC sc) := by
  obtain ⟨h1, h23⟩ := sq_z hF
  obtain ⟨h2, h3⟩ := sq_z h23
  have h8 : N 2 < 10 := of_decide_eq_true (po_d h3)
  have hb := h.1.1
  exact tie_sv h ⟨wf_au h.1 h8 (thF_nat h1 (by omega)) (se_ok (by omega) h2), rel_au h.1 h.2.1 _ _ h8⟩
theorem pl_z {u v d : Int32} (h : rfF (plF N u v d) = 0) : plF N u v d = 0 := by
  unfold plF at h ⊢
  split at h
  · rename_i c; rw [if_pos c]
    split at h
    · rename_i c2; rw [if_pos c2]
    · exact absurd h (by decide)
  · exact absurd h (by decide)
theorem sl_z {u t : Int32} (h : rfF (slF N Z u t) = 0) : slF N Z u t = 0 := by
  unfold slF at h ⊢
  split at h
  · rename_i c; rw [if_pos c]
    split at h
    · rename_i c2; rw [if_pos c2]
      split at h
      · rename_i c3; rw [if_pos c3]
      · exact absurd h (by decide)
    · exact absurd h (by decide)
  · exact absurd h (by decide)
theorem ex_z {v t : Int32} (h : rfF (exF N Z v t) = 0) : exF N Z v t = 0 := by
  unfold exF at h ⊢
  split at h
  · rename_i c; rw [if_pos c]
    split at h
    · rename_i c2; rw [if_pos c2]
      split at h
      · rename_i c3; rw [if_pos c3]
      · exact absurd h (by decide)
    · exact absurd h (by decide)
  · exact absurd h (by decide)
theorem sh_zr {f v a b q : Int32} (h : rfF (shF N f v a b q) = 0) : shF N f v a b q = 0 := by
  unfold shF at h ⊢
  split at h
  · rename_i c; rw [if_pos c]
    split at h
    · rename_i c2; rw [if_pos c2]
      split at h
      · rename_i c3; rw [if_pos c3]
      · exact absurd h (by decide)
    · exact absurd h (by decide)
  · exact absurd h (by decide)
theorem dr_z {t : Int32} (h : rfF (drF N t) = 0) : drF N t = 0 := by
  unfold drF at h ⊢
  split at h
  · rename_i c; rw [if_pos c]
  · exact absurd h (by decide)
theorem t_pledge {u v d : Int32} (h : tie N Z mm M Y pp sc) (hF : rfF (plF N u v d) = 0) : tie N (uPl Z (tn u) v d) (mPl mm (tn u) v d) (psh sc M N) (psh sc Y Z) (svP sc pp mm) (svC sc) := tie_sv h (ap_pl h.1 h.2.1 (pl_z hF))
theorem t_slip {u t : Int32} (h : tie N Z mm M Y pp sc) (hF : rfF (slF N Z u t) = 0) : tie N (uSl Z (tn u) t) (mSl mm (tn u) t) (psh sc M N) (psh sc Y Z) (svP sc pp mm) (svC sc) := tie_sv h (ap_sl h.1 h.2.1 (sl_z hF))
theorem t_extend {v t : Int32} (h : tie N Z mm M Y pp sc) (hF : rfF (exF N Z v t) = 0) : tie N (vExt Z (tn v) t) (mEx mm (tn v) t) (psh sc M N) (psh sc Y Z) (svP sc pp mm) (svC sc) := tie_sv h (ap_ex h.1 h.2.1 (ex_z hF))
theorem t_addShim {f v x z y : Int32} (h : tie N Z mm M Y pp sc) (hF : rfF (shF N f v x z y) = 0) : tie (va_up N 3 (N 3 + 1)) (sAdd N Z f v x z y) (mSh mm (N 3) f v x z y) (psh sc M N) (psh sc Y Z) (svP sc pp mm) (svC sc) := tie_sv h (ap_sh h.1 h.2.1 (sh_zr hF))
theorem t_dropShim {t : Int32} (h : tie N Z mm M Y pp sc) (hF : rfF (drF N t) = 0) : tie (va_up N 3 (N 3 - 1)) (sDel Z (tn t) (N 3 - 1)) (mDr mm (N 3) (tn t)) (psh sc M N) (psh sc Y Z) (svP sc pp mm) (svC sc) := tie_sv h (ap_dr h.1 h.2.1 (dr_z hF))
theorem t_takeBack {u : Int32} (h : tie N Z mm M Y pp sc) (hF : sq (thF u (nI (N 2))) (poF (bI (pled Z (tn u)))) = 0) : tie N (uPl Z (tn u) (-1) (-1)) (mPl mm (tn u) (-1) (-1)) (psh sc M N) (psh sc Y Z) (svP sc pp mm) (svC sc) := by
  obtain ⟨h1, h3⟩ := sq_z hF
  have hb := h.1.1
  obtain ⟨k1, hk1, rfl⟩ := thF_nat (n := N 2) h1 (by omega)
  rw [show tn (nI k1) = k1 from nI_clamp (by omega)]
  exact tie_sv h ⟨wf_pl h.1 (Or.inl ⟨rfl, rfl⟩), rel_pl h.1 h.2.1 _ _ hk1⟩
theorem t_undo (h : tie N Z mm M Y pp sc) (hF : poF (bI (decide (0 < sc))) = 0) : tie (M (sc - 1)) (Y (sc - 1)) (gcp mm pp (158 * (sc - 1)) 158) M Y pp (sc - 1) := by
  have h0 : 0 < sc := of_decide_eq_true (po_d hF)
  obtain ⟨g1, g2, g3⟩ := srel_un (m := mm) h0 h.2.2.1
  have := h.2.2.2
  exact ⟨g2, g3, g1, by omega⟩
/-- the text: at most a hundred bytes, none of them -1 -/
def txo (tx : Nat → Int32) (L : Nat) : Prop := L ≤ 100 ∧ ∀ i, i < L → ¬ tx i = -1
theorem t_append {tx : Nat → Int32} {L : Nat} {x : Int32} (h : txo tx L) (hF : sq (wiF x 0 127) (poF (bI (decide (L < 100)))) = 0) : txo (upd tx L x) (L + 1) := by
  obtain ⟨h1, h3⟩ := sq_z hF
  have h8 : L < 100 := of_decide_eq_true (po_d h3)
  obtain ⟨k, -, hk, rfl⟩ := wiF_nat (a := 0) (b := 127) h1
  refine ⟨by omega, fun i hi => ?_⟩
  by_cases e : i = L
  · subst e; rw [pk_us]; exact nIm1 (by omega)
  · rw [pk_un e]; exact h.2 i (by omega)
theorem t_start : tie z0 zz (upd (fun _ => 0) 0 0) (fun _ => z0) (fun _ => zz) (fun _ => 0) 0 := by
  have e : upd (fun _ => (0 : Int32)) 0 0 = fun _ => 0 := by funext j; unfold upd; split <;> rfl
  rw [e]
  refine ⟨⟨⟨by decide, by decide, by decide, by decide⟩, fun v hv => absurd hv (Nat.not_lt_zero v), fun v hv => absurd hv (Nat.not_lt_zero v), fun v hv => absurd hv (Nat.not_lt_zero v), fun v hv => absurd hv (Nat.not_lt_zero v), fun v hv => absurd hv (Nat.not_lt_zero v), fun v hv => absurd hv (Nat.not_lt_zero v)⟩,
    ⟨rfl, rfl, rfl, rfl, fun v hv => absurd hv (Nat.not_lt_zero v), fun v hv => absurd hv (Nat.not_lt_zero v), fun v hv => absurd hv (Nat.not_lt_zero v), fun v hv => absurd hv (Nat.not_lt_zero v)⟩, fun v hv => absurd hv (Nat.not_lt_zero v), by decide⟩
end TIE
