theorem idX0_strandedDays : yX0_strandedDays.cls = RX0 ∧ yX0_strandedDays.cls ≠ "java/lang/invoke/MethodHandle" ∧ yX0_strandedDays.cls ≠ "java/lang/invoke/VarHandle" ∧ (parseMethodDescriptor yX0_strandedDays.desc).map (fun d => d.parameters.length) = some 0 := by decide +kernel

set_option maxHeartbeats 4000000 in
set_option maxRecDepth 100000 in
theorem mX0_strandedDays (l : Launch) {G : va_G} {T : Nat → ClassId} {H : Heap} {a : Nat → Nat} {N : Nat → Nat} {Z : Nat → Nat → Int32} (hP : va_P G vwCl (wCal T a N Z) H) (hwf : wf N Z) : ro l yX0_strandedDays wsX0_strandedDays 5 115 [.ref (a 0)] G T H (fun r => r = (nI (sdN N Z))) := by
  refine ro_of (cc := cX0_strandedDays) (maxL := 4) (ret := .int) (own := RX0) (by decide +kernel) rfl rfl (Nat.le_of_ble_eq_true rfl) (fun v _ => vp_nar_int v) ?_
  intro p e s m below meth c Q ls S hkx hl hret
  obtain ⟨hx, hb, hml, hown, hts⟩ := id S
  have hl : lv_has ls 4 [(0, .ref (a 0))] := hl
  have kM145 := hts (.methodLink RX0 145 Lib.Math.max.name) (by decide +kernel)
  have tMmax := hts (.static Lib.Math.max.name) (by decide +kernel)
  have nMath := hts (.initialized "java/lang/Math") (by decide +kernel)
  have oMmax := hts (.code Lib.Math.max.name Lib.Math.max.code 2 (some .int)) (by decide +kernel)
  have hb2 := hwf.1
  refine lv_iconst (v := 0) hx hb dX0_strandedDays_0 (by decide) ?_
  refine lv_istore_n (lv' := [(1, .int 0), (0, .ref (a 0))]) hx hb dX0_strandedDays_1 rfl hl (by decide) rfl (fun ls hl => ?_)
  refine lv_iconst (v := 0) hx hb dX0_strandedDays_2 (by decide) ?_
  refine lv_istore_n (lv' := [(2, .int 0), (1, .int 0), (0, .ref (a 0))]) hx hb dX0_strandedDays_3 rfl hl (by decide) rfl (fun ls hl => ?_)
  have L4 : ∀ (fuel : Nat) (k : Nat) (y : Nat), 1000 - k < fuel → k ≤ 1000 → y = ctN (stB N Z) k → ∀ ls : Array Slot, lv_has ls 4 [(0, .ref (a 0)), (1, .int (nI y)), (2, .int (nI k))] → W p l e (rmo 5 115) s m ([.ref (a 0)] : List Value).toArray below meth c H [] 0 0 Q (F0 m 4 ls []) := by
    intro fuel
    induction fuel with
    | zero => intro k y hm; exact absurd hm (Nat.not_lt_zero _)
    | succ fuel ih4 =>
      intro k y hm4 hk hy ls hl
      refine lv_iload_n hx hb dX0_strandedDays_4 rfl (lv_at hl 2 rfl) ?_
      refine lv_sipush (v := 1000) hx hb dX0_strandedDays_5 (by decide) ?_
      refine lv_icmp_ge (tgt := 42) hx hb dX0_strandedDays_8 (by decide) (fun c_1 => ?_) (fun c_1 => ?_)
      · replace c_1 := cn_le (a := 1000) (b := k) (by omega) (by omega) c_1
        refine lv_iload_n hx hb dX0_strandedDays_42 rfl (lv_at hl 1 rfl) ?_
        exact hret _ _ _ (show (nI y) = (nI (sdN N Z)) from by
            rw [hy, show k = 1000 by omega]; rfl) dX0_strandedDays_43
      · replace c_1 := cn_nle (a := 1000) (b := k) (by omega) (by omega) c_1
        refine lv_iload_n hx hb dX0_strandedDays_11 rfl (lv_at hl 2 rfl) ?_
        refine lv_iconst (v := 1) hx hb dX0_strandedDays_12 (by decide) ?_
        refine lv_iadd hx hb dX0_strandedDays_13 ?_
        rw [show ((nI k) + 1) = (nI (k + 1)) from nI_add k 1]
        refine lv_aload_n hx hb dX0_strandedDays_14 rfl (lv_at hl 0 rfl) ?_
        refine lv_iload_n hx hb dX0_strandedDays_15 rfl (lv_at hl 2 rfl) ?_
        refine ro_V S hkx (mX0_nextChange l (d := (nI k)) (hP := hP) (hwf := hwf)) gX0_strandedDays_X0_nextChange rfl idX0_nextChange ⟨Nat.le_of_ble_eq_true rfl, Nat.le_of_ble_eq_true rfl⟩ hP 0 rfl rfl rfl rfl hl.1 rfl (Nat.le_of_ble_eq_true rfl) dX0_strandedDays_16 ⟨Nat.le_of_ble_eq_true rfl, Nat.le_of_ble_eq_true rfl⟩ (fun r_2 hr_2 => ?_)
        subst hr_2
        rw [(nxN_spec hwf (show k < 1000 by omega)).1]
        obtain ⟨-, hn1, hn2, hn3⟩ := nxN_spec hwf (show k < 1000 by omega)
        refine va_mmax hx hb (hml.trans hl.1.symm) hown kM145 tMmax nMath oMmax (Nat.le_of_ble_eq_true rfl) (Nat.le_of_ble_eq_true rfl) (Nat.le_refl _) (Nat.le_refl _) dX0_strandedDays_19 ?_
        rw [show (if (nI (k + 1)) < (nI (nxN N Z k)) then (nI (nxN N Z k)) else (nI (k + 1))) = (nI (max (k + 1) (nxN N Z k))) from nmax (by omega) (by omega)]
        refine lv_istore_n (lv' := [(3, .int (nI (max (k + 1) (nxN N Z k)))), (0, .ref (a 0)), (1, .int (nI y)), (2, .int (nI k))]) hx hb dX0_strandedDays_22 rfl hl (by decide) rfl (fun ls hl => ?_)
        refine lv_aload_n hx hb dX0_strandedDays_23 rfl (lv_at hl 1 rfl) ?_
        refine lv_iload_n hx hb dX0_strandedDays_24 rfl (lv_at hl 3 rfl) ?_
        refine ro_V S hkx (mX0_strandedUsers l (d := (nI k)) (hP := hP) (hwf := hwf)) gX0_strandedDays_X0_strandedUsers rfl idX0_strandedUsers ⟨Nat.le_of_ble_eq_true rfl, Nat.le_of_ble_eq_true rfl⟩ hP 0 rfl rfl rfl rfl hl.1 rfl (Nat.le_of_ble_eq_true rfl) dX0_strandedDays_25 ⟨Nat.le_of_ble_eq_true rfl, Nat.le_of_ble_eq_true rfl⟩ (fun r_3 hr_3 => ?_)
        subst hr_3
        refine lv_if_eq (tgt := 37) hx hb dX0_strandedDays_28 (by decide) (fun c_4 => ?_) (fun c_4 => ?_)
        · skip
          refine lv_iload_n hx hb dX0_strandedDays_37 rfl (lv_at hl 0 rfl) ?_
          refine lv_istore_n (lv' := [(2, .int (nI (max (k + 1) (nxN N Z k)))), (3, .int (nI (max (k + 1) (nxN N Z k)))), (0, .ref (a 0)), (1, .int (nI y))]) hx hb dX0_strandedDays_38 rfl hl (by decide) rfl (fun ls hl => ?_)
          refine lv_goto (tgt := 4) hx hb dX0_strandedDays_39 (by decide) ?_
          exact ih4 (max (k + 1) (nxN N Z k)) y (by omega) (by omega) (by rw [st_step hwf (show k ≤ max (k + 1) (nxN N Z k) by omega) (fun j a b => hn3 j a (by omega)), ← hy]; split <;> first | contradiction | omega) _ (lv_sub hl [2, 3, 0] rfl)
        · skip
          refine lv_iload_n hx hb dX0_strandedDays_31 rfl (lv_at hl 2 rfl) ?_
          refine lv_iload_n hx hb dX0_strandedDays_32 rfl (lv_at hl 0 rfl) ?_
          refine lv_iload_n hx hb dX0_strandedDays_33 rfl (lv_at hl 3 rfl) ?_
          refine lv_isub hx hb dX0_strandedDays_34 ?_
          rw [show ((nI (max (k + 1) (nxN N Z k))) - (nI k)) = (nI ((max (k + 1) (nxN N Z k)) - k)) from pk_sub (a := (max (k + 1) (nxN N Z k))) (b := k) (by omega)]
          refine lv_iadd hx hb dX0_strandedDays_35 ?_
          rw [show ((nI y) + (nI ((max (k + 1) (nxN N Z k)) - k))) = (nI (y + ((max (k + 1) (nxN N Z k)) - k))) from nI_add y ((max (k + 1) (nxN N Z k)) - k)]
          refine lv_istore_n (lv' := [(1, .int (nI (y + ((max (k + 1) (nxN N Z k)) - k)))), (3, .int (nI (max (k + 1) (nxN N Z k)))), (0, .ref (a 0)), (2, .int (nI k))]) hx hb dX0_strandedDays_36 rfl hl (by decide) rfl (fun ls hl => ?_)
          refine lv_iload_n hx hb dX0_strandedDays_37 rfl (lv_at hl 1 rfl) ?_
          refine lv_istore_n (lv' := [(2, .int (nI (max (k + 1) (nxN N Z k)))), (1, .int (nI (y + ((max (k + 1) (nxN N Z k)) - k)))), (3, .int (nI (max (k + 1) (nxN N Z k)))), (0, .ref (a 0))]) hx hb dX0_strandedDays_38 rfl hl (by decide) rfl (fun ls hl => ?_)
          refine lv_goto (tgt := 4) hx hb dX0_strandedDays_39 (by decide) ?_
          exact ih4 (max (k + 1) (nxN N Z k)) (y + ((max (k + 1) (nxN N Z k)) - k)) (by omega) (by omega) (by rw [st_step hwf (show k ≤ max (k + 1) (nxN N Z k) by omega) (fun j a b => hn3 j a (by omega)), ← hy]; split <;> first | contradiction | omega) _ (lv_sub hl [3, 1, 0] rfl)
  exact L4 _ 0 0 (Nat.lt_succ_self _) (by omega) (by rfl) _ (lv_sub hl [2, 1, 0] rfl)

theorem idX0_costOfAll : yX0_costOfAll.cls = RX0 ∧ yX0_costOfAll.cls ≠ "java/lang/invoke/MethodHandle" ∧ yX0_costOfAll.cls ≠ "java/lang/invoke/VarHandle" ∧ (parseMethodDescriptor yX0_costOfAll.desc).map (fun d => d.parameters.length) = some 2 := by decide +kernel

set_option maxHeartbeats 4000000 in
set_option maxRecDepth 100000 in
theorem mX0_costOfAll (l : Launch) {G : va_G} {T : Nat → ClassId} {H : Heap} {a : Nat → Nat} {N : Nat → Nat} {Z : Nat → Nat → Int32} {f : Nat} {w : Nat} (hP : va_P G vwCl (wCal T a N Z) H) (hwf : wf N Z) (hfl : f ≤ w) (hl9 : w ≤ 999) : ro l yX0_costOfAll wsX0_costOfAll 4 97 [.ref (a 0), .int (nI f), .int (nI w)] G T H (fun r => r = smD (cAlD N Z) f (w + 1 - f)) := by
  refine ro_of (cc := cX0_costOfAll) (maxL := 6) (ret := .int) (own := RX0) (by decide +kernel) rfl rfl (Nat.le_of_ble_eq_true rfl) (fun v _ => vp_nar_int v) ?_
  intro p e s m below meth c Q ls S hkx hl hret
  obtain ⟨hx, hb, hml, hown, hts⟩ := id S
  have hl : lv_has ls 6 [(0, .ref (a 0)), (1, .int (nI f)), (2, .int (nI w))] := hl
  have kM153 := hts (.methodLink RX0 153 Lib.Math.min.name) (by decide +kernel)
  have tMmin := hts (.static Lib.Math.min.name) (by decide +kernel)
  have nMath := hts (.initialized "java/lang/Math") (by decide +kernel)
  have oMmin := hts (.code Lib.Math.min.name Lib.Math.min.code 2 (some .int)) (by decide +kernel)
  have kM145 := hts (.methodLink RX0 145 Lib.Math.max.name) (by decide +kernel)
  have tMmax := hts (.static Lib.Math.max.name) (by decide +kernel)
  have oMmax := hts (.code Lib.Math.max.name Lib.Math.max.code 2 (some .int)) (by decide +kernel)
  have hb2 := hwf.1
  refine lv_iconst (v := 0) hx hb dX0_costOfAll_0 (by decide) ?_
  refine lv_istore_n (lv' := [(3, .int 0), (0, .ref (a 0)), (1, .int (nI f)), (2, .int (nI w))]) hx hb dX0_costOfAll_1 rfl hl (by decide) rfl (fun ls hl => ?_)
  refine lv_iload_n hx hb dX0_costOfAll_2 rfl (lv_at hl 2 rfl) ?_
  refine lv_istore (lv' := [(4, .int (nI f)), (3, .int 0), (0, .ref (a 0)), (1, .int (nI f)), (2, .int (nI w))]) hx hb dX0_costOfAll_3 hl (by decide) rfl (fun ls hl => ?_)
  have L5 : ∀ (fuel : Nat) (k : Nat) (y : Int32), 1000 - k < fuel → f ≤ k → k ≤ w + 1 → y = smD (cAlD N Z) f (k - f) → ∀ ls : Array Slot, lv_has ls 6 [(0, .ref (a 0)), (1, .int (nI f)), (2, .int (nI w)), (3, .int y), (4, .int (nI k))] → W p l e (rmo 4 97) s m ([.ref (a 0), .int (nI f), .int (nI w)] : List Value).toArray below meth c H [] 0 0 Q (F0 m 5 ls []) := by
    intro fuel
    induction fuel with
    | zero => intro k y hm; exact absurd hm (Nat.not_lt_zero _)
    | succ fuel ih5 =>
      intro k y hm5 hk hk2 hy ls hl
      refine lv_iload hx hb dX0_costOfAll_5 (lv_at hl 4 rfl) ?_
      refine lv_iload_n hx hb dX0_costOfAll_7 rfl (lv_at hl 2 rfl) ?_
      refine lv_icmp_gt (tgt := 54) hx hb dX0_costOfAll_8 (by decide) (fun c_1 => ?_) (fun c_1 => ?_)
      · replace c_1 := cn_lt (a := w) (b := k) (by omega) (by omega) c_1
        refine lv_iload_n hx hb dX0_costOfAll_54 rfl (lv_at hl 3 rfl) ?_
        exact hret _ _ _ (show y = smD (cAlD N Z) f (w + 1 - f) from by
            rw [hy, show k = w + 1 by omega]) dX0_costOfAll_55
      · replace c_1 := cn_nlt (a := w) (b := k) (by omega) (by omega) c_1
        refine lv_iload hx hb dX0_costOfAll_11 (lv_at hl 4 rfl) ?_
        refine lv_iconst (v := 1) hx hb dX0_costOfAll_13 (by decide) ?_
        refine lv_iadd hx hb dX0_costOfAll_14 ?_
        rw [show ((nI k) + 1) = (nI (k + 1)) from nI_add k 1]
        refine lv_iload_n hx hb dX0_costOfAll_15 rfl (lv_at hl 2 rfl) ?_
        refine lv_iconst (v := 1) hx hb dX0_costOfAll_16 (by decide) ?_
        refine lv_iadd hx hb dX0_costOfAll_17 ?_
        rw [show ((nI w) + 1) = (nI (w + 1)) from nI_add w 1]
        refine lv_aload_n hx hb dX0_costOfAll_18 rfl (lv_at hl 0 rfl) ?_
        refine lv_iload hx hb dX0_costOfAll_19 (lv_at hl 4 rfl) ?_
        refine ro_V S hkx (mX0_nextChange l (d := (nI k)) (hP := hP) (hwf := hwf)) gX0_costOfAll_X0_nextChange rfl idX0_nextChange ⟨Nat.le_of_ble_eq_true rfl, Nat.le_of_ble_eq_true rfl⟩ hP 0 rfl rfl rfl rfl hl.1 rfl (Nat.le_of_ble_eq_true rfl) dX0_costOfAll_21 ⟨Nat.le_of_ble_eq_true rfl, Nat.le_of_ble_eq_true rfl⟩ (fun r_2 hr_2 => ?_)
        subst hr_2
        rw [(nxN_spec hwf (show k < 1000 by omega)).1]
        obtain ⟨-, hn1, hn2, hn3⟩ := nxN_spec hwf (show k < 1000 by omega)
        refine va_mmin hx hb (hml.trans hl.1.symm) hown kM153 tMmin nMath oMmin (Nat.le_of_ble_eq_true rfl) (Nat.le_of_ble_eq_true rfl) (Nat.le_refl _) (Nat.le_refl _) dX0_costOfAll_24 ?_
        rw [show (if (nI (nxN N Z k)) < (nI (w + 1)) then (nI (nxN N Z k)) else (nI (w + 1))) = (nI (min (nxN N Z k) (w + 1))) from nmin (by omega) (by omega)]
        refine va_mmax hx hb (hml.trans hl.1.symm) hown kM145 tMmax nMath oMmax (Nat.le_of_ble_eq_true rfl) (Nat.le_of_ble_eq_true rfl) (Nat.le_refl _) (Nat.le_refl _) dX0_costOfAll_27 ?_
        rw [show (if (nI (k + 1)) < (nI (min (nxN N Z k) (w + 1))) then (nI (min (nxN N Z k) (w + 1))) else (nI (k + 1))) = (nI (max (k + 1) (min (nxN N Z k) (w + 1)))) from nmax (by omega) (by omega)]
        refine lv_istore (lv' := [(5, .int (nI (max (k + 1) (min (nxN N Z k) (w + 1))))), (0, .ref (a 0)), (1, .int (nI f)), (2, .int (nI w)), (3, .int y), (4, .int (nI k))]) hx hb dX0_costOfAll_30 hl (by decide) rfl (fun ls hl => ?_)
        refine lv_iload_n hx hb dX0_costOfAll_32 rfl (lv_at hl 4 rfl) ?_
        refine lv_iload hx hb dX0_costOfAll_33 (lv_at hl 0 rfl) ?_
        refine lv_iload hx hb dX0_costOfAll_35 (lv_at hl 5 rfl) ?_
        refine lv_isub hx hb dX0_costOfAll_37 ?_
        rw [show ((nI (max (k + 1) (min (nxN N Z k) (w + 1)))) - (nI k)) = (nI ((max (k + 1) (min (nxN N Z k) (w + 1))) - k)) from pk_sub (a := (max (k + 1) (min (nxN N Z k) (w + 1)))) (b := k) (by omega)]
        refine lv_aload_n hx hb dX0_costOfAll_38 rfl (lv_at hl 1 rfl) ?_
        refine lv_iload hx hb dX0_costOfAll_39 (lv_at hl 5 rfl) ?_
        refine ro_V S hkx (mX0_costOfAllOn l (d := (nI k)) (hP := hP) (hwf := hwf)) gX0_costOfAll_X0_costOfAllOn rfl idX0_costOfAllOn ⟨Nat.le_of_ble_eq_true rfl, Nat.le_of_ble_eq_true rfl⟩ hP 0 rfl rfl rfl rfl hl.1 rfl (Nat.le_of_ble_eq_true rfl) dX0_costOfAll_41 ⟨Nat.le_of_ble_eq_true rfl, Nat.le_of_ble_eq_true rfl⟩ (fun r_3 hr_3 => ?_)
        subst hr_3
        refine lv_imul hx hb dX0_costOfAll_44 ?_
        refine lv_iadd hx hb dX0_costOfAll_45 ?_
        refine lv_istore_n (lv' := [(3, .int (y + ((nI ((max (k + 1) (min (nxN N Z k) (w + 1))) - k)) * (cAl N Z (nI k) (N 2))))), (5, .int (nI (max (k + 1) (min (nxN N Z k) (w + 1))))), (0, .ref (a 0)), (1, .int (nI f)), (2, .int (nI w)), (4, .int (nI k))]) hx hb dX0_costOfAll_46 rfl hl (by decide) rfl (fun ls hl => ?_)
        refine lv_iload hx hb dX0_costOfAll_47 (lv_at hl 1 rfl) ?_
        refine lv_istore (lv' := [(4, .int (nI (max (k + 1) (min (nxN N Z k) (w + 1))))), (3, .int (y + ((nI ((max (k + 1) (min (nxN N Z k) (w + 1))) - k)) * (cAl N Z (nI k) (N 2))))), (5, .int (nI (max (k + 1) (min (nxN N Z k) (w + 1))))), (0, .ref (a 0)), (1, .int (nI f)), (2, .int (nI w))]) hx hb dX0_costOfAll_49 hl (by decide) rfl (fun ls hl => ?_)
        refine lv_goto (tgt := 5) hx hb dX0_costOfAll_51 (by decide) ?_
        exact ih5 (max (k + 1) (min (nxN N Z k) (w + 1))) (y + ((nI ((max (k + 1) (min (nxN N Z k) (w + 1))) - k)) * (cAl N Z (nI k) (N 2)))) (by omega) (by omega) (by omega) (by rw [hy]; exact cAl_step hwf hk (by omega) (fun j a b => hn3 j a (by omega))) _ (lv_sub hl [3, 4, 5, 1, 0] rfl)
  exact L5 _ f 0 (Nat.lt_succ_self _) (by omega) (by omega) (by rw [Nat.sub_self]; rfl) _ (lv_sub hl [2, 3, 4, 1, 0] rfl)

theorem idX0_costOfOne : yX0_costOfOne.cls = RX0 ∧ yX0_costOfOne.cls ≠ "java/lang/invoke/MethodHandle" ∧ yX0_costOfOne.cls ≠ "java/lang/invoke/VarHandle" ∧ (parseMethodDescriptor yX0_costOfOne.desc).map (fun d => d.parameters.length) = some 4 := by decide +kernel

set_option maxHeartbeats 4000000 in
set_option maxRecDepth 100000 in
theorem mX0_costOfOne (l : Launch) {G : va_G} {T : Nat → ClassId} {H : Heap} {a : Nat → Nat} {N : Nat → Nat} {Z : Nat → Nat → Int32} {x : Int32} {v : Nat} {f : Nat} {w : Nat} (hP : va_P G vwCl (wCal T a N Z) H) (hwf : wf N Z) (hv : v < N 0) (hfl : f ≤ w) (hl9 : w ≤ 999) : ro l yX0_costOfOne wsX0_costOfOne 3 74 [.ref (a 0), .int x, .int (nI v), .int (nI f), .int (nI w)] G T H (fun r => r = smD (cstD N Z x v) f (w + 1 - f)) := by
  refine ro_of (cc := cX0_costOfOne) (maxL := 8) (ret := .int) (own := RX0) (by decide +kernel) rfl rfl (Nat.le_of_ble_eq_true rfl) (fun v _ => vp_nar_int v) ?_
  intro p e s m below meth c Q ls S hkx hl hret
  obtain ⟨hx, hb, hml, hown, hts⟩ := id S
  have hl : lv_has ls 8 [(0, .ref (a 0)), (1, .int x), (2, .int (nI v)), (3, .int (nI f)), (4, .int (nI w))] := hl
  have kM153 := hts (.methodLink RX0 153 Lib.Math.min.name) (by decide +kernel)
  have tMmin := hts (.static Lib.Math.min.name) (by decide +kernel)
  have nMath := hts (.initialized "java/lang/Math") (by decide +kernel)
  have oMmin := hts (.code Lib.Math.min.name Lib.Math.min.code 2 (some .int)) (by decide +kernel)
  have kM145 := hts (.methodLink RX0 145 Lib.Math.max.name) (by decide +kernel)
  have tMmax := hts (.static Lib.Math.max.name) (by decide +kernel)
  have oMmax := hts (.code Lib.Math.max.name Lib.Math.max.code 2 (some .int)) (by decide +kernel)
  have hb2 := hwf.1
  refine lv_iconst (v := 0) hx hb dX0_costOfOne_0 (by decide) ?_
  refine lv_istore (lv' := [(5, .int 0), (0, .ref (a 0)), (1, .int x), (2, .int (nI v)), (3, .int (nI f)), (4, .int (nI w))]) hx hb dX0_costOfOne_1 hl (by decide) rfl (fun ls hl => ?_)
  refine lv_iload_n hx hb dX0_costOfOne_3 rfl (lv_at hl 4 rfl) ?_
  refine lv_istore (lv' := [(6, .int (nI f)), (5, .int 0), (0, .ref (a 0)), (1, .int x), (2, .int (nI v)), (3, .int (nI f)), (4, .int (nI w))]) hx hb dX0_costOfOne_4 hl (by decide) rfl (fun ls hl => ?_)
  have L6 : ∀ (fuel : Nat) (k : Nat) (y : Int32), 1000 - k < fuel → f ≤ k → k ≤ w + 1 → y = smD (cstD N Z x v) f (k - f) → ∀ ls : Array Slot, lv_has ls 8 [(0, .ref (a 0)), (1, .int x), (2, .int (nI v)), (3, .int (nI f)), (4, .int (nI w)), (5, .int y), (6, .int (nI k))] → W p l e (rmo 3 74) s m ([.ref (a 0), .int x, .int (nI v), .int (nI f), .int (nI w)] : List Value).toArray below meth c H [] 0 0 Q (F0 m 6 ls []) := by
    intro fuel
    induction fuel with
    | zero => intro k y hm; exact absurd hm (Nat.not_lt_zero _)
    | succ fuel ih6 =>
      intro k y hm6 hk hk2 hy ls hl
      refine lv_iload hx hb dX0_costOfOne_6 (lv_at hl 6 rfl) ?_
      refine lv_iload hx hb dX0_costOfOne_8 (lv_at hl 4 rfl) ?_
      refine lv_icmp_gt (tgt := 61) hx hb dX0_costOfOne_10 (by decide) (fun c_1 => ?_) (fun c_1 => ?_)
      · replace c_1 := cn_lt (a := w) (b := k) (by omega) (by omega) c_1
        refine lv_iload hx hb dX0_costOfOne_61 (lv_at hl 5 rfl) ?_
        exact hret _ _ _ (show y = smD (cstD N Z x v) f (w + 1 - f) from by
            rw [hy, show k = w + 1 by omega]) dX0_costOfOne_63
      · replace c_1 := cn_nlt (a := w) (b := k) (by omega) (by omega) c_1
        refine lv_iload hx hb dX0_costOfOne_13 (lv_at hl 6 rfl) ?_
        refine lv_iconst (v := 1) hx hb dX0_costOfOne_15 (by decide) ?_
        refine lv_iadd hx hb dX0_costOfOne_16 ?_
        rw [show ((nI k) + 1) = (nI (k + 1)) from nI_add k 1]
        refine lv_iload hx hb dX0_costOfOne_17 (lv_at hl 4 rfl) ?_
        refine lv_iconst (v := 1) hx hb dX0_costOfOne_19 (by decide) ?_
        refine lv_iadd hx hb dX0_costOfOne_20 ?_
        rw [show ((nI w) + 1) = (nI (w + 1)) from nI_add w 1]
        refine lv_aload_n hx hb dX0_costOfOne_21 rfl (lv_at hl 0 rfl) ?_
        refine lv_iload hx hb dX0_costOfOne_22 (lv_at hl 6 rfl) ?_
        refine ro_V S hkx (mX0_nextChange l (d := (nI k)) (hP := hP) (hwf := hwf)) gX0_costOfOne_X0_nextChange rfl idX0_nextChange ⟨Nat.le_of_ble_eq_true rfl, Nat.le_of_ble_eq_true rfl⟩ hP 0 rfl rfl rfl rfl hl.1 rfl (Nat.le_of_ble_eq_true rfl) dX0_costOfOne_24 ⟨Nat.le_of_ble_eq_true rfl, Nat.le_of_ble_eq_true rfl⟩ (fun r_2 hr_2 => ?_)
        subst hr_2
        rw [(nxN_spec hwf (show k < 1000 by omega)).1]
        obtain ⟨-, hn1, hn2, hn3⟩ := nxN_spec hwf (show k < 1000 by omega)
        refine va_mmin hx hb (hml.trans hl.1.symm) hown kM153 tMmin nMath oMmin (Nat.le_of_ble_eq_true rfl) (Nat.le_of_ble_eq_true rfl) (Nat.le_refl _) (Nat.le_refl _) dX0_costOfOne_27 ?_
        rw [show (if (nI (nxN N Z k)) < (nI (w + 1)) then (nI (nxN N Z k)) else (nI (w + 1))) = (nI (min (nxN N Z k) (w + 1))) from nmin (by omega) (by omega)]
        refine va_mmax hx hb (hml.trans hl.1.symm) hown kM145 tMmax nMath oMmax (Nat.le_of_ble_eq_true rfl) (Nat.le_of_ble_eq_true rfl) (Nat.le_refl _) (Nat.le_refl _) dX0_costOfOne_30 ?_
        rw [show (if (nI (k + 1)) < (nI (min (nxN N Z k) (w + 1))) then (nI (min (nxN N Z k) (w + 1))) else (nI (k + 1))) = (nI (max (k + 1) (min (nxN N Z k) (w + 1)))) from nmax (by omega) (by omega)]
        refine lv_istore (lv' := [(7, .int (nI (max (k + 1) (min (nxN N Z k) (w + 1))))), (0, .ref (a 0)), (1, .int x), (2, .int (nI v)), (3, .int (nI f)), (4, .int (nI w)), (5, .int y), (6, .int (nI k))]) hx hb dX0_costOfOne_33 hl (by decide) rfl (fun ls hl => ?_)
        refine lv_iload hx hb dX0_costOfOne_35 (lv_at hl 6 rfl) ?_
        refine lv_iload hx hb dX0_costOfOne_37 (lv_at hl 0 rfl) ?_
        refine lv_iload hx hb dX0_costOfOne_39 (lv_at hl 7 rfl) ?_
        refine lv_isub hx hb dX0_costOfOne_41 ?_
        rw [show ((nI (max (k + 1) (min (nxN N Z k) (w + 1)))) - (nI k)) = (nI ((max (k + 1) (min (nxN N Z k) (w + 1))) - k)) from pk_sub (a := (max (k + 1) (min (nxN N Z k) (w + 1)))) (b := k) (by omega)]
        refine lv_aload_n hx hb dX0_costOfOne_42 rfl (lv_at hl 1 rfl) ?_
        refine lv_iload_n hx hb dX0_costOfOne_43 rfl (lv_at hl 2 rfl) ?_
        refine lv_iload_n hx hb dX0_costOfOne_44 rfl (lv_at hl 3 rfl) ?_
        refine lv_iload hx hb dX0_costOfOne_45 (lv_at hl 7 rfl) ?_
        refine ro_V S hkx (mX0_costOn l (x := x) (v := v) (d := (nI k)) (hP := hP) (hv := (by omega)) (hs := (by omega)) (hf := (by omega))) gX0_costOfOne_X0_costOn rfl idX0_costOn ⟨Nat.le_of_ble_eq_true rfl, Nat.le_of_ble_eq_true rfl⟩ hP 0 rfl rfl rfl rfl hl.1 rfl (Nat.le_of_ble_eq_true rfl) dX0_costOfOne_47 ⟨Nat.le_of_ble_eq_true rfl, Nat.le_of_ble_eq_true rfl⟩ (fun r_3 hr_3 => ?_)
        subst hr_3
        refine lv_imul hx hb dX0_costOfOne_50 ?_
        refine lv_iadd hx hb dX0_costOfOne_51 ?_
        refine lv_istore (lv' := [(5, .int (y + ((nI ((max (k + 1) (min (nxN N Z k) (w + 1))) - k)) * (cst N Z x v (nI k))))), (7, .int (nI (max (k + 1) (min (nxN N Z k) (w + 1))))), (0, .ref (a 0)), (1, .int x), (2, .int (nI v)), (3, .int (nI f)), (4, .int (nI w)), (6, .int (nI k))]) hx hb dX0_costOfOne_52 hl (by decide) rfl (fun ls hl => ?_)
        refine lv_iload hx hb dX0_costOfOne_54 (lv_at hl 1 rfl) ?_
        refine lv_istore (lv' := [(6, .int (nI (max (k + 1) (min (nxN N Z k) (w + 1))))), (5, .int (y + ((nI ((max (k + 1) (min (nxN N Z k) (w + 1))) - k)) * (cst N Z x v (nI k))))), (7, .int (nI (max (k + 1) (min (nxN N Z k) (w + 1))))), (0, .ref (a 0)), (1, .int x), (2, .int (nI v)), (3, .int (nI f)), (4, .int (nI w))]) hx hb dX0_costOfOne_56 hl (by decide) rfl (fun ls hl => ?_)
        refine lv_goto (tgt := 6) hx hb dX0_costOfOne_58 (by decide) ?_
        exact ih6 (max (k + 1) (min (nxN N Z k) (w + 1))) (y + ((nI ((max (k + 1) (min (nxN N Z k) (w + 1))) - k)) * (cst N Z x v (nI k)))) (by omega) (by omega) (by omega) (by rw [hy]; exact cst_step x hv hk (by omega) (fun j a b => hn3 j a (by omega))) _ (lv_sub hl [3, 4, 5, 6, 7, 1, 0] rfl)
  exact L6 _ f 0 (Nat.lt_succ_self _) (by omega) (by omega) (by rw [Nat.sub_self]; rfl) _ (lv_sub hl [2, 3, 4, 5, 6, 1, 0] rfl)

theorem idX0_firstDayStranded : yX0_firstDayStranded.cls = RX0 ∧ yX0_firstDayStranded.cls ≠ "java/lang/invoke/MethodHandle" ∧ yX0_firstDayStranded.cls ≠ "java/lang/invoke/VarHandle" ∧ (parseMethodDescriptor yX0_firstDayStranded.desc).map (fun d => d.parameters.length) = some 2 := by decide +kernel

set_option maxHeartbeats 4000000 in
set_option maxRecDepth 100000 in
theorem mX0_firstDayStranded (l : Launch) {G : va_G} {T : Nat → ClassId} {H : Heap} {a : Nat → Nat} {N : Nat → Nat} {Z : Nat → Nat → Int32} {u : Nat} {f : Nat} (hP : va_P G vwCl (wCal T a N Z) H) (hwf : wf N Z) (hu : u < N 2) (hf9 : f ≤ 999) : ro l yX0_firstDayStranded wsX0_firstDayStranded 4 92 [.ref (a 0), .int (nI u), .int (nI f)] G T H (fun r => r = fstD (uuB N Z u) f (1000 - f)) := by
  refine ro_of (cc := cX0_firstDayStranded) (maxL := 4) (ret := .int) (own := RX0) (by decide +kernel) rfl rfl (Nat.le_of_ble_eq_true rfl) (fun v _ => vp_nar_int v) ?_
  intro p e s m below meth c Q ls S hkx hl hret
  obtain ⟨hx, hb, hml, hown, hts⟩ := id S
  have hl : lv_has ls 4 [(0, .ref (a 0)), (1, .int (nI u)), (2, .int (nI f))] := hl
  have kM145 := hts (.methodLink RX0 145 Lib.Math.max.name) (by decide +kernel)
  have tMmax := hts (.static Lib.Math.max.name) (by decide +kernel)
  have nMath := hts (.initialized "java/lang/Math") (by decide +kernel)
  have oMmax := hts (.code Lib.Math.max.name Lib.Math.max.code 2 (some .int)) (by decide +kernel)
  have hb2 := hwf.1
  refine lv_iload_n hx hb dX0_firstDayStranded_0 rfl (lv_at hl 2 rfl) ?_
  refine lv_istore_n (lv' := [(3, .int (nI f)), (0, .ref (a 0)), (1, .int (nI u)), (2, .int (nI f))]) hx hb dX0_firstDayStranded_1 rfl hl (by decide) rfl (fun ls hl => ?_)
  have L2 : ∀ (fuel : Nat) (k : Nat), 1000 - k < fuel → k ≤ 1000 → fstD (uuB N Z u) f (1000 - f) = fstD (uuB N Z u) k (1000 - k) → ∀ ls : Array Slot, lv_has ls 4 [(0, .ref (a 0)), (1, .int (nI u)), (2, .int (nI f)), (3, .int (nI k))] → W p l e (rmo 4 92) s m ([.ref (a 0), .int (nI u), .int (nI f)] : List Value).toArray below meth c H [] 0 0 Q (F0 m 2 ls []) := by
    intro fuel
    induction fuel with
    | zero => intro k hm; exact absurd hm (Nat.not_lt_zero _)
    | succ fuel ih2 =>
      intro k hm2 hk hy ls hl
      refine lv_iload_n hx hb dX0_firstDayStranded_2 rfl (lv_at hl 3 rfl) ?_
      refine lv_sipush (v := 1000) hx hb dX0_firstDayStranded_3 (by decide) ?_
      refine lv_icmp_ge (tgt := 35) hx hb dX0_firstDayStranded_6 (by decide) (fun c_1 => ?_) (fun c_1 => ?_)
      · replace c_1 := cn_le (a := 1000) (b := k) (by omega) (by omega) c_1
        refine lv_iconst (v := (-1)) hx hb dX0_firstDayStranded_35 (by decide) ?_
        exact hret _ _ _ (show (-1) = fstD (uuB N Z u) f (1000 - f) from by
            rw [hy, fst_end (by omega)]) dX0_firstDayStranded_36
      · replace c_1 := cn_nle (a := 1000) (b := k) (by omega) (by omega) c_1
        refine lv_aload_n hx hb dX0_firstDayStranded_9 rfl (lv_at hl 0 rfl) ?_
        refine lv_iload_n hx hb dX0_firstDayStranded_10 rfl (lv_at hl 1 rfl) ?_
        refine lv_iload_n hx hb dX0_firstDayStranded_11 rfl (lv_at hl 3 rfl) ?_
        refine ro_V S hkx (mX0_unservedUses l (u := u) (d := (nI k)) (hP := hP) (hwf := hwf) (hu := (by omega))) gX0_firstDayStranded_X0_unservedUses rfl idX0_unservedUses ⟨Nat.le_of_ble_eq_true rfl, Nat.le_of_ble_eq_true rfl⟩ hP 0 rfl rfl rfl rfl hl.1 rfl (Nat.le_of_ble_eq_true rfl) dX0_firstDayStranded_12 ⟨Nat.le_of_ble_eq_true rfl, Nat.le_of_ble_eq_true rfl⟩ (fun r_2 hr_2 => ?_)
        subst hr_2
        refine lv_if_eq (tgt := 20) hx hb dX0_firstDayStranded_15 (by decide) (fun c_3 => ?_) (fun c_3 => ?_)
        · skip
          refine lv_iload_n hx hb dX0_firstDayStranded_20 rfl (lv_at hl 3 rfl) ?_
          refine lv_iconst (v := 1) hx hb dX0_firstDayStranded_21 (by decide) ?_
          refine lv_iadd hx hb dX0_firstDayStranded_22 ?_
          rw [show ((nI k) + 1) = (nI (k + 1)) from nI_add k 1]
          refine lv_aload_n hx hb dX0_firstDayStranded_23 rfl (lv_at hl 0 rfl) ?_
          refine lv_iload_n hx hb dX0_firstDayStranded_24 rfl (lv_at hl 3 rfl) ?_
          refine ro_V S hkx (mX0_nextChange l (d := (nI k)) (hP := hP) (hwf := hwf)) gX0_firstDayStranded_X0_nextChange rfl idX0_nextChange ⟨Nat.le_of_ble_eq_true rfl, Nat.le_of_ble_eq_true rfl⟩ hP 0 rfl rfl rfl rfl hl.1 rfl (Nat.le_of_ble_eq_true rfl) dX0_firstDayStranded_25 ⟨Nat.le_of_ble_eq_true rfl, Nat.le_of_ble_eq_true rfl⟩ (fun r_4 hr_4 => ?_)
          subst hr_4
          rw [(nxN_spec hwf (show k < 1000 by omega)).1]
          obtain ⟨-, hn1, hn2, hn3⟩ := nxN_spec hwf (show k < 1000 by omega)
          refine va_mmax hx hb (hml.trans hl.1.symm) hown kM145 tMmax nMath oMmax (Nat.le_of_ble_eq_true rfl) (Nat.le_of_ble_eq_true rfl) (Nat.le_refl _) (Nat.le_refl _) dX0_firstDayStranded_28 ?_
          rw [show (if (nI (k + 1)) < (nI (nxN N Z k)) then (nI (nxN N Z k)) else (nI (k + 1))) = (nI (max (k + 1) (nxN N Z k))) from nmax (by omega) (by omega)]
          refine lv_istore_n (lv' := [(3, .int (nI (max (k + 1) (nxN N Z k)))), (0, .ref (a 0)), (1, .int (nI u)), (2, .int (nI f))]) hx hb dX0_firstDayStranded_31 rfl hl (by decide) rfl (fun ls hl => ?_)
          refine lv_goto (tgt := 2) hx hb dX0_firstDayStranded_32 (by decide) ?_
          exact ih2 (max (k + 1) (nxN N Z k)) (by omega) (by omega) (by rw [hy]; exact fst_step (by omega) (by simp [uuB, *]) (fun j a b => uuB_cg hwf hu (hn3 j a (by omega)))) _ (lv_sub hl [1, 2, 3, 0] rfl)
        · skip
          refine lv_iload_n hx hb dX0_firstDayStranded_18 rfl (lv_at hl 3 rfl) ?_
          exact hret _ _ _ (show (nI k) = fstD (uuB N Z u) f (1000 - f) from by
              rw [hy, fst_hit (by simp [uuB, *]) (by omega)]) dX0_firstDayStranded_19
  exact L2 _ f (Nat.lt_succ_self _) (by omega) (by rfl) _ (lv_sub hl [1, 2, 3, 0] rfl)

theorem idX0_firstDayUnserved : yX0_firstDayUnserved.cls = RX0 ∧ yX0_firstDayUnserved.cls ≠ "java/lang/invoke/MethodHandle" ∧ yX0_firstDayUnserved.cls ≠ "java/lang/invoke/VarHandle" ∧ (parseMethodDescriptor yX0_firstDayUnserved.desc).map (fun d => d.parameters.length) = some 4 := by decide +kernel

set_option maxHeartbeats 4000000 in
set_option maxRecDepth 100000 in
theorem mX0_firstDayUnserved (l : Launch) {G : va_G} {T : Nat → ClassId} {H : Heap} {a : Nat → Nat} {N : Nat → Nat} {Z : Nat → Nat → Int32} {x : Int32} {v : Nat} {f : Nat} {w : Nat} (hP : va_P G vwCl (wCal T a N Z) H) (hwf : wf N Z) (hv : v < N 0) (hf9 : f ≤ 999) (hl9 : w ≤ 999) : ro l yX0_firstDayUnserved wsX0_firstDayUnserved 3 70 [.ref (a 0), .int x, .int (nI v), .int (nI f), .int (nI w)] G T H (fun r => r = fstD (unB N Z x v) f (w + 1 - f)) := by
  refine ro_of (cc := cX0_firstDayUnserved) (maxL := 6) (ret := .int) (own := RX0) (by decide +kernel) rfl rfl (Nat.le_of_ble_eq_true rfl) (fun v _ => vp_nar_int v) ?_
  intro p e s m below meth c Q ls S hkx hl hret
  obtain ⟨hx, hb, hml, hown, hts⟩ := id S
  have hl : lv_has ls 6 [(0, .ref (a 0)), (1, .int x), (2, .int (nI v)), (3, .int (nI f)), (4, .int (nI w))] := hl
  have kM145 := hts (.methodLink RX0 145 Lib.Math.max.name) (by decide +kernel)
  have tMmax := hts (.static Lib.Math.max.name) (by decide +kernel)
  have nMath := hts (.initialized "java/lang/Math") (by decide +kernel)
  have oMmax := hts (.code Lib.Math.max.name Lib.Math.max.code 2 (some .int)) (by decide +kernel)
  have hb2 := hwf.1
  refine lv_iload_n hx hb dX0_firstDayUnserved_0 rfl (lv_at hl 3 rfl) ?_
  refine lv_istore (lv' := [(5, .int (nI f)), (0, .ref (a 0)), (1, .int x), (2, .int (nI v)), (3, .int (nI f)), (4, .int (nI w))]) hx hb dX0_firstDayUnserved_1 hl (by decide) rfl (fun ls hl => ?_)
  have L3 : ∀ (fuel : Nat) (k : Nat), 1001 - k < fuel → k ≤ 1000 → fstD (unB N Z x v) f (w + 1 - f) = fstD (unB N Z x v) k (w + 1 - k) → ∀ ls : Array Slot, lv_has ls 6 [(0, .ref (a 0)), (1, .int x), (2, .int (nI v)), (3, .int (nI f)), (4, .int (nI w)), (5, .int (nI k))] → W p l e (rmo 3 70) s m ([.ref (a 0), .int x, .int (nI v), .int (nI f), .int (nI w)] : List Value).toArray below meth c H [] 0 0 Q (F0 m 3 ls []) := by
    intro fuel
    induction fuel with
    | zero => intro k hm; exact absurd hm (Nat.not_lt_zero _)
    | succ fuel ih3 =>
      intro k hm3 hk hy ls hl
      refine lv_iload hx hb dX0_firstDayUnserved_3 (lv_at hl 5 rfl) ?_
      refine lv_iload hx hb dX0_firstDayUnserved_5 (lv_at hl 4 rfl) ?_
      refine lv_icmp_gt (tgt := 42) hx hb dX0_firstDayUnserved_7 (by decide) (fun c_1 => ?_) (fun c_1 => ?_)
      · replace c_1 := cn_lt (a := w) (b := k) (by omega) (by omega) c_1
        refine lv_iconst (v := (-1)) hx hb dX0_firstDayUnserved_42 (by decide) ?_
        exact hret _ _ _ (show (-1) = fstD (unB N Z x v) f (w + 1 - f) from by
            rw [hy, fst_end (by omega)]) dX0_firstDayUnserved_43
      · replace c_1 := cn_nlt (a := w) (b := k) (by omega) (by omega) c_1
        refine lv_aload_n hx hb dX0_firstDayUnserved_10 rfl (lv_at hl 0 rfl) ?_
        refine lv_iload_n hx hb dX0_firstDayUnserved_11 rfl (lv_at hl 1 rfl) ?_
        refine lv_iload_n hx hb dX0_firstDayUnserved_12 rfl (lv_at hl 2 rfl) ?_
        refine lv_iload hx hb dX0_firstDayUnserved_13 (lv_at hl 5 rfl) ?_
        refine ro_V S hkx (mX0_unserved l (x := x) (v := v) (d := (nI k)) (hP := hP) (hv := (by omega)) (hs := (by omega))) gX0_firstDayUnserved_X0_unserved rfl idX0_unserved ⟨Nat.le_of_ble_eq_true rfl, Nat.le_of_ble_eq_true rfl⟩ hP 0 rfl rfl rfl rfl hl.1 rfl (Nat.le_of_ble_eq_true rfl) dX0_firstDayUnserved_15 ⟨Nat.le_of_ble_eq_true rfl, Nat.le_of_ble_eq_true rfl⟩ (fun r_2 hr_2 => ?_)
        subst hr_2
        refine lv_if_eq (tgt := 24) hx hb dX0_firstDayUnserved_18 (by decide) (fun c_3 => ?_) (fun c_3 => ?_)
        · skip
          refine lv_iload hx hb dX0_firstDayUnserved_24 (lv_at hl 5 rfl) ?_
          refine lv_iconst (v := 1) hx hb dX0_firstDayUnserved_26 (by decide) ?_
          refine lv_iadd hx hb dX0_firstDayUnserved_27 ?_
          rw [show ((nI k) + 1) = (nI (k + 1)) from nI_add k 1]
          refine lv_aload_n hx hb dX0_firstDayUnserved_28 rfl (lv_at hl 0 rfl) ?_
          refine lv_iload hx hb dX0_firstDayUnserved_29 (lv_at hl 5 rfl) ?_
          refine ro_V S hkx (mX0_nextChange l (d := (nI k)) (hP := hP) (hwf := hwf)) gX0_firstDayUnserved_X0_nextChange rfl idX0_nextChange ⟨Nat.le_of_ble_eq_true rfl, Nat.le_of_ble_eq_true rfl⟩ hP 0 rfl rfl rfl rfl hl.1 rfl (Nat.le_of_ble_eq_true rfl) dX0_firstDayUnserved_31 ⟨Nat.le_of_ble_eq_true rfl, Nat.le_of_ble_eq_true rfl⟩ (fun r_4 hr_4 => ?_)
          subst hr_4
          rw [(nxN_spec hwf (show k < 1000 by omega)).1]
          obtain ⟨-, hn1, hn2, hn3⟩ := nxN_spec hwf (show k < 1000 by omega)
          refine va_mmax hx hb (hml.trans hl.1.symm) hown kM145 tMmax nMath oMmax (Nat.le_of_ble_eq_true rfl) (Nat.le_of_ble_eq_true rfl) (Nat.le_refl _) (Nat.le_refl _) dX0_firstDayUnserved_34 ?_
          rw [show (if (nI (k + 1)) < (nI (nxN N Z k)) then (nI (nxN N Z k)) else (nI (k + 1))) = (nI (max (k + 1) (nxN N Z k))) from nmax (by omega) (by omega)]
          refine lv_istore (lv' := [(5, .int (nI (max (k + 1) (nxN N Z k)))), (0, .ref (a 0)), (1, .int x), (2, .int (nI v)), (3, .int (nI f)), (4, .int (nI w))]) hx hb dX0_firstDayUnserved_37 hl (by decide) rfl (fun ls hl => ?_)
          refine lv_goto (tgt := 3) hx hb dX0_firstDayUnserved_39 (by decide) ?_
          exact ih3 (max (k + 1) (nxN N Z k)) (by omega) (by omega) (by rw [hy]; exact fst_step (by omega) (by simp [unB, *]) (fun j a b => unB_cg x hv (hn3 j a (by omega)))) _ (lv_sub hl [1, 2, 3, 4, 5, 0] rfl)
        · skip
          refine lv_iload hx hb dX0_firstDayUnserved_21 (lv_at hl 5 rfl) ?_
          exact hret _ _ _ (show (nI k) = fstD (unB N Z x v) f (w + 1 - f) from by
              rw [hy, fst_hit (by simp [unB, *]) (by omega)]) dX0_firstDayUnserved_23
  exact L3 _ f (Nat.lt_succ_self _) (by omega) (by rfl) _ (lv_sub hl [1, 2, 3, 4, 5, 0] rfl)

theorem idX0_servedFrom : yX0_servedFrom.cls = RX0 ∧ yX0_servedFrom.cls ≠ "java/lang/invoke/MethodHandle" ∧ yX0_servedFrom.cls ≠ "java/lang/invoke/VarHandle" ∧ (parseMethodDescriptor yX0_servedFrom.desc).map (fun d => d.parameters.length) = some 3 := by decide +kernel

set_option maxHeartbeats 4000000 in
set_option maxRecDepth 100000 in
theorem mX0_servedFrom (l : Launch) {G : va_G} {T : Nat → ClassId} {H : Heap} {a : Nat → Nat} {N : Nat → Nat} {Z : Nat → Nat → Int32} {x : Int32} {v : Nat} {f : Nat} (hP : va_P G vwCl (wCal T a N Z) H) (hwf : wf N Z) (hv : v < N 0) (hf9 : f ≤ 999) : ro l yX0_servedFrom wsX0_servedFrom 3 70 [.ref (a 0), .int x, .int (nI v), .int (nI f)] G T H (fun r => r = (nI (sfD (unB N Z x v) f (1000 - f)))) := by
  refine ro_of (cc := cX0_servedFrom) (maxL := 7) (ret := .int) (own := RX0) (by decide +kernel) rfl rfl (Nat.le_of_ble_eq_true rfl) (fun v _ => vp_nar_int v) ?_
  intro p e s m below meth c Q ls S hkx hl hret
  obtain ⟨hx, hb, hml, hown, hts⟩ := id S
  have hl : lv_has ls 7 [(0, .ref (a 0)), (1, .int x), (2, .int (nI v)), (3, .int (nI f))] := hl
  have kM145 := hts (.methodLink RX0 145 Lib.Math.max.name) (by decide +kernel)
  have tMmax := hts (.static Lib.Math.max.name) (by decide +kernel)
  have nMath := hts (.initialized "java/lang/Math") (by decide +kernel)
  have oMmax := hts (.code Lib.Math.max.name Lib.Math.max.code 2 (some .int)) (by decide +kernel)
  have hb2 := hwf.1
  refine lv_iload_n hx hb dX0_servedFrom_0 rfl (lv_at hl 3 rfl) ?_
  refine lv_istore (lv' := [(4, .int (nI f)), (0, .ref (a 0)), (1, .int x), (2, .int (nI v)), (3, .int (nI f))]) hx hb dX0_servedFrom_1 hl (by decide) rfl (fun ls hl => ?_)
  refine lv_iload_n hx hb dX0_servedFrom_3 rfl (lv_at hl 4 rfl) ?_
  refine lv_istore (lv' := [(5, .int (nI f)), (4, .int (nI f)), (0, .ref (a 0)), (1, .int x), (2, .int (nI v)), (3, .int (nI f))]) hx hb dX0_servedFrom_4 hl (by decide) rfl (fun ls hl => ?_)
  have L6 : ∀ (fuel : Nat) (k : Nat) (y : Nat), 1000 - k < fuel → k ≤ 1000 → f ≤ k → y = sfD (unB N Z x v) f (k - f) → ∀ ls : Array Slot, lv_has ls 7 [(0, .ref (a 0)), (1, .int x), (2, .int (nI v)), (3, .int (nI f)), (4, .int (nI y)), (5, .int (nI k))] → W p l e (rmo 3 70) s m ([.ref (a 0), .int x, .int (nI v), .int (nI f)] : List Value).toArray below meth c H [] 0 0 Q (F0 m 6 ls []) := by
    intro fuel
    induction fuel with
    | zero => intro k y hm; exact absurd hm (Nat.not_lt_zero _)
    | succ fuel ih6 =>
      intro k y hm6 hk hk2 hy ls hl
      refine lv_iload hx hb dX0_servedFrom_6 (lv_at hl 5 rfl) ?_
      refine lv_sipush (v := 1000) hx hb dX0_servedFrom_8 (by decide) ?_
      refine lv_icmp_ge (tgt := 51) hx hb dX0_servedFrom_11 (by decide) (fun c_1 => ?_) (fun c_1 => ?_)
      · replace c_1 := cn_le (a := 1000) (b := k) (by omega) (by omega) c_1
        refine lv_iload hx hb dX0_servedFrom_51 (lv_at hl 4 rfl) ?_
        exact hret _ _ _ (show (nI y) = (nI (sfD (unB N Z x v) f (1000 - f))) from by
            rw [hy, show k = 1000 by omega]) dX0_servedFrom_53
      · replace c_1 := cn_nle (a := 1000) (b := k) (by omega) (by omega) c_1
        refine lv_iload hx hb dX0_servedFrom_14 (lv_at hl 5 rfl) ?_
        refine lv_iconst (v := 1) hx hb dX0_servedFrom_16 (by decide) ?_
        refine lv_iadd hx hb dX0_servedFrom_17 ?_
        rw [show ((nI k) + 1) = (nI (k + 1)) from nI_add k 1]
        refine lv_aload_n hx hb dX0_servedFrom_18 rfl (lv_at hl 0 rfl) ?_
        refine lv_iload hx hb dX0_servedFrom_19 (lv_at hl 5 rfl) ?_
        refine ro_V S hkx (mX0_nextChange l (d := (nI k)) (hP := hP) (hwf := hwf)) gX0_servedFrom_X0_nextChange rfl idX0_nextChange ⟨Nat.le_of_ble_eq_true rfl, Nat.le_of_ble_eq_true rfl⟩ hP 0 rfl rfl rfl rfl hl.1 rfl (Nat.le_of_ble_eq_true rfl) dX0_servedFrom_21 ⟨Nat.le_of_ble_eq_true rfl, Nat.le_of_ble_eq_true rfl⟩ (fun r_2 hr_2 => ?_)
        subst hr_2
        rw [(nxN_spec hwf (show k < 1000 by omega)).1]
        obtain ⟨-, hn1, hn2, hn3⟩ := nxN_spec hwf (show k < 1000 by omega)
        refine va_mmax hx hb (hml.trans hl.1.symm) hown kM145 tMmax nMath oMmax (Nat.le_of_ble_eq_true rfl) (Nat.le_of_ble_eq_true rfl) (Nat.le_refl _) (Nat.le_refl _) dX0_servedFrom_24 ?_
        rw [show (if (nI (k + 1)) < (nI (nxN N Z k)) then (nI (nxN N Z k)) else (nI (k + 1))) = (nI (max (k + 1) (nxN N Z k))) from nmax (by omega) (by omega)]
        refine lv_istore (lv' := [(6, .int (nI (max (k + 1) (nxN N Z k)))), (0, .ref (a 0)), (1, .int x), (2, .int (nI v)), (3, .int (nI f)), (4, .int (nI y)), (5, .int (nI k))]) hx hb dX0_servedFrom_27 hl (by decide) rfl (fun ls hl => ?_)
        refine lv_aload_n hx hb dX0_servedFrom_29 rfl (lv_at hl 1 rfl) ?_
        refine lv_iload_n hx hb dX0_servedFrom_30 rfl (lv_at hl 2 rfl) ?_
        refine lv_iload_n hx hb dX0_servedFrom_31 rfl (lv_at hl 3 rfl) ?_
        refine lv_iload hx hb dX0_servedFrom_32 (lv_at hl 6 rfl) ?_
        refine ro_V S hkx (mX0_unserved l (x := x) (v := v) (d := (nI k)) (hP := hP) (hv := (by omega)) (hs := (by omega))) gX0_servedFrom_X0_unserved rfl idX0_unserved ⟨Nat.le_of_ble_eq_true rfl, Nat.le_of_ble_eq_true rfl⟩ hP 0 rfl rfl rfl rfl hl.1 rfl (Nat.le_of_ble_eq_true rfl) dX0_servedFrom_34 ⟨Nat.le_of_ble_eq_true rfl, Nat.le_of_ble_eq_true rfl⟩ (fun r_3 hr_3 => ?_)
        subst hr_3
        refine lv_if_eq (tgt := 44) hx hb dX0_servedFrom_37 (by decide) (fun c_4 => ?_) (fun c_4 => ?_)
        · skip
          refine lv_iload hx hb dX0_servedFrom_44 (lv_at hl 0 rfl) ?_
          refine lv_istore (lv' := [(5, .int (nI (max (k + 1) (nxN N Z k)))), (6, .int (nI (max (k + 1) (nxN N Z k)))), (0, .ref (a 0)), (1, .int x), (2, .int (nI v)), (3, .int (nI f)), (4, .int (nI y))]) hx hb dX0_servedFrom_46 hl (by decide) rfl (fun ls hl => ?_)
          refine lv_goto (tgt := 6) hx hb dX0_servedFrom_48 (by decide) ?_
          exact ih6 (max (k + 1) (nxN N Z k)) y (by omega) (by omega) (by omega) (by rw [sf_step hk2 (show k < max (k + 1) (nxN N Z k) by omega) (fun j a b => unB_cg x hv (hn3 j a (by omega)))]; first | (rw [if_pos (by simp [unB, *])]; done) | (rw [if_neg (by simp [unB, *])]; exact hy)) _ (lv_sub hl [2, 3, 4, 5, 6, 0] rfl)
        · skip
          refine lv_iload hx hb dX0_servedFrom_40 (lv_at hl 0 rfl) ?_
          refine lv_istore (lv' := [(4, .int (nI (max (k + 1) (nxN N Z k)))), (6, .int (nI (max (k + 1) (nxN N Z k)))), (0, .ref (a 0)), (1, .int x), (2, .int (nI v)), (3, .int (nI f)), (5, .int (nI k))]) hx hb dX0_servedFrom_42 hl (by decide) rfl (fun ls hl => ?_)
          refine lv_iload hx hb dX0_servedFrom_44 (lv_at hl 1 rfl) ?_
          refine lv_istore (lv' := [(5, .int (nI (max (k + 1) (nxN N Z k)))), (4, .int (nI (max (k + 1) (nxN N Z k)))), (6, .int (nI (max (k + 1) (nxN N Z k)))), (0, .ref (a 0)), (1, .int x), (2, .int (nI v)), (3, .int (nI f))]) hx hb dX0_servedFrom_46 hl (by decide) rfl (fun ls hl => ?_)
          refine lv_goto (tgt := 6) hx hb dX0_servedFrom_48 (by decide) ?_
          exact ih6 (max (k + 1) (nxN N Z k)) (max (k + 1) (nxN N Z k)) (by omega) (by omega) (by omega) (by rw [sf_step hk2 (show k < max (k + 1) (nxN N Z k) by omega) (fun j a b => unB_cg x hv (hn3 j a (by omega)))]; first | (rw [if_pos (by simp [unB, *])]; done) | (rw [if_neg (by simp [unB, *])]; exact hy)) _ (lv_sub hl [3, 4, 5, 6, 1, 0] rfl)
  exact L6 _ f f (Nat.lt_succ_self _) (by omega) (by omega) (by rw [Nat.sub_self]; rfl) _ (lv_sub hl [2, 3, 4, 5, 1, 0] rfl)

theorem idX0_latestPledge : yX0_latestPledge.cls = RX0 ∧ yX0_latestPledge.cls ≠ "java/lang/invoke/MethodHandle" ∧ yX0_latestPledge.cls ≠ "java/lang/invoke/VarHandle" ∧ (parseMethodDescriptor yX0_latestPledge.desc).map (fun d => d.parameters.length) = some 3 := by decide +kernel

set_option maxHeartbeats 4000000 in
set_option maxRecDepth 100000 in
theorem mX0_latestPledge (l : Launch) {G : va_G} {T : Nat → ClassId} {H : Heap} {a : Nat → Nat} {N : Nat → Nat} {Z : Nat → Nat → Int32} {u : Nat} {v : Nat} {f : Nat} (hP : va_P G vwCl (wCal T a N Z) H) (hwf : wf N Z) (hu : u < N 2) (hv : v < N 0) (hf9 : f ≤ 999) : ro l yX0_latestPledge wsX0_latestPledge 4 96 [.ref (a 0), .int (nI u), .int (nI v), .int (nI f)] G T H (fun r => r = ltP N Z u v f) := by
  refine ro_of (cc := cX0_latestPledge) (maxL := 7) (ret := .int) (own := RX0) (by decide +kernel) rfl rfl (Nat.le_of_ble_eq_true rfl) (fun v _ => vp_nar_int v) ?_
  intro p e s m below meth c Q ls S hkx hl hret
  obtain ⟨hx, hb, hml, hown, hts⟩ := id S
  have hl : lv_has ls 7 [(0, .ref (a 0)), (1, .int (nI u)), (2, .int (nI v)), (3, .int (nI f))] := hl
  have k25 := hts (.fieldLink RX0 25 "SunsetDates$Calendar" "users" "LSunsetDates$Users;") (by decide +kernel)
  have iX0 : ∀ w ∈ wsX00, w ∈ wsX0_latestPledge := by decide +kernel
  have k99 := hts (.fieldLink RX0 99 "SunsetDates$Users" "uses" "[I") (by decide +kernel)
  have iX3 : ∀ w ∈ wsX30, w ∈ wsX0_latestPledge := by decide +kernel
  have k159 := hts (.fieldLink RX0 159 "SunsetDates$Users" "first" "[I") (by decide +kernel)
  have hb2 := hwf.1
  refine lv_aload_n hx hb dX0_latestPledge_0 rfl (lv_at hl 0 rfl) ?_
  refine va_get (D := G) (ci := 0) (C := RX0) (T := TX0) (N := 4) hx hb hts iX0 hown hkx.1 hP 0 rfl rfl 2 (by decide) k25 (fun _ h9 => h9) rfl dX0_latestPledge_1 ?_
  refine va_get (D := G) (ci := 3) (C := RX3) (T := TX3) (N := 7) hx hb hts iX3 hown hkx.1 hP 6 rfl rfl 2 (by decide) k99 (fun _ h9 => h9) rfl dX0_latestPledge_4 ?_
  refine lv_iload_n hx hb dX0_latestPledge_7 rfl (lv_at hl 1 rfl) ?_
  refine ia hx hb hkx hP 8 rfl u rfl (by omega) (by decide) dX0_latestPledge_8 ?_
  refine lv_istore (lv' := [(4, .int (Z 6 u)), (0, .ref (a 0)), (1, .int (nI u)), (2, .int (nI v)), (3, .int (nI f))]) hx hb dX0_latestPledge_9 hl (by decide) rfl (fun ls hl => ?_)
  refine lv_aload_n hx hb dX0_latestPledge_11 rfl (lv_at hl 1 rfl) ?_
  refine lv_iload hx hb dX0_latestPledge_12 (lv_at hl 0 rfl) ?_
  refine lv_aload_n hx hb dX0_latestPledge_14 rfl (lv_at hl 1 rfl) ?_
  refine va_get (D := G) (ci := 0) (C := RX0) (T := TX0) (N := 4) hx hb hts iX0 hown hkx.1 hP 0 rfl rfl 2 (by decide) k25 (fun _ h9 => h9) rfl dX0_latestPledge_15 ?_
  refine va_get (D := G) (ci := 3) (C := RX3) (T := TX3) (N := 7) hx hb hts iX3 hown hkx.1 hP 6 rfl rfl 1 (by decide) k159 (fun _ h9 => h9) rfl dX0_latestPledge_18 ?_
  refine lv_iload_n hx hb dX0_latestPledge_21 rfl (lv_at hl 2 rfl) ?_
  refine ia hx hb hkx hP 7 rfl u rfl (by omega) (by decide) dX0_latestPledge_22 ?_
  rw [(fv_spec hwf hu).1]
  have hfv := (fv_spec hwf hu).2
  refine lv_iload_n hx hb dX0_latestPledge_23 rfl (lv_at hl 4 rfl) ?_
  refine lv_sipush (v := 999) hx hb dX0_latestPledge_24 (by decide) ?_
  refine ro_V S hkx (mX0_firstDayUnserved l (x := (Z 6 u)) (v := (fvN Z u)) (f := f) (w := 999) (hP := hP) (hwf := hwf) (hv := (by omega)) (hf9 := (by omega)) (hl9 := (by omega))) gX0_latestPledge_X0_firstDayUnserved rfl idX0_firstDayUnserved ⟨Nat.le_of_ble_eq_true rfl, Nat.le_of_ble_eq_true rfl⟩ hP 0 rfl rfl rfl rfl hl.1 rfl (Nat.le_of_ble_eq_true rfl) dX0_latestPledge_27 ⟨Nat.le_of_ble_eq_true rfl, Nat.le_of_ble_eq_true rfl⟩ (fun r_1 hr_1 => ?_)
  subst hr_1
  refine lv_istore (lv' := [(5, .int (fstD (unB N Z (Z 6 u) (fvN Z u)) f (999 + 1 - f))), (4, .int (Z 6 u)), (0, .ref (a 0)), (1, .int (nI u)), (2, .int (nI v)), (3, .int (nI f))]) hx hb dX0_latestPledge_30 hl (by decide) rfl (fun ls hl => ?_)
  refine lv_iload hx hb dX0_latestPledge_32 (lv_at hl 0 rfl) ?_
  refine lv_iconst (v := (-1)) hx hb dX0_latestPledge_34 (by decide) ?_
  refine lv_icmp_ne (tgt := 44) hx hb dX0_latestPledge_35 (by decide) (fun c_2 => ?_) (fun c_2 => ?_)
  · skip
    refine lv_iload hx hb dX0_latestPledge_44 (lv_at hl 0 rfl) ?_
    refine lv_istore (lv' := [(6, .int (fstD (unB N Z (Z 6 u) (fvN Z u)) f (999 + 1 - f))), (5, .int (fstD (unB N Z (Z 6 u) (fvN Z u)) f (999 + 1 - f))), (4, .int (Z 6 u)), (0, .ref (a 0)), (1, .int (nI u)), (2, .int (nI v)), (3, .int (nI f))]) hx hb dX0_latestPledge_46 hl (by decide) rfl (fun ls hl => ?_)
    refine lv_iload hx hb dX0_latestPledge_48 (lv_at hl 0 rfl) ?_
    refine lv_aload_n hx hb dX0_latestPledge_50 rfl (lv_at hl 3 rfl) ?_
    refine lv_iload hx hb dX0_latestPledge_51 (lv_at hl 2 rfl) ?_
    refine lv_iload_n hx hb dX0_latestPledge_53 rfl (lv_at hl 5 rfl) ?_
    refine lv_iload_n hx hb dX0_latestPledge_54 rfl (lv_at hl 6 rfl) ?_
    refine ro_V S hkx (mX0_servedFrom l (x := (Z 6 u)) (v := v) (f := f) (hP := hP) (hwf := hwf) (hv := (by omega)) (hf9 := (by omega))) gX0_latestPledge_X0_servedFrom rfl idX0_servedFrom ⟨Nat.le_of_ble_eq_true rfl, Nat.le_of_ble_eq_true rfl⟩ hP 0 rfl rfl rfl rfl hl.1 rfl (Nat.le_of_ble_eq_true rfl) dX0_latestPledge_55 ⟨Nat.le_of_ble_eq_true rfl, Nat.le_of_ble_eq_true rfl⟩ (fun r_3 hr_3 => ?_)
    subst hr_3
    refine lv_icmp_lt (tgt := 66) hx hb dX0_latestPledge_58 (by decide) (fun c_4 => ?_) (fun c_4 => ?_)
    · have c_4n := Int32.not_le.mpr c_4
      refine lv_iconst (v := (-1)) hx hb dX0_latestPledge_66 (by decide) ?_
      exact hret _ _ _ (show (-1) = ltP N Z u v f from by
          clear hret hl; simp only [ltP]; simp [*]) dX0_latestPledge_67
    · have c_4n := Int32.not_lt.mp c_4
      refine lv_iload hx hb dX0_latestPledge_61 (lv_at hl 0 rfl) ?_
      refine lv_goto (tgt := 67) hx hb dX0_latestPledge_63 (by decide) ?_
      exact hret _ _ _ (show (fstD (unB N Z (Z 6 u) (fvN Z u)) f (999 + 1 - f)) = ltP N Z u v f from by
          clear hret hl; simp only [ltP]; simp [*]) dX0_latestPledge_67
  · skip
    refine lv_sipush (v := 999) hx hb dX0_latestPledge_38 (by decide) ?_
    refine lv_goto (tgt := 46) hx hb dX0_latestPledge_41 (by decide) ?_
    refine lv_istore (lv' := [(6, .int 999), (5, .int (fstD (unB N Z (Z 6 u) (fvN Z u)) f (999 + 1 - f))), (4, .int (Z 6 u)), (0, .ref (a 0)), (1, .int (nI u)), (2, .int (nI v)), (3, .int (nI f))]) hx hb dX0_latestPledge_46 hl (by decide) rfl (fun ls hl => ?_)
    refine lv_iload hx hb dX0_latestPledge_48 (lv_at hl 0 rfl) ?_
    refine lv_aload_n hx hb dX0_latestPledge_50 rfl (lv_at hl 3 rfl) ?_
    refine lv_iload hx hb dX0_latestPledge_51 (lv_at hl 2 rfl) ?_
    refine lv_iload_n hx hb dX0_latestPledge_53 rfl (lv_at hl 5 rfl) ?_
    refine lv_iload_n hx hb dX0_latestPledge_54 rfl (lv_at hl 6 rfl) ?_
    refine ro_V S hkx (mX0_servedFrom l (x := (Z 6 u)) (v := v) (f := f) (hP := hP) (hwf := hwf) (hv := (by omega)) (hf9 := (by omega))) gX0_latestPledge_X0_servedFrom rfl idX0_servedFrom ⟨Nat.le_of_ble_eq_true rfl, Nat.le_of_ble_eq_true rfl⟩ hP 0 rfl rfl rfl rfl hl.1 rfl (Nat.le_of_ble_eq_true rfl) dX0_latestPledge_55 ⟨Nat.le_of_ble_eq_true rfl, Nat.le_of_ble_eq_true rfl⟩ (fun r_5 hr_5 => ?_)
    subst hr_5
    refine lv_icmp_lt (tgt := 66) hx hb dX0_latestPledge_58 (by decide) (fun c_6 => ?_) (fun c_6 => ?_)
    · have c_6n := Int32.not_le.mpr c_6
      refine lv_iconst (v := (-1)) hx hb dX0_latestPledge_66 (by decide) ?_
      exact hret _ _ _ (show (-1) = ltP N Z u v f from by
          clear hret hl; simp only [ltP]; simp [*]) dX0_latestPledge_67
    · have c_6n := Int32.not_lt.mp c_6
      refine lv_iload hx hb dX0_latestPledge_61 (lv_at hl 0 rfl) ?_
      refine lv_goto (tgt := 67) hx hb dX0_latestPledge_63 (by decide) ?_
      exact hret _ _ _ (show 999 = ltP N Z u v f from by
          clear hret hl; simp only [ltP]; simp [*]) dX0_latestPledge_67

theorem idX0_versionCostingLeast : yX0_versionCostingLeast.cls = RX0 ∧ yX0_versionCostingLeast.cls ≠ "java/lang/invoke/MethodHandle" ∧ yX0_versionCostingLeast.cls ≠ "java/lang/invoke/VarHandle" ∧ (parseMethodDescriptor yX0_versionCostingLeast.desc).map (fun d => d.parameters.length) = some 3 := by decide +kernel

set_option maxHeartbeats 4000000 in
set_option maxRecDepth 100000 in
theorem mX0_versionCostingLeast (l : Launch) {G : va_G} {T : Nat → ClassId} {H : Heap} {a : Nat → Nat} {N : Nat → Nat} {Z : Nat → Nat → Int32} {x : Int32} {f : Nat} {w : Nat} (hP : va_P G vwCl (wCal T a N Z) H) (hwf : wf N Z) (hfl : f ≤ w) (hl9 : w ≤ 999) : ro l yX0_versionCostingLeast wsX0_versionCostingLeast 4 101 [.ref (a 0), .int x, .int (nI f), .int (nI w)] G T H (fun r => r = (vcl N Z x f w (N 0)).1) := by
  refine ro_of (cc := cX0_versionCostingLeast) (maxL := 8) (ret := .int) (own := RX0) (by decide +kernel) rfl rfl (Nat.le_of_ble_eq_true rfl) (fun v _ => vp_nar_int v) ?_
  intro p e s m below meth c Q ls S hkx hl hret
  obtain ⟨hx, hb, hml, hown, hts⟩ := id S
  have hl : lv_has ls 8 [(0, .ref (a 0)), (1, .int x), (2, .int (nI f)), (3, .int (nI w))] := hl
  have k12 := hts (.fieldLink RX0 12 "SunsetDates$Calendar" "versions" "LSunsetDates$Versions;") (by decide +kernel)
  have iX0 : ∀ w ∈ wsX00, w ∈ wsX0_versionCostingLeast := by decide +kernel
  have k46 := hts (.fieldLink RX0 46 "SunsetDates$Versions" "count" "I") (by decide +kernel)
  have iX4 : ∀ w ∈ wsX40, w ∈ wsX0_versionCostingLeast := by decide +kernel
  have hb2 := hwf.1
  refine lv_iconst (v := (-1)) hx hb dX0_versionCostingLeast_0 (by decide) ?_
  refine lv_istore (lv' := [(4, .int (-1)), (0, .ref (a 0)), (1, .int x), (2, .int (nI f)), (3, .int (nI w))]) hx hb dX0_versionCostingLeast_1 hl (by decide) rfl (fun ls hl => ?_)
  refine lv_iconst (v := 0) hx hb dX0_versionCostingLeast_3 (by decide) ?_
  refine lv_istore (lv' := [(5, .int 0), (4, .int (-1)), (0, .ref (a 0)), (1, .int x), (2, .int (nI f)), (3, .int (nI w))]) hx hb dX0_versionCostingLeast_4 hl (by decide) rfl (fun ls hl => ?_)
  refine lv_iconst (v := 0) hx hb dX0_versionCostingLeast_6 (by decide) ?_
  refine lv_istore (lv' := [(6, .int 0), (5, .int 0), (4, .int (-1)), (0, .ref (a 0)), (1, .int x), (2, .int (nI f)), (3, .int (nI w))]) hx hb dX0_versionCostingLeast_7 hl (by decide) rfl (fun ls hl => ?_)
  have L9 : ∀ (fuel : Nat) (k : Nat) (y z : Int32), N 0 - k < fuel → k ≤ N 0 → vcl N Z x f w k = (y, z) → ∀ ls : Array Slot, lv_has ls 8 [(0, .ref (a 0)), (1, .int x), (2, .int (nI f)), (3, .int (nI w)), (4, .int y), (5, .int z), (6, .int (nI k))] → W p l e (rmo 4 101) s m ([.ref (a 0), .int x, .int (nI f), .int (nI w)] : List Value).toArray below meth c H [] 0 0 Q (F0 m 9 ls []) := by
    intro fuel
    induction fuel with
    | zero => intro k y z hm; exact absurd hm (Nat.not_lt_zero _)
    | succ fuel ih9 =>
      intro k y z hm9 hk hy ls hl
      refine lv_iload hx hb dX0_versionCostingLeast_9 (lv_at hl 6 rfl) ?_
      refine lv_aload_n hx hb dX0_versionCostingLeast_11 rfl (lv_at hl 0 rfl) ?_
      refine va_get (D := G) (ci := 0) (C := RX0) (T := TX0) (N := 4) hx hb hts iX0 hown hkx.1 hP 0 rfl rfl 0 (by decide) k12 (fun _ h9 => h9) rfl dX0_versionCostingLeast_12 ?_
      refine va_get (D := G) (ci := 4) (C := RX4) (T := TX4) (N := 5) hx hb hts iX4 hown hkx.1 hP 1 rfl rfl 0 (by decide) k46 (fun _ h9 => h9) rfl dX0_versionCostingLeast_15 ?_
      refine lv_icmp_ge (tgt := 72) hx hb dX0_versionCostingLeast_18 (by decide) (fun c_1 => ?_) (fun c_1 => ?_)
      · replace c_1 := cn_le (a := (N 0)) (b := k) (by omega) (by omega) c_1
        refine lv_iload hx hb dX0_versionCostingLeast_72 (lv_at hl 4 rfl) ?_
        exact hret _ _ _ (show y = (vcl N Z x f w (N 0)).1 from by
            rw [show k = N 0 from by omega] at hy; rw [hy]) dX0_versionCostingLeast_74
      · replace c_1 := cn_nle (a := (N 0)) (b := k) (by omega) (by omega) c_1
        refine lv_aload_n hx hb dX0_versionCostingLeast_21 rfl (lv_at hl 0 rfl) ?_
        refine lv_iload_n hx hb dX0_versionCostingLeast_22 rfl (lv_at hl 1 rfl) ?_
        refine lv_iload hx hb dX0_versionCostingLeast_23 (lv_at hl 6 rfl) ?_
        refine lv_iload_n hx hb dX0_versionCostingLeast_25 rfl (lv_at hl 2 rfl) ?_
        refine lv_iload_n hx hb dX0_versionCostingLeast_26 rfl (lv_at hl 3 rfl) ?_
        refine ro_V S hkx (mX0_firstDayUnserved l (x := x) (v := k) (f := f) (w := w) (hP := hP) (hwf := hwf) (hv := (by omega)) (hf9 := (by omega)) (hl9 := (by omega))) gX0_versionCostingLeast_X0_firstDayUnserved rfl idX0_firstDayUnserved ⟨Nat.le_of_ble_eq_true rfl, Nat.le_of_ble_eq_true rfl⟩ hP 0 rfl rfl rfl rfl hl.1 rfl (Nat.le_of_ble_eq_true rfl) dX0_versionCostingLeast_27 ⟨Nat.le_of_ble_eq_true rfl, Nat.le_of_ble_eq_true rfl⟩ (fun r_2 hr_2 => ?_)
        subst hr_2
        refine lv_iconst (v := (-1)) hx hb dX0_versionCostingLeast_30 (by decide) ?_
        refine lv_icmp_ne (tgt := 66) hx hb dX0_versionCostingLeast_31 (by decide) (fun c_3 => ?_) (fun c_3 => ?_)
        · skip
          refine lv_iinc (v := (nI (k + 1))) (lv' := [(6, .int (nI (k + 1))), (0, .ref (a 0)), (1, .int x), (2, .int (nI f)), (3, .int (nI w)), (4, .int y), (5, .int z)]) hx hb dX0_versionCostingLeast_66 hl (k := 6) rfl (nI_inc k) (by decide) rfl (fun ls hl => ?_)
          refine lv_goto (tgt := 9) hx hb dX0_versionCostingLeast_69 (by decide) ?_
          exact ih9 (k + 1) y z (by omega) (by omega) (by rw [vcl, hy]; first | (rw [if_pos ⟨by assumption, Or.inl (by assumption)⟩]; done) | (rw [if_pos ⟨by assumption, Or.inr (by assumption)⟩]; done) | (rw [if_neg]; rintro ⟨q1, q2⟩; first | exact absurd q1 (by assumption) | exact q2.elim (fun h => absurd h (by assumption)) (fun h => absurd h (by assumption)))) _ (lv_sub hl [1, 2, 3, 4, 5, 6, 0] rfl)
        · skip
          refine lv_aload_n hx hb dX0_versionCostingLeast_34 rfl (lv_at hl 0 rfl) ?_
          refine lv_iload_n hx hb dX0_versionCostingLeast_35 rfl (lv_at hl 1 rfl) ?_
          refine lv_iload hx hb dX0_versionCostingLeast_36 (lv_at hl 6 rfl) ?_
          refine lv_iload_n hx hb dX0_versionCostingLeast_38 rfl (lv_at hl 2 rfl) ?_
          refine lv_iload_n hx hb dX0_versionCostingLeast_39 rfl (lv_at hl 3 rfl) ?_
          refine ro_V S hkx (mX0_costOfOne l (x := x) (v := k) (f := f) (w := w) (hP := hP) (hwf := hwf) (hv := (by omega)) (hfl := (by omega)) (hl9 := (by omega))) gX0_versionCostingLeast_X0_costOfOne rfl idX0_costOfOne ⟨Nat.le_of_ble_eq_true rfl, Nat.le_of_ble_eq_true rfl⟩ hP 0 rfl rfl rfl rfl hl.1 rfl (Nat.le_of_ble_eq_true rfl) dX0_versionCostingLeast_40 ⟨Nat.le_of_ble_eq_true rfl, Nat.le_of_ble_eq_true rfl⟩ (fun r_4 hr_4 => ?_)
          subst hr_4
          refine lv_istore (lv' := [(7, .int (smD (cstD N Z x k) f (w + 1 - f))), (0, .ref (a 0)), (1, .int x), (2, .int (nI f)), (3, .int (nI w)), (4, .int y), (5, .int z), (6, .int (nI k))]) hx hb dX0_versionCostingLeast_43 hl (by decide) rfl (fun ls hl => ?_)
          refine lv_iload hx hb dX0_versionCostingLeast_45 (lv_at hl 5 rfl) ?_
          refine lv_iconst (v := (-1)) hx hb dX0_versionCostingLeast_47 (by decide) ?_
          refine lv_icmp_eq (tgt := 58) hx hb dX0_versionCostingLeast_48 (by decide) (fun c_5 => ?_) (fun c_5 => ?_)
          · skip
            refine lv_iload hx hb dX0_versionCostingLeast_58 (lv_at hl 7 rfl) ?_
            refine lv_istore (lv' := [(4, .int (nI k)), (7, .int (smD (cstD N Z x k) f (w + 1 - f))), (0, .ref (a 0)), (1, .int x), (2, .int (nI f)), (3, .int (nI w)), (5, .int z), (6, .int (nI k))]) hx hb dX0_versionCostingLeast_60 hl (by decide) rfl (fun ls hl => ?_)
            refine lv_iload hx hb dX0_versionCostingLeast_62 (lv_at hl 1 rfl) ?_
            refine lv_istore (lv' := [(5, .int (smD (cstD N Z x k) f (w + 1 - f))), (4, .int (nI k)), (7, .int (smD (cstD N Z x k) f (w + 1 - f))), (0, .ref (a 0)), (1, .int x), (2, .int (nI f)), (3, .int (nI w)), (6, .int (nI k))]) hx hb dX0_versionCostingLeast_64 hl (by decide) rfl (fun ls hl => ?_)
            refine lv_iinc (v := (nI (k + 1))) (lv' := [(6, .int (nI (k + 1))), (5, .int (smD (cstD N Z x k) f (w + 1 - f))), (4, .int (nI k)), (7, .int (smD (cstD N Z x k) f (w + 1 - f))), (0, .ref (a 0)), (1, .int x), (2, .int (nI f)), (3, .int (nI w))]) hx hb dX0_versionCostingLeast_66 hl (k := 7) rfl (nI_inc k) (by decide) rfl (fun ls hl => ?_)
            refine lv_goto (tgt := 9) hx hb dX0_versionCostingLeast_69 (by decide) ?_
            exact ih9 (k + 1) (nI k) (smD (cstD N Z x k) f (w + 1 - f)) (by omega) (by omega) (by rw [vcl, hy]; first | (rw [if_pos ⟨by assumption, Or.inl (by assumption)⟩]; done) | (rw [if_pos ⟨by assumption, Or.inr (by assumption)⟩]; done) | (rw [if_neg]; rintro ⟨q1, q2⟩; first | exact absurd q1 (by assumption) | exact q2.elim (fun h => absurd h (by assumption)) (fun h => absurd h (by assumption)))) _ (lv_sub hl [4, 5, 6, 7, 2, 1, 0] rfl)
          · skip
            refine lv_iload hx hb dX0_versionCostingLeast_51 (lv_at hl 0 rfl) ?_
            refine lv_iload hx hb dX0_versionCostingLeast_53 (lv_at hl 6 rfl) ?_
            refine lv_icmp_ge (tgt := 66) hx hb dX0_versionCostingLeast_55 (by decide) (fun c_6 => ?_) (fun c_6 => ?_)
            · have c_6n := Int32.not_lt.mpr c_6
              refine lv_iinc (v := (nI (k + 1))) (lv' := [(6, .int (nI (k + 1))), (7, .int (smD (cstD N Z x k) f (w + 1 - f))), (0, .ref (a 0)), (1, .int x), (2, .int (nI f)), (3, .int (nI w)), (4, .int y), (5, .int z)]) hx hb dX0_versionCostingLeast_66 hl (k := 7) rfl (nI_inc k) (by decide) rfl (fun ls hl => ?_)
              refine lv_goto (tgt := 9) hx hb dX0_versionCostingLeast_69 (by decide) ?_
              exact ih9 (k + 1) y z (by omega) (by omega) (by rw [vcl, hy]; first | (rw [if_pos ⟨by assumption, Or.inl (by assumption)⟩]; done) | (rw [if_pos ⟨by assumption, Or.inr (by assumption)⟩]; done) | (rw [if_neg]; rintro ⟨q1, q2⟩; first | exact absurd q1 (by assumption) | exact q2.elim (fun h => absurd h (by assumption)) (fun h => absurd h (by assumption)))) _ (lv_sub hl [2, 3, 4, 5, 6, 7, 0] rfl)
            · have c_6n := Int32.not_le.mp c_6
              refine lv_iload hx hb dX0_versionCostingLeast_58 (lv_at hl 7 rfl) ?_
              refine lv_istore (lv' := [(4, .int (nI k)), (7, .int (smD (cstD N Z x k) f (w + 1 - f))), (0, .ref (a 0)), (1, .int x), (2, .int (nI f)), (3, .int (nI w)), (5, .int z), (6, .int (nI k))]) hx hb dX0_versionCostingLeast_60 hl (by decide) rfl (fun ls hl => ?_)
              refine lv_iload hx hb dX0_versionCostingLeast_62 (lv_at hl 1 rfl) ?_
              refine lv_istore (lv' := [(5, .int (smD (cstD N Z x k) f (w + 1 - f))), (4, .int (nI k)), (7, .int (smD (cstD N Z x k) f (w + 1 - f))), (0, .ref (a 0)), (1, .int x), (2, .int (nI f)), (3, .int (nI w)), (6, .int (nI k))]) hx hb dX0_versionCostingLeast_64 hl (by decide) rfl (fun ls hl => ?_)
              refine lv_iinc (v := (nI (k + 1))) (lv' := [(6, .int (nI (k + 1))), (5, .int (smD (cstD N Z x k) f (w + 1 - f))), (4, .int (nI k)), (7, .int (smD (cstD N Z x k) f (w + 1 - f))), (0, .ref (a 0)), (1, .int x), (2, .int (nI f)), (3, .int (nI w))]) hx hb dX0_versionCostingLeast_66 hl (k := 7) rfl (nI_inc k) (by decide) rfl (fun ls hl => ?_)
              refine lv_goto (tgt := 9) hx hb dX0_versionCostingLeast_69 (by decide) ?_
              exact ih9 (k + 1) (nI k) (smD (cstD N Z x k) f (w + 1 - f)) (by omega) (by omega) (by rw [vcl, hy]; first | (rw [if_pos ⟨by assumption, Or.inl (by assumption)⟩]; done) | (rw [if_pos ⟨by assumption, Or.inr (by assumption)⟩]; done) | (rw [if_neg]; rintro ⟨q1, q2⟩; first | exact absurd q1 (by assumption) | exact q2.elim (fun h => absurd h (by assumption)) (fun h => absurd h (by assumption)))) _ (lv_sub hl [4, 5, 6, 7, 2, 1, 0] rfl)
  exact L9 _ 0 (-1) 0 (Nat.lt_succ_self _) (by omega) (by rfl) _ (lv_sub hl [3, 4, 5, 6, 2, 1, 0] rfl)

theorem idX0_number : yX0_number.cls = RX0 ∧ yX0_number.cls ≠ "java/lang/invoke/MethodHandle" ∧ yX0_number.cls ≠ "java/lang/invoke/VarHandle" ∧ (parseMethodDescriptor yX0_number.desc).map (fun d => d.parameters.length) = some 1 := by decide +kernel

set_option maxHeartbeats 4000000 in
set_option maxRecDepth 100000 in
theorem mX0_number (l : Launch) {G : va_G} {T : Nat → ClassId} {H : Heap} {a : Nat → Nat} {N : Nat → Nat} {Z : Nat → Nat → Int32} {w : Nat} (hP : va_P G vwCl (wCal T a N Z) H) (hwf : wf N Z) (hw : w ≤ 7) : ro l yX0_number wsX0_number 6 138 [.ref (a 0), .int (nI w)] G T H (fun r => r = nmb N Z w) := by
  refine ro_of (cc := cX0_number) (maxL := 2) (ret := .int) (own := RX0) (by decide +kernel) rfl rfl (Nat.le_of_ble_eq_true rfl) (fun v _ => vp_nar_int v) ?_
  intro p e s m below meth c Q ls S hkx hl hret
  obtain ⟨hx, hb, hml, hown, hts⟩ := id S
  have hl : lv_has ls 2 [(0, .ref (a 0)), (1, .int (nI w))] := hl
  have k12 := hts (.fieldLink RX0 12 "SunsetDates$Calendar" "versions" "LSunsetDates$Versions;") (by decide +kernel)
  have iX0 : ∀ w ∈ wsX00, w ∈ wsX0_number := by decide +kernel
  have k46 := hts (.fieldLink RX0 46 "SunsetDates$Versions" "count" "I") (by decide +kernel)
  have iX4 : ∀ w ∈ wsX40, w ∈ wsX0_number := by decide +kernel
  have k18 := hts (.fieldLink RX0 18 "SunsetDates$Calendar" "featureCount" "I") (by decide +kernel)
  have k25 := hts (.fieldLink RX0 25 "SunsetDates$Calendar" "users" "LSunsetDates$Users;") (by decide +kernel)
  have k57 := hts (.fieldLink RX0 57 "SunsetDates$Users" "count" "I") (by decide +kernel)
  have iX3 : ∀ w ∈ wsX30, w ∈ wsX0_number := by decide +kernel
  have k32 := hts (.fieldLink RX0 32 "SunsetDates$Calendar" "shims" "LSunsetDates$Shims;") (by decide +kernel)
  have k75 := hts (.fieldLink RX0 75 "SunsetDates$Shims" "count" "I") (by decide +kernel)
  have iX2 : ∀ w ∈ wsX20, w ∈ wsX0_number := by decide +kernel
  have hb2 := hwf.1
  refine lv_iload_n hx hb dX0_number_0 rfl (lv_at hl 1 rfl) ?_
  rcases (show w = 0 ∨ w = 1 ∨ w = 2 ∨ w = 3 ∨ w = 4 ∨ w = 5 ∨ w = 6 ∨ w = 7 by omega) with rfl | rfl | rfl | rfl | rfl | rfl | rfl | rfl
  · refine lv_tableIn (off := 43) (tgt := 44) hx hb dX0_number_1 (by decide) (by decide) rfl (by decide) ?_
    refine lv_aload_n hx hb dX0_number_44 rfl (lv_at hl 0 rfl) ?_
    refine va_get (D := G) (ci := 0) (C := RX0) (T := TX0) (N := 4) hx hb hts iX0 hown hkx.1 hP 0 rfl rfl 0 (by decide) k12 (fun _ h9 => h9) rfl dX0_number_45 ?_
    refine va_get (D := G) (ci := 4) (C := RX4) (T := TX4) (N := 5) hx hb hts iX4 hown hkx.1 hP 1 rfl rfl 0 (by decide) k46 (fun _ h9 => h9) rfl dX0_number_48 ?_
    exact hret _ _ _ (show (nI (N 0)) = nmb N Z 0 from rfl) dX0_number_51
  · refine lv_tableIn (off := 51) (tgt := 52) hx hb dX0_number_1 (by decide) (by decide) rfl (by decide) ?_
    refine lv_aload_n hx hb dX0_number_52 rfl (lv_at hl 0 rfl) ?_
    refine va_get (D := G) (ci := 0) (C := RX0) (T := TX0) (N := 4) hx hb hts iX0 hown hkx.1 hP 0 rfl rfl 1 (by decide) k18 (fun _ h9 => h9) rfl dX0_number_53 ?_
    exact hret _ _ _ (show (nI (N 1)) = nmb N Z 1 from rfl) dX0_number_56
  · refine lv_tableIn (off := 56) (tgt := 57) hx hb dX0_number_1 (by decide) (by decide) rfl (by decide) ?_
    refine lv_aload_n hx hb dX0_number_57 rfl (lv_at hl 0 rfl) ?_
    refine va_get (D := G) (ci := 0) (C := RX0) (T := TX0) (N := 4) hx hb hts iX0 hown hkx.1 hP 0 rfl rfl 2 (by decide) k25 (fun _ h9 => h9) rfl dX0_number_58 ?_
    refine va_get (D := G) (ci := 3) (C := RX3) (T := TX3) (N := 7) hx hb hts iX3 hown hkx.1 hP 6 rfl rfl 0 (by decide) k57 (fun _ h9 => h9) rfl dX0_number_61 ?_
    exact hret _ _ _ (show (nI (N 2)) = nmb N Z 2 from rfl) dX0_number_64
  · refine lv_tableIn (off := 64) (tgt := 65) hx hb dX0_number_1 (by decide) (by decide) rfl (by decide) ?_
    refine lv_aload_n hx hb dX0_number_65 rfl (lv_at hl 0 rfl) ?_
    refine va_get (D := G) (ci := 0) (C := RX0) (T := TX0) (N := 4) hx hb hts iX0 hown hkx.1 hP 0 rfl rfl 3 (by decide) k32 (fun _ h9 => h9) rfl dX0_number_66 ?_
    refine va_get (D := G) (ci := 2) (C := RX2) (T := TX2) (N := 6) hx hb hts iX2 hown hkx.1 hP 13 rfl rfl 0 (by decide) k75 (fun _ h9 => h9) rfl dX0_number_69 ?_
    exact hret _ _ _ (show (nI (N 3)) = nmb N Z 3 from rfl) dX0_number_72
  · refine lv_tableIn (off := 72) (tgt := 73) hx hb dX0_number_1 (by decide) (by decide) rfl (by decide) ?_
    refine lv_aload_n hx hb dX0_number_73 rfl (lv_at hl 0 rfl) ?_
    refine va_get (D := G) (ci := 0) (C := RX0) (T := TX0) (N := 4) hx hb hts iX0 hown hkx.1 hP 0 rfl rfl 2 (by decide) k25 (fun _ h9 => h9) rfl dX0_number_74 ?_
    refine ro_V S hkx (mX3_pledgeCount l (hP := hP) (hs := (by omega))) gX0_number_X3_pledgeCount rfl idX3_pledgeCount ⟨Nat.le_of_ble_eq_true rfl, Nat.le_of_ble_eq_true rfl⟩ hP 6 rfl rfl rfl rfl hl.1 rfl (Nat.le_of_ble_eq_true rfl) dX0_number_77 ⟨Nat.le_of_ble_eq_true rfl, Nat.le_of_ble_eq_true rfl⟩ (fun r_1 hr_1 => ?_)
    subst hr_1
    exact hret _ _ _ (show (plC Z (N 2)) = nmb N Z 4 from rfl) dX0_number_80
  · refine lv_tableIn (off := 80) (tgt := 81) hx hb dX0_number_1 (by decide) (by decide) rfl (by decide) ?_
    refine lv_aload_n hx hb dX0_number_81 rfl (lv_at hl 0 rfl) ?_
    refine va_get (D := G) (ci := 0) (C := RX0) (T := TX0) (N := 4) hx hb hts iX0 hown hkx.1 hP 0 rfl rfl 2 (by decide) k25 (fun _ h9 => h9) rfl dX0_number_82 ?_
    refine ro_V S hkx (mX3_useCount l (hP := hP) (hs := (by omega))) gX0_number_X3_useCount rfl idX3_useCount ⟨Nat.le_of_ble_eq_true rfl, Nat.le_of_ble_eq_true rfl⟩ hP 6 rfl rfl rfl rfl hl.1 rfl (Nat.le_of_ble_eq_true rfl) dX0_number_85 ⟨Nat.le_of_ble_eq_true rfl, Nat.le_of_ble_eq_true rfl⟩ (fun r_2 hr_2 => ?_)
    subst hr_2
    exact hret _ _ _ (show (usC Z (N 2)) = nmb N Z 5 from rfl) dX0_number_88
  · refine lv_tableIn (off := 88) (tgt := 89) hx hb dX0_number_1 (by decide) (by decide) rfl (by decide) ?_
    refine lv_aload_n hx hb dX0_number_89 rfl (lv_at hl 0 rfl) ?_
    refine va_get (D := G) (ci := 0) (C := RX0) (T := TX0) (N := 4) hx hb hts iX0 hown hkx.1 hP 0 rfl rfl 2 (by decide) k25 (fun _ h9 => h9) rfl dX0_number_90 ?_
    refine ro_V S hkx (mX3_slipCount l (hP := hP) (hs := (by omega))) gX0_number_X3_slipCount rfl idX3_slipCount ⟨Nat.le_of_ble_eq_true rfl, Nat.le_of_ble_eq_true rfl⟩ hP 6 rfl rfl rfl rfl hl.1 rfl (Nat.le_of_ble_eq_true rfl) dX0_number_93 ⟨Nat.le_of_ble_eq_true rfl, Nat.le_of_ble_eq_true rfl⟩ (fun r_3 hr_3 => ?_)
    subst hr_3
    exact hret _ _ _ (show (slC Z (N 2)) = nmb N Z 6 from rfl) dX0_number_96
  · refine lv_tableOut (tgt := 97) hx hb dX0_number_1 (Or.inr (by decide)) (by decide) ?_
    refine lv_aload_n hx hb dX0_number_97 rfl (lv_at hl 0 rfl) ?_
    refine ro_V S hkx (mX0_strandedDays l (hP := hP) (hwf := hwf)) gX0_number_X0_strandedDays rfl idX0_strandedDays ⟨Nat.le_of_ble_eq_true rfl, Nat.le_of_ble_eq_true rfl⟩ hP 0 rfl rfl rfl rfl hl.1 rfl (Nat.le_of_ble_eq_true rfl) dX0_number_98 ⟨Nat.le_of_ble_eq_true rfl, Nat.le_of_ble_eq_true rfl⟩ (fun r_4 hr_4 => ?_)
    subst hr_4
    exact hret _ _ _ (show (nI (sdN N Z)) = nmb N Z 7 from rfl) dX0_number_101
