theorem idX6_undo : yX6_undo.cls = RX6 ∧ yX6_undo.cls ≠ "java/lang/invoke/MethodHandle" ∧ yX6_undo.cls ≠ "java/lang/invoke/VarHandle" ∧ (parseMethodDescriptor yX6_undo.desc).map (fun d => d.parameters.length) = some 0 := by decide +kernel

set_option maxHeartbeats 4000000 in
set_option maxRecDepth 100000 in
theorem mX6_undo (l : Launch) {G : va_G} {T : Nat → ClassId} {H0 : Heap} {r : Nat → Nat} {N : Nat → Nat} {Z : Nat → Nat → Int32} {mm : Nat → Int32} {pp : Nat → Int32} {xx : Nat → Int32} {th : Int32} {sv : Nat} {n1 : Nat} {ac : Int32} {ea : Int32} {le : Int32} {v1 : Int32} {v2 : Int32} {v3 : Int32} {v4 : Int32} {v5 : Int32} (hP : va_P G vwCl (wMod T r mm pp xx th sv n1 ac ea le v1 v2 v3 v4 v5) H0) (hD : va_D (fun _ => True) (wMod T r mm pp xx th sv n1 ac ea le v1 v2 v3 v4 v5)) (hwf : wf N Z) (hr : rel N Z mm) (hs4 : sv ≤ 4) : mu l yX6_undo wsX6_undo 1 21 [.ref (r 0)] G T H0 (wMod T r mm pp xx th sv n1 ac ea le v1 v2 v3 v4 v5) (mPost G (poF (bI (decide (0 < sv)))) (nI (sv - 1)) (wMod T r (gcp mm pp (158 * (sv - 1)) 158) pp xx 0 (sv - 1) n1 ac ea le v1 v2 v3 v4 v5) (wMod T r mm pp xx (cmS (poF (bI (decide (0 < sv))))) sv n1 ac ea le v1 v2 v3 v4 v5)) := by
  refine mu_ofi (cc := cX6_undo) (maxL := 2) (ret := .int) (own := RX6) (by decide +kernel) rfl rfl (Nat.le_of_ble_eq_true rfl) hD ?_
  intro p e s m below meth c Q ls A S hkx hl hD hS hA hret
  obtain ⟨hx, hb, hml, hown, hts⟩ := id S
  have hl : lv_has ls 2 [(0, .ref (r 0))] := hl
  have k19 := hts (.fieldLink RX6 19 "SunsetDatesModel" "thrown" "I") (by decide +kernel)
  have iX6 : ∀ w ∈ wsX60, w ∈ wsX6_undo := by decide +kernel
  have k27 := hts (.fieldLink RX6 27 "SunsetDatesModel" "saved" "I") (by decide +kernel)
  have k7 := hts (.fieldLink RX6 7 "SunsetDatesModel" "now" "[I") (by decide +kernel)
  have k13 := hts (.fieldLink RX6 13 "SunsetDatesModel" "past" "[I") (by decide +kernel)
  have hb2 := hwf.1
  obtain ⟨hr0, hr1, hr2, hr3, hrv, hrf, hru, hrs⟩ := id hr
  refine lv_aload_n hx hb dX6_undo_0 rfl (lv_at hl 0 rfl) ?_
  refine lv_iconst (v := 0) hx hb dX6_undo_1 (by decide) ?_
  refine va_put (D := G) (ci := 6) (v := .int 0) (ty := .int) (C := RX6) (T := TX6) (N := 14) hx hb hts iX6 tyX6 tyX6_ok nmX6 hown hkx.1 hP hD hS 0 rfl rfl 1 (by decide) k19 (fun _ h9 => h9) rfl (by decide +kernel) rfl rfl (Nat.le_of_ble_eq_true rfl) dX6_undo_2 (fun H locs hP hD hS => ?_)
  have hP : va_P G vwCl (wMod T r mm pp xx 0 sv n1 ac ea le v1 v2 v3 v4 v5) H := hP
  have hD : va_D A (wMod T r mm pp xx 0 sv n1 ac ea le v1 v2 v3 v4 v5) := hD
  refine lv_aload_n hx hb dX6_undo_5 rfl (lv_at hl 0 rfl) ?_
  refine va_get (D := G) (ci := 6) (C := RX6) (T := TX6) (N := 14) hx hb hts iX6 hown hkx.1 hP 0 rfl rfl 3 (by decide) k27 (fun _ h9 => h9) rfl dX6_undo_6 ?_
  refine lv_if_ne (tgt := 18) hx hb dX6_undo_9 (by decide) (fun c_1 => ?_) (fun c_1 => ?_)
  · replace c_1 := cn_ne (a := sv) (b := 0) (by omega) (by omega) c_1
    have cD : decide (0 < sv) = true := decide_eq_true (by omega)
    refine lv_aload_n hx hb dX6_undo_18 rfl (lv_at hl 0 rfl) ?_
    refine lv_dup hx hb dX6_undo_19 rfl ?_
    refine va_get (D := G) (ci := 6) (C := RX6) (T := TX6) (N := 14) hx hb hts iX6 hown hkx.1 hP 0 rfl rfl 3 (by decide) k27 (fun _ h9 => h9) rfl dX6_undo_20 ?_
    refine lv_iconst (v := 1) hx hb dX6_undo_23 (by decide) ?_
    refine lv_isub hx hb dX6_undo_24 ?_
    rw [show ((nI sv) - 1) = (nI (sv - 1)) from pk_sub (a := sv) (b := 1) (by omega)]
    refine va_put (D := G) (ci := 6) (v := .int (nI (sv - 1))) (ty := .int) (C := RX6) (T := TX6) (N := 14) hx hb hts iX6 tyX6 tyX6_ok nmX6 hown hkx.1 hP hD hS 0 rfl rfl 3 (by decide) k27 (fun _ h9 => h9) rfl (by decide +kernel) rfl rfl (Nat.le_of_ble_eq_true rfl) dX6_undo_25 (fun H locs hP hD hS => ?_)
    have hP : va_P G vwCl (wMod T r mm pp xx 0 (sv - 1) n1 ac ea le v1 v2 v3 v4 v5) H := hP
    have hD : va_D A (wMod T r mm pp xx 0 (sv - 1) n1 ac ea le v1 v2 v3 v4 v5) := hD
    refine lv_iconst (v := 0) hx hb dX6_undo_28 (by decide) ?_
    refine lv_istore_n (lv' := [(1, .int 0), (0, .ref (r 0))]) hx hb dX6_undo_29 rfl hl (by decide) rfl (fun ls hl => ?_)
    have L30 : ∀ (fuel : Nat) (k : Nat) (g : Nat → Int32), 158 - k < fuel → k ≤ 158 → g = gcp mm pp (158 * (sv - 1)) k → ∀ (H : Heap) (locs : List Loc), va_P G vwCl (wMod T r g pp xx 0 (sv - 1) n1 ac ea le v1 v2 v3 v4 v5) H → va_D A (wMod T r g pp xx 0 (sv - 1) n1 ac ea le v1 v2 v3 v4 v5) → va_S A H0 H locs → ∀ ls : Array Slot, lv_has ls 2 [(0, .ref (r 0)), (1, .int (nI k))] → W p l e (rmo 1 21) s m ([.ref (r 0)] : List Value).toArray below meth c H locs 0 0 Q (F0 m 30 ls []) := by
      intro fuel
      induction fuel with
      | zero => intro k g hm; exact absurd hm (Nat.not_lt_zero _)
      | succ fuel ih30 =>
        intro k g hm30 hj hg H locs hP hD hS ls hl
        refine lv_iload_n hx hb dX6_undo_30 rfl (lv_at hl 1 rfl) ?_
        refine lv_sipush (v := 158) hx hb dX6_undo_31 (by decide) ?_
        refine lv_icmp_ge (tgt := 64) hx hb dX6_undo_34 (by decide) (fun c_2 => ?_) (fun c_2 => ?_)
        · replace c_2 := cn_le (a := 158) (b := k) (by omega) (by omega) c_2
          refine lv_aload_n hx hb dX6_undo_64 rfl (lv_at hl 0 rfl) ?_
          refine va_get (D := G) (ci := 6) (C := RX6) (T := TX6) (N := 14) hx hb hts iX6 hown hkx.1 hP 0 rfl rfl 3 (by decide) k27 (fun _ h9 => h9) rfl dX6_undo_65 ?_
          exact hret _ _ _ _ _ (show mPost G (poF (bI (decide (0 < sv)))) (nI (sv - 1)) (wMod T r (gcp mm pp (158 * (sv - 1)) 158) pp xx 0 (sv - 1) n1 ac ea le v1 v2 v3 v4 v5) (wMod T r mm pp xx (cmS (poF (bI (decide (0 < sv))))) sv n1 ac ea le v1 v2 v3 v4 v5) (some (Value.int (nI (sv - 1)))) H from ⟨_, rfl, Or.inl ⟨by simp [sq, thF, wiF, seF, dyF, poF, rfF, bI, *], by rfl, by have hk9 : k = 158 := (by omega); subst hk9; subst hg; exact hP⟩⟩) rfl hS dX6_undo_68
        · replace c_2 := cn_nle (a := 158) (b := k) (by omega) (by omega) c_2
          refine lv_aload_n hx hb dX6_undo_37 rfl (lv_at hl 0 rfl) ?_
          refine va_get (D := G) (ci := 6) (C := RX6) (T := TX6) (N := 14) hx hb hts iX6 hown hkx.1 hP 0 rfl rfl 0 (by decide) k7 (fun _ h9 => h9) rfl dX6_undo_38 ?_
          refine lv_iload_n hx hb dX6_undo_41 rfl (lv_at hl 1 rfl) ?_
          refine lv_aload_n hx hb dX6_undo_42 rfl (lv_at hl 0 rfl) ?_
          refine va_get (D := G) (ci := 6) (C := RX6) (T := TX6) (N := 14) hx hb hts iX6 hown hkx.1 hP 0 rfl rfl 2 (by decide) k13 (fun _ h9 => h9) rfl dX6_undo_43 ?_
          refine lv_sipush (v := 158) hx hb dX6_undo_46 (by decide) ?_
          refine lv_aload_n hx hb dX6_undo_49 rfl (lv_at hl 0 rfl) ?_
          refine va_get (D := G) (ci := 6) (C := RX6) (T := TX6) (N := 14) hx hb hts iX6 hown hkx.1 hP 0 rfl rfl 3 (by decide) k27 (fun _ h9 => h9) rfl dX6_undo_50 ?_
          refine lv_imul hx hb dX6_undo_53 ?_
          rw [show (158 * (nI (sv - 1))) = (nI (158 * (sv - 1))) from pk_mul _ _]
          refine lv_iload_n hx hb dX6_undo_54 rfl (lv_at hl 1 rfl) ?_
          refine lv_iadd hx hb dX6_undo_55 ?_
          rw [show ((nI (158 * (sv - 1))) + (nI k)) = (nI ((158 * (sv - 1)) + k)) from nI_add (158 * (sv - 1)) k]
          refine ia hx hb hkx hP 2 rfl ((158 * (sv - 1)) + k) rfl (by omega) (by decide) dX6_undo_56 ?_
          refine ist hx hb hkx hP hD hS 1 rfl k rfl (by omega) (by decide) dX6_undo_57 (fun H locs hP hD hS => ?_)
          have hP : va_P G vwCl (wMod T r (upd g k (pp ((158 * (sv - 1)) + k))) pp xx 0 (sv - 1) n1 ac ea le v1 v2 v3 v4 v5) H := hP
          have hD : va_D A (wMod T r (upd g k (pp ((158 * (sv - 1)) + k))) pp xx 0 (sv - 1) n1 ac ea le v1 v2 v3 v4 v5) := hD
          refine lv_iinc (v := (nI (k + 1))) (lv' := [(1, .int (nI (k + 1))), (0, .ref (r 0))]) hx hb dX6_undo_58 hl (k := 1) rfl (nI_inc k) (by decide) rfl (fun ls hl => ?_)
          refine lv_goto (tgt := 30) hx hb dX6_undo_61 (by decide) ?_
          exact ih30 (k + 1) (upd g k (pp ((158 * (sv - 1)) + k))) (by omega) (by omega) (by rw [hg, gcp_s]) _ _ hP hD hS _ (lv_sub hl [1, 0] rfl)
    exact L30 _ 0 mm (Nat.lt_succ_self _) (by omega) (by exact (gcp_0 _ _ _).symm) _ _ hP hD hS _ (lv_sub hl [1, 0] rfl)
  · replace c_1 := cn_eq (a := sv) (b := 0) (by omega) (by omega) c_1
    have cD : decide (0 < sv) = false := decide_eq_false (by omega)
    refine lv_aload_n hx hb dX6_undo_12 rfl (lv_at hl 0 rfl) ?_
    refine lv_iconst (v := 1) hx hb dX6_undo_13 (by decide) ?_
    refine mu_V S hkx (mX6_refused l (hP := hP) (hD := hD.weaken (fun _ _ _ _ => trivial)) (N := N) (Z := Z) (mm := mm) (pp := pp) (xx := xx) (th := 0) (sv := sv) (n1 := n1) (ac := ac) (ea := ea) (le := le) (v1 := v1) (v2 := v2) (v3 := v3) (v4 := v4) (v5 := v5) (x := 1)) gX6_undo_X6_refused rfl idX6_refused ⟨Nat.le_of_ble_eq_true rfl, Nat.le_of_ble_eq_true rfl⟩ hP 0 rfl rfl rfl rfl hl.1 rfl (Nat.le_of_ble_eq_true rfl) dX6_undo_14 ⟨Nat.le_refl _, Nat.le_refl _⟩ hS (fr_in hD (fun q h => hA q (Nat.le_trans hS.1 h))) (fun v H locs hp9 hz1 hk1 hS => ?_)
    obtain ⟨rfl, hP⟩ := hp9
    have hP : va_P G vwCl (wMod T r mm pp xx 1 sv n1 ac ea le v1 v2 v3 v4 v5) H := hP
    have hD : va_D A (wMod T r mm pp xx 1 sv n1 ac ea le v1 v2 v3 v4 v5) := fr_all hD rfl
    refine W.eq (g2 := F0 m 17 ls [.int 0]) rfl ?_
    exact hret _ _ _ _ _ (show mPost G (poF (bI (decide (0 < sv)))) (nI (sv - 1)) (wMod T r (gcp mm pp (158 * (sv - 1)) 158) pp xx 0 (sv - 1) n1 ac ea le v1 v2 v3 v4 v5) (wMod T r mm pp xx (cmS (poF (bI (decide (0 < sv))))) sv n1 ac ea le v1 v2 v3 v4 v5) (some (Value.int 0)) H from ⟨_, rfl, Or.inr ⟨by simp [sq, thF, wiF, seF, dyF, poF, rfF, bI, *], by rw [show (cmS (poF (bI (decide (0 < sv))))) = 1 by simp [sq, thF, wiF, seF, dyF, poF, rfF, bI, cmI, cmA, cmB, cmS, nIl1, nIl2, nIl3, *]]; exact hP⟩⟩) rfl hS dX6_undo_17
