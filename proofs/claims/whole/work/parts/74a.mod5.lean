theorem idX6_served : yX6_served.cls = RX6 ∧ yX6_served.cls ≠ "java/lang/invoke/MethodHandle" ∧ yX6_served.cls ≠ "java/lang/invoke/VarHandle" ∧ (parseMethodDescriptor yX6_served.desc).map (fun d => d.parameters.length) = some 3 := by decide +kernel

set_option maxHeartbeats 4000000 in
set_option maxRecDepth 100000 in
theorem mX6_served (l : Launch) {G : va_G} {T : Nat → ClassId} {H0 : Heap} {r : Nat → Nat} {N : Nat → Nat} {Z : Nat → Nat → Int32} {mm : Nat → Int32} {pp : Nat → Int32} {xx : Nat → Int32} {th : Int32} {sv : Nat} {n1 : Nat} {ac : Int32} {ea : Int32} {le : Int32} {v1 : Int32} {v2 : Int32} {v3 : Int32} {v4 : Int32} {v5 : Int32} {u : Int32} {f : Int32} {d : Int32} (hP : va_P G vwCl (wMod T r mm pp xx th sv n1 ac ea le v1 v2 v3 v4 v5) H0) (hD : va_D (fun _ => True) (wMod T r mm pp xx th sv n1 ac ea le v1 v2 v3 v4 v5)) (hwf : wf N Z) (hr : rel N Z mm) : mu l yX6_served wsX6_served 3 71 [.ref (r 0), .int u, .int f, .int d] G T H0 (wMod T r mm pp xx th sv n1 ac ea le v1 v2 v3 v4 v5) (mPost G (sq (thF u (nI (N 2))) (sq (thF f (nI (N 1))) (dyF d))) (hsv N Z (tn u) f d) (wMod T r mm pp xx 0 sv n1 ac ea le v1 v2 v3 v4 v5) (wMod T r mm pp xx (cmI (sq (thF u (nI (N 2))) (sq (thF f (nI (N 1))) (dyF d)))) sv n1 ac ea le v1 v2 v3 v4 v5)) := by
  refine mu_ofi (cc := cX6_served) (maxL := 4) (ret := .int) (own := RX6) (by decide +kernel) rfl rfl (Nat.le_of_ble_eq_true rfl) hD ?_
  intro p e s m below meth c Q ls A S hkx hl hD hS hA hret
  obtain ⟨hx, hb, hml, hown, hts⟩ := id S
  have hl : lv_has ls 4 [(0, .ref (r 0)), (1, .int u), (2, .int f), (3, .int d)] := hl
  have k19 := hts (.fieldLink RX6 19 "SunsetDatesModel" "thrown" "I") (by decide +kernel)
  have iX6 : ∀ w ∈ wsX60, w ∈ wsX6_served := by decide +kernel
  have hb2 := hwf.1
  obtain ⟨hr0, hr1, hr2, hr3, hrv, hrf, hru, hrs⟩ := id hr
  refine lv_aload_n hx hb dX6_served_0 rfl (lv_at hl 0 rfl) ?_
  refine lv_aload_n hx hb dX6_served_1 rfl (lv_at hl 0 rfl) ?_
  refine lv_iload_n hx hb dX6_served_2 rfl (lv_at hl 1 rfl) ?_
  refine ro_V S hkx (mX6_isUser l (v := u) (hP := hP) (hwf := hwf) (hr := hr)) gX6_served_X6_isUser rfl idX6_isUser ⟨Nat.le_of_ble_eq_true rfl, Nat.le_of_ble_eq_true rfl⟩ hP 0 rfl rfl rfl rfl hl.1 rfl (Nat.le_of_ble_eq_true rfl) dX6_served_3 ⟨Nat.le_of_ble_eq_true rfl, Nat.le_of_ble_eq_true rfl⟩ (fun r_1 hr_1 => ?_)
  subst hr_1
  refine lv_if_eq (tgt := 17) hx hb dX6_served_6 (by decide) (fun c_2 => ?_) (fun c_2 => ?_)
  · replace c_2 := bI_e0 c_2
    refine lv_iconst (v := 1) hx hb dX6_served_17 (by decide) ?_
    refine lv_goto (tgt := 33) hx hb dX6_served_18 (by decide) ?_
    refine va_put (D := G) (ci := 6) (v := .int 1) (ty := .int) (C := RX6) (T := TX6) (N := 14) hx hb hts iX6 tyX6 tyX6_ok nmX6 hown hkx.1 hP hD hS 0 rfl rfl 1 (by decide) k19 (fun _ h9 => h9) rfl (by decide +kernel) rfl rfl (Nat.le_of_ble_eq_true rfl) dX6_served_33 (fun H locs hP hD hS => ?_)
    have hP : va_P G vwCl (wMod T r mm pp xx 1 sv n1 ac ea le v1 v2 v3 v4 v5) H := hP
    have hD : va_D A (wMod T r mm pp xx 1 sv n1 ac ea le v1 v2 v3 v4 v5) := hD
    refine lv_aload_n hx hb dX6_served_36 rfl (lv_at hl 0 rfl) ?_
    refine va_get (D := G) (ci := 6) (C := RX6) (T := TX6) (N := 14) hx hb hts iX6 hown hkx.1 hP 0 rfl rfl 1 (by decide) k19 (fun _ h9 => h9) rfl dX6_served_37 ?_
    refine lv_if_le (tgt := 45) hx hb dX6_served_40 (by decide) (fun c_3 => ?_) (fun c_3 => ?_)
    · replace c_3 := cn_le (a := 1) (b := 0) (by omega) (by omega) c_3
      exact absurd c_3 (by decide)
    · replace c_3 := cn_nle (a := 1) (b := 0) (by omega) (by omega) c_3
      refine lv_iconst (v := 0) hx hb dX6_served_43 (by decide) ?_
      exact hret _ _ _ _ _ (show mPost G (sq (thF u (nI (N 2))) (sq (thF f (nI (N 1))) (dyF d))) (hsv N Z (tn u) f d) (wMod T r mm pp xx 0 sv n1 ac ea le v1 v2 v3 v4 v5) (wMod T r mm pp xx (cmI (sq (thF u (nI (N 2))) (sq (thF f (nI (N 1))) (dyF d)))) sv n1 ac ea le v1 v2 v3 v4 v5) (some (Value.int 0)) H from ⟨_, rfl, Or.inr ⟨by simp [sq, thF, wiF, seF, dyF, poF, rfF, bI, *], by rw [show (cmI (sq (thF u (nI (N 2))) (sq (thF f (nI (N 1))) (dyF d)))) = 1 by simp [sq, thF, wiF, seF, dyF, poF, rfF, bI, cmI, cmA, cmB, cmS, nIl1, nIl2, nIl3, *]]; exact hP⟩⟩) rfl hS dX6_served_44
  · replace c_2 := bI_n0 c_2
    refine lv_aload_n hx hb dX6_served_9 rfl (lv_at hl 0 rfl) ?_
    refine lv_iload_n hx hb dX6_served_10 rfl (lv_at hl 2 rfl) ?_
    refine ro_V S hkx (mX6_isFeature l (v := f) (hP := hP) (hwf := hwf) (hr := hr)) gX6_served_X6_isFeature rfl idX6_isFeature ⟨Nat.le_of_ble_eq_true rfl, Nat.le_of_ble_eq_true rfl⟩ hP 0 rfl rfl rfl rfl hl.1 rfl (Nat.le_of_ble_eq_true rfl) dX6_served_11 ⟨Nat.le_of_ble_eq_true rfl, Nat.le_of_ble_eq_true rfl⟩ (fun r_4 hr_4 => ?_)
    subst hr_4
    refine lv_if_ne (tgt := 21) hx hb dX6_served_14 (by decide) (fun c_5 => ?_) (fun c_5 => ?_)
    · replace c_5 := bI_n0 c_5
      refine lv_iload_n hx hb dX6_served_21 rfl (lv_at hl 3 rfl) ?_
      refine ro_S S hkx (mX6_isDay l (d := d)) gX6_served_X6_isDay rfl idX6_isDay.2 ⟨Nat.le_of_ble_eq_true rfl, Nat.le_of_ble_eq_true rfl⟩ rfl hl.1 rfl (Nat.le_of_ble_eq_true rfl) dX6_served_22 ⟨Nat.le_of_ble_eq_true rfl, Nat.le_of_ble_eq_true rfl⟩ (fun r_6 hr_6 => ?_)
      subst hr_6
      refine lv_if_ne (tgt := 32) hx hb dX6_served_25 (by decide) (fun c_7 => ?_) (fun c_7 => ?_)
      · replace c_7 := bI_n0 c_7
        obtain ⟨k1, hk1, rfl⟩ := isT_nat (i := u) (n := N 2) (by omega) (by assumption)
        obtain ⟨k2, hk2, rfl⟩ := isT_nat (i := f) (n := N 1) (by omega) (by assumption)
        have ek1 : tn (nI k1) = k1 := nI_clamp (by omega)
        have ek2 : tn (nI k2) = k2 := nI_clamp (by omega)
        refine lv_iconst (v := 0) hx hb dX6_served_32 (by decide) ?_
        refine va_put (D := G) (ci := 6) (v := .int 0) (ty := .int) (C := RX6) (T := TX6) (N := 14) hx hb hts iX6 tyX6 tyX6_ok nmX6 hown hkx.1 hP hD hS 0 rfl rfl 1 (by decide) k19 (fun _ h9 => h9) rfl (by decide +kernel) rfl rfl (Nat.le_of_ble_eq_true rfl) dX6_served_33 (fun H locs hP hD hS => ?_)
        have hP : va_P G vwCl (wMod T r mm pp xx 0 sv n1 ac ea le v1 v2 v3 v4 v5) H := hP
        have hD : va_D A (wMod T r mm pp xx 0 sv n1 ac ea le v1 v2 v3 v4 v5) := hD
        refine lv_aload_n hx hb dX6_served_36 rfl (lv_at hl 0 rfl) ?_
        refine va_get (D := G) (ci := 6) (C := RX6) (T := TX6) (N := 14) hx hb hts iX6 hown hkx.1 hP 0 rfl rfl 1 (by decide) k19 (fun _ h9 => h9) rfl dX6_served_37 ?_
        refine lv_if_le (tgt := 45) hx hb dX6_served_40 (by decide) (fun c_8 => ?_) (fun c_8 => ?_)
        · replace c_8 := cn_le (a := 0) (b := 0) (by omega) (by omega) c_8
          refine lv_aload_n hx hb dX6_served_45 rfl (lv_at hl 0 rfl) ?_
          refine lv_iload_n hx hb dX6_served_46 rfl (lv_at hl 1 rfl) ?_
          refine lv_iconst (v := 1) hx hb dX6_served_47 (by decide) ?_
          refine ro_V S hkx (mX6_ofUser l (u := k1) (w := 1) (hP := hP) (hwf := hwf) (hr := hr) (hu := (by omega)) (hw := (by omega))) gX6_served_X6_ofUser rfl idX6_ofUser ⟨Nat.le_of_ble_eq_true rfl, Nat.le_of_ble_eq_true rfl⟩ hP 0 rfl rfl rfl rfl hl.1 rfl (Nat.le_of_ble_eq_true rfl) dX6_served_48 ⟨Nat.le_of_ble_eq_true rfl, Nat.le_of_ble_eq_true rfl⟩ (fun r_9 hr_9 => ?_)
          subst hr_9
          skip
          refine lv_iload_n hx hb dX6_served_51 rfl (lv_at hl 2 rfl) ?_
          refine ro_S S hkx (mX6_has l (x := (Z 6 k1)) (k := (nI k2))) gX6_served_X6_has rfl idX6_has.2 ⟨Nat.le_of_ble_eq_true rfl, Nat.le_of_ble_eq_true rfl⟩ rfl hl.1 rfl (Nat.le_of_ble_eq_true rfl) dX6_served_52 ⟨Nat.le_of_ble_eq_true rfl, Nat.le_of_ble_eq_true rfl⟩ (fun r_10 hr_10 => ?_)
          subst hr_10
          refine lv_if_eq (tgt := 73) hx hb dX6_served_55 (by decide) (fun c_11 => ?_) (fun c_11 => ?_)
          · replace c_11 := bI_e0 c_11
            refine lv_iconst (v := 5) hx hb dX6_served_73 (by decide) ?_
            exact hret _ _ _ _ _ (show mPost G (sq (thF (nI k1) (nI (N 2))) (sq (thF (nI k2) (nI (N 1))) (dyF d))) (hsv N Z (tn (nI k1)) (nI k2) d) (wMod T r mm pp xx 0 sv n1 ac ea le v1 v2 v3 v4 v5) (wMod T r mm pp xx (cmI (sq (thF (nI k1) (nI (N 2))) (sq (thF (nI k2) (nI (N 1))) (dyF d)))) sv n1 ac ea le v1 v2 v3 v4 v5) (some (Value.int 5)) H from ⟨_, rfl, Or.inl ⟨by simp [sq, thF, wiF, seF, dyF, poF, rfF, bI, *], by simp only [ek1]; rw [hsv_sv hwf k1 hk2 d]; rw [if_neg (Bool.eq_false_iff.mp (by assumption))], by exact hP⟩⟩) rfl hS dX6_served_74
          · replace c_11 := bI_n0 c_11
            refine lv_aload_n hx hb dX6_served_58 rfl (lv_at hl 0 rfl) ?_
            refine lv_aload_n hx hb dX6_served_59 rfl (lv_at hl 0 rfl) ?_
            refine lv_iload_n hx hb dX6_served_60 rfl (lv_at hl 1 rfl) ?_
            refine lv_iload_n hx hb dX6_served_61 rfl (lv_at hl 3 rfl) ?_
            refine ro_V S hkx (mX6_on l (u := k1) (d := d) (hP := hP) (hwf := hwf) (hr := hr) (hu := (by omega))) gX6_served_X6_on rfl idX6_on ⟨Nat.le_of_ble_eq_true rfl, Nat.le_of_ble_eq_true rfl⟩ hP 0 rfl rfl rfl rfl hl.1 rfl (Nat.le_of_ble_eq_true rfl) dX6_served_62 ⟨Nat.le_of_ble_eq_true rfl, Nat.le_of_ble_eq_true rfl⟩ (fun r_12 hr_12 => ?_)
            subst hr_12
            have ho := (on_spec hwf (show k1 < N 2 by omega) d).2
            refine lv_iload_n hx hb dX6_served_65 rfl (lv_at hl 2 rfl) ?_
            refine lv_iload_n hx hb dX6_served_66 rfl (lv_at hl 3 rfl) ?_
            refine ro_V S hkx (mX6_servedOn l (v := (onN Z k1 d)) (f := k2) (d := d) (hP := hP) (hwf := hwf) (hr := hr) (hv := (by omega)) (hf := (by omega))) gX6_served_X6_servedOn rfl idX6_servedOn ⟨Nat.le_of_ble_eq_true rfl, Nat.le_of_ble_eq_true rfl⟩ hP 0 rfl rfl rfl rfl hl.1 rfl (Nat.le_of_ble_eq_true rfl) dX6_served_67 ⟨Nat.le_of_ble_eq_true rfl, Nat.le_of_ble_eq_true rfl⟩ (fun r_13 hr_13 => ?_)
            subst hr_13
            refine lv_goto (tgt := 74) hx hb dX6_served_70 (by decide) ?_
            exact hret _ _ _ _ _ (show mPost G (sq (thF (nI k1) (nI (N 2))) (sq (thF (nI k2) (nI (N 1))) (dyF d))) (hsv N Z (tn (nI k1)) (nI k2) d) (wMod T r mm pp xx 0 sv n1 ac ea le v1 v2 v3 v4 v5) (wMod T r mm pp xx (cmI (sq (thF (nI k1) (nI (N 2))) (sq (thF (nI k2) (nI (N 1))) (dyF d)))) sv n1 ac ea le v1 v2 v3 v4 v5) (some (Value.int (sv4 N Z (onN Z k1 d) k2 d))) H from ⟨_, rfl, Or.inl ⟨by simp [sq, thF, wiF, seF, dyF, poF, rfF, bI, *], by simp only [ek1]; rw [hsv_sv hwf k1 hk2 d]; rw [if_pos (by assumption)], by exact hP⟩⟩) rfl hS dX6_served_74
        · replace c_8 := cn_nle (a := 0) (b := 0) (by omega) (by omega) c_8
          exact absurd c_8 (by decide)
      · replace c_7 := bI_e0 c_7
        refine lv_iconst (v := 2) hx hb dX6_served_28 (by decide) ?_
        refine lv_goto (tgt := 33) hx hb dX6_served_29 (by decide) ?_
        refine va_put (D := G) (ci := 6) (v := .int 2) (ty := .int) (C := RX6) (T := TX6) (N := 14) hx hb hts iX6 tyX6 tyX6_ok nmX6 hown hkx.1 hP hD hS 0 rfl rfl 1 (by decide) k19 (fun _ h9 => h9) rfl (by decide +kernel) rfl rfl (Nat.le_of_ble_eq_true rfl) dX6_served_33 (fun H locs hP hD hS => ?_)
        have hP : va_P G vwCl (wMod T r mm pp xx 2 sv n1 ac ea le v1 v2 v3 v4 v5) H := hP
        have hD : va_D A (wMod T r mm pp xx 2 sv n1 ac ea le v1 v2 v3 v4 v5) := hD
        refine lv_aload_n hx hb dX6_served_36 rfl (lv_at hl 0 rfl) ?_
        refine va_get (D := G) (ci := 6) (C := RX6) (T := TX6) (N := 14) hx hb hts iX6 hown hkx.1 hP 0 rfl rfl 1 (by decide) k19 (fun _ h9 => h9) rfl dX6_served_37 ?_
        refine lv_if_le (tgt := 45) hx hb dX6_served_40 (by decide) (fun c_14 => ?_) (fun c_14 => ?_)
        · replace c_14 := cn_le (a := 2) (b := 0) (by omega) (by omega) c_14
          exact absurd c_14 (by decide)
        · replace c_14 := cn_nle (a := 2) (b := 0) (by omega) (by omega) c_14
          refine lv_iconst (v := 0) hx hb dX6_served_43 (by decide) ?_
          exact hret _ _ _ _ _ (show mPost G (sq (thF u (nI (N 2))) (sq (thF f (nI (N 1))) (dyF d))) (hsv N Z (tn u) f d) (wMod T r mm pp xx 0 sv n1 ac ea le v1 v2 v3 v4 v5) (wMod T r mm pp xx (cmI (sq (thF u (nI (N 2))) (sq (thF f (nI (N 1))) (dyF d)))) sv n1 ac ea le v1 v2 v3 v4 v5) (some (Value.int 0)) H from ⟨_, rfl, Or.inr ⟨by simp [sq, thF, wiF, seF, dyF, poF, rfF, bI, *], by rw [show (cmI (sq (thF u (nI (N 2))) (sq (thF f (nI (N 1))) (dyF d)))) = 2 by simp [sq, thF, wiF, seF, dyF, poF, rfF, bI, cmI, cmA, cmB, cmS, nIl1, nIl2, nIl3, *]]; exact hP⟩⟩) rfl hS dX6_served_44
    · replace c_5 := bI_e0 c_5
      refine lv_iconst (v := 1) hx hb dX6_served_17 (by decide) ?_
      refine lv_goto (tgt := 33) hx hb dX6_served_18 (by decide) ?_
      refine va_put (D := G) (ci := 6) (v := .int 1) (ty := .int) (C := RX6) (T := TX6) (N := 14) hx hb hts iX6 tyX6 tyX6_ok nmX6 hown hkx.1 hP hD hS 0 rfl rfl 1 (by decide) k19 (fun _ h9 => h9) rfl (by decide +kernel) rfl rfl (Nat.le_of_ble_eq_true rfl) dX6_served_33 (fun H locs hP hD hS => ?_)
      have hP : va_P G vwCl (wMod T r mm pp xx 1 sv n1 ac ea le v1 v2 v3 v4 v5) H := hP
      have hD : va_D A (wMod T r mm pp xx 1 sv n1 ac ea le v1 v2 v3 v4 v5) := hD
      refine lv_aload_n hx hb dX6_served_36 rfl (lv_at hl 0 rfl) ?_
      refine va_get (D := G) (ci := 6) (C := RX6) (T := TX6) (N := 14) hx hb hts iX6 hown hkx.1 hP 0 rfl rfl 1 (by decide) k19 (fun _ h9 => h9) rfl dX6_served_37 ?_
      refine lv_if_le (tgt := 45) hx hb dX6_served_40 (by decide) (fun c_15 => ?_) (fun c_15 => ?_)
      · replace c_15 := cn_le (a := 1) (b := 0) (by omega) (by omega) c_15
        exact absurd c_15 (by decide)
      · replace c_15 := cn_nle (a := 1) (b := 0) (by omega) (by omega) c_15
        refine lv_iconst (v := 0) hx hb dX6_served_43 (by decide) ?_
        exact hret _ _ _ _ _ (show mPost G (sq (thF u (nI (N 2))) (sq (thF f (nI (N 1))) (dyF d))) (hsv N Z (tn u) f d) (wMod T r mm pp xx 0 sv n1 ac ea le v1 v2 v3 v4 v5) (wMod T r mm pp xx (cmI (sq (thF u (nI (N 2))) (sq (thF f (nI (N 1))) (dyF d)))) sv n1 ac ea le v1 v2 v3 v4 v5) (some (Value.int 0)) H from ⟨_, rfl, Or.inr ⟨by simp [sq, thF, wiF, seF, dyF, poF, rfF, bI, *], by rw [show (cmI (sq (thF u (nI (N 2))) (sq (thF f (nI (N 1))) (dyF d)))) = 1 by simp [sq, thF, wiF, seF, dyF, poF, rfF, bI, cmI, cmA, cmB, cmS, nIl1, nIl2, nIl3, *]]; exact hP⟩⟩) rfl hS dX6_served_44
