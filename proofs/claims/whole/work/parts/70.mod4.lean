theorem idX6_version : yX6_version.cls = RX6 ∧ yX6_version.cls ≠ "java/lang/invoke/MethodHandle" ∧ yX6_version.cls ≠ "java/lang/invoke/VarHandle" ∧ (parseMethodDescriptor yX6_version.desc).map (fun d => d.parameters.length) = some 2 := by decide +kernel

set_option maxHeartbeats 4000000 in
set_option maxRecDepth 100000 in
theorem mX6_version (l : Launch) {G : va_G} {T : Nat → ClassId} {H0 : Heap} {r : Nat → Nat} {N : Nat → Nat} {Z : Nat → Nat → Int32} {mm : Nat → Int32} {pp : Nat → Int32} {xx : Nat → Int32} {th : Int32} {sv : Nat} {n1 : Nat} {ac : Int32} {ea : Int32} {le : Int32} {v1 : Int32} {v2 : Int32} {v3 : Int32} {v4 : Int32} {v5 : Int32} {v : Int32} {w : Int32} (hP : va_P G vwCl (wMod T r mm pp xx th sv n1 ac ea le v1 v2 v3 v4 v5) H0) (hD : va_D (fun _ => True) (wMod T r mm pp xx th sv n1 ac ea le v1 v2 v3 v4 v5)) (hwf : wf N Z) (hr : rel N Z mm) : mu l yX6_version wsX6_version 3 67 [.ref (r 0), .int v, .int w] G T H0 (wMod T r mm pp xx th sv n1 ac ea le v1 v2 v3 v4 v5) (mPost G (sq (thF v (nI (N 0))) (wiF w 0 4)) (ofV N Z (tn v) (tn w)) (wMod T r mm pp xx 0 sv n1 ac ea le v1 v2 v3 v4 v5) (wMod T r mm pp xx (cmI (sq (thF v (nI (N 0))) (wiF w 0 4))) sv n1 ac ea le v1 v2 v3 v4 v5)) := by
  refine mu_ofi (cc := cX6_version) (maxL := 3) (ret := .int) (own := RX6) (by decide +kernel) rfl rfl (Nat.le_of_ble_eq_true rfl) hD ?_
  intro p e s m below meth c Q ls A S hkx hl hD hS hA hret
  obtain ⟨hx, hb, hml, hown, hts⟩ := id S
  have hl : lv_has ls 3 [(0, .ref (r 0)), (1, .int v), (2, .int w)] := hl
  have k19 := hts (.fieldLink RX6 19 "SunsetDatesModel" "thrown" "I") (by decide +kernel)
  have iX6 : ∀ w ∈ wsX60, w ∈ wsX6_version := by decide +kernel
  have hb2 := hwf.1
  obtain ⟨hr0, hr1, hr2, hr3, hrv, hrf, hru, hrs⟩ := id hr
  refine lv_aload_n hx hb dX6_version_0 rfl (lv_at hl 0 rfl) ?_
  refine lv_aload_n hx hb dX6_version_1 rfl (lv_at hl 0 rfl) ?_
  refine lv_iload_n hx hb dX6_version_2 rfl (lv_at hl 1 rfl) ?_
  refine ro_V S hkx (mX6_isVersion l (v := v) (hP := hP) (hwf := hwf) (hr := hr)) gX6_version_X6_isVersion rfl idX6_isVersion ⟨Nat.le_of_ble_eq_true rfl, Nat.le_of_ble_eq_true rfl⟩ hP 0 rfl rfl rfl rfl hl.1 rfl (Nat.le_of_ble_eq_true rfl) dX6_version_3 ⟨Nat.le_of_ble_eq_true rfl, Nat.le_of_ble_eq_true rfl⟩ (fun r_1 hr_1 => ?_)
  subst hr_1
  refine lv_if_ne (tgt := 13) hx hb dX6_version_6 (by decide) (fun c_2 => ?_) (fun c_2 => ?_)
  · replace c_2 := bI_n0 c_2
    refine lv_iload_n hx hb dX6_version_13 rfl (lv_at hl 2 rfl) ?_
    refine lv_iconst (v := 0) hx hb dX6_version_14 (by decide) ?_
    refine lv_iconst (v := 4) hx hb dX6_version_15 (by decide) ?_
    refine ro_S S hkx (mX6_in l (v := w) (x := 0) (z := 4)) gX6_version_X6_in rfl idX6_in.2 ⟨Nat.le_of_ble_eq_true rfl, Nat.le_of_ble_eq_true rfl⟩ rfl hl.1 rfl (Nat.le_of_ble_eq_true rfl) dX6_version_16 ⟨Nat.le_of_ble_eq_true rfl, Nat.le_of_ble_eq_true rfl⟩ (fun r_3 hr_3 => ?_)
    subst hr_3
    refine lv_if_ne (tgt := 26) hx hb dX6_version_19 (by decide) (fun c_4 => ?_) (fun c_4 => ?_)
    · replace c_4 := bI_n0 c_4
      obtain ⟨k1, hk1, rfl⟩ := isT_nat (i := v) (n := N 0) (by omega) (by assumption)
      obtain ⟨k2, hk2a, hk2, rfl⟩ := isW_nat (v := w) (a := 0) (b := 4) (by assumption)
      have ek1 : tn (nI k1) = k1 := nI_clamp (by omega)
      have ek2 : tn (nI k2) = k2 := nI_clamp (by omega)
      refine lv_iconst (v := 0) hx hb dX6_version_26 (by decide) ?_
      refine va_put (D := G) (ci := 6) (v := .int 0) (ty := .int) (C := RX6) (T := TX6) (N := 14) hx hb hts iX6 tyX6 tyX6_ok nmX6 hown hkx.1 hP hD hS 0 rfl rfl 1 (by decide) k19 (fun _ h9 => h9) rfl (by decide +kernel) rfl rfl (Nat.le_of_ble_eq_true rfl) dX6_version_27 (fun H locs hP hD hS => ?_)
      have hP : va_P G vwCl (wMod T r mm pp xx 0 sv n1 ac ea le v1 v2 v3 v4 v5) H := hP
      have hD : va_D A (wMod T r mm pp xx 0 sv n1 ac ea le v1 v2 v3 v4 v5) := hD
      refine lv_aload_n hx hb dX6_version_30 rfl (lv_at hl 0 rfl) ?_
      refine va_get (D := G) (ci := 6) (C := RX6) (T := TX6) (N := 14) hx hb hts iX6 hown hkx.1 hP 0 rfl rfl 1 (by decide) k19 (fun _ h9 => h9) rfl dX6_version_31 ?_
      refine lv_if_le (tgt := 41) hx hb dX6_version_34 (by decide) (fun c_5 => ?_) (fun c_5 => ?_)
      · replace c_5 := cn_le (a := 0) (b := 0) (by omega) (by omega) c_5
        refine lv_aload_n hx hb dX6_version_41 rfl (lv_at hl 0 rfl) ?_
        refine lv_iload_n hx hb dX6_version_42 rfl (lv_at hl 1 rfl) ?_
        refine lv_iload_n hx hb dX6_version_43 rfl (lv_at hl 2 rfl) ?_
        refine ro_V S hkx (mX6_toldVersion l (v := k1) (w := k2) (hP := hP) (hwf := hwf) (hr := hr) (hv := (by omega)) (hw := (by omega))) gX6_version_X6_toldVersion rfl idX6_toldVersion ⟨Nat.le_of_ble_eq_true rfl, Nat.le_of_ble_eq_true rfl⟩ hP 0 rfl rfl rfl rfl hl.1 rfl (Nat.le_of_ble_eq_true rfl) dX6_version_44 ⟨Nat.le_of_ble_eq_true rfl, Nat.le_of_ble_eq_true rfl⟩ (fun r_6 hr_6 => ?_)
        subst hr_6
        exact hret _ _ _ _ _ (show mPost G (sq (thF (nI k1) (nI (N 0))) (wiF (nI k2) 0 4)) (ofV N Z (tn (nI k1)) (tn (nI k2))) (wMod T r mm pp xx 0 sv n1 ac ea le v1 v2 v3 v4 v5) (wMod T r mm pp xx (cmI (sq (thF (nI k1) (nI (N 0))) (wiF (nI k2) 0 4))) sv n1 ac ea le v1 v2 v3 v4 v5) (some (Value.int (ofV N Z k1 k2))) H from ⟨_, rfl, Or.inl ⟨by simp [sq, thF, wiF, seF, dyF, poF, rfF, bI, *], by first | rfl | (simp only [ek1, ek2]; done) | (simp only [ek1, ek2]; rfl), by exact hP⟩⟩) rfl hS dX6_version_47
      · replace c_5 := cn_nle (a := 0) (b := 0) (by omega) (by omega) c_5
        exact absurd c_5 (by decide)
    · replace c_4 := bI_e0 c_4
      refine lv_iconst (v := 2) hx hb dX6_version_22 (by decide) ?_
      refine lv_goto (tgt := 27) hx hb dX6_version_23 (by decide) ?_
      refine va_put (D := G) (ci := 6) (v := .int 2) (ty := .int) (C := RX6) (T := TX6) (N := 14) hx hb hts iX6 tyX6 tyX6_ok nmX6 hown hkx.1 hP hD hS 0 rfl rfl 1 (by decide) k19 (fun _ h9 => h9) rfl (by decide +kernel) rfl rfl (Nat.le_of_ble_eq_true rfl) dX6_version_27 (fun H locs hP hD hS => ?_)
      have hP : va_P G vwCl (wMod T r mm pp xx 2 sv n1 ac ea le v1 v2 v3 v4 v5) H := hP
      have hD : va_D A (wMod T r mm pp xx 2 sv n1 ac ea le v1 v2 v3 v4 v5) := hD
      refine lv_aload_n hx hb dX6_version_30 rfl (lv_at hl 0 rfl) ?_
      refine va_get (D := G) (ci := 6) (C := RX6) (T := TX6) (N := 14) hx hb hts iX6 hown hkx.1 hP 0 rfl rfl 1 (by decide) k19 (fun _ h9 => h9) rfl dX6_version_31 ?_
      refine lv_if_le (tgt := 41) hx hb dX6_version_34 (by decide) (fun c_7 => ?_) (fun c_7 => ?_)
      · replace c_7 := cn_le (a := 2) (b := 0) (by omega) (by omega) c_7
        exact absurd c_7 (by decide)
      · replace c_7 := cn_nle (a := 2) (b := 0) (by omega) (by omega) c_7
        refine lv_iconst (v := 0) hx hb dX6_version_37 (by decide) ?_
        refine lv_goto (tgt := 47) hx hb dX6_version_38 (by decide) ?_
        exact hret _ _ _ _ _ (show mPost G (sq (thF v (nI (N 0))) (wiF w 0 4)) (ofV N Z (tn v) (tn w)) (wMod T r mm pp xx 0 sv n1 ac ea le v1 v2 v3 v4 v5) (wMod T r mm pp xx (cmI (sq (thF v (nI (N 0))) (wiF w 0 4))) sv n1 ac ea le v1 v2 v3 v4 v5) (some (Value.int 0)) H from ⟨_, rfl, Or.inr ⟨by simp [sq, thF, wiF, seF, dyF, poF, rfF, bI, *], by rw [show (cmI (sq (thF v (nI (N 0))) (wiF w 0 4))) = 2 by simp [sq, thF, wiF, seF, dyF, poF, rfF, bI, cmI, cmA, cmB, cmS, nIl1, nIl2, nIl3, *]]; exact hP⟩⟩) rfl hS dX6_version_47
  · replace c_2 := bI_e0 c_2
    refine lv_iconst (v := 1) hx hb dX6_version_9 (by decide) ?_
    refine lv_goto (tgt := 27) hx hb dX6_version_10 (by decide) ?_
    refine va_put (D := G) (ci := 6) (v := .int 1) (ty := .int) (C := RX6) (T := TX6) (N := 14) hx hb hts iX6 tyX6 tyX6_ok nmX6 hown hkx.1 hP hD hS 0 rfl rfl 1 (by decide) k19 (fun _ h9 => h9) rfl (by decide +kernel) rfl rfl (Nat.le_of_ble_eq_true rfl) dX6_version_27 (fun H locs hP hD hS => ?_)
    have hP : va_P G vwCl (wMod T r mm pp xx 1 sv n1 ac ea le v1 v2 v3 v4 v5) H := hP
    have hD : va_D A (wMod T r mm pp xx 1 sv n1 ac ea le v1 v2 v3 v4 v5) := hD
    refine lv_aload_n hx hb dX6_version_30 rfl (lv_at hl 0 rfl) ?_
    refine va_get (D := G) (ci := 6) (C := RX6) (T := TX6) (N := 14) hx hb hts iX6 hown hkx.1 hP 0 rfl rfl 1 (by decide) k19 (fun _ h9 => h9) rfl dX6_version_31 ?_
    refine lv_if_le (tgt := 41) hx hb dX6_version_34 (by decide) (fun c_8 => ?_) (fun c_8 => ?_)
    · replace c_8 := cn_le (a := 1) (b := 0) (by omega) (by omega) c_8
      exact absurd c_8 (by decide)
    · replace c_8 := cn_nle (a := 1) (b := 0) (by omega) (by omega) c_8
      refine lv_iconst (v := 0) hx hb dX6_version_37 (by decide) ?_
      refine lv_goto (tgt := 47) hx hb dX6_version_38 (by decide) ?_
      exact hret _ _ _ _ _ (show mPost G (sq (thF v (nI (N 0))) (wiF w 0 4)) (ofV N Z (tn v) (tn w)) (wMod T r mm pp xx 0 sv n1 ac ea le v1 v2 v3 v4 v5) (wMod T r mm pp xx (cmI (sq (thF v (nI (N 0))) (wiF w 0 4))) sv n1 ac ea le v1 v2 v3 v4 v5) (some (Value.int 0)) H from ⟨_, rfl, Or.inr ⟨by simp [sq, thF, wiF, seF, dyF, poF, rfF, bI, *], by rw [show (cmI (sq (thF v (nI (N 0))) (wiF w 0 4))) = 1 by simp [sq, thF, wiF, seF, dyF, poF, rfF, bI, cmI, cmA, cmB, cmS, nIl1, nIl2, nIl3, *]]; exact hP⟩⟩) rfl hS dX6_version_47

theorem idX6_user : yX6_user.cls = RX6 ∧ yX6_user.cls ≠ "java/lang/invoke/MethodHandle" ∧ yX6_user.cls ≠ "java/lang/invoke/VarHandle" ∧ (parseMethodDescriptor yX6_user.desc).map (fun d => d.parameters.length) = some 2 := by decide +kernel

set_option maxHeartbeats 4000000 in
set_option maxRecDepth 100000 in
theorem mX6_user (l : Launch) {G : va_G} {T : Nat → ClassId} {H0 : Heap} {r : Nat → Nat} {N : Nat → Nat} {Z : Nat → Nat → Int32} {mm : Nat → Int32} {pp : Nat → Int32} {xx : Nat → Int32} {th : Int32} {sv : Nat} {n1 : Nat} {ac : Int32} {ea : Int32} {le : Int32} {v1 : Int32} {v2 : Int32} {v3 : Int32} {v4 : Int32} {v5 : Int32} {u : Int32} {w : Int32} (hP : va_P G vwCl (wMod T r mm pp xx th sv n1 ac ea le v1 v2 v3 v4 v5) H0) (hD : va_D (fun _ => True) (wMod T r mm pp xx th sv n1 ac ea le v1 v2 v3 v4 v5)) (hwf : wf N Z) (hr : rel N Z mm) : mu l yX6_user wsX6_user 2 43 [.ref (r 0), .int u, .int w] G T H0 (wMod T r mm pp xx th sv n1 ac ea le v1 v2 v3 v4 v5) (mPost G (sq (thF u (nI (N 2))) (wiF w 0 5)) (Z (5 + tn w) (tn u)) (wMod T r mm pp xx 0 sv n1 ac ea le v1 v2 v3 v4 v5) (wMod T r mm pp xx (cmI (sq (thF u (nI (N 2))) (wiF w 0 5))) sv n1 ac ea le v1 v2 v3 v4 v5)) := by
  refine mu_ofi (cc := cX6_user) (maxL := 3) (ret := .int) (own := RX6) (by decide +kernel) rfl rfl (Nat.le_of_ble_eq_true rfl) hD ?_
  intro p e s m below meth c Q ls A S hkx hl hD hS hA hret
  obtain ⟨hx, hb, hml, hown, hts⟩ := id S
  have hl : lv_has ls 3 [(0, .ref (r 0)), (1, .int u), (2, .int w)] := hl
  have k19 := hts (.fieldLink RX6 19 "SunsetDatesModel" "thrown" "I") (by decide +kernel)
  have iX6 : ∀ w ∈ wsX60, w ∈ wsX6_user := by decide +kernel
  have hb2 := hwf.1
  obtain ⟨hr0, hr1, hr2, hr3, hrv, hrf, hru, hrs⟩ := id hr
  refine lv_aload_n hx hb dX6_user_0 rfl (lv_at hl 0 rfl) ?_
  refine lv_aload_n hx hb dX6_user_1 rfl (lv_at hl 0 rfl) ?_
  refine lv_iload_n hx hb dX6_user_2 rfl (lv_at hl 1 rfl) ?_
  refine ro_V S hkx (mX6_isUser l (v := u) (hP := hP) (hwf := hwf) (hr := hr)) gX6_user_X6_isUser rfl idX6_isUser ⟨Nat.le_of_ble_eq_true rfl, Nat.le_of_ble_eq_true rfl⟩ hP 0 rfl rfl rfl rfl hl.1 rfl (Nat.le_of_ble_eq_true rfl) dX6_user_3 ⟨Nat.le_of_ble_eq_true rfl, Nat.le_of_ble_eq_true rfl⟩ (fun r_1 hr_1 => ?_)
  subst hr_1
  refine lv_if_ne (tgt := 13) hx hb dX6_user_6 (by decide) (fun c_2 => ?_) (fun c_2 => ?_)
  · replace c_2 := bI_n0 c_2
    refine lv_iload_n hx hb dX6_user_13 rfl (lv_at hl 2 rfl) ?_
    refine lv_iconst (v := 0) hx hb dX6_user_14 (by decide) ?_
    refine lv_iconst (v := 5) hx hb dX6_user_15 (by decide) ?_
    refine ro_S S hkx (mX6_in l (v := w) (x := 0) (z := 5)) gX6_user_X6_in rfl idX6_in.2 ⟨Nat.le_of_ble_eq_true rfl, Nat.le_of_ble_eq_true rfl⟩ rfl hl.1 rfl (Nat.le_of_ble_eq_true rfl) dX6_user_16 ⟨Nat.le_of_ble_eq_true rfl, Nat.le_of_ble_eq_true rfl⟩ (fun r_3 hr_3 => ?_)
    subst hr_3
    refine lv_if_ne (tgt := 26) hx hb dX6_user_19 (by decide) (fun c_4 => ?_) (fun c_4 => ?_)
    · replace c_4 := bI_n0 c_4
      obtain ⟨k1, hk1, rfl⟩ := isT_nat (i := u) (n := N 2) (by omega) (by assumption)
      obtain ⟨k2, hk2a, hk2, rfl⟩ := isW_nat (v := w) (a := 0) (b := 5) (by assumption)
      have ek1 : tn (nI k1) = k1 := nI_clamp (by omega)
      have ek2 : tn (nI k2) = k2 := nI_clamp (by omega)
      refine lv_iconst (v := 0) hx hb dX6_user_26 (by decide) ?_
      refine va_put (D := G) (ci := 6) (v := .int 0) (ty := .int) (C := RX6) (T := TX6) (N := 14) hx hb hts iX6 tyX6 tyX6_ok nmX6 hown hkx.1 hP hD hS 0 rfl rfl 1 (by decide) k19 (fun _ h9 => h9) rfl (by decide +kernel) rfl rfl (Nat.le_of_ble_eq_true rfl) dX6_user_27 (fun H locs hP hD hS => ?_)
      have hP : va_P G vwCl (wMod T r mm pp xx 0 sv n1 ac ea le v1 v2 v3 v4 v5) H := hP
      have hD : va_D A (wMod T r mm pp xx 0 sv n1 ac ea le v1 v2 v3 v4 v5) := hD
      refine lv_aload_n hx hb dX6_user_30 rfl (lv_at hl 0 rfl) ?_
      refine va_get (D := G) (ci := 6) (C := RX6) (T := TX6) (N := 14) hx hb hts iX6 hown hkx.1 hP 0 rfl rfl 1 (by decide) k19 (fun _ h9 => h9) rfl dX6_user_31 ?_
      refine lv_if_le (tgt := 41) hx hb dX6_user_34 (by decide) (fun c_5 => ?_) (fun c_5 => ?_)
      · replace c_5 := cn_le (a := 0) (b := 0) (by omega) (by omega) c_5
        refine lv_aload_n hx hb dX6_user_41 rfl (lv_at hl 0 rfl) ?_
        refine lv_iload_n hx hb dX6_user_42 rfl (lv_at hl 1 rfl) ?_
        refine lv_iload_n hx hb dX6_user_43 rfl (lv_at hl 2 rfl) ?_
        refine ro_V S hkx (mX6_ofUser l (u := k1) (w := k2) (hP := hP) (hwf := hwf) (hr := hr) (hu := (by omega)) (hw := (by omega))) gX6_user_X6_ofUser rfl idX6_ofUser ⟨Nat.le_of_ble_eq_true rfl, Nat.le_of_ble_eq_true rfl⟩ hP 0 rfl rfl rfl rfl hl.1 rfl (Nat.le_of_ble_eq_true rfl) dX6_user_44 ⟨Nat.le_of_ble_eq_true rfl, Nat.le_of_ble_eq_true rfl⟩ (fun r_6 hr_6 => ?_)
        subst hr_6
        exact hret _ _ _ _ _ (show mPost G (sq (thF (nI k1) (nI (N 2))) (wiF (nI k2) 0 5)) (Z (5 + tn (nI k2)) (tn (nI k1))) (wMod T r mm pp xx 0 sv n1 ac ea le v1 v2 v3 v4 v5) (wMod T r mm pp xx (cmI (sq (thF (nI k1) (nI (N 2))) (wiF (nI k2) 0 5))) sv n1 ac ea le v1 v2 v3 v4 v5) (some (Value.int (Z (5 + k2) k1))) H from ⟨_, rfl, Or.inl ⟨by simp [sq, thF, wiF, seF, dyF, poF, rfF, bI, *], by first | rfl | (simp only [ek1, ek2]; done) | (simp only [ek1, ek2]; rfl), by exact hP⟩⟩) rfl hS dX6_user_47
      · replace c_5 := cn_nle (a := 0) (b := 0) (by omega) (by omega) c_5
        exact absurd c_5 (by decide)
    · replace c_4 := bI_e0 c_4
      refine lv_iconst (v := 2) hx hb dX6_user_22 (by decide) ?_
      refine lv_goto (tgt := 27) hx hb dX6_user_23 (by decide) ?_
      refine va_put (D := G) (ci := 6) (v := .int 2) (ty := .int) (C := RX6) (T := TX6) (N := 14) hx hb hts iX6 tyX6 tyX6_ok nmX6 hown hkx.1 hP hD hS 0 rfl rfl 1 (by decide) k19 (fun _ h9 => h9) rfl (by decide +kernel) rfl rfl (Nat.le_of_ble_eq_true rfl) dX6_user_27 (fun H locs hP hD hS => ?_)
      have hP : va_P G vwCl (wMod T r mm pp xx 2 sv n1 ac ea le v1 v2 v3 v4 v5) H := hP
      have hD : va_D A (wMod T r mm pp xx 2 sv n1 ac ea le v1 v2 v3 v4 v5) := hD
      refine lv_aload_n hx hb dX6_user_30 rfl (lv_at hl 0 rfl) ?_
      refine va_get (D := G) (ci := 6) (C := RX6) (T := TX6) (N := 14) hx hb hts iX6 hown hkx.1 hP 0 rfl rfl 1 (by decide) k19 (fun _ h9 => h9) rfl dX6_user_31 ?_
      refine lv_if_le (tgt := 41) hx hb dX6_user_34 (by decide) (fun c_7 => ?_) (fun c_7 => ?_)
      · replace c_7 := cn_le (a := 2) (b := 0) (by omega) (by omega) c_7
        exact absurd c_7 (by decide)
      · replace c_7 := cn_nle (a := 2) (b := 0) (by omega) (by omega) c_7
        refine lv_iconst (v := 0) hx hb dX6_user_37 (by decide) ?_
        refine lv_goto (tgt := 47) hx hb dX6_user_38 (by decide) ?_
        exact hret _ _ _ _ _ (show mPost G (sq (thF u (nI (N 2))) (wiF w 0 5)) (Z (5 + tn w) (tn u)) (wMod T r mm pp xx 0 sv n1 ac ea le v1 v2 v3 v4 v5) (wMod T r mm pp xx (cmI (sq (thF u (nI (N 2))) (wiF w 0 5))) sv n1 ac ea le v1 v2 v3 v4 v5) (some (Value.int 0)) H from ⟨_, rfl, Or.inr ⟨by simp [sq, thF, wiF, seF, dyF, poF, rfF, bI, *], by rw [show (cmI (sq (thF u (nI (N 2))) (wiF w 0 5))) = 2 by simp [sq, thF, wiF, seF, dyF, poF, rfF, bI, cmI, cmA, cmB, cmS, nIl1, nIl2, nIl3, *]]; exact hP⟩⟩) rfl hS dX6_user_47
  · replace c_2 := bI_e0 c_2
    refine lv_iconst (v := 1) hx hb dX6_user_9 (by decide) ?_
    refine lv_goto (tgt := 27) hx hb dX6_user_10 (by decide) ?_
    refine va_put (D := G) (ci := 6) (v := .int 1) (ty := .int) (C := RX6) (T := TX6) (N := 14) hx hb hts iX6 tyX6 tyX6_ok nmX6 hown hkx.1 hP hD hS 0 rfl rfl 1 (by decide) k19 (fun _ h9 => h9) rfl (by decide +kernel) rfl rfl (Nat.le_of_ble_eq_true rfl) dX6_user_27 (fun H locs hP hD hS => ?_)
    have hP : va_P G vwCl (wMod T r mm pp xx 1 sv n1 ac ea le v1 v2 v3 v4 v5) H := hP
    have hD : va_D A (wMod T r mm pp xx 1 sv n1 ac ea le v1 v2 v3 v4 v5) := hD
    refine lv_aload_n hx hb dX6_user_30 rfl (lv_at hl 0 rfl) ?_
    refine va_get (D := G) (ci := 6) (C := RX6) (T := TX6) (N := 14) hx hb hts iX6 hown hkx.1 hP 0 rfl rfl 1 (by decide) k19 (fun _ h9 => h9) rfl dX6_user_31 ?_
    refine lv_if_le (tgt := 41) hx hb dX6_user_34 (by decide) (fun c_8 => ?_) (fun c_8 => ?_)
    · replace c_8 := cn_le (a := 1) (b := 0) (by omega) (by omega) c_8
      exact absurd c_8 (by decide)
    · replace c_8 := cn_nle (a := 1) (b := 0) (by omega) (by omega) c_8
      refine lv_iconst (v := 0) hx hb dX6_user_37 (by decide) ?_
      refine lv_goto (tgt := 47) hx hb dX6_user_38 (by decide) ?_
      exact hret _ _ _ _ _ (show mPost G (sq (thF u (nI (N 2))) (wiF w 0 5)) (Z (5 + tn w) (tn u)) (wMod T r mm pp xx 0 sv n1 ac ea le v1 v2 v3 v4 v5) (wMod T r mm pp xx (cmI (sq (thF u (nI (N 2))) (wiF w 0 5))) sv n1 ac ea le v1 v2 v3 v4 v5) (some (Value.int 0)) H from ⟨_, rfl, Or.inr ⟨by simp [sq, thF, wiF, seF, dyF, poF, rfF, bI, *], by rw [show (cmI (sq (thF u (nI (N 2))) (wiF w 0 5))) = 1 by simp [sq, thF, wiF, seF, dyF, poF, rfF, bI, cmI, cmA, cmB, cmS, nIl1, nIl2, nIl3, *]]; exact hP⟩⟩) rfl hS dX6_user_47

theorem idX6_shim : yX6_shim.cls = RX6 ∧ yX6_shim.cls ≠ "java/lang/invoke/MethodHandle" ∧ yX6_shim.cls ≠ "java/lang/invoke/VarHandle" ∧ (parseMethodDescriptor yX6_shim.desc).map (fun d => d.parameters.length) = some 2 := by decide +kernel

set_option maxHeartbeats 4000000 in
set_option maxRecDepth 100000 in
theorem mX6_shim (l : Launch) {G : va_G} {T : Nat → ClassId} {H0 : Heap} {r : Nat → Nat} {N : Nat → Nat} {Z : Nat → Nat → Int32} {mm : Nat → Int32} {pp : Nat → Int32} {xx : Nat → Int32} {th : Int32} {sv : Nat} {n1 : Nat} {ac : Int32} {ea : Int32} {le : Int32} {v1 : Int32} {v2 : Int32} {v3 : Int32} {v4 : Int32} {v5 : Int32} {t : Int32} {w : Int32} (hP : va_P G vwCl (wMod T r mm pp xx th sv n1 ac ea le v1 v2 v3 v4 v5) H0) (hD : va_D (fun _ => True) (wMod T r mm pp xx th sv n1 ac ea le v1 v2 v3 v4 v5)) (hwf : wf N Z) (hr : rel N Z mm) : mu l yX6_shim wsX6_shim 2 43 [.ref (r 0), .int t, .int w] G T H0 (wMod T r mm pp xx th sv n1 ac ea le v1 v2 v3 v4 v5) (mPost G (sq (thF t (nI (N 3))) (wiF w 0 4)) (Z (11 + tn w) (tn t)) (wMod T r mm pp xx 0 sv n1 ac ea le v1 v2 v3 v4 v5) (wMod T r mm pp xx (cmI (sq (thF t (nI (N 3))) (wiF w 0 4))) sv n1 ac ea le v1 v2 v3 v4 v5)) := by
  refine mu_ofi (cc := cX6_shim) (maxL := 3) (ret := .int) (own := RX6) (by decide +kernel) rfl rfl (Nat.le_of_ble_eq_true rfl) hD ?_
  intro p e s m below meth c Q ls A S hkx hl hD hS hA hret
  obtain ⟨hx, hb, hml, hown, hts⟩ := id S
  have hl : lv_has ls 3 [(0, .ref (r 0)), (1, .int t), (2, .int w)] := hl
  have k19 := hts (.fieldLink RX6 19 "SunsetDatesModel" "thrown" "I") (by decide +kernel)
  have iX6 : ∀ w ∈ wsX60, w ∈ wsX6_shim := by decide +kernel
  have hb2 := hwf.1
  obtain ⟨hr0, hr1, hr2, hr3, hrv, hrf, hru, hrs⟩ := id hr
  refine lv_aload_n hx hb dX6_shim_0 rfl (lv_at hl 0 rfl) ?_
  refine lv_aload_n hx hb dX6_shim_1 rfl (lv_at hl 0 rfl) ?_
  refine lv_iload_n hx hb dX6_shim_2 rfl (lv_at hl 1 rfl) ?_
  refine ro_V S hkx (mX6_isShim l (v := t) (hP := hP) (hwf := hwf) (hr := hr)) gX6_shim_X6_isShim rfl idX6_isShim ⟨Nat.le_of_ble_eq_true rfl, Nat.le_of_ble_eq_true rfl⟩ hP 0 rfl rfl rfl rfl hl.1 rfl (Nat.le_of_ble_eq_true rfl) dX6_shim_3 ⟨Nat.le_of_ble_eq_true rfl, Nat.le_of_ble_eq_true rfl⟩ (fun r_1 hr_1 => ?_)
  subst hr_1
  refine lv_if_ne (tgt := 13) hx hb dX6_shim_6 (by decide) (fun c_2 => ?_) (fun c_2 => ?_)
  · replace c_2 := bI_n0 c_2
    refine lv_iload_n hx hb dX6_shim_13 rfl (lv_at hl 2 rfl) ?_
    refine lv_iconst (v := 0) hx hb dX6_shim_14 (by decide) ?_
    refine lv_iconst (v := 4) hx hb dX6_shim_15 (by decide) ?_
    refine ro_S S hkx (mX6_in l (v := w) (x := 0) (z := 4)) gX6_shim_X6_in rfl idX6_in.2 ⟨Nat.le_of_ble_eq_true rfl, Nat.le_of_ble_eq_true rfl⟩ rfl hl.1 rfl (Nat.le_of_ble_eq_true rfl) dX6_shim_16 ⟨Nat.le_of_ble_eq_true rfl, Nat.le_of_ble_eq_true rfl⟩ (fun r_3 hr_3 => ?_)
    subst hr_3
    refine lv_if_ne (tgt := 26) hx hb dX6_shim_19 (by decide) (fun c_4 => ?_) (fun c_4 => ?_)
    · replace c_4 := bI_n0 c_4
      obtain ⟨k1, hk1, rfl⟩ := isT_nat (i := t) (n := N 3) (by omega) (by assumption)
      obtain ⟨k2, hk2a, hk2, rfl⟩ := isW_nat (v := w) (a := 0) (b := 4) (by assumption)
      have ek1 : tn (nI k1) = k1 := nI_clamp (by omega)
      have ek2 : tn (nI k2) = k2 := nI_clamp (by omega)
      refine lv_iconst (v := 0) hx hb dX6_shim_26 (by decide) ?_
      refine va_put (D := G) (ci := 6) (v := .int 0) (ty := .int) (C := RX6) (T := TX6) (N := 14) hx hb hts iX6 tyX6 tyX6_ok nmX6 hown hkx.1 hP hD hS 0 rfl rfl 1 (by decide) k19 (fun _ h9 => h9) rfl (by decide +kernel) rfl rfl (Nat.le_of_ble_eq_true rfl) dX6_shim_27 (fun H locs hP hD hS => ?_)
      have hP : va_P G vwCl (wMod T r mm pp xx 0 sv n1 ac ea le v1 v2 v3 v4 v5) H := hP
      have hD : va_D A (wMod T r mm pp xx 0 sv n1 ac ea le v1 v2 v3 v4 v5) := hD
      refine lv_aload_n hx hb dX6_shim_30 rfl (lv_at hl 0 rfl) ?_
      refine va_get (D := G) (ci := 6) (C := RX6) (T := TX6) (N := 14) hx hb hts iX6 hown hkx.1 hP 0 rfl rfl 1 (by decide) k19 (fun _ h9 => h9) rfl dX6_shim_31 ?_
      refine lv_if_le (tgt := 41) hx hb dX6_shim_34 (by decide) (fun c_5 => ?_) (fun c_5 => ?_)
      · replace c_5 := cn_le (a := 0) (b := 0) (by omega) (by omega) c_5
        refine lv_aload_n hx hb dX6_shim_41 rfl (lv_at hl 0 rfl) ?_
        refine lv_iload_n hx hb dX6_shim_42 rfl (lv_at hl 1 rfl) ?_
        refine lv_iload_n hx hb dX6_shim_43 rfl (lv_at hl 2 rfl) ?_
        refine ro_V S hkx (mX6_ofShim l (t := k1) (w := k2) (hP := hP) (hwf := hwf) (hr := hr) (ht := (by omega)) (hw := (by omega))) gX6_shim_X6_ofShim rfl idX6_ofShim ⟨Nat.le_of_ble_eq_true rfl, Nat.le_of_ble_eq_true rfl⟩ hP 0 rfl rfl rfl rfl hl.1 rfl (Nat.le_of_ble_eq_true rfl) dX6_shim_44 ⟨Nat.le_of_ble_eq_true rfl, Nat.le_of_ble_eq_true rfl⟩ (fun r_6 hr_6 => ?_)
        subst hr_6
        exact hret _ _ _ _ _ (show mPost G (sq (thF (nI k1) (nI (N 3))) (wiF (nI k2) 0 4)) (Z (11 + tn (nI k2)) (tn (nI k1))) (wMod T r mm pp xx 0 sv n1 ac ea le v1 v2 v3 v4 v5) (wMod T r mm pp xx (cmI (sq (thF (nI k1) (nI (N 3))) (wiF (nI k2) 0 4))) sv n1 ac ea le v1 v2 v3 v4 v5) (some (Value.int (Z (11 + k2) k1))) H from ⟨_, rfl, Or.inl ⟨by simp [sq, thF, wiF, seF, dyF, poF, rfF, bI, *], by first | rfl | (simp only [ek1, ek2]; done) | (simp only [ek1, ek2]; rfl), by exact hP⟩⟩) rfl hS dX6_shim_47
      · replace c_5 := cn_nle (a := 0) (b := 0) (by omega) (by omega) c_5
        exact absurd c_5 (by decide)
    · replace c_4 := bI_e0 c_4
      refine lv_iconst (v := 2) hx hb dX6_shim_22 (by decide) ?_
      refine lv_goto (tgt := 27) hx hb dX6_shim_23 (by decide) ?_
      refine va_put (D := G) (ci := 6) (v := .int 2) (ty := .int) (C := RX6) (T := TX6) (N := 14) hx hb hts iX6 tyX6 tyX6_ok nmX6 hown hkx.1 hP hD hS 0 rfl rfl 1 (by decide) k19 (fun _ h9 => h9) rfl (by decide +kernel) rfl rfl (Nat.le_of_ble_eq_true rfl) dX6_shim_27 (fun H locs hP hD hS => ?_)
      have hP : va_P G vwCl (wMod T r mm pp xx 2 sv n1 ac ea le v1 v2 v3 v4 v5) H := hP
      have hD : va_D A (wMod T r mm pp xx 2 sv n1 ac ea le v1 v2 v3 v4 v5) := hD
      refine lv_aload_n hx hb dX6_shim_30 rfl (lv_at hl 0 rfl) ?_
      refine va_get (D := G) (ci := 6) (C := RX6) (T := TX6) (N := 14) hx hb hts iX6 hown hkx.1 hP 0 rfl rfl 1 (by decide) k19 (fun _ h9 => h9) rfl dX6_shim_31 ?_
      refine lv_if_le (tgt := 41) hx hb dX6_shim_34 (by decide) (fun c_7 => ?_) (fun c_7 => ?_)
      · replace c_7 := cn_le (a := 2) (b := 0) (by omega) (by omega) c_7
        exact absurd c_7 (by decide)
      · replace c_7 := cn_nle (a := 2) (b := 0) (by omega) (by omega) c_7
        refine lv_iconst (v := 0) hx hb dX6_shim_37 (by decide) ?_
        refine lv_goto (tgt := 47) hx hb dX6_shim_38 (by decide) ?_
        exact hret _ _ _ _ _ (show mPost G (sq (thF t (nI (N 3))) (wiF w 0 4)) (Z (11 + tn w) (tn t)) (wMod T r mm pp xx 0 sv n1 ac ea le v1 v2 v3 v4 v5) (wMod T r mm pp xx (cmI (sq (thF t (nI (N 3))) (wiF w 0 4))) sv n1 ac ea le v1 v2 v3 v4 v5) (some (Value.int 0)) H from ⟨_, rfl, Or.inr ⟨by simp [sq, thF, wiF, seF, dyF, poF, rfF, bI, *], by rw [show (cmI (sq (thF t (nI (N 3))) (wiF w 0 4))) = 2 by simp [sq, thF, wiF, seF, dyF, poF, rfF, bI, cmI, cmA, cmB, cmS, nIl1, nIl2, nIl3, *]]; exact hP⟩⟩) rfl hS dX6_shim_47
  · replace c_2 := bI_e0 c_2
    refine lv_iconst (v := 1) hx hb dX6_shim_9 (by decide) ?_
    refine lv_goto (tgt := 27) hx hb dX6_shim_10 (by decide) ?_
    refine va_put (D := G) (ci := 6) (v := .int 1) (ty := .int) (C := RX6) (T := TX6) (N := 14) hx hb hts iX6 tyX6 tyX6_ok nmX6 hown hkx.1 hP hD hS 0 rfl rfl 1 (by decide) k19 (fun _ h9 => h9) rfl (by decide +kernel) rfl rfl (Nat.le_of_ble_eq_true rfl) dX6_shim_27 (fun H locs hP hD hS => ?_)
    have hP : va_P G vwCl (wMod T r mm pp xx 1 sv n1 ac ea le v1 v2 v3 v4 v5) H := hP
    have hD : va_D A (wMod T r mm pp xx 1 sv n1 ac ea le v1 v2 v3 v4 v5) := hD
    refine lv_aload_n hx hb dX6_shim_30 rfl (lv_at hl 0 rfl) ?_
    refine va_get (D := G) (ci := 6) (C := RX6) (T := TX6) (N := 14) hx hb hts iX6 hown hkx.1 hP 0 rfl rfl 1 (by decide) k19 (fun _ h9 => h9) rfl dX6_shim_31 ?_
    refine lv_if_le (tgt := 41) hx hb dX6_shim_34 (by decide) (fun c_8 => ?_) (fun c_8 => ?_)
    · replace c_8 := cn_le (a := 1) (b := 0) (by omega) (by omega) c_8
      exact absurd c_8 (by decide)
    · replace c_8 := cn_nle (a := 1) (b := 0) (by omega) (by omega) c_8
      refine lv_iconst (v := 0) hx hb dX6_shim_37 (by decide) ?_
      refine lv_goto (tgt := 47) hx hb dX6_shim_38 (by decide) ?_
      exact hret _ _ _ _ _ (show mPost G (sq (thF t (nI (N 3))) (wiF w 0 4)) (Z (11 + tn w) (tn t)) (wMod T r mm pp xx 0 sv n1 ac ea le v1 v2 v3 v4 v5) (wMod T r mm pp xx (cmI (sq (thF t (nI (N 3))) (wiF w 0 4))) sv n1 ac ea le v1 v2 v3 v4 v5) (some (Value.int 0)) H from ⟨_, rfl, Or.inr ⟨by simp [sq, thF, wiF, seF, dyF, poF, rfF, bI, *], by rw [show (cmI (sq (thF t (nI (N 3))) (wiF w 0 4))) = 1 by simp [sq, thF, wiF, seF, dyF, poF, rfF, bI, cmI, cmA, cmB, cmS, nIl1, nIl2, nIl3, *]]; exact hP⟩⟩) rfl hS dX6_shim_47

theorem idX6_versionOn : yX6_versionOn.cls = RX6 ∧ yX6_versionOn.cls ≠ "java/lang/invoke/MethodHandle" ∧ yX6_versionOn.cls ≠ "java/lang/invoke/VarHandle" ∧ (parseMethodDescriptor yX6_versionOn.desc).map (fun d => d.parameters.length) = some 2 := by decide +kernel

set_option maxHeartbeats 4000000 in
set_option maxRecDepth 100000 in
theorem mX6_versionOn (l : Launch) {G : va_G} {T : Nat → ClassId} {H0 : Heap} {r : Nat → Nat} {N : Nat → Nat} {Z : Nat → Nat → Int32} {mm : Nat → Int32} {pp : Nat → Int32} {xx : Nat → Int32} {th : Int32} {sv : Nat} {n1 : Nat} {ac : Int32} {ea : Int32} {le : Int32} {v1 : Int32} {v2 : Int32} {v3 : Int32} {v4 : Int32} {v5 : Int32} {u : Int32} {d : Int32} (hP : va_P G vwCl (wMod T r mm pp xx th sv n1 ac ea le v1 v2 v3 v4 v5) H0) (hD : va_D (fun _ => True) (wMod T r mm pp xx th sv n1 ac ea le v1 v2 v3 v4 v5)) (hwf : wf N Z) (hr : rel N Z mm) : mu l yX6_versionOn wsX6_versionOn 2 44 [.ref (r 0), .int u, .int d] G T H0 (wMod T r mm pp xx th sv n1 ac ea le v1 v2 v3 v4 v5) (mPost G (sq (thF u (nI (N 2))) (dyF d)) (nI (onN Z (tn u) d)) (wMod T r mm pp xx 0 sv n1 ac ea le v1 v2 v3 v4 v5) (wMod T r mm pp xx (cmI (sq (thF u (nI (N 2))) (dyF d))) sv n1 ac ea le v1 v2 v3 v4 v5)) := by
  refine mu_ofi (cc := cX6_versionOn) (maxL := 3) (ret := .int) (own := RX6) (by decide +kernel) rfl rfl (Nat.le_of_ble_eq_true rfl) hD ?_
  intro p e s m below meth c Q ls A S hkx hl hD hS hA hret
  obtain ⟨hx, hb, hml, hown, hts⟩ := id S
  have hl : lv_has ls 3 [(0, .ref (r 0)), (1, .int u), (2, .int d)] := hl
  have k19 := hts (.fieldLink RX6 19 "SunsetDatesModel" "thrown" "I") (by decide +kernel)
  have iX6 : ∀ w ∈ wsX60, w ∈ wsX6_versionOn := by decide +kernel
  have hb2 := hwf.1
  obtain ⟨hr0, hr1, hr2, hr3, hrv, hrf, hru, hrs⟩ := id hr
  refine lv_aload_n hx hb dX6_versionOn_0 rfl (lv_at hl 0 rfl) ?_
  refine lv_aload_n hx hb dX6_versionOn_1 rfl (lv_at hl 0 rfl) ?_
  refine lv_iload_n hx hb dX6_versionOn_2 rfl (lv_at hl 1 rfl) ?_
  refine ro_V S hkx (mX6_isUser l (v := u) (hP := hP) (hwf := hwf) (hr := hr)) gX6_versionOn_X6_isUser rfl idX6_isUser ⟨Nat.le_of_ble_eq_true rfl, Nat.le_of_ble_eq_true rfl⟩ hP 0 rfl rfl rfl rfl hl.1 rfl (Nat.le_of_ble_eq_true rfl) dX6_versionOn_3 ⟨Nat.le_of_ble_eq_true rfl, Nat.le_of_ble_eq_true rfl⟩ (fun r_1 hr_1 => ?_)
  subst hr_1
  refine lv_if_ne (tgt := 13) hx hb dX6_versionOn_6 (by decide) (fun c_2 => ?_) (fun c_2 => ?_)
  · replace c_2 := bI_n0 c_2
    refine lv_iload_n hx hb dX6_versionOn_13 rfl (lv_at hl 2 rfl) ?_
    refine ro_S S hkx (mX6_isDay l (d := d)) gX6_versionOn_X6_isDay rfl idX6_isDay.2 ⟨Nat.le_of_ble_eq_true rfl, Nat.le_of_ble_eq_true rfl⟩ rfl hl.1 rfl (Nat.le_of_ble_eq_true rfl) dX6_versionOn_14 ⟨Nat.le_of_ble_eq_true rfl, Nat.le_of_ble_eq_true rfl⟩ (fun r_3 hr_3 => ?_)
    subst hr_3
    refine lv_if_ne (tgt := 24) hx hb dX6_versionOn_17 (by decide) (fun c_4 => ?_) (fun c_4 => ?_)
    · replace c_4 := bI_n0 c_4
      obtain ⟨k1, hk1, rfl⟩ := isT_nat (i := u) (n := N 2) (by omega) (by assumption)
      have ek1 : tn (nI k1) = k1 := nI_clamp (by omega)
      refine lv_iconst (v := 0) hx hb dX6_versionOn_24 (by decide) ?_
      refine va_put (D := G) (ci := 6) (v := .int 0) (ty := .int) (C := RX6) (T := TX6) (N := 14) hx hb hts iX6 tyX6 tyX6_ok nmX6 hown hkx.1 hP hD hS 0 rfl rfl 1 (by decide) k19 (fun _ h9 => h9) rfl (by decide +kernel) rfl rfl (Nat.le_of_ble_eq_true rfl) dX6_versionOn_25 (fun H locs hP hD hS => ?_)
      have hP : va_P G vwCl (wMod T r mm pp xx 0 sv n1 ac ea le v1 v2 v3 v4 v5) H := hP
      have hD : va_D A (wMod T r mm pp xx 0 sv n1 ac ea le v1 v2 v3 v4 v5) := hD
      refine lv_aload_n hx hb dX6_versionOn_28 rfl (lv_at hl 0 rfl) ?_
      refine va_get (D := G) (ci := 6) (C := RX6) (T := TX6) (N := 14) hx hb hts iX6 hown hkx.1 hP 0 rfl rfl 1 (by decide) k19 (fun _ h9 => h9) rfl dX6_versionOn_29 ?_
      refine lv_if_le (tgt := 39) hx hb dX6_versionOn_32 (by decide) (fun c_5 => ?_) (fun c_5 => ?_)
      · replace c_5 := cn_le (a := 0) (b := 0) (by omega) (by omega) c_5
        refine lv_aload_n hx hb dX6_versionOn_39 rfl (lv_at hl 0 rfl) ?_
        refine lv_iload_n hx hb dX6_versionOn_40 rfl (lv_at hl 1 rfl) ?_
        refine lv_iload_n hx hb dX6_versionOn_41 rfl (lv_at hl 2 rfl) ?_
        refine ro_V S hkx (mX6_on l (u := k1) (d := d) (hP := hP) (hwf := hwf) (hr := hr) (hu := (by omega))) gX6_versionOn_X6_on rfl idX6_on ⟨Nat.le_of_ble_eq_true rfl, Nat.le_of_ble_eq_true rfl⟩ hP 0 rfl rfl rfl rfl hl.1 rfl (Nat.le_of_ble_eq_true rfl) dX6_versionOn_42 ⟨Nat.le_of_ble_eq_true rfl, Nat.le_of_ble_eq_true rfl⟩ (fun r_6 hr_6 => ?_)
        subst hr_6
        have ho := (on_spec hwf (show k1 < N 2 by omega) d).2
        exact hret _ _ _ _ _ (show mPost G (sq (thF (nI k1) (nI (N 2))) (dyF d)) (nI (onN Z (tn (nI k1)) d)) (wMod T r mm pp xx 0 sv n1 ac ea le v1 v2 v3 v4 v5) (wMod T r mm pp xx (cmI (sq (thF (nI k1) (nI (N 2))) (dyF d))) sv n1 ac ea le v1 v2 v3 v4 v5) (some (Value.int (nI (onN Z k1 d)))) H from ⟨_, rfl, Or.inl ⟨by simp [sq, thF, wiF, seF, dyF, poF, rfF, bI, *], by first | rfl | (simp only [ek1]; done) | (simp only [ek1]; rfl), by exact hP⟩⟩) rfl hS dX6_versionOn_45
      · replace c_5 := cn_nle (a := 0) (b := 0) (by omega) (by omega) c_5
        exact absurd c_5 (by decide)
    · replace c_4 := bI_e0 c_4
      refine lv_iconst (v := 2) hx hb dX6_versionOn_20 (by decide) ?_
      refine lv_goto (tgt := 25) hx hb dX6_versionOn_21 (by decide) ?_
      refine va_put (D := G) (ci := 6) (v := .int 2) (ty := .int) (C := RX6) (T := TX6) (N := 14) hx hb hts iX6 tyX6 tyX6_ok nmX6 hown hkx.1 hP hD hS 0 rfl rfl 1 (by decide) k19 (fun _ h9 => h9) rfl (by decide +kernel) rfl rfl (Nat.le_of_ble_eq_true rfl) dX6_versionOn_25 (fun H locs hP hD hS => ?_)
      have hP : va_P G vwCl (wMod T r mm pp xx 2 sv n1 ac ea le v1 v2 v3 v4 v5) H := hP
      have hD : va_D A (wMod T r mm pp xx 2 sv n1 ac ea le v1 v2 v3 v4 v5) := hD
      refine lv_aload_n hx hb dX6_versionOn_28 rfl (lv_at hl 0 rfl) ?_
      refine va_get (D := G) (ci := 6) (C := RX6) (T := TX6) (N := 14) hx hb hts iX6 hown hkx.1 hP 0 rfl rfl 1 (by decide) k19 (fun _ h9 => h9) rfl dX6_versionOn_29 ?_
      refine lv_if_le (tgt := 39) hx hb dX6_versionOn_32 (by decide) (fun c_7 => ?_) (fun c_7 => ?_)
      · replace c_7 := cn_le (a := 2) (b := 0) (by omega) (by omega) c_7
        exact absurd c_7 (by decide)
      · replace c_7 := cn_nle (a := 2) (b := 0) (by omega) (by omega) c_7
        refine lv_iconst (v := 0) hx hb dX6_versionOn_35 (by decide) ?_
        refine lv_goto (tgt := 45) hx hb dX6_versionOn_36 (by decide) ?_
        exact hret _ _ _ _ _ (show mPost G (sq (thF u (nI (N 2))) (dyF d)) (nI (onN Z (tn u) d)) (wMod T r mm pp xx 0 sv n1 ac ea le v1 v2 v3 v4 v5) (wMod T r mm pp xx (cmI (sq (thF u (nI (N 2))) (dyF d))) sv n1 ac ea le v1 v2 v3 v4 v5) (some (Value.int 0)) H from ⟨_, rfl, Or.inr ⟨by simp [sq, thF, wiF, seF, dyF, poF, rfF, bI, *], by rw [show (cmI (sq (thF u (nI (N 2))) (dyF d))) = 2 by simp [sq, thF, wiF, seF, dyF, poF, rfF, bI, cmI, cmA, cmB, cmS, nIl1, nIl2, nIl3, *]]; exact hP⟩⟩) rfl hS dX6_versionOn_45
  · replace c_2 := bI_e0 c_2
    refine lv_iconst (v := 1) hx hb dX6_versionOn_9 (by decide) ?_
    refine lv_goto (tgt := 25) hx hb dX6_versionOn_10 (by decide) ?_
    refine va_put (D := G) (ci := 6) (v := .int 1) (ty := .int) (C := RX6) (T := TX6) (N := 14) hx hb hts iX6 tyX6 tyX6_ok nmX6 hown hkx.1 hP hD hS 0 rfl rfl 1 (by decide) k19 (fun _ h9 => h9) rfl (by decide +kernel) rfl rfl (Nat.le_of_ble_eq_true rfl) dX6_versionOn_25 (fun H locs hP hD hS => ?_)
    have hP : va_P G vwCl (wMod T r mm pp xx 1 sv n1 ac ea le v1 v2 v3 v4 v5) H := hP
    have hD : va_D A (wMod T r mm pp xx 1 sv n1 ac ea le v1 v2 v3 v4 v5) := hD
    refine lv_aload_n hx hb dX6_versionOn_28 rfl (lv_at hl 0 rfl) ?_
    refine va_get (D := G) (ci := 6) (C := RX6) (T := TX6) (N := 14) hx hb hts iX6 hown hkx.1 hP 0 rfl rfl 1 (by decide) k19 (fun _ h9 => h9) rfl dX6_versionOn_29 ?_
    refine lv_if_le (tgt := 39) hx hb dX6_versionOn_32 (by decide) (fun c_8 => ?_) (fun c_8 => ?_)
    · replace c_8 := cn_le (a := 1) (b := 0) (by omega) (by omega) c_8
      exact absurd c_8 (by decide)
    · replace c_8 := cn_nle (a := 1) (b := 0) (by omega) (by omega) c_8
      refine lv_iconst (v := 0) hx hb dX6_versionOn_35 (by decide) ?_
      refine lv_goto (tgt := 45) hx hb dX6_versionOn_36 (by decide) ?_
      exact hret _ _ _ _ _ (show mPost G (sq (thF u (nI (N 2))) (dyF d)) (nI (onN Z (tn u) d)) (wMod T r mm pp xx 0 sv n1 ac ea le v1 v2 v3 v4 v5) (wMod T r mm pp xx (cmI (sq (thF u (nI (N 2))) (dyF d))) sv n1 ac ea le v1 v2 v3 v4 v5) (some (Value.int 0)) H from ⟨_, rfl, Or.inr ⟨by simp [sq, thF, wiF, seF, dyF, poF, rfF, bI, *], by rw [show (cmI (sq (thF u (nI (N 2))) (dyF d))) = 1 by simp [sq, thF, wiF, seF, dyF, poF, rfF, bI, cmI, cmA, cmB, cmS, nIl1, nIl2, nIl3, *]]; exact hP⟩⟩) rfl hS dX6_versionOn_45

theorem idX6_missing : yX6_missing.cls = RX6 ∧ yX6_missing.cls ≠ "java/lang/invoke/MethodHandle" ∧ yX6_missing.cls ≠ "java/lang/invoke/VarHandle" ∧ (parseMethodDescriptor yX6_missing.desc).map (fun d => d.parameters.length) = some 2 := by decide +kernel

set_option maxHeartbeats 4000000 in
set_option maxRecDepth 100000 in
theorem mX6_missing (l : Launch) {G : va_G} {T : Nat → ClassId} {H0 : Heap} {r : Nat → Nat} {N : Nat → Nat} {Z : Nat → Nat → Int32} {mm : Nat → Int32} {pp : Nat → Int32} {xx : Nat → Int32} {th : Int32} {sv : Nat} {n1 : Nat} {ac : Int32} {ea : Int32} {le : Int32} {v1 : Int32} {v2 : Int32} {v3 : Int32} {v4 : Int32} {v5 : Int32} {u : Int32} {d : Int32} (hP : va_P G vwCl (wMod T r mm pp xx th sv n1 ac ea le v1 v2 v3 v4 v5) H0) (hD : va_D (fun _ => True) (wMod T r mm pp xx th sv n1 ac ea le v1 v2 v3 v4 v5)) (hwf : wf N Z) (hr : rel N Z mm) : mu l yX6_missing wsX6_missing 4 96 [.ref (r 0), .int u, .int d] G T H0 (wMod T r mm pp xx th sv n1 ac ea le v1 v2 v3 v4 v5) (mPost G (sq (thF u (nI (N 2))) (dyF d)) (unU N Z (tn u) d) (wMod T r mm pp xx 0 sv n1 ac ea le v1 v2 v3 v4 v5) (wMod T r mm pp xx (cmI (sq (thF u (nI (N 2))) (dyF d))) sv n1 ac ea le v1 v2 v3 v4 v5)) := by
  refine mu_ofi (cc := cX6_missing) (maxL := 3) (ret := .int) (own := RX6) (by decide +kernel) rfl rfl (Nat.le_of_ble_eq_true rfl) hD ?_
  intro p e s m below meth c Q ls A S hkx hl hD hS hA hret
  obtain ⟨hx, hb, hml, hown, hts⟩ := id S
  have hl : lv_has ls 3 [(0, .ref (r 0)), (1, .int u), (2, .int d)] := hl
  have k19 := hts (.fieldLink RX6 19 "SunsetDatesModel" "thrown" "I") (by decide +kernel)
  have iX6 : ∀ w ∈ wsX60, w ∈ wsX6_missing := by decide +kernel
  have hb2 := hwf.1
  obtain ⟨hr0, hr1, hr2, hr3, hrv, hrf, hru, hrs⟩ := id hr
  refine lv_aload_n hx hb dX6_missing_0 rfl (lv_at hl 0 rfl) ?_
  refine lv_aload_n hx hb dX6_missing_1 rfl (lv_at hl 0 rfl) ?_
  refine lv_iload_n hx hb dX6_missing_2 rfl (lv_at hl 1 rfl) ?_
  refine ro_V S hkx (mX6_isUser l (v := u) (hP := hP) (hwf := hwf) (hr := hr)) gX6_missing_X6_isUser rfl idX6_isUser ⟨Nat.le_of_ble_eq_true rfl, Nat.le_of_ble_eq_true rfl⟩ hP 0 rfl rfl rfl rfl hl.1 rfl (Nat.le_of_ble_eq_true rfl) dX6_missing_3 ⟨Nat.le_of_ble_eq_true rfl, Nat.le_of_ble_eq_true rfl⟩ (fun r_1 hr_1 => ?_)
  subst hr_1
  refine lv_if_ne (tgt := 13) hx hb dX6_missing_6 (by decide) (fun c_2 => ?_) (fun c_2 => ?_)
  · replace c_2 := bI_n0 c_2
    refine lv_iload_n hx hb dX6_missing_13 rfl (lv_at hl 2 rfl) ?_
    refine ro_S S hkx (mX6_isDay l (d := d)) gX6_missing_X6_isDay rfl idX6_isDay.2 ⟨Nat.le_of_ble_eq_true rfl, Nat.le_of_ble_eq_true rfl⟩ rfl hl.1 rfl (Nat.le_of_ble_eq_true rfl) dX6_missing_14 ⟨Nat.le_of_ble_eq_true rfl, Nat.le_of_ble_eq_true rfl⟩ (fun r_3 hr_3 => ?_)
    subst hr_3
    refine lv_if_ne (tgt := 24) hx hb dX6_missing_17 (by decide) (fun c_4 => ?_) (fun c_4 => ?_)
    · replace c_4 := bI_n0 c_4
      obtain ⟨k1, hk1, rfl⟩ := isT_nat (i := u) (n := N 2) (by omega) (by assumption)
      have ek1 : tn (nI k1) = k1 := nI_clamp (by omega)
      refine lv_iconst (v := 0) hx hb dX6_missing_24 (by decide) ?_
      refine va_put (D := G) (ci := 6) (v := .int 0) (ty := .int) (C := RX6) (T := TX6) (N := 14) hx hb hts iX6 tyX6 tyX6_ok nmX6 hown hkx.1 hP hD hS 0 rfl rfl 1 (by decide) k19 (fun _ h9 => h9) rfl (by decide +kernel) rfl rfl (Nat.le_of_ble_eq_true rfl) dX6_missing_25 (fun H locs hP hD hS => ?_)
      have hP : va_P G vwCl (wMod T r mm pp xx 0 sv n1 ac ea le v1 v2 v3 v4 v5) H := hP
      have hD : va_D A (wMod T r mm pp xx 0 sv n1 ac ea le v1 v2 v3 v4 v5) := hD
      refine lv_aload_n hx hb dX6_missing_28 rfl (lv_at hl 0 rfl) ?_
      refine va_get (D := G) (ci := 6) (C := RX6) (T := TX6) (N := 14) hx hb hts iX6 hown hkx.1 hP 0 rfl rfl 1 (by decide) k19 (fun _ h9 => h9) rfl dX6_missing_29 ?_
      refine lv_if_le (tgt := 39) hx hb dX6_missing_32 (by decide) (fun c_5 => ?_) (fun c_5 => ?_)
      · replace c_5 := cn_le (a := 0) (b := 0) (by omega) (by omega) c_5
        refine lv_aload_n hx hb dX6_missing_39 rfl (lv_at hl 0 rfl) ?_
        refine lv_iload_n hx hb dX6_missing_40 rfl (lv_at hl 1 rfl) ?_
        refine lv_aload_n hx hb dX6_missing_41 rfl (lv_at hl 0 rfl) ?_
        refine lv_iload_n hx hb dX6_missing_42 rfl (lv_at hl 1 rfl) ?_
        refine lv_iload_n hx hb dX6_missing_43 rfl (lv_at hl 2 rfl) ?_
        refine ro_V S hkx (mX6_on l (u := k1) (d := d) (hP := hP) (hwf := hwf) (hr := hr) (hu := (by omega))) gX6_missing_X6_on rfl idX6_on ⟨Nat.le_of_ble_eq_true rfl, Nat.le_of_ble_eq_true rfl⟩ hP 0 rfl rfl rfl rfl hl.1 rfl (Nat.le_of_ble_eq_true rfl) dX6_missing_44 ⟨Nat.le_of_ble_eq_true rfl, Nat.le_of_ble_eq_true rfl⟩ (fun r_6 hr_6 => ?_)
        subst hr_6
        have ho := (on_spec hwf (show k1 < N 2 by omega) d).2
        refine lv_iload_n hx hb dX6_missing_47 rfl (lv_at hl 2 rfl) ?_
        refine ro_V S hkx (mX6_missingOn l (u := k1) (v := (onN Z k1 d)) (d := d) (hP := hP) (hwf := hwf) (hr := hr) (hu := (by omega)) (hv := (by omega))) gX6_missing_X6_missingOn rfl idX6_missingOn ⟨Nat.le_of_ble_eq_true rfl, Nat.le_of_ble_eq_true rfl⟩ hP 0 rfl rfl rfl rfl hl.1 rfl (Nat.le_of_ble_eq_true rfl) dX6_missing_48 ⟨Nat.le_of_ble_eq_true rfl, Nat.le_of_ble_eq_true rfl⟩ (fun r_7 hr_7 => ?_)
        subst hr_7
        exact hret _ _ _ _ _ (show mPost G (sq (thF (nI k1) (nI (N 2))) (dyF d)) (unU N Z (tn (nI k1)) d) (wMod T r mm pp xx 0 sv n1 ac ea le v1 v2 v3 v4 v5) (wMod T r mm pp xx (cmI (sq (thF (nI k1) (nI (N 2))) (dyF d))) sv n1 ac ea le v1 v2 v3 v4 v5) (some (Value.int (uns N Z (Z 6 k1) (onN Z k1 d) d))) H from ⟨_, rfl, Or.inl ⟨by simp [sq, thF, wiF, seF, dyF, poF, rfF, bI, *], by first | rfl | (simp only [ek1]; done) | (simp only [ek1]; rfl), by exact hP⟩⟩) rfl hS dX6_missing_51
      · replace c_5 := cn_nle (a := 0) (b := 0) (by omega) (by omega) c_5
        exact absurd c_5 (by decide)
    · replace c_4 := bI_e0 c_4
      refine lv_iconst (v := 2) hx hb dX6_missing_20 (by decide) ?_
      refine lv_goto (tgt := 25) hx hb dX6_missing_21 (by decide) ?_
      refine va_put (D := G) (ci := 6) (v := .int 2) (ty := .int) (C := RX6) (T := TX6) (N := 14) hx hb hts iX6 tyX6 tyX6_ok nmX6 hown hkx.1 hP hD hS 0 rfl rfl 1 (by decide) k19 (fun _ h9 => h9) rfl (by decide +kernel) rfl rfl (Nat.le_of_ble_eq_true rfl) dX6_missing_25 (fun H locs hP hD hS => ?_)
      have hP : va_P G vwCl (wMod T r mm pp xx 2 sv n1 ac ea le v1 v2 v3 v4 v5) H := hP
      have hD : va_D A (wMod T r mm pp xx 2 sv n1 ac ea le v1 v2 v3 v4 v5) := hD
      refine lv_aload_n hx hb dX6_missing_28 rfl (lv_at hl 0 rfl) ?_
      refine va_get (D := G) (ci := 6) (C := RX6) (T := TX6) (N := 14) hx hb hts iX6 hown hkx.1 hP 0 rfl rfl 1 (by decide) k19 (fun _ h9 => h9) rfl dX6_missing_29 ?_
      refine lv_if_le (tgt := 39) hx hb dX6_missing_32 (by decide) (fun c_8 => ?_) (fun c_8 => ?_)
      · replace c_8 := cn_le (a := 2) (b := 0) (by omega) (by omega) c_8
        exact absurd c_8 (by decide)
      · replace c_8 := cn_nle (a := 2) (b := 0) (by omega) (by omega) c_8
        refine lv_iconst (v := 0) hx hb dX6_missing_35 (by decide) ?_
        refine lv_goto (tgt := 51) hx hb dX6_missing_36 (by decide) ?_
        exact hret _ _ _ _ _ (show mPost G (sq (thF u (nI (N 2))) (dyF d)) (unU N Z (tn u) d) (wMod T r mm pp xx 0 sv n1 ac ea le v1 v2 v3 v4 v5) (wMod T r mm pp xx (cmI (sq (thF u (nI (N 2))) (dyF d))) sv n1 ac ea le v1 v2 v3 v4 v5) (some (Value.int 0)) H from ⟨_, rfl, Or.inr ⟨by simp [sq, thF, wiF, seF, dyF, poF, rfF, bI, *], by rw [show (cmI (sq (thF u (nI (N 2))) (dyF d))) = 2 by simp [sq, thF, wiF, seF, dyF, poF, rfF, bI, cmI, cmA, cmB, cmS, nIl1, nIl2, nIl3, *]]; exact hP⟩⟩) rfl hS dX6_missing_51
  · replace c_2 := bI_e0 c_2
    refine lv_iconst (v := 1) hx hb dX6_missing_9 (by decide) ?_
    refine lv_goto (tgt := 25) hx hb dX6_missing_10 (by decide) ?_
    refine va_put (D := G) (ci := 6) (v := .int 1) (ty := .int) (C := RX6) (T := TX6) (N := 14) hx hb hts iX6 tyX6 tyX6_ok nmX6 hown hkx.1 hP hD hS 0 rfl rfl 1 (by decide) k19 (fun _ h9 => h9) rfl (by decide +kernel) rfl rfl (Nat.le_of_ble_eq_true rfl) dX6_missing_25 (fun H locs hP hD hS => ?_)
    have hP : va_P G vwCl (wMod T r mm pp xx 1 sv n1 ac ea le v1 v2 v3 v4 v5) H := hP
    have hD : va_D A (wMod T r mm pp xx 1 sv n1 ac ea le v1 v2 v3 v4 v5) := hD
    refine lv_aload_n hx hb dX6_missing_28 rfl (lv_at hl 0 rfl) ?_
    refine va_get (D := G) (ci := 6) (C := RX6) (T := TX6) (N := 14) hx hb hts iX6 hown hkx.1 hP 0 rfl rfl 1 (by decide) k19 (fun _ h9 => h9) rfl dX6_missing_29 ?_
    refine lv_if_le (tgt := 39) hx hb dX6_missing_32 (by decide) (fun c_9 => ?_) (fun c_9 => ?_)
    · replace c_9 := cn_le (a := 1) (b := 0) (by omega) (by omega) c_9
      exact absurd c_9 (by decide)
    · replace c_9 := cn_nle (a := 1) (b := 0) (by omega) (by omega) c_9
      refine lv_iconst (v := 0) hx hb dX6_missing_35 (by decide) ?_
      refine lv_goto (tgt := 51) hx hb dX6_missing_36 (by decide) ?_
      exact hret _ _ _ _ _ (show mPost G (sq (thF u (nI (N 2))) (dyF d)) (unU N Z (tn u) d) (wMod T r mm pp xx 0 sv n1 ac ea le v1 v2 v3 v4 v5) (wMod T r mm pp xx (cmI (sq (thF u (nI (N 2))) (dyF d))) sv n1 ac ea le v1 v2 v3 v4 v5) (some (Value.int 0)) H from ⟨_, rfl, Or.inr ⟨by simp [sq, thF, wiF, seF, dyF, poF, rfF, bI, *], by rw [show (cmI (sq (thF u (nI (N 2))) (dyF d))) = 1 by simp [sq, thF, wiF, seF, dyF, poF, rfF, bI, cmI, cmA, cmB, cmS, nIl1, nIl2, nIl3, *]]; exact hP⟩⟩) rfl hS dX6_missing_51

theorem idX6_stranded : yX6_stranded.cls = RX6 ∧ yX6_stranded.cls ≠ "java/lang/invoke/MethodHandle" ∧ yX6_stranded.cls ≠ "java/lang/invoke/VarHandle" ∧ (parseMethodDescriptor yX6_stranded.desc).map (fun d => d.parameters.length) = some 1 := by decide +kernel

set_option maxHeartbeats 4000000 in
set_option maxRecDepth 100000 in
theorem mX6_stranded (l : Launch) {G : va_G} {T : Nat → ClassId} {H0 : Heap} {r : Nat → Nat} {N : Nat → Nat} {Z : Nat → Nat → Int32} {mm : Nat → Int32} {pp : Nat → Int32} {xx : Nat → Int32} {th : Int32} {sv : Nat} {n1 : Nat} {ac : Int32} {ea : Int32} {le : Int32} {v1 : Int32} {v2 : Int32} {v3 : Int32} {v4 : Int32} {v5 : Int32} {d : Int32} (hP : va_P G vwCl (wMod T r mm pp xx th sv n1 ac ea le v1 v2 v3 v4 v5) H0) (hD : va_D (fun _ => True) (wMod T r mm pp xx th sv n1 ac ea le v1 v2 v3 v4 v5)) (hwf : wf N Z) (hr : rel N Z mm) : mu l yX6_stranded wsX6_stranded 6 141 [.ref (r 0), .int d] G T H0 (wMod T r mm pp xx th sv n1 ac ea le v1 v2 v3 v4 v5) (mPost G (dyF d) (stU N Z d (N 2)) (wMod T r mm pp xx 0 sv n1 ac ea le v1 v2 v3 v4 v5) (wMod T r mm pp xx (cmA (dyF d)) sv n1 ac ea le v1 v2 v3 v4 v5)) := by
  refine mu_ofi (cc := cX6_stranded) (maxL := 2) (ret := .int) (own := RX6) (by decide +kernel) rfl rfl (Nat.le_of_ble_eq_true rfl) hD ?_
  intro p e s m below meth c Q ls A S hkx hl hD hS hA hret
  obtain ⟨hx, hb, hml, hown, hts⟩ := id S
  have hl : lv_has ls 2 [(0, .ref (r 0)), (1, .int d)] := hl
  have k19 := hts (.fieldLink RX6 19 "SunsetDatesModel" "thrown" "I") (by decide +kernel)
  have iX6 : ∀ w ∈ wsX60, w ∈ wsX6_stranded := by decide +kernel
  have hb2 := hwf.1
  obtain ⟨hr0, hr1, hr2, hr3, hrv, hrf, hru, hrs⟩ := id hr
  refine lv_aload_n hx hb dX6_stranded_0 rfl (lv_at hl 0 rfl) ?_
  refine lv_iload_n hx hb dX6_stranded_1 rfl (lv_at hl 1 rfl) ?_
  refine ro_S S hkx (mX6_isDay l (d := d)) gX6_stranded_X6_isDay rfl idX6_isDay.2 ⟨Nat.le_of_ble_eq_true rfl, Nat.le_of_ble_eq_true rfl⟩ rfl hl.1 rfl (Nat.le_of_ble_eq_true rfl) dX6_stranded_2 ⟨Nat.le_of_ble_eq_true rfl, Nat.le_of_ble_eq_true rfl⟩ (fun r_1 hr_1 => ?_)
  subst hr_1
  refine lv_if_eq (tgt := 12) hx hb dX6_stranded_5 (by decide) (fun c_2 => ?_) (fun c_2 => ?_)
  · replace c_2 := bI_e0 c_2
    refine lv_iconst (v := 1) hx hb dX6_stranded_12 (by decide) ?_
    refine va_put (D := G) (ci := 6) (v := .int 1) (ty := .int) (C := RX6) (T := TX6) (N := 14) hx hb hts iX6 tyX6 tyX6_ok nmX6 hown hkx.1 hP hD hS 0 rfl rfl 1 (by decide) k19 (fun _ h9 => h9) rfl (by decide +kernel) rfl rfl (Nat.le_of_ble_eq_true rfl) dX6_stranded_13 (fun H locs hP hD hS => ?_)
    have hP : va_P G vwCl (wMod T r mm pp xx 1 sv n1 ac ea le v1 v2 v3 v4 v5) H := hP
    have hD : va_D A (wMod T r mm pp xx 1 sv n1 ac ea le v1 v2 v3 v4 v5) := hD
    refine lv_aload_n hx hb dX6_stranded_16 rfl (lv_at hl 0 rfl) ?_
    refine va_get (D := G) (ci := 6) (C := RX6) (T := TX6) (N := 14) hx hb hts iX6 hown hkx.1 hP 0 rfl rfl 1 (by decide) k19 (fun _ h9 => h9) rfl dX6_stranded_17 ?_
    refine lv_if_le (tgt := 27) hx hb dX6_stranded_20 (by decide) (fun c_3 => ?_) (fun c_3 => ?_)
    · replace c_3 := cn_le (a := 1) (b := 0) (by omega) (by omega) c_3
      exact absurd c_3 (by decide)
    · replace c_3 := cn_nle (a := 1) (b := 0) (by omega) (by omega) c_3
      refine lv_iconst (v := 0) hx hb dX6_stranded_23 (by decide) ?_
      refine lv_goto (tgt := 32) hx hb dX6_stranded_24 (by decide) ?_
      exact hret _ _ _ _ _ (show mPost G (dyF d) (stU N Z d (N 2)) (wMod T r mm pp xx 0 sv n1 ac ea le v1 v2 v3 v4 v5) (wMod T r mm pp xx (cmA (dyF d)) sv n1 ac ea le v1 v2 v3 v4 v5) (some (Value.int 0)) H from ⟨_, rfl, Or.inr ⟨by simp [sq, thF, wiF, seF, dyF, poF, rfF, bI, *], by rw [show (cmA (dyF d)) = 1 by simp [sq, thF, wiF, seF, dyF, poF, rfF, bI, cmI, cmA, cmB, cmS, nIl1, nIl2, nIl3, *]]; exact hP⟩⟩) rfl hS dX6_stranded_32
  · replace c_2 := bI_n0 c_2
    refine lv_iconst (v := 0) hx hb dX6_stranded_8 (by decide) ?_
    refine lv_goto (tgt := 13) hx hb dX6_stranded_9 (by decide) ?_
    refine va_put (D := G) (ci := 6) (v := .int 0) (ty := .int) (C := RX6) (T := TX6) (N := 14) hx hb hts iX6 tyX6 tyX6_ok nmX6 hown hkx.1 hP hD hS 0 rfl rfl 1 (by decide) k19 (fun _ h9 => h9) rfl (by decide +kernel) rfl rfl (Nat.le_of_ble_eq_true rfl) dX6_stranded_13 (fun H locs hP hD hS => ?_)
    have hP : va_P G vwCl (wMod T r mm pp xx 0 sv n1 ac ea le v1 v2 v3 v4 v5) H := hP
    have hD : va_D A (wMod T r mm pp xx 0 sv n1 ac ea le v1 v2 v3 v4 v5) := hD
    refine lv_aload_n hx hb dX6_stranded_16 rfl (lv_at hl 0 rfl) ?_
    refine va_get (D := G) (ci := 6) (C := RX6) (T := TX6) (N := 14) hx hb hts iX6 hown hkx.1 hP 0 rfl rfl 1 (by decide) k19 (fun _ h9 => h9) rfl dX6_stranded_17 ?_
    refine lv_if_le (tgt := 27) hx hb dX6_stranded_20 (by decide) (fun c_4 => ?_) (fun c_4 => ?_)
    · replace c_4 := cn_le (a := 0) (b := 0) (by omega) (by omega) c_4
      refine lv_aload_n hx hb dX6_stranded_27 rfl (lv_at hl 0 rfl) ?_
      refine lv_iload_n hx hb dX6_stranded_28 rfl (lv_at hl 1 rfl) ?_
      refine ro_V S hkx (mX6_strandedOn l (d := d) (hP := hP) (hwf := hwf) (hr := hr)) gX6_stranded_X6_strandedOn rfl idX6_strandedOn ⟨Nat.le_of_ble_eq_true rfl, Nat.le_of_ble_eq_true rfl⟩ hP 0 rfl rfl rfl rfl hl.1 rfl (Nat.le_of_ble_eq_true rfl) dX6_stranded_29 ⟨Nat.le_of_ble_eq_true rfl, Nat.le_of_ble_eq_true rfl⟩ (fun r_5 hr_5 => ?_)
      subst hr_5
      exact hret _ _ _ _ _ (show mPost G (dyF d) (stU N Z d (N 2)) (wMod T r mm pp xx 0 sv n1 ac ea le v1 v2 v3 v4 v5) (wMod T r mm pp xx (cmA (dyF d)) sv n1 ac ea le v1 v2 v3 v4 v5) (some (Value.int (stU N Z d (N 2)))) H from ⟨_, rfl, Or.inl ⟨by simp [sq, thF, wiF, seF, dyF, poF, rfF, bI, *], by rfl, by exact hP⟩⟩) rfl hS dX6_stranded_32
    · replace c_4 := cn_nle (a := 0) (b := 0) (by omega) (by omega) c_4
      exact absurd c_4 (by decide)

theorem idX6_value : yX6_value.cls = RX6 ∧ yX6_value.cls ≠ "java/lang/invoke/MethodHandle" ∧ yX6_value.cls ≠ "java/lang/invoke/VarHandle" ∧ (parseMethodDescriptor yX6_value.desc).map (fun d => d.parameters.length) = some 1 := by decide +kernel

set_option maxHeartbeats 4000000 in
set_option maxRecDepth 100000 in
theorem mX6_value (l : Launch) {G : va_G} {T : Nat → ClassId} {H0 : Heap} {r : Nat → Nat} {N : Nat → Nat} {Z : Nat → Nat → Int32} {mm : Nat → Int32} {pp : Nat → Int32} {xx : Nat → Int32} {th : Int32} {sv : Nat} {n1 : Nat} {ac : Int32} {ea : Int32} {le : Int32} {v1 : Int32} {v2 : Int32} {v3 : Int32} {v4 : Int32} {v5 : Int32} {w : Int32} (hP : va_P G vwCl (wMod T r mm pp xx th sv n1 ac ea le v1 v2 v3 v4 v5) H0) (hD : va_D (fun _ => True) (wMod T r mm pp xx th sv n1 ac ea le v1 v2 v3 v4 v5)) (hwf : wf N Z) (hr : rel N Z mm) : mu l yX6_value wsX6_value 7 166 [.ref (r 0), .int w] G T H0 (wMod T r mm pp xx th sv n1 ac ea le v1 v2 v3 v4 v5) (mPost G (wiF w 0 7) (nmb N Z (tn w)) (wMod T r mm pp xx 0 sv n1 ac ea le v1 v2 v3 v4 v5) (wMod T r mm pp xx (cmA (wiF w 0 7)) sv n1 ac ea le v1 v2 v3 v4 v5)) := by
  refine mu_ofi (cc := cX6_value) (maxL := 2) (ret := .int) (own := RX6) (by decide +kernel) rfl rfl (Nat.le_of_ble_eq_true rfl) hD ?_
  intro p e s m below meth c Q ls A S hkx hl hD hS hA hret
  obtain ⟨hx, hb, hml, hown, hts⟩ := id S
  have hl : lv_has ls 2 [(0, .ref (r 0)), (1, .int w)] := hl
  have k19 := hts (.fieldLink RX6 19 "SunsetDatesModel" "thrown" "I") (by decide +kernel)
  have iX6 : ∀ w ∈ wsX60, w ∈ wsX6_value := by decide +kernel
  have hb2 := hwf.1
  obtain ⟨hr0, hr1, hr2, hr3, hrv, hrf, hru, hrs⟩ := id hr
  refine lv_aload_n hx hb dX6_value_0 rfl (lv_at hl 0 rfl) ?_
  refine lv_iload_n hx hb dX6_value_1 rfl (lv_at hl 1 rfl) ?_
  refine lv_iconst (v := 0) hx hb dX6_value_2 (by decide) ?_
  refine lv_bipush (v := 7) hx hb dX6_value_3 (by decide) ?_
  refine ro_S S hkx (mX6_in l (v := w) (x := 0) (z := 7)) gX6_value_X6_in rfl idX6_in.2 ⟨Nat.le_of_ble_eq_true rfl, Nat.le_of_ble_eq_true rfl⟩ rfl hl.1 rfl (Nat.le_of_ble_eq_true rfl) dX6_value_5 ⟨Nat.le_of_ble_eq_true rfl, Nat.le_of_ble_eq_true rfl⟩ (fun r_1 hr_1 => ?_)
  subst hr_1
  refine lv_if_eq (tgt := 15) hx hb dX6_value_8 (by decide) (fun c_2 => ?_) (fun c_2 => ?_)
  · replace c_2 := bI_e0 c_2
    refine lv_iconst (v := 1) hx hb dX6_value_15 (by decide) ?_
    refine va_put (D := G) (ci := 6) (v := .int 1) (ty := .int) (C := RX6) (T := TX6) (N := 14) hx hb hts iX6 tyX6 tyX6_ok nmX6 hown hkx.1 hP hD hS 0 rfl rfl 1 (by decide) k19 (fun _ h9 => h9) rfl (by decide +kernel) rfl rfl (Nat.le_of_ble_eq_true rfl) dX6_value_16 (fun H locs hP hD hS => ?_)
    have hP : va_P G vwCl (wMod T r mm pp xx 1 sv n1 ac ea le v1 v2 v3 v4 v5) H := hP
    have hD : va_D A (wMod T r mm pp xx 1 sv n1 ac ea le v1 v2 v3 v4 v5) := hD
    refine lv_aload_n hx hb dX6_value_19 rfl (lv_at hl 0 rfl) ?_
    refine va_get (D := G) (ci := 6) (C := RX6) (T := TX6) (N := 14) hx hb hts iX6 hown hkx.1 hP 0 rfl rfl 1 (by decide) k19 (fun _ h9 => h9) rfl dX6_value_20 ?_
    refine lv_if_le (tgt := 30) hx hb dX6_value_23 (by decide) (fun c_3 => ?_) (fun c_3 => ?_)
    · replace c_3 := cn_le (a := 1) (b := 0) (by omega) (by omega) c_3
      exact absurd c_3 (by decide)
    · replace c_3 := cn_nle (a := 1) (b := 0) (by omega) (by omega) c_3
      refine lv_iconst (v := 0) hx hb dX6_value_26 (by decide) ?_
      refine lv_goto (tgt := 35) hx hb dX6_value_27 (by decide) ?_
      exact hret _ _ _ _ _ (show mPost G (wiF w 0 7) (nmb N Z (tn w)) (wMod T r mm pp xx 0 sv n1 ac ea le v1 v2 v3 v4 v5) (wMod T r mm pp xx (cmA (wiF w 0 7)) sv n1 ac ea le v1 v2 v3 v4 v5) (some (Value.int 0)) H from ⟨_, rfl, Or.inr ⟨by simp [sq, thF, wiF, seF, dyF, poF, rfF, bI, *], by rw [show (cmA (wiF w 0 7)) = 1 by simp [sq, thF, wiF, seF, dyF, poF, rfF, bI, cmI, cmA, cmB, cmS, nIl1, nIl2, nIl3, *]]; exact hP⟩⟩) rfl hS dX6_value_35
  · replace c_2 := bI_n0 c_2
    obtain ⟨k1, hk1a, hk1, rfl⟩ := isW_nat (v := w) (a := 0) (b := 7) (by assumption)
    have ek1 : tn (nI k1) = k1 := nI_clamp (by omega)
    refine lv_iconst (v := 0) hx hb dX6_value_11 (by decide) ?_
    refine lv_goto (tgt := 16) hx hb dX6_value_12 (by decide) ?_
    refine va_put (D := G) (ci := 6) (v := .int 0) (ty := .int) (C := RX6) (T := TX6) (N := 14) hx hb hts iX6 tyX6 tyX6_ok nmX6 hown hkx.1 hP hD hS 0 rfl rfl 1 (by decide) k19 (fun _ h9 => h9) rfl (by decide +kernel) rfl rfl (Nat.le_of_ble_eq_true rfl) dX6_value_16 (fun H locs hP hD hS => ?_)
    have hP : va_P G vwCl (wMod T r mm pp xx 0 sv n1 ac ea le v1 v2 v3 v4 v5) H := hP
    have hD : va_D A (wMod T r mm pp xx 0 sv n1 ac ea le v1 v2 v3 v4 v5) := hD
    refine lv_aload_n hx hb dX6_value_19 rfl (lv_at hl 0 rfl) ?_
    refine va_get (D := G) (ci := 6) (C := RX6) (T := TX6) (N := 14) hx hb hts iX6 hown hkx.1 hP 0 rfl rfl 1 (by decide) k19 (fun _ h9 => h9) rfl dX6_value_20 ?_
    refine lv_if_le (tgt := 30) hx hb dX6_value_23 (by decide) (fun c_4 => ?_) (fun c_4 => ?_)
    · replace c_4 := cn_le (a := 0) (b := 0) (by omega) (by omega) c_4
      refine lv_aload_n hx hb dX6_value_30 rfl (lv_at hl 0 rfl) ?_
      refine lv_iload_n hx hb dX6_value_31 rfl (lv_at hl 1 rfl) ?_
      refine ro_V S hkx (mX6_valueOf l (w := k1) (hP := hP) (hwf := hwf) (hr := hr) (hw := (by omega))) gX6_value_X6_valueOf rfl idX6_valueOf ⟨Nat.le_of_ble_eq_true rfl, Nat.le_of_ble_eq_true rfl⟩ hP 0 rfl rfl rfl rfl hl.1 rfl (Nat.le_of_ble_eq_true rfl) dX6_value_32 ⟨Nat.le_of_ble_eq_true rfl, Nat.le_of_ble_eq_true rfl⟩ (fun r_5 hr_5 => ?_)
      subst hr_5
      exact hret _ _ _ _ _ (show mPost G (wiF (nI k1) 0 7) (nmb N Z (tn (nI k1))) (wMod T r mm pp xx 0 sv n1 ac ea le v1 v2 v3 v4 v5) (wMod T r mm pp xx (cmA (wiF (nI k1) 0 7)) sv n1 ac ea le v1 v2 v3 v4 v5) (some (Value.int (nmb N Z k1))) H from ⟨_, rfl, Or.inl ⟨by simp [sq, thF, wiF, seF, dyF, poF, rfF, bI, *], by first | rfl | (simp only [ek1]; done) | (simp only [ek1]; rfl), by exact hP⟩⟩) rfl hS dX6_value_35
    · replace c_4 := cn_nle (a := 0) (b := 0) (by omega) (by omega) c_4
      exact absurd c_4 (by decide)

theorem idX6_costs : yX6_costs.cls = RX6 ∧ yX6_costs.cls ≠ "java/lang/invoke/MethodHandle" ∧ yX6_costs.cls ≠ "java/lang/invoke/VarHandle" ∧ (parseMethodDescriptor yX6_costs.desc).map (fun d => d.parameters.length) = some 2 := by decide +kernel

set_option maxHeartbeats 4000000 in
set_option maxRecDepth 100000 in
theorem mX6_costs (l : Launch) {G : va_G} {T : Nat → ClassId} {H0 : Heap} {r : Nat → Nat} {N : Nat → Nat} {Z : Nat → Nat → Int32} {mm : Nat → Int32} {pp : Nat → Int32} {xx : Nat → Int32} {th : Int32} {sv : Nat} {n1 : Nat} {ac : Int32} {ea : Int32} {le : Int32} {v1 : Int32} {v2 : Int32} {v3 : Int32} {v4 : Int32} {v5 : Int32} {f : Int32} {w : Int32} (hP : va_P G vwCl (wMod T r mm pp xx th sv n1 ac ea le v1 v2 v3 v4 v5) H0) (hD : va_D (fun _ => True) (wMod T r mm pp xx th sv n1 ac ea le v1 v2 v3 v4 v5)) (hwf : wf N Z) (hr : rel N Z mm) : mu l yX6_costs wsX6_costs 5 122 [.ref (r 0), .int f, .int w] G T H0 (wMod T r mm pp xx th sv n1 ac ea le v1 v2 v3 v4 v5) (mPost G (sq (dyF f) (wiF w f 999)) (smD (cAlD N Z) (tn f) (tn w + 1 - tn f)) (wMod T r mm pp xx 0 sv n1 ac ea le v1 v2 v3 v4 v5) (wMod T r mm pp xx (cmA (sq (dyF f) (wiF w f 999))) sv n1 ac ea le v1 v2 v3 v4 v5)) := by
  refine mu_ofi (cc := cX6_costs) (maxL := 3) (ret := .int) (own := RX6) (by decide +kernel) rfl rfl (Nat.le_of_ble_eq_true rfl) hD ?_
  intro p e s m below meth c Q ls A S hkx hl hD hS hA hret
  obtain ⟨hx, hb, hml, hown, hts⟩ := id S
  have hl : lv_has ls 3 [(0, .ref (r 0)), (1, .int f), (2, .int w)] := hl
  have k19 := hts (.fieldLink RX6 19 "SunsetDatesModel" "thrown" "I") (by decide +kernel)
  have iX6 : ∀ w ∈ wsX60, w ∈ wsX6_costs := by decide +kernel
  have hb2 := hwf.1
  obtain ⟨hr0, hr1, hr2, hr3, hrv, hrf, hru, hrs⟩ := id hr
  refine lv_aload_n hx hb dX6_costs_0 rfl (lv_at hl 0 rfl) ?_
  refine lv_iload_n hx hb dX6_costs_1 rfl (lv_at hl 1 rfl) ?_
  refine lv_iload_n hx hb dX6_costs_2 rfl (lv_at hl 2 rfl) ?_
  refine ro_S S hkx (mX6_areDays l (f := f) (w := w)) gX6_costs_X6_areDays rfl idX6_areDays.2 ⟨Nat.le_of_ble_eq_true rfl, Nat.le_of_ble_eq_true rfl⟩ rfl hl.1 rfl (Nat.le_of_ble_eq_true rfl) dX6_costs_3 ⟨Nat.le_of_ble_eq_true rfl, Nat.le_of_ble_eq_true rfl⟩ (fun r_1 hr_1 => ?_)
  subst hr_1
  refine lv_if_eq (tgt := 13) hx hb dX6_costs_6 (by decide) (fun c_2 => ?_) (fun c_2 => ?_)
  · replace c_2 := bI_e0 c_2
    refine lv_iconst (v := 1) hx hb dX6_costs_13 (by decide) ?_
    refine va_put (D := G) (ci := 6) (v := .int 1) (ty := .int) (C := RX6) (T := TX6) (N := 14) hx hb hts iX6 tyX6 tyX6_ok nmX6 hown hkx.1 hP hD hS 0 rfl rfl 1 (by decide) k19 (fun _ h9 => h9) rfl (by decide +kernel) rfl rfl (Nat.le_of_ble_eq_true rfl) dX6_costs_14 (fun H locs hP hD hS => ?_)
    have hP : va_P G vwCl (wMod T r mm pp xx 1 sv n1 ac ea le v1 v2 v3 v4 v5) H := hP
    have hD : va_D A (wMod T r mm pp xx 1 sv n1 ac ea le v1 v2 v3 v4 v5) := hD
    refine lv_aload_n hx hb dX6_costs_17 rfl (lv_at hl 0 rfl) ?_
    refine va_get (D := G) (ci := 6) (C := RX6) (T := TX6) (N := 14) hx hb hts iX6 hown hkx.1 hP 0 rfl rfl 1 (by decide) k19 (fun _ h9 => h9) rfl dX6_costs_18 ?_
    refine lv_if_le (tgt := 28) hx hb dX6_costs_21 (by decide) (fun c_3 => ?_) (fun c_3 => ?_)
    · replace c_3 := cn_le (a := 1) (b := 0) (by omega) (by omega) c_3
      exact absurd c_3 (by decide)
    · replace c_3 := cn_nle (a := 1) (b := 0) (by omega) (by omega) c_3
      refine lv_iconst (v := 0) hx hb dX6_costs_24 (by decide) ?_
      refine lv_goto (tgt := 34) hx hb dX6_costs_25 (by decide) ?_
      exact hret _ _ _ _ _ (show mPost G (sq (dyF f) (wiF w f 999)) (smD (cAlD N Z) (tn f) (tn w + 1 - tn f)) (wMod T r mm pp xx 0 sv n1 ac ea le v1 v2 v3 v4 v5) (wMod T r mm pp xx (cmA (sq (dyF f) (wiF w f 999))) sv n1 ac ea le v1 v2 v3 v4 v5) (some (Value.int 0)) H from ⟨_, rfl, Or.inr ⟨by rcases Bool.eq_false_or_eq_true (isW f 0 999) with h8 | h8 <;> simp_all [sq, dyF, wiF], by rw [show (cmA (sq (dyF f) (wiF w f 999))) = 1 by rcases Bool.eq_false_or_eq_true (isW f 0 999) with h8 | h8 <;> simp_all [sq, dyF, wiF, cmA, cmI, nIl1, nIl2]]; exact hP⟩⟩) rfl hS dX6_costs_34
  · replace c_2 := bI_n0 c_2
    have hAD : isW f 0 999 = true ∧ isW w f 999 = true := by simpa using (show (isW f 0 999 && isW w f 999) = true by assumption)
    obtain ⟨hADa, hADb⟩ := hAD
    obtain ⟨k1, hk1a, hk1, rfl⟩ := isW_nat (v := f) (a := 0) (b := 999) (by assumption)
    obtain ⟨k2, hk2a, hk2, rfl⟩ := isW_nat (v := w) (a := k1) (b := 999) hADb
    have ek1 : tn (nI k1) = k1 := nI_clamp (by omega)
    have ek2 : tn (nI k2) = k2 := nI_clamp (by omega)
    refine lv_iconst (v := 0) hx hb dX6_costs_9 (by decide) ?_
    refine lv_goto (tgt := 14) hx hb dX6_costs_10 (by decide) ?_
    refine va_put (D := G) (ci := 6) (v := .int 0) (ty := .int) (C := RX6) (T := TX6) (N := 14) hx hb hts iX6 tyX6 tyX6_ok nmX6 hown hkx.1 hP hD hS 0 rfl rfl 1 (by decide) k19 (fun _ h9 => h9) rfl (by decide +kernel) rfl rfl (Nat.le_of_ble_eq_true rfl) dX6_costs_14 (fun H locs hP hD hS => ?_)
    have hP : va_P G vwCl (wMod T r mm pp xx 0 sv n1 ac ea le v1 v2 v3 v4 v5) H := hP
    have hD : va_D A (wMod T r mm pp xx 0 sv n1 ac ea le v1 v2 v3 v4 v5) := hD
    refine lv_aload_n hx hb dX6_costs_17 rfl (lv_at hl 0 rfl) ?_
    refine va_get (D := G) (ci := 6) (C := RX6) (T := TX6) (N := 14) hx hb hts iX6 hown hkx.1 hP 0 rfl rfl 1 (by decide) k19 (fun _ h9 => h9) rfl dX6_costs_18 ?_
    refine lv_if_le (tgt := 28) hx hb dX6_costs_21 (by decide) (fun c_4 => ?_) (fun c_4 => ?_)
    · replace c_4 := cn_le (a := 0) (b := 0) (by omega) (by omega) c_4
      refine lv_aload_n hx hb dX6_costs_28 rfl (lv_at hl 0 rfl) ?_
      refine lv_iload_n hx hb dX6_costs_29 rfl (lv_at hl 1 rfl) ?_
      refine lv_iload_n hx hb dX6_costs_30 rfl (lv_at hl 2 rfl) ?_
      refine ro_V S hkx (mX6_costsOf l (f := k1) (w := k2) (hP := hP) (hwf := hwf) (hr := hr) (hfl := (by omega)) (hl9 := (by omega))) gX6_costs_X6_costsOf rfl idX6_costsOf ⟨Nat.le_of_ble_eq_true rfl, Nat.le_of_ble_eq_true rfl⟩ hP 0 rfl rfl rfl rfl hl.1 rfl (Nat.le_of_ble_eq_true rfl) dX6_costs_31 ⟨Nat.le_of_ble_eq_true rfl, Nat.le_of_ble_eq_true rfl⟩ (fun r_5 hr_5 => ?_)
      subst hr_5
      exact hret _ _ _ _ _ (show mPost G (sq (dyF (nI k1)) (wiF (nI k2) (nI k1) 999)) (smD (cAlD N Z) (tn (nI k1)) (tn (nI k2) + 1 - tn (nI k1))) (wMod T r mm pp xx 0 sv n1 ac ea le v1 v2 v3 v4 v5) (wMod T r mm pp xx (cmA (sq (dyF (nI k1)) (wiF (nI k2) (nI k1) 999))) sv n1 ac ea le v1 v2 v3 v4 v5) (some (Value.int (smD (cAlD N Z) k1 (k2 + 1 - k1)))) H from ⟨_, rfl, Or.inl ⟨by simp [sq, thF, wiF, seF, dyF, poF, rfF, bI, *], by first | rfl | (simp only [ek1, ek2]; done) | (simp only [ek1, ek2]; rfl), by exact hP⟩⟩) rfl hS dX6_costs_34
    · replace c_4 := cn_nle (a := 0) (b := 0) (by omega) (by omega) c_4
      exact absurd c_4 (by decide)

theorem idX6_firstStranded : yX6_firstStranded.cls = RX6 ∧ yX6_firstStranded.cls ≠ "java/lang/invoke/MethodHandle" ∧ yX6_firstStranded.cls ≠ "java/lang/invoke/VarHandle" ∧ (parseMethodDescriptor yX6_firstStranded.desc).map (fun d => d.parameters.length) = some 2 := by decide +kernel

set_option maxHeartbeats 4000000 in
set_option maxRecDepth 100000 in
theorem mX6_firstStranded (l : Launch) {G : va_G} {T : Nat → ClassId} {H0 : Heap} {r : Nat → Nat} {N : Nat → Nat} {Z : Nat → Nat → Int32} {mm : Nat → Int32} {pp : Nat → Int32} {xx : Nat → Int32} {th : Int32} {sv : Nat} {n1 : Nat} {ac : Int32} {ea : Int32} {le : Int32} {v1 : Int32} {v2 : Int32} {v3 : Int32} {v4 : Int32} {v5 : Int32} {u : Int32} {d : Int32} (hP : va_P G vwCl (wMod T r mm pp xx th sv n1 ac ea le v1 v2 v3 v4 v5) H0) (hD : va_D (fun _ => True) (wMod T r mm pp xx th sv n1 ac ea le v1 v2 v3 v4 v5)) (hwf : wf N Z) (hr : rel N Z mm) : mu l yX6_firstStranded wsX6_firstStranded 6 141 [.ref (r 0), .int u, .int d] G T H0 (wMod T r mm pp xx th sv n1 ac ea le v1 v2 v3 v4 v5) (mPost G (sq (thF u (nI (N 2))) (dyF d)) (fstD (uuB N Z (tn u)) (tn d) (1000 - tn d)) (wMod T r mm pp xx 0 sv n1 ac ea le v1 v2 v3 v4 v5) (wMod T r mm pp xx (cmI (sq (thF u (nI (N 2))) (dyF d))) sv n1 ac ea le v1 v2 v3 v4 v5)) := by
  refine mu_ofi (cc := cX6_firstStranded) (maxL := 3) (ret := .int) (own := RX6) (by decide +kernel) rfl rfl (Nat.le_of_ble_eq_true rfl) hD ?_
  intro p e s m below meth c Q ls A S hkx hl hD hS hA hret
  obtain ⟨hx, hb, hml, hown, hts⟩ := id S
  have hl : lv_has ls 3 [(0, .ref (r 0)), (1, .int u), (2, .int d)] := hl
  have k19 := hts (.fieldLink RX6 19 "SunsetDatesModel" "thrown" "I") (by decide +kernel)
  have iX6 : ∀ w ∈ wsX60, w ∈ wsX6_firstStranded := by decide +kernel
  have hb2 := hwf.1
  obtain ⟨hr0, hr1, hr2, hr3, hrv, hrf, hru, hrs⟩ := id hr
  refine lv_aload_n hx hb dX6_firstStranded_0 rfl (lv_at hl 0 rfl) ?_
  refine lv_aload_n hx hb dX6_firstStranded_1 rfl (lv_at hl 0 rfl) ?_
  refine lv_iload_n hx hb dX6_firstStranded_2 rfl (lv_at hl 1 rfl) ?_
  refine ro_V S hkx (mX6_isUser l (v := u) (hP := hP) (hwf := hwf) (hr := hr)) gX6_firstStranded_X6_isUser rfl idX6_isUser ⟨Nat.le_of_ble_eq_true rfl, Nat.le_of_ble_eq_true rfl⟩ hP 0 rfl rfl rfl rfl hl.1 rfl (Nat.le_of_ble_eq_true rfl) dX6_firstStranded_3 ⟨Nat.le_of_ble_eq_true rfl, Nat.le_of_ble_eq_true rfl⟩ (fun r_1 hr_1 => ?_)
  subst hr_1
  refine lv_if_ne (tgt := 13) hx hb dX6_firstStranded_6 (by decide) (fun c_2 => ?_) (fun c_2 => ?_)
  · replace c_2 := bI_n0 c_2
    refine lv_iload_n hx hb dX6_firstStranded_13 rfl (lv_at hl 2 rfl) ?_
    refine ro_S S hkx (mX6_isDay l (d := d)) gX6_firstStranded_X6_isDay rfl idX6_isDay.2 ⟨Nat.le_of_ble_eq_true rfl, Nat.le_of_ble_eq_true rfl⟩ rfl hl.1 rfl (Nat.le_of_ble_eq_true rfl) dX6_firstStranded_14 ⟨Nat.le_of_ble_eq_true rfl, Nat.le_of_ble_eq_true rfl⟩ (fun r_3 hr_3 => ?_)
    subst hr_3
    refine lv_if_ne (tgt := 24) hx hb dX6_firstStranded_17 (by decide) (fun c_4 => ?_) (fun c_4 => ?_)
    · replace c_4 := bI_n0 c_4
      obtain ⟨k1, hk1, rfl⟩ := isT_nat (i := u) (n := N 2) (by omega) (by assumption)
      obtain ⟨k2, hk2a, hk2, rfl⟩ := isW_nat (v := d) (a := 0) (b := 999) (by assumption)
      have ek1 : tn (nI k1) = k1 := nI_clamp (by omega)
      have ek2 : tn (nI k2) = k2 := nI_clamp (by omega)
      refine lv_iconst (v := 0) hx hb dX6_firstStranded_24 (by decide) ?_
      refine va_put (D := G) (ci := 6) (v := .int 0) (ty := .int) (C := RX6) (T := TX6) (N := 14) hx hb hts iX6 tyX6 tyX6_ok nmX6 hown hkx.1 hP hD hS 0 rfl rfl 1 (by decide) k19 (fun _ h9 => h9) rfl (by decide +kernel) rfl rfl (Nat.le_of_ble_eq_true rfl) dX6_firstStranded_25 (fun H locs hP hD hS => ?_)
      have hP : va_P G vwCl (wMod T r mm pp xx 0 sv n1 ac ea le v1 v2 v3 v4 v5) H := hP
      have hD : va_D A (wMod T r mm pp xx 0 sv n1 ac ea le v1 v2 v3 v4 v5) := hD
      refine lv_aload_n hx hb dX6_firstStranded_28 rfl (lv_at hl 0 rfl) ?_
      refine va_get (D := G) (ci := 6) (C := RX6) (T := TX6) (N := 14) hx hb hts iX6 hown hkx.1 hP 0 rfl rfl 1 (by decide) k19 (fun _ h9 => h9) rfl dX6_firstStranded_29 ?_
      refine lv_if_le (tgt := 39) hx hb dX6_firstStranded_32 (by decide) (fun c_5 => ?_) (fun c_5 => ?_)
      · replace c_5 := cn_le (a := 0) (b := 0) (by omega) (by omega) c_5
        refine lv_aload_n hx hb dX6_firstStranded_39 rfl (lv_at hl 0 rfl) ?_
        refine lv_iload_n hx hb dX6_firstStranded_40 rfl (lv_at hl 1 rfl) ?_
        refine lv_iload_n hx hb dX6_firstStranded_41 rfl (lv_at hl 2 rfl) ?_
        refine ro_V S hkx (mX6_firstOf l (u := k1) (f := k2) (hP := hP) (hwf := hwf) (hr := hr) (hu := (by omega)) (hf9 := (by omega))) gX6_firstStranded_X6_firstOf rfl idX6_firstOf ⟨Nat.le_of_ble_eq_true rfl, Nat.le_of_ble_eq_true rfl⟩ hP 0 rfl rfl rfl rfl hl.1 rfl (Nat.le_of_ble_eq_true rfl) dX6_firstStranded_42 ⟨Nat.le_of_ble_eq_true rfl, Nat.le_of_ble_eq_true rfl⟩ (fun r_6 hr_6 => ?_)
        subst hr_6
        exact hret _ _ _ _ _ (show mPost G (sq (thF (nI k1) (nI (N 2))) (dyF (nI k2))) (fstD (uuB N Z (tn (nI k1))) (tn (nI k2)) (1000 - tn (nI k2))) (wMod T r mm pp xx 0 sv n1 ac ea le v1 v2 v3 v4 v5) (wMod T r mm pp xx (cmI (sq (thF (nI k1) (nI (N 2))) (dyF (nI k2)))) sv n1 ac ea le v1 v2 v3 v4 v5) (some (Value.int (fstD (uuB N Z k1) k2 (1000 - k2)))) H from ⟨_, rfl, Or.inl ⟨by simp [sq, thF, wiF, seF, dyF, poF, rfF, bI, *], by first | rfl | (simp only [ek1, ek2]; done) | (simp only [ek1, ek2]; rfl), by exact hP⟩⟩) rfl hS dX6_firstStranded_45
      · replace c_5 := cn_nle (a := 0) (b := 0) (by omega) (by omega) c_5
        exact absurd c_5 (by decide)
    · replace c_4 := bI_e0 c_4
      refine lv_iconst (v := 2) hx hb dX6_firstStranded_20 (by decide) ?_
      refine lv_goto (tgt := 25) hx hb dX6_firstStranded_21 (by decide) ?_
      refine va_put (D := G) (ci := 6) (v := .int 2) (ty := .int) (C := RX6) (T := TX6) (N := 14) hx hb hts iX6 tyX6 tyX6_ok nmX6 hown hkx.1 hP hD hS 0 rfl rfl 1 (by decide) k19 (fun _ h9 => h9) rfl (by decide +kernel) rfl rfl (Nat.le_of_ble_eq_true rfl) dX6_firstStranded_25 (fun H locs hP hD hS => ?_)
      have hP : va_P G vwCl (wMod T r mm pp xx 2 sv n1 ac ea le v1 v2 v3 v4 v5) H := hP
      have hD : va_D A (wMod T r mm pp xx 2 sv n1 ac ea le v1 v2 v3 v4 v5) := hD
      refine lv_aload_n hx hb dX6_firstStranded_28 rfl (lv_at hl 0 rfl) ?_
      refine va_get (D := G) (ci := 6) (C := RX6) (T := TX6) (N := 14) hx hb hts iX6 hown hkx.1 hP 0 rfl rfl 1 (by decide) k19 (fun _ h9 => h9) rfl dX6_firstStranded_29 ?_
      refine lv_if_le (tgt := 39) hx hb dX6_firstStranded_32 (by decide) (fun c_7 => ?_) (fun c_7 => ?_)
      · replace c_7 := cn_le (a := 2) (b := 0) (by omega) (by omega) c_7
        exact absurd c_7 (by decide)
      · replace c_7 := cn_nle (a := 2) (b := 0) (by omega) (by omega) c_7
        refine lv_iconst (v := 0) hx hb dX6_firstStranded_35 (by decide) ?_
        refine lv_goto (tgt := 45) hx hb dX6_firstStranded_36 (by decide) ?_
        exact hret _ _ _ _ _ (show mPost G (sq (thF u (nI (N 2))) (dyF d)) (fstD (uuB N Z (tn u)) (tn d) (1000 - tn d)) (wMod T r mm pp xx 0 sv n1 ac ea le v1 v2 v3 v4 v5) (wMod T r mm pp xx (cmI (sq (thF u (nI (N 2))) (dyF d))) sv n1 ac ea le v1 v2 v3 v4 v5) (some (Value.int 0)) H from ⟨_, rfl, Or.inr ⟨by simp [sq, thF, wiF, seF, dyF, poF, rfF, bI, *], by rw [show (cmI (sq (thF u (nI (N 2))) (dyF d))) = 2 by simp [sq, thF, wiF, seF, dyF, poF, rfF, bI, cmI, cmA, cmB, cmS, nIl1, nIl2, nIl3, *]]; exact hP⟩⟩) rfl hS dX6_firstStranded_45
  · replace c_2 := bI_e0 c_2
    refine lv_iconst (v := 1) hx hb dX6_firstStranded_9 (by decide) ?_
    refine lv_goto (tgt := 25) hx hb dX6_firstStranded_10 (by decide) ?_
    refine va_put (D := G) (ci := 6) (v := .int 1) (ty := .int) (C := RX6) (T := TX6) (N := 14) hx hb hts iX6 tyX6 tyX6_ok nmX6 hown hkx.1 hP hD hS 0 rfl rfl 1 (by decide) k19 (fun _ h9 => h9) rfl (by decide +kernel) rfl rfl (Nat.le_of_ble_eq_true rfl) dX6_firstStranded_25 (fun H locs hP hD hS => ?_)
    have hP : va_P G vwCl (wMod T r mm pp xx 1 sv n1 ac ea le v1 v2 v3 v4 v5) H := hP
    have hD : va_D A (wMod T r mm pp xx 1 sv n1 ac ea le v1 v2 v3 v4 v5) := hD
    refine lv_aload_n hx hb dX6_firstStranded_28 rfl (lv_at hl 0 rfl) ?_
    refine va_get (D := G) (ci := 6) (C := RX6) (T := TX6) (N := 14) hx hb hts iX6 hown hkx.1 hP 0 rfl rfl 1 (by decide) k19 (fun _ h9 => h9) rfl dX6_firstStranded_29 ?_
    refine lv_if_le (tgt := 39) hx hb dX6_firstStranded_32 (by decide) (fun c_8 => ?_) (fun c_8 => ?_)
    · replace c_8 := cn_le (a := 1) (b := 0) (by omega) (by omega) c_8
      exact absurd c_8 (by decide)
    · replace c_8 := cn_nle (a := 1) (b := 0) (by omega) (by omega) c_8
      refine lv_iconst (v := 0) hx hb dX6_firstStranded_35 (by decide) ?_
      refine lv_goto (tgt := 45) hx hb dX6_firstStranded_36 (by decide) ?_
      exact hret _ _ _ _ _ (show mPost G (sq (thF u (nI (N 2))) (dyF d)) (fstD (uuB N Z (tn u)) (tn d) (1000 - tn d)) (wMod T r mm pp xx 0 sv n1 ac ea le v1 v2 v3 v4 v5) (wMod T r mm pp xx (cmI (sq (thF u (nI (N 2))) (dyF d))) sv n1 ac ea le v1 v2 v3 v4 v5) (some (Value.int 0)) H from ⟨_, rfl, Or.inr ⟨by simp [sq, thF, wiF, seF, dyF, poF, rfF, bI, *], by rw [show (cmI (sq (thF u (nI (N 2))) (dyF d))) = 1 by simp [sq, thF, wiF, seF, dyF, poF, rfF, bI, cmI, cmA, cmB, cmS, nIl1, nIl2, nIl3, *]]; exact hP⟩⟩) rfl hS dX6_firstStranded_45

theorem idX6_addVersion : yX6_addVersion.cls = RX6 ∧ yX6_addVersion.cls ≠ "java/lang/invoke/MethodHandle" ∧ yX6_addVersion.cls ≠ "java/lang/invoke/VarHandle" ∧ (parseMethodDescriptor yX6_addVersion.desc).map (fun d => d.parameters.length) = some 2 := by decide +kernel

set_option maxHeartbeats 4000000 in
set_option maxRecDepth 100000 in
theorem mX6_addVersion (l : Launch) {G : va_G} {T : Nat → ClassId} {H0 : Heap} {r : Nat → Nat} {N : Nat → Nat} {Z : Nat → Nat → Int32} {mm : Nat → Int32} {pp : Nat → Int32} {xx : Nat → Int32} {th : Int32} {sv : Nat} {n1 : Nat} {ac : Int32} {ea : Int32} {le : Int32} {v1 : Int32} {v2 : Int32} {v3 : Int32} {v4 : Int32} {v5 : Int32} {x : Int32} {z : Int32} (hP : va_P G vwCl (wMod T r mm pp xx th sv n1 ac ea le v1 v2 v3 v4 v5) H0) (hD : va_D (fun _ => True) (wMod T r mm pp xx th sv n1 ac ea le v1 v2 v3 v4 v5)) (hwf : wf N Z) (hr : rel N Z mm) (hs4 : sv ≤ 4) : mu l yX6_addVersion wsX6_addVersion 1 22 [.ref (r 0), .int x, .int z] G T H0 (wMod T r mm pp xx th sv n1 ac ea le v1 v2 v3 v4 v5) (mPost G (sq (wiF x 0 998) (sq (wiF z (x + 1) 1000) (poF (bI (decide (N 0 < 8)))))) (nI (N 0)) (wMod T r (mAV mm (N 0) x z) (svP sv pp mm) xx 0 (svC sv) n1 ac ea le v1 v2 v3 v4 v5) (wMod T r mm pp xx (cmA (sq (wiF x 0 998) (sq (wiF z (x + 1) 1000) (poF (bI (decide (N 0 < 8))))))) sv n1 ac ea le v1 v2 v3 v4 v5)) := by
  refine mu_ofi (cc := cX6_addVersion) (maxL := 4) (ret := .int) (own := RX6) (by decide +kernel) rfl rfl (Nat.le_of_ble_eq_true rfl) hD ?_
  intro p e s m below meth c Q ls A S hkx hl hD hS hA hret
  obtain ⟨hx, hb, hml, hown, hts⟩ := id S
  have hl : lv_has ls 4 [(0, .ref (r 0)), (1, .int x), (2, .int z)] := hl
  have k19 := hts (.fieldLink RX6 19 "SunsetDatesModel" "thrown" "I") (by decide +kernel)
  have iX6 : ∀ w ∈ wsX60, w ∈ wsX6_addVersion := by decide +kernel
  have k7 := hts (.fieldLink RX6 7 "SunsetDatesModel" "now" "[I") (by decide +kernel)
  have hb2 := hwf.1
  obtain ⟨hr0, hr1, hr2, hr3, hrv, hrf, hru, hrs⟩ := id hr
  refine lv_aload_n hx hb dX6_addVersion_0 rfl (lv_at hl 0 rfl) ?_
  refine lv_iconst (v := 0) hx hb dX6_addVersion_1 (by decide) ?_
  refine va_put (D := G) (ci := 6) (v := .int 0) (ty := .int) (C := RX6) (T := TX6) (N := 14) hx hb hts iX6 tyX6 tyX6_ok nmX6 hown hkx.1 hP hD hS 0 rfl rfl 1 (by decide) k19 (fun _ h9 => h9) rfl (by decide +kernel) rfl rfl (Nat.le_of_ble_eq_true rfl) dX6_addVersion_2 (fun H locs hP hD hS => ?_)
  have hP : va_P G vwCl (wMod T r mm pp xx 0 sv n1 ac ea le v1 v2 v3 v4 v5) H := hP
  have hD : va_D A (wMod T r mm pp xx 0 sv n1 ac ea le v1 v2 v3 v4 v5) := hD
  refine lv_iload_n hx hb dX6_addVersion_5 rfl (lv_at hl 1 rfl) ?_
  refine lv_iconst (v := 0) hx hb dX6_addVersion_6 (by decide) ?_
  refine lv_sipush (v := 998) hx hb dX6_addVersion_7 (by decide) ?_
  refine ro_S S hkx (mX6_in l (v := x) (x := 0) (z := 998)) gX6_addVersion_X6_in rfl idX6_in.2 ⟨Nat.le_of_ble_eq_true rfl, Nat.le_of_ble_eq_true rfl⟩ rfl hl.1 rfl (Nat.le_of_ble_eq_true rfl) dX6_addVersion_10 ⟨Nat.le_of_ble_eq_true rfl, Nat.le_of_ble_eq_true rfl⟩ (fun r_1 hr_1 => ?_)
  subst hr_1
  refine lv_if_eq (tgt := 29) hx hb dX6_addVersion_13 (by decide) (fun c_2 => ?_) (fun c_2 => ?_)
  · replace c_2 := bI_e0 c_2
    refine lv_aload_n hx hb dX6_addVersion_29 rfl (lv_at hl 0 rfl) ?_
    refine lv_iconst (v := 1) hx hb dX6_addVersion_30 (by decide) ?_
    refine mu_V S hkx (mX6_refused l (hP := hP) (hD := hD.weaken (fun _ _ _ _ => trivial)) (N := N) (Z := Z) (mm := mm) (pp := pp) (xx := xx) (th := 0) (sv := sv) (n1 := n1) (ac := ac) (ea := ea) (le := le) (v1 := v1) (v2 := v2) (v3 := v3) (v4 := v4) (v5 := v5) (x := 1)) gX6_addVersion_X6_refused rfl idX6_refused ⟨Nat.le_of_ble_eq_true rfl, Nat.le_of_ble_eq_true rfl⟩ hP 0 rfl rfl rfl rfl hl.1 rfl (Nat.le_of_ble_eq_true rfl) dX6_addVersion_31 ⟨Nat.le_refl _, Nat.le_refl _⟩ hS (fr_in hD (fun q h => hA q (Nat.le_trans hS.1 h))) (fun v H locs hp9 hz1 hk1 hS => ?_)
    obtain ⟨rfl, hP⟩ := hp9
    have hP : va_P G vwCl (wMod T r mm pp xx 1 sv n1 ac ea le v1 v2 v3 v4 v5) H := hP
    have hD : va_D A (wMod T r mm pp xx 1 sv n1 ac ea le v1 v2 v3 v4 v5) := fr_all hD rfl
    refine W.eq (g2 := F0 m 34 ls [.int 0]) rfl ?_
    exact hret _ _ _ _ _ (show mPost G (sq (wiF x 0 998) (sq (wiF z (x + 1) 1000) (poF (bI (decide (N 0 < 8)))))) (nI (N 0)) (wMod T r (mAV mm (N 0) x z) (svP sv pp mm) xx 0 (svC sv) n1 ac ea le v1 v2 v3 v4 v5) (wMod T r mm pp xx (cmA (sq (wiF x 0 998) (sq (wiF z (x + 1) 1000) (poF (bI (decide (N 0 < 8))))))) sv n1 ac ea le v1 v2 v3 v4 v5) (some (Value.int 0)) H from ⟨_, rfl, Or.inr ⟨by simp [sq, thF, wiF, seF, dyF, poF, rfF, bI, *], by rw [show (cmA (sq (wiF x 0 998) (sq (wiF z (x + 1) 1000) (poF (bI (decide (N 0 < 8))))))) = 1 by simp [sq, thF, wiF, seF, dyF, poF, rfF, bI, cmI, cmA, cmB, cmS, nIl1, nIl2, nIl3, *]]; exact hP⟩⟩) rfl hS dX6_addVersion_34
  · replace c_2 := bI_n0 c_2
    refine lv_iload_n hx hb dX6_addVersion_16 rfl (lv_at hl 2 rfl) ?_
    refine lv_iload_n hx hb dX6_addVersion_17 rfl (lv_at hl 1 rfl) ?_
    refine lv_iconst (v := 1) hx hb dX6_addVersion_18 (by decide) ?_
    refine lv_iadd hx hb dX6_addVersion_19 ?_
    refine lv_sipush (v := 1000) hx hb dX6_addVersion_20 (by decide) ?_
    refine ro_S S hkx (mX6_in l (v := z) (x := (x + 1)) (z := 1000)) gX6_addVersion_X6_in rfl idX6_in.2 ⟨Nat.le_of_ble_eq_true rfl, Nat.le_of_ble_eq_true rfl⟩ rfl hl.1 rfl (Nat.le_of_ble_eq_true rfl) dX6_addVersion_23 ⟨Nat.le_of_ble_eq_true rfl, Nat.le_of_ble_eq_true rfl⟩ (fun r_3 hr_3 => ?_)
    subst hr_3
    refine lv_if_ne (tgt := 35) hx hb dX6_addVersion_26 (by decide) (fun c_4 => ?_) (fun c_4 => ?_)
    · replace c_4 := bI_n0 c_4
      refine lv_aload_n hx hb dX6_addVersion_35 rfl (lv_at hl 0 rfl) ?_
      refine va_get (D := G) (ci := 6) (C := RX6) (T := TX6) (N := 14) hx hb hts iX6 hown hkx.1 hP 0 rfl rfl 0 (by decide) k7 (fun _ h9 => h9) rfl dX6_addVersion_36 ?_
      refine lv_iconst (v := 0) hx hb dX6_addVersion_39 (by decide) ?_
      refine ia hx hb hkx hP 1 rfl 0 rfl (by omega) (by decide) dX6_addVersion_40 ?_
      rw [hr0]
      refine lv_bipush (v := 8) hx hb dX6_addVersion_41 (by decide) ?_
      refine lv_icmp_ne (tgt := 52) hx hb dX6_addVersion_43 (by decide) (fun c_5 => ?_) (fun c_5 => ?_)
      · replace c_5 := cn_ne (a := (N 0)) (b := 8) (by omega) (by omega) c_5
        have cD : decide (N 0 < 8) = true := decide_eq_true (by omega)
        refine lv_aload_n hx hb dX6_addVersion_52 rfl (lv_at hl 0 rfl) ?_
        refine mu_V S hkx (mX6_save l (hP := hP) (hD := hD.weaken (fun _ _ _ _ => trivial)) (N := N) (Z := Z) (mm := mm) (pp := pp) (xx := xx) (th := 0) (sv := sv) (n1 := n1) (ac := ac) (ea := ea) (le := le) (v1 := v1) (v2 := v2) (v3 := v3) (v4 := v4) (v5 := v5) (hs4 := (by omega))) gX6_addVersion_X6_save rfl idX6_save ⟨Nat.le_of_ble_eq_true rfl, Nat.le_of_ble_eq_true rfl⟩ hP 0 rfl rfl rfl rfl hl.1 rfl (Nat.le_of_ble_eq_true rfl) dX6_addVersion_53 ⟨Nat.le_refl _, Nat.le_refl _⟩ hS (fr_in hD (fun q h => hA q (Nat.le_trans hS.1 h))) (fun v H locs hp9 hz1 hk1 hS => ?_)
        obtain ⟨rfl, hP⟩ := hp9
        have hP : va_P G vwCl (wMod T r mm (svP sv pp mm) xx 0 (svC sv) n1 ac ea le v1 v2 v3 v4 v5) H := hP
        have hD : va_D A (wMod T r mm (svP sv pp mm) xx 0 (svC sv) n1 ac ea le v1 v2 v3 v4 v5) := fr_all hD rfl
        refine W.eq (g2 := F0 m 56 ls []) rfl ?_
        refine lv_iconst (v := 4) hx hb dX6_addVersion_56 (by decide) ?_
        refine lv_iconst (v := 3) hx hb dX6_addVersion_57 (by decide) ?_
        refine lv_aload_n hx hb dX6_addVersion_58 rfl (lv_at hl 0 rfl) ?_
        refine va_get (D := G) (ci := 6) (C := RX6) (T := TX6) (N := 14) hx hb hts iX6 hown hkx.1 hP 0 rfl rfl 0 (by decide) k7 (fun _ h9 => h9) rfl dX6_addVersion_59 ?_
        refine lv_iconst (v := 0) hx hb dX6_addVersion_62 (by decide) ?_
        refine ia hx hb hkx hP 1 rfl 0 rfl (by omega) (by decide) dX6_addVersion_63 ?_
        rw [hr0]
        refine lv_imul hx hb dX6_addVersion_64 ?_
        rw [show (3 * (nI (N 0))) = (nI (3 * (N 0))) from pk_mul _ _]
        refine lv_iadd hx hb dX6_addVersion_65 ?_
        rw [show (4 + (nI (3 * (N 0)))) = (nI (4 + (3 * (N 0)))) from nI_add 4 (3 * (N 0))]
        refine lv_istore_n (lv' := [(3, .int (nI (4 + (3 * (N 0))))), (0, .ref (r 0)), (1, .int x), (2, .int z)]) hx hb dX6_addVersion_66 rfl hl (by decide) rfl (fun ls hl => ?_)
        refine lv_aload_n hx hb dX6_addVersion_67 rfl (lv_at hl 1 rfl) ?_
        refine va_get (D := G) (ci := 6) (C := RX6) (T := TX6) (N := 14) hx hb hts iX6 hown hkx.1 hP 0 rfl rfl 0 (by decide) k7 (fun _ h9 => h9) rfl dX6_addVersion_68 ?_
        refine lv_iload_n hx hb dX6_addVersion_71 rfl (lv_at hl 0 rfl) ?_
        refine lv_iload_n hx hb dX6_addVersion_72 rfl (lv_at hl 2 rfl) ?_
        refine ist hx hb hkx hP hD hS 1 rfl (4 + (3 * (N 0))) rfl (by omega) (by decide) dX6_addVersion_73 (fun H locs hP hD hS => ?_)
        have hP : va_P G vwCl (wMod T r (upd mm (4 + (3 * (N 0))) x) (svP sv pp mm) xx 0 (svC sv) n1 ac ea le v1 v2 v3 v4 v5) H := hP
        have hD : va_D A (wMod T r (upd mm (4 + (3 * (N 0))) x) (svP sv pp mm) xx 0 (svC sv) n1 ac ea le v1 v2 v3 v4 v5) := hD
        refine lv_aload_n hx hb dX6_addVersion_74 rfl (lv_at hl 1 rfl) ?_
        refine va_get (D := G) (ci := 6) (C := RX6) (T := TX6) (N := 14) hx hb hts iX6 hown hkx.1 hP 0 rfl rfl 0 (by decide) k7 (fun _ h9 => h9) rfl dX6_addVersion_75 ?_
        refine lv_iload_n hx hb dX6_addVersion_78 rfl (lv_at hl 0 rfl) ?_
        refine lv_iconst (v := 1) hx hb dX6_addVersion_79 (by decide) ?_
        refine lv_iadd hx hb dX6_addVersion_80 ?_
        rw [show ((nI (4 + (3 * (N 0)))) + 1) = (nI ((4 + (3 * (N 0))) + 1)) from nI_add (4 + (3 * (N 0))) 1]
        refine lv_iload_n hx hb dX6_addVersion_81 rfl (lv_at hl 3 rfl) ?_
        refine ist hx hb hkx hP hD hS 1 rfl ((4 + (3 * (N 0))) + 1) rfl (by omega) (by decide) dX6_addVersion_82 (fun H locs hP hD hS => ?_)
        have hP : va_P G vwCl (wMod T r (upd (upd mm (4 + (3 * (N 0))) x) ((4 + (3 * (N 0))) + 1) z) (svP sv pp mm) xx 0 (svC sv) n1 ac ea le v1 v2 v3 v4 v5) H := hP
        have hD : va_D A (wMod T r (upd (upd mm (4 + (3 * (N 0))) x) ((4 + (3 * (N 0))) + 1) z) (svP sv pp mm) xx 0 (svC sv) n1 ac ea le v1 v2 v3 v4 v5) := hD
        refine lv_aload_n hx hb dX6_addVersion_83 rfl (lv_at hl 1 rfl) ?_
        refine va_get (D := G) (ci := 6) (C := RX6) (T := TX6) (N := 14) hx hb hts iX6 hown hkx.1 hP 0 rfl rfl 0 (by decide) k7 (fun _ h9 => h9) rfl dX6_addVersion_84 ?_
        refine lv_iload_n hx hb dX6_addVersion_87 rfl (lv_at hl 0 rfl) ?_
        refine lv_iconst (v := 2) hx hb dX6_addVersion_88 (by decide) ?_
        refine lv_iadd hx hb dX6_addVersion_89 ?_
        rw [show ((nI (4 + (3 * (N 0)))) + 2) = (nI ((4 + (3 * (N 0))) + 2)) from nI_add (4 + (3 * (N 0))) 2]
        refine lv_iconst (v := 0) hx hb dX6_addVersion_90 (by decide) ?_
        refine ist hx hb hkx hP hD hS 1 rfl ((4 + (3 * (N 0))) + 2) rfl (by omega) (by decide) dX6_addVersion_91 (fun H locs hP hD hS => ?_)
        have hP : va_P G vwCl (wMod T r (upd (upd (upd mm (4 + (3 * (N 0))) x) ((4 + (3 * (N 0))) + 1) z) ((4 + (3 * (N 0))) + 2) 0) (svP sv pp mm) xx 0 (svC sv) n1 ac ea le v1 v2 v3 v4 v5) H := hP
        have hD : va_D A (wMod T r (upd (upd (upd mm (4 + (3 * (N 0))) x) ((4 + (3 * (N 0))) + 1) z) ((4 + (3 * (N 0))) + 2) 0) (svP sv pp mm) xx 0 (svC sv) n1 ac ea le v1 v2 v3 v4 v5) := hD
        refine lv_aload_n hx hb dX6_addVersion_92 rfl (lv_at hl 1 rfl) ?_
        refine va_get (D := G) (ci := 6) (C := RX6) (T := TX6) (N := 14) hx hb hts iX6 hown hkx.1 hP 0 rfl rfl 0 (by decide) k7 (fun _ h9 => h9) rfl dX6_addVersion_93 ?_
        refine lv_iconst (v := 0) hx hb dX6_addVersion_96 (by decide) ?_
        refine lv_dup2_11 hx hb dX6_addVersion_97 rfl rfl ?_
        refine ia hx hb hkx hP 1 rfl 0 rfl (by omega) (by decide) dX6_addVersion_98 ?_
        rw [pk_un (show 0 ≠ ((4 + (3 * (N 0))) + 2) by omega), pk_un (show 0 ≠ ((4 + (3 * (N 0))) + 1) by omega), pk_un (show 0 ≠ (4 + (3 * (N 0))) by omega), hr0]
        refine lv_iconst (v := 1) hx hb dX6_addVersion_99 (by decide) ?_
        refine lv_iadd hx hb dX6_addVersion_100 ?_
        rw [show ((nI (N 0)) + 1) = (nI ((N 0) + 1)) from nI_add (N 0) 1]
        refine ist hx hb hkx hP hD hS 1 rfl 0 rfl (by omega) (by decide) dX6_addVersion_101 (fun H locs hP hD hS => ?_)
        have hP : va_P G vwCl (wMod T r (upd (upd (upd (upd mm (4 + (3 * (N 0))) x) ((4 + (3 * (N 0))) + 1) z) ((4 + (3 * (N 0))) + 2) 0) 0 (nI ((N 0) + 1))) (svP sv pp mm) xx 0 (svC sv) n1 ac ea le v1 v2 v3 v4 v5) H := hP
        have hD : va_D A (wMod T r (upd (upd (upd (upd mm (4 + (3 * (N 0))) x) ((4 + (3 * (N 0))) + 1) z) ((4 + (3 * (N 0))) + 2) 0) 0 (nI ((N 0) + 1))) (svP sv pp mm) xx 0 (svC sv) n1 ac ea le v1 v2 v3 v4 v5) := hD
        refine lv_aload_n hx hb dX6_addVersion_102 rfl (lv_at hl 1 rfl) ?_
        refine va_get (D := G) (ci := 6) (C := RX6) (T := TX6) (N := 14) hx hb hts iX6 hown hkx.1 hP 0 rfl rfl 0 (by decide) k7 (fun _ h9 => h9) rfl dX6_addVersion_103 ?_
        refine lv_iconst (v := 0) hx hb dX6_addVersion_106 (by decide) ?_
        refine ia hx hb hkx hP 1 rfl 0 rfl (by omega) (by decide) dX6_addVersion_107 ?_
        rw [pk_us]
        refine lv_iconst (v := 1) hx hb dX6_addVersion_108 (by decide) ?_
        refine lv_isub hx hb dX6_addVersion_109 ?_
        rw [show ((nI ((N 0) + 1)) - 1) = (nI (((N 0) + 1) - 1)) from pk_sub (a := ((N 0) + 1)) (b := 1) (by omega)]
        exact hret _ _ _ _ _ (show mPost G (sq (wiF x 0 998) (sq (wiF z (x + 1) 1000) (poF (bI (decide (N 0 < 8)))))) (nI (N 0)) (wMod T r (mAV mm (N 0) x z) (svP sv pp mm) xx 0 (svC sv) n1 ac ea le v1 v2 v3 v4 v5) (wMod T r mm pp xx (cmA (sq (wiF x 0 998) (sq (wiF z (x + 1) 1000) (poF (bI (decide (N 0 < 8))))))) sv n1 ac ea le v1 v2 v3 v4 v5) (some (Value.int (nI (((N 0) + 1) - 1)))) H from ⟨_, rfl, Or.inl ⟨by simp [sq, thF, wiF, seF, dyF, poF, rfF, bI, *], by rfl, by exact hP⟩⟩) rfl hS dX6_addVersion_110
      · replace c_5 := cn_eq (a := (N 0)) (b := 8) (by omega) (by omega) c_5
        have cD : decide (N 0 < 8) = false := decide_eq_false (by omega)
        refine lv_aload_n hx hb dX6_addVersion_46 rfl (lv_at hl 0 rfl) ?_
        refine lv_iconst (v := 2) hx hb dX6_addVersion_47 (by decide) ?_
        refine mu_V S hkx (mX6_refused l (hP := hP) (hD := hD.weaken (fun _ _ _ _ => trivial)) (N := N) (Z := Z) (mm := mm) (pp := pp) (xx := xx) (th := 0) (sv := sv) (n1 := n1) (ac := ac) (ea := ea) (le := le) (v1 := v1) (v2 := v2) (v3 := v3) (v4 := v4) (v5 := v5) (x := 2)) gX6_addVersion_X6_refused rfl idX6_refused ⟨Nat.le_of_ble_eq_true rfl, Nat.le_of_ble_eq_true rfl⟩ hP 0 rfl rfl rfl rfl hl.1 rfl (Nat.le_of_ble_eq_true rfl) dX6_addVersion_48 ⟨Nat.le_refl _, Nat.le_refl _⟩ hS (fr_in hD (fun q h => hA q (Nat.le_trans hS.1 h))) (fun v H locs hp9 hz1 hk1 hS => ?_)
        obtain ⟨rfl, hP⟩ := hp9
        have hP : va_P G vwCl (wMod T r mm pp xx 2 sv n1 ac ea le v1 v2 v3 v4 v5) H := hP
        have hD : va_D A (wMod T r mm pp xx 2 sv n1 ac ea le v1 v2 v3 v4 v5) := fr_all hD rfl
        refine W.eq (g2 := F0 m 51 ls [.int 0]) rfl ?_
        exact hret _ _ _ _ _ (show mPost G (sq (wiF x 0 998) (sq (wiF z (x + 1) 1000) (poF (bI (decide (N 0 < 8)))))) (nI (N 0)) (wMod T r (mAV mm (N 0) x z) (svP sv pp mm) xx 0 (svC sv) n1 ac ea le v1 v2 v3 v4 v5) (wMod T r mm pp xx (cmA (sq (wiF x 0 998) (sq (wiF z (x + 1) 1000) (poF (bI (decide (N 0 < 8))))))) sv n1 ac ea le v1 v2 v3 v4 v5) (some (Value.int 0)) H from ⟨_, rfl, Or.inr ⟨by simp [sq, thF, wiF, seF, dyF, poF, rfF, bI, *], by rw [show (cmA (sq (wiF x 0 998) (sq (wiF z (x + 1) 1000) (poF (bI (decide (N 0 < 8))))))) = 2 by simp [sq, thF, wiF, seF, dyF, poF, rfF, bI, cmI, cmA, cmB, cmS, nIl1, nIl2, nIl3, *]]; exact hP⟩⟩) rfl hS dX6_addVersion_51
    · replace c_4 := bI_e0 c_4
      refine lv_aload_n hx hb dX6_addVersion_29 rfl (lv_at hl 0 rfl) ?_
      refine lv_iconst (v := 1) hx hb dX6_addVersion_30 (by decide) ?_
      refine mu_V S hkx (mX6_refused l (hP := hP) (hD := hD.weaken (fun _ _ _ _ => trivial)) (N := N) (Z := Z) (mm := mm) (pp := pp) (xx := xx) (th := 0) (sv := sv) (n1 := n1) (ac := ac) (ea := ea) (le := le) (v1 := v1) (v2 := v2) (v3 := v3) (v4 := v4) (v5 := v5) (x := 1)) gX6_addVersion_X6_refused rfl idX6_refused ⟨Nat.le_of_ble_eq_true rfl, Nat.le_of_ble_eq_true rfl⟩ hP 0 rfl rfl rfl rfl hl.1 rfl (Nat.le_of_ble_eq_true rfl) dX6_addVersion_31 ⟨Nat.le_refl _, Nat.le_refl _⟩ hS (fr_in hD (fun q h => hA q (Nat.le_trans hS.1 h))) (fun v H locs hp9 hz1 hk1 hS => ?_)
      obtain ⟨rfl, hP⟩ := hp9
      have hP : va_P G vwCl (wMod T r mm pp xx 1 sv n1 ac ea le v1 v2 v3 v4 v5) H := hP
      have hD : va_D A (wMod T r mm pp xx 1 sv n1 ac ea le v1 v2 v3 v4 v5) := fr_all hD rfl
      refine W.eq (g2 := F0 m 34 ls [.int 0]) rfl ?_
      exact hret _ _ _ _ _ (show mPost G (sq (wiF x 0 998) (sq (wiF z (x + 1) 1000) (poF (bI (decide (N 0 < 8)))))) (nI (N 0)) (wMod T r (mAV mm (N 0) x z) (svP sv pp mm) xx 0 (svC sv) n1 ac ea le v1 v2 v3 v4 v5) (wMod T r mm pp xx (cmA (sq (wiF x 0 998) (sq (wiF z (x + 1) 1000) (poF (bI (decide (N 0 < 8))))))) sv n1 ac ea le v1 v2 v3 v4 v5) (some (Value.int 0)) H from ⟨_, rfl, Or.inr ⟨by simp [sq, thF, wiF, seF, dyF, poF, rfF, bI, *], by rw [show (cmA (sq (wiF x 0 998) (sq (wiF z (x + 1) 1000) (poF (bI (decide (N 0 < 8))))))) = 1 by simp [sq, thF, wiF, seF, dyF, poF, rfF, bI, cmI, cmA, cmB, cmS, nIl1, nIl2, nIl3, *]]; exact hP⟩⟩) rfl hS dX6_addVersion_34

theorem idX6_addFeature : yX6_addFeature.cls = RX6 ∧ yX6_addFeature.cls ≠ "java/lang/invoke/MethodHandle" ∧ yX6_addFeature.cls ≠ "java/lang/invoke/VarHandle" ∧ (parseMethodDescriptor yX6_addFeature.desc).map (fun d => d.parameters.length) = some 1 := by decide +kernel

set_option maxHeartbeats 4000000 in
set_option maxRecDepth 100000 in
theorem mX6_addFeature (l : Launch) {G : va_G} {T : Nat → ClassId} {H0 : Heap} {r : Nat → Nat} {N : Nat → Nat} {Z : Nat → Nat → Int32} {mm : Nat → Int32} {pp : Nat → Int32} {xx : Nat → Int32} {th : Int32} {sv : Nat} {n1 : Nat} {ac : Int32} {ea : Int32} {le : Int32} {v1 : Int32} {v2 : Int32} {v3 : Int32} {v4 : Int32} {v5 : Int32} {x : Int32} (hP : va_P G vwCl (wMod T r mm pp xx th sv n1 ac ea le v1 v2 v3 v4 v5) H0) (hD : va_D (fun _ => True) (wMod T r mm pp xx th sv n1 ac ea le v1 v2 v3 v4 v5)) (hwf : wf N Z) (hr : rel N Z mm) (hs4 : sv ≤ 4) : mu l yX6_addFeature wsX6_addFeature 1 22 [.ref (r 0), .int x] G T H0 (wMod T r mm pp xx th sv n1 ac ea le v1 v2 v3 v4 v5) (mPost G (sq (seF x (nI (N 0))) (poF (bI (decide (N 1 < 10))))) (nI (N 1)) (wMod T r (mAF mm (N 1) x) (svP sv pp mm) xx 0 (svC sv) n1 ac ea le v1 v2 v3 v4 v5) (wMod T r mm pp xx (cmA (sq (seF x (nI (N 0))) (poF (bI (decide (N 1 < 10)))))) sv n1 ac ea le v1 v2 v3 v4 v5)) := by
  refine mu_ofi (cc := cX6_addFeature) (maxL := 2) (ret := .int) (own := RX6) (by decide +kernel) rfl rfl (Nat.le_of_ble_eq_true rfl) hD ?_
  intro p e s m below meth c Q ls A S hkx hl hD hS hA hret
  obtain ⟨hx, hb, hml, hown, hts⟩ := id S
  have hl : lv_has ls 2 [(0, .ref (r 0)), (1, .int x)] := hl
  have k19 := hts (.fieldLink RX6 19 "SunsetDatesModel" "thrown" "I") (by decide +kernel)
  have iX6 : ∀ w ∈ wsX60, w ∈ wsX6_addFeature := by decide +kernel
  have k7 := hts (.fieldLink RX6 7 "SunsetDatesModel" "now" "[I") (by decide +kernel)
  have hb2 := hwf.1
  obtain ⟨hr0, hr1, hr2, hr3, hrv, hrf, hru, hrs⟩ := id hr
  refine lv_aload_n hx hb dX6_addFeature_0 rfl (lv_at hl 0 rfl) ?_
  refine lv_iconst (v := 0) hx hb dX6_addFeature_1 (by decide) ?_
  refine va_put (D := G) (ci := 6) (v := .int 0) (ty := .int) (C := RX6) (T := TX6) (N := 14) hx hb hts iX6 tyX6 tyX6_ok nmX6 hown hkx.1 hP hD hS 0 rfl rfl 1 (by decide) k19 (fun _ h9 => h9) rfl (by decide +kernel) rfl rfl (Nat.le_of_ble_eq_true rfl) dX6_addFeature_2 (fun H locs hP hD hS => ?_)
  have hP : va_P G vwCl (wMod T r mm pp xx 0 sv n1 ac ea le v1 v2 v3 v4 v5) H := hP
  have hD : va_D A (wMod T r mm pp xx 0 sv n1 ac ea le v1 v2 v3 v4 v5) := hD
  refine lv_iload_n hx hb dX6_addFeature_5 rfl (lv_at hl 1 rfl) ?_
  refine lv_iconst (v := 0) hx hb dX6_addFeature_6 (by decide) ?_
  refine lv_iconst (v := 1) hx hb dX6_addFeature_7 (by decide) ?_
  refine lv_aload_n hx hb dX6_addFeature_8 rfl (lv_at hl 0 rfl) ?_
  refine va_get (D := G) (ci := 6) (C := RX6) (T := TX6) (N := 14) hx hb hts iX6 hown hkx.1 hP 0 rfl rfl 0 (by decide) k7 (fun _ h9 => h9) rfl dX6_addFeature_9 ?_
  refine lv_iconst (v := 0) hx hb dX6_addFeature_12 (by decide) ?_
  refine ia hx hb hkx hP 1 rfl 0 rfl (by omega) (by decide) dX6_addFeature_13 ?_
  rw [hr0]
  refine lv_ishl hx hb dX6_addFeature_14 ?_
  refine lv_iconst (v := 1) hx hb dX6_addFeature_15 (by decide) ?_
  refine lv_isub hx hb dX6_addFeature_16 ?_
  refine ro_S S hkx (mX6_in l (v := x) (x := 0) (z := ((1 <<< ((nI (N 0)) &&& 31)) - 1))) gX6_addFeature_X6_in rfl idX6_in.2 ⟨Nat.le_of_ble_eq_true rfl, Nat.le_of_ble_eq_true rfl⟩ rfl hl.1 rfl (Nat.le_of_ble_eq_true rfl) dX6_addFeature_17 ⟨Nat.le_of_ble_eq_true rfl, Nat.le_of_ble_eq_true rfl⟩ (fun r_1 hr_1 => ?_)
  subst hr_1
  refine lv_if_ne (tgt := 29) hx hb dX6_addFeature_20 (by decide) (fun c_2 => ?_) (fun c_2 => ?_)
  · replace c_2 := bI_n0 c_2
    refine lv_aload_n hx hb dX6_addFeature_29 rfl (lv_at hl 0 rfl) ?_
    refine va_get (D := G) (ci := 6) (C := RX6) (T := TX6) (N := 14) hx hb hts iX6 hown hkx.1 hP 0 rfl rfl 0 (by decide) k7 (fun _ h9 => h9) rfl dX6_addFeature_30 ?_
    refine lv_iconst (v := 1) hx hb dX6_addFeature_33 (by decide) ?_
    refine ia hx hb hkx hP 1 rfl 1 rfl (by omega) (by decide) dX6_addFeature_34 ?_
    rw [hr1]
    refine lv_bipush (v := 10) hx hb dX6_addFeature_35 (by decide) ?_
    refine lv_icmp_ne (tgt := 46) hx hb dX6_addFeature_37 (by decide) (fun c_3 => ?_) (fun c_3 => ?_)
    · replace c_3 := cn_ne (a := (N 1)) (b := 10) (by omega) (by omega) c_3
      have cD : decide (N 1 < 10) = true := decide_eq_true (by omega)
      refine lv_aload_n hx hb dX6_addFeature_46 rfl (lv_at hl 0 rfl) ?_
      refine mu_V S hkx (mX6_save l (hP := hP) (hD := hD.weaken (fun _ _ _ _ => trivial)) (N := N) (Z := Z) (mm := mm) (pp := pp) (xx := xx) (th := 0) (sv := sv) (n1 := n1) (ac := ac) (ea := ea) (le := le) (v1 := v1) (v2 := v2) (v3 := v3) (v4 := v4) (v5 := v5) (hs4 := (by omega))) gX6_addFeature_X6_save rfl idX6_save ⟨Nat.le_of_ble_eq_true rfl, Nat.le_of_ble_eq_true rfl⟩ hP 0 rfl rfl rfl rfl hl.1 rfl (Nat.le_of_ble_eq_true rfl) dX6_addFeature_47 ⟨Nat.le_refl _, Nat.le_refl _⟩ hS (fr_in hD (fun q h => hA q (Nat.le_trans hS.1 h))) (fun v H locs hp9 hz1 hk1 hS => ?_)
      obtain ⟨rfl, hP⟩ := hp9
      have hP : va_P G vwCl (wMod T r mm (svP sv pp mm) xx 0 (svC sv) n1 ac ea le v1 v2 v3 v4 v5) H := hP
      have hD : va_D A (wMod T r mm (svP sv pp mm) xx 0 (svC sv) n1 ac ea le v1 v2 v3 v4 v5) := fr_all hD rfl
      refine W.eq (g2 := F0 m 50 ls []) rfl ?_
      refine lv_aload_n hx hb dX6_addFeature_50 rfl (lv_at hl 0 rfl) ?_
      refine va_get (D := G) (ci := 6) (C := RX6) (T := TX6) (N := 14) hx hb hts iX6 hown hkx.1 hP 0 rfl rfl 0 (by decide) k7 (fun _ h9 => h9) rfl dX6_addFeature_51 ?_
      refine lv_bipush (v := 28) hx hb dX6_addFeature_54 (by decide) ?_
      refine lv_aload_n hx hb dX6_addFeature_56 rfl (lv_at hl 0 rfl) ?_
      refine va_get (D := G) (ci := 6) (C := RX6) (T := TX6) (N := 14) hx hb hts iX6 hown hkx.1 hP 0 rfl rfl 0 (by decide) k7 (fun _ h9 => h9) rfl dX6_addFeature_57 ?_
      refine lv_iconst (v := 1) hx hb dX6_addFeature_60 (by decide) ?_
      refine ia hx hb hkx hP 1 rfl 1 rfl (by omega) (by decide) dX6_addFeature_61 ?_
      rw [hr1]
      refine lv_iadd hx hb dX6_addFeature_62 ?_
      rw [show (28 + (nI (N 1))) = (nI (28 + (N 1))) from nI_add 28 (N 1)]
      refine lv_iload_n hx hb dX6_addFeature_63 rfl (lv_at hl 1 rfl) ?_
      refine ist hx hb hkx hP hD hS 1 rfl (28 + (N 1)) rfl (by omega) (by decide) dX6_addFeature_64 (fun H locs hP hD hS => ?_)
      have hP : va_P G vwCl (wMod T r (upd mm (28 + (N 1)) x) (svP sv pp mm) xx 0 (svC sv) n1 ac ea le v1 v2 v3 v4 v5) H := hP
      have hD : va_D A (wMod T r (upd mm (28 + (N 1)) x) (svP sv pp mm) xx 0 (svC sv) n1 ac ea le v1 v2 v3 v4 v5) := hD
      refine lv_aload_n hx hb dX6_addFeature_65 rfl (lv_at hl 0 rfl) ?_
      refine va_get (D := G) (ci := 6) (C := RX6) (T := TX6) (N := 14) hx hb hts iX6 hown hkx.1 hP 0 rfl rfl 0 (by decide) k7 (fun _ h9 => h9) rfl dX6_addFeature_66 ?_
      refine lv_iconst (v := 1) hx hb dX6_addFeature_69 (by decide) ?_
      refine lv_dup2_11 hx hb dX6_addFeature_70 rfl rfl ?_
      refine ia hx hb hkx hP 1 rfl 1 rfl (by omega) (by decide) dX6_addFeature_71 ?_
      rw [pk_un (show 1 ≠ (28 + (N 1)) by omega), hr1]
      refine lv_iconst (v := 1) hx hb dX6_addFeature_72 (by decide) ?_
      refine lv_iadd hx hb dX6_addFeature_73 ?_
      rw [show ((nI (N 1)) + 1) = (nI ((N 1) + 1)) from nI_add (N 1) 1]
      refine ist hx hb hkx hP hD hS 1 rfl 1 rfl (by omega) (by decide) dX6_addFeature_74 (fun H locs hP hD hS => ?_)
      have hP : va_P G vwCl (wMod T r (upd (upd mm (28 + (N 1)) x) 1 (nI ((N 1) + 1))) (svP sv pp mm) xx 0 (svC sv) n1 ac ea le v1 v2 v3 v4 v5) H := hP
      have hD : va_D A (wMod T r (upd (upd mm (28 + (N 1)) x) 1 (nI ((N 1) + 1))) (svP sv pp mm) xx 0 (svC sv) n1 ac ea le v1 v2 v3 v4 v5) := hD
      refine lv_aload_n hx hb dX6_addFeature_75 rfl (lv_at hl 0 rfl) ?_
      refine va_get (D := G) (ci := 6) (C := RX6) (T := TX6) (N := 14) hx hb hts iX6 hown hkx.1 hP 0 rfl rfl 0 (by decide) k7 (fun _ h9 => h9) rfl dX6_addFeature_76 ?_
      refine lv_iconst (v := 1) hx hb dX6_addFeature_79 (by decide) ?_
      refine ia hx hb hkx hP 1 rfl 1 rfl (by omega) (by decide) dX6_addFeature_80 ?_
      rw [pk_us]
      refine lv_iconst (v := 1) hx hb dX6_addFeature_81 (by decide) ?_
      refine lv_isub hx hb dX6_addFeature_82 ?_
      rw [show ((nI ((N 1) + 1)) - 1) = (nI (((N 1) + 1) - 1)) from pk_sub (a := ((N 1) + 1)) (b := 1) (by omega)]
      exact hret _ _ _ _ _ (show mPost G (sq (seF x (nI (N 0))) (poF (bI (decide (N 1 < 10))))) (nI (N 1)) (wMod T r (mAF mm (N 1) x) (svP sv pp mm) xx 0 (svC sv) n1 ac ea le v1 v2 v3 v4 v5) (wMod T r mm pp xx (cmA (sq (seF x (nI (N 0))) (poF (bI (decide (N 1 < 10)))))) sv n1 ac ea le v1 v2 v3 v4 v5) (some (Value.int (nI (((N 1) + 1) - 1)))) H from ⟨_, rfl, Or.inl ⟨by simp [sq, thF, wiF, seF, dyF, poF, rfF, bI, *], by rfl, by exact hP⟩⟩) rfl hS dX6_addFeature_83
    · replace c_3 := cn_eq (a := (N 1)) (b := 10) (by omega) (by omega) c_3
      have cD : decide (N 1 < 10) = false := decide_eq_false (by omega)
      refine lv_aload_n hx hb dX6_addFeature_40 rfl (lv_at hl 0 rfl) ?_
      refine lv_iconst (v := 2) hx hb dX6_addFeature_41 (by decide) ?_
      refine mu_V S hkx (mX6_refused l (hP := hP) (hD := hD.weaken (fun _ _ _ _ => trivial)) (N := N) (Z := Z) (mm := mm) (pp := pp) (xx := xx) (th := 0) (sv := sv) (n1 := n1) (ac := ac) (ea := ea) (le := le) (v1 := v1) (v2 := v2) (v3 := v3) (v4 := v4) (v5 := v5) (x := 2)) gX6_addFeature_X6_refused rfl idX6_refused ⟨Nat.le_of_ble_eq_true rfl, Nat.le_of_ble_eq_true rfl⟩ hP 0 rfl rfl rfl rfl hl.1 rfl (Nat.le_of_ble_eq_true rfl) dX6_addFeature_42 ⟨Nat.le_refl _, Nat.le_refl _⟩ hS (fr_in hD (fun q h => hA q (Nat.le_trans hS.1 h))) (fun v H locs hp9 hz1 hk1 hS => ?_)
      obtain ⟨rfl, hP⟩ := hp9
      have hP : va_P G vwCl (wMod T r mm pp xx 2 sv n1 ac ea le v1 v2 v3 v4 v5) H := hP
      have hD : va_D A (wMod T r mm pp xx 2 sv n1 ac ea le v1 v2 v3 v4 v5) := fr_all hD rfl
      refine W.eq (g2 := F0 m 45 ls [.int 0]) rfl ?_
      exact hret _ _ _ _ _ (show mPost G (sq (seF x (nI (N 0))) (poF (bI (decide (N 1 < 10))))) (nI (N 1)) (wMod T r (mAF mm (N 1) x) (svP sv pp mm) xx 0 (svC sv) n1 ac ea le v1 v2 v3 v4 v5) (wMod T r mm pp xx (cmA (sq (seF x (nI (N 0))) (poF (bI (decide (N 1 < 10)))))) sv n1 ac ea le v1 v2 v3 v4 v5) (some (Value.int 0)) H from ⟨_, rfl, Or.inr ⟨by simp [sq, thF, wiF, seF, dyF, poF, rfF, bI, *], by rw [show (cmA (sq (seF x (nI (N 0))) (poF (bI (decide (N 1 < 10)))))) = 2 by simp [sq, thF, wiF, seF, dyF, poF, rfF, bI, cmI, cmA, cmB, cmS, nIl1, nIl2, nIl3, *]]; exact hP⟩⟩) rfl hS dX6_addFeature_45
  · replace c_2 := bI_e0 c_2
    refine lv_aload_n hx hb dX6_addFeature_23 rfl (lv_at hl 0 rfl) ?_
    refine lv_iconst (v := 1) hx hb dX6_addFeature_24 (by decide) ?_
    refine mu_V S hkx (mX6_refused l (hP := hP) (hD := hD.weaken (fun _ _ _ _ => trivial)) (N := N) (Z := Z) (mm := mm) (pp := pp) (xx := xx) (th := 0) (sv := sv) (n1 := n1) (ac := ac) (ea := ea) (le := le) (v1 := v1) (v2 := v2) (v3 := v3) (v4 := v4) (v5 := v5) (x := 1)) gX6_addFeature_X6_refused rfl idX6_refused ⟨Nat.le_of_ble_eq_true rfl, Nat.le_of_ble_eq_true rfl⟩ hP 0 rfl rfl rfl rfl hl.1 rfl (Nat.le_of_ble_eq_true rfl) dX6_addFeature_25 ⟨Nat.le_refl _, Nat.le_refl _⟩ hS (fr_in hD (fun q h => hA q (Nat.le_trans hS.1 h))) (fun v H locs hp9 hz1 hk1 hS => ?_)
    obtain ⟨rfl, hP⟩ := hp9
    have hP : va_P G vwCl (wMod T r mm pp xx 1 sv n1 ac ea le v1 v2 v3 v4 v5) H := hP
    have hD : va_D A (wMod T r mm pp xx 1 sv n1 ac ea le v1 v2 v3 v4 v5) := fr_all hD rfl
    refine W.eq (g2 := F0 m 28 ls [.int 0]) rfl ?_
    exact hret _ _ _ _ _ (show mPost G (sq (seF x (nI (N 0))) (poF (bI (decide (N 1 < 10))))) (nI (N 1)) (wMod T r (mAF mm (N 1) x) (svP sv pp mm) xx 0 (svC sv) n1 ac ea le v1 v2 v3 v4 v5) (wMod T r mm pp xx (cmA (sq (seF x (nI (N 0))) (poF (bI (decide (N 1 < 10)))))) sv n1 ac ea le v1 v2 v3 v4 v5) (some (Value.int 0)) H from ⟨_, rfl, Or.inr ⟨by simp [sq, thF, wiF, seF, dyF, poF, rfF, bI, *], by rw [show (cmA (sq (seF x (nI (N 0))) (poF (bI (decide (N 1 < 10)))))) = 1 by simp [sq, thF, wiF, seF, dyF, poF, rfF, bI, cmI, cmA, cmB, cmS, nIl1, nIl2, nIl3, *]]; exact hP⟩⟩) rfl hS dX6_addFeature_28

theorem idX6_addUser : yX6_addUser.cls = RX6 ∧ yX6_addUser.cls ≠ "java/lang/invoke/MethodHandle" ∧ yX6_addUser.cls ≠ "java/lang/invoke/VarHandle" ∧ (parseMethodDescriptor yX6_addUser.desc).map (fun d => d.parameters.length) = some 2 := by decide +kernel

set_option maxHeartbeats 4000000 in
set_option maxRecDepth 100000 in
theorem mX6_addUser (l : Launch) {G : va_G} {T : Nat → ClassId} {H0 : Heap} {r : Nat → Nat} {N : Nat → Nat} {Z : Nat → Nat → Int32} {mm : Nat → Int32} {pp : Nat → Int32} {xx : Nat → Int32} {th : Int32} {sv : Nat} {n1 : Nat} {ac : Int32} {ea : Int32} {le : Int32} {v1 : Int32} {v2 : Int32} {v3 : Int32} {v4 : Int32} {v5 : Int32} {v : Int32} {x : Int32} (hP : va_P G vwCl (wMod T r mm pp xx th sv n1 ac ea le v1 v2 v3 v4 v5) H0) (hD : va_D (fun _ => True) (wMod T r mm pp xx th sv n1 ac ea le v1 v2 v3 v4 v5)) (hwf : wf N Z) (hr : rel N Z mm) (hs4 : sv ≤ 4) : mu l yX6_addUser wsX6_addUser 2 43 [.ref (r 0), .int v, .int x] G T H0 (wMod T r mm pp xx th sv n1 ac ea le v1 v2 v3 v4 v5) (mPost G (sq (thF v (nI (N 0))) (sq (seF x (nI (N 1))) (poF (bI (decide (N 2 < 10)))))) (nI (N 2)) (wMod T r (mAU mm (N 2) v x) (svP sv pp mm) xx 0 (svC sv) n1 ac ea le v1 v2 v3 v4 v5) (wMod T r mm pp xx (cmI (sq (thF v (nI (N 0))) (sq (seF x (nI (N 1))) (poF (bI (decide (N 2 < 10))))))) sv n1 ac ea le v1 v2 v3 v4 v5)) := by
  refine mu_ofi (cc := cX6_addUser) (maxL := 4) (ret := .int) (own := RX6) (by decide +kernel) rfl rfl (Nat.le_of_ble_eq_true rfl) hD ?_
  intro p e s m below meth c Q ls A S hkx hl hD hS hA hret
  obtain ⟨hx, hb, hml, hown, hts⟩ := id S
  have hl : lv_has ls 4 [(0, .ref (r 0)), (1, .int v), (2, .int x)] := hl
  have k19 := hts (.fieldLink RX6 19 "SunsetDatesModel" "thrown" "I") (by decide +kernel)
  have iX6 : ∀ w ∈ wsX60, w ∈ wsX6_addUser := by decide +kernel
  have k7 := hts (.fieldLink RX6 7 "SunsetDatesModel" "now" "[I") (by decide +kernel)
  have hb2 := hwf.1
  obtain ⟨hr0, hr1, hr2, hr3, hrv, hrf, hru, hrs⟩ := id hr
  refine lv_aload_n hx hb dX6_addUser_0 rfl (lv_at hl 0 rfl) ?_
  refine lv_iconst (v := 0) hx hb dX6_addUser_1 (by decide) ?_
  refine va_put (D := G) (ci := 6) (v := .int 0) (ty := .int) (C := RX6) (T := TX6) (N := 14) hx hb hts iX6 tyX6 tyX6_ok nmX6 hown hkx.1 hP hD hS 0 rfl rfl 1 (by decide) k19 (fun _ h9 => h9) rfl (by decide +kernel) rfl rfl (Nat.le_of_ble_eq_true rfl) dX6_addUser_2 (fun H locs hP hD hS => ?_)
  have hP : va_P G vwCl (wMod T r mm pp xx 0 sv n1 ac ea le v1 v2 v3 v4 v5) H := hP
  have hD : va_D A (wMod T r mm pp xx 0 sv n1 ac ea le v1 v2 v3 v4 v5) := hD
  refine lv_aload_n hx hb dX6_addUser_5 rfl (lv_at hl 0 rfl) ?_
  refine lv_iload_n hx hb dX6_addUser_6 rfl (lv_at hl 1 rfl) ?_
  refine ro_V S hkx (mX6_isVersion l (v := v) (hP := hP) (hwf := hwf) (hr := hr)) gX6_addUser_X6_isVersion rfl idX6_isVersion ⟨Nat.le_of_ble_eq_true rfl, Nat.le_of_ble_eq_true rfl⟩ hP 0 rfl rfl rfl rfl hl.1 rfl (Nat.le_of_ble_eq_true rfl) dX6_addUser_7 ⟨Nat.le_of_ble_eq_true rfl, Nat.le_of_ble_eq_true rfl⟩ (fun r_1 hr_1 => ?_)
  subst hr_1
  refine lv_if_ne (tgt := 19) hx hb dX6_addUser_10 (by decide) (fun c_2 => ?_) (fun c_2 => ?_)
  · replace c_2 := bI_n0 c_2
    refine lv_iload_n hx hb dX6_addUser_19 rfl (lv_at hl 2 rfl) ?_
    refine lv_iconst (v := 0) hx hb dX6_addUser_20 (by decide) ?_
    refine lv_iconst (v := 1) hx hb dX6_addUser_21 (by decide) ?_
    refine lv_aload_n hx hb dX6_addUser_22 rfl (lv_at hl 0 rfl) ?_
    refine va_get (D := G) (ci := 6) (C := RX6) (T := TX6) (N := 14) hx hb hts iX6 hown hkx.1 hP 0 rfl rfl 0 (by decide) k7 (fun _ h9 => h9) rfl dX6_addUser_23 ?_
    refine lv_iconst (v := 1) hx hb dX6_addUser_26 (by decide) ?_
    refine ia hx hb hkx hP 1 rfl 1 rfl (by omega) (by decide) dX6_addUser_27 ?_
    rw [hr1]
    refine lv_ishl hx hb dX6_addUser_28 ?_
    refine lv_iconst (v := 1) hx hb dX6_addUser_29 (by decide) ?_
    refine lv_isub hx hb dX6_addUser_30 ?_
    refine ro_S S hkx (mX6_in l (v := x) (x := 0) (z := ((1 <<< ((nI (N 1)) &&& 31)) - 1))) gX6_addUser_X6_in rfl idX6_in.2 ⟨Nat.le_of_ble_eq_true rfl, Nat.le_of_ble_eq_true rfl⟩ rfl hl.1 rfl (Nat.le_of_ble_eq_true rfl) dX6_addUser_31 ⟨Nat.le_of_ble_eq_true rfl, Nat.le_of_ble_eq_true rfl⟩ (fun r_3 hr_3 => ?_)
    subst hr_3
    refine lv_if_ne (tgt := 43) hx hb dX6_addUser_34 (by decide) (fun c_4 => ?_) (fun c_4 => ?_)
    · replace c_4 := bI_n0 c_4
      refine lv_aload_n hx hb dX6_addUser_43 rfl (lv_at hl 0 rfl) ?_
      refine va_get (D := G) (ci := 6) (C := RX6) (T := TX6) (N := 14) hx hb hts iX6 hown hkx.1 hP 0 rfl rfl 0 (by decide) k7 (fun _ h9 => h9) rfl dX6_addUser_44 ?_
      refine lv_iconst (v := 2) hx hb dX6_addUser_47 (by decide) ?_
      refine ia hx hb hkx hP 1 rfl 2 rfl (by omega) (by decide) dX6_addUser_48 ?_
      rw [hr2]
      refine lv_bipush (v := 10) hx hb dX6_addUser_49 (by decide) ?_
      refine lv_icmp_ne (tgt := 60) hx hb dX6_addUser_51 (by decide) (fun c_5 => ?_) (fun c_5 => ?_)
      · replace c_5 := cn_ne (a := (N 2)) (b := 10) (by omega) (by omega) c_5
        have cD : decide (N 2 < 10) = true := decide_eq_true (by omega)
        refine lv_aload_n hx hb dX6_addUser_60 rfl (lv_at hl 0 rfl) ?_
        refine mu_V S hkx (mX6_save l (hP := hP) (hD := hD.weaken (fun _ _ _ _ => trivial)) (N := N) (Z := Z) (mm := mm) (pp := pp) (xx := xx) (th := 0) (sv := sv) (n1 := n1) (ac := ac) (ea := ea) (le := le) (v1 := v1) (v2 := v2) (v3 := v3) (v4 := v4) (v5 := v5) (hs4 := (by omega))) gX6_addUser_X6_save rfl idX6_save ⟨Nat.le_of_ble_eq_true rfl, Nat.le_of_ble_eq_true rfl⟩ hP 0 rfl rfl rfl rfl hl.1 rfl (Nat.le_of_ble_eq_true rfl) dX6_addUser_61 ⟨Nat.le_refl _, Nat.le_refl _⟩ hS (fr_in hD (fun q h => hA q (Nat.le_trans hS.1 h))) (fun v H locs hp9 hz1 hk1 hS => ?_)
        obtain ⟨rfl, hP⟩ := hp9
        have hP : va_P G vwCl (wMod T r mm (svP sv pp mm) xx 0 (svC sv) n1 ac ea le v1 v2 v3 v4 v5) H := hP
        have hD : va_D A (wMod T r mm (svP sv pp mm) xx 0 (svC sv) n1 ac ea le v1 v2 v3 v4 v5) := fr_all hD rfl
        refine W.eq (g2 := F0 m 64 ls []) rfl ?_
        refine lv_bipush (v := 38) hx hb dX6_addUser_64 (by decide) ?_
        refine lv_bipush (v := 6) hx hb dX6_addUser_66 (by decide) ?_
        refine lv_aload_n hx hb dX6_addUser_68 rfl (lv_at hl 0 rfl) ?_
        refine va_get (D := G) (ci := 6) (C := RX6) (T := TX6) (N := 14) hx hb hts iX6 hown hkx.1 hP 0 rfl rfl 0 (by decide) k7 (fun _ h9 => h9) rfl dX6_addUser_69 ?_
        refine lv_iconst (v := 2) hx hb dX6_addUser_72 (by decide) ?_
        refine ia hx hb hkx hP 1 rfl 2 rfl (by omega) (by decide) dX6_addUser_73 ?_
        rw [hr2]
        refine lv_imul hx hb dX6_addUser_74 ?_
        rw [show (6 * (nI (N 2))) = (nI (6 * (N 2))) from pk_mul _ _]
        refine lv_iadd hx hb dX6_addUser_75 ?_
        rw [show (38 + (nI (6 * (N 2)))) = (nI (38 + (6 * (N 2)))) from nI_add 38 (6 * (N 2))]
        refine lv_istore_n (lv' := [(3, .int (nI (38 + (6 * (N 2))))), (0, .ref (r 0)), (1, .int v), (2, .int x)]) hx hb dX6_addUser_76 rfl hl (by decide) rfl (fun ls hl => ?_)
        refine lv_aload_n hx hb dX6_addUser_77 rfl (lv_at hl 1 rfl) ?_
        refine va_get (D := G) (ci := 6) (C := RX6) (T := TX6) (N := 14) hx hb hts iX6 hown hkx.1 hP 0 rfl rfl 0 (by decide) k7 (fun _ h9 => h9) rfl dX6_addUser_78 ?_
        refine lv_iload_n hx hb dX6_addUser_81 rfl (lv_at hl 0 rfl) ?_
        refine lv_iload_n hx hb dX6_addUser_82 rfl (lv_at hl 2 rfl) ?_
        refine ist hx hb hkx hP hD hS 1 rfl (38 + (6 * (N 2))) rfl (by omega) (by decide) dX6_addUser_83 (fun H locs hP hD hS => ?_)
        have hP : va_P G vwCl (wMod T r (upd mm (38 + (6 * (N 2))) v) (svP sv pp mm) xx 0 (svC sv) n1 ac ea le v1 v2 v3 v4 v5) H := hP
        have hD : va_D A (wMod T r (upd mm (38 + (6 * (N 2))) v) (svP sv pp mm) xx 0 (svC sv) n1 ac ea le v1 v2 v3 v4 v5) := hD
        refine lv_aload_n hx hb dX6_addUser_84 rfl (lv_at hl 1 rfl) ?_
        refine va_get (D := G) (ci := 6) (C := RX6) (T := TX6) (N := 14) hx hb hts iX6 hown hkx.1 hP 0 rfl rfl 0 (by decide) k7 (fun _ h9 => h9) rfl dX6_addUser_85 ?_
        refine lv_iload_n hx hb dX6_addUser_88 rfl (lv_at hl 0 rfl) ?_
        refine lv_iconst (v := 1) hx hb dX6_addUser_89 (by decide) ?_
        refine lv_iadd hx hb dX6_addUser_90 ?_
        rw [show ((nI (38 + (6 * (N 2)))) + 1) = (nI ((38 + (6 * (N 2))) + 1)) from nI_add (38 + (6 * (N 2))) 1]
        refine lv_iload_n hx hb dX6_addUser_91 rfl (lv_at hl 3 rfl) ?_
        refine ist hx hb hkx hP hD hS 1 rfl ((38 + (6 * (N 2))) + 1) rfl (by omega) (by decide) dX6_addUser_92 (fun H locs hP hD hS => ?_)
        have hP : va_P G vwCl (wMod T r (upd (upd mm (38 + (6 * (N 2))) v) ((38 + (6 * (N 2))) + 1) x) (svP sv pp mm) xx 0 (svC sv) n1 ac ea le v1 v2 v3 v4 v5) H := hP
        have hD : va_D A (wMod T r (upd (upd mm (38 + (6 * (N 2))) v) ((38 + (6 * (N 2))) + 1) x) (svP sv pp mm) xx 0 (svC sv) n1 ac ea le v1 v2 v3 v4 v5) := hD
        refine lv_aload_n hx hb dX6_addUser_93 rfl (lv_at hl 1 rfl) ?_
        refine va_get (D := G) (ci := 6) (C := RX6) (T := TX6) (N := 14) hx hb hts iX6 hown hkx.1 hP 0 rfl rfl 0 (by decide) k7 (fun _ h9 => h9) rfl dX6_addUser_94 ?_
        refine lv_iload_n hx hb dX6_addUser_97 rfl (lv_at hl 0 rfl) ?_
        refine lv_iconst (v := 2) hx hb dX6_addUser_98 (by decide) ?_
        refine lv_iadd hx hb dX6_addUser_99 ?_
        rw [show ((nI (38 + (6 * (N 2)))) + 2) = (nI ((38 + (6 * (N 2))) + 2)) from nI_add (38 + (6 * (N 2))) 2]
        refine lv_iconst (v := (-1)) hx hb dX6_addUser_100 (by decide) ?_
        refine ist hx hb hkx hP hD hS 1 rfl ((38 + (6 * (N 2))) + 2) rfl (by omega) (by decide) dX6_addUser_101 (fun H locs hP hD hS => ?_)
        have hP : va_P G vwCl (wMod T r (upd (upd (upd mm (38 + (6 * (N 2))) v) ((38 + (6 * (N 2))) + 1) x) ((38 + (6 * (N 2))) + 2) (-1)) (svP sv pp mm) xx 0 (svC sv) n1 ac ea le v1 v2 v3 v4 v5) H := hP
        have hD : va_D A (wMod T r (upd (upd (upd mm (38 + (6 * (N 2))) v) ((38 + (6 * (N 2))) + 1) x) ((38 + (6 * (N 2))) + 2) (-1)) (svP sv pp mm) xx 0 (svC sv) n1 ac ea le v1 v2 v3 v4 v5) := hD
        refine lv_aload_n hx hb dX6_addUser_102 rfl (lv_at hl 1 rfl) ?_
        refine va_get (D := G) (ci := 6) (C := RX6) (T := TX6) (N := 14) hx hb hts iX6 hown hkx.1 hP 0 rfl rfl 0 (by decide) k7 (fun _ h9 => h9) rfl dX6_addUser_103 ?_
        refine lv_iload_n hx hb dX6_addUser_106 rfl (lv_at hl 0 rfl) ?_
        refine lv_iconst (v := 3) hx hb dX6_addUser_107 (by decide) ?_
        refine lv_iadd hx hb dX6_addUser_108 ?_
        rw [show ((nI (38 + (6 * (N 2)))) + 3) = (nI ((38 + (6 * (N 2))) + 3)) from nI_add (38 + (6 * (N 2))) 3]
        refine lv_iconst (v := (-1)) hx hb dX6_addUser_109 (by decide) ?_
        refine ist hx hb hkx hP hD hS 1 rfl ((38 + (6 * (N 2))) + 3) rfl (by omega) (by decide) dX6_addUser_110 (fun H locs hP hD hS => ?_)
        have hP : va_P G vwCl (wMod T r (upd (upd (upd (upd mm (38 + (6 * (N 2))) v) ((38 + (6 * (N 2))) + 1) x) ((38 + (6 * (N 2))) + 2) (-1)) ((38 + (6 * (N 2))) + 3) (-1)) (svP sv pp mm) xx 0 (svC sv) n1 ac ea le v1 v2 v3 v4 v5) H := hP
        have hD : va_D A (wMod T r (upd (upd (upd (upd mm (38 + (6 * (N 2))) v) ((38 + (6 * (N 2))) + 1) x) ((38 + (6 * (N 2))) + 2) (-1)) ((38 + (6 * (N 2))) + 3) (-1)) (svP sv pp mm) xx 0 (svC sv) n1 ac ea le v1 v2 v3 v4 v5) := hD
        refine lv_aload_n hx hb dX6_addUser_111 rfl (lv_at hl 1 rfl) ?_
        refine va_get (D := G) (ci := 6) (C := RX6) (T := TX6) (N := 14) hx hb hts iX6 hown hkx.1 hP 0 rfl rfl 0 (by decide) k7 (fun _ h9 => h9) rfl dX6_addUser_112 ?_
        refine lv_iload_n hx hb dX6_addUser_115 rfl (lv_at hl 0 rfl) ?_
        refine lv_iconst (v := 4) hx hb dX6_addUser_116 (by decide) ?_
        refine lv_iadd hx hb dX6_addUser_117 ?_
        rw [show ((nI (38 + (6 * (N 2)))) + 4) = (nI ((38 + (6 * (N 2))) + 4)) from nI_add (38 + (6 * (N 2))) 4]
        refine lv_iconst (v := 0) hx hb dX6_addUser_118 (by decide) ?_
        refine ist hx hb hkx hP hD hS 1 rfl ((38 + (6 * (N 2))) + 4) rfl (by omega) (by decide) dX6_addUser_119 (fun H locs hP hD hS => ?_)
        have hP : va_P G vwCl (wMod T r (upd (upd (upd (upd (upd mm (38 + (6 * (N 2))) v) ((38 + (6 * (N 2))) + 1) x) ((38 + (6 * (N 2))) + 2) (-1)) ((38 + (6 * (N 2))) + 3) (-1)) ((38 + (6 * (N 2))) + 4) 0) (svP sv pp mm) xx 0 (svC sv) n1 ac ea le v1 v2 v3 v4 v5) H := hP
        have hD : va_D A (wMod T r (upd (upd (upd (upd (upd mm (38 + (6 * (N 2))) v) ((38 + (6 * (N 2))) + 1) x) ((38 + (6 * (N 2))) + 2) (-1)) ((38 + (6 * (N 2))) + 3) (-1)) ((38 + (6 * (N 2))) + 4) 0) (svP sv pp mm) xx 0 (svC sv) n1 ac ea le v1 v2 v3 v4 v5) := hD
        refine lv_aload_n hx hb dX6_addUser_120 rfl (lv_at hl 1 rfl) ?_
        refine va_get (D := G) (ci := 6) (C := RX6) (T := TX6) (N := 14) hx hb hts iX6 hown hkx.1 hP 0 rfl rfl 0 (by decide) k7 (fun _ h9 => h9) rfl dX6_addUser_121 ?_
        refine lv_iload_n hx hb dX6_addUser_124 rfl (lv_at hl 0 rfl) ?_
        refine lv_iconst (v := 5) hx hb dX6_addUser_125 (by decide) ?_
        refine lv_iadd hx hb dX6_addUser_126 ?_
        rw [show ((nI (38 + (6 * (N 2)))) + 5) = (nI ((38 + (6 * (N 2))) + 5)) from nI_add (38 + (6 * (N 2))) 5]
        refine lv_iconst (v := 0) hx hb dX6_addUser_127 (by decide) ?_
        refine ist hx hb hkx hP hD hS 1 rfl ((38 + (6 * (N 2))) + 5) rfl (by omega) (by decide) dX6_addUser_128 (fun H locs hP hD hS => ?_)
        have hP : va_P G vwCl (wMod T r (upd (upd (upd (upd (upd (upd mm (38 + (6 * (N 2))) v) ((38 + (6 * (N 2))) + 1) x) ((38 + (6 * (N 2))) + 2) (-1)) ((38 + (6 * (N 2))) + 3) (-1)) ((38 + (6 * (N 2))) + 4) 0) ((38 + (6 * (N 2))) + 5) 0) (svP sv pp mm) xx 0 (svC sv) n1 ac ea le v1 v2 v3 v4 v5) H := hP
        have hD : va_D A (wMod T r (upd (upd (upd (upd (upd (upd mm (38 + (6 * (N 2))) v) ((38 + (6 * (N 2))) + 1) x) ((38 + (6 * (N 2))) + 2) (-1)) ((38 + (6 * (N 2))) + 3) (-1)) ((38 + (6 * (N 2))) + 4) 0) ((38 + (6 * (N 2))) + 5) 0) (svP sv pp mm) xx 0 (svC sv) n1 ac ea le v1 v2 v3 v4 v5) := hD
        refine lv_aload_n hx hb dX6_addUser_129 rfl (lv_at hl 1 rfl) ?_
        refine va_get (D := G) (ci := 6) (C := RX6) (T := TX6) (N := 14) hx hb hts iX6 hown hkx.1 hP 0 rfl rfl 0 (by decide) k7 (fun _ h9 => h9) rfl dX6_addUser_130 ?_
        refine lv_iconst (v := 2) hx hb dX6_addUser_133 (by decide) ?_
        refine lv_dup2_11 hx hb dX6_addUser_134 rfl rfl ?_
        refine ia hx hb hkx hP 1 rfl 2 rfl (by omega) (by decide) dX6_addUser_135 ?_
        rw [pk_un (show 2 ≠ ((38 + (6 * (N 2))) + 5) by omega), pk_un (show 2 ≠ ((38 + (6 * (N 2))) + 4) by omega), pk_un (show 2 ≠ ((38 + (6 * (N 2))) + 3) by omega), pk_un (show 2 ≠ ((38 + (6 * (N 2))) + 2) by omega), pk_un (show 2 ≠ ((38 + (6 * (N 2))) + 1) by omega), pk_un (show 2 ≠ (38 + (6 * (N 2))) by omega), hr2]
        refine lv_iconst (v := 1) hx hb dX6_addUser_136 (by decide) ?_
        refine lv_iadd hx hb dX6_addUser_137 ?_
        rw [show ((nI (N 2)) + 1) = (nI ((N 2) + 1)) from nI_add (N 2) 1]
        refine ist hx hb hkx hP hD hS 1 rfl 2 rfl (by omega) (by decide) dX6_addUser_138 (fun H locs hP hD hS => ?_)
        have hP : va_P G vwCl (wMod T r (upd (upd (upd (upd (upd (upd (upd mm (38 + (6 * (N 2))) v) ((38 + (6 * (N 2))) + 1) x) ((38 + (6 * (N 2))) + 2) (-1)) ((38 + (6 * (N 2))) + 3) (-1)) ((38 + (6 * (N 2))) + 4) 0) ((38 + (6 * (N 2))) + 5) 0) 2 (nI ((N 2) + 1))) (svP sv pp mm) xx 0 (svC sv) n1 ac ea le v1 v2 v3 v4 v5) H := hP
        have hD : va_D A (wMod T r (upd (upd (upd (upd (upd (upd (upd mm (38 + (6 * (N 2))) v) ((38 + (6 * (N 2))) + 1) x) ((38 + (6 * (N 2))) + 2) (-1)) ((38 + (6 * (N 2))) + 3) (-1)) ((38 + (6 * (N 2))) + 4) 0) ((38 + (6 * (N 2))) + 5) 0) 2 (nI ((N 2) + 1))) (svP sv pp mm) xx 0 (svC sv) n1 ac ea le v1 v2 v3 v4 v5) := hD
        refine lv_aload_n hx hb dX6_addUser_139 rfl (lv_at hl 1 rfl) ?_
        refine va_get (D := G) (ci := 6) (C := RX6) (T := TX6) (N := 14) hx hb hts iX6 hown hkx.1 hP 0 rfl rfl 0 (by decide) k7 (fun _ h9 => h9) rfl dX6_addUser_140 ?_
        refine lv_iconst (v := 2) hx hb dX6_addUser_143 (by decide) ?_
        refine ia hx hb hkx hP 1 rfl 2 rfl (by omega) (by decide) dX6_addUser_144 ?_
        rw [pk_us]
        refine lv_iconst (v := 1) hx hb dX6_addUser_145 (by decide) ?_
        refine lv_isub hx hb dX6_addUser_146 ?_
        rw [show ((nI ((N 2) + 1)) - 1) = (nI (((N 2) + 1) - 1)) from pk_sub (a := ((N 2) + 1)) (b := 1) (by omega)]
        exact hret _ _ _ _ _ (show mPost G (sq (thF v (nI (N 0))) (sq (seF x (nI (N 1))) (poF (bI (decide (N 2 < 10)))))) (nI (N 2)) (wMod T r (mAU mm (N 2) v x) (svP sv pp mm) xx 0 (svC sv) n1 ac ea le v1 v2 v3 v4 v5) (wMod T r mm pp xx (cmI (sq (thF v (nI (N 0))) (sq (seF x (nI (N 1))) (poF (bI (decide (N 2 < 10))))))) sv n1 ac ea le v1 v2 v3 v4 v5) (some (Value.int (nI (((N 2) + 1) - 1)))) H from ⟨_, rfl, Or.inl ⟨by simp [sq, thF, wiF, seF, dyF, poF, rfF, bI, *], by rfl, by exact hP⟩⟩) rfl hS dX6_addUser_147
      · replace c_5 := cn_eq (a := (N 2)) (b := 10) (by omega) (by omega) c_5
        have cD : decide (N 2 < 10) = false := decide_eq_false (by omega)
        refine lv_aload_n hx hb dX6_addUser_54 rfl (lv_at hl 0 rfl) ?_
        refine lv_iconst (v := 3) hx hb dX6_addUser_55 (by decide) ?_
        refine mu_V S hkx (mX6_refused l (hP := hP) (hD := hD.weaken (fun _ _ _ _ => trivial)) (N := N) (Z := Z) (mm := mm) (pp := pp) (xx := xx) (th := 0) (sv := sv) (n1 := n1) (ac := ac) (ea := ea) (le := le) (v1 := v1) (v2 := v2) (v3 := v3) (v4 := v4) (v5 := v5) (x := 3)) gX6_addUser_X6_refused rfl idX6_refused ⟨Nat.le_of_ble_eq_true rfl, Nat.le_of_ble_eq_true rfl⟩ hP 0 rfl rfl rfl rfl hl.1 rfl (Nat.le_of_ble_eq_true rfl) dX6_addUser_56 ⟨Nat.le_refl _, Nat.le_refl _⟩ hS (fr_in hD (fun q h => hA q (Nat.le_trans hS.1 h))) (fun v H locs hp9 hz1 hk1 hS => ?_)
        obtain ⟨rfl, hP⟩ := hp9
        have hP : va_P G vwCl (wMod T r mm pp xx 3 sv n1 ac ea le v1 v2 v3 v4 v5) H := hP
        have hD : va_D A (wMod T r mm pp xx 3 sv n1 ac ea le v1 v2 v3 v4 v5) := fr_all hD rfl
        refine W.eq (g2 := F0 m 59 ls [.int 0]) rfl ?_
        exact hret _ _ _ _ _ (show mPost G (sq (thF v (nI (N 0))) (sq (seF x (nI (N 1))) (poF (bI (decide (N 2 < 10)))))) (nI (N 2)) (wMod T r (mAU mm (N 2) v x) (svP sv pp mm) xx 0 (svC sv) n1 ac ea le v1 v2 v3 v4 v5) (wMod T r mm pp xx (cmI (sq (thF v (nI (N 0))) (sq (seF x (nI (N 1))) (poF (bI (decide (N 2 < 10))))))) sv n1 ac ea le v1 v2 v3 v4 v5) (some (Value.int 0)) H from ⟨_, rfl, Or.inr ⟨by simp [sq, thF, wiF, seF, dyF, poF, rfF, bI, *], by rw [show (cmI (sq (thF v (nI (N 0))) (sq (seF x (nI (N 1))) (poF (bI (decide (N 2 < 10))))))) = 3 by simp [sq, thF, wiF, seF, dyF, poF, rfF, bI, cmI, cmA, cmB, cmS, nIl1, nIl2, nIl3, *]]; exact hP⟩⟩) rfl hS dX6_addUser_59
    · replace c_4 := bI_e0 c_4
      refine lv_aload_n hx hb dX6_addUser_37 rfl (lv_at hl 0 rfl) ?_
      refine lv_iconst (v := 2) hx hb dX6_addUser_38 (by decide) ?_
      refine mu_V S hkx (mX6_refused l (hP := hP) (hD := hD.weaken (fun _ _ _ _ => trivial)) (N := N) (Z := Z) (mm := mm) (pp := pp) (xx := xx) (th := 0) (sv := sv) (n1 := n1) (ac := ac) (ea := ea) (le := le) (v1 := v1) (v2 := v2) (v3 := v3) (v4 := v4) (v5 := v5) (x := 2)) gX6_addUser_X6_refused rfl idX6_refused ⟨Nat.le_of_ble_eq_true rfl, Nat.le_of_ble_eq_true rfl⟩ hP 0 rfl rfl rfl rfl hl.1 rfl (Nat.le_of_ble_eq_true rfl) dX6_addUser_39 ⟨Nat.le_refl _, Nat.le_refl _⟩ hS (fr_in hD (fun q h => hA q (Nat.le_trans hS.1 h))) (fun v H locs hp9 hz1 hk1 hS => ?_)
      obtain ⟨rfl, hP⟩ := hp9
      have hP : va_P G vwCl (wMod T r mm pp xx 2 sv n1 ac ea le v1 v2 v3 v4 v5) H := hP
      have hD : va_D A (wMod T r mm pp xx 2 sv n1 ac ea le v1 v2 v3 v4 v5) := fr_all hD rfl
      refine W.eq (g2 := F0 m 42 ls [.int 0]) rfl ?_
      exact hret _ _ _ _ _ (show mPost G (sq (thF v (nI (N 0))) (sq (seF x (nI (N 1))) (poF (bI (decide (N 2 < 10)))))) (nI (N 2)) (wMod T r (mAU mm (N 2) v x) (svP sv pp mm) xx 0 (svC sv) n1 ac ea le v1 v2 v3 v4 v5) (wMod T r mm pp xx (cmI (sq (thF v (nI (N 0))) (sq (seF x (nI (N 1))) (poF (bI (decide (N 2 < 10))))))) sv n1 ac ea le v1 v2 v3 v4 v5) (some (Value.int 0)) H from ⟨_, rfl, Or.inr ⟨by simp [sq, thF, wiF, seF, dyF, poF, rfF, bI, *], by rw [show (cmI (sq (thF v (nI (N 0))) (sq (seF x (nI (N 1))) (poF (bI (decide (N 2 < 10))))))) = 2 by simp [sq, thF, wiF, seF, dyF, poF, rfF, bI, cmI, cmA, cmB, cmS, nIl1, nIl2, nIl3, *]]; exact hP⟩⟩) rfl hS dX6_addUser_42
  · replace c_2 := bI_e0 c_2
    refine lv_aload_n hx hb dX6_addUser_13 rfl (lv_at hl 0 rfl) ?_
    refine lv_iconst (v := 1) hx hb dX6_addUser_14 (by decide) ?_
    refine mu_V S hkx (mX6_refused l (hP := hP) (hD := hD.weaken (fun _ _ _ _ => trivial)) (N := N) (Z := Z) (mm := mm) (pp := pp) (xx := xx) (th := 0) (sv := sv) (n1 := n1) (ac := ac) (ea := ea) (le := le) (v1 := v1) (v2 := v2) (v3 := v3) (v4 := v4) (v5 := v5) (x := 1)) gX6_addUser_X6_refused rfl idX6_refused ⟨Nat.le_of_ble_eq_true rfl, Nat.le_of_ble_eq_true rfl⟩ hP 0 rfl rfl rfl rfl hl.1 rfl (Nat.le_of_ble_eq_true rfl) dX6_addUser_15 ⟨Nat.le_refl _, Nat.le_refl _⟩ hS (fr_in hD (fun q h => hA q (Nat.le_trans hS.1 h))) (fun v H locs hp9 hz1 hk1 hS => ?_)
    obtain ⟨rfl, hP⟩ := hp9
    have hP : va_P G vwCl (wMod T r mm pp xx 1 sv n1 ac ea le v1 v2 v3 v4 v5) H := hP
    have hD : va_D A (wMod T r mm pp xx 1 sv n1 ac ea le v1 v2 v3 v4 v5) := fr_all hD rfl
    refine W.eq (g2 := F0 m 18 ls [.int 0]) rfl ?_
    exact hret _ _ _ _ _ (show mPost G (sq (thF v (nI (N 0))) (sq (seF x (nI (N 1))) (poF (bI (decide (N 2 < 10)))))) (nI (N 2)) (wMod T r (mAU mm (N 2) v x) (svP sv pp mm) xx 0 (svC sv) n1 ac ea le v1 v2 v3 v4 v5) (wMod T r mm pp xx (cmI (sq (thF v (nI (N 0))) (sq (seF x (nI (N 1))) (poF (bI (decide (N 2 < 10))))))) sv n1 ac ea le v1 v2 v3 v4 v5) (some (Value.int 0)) H from ⟨_, rfl, Or.inr ⟨by simp [sq, thF, wiF, seF, dyF, poF, rfF, bI, *], by rw [show (cmI (sq (thF v (nI (N 0))) (sq (seF x (nI (N 1))) (poF (bI (decide (N 2 < 10))))))) = 1 by simp [sq, thF, wiF, seF, dyF, poF, rfF, bI, cmI, cmA, cmB, cmS, nIl1, nIl2, nIl3, *]]; exact hP⟩⟩) rfl hS dX6_addUser_18

theorem idX6_pledge : yX6_pledge.cls = RX6 ∧ yX6_pledge.cls ≠ "java/lang/invoke/MethodHandle" ∧ yX6_pledge.cls ≠ "java/lang/invoke/VarHandle" ∧ (parseMethodDescriptor yX6_pledge.desc).map (fun d => d.parameters.length) = some 3 := by decide +kernel

set_option maxHeartbeats 4000000 in
set_option maxRecDepth 100000 in
theorem mX6_pledge (l : Launch) {G : va_G} {T : Nat → ClassId} {H0 : Heap} {r : Nat → Nat} {N : Nat → Nat} {Z : Nat → Nat → Int32} {mm : Nat → Int32} {pp : Nat → Int32} {xx : Nat → Int32} {th : Int32} {sv : Nat} {n1 : Nat} {ac : Int32} {ea : Int32} {le : Int32} {v1 : Int32} {v2 : Int32} {v3 : Int32} {v4 : Int32} {v5 : Int32} {u : Int32} {v : Int32} {d : Int32} (hP : va_P G vwCl (wMod T r mm pp xx th sv n1 ac ea le v1 v2 v3 v4 v5) H0) (hD : va_D (fun _ => True) (wMod T r mm pp xx th sv n1 ac ea le v1 v2 v3 v4 v5)) (hwf : wf N Z) (hr : rel N Z mm) (hs4 : sv ≤ 4) : mu l yX6_pledge wsX6_pledge 3 66 [.ref (r 0), .int u, .int v, .int d] G T H0 (wMod T r mm pp xx th sv n1 ac ea le v1 v2 v3 v4 v5) (mPost G (rfF (plF N u v d)) (Z 8 (tn u)) (wMod T r (mPl mm (tn u) v d) (svP sv pp mm) xx 0 (svC sv) n1 ac ea le v1 v2 v3 v4 v5) (wMod T r mm pp xx (cmI (rfF (plF N u v d))) sv n1 ac ea le v1 v2 v3 v4 v5)) := by
  refine mu_ofi (cc := cX6_pledge) (maxL := 4) (ret := .int) (own := RX6) (by decide +kernel) rfl rfl (Nat.le_of_ble_eq_true rfl) hD ?_
  intro p e s m below meth c Q ls A S hkx hl hD hS hA hret
  obtain ⟨hx, hb, hml, hown, hts⟩ := id S
  have hl : lv_has ls 4 [(0, .ref (r 0)), (1, .int u), (2, .int v), (3, .int d)] := hl
  have k19 := hts (.fieldLink RX6 19 "SunsetDatesModel" "thrown" "I") (by decide +kernel)
  have iX6 : ∀ w ∈ wsX60, w ∈ wsX6_pledge := by decide +kernel
  have hb2 := hwf.1
  obtain ⟨hr0, hr1, hr2, hr3, hrv, hrf, hru, hrs⟩ := id hr
  refine lv_aload_n hx hb dX6_pledge_0 rfl (lv_at hl 0 rfl) ?_
  refine lv_aload_n hx hb dX6_pledge_1 rfl (lv_at hl 0 rfl) ?_
  refine lv_iload_n hx hb dX6_pledge_2 rfl (lv_at hl 1 rfl) ?_
  refine lv_iload_n hx hb dX6_pledge_3 rfl (lv_at hl 2 rfl) ?_
  refine lv_iload_n hx hb dX6_pledge_4 rfl (lv_at hl 3 rfl) ?_
  refine ro_V S hkx (mX6_pledgeRefused l (u := u) (v := v) (d := d) (hP := hP) (hwf := hwf) (hr := hr)) gX6_pledge_X6_pledgeRefused rfl idX6_pledgeRefused ⟨Nat.le_of_ble_eq_true rfl, Nat.le_of_ble_eq_true rfl⟩ hP 0 rfl rfl rfl rfl hl.1 rfl (Nat.le_of_ble_eq_true rfl) dX6_pledge_5 ⟨Nat.le_of_ble_eq_true rfl, Nat.le_of_ble_eq_true rfl⟩ (fun r_1 hr_1 => ?_)
  subst hr_1
  refine va_put (D := G) (ci := 6) (v := .int (plF N u v d)) (ty := .int) (C := RX6) (T := TX6) (N := 14) hx hb hts iX6 tyX6 tyX6_ok nmX6 hown hkx.1 hP hD hS 0 rfl rfl 1 (by decide) k19 (fun _ h9 => h9) rfl (by decide +kernel) rfl rfl (Nat.le_of_ble_eq_true rfl) dX6_pledge_8 (fun H locs hP hD hS => ?_)
  have hP : va_P G vwCl (wMod T r mm pp xx (plF N u v d) sv n1 ac ea le v1 v2 v3 v4 v5) H := hP
  have hD : va_D A (wMod T r mm pp xx (plF N u v d) sv n1 ac ea le v1 v2 v3 v4 v5) := hD
  refine lv_aload_n hx hb dX6_pledge_11 rfl (lv_at hl 0 rfl) ?_
  refine va_get (D := G) (ci := 6) (C := RX6) (T := TX6) (N := 14) hx hb hts iX6 hown hkx.1 hP 0 rfl rfl 1 (by decide) k19 (fun _ h9 => h9) rfl dX6_pledge_12 ?_
  refine lv_if_le (tgt := 20) hx hb dX6_pledge_15 (by decide) (fun c_2 => ?_) (fun c_2 => ?_)
  · have c_2n := Int32.not_lt.mpr c_2
    obtain ⟨e9, hF9⟩ := is4_le (plF_4 N u v d) (by assumption)
    rw [e9] at hP hD
    have hP8 := hP
    have hD8 := hD
    obtain ⟨k1, k2, k3, hk1, hk2, hk3, rfl, rfl, rfl⟩ := pl_ok hF9 (by omega) (by omega)
    have hP := hP8
    have hD := hD8
    have ek1 : tn (nI k1) = k1 := nI_clamp (by omega)
    refine lv_aload_n hx hb dX6_pledge_20 rfl (lv_at hl 0 rfl) ?_
    refine mu_V S hkx (mX6_save l (hP := hP) (hD := hD.weaken (fun _ _ _ _ => trivial)) (N := N) (Z := Z) (mm := mm) (pp := pp) (xx := xx) (th := 0) (sv := sv) (n1 := n1) (ac := ac) (ea := ea) (le := le) (v1 := v1) (v2 := v2) (v3 := v3) (v4 := v4) (v5 := v5) (hs4 := (by omega))) gX6_pledge_X6_save rfl idX6_save ⟨Nat.le_of_ble_eq_true rfl, Nat.le_of_ble_eq_true rfl⟩ hP 0 rfl rfl rfl rfl hl.1 rfl (Nat.le_of_ble_eq_true rfl) dX6_pledge_21 ⟨Nat.le_refl _, Nat.le_refl _⟩ hS (fr_in hD (fun q h => hA q (Nat.le_trans hS.1 h))) (fun v H locs hp9 hz1 hk1 hS => ?_)
    obtain ⟨rfl, hP⟩ := hp9
    have hP : va_P G vwCl (wMod T r mm (svP sv pp mm) xx 0 (svC sv) n1 ac ea le v1 v2 v3 v4 v5) H := hP
    have hD : va_D A (wMod T r mm (svP sv pp mm) xx 0 (svC sv) n1 ac ea le v1 v2 v3 v4 v5) := fr_all hD rfl
    refine W.eq (g2 := F0 m 24 ls []) rfl ?_
    refine lv_aload_n hx hb dX6_pledge_24 rfl (lv_at hl 0 rfl) ?_
    refine lv_iload_n hx hb dX6_pledge_25 rfl (lv_at hl 1 rfl) ?_
    refine lv_iload_n hx hb dX6_pledge_26 rfl (lv_at hl 2 rfl) ?_
    refine lv_iload_n hx hb dX6_pledge_27 rfl (lv_at hl 3 rfl) ?_
    refine mu_V S hkx (mX6_pledgeNow l (hP := hP) (hD := hD.weaken (fun _ _ _ _ => trivial)) (N := N) (Z := Z) (mm := mm) (pp := (svP sv pp mm)) (xx := xx) (th := 0) (sv := (svC sv)) (n1 := n1) (ac := ac) (ea := ea) (le := le) (v1 := v1) (v2 := v2) (v3 := v3) (v4 := v4) (v5 := v5) (u := k1) (v := (nI k2)) (d := (nI k3)) (hwf := hwf) (hr := hr) (hu := (by omega))) gX6_pledge_X6_pledgeNow rfl idX6_pledgeNow ⟨Nat.le_of_ble_eq_true rfl, Nat.le_of_ble_eq_true rfl⟩ hP 0 rfl rfl rfl rfl hl.1 rfl (Nat.le_of_ble_eq_true rfl) dX6_pledge_28 ⟨Nat.le_refl _, Nat.le_refl _⟩ hS (fr_in hD (fun q h => hA q (Nat.le_trans hS.1 h))) (fun v H locs hp9 hz1 hk1 hS => ?_)
    obtain ⟨rfl, hP⟩ := hp9
    have hP : va_P G vwCl (wMod T r (mPl mm k1 (nI k2) (nI k3)) (svP sv pp mm) xx 0 (svC sv) n1 ac ea le v1 v2 v3 v4 v5) H := hP
    have hD : va_D A (wMod T r (mPl mm k1 (nI k2) (nI k3)) (svP sv pp mm) xx 0 (svC sv) n1 ac ea le v1 v2 v3 v4 v5) := fr_all hD rfl
    refine W.eq (g2 := F0 m 31 ls [.int (Z 8 k1)]) rfl ?_
    exact hret _ _ _ _ _ (show mPost G (rfF (plF N (nI k1) (nI k2) (nI k3))) (Z 8 (tn (nI k1))) (wMod T r (mPl mm (tn (nI k1)) (nI k2) (nI k3)) (svP sv pp mm) xx 0 (svC sv) n1 ac ea le v1 v2 v3 v4 v5) (wMod T r mm pp xx (cmI (rfF (plF N (nI k1) (nI k2) (nI k3)))) sv n1 ac ea le v1 v2 v3 v4 v5) (some (Value.int (Z 8 k1))) H from ⟨_, rfl, Or.inl ⟨by exact hF9, by first | rfl | (simp only [ek1]; done) | (simp only [ek1]; rfl), by simp only [ek1]; exact hP⟩⟩) rfl hS dX6_pledge_31
  · have c_2n := Int32.not_le.mp c_2
    refine lv_iconst (v := 0) hx hb dX6_pledge_18 (by decide) ?_
    exact hret _ _ _ _ _ (show mPost G (rfF (plF N u v d)) (Z 8 (tn u)) (wMod T r (mPl mm (tn u) v d) (svP sv pp mm) xx 0 (svC sv) n1 ac ea le v1 v2 v3 v4 v5) (wMod T r mm pp xx (cmI (rfF (plF N u v d))) sv n1 ac ea le v1 v2 v3 v4 v5) (some (Value.int 0)) H from ⟨_, rfl, Or.inr ⟨by exact (is4_nle (plF_4 N u v d) (by assumption)).1, by rw [show (cmI (rfF (plF N u v d))) = (plF N u v d) by exact (is4_nle (plF_4 N u v d) (by assumption)).2]; exact hP⟩⟩) rfl hS dX6_pledge_19

theorem idX6_slip : yX6_slip.cls = RX6 ∧ yX6_slip.cls ≠ "java/lang/invoke/MethodHandle" ∧ yX6_slip.cls ≠ "java/lang/invoke/VarHandle" ∧ (parseMethodDescriptor yX6_slip.desc).map (fun d => d.parameters.length) = some 2 := by decide +kernel

set_option maxHeartbeats 4000000 in
set_option maxRecDepth 100000 in
theorem mX6_slip (l : Launch) {G : va_G} {T : Nat → ClassId} {H0 : Heap} {r : Nat → Nat} {N : Nat → Nat} {Z : Nat → Nat → Int32} {mm : Nat → Int32} {pp : Nat → Int32} {xx : Nat → Int32} {th : Int32} {sv : Nat} {n1 : Nat} {ac : Int32} {ea : Int32} {le : Int32} {v1 : Int32} {v2 : Int32} {v3 : Int32} {v4 : Int32} {v5 : Int32} {u : Int32} {t : Int32} (hP : va_P G vwCl (wMod T r mm pp xx th sv n1 ac ea le v1 v2 v3 v4 v5) H0) (hD : va_D (fun _ => True) (wMod T r mm pp xx th sv n1 ac ea le v1 v2 v3 v4 v5)) (hwf : wf N Z) (hr : rel N Z mm) (hs4 : sv ≤ 4) : mu l yX6_slip wsX6_slip 3 65 [.ref (r 0), .int u, .int t] G T H0 (wMod T r mm pp xx th sv n1 ac ea le v1 v2 v3 v4 v5) (mPost G (rfF (slF N Z u t)) (uSl Z (tn u) t 8 (tn u)) (wMod T r (mSl mm (tn u) t) (svP sv pp mm) xx 0 (svC sv) n1 ac ea le v1 v2 v3 v4 v5) (wMod T r mm pp xx (cmI (rfF (slF N Z u t))) sv n1 ac ea le v1 v2 v3 v4 v5)) := by
  refine mu_ofi (cc := cX6_slip) (maxL := 3) (ret := .int) (own := RX6) (by decide +kernel) rfl rfl (Nat.le_of_ble_eq_true rfl) hD ?_
  intro p e s m below meth c Q ls A S hkx hl hD hS hA hret
  obtain ⟨hx, hb, hml, hown, hts⟩ := id S
  have hl : lv_has ls 3 [(0, .ref (r 0)), (1, .int u), (2, .int t)] := hl
  have k19 := hts (.fieldLink RX6 19 "SunsetDatesModel" "thrown" "I") (by decide +kernel)
  have iX6 : ∀ w ∈ wsX60, w ∈ wsX6_slip := by decide +kernel
  have hb2 := hwf.1
  obtain ⟨hr0, hr1, hr2, hr3, hrv, hrf, hru, hrs⟩ := id hr
  refine lv_aload_n hx hb dX6_slip_0 rfl (lv_at hl 0 rfl) ?_
  refine lv_aload_n hx hb dX6_slip_1 rfl (lv_at hl 0 rfl) ?_
  refine lv_iload_n hx hb dX6_slip_2 rfl (lv_at hl 1 rfl) ?_
  refine lv_iload_n hx hb dX6_slip_3 rfl (lv_at hl 2 rfl) ?_
  refine ro_V S hkx (mX6_slipRefused l (u := u) (t := t) (hP := hP) (hwf := hwf) (hr := hr)) gX6_slip_X6_slipRefused rfl idX6_slipRefused ⟨Nat.le_of_ble_eq_true rfl, Nat.le_of_ble_eq_true rfl⟩ hP 0 rfl rfl rfl rfl hl.1 rfl (Nat.le_of_ble_eq_true rfl) dX6_slip_4 ⟨Nat.le_of_ble_eq_true rfl, Nat.le_of_ble_eq_true rfl⟩ (fun r_1 hr_1 => ?_)
  subst hr_1
  refine va_put (D := G) (ci := 6) (v := .int (slF N Z u t)) (ty := .int) (C := RX6) (T := TX6) (N := 14) hx hb hts iX6 tyX6 tyX6_ok nmX6 hown hkx.1 hP hD hS 0 rfl rfl 1 (by decide) k19 (fun _ h9 => h9) rfl (by decide +kernel) rfl rfl (Nat.le_of_ble_eq_true rfl) dX6_slip_7 (fun H locs hP hD hS => ?_)
  have hP : va_P G vwCl (wMod T r mm pp xx (slF N Z u t) sv n1 ac ea le v1 v2 v3 v4 v5) H := hP
  have hD : va_D A (wMod T r mm pp xx (slF N Z u t) sv n1 ac ea le v1 v2 v3 v4 v5) := hD
  refine lv_aload_n hx hb dX6_slip_10 rfl (lv_at hl 0 rfl) ?_
  refine va_get (D := G) (ci := 6) (C := RX6) (T := TX6) (N := 14) hx hb hts iX6 hown hkx.1 hP 0 rfl rfl 1 (by decide) k19 (fun _ h9 => h9) rfl dX6_slip_11 ?_
  refine lv_if_le (tgt := 19) hx hb dX6_slip_14 (by decide) (fun c_2 => ?_) (fun c_2 => ?_)
  · have c_2n := Int32.not_lt.mpr c_2
    obtain ⟨e9, hF9⟩ := is4_le (slF_4 N Z u t) (by assumption)
    rw [e9] at hP hD
    have hP8 := hP
    have hD8 := hD
    obtain ⟨k1, k2, hk1, hk2a, hk2, rfl, rfl, hk3, hk4⟩ := sl_ok hF9 (by omega)
    have hP := hP8
    have hD := hD8
    have ek1 : tn (nI k1) = k1 := nI_clamp (by omega)
    refine lv_aload_n hx hb dX6_slip_19 rfl (lv_at hl 0 rfl) ?_
    refine mu_V S hkx (mX6_save l (hP := hP) (hD := hD.weaken (fun _ _ _ _ => trivial)) (N := N) (Z := Z) (mm := mm) (pp := pp) (xx := xx) (th := 0) (sv := sv) (n1 := n1) (ac := ac) (ea := ea) (le := le) (v1 := v1) (v2 := v2) (v3 := v3) (v4 := v4) (v5 := v5) (hs4 := (by omega))) gX6_slip_X6_save rfl idX6_save ⟨Nat.le_of_ble_eq_true rfl, Nat.le_of_ble_eq_true rfl⟩ hP 0 rfl rfl rfl rfl hl.1 rfl (Nat.le_of_ble_eq_true rfl) dX6_slip_20 ⟨Nat.le_refl _, Nat.le_refl _⟩ hS (fr_in hD (fun q h => hA q (Nat.le_trans hS.1 h))) (fun v H locs hp9 hz1 hk1 hS => ?_)
    obtain ⟨rfl, hP⟩ := hp9
    have hP : va_P G vwCl (wMod T r mm (svP sv pp mm) xx 0 (svC sv) n1 ac ea le v1 v2 v3 v4 v5) H := hP
    have hD : va_D A (wMod T r mm (svP sv pp mm) xx 0 (svC sv) n1 ac ea le v1 v2 v3 v4 v5) := fr_all hD rfl
    refine W.eq (g2 := F0 m 23 ls []) rfl ?_
    refine lv_aload_n hx hb dX6_slip_23 rfl (lv_at hl 0 rfl) ?_
    refine lv_iload_n hx hb dX6_slip_24 rfl (lv_at hl 1 rfl) ?_
    refine lv_iload_n hx hb dX6_slip_25 rfl (lv_at hl 2 rfl) ?_
    refine mu_V S hkx (mX6_slipNow l (hP := hP) (hD := hD.weaken (fun _ _ _ _ => trivial)) (N := N) (Z := Z) (mm := mm) (pp := (svP sv pp mm)) (xx := xx) (th := 0) (sv := (svC sv)) (n1 := n1) (ac := ac) (ea := ea) (le := le) (v1 := v1) (v2 := v2) (v3 := v3) (v4 := v4) (v5 := v5) (u := k1) (t := (nI k2)) (hwf := hwf) (hr := hr) (hu := (by omega))) gX6_slip_X6_slipNow rfl idX6_slipNow ⟨Nat.le_of_ble_eq_true rfl, Nat.le_of_ble_eq_true rfl⟩ hP 0 rfl rfl rfl rfl hl.1 rfl (Nat.le_of_ble_eq_true rfl) dX6_slip_26 ⟨Nat.le_refl _, Nat.le_refl _⟩ hS (fr_in hD (fun q h => hA q (Nat.le_trans hS.1 h))) (fun v H locs hp9 hz1 hk1 hS => ?_)
    obtain ⟨rfl, hP⟩ := hp9
    have hP : va_P G vwCl (wMod T r (mSl mm k1 (nI k2)) (svP sv pp mm) xx 0 (svC sv) n1 ac ea le v1 v2 v3 v4 v5) H := hP
    have hD : va_D A (wMod T r (mSl mm k1 (nI k2)) (svP sv pp mm) xx 0 (svC sv) n1 ac ea le v1 v2 v3 v4 v5) := fr_all hD rfl
    refine W.eq (g2 := F0 m 29 ls [.int (Z 8 k1 + (nI k2))]) rfl ?_
    exact hret _ _ _ _ _ (show mPost G (rfF (slF N Z (nI k1) (nI k2))) (uSl Z (tn (nI k1)) (nI k2) 8 (tn (nI k1))) (wMod T r (mSl mm (tn (nI k1)) (nI k2)) (svP sv pp mm) xx 0 (svC sv) n1 ac ea le v1 v2 v3 v4 v5) (wMod T r mm pp xx (cmI (rfF (slF N Z (nI k1) (nI k2)))) sv n1 ac ea le v1 v2 v3 v4 v5) (some (Value.int (Z 8 k1 + (nI k2)))) H from ⟨_, rfl, Or.inl ⟨by exact hF9, by simp only [ek1]; exact (pk_us (f := Z 8) (k := k1)).symm, by simp only [ek1]; exact hP⟩⟩) rfl hS dX6_slip_29
  · have c_2n := Int32.not_le.mp c_2
    refine lv_iconst (v := 0) hx hb dX6_slip_17 (by decide) ?_
    exact hret _ _ _ _ _ (show mPost G (rfF (slF N Z u t)) (uSl Z (tn u) t 8 (tn u)) (wMod T r (mSl mm (tn u) t) (svP sv pp mm) xx 0 (svC sv) n1 ac ea le v1 v2 v3 v4 v5) (wMod T r mm pp xx (cmI (rfF (slF N Z u t))) sv n1 ac ea le v1 v2 v3 v4 v5) (some (Value.int 0)) H from ⟨_, rfl, Or.inr ⟨by exact (is4_nle (slF_4 N Z u t) (by assumption)).1, by rw [show (cmI (rfF (slF N Z u t))) = (slF N Z u t) by exact (is4_nle (slF_4 N Z u t) (by assumption)).2]; exact hP⟩⟩) rfl hS dX6_slip_18

theorem idX6_extend : yX6_extend.cls = RX6 ∧ yX6_extend.cls ≠ "java/lang/invoke/MethodHandle" ∧ yX6_extend.cls ≠ "java/lang/invoke/VarHandle" ∧ (parseMethodDescriptor yX6_extend.desc).map (fun d => d.parameters.length) = some 2 := by decide +kernel

set_option maxHeartbeats 4000000 in
set_option maxRecDepth 100000 in
theorem mX6_extend (l : Launch) {G : va_G} {T : Nat → ClassId} {H0 : Heap} {r : Nat → Nat} {N : Nat → Nat} {Z : Nat → Nat → Int32} {mm : Nat → Int32} {pp : Nat → Int32} {xx : Nat → Int32} {th : Int32} {sv : Nat} {n1 : Nat} {ac : Int32} {ea : Int32} {le : Int32} {v1 : Int32} {v2 : Int32} {v3 : Int32} {v4 : Int32} {v5 : Int32} {v : Int32} {t : Int32} (hP : va_P G vwCl (wMod T r mm pp xx th sv n1 ac ea le v1 v2 v3 v4 v5) H0) (hD : va_D (fun _ => True) (wMod T r mm pp xx th sv n1 ac ea le v1 v2 v3 v4 v5)) (hwf : wf N Z) (hr : rel N Z mm) (hs4 : sv ≤ 4) : mu l yX6_extend wsX6_extend 3 65 [.ref (r 0), .int v, .int t] G T H0 (wMod T r mm pp xx th sv n1 ac ea le v1 v2 v3 v4 v5) (mPost G (rfF (exF N Z v t)) (vExt Z (tn v) t 2 (tn v)) (wMod T r (mEx mm (tn v) t) (svP sv pp mm) xx 0 (svC sv) n1 ac ea le v1 v2 v3 v4 v5) (wMod T r mm pp xx (cmI (rfF (exF N Z v t))) sv n1 ac ea le v1 v2 v3 v4 v5)) := by
  refine mu_ofi (cc := cX6_extend) (maxL := 3) (ret := .int) (own := RX6) (by decide +kernel) rfl rfl (Nat.le_of_ble_eq_true rfl) hD ?_
  intro p e s m below meth c Q ls A S hkx hl hD hS hA hret
  obtain ⟨hx, hb, hml, hown, hts⟩ := id S
  have hl : lv_has ls 3 [(0, .ref (r 0)), (1, .int v), (2, .int t)] := hl
  have k19 := hts (.fieldLink RX6 19 "SunsetDatesModel" "thrown" "I") (by decide +kernel)
  have iX6 : ∀ w ∈ wsX60, w ∈ wsX6_extend := by decide +kernel
  have hb2 := hwf.1
  obtain ⟨hr0, hr1, hr2, hr3, hrv, hrf, hru, hrs⟩ := id hr
  refine lv_aload_n hx hb dX6_extend_0 rfl (lv_at hl 0 rfl) ?_
  refine lv_aload_n hx hb dX6_extend_1 rfl (lv_at hl 0 rfl) ?_
  refine lv_iload_n hx hb dX6_extend_2 rfl (lv_at hl 1 rfl) ?_
  refine lv_iload_n hx hb dX6_extend_3 rfl (lv_at hl 2 rfl) ?_
  refine ro_V S hkx (mX6_extendRefused l (v := v) (t := t) (hP := hP) (hwf := hwf) (hr := hr)) gX6_extend_X6_extendRefused rfl idX6_extendRefused ⟨Nat.le_of_ble_eq_true rfl, Nat.le_of_ble_eq_true rfl⟩ hP 0 rfl rfl rfl rfl hl.1 rfl (Nat.le_of_ble_eq_true rfl) dX6_extend_4 ⟨Nat.le_of_ble_eq_true rfl, Nat.le_of_ble_eq_true rfl⟩ (fun r_1 hr_1 => ?_)
  subst hr_1
  refine va_put (D := G) (ci := 6) (v := .int (exF N Z v t)) (ty := .int) (C := RX6) (T := TX6) (N := 14) hx hb hts iX6 tyX6 tyX6_ok nmX6 hown hkx.1 hP hD hS 0 rfl rfl 1 (by decide) k19 (fun _ h9 => h9) rfl (by decide +kernel) rfl rfl (Nat.le_of_ble_eq_true rfl) dX6_extend_7 (fun H locs hP hD hS => ?_)
  have hP : va_P G vwCl (wMod T r mm pp xx (exF N Z v t) sv n1 ac ea le v1 v2 v3 v4 v5) H := hP
  have hD : va_D A (wMod T r mm pp xx (exF N Z v t) sv n1 ac ea le v1 v2 v3 v4 v5) := hD
  refine lv_aload_n hx hb dX6_extend_10 rfl (lv_at hl 0 rfl) ?_
  refine va_get (D := G) (ci := 6) (C := RX6) (T := TX6) (N := 14) hx hb hts iX6 hown hkx.1 hP 0 rfl rfl 1 (by decide) k19 (fun _ h9 => h9) rfl dX6_extend_11 ?_
  refine lv_if_le (tgt := 19) hx hb dX6_extend_14 (by decide) (fun c_2 => ?_) (fun c_2 => ?_)
  · have c_2n := Int32.not_lt.mpr c_2
    obtain ⟨e9, hF9⟩ := is4_le (exF_4 N Z v t) (by assumption)
    rw [e9] at hP hD
    have hP8 := hP
    have hD8 := hD
    obtain ⟨k1, k2, hk1, hk2a, hk2, rfl, rfl, hk3⟩ := ex_ok hF9 (by omega)
    have hP := hP8
    have hD := hD8
    have ek1 : tn (nI k1) = k1 := nI_clamp (by omega)
    refine lv_aload_n hx hb dX6_extend_19 rfl (lv_at hl 0 rfl) ?_
    refine mu_V S hkx (mX6_save l (hP := hP) (hD := hD.weaken (fun _ _ _ _ => trivial)) (N := N) (Z := Z) (mm := mm) (pp := pp) (xx := xx) (th := 0) (sv := sv) (n1 := n1) (ac := ac) (ea := ea) (le := le) (v1 := v1) (v2 := v2) (v3 := v3) (v4 := v4) (v5 := v5) (hs4 := (by omega))) gX6_extend_X6_save rfl idX6_save ⟨Nat.le_of_ble_eq_true rfl, Nat.le_of_ble_eq_true rfl⟩ hP 0 rfl rfl rfl rfl hl.1 rfl (Nat.le_of_ble_eq_true rfl) dX6_extend_20 ⟨Nat.le_refl _, Nat.le_refl _⟩ hS (fr_in hD (fun q h => hA q (Nat.le_trans hS.1 h))) (fun v H locs hp9 hz1 hk1 hS => ?_)
    obtain ⟨rfl, hP⟩ := hp9
    have hP : va_P G vwCl (wMod T r mm (svP sv pp mm) xx 0 (svC sv) n1 ac ea le v1 v2 v3 v4 v5) H := hP
    have hD : va_D A (wMod T r mm (svP sv pp mm) xx 0 (svC sv) n1 ac ea le v1 v2 v3 v4 v5) := fr_all hD rfl
    refine W.eq (g2 := F0 m 23 ls []) rfl ?_
    refine lv_aload_n hx hb dX6_extend_23 rfl (lv_at hl 0 rfl) ?_
    refine lv_iload_n hx hb dX6_extend_24 rfl (lv_at hl 1 rfl) ?_
    refine lv_iload_n hx hb dX6_extend_25 rfl (lv_at hl 2 rfl) ?_
    refine mu_V S hkx (mX6_extendNow l (hP := hP) (hD := hD.weaken (fun _ _ _ _ => trivial)) (N := N) (Z := Z) (mm := mm) (pp := (svP sv pp mm)) (xx := xx) (th := 0) (sv := (svC sv)) (n1 := n1) (ac := ac) (ea := ea) (le := le) (v1 := v1) (v2 := v2) (v3 := v3) (v4 := v4) (v5 := v5) (v := k1) (t := (nI k2)) (hwf := hwf) (hr := hr) (hv := (by omega))) gX6_extend_X6_extendNow rfl idX6_extendNow ⟨Nat.le_of_ble_eq_true rfl, Nat.le_of_ble_eq_true rfl⟩ hP 0 rfl rfl rfl rfl hl.1 rfl (Nat.le_of_ble_eq_true rfl) dX6_extend_26 ⟨Nat.le_refl _, Nat.le_refl _⟩ hS (fr_in hD (fun q h => hA q (Nat.le_trans hS.1 h))) (fun v H locs hp9 hz1 hk1 hS => ?_)
    obtain ⟨rfl, hP⟩ := hp9
    have hP : va_P G vwCl (wMod T r (mEx mm k1 (nI k2)) (svP sv pp mm) xx 0 (svC sv) n1 ac ea le v1 v2 v3 v4 v5) H := hP
    have hD : va_D A (wMod T r (mEx mm k1 (nI k2)) (svP sv pp mm) xx 0 (svC sv) n1 ac ea le v1 v2 v3 v4 v5) := fr_all hD rfl
    refine W.eq (g2 := F0 m 29 ls [.int (Z 2 k1 + (nI k2))]) rfl ?_
    exact hret _ _ _ _ _ (show mPost G (rfF (exF N Z (nI k1) (nI k2))) (vExt Z (tn (nI k1)) (nI k2) 2 (tn (nI k1))) (wMod T r (mEx mm (tn (nI k1)) (nI k2)) (svP sv pp mm) xx 0 (svC sv) n1 ac ea le v1 v2 v3 v4 v5) (wMod T r mm pp xx (cmI (rfF (exF N Z (nI k1) (nI k2)))) sv n1 ac ea le v1 v2 v3 v4 v5) (some (Value.int (Z 2 k1 + (nI k2)))) H from ⟨_, rfl, Or.inl ⟨by exact hF9, by simp only [ek1]; exact (pk_us (f := Z 2) (k := k1)).symm, by simp only [ek1]; exact hP⟩⟩) rfl hS dX6_extend_29
  · have c_2n := Int32.not_le.mp c_2
    refine lv_iconst (v := 0) hx hb dX6_extend_17 (by decide) ?_
    exact hret _ _ _ _ _ (show mPost G (rfF (exF N Z v t)) (vExt Z (tn v) t 2 (tn v)) (wMod T r (mEx mm (tn v) t) (svP sv pp mm) xx 0 (svC sv) n1 ac ea le v1 v2 v3 v4 v5) (wMod T r mm pp xx (cmI (rfF (exF N Z v t))) sv n1 ac ea le v1 v2 v3 v4 v5) (some (Value.int 0)) H from ⟨_, rfl, Or.inr ⟨by exact (is4_nle (exF_4 N Z v t) (by assumption)).1, by rw [show (cmI (rfF (exF N Z v t))) = (exF N Z v t) by exact (is4_nle (exF_4 N Z v t) (by assumption)).2]; exact hP⟩⟩) rfl hS dX6_extend_18

theorem idX6_addShim : yX6_addShim.cls = RX6 ∧ yX6_addShim.cls ≠ "java/lang/invoke/MethodHandle" ∧ yX6_addShim.cls ≠ "java/lang/invoke/VarHandle" ∧ (parseMethodDescriptor yX6_addShim.desc).map (fun d => d.parameters.length) = some 5 := by decide +kernel

set_option maxHeartbeats 4000000 in
set_option maxRecDepth 100000 in
theorem mX6_addShim (l : Launch) {G : va_G} {T : Nat → ClassId} {H0 : Heap} {r : Nat → Nat} {N : Nat → Nat} {Z : Nat → Nat → Int32} {mm : Nat → Int32} {pp : Nat → Int32} {xx : Nat → Int32} {th : Int32} {sv : Nat} {n1 : Nat} {ac : Int32} {ea : Int32} {le : Int32} {v1 : Int32} {v2 : Int32} {v3 : Int32} {v4 : Int32} {v5 : Int32} {f : Int32} {v : Int32} {x : Int32} {z : Int32} {y : Int32} (hP : va_P G vwCl (wMod T r mm pp xx th sv n1 ac ea le v1 v2 v3 v4 v5) H0) (hD : va_D (fun _ => True) (wMod T r mm pp xx th sv n1 ac ea le v1 v2 v3 v4 v5)) (hwf : wf N Z) (hr : rel N Z mm) (hs4 : sv ≤ 4) : mu l yX6_addShim wsX6_addShim 3 68 [.ref (r 0), .int f, .int v, .int x, .int z, .int y] G T H0 (wMod T r mm pp xx th sv n1 ac ea le v1 v2 v3 v4 v5) (mPost G (rfF (shF N f v x z y)) (nI (N 3)) (wMod T r (mSh mm (N 3) f v x z y) (svP sv pp mm) xx 0 (svC sv) n1 ac ea le v1 v2 v3 v4 v5) (wMod T r mm pp xx (cmI (rfF (shF N f v x z y))) sv n1 ac ea le v1 v2 v3 v4 v5)) := by
  refine mu_ofi (cc := cX6_addShim) (maxL := 6) (ret := .int) (own := RX6) (by decide +kernel) rfl rfl (Nat.le_of_ble_eq_true rfl) hD ?_
  intro p e s m below meth c Q ls A S hkx hl hD hS hA hret
  obtain ⟨hx, hb, hml, hown, hts⟩ := id S
  have hl : lv_has ls 6 [(0, .ref (r 0)), (1, .int f), (2, .int v), (3, .int x), (4, .int z), (5, .int y)] := hl
  have k19 := hts (.fieldLink RX6 19 "SunsetDatesModel" "thrown" "I") (by decide +kernel)
  have iX6 : ∀ w ∈ wsX60, w ∈ wsX6_addShim := by decide +kernel
  have hb2 := hwf.1
  obtain ⟨hr0, hr1, hr2, hr3, hrv, hrf, hru, hrs⟩ := id hr
  refine lv_aload_n hx hb dX6_addShim_0 rfl (lv_at hl 0 rfl) ?_
  refine lv_aload_n hx hb dX6_addShim_1 rfl (lv_at hl 0 rfl) ?_
  refine lv_iload_n hx hb dX6_addShim_2 rfl (lv_at hl 1 rfl) ?_
  refine lv_iload_n hx hb dX6_addShim_3 rfl (lv_at hl 2 rfl) ?_
  refine lv_iload_n hx hb dX6_addShim_4 rfl (lv_at hl 3 rfl) ?_
  refine lv_iload hx hb dX6_addShim_5 (lv_at hl 4 rfl) ?_
  refine lv_iload hx hb dX6_addShim_7 (lv_at hl 5 rfl) ?_
  refine ro_V S hkx (mX6_shimRefused l (f := f) (v := v) (x := x) (z := z) (y := y) (hP := hP) (hwf := hwf) (hr := hr)) gX6_addShim_X6_shimRefused rfl idX6_shimRefused ⟨Nat.le_of_ble_eq_true rfl, Nat.le_of_ble_eq_true rfl⟩ hP 0 rfl rfl rfl rfl hl.1 rfl (Nat.le_of_ble_eq_true rfl) dX6_addShim_9 ⟨Nat.le_of_ble_eq_true rfl, Nat.le_of_ble_eq_true rfl⟩ (fun r_1 hr_1 => ?_)
  subst hr_1
  refine va_put (D := G) (ci := 6) (v := .int (shF N f v x z y)) (ty := .int) (C := RX6) (T := TX6) (N := 14) hx hb hts iX6 tyX6 tyX6_ok nmX6 hown hkx.1 hP hD hS 0 rfl rfl 1 (by decide) k19 (fun _ h9 => h9) rfl (by decide +kernel) rfl rfl (Nat.le_of_ble_eq_true rfl) dX6_addShim_12 (fun H locs hP hD hS => ?_)
  have hP : va_P G vwCl (wMod T r mm pp xx (shF N f v x z y) sv n1 ac ea le v1 v2 v3 v4 v5) H := hP
  have hD : va_D A (wMod T r mm pp xx (shF N f v x z y) sv n1 ac ea le v1 v2 v3 v4 v5) := hD
  refine lv_aload_n hx hb dX6_addShim_15 rfl (lv_at hl 0 rfl) ?_
  refine va_get (D := G) (ci := 6) (C := RX6) (T := TX6) (N := 14) hx hb hts iX6 hown hkx.1 hP 0 rfl rfl 1 (by decide) k19 (fun _ h9 => h9) rfl dX6_addShim_16 ?_
  refine lv_if_le (tgt := 24) hx hb dX6_addShim_19 (by decide) (fun c_2 => ?_) (fun c_2 => ?_)
  · have c_2n := Int32.not_lt.mpr c_2
    obtain ⟨e9, hF9⟩ := is4_le (shF_4 N f v x z y) (by assumption)
    rw [e9] at hP hD
    have hP8 := hP
    have hD8 := hD
    obtain ⟨-, -, -, -, -, -, -, -, -, -, -, -, -, -, -, -, hk9⟩ := sh_ok hF9 (by omega) (by omega)
    have hP := hP8
    have hD := hD8
    refine lv_aload_n hx hb dX6_addShim_24 rfl (lv_at hl 0 rfl) ?_
    refine mu_V S hkx (mX6_save l (hP := hP) (hD := hD.weaken (fun _ _ _ _ => trivial)) (N := N) (Z := Z) (mm := mm) (pp := pp) (xx := xx) (th := 0) (sv := sv) (n1 := n1) (ac := ac) (ea := ea) (le := le) (v1 := v1) (v2 := v2) (v3 := v3) (v4 := v4) (v5 := v5) (hs4 := (by omega))) gX6_addShim_X6_save rfl idX6_save ⟨Nat.le_of_ble_eq_true rfl, Nat.le_of_ble_eq_true rfl⟩ hP 0 rfl rfl rfl rfl hl.1 rfl (Nat.le_of_ble_eq_true rfl) dX6_addShim_25 ⟨Nat.le_refl _, Nat.le_refl _⟩ hS (fr_in hD (fun q h => hA q (Nat.le_trans hS.1 h))) (fun v H locs hp9 hz1 hk1 hS => ?_)
    obtain ⟨rfl, hP⟩ := hp9
    have hP : va_P G vwCl (wMod T r mm (svP sv pp mm) xx 0 (svC sv) n1 ac ea le v1 v2 v3 v4 v5) H := hP
    have hD : va_D A (wMod T r mm (svP sv pp mm) xx 0 (svC sv) n1 ac ea le v1 v2 v3 v4 v5) := fr_all hD rfl
    refine W.eq (g2 := F0 m 28 ls []) rfl ?_
    refine lv_aload_n hx hb dX6_addShim_28 rfl (lv_at hl 0 rfl) ?_
    refine lv_iload_n hx hb dX6_addShim_29 rfl (lv_at hl 1 rfl) ?_
    refine lv_iload_n hx hb dX6_addShim_30 rfl (lv_at hl 2 rfl) ?_
    refine lv_iload_n hx hb dX6_addShim_31 rfl (lv_at hl 3 rfl) ?_
    refine lv_iload hx hb dX6_addShim_32 (lv_at hl 4 rfl) ?_
    refine lv_iload hx hb dX6_addShim_34 (lv_at hl 5 rfl) ?_
    refine mu_V S hkx (mX6_shimNow l (hP := hP) (hD := hD.weaken (fun _ _ _ _ => trivial)) (N := N) (Z := Z) (mm := mm) (pp := (svP sv pp mm)) (xx := xx) (th := 0) (sv := (svC sv)) (n1 := n1) (ac := ac) (ea := ea) (le := le) (v1 := v1) (v2 := v2) (v3 := v3) (v4 := v4) (v5 := v5) (f := f) (v := v) (x := x) (z := z) (y := y) (hwf := hwf) (hr := hr) (h12 := (by omega))) gX6_addShim_X6_shimNow rfl idX6_shimNow ⟨Nat.le_of_ble_eq_true rfl, Nat.le_of_ble_eq_true rfl⟩ hP 0 rfl rfl rfl rfl hl.1 rfl (Nat.le_of_ble_eq_true rfl) dX6_addShim_36 ⟨Nat.le_refl _, Nat.le_refl _⟩ hS (fr_in hD (fun q h => hA q (Nat.le_trans hS.1 h))) (fun v H locs hp9 hz1 hk1 hS => ?_)
    obtain ⟨rfl, hP⟩ := hp9
    have hP : va_P G vwCl (wMod T r (mSh mm (N 3) f v x z y) (svP sv pp mm) xx 0 (svC sv) n1 ac ea le v1 v2 v3 v4 v5) H := hP
    have hD : va_D A (wMod T r (mSh mm (N 3) f v x z y) (svP sv pp mm) xx 0 (svC sv) n1 ac ea le v1 v2 v3 v4 v5) := fr_all hD rfl
    refine W.eq (g2 := F0 m 39 ls [.int (nI (N 3))]) rfl ?_
    exact hret _ _ _ _ _ (show mPost G (rfF (shF N f v x z y)) (nI (N 3)) (wMod T r (mSh mm (N 3) f v x z y) (svP sv pp mm) xx 0 (svC sv) n1 ac ea le v1 v2 v3 v4 v5) (wMod T r mm pp xx (cmI (rfF (shF N f v x z y))) sv n1 ac ea le v1 v2 v3 v4 v5) (some (Value.int (nI (N 3)))) H from ⟨_, rfl, Or.inl ⟨by exact hF9, by rfl, by exact hP⟩⟩) rfl hS dX6_addShim_39
  · have c_2n := Int32.not_le.mp c_2
    refine lv_iconst (v := 0) hx hb dX6_addShim_22 (by decide) ?_
    exact hret _ _ _ _ _ (show mPost G (rfF (shF N f v x z y)) (nI (N 3)) (wMod T r (mSh mm (N 3) f v x z y) (svP sv pp mm) xx 0 (svC sv) n1 ac ea le v1 v2 v3 v4 v5) (wMod T r mm pp xx (cmI (rfF (shF N f v x z y))) sv n1 ac ea le v1 v2 v3 v4 v5) (some (Value.int 0)) H from ⟨_, rfl, Or.inr ⟨by exact (is4_nle (shF_4 N f v x z y) (by assumption)).1, by rw [show (cmI (rfF (shF N f v x z y))) = (shF N f v x z y) by exact (is4_nle (shF_4 N f v x z y) (by assumption)).2]; exact hP⟩⟩) rfl hS dX6_addShim_23

theorem idX6_takeBack : yX6_takeBack.cls = RX6 ∧ yX6_takeBack.cls ≠ "java/lang/invoke/MethodHandle" ∧ yX6_takeBack.cls ≠ "java/lang/invoke/VarHandle" ∧ (parseMethodDescriptor yX6_takeBack.desc).map (fun d => d.parameters.length) = some 1 := by decide +kernel

set_option maxHeartbeats 4000000 in
set_option maxRecDepth 100000 in
theorem mX6_takeBack (l : Launch) {G : va_G} {T : Nat → ClassId} {H0 : Heap} {r : Nat → Nat} {N : Nat → Nat} {Z : Nat → Nat → Int32} {mm : Nat → Int32} {pp : Nat → Int32} {xx : Nat → Int32} {th : Int32} {sv : Nat} {n1 : Nat} {ac : Int32} {ea : Int32} {le : Int32} {v1 : Int32} {v2 : Int32} {v3 : Int32} {v4 : Int32} {v5 : Int32} {u : Int32} (hP : va_P G vwCl (wMod T r mm pp xx th sv n1 ac ea le v1 v2 v3 v4 v5) H0) (hD : va_D (fun _ => True) (wMod T r mm pp xx th sv n1 ac ea le v1 v2 v3 v4 v5)) (hwf : wf N Z) (hr : rel N Z mm) (hs4 : sv ≤ 4) : mu l yX6_takeBack wsX6_takeBack 2 43 [.ref (r 0), .int u] G T H0 (wMod T r mm pp xx th sv n1 ac ea le v1 v2 v3 v4 v5) (mPost G (sq (thF u (nI (N 2))) (poF (bI (pled Z (tn u))))) (Z 8 (tn u)) (wMod T r (mPl mm (tn u) (-1) (-1)) (svP sv pp mm) xx 0 (svC sv) n1 ac ea le v1 v2 v3 v4 v5) (wMod T r mm pp xx (cmB (sq (thF u (nI (N 2))) (poF (bI (pled Z (tn u)))))) sv n1 ac ea le v1 v2 v3 v4 v5)) := by
  refine mu_ofi (cc := cX6_takeBack) (maxL := 2) (ret := .int) (own := RX6) (by decide +kernel) rfl rfl (Nat.le_of_ble_eq_true rfl) hD ?_
  intro p e s m below meth c Q ls A S hkx hl hD hS hA hret
  obtain ⟨hx, hb, hml, hown, hts⟩ := id S
  have hl : lv_has ls 2 [(0, .ref (r 0)), (1, .int u)] := hl
  have k19 := hts (.fieldLink RX6 19 "SunsetDatesModel" "thrown" "I") (by decide +kernel)
  have iX6 : ∀ w ∈ wsX60, w ∈ wsX6_takeBack := by decide +kernel
  have hb2 := hwf.1
  obtain ⟨hr0, hr1, hr2, hr3, hrv, hrf, hru, hrs⟩ := id hr
  refine lv_aload_n hx hb dX6_takeBack_0 rfl (lv_at hl 0 rfl) ?_
  refine lv_iconst (v := 0) hx hb dX6_takeBack_1 (by decide) ?_
  refine va_put (D := G) (ci := 6) (v := .int 0) (ty := .int) (C := RX6) (T := TX6) (N := 14) hx hb hts iX6 tyX6 tyX6_ok nmX6 hown hkx.1 hP hD hS 0 rfl rfl 1 (by decide) k19 (fun _ h9 => h9) rfl (by decide +kernel) rfl rfl (Nat.le_of_ble_eq_true rfl) dX6_takeBack_2 (fun H locs hP hD hS => ?_)
  have hP : va_P G vwCl (wMod T r mm pp xx 0 sv n1 ac ea le v1 v2 v3 v4 v5) H := hP
  have hD : va_D A (wMod T r mm pp xx 0 sv n1 ac ea le v1 v2 v3 v4 v5) := hD
  refine lv_aload_n hx hb dX6_takeBack_5 rfl (lv_at hl 0 rfl) ?_
  refine lv_iload_n hx hb dX6_takeBack_6 rfl (lv_at hl 1 rfl) ?_
  refine ro_V S hkx (mX6_isUser l (v := u) (hP := hP) (hwf := hwf) (hr := hr)) gX6_takeBack_X6_isUser rfl idX6_isUser ⟨Nat.le_of_ble_eq_true rfl, Nat.le_of_ble_eq_true rfl⟩ hP 0 rfl rfl rfl rfl hl.1 rfl (Nat.le_of_ble_eq_true rfl) dX6_takeBack_7 ⟨Nat.le_of_ble_eq_true rfl, Nat.le_of_ble_eq_true rfl⟩ (fun r_1 hr_1 => ?_)
  subst hr_1
  refine lv_if_ne (tgt := 19) hx hb dX6_takeBack_10 (by decide) (fun c_2 => ?_) (fun c_2 => ?_)
  · replace c_2 := bI_n0 c_2
    obtain ⟨k1, hk1, rfl⟩ := isT_nat (i := u) (n := N 2) (by omega) (by assumption)
    have ek1 : tn (nI k1) = k1 := nI_clamp (by omega)
    refine lv_aload_n hx hb dX6_takeBack_19 rfl (lv_at hl 0 rfl) ?_
    refine lv_iload_n hx hb dX6_takeBack_20 rfl (lv_at hl 1 rfl) ?_
    refine lv_iconst (v := 2) hx hb dX6_takeBack_21 (by decide) ?_
    refine ro_V S hkx (mX6_ofUser l (u := k1) (w := 2) (hP := hP) (hwf := hwf) (hr := hr) (hu := (by omega)) (hw := (by omega))) gX6_takeBack_X6_ofUser rfl idX6_ofUser ⟨Nat.le_of_ble_eq_true rfl, Nat.le_of_ble_eq_true rfl⟩ hP 0 rfl rfl rfl rfl hl.1 rfl (Nat.le_of_ble_eq_true rfl) dX6_takeBack_22 ⟨Nat.le_of_ble_eq_true rfl, Nat.le_of_ble_eq_true rfl⟩ (fun r_3 hr_3 => ?_)
    subst hr_3
    skip
    refine lv_iconst (v := (-1)) hx hb dX6_takeBack_25 (by decide) ?_
    refine lv_icmp_ne (tgt := 35) hx hb dX6_takeBack_26 (by decide) (fun c_4 => ?_) (fun c_4 => ?_)
    · skip
      refine lv_aload_n hx hb dX6_takeBack_35 rfl (lv_at hl 0 rfl) ?_
      refine mu_V S hkx (mX6_save l (hP := hP) (hD := hD.weaken (fun _ _ _ _ => trivial)) (N := N) (Z := Z) (mm := mm) (pp := pp) (xx := xx) (th := 0) (sv := sv) (n1 := n1) (ac := ac) (ea := ea) (le := le) (v1 := v1) (v2 := v2) (v3 := v3) (v4 := v4) (v5 := v5) (hs4 := (by omega))) gX6_takeBack_X6_save rfl idX6_save ⟨Nat.le_of_ble_eq_true rfl, Nat.le_of_ble_eq_true rfl⟩ hP 0 rfl rfl rfl rfl hl.1 rfl (Nat.le_of_ble_eq_true rfl) dX6_takeBack_36 ⟨Nat.le_refl _, Nat.le_refl _⟩ hS (fr_in hD (fun q h => hA q (Nat.le_trans hS.1 h))) (fun v H locs hp9 hz1 hk1 hS => ?_)
      obtain ⟨rfl, hP⟩ := hp9
      have hP : va_P G vwCl (wMod T r mm (svP sv pp mm) xx 0 (svC sv) n1 ac ea le v1 v2 v3 v4 v5) H := hP
      have hD : va_D A (wMod T r mm (svP sv pp mm) xx 0 (svC sv) n1 ac ea le v1 v2 v3 v4 v5) := fr_all hD rfl
      refine W.eq (g2 := F0 m 39 ls []) rfl ?_
      refine lv_aload_n hx hb dX6_takeBack_39 rfl (lv_at hl 0 rfl) ?_
      refine lv_iload_n hx hb dX6_takeBack_40 rfl (lv_at hl 1 rfl) ?_
      refine lv_iconst (v := (-1)) hx hb dX6_takeBack_41 (by decide) ?_
      refine lv_iconst (v := (-1)) hx hb dX6_takeBack_42 (by decide) ?_
      refine mu_V S hkx (mX6_pledgeNow l (hP := hP) (hD := hD.weaken (fun _ _ _ _ => trivial)) (N := N) (Z := Z) (mm := mm) (pp := (svP sv pp mm)) (xx := xx) (th := 0) (sv := (svC sv)) (n1 := n1) (ac := ac) (ea := ea) (le := le) (v1 := v1) (v2 := v2) (v3 := v3) (v4 := v4) (v5 := v5) (u := k1) (v := (-1)) (d := (-1)) (hwf := hwf) (hr := hr) (hu := (by omega))) gX6_takeBack_X6_pledgeNow rfl idX6_pledgeNow ⟨Nat.le_of_ble_eq_true rfl, Nat.le_of_ble_eq_true rfl⟩ hP 0 rfl rfl rfl rfl hl.1 rfl (Nat.le_of_ble_eq_true rfl) dX6_takeBack_43 ⟨Nat.le_refl _, Nat.le_refl _⟩ hS (fr_in hD (fun q h => hA q (Nat.le_trans hS.1 h))) (fun v H locs hp9 hz1 hk1 hS => ?_)
      obtain ⟨rfl, hP⟩ := hp9
      have hP : va_P G vwCl (wMod T r (mPl mm k1 (-1) (-1)) (svP sv pp mm) xx 0 (svC sv) n1 ac ea le v1 v2 v3 v4 v5) H := hP
      have hD : va_D A (wMod T r (mPl mm k1 (-1) (-1)) (svP sv pp mm) xx 0 (svC sv) n1 ac ea le v1 v2 v3 v4 v5) := fr_all hD rfl
      refine W.eq (g2 := F0 m 46 ls [.int (Z 8 k1)]) rfl ?_
      exact hret _ _ _ _ _ (show mPost G (sq (thF (nI k1) (nI (N 2))) (poF (bI (pled Z (tn (nI k1)))))) (Z 8 (tn (nI k1))) (wMod T r (mPl mm (tn (nI k1)) (-1) (-1)) (svP sv pp mm) xx 0 (svC sv) n1 ac ea le v1 v2 v3 v4 v5) (wMod T r mm pp xx (cmB (sq (thF (nI k1) (nI (N 2))) (poF (bI (pled Z (tn (nI k1))))))) sv n1 ac ea le v1 v2 v3 v4 v5) (some (Value.int (Z 8 k1))) H from ⟨_, rfl, Or.inl ⟨by simp [sq, thF, poF, bI, pled, *], by first | rfl | (simp only [ek1]; done) | (simp only [ek1]; rfl), by simp only [ek1]; exact hP⟩⟩) rfl hS dX6_takeBack_46
    · skip
      refine lv_aload_n hx hb dX6_takeBack_29 rfl (lv_at hl 0 rfl) ?_
      refine lv_iconst (v := 2) hx hb dX6_takeBack_30 (by decide) ?_
      refine mu_V S hkx (mX6_refused l (hP := hP) (hD := hD.weaken (fun _ _ _ _ => trivial)) (N := N) (Z := Z) (mm := mm) (pp := pp) (xx := xx) (th := 0) (sv := sv) (n1 := n1) (ac := ac) (ea := ea) (le := le) (v1 := v1) (v2 := v2) (v3 := v3) (v4 := v4) (v5 := v5) (x := 2)) gX6_takeBack_X6_refused rfl idX6_refused ⟨Nat.le_of_ble_eq_true rfl, Nat.le_of_ble_eq_true rfl⟩ hP 0 rfl rfl rfl rfl hl.1 rfl (Nat.le_of_ble_eq_true rfl) dX6_takeBack_31 ⟨Nat.le_refl _, Nat.le_refl _⟩ hS (fr_in hD (fun q h => hA q (Nat.le_trans hS.1 h))) (fun v H locs hp9 hz1 hk1 hS => ?_)
      obtain ⟨rfl, hP⟩ := hp9
      have hP : va_P G vwCl (wMod T r mm pp xx 2 sv n1 ac ea le v1 v2 v3 v4 v5) H := hP
      have hD : va_D A (wMod T r mm pp xx 2 sv n1 ac ea le v1 v2 v3 v4 v5) := fr_all hD rfl
      refine W.eq (g2 := F0 m 34 ls [.int 0]) rfl ?_
      exact hret _ _ _ _ _ (show mPost G (sq (thF (nI k1) (nI (N 2))) (poF (bI (pled Z (tn (nI k1)))))) (Z 8 (tn (nI k1))) (wMod T r (mPl mm (tn (nI k1)) (-1) (-1)) (svP sv pp mm) xx 0 (svC sv) n1 ac ea le v1 v2 v3 v4 v5) (wMod T r mm pp xx (cmB (sq (thF (nI k1) (nI (N 2))) (poF (bI (pled Z (tn (nI k1))))))) sv n1 ac ea le v1 v2 v3 v4 v5) (some (Value.int 0)) H from ⟨_, rfl, Or.inr ⟨by simp [sq, thF, poF, bI, pled, *], by rw [show (cmB (sq (thF (nI k1) (nI (N 2))) (poF (bI (pled Z (tn (nI k1))))))) = 2 by simp [sq, thF, poF, bI, pled, cmB, nIl1, nIl2, nIl3, *]]; exact hP⟩⟩) rfl hS dX6_takeBack_34
  · replace c_2 := bI_e0 c_2
    refine lv_aload_n hx hb dX6_takeBack_13 rfl (lv_at hl 0 rfl) ?_
    refine lv_iconst (v := 1) hx hb dX6_takeBack_14 (by decide) ?_
    refine mu_V S hkx (mX6_refused l (hP := hP) (hD := hD.weaken (fun _ _ _ _ => trivial)) (N := N) (Z := Z) (mm := mm) (pp := pp) (xx := xx) (th := 0) (sv := sv) (n1 := n1) (ac := ac) (ea := ea) (le := le) (v1 := v1) (v2 := v2) (v3 := v3) (v4 := v4) (v5 := v5) (x := 1)) gX6_takeBack_X6_refused rfl idX6_refused ⟨Nat.le_of_ble_eq_true rfl, Nat.le_of_ble_eq_true rfl⟩ hP 0 rfl rfl rfl rfl hl.1 rfl (Nat.le_of_ble_eq_true rfl) dX6_takeBack_15 ⟨Nat.le_refl _, Nat.le_refl _⟩ hS (fr_in hD (fun q h => hA q (Nat.le_trans hS.1 h))) (fun v H locs hp9 hz1 hk1 hS => ?_)
    obtain ⟨rfl, hP⟩ := hp9
    have hP : va_P G vwCl (wMod T r mm pp xx 1 sv n1 ac ea le v1 v2 v3 v4 v5) H := hP
    have hD : va_D A (wMod T r mm pp xx 1 sv n1 ac ea le v1 v2 v3 v4 v5) := fr_all hD rfl
    refine W.eq (g2 := F0 m 18 ls [.int 0]) rfl ?_
    exact hret _ _ _ _ _ (show mPost G (sq (thF u (nI (N 2))) (poF (bI (pled Z (tn u))))) (Z 8 (tn u)) (wMod T r (mPl mm (tn u) (-1) (-1)) (svP sv pp mm) xx 0 (svC sv) n1 ac ea le v1 v2 v3 v4 v5) (wMod T r mm pp xx (cmB (sq (thF u (nI (N 2))) (poF (bI (pled Z (tn u)))))) sv n1 ac ea le v1 v2 v3 v4 v5) (some (Value.int 0)) H from ⟨_, rfl, Or.inr ⟨by simp [sq, thF, poF, bI, pled, *], by rw [show (cmB (sq (thF u (nI (N 2))) (poF (bI (pled Z (tn u)))))) = 1 by simp [sq, thF, poF, bI, pled, cmB, nIl1, nIl2, nIl3, *]]; exact hP⟩⟩) rfl hS dX6_takeBack_18

theorem idX6_dropShim : yX6_dropShim.cls = RX6 ∧ yX6_dropShim.cls ≠ "java/lang/invoke/MethodHandle" ∧ yX6_dropShim.cls ≠ "java/lang/invoke/VarHandle" ∧ (parseMethodDescriptor yX6_dropShim.desc).map (fun d => d.parameters.length) = some 1 := by decide +kernel

set_option maxHeartbeats 4000000 in
set_option maxRecDepth 100000 in
theorem mX6_dropShim (l : Launch) {G : va_G} {T : Nat → ClassId} {H0 : Heap} {r : Nat → Nat} {N : Nat → Nat} {Z : Nat → Nat → Int32} {mm : Nat → Int32} {pp : Nat → Int32} {xx : Nat → Int32} {th : Int32} {sv : Nat} {n1 : Nat} {ac : Int32} {ea : Int32} {le : Int32} {v1 : Int32} {v2 : Int32} {v3 : Int32} {v4 : Int32} {v5 : Int32} {t : Int32} (hP : va_P G vwCl (wMod T r mm pp xx th sv n1 ac ea le v1 v2 v3 v4 v5) H0) (hD : va_D (fun _ => True) (wMod T r mm pp xx th sv n1 ac ea le v1 v2 v3 v4 v5)) (hwf : wf N Z) (hr : rel N Z mm) (hs4 : sv ≤ 4) : mu l yX6_dropShim wsX6_dropShim 2 43 [.ref (r 0), .int t] G T H0 (wMod T r mm pp xx th sv n1 ac ea le v1 v2 v3 v4 v5) (mPost G (rfF (drF N t)) (nI (N 3 - 1)) (wMod T r (mDr mm (N 3) (tn t)) (svP sv pp mm) xx 0 (svC sv) n1 ac ea le v1 v2 v3 v4 v5) (wMod T r mm pp xx (cmI (rfF (drF N t))) sv n1 ac ea le v1 v2 v3 v4 v5)) := by
  refine mu_ofi (cc := cX6_dropShim) (maxL := 2) (ret := .int) (own := RX6) (by decide +kernel) rfl rfl (Nat.le_of_ble_eq_true rfl) hD ?_
  intro p e s m below meth c Q ls A S hkx hl hD hS hA hret
  obtain ⟨hx, hb, hml, hown, hts⟩ := id S
  have hl : lv_has ls 2 [(0, .ref (r 0)), (1, .int t)] := hl
  have k19 := hts (.fieldLink RX6 19 "SunsetDatesModel" "thrown" "I") (by decide +kernel)
  have iX6 : ∀ w ∈ wsX60, w ∈ wsX6_dropShim := by decide +kernel
  have hb2 := hwf.1
  obtain ⟨hr0, hr1, hr2, hr3, hrv, hrf, hru, hrs⟩ := id hr
  refine lv_aload_n hx hb dX6_dropShim_0 rfl (lv_at hl 0 rfl) ?_
  refine lv_aload_n hx hb dX6_dropShim_1 rfl (lv_at hl 0 rfl) ?_
  refine lv_iload_n hx hb dX6_dropShim_2 rfl (lv_at hl 1 rfl) ?_
  refine ro_V S hkx (mX6_isShim l (v := t) (hP := hP) (hwf := hwf) (hr := hr)) gX6_dropShim_X6_isShim rfl idX6_isShim ⟨Nat.le_of_ble_eq_true rfl, Nat.le_of_ble_eq_true rfl⟩ hP 0 rfl rfl rfl rfl hl.1 rfl (Nat.le_of_ble_eq_true rfl) dX6_dropShim_3 ⟨Nat.le_of_ble_eq_true rfl, Nat.le_of_ble_eq_true rfl⟩ (fun r_1 hr_1 => ?_)
  subst hr_1
  refine lv_if_eq (tgt := 13) hx hb dX6_dropShim_6 (by decide) (fun c_2 => ?_) (fun c_2 => ?_)
  · replace c_2 := bI_e0 c_2
    refine lv_iconst (v := 1) hx hb dX6_dropShim_13 (by decide) ?_
    refine va_put (D := G) (ci := 6) (v := .int 1) (ty := .int) (C := RX6) (T := TX6) (N := 14) hx hb hts iX6 tyX6 tyX6_ok nmX6 hown hkx.1 hP hD hS 0 rfl rfl 1 (by decide) k19 (fun _ h9 => h9) rfl (by decide +kernel) rfl rfl (Nat.le_of_ble_eq_true rfl) dX6_dropShim_14 (fun H locs hP hD hS => ?_)
    have hP : va_P G vwCl (wMod T r mm pp xx 1 sv n1 ac ea le v1 v2 v3 v4 v5) H := hP
    have hD : va_D A (wMod T r mm pp xx 1 sv n1 ac ea le v1 v2 v3 v4 v5) := hD
    refine lv_aload_n hx hb dX6_dropShim_17 rfl (lv_at hl 0 rfl) ?_
    refine va_get (D := G) (ci := 6) (C := RX6) (T := TX6) (N := 14) hx hb hts iX6 hown hkx.1 hP 0 rfl rfl 1 (by decide) k19 (fun _ h9 => h9) rfl dX6_dropShim_18 ?_
    refine lv_if_le (tgt := 26) hx hb dX6_dropShim_21 (by decide) (fun c_3 => ?_) (fun c_3 => ?_)
    · replace c_3 := cn_le (a := 1) (b := 0) (by omega) (by omega) c_3
      exact absurd c_3 (by decide)
    · replace c_3 := cn_nle (a := 1) (b := 0) (by omega) (by omega) c_3
      refine lv_iconst (v := 0) hx hb dX6_dropShim_24 (by decide) ?_
      exact hret _ _ _ _ _ (show mPost G (rfF (drF N t)) (nI (N 3 - 1)) (wMod T r (mDr mm (N 3) (tn t)) (svP sv pp mm) xx 0 (svC sv) n1 ac ea le v1 v2 v3 v4 v5) (wMod T r mm pp xx (cmI (rfF (drF N t))) sv n1 ac ea le v1 v2 v3 v4 v5) (some (Value.int 0)) H from ⟨_, rfl, Or.inr ⟨by simp [rfF, drF, *], by rw [show (cmI (rfF (drF N t))) = 1 by simp [rfF, drF, cmI, nIl1, nIl2, nIl3, *]]; exact hP⟩⟩) rfl hS dX6_dropShim_25
  · replace c_2 := bI_n0 c_2
    obtain ⟨k1, hk1, rfl⟩ := isT_nat (i := t) (n := N 3) (by omega) (by assumption)
    have ek1 : tn (nI k1) = k1 := nI_clamp (by omega)
    refine lv_iconst (v := 0) hx hb dX6_dropShim_9 (by decide) ?_
    refine lv_goto (tgt := 14) hx hb dX6_dropShim_10 (by decide) ?_
    refine va_put (D := G) (ci := 6) (v := .int 0) (ty := .int) (C := RX6) (T := TX6) (N := 14) hx hb hts iX6 tyX6 tyX6_ok nmX6 hown hkx.1 hP hD hS 0 rfl rfl 1 (by decide) k19 (fun _ h9 => h9) rfl (by decide +kernel) rfl rfl (Nat.le_of_ble_eq_true rfl) dX6_dropShim_14 (fun H locs hP hD hS => ?_)
    have hP : va_P G vwCl (wMod T r mm pp xx 0 sv n1 ac ea le v1 v2 v3 v4 v5) H := hP
    have hD : va_D A (wMod T r mm pp xx 0 sv n1 ac ea le v1 v2 v3 v4 v5) := hD
    refine lv_aload_n hx hb dX6_dropShim_17 rfl (lv_at hl 0 rfl) ?_
    refine va_get (D := G) (ci := 6) (C := RX6) (T := TX6) (N := 14) hx hb hts iX6 hown hkx.1 hP 0 rfl rfl 1 (by decide) k19 (fun _ h9 => h9) rfl dX6_dropShim_18 ?_
    refine lv_if_le (tgt := 26) hx hb dX6_dropShim_21 (by decide) (fun c_4 => ?_) (fun c_4 => ?_)
    · replace c_4 := cn_le (a := 0) (b := 0) (by omega) (by omega) c_4
      refine lv_aload_n hx hb dX6_dropShim_26 rfl (lv_at hl 0 rfl) ?_
      refine mu_V S hkx (mX6_save l (hP := hP) (hD := hD.weaken (fun _ _ _ _ => trivial)) (N := N) (Z := Z) (mm := mm) (pp := pp) (xx := xx) (th := 0) (sv := sv) (n1 := n1) (ac := ac) (ea := ea) (le := le) (v1 := v1) (v2 := v2) (v3 := v3) (v4 := v4) (v5 := v5) (hs4 := (by omega))) gX6_dropShim_X6_save rfl idX6_save ⟨Nat.le_of_ble_eq_true rfl, Nat.le_of_ble_eq_true rfl⟩ hP 0 rfl rfl rfl rfl hl.1 rfl (Nat.le_of_ble_eq_true rfl) dX6_dropShim_27 ⟨Nat.le_refl _, Nat.le_refl _⟩ hS (fr_in hD (fun q h => hA q (Nat.le_trans hS.1 h))) (fun v H locs hp9 hz1 hk1 hS => ?_)
      obtain ⟨rfl, hP⟩ := hp9
      have hP : va_P G vwCl (wMod T r mm (svP sv pp mm) xx 0 (svC sv) n1 ac ea le v1 v2 v3 v4 v5) H := hP
      have hD : va_D A (wMod T r mm (svP sv pp mm) xx 0 (svC sv) n1 ac ea le v1 v2 v3 v4 v5) := fr_all hD rfl
      refine W.eq (g2 := F0 m 30 ls []) rfl ?_
      refine lv_aload_n hx hb dX6_dropShim_30 rfl (lv_at hl 0 rfl) ?_
      refine lv_iload_n hx hb dX6_dropShim_31 rfl (lv_at hl 1 rfl) ?_
      refine mu_V S hkx (mX6_dropNow l (hP := hP) (hD := hD.weaken (fun _ _ _ _ => trivial)) (N := N) (Z := Z) (mm := mm) (pp := (svP sv pp mm)) (xx := xx) (th := 0) (sv := (svC sv)) (n1 := n1) (ac := ac) (ea := ea) (le := le) (v1 := v1) (v2 := v2) (v3 := v3) (v4 := v4) (v5 := v5) (t := k1) (hwf := hwf) (hr := hr) (ht := (by omega))) gX6_dropShim_X6_dropNow rfl idX6_dropNow ⟨Nat.le_of_ble_eq_true rfl, Nat.le_of_ble_eq_true rfl⟩ hP 0 rfl rfl rfl rfl hl.1 rfl (Nat.le_of_ble_eq_true rfl) dX6_dropShim_32 ⟨Nat.le_refl _, Nat.le_refl _⟩ hS (fr_in hD (fun q h => hA q (Nat.le_trans hS.1 h))) (fun v H locs hp9 hz1 hk1 hS => ?_)
      obtain ⟨rfl, hP⟩ := hp9
      have hP : va_P G vwCl (wMod T r (mDr mm (N 3) k1) (svP sv pp mm) xx 0 (svC sv) n1 ac ea le v1 v2 v3 v4 v5) H := hP
      have hD : va_D A (wMod T r (mDr mm (N 3) k1) (svP sv pp mm) xx 0 (svC sv) n1 ac ea le v1 v2 v3 v4 v5) := fr_all hD rfl
      refine W.eq (g2 := F0 m 35 ls [.int (nI (N 3 - 1))]) rfl ?_
      exact hret _ _ _ _ _ (show mPost G (rfF (drF N (nI k1))) (nI (N 3 - 1)) (wMod T r (mDr mm (N 3) (tn (nI k1))) (svP sv pp mm) xx 0 (svC sv) n1 ac ea le v1 v2 v3 v4 v5) (wMod T r mm pp xx (cmI (rfF (drF N (nI k1)))) sv n1 ac ea le v1 v2 v3 v4 v5) (some (Value.int (nI (N 3 - 1)))) H from ⟨_, rfl, Or.inl ⟨by simp [rfF, drF, *], by rfl, by simp only [ek1]; exact hP⟩⟩) rfl hS dX6_dropShim_35
    · replace c_4 := cn_nle (a := 0) (b := 0) (by omega) (by omega) c_4
      exact absurd c_4 (by decide)

theorem idX6_append : yX6_append.cls = RX6 ∧ yX6_append.cls ≠ "java/lang/invoke/MethodHandle" ∧ yX6_append.cls ≠ "java/lang/invoke/VarHandle" ∧ (parseMethodDescriptor yX6_append.desc).map (fun d => d.parameters.length) = some 1 := by decide +kernel

set_option maxHeartbeats 4000000 in
set_option maxRecDepth 100000 in
theorem mX6_append (l : Launch) {G : va_G} {T : Nat → ClassId} {H0 : Heap} {r : Nat → Nat} {N : Nat → Nat} {Z : Nat → Nat → Int32} {mm : Nat → Int32} {pp : Nat → Int32} {xx : Nat → Int32} {th : Int32} {sv : Nat} {n1 : Nat} {ac : Int32} {ea : Int32} {le : Int32} {v1 : Int32} {v2 : Int32} {v3 : Int32} {v4 : Int32} {v5 : Int32} {x : Int32} (hP : va_P G vwCl (wMod T r mm pp xx th sv n1 ac ea le v1 v2 v3 v4 v5) H0) (hD : va_D (fun _ => True) (wMod T r mm pp xx th sv n1 ac ea le v1 v2 v3 v4 v5)) (hwf : wf N Z) (hr : rel N Z mm) (hn1 : n1 ≤ 100) : mu l yX6_append wsX6_append 1 22 [.ref (r 0), .int x] G T H0 (wMod T r mm pp xx th sv n1 ac ea le v1 v2 v3 v4 v5) (mPost G (sq (wiF x 0 127) (poF (bI (decide (n1 < 100))))) (nI (n1 + 1)) (wMod T r mm pp (upd xx n1 x) 0 sv (n1 + 1) ac ea le v1 v2 v3 v4 v5) (wMod T r mm pp xx (cmA (sq (wiF x 0 127) (poF (bI (decide (n1 < 100)))))) sv n1 ac ea le v1 v2 v3 v4 v5)) := by
  refine mu_ofi (cc := cX6_append) (maxL := 2) (ret := .int) (own := RX6) (by decide +kernel) rfl rfl (Nat.le_of_ble_eq_true rfl) hD ?_
  intro p e s m below meth c Q ls A S hkx hl hD hS hA hret
  obtain ⟨hx, hb, hml, hown, hts⟩ := id S
  have hl : lv_has ls 2 [(0, .ref (r 0)), (1, .int x)] := hl
  have k148 := hts (.fieldLink RX6 148 "SunsetDatesModel" "texted" "I") (by decide +kernel)
  have iX6 : ∀ w ∈ wsX60, w ∈ wsX6_append := by decide +kernel
  have k19 := hts (.fieldLink RX6 19 "SunsetDatesModel" "thrown" "I") (by decide +kernel)
  have k16 := hts (.fieldLink RX6 16 "SunsetDatesModel" "text" "[I") (by decide +kernel)
  have hb2 := hwf.1
  obtain ⟨hr0, hr1, hr2, hr3, hrv, hrf, hru, hrs⟩ := id hr
  refine lv_aload_n hx hb dX6_append_0 rfl (lv_at hl 0 rfl) ?_
  refine lv_iload_n hx hb dX6_append_1 rfl (lv_at hl 1 rfl) ?_
  refine lv_iconst (v := 0) hx hb dX6_append_2 (by decide) ?_
  refine lv_bipush (v := 127) hx hb dX6_append_3 (by decide) ?_
  refine ro_S S hkx (mX6_in l (v := x) (x := 0) (z := 127)) gX6_append_X6_in rfl idX6_in.2 ⟨Nat.le_of_ble_eq_true rfl, Nat.le_of_ble_eq_true rfl⟩ rfl hl.1 rfl (Nat.le_of_ble_eq_true rfl) dX6_append_5 ⟨Nat.le_of_ble_eq_true rfl, Nat.le_of_ble_eq_true rfl⟩ (fun r_1 hr_1 => ?_)
  subst hr_1
  refine lv_if_ne (tgt := 15) hx hb dX6_append_8 (by decide) (fun c_2 => ?_) (fun c_2 => ?_)
  · replace c_2 := bI_n0 c_2
    refine lv_aload_n hx hb dX6_append_15 rfl (lv_at hl 0 rfl) ?_
    refine va_get (D := G) (ci := 6) (C := RX6) (T := TX6) (N := 14) hx hb hts iX6 hown hkx.1 hP 0 rfl rfl 5 (by decide) k148 (fun _ h9 => h9) rfl dX6_append_16 ?_
    refine lv_bipush (v := 100) hx hb dX6_append_19 (by decide) ?_
    refine lv_icmp_ne (tgt := 28) hx hb dX6_append_21 (by decide) (fun c_3 => ?_) (fun c_3 => ?_)
    · replace c_3 := cn_ne (a := n1) (b := 100) (by omega) (by omega) c_3
      have cD : decide (n1 < 100) = true := decide_eq_true (by omega)
      refine lv_iconst (v := 0) hx hb dX6_append_28 (by decide) ?_
      refine va_put (D := G) (ci := 6) (v := .int 0) (ty := .int) (C := RX6) (T := TX6) (N := 14) hx hb hts iX6 tyX6 tyX6_ok nmX6 hown hkx.1 hP hD hS 0 rfl rfl 1 (by decide) k19 (fun _ h9 => h9) rfl (by decide +kernel) rfl rfl (Nat.le_of_ble_eq_true rfl) dX6_append_29 (fun H locs hP hD hS => ?_)
      have hP : va_P G vwCl (wMod T r mm pp xx 0 sv n1 ac ea le v1 v2 v3 v4 v5) H := hP
      have hD : va_D A (wMod T r mm pp xx 0 sv n1 ac ea le v1 v2 v3 v4 v5) := hD
      refine lv_aload_n hx hb dX6_append_32 rfl (lv_at hl 0 rfl) ?_
      refine va_get (D := G) (ci := 6) (C := RX6) (T := TX6) (N := 14) hx hb hts iX6 hown hkx.1 hP 0 rfl rfl 1 (by decide) k19 (fun _ h9 => h9) rfl dX6_append_33 ?_
      refine lv_if_le (tgt := 41) hx hb dX6_append_36 (by decide) (fun c_4 => ?_) (fun c_4 => ?_)
      · replace c_4 := cn_le (a := 0) (b := 0) (by omega) (by omega) c_4
        refine lv_aload_n hx hb dX6_append_41 rfl (lv_at hl 0 rfl) ?_
        refine va_get (D := G) (ci := 6) (C := RX6) (T := TX6) (N := 14) hx hb hts iX6 hown hkx.1 hP 0 rfl rfl 4 (by decide) k16 (fun _ h9 => h9) rfl dX6_append_42 ?_
        refine lv_aload_n hx hb dX6_append_45 rfl (lv_at hl 0 rfl) ?_
        refine va_get (D := G) (ci := 6) (C := RX6) (T := TX6) (N := 14) hx hb hts iX6 hown hkx.1 hP 0 rfl rfl 5 (by decide) k148 (fun _ h9 => h9) rfl dX6_append_46 ?_
        refine lv_iload_n hx hb dX6_append_49 rfl (lv_at hl 1 rfl) ?_
        refine ist hx hb hkx hP hD hS 3 rfl n1 rfl (by omega) (by decide) dX6_append_50 (fun H locs hP hD hS => ?_)
        have hP : va_P G vwCl (wMod T r mm pp (upd xx n1 x) 0 sv n1 ac ea le v1 v2 v3 v4 v5) H := hP
        have hD : va_D A (wMod T r mm pp (upd xx n1 x) 0 sv n1 ac ea le v1 v2 v3 v4 v5) := hD
        refine lv_aload_n hx hb dX6_append_51 rfl (lv_at hl 0 rfl) ?_
        refine lv_dup hx hb dX6_append_52 rfl ?_
        refine va_get (D := G) (ci := 6) (C := RX6) (T := TX6) (N := 14) hx hb hts iX6 hown hkx.1 hP 0 rfl rfl 5 (by decide) k148 (fun _ h9 => h9) rfl dX6_append_53 ?_
        refine lv_iconst (v := 1) hx hb dX6_append_56 (by decide) ?_
        refine lv_iadd hx hb dX6_append_57 ?_
        rw [show ((nI n1) + 1) = (nI (n1 + 1)) from nI_add n1 1]
        refine va_put (D := G) (ci := 6) (v := .int (nI (n1 + 1))) (ty := .int) (C := RX6) (T := TX6) (N := 14) hx hb hts iX6 tyX6 tyX6_ok nmX6 hown hkx.1 hP hD hS 0 rfl rfl 5 (by decide) k148 (fun _ h9 => h9) rfl (by decide +kernel) rfl rfl (Nat.le_of_ble_eq_true rfl) dX6_append_58 (fun H locs hP hD hS => ?_)
        have hP : va_P G vwCl (wMod T r mm pp (upd xx n1 x) 0 sv (n1 + 1) ac ea le v1 v2 v3 v4 v5) H := hP
        have hD : va_D A (wMod T r mm pp (upd xx n1 x) 0 sv (n1 + 1) ac ea le v1 v2 v3 v4 v5) := hD
        refine lv_aload_n hx hb dX6_append_61 rfl (lv_at hl 0 rfl) ?_
        refine va_get (D := G) (ci := 6) (C := RX6) (T := TX6) (N := 14) hx hb hts iX6 hown hkx.1 hP 0 rfl rfl 5 (by decide) k148 (fun _ h9 => h9) rfl dX6_append_62 ?_
        exact hret _ _ _ _ _ (show mPost G (sq (wiF x 0 127) (poF (bI (decide (n1 < 100))))) (nI (n1 + 1)) (wMod T r mm pp (upd xx n1 x) 0 sv (n1 + 1) ac ea le v1 v2 v3 v4 v5) (wMod T r mm pp xx (cmA (sq (wiF x 0 127) (poF (bI (decide (n1 < 100)))))) sv n1 ac ea le v1 v2 v3 v4 v5) (some (Value.int (nI (n1 + 1)))) H from ⟨_, rfl, Or.inl ⟨by simp [sq, thF, wiF, seF, dyF, poF, rfF, bI, *], by rfl, by exact hP⟩⟩) rfl hS dX6_append_65
      · replace c_4 := cn_nle (a := 0) (b := 0) (by omega) (by omega) c_4
        exact absurd c_4 (by decide)
    · replace c_3 := cn_eq (a := n1) (b := 100) (by omega) (by omega) c_3
      have cD : decide (n1 < 100) = false := decide_eq_false (by omega)
      refine lv_iconst (v := 2) hx hb dX6_append_24 (by decide) ?_
      refine lv_goto (tgt := 29) hx hb dX6_append_25 (by decide) ?_
      refine va_put (D := G) (ci := 6) (v := .int 2) (ty := .int) (C := RX6) (T := TX6) (N := 14) hx hb hts iX6 tyX6 tyX6_ok nmX6 hown hkx.1 hP hD hS 0 rfl rfl 1 (by decide) k19 (fun _ h9 => h9) rfl (by decide +kernel) rfl rfl (Nat.le_of_ble_eq_true rfl) dX6_append_29 (fun H locs hP hD hS => ?_)
      have hP : va_P G vwCl (wMod T r mm pp xx 2 sv n1 ac ea le v1 v2 v3 v4 v5) H := hP
      have hD : va_D A (wMod T r mm pp xx 2 sv n1 ac ea le v1 v2 v3 v4 v5) := hD
      refine lv_aload_n hx hb dX6_append_32 rfl (lv_at hl 0 rfl) ?_
      refine va_get (D := G) (ci := 6) (C := RX6) (T := TX6) (N := 14) hx hb hts iX6 hown hkx.1 hP 0 rfl rfl 1 (by decide) k19 (fun _ h9 => h9) rfl dX6_append_33 ?_
      refine lv_if_le (tgt := 41) hx hb dX6_append_36 (by decide) (fun c_5 => ?_) (fun c_5 => ?_)
      · replace c_5 := cn_le (a := 2) (b := 0) (by omega) (by omega) c_5
        exact absurd c_5 (by decide)
      · replace c_5 := cn_nle (a := 2) (b := 0) (by omega) (by omega) c_5
        refine lv_iconst (v := 0) hx hb dX6_append_39 (by decide) ?_
        exact hret _ _ _ _ _ (show mPost G (sq (wiF x 0 127) (poF (bI (decide (n1 < 100))))) (nI (n1 + 1)) (wMod T r mm pp (upd xx n1 x) 0 sv (n1 + 1) ac ea le v1 v2 v3 v4 v5) (wMod T r mm pp xx (cmA (sq (wiF x 0 127) (poF (bI (decide (n1 < 100)))))) sv n1 ac ea le v1 v2 v3 v4 v5) (some (Value.int 0)) H from ⟨_, rfl, Or.inr ⟨by simp [sq, thF, wiF, seF, dyF, poF, rfF, bI, *], by rw [show (cmA (sq (wiF x 0 127) (poF (bI (decide (n1 < 100)))))) = 2 by simp [sq, thF, wiF, seF, dyF, poF, rfF, bI, cmI, cmA, cmB, cmS, nIl1, nIl2, nIl3, *]]; exact hP⟩⟩) rfl hS dX6_append_40
  · replace c_2 := bI_e0 c_2
    refine lv_iconst (v := 1) hx hb dX6_append_11 (by decide) ?_
    refine lv_goto (tgt := 29) hx hb dX6_append_12 (by decide) ?_
    refine va_put (D := G) (ci := 6) (v := .int 1) (ty := .int) (C := RX6) (T := TX6) (N := 14) hx hb hts iX6 tyX6 tyX6_ok nmX6 hown hkx.1 hP hD hS 0 rfl rfl 1 (by decide) k19 (fun _ h9 => h9) rfl (by decide +kernel) rfl rfl (Nat.le_of_ble_eq_true rfl) dX6_append_29 (fun H locs hP hD hS => ?_)
    have hP : va_P G vwCl (wMod T r mm pp xx 1 sv n1 ac ea le v1 v2 v3 v4 v5) H := hP
    have hD : va_D A (wMod T r mm pp xx 1 sv n1 ac ea le v1 v2 v3 v4 v5) := hD
    refine lv_aload_n hx hb dX6_append_32 rfl (lv_at hl 0 rfl) ?_
    refine va_get (D := G) (ci := 6) (C := RX6) (T := TX6) (N := 14) hx hb hts iX6 hown hkx.1 hP 0 rfl rfl 1 (by decide) k19 (fun _ h9 => h9) rfl dX6_append_33 ?_
    refine lv_if_le (tgt := 41) hx hb dX6_append_36 (by decide) (fun c_6 => ?_) (fun c_6 => ?_)
    · replace c_6 := cn_le (a := 1) (b := 0) (by omega) (by omega) c_6
      exact absurd c_6 (by decide)
    · replace c_6 := cn_nle (a := 1) (b := 0) (by omega) (by omega) c_6
      refine lv_iconst (v := 0) hx hb dX6_append_39 (by decide) ?_
      exact hret _ _ _ _ _ (show mPost G (sq (wiF x 0 127) (poF (bI (decide (n1 < 100))))) (nI (n1 + 1)) (wMod T r mm pp (upd xx n1 x) 0 sv (n1 + 1) ac ea le v1 v2 v3 v4 v5) (wMod T r mm pp xx (cmA (sq (wiF x 0 127) (poF (bI (decide (n1 < 100)))))) sv n1 ac ea le v1 v2 v3 v4 v5) (some (Value.int 0)) H from ⟨_, rfl, Or.inr ⟨by simp [sq, thF, wiF, seF, dyF, poF, rfF, bI, *], by rw [show (cmA (sq (wiF x 0 127) (poF (bI (decide (n1 < 100)))))) = 1 by simp [sq, thF, wiF, seF, dyF, poF, rfF, bI, cmI, cmA, cmB, cmS, nIl1, nIl2, nIl3, *]]; exact hP⟩⟩) rfl hS dX6_append_40

theorem idX6_clearText : yX6_clearText.cls = RX6 ∧ yX6_clearText.cls ≠ "java/lang/invoke/MethodHandle" ∧ yX6_clearText.cls ≠ "java/lang/invoke/VarHandle" ∧ (parseMethodDescriptor yX6_clearText.desc).map (fun d => d.parameters.length) = some 0 := by decide +kernel

set_option maxHeartbeats 4000000 in
set_option maxRecDepth 100000 in
theorem mX6_clearText (l : Launch) {G : va_G} {T : Nat → ClassId} {H0 : Heap} {r : Nat → Nat} {N : Nat → Nat} {Z : Nat → Nat → Int32} {mm : Nat → Int32} {pp : Nat → Int32} {xx : Nat → Int32} {th : Int32} {sv : Nat} {n1 : Nat} {ac : Int32} {ea : Int32} {le : Int32} {v1 : Int32} {v2 : Int32} {v3 : Int32} {v4 : Int32} {v5 : Int32} (hP : va_P G vwCl (wMod T r mm pp xx th sv n1 ac ea le v1 v2 v3 v4 v5) H0) (hD : va_D (fun _ => True) (wMod T r mm pp xx th sv n1 ac ea le v1 v2 v3 v4 v5)) : mu l yX6_clearText wsX6_clearText 0 0 [.ref (r 0)] G T H0 (wMod T r mm pp xx th sv n1 ac ea le v1 v2 v3 v4 v5) (fun v9 H9 => v9 = some (.int (nI n1)) ∧ va_P G vwCl (wMod T r mm pp xx 0 sv 0 ac ea le v1 v2 v3 v4 v5) H9) := by
  refine mu_ofi (cc := cX6_clearText) (maxL := 2) (ret := .int) (own := RX6) (by decide +kernel) rfl rfl (Nat.le_of_ble_eq_true rfl) hD ?_
  intro p e s m below meth c Q ls A S hkx hl hD hS hA hret
  obtain ⟨hx, hb, hml, hown, hts⟩ := id S
  have hl : lv_has ls 2 [(0, .ref (r 0))] := hl
  have k19 := hts (.fieldLink RX6 19 "SunsetDatesModel" "thrown" "I") (by decide +kernel)
  have iX6 : ∀ w ∈ wsX60, w ∈ wsX6_clearText := by decide +kernel
  have k148 := hts (.fieldLink RX6 148 "SunsetDatesModel" "texted" "I") (by decide +kernel)
  refine lv_aload_n hx hb dX6_clearText_0 rfl (lv_at hl 0 rfl) ?_
  refine lv_iconst (v := 0) hx hb dX6_clearText_1 (by decide) ?_
  refine va_put (D := G) (ci := 6) (v := .int 0) (ty := .int) (C := RX6) (T := TX6) (N := 14) hx hb hts iX6 tyX6 tyX6_ok nmX6 hown hkx.1 hP hD hS 0 rfl rfl 1 (by decide) k19 (fun _ h9 => h9) rfl (by decide +kernel) rfl rfl (Nat.le_of_ble_eq_true rfl) dX6_clearText_2 (fun H locs hP hD hS => ?_)
  have hP : va_P G vwCl (wMod T r mm pp xx 0 sv n1 ac ea le v1 v2 v3 v4 v5) H := hP
  have hD : va_D A (wMod T r mm pp xx 0 sv n1 ac ea le v1 v2 v3 v4 v5) := hD
  refine lv_aload_n hx hb dX6_clearText_5 rfl (lv_at hl 0 rfl) ?_
  refine va_get (D := G) (ci := 6) (C := RX6) (T := TX6) (N := 14) hx hb hts iX6 hown hkx.1 hP 0 rfl rfl 5 (by decide) k148 (fun _ h9 => h9) rfl dX6_clearText_6 ?_
  refine lv_istore_n (lv' := [(1, .int (nI n1)), (0, .ref (r 0))]) hx hb dX6_clearText_9 rfl hl (by decide) rfl (fun ls hl => ?_)
  refine lv_aload_n hx hb dX6_clearText_10 rfl (lv_at hl 1 rfl) ?_
  refine lv_iconst (v := 0) hx hb dX6_clearText_11 (by decide) ?_
  refine va_put (D := G) (ci := 6) (v := .int 0) (ty := .int) (C := RX6) (T := TX6) (N := 14) hx hb hts iX6 tyX6 tyX6_ok nmX6 hown hkx.1 hP hD hS 0 rfl rfl 5 (by decide) k148 (fun _ h9 => h9) rfl (by decide +kernel) rfl rfl (Nat.le_of_ble_eq_true rfl) dX6_clearText_12 (fun H locs hP hD hS => ?_)
  have hP : va_P G vwCl (wMod T r mm pp xx 0 sv 0 ac ea le v1 v2 v3 v4 v5) H := hP
  have hD : va_D A (wMod T r mm pp xx 0 sv 0 ac ea le v1 v2 v3 v4 v5) := hD
  refine lv_iload_n hx hb dX6_clearText_15 rfl (lv_at hl 0 rfl) ?_
  exact hret _ _ _ _ _ (show some (Value.int (nI n1)) = some (Value.int (nI n1)) ∧ va_P G vwCl (wMod T r mm pp xx 0 sv 0 ac ea le v1 v2 v3 v4 v5) H from ⟨rfl, hP⟩) rfl hS dX6_clearText_16

theorem idX6_thrown : yX6_thrown.cls = RX6 ∧ yX6_thrown.cls ≠ "java/lang/invoke/MethodHandle" ∧ yX6_thrown.cls ≠ "java/lang/invoke/VarHandle" ∧ (parseMethodDescriptor yX6_thrown.desc).map (fun d => d.parameters.length) = some 0 := by decide +kernel

set_option maxHeartbeats 4000000 in
set_option maxRecDepth 100000 in
theorem mX6_thrown (l : Launch) {G : va_G} {T : Nat → ClassId} {H : Heap} {r : Nat → Nat} {N : Nat → Nat} {Z : Nat → Nat → Int32} {mm : Nat → Int32} {pp : Nat → Int32} {xx : Nat → Int32} {th : Int32} {sv : Nat} {n1 : Nat} {ac : Int32} {ea : Int32} {le : Int32} {v1 : Int32} {v2 : Int32} {v3 : Int32} {v4 : Int32} {v5 : Int32} (hP : va_P G vwCl (wMod T r mm pp xx th sv n1 ac ea le v1 v2 v3 v4 v5) H) : ro l yX6_thrown wsX6_thrown 0 0 [.ref (r 0)] G T H (fun r => r = th) := by
  refine ro_of (cc := cX6_thrown) (maxL := 1) (ret := .int) (own := RX6) (by decide +kernel) rfl rfl (Nat.le_of_ble_eq_true rfl) (fun v _ => vp_nar_int v) ?_
  intro p e s m below meth c Q ls S hkx hl hret
  obtain ⟨hx, hb, hml, hown, hts⟩ := id S
  have hl : lv_has ls 1 [(0, .ref (r 0))] := hl
  have k19 := hts (.fieldLink RX6 19 "SunsetDatesModel" "thrown" "I") (by decide +kernel)
  have iX6 : ∀ w ∈ wsX60, w ∈ wsX6_thrown := by decide +kernel
  refine lv_aload_n hx hb dX6_thrown_0 rfl (lv_at hl 0 rfl) ?_
  refine va_get (D := G) (ci := 6) (C := RX6) (T := TX6) (N := 14) hx hb hts iX6 hown hkx.1 hP 0 rfl rfl 1 (by decide) k19 (fun _ h9 => h9) rfl dX6_thrown_1 ?_
  exact hret _ _ _ (show th = th from rfl) dX6_thrown_4
