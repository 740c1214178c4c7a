theorem idX4_copy : yX4_copy.cls = RX4 ∧ yX4_copy.cls ≠ "java/lang/invoke/MethodHandle" ∧ yX4_copy.cls ≠ "java/lang/invoke/VarHandle" ∧ (parseMethodDescriptor yX4_copy.desc).map (fun d => d.parameters.length) = some 1 := by decide +kernel

set_option maxHeartbeats 4000000 in
set_option maxRecDepth 100000 in
theorem mX4_copy (l : Launch) {G : va_G} {T : Nat → ClassId} {H0 : Heap} {a : Nat → Nat} {N : Nat → Nat} {Z : Nat → Nat → Int32} {b : Nat → Nat} {M : Nat → Nat} {Y : Nat → Nat → Int32} (hP : va_P G vwCl ((wCal T a N Z) ++ (wCal T b M Y)) H0) (hD : va_D (fun _ => True) ((wCal T a N Z) ++ (wCal T b M Y))) : mu l yX4_copy wsX4_copy 1 60 [.ref (a 1), .ref (b 1)] G T H0 ((wCal T a N Z) ++ (wCal T b M Y)) (fun v9 H9 => v9 = none ∧ va_P G vwCl ((wCal T a (va_up N 0 (M 0)) (va_up (va_up (va_up (va_up Z 1 (Y 1)) 2 (Y 2)) 3 (Y 3)) 4 (Y 4))) ++ (wCal T b M Y)) H9) := by
  refine mu_ofv (cc := cX4_copy) (maxL := 2) (own := RX4) (by decide +kernel) rfl rfl (Nat.le_of_ble_eq_true rfl) hD ?_
  intro p e s m below meth c Q ls A S hkx hl hD hS hA hret
  obtain ⟨hx, hb, hml, hown, hts⟩ := id S
  have hl : lv_has ls 2 [(0, .ref (a 1)), (1, .ref (b 1))] := hl
  have k9 := hts (.fieldLink RX4 9 "SunsetDates$Versions" "count" "I") (by decide +kernel)
  have iX4 : ∀ w ∈ wsX40, w ∈ wsX4_copy := by decide +kernel
  have k15 := hts (.fieldLink RX4 15 "SunsetDates$Versions" "release" "[I") (by decide +kernel)
  have kA28 := hts (.methodLink RX4 28 arraycopyName) (by decide +kernel)
  have nA := hts (.native arraycopyName) (by decide +kernel)
  have tA := hts (.static arraycopyName) (by decide +kernel)
  have nSys := hts (.initialized "java/lang/System") (by decide +kernel)
  have k19 := hts (.fieldLink RX4 19 "SunsetDates$Versions" "end" "[I") (by decide +kernel)
  have k22 := hts (.fieldLink RX4 22 "SunsetDates$Versions" "extended" "[I") (by decide +kernel)
  have k25 := hts (.fieldLink RX4 25 "SunsetDates$Versions" "features" "[I") (by decide +kernel)
  refine lv_aload_n hx hb dX4_copy_0 rfl (lv_at hl 0 rfl) ?_
  refine lv_aload_n hx hb dX4_copy_1 rfl (lv_at hl 1 rfl) ?_
  refine va_get (D := G) (ci := 4) (C := RX4) (T := TX4) (N := 5) hx hb hts iX4 hown hkx.1 hP 20 rfl rfl 0 (by decide) k9 (fun _ h9 => h9) rfl dX4_copy_2 ?_
  refine va_put (D := G) (ci := 4) (v := .int (nI (M 0))) (ty := .int) (C := RX4) (T := TX4) (N := 5) hx hb hts iX4 tyX4 tyX4_ok nmX4 hown hkx.1 hP hD hS 1 rfl rfl 0 (by decide) k9 (fun _ h9 => h9) rfl (by decide +kernel) rfl rfl (Nat.le_of_ble_eq_true rfl) dX4_copy_5 (fun H locs hP hD hS => ?_)
  have hP : va_P G vwCl ((wCal T a (va_up N 0 (M 0)) Z) ++ (wCal T b M Y)) H := hP
  have hD : va_D A ((wCal T a (va_up N 0 (M 0)) Z) ++ (wCal T b M Y)) := hD
  refine lv_aload_n hx hb dX4_copy_8 rfl (lv_at hl 1 rfl) ?_
  refine va_get (D := G) (ci := 4) (C := RX4) (T := TX4) (N := 5) hx hb hts iX4 hown hkx.1 hP 20 rfl rfl 1 (by decide) k15 (fun _ h9 => h9) rfl dX4_copy_9 ?_
  refine lv_iconst (v := 0) hx hb dX4_copy_12 (by decide) ?_
  refine lv_aload_n hx hb dX4_copy_13 rfl (lv_at hl 0 rfl) ?_
  refine va_get (D := G) (ci := 4) (C := RX4) (T := TX4) (N := 5) hx hb hts iX4 hown hkx.1 hP 1 rfl rfl 1 (by decide) k15 (fun _ h9 => h9) rfl dX4_copy_14 ?_
  refine lv_iconst (v := 0) hx hb dX4_copy_17 (by decide) ?_
  refine lv_bipush (v := 8) hx hb dX4_copy_18 (by decide) ?_
  refine acp hx hb (hml.trans hl.1.symm) hown kA28 nA tA nSys hkx hP hD hS 21 2 rfl rfl rfl (by decide) (Nat.le_of_ble_eq_true rfl) (by decide +kernel) dX4_copy_20 (fun H locs hP hD hS => ?_)
  have hP : va_P G vwCl ((wCal T a (va_up N 0 (M 0)) (va_up Z 1 (Y 1))) ++ (wCal T b M Y)) H := hP
  have hD : va_D A ((wCal T a (va_up N 0 (M 0)) (va_up Z 1 (Y 1))) ++ (wCal T b M Y)) := hD
  refine lv_aload_n hx hb dX4_copy_23 rfl (lv_at hl 1 rfl) ?_
  refine va_get (D := G) (ci := 4) (C := RX4) (T := TX4) (N := 5) hx hb hts iX4 hown hkx.1 hP 20 rfl rfl 2 (by decide) k19 (fun _ h9 => h9) rfl dX4_copy_24 ?_
  refine lv_iconst (v := 0) hx hb dX4_copy_27 (by decide) ?_
  refine lv_aload_n hx hb dX4_copy_28 rfl (lv_at hl 0 rfl) ?_
  refine va_get (D := G) (ci := 4) (C := RX4) (T := TX4) (N := 5) hx hb hts iX4 hown hkx.1 hP 1 rfl rfl 2 (by decide) k19 (fun _ h9 => h9) rfl dX4_copy_29 ?_
  refine lv_iconst (v := 0) hx hb dX4_copy_32 (by decide) ?_
  refine lv_bipush (v := 8) hx hb dX4_copy_33 (by decide) ?_
  refine acp hx hb (hml.trans hl.1.symm) hown kA28 nA tA nSys hkx hP hD hS 22 3 rfl rfl rfl (by decide) (Nat.le_of_ble_eq_true rfl) (by decide +kernel) dX4_copy_35 (fun H locs hP hD hS => ?_)
  have hP : va_P G vwCl ((wCal T a (va_up N 0 (M 0)) (va_up (va_up Z 1 (Y 1)) 2 (Y 2))) ++ (wCal T b M Y)) H := hP
  have hD : va_D A ((wCal T a (va_up N 0 (M 0)) (va_up (va_up Z 1 (Y 1)) 2 (Y 2))) ++ (wCal T b M Y)) := hD
  refine lv_aload_n hx hb dX4_copy_38 rfl (lv_at hl 1 rfl) ?_
  refine va_get (D := G) (ci := 4) (C := RX4) (T := TX4) (N := 5) hx hb hts iX4 hown hkx.1 hP 20 rfl rfl 3 (by decide) k22 (fun _ h9 => h9) rfl dX4_copy_39 ?_
  refine lv_iconst (v := 0) hx hb dX4_copy_42 (by decide) ?_
  refine lv_aload_n hx hb dX4_copy_43 rfl (lv_at hl 0 rfl) ?_
  refine va_get (D := G) (ci := 4) (C := RX4) (T := TX4) (N := 5) hx hb hts iX4 hown hkx.1 hP 1 rfl rfl 3 (by decide) k22 (fun _ h9 => h9) rfl dX4_copy_44 ?_
  refine lv_iconst (v := 0) hx hb dX4_copy_47 (by decide) ?_
  refine lv_bipush (v := 8) hx hb dX4_copy_48 (by decide) ?_
  refine acp hx hb (hml.trans hl.1.symm) hown kA28 nA tA nSys hkx hP hD hS 23 4 rfl rfl rfl (by decide) (Nat.le_of_ble_eq_true rfl) (by decide +kernel) dX4_copy_50 (fun H locs hP hD hS => ?_)
  have hP : va_P G vwCl ((wCal T a (va_up N 0 (M 0)) (va_up (va_up (va_up Z 1 (Y 1)) 2 (Y 2)) 3 (Y 3))) ++ (wCal T b M Y)) H := hP
  have hD : va_D A ((wCal T a (va_up N 0 (M 0)) (va_up (va_up (va_up Z 1 (Y 1)) 2 (Y 2)) 3 (Y 3))) ++ (wCal T b M Y)) := hD
  refine lv_aload_n hx hb dX4_copy_53 rfl (lv_at hl 1 rfl) ?_
  refine va_get (D := G) (ci := 4) (C := RX4) (T := TX4) (N := 5) hx hb hts iX4 hown hkx.1 hP 20 rfl rfl 4 (by decide) k25 (fun _ h9 => h9) rfl dX4_copy_54 ?_
  refine lv_iconst (v := 0) hx hb dX4_copy_57 (by decide) ?_
  refine lv_aload_n hx hb dX4_copy_58 rfl (lv_at hl 0 rfl) ?_
  refine va_get (D := G) (ci := 4) (C := RX4) (T := TX4) (N := 5) hx hb hts iX4 hown hkx.1 hP 1 rfl rfl 4 (by decide) k25 (fun _ h9 => h9) rfl dX4_copy_59 ?_
  refine lv_iconst (v := 0) hx hb dX4_copy_62 (by decide) ?_
  refine lv_bipush (v := 8) hx hb dX4_copy_63 (by decide) ?_
  refine acp hx hb (hml.trans hl.1.symm) hown kA28 nA tA nSys hkx hP hD hS 24 5 rfl rfl rfl (by decide) (Nat.le_of_ble_eq_true rfl) (by decide +kernel) dX4_copy_65 (fun H locs hP hD hS => ?_)
  have hP : va_P G vwCl ((wCal T a (va_up N 0 (M 0)) (va_up (va_up (va_up (va_up Z 1 (Y 1)) 2 (Y 2)) 3 (Y 3)) 4 (Y 4))) ++ (wCal T b M Y)) H := hP
  have hD : va_D A ((wCal T a (va_up N 0 (M 0)) (va_up (va_up (va_up (va_up Z 1 (Y 1)) 2 (Y 2)) 3 (Y 3)) 4 (Y 4))) ++ (wCal T b M Y)) := hD
  exact hret _ _ _ _ (show (none : Option Value) = none ∧ va_P G vwCl ((wCal T a (va_up N 0 (M 0)) (va_up (va_up (va_up (va_up Z 1 (Y 1)) 2 (Y 2)) 3 (Y 3)) 4 (Y 4))) ++ (wCal T b M Y)) H from ⟨rfl, hP⟩) hS dX4_copy_68

theorem idX3_copy : yX3_copy.cls = RX3 ∧ yX3_copy.cls ≠ "java/lang/invoke/MethodHandle" ∧ yX3_copy.cls ≠ "java/lang/invoke/VarHandle" ∧ (parseMethodDescriptor yX3_copy.desc).map (fun d => d.parameters.length) = some 1 := by decide +kernel

set_option maxHeartbeats 4000000 in
set_option maxRecDepth 100000 in
theorem mX3_copy (l : Launch) {G : va_G} {T : Nat → ClassId} {H0 : Heap} {a : Nat → Nat} {N : Nat → Nat} {Z : Nat → Nat → Int32} {b : Nat → Nat} {M : Nat → Nat} {Y : Nat → Nat → Int32} (hP : va_P G vwCl ((wCal T a N Z) ++ (wCal T b M Y)) H0) (hD : va_D (fun _ => True) ((wCal T a N Z) ++ (wCal T b M Y))) : mu l yX3_copy wsX3_copy 1 60 [.ref (a 6), .ref (b 6)] G T H0 ((wCal T a N Z) ++ (wCal T b M Y)) (fun v9 H9 => v9 = none ∧ va_P G vwCl ((wCal T a (va_up N 2 (M 2)) (va_up (va_up (va_up (va_up (va_up (va_up Z 5 (Y 5)) 6 (Y 6)) 7 (Y 7)) 8 (Y 8)) 9 (Y 9)) 10 (Y 10))) ++ (wCal T b M Y)) H9) := by
  refine mu_ofv (cc := cX3_copy) (maxL := 2) (own := RX3) (by decide +kernel) rfl rfl (Nat.le_of_ble_eq_true rfl) hD ?_
  intro p e s m below meth c Q ls A S hkx hl hD hS hA hret
  obtain ⟨hx, hb, hml, hown, hts⟩ := id S
  have hl : lv_has ls 2 [(0, .ref (a 6)), (1, .ref (b 6))] := hl
  have k9 := hts (.fieldLink RX3 9 "SunsetDates$Users" "count" "I") (by decide +kernel)
  have iX3 : ∀ w ∈ wsX30, w ∈ wsX3_copy := by decide +kernel
  have k15 := hts (.fieldLink RX3 15 "SunsetDates$Users" "first" "[I") (by decide +kernel)
  have kA34 := hts (.methodLink RX3 34 arraycopyName) (by decide +kernel)
  have nA := hts (.native arraycopyName) (by decide +kernel)
  have tA := hts (.static arraycopyName) (by decide +kernel)
  have nSys := hts (.initialized "java/lang/System") (by decide +kernel)
  have k19 := hts (.fieldLink RX3 19 "SunsetDates$Users" "uses" "[I") (by decide +kernel)
  have k22 := hts (.fieldLink RX3 22 "SunsetDates$Users" "pledgeVersion" "[I") (by decide +kernel)
  have k25 := hts (.fieldLink RX3 25 "SunsetDates$Users" "pledgeDay" "[I") (by decide +kernel)
  have k28 := hts (.fieldLink RX3 28 "SunsetDates$Users" "slips" "[I") (by decide +kernel)
  have k31 := hts (.fieldLink RX3 31 "SunsetDates$Users" "slipDays" "[I") (by decide +kernel)
  refine lv_aload_n hx hb dX3_copy_0 rfl (lv_at hl 0 rfl) ?_
  refine lv_aload_n hx hb dX3_copy_1 rfl (lv_at hl 1 rfl) ?_
  refine va_get (D := G) (ci := 3) (C := RX3) (T := TX3) (N := 7) hx hb hts iX3 hown hkx.1 hP 25 rfl rfl 0 (by decide) k9 (fun _ h9 => h9) rfl dX3_copy_2 ?_
  refine va_put (D := G) (ci := 3) (v := .int (nI (M 2))) (ty := .int) (C := RX3) (T := TX3) (N := 7) hx hb hts iX3 tyX3 tyX3_ok nmX3 hown hkx.1 hP hD hS 6 rfl rfl 0 (by decide) k9 (fun _ h9 => h9) rfl (by decide +kernel) rfl rfl (Nat.le_of_ble_eq_true rfl) dX3_copy_5 (fun H locs hP hD hS => ?_)
  have hP : va_P G vwCl ((wCal T a (va_up N 2 (M 2)) Z) ++ (wCal T b M Y)) H := hP
  have hD : va_D A ((wCal T a (va_up N 2 (M 2)) Z) ++ (wCal T b M Y)) := hD
  refine lv_aload_n hx hb dX3_copy_8 rfl (lv_at hl 1 rfl) ?_
  refine va_get (D := G) (ci := 3) (C := RX3) (T := TX3) (N := 7) hx hb hts iX3 hown hkx.1 hP 25 rfl rfl 1 (by decide) k15 (fun _ h9 => h9) rfl dX3_copy_9 ?_
  refine lv_iconst (v := 0) hx hb dX3_copy_12 (by decide) ?_
  refine lv_aload_n hx hb dX3_copy_13 rfl (lv_at hl 0 rfl) ?_
  refine va_get (D := G) (ci := 3) (C := RX3) (T := TX3) (N := 7) hx hb hts iX3 hown hkx.1 hP 6 rfl rfl 1 (by decide) k15 (fun _ h9 => h9) rfl dX3_copy_14 ?_
  refine lv_iconst (v := 0) hx hb dX3_copy_17 (by decide) ?_
  refine lv_bipush (v := 10) hx hb dX3_copy_18 (by decide) ?_
  refine acp hx hb (hml.trans hl.1.symm) hown kA34 nA tA nSys hkx hP hD hS 26 7 rfl rfl rfl (by decide) (Nat.le_of_ble_eq_true rfl) (by decide +kernel) dX3_copy_20 (fun H locs hP hD hS => ?_)
  have hP : va_P G vwCl ((wCal T a (va_up N 2 (M 2)) (va_up Z 5 (Y 5))) ++ (wCal T b M Y)) H := hP
  have hD : va_D A ((wCal T a (va_up N 2 (M 2)) (va_up Z 5 (Y 5))) ++ (wCal T b M Y)) := hD
  refine lv_aload_n hx hb dX3_copy_23 rfl (lv_at hl 1 rfl) ?_
  refine va_get (D := G) (ci := 3) (C := RX3) (T := TX3) (N := 7) hx hb hts iX3 hown hkx.1 hP 25 rfl rfl 2 (by decide) k19 (fun _ h9 => h9) rfl dX3_copy_24 ?_
  refine lv_iconst (v := 0) hx hb dX3_copy_27 (by decide) ?_
  refine lv_aload_n hx hb dX3_copy_28 rfl (lv_at hl 0 rfl) ?_
  refine va_get (D := G) (ci := 3) (C := RX3) (T := TX3) (N := 7) hx hb hts iX3 hown hkx.1 hP 6 rfl rfl 2 (by decide) k19 (fun _ h9 => h9) rfl dX3_copy_29 ?_
  refine lv_iconst (v := 0) hx hb dX3_copy_32 (by decide) ?_
  refine lv_bipush (v := 10) hx hb dX3_copy_33 (by decide) ?_
  refine acp hx hb (hml.trans hl.1.symm) hown kA34 nA tA nSys hkx hP hD hS 27 8 rfl rfl rfl (by decide) (Nat.le_of_ble_eq_true rfl) (by decide +kernel) dX3_copy_35 (fun H locs hP hD hS => ?_)
  have hP : va_P G vwCl ((wCal T a (va_up N 2 (M 2)) (va_up (va_up Z 5 (Y 5)) 6 (Y 6))) ++ (wCal T b M Y)) H := hP
  have hD : va_D A ((wCal T a (va_up N 2 (M 2)) (va_up (va_up Z 5 (Y 5)) 6 (Y 6))) ++ (wCal T b M Y)) := hD
  refine lv_aload_n hx hb dX3_copy_38 rfl (lv_at hl 1 rfl) ?_
  refine va_get (D := G) (ci := 3) (C := RX3) (T := TX3) (N := 7) hx hb hts iX3 hown hkx.1 hP 25 rfl rfl 3 (by decide) k22 (fun _ h9 => h9) rfl dX3_copy_39 ?_
  refine lv_iconst (v := 0) hx hb dX3_copy_42 (by decide) ?_
  refine lv_aload_n hx hb dX3_copy_43 rfl (lv_at hl 0 rfl) ?_
  refine va_get (D := G) (ci := 3) (C := RX3) (T := TX3) (N := 7) hx hb hts iX3 hown hkx.1 hP 6 rfl rfl 3 (by decide) k22 (fun _ h9 => h9) rfl dX3_copy_44 ?_
  refine lv_iconst (v := 0) hx hb dX3_copy_47 (by decide) ?_
  refine lv_bipush (v := 10) hx hb dX3_copy_48 (by decide) ?_
  refine acp hx hb (hml.trans hl.1.symm) hown kA34 nA tA nSys hkx hP hD hS 28 9 rfl rfl rfl (by decide) (Nat.le_of_ble_eq_true rfl) (by decide +kernel) dX3_copy_50 (fun H locs hP hD hS => ?_)
  have hP : va_P G vwCl ((wCal T a (va_up N 2 (M 2)) (va_up (va_up (va_up Z 5 (Y 5)) 6 (Y 6)) 7 (Y 7))) ++ (wCal T b M Y)) H := hP
  have hD : va_D A ((wCal T a (va_up N 2 (M 2)) (va_up (va_up (va_up Z 5 (Y 5)) 6 (Y 6)) 7 (Y 7))) ++ (wCal T b M Y)) := hD
  refine lv_aload_n hx hb dX3_copy_53 rfl (lv_at hl 1 rfl) ?_
  refine va_get (D := G) (ci := 3) (C := RX3) (T := TX3) (N := 7) hx hb hts iX3 hown hkx.1 hP 25 rfl rfl 4 (by decide) k25 (fun _ h9 => h9) rfl dX3_copy_54 ?_
  refine lv_iconst (v := 0) hx hb dX3_copy_57 (by decide) ?_
  refine lv_aload_n hx hb dX3_copy_58 rfl (lv_at hl 0 rfl) ?_
  refine va_get (D := G) (ci := 3) (C := RX3) (T := TX3) (N := 7) hx hb hts iX3 hown hkx.1 hP 6 rfl rfl 4 (by decide) k25 (fun _ h9 => h9) rfl dX3_copy_59 ?_
  refine lv_iconst (v := 0) hx hb dX3_copy_62 (by decide) ?_
  refine lv_bipush (v := 10) hx hb dX3_copy_63 (by decide) ?_
  refine acp hx hb (hml.trans hl.1.symm) hown kA34 nA tA nSys hkx hP hD hS 29 10 rfl rfl rfl (by decide) (Nat.le_of_ble_eq_true rfl) (by decide +kernel) dX3_copy_65 (fun H locs hP hD hS => ?_)
  have hP : va_P G vwCl ((wCal T a (va_up N 2 (M 2)) (va_up (va_up (va_up (va_up Z 5 (Y 5)) 6 (Y 6)) 7 (Y 7)) 8 (Y 8))) ++ (wCal T b M Y)) H := hP
  have hD : va_D A ((wCal T a (va_up N 2 (M 2)) (va_up (va_up (va_up (va_up Z 5 (Y 5)) 6 (Y 6)) 7 (Y 7)) 8 (Y 8))) ++ (wCal T b M Y)) := hD
  refine lv_aload_n hx hb dX3_copy_68 rfl (lv_at hl 1 rfl) ?_
  refine va_get (D := G) (ci := 3) (C := RX3) (T := TX3) (N := 7) hx hb hts iX3 hown hkx.1 hP 25 rfl rfl 5 (by decide) k28 (fun _ h9 => h9) rfl dX3_copy_69 ?_
  refine lv_iconst (v := 0) hx hb dX3_copy_72 (by decide) ?_
  refine lv_aload_n hx hb dX3_copy_73 rfl (lv_at hl 0 rfl) ?_
  refine va_get (D := G) (ci := 3) (C := RX3) (T := TX3) (N := 7) hx hb hts iX3 hown hkx.1 hP 6 rfl rfl 5 (by decide) k28 (fun _ h9 => h9) rfl dX3_copy_74 ?_
  refine lv_iconst (v := 0) hx hb dX3_copy_77 (by decide) ?_
  refine lv_bipush (v := 10) hx hb dX3_copy_78 (by decide) ?_
  refine acp hx hb (hml.trans hl.1.symm) hown kA34 nA tA nSys hkx hP hD hS 30 11 rfl rfl rfl (by decide) (Nat.le_of_ble_eq_true rfl) (by decide +kernel) dX3_copy_80 (fun H locs hP hD hS => ?_)
  have hP : va_P G vwCl ((wCal T a (va_up N 2 (M 2)) (va_up (va_up (va_up (va_up (va_up Z 5 (Y 5)) 6 (Y 6)) 7 (Y 7)) 8 (Y 8)) 9 (Y 9))) ++ (wCal T b M Y)) H := hP
  have hD : va_D A ((wCal T a (va_up N 2 (M 2)) (va_up (va_up (va_up (va_up (va_up Z 5 (Y 5)) 6 (Y 6)) 7 (Y 7)) 8 (Y 8)) 9 (Y 9))) ++ (wCal T b M Y)) := hD
  refine lv_aload_n hx hb dX3_copy_83 rfl (lv_at hl 1 rfl) ?_
  refine va_get (D := G) (ci := 3) (C := RX3) (T := TX3) (N := 7) hx hb hts iX3 hown hkx.1 hP 25 rfl rfl 6 (by decide) k31 (fun _ h9 => h9) rfl dX3_copy_84 ?_
  refine lv_iconst (v := 0) hx hb dX3_copy_87 (by decide) ?_
  refine lv_aload_n hx hb dX3_copy_88 rfl (lv_at hl 0 rfl) ?_
  refine va_get (D := G) (ci := 3) (C := RX3) (T := TX3) (N := 7) hx hb hts iX3 hown hkx.1 hP 6 rfl rfl 6 (by decide) k31 (fun _ h9 => h9) rfl dX3_copy_89 ?_
  refine lv_iconst (v := 0) hx hb dX3_copy_92 (by decide) ?_
  refine lv_bipush (v := 10) hx hb dX3_copy_93 (by decide) ?_
  refine acp hx hb (hml.trans hl.1.symm) hown kA34 nA tA nSys hkx hP hD hS 31 12 rfl rfl rfl (by decide) (Nat.le_of_ble_eq_true rfl) (by decide +kernel) dX3_copy_95 (fun H locs hP hD hS => ?_)
  have hP : va_P G vwCl ((wCal T a (va_up N 2 (M 2)) (va_up (va_up (va_up (va_up (va_up (va_up Z 5 (Y 5)) 6 (Y 6)) 7 (Y 7)) 8 (Y 8)) 9 (Y 9)) 10 (Y 10))) ++ (wCal T b M Y)) H := hP
  have hD : va_D A ((wCal T a (va_up N 2 (M 2)) (va_up (va_up (va_up (va_up (va_up (va_up Z 5 (Y 5)) 6 (Y 6)) 7 (Y 7)) 8 (Y 8)) 9 (Y 9)) 10 (Y 10))) ++ (wCal T b M Y)) := hD
  exact hret _ _ _ _ (show (none : Option Value) = none ∧ va_P G vwCl ((wCal T a (va_up N 2 (M 2)) (va_up (va_up (va_up (va_up (va_up (va_up Z 5 (Y 5)) 6 (Y 6)) 7 (Y 7)) 8 (Y 8)) 9 (Y 9)) 10 (Y 10))) ++ (wCal T b M Y)) H from ⟨rfl, hP⟩) hS dX3_copy_98

theorem idX2_copy : yX2_copy.cls = RX2 ∧ yX2_copy.cls ≠ "java/lang/invoke/MethodHandle" ∧ yX2_copy.cls ≠ "java/lang/invoke/VarHandle" ∧ (parseMethodDescriptor yX2_copy.desc).map (fun d => d.parameters.length) = some 1 := by decide +kernel

set_option maxHeartbeats 4000000 in
set_option maxRecDepth 100000 in
theorem mX2_copy (l : Launch) {G : va_G} {T : Nat → ClassId} {H0 : Heap} {a : Nat → Nat} {N : Nat → Nat} {Z : Nat → Nat → Int32} {b : Nat → Nat} {M : Nat → Nat} {Y : Nat → Nat → Int32} (hP : va_P G vwCl ((wCal T a N Z) ++ (wCal T b M Y)) H0) (hD : va_D (fun _ => True) ((wCal T a N Z) ++ (wCal T b M Y))) : mu l yX2_copy wsX2_copy 1 60 [.ref (a 13), .ref (b 13)] G T H0 ((wCal T a N Z) ++ (wCal T b M Y)) (fun v9 H9 => v9 = none ∧ va_P G vwCl ((wCal T a (va_up N 3 (M 3)) (va_up (va_up (va_up (va_up (va_up Z 11 (Y 11)) 12 (Y 12)) 13 (Y 13)) 14 (Y 14)) 15 (Y 15))) ++ (wCal T b M Y)) H9) := by
  refine mu_ofv (cc := cX2_copy) (maxL := 2) (own := RX2) (by decide +kernel) rfl rfl (Nat.le_of_ble_eq_true rfl) hD ?_
  intro p e s m below meth c Q ls A S hkx hl hD hS hA hret
  obtain ⟨hx, hb, hml, hown, hts⟩ := id S
  have hl : lv_has ls 2 [(0, .ref (a 13)), (1, .ref (b 13))] := hl
  have k9 := hts (.fieldLink RX2 9 "SunsetDates$Shims" "count" "I") (by decide +kernel)
  have iX2 : ∀ w ∈ wsX20, w ∈ wsX2_copy := by decide +kernel
  have k15 := hts (.fieldLink RX2 15 "SunsetDates$Shims" "feature" "[I") (by decide +kernel)
  have kA31 := hts (.methodLink RX2 31 arraycopyName) (by decide +kernel)
  have nA := hts (.native arraycopyName) (by decide +kernel)
  have tA := hts (.static arraycopyName) (by decide +kernel)
  have nSys := hts (.initialized "java/lang/System") (by decide +kernel)
  have k19 := hts (.fieldLink RX2 19 "SunsetDates$Shims" "version" "[I") (by decide +kernel)
  have k22 := hts (.fieldLink RX2 22 "SunsetDates$Shims" "first" "[I") (by decide +kernel)
  have k25 := hts (.fieldLink RX2 25 "SunsetDates$Shims" "last" "[I") (by decide +kernel)
  have k28 := hts (.fieldLink RX2 28 "SunsetDates$Shims" "price" "[I") (by decide +kernel)
  refine lv_aload_n hx hb dX2_copy_0 rfl (lv_at hl 0 rfl) ?_
  refine lv_aload_n hx hb dX2_copy_1 rfl (lv_at hl 1 rfl) ?_
  refine va_get (D := G) (ci := 2) (C := RX2) (T := TX2) (N := 6) hx hb hts iX2 hown hkx.1 hP 32 rfl rfl 0 (by decide) k9 (fun _ h9 => h9) rfl dX2_copy_2 ?_
  refine va_put (D := G) (ci := 2) (v := .int (nI (M 3))) (ty := .int) (C := RX2) (T := TX2) (N := 6) hx hb hts iX2 tyX2 tyX2_ok nmX2 hown hkx.1 hP hD hS 13 rfl rfl 0 (by decide) k9 (fun _ h9 => h9) rfl (by decide +kernel) rfl rfl (Nat.le_of_ble_eq_true rfl) dX2_copy_5 (fun H locs hP hD hS => ?_)
  have hP : va_P G vwCl ((wCal T a (va_up N 3 (M 3)) Z) ++ (wCal T b M Y)) H := hP
  have hD : va_D A ((wCal T a (va_up N 3 (M 3)) Z) ++ (wCal T b M Y)) := hD
  refine lv_aload_n hx hb dX2_copy_8 rfl (lv_at hl 1 rfl) ?_
  refine va_get (D := G) (ci := 2) (C := RX2) (T := TX2) (N := 6) hx hb hts iX2 hown hkx.1 hP 32 rfl rfl 1 (by decide) k15 (fun _ h9 => h9) rfl dX2_copy_9 ?_
  refine lv_iconst (v := 0) hx hb dX2_copy_12 (by decide) ?_
  refine lv_aload_n hx hb dX2_copy_13 rfl (lv_at hl 0 rfl) ?_
  refine va_get (D := G) (ci := 2) (C := RX2) (T := TX2) (N := 6) hx hb hts iX2 hown hkx.1 hP 13 rfl rfl 1 (by decide) k15 (fun _ h9 => h9) rfl dX2_copy_14 ?_
  refine lv_iconst (v := 0) hx hb dX2_copy_17 (by decide) ?_
  refine lv_bipush (v := 12) hx hb dX2_copy_18 (by decide) ?_
  refine acp hx hb (hml.trans hl.1.symm) hown kA31 nA tA nSys hkx hP hD hS 33 14 rfl rfl rfl (by decide) (Nat.le_of_ble_eq_true rfl) (by decide +kernel) dX2_copy_20 (fun H locs hP hD hS => ?_)
  have hP : va_P G vwCl ((wCal T a (va_up N 3 (M 3)) (va_up Z 11 (Y 11))) ++ (wCal T b M Y)) H := hP
  have hD : va_D A ((wCal T a (va_up N 3 (M 3)) (va_up Z 11 (Y 11))) ++ (wCal T b M Y)) := hD
  refine lv_aload_n hx hb dX2_copy_23 rfl (lv_at hl 1 rfl) ?_
  refine va_get (D := G) (ci := 2) (C := RX2) (T := TX2) (N := 6) hx hb hts iX2 hown hkx.1 hP 32 rfl rfl 2 (by decide) k19 (fun _ h9 => h9) rfl dX2_copy_24 ?_
  refine lv_iconst (v := 0) hx hb dX2_copy_27 (by decide) ?_
  refine lv_aload_n hx hb dX2_copy_28 rfl (lv_at hl 0 rfl) ?_
  refine va_get (D := G) (ci := 2) (C := RX2) (T := TX2) (N := 6) hx hb hts iX2 hown hkx.1 hP 13 rfl rfl 2 (by decide) k19 (fun _ h9 => h9) rfl dX2_copy_29 ?_
  refine lv_iconst (v := 0) hx hb dX2_copy_32 (by decide) ?_
  refine lv_bipush (v := 12) hx hb dX2_copy_33 (by decide) ?_
  refine acp hx hb (hml.trans hl.1.symm) hown kA31 nA tA nSys hkx hP hD hS 34 15 rfl rfl rfl (by decide) (Nat.le_of_ble_eq_true rfl) (by decide +kernel) dX2_copy_35 (fun H locs hP hD hS => ?_)
  have hP : va_P G vwCl ((wCal T a (va_up N 3 (M 3)) (va_up (va_up Z 11 (Y 11)) 12 (Y 12))) ++ (wCal T b M Y)) H := hP
  have hD : va_D A ((wCal T a (va_up N 3 (M 3)) (va_up (va_up Z 11 (Y 11)) 12 (Y 12))) ++ (wCal T b M Y)) := hD
  refine lv_aload_n hx hb dX2_copy_38 rfl (lv_at hl 1 rfl) ?_
  refine va_get (D := G) (ci := 2) (C := RX2) (T := TX2) (N := 6) hx hb hts iX2 hown hkx.1 hP 32 rfl rfl 3 (by decide) k22 (fun _ h9 => h9) rfl dX2_copy_39 ?_
  refine lv_iconst (v := 0) hx hb dX2_copy_42 (by decide) ?_
  refine lv_aload_n hx hb dX2_copy_43 rfl (lv_at hl 0 rfl) ?_
  refine va_get (D := G) (ci := 2) (C := RX2) (T := TX2) (N := 6) hx hb hts iX2 hown hkx.1 hP 13 rfl rfl 3 (by decide) k22 (fun _ h9 => h9) rfl dX2_copy_44 ?_
  refine lv_iconst (v := 0) hx hb dX2_copy_47 (by decide) ?_
  refine lv_bipush (v := 12) hx hb dX2_copy_48 (by decide) ?_
  refine acp hx hb (hml.trans hl.1.symm) hown kA31 nA tA nSys hkx hP hD hS 35 16 rfl rfl rfl (by decide) (Nat.le_of_ble_eq_true rfl) (by decide +kernel) dX2_copy_50 (fun H locs hP hD hS => ?_)
  have hP : va_P G vwCl ((wCal T a (va_up N 3 (M 3)) (va_up (va_up (va_up Z 11 (Y 11)) 12 (Y 12)) 13 (Y 13))) ++ (wCal T b M Y)) H := hP
  have hD : va_D A ((wCal T a (va_up N 3 (M 3)) (va_up (va_up (va_up Z 11 (Y 11)) 12 (Y 12)) 13 (Y 13))) ++ (wCal T b M Y)) := hD
  refine lv_aload_n hx hb dX2_copy_53 rfl (lv_at hl 1 rfl) ?_
  refine va_get (D := G) (ci := 2) (C := RX2) (T := TX2) (N := 6) hx hb hts iX2 hown hkx.1 hP 32 rfl rfl 4 (by decide) k25 (fun _ h9 => h9) rfl dX2_copy_54 ?_
  refine lv_iconst (v := 0) hx hb dX2_copy_57 (by decide) ?_
  refine lv_aload_n hx hb dX2_copy_58 rfl (lv_at hl 0 rfl) ?_
  refine va_get (D := G) (ci := 2) (C := RX2) (T := TX2) (N := 6) hx hb hts iX2 hown hkx.1 hP 13 rfl rfl 4 (by decide) k25 (fun _ h9 => h9) rfl dX2_copy_59 ?_
  refine lv_iconst (v := 0) hx hb dX2_copy_62 (by decide) ?_
  refine lv_bipush (v := 12) hx hb dX2_copy_63 (by decide) ?_
  refine acp hx hb (hml.trans hl.1.symm) hown kA31 nA tA nSys hkx hP hD hS 36 17 rfl rfl rfl (by decide) (Nat.le_of_ble_eq_true rfl) (by decide +kernel) dX2_copy_65 (fun H locs hP hD hS => ?_)
  have hP : va_P G vwCl ((wCal T a (va_up N 3 (M 3)) (va_up (va_up (va_up (va_up Z 11 (Y 11)) 12 (Y 12)) 13 (Y 13)) 14 (Y 14))) ++ (wCal T b M Y)) H := hP
  have hD : va_D A ((wCal T a (va_up N 3 (M 3)) (va_up (va_up (va_up (va_up Z 11 (Y 11)) 12 (Y 12)) 13 (Y 13)) 14 (Y 14))) ++ (wCal T b M Y)) := hD
  refine lv_aload_n hx hb dX2_copy_68 rfl (lv_at hl 1 rfl) ?_
  refine va_get (D := G) (ci := 2) (C := RX2) (T := TX2) (N := 6) hx hb hts iX2 hown hkx.1 hP 32 rfl rfl 5 (by decide) k28 (fun _ h9 => h9) rfl dX2_copy_69 ?_
  refine lv_iconst (v := 0) hx hb dX2_copy_72 (by decide) ?_
  refine lv_aload_n hx hb dX2_copy_73 rfl (lv_at hl 0 rfl) ?_
  refine va_get (D := G) (ci := 2) (C := RX2) (T := TX2) (N := 6) hx hb hts iX2 hown hkx.1 hP 13 rfl rfl 5 (by decide) k28 (fun _ h9 => h9) rfl dX2_copy_74 ?_
  refine lv_iconst (v := 0) hx hb dX2_copy_77 (by decide) ?_
  refine lv_bipush (v := 12) hx hb dX2_copy_78 (by decide) ?_
  refine acp hx hb (hml.trans hl.1.symm) hown kA31 nA tA nSys hkx hP hD hS 37 18 rfl rfl rfl (by decide) (Nat.le_of_ble_eq_true rfl) (by decide +kernel) dX2_copy_80 (fun H locs hP hD hS => ?_)
  have hP : va_P G vwCl ((wCal T a (va_up N 3 (M 3)) (va_up (va_up (va_up (va_up (va_up Z 11 (Y 11)) 12 (Y 12)) 13 (Y 13)) 14 (Y 14)) 15 (Y 15))) ++ (wCal T b M Y)) H := hP
  have hD : va_D A ((wCal T a (va_up N 3 (M 3)) (va_up (va_up (va_up (va_up (va_up Z 11 (Y 11)) 12 (Y 12)) 13 (Y 13)) 14 (Y 14)) 15 (Y 15))) ++ (wCal T b M Y)) := hD
  exact hret _ _ _ _ (show (none : Option Value) = none ∧ va_P G vwCl ((wCal T a (va_up N 3 (M 3)) (va_up (va_up (va_up (va_up (va_up Z 11 (Y 11)) 12 (Y 12)) 13 (Y 13)) 14 (Y 14)) 15 (Y 15))) ++ (wCal T b M Y)) H from ⟨rfl, hP⟩) hS dX2_copy_83

theorem idX0_copy : yX0_copy.cls = RX0 ∧ yX0_copy.cls ≠ "java/lang/invoke/MethodHandle" ∧ yX0_copy.cls ≠ "java/lang/invoke/VarHandle" ∧ (parseMethodDescriptor yX0_copy.desc).map (fun d => d.parameters.length) = some 1 := by decide +kernel

set_option maxHeartbeats 4000000 in
set_option maxRecDepth 100000 in
theorem mX0_copy (l : Launch) {G : va_G} {T : Nat → ClassId} {H0 : Heap} {a : Nat → Nat} {N : Nat → Nat} {Z : Nat → Nat → Int32} {b : Nat → Nat} {M : Nat → Nat} {Y : Nat → Nat → Int32} (hP : va_P G vwCl ((wCal T a N Z) ++ (wCal T b M Y)) H0) (hD : va_D (fun _ => True) ((wCal T a N Z) ++ (wCal T b M Y))) : mu l yX0_copy wsX0_copy 2 81 [.ref (a 0), .ref (b 0)] G T H0 ((wCal T a N Z) ++ (wCal T b M Y)) (fun v9 H9 => v9 = none ∧ va_P G vwCl ((wCal T a M Y) ++ (wCal T b M Y)) H9) := by
  refine mu_ofv (cc := cX0_copy) (maxL := 2) (own := RX0) (by decide +kernel) rfl rfl (Nat.le_of_ble_eq_true rfl) hD ?_
  intro p e s m below meth c Q ls A S hkx hl hD hS hA hret
  obtain ⟨hx, hb, hml, hown, hts⟩ := id S
  have hl : lv_has ls 2 [(0, .ref (a 0)), (1, .ref (b 0))] := hl
  have k12 := hts (.fieldLink RX0 12 "SunsetDates$Calendar" "versions" "LSunsetDates$Versions;") (by decide +kernel)
  have iX0 : ∀ w ∈ wsX00, w ∈ wsX0_copy := by decide +kernel
  have k18 := hts (.fieldLink RX0 18 "SunsetDates$Calendar" "featureCount" "I") (by decide +kernel)
  have k25 := hts (.fieldLink RX0 25 "SunsetDates$Calendar" "users" "LSunsetDates$Users;") (by decide +kernel)
  have k32 := hts (.fieldLink RX0 32 "SunsetDates$Calendar" "shims" "LSunsetDates$Shims;") (by decide +kernel)
  refine lv_aload_n hx hb dX0_copy_0 rfl (lv_at hl 0 rfl) ?_
  refine va_get (D := G) (ci := 0) (C := RX0) (T := TX0) (N := 4) hx hb hts iX0 hown hkx.1 hP 0 rfl rfl 0 (by decide) k12 (fun _ h9 => h9) rfl dX0_copy_1 ?_
  refine lv_aload_n hx hb dX0_copy_4 rfl (lv_at hl 1 rfl) ?_
  refine va_get (D := G) (ci := 0) (C := RX0) (T := TX0) (N := 4) hx hb hts iX0 hown hkx.1 hP 19 rfl rfl 0 (by decide) k12 (fun _ h9 => h9) rfl dX0_copy_5 ?_
  refine mu_V S hkx (mX4_copy l (a := a) (N := N) (Z := Z) (b := b) (M := M) (Y := Y) (hP := hP) (hD := hD.weaken (fun _ _ _ _ => trivial))) gX0_copy_X4_copy rfl idX4_copy ⟨Nat.le_of_ble_eq_true rfl, Nat.le_of_ble_eq_true rfl⟩ hP 1 rfl rfl rfl rfl hl.1 rfl (Nat.le_of_ble_eq_true rfl) dX0_copy_8 ⟨Nat.le_refl _, Nat.le_refl _⟩ hS (fr_in hD (fun q h => hA q (Nat.le_trans hS.1 h))) (fun v H locs hp9 hz1 hk1 hS => ?_)
  obtain ⟨rfl, hP⟩ := hp9
  have hP : va_P G vwCl ((wCal T a (va_up N 0 (M 0)) (va_up (va_up (va_up (va_up Z 1 (Y 1)) 2 (Y 2)) 3 (Y 3)) 4 (Y 4))) ++ (wCal T b M Y)) H := hP
  have hD : va_D A ((wCal T a (va_up N 0 (M 0)) (va_up (va_up (va_up (va_up Z 1 (Y 1)) 2 (Y 2)) 3 (Y 3)) 4 (Y 4))) ++ (wCal T b M Y)) := fr_all hD rfl
  refine W.eq (g2 := F0 m 11 ls []) rfl ?_
  refine lv_aload_n hx hb dX0_copy_11 rfl (lv_at hl 0 rfl) ?_
  refine lv_aload_n hx hb dX0_copy_12 rfl (lv_at hl 1 rfl) ?_
  refine va_get (D := G) (ci := 0) (C := RX0) (T := TX0) (N := 4) hx hb hts iX0 hown hkx.1 hP 19 rfl rfl 1 (by decide) k18 (fun _ h9 => h9) rfl dX0_copy_13 ?_
  refine va_put (D := G) (ci := 0) (v := .int (nI (M 1))) (ty := .int) (C := RX0) (T := TX0) (N := 4) hx hb hts iX0 tyX0 tyX0_ok nmX0 hown hkx.1 hP hD hS 0 rfl rfl 1 (by decide) k18 (fun _ h9 => h9) rfl (by decide +kernel) rfl rfl (Nat.le_of_ble_eq_true rfl) dX0_copy_16 (fun H locs hP hD hS => ?_)
  have hP : va_P G vwCl ((wCal T a (va_up (va_up N 0 (M 0)) 1 (M 1)) (va_up (va_up (va_up (va_up Z 1 (Y 1)) 2 (Y 2)) 3 (Y 3)) 4 (Y 4))) ++ (wCal T b M Y)) H := hP
  have hD : va_D A ((wCal T a (va_up (va_up N 0 (M 0)) 1 (M 1)) (va_up (va_up (va_up (va_up Z 1 (Y 1)) 2 (Y 2)) 3 (Y 3)) 4 (Y 4))) ++ (wCal T b M Y)) := hD
  refine lv_aload_n hx hb dX0_copy_19 rfl (lv_at hl 0 rfl) ?_
  refine va_get (D := G) (ci := 0) (C := RX0) (T := TX0) (N := 4) hx hb hts iX0 hown hkx.1 hP 0 rfl rfl 2 (by decide) k25 (fun _ h9 => h9) rfl dX0_copy_20 ?_
  refine lv_aload_n hx hb dX0_copy_23 rfl (lv_at hl 1 rfl) ?_
  refine va_get (D := G) (ci := 0) (C := RX0) (T := TX0) (N := 4) hx hb hts iX0 hown hkx.1 hP 19 rfl rfl 2 (by decide) k25 (fun _ h9 => h9) rfl dX0_copy_24 ?_
  refine mu_V S hkx (mX3_copy l (a := a) (N := (va_up (va_up N 0 (M 0)) 1 (M 1))) (Z := (va_up (va_up (va_up (va_up Z 1 (Y 1)) 2 (Y 2)) 3 (Y 3)) 4 (Y 4))) (b := b) (M := M) (Y := Y) (hP := hP) (hD := hD.weaken (fun _ _ _ _ => trivial))) gX0_copy_X3_copy rfl idX3_copy ⟨Nat.le_of_ble_eq_true rfl, Nat.le_of_ble_eq_true rfl⟩ hP 6 rfl rfl rfl rfl hl.1 rfl (Nat.le_of_ble_eq_true rfl) dX0_copy_27 ⟨Nat.le_refl _, Nat.le_refl _⟩ hS (fr_in hD (fun q h => hA q (Nat.le_trans hS.1 h))) (fun v H locs hp9 hz1 hk1 hS => ?_)
  obtain ⟨rfl, hP⟩ := hp9
  have hP : va_P G vwCl ((wCal T a (va_up (va_up (va_up N 0 (M 0)) 1 (M 1)) 2 (M 2)) (va_up (va_up (va_up (va_up (va_up (va_up (va_up (va_up (va_up (va_up Z 1 (Y 1)) 2 (Y 2)) 3 (Y 3)) 4 (Y 4)) 5 (Y 5)) 6 (Y 6)) 7 (Y 7)) 8 (Y 8)) 9 (Y 9)) 10 (Y 10))) ++ (wCal T b M Y)) H := hP
  have hD : va_D A ((wCal T a (va_up (va_up (va_up N 0 (M 0)) 1 (M 1)) 2 (M 2)) (va_up (va_up (va_up (va_up (va_up (va_up (va_up (va_up (va_up (va_up Z 1 (Y 1)) 2 (Y 2)) 3 (Y 3)) 4 (Y 4)) 5 (Y 5)) 6 (Y 6)) 7 (Y 7)) 8 (Y 8)) 9 (Y 9)) 10 (Y 10))) ++ (wCal T b M Y)) := fr_all hD rfl
  refine W.eq (g2 := F0 m 30 ls []) rfl ?_
  refine lv_aload_n hx hb dX0_copy_30 rfl (lv_at hl 0 rfl) ?_
  refine va_get (D := G) (ci := 0) (C := RX0) (T := TX0) (N := 4) hx hb hts iX0 hown hkx.1 hP 0 rfl rfl 3 (by decide) k32 (fun _ h9 => h9) rfl dX0_copy_31 ?_
  refine lv_aload_n hx hb dX0_copy_34 rfl (lv_at hl 1 rfl) ?_
  refine va_get (D := G) (ci := 0) (C := RX0) (T := TX0) (N := 4) hx hb hts iX0 hown hkx.1 hP 19 rfl rfl 3 (by decide) k32 (fun _ h9 => h9) rfl dX0_copy_35 ?_
  refine mu_V S hkx (mX2_copy l (a := a) (N := (va_up (va_up (va_up N 0 (M 0)) 1 (M 1)) 2 (M 2))) (Z := (va_up (va_up (va_up (va_up (va_up (va_up (va_up (va_up (va_up (va_up Z 1 (Y 1)) 2 (Y 2)) 3 (Y 3)) 4 (Y 4)) 5 (Y 5)) 6 (Y 6)) 7 (Y 7)) 8 (Y 8)) 9 (Y 9)) 10 (Y 10))) (b := b) (M := M) (Y := Y) (hP := hP) (hD := hD.weaken (fun _ _ _ _ => trivial))) gX0_copy_X2_copy rfl idX2_copy ⟨Nat.le_of_ble_eq_true rfl, Nat.le_of_ble_eq_true rfl⟩ hP 13 rfl rfl rfl rfl hl.1 rfl (Nat.le_of_ble_eq_true rfl) dX0_copy_38 ⟨Nat.le_refl _, Nat.le_refl _⟩ hS (fr_in hD (fun q h => hA q (Nat.le_trans hS.1 h))) (fun v H locs hp9 hz1 hk1 hS => ?_)
  obtain ⟨rfl, hP⟩ := hp9
  have hP : va_P G vwCl ((wCal T a (va_up (va_up (va_up (va_up N 0 (M 0)) 1 (M 1)) 2 (M 2)) 3 (M 3)) (va_up (va_up (va_up (va_up (va_up (va_up (va_up (va_up (va_up (va_up (va_up (va_up (va_up (va_up (va_up Z 1 (Y 1)) 2 (Y 2)) 3 (Y 3)) 4 (Y 4)) 5 (Y 5)) 6 (Y 6)) 7 (Y 7)) 8 (Y 8)) 9 (Y 9)) 10 (Y 10)) 11 (Y 11)) 12 (Y 12)) 13 (Y 13)) 14 (Y 14)) 15 (Y 15))) ++ (wCal T b M Y)) H := hP
  have hD : va_D A ((wCal T a (va_up (va_up (va_up (va_up N 0 (M 0)) 1 (M 1)) 2 (M 2)) 3 (M 3)) (va_up (va_up (va_up (va_up (va_up (va_up (va_up (va_up (va_up (va_up (va_up (va_up (va_up (va_up (va_up Z 1 (Y 1)) 2 (Y 2)) 3 (Y 3)) 4 (Y 4)) 5 (Y 5)) 6 (Y 6)) 7 (Y 7)) 8 (Y 8)) 9 (Y 9)) 10 (Y 10)) 11 (Y 11)) 12 (Y 12)) 13 (Y 13)) 14 (Y 14)) 15 (Y 15))) ++ (wCal T b M Y)) := fr_all hD rfl
  refine W.eq (g2 := F0 m 41 ls []) rfl ?_
  exact hret _ _ _ _ (show (none : Option Value) = none ∧ va_P G vwCl ((wCal T a M Y) ++ (wCal T b M Y)) H from ⟨rfl, hP⟩) hS dX0_copy_41
