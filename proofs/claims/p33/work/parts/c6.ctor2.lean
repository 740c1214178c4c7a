theorem idX4_init : yX4_init.cls = RX4 ∧ yX4_init.cls ≠ "java/lang/invoke/MethodHandle" ∧ yX4_init.cls ≠ "java/lang/invoke/VarHandle" ∧ (parseMethodDescriptor yX4_init.desc).map (fun d => d.parameters.length) = some 0 := by decide +kernel

set_option maxHeartbeats 4000000 in
set_option maxRecDepth 100000 in
theorem mX4_init (l : Launch) {G : va_G} {T : Nat → ClassId} {H0 : Heap} {h : Nat} (hP : va_P G vwCl [(h, .inr (4, [.int 0, .null, .null, .null, .null]))] H0) (hD : va_D (fun _ => True) [(h, .inr (4, [.int 0, .null, .null, .null, .null]))]) : mk l yX4_init wsX4_init 1 12 4 32 [.ref h] G T (fun _ => True) H0 [(h, .inr (4, [.int 0, .null, .null, .null, .null]))] (ShV T h) := by
  refine mk_of (cc := cX4_init) (maxL := 1) (own := RX4) (by decide +kernel) rfl rfl rfl (Nat.le_of_ble_eq_true rfl) hD ?_
  intro p e s m below meth c Q ls A S hkx hao hin hl hD hS hA hret
  obtain ⟨hx, hb, hml, hown, hts⟩ := id S
  have hl : lv_has ls 1 [(0, .ref h)] := hl
  have k9 := hts (.fieldLink RX4 9 "SunsetDates$Versions" "count" "I") (by decide +kernel)
  have iX4 : ∀ w ∈ wsX40, w ∈ wsX4_init := by decide +kernel
  have k15 := hts (.fieldLink RX4 15 "SunsetDates$Versions" "release" "[I") (by decide +kernel)
  have k19 := hts (.fieldLink RX4 19 "SunsetDates$Versions" "end" "[I") (by decide +kernel)
  have k22 := hts (.fieldLink RX4 22 "SunsetDates$Versions" "extended" "[I") (by decide +kernel)
  have k25 := hts (.fieldLink RX4 25 "SunsetDates$Versions" "features" "[I") (by decide +kernel)
  refine lv_aload_n hx hb dX4_init_0 rfl (lv_at hl 0 rfl) ?_
  refine W.objInit hx hb hown (hts (.methodLink RX4 3 objectInit) (by decide +kernel)) (hts (.instanceMethod objectInit) (by decide +kernel)) (hts (.code objectInit ⟨#[0xb1]⟩ 1 none) (by decide +kernel)) rfl (by rw [hml]; exact hl.1) rfl dX4_init_1 (Nat.le_of_ble_eq_true rfl) (Nat.le_of_ble_eq_true rfl) ?_
  refine W.eq (g2 := F0 m 4 ls []) rfl ?_
  refine lv_aload_n hx hb dX4_init_4 rfl (lv_at hl 0 rfl) ?_
  refine lv_iconst (v := 0) hx hb dX4_init_5 (by decide) ?_
  refine va_put (D := G) (ci := 4) (v := .int 0) (ty := .int) (C := RX4) (T := TX4) (N := 5) hx hb hts iX4 tyX4 tyX4_ok nmX4 hown hkx.1 hP hD hS 0 rfl rfl 0 (by decide) k9 (fun _ h9 => h9) rfl (by decide +kernel) rfl rfl (Nat.le_of_ble_eq_true rfl) dX4_init_6 (fun H locs hP hD hS => ?_)
  have hP : va_P G vwCl [(h, .inr (4, [.int 0, .null, .null, .null, .null]))] H := hP
  have hD : va_D A [(h, .inr (4, [.int 0, .null, .null, .null, .null]))] := hD
  refine lv_aload_n hx hb dX4_init_9 rfl (lv_at hl 0 rfl) ?_
  refine lv_bipush (v := 8) hx hb dX4_init_10 (by decide) ?_
  refine nwi (n := 8) hx hb (hts (.arrayClass .int) (by decide +kernel)) hkx hP hD hS hA rfl (by omega) (Nat.le_of_ble_eq_true rfl) (Nat.le_of_ble_eq_true rfl) dX4_init_12 (fun n1 H hP hD hS => ?_)
  have hP : va_P G vwCl ([(h, .inr (4, [.int 0, .null, .null, .null, .null]))] ++ [(n1, .inl (T 0, 8, .inl (fun _ => 0)))]) H := hP
  have hD : va_D A ([(h, .inr (4, [.int 0, .null, .null, .null, .null]))] ++ [(n1, .inl (T 0, 8, .inl (fun _ => 0)))]) := hD
  refine va_putF (D := G) (ci := 4) (v := .ref n1) (ty := (.array .int)) (C := RX4) (T := TX4) (N := 5) hx hb hts iX4 tyX4 tyX4_ok nmX4 hown hkx.1 hP hD hS 0 rfl rfl 1 (by decide) k15 (fun _ h9 => h9) rfl hin rfl (by decide +kernel) rfl rfl (Nat.le_of_ble_eq_true rfl) dX4_init_14 (fun H locs hP hD hS => ?_)
  have hP : va_P G vwCl ([(h, .inr (4, [.int 0, .ref n1, .null, .null, .null]))] ++ [(n1, .inl (T 0, 8, .inl (fun _ => 0)))]) H := hP
  have hD : va_D A ([(h, .inr (4, [.int 0, .ref n1, .null, .null, .null]))] ++ [(n1, .inl (T 0, 8, .inl (fun _ => 0)))]) := hD
  refine lv_aload_n hx hb dX4_init_17 rfl (lv_at hl 0 rfl) ?_
  refine lv_bipush (v := 8) hx hb dX4_init_18 (by decide) ?_
  refine nwi (n := 8) hx hb (hts (.arrayClass .int) (by decide +kernel)) hkx hP hD hS hA rfl (by omega) (Nat.le_of_ble_eq_true rfl) (Nat.le_of_ble_eq_true rfl) dX4_init_20 (fun n2 H hP hD hS => ?_)
  have hP : va_P G vwCl (([(h, .inr (4, [.int 0, .ref n1, .null, .null, .null]))] ++ [(n1, .inl (T 0, 8, .inl (fun _ => 0)))]) ++ [(n2, .inl (T 0, 8, .inl (fun _ => 0)))]) H := hP
  have hD : va_D A (([(h, .inr (4, [.int 0, .ref n1, .null, .null, .null]))] ++ [(n1, .inl (T 0, 8, .inl (fun _ => 0)))]) ++ [(n2, .inl (T 0, 8, .inl (fun _ => 0)))]) := hD
  refine va_putF (D := G) (ci := 4) (v := .ref n2) (ty := (.array .int)) (C := RX4) (T := TX4) (N := 5) hx hb hts iX4 tyX4 tyX4_ok nmX4 hown hkx.1 hP hD hS 0 rfl rfl 2 (by decide) k19 (fun _ h9 => h9) rfl hin rfl (by decide +kernel) rfl rfl (Nat.le_of_ble_eq_true rfl) dX4_init_22 (fun H locs hP hD hS => ?_)
  have hP : va_P G vwCl (([(h, .inr (4, [.int 0, .ref n1, .ref n2, .null, .null]))] ++ [(n1, .inl (T 0, 8, .inl (fun _ => 0)))]) ++ [(n2, .inl (T 0, 8, .inl (fun _ => 0)))]) H := hP
  have hD : va_D A (([(h, .inr (4, [.int 0, .ref n1, .ref n2, .null, .null]))] ++ [(n1, .inl (T 0, 8, .inl (fun _ => 0)))]) ++ [(n2, .inl (T 0, 8, .inl (fun _ => 0)))]) := hD
  refine lv_aload_n hx hb dX4_init_25 rfl (lv_at hl 0 rfl) ?_
  refine lv_bipush (v := 8) hx hb dX4_init_26 (by decide) ?_
  refine nwi (n := 8) hx hb (hts (.arrayClass .int) (by decide +kernel)) hkx hP hD hS hA rfl (by omega) (Nat.le_of_ble_eq_true rfl) (Nat.le_of_ble_eq_true rfl) dX4_init_28 (fun n3 H hP hD hS => ?_)
  have hP : va_P G vwCl ((([(h, .inr (4, [.int 0, .ref n1, .ref n2, .null, .null]))] ++ [(n1, .inl (T 0, 8, .inl (fun _ => 0)))]) ++ [(n2, .inl (T 0, 8, .inl (fun _ => 0)))]) ++ [(n3, .inl (T 0, 8, .inl (fun _ => 0)))]) H := hP
  have hD : va_D A ((([(h, .inr (4, [.int 0, .ref n1, .ref n2, .null, .null]))] ++ [(n1, .inl (T 0, 8, .inl (fun _ => 0)))]) ++ [(n2, .inl (T 0, 8, .inl (fun _ => 0)))]) ++ [(n3, .inl (T 0, 8, .inl (fun _ => 0)))]) := hD
  refine va_putF (D := G) (ci := 4) (v := .ref n3) (ty := (.array .int)) (C := RX4) (T := TX4) (N := 5) hx hb hts iX4 tyX4 tyX4_ok nmX4 hown hkx.1 hP hD hS 0 rfl rfl 3 (by decide) k22 (fun _ h9 => h9) rfl hin rfl (by decide +kernel) rfl rfl (Nat.le_of_ble_eq_true rfl) dX4_init_30 (fun H locs hP hD hS => ?_)
  have hP : va_P G vwCl ((([(h, .inr (4, [.int 0, .ref n1, .ref n2, .ref n3, .null]))] ++ [(n1, .inl (T 0, 8, .inl (fun _ => 0)))]) ++ [(n2, .inl (T 0, 8, .inl (fun _ => 0)))]) ++ [(n3, .inl (T 0, 8, .inl (fun _ => 0)))]) H := hP
  have hD : va_D A ((([(h, .inr (4, [.int 0, .ref n1, .ref n2, .ref n3, .null]))] ++ [(n1, .inl (T 0, 8, .inl (fun _ => 0)))]) ++ [(n2, .inl (T 0, 8, .inl (fun _ => 0)))]) ++ [(n3, .inl (T 0, 8, .inl (fun _ => 0)))]) := hD
  refine lv_aload_n hx hb dX4_init_33 rfl (lv_at hl 0 rfl) ?_
  refine lv_bipush (v := 8) hx hb dX4_init_34 (by decide) ?_
  refine nwi (n := 8) hx hb (hts (.arrayClass .int) (by decide +kernel)) hkx hP hD hS hA rfl (by omega) (Nat.le_of_ble_eq_true rfl) (Nat.le_of_ble_eq_true rfl) dX4_init_36 (fun n4 H hP hD hS => ?_)
  have hP : va_P G vwCl (((([(h, .inr (4, [.int 0, .ref n1, .ref n2, .ref n3, .null]))] ++ [(n1, .inl (T 0, 8, .inl (fun _ => 0)))]) ++ [(n2, .inl (T 0, 8, .inl (fun _ => 0)))]) ++ [(n3, .inl (T 0, 8, .inl (fun _ => 0)))]) ++ [(n4, .inl (T 0, 8, .inl (fun _ => 0)))]) H := hP
  have hD : va_D A (((([(h, .inr (4, [.int 0, .ref n1, .ref n2, .ref n3, .null]))] ++ [(n1, .inl (T 0, 8, .inl (fun _ => 0)))]) ++ [(n2, .inl (T 0, 8, .inl (fun _ => 0)))]) ++ [(n3, .inl (T 0, 8, .inl (fun _ => 0)))]) ++ [(n4, .inl (T 0, 8, .inl (fun _ => 0)))]) := hD
  refine va_putF (D := G) (ci := 4) (v := .ref n4) (ty := (.array .int)) (C := RX4) (T := TX4) (N := 5) hx hb hts iX4 tyX4 tyX4_ok nmX4 hown hkx.1 hP hD hS 0 rfl rfl 4 (by decide) k25 (fun _ h9 => h9) rfl hin rfl (by decide +kernel) rfl rfl (Nat.le_of_ble_eq_true rfl) dX4_init_38 (fun H locs hP hD hS => ?_)
  have hP : va_P G vwCl (((([(h, .inr (4, [.int 0, .ref n1, .ref n2, .ref n3, .ref n4]))] ++ [(n1, .inl (T 0, 8, .inl (fun _ => 0)))]) ++ [(n2, .inl (T 0, 8, .inl (fun _ => 0)))]) ++ [(n3, .inl (T 0, 8, .inl (fun _ => 0)))]) ++ [(n4, .inl (T 0, 8, .inl (fun _ => 0)))]) H := hP
  have hD : va_D A (((([(h, .inr (4, [.int 0, .ref n1, .ref n2, .ref n3, .ref n4]))] ++ [(n1, .inl (T 0, 8, .inl (fun _ => 0)))]) ++ [(n2, .inl (T 0, 8, .inl (fun _ => 0)))]) ++ [(n3, .inl (T 0, 8, .inl (fun _ => 0)))]) ++ [(n4, .inl (T 0, 8, .inl (fun _ => 0)))]) := hD
  exact hret (wVe T (fun i => [0, h, n1, n2, n3, n4].getD i 0)) _ _ _ _ ⟨(fun i => [0, h, n1, n2, n3, n4].getD i 0), rfl, rfl⟩ hP hD hS dX4_init_41

theorem idX3_init : yX3_init.cls = RX3 ∧ yX3_init.cls ≠ "java/lang/invoke/MethodHandle" ∧ yX3_init.cls ≠ "java/lang/invoke/VarHandle" ∧ (parseMethodDescriptor yX3_init.desc).map (fun d => d.parameters.length) = some 0 := by decide +kernel

set_option maxHeartbeats 4000000 in
set_option maxRecDepth 100000 in
theorem mX3_init (l : Launch) {G : va_G} {T : Nat → ClassId} {H0 : Heap} {h : Nat} (hP : va_P G vwCl [(h, .inr (3, [.int 0, .null, .null, .null, .null, .null, .null]))] H0) (hD : va_D (fun _ => True) [(h, .inr (3, [.int 0, .null, .null, .null, .null, .null, .null]))]) : mk l yX3_init wsX3_init 1 12 6 60 [.ref h] G T (fun _ => True) H0 [(h, .inr (3, [.int 0, .null, .null, .null, .null, .null, .null]))] (ShU T h) := by
  refine mk_of (cc := cX3_init) (maxL := 1) (own := RX3) (by decide +kernel) rfl rfl rfl (Nat.le_of_ble_eq_true rfl) hD ?_
  intro p e s m below meth c Q ls A S hkx hao hin hl hD hS hA hret
  obtain ⟨hx, hb, hml, hown, hts⟩ := id S
  have hl : lv_has ls 1 [(0, .ref h)] := hl
  have k9 := hts (.fieldLink RX3 9 "SunsetDates$Users" "count" "I") (by decide +kernel)
  have iX3 : ∀ w ∈ wsX30, w ∈ wsX3_init := by decide +kernel
  have k15 := hts (.fieldLink RX3 15 "SunsetDates$Users" "first" "[I") (by decide +kernel)
  have k19 := hts (.fieldLink RX3 19 "SunsetDates$Users" "uses" "[I") (by decide +kernel)
  have k22 := hts (.fieldLink RX3 22 "SunsetDates$Users" "pledgeVersion" "[I") (by decide +kernel)
  have k25 := hts (.fieldLink RX3 25 "SunsetDates$Users" "pledgeDay" "[I") (by decide +kernel)
  have k28 := hts (.fieldLink RX3 28 "SunsetDates$Users" "slips" "[I") (by decide +kernel)
  have k31 := hts (.fieldLink RX3 31 "SunsetDates$Users" "slipDays" "[I") (by decide +kernel)
  refine lv_aload_n hx hb dX3_init_0 rfl (lv_at hl 0 rfl) ?_
  refine W.objInit hx hb hown (hts (.methodLink RX3 3 objectInit) (by decide +kernel)) (hts (.instanceMethod objectInit) (by decide +kernel)) (hts (.code objectInit ⟨#[0xb1]⟩ 1 none) (by decide +kernel)) rfl (by rw [hml]; exact hl.1) rfl dX3_init_1 (Nat.le_of_ble_eq_true rfl) (Nat.le_of_ble_eq_true rfl) ?_
  refine W.eq (g2 := F0 m 4 ls []) rfl ?_
  refine lv_aload_n hx hb dX3_init_4 rfl (lv_at hl 0 rfl) ?_
  refine lv_iconst (v := 0) hx hb dX3_init_5 (by decide) ?_
  refine va_put (D := G) (ci := 3) (v := .int 0) (ty := .int) (C := RX3) (T := TX3) (N := 7) hx hb hts iX3 tyX3 tyX3_ok nmX3 hown hkx.1 hP hD hS 0 rfl rfl 0 (by decide) k9 (fun _ h9 => h9) rfl (by decide +kernel) rfl rfl (Nat.le_of_ble_eq_true rfl) dX3_init_6 (fun H locs hP hD hS => ?_)
  have hP : va_P G vwCl [(h, .inr (3, [.int 0, .null, .null, .null, .null, .null, .null]))] H := hP
  have hD : va_D A [(h, .inr (3, [.int 0, .null, .null, .null, .null, .null, .null]))] := hD
  refine lv_aload_n hx hb dX3_init_9 rfl (lv_at hl 0 rfl) ?_
  refine lv_bipush (v := 10) hx hb dX3_init_10 (by decide) ?_
  refine nwi (n := 10) hx hb (hts (.arrayClass .int) (by decide +kernel)) hkx hP hD hS hA rfl (by omega) (Nat.le_of_ble_eq_true rfl) (Nat.le_of_ble_eq_true rfl) dX3_init_12 (fun n1 H hP hD hS => ?_)
  have hP : va_P G vwCl ([(h, .inr (3, [.int 0, .null, .null, .null, .null, .null, .null]))] ++ [(n1, .inl (T 0, 10, .inl (fun _ => 0)))]) H := hP
  have hD : va_D A ([(h, .inr (3, [.int 0, .null, .null, .null, .null, .null, .null]))] ++ [(n1, .inl (T 0, 10, .inl (fun _ => 0)))]) := hD
  refine va_putF (D := G) (ci := 3) (v := .ref n1) (ty := (.array .int)) (C := RX3) (T := TX3) (N := 7) hx hb hts iX3 tyX3 tyX3_ok nmX3 hown hkx.1 hP hD hS 0 rfl rfl 1 (by decide) k15 (fun _ h9 => h9) rfl hin rfl (by decide +kernel) rfl rfl (Nat.le_of_ble_eq_true rfl) dX3_init_14 (fun H locs hP hD hS => ?_)
  have hP : va_P G vwCl ([(h, .inr (3, [.int 0, .ref n1, .null, .null, .null, .null, .null]))] ++ [(n1, .inl (T 0, 10, .inl (fun _ => 0)))]) H := hP
  have hD : va_D A ([(h, .inr (3, [.int 0, .ref n1, .null, .null, .null, .null, .null]))] ++ [(n1, .inl (T 0, 10, .inl (fun _ => 0)))]) := hD
  refine lv_aload_n hx hb dX3_init_17 rfl (lv_at hl 0 rfl) ?_
  refine lv_bipush (v := 10) hx hb dX3_init_18 (by decide) ?_
  refine nwi (n := 10) hx hb (hts (.arrayClass .int) (by decide +kernel)) hkx hP hD hS hA rfl (by omega) (Nat.le_of_ble_eq_true rfl) (Nat.le_of_ble_eq_true rfl) dX3_init_20 (fun n2 H hP hD hS => ?_)
  have hP : va_P G vwCl (([(h, .inr (3, [.int 0, .ref n1, .null, .null, .null, .null, .null]))] ++ [(n1, .inl (T 0, 10, .inl (fun _ => 0)))]) ++ [(n2, .inl (T 0, 10, .inl (fun _ => 0)))]) H := hP
  have hD : va_D A (([(h, .inr (3, [.int 0, .ref n1, .null, .null, .null, .null, .null]))] ++ [(n1, .inl (T 0, 10, .inl (fun _ => 0)))]) ++ [(n2, .inl (T 0, 10, .inl (fun _ => 0)))]) := hD
  refine va_putF (D := G) (ci := 3) (v := .ref n2) (ty := (.array .int)) (C := RX3) (T := TX3) (N := 7) hx hb hts iX3 tyX3 tyX3_ok nmX3 hown hkx.1 hP hD hS 0 rfl rfl 2 (by decide) k19 (fun _ h9 => h9) rfl hin rfl (by decide +kernel) rfl rfl (Nat.le_of_ble_eq_true rfl) dX3_init_22 (fun H locs hP hD hS => ?_)
  have hP : va_P G vwCl (([(h, .inr (3, [.int 0, .ref n1, .ref n2, .null, .null, .null, .null]))] ++ [(n1, .inl (T 0, 10, .inl (fun _ => 0)))]) ++ [(n2, .inl (T 0, 10, .inl (fun _ => 0)))]) H := hP
  have hD : va_D A (([(h, .inr (3, [.int 0, .ref n1, .ref n2, .null, .null, .null, .null]))] ++ [(n1, .inl (T 0, 10, .inl (fun _ => 0)))]) ++ [(n2, .inl (T 0, 10, .inl (fun _ => 0)))]) := hD
  refine lv_aload_n hx hb dX3_init_25 rfl (lv_at hl 0 rfl) ?_
  refine lv_bipush (v := 10) hx hb dX3_init_26 (by decide) ?_
  refine nwi (n := 10) hx hb (hts (.arrayClass .int) (by decide +kernel)) hkx hP hD hS hA rfl (by omega) (Nat.le_of_ble_eq_true rfl) (Nat.le_of_ble_eq_true rfl) dX3_init_28 (fun n3 H hP hD hS => ?_)
  have hP : va_P G vwCl ((([(h, .inr (3, [.int 0, .ref n1, .ref n2, .null, .null, .null, .null]))] ++ [(n1, .inl (T 0, 10, .inl (fun _ => 0)))]) ++ [(n2, .inl (T 0, 10, .inl (fun _ => 0)))]) ++ [(n3, .inl (T 0, 10, .inl (fun _ => 0)))]) H := hP
  have hD : va_D A ((([(h, .inr (3, [.int 0, .ref n1, .ref n2, .null, .null, .null, .null]))] ++ [(n1, .inl (T 0, 10, .inl (fun _ => 0)))]) ++ [(n2, .inl (T 0, 10, .inl (fun _ => 0)))]) ++ [(n3, .inl (T 0, 10, .inl (fun _ => 0)))]) := hD
  refine va_putF (D := G) (ci := 3) (v := .ref n3) (ty := (.array .int)) (C := RX3) (T := TX3) (N := 7) hx hb hts iX3 tyX3 tyX3_ok nmX3 hown hkx.1 hP hD hS 0 rfl rfl 3 (by decide) k22 (fun _ h9 => h9) rfl hin rfl (by decide +kernel) rfl rfl (Nat.le_of_ble_eq_true rfl) dX3_init_30 (fun H locs hP hD hS => ?_)
  have hP : va_P G vwCl ((([(h, .inr (3, [.int 0, .ref n1, .ref n2, .ref n3, .null, .null, .null]))] ++ [(n1, .inl (T 0, 10, .inl (fun _ => 0)))]) ++ [(n2, .inl (T 0, 10, .inl (fun _ => 0)))]) ++ [(n3, .inl (T 0, 10, .inl (fun _ => 0)))]) H := hP
  have hD : va_D A ((([(h, .inr (3, [.int 0, .ref n1, .ref n2, .ref n3, .null, .null, .null]))] ++ [(n1, .inl (T 0, 10, .inl (fun _ => 0)))]) ++ [(n2, .inl (T 0, 10, .inl (fun _ => 0)))]) ++ [(n3, .inl (T 0, 10, .inl (fun _ => 0)))]) := hD
  refine lv_aload_n hx hb dX3_init_33 rfl (lv_at hl 0 rfl) ?_
  refine lv_bipush (v := 10) hx hb dX3_init_34 (by decide) ?_
  refine nwi (n := 10) hx hb (hts (.arrayClass .int) (by decide +kernel)) hkx hP hD hS hA rfl (by omega) (Nat.le_of_ble_eq_true rfl) (Nat.le_of_ble_eq_true rfl) dX3_init_36 (fun n4 H hP hD hS => ?_)
  have hP : va_P G vwCl (((([(h, .inr (3, [.int 0, .ref n1, .ref n2, .ref n3, .null, .null, .null]))] ++ [(n1, .inl (T 0, 10, .inl (fun _ => 0)))]) ++ [(n2, .inl (T 0, 10, .inl (fun _ => 0)))]) ++ [(n3, .inl (T 0, 10, .inl (fun _ => 0)))]) ++ [(n4, .inl (T 0, 10, .inl (fun _ => 0)))]) H := hP
  have hD : va_D A (((([(h, .inr (3, [.int 0, .ref n1, .ref n2, .ref n3, .null, .null, .null]))] ++ [(n1, .inl (T 0, 10, .inl (fun _ => 0)))]) ++ [(n2, .inl (T 0, 10, .inl (fun _ => 0)))]) ++ [(n3, .inl (T 0, 10, .inl (fun _ => 0)))]) ++ [(n4, .inl (T 0, 10, .inl (fun _ => 0)))]) := hD
  refine va_putF (D := G) (ci := 3) (v := .ref n4) (ty := (.array .int)) (C := RX3) (T := TX3) (N := 7) hx hb hts iX3 tyX3 tyX3_ok nmX3 hown hkx.1 hP hD hS 0 rfl rfl 4 (by decide) k25 (fun _ h9 => h9) rfl hin rfl (by decide +kernel) rfl rfl (Nat.le_of_ble_eq_true rfl) dX3_init_38 (fun H locs hP hD hS => ?_)
  have hP : va_P G vwCl (((([(h, .inr (3, [.int 0, .ref n1, .ref n2, .ref n3, .ref n4, .null, .null]))] ++ [(n1, .inl (T 0, 10, .inl (fun _ => 0)))]) ++ [(n2, .inl (T 0, 10, .inl (fun _ => 0)))]) ++ [(n3, .inl (T 0, 10, .inl (fun _ => 0)))]) ++ [(n4, .inl (T 0, 10, .inl (fun _ => 0)))]) H := hP
  have hD : va_D A (((([(h, .inr (3, [.int 0, .ref n1, .ref n2, .ref n3, .ref n4, .null, .null]))] ++ [(n1, .inl (T 0, 10, .inl (fun _ => 0)))]) ++ [(n2, .inl (T 0, 10, .inl (fun _ => 0)))]) ++ [(n3, .inl (T 0, 10, .inl (fun _ => 0)))]) ++ [(n4, .inl (T 0, 10, .inl (fun _ => 0)))]) := hD
  refine lv_aload_n hx hb dX3_init_41 rfl (lv_at hl 0 rfl) ?_
  refine lv_bipush (v := 10) hx hb dX3_init_42 (by decide) ?_
  refine nwi (n := 10) hx hb (hts (.arrayClass .int) (by decide +kernel)) hkx hP hD hS hA rfl (by omega) (Nat.le_of_ble_eq_true rfl) (Nat.le_of_ble_eq_true rfl) dX3_init_44 (fun n5 H hP hD hS => ?_)
  have hP : va_P G vwCl ((((([(h, .inr (3, [.int 0, .ref n1, .ref n2, .ref n3, .ref n4, .null, .null]))] ++ [(n1, .inl (T 0, 10, .inl (fun _ => 0)))]) ++ [(n2, .inl (T 0, 10, .inl (fun _ => 0)))]) ++ [(n3, .inl (T 0, 10, .inl (fun _ => 0)))]) ++ [(n4, .inl (T 0, 10, .inl (fun _ => 0)))]) ++ [(n5, .inl (T 0, 10, .inl (fun _ => 0)))]) H := hP
  have hD : va_D A ((((([(h, .inr (3, [.int 0, .ref n1, .ref n2, .ref n3, .ref n4, .null, .null]))] ++ [(n1, .inl (T 0, 10, .inl (fun _ => 0)))]) ++ [(n2, .inl (T 0, 10, .inl (fun _ => 0)))]) ++ [(n3, .inl (T 0, 10, .inl (fun _ => 0)))]) ++ [(n4, .inl (T 0, 10, .inl (fun _ => 0)))]) ++ [(n5, .inl (T 0, 10, .inl (fun _ => 0)))]) := hD
  refine va_putF (D := G) (ci := 3) (v := .ref n5) (ty := (.array .int)) (C := RX3) (T := TX3) (N := 7) hx hb hts iX3 tyX3 tyX3_ok nmX3 hown hkx.1 hP hD hS 0 rfl rfl 5 (by decide) k28 (fun _ h9 => h9) rfl hin rfl (by decide +kernel) rfl rfl (Nat.le_of_ble_eq_true rfl) dX3_init_46 (fun H locs hP hD hS => ?_)
  have hP : va_P G vwCl ((((([(h, .inr (3, [.int 0, .ref n1, .ref n2, .ref n3, .ref n4, .ref n5, .null]))] ++ [(n1, .inl (T 0, 10, .inl (fun _ => 0)))]) ++ [(n2, .inl (T 0, 10, .inl (fun _ => 0)))]) ++ [(n3, .inl (T 0, 10, .inl (fun _ => 0)))]) ++ [(n4, .inl (T 0, 10, .inl (fun _ => 0)))]) ++ [(n5, .inl (T 0, 10, .inl (fun _ => 0)))]) H := hP
  have hD : va_D A ((((([(h, .inr (3, [.int 0, .ref n1, .ref n2, .ref n3, .ref n4, .ref n5, .null]))] ++ [(n1, .inl (T 0, 10, .inl (fun _ => 0)))]) ++ [(n2, .inl (T 0, 10, .inl (fun _ => 0)))]) ++ [(n3, .inl (T 0, 10, .inl (fun _ => 0)))]) ++ [(n4, .inl (T 0, 10, .inl (fun _ => 0)))]) ++ [(n5, .inl (T 0, 10, .inl (fun _ => 0)))]) := hD
  refine lv_aload_n hx hb dX3_init_49 rfl (lv_at hl 0 rfl) ?_
  refine lv_bipush (v := 10) hx hb dX3_init_50 (by decide) ?_
  refine nwi (n := 10) hx hb (hts (.arrayClass .int) (by decide +kernel)) hkx hP hD hS hA rfl (by omega) (Nat.le_of_ble_eq_true rfl) (Nat.le_of_ble_eq_true rfl) dX3_init_52 (fun n6 H hP hD hS => ?_)
  have hP : va_P G vwCl (((((([(h, .inr (3, [.int 0, .ref n1, .ref n2, .ref n3, .ref n4, .ref n5, .null]))] ++ [(n1, .inl (T 0, 10, .inl (fun _ => 0)))]) ++ [(n2, .inl (T 0, 10, .inl (fun _ => 0)))]) ++ [(n3, .inl (T 0, 10, .inl (fun _ => 0)))]) ++ [(n4, .inl (T 0, 10, .inl (fun _ => 0)))]) ++ [(n5, .inl (T 0, 10, .inl (fun _ => 0)))]) ++ [(n6, .inl (T 0, 10, .inl (fun _ => 0)))]) H := hP
  have hD : va_D A (((((([(h, .inr (3, [.int 0, .ref n1, .ref n2, .ref n3, .ref n4, .ref n5, .null]))] ++ [(n1, .inl (T 0, 10, .inl (fun _ => 0)))]) ++ [(n2, .inl (T 0, 10, .inl (fun _ => 0)))]) ++ [(n3, .inl (T 0, 10, .inl (fun _ => 0)))]) ++ [(n4, .inl (T 0, 10, .inl (fun _ => 0)))]) ++ [(n5, .inl (T 0, 10, .inl (fun _ => 0)))]) ++ [(n6, .inl (T 0, 10, .inl (fun _ => 0)))]) := hD
  refine va_putF (D := G) (ci := 3) (v := .ref n6) (ty := (.array .int)) (C := RX3) (T := TX3) (N := 7) hx hb hts iX3 tyX3 tyX3_ok nmX3 hown hkx.1 hP hD hS 0 rfl rfl 6 (by decide) k31 (fun _ h9 => h9) rfl hin rfl (by decide +kernel) rfl rfl (Nat.le_of_ble_eq_true rfl) dX3_init_54 (fun H locs hP hD hS => ?_)
  have hP : va_P G vwCl (((((([(h, .inr (3, [.int 0, .ref n1, .ref n2, .ref n3, .ref n4, .ref n5, .ref n6]))] ++ [(n1, .inl (T 0, 10, .inl (fun _ => 0)))]) ++ [(n2, .inl (T 0, 10, .inl (fun _ => 0)))]) ++ [(n3, .inl (T 0, 10, .inl (fun _ => 0)))]) ++ [(n4, .inl (T 0, 10, .inl (fun _ => 0)))]) ++ [(n5, .inl (T 0, 10, .inl (fun _ => 0)))]) ++ [(n6, .inl (T 0, 10, .inl (fun _ => 0)))]) H := hP
  have hD : va_D A (((((([(h, .inr (3, [.int 0, .ref n1, .ref n2, .ref n3, .ref n4, .ref n5, .ref n6]))] ++ [(n1, .inl (T 0, 10, .inl (fun _ => 0)))]) ++ [(n2, .inl (T 0, 10, .inl (fun _ => 0)))]) ++ [(n3, .inl (T 0, 10, .inl (fun _ => 0)))]) ++ [(n4, .inl (T 0, 10, .inl (fun _ => 0)))]) ++ [(n5, .inl (T 0, 10, .inl (fun _ => 0)))]) ++ [(n6, .inl (T 0, 10, .inl (fun _ => 0)))]) := hD
  exact hret (wUs T (fun i => [0, 0, 0, 0, 0, 0, h, n1, n2, n3, n4, n5, n6].getD i 0)) _ _ _ _ ⟨(fun i => [0, 0, 0, 0, 0, 0, h, n1, n2, n3, n4, n5, n6].getD i 0), rfl, rfl⟩ hP hD hS dX3_init_57

theorem idX2_init : yX2_init.cls = RX2 ∧ yX2_init.cls ≠ "java/lang/invoke/MethodHandle" ∧ yX2_init.cls ≠ "java/lang/invoke/VarHandle" ∧ (parseMethodDescriptor yX2_init.desc).map (fun d => d.parameters.length) = some 0 := by decide +kernel

set_option maxHeartbeats 4000000 in
set_option maxRecDepth 100000 in
theorem mX2_init (l : Launch) {G : va_G} {T : Nat → ClassId} {H0 : Heap} {h : Nat} (hP : va_P G vwCl [(h, .inr (2, [.int 0, .null, .null, .null, .null, .null]))] H0) (hD : va_D (fun _ => True) [(h, .inr (2, [.int 0, .null, .null, .null, .null, .null]))]) : mk l yX2_init wsX2_init 1 12 5 60 [.ref h] G T (fun _ => True) H0 [(h, .inr (2, [.int 0, .null, .null, .null, .null, .null]))] (ShS T h) := by
  refine mk_of (cc := cX2_init) (maxL := 1) (own := RX2) (by decide +kernel) rfl rfl rfl (Nat.le_of_ble_eq_true rfl) hD ?_
  intro p e s m below meth c Q ls A S hkx hao hin hl hD hS hA hret
  obtain ⟨hx, hb, hml, hown, hts⟩ := id S
  have hl : lv_has ls 1 [(0, .ref h)] := hl
  have k9 := hts (.fieldLink RX2 9 "SunsetDates$Shims" "count" "I") (by decide +kernel)
  have iX2 : ∀ w ∈ wsX20, w ∈ wsX2_init := by decide +kernel
  have k15 := hts (.fieldLink RX2 15 "SunsetDates$Shims" "feature" "[I") (by decide +kernel)
  have k19 := hts (.fieldLink RX2 19 "SunsetDates$Shims" "version" "[I") (by decide +kernel)
  have k22 := hts (.fieldLink RX2 22 "SunsetDates$Shims" "first" "[I") (by decide +kernel)
  have k25 := hts (.fieldLink RX2 25 "SunsetDates$Shims" "last" "[I") (by decide +kernel)
  have k28 := hts (.fieldLink RX2 28 "SunsetDates$Shims" "price" "[I") (by decide +kernel)
  refine lv_aload_n hx hb dX2_init_0 rfl (lv_at hl 0 rfl) ?_
  refine W.objInit hx hb hown (hts (.methodLink RX2 3 objectInit) (by decide +kernel)) (hts (.instanceMethod objectInit) (by decide +kernel)) (hts (.code objectInit ⟨#[0xb1]⟩ 1 none) (by decide +kernel)) rfl (by rw [hml]; exact hl.1) rfl dX2_init_1 (Nat.le_of_ble_eq_true rfl) (Nat.le_of_ble_eq_true rfl) ?_
  refine W.eq (g2 := F0 m 4 ls []) rfl ?_
  refine lv_aload_n hx hb dX2_init_4 rfl (lv_at hl 0 rfl) ?_
  refine lv_iconst (v := 0) hx hb dX2_init_5 (by decide) ?_
  refine va_put (D := G) (ci := 2) (v := .int 0) (ty := .int) (C := RX2) (T := TX2) (N := 6) hx hb hts iX2 tyX2 tyX2_ok nmX2 hown hkx.1 hP hD hS 0 rfl rfl 0 (by decide) k9 (fun _ h9 => h9) rfl (by decide +kernel) rfl rfl (Nat.le_of_ble_eq_true rfl) dX2_init_6 (fun H locs hP hD hS => ?_)
  have hP : va_P G vwCl [(h, .inr (2, [.int 0, .null, .null, .null, .null, .null]))] H := hP
  have hD : va_D A [(h, .inr (2, [.int 0, .null, .null, .null, .null, .null]))] := hD
  refine lv_aload_n hx hb dX2_init_9 rfl (lv_at hl 0 rfl) ?_
  refine lv_bipush (v := 12) hx hb dX2_init_10 (by decide) ?_
  refine nwi (n := 12) hx hb (hts (.arrayClass .int) (by decide +kernel)) hkx hP hD hS hA rfl (by omega) (Nat.le_of_ble_eq_true rfl) (Nat.le_of_ble_eq_true rfl) dX2_init_12 (fun n1 H hP hD hS => ?_)
  have hP : va_P G vwCl ([(h, .inr (2, [.int 0, .null, .null, .null, .null, .null]))] ++ [(n1, .inl (T 0, 12, .inl (fun _ => 0)))]) H := hP
  have hD : va_D A ([(h, .inr (2, [.int 0, .null, .null, .null, .null, .null]))] ++ [(n1, .inl (T 0, 12, .inl (fun _ => 0)))]) := hD
  refine va_putF (D := G) (ci := 2) (v := .ref n1) (ty := (.array .int)) (C := RX2) (T := TX2) (N := 6) hx hb hts iX2 tyX2 tyX2_ok nmX2 hown hkx.1 hP hD hS 0 rfl rfl 1 (by decide) k15 (fun _ h9 => h9) rfl hin rfl (by decide +kernel) rfl rfl (Nat.le_of_ble_eq_true rfl) dX2_init_14 (fun H locs hP hD hS => ?_)
  have hP : va_P G vwCl ([(h, .inr (2, [.int 0, .ref n1, .null, .null, .null, .null]))] ++ [(n1, .inl (T 0, 12, .inl (fun _ => 0)))]) H := hP
  have hD : va_D A ([(h, .inr (2, [.int 0, .ref n1, .null, .null, .null, .null]))] ++ [(n1, .inl (T 0, 12, .inl (fun _ => 0)))]) := hD
  refine lv_aload_n hx hb dX2_init_17 rfl (lv_at hl 0 rfl) ?_
  refine lv_bipush (v := 12) hx hb dX2_init_18 (by decide) ?_
  refine nwi (n := 12) hx hb (hts (.arrayClass .int) (by decide +kernel)) hkx hP hD hS hA rfl (by omega) (Nat.le_of_ble_eq_true rfl) (Nat.le_of_ble_eq_true rfl) dX2_init_20 (fun n2 H hP hD hS => ?_)
  have hP : va_P G vwCl (([(h, .inr (2, [.int 0, .ref n1, .null, .null, .null, .null]))] ++ [(n1, .inl (T 0, 12, .inl (fun _ => 0)))]) ++ [(n2, .inl (T 0, 12, .inl (fun _ => 0)))]) H := hP
  have hD : va_D A (([(h, .inr (2, [.int 0, .ref n1, .null, .null, .null, .null]))] ++ [(n1, .inl (T 0, 12, .inl (fun _ => 0)))]) ++ [(n2, .inl (T 0, 12, .inl (fun _ => 0)))]) := hD
  refine va_putF (D := G) (ci := 2) (v := .ref n2) (ty := (.array .int)) (C := RX2) (T := TX2) (N := 6) hx hb hts iX2 tyX2 tyX2_ok nmX2 hown hkx.1 hP hD hS 0 rfl rfl 2 (by decide) k19 (fun _ h9 => h9) rfl hin rfl (by decide +kernel) rfl rfl (Nat.le_of_ble_eq_true rfl) dX2_init_22 (fun H locs hP hD hS => ?_)
  have hP : va_P G vwCl (([(h, .inr (2, [.int 0, .ref n1, .ref n2, .null, .null, .null]))] ++ [(n1, .inl (T 0, 12, .inl (fun _ => 0)))]) ++ [(n2, .inl (T 0, 12, .inl (fun _ => 0)))]) H := hP
  have hD : va_D A (([(h, .inr (2, [.int 0, .ref n1, .ref n2, .null, .null, .null]))] ++ [(n1, .inl (T 0, 12, .inl (fun _ => 0)))]) ++ [(n2, .inl (T 0, 12, .inl (fun _ => 0)))]) := hD
  refine lv_aload_n hx hb dX2_init_25 rfl (lv_at hl 0 rfl) ?_
  refine lv_bipush (v := 12) hx hb dX2_init_26 (by decide) ?_
  refine nwi (n := 12) hx hb (hts (.arrayClass .int) (by decide +kernel)) hkx hP hD hS hA rfl (by omega) (Nat.le_of_ble_eq_true rfl) (Nat.le_of_ble_eq_true rfl) dX2_init_28 (fun n3 H hP hD hS => ?_)
  have hP : va_P G vwCl ((([(h, .inr (2, [.int 0, .ref n1, .ref n2, .null, .null, .null]))] ++ [(n1, .inl (T 0, 12, .inl (fun _ => 0)))]) ++ [(n2, .inl (T 0, 12, .inl (fun _ => 0)))]) ++ [(n3, .inl (T 0, 12, .inl (fun _ => 0)))]) H := hP
  have hD : va_D A ((([(h, .inr (2, [.int 0, .ref n1, .ref n2, .null, .null, .null]))] ++ [(n1, .inl (T 0, 12, .inl (fun _ => 0)))]) ++ [(n2, .inl (T 0, 12, .inl (fun _ => 0)))]) ++ [(n3, .inl (T 0, 12, .inl (fun _ => 0)))]) := hD
  refine va_putF (D := G) (ci := 2) (v := .ref n3) (ty := (.array .int)) (C := RX2) (T := TX2) (N := 6) hx hb hts iX2 tyX2 tyX2_ok nmX2 hown hkx.1 hP hD hS 0 rfl rfl 3 (by decide) k22 (fun _ h9 => h9) rfl hin rfl (by decide +kernel) rfl rfl (Nat.le_of_ble_eq_true rfl) dX2_init_30 (fun H locs hP hD hS => ?_)
  have hP : va_P G vwCl ((([(h, .inr (2, [.int 0, .ref n1, .ref n2, .ref n3, .null, .null]))] ++ [(n1, .inl (T 0, 12, .inl (fun _ => 0)))]) ++ [(n2, .inl (T 0, 12, .inl (fun _ => 0)))]) ++ [(n3, .inl (T 0, 12, .inl (fun _ => 0)))]) H := hP
  have hD : va_D A ((([(h, .inr (2, [.int 0, .ref n1, .ref n2, .ref n3, .null, .null]))] ++ [(n1, .inl (T 0, 12, .inl (fun _ => 0)))]) ++ [(n2, .inl (T 0, 12, .inl (fun _ => 0)))]) ++ [(n3, .inl (T 0, 12, .inl (fun _ => 0)))]) := hD
  refine lv_aload_n hx hb dX2_init_33 rfl (lv_at hl 0 rfl) ?_
  refine lv_bipush (v := 12) hx hb dX2_init_34 (by decide) ?_
  refine nwi (n := 12) hx hb (hts (.arrayClass .int) (by decide +kernel)) hkx hP hD hS hA rfl (by omega) (Nat.le_of_ble_eq_true rfl) (Nat.le_of_ble_eq_true rfl) dX2_init_36 (fun n4 H hP hD hS => ?_)
  have hP : va_P G vwCl (((([(h, .inr (2, [.int 0, .ref n1, .ref n2, .ref n3, .null, .null]))] ++ [(n1, .inl (T 0, 12, .inl (fun _ => 0)))]) ++ [(n2, .inl (T 0, 12, .inl (fun _ => 0)))]) ++ [(n3, .inl (T 0, 12, .inl (fun _ => 0)))]) ++ [(n4, .inl (T 0, 12, .inl (fun _ => 0)))]) H := hP
  have hD : va_D A (((([(h, .inr (2, [.int 0, .ref n1, .ref n2, .ref n3, .null, .null]))] ++ [(n1, .inl (T 0, 12, .inl (fun _ => 0)))]) ++ [(n2, .inl (T 0, 12, .inl (fun _ => 0)))]) ++ [(n3, .inl (T 0, 12, .inl (fun _ => 0)))]) ++ [(n4, .inl (T 0, 12, .inl (fun _ => 0)))]) := hD
  refine va_putF (D := G) (ci := 2) (v := .ref n4) (ty := (.array .int)) (C := RX2) (T := TX2) (N := 6) hx hb hts iX2 tyX2 tyX2_ok nmX2 hown hkx.1 hP hD hS 0 rfl rfl 4 (by decide) k25 (fun _ h9 => h9) rfl hin rfl (by decide +kernel) rfl rfl (Nat.le_of_ble_eq_true rfl) dX2_init_38 (fun H locs hP hD hS => ?_)
  have hP : va_P G vwCl (((([(h, .inr (2, [.int 0, .ref n1, .ref n2, .ref n3, .ref n4, .null]))] ++ [(n1, .inl (T 0, 12, .inl (fun _ => 0)))]) ++ [(n2, .inl (T 0, 12, .inl (fun _ => 0)))]) ++ [(n3, .inl (T 0, 12, .inl (fun _ => 0)))]) ++ [(n4, .inl (T 0, 12, .inl (fun _ => 0)))]) H := hP
  have hD : va_D A (((([(h, .inr (2, [.int 0, .ref n1, .ref n2, .ref n3, .ref n4, .null]))] ++ [(n1, .inl (T 0, 12, .inl (fun _ => 0)))]) ++ [(n2, .inl (T 0, 12, .inl (fun _ => 0)))]) ++ [(n3, .inl (T 0, 12, .inl (fun _ => 0)))]) ++ [(n4, .inl (T 0, 12, .inl (fun _ => 0)))]) := hD
  refine lv_aload_n hx hb dX2_init_41 rfl (lv_at hl 0 rfl) ?_
  refine lv_bipush (v := 12) hx hb dX2_init_42 (by decide) ?_
  refine nwi (n := 12) hx hb (hts (.arrayClass .int) (by decide +kernel)) hkx hP hD hS hA rfl (by omega) (Nat.le_of_ble_eq_true rfl) (Nat.le_of_ble_eq_true rfl) dX2_init_44 (fun n5 H hP hD hS => ?_)
  have hP : va_P G vwCl ((((([(h, .inr (2, [.int 0, .ref n1, .ref n2, .ref n3, .ref n4, .null]))] ++ [(n1, .inl (T 0, 12, .inl (fun _ => 0)))]) ++ [(n2, .inl (T 0, 12, .inl (fun _ => 0)))]) ++ [(n3, .inl (T 0, 12, .inl (fun _ => 0)))]) ++ [(n4, .inl (T 0, 12, .inl (fun _ => 0)))]) ++ [(n5, .inl (T 0, 12, .inl (fun _ => 0)))]) H := hP
  have hD : va_D A ((((([(h, .inr (2, [.int 0, .ref n1, .ref n2, .ref n3, .ref n4, .null]))] ++ [(n1, .inl (T 0, 12, .inl (fun _ => 0)))]) ++ [(n2, .inl (T 0, 12, .inl (fun _ => 0)))]) ++ [(n3, .inl (T 0, 12, .inl (fun _ => 0)))]) ++ [(n4, .inl (T 0, 12, .inl (fun _ => 0)))]) ++ [(n5, .inl (T 0, 12, .inl (fun _ => 0)))]) := hD
  refine va_putF (D := G) (ci := 2) (v := .ref n5) (ty := (.array .int)) (C := RX2) (T := TX2) (N := 6) hx hb hts iX2 tyX2 tyX2_ok nmX2 hown hkx.1 hP hD hS 0 rfl rfl 5 (by decide) k28 (fun _ h9 => h9) rfl hin rfl (by decide +kernel) rfl rfl (Nat.le_of_ble_eq_true rfl) dX2_init_46 (fun H locs hP hD hS => ?_)
  have hP : va_P G vwCl ((((([(h, .inr (2, [.int 0, .ref n1, .ref n2, .ref n3, .ref n4, .ref n5]))] ++ [(n1, .inl (T 0, 12, .inl (fun _ => 0)))]) ++ [(n2, .inl (T 0, 12, .inl (fun _ => 0)))]) ++ [(n3, .inl (T 0, 12, .inl (fun _ => 0)))]) ++ [(n4, .inl (T 0, 12, .inl (fun _ => 0)))]) ++ [(n5, .inl (T 0, 12, .inl (fun _ => 0)))]) H := hP
  have hD : va_D A ((((([(h, .inr (2, [.int 0, .ref n1, .ref n2, .ref n3, .ref n4, .ref n5]))] ++ [(n1, .inl (T 0, 12, .inl (fun _ => 0)))]) ++ [(n2, .inl (T 0, 12, .inl (fun _ => 0)))]) ++ [(n3, .inl (T 0, 12, .inl (fun _ => 0)))]) ++ [(n4, .inl (T 0, 12, .inl (fun _ => 0)))]) ++ [(n5, .inl (T 0, 12, .inl (fun _ => 0)))]) := hD
  exact hret (wSh T (fun i => [0, 0, 0, 0, 0, 0, 0, 0, 0, 0, 0, 0, 0, h, n1, n2, n3, n4, n5].getD i 0)) _ _ _ _ ⟨(fun i => [0, 0, 0, 0, 0, 0, 0, 0, 0, 0, 0, 0, 0, h, n1, n2, n3, n4, n5].getD i 0), rfl, rfl⟩ hP hD hS dX2_init_49

theorem idX1_init : yX1_init.cls = RX1 ∧ yX1_init.cls ≠ "java/lang/invoke/MethodHandle" ∧ yX1_init.cls ≠ "java/lang/invoke/VarHandle" ∧ (parseMethodDescriptor yX1_init.desc).map (fun d => d.parameters.length) = some 0 := by decide +kernel

set_option maxHeartbeats 4000000 in
set_option maxRecDepth 100000 in
theorem mX1_init (l : Launch) {G : va_G} {T : Nat → ClassId} {H0 : Heap} {h : Nat} (hP : va_P G vwCl [(h, .inr (1, [.null, .int 0, .int 0, .int 0, .int 0, .null, .int 0]))] H0) (hD : va_D (fun _ => True) [(h, .inr (1, [.null, .int 0, .int 0, .int 0, .int 0, .null, .int 0]))]) : mk l yX1_init wsX1_init 1 12 2 105 [.ref h] G T (fun _ => True) H0 [(h, .inr (1, [.null, .int 0, .int 0, .int 0, .int 0, .null, .int 0]))] (ShO T h) := by
  refine mk_of (cc := cX1_init) (maxL := 1) (own := RX1) (by decide +kernel) rfl rfl rfl (Nat.le_of_ble_eq_true rfl) hD ?_
  intro p e s m below meth c Q ls A S hkx hao hin hl hD hS hA hret
  obtain ⟨hx, hb, hml, hown, hts⟩ := id S
  have hl : lv_has ls 1 [(0, .ref h)] := hl
  have k9 := hts (.fieldLink RX1 9 "SunsetDates$Orders" "text" "[B") (by decide +kernel)
  have iX1 : ∀ w ∈ wsX10, w ∈ wsX1_init := by decide +kernel
  have k15 := hts (.fieldLink RX1 15 "SunsetDates$Orders" "length" "I") (by decide +kernel)
  have k19 := hts (.fieldLink RX1 19 "SunsetDates$Orders" "cursor" "I") (by decide +kernel)
  have k22 := hts (.fieldLink RX1 22 "SunsetDates$Orders" "error" "I") (by decide +kernel)
  have k25 := hts (.fieldLink RX1 25 "SunsetDates$Orders" "letter" "I") (by decide +kernel)
  have k28 := hts (.fieldLink RX1 28 "SunsetDates$Orders" "numbers" "[I") (by decide +kernel)
  have k32 := hts (.fieldLink RX1 32 "SunsetDates$Orders" "numberCount" "I") (by decide +kernel)
  refine lv_aload_n hx hb dX1_init_0 rfl (lv_at hl 0 rfl) ?_
  refine W.objInit hx hb hown (hts (.methodLink RX1 3 objectInit) (by decide +kernel)) (hts (.instanceMethod objectInit) (by decide +kernel)) (hts (.code objectInit ⟨#[0xb1]⟩ 1 none) (by decide +kernel)) rfl (by rw [hml]; exact hl.1) rfl dX1_init_1 (Nat.le_of_ble_eq_true rfl) (Nat.le_of_ble_eq_true rfl) ?_
  refine W.eq (g2 := F0 m 4 ls []) rfl ?_
  refine lv_aload_n hx hb dX1_init_4 rfl (lv_at hl 0 rfl) ?_
  refine lv_bipush (v := 100) hx hb dX1_init_5 (by decide) ?_
  refine nwb (n := 100) hx hb (hts (.arrayClass .byte) (by decide +kernel)) hkx hP hD hS hA rfl (by omega) (Nat.le_of_ble_eq_true rfl) (Nat.le_of_ble_eq_true rfl) dX1_init_7 (fun n1 H hP hD hS => ?_)
  have hP : va_P G vwCl ([(h, .inr (1, [.null, .int 0, .int 0, .int 0, .int 0, .null, .int 0]))] ++ [(n1, .inl (T 1, 100, .inl (fun _ => 0)))]) H := hP
  have hD : va_D A ([(h, .inr (1, [.null, .int 0, .int 0, .int 0, .int 0, .null, .int 0]))] ++ [(n1, .inl (T 1, 100, .inl (fun _ => 0)))]) := hD
  refine va_putF (D := G) (ci := 1) (v := .ref n1) (ty := (.array .byte)) (C := RX1) (T := TX1) (N := 7) hx hb hts iX1 tyX1 tyX1_ok nmX1 hown hkx.1 hP hD hS 0 rfl rfl 0 (by decide) k9 (fun _ h9 => h9) rfl hin rfl (by decide +kernel) rfl rfl (Nat.le_of_ble_eq_true rfl) dX1_init_9 (fun H locs hP hD hS => ?_)
  have hP : va_P G vwCl ([(h, .inr (1, [.ref n1, .int 0, .int 0, .int 0, .int 0, .null, .int 0]))] ++ [(n1, .inl (T 1, 100, .inl (fun _ => 0)))]) H := hP
  have hD : va_D A ([(h, .inr (1, [.ref n1, .int 0, .int 0, .int 0, .int 0, .null, .int 0]))] ++ [(n1, .inl (T 1, 100, .inl (fun _ => 0)))]) := hD
  refine lv_aload_n hx hb dX1_init_12 rfl (lv_at hl 0 rfl) ?_
  refine lv_iconst (v := 0) hx hb dX1_init_13 (by decide) ?_
  refine va_put (D := G) (ci := 1) (v := .int 0) (ty := .int) (C := RX1) (T := TX1) (N := 7) hx hb hts iX1 tyX1 tyX1_ok nmX1 hown hkx.1 hP hD hS 0 rfl rfl 1 (by decide) k15 (fun _ h9 => h9) rfl (by decide +kernel) rfl rfl (Nat.le_of_ble_eq_true rfl) dX1_init_14 (fun H locs hP hD hS => ?_)
  have hP : va_P G vwCl ([(h, .inr (1, [.ref n1, .int 0, .int 0, .int 0, .int 0, .null, .int 0]))] ++ [(n1, .inl (T 1, 100, .inl (fun _ => 0)))]) H := hP
  have hD : va_D A ([(h, .inr (1, [.ref n1, .int 0, .int 0, .int 0, .int 0, .null, .int 0]))] ++ [(n1, .inl (T 1, 100, .inl (fun _ => 0)))]) := hD
  refine lv_aload_n hx hb dX1_init_17 rfl (lv_at hl 0 rfl) ?_
  refine lv_iconst (v := 0) hx hb dX1_init_18 (by decide) ?_
  refine va_put (D := G) (ci := 1) (v := .int 0) (ty := .int) (C := RX1) (T := TX1) (N := 7) hx hb hts iX1 tyX1 tyX1_ok nmX1 hown hkx.1 hP hD hS 0 rfl rfl 2 (by decide) k19 (fun _ h9 => h9) rfl (by decide +kernel) rfl rfl (Nat.le_of_ble_eq_true rfl) dX1_init_19 (fun H locs hP hD hS => ?_)
  have hP : va_P G vwCl ([(h, .inr (1, [.ref n1, .int 0, .int 0, .int 0, .int 0, .null, .int 0]))] ++ [(n1, .inl (T 1, 100, .inl (fun _ => 0)))]) H := hP
  have hD : va_D A ([(h, .inr (1, [.ref n1, .int 0, .int 0, .int 0, .int 0, .null, .int 0]))] ++ [(n1, .inl (T 1, 100, .inl (fun _ => 0)))]) := hD
  refine lv_aload_n hx hb dX1_init_22 rfl (lv_at hl 0 rfl) ?_
  refine lv_iconst (v := (-1)) hx hb dX1_init_23 (by decide) ?_
  refine va_put (D := G) (ci := 1) (v := .int (-1)) (ty := .int) (C := RX1) (T := TX1) (N := 7) hx hb hts iX1 tyX1 tyX1_ok nmX1 hown hkx.1 hP hD hS 0 rfl rfl 3 (by decide) k22 (fun _ h9 => h9) rfl (by decide +kernel) rfl rfl (Nat.le_of_ble_eq_true rfl) dX1_init_24 (fun H locs hP hD hS => ?_)
  have hP : va_P G vwCl ([(h, .inr (1, [.ref n1, .int 0, .int 0, .int (-1), .int 0, .null, .int 0]))] ++ [(n1, .inl (T 1, 100, .inl (fun _ => 0)))]) H := hP
  have hD : va_D A ([(h, .inr (1, [.ref n1, .int 0, .int 0, .int (-1), .int 0, .null, .int 0]))] ++ [(n1, .inl (T 1, 100, .inl (fun _ => 0)))]) := hD
  refine lv_aload_n hx hb dX1_init_27 rfl (lv_at hl 0 rfl) ?_
  refine lv_iconst (v := 0) hx hb dX1_init_28 (by decide) ?_
  refine va_put (D := G) (ci := 1) (v := .int 0) (ty := .int) (C := RX1) (T := TX1) (N := 7) hx hb hts iX1 tyX1 tyX1_ok nmX1 hown hkx.1 hP hD hS 0 rfl rfl 4 (by decide) k25 (fun _ h9 => h9) rfl (by decide +kernel) rfl rfl (Nat.le_of_ble_eq_true rfl) dX1_init_29 (fun H locs hP hD hS => ?_)
  have hP : va_P G vwCl ([(h, .inr (1, [.ref n1, .int 0, .int 0, .int (-1), .int 0, .null, .int 0]))] ++ [(n1, .inl (T 1, 100, .inl (fun _ => 0)))]) H := hP
  have hD : va_D A ([(h, .inr (1, [.ref n1, .int 0, .int 0, .int (-1), .int 0, .null, .int 0]))] ++ [(n1, .inl (T 1, 100, .inl (fun _ => 0)))]) := hD
  refine lv_aload_n hx hb dX1_init_32 rfl (lv_at hl 0 rfl) ?_
  refine lv_iconst (v := 5) hx hb dX1_init_33 (by decide) ?_
  refine nwi (n := 5) hx hb (hts (.arrayClass .int) (by decide +kernel)) hkx hP hD hS hA rfl (by omega) (Nat.le_of_ble_eq_true rfl) (Nat.le_of_ble_eq_true rfl) dX1_init_34 (fun n2 H hP hD hS => ?_)
  have hP : va_P G vwCl (([(h, .inr (1, [.ref n1, .int 0, .int 0, .int (-1), .int 0, .null, .int 0]))] ++ [(n1, .inl (T 1, 100, .inl (fun _ => 0)))]) ++ [(n2, .inl (T 0, 5, .inl (fun _ => 0)))]) H := hP
  have hD : va_D A (([(h, .inr (1, [.ref n1, .int 0, .int 0, .int (-1), .int 0, .null, .int 0]))] ++ [(n1, .inl (T 1, 100, .inl (fun _ => 0)))]) ++ [(n2, .inl (T 0, 5, .inl (fun _ => 0)))]) := hD
  refine va_putF (D := G) (ci := 1) (v := .ref n2) (ty := (.array .int)) (C := RX1) (T := TX1) (N := 7) hx hb hts iX1 tyX1 tyX1_ok nmX1 hown hkx.1 hP hD hS 0 rfl rfl 5 (by decide) k28 (fun _ h9 => h9) rfl hin rfl (by decide +kernel) rfl rfl (Nat.le_of_ble_eq_true rfl) dX1_init_36 (fun H locs hP hD hS => ?_)
  have hP : va_P G vwCl (([(h, .inr (1, [.ref n1, .int 0, .int 0, .int (-1), .int 0, .ref n2, .int 0]))] ++ [(n1, .inl (T 1, 100, .inl (fun _ => 0)))]) ++ [(n2, .inl (T 0, 5, .inl (fun _ => 0)))]) H := hP
  have hD : va_D A (([(h, .inr (1, [.ref n1, .int 0, .int 0, .int (-1), .int 0, .ref n2, .int 0]))] ++ [(n1, .inl (T 1, 100, .inl (fun _ => 0)))]) ++ [(n2, .inl (T 0, 5, .inl (fun _ => 0)))]) := hD
  refine lv_aload_n hx hb dX1_init_39 rfl (lv_at hl 0 rfl) ?_
  refine lv_iconst (v := 0) hx hb dX1_init_40 (by decide) ?_
  refine va_put (D := G) (ci := 1) (v := .int 0) (ty := .int) (C := RX1) (T := TX1) (N := 7) hx hb hts iX1 tyX1 tyX1_ok nmX1 hown hkx.1 hP hD hS 0 rfl rfl 6 (by decide) k32 (fun _ h9 => h9) rfl (by decide +kernel) rfl rfl (Nat.le_of_ble_eq_true rfl) dX1_init_41 (fun H locs hP hD hS => ?_)
  have hP : va_P G vwCl (([(h, .inr (1, [.ref n1, .int 0, .int 0, .int (-1), .int 0, .ref n2, .int 0]))] ++ [(n1, .inl (T 1, 100, .inl (fun _ => 0)))]) ++ [(n2, .inl (T 0, 5, .inl (fun _ => 0)))]) H := hP
  have hD : va_D A (([(h, .inr (1, [.ref n1, .int 0, .int 0, .int (-1), .int 0, .ref n2, .int 0]))] ++ [(n1, .inl (T 1, 100, .inl (fun _ => 0)))]) ++ [(n2, .inl (T 0, 5, .inl (fun _ => 0)))]) := hD
  exact hret (wOr T (fun i => [0, 0, h, n1, n2].getD i 0)) _ _ _ _ ⟨(fun i => [0, 0, h, n1, n2].getD i 0), rfl, rfl⟩ hP hD hS dX1_init_44

theorem idX0_init : yX0_init.cls = RX0 ∧ yX0_init.cls ≠ "java/lang/invoke/MethodHandle" ∧ yX0_init.cls ≠ "java/lang/invoke/VarHandle" ∧ (parseMethodDescriptor yX0_init.desc).map (fun d => d.parameters.length) = some 0 := by decide +kernel

set_option maxHeartbeats 4000000 in
set_option maxRecDepth 100000 in
theorem mX0_init (l : Launch) {G : va_G} {T : Nat → ClassId} {H0 : Heap} {h : Nat} (hP : va_P G vwCl [(h, .inr (0, [.null, .int 0, .null, .null]))] H0) (hD : va_D (fun _ => True) [(h, .inr (0, [.null, .int 0, .null, .null]))]) : mk l yX0_init wsX0_init 2 32 18 170 [.ref h] G T (fun _ => True) H0 [(h, .inr (0, [.null, .int 0, .null, .null]))] (ShC T h) := by
  refine mk_of (cc := cX0_init) (maxL := 1) (own := RX0) (by decide +kernel) rfl rfl rfl (Nat.le_of_ble_eq_true rfl) hD ?_
  intro p e s m below meth c Q ls A S hkx hao hin hl hD hS hA hret
  obtain ⟨hx, hb, hml, hown, hts⟩ := id S
  have hl : lv_has ls 1 [(0, .ref h)] := hl
  have iX4 : ∀ w ∈ wsX40, w ∈ wsX0_init := by decide +kernel
  have k12 := hts (.fieldLink RX0 12 "SunsetDates$Calendar" "versions" "LSunsetDates$Versions;") (by decide +kernel)
  have iX0 : ∀ w ∈ wsX00, w ∈ wsX0_init := by decide +kernel
  have k18 := hts (.fieldLink RX0 18 "SunsetDates$Calendar" "featureCount" "I") (by decide +kernel)
  have iX3 : ∀ w ∈ wsX30, w ∈ wsX0_init := by decide +kernel
  have k25 := hts (.fieldLink RX0 25 "SunsetDates$Calendar" "users" "LSunsetDates$Users;") (by decide +kernel)
  have iX2 : ∀ w ∈ wsX20, w ∈ wsX0_init := by decide +kernel
  have k32 := hts (.fieldLink RX0 32 "SunsetDates$Calendar" "shims" "LSunsetDates$Shims;") (by decide +kernel)
  refine lv_aload_n hx hb dX0_init_0 rfl (lv_at hl 0 rfl) ?_
  refine W.objInit hx hb hown (hts (.methodLink RX0 3 objectInit) (by decide +kernel)) (hts (.instanceMethod objectInit) (by decide +kernel)) (hts (.code objectInit ⟨#[0xb1]⟩ 1 none) (by decide +kernel)) rfl (by rw [hml]; exact hl.1) rfl dX0_init_1 (Nat.le_of_ble_eq_true rfl) (Nat.le_of_ble_eq_true rfl) ?_
  refine W.eq (g2 := F0 m 4 ls []) rfl ?_
  refine lv_aload_n hx hb dX0_init_4 rfl (lv_at hl 0 rfl) ?_
  refine va_new (ci := 4) (fs := [.int 0, .null, .null, .null, .null]) (C := RX4) (T := TX4) (N := 5) hx hb hts iX4 tyX4 tyX4_ok hown (hts (.classLink RX0 9 RX4) (by decide +kernel)) (hts (.instantiable RX4 5) (by decide +kernel)) (hts (.initialized RX4) (by decide +kernel)) hkx.1 hP hD hS hA rfl (fun j hj => by rcases (show j = 0 ∨ j = 1 ∨ j = 2 ∨ j = 3 ∨ j = 4 by omega) with rfl | rfl | rfl | rfl | rfl <;> rfl) (Nat.le_of_ble_eq_true rfl) (Nat.le_of_ble_eq_true rfl) dX0_init_5 (fun n1 H hP hD hS => ?_)
  have hP : va_P G vwCl ([(h, .inr (0, [.null, .int 0, .null, .null]))] ++ [(n1, .inr (4, [.int 0, .null, .null, .null, .null]))]) H := hP
  have hD : va_D A ([(h, .inr (0, [.null, .int 0, .null, .null]))] ++ [(n1, .inr (4, [.int 0, .null, .null, .null, .null]))]) := hD
  refine lv_dup hx hb dX0_init_8 rfl ?_
  refine mk_IN S hkx stb_T trivial (mX4_init l (h := n1) (hP := P_tl hP) (hD := (D_tl hD).weaken (fun _ _ _ _ => trivial))) ggX0_init_X4_init rfl hkx.2.2.2.2.2.1 (hts (.initialized RX4) (by decide +kernel)) (hts (.instanceMethod yX4_init) (by decide +kernel)) rfl idX4_init.2 ⟨(Nat.le_of_ble_eq_true rfl), (Nat.le_of_ble_eq_true rfl)⟩ hl.1 rfl (Nat.le_of_ble_eq_true rfl) dX0_init_9 ⟨(Nat.le_of_ble_eq_true rfl), (Nat.le_of_ble_eq_true rfl)⟩ hP hD hS hA (fun w1 H locs hsh hP hD hS => ?_)
  obtain ⟨a2, rfl, rfl⟩ := hsh
  have hP : va_P G vwCl ([(h, .inr (0, [.null, .int 0, .null, .null]))] ++ (wVe T a2)) H := hP
  have hD : va_D A ([(h, .inr (0, [.null, .int 0, .null, .null]))] ++ (wVe T a2)) := hD
  refine W.eq (g2 := F0 m 12 ls [.ref (a2 1), .ref h]) rfl ?_
  refine va_putF (D := G) (ci := 0) (v := .ref (a2 1)) (ty := (.object "SunsetDates$Versions")) (C := RX0) (T := TX0) (N := 4) hx hb hts iX0 tyX0 tyX0_ok nmX0 hown hkx.1 hP hD hS 0 rfl rfl 0 (by decide) k12 (fun _ h9 => h9) rfl hin rfl (by decide +kernel) rfl rfl (Nat.le_of_ble_eq_true rfl) dX0_init_12 (fun H locs hP hD hS => ?_)
  have hP : va_P G vwCl ([(h, .inr (0, [.ref (a2 1), .int 0, .null, .null]))] ++ (wVe T a2)) H := hP
  have hD : va_D A ([(h, .inr (0, [.ref (a2 1), .int 0, .null, .null]))] ++ (wVe T a2)) := hD
  refine lv_aload_n hx hb dX0_init_15 rfl (lv_at hl 0 rfl) ?_
  refine lv_iconst (v := 0) hx hb dX0_init_16 (by decide) ?_
  refine va_put (D := G) (ci := 0) (v := .int 0) (ty := .int) (C := RX0) (T := TX0) (N := 4) hx hb hts iX0 tyX0 tyX0_ok nmX0 hown hkx.1 hP hD hS 0 rfl rfl 1 (by decide) k18 (fun _ h9 => h9) rfl (by decide +kernel) rfl rfl (Nat.le_of_ble_eq_true rfl) dX0_init_17 (fun H locs hP hD hS => ?_)
  have hP : va_P G vwCl ([(h, .inr (0, [.ref (a2 1), .int 0, .null, .null]))] ++ (wVe T a2)) H := hP
  have hD : va_D A ([(h, .inr (0, [.ref (a2 1), .int 0, .null, .null]))] ++ (wVe T a2)) := hD
  refine lv_aload_n hx hb dX0_init_20 rfl (lv_at hl 0 rfl) ?_
  refine va_new (ci := 3) (fs := [.int 0, .null, .null, .null, .null, .null, .null]) (C := RX3) (T := TX3) (N := 7) hx hb hts iX3 tyX3 tyX3_ok hown (hts (.classLink RX0 22 RX3) (by decide +kernel)) (hts (.instantiable RX3 7) (by decide +kernel)) (hts (.initialized RX3) (by decide +kernel)) hkx.1 hP hD hS hA rfl (fun j hj => by rcases (show j = 0 ∨ j = 1 ∨ j = 2 ∨ j = 3 ∨ j = 4 ∨ j = 5 ∨ j = 6 by omega) with rfl | rfl | rfl | rfl | rfl | rfl | rfl <;> rfl) (Nat.le_of_ble_eq_true rfl) (Nat.le_of_ble_eq_true rfl) dX0_init_21 (fun n3 H hP hD hS => ?_)
  have hP : va_P G vwCl (([(h, .inr (0, [.ref (a2 1), .int 0, .null, .null]))] ++ (wVe T a2)) ++ [(n3, .inr (3, [.int 0, .null, .null, .null, .null, .null, .null]))]) H := hP
  have hD : va_D A (([(h, .inr (0, [.ref (a2 1), .int 0, .null, .null]))] ++ (wVe T a2)) ++ [(n3, .inr (3, [.int 0, .null, .null, .null, .null, .null, .null]))]) := hD
  refine lv_dup hx hb dX0_init_24 rfl ?_
  refine mk_IN S hkx stb_T trivial (mX3_init l (h := n3) (hP := P_tl hP) (hD := (D_tl hD).weaken (fun _ _ _ _ => trivial))) ggX0_init_X3_init rfl hkx.2.2.2.2.2.2.1 (hts (.initialized RX3) (by decide +kernel)) (hts (.instanceMethod yX3_init) (by decide +kernel)) rfl idX3_init.2 ⟨(Nat.le_of_ble_eq_true rfl), (Nat.le_of_ble_eq_true rfl)⟩ hl.1 rfl (Nat.le_of_ble_eq_true rfl) dX0_init_25 ⟨(Nat.le_of_ble_eq_true rfl), (Nat.le_of_ble_eq_true rfl)⟩ hP hD hS hA (fun w1 H locs hsh hP hD hS => ?_)
  obtain ⟨a4, rfl, rfl⟩ := hsh
  have hP : va_P G vwCl (([(h, .inr (0, [.ref (a2 1), .int 0, .null, .null]))] ++ (wVe T a2)) ++ (wUs T a4)) H := hP
  have hD : va_D A (([(h, .inr (0, [.ref (a2 1), .int 0, .null, .null]))] ++ (wVe T a2)) ++ (wUs T a4)) := hD
  refine W.eq (g2 := F0 m 28 ls [.ref (a4 6), .ref h]) rfl ?_
  refine va_putF (D := G) (ci := 0) (v := .ref (a4 6)) (ty := (.object "SunsetDates$Users")) (C := RX0) (T := TX0) (N := 4) hx hb hts iX0 tyX0 tyX0_ok nmX0 hown hkx.1 hP hD hS 0 rfl rfl 2 (by decide) k25 (fun _ h9 => h9) rfl hin rfl (by decide +kernel) rfl rfl (Nat.le_of_ble_eq_true rfl) dX0_init_28 (fun H locs hP hD hS => ?_)
  have hP : va_P G vwCl (([(h, .inr (0, [.ref (a2 1), .int 0, .ref (a4 6), .null]))] ++ (wVe T a2)) ++ (wUs T a4)) H := hP
  have hD : va_D A (([(h, .inr (0, [.ref (a2 1), .int 0, .ref (a4 6), .null]))] ++ (wVe T a2)) ++ (wUs T a4)) := hD
  refine lv_aload_n hx hb dX0_init_31 rfl (lv_at hl 0 rfl) ?_
  refine va_new (ci := 2) (fs := [.int 0, .null, .null, .null, .null, .null]) (C := RX2) (T := TX2) (N := 6) hx hb hts iX2 tyX2 tyX2_ok hown (hts (.classLink RX0 29 RX2) (by decide +kernel)) (hts (.instantiable RX2 6) (by decide +kernel)) (hts (.initialized RX2) (by decide +kernel)) hkx.1 hP hD hS hA rfl (fun j hj => by rcases (show j = 0 ∨ j = 1 ∨ j = 2 ∨ j = 3 ∨ j = 4 ∨ j = 5 by omega) with rfl | rfl | rfl | rfl | rfl | rfl <;> rfl) (Nat.le_of_ble_eq_true rfl) (Nat.le_of_ble_eq_true rfl) dX0_init_32 (fun n5 H hP hD hS => ?_)
  have hP : va_P G vwCl ((([(h, .inr (0, [.ref (a2 1), .int 0, .ref (a4 6), .null]))] ++ (wVe T a2)) ++ (wUs T a4)) ++ [(n5, .inr (2, [.int 0, .null, .null, .null, .null, .null]))]) H := hP
  have hD : va_D A ((([(h, .inr (0, [.ref (a2 1), .int 0, .ref (a4 6), .null]))] ++ (wVe T a2)) ++ (wUs T a4)) ++ [(n5, .inr (2, [.int 0, .null, .null, .null, .null, .null]))]) := hD
  refine lv_dup hx hb dX0_init_35 rfl ?_
  refine mk_IN S hkx stb_T trivial (mX2_init l (h := n5) (hP := P_tl hP) (hD := (D_tl hD).weaken (fun _ _ _ _ => trivial))) ggX0_init_X2_init rfl hkx.2.2.2.2.2.2.2.1 (hts (.initialized RX2) (by decide +kernel)) (hts (.instanceMethod yX2_init) (by decide +kernel)) rfl idX2_init.2 ⟨(Nat.le_of_ble_eq_true rfl), (Nat.le_of_ble_eq_true rfl)⟩ hl.1 rfl (Nat.le_of_ble_eq_true rfl) dX0_init_36 ⟨(Nat.le_of_ble_eq_true rfl), (Nat.le_of_ble_eq_true rfl)⟩ hP hD hS hA (fun w1 H locs hsh hP hD hS => ?_)
  obtain ⟨a6, rfl, rfl⟩ := hsh
  have hP : va_P G vwCl ((([(h, .inr (0, [.ref (a2 1), .int 0, .ref (a4 6), .null]))] ++ (wVe T a2)) ++ (wUs T a4)) ++ (wSh T a6)) H := hP
  have hD : va_D A ((([(h, .inr (0, [.ref (a2 1), .int 0, .ref (a4 6), .null]))] ++ (wVe T a2)) ++ (wUs T a4)) ++ (wSh T a6)) := hD
  refine W.eq (g2 := F0 m 39 ls [.ref (a6 13), .ref h]) rfl ?_
  refine va_putF (D := G) (ci := 0) (v := .ref (a6 13)) (ty := (.object "SunsetDates$Shims")) (C := RX0) (T := TX0) (N := 4) hx hb hts iX0 tyX0 tyX0_ok nmX0 hown hkx.1 hP hD hS 0 rfl rfl 3 (by decide) k32 (fun _ h9 => h9) rfl hin rfl (by decide +kernel) rfl rfl (Nat.le_of_ble_eq_true rfl) dX0_init_39 (fun H locs hP hD hS => ?_)
  have hP : va_P G vwCl ((([(h, .inr (0, [.ref (a2 1), .int 0, .ref (a4 6), .ref (a6 13)]))] ++ (wVe T a2)) ++ (wUs T a4)) ++ (wSh T a6)) H := hP
  have hD : va_D A ((([(h, .inr (0, [.ref (a2 1), .int 0, .ref (a4 6), .ref (a6 13)]))] ++ (wVe T a2)) ++ (wUs T a4)) ++ (wSh T a6)) := hD
  exact hret (wCal T (fun i => [h, a2 1, a2 2, a2 3, a2 4, a2 5, a4 6, a4 7, a4 8, a4 9, a4 10, a4 11, a4 12, a6 13, a6 14, a6 15, a6 16, a6 17, a6 18].getD i 0) z0 zz) _ _ _ _ ⟨(fun i => [h, a2 1, a2 2, a2 3, a2 4, a2 5, a4 6, a4 7, a4 8, a4 9, a4 10, a4 11, a4 12, a6 13, a6 14, a6 15, a6 16, a6 17, a6 18].getD i 0), rfl, rfl⟩ hP hD hS dX0_init_42

theorem idX5_init : yX5_init.cls = RX5 ∧ yX5_init.cls ≠ "java/lang/invoke/MethodHandle" ∧ yX5_init.cls ≠ "java/lang/invoke/VarHandle" ∧ (parseMethodDescriptor yX5_init.desc).map (fun d => d.parameters.length) = some 0 := by decide +kernel

set_option maxHeartbeats 4000000 in
set_option maxRecDepth 100000 in
theorem mX5_init (l : Launch) {G : va_G} {T : Nat → ClassId} {H0 : Heap} {h : Nat} (hP : va_P G vwCl [(h, .inr (5, [.null, .null, .int 0, .null]))] H0) (hD : va_D (fun _ => True) [(h, .inr (5, [.null, .null, .int 0, .null]))]) : mk l yX5_init wsX5_init 3 52 99 986 [.ref h] G T (va_AO "SunsetDates$Calendar") H0 [(h, .inr (5, [.null, .null, .int 0, .null]))] (ShM T h) := by
  refine mk_of (cc := cX5_init) (maxL := 2) (own := RX5) (by decide +kernel) rfl rfl rfl (Nat.le_of_ble_eq_true rfl) hD ?_
  intro p e s m below meth c Q ls A S hkx hao hin hl hD hS hA hret
  obtain ⟨hx, hb, hml, hown, hts⟩ := id S
  have hl : lv_has ls 2 [(0, .ref h)] := hl
  have iX0 : ∀ w ∈ wsX00, w ∈ wsX5_init := by decide +kernel
  have k12 := hts (.fieldLink RX5 12 "SunsetDates" "now" "LSunsetDates$Calendar;") (by decide +kernel)
  have iX5 : ∀ w ∈ wsX50, w ∈ wsX5_init := by decide +kernel
  have k16 := hts (.fieldLink RX5 16 "SunsetDates" "saved" "[LSunsetDates$Calendar;") (by decide +kernel)
  have k20 := hts (.fieldLink RX5 20 "SunsetDates" "savedCount" "I") (by decide +kernel)
  have iX1 : ∀ w ∈ wsX10, w ∈ wsX5_init := by decide +kernel
  have k27 := hts (.fieldLink RX5 27 "SunsetDates" "orders" "LSunsetDates$Orders;") (by decide +kernel)
  refine lv_aload_n hx hb dX5_init_0 rfl (lv_at hl 0 rfl) ?_
  refine W.objInit hx hb hown (hts (.methodLink RX5 3 objectInit) (by decide +kernel)) (hts (.instanceMethod objectInit) (by decide +kernel)) (hts (.code objectInit ⟨#[0xb1]⟩ 1 none) (by decide +kernel)) rfl (by rw [hml]; exact hl.1) rfl dX5_init_1 (Nat.le_of_ble_eq_true rfl) (Nat.le_of_ble_eq_true rfl) ?_
  refine W.eq (g2 := F0 m 4 ls []) rfl ?_
  refine lv_aload_n hx hb dX5_init_4 rfl (lv_at hl 0 rfl) ?_
  refine va_new (ci := 0) (fs := [.null, .int 0, .null, .null]) (C := RX0) (T := TX0) (N := 4) hx hb hts iX0 tyX0 tyX0_ok hown (hts (.classLink RX5 9 RX0) (by decide +kernel)) (hts (.instantiable RX0 4) (by decide +kernel)) (hts (.initialized RX0) (by decide +kernel)) hkx.1 hP hD hS hA rfl (fun j hj => by rcases (show j = 0 ∨ j = 1 ∨ j = 2 ∨ j = 3 by omega) with rfl | rfl | rfl | rfl <;> rfl) (Nat.le_of_ble_eq_true rfl) (Nat.le_of_ble_eq_true rfl) dX5_init_5 (fun n1 H hP hD hS => ?_)
  have hP : va_P G vwCl ([(h, .inr (5, [.null, .null, .int 0, .null]))] ++ [(n1, .inr (0, [.null, .int 0, .null, .null]))]) H := hP
  have hD : va_D A ([(h, .inr (5, [.null, .null, .int 0, .null]))] ++ [(n1, .inr (0, [.null, .int 0, .null, .null]))]) := hD
  refine lv_dup hx hb dX5_init_8 rfl ?_
  refine mk_IN S hkx stb_T trivial (mX0_init l (h := n1) (hP := P_tl hP) (hD := (D_tl hD).weaken (fun _ _ _ _ => trivial))) ggX5_init_X0_init rfl hkx.2.2.2.2.2.2.2.2.1 (hts (.initialized RX0) (by decide +kernel)) (hts (.instanceMethod yX0_init) (by decide +kernel)) rfl idX0_init.2 ⟨(Nat.le_of_ble_eq_true rfl), (Nat.le_of_ble_eq_true rfl)⟩ hl.1 rfl (Nat.le_of_ble_eq_true rfl) dX5_init_9 ⟨(Nat.le_of_ble_eq_true rfl), (Nat.le_of_ble_eq_true rfl)⟩ hP hD hS hA (fun w1 H locs hsh hP hD hS => ?_)
  obtain ⟨a2, rfl, rfl⟩ := hsh
  have hP : va_P G vwCl ([(h, .inr (5, [.null, .null, .int 0, .null]))] ++ (wCal T a2 z0 zz)) H := hP
  have hD : va_D A ([(h, .inr (5, [.null, .null, .int 0, .null]))] ++ (wCal T a2 z0 zz)) := hD
  refine W.eq (g2 := F0 m 12 ls [.ref (a2 0), .ref h]) rfl ?_
  refine va_putF (D := G) (ci := 5) (v := .ref (a2 0)) (ty := (.object "SunsetDates$Calendar")) (C := RX5) (T := TX5) (N := 4) hx hb hts iX5 tyX5 tyX5_ok nmX5 hown hkx.1 hP hD hS 0 rfl rfl 0 (by decide) k12 (fun _ h9 => h9) rfl hin rfl (by decide +kernel) rfl rfl (Nat.le_of_ble_eq_true rfl) dX5_init_12 (fun H locs hP hD hS => ?_)
  have hP : va_P G vwCl ([(h, .inr (5, [.ref (a2 0), .null, .int 0, .null]))] ++ (wCal T a2 z0 zz)) H := hP
  have hD : va_D A ([(h, .inr (5, [.ref (a2 0), .null, .int 0, .null]))] ++ (wCal T a2 z0 zz)) := hD
  refine lv_aload_n hx hb dX5_init_15 rfl (lv_at hl 0 rfl) ?_
  refine lv_iconst (v := 4) hx hb dX5_init_16 (by decide) ?_
  refine nwq (n := 4) hx hb hown (hts (.classLink RX5 9 RX0) (by decide +kernel)) hao hkx hP hD hS hA rfl (by omega) (Nat.le_of_ble_eq_true rfl) (Nat.le_of_ble_eq_true rfl) dX5_init_17 (fun n3 H hP hD hS => ?_)
  have hP : va_P G vwCl (([(h, .inr (5, [.ref (a2 0), .null, .int 0, .null]))] ++ (wCal T a2 z0 zz)) ++ [(n3, .inl (T 2, 4, .inr (.inr (.inr (.inr (fun _ => none))))))]) H := hP
  have hD : va_D A (([(h, .inr (5, [.ref (a2 0), .null, .int 0, .null]))] ++ (wCal T a2 z0 zz)) ++ [(n3, .inl (T 2, 4, .inr (.inr (.inr (.inr (fun _ => none))))))]) := hD
  refine va_putF (D := G) (ci := 5) (v := .ref n3) (ty := (.array (.object "SunsetDates$Calendar"))) (C := RX5) (T := TX5) (N := 4) hx hb hts iX5 tyX5 tyX5_ok nmX5 hown hkx.1 hP hD hS 0 rfl rfl 1 (by decide) k16 (fun _ h9 => h9) rfl hin rfl (by decide +kernel) rfl rfl (Nat.le_of_ble_eq_true rfl) dX5_init_20 (fun H locs hP hD hS => ?_)
  have hP : va_P G vwCl (([(h, .inr (5, [.ref (a2 0), .ref n3, .int 0, .null]))] ++ (wCal T a2 z0 zz)) ++ [(n3, .inl (T 2, 4, .inr (.inr (.inr (.inr (fun _ => none))))))]) H := hP
  have hD : va_D A (([(h, .inr (5, [.ref (a2 0), .ref n3, .int 0, .null]))] ++ (wCal T a2 z0 zz)) ++ [(n3, .inl (T 2, 4, .inr (.inr (.inr (.inr (fun _ => none))))))]) := hD
  refine lv_aload_n hx hb dX5_init_23 rfl (lv_at hl 0 rfl) ?_
  refine lv_iconst (v := 0) hx hb dX5_init_24 (by decide) ?_
  refine va_put (D := G) (ci := 5) (v := .int 0) (ty := .int) (C := RX5) (T := TX5) (N := 4) hx hb hts iX5 tyX5 tyX5_ok nmX5 hown hkx.1 hP hD hS 0 rfl rfl 2 (by decide) k20 (fun _ h9 => h9) rfl (by decide +kernel) rfl rfl (Nat.le_of_ble_eq_true rfl) dX5_init_25 (fun H locs hP hD hS => ?_)
  have hP : va_P G vwCl (([(h, .inr (5, [.ref (a2 0), .ref n3, .int 0, .null]))] ++ (wCal T a2 z0 zz)) ++ [(n3, .inl (T 2, 4, .inr (.inr (.inr (.inr (fun _ => none))))))]) H := hP
  have hD : va_D A (([(h, .inr (5, [.ref (a2 0), .ref n3, .int 0, .null]))] ++ (wCal T a2 z0 zz)) ++ [(n3, .inl (T 2, 4, .inr (.inr (.inr (.inr (fun _ => none))))))]) := hD
  refine lv_aload_n hx hb dX5_init_28 rfl (lv_at hl 0 rfl) ?_
  refine va_new (ci := 1) (fs := [.null, .int 0, .int 0, .int 0, .int 0, .null, .int 0]) (C := RX1) (T := TX1) (N := 7) hx hb hts iX1 tyX1 tyX1_ok hown (hts (.classLink RX5 24 RX1) (by decide +kernel)) (hts (.instantiable RX1 7) (by decide +kernel)) (hts (.initialized RX1) (by decide +kernel)) hkx.1 hP hD hS hA rfl (fun j hj => by rcases (show j = 0 ∨ j = 1 ∨ j = 2 ∨ j = 3 ∨ j = 4 ∨ j = 5 ∨ j = 6 by omega) with rfl | rfl | rfl | rfl | rfl | rfl | rfl <;> rfl) (Nat.le_of_ble_eq_true rfl) (Nat.le_of_ble_eq_true rfl) dX5_init_29 (fun n4 H hP hD hS => ?_)
  have hP : va_P G vwCl ((([(h, .inr (5, [.ref (a2 0), .ref n3, .int 0, .null]))] ++ (wCal T a2 z0 zz)) ++ [(n3, .inl (T 2, 4, .inr (.inr (.inr (.inr (fun _ => none))))))]) ++ [(n4, .inr (1, [.null, .int 0, .int 0, .int 0, .int 0, .null, .int 0]))]) H := hP
  have hD : va_D A ((([(h, .inr (5, [.ref (a2 0), .ref n3, .int 0, .null]))] ++ (wCal T a2 z0 zz)) ++ [(n3, .inl (T 2, 4, .inr (.inr (.inr (.inr (fun _ => none))))))]) ++ [(n4, .inr (1, [.null, .int 0, .int 0, .int 0, .int 0, .null, .int 0]))]) := hD
  refine lv_dup hx hb dX5_init_32 rfl ?_
  refine mk_IN S hkx stb_T trivial (mX1_init l (h := n4) (hP := P_tl hP) (hD := (D_tl hD).weaken (fun _ _ _ _ => trivial))) ggX5_init_X1_init rfl hkx.2.2.2.2.2.2.2.2.2 (hts (.initialized RX1) (by decide +kernel)) (hts (.instanceMethod yX1_init) (by decide +kernel)) rfl idX1_init.2 ⟨(Nat.le_of_ble_eq_true rfl), (Nat.le_of_ble_eq_true rfl)⟩ hl.1 rfl (Nat.le_of_ble_eq_true rfl) dX5_init_33 ⟨(Nat.le_of_ble_eq_true rfl), (Nat.le_of_ble_eq_true rfl)⟩ hP hD hS hA (fun w1 H locs hsh hP hD hS => ?_)
  obtain ⟨a5, rfl, rfl⟩ := hsh
  have hP : va_P G vwCl ((([(h, .inr (5, [.ref (a2 0), .ref n3, .int 0, .null]))] ++ (wCal T a2 z0 zz)) ++ [(n3, .inl (T 2, 4, .inr (.inr (.inr (.inr (fun _ => none))))))]) ++ (wOr T a5)) H := hP
  have hD : va_D A ((([(h, .inr (5, [.ref (a2 0), .ref n3, .int 0, .null]))] ++ (wCal T a2 z0 zz)) ++ [(n3, .inl (T 2, 4, .inr (.inr (.inr (.inr (fun _ => none))))))]) ++ (wOr T a5)) := hD
  refine W.eq (g2 := F0 m 36 ls [.ref (a5 2), .ref h]) rfl ?_
  refine va_putF (D := G) (ci := 5) (v := .ref (a5 2)) (ty := (.object "SunsetDates$Orders")) (C := RX5) (T := TX5) (N := 4) hx hb hts iX5 tyX5 tyX5_ok nmX5 hown hkx.1 hP hD hS 0 rfl rfl 3 (by decide) k27 (fun _ h9 => h9) rfl hin rfl (by decide +kernel) rfl rfl (Nat.le_of_ble_eq_true rfl) dX5_init_36 (fun H locs hP hD hS => ?_)
  have hP : va_P G vwCl ((([(h, .inr (5, [.ref (a2 0), .ref n3, .int 0, .ref (a5 2)]))] ++ (wCal T a2 z0 zz)) ++ [(n3, .inl (T 2, 4, .inr (.inr (.inr (.inr (fun _ => none))))))]) ++ (wOr T a5)) H := hP
  have hD : va_D A ((([(h, .inr (5, [.ref (a2 0), .ref n3, .int 0, .ref (a5 2)]))] ++ (wCal T a2 z0 zz)) ++ [(n3, .inl (T 2, 4, .inr (.inr (.inr (.inr (fun _ => none))))))]) ++ (wOr T a5)) := hD
  refine lv_iconst (v := 0) hx hb dX5_init_39 (by decide) ?_
  refine lv_istore_n (lv' := [(1, .int 0), (0, .ref h)]) hx hb dX5_init_40 rfl hl (by decide) rfl (fun ls hl => ?_)
  refine lv_iload_n hx hb dX5_init_41 rfl (lv_at hl 0 rfl) ?_
  refine lv_aload_n hx hb dX5_init_42 rfl (lv_at hl 1 rfl) ?_
  refine va_get (D := G) (ci := 5) (C := RX5) (T := TX5) (N := 4) hx hb hts iX5 hown hkx.1 hP 0 rfl rfl 1 (by decide) k16 (fun _ h9 => h9) rfl dX5_init_43 ?_
  refine aln hx hb hkx hP 20 2 rfl rfl dX5_init_46 ?_
  refine lv_icmp_ge (tgt := 69) hx hb dX5_init_47 (by decide) (fun c_7 => ?_) (fun c_7 => ?_)
  · replace c_7 := cn_le (a := 4) (b := 0) (by omega) (by omega) c_7
    exact absurd c_7 (by decide)
  · replace c_7 := cn_nle (a := 4) (b := 0) (by omega) (by omega) c_7
    refine lv_aload_n hx hb dX5_init_50 rfl (lv_at hl 1 rfl) ?_
    refine va_get (D := G) (ci := 5) (C := RX5) (T := TX5) (N := 4) hx hb hts iX5 hown hkx.1 hP 0 rfl rfl 1 (by decide) k16 (fun _ h9 => h9) rfl dX5_init_51 ?_
    refine lv_iload_n hx hb dX5_init_54 rfl (lv_at hl 0 rfl) ?_
    refine va_new (ci := 0) (fs := [.null, .int 0, .null, .null]) (C := RX0) (T := TX0) (N := 4) hx hb hts iX0 tyX0 tyX0_ok hown (hts (.classLink RX5 9 RX0) (by decide +kernel)) (hts (.instantiable RX0 4) (by decide +kernel)) (hts (.initialized RX0) (by decide +kernel)) hkx.1 hP hD hS hA rfl (fun j hj => by rcases (show j = 0 ∨ j = 1 ∨ j = 2 ∨ j = 3 by omega) with rfl | rfl | rfl | rfl <;> rfl) (Nat.le_of_ble_eq_true rfl) (Nat.le_of_ble_eq_true rfl) dX5_init_55 (fun n7 H hP hD hS => ?_)
    have hP : va_P G vwCl (((([(h, .inr (5, [.ref (a2 0), .ref n3, .int 0, .ref (a5 2)]))] ++ (wCal T a2 z0 zz)) ++ [(n3, .inl (T 2, 4, .inr (.inr (.inr (.inr (fun _ => none))))))]) ++ (wOr T a5)) ++ [(n7, .inr (0, [.null, .int 0, .null, .null]))]) H := hP
    have hD : va_D A (((([(h, .inr (5, [.ref (a2 0), .ref n3, .int 0, .ref (a5 2)]))] ++ (wCal T a2 z0 zz)) ++ [(n3, .inl (T 2, 4, .inr (.inr (.inr (.inr (fun _ => none))))))]) ++ (wOr T a5)) ++ [(n7, .inr (0, [.null, .int 0, .null, .null]))]) := hD
    refine lv_dup hx hb dX5_init_58 rfl ?_
    refine mk_IN S hkx stb_T trivial (mX0_init l (h := n7) (hP := P_tl hP) (hD := (D_tl hD).weaken (fun _ _ _ _ => trivial))) ggX5_init_X0_init rfl hkx.2.2.2.2.2.2.2.2.1 (hts (.initialized RX0) (by decide +kernel)) (hts (.instanceMethod yX0_init) (by decide +kernel)) rfl idX0_init.2 ⟨(Nat.le_of_ble_eq_true rfl), (Nat.le_of_ble_eq_true rfl)⟩ hl.1 rfl (Nat.le_of_ble_eq_true rfl) dX5_init_59 ⟨(Nat.le_of_ble_eq_true rfl), (Nat.le_of_ble_eq_true rfl)⟩ hP hD hS hA (fun w1 H locs hsh hP hD hS => ?_)
    obtain ⟨a8, rfl, rfl⟩ := hsh
    have hP : va_P G vwCl (((([(h, .inr (5, [.ref (a2 0), .ref n3, .int 0, .ref (a5 2)]))] ++ (wCal T a2 z0 zz)) ++ [(n3, .inl (T 2, 4, .inr (.inr (.inr (.inr (fun _ => none))))))]) ++ (wOr T a5)) ++ (wCal T a8 z0 zz)) H := hP
    have hD : va_D A (((([(h, .inr (5, [.ref (a2 0), .ref n3, .int 0, .ref (a5 2)]))] ++ (wCal T a2 z0 zz)) ++ [(n3, .inl (T 2, 4, .inr (.inr (.inr (.inr (fun _ => none))))))]) ++ (wOr T a5)) ++ (wCal T a8 z0 zz)) := hD
    refine W.eq (g2 := F0 m 62 ls [.ref (a8 0), .int 0, .ref n3]) rfl ?_
    refine aqs hx hb hkx hP hD hS 20 24 rfl rfl 0 rfl (by omega) (by decide) dX5_init_62 (fun H locs hP hD hS => ?_)
    have hP : va_P G vwCl (((([(h, .inr (5, [.ref (a2 0), .ref n3, .int 0, .ref (a5 2)]))] ++ (wCal T a2 z0 zz)) ++ [(n3, .inl (T 2, 4, .inr (.inr (.inr (.inr (va_up (fun _ => none) 0 (some (a8 0))))))))]) ++ (wOr T a5)) ++ (wCal T a8 z0 zz)) H := hP
    have hD : va_D A (((([(h, .inr (5, [.ref (a2 0), .ref n3, .int 0, .ref (a5 2)]))] ++ (wCal T a2 z0 zz)) ++ [(n3, .inl (T 2, 4, .inr (.inr (.inr (.inr (va_up (fun _ => none) 0 (some (a8 0))))))))]) ++ (wOr T a5)) ++ (wCal T a8 z0 zz)) := hD
    refine lv_iinc (v := (nI 1)) (lv' := [(1, .int (nI 1)), (0, .ref h)]) hx hb dX5_init_63 hl (k := 0) rfl (nI_inc 0) (by decide) rfl (fun ls hl => ?_)
    refine lv_goto (tgt := 41) hx hb dX5_init_66 (by decide) ?_
    refine lv_iload_n hx hb dX5_init_41 rfl (lv_at hl 0 rfl) ?_
    refine lv_aload_n hx hb dX5_init_42 rfl (lv_at hl 1 rfl) ?_
    refine va_get (D := G) (ci := 5) (C := RX5) (T := TX5) (N := 4) hx hb hts iX5 hown hkx.1 hP 0 rfl rfl 1 (by decide) k16 (fun _ h9 => h9) rfl dX5_init_43 ?_
    refine aln hx hb hkx hP 20 2 rfl rfl dX5_init_46 ?_
    refine lv_icmp_ge (tgt := 69) hx hb dX5_init_47 (by decide) (fun c_10 => ?_) (fun c_10 => ?_)
    · replace c_10 := cn_le (a := 4) (b := 1) (by omega) (by omega) c_10
      exact absurd c_10 (by decide)
    · replace c_10 := cn_nle (a := 4) (b := 1) (by omega) (by omega) c_10
      refine lv_aload_n hx hb dX5_init_50 rfl (lv_at hl 1 rfl) ?_
      refine va_get (D := G) (ci := 5) (C := RX5) (T := TX5) (N := 4) hx hb hts iX5 hown hkx.1 hP 0 rfl rfl 1 (by decide) k16 (fun _ h9 => h9) rfl dX5_init_51 ?_
      refine lv_iload_n hx hb dX5_init_54 rfl (lv_at hl 0 rfl) ?_
      refine va_new (ci := 0) (fs := [.null, .int 0, .null, .null]) (C := RX0) (T := TX0) (N := 4) hx hb hts iX0 tyX0 tyX0_ok hown (hts (.classLink RX5 9 RX0) (by decide +kernel)) (hts (.instantiable RX0 4) (by decide +kernel)) (hts (.initialized RX0) (by decide +kernel)) hkx.1 hP hD hS hA rfl (fun j hj => by rcases (show j = 0 ∨ j = 1 ∨ j = 2 ∨ j = 3 by omega) with rfl | rfl | rfl | rfl <;> rfl) (Nat.le_of_ble_eq_true rfl) (Nat.le_of_ble_eq_true rfl) dX5_init_55 (fun n10 H hP hD hS => ?_)
      have hP : va_P G vwCl ((((([(h, .inr (5, [.ref (a2 0), .ref n3, .int 0, .ref (a5 2)]))] ++ (wCal T a2 z0 zz)) ++ [(n3, .inl (T 2, 4, .inr (.inr (.inr (.inr (va_up (fun _ => none) 0 (some (a8 0))))))))]) ++ (wOr T a5)) ++ (wCal T a8 z0 zz)) ++ [(n10, .inr (0, [.null, .int 0, .null, .null]))]) H := hP
      have hD : va_D A ((((([(h, .inr (5, [.ref (a2 0), .ref n3, .int 0, .ref (a5 2)]))] ++ (wCal T a2 z0 zz)) ++ [(n3, .inl (T 2, 4, .inr (.inr (.inr (.inr (va_up (fun _ => none) 0 (some (a8 0))))))))]) ++ (wOr T a5)) ++ (wCal T a8 z0 zz)) ++ [(n10, .inr (0, [.null, .int 0, .null, .null]))]) := hD
      refine lv_dup hx hb dX5_init_58 rfl ?_
      refine mk_IN S hkx stb_T trivial (mX0_init l (h := n10) (hP := P_tl hP) (hD := (D_tl hD).weaken (fun _ _ _ _ => trivial))) ggX5_init_X0_init rfl hkx.2.2.2.2.2.2.2.2.1 (hts (.initialized RX0) (by decide +kernel)) (hts (.instanceMethod yX0_init) (by decide +kernel)) rfl idX0_init.2 ⟨(Nat.le_of_ble_eq_true rfl), (Nat.le_of_ble_eq_true rfl)⟩ hl.1 rfl (Nat.le_of_ble_eq_true rfl) dX5_init_59 ⟨(Nat.le_of_ble_eq_true rfl), (Nat.le_of_ble_eq_true rfl)⟩ hP hD hS hA (fun w1 H locs hsh hP hD hS => ?_)
      obtain ⟨a11, rfl, rfl⟩ := hsh
      have hP : va_P G vwCl ((((([(h, .inr (5, [.ref (a2 0), .ref n3, .int 0, .ref (a5 2)]))] ++ (wCal T a2 z0 zz)) ++ [(n3, .inl (T 2, 4, .inr (.inr (.inr (.inr (va_up (fun _ => none) 0 (some (a8 0))))))))]) ++ (wOr T a5)) ++ (wCal T a8 z0 zz)) ++ (wCal T a11 z0 zz)) H := hP
      have hD : va_D A ((((([(h, .inr (5, [.ref (a2 0), .ref n3, .int 0, .ref (a5 2)]))] ++ (wCal T a2 z0 zz)) ++ [(n3, .inl (T 2, 4, .inr (.inr (.inr (.inr (va_up (fun _ => none) 0 (some (a8 0))))))))]) ++ (wOr T a5)) ++ (wCal T a8 z0 zz)) ++ (wCal T a11 z0 zz)) := hD
      refine W.eq (g2 := F0 m 62 ls [.ref (a11 0), .int (nI 1), .ref n3]) rfl ?_
      refine aqs hx hb hkx hP hD hS 20 43 rfl rfl 1 rfl (by omega) (by decide) dX5_init_62 (fun H locs hP hD hS => ?_)
      have hP : va_P G vwCl ((((([(h, .inr (5, [.ref (a2 0), .ref n3, .int 0, .ref (a5 2)]))] ++ (wCal T a2 z0 zz)) ++ [(n3, .inl (T 2, 4, .inr (.inr (.inr (.inr (va_up (va_up (fun _ => none) 0 (some (a8 0))) 1 (some (a11 0))))))))]) ++ (wOr T a5)) ++ (wCal T a8 z0 zz)) ++ (wCal T a11 z0 zz)) H := hP
      have hD : va_D A ((((([(h, .inr (5, [.ref (a2 0), .ref n3, .int 0, .ref (a5 2)]))] ++ (wCal T a2 z0 zz)) ++ [(n3, .inl (T 2, 4, .inr (.inr (.inr (.inr (va_up (va_up (fun _ => none) 0 (some (a8 0))) 1 (some (a11 0))))))))]) ++ (wOr T a5)) ++ (wCal T a8 z0 zz)) ++ (wCal T a11 z0 zz)) := hD
      refine lv_iinc (v := (nI 2)) (lv' := [(1, .int (nI 2)), (0, .ref h)]) hx hb dX5_init_63 hl (k := 0) rfl (nI_inc 1) (by decide) rfl (fun ls hl => ?_)
      refine lv_goto (tgt := 41) hx hb dX5_init_66 (by decide) ?_
      refine lv_iload_n hx hb dX5_init_41 rfl (lv_at hl 0 rfl) ?_
      refine lv_aload_n hx hb dX5_init_42 rfl (lv_at hl 1 rfl) ?_
      refine va_get (D := G) (ci := 5) (C := RX5) (T := TX5) (N := 4) hx hb hts iX5 hown hkx.1 hP 0 rfl rfl 1 (by decide) k16 (fun _ h9 => h9) rfl dX5_init_43 ?_
      refine aln hx hb hkx hP 20 2 rfl rfl dX5_init_46 ?_
      refine lv_icmp_ge (tgt := 69) hx hb dX5_init_47 (by decide) (fun c_13 => ?_) (fun c_13 => ?_)
      · replace c_13 := cn_le (a := 4) (b := 2) (by omega) (by omega) c_13
        exact absurd c_13 (by decide)
      · replace c_13 := cn_nle (a := 4) (b := 2) (by omega) (by omega) c_13
        refine lv_aload_n hx hb dX5_init_50 rfl (lv_at hl 1 rfl) ?_
        refine va_get (D := G) (ci := 5) (C := RX5) (T := TX5) (N := 4) hx hb hts iX5 hown hkx.1 hP 0 rfl rfl 1 (by decide) k16 (fun _ h9 => h9) rfl dX5_init_51 ?_
        refine lv_iload_n hx hb dX5_init_54 rfl (lv_at hl 0 rfl) ?_
        refine va_new (ci := 0) (fs := [.null, .int 0, .null, .null]) (C := RX0) (T := TX0) (N := 4) hx hb hts iX0 tyX0 tyX0_ok hown (hts (.classLink RX5 9 RX0) (by decide +kernel)) (hts (.instantiable RX0 4) (by decide +kernel)) (hts (.initialized RX0) (by decide +kernel)) hkx.1 hP hD hS hA rfl (fun j hj => by rcases (show j = 0 ∨ j = 1 ∨ j = 2 ∨ j = 3 by omega) with rfl | rfl | rfl | rfl <;> rfl) (Nat.le_of_ble_eq_true rfl) (Nat.le_of_ble_eq_true rfl) dX5_init_55 (fun n13 H hP hD hS => ?_)
        have hP : va_P G vwCl (((((([(h, .inr (5, [.ref (a2 0), .ref n3, .int 0, .ref (a5 2)]))] ++ (wCal T a2 z0 zz)) ++ [(n3, .inl (T 2, 4, .inr (.inr (.inr (.inr (va_up (va_up (fun _ => none) 0 (some (a8 0))) 1 (some (a11 0))))))))]) ++ (wOr T a5)) ++ (wCal T a8 z0 zz)) ++ (wCal T a11 z0 zz)) ++ [(n13, .inr (0, [.null, .int 0, .null, .null]))]) H := hP
        have hD : va_D A (((((([(h, .inr (5, [.ref (a2 0), .ref n3, .int 0, .ref (a5 2)]))] ++ (wCal T a2 z0 zz)) ++ [(n3, .inl (T 2, 4, .inr (.inr (.inr (.inr (va_up (va_up (fun _ => none) 0 (some (a8 0))) 1 (some (a11 0))))))))]) ++ (wOr T a5)) ++ (wCal T a8 z0 zz)) ++ (wCal T a11 z0 zz)) ++ [(n13, .inr (0, [.null, .int 0, .null, .null]))]) := hD
        refine lv_dup hx hb dX5_init_58 rfl ?_
        refine mk_IN S hkx stb_T trivial (mX0_init l (h := n13) (hP := P_tl hP) (hD := (D_tl hD).weaken (fun _ _ _ _ => trivial))) ggX5_init_X0_init rfl hkx.2.2.2.2.2.2.2.2.1 (hts (.initialized RX0) (by decide +kernel)) (hts (.instanceMethod yX0_init) (by decide +kernel)) rfl idX0_init.2 ⟨(Nat.le_of_ble_eq_true rfl), (Nat.le_of_ble_eq_true rfl)⟩ hl.1 rfl (Nat.le_of_ble_eq_true rfl) dX5_init_59 ⟨(Nat.le_of_ble_eq_true rfl), (Nat.le_of_ble_eq_true rfl)⟩ hP hD hS hA (fun w1 H locs hsh hP hD hS => ?_)
        obtain ⟨a14, rfl, rfl⟩ := hsh
        have hP : va_P G vwCl (((((([(h, .inr (5, [.ref (a2 0), .ref n3, .int 0, .ref (a5 2)]))] ++ (wCal T a2 z0 zz)) ++ [(n3, .inl (T 2, 4, .inr (.inr (.inr (.inr (va_up (va_up (fun _ => none) 0 (some (a8 0))) 1 (some (a11 0))))))))]) ++ (wOr T a5)) ++ (wCal T a8 z0 zz)) ++ (wCal T a11 z0 zz)) ++ (wCal T a14 z0 zz)) H := hP
        have hD : va_D A (((((([(h, .inr (5, [.ref (a2 0), .ref n3, .int 0, .ref (a5 2)]))] ++ (wCal T a2 z0 zz)) ++ [(n3, .inl (T 2, 4, .inr (.inr (.inr (.inr (va_up (va_up (fun _ => none) 0 (some (a8 0))) 1 (some (a11 0))))))))]) ++ (wOr T a5)) ++ (wCal T a8 z0 zz)) ++ (wCal T a11 z0 zz)) ++ (wCal T a14 z0 zz)) := hD
        refine W.eq (g2 := F0 m 62 ls [.ref (a14 0), .int (nI 2), .ref n3]) rfl ?_
        refine aqs hx hb hkx hP hD hS 20 62 rfl rfl 2 rfl (by omega) (by decide) dX5_init_62 (fun H locs hP hD hS => ?_)
        have hP : va_P G vwCl (((((([(h, .inr (5, [.ref (a2 0), .ref n3, .int 0, .ref (a5 2)]))] ++ (wCal T a2 z0 zz)) ++ [(n3, .inl (T 2, 4, .inr (.inr (.inr (.inr (va_up (va_up (va_up (fun _ => none) 0 (some (a8 0))) 1 (some (a11 0))) 2 (some (a14 0))))))))]) ++ (wOr T a5)) ++ (wCal T a8 z0 zz)) ++ (wCal T a11 z0 zz)) ++ (wCal T a14 z0 zz)) H := hP
        have hD : va_D A (((((([(h, .inr (5, [.ref (a2 0), .ref n3, .int 0, .ref (a5 2)]))] ++ (wCal T a2 z0 zz)) ++ [(n3, .inl (T 2, 4, .inr (.inr (.inr (.inr (va_up (va_up (va_up (fun _ => none) 0 (some (a8 0))) 1 (some (a11 0))) 2 (some (a14 0))))))))]) ++ (wOr T a5)) ++ (wCal T a8 z0 zz)) ++ (wCal T a11 z0 zz)) ++ (wCal T a14 z0 zz)) := hD
        refine lv_iinc (v := (nI 3)) (lv' := [(1, .int (nI 3)), (0, .ref h)]) hx hb dX5_init_63 hl (k := 0) rfl (nI_inc 2) (by decide) rfl (fun ls hl => ?_)
        refine lv_goto (tgt := 41) hx hb dX5_init_66 (by decide) ?_
        refine lv_iload_n hx hb dX5_init_41 rfl (lv_at hl 0 rfl) ?_
        refine lv_aload_n hx hb dX5_init_42 rfl (lv_at hl 1 rfl) ?_
        refine va_get (D := G) (ci := 5) (C := RX5) (T := TX5) (N := 4) hx hb hts iX5 hown hkx.1 hP 0 rfl rfl 1 (by decide) k16 (fun _ h9 => h9) rfl dX5_init_43 ?_
        refine aln hx hb hkx hP 20 2 rfl rfl dX5_init_46 ?_
        refine lv_icmp_ge (tgt := 69) hx hb dX5_init_47 (by decide) (fun c_16 => ?_) (fun c_16 => ?_)
        · replace c_16 := cn_le (a := 4) (b := 3) (by omega) (by omega) c_16
          exact absurd c_16 (by decide)
        · replace c_16 := cn_nle (a := 4) (b := 3) (by omega) (by omega) c_16
          refine lv_aload_n hx hb dX5_init_50 rfl (lv_at hl 1 rfl) ?_
          refine va_get (D := G) (ci := 5) (C := RX5) (T := TX5) (N := 4) hx hb hts iX5 hown hkx.1 hP 0 rfl rfl 1 (by decide) k16 (fun _ h9 => h9) rfl dX5_init_51 ?_
          refine lv_iload_n hx hb dX5_init_54 rfl (lv_at hl 0 rfl) ?_
          refine va_new (ci := 0) (fs := [.null, .int 0, .null, .null]) (C := RX0) (T := TX0) (N := 4) hx hb hts iX0 tyX0 tyX0_ok hown (hts (.classLink RX5 9 RX0) (by decide +kernel)) (hts (.instantiable RX0 4) (by decide +kernel)) (hts (.initialized RX0) (by decide +kernel)) hkx.1 hP hD hS hA rfl (fun j hj => by rcases (show j = 0 ∨ j = 1 ∨ j = 2 ∨ j = 3 by omega) with rfl | rfl | rfl | rfl <;> rfl) (Nat.le_of_ble_eq_true rfl) (Nat.le_of_ble_eq_true rfl) dX5_init_55 (fun n16 H hP hD hS => ?_)
          have hP : va_P G vwCl ((((((([(h, .inr (5, [.ref (a2 0), .ref n3, .int 0, .ref (a5 2)]))] ++ (wCal T a2 z0 zz)) ++ [(n3, .inl (T 2, 4, .inr (.inr (.inr (.inr (va_up (va_up (va_up (fun _ => none) 0 (some (a8 0))) 1 (some (a11 0))) 2 (some (a14 0))))))))]) ++ (wOr T a5)) ++ (wCal T a8 z0 zz)) ++ (wCal T a11 z0 zz)) ++ (wCal T a14 z0 zz)) ++ [(n16, .inr (0, [.null, .int 0, .null, .null]))]) H := hP
          have hD : va_D A ((((((([(h, .inr (5, [.ref (a2 0), .ref n3, .int 0, .ref (a5 2)]))] ++ (wCal T a2 z0 zz)) ++ [(n3, .inl (T 2, 4, .inr (.inr (.inr (.inr (va_up (va_up (va_up (fun _ => none) 0 (some (a8 0))) 1 (some (a11 0))) 2 (some (a14 0))))))))]) ++ (wOr T a5)) ++ (wCal T a8 z0 zz)) ++ (wCal T a11 z0 zz)) ++ (wCal T a14 z0 zz)) ++ [(n16, .inr (0, [.null, .int 0, .null, .null]))]) := hD
          refine lv_dup hx hb dX5_init_58 rfl ?_
          refine mk_IN S hkx stb_T trivial (mX0_init l (h := n16) (hP := P_tl hP) (hD := (D_tl hD).weaken (fun _ _ _ _ => trivial))) ggX5_init_X0_init rfl hkx.2.2.2.2.2.2.2.2.1 (hts (.initialized RX0) (by decide +kernel)) (hts (.instanceMethod yX0_init) (by decide +kernel)) rfl idX0_init.2 ⟨(Nat.le_of_ble_eq_true rfl), (Nat.le_of_ble_eq_true rfl)⟩ hl.1 rfl (Nat.le_of_ble_eq_true rfl) dX5_init_59 ⟨(Nat.le_of_ble_eq_true rfl), (Nat.le_of_ble_eq_true rfl)⟩ hP hD hS hA (fun w1 H locs hsh hP hD hS => ?_)
          obtain ⟨a17, rfl, rfl⟩ := hsh
          have hP : va_P G vwCl ((((((([(h, .inr (5, [.ref (a2 0), .ref n3, .int 0, .ref (a5 2)]))] ++ (wCal T a2 z0 zz)) ++ [(n3, .inl (T 2, 4, .inr (.inr (.inr (.inr (va_up (va_up (va_up (fun _ => none) 0 (some (a8 0))) 1 (some (a11 0))) 2 (some (a14 0))))))))]) ++ (wOr T a5)) ++ (wCal T a8 z0 zz)) ++ (wCal T a11 z0 zz)) ++ (wCal T a14 z0 zz)) ++ (wCal T a17 z0 zz)) H := hP
          have hD : va_D A ((((((([(h, .inr (5, [.ref (a2 0), .ref n3, .int 0, .ref (a5 2)]))] ++ (wCal T a2 z0 zz)) ++ [(n3, .inl (T 2, 4, .inr (.inr (.inr (.inr (va_up (va_up (va_up (fun _ => none) 0 (some (a8 0))) 1 (some (a11 0))) 2 (some (a14 0))))))))]) ++ (wOr T a5)) ++ (wCal T a8 z0 zz)) ++ (wCal T a11 z0 zz)) ++ (wCal T a14 z0 zz)) ++ (wCal T a17 z0 zz)) := hD
          refine W.eq (g2 := F0 m 62 ls [.ref (a17 0), .int (nI 3), .ref n3]) rfl ?_
          refine aqs hx hb hkx hP hD hS 20 81 rfl rfl 3 rfl (by omega) (by decide) dX5_init_62 (fun H locs hP hD hS => ?_)
          have hP : va_P G vwCl ((((((([(h, .inr (5, [.ref (a2 0), .ref n3, .int 0, .ref (a5 2)]))] ++ (wCal T a2 z0 zz)) ++ [(n3, .inl (T 2, 4, .inr (.inr (.inr (.inr (va_up (va_up (va_up (va_up (fun _ => none) 0 (some (a8 0))) 1 (some (a11 0))) 2 (some (a14 0))) 3 (some (a17 0))))))))]) ++ (wOr T a5)) ++ (wCal T a8 z0 zz)) ++ (wCal T a11 z0 zz)) ++ (wCal T a14 z0 zz)) ++ (wCal T a17 z0 zz)) H := hP
          have hD : va_D A ((((((([(h, .inr (5, [.ref (a2 0), .ref n3, .int 0, .ref (a5 2)]))] ++ (wCal T a2 z0 zz)) ++ [(n3, .inl (T 2, 4, .inr (.inr (.inr (.inr (va_up (va_up (va_up (va_up (fun _ => none) 0 (some (a8 0))) 1 (some (a11 0))) 2 (some (a14 0))) 3 (some (a17 0))))))))]) ++ (wOr T a5)) ++ (wCal T a8 z0 zz)) ++ (wCal T a11 z0 zz)) ++ (wCal T a14 z0 zz)) ++ (wCal T a17 z0 zz)) := hD
          refine lv_iinc (v := (nI 4)) (lv' := [(1, .int (nI 4)), (0, .ref h)]) hx hb dX5_init_63 hl (k := 0) rfl (nI_inc 3) (by decide) rfl (fun ls hl => ?_)
          refine lv_goto (tgt := 41) hx hb dX5_init_66 (by decide) ?_
          refine lv_iload_n hx hb dX5_init_41 rfl (lv_at hl 0 rfl) ?_
          refine lv_aload_n hx hb dX5_init_42 rfl (lv_at hl 1 rfl) ?_
          refine va_get (D := G) (ci := 5) (C := RX5) (T := TX5) (N := 4) hx hb hts iX5 hown hkx.1 hP 0 rfl rfl 1 (by decide) k16 (fun _ h9 => h9) rfl dX5_init_43 ?_
          refine aln hx hb hkx hP 20 2 rfl rfl dX5_init_46 ?_
          refine lv_icmp_ge (tgt := 69) hx hb dX5_init_47 (by decide) (fun c_19 => ?_) (fun c_19 => ?_)
          · replace c_19 := cn_le (a := 4) (b := 4) (by omega) (by omega) c_19
            have hP := P_perm hP main_perm
            have hD := D_perm' hD main_perm
            have hP := P_rowq hP 1 (g := fun i => some ((fun i => [a8, a11, a14, a17].getD i a8) i 0)) rfl (by
              intro k hk
              rcases (show k = 0 ∨ k = 1 ∨ k = 2 ∨ k = 3 by omega) with rfl | rfl | rfl | rfl <;> rfl)
            have hP : va_P G vwCl (wMain T (fun i => [h, n3, a5 2, a5 3, a5 4].getD i 0) a2 z0 zz (fun i => [a8, a11, a14, a17].getD i a8) (fun _ => z0) (fun _ => zz) 0 (fun _ => 0) 0 0 (-1) 0 (fun _ => 0) 0) H := hP
            have hD : va_D A (wMain T (fun i => [h, n3, a5 2, a5 3, a5 4].getD i 0) a2 z0 zz (fun i => [a8, a11, a14, a17].getD i a8) (fun _ => z0) (fun _ => zz) 0 (fun _ => 0) 0 0 (-1) 0 (fun _ => 0) 0) := D_perm hD (List.Perm.refl _)
            exact hret (wMain T (fun i => [h, n3, a5 2, a5 3, a5 4].getD i 0) a2 z0 zz (fun i => [a8, a11, a14, a17].getD i a8) (fun _ => z0) (fun _ => zz) 0 (fun _ => 0) 0 0 (-1) 0 (fun _ => 0) 0) _ _ _ _ ⟨(fun i => [h, n3, a5 2, a5 3, a5 4].getD i 0), a2, (fun i => [a8, a11, a14, a17].getD i a8), rfl, rfl⟩ hP hD hS dX5_init_69
          · replace c_19 := cn_nle (a := 4) (b := 4) (by omega) (by omega) c_19
            exact absurd c_19 (by decide)
