theorem idX4_addRow : yX4_addRow.cls = RX4 ∧ yX4_addRow.cls ≠ "java/lang/invoke/MethodHandle" ∧ yX4_addRow.cls ≠ "java/lang/invoke/VarHandle" ∧ (parseMethodDescriptor yX4_addRow.desc).map (fun d => d.parameters.length) = some 2 := by decide +kernel

set_option maxHeartbeats 4000000 in
set_option maxRecDepth 100000 in
theorem mX4_addRow (l : Launch) {G : va_G} {T : Nat → ClassId} {H0 : Heap} {a : Nat → Nat} {N : Nat → Nat} {Z : Nat → Nat → Int32} {x : Int32} {z : Int32} (hP : va_P G vwCl (wCal T a N Z) H0) (hD : va_D (fun _ => True) (wCal T a N Z)) (hs : N 0 < 8) : mu l yX4_addRow wsX4_addRow 0 0 [.ref (a 1), .int x, .int z] G T H0 (wCal T a N Z) (fun v9 H9 => v9 = some (.int (nI (N 0))) ∧ va_P G vwCl (wCal T a (va_up N 0 (N 0 + 1)) (vAdd N Z x z)) H9) := by
  refine mu_ofi (cc := cX4_addRow) (maxL := 4) (ret := .int) (own := RX4) (by decide +kernel) rfl rfl (Nat.le_of_ble_eq_true rfl) hD ?_
  intro p e s m below meth c Q ls A S hkx hl hD hS hA hret
  obtain ⟨hx, hb, hml, hown, hts⟩ := id S
  have hl : lv_has ls 4 [(0, .ref (a 1)), (1, .int x), (2, .int z)] := hl
  have k9 := hts (.fieldLink RX4 9 "SunsetDates$Versions" "count" "I") (by decide +kernel)
  have iX4 : ∀ w ∈ wsX40, w ∈ wsX4_addRow := by decide +kernel
  have k15 := hts (.fieldLink RX4 15 "SunsetDates$Versions" "release" "[I") (by decide +kernel)
  have k19 := hts (.fieldLink RX4 19 "SunsetDates$Versions" "end" "[I") (by decide +kernel)
  have k22 := hts (.fieldLink RX4 22 "SunsetDates$Versions" "extended" "[I") (by decide +kernel)
  have k25 := hts (.fieldLink RX4 25 "SunsetDates$Versions" "features" "[I") (by decide +kernel)
  refine lv_aload_n hx hb dX4_addRow_0 rfl (lv_at hl 0 rfl) ?_
  refine va_get (D := G) (ci := 4) (C := RX4) (T := TX4) (N := 5) hx hb hts iX4 hown hkx.1 hP 1 rfl rfl 0 (by decide) k9 (fun _ h9 => h9) rfl dX4_addRow_1 ?_
  refine lv_istore_n (lv' := [(3, .int (nI (N 0))), (0, .ref (a 1)), (1, .int x), (2, .int z)]) hx hb dX4_addRow_4 rfl hl (by decide) rfl (fun ls hl => ?_)
  refine lv_aload_n hx hb dX4_addRow_5 rfl (lv_at hl 1 rfl) ?_
  refine va_get (D := G) (ci := 4) (C := RX4) (T := TX4) (N := 5) hx hb hts iX4 hown hkx.1 hP 1 rfl rfl 1 (by decide) k15 (fun _ h9 => h9) rfl dX4_addRow_6 ?_
  refine lv_iload_n hx hb dX4_addRow_9 rfl (lv_at hl 0 rfl) ?_
  refine lv_iload_n hx hb dX4_addRow_10 rfl (lv_at hl 2 rfl) ?_
  refine ist hx hb hkx hP hD hS 2 rfl (N 0) rfl (by omega) (by decide) dX4_addRow_11 (fun H locs hP hD hS => ?_)
  have hP : va_P G vwCl (wCal T a N (va_up Z 1 (upd (Z 1) (N 0) x))) H := hP
  have hD : va_D A (wCal T a N (va_up Z 1 (upd (Z 1) (N 0) x))) := hD
  refine lv_aload_n hx hb dX4_addRow_12 rfl (lv_at hl 1 rfl) ?_
  refine va_get (D := G) (ci := 4) (C := RX4) (T := TX4) (N := 5) hx hb hts iX4 hown hkx.1 hP 1 rfl rfl 2 (by decide) k19 (fun _ h9 => h9) rfl dX4_addRow_13 ?_
  refine lv_iload_n hx hb dX4_addRow_16 rfl (lv_at hl 0 rfl) ?_
  refine lv_iload_n hx hb dX4_addRow_17 rfl (lv_at hl 3 rfl) ?_
  refine ist hx hb hkx hP hD hS 3 rfl (N 0) rfl (by omega) (by decide) dX4_addRow_18 (fun H locs hP hD hS => ?_)
  have hP : va_P G vwCl (wCal T a N (va_up (va_up Z 1 (upd (Z 1) (N 0) x)) 2 (upd (Z 2) (N 0) z))) H := hP
  have hD : va_D A (wCal T a N (va_up (va_up Z 1 (upd (Z 1) (N 0) x)) 2 (upd (Z 2) (N 0) z))) := hD
  refine lv_aload_n hx hb dX4_addRow_19 rfl (lv_at hl 1 rfl) ?_
  refine va_get (D := G) (ci := 4) (C := RX4) (T := TX4) (N := 5) hx hb hts iX4 hown hkx.1 hP 1 rfl rfl 3 (by decide) k22 (fun _ h9 => h9) rfl dX4_addRow_20 ?_
  refine lv_iload_n hx hb dX4_addRow_23 rfl (lv_at hl 0 rfl) ?_
  refine lv_iconst (v := 0) hx hb dX4_addRow_24 (by decide) ?_
  refine ist hx hb hkx hP hD hS 4 rfl (N 0) rfl (by omega) (by decide) dX4_addRow_25 (fun H locs hP hD hS => ?_)
  have hP : va_P G vwCl (wCal T a N (va_up (va_up (va_up Z 1 (upd (Z 1) (N 0) x)) 2 (upd (Z 2) (N 0) z)) 3 (upd (Z 3) (N 0) 0))) H := hP
  have hD : va_D A (wCal T a N (va_up (va_up (va_up Z 1 (upd (Z 1) (N 0) x)) 2 (upd (Z 2) (N 0) z)) 3 (upd (Z 3) (N 0) 0))) := hD
  refine lv_aload_n hx hb dX4_addRow_26 rfl (lv_at hl 1 rfl) ?_
  refine va_get (D := G) (ci := 4) (C := RX4) (T := TX4) (N := 5) hx hb hts iX4 hown hkx.1 hP 1 rfl rfl 4 (by decide) k25 (fun _ h9 => h9) rfl dX4_addRow_27 ?_
  refine lv_iload_n hx hb dX4_addRow_30 rfl (lv_at hl 0 rfl) ?_
  refine lv_iconst (v := 0) hx hb dX4_addRow_31 (by decide) ?_
  refine ist hx hb hkx hP hD hS 5 rfl (N 0) rfl (by omega) (by decide) dX4_addRow_32 (fun H locs hP hD hS => ?_)
  have hP : va_P G vwCl (wCal T a N (va_up (va_up (va_up (va_up Z 1 (upd (Z 1) (N 0) x)) 2 (upd (Z 2) (N 0) z)) 3 (upd (Z 3) (N 0) 0)) 4 (upd (Z 4) (N 0) 0))) H := hP
  have hD : va_D A (wCal T a N (va_up (va_up (va_up (va_up Z 1 (upd (Z 1) (N 0) x)) 2 (upd (Z 2) (N 0) z)) 3 (upd (Z 3) (N 0) 0)) 4 (upd (Z 4) (N 0) 0))) := hD
  refine lv_aload_n hx hb dX4_addRow_33 rfl (lv_at hl 1 rfl) ?_
  refine lv_dup hx hb dX4_addRow_34 rfl ?_
  refine va_get (D := G) (ci := 4) (C := RX4) (T := TX4) (N := 5) hx hb hts iX4 hown hkx.1 hP 1 rfl rfl 0 (by decide) k9 (fun _ h9 => h9) rfl dX4_addRow_35 ?_
  refine lv_iconst (v := 1) hx hb dX4_addRow_38 (by decide) ?_
  refine lv_iadd hx hb dX4_addRow_39 ?_
  rw [show ((nI (N 0)) + 1) = (nI ((N 0) + 1)) from nI_add (N 0) 1]
  refine va_put (D := G) (ci := 4) (v := .int (nI ((N 0) + 1))) (ty := .int) (C := RX4) (T := TX4) (N := 5) hx hb hts iX4 tyX4 tyX4_ok nmX4 hown hkx.1 hP hD hS 1 rfl rfl 0 (by decide) k9 (fun _ h9 => h9) rfl (by decide +kernel) rfl rfl (Nat.le_of_ble_eq_true rfl) dX4_addRow_40 (fun H locs hP hD hS => ?_)
  have hP : va_P G vwCl (wCal T a (va_up N 0 ((N 0) + 1)) (va_up (va_up (va_up (va_up Z 1 (upd (Z 1) (N 0) x)) 2 (upd (Z 2) (N 0) z)) 3 (upd (Z 3) (N 0) 0)) 4 (upd (Z 4) (N 0) 0))) H := hP
  have hD : va_D A (wCal T a (va_up N 0 ((N 0) + 1)) (va_up (va_up (va_up (va_up Z 1 (upd (Z 1) (N 0) x)) 2 (upd (Z 2) (N 0) z)) 3 (upd (Z 3) (N 0) 0)) 4 (upd (Z 4) (N 0) 0))) := hD
  refine lv_iload_n hx hb dX4_addRow_43 rfl (lv_at hl 0 rfl) ?_
  exact hret _ _ _ _ _ (show some (Value.int (nI (N 0))) = some (Value.int (nI (N 0))) ∧ va_P G vwCl (wCal T a (va_up N 0 (N 0 + 1)) (vAdd N Z x z)) H from ⟨rfl, hP⟩) rfl hS dX4_addRow_44

theorem idX4_moveEnd : yX4_moveEnd.cls = RX4 ∧ yX4_moveEnd.cls ≠ "java/lang/invoke/MethodHandle" ∧ yX4_moveEnd.cls ≠ "java/lang/invoke/VarHandle" ∧ (parseMethodDescriptor yX4_moveEnd.desc).map (fun d => d.parameters.length) = some 2 := by decide +kernel

set_option maxHeartbeats 4000000 in
set_option maxRecDepth 100000 in
theorem mX4_moveEnd (l : Launch) {G : va_G} {T : Nat → ClassId} {H0 : Heap} {a : Nat → Nat} {N : Nat → Nat} {Z : Nat → Nat → Int32} {v : Nat} {t : Int32} (hP : va_P G vwCl (wCal T a N Z) H0) (hD : va_D (fun _ => True) (wCal T a N Z)) (hv : v < 8) : mu l yX4_moveEnd wsX4_moveEnd 0 0 [.ref (a 1), .int (nI v), .int t] G T H0 (wCal T a N Z) (fun v9 H9 => v9 = none ∧ va_P G vwCl (wCal T a N (vExt Z v t)) H9) := by
  refine mu_ofv (cc := cX4_moveEnd) (maxL := 3) (own := RX4) (by decide +kernel) rfl rfl (Nat.le_of_ble_eq_true rfl) hD ?_
  intro p e s m below meth c Q ls A S hkx hl hD hS hA hret
  obtain ⟨hx, hb, hml, hown, hts⟩ := id S
  have hl : lv_has ls 3 [(0, .ref (a 1)), (1, .int (nI v)), (2, .int t)] := hl
  have k19 := hts (.fieldLink RX4 19 "SunsetDates$Versions" "end" "[I") (by decide +kernel)
  have iX4 : ∀ w ∈ wsX40, w ∈ wsX4_moveEnd := by decide +kernel
  have k22 := hts (.fieldLink RX4 22 "SunsetDates$Versions" "extended" "[I") (by decide +kernel)
  refine lv_aload_n hx hb dX4_moveEnd_0 rfl (lv_at hl 0 rfl) ?_
  refine va_get (D := G) (ci := 4) (C := RX4) (T := TX4) (N := 5) hx hb hts iX4 hown hkx.1 hP 1 rfl rfl 2 (by decide) k19 (fun _ h9 => h9) rfl dX4_moveEnd_1 ?_
  refine lv_iload_n hx hb dX4_moveEnd_4 rfl (lv_at hl 1 rfl) ?_
  refine lv_dup2_11 hx hb dX4_moveEnd_5 rfl rfl ?_
  refine ia hx hb hkx hP 3 rfl v rfl (by omega) (by decide) dX4_moveEnd_6 ?_
  refine lv_iload_n hx hb dX4_moveEnd_7 rfl (lv_at hl 2 rfl) ?_
  refine lv_iadd hx hb dX4_moveEnd_8 ?_
  refine ist hx hb hkx hP hD hS 3 rfl v rfl (by omega) (by decide) dX4_moveEnd_9 (fun H locs hP hD hS => ?_)
  have hP : va_P G vwCl (wCal T a N (va_up Z 2 (upd (Z 2) v (((Z 2) v) + t)))) H := hP
  have hD : va_D A (wCal T a N (va_up Z 2 (upd (Z 2) v (((Z 2) v) + t)))) := hD
  refine lv_aload_n hx hb dX4_moveEnd_10 rfl (lv_at hl 0 rfl) ?_
  refine va_get (D := G) (ci := 4) (C := RX4) (T := TX4) (N := 5) hx hb hts iX4 hown hkx.1 hP 1 rfl rfl 3 (by decide) k22 (fun _ h9 => h9) rfl dX4_moveEnd_11 ?_
  refine lv_iload_n hx hb dX4_moveEnd_14 rfl (lv_at hl 1 rfl) ?_
  refine lv_dup2_11 hx hb dX4_moveEnd_15 rfl rfl ?_
  refine ia hx hb hkx hP 4 rfl v rfl (by omega) (by decide) dX4_moveEnd_16 ?_
  refine lv_iload_n hx hb dX4_moveEnd_17 rfl (lv_at hl 2 rfl) ?_
  refine lv_iadd hx hb dX4_moveEnd_18 ?_
  refine ist hx hb hkx hP hD hS 4 rfl v rfl (by omega) (by decide) dX4_moveEnd_19 (fun H locs hP hD hS => ?_)
  have hP : va_P G vwCl (wCal T a N (va_up (va_up Z 2 (upd (Z 2) v (((Z 2) v) + t))) 3 (upd (Z 3) v (((Z 3) v) + t)))) H := hP
  have hD : va_D A (wCal T a N (va_up (va_up Z 2 (upd (Z 2) v (((Z 2) v) + t))) 3 (upd (Z 3) v (((Z 3) v) + t)))) := hD
  exact hret _ _ _ _ (show (none : Option Value) = none ∧ va_P G vwCl (wCal T a N (vExt Z v t)) H from ⟨rfl, hP⟩) hS dX4_moveEnd_20

theorem idX3_setPledge : yX3_setPledge.cls = RX3 ∧ yX3_setPledge.cls ≠ "java/lang/invoke/MethodHandle" ∧ yX3_setPledge.cls ≠ "java/lang/invoke/VarHandle" ∧ (parseMethodDescriptor yX3_setPledge.desc).map (fun d => d.parameters.length) = some 3 := by decide +kernel

set_option maxHeartbeats 4000000 in
set_option maxRecDepth 100000 in
theorem mX3_setPledge (l : Launch) {G : va_G} {T : Nat → ClassId} {H0 : Heap} {a : Nat → Nat} {N : Nat → Nat} {Z : Nat → Nat → Int32} {u : Nat} {v : Int32} {d : Int32} (hP : va_P G vwCl (wCal T a N Z) H0) (hD : va_D (fun _ => True) (wCal T a N Z)) (hu : u < 10) : mu l yX3_setPledge wsX3_setPledge 0 0 [.ref (a 6), .int (nI u), .int v, .int d] G T H0 (wCal T a N Z) (fun v9 H9 => v9 = none ∧ va_P G vwCl (wCal T a N (uPl Z u v d)) H9) := by
  refine mu_ofv (cc := cX3_setPledge) (maxL := 4) (own := RX3) (by decide +kernel) rfl rfl (Nat.le_of_ble_eq_true rfl) hD ?_
  intro p e s m below meth c Q ls A S hkx hl hD hS hA hret
  obtain ⟨hx, hb, hml, hown, hts⟩ := id S
  have hl : lv_has ls 4 [(0, .ref (a 6)), (1, .int (nI u)), (2, .int v), (3, .int d)] := hl
  have k22 := hts (.fieldLink RX3 22 "SunsetDates$Users" "pledgeVersion" "[I") (by decide +kernel)
  have iX3 : ∀ w ∈ wsX30, w ∈ wsX3_setPledge := by decide +kernel
  have k25 := hts (.fieldLink RX3 25 "SunsetDates$Users" "pledgeDay" "[I") (by decide +kernel)
  refine lv_aload_n hx hb dX3_setPledge_0 rfl (lv_at hl 0 rfl) ?_
  refine va_get (D := G) (ci := 3) (C := RX3) (T := TX3) (N := 7) hx hb hts iX3 hown hkx.1 hP 6 rfl rfl 3 (by decide) k22 (fun _ h9 => h9) rfl dX3_setPledge_1 ?_
  refine lv_iload_n hx hb dX3_setPledge_4 rfl (lv_at hl 1 rfl) ?_
  refine lv_iload_n hx hb dX3_setPledge_5 rfl (lv_at hl 2 rfl) ?_
  refine ist hx hb hkx hP hD hS 9 rfl u rfl (by omega) (by decide) dX3_setPledge_6 (fun H locs hP hD hS => ?_)
  have hP : va_P G vwCl (wCal T a N (va_up Z 7 (upd (Z 7) u v))) H := hP
  have hD : va_D A (wCal T a N (va_up Z 7 (upd (Z 7) u v))) := hD
  refine lv_aload_n hx hb dX3_setPledge_7 rfl (lv_at hl 0 rfl) ?_
  refine va_get (D := G) (ci := 3) (C := RX3) (T := TX3) (N := 7) hx hb hts iX3 hown hkx.1 hP 6 rfl rfl 4 (by decide) k25 (fun _ h9 => h9) rfl dX3_setPledge_8 ?_
  refine lv_iload_n hx hb dX3_setPledge_11 rfl (lv_at hl 1 rfl) ?_
  refine lv_iload_n hx hb dX3_setPledge_12 rfl (lv_at hl 3 rfl) ?_
  refine ist hx hb hkx hP hD hS 10 rfl u rfl (by omega) (by decide) dX3_setPledge_13 (fun H locs hP hD hS => ?_)
  have hP : va_P G vwCl (wCal T a N (va_up (va_up Z 7 (upd (Z 7) u v)) 8 (upd (Z 8) u d))) H := hP
  have hD : va_D A (wCal T a N (va_up (va_up Z 7 (upd (Z 7) u v)) 8 (upd (Z 8) u d))) := hD
  exact hret _ _ _ _ (show (none : Option Value) = none ∧ va_P G vwCl (wCal T a N (uPl Z u v d)) H from ⟨rfl, hP⟩) hS dX3_setPledge_14

theorem idX3_letSlip : yX3_letSlip.cls = RX3 ∧ yX3_letSlip.cls ≠ "java/lang/invoke/MethodHandle" ∧ yX3_letSlip.cls ≠ "java/lang/invoke/VarHandle" ∧ (parseMethodDescriptor yX3_letSlip.desc).map (fun d => d.parameters.length) = some 2 := by decide +kernel

set_option maxHeartbeats 4000000 in
set_option maxRecDepth 100000 in
theorem mX3_letSlip (l : Launch) {G : va_G} {T : Nat → ClassId} {H0 : Heap} {a : Nat → Nat} {N : Nat → Nat} {Z : Nat → Nat → Int32} {u : Nat} {t : Int32} (hP : va_P G vwCl (wCal T a N Z) H0) (hD : va_D (fun _ => True) (wCal T a N Z)) (hu : u < 10) : mu l yX3_letSlip wsX3_letSlip 0 0 [.ref (a 6), .int (nI u), .int t] G T H0 (wCal T a N Z) (fun v9 H9 => v9 = none ∧ va_P G vwCl (wCal T a N (uSl Z u t)) H9) := by
  refine mu_ofv (cc := cX3_letSlip) (maxL := 3) (own := RX3) (by decide +kernel) rfl rfl (Nat.le_of_ble_eq_true rfl) hD ?_
  intro p e s m below meth c Q ls A S hkx hl hD hS hA hret
  obtain ⟨hx, hb, hml, hown, hts⟩ := id S
  have hl : lv_has ls 3 [(0, .ref (a 6)), (1, .int (nI u)), (2, .int t)] := hl
  have k25 := hts (.fieldLink RX3 25 "SunsetDates$Users" "pledgeDay" "[I") (by decide +kernel)
  have iX3 : ∀ w ∈ wsX30, w ∈ wsX3_letSlip := by decide +kernel
  have k28 := hts (.fieldLink RX3 28 "SunsetDates$Users" "slips" "[I") (by decide +kernel)
  have k31 := hts (.fieldLink RX3 31 "SunsetDates$Users" "slipDays" "[I") (by decide +kernel)
  refine lv_aload_n hx hb dX3_letSlip_0 rfl (lv_at hl 0 rfl) ?_
  refine va_get (D := G) (ci := 3) (C := RX3) (T := TX3) (N := 7) hx hb hts iX3 hown hkx.1 hP 6 rfl rfl 4 (by decide) k25 (fun _ h9 => h9) rfl dX3_letSlip_1 ?_
  refine lv_iload_n hx hb dX3_letSlip_4 rfl (lv_at hl 1 rfl) ?_
  refine lv_dup2_11 hx hb dX3_letSlip_5 rfl rfl ?_
  refine ia hx hb hkx hP 10 rfl u rfl (by omega) (by decide) dX3_letSlip_6 ?_
  refine lv_iload_n hx hb dX3_letSlip_7 rfl (lv_at hl 2 rfl) ?_
  refine lv_iadd hx hb dX3_letSlip_8 ?_
  refine ist hx hb hkx hP hD hS 10 rfl u rfl (by omega) (by decide) dX3_letSlip_9 (fun H locs hP hD hS => ?_)
  have hP : va_P G vwCl (wCal T a N (va_up Z 8 (upd (Z 8) u (((Z 8) u) + t)))) H := hP
  have hD : va_D A (wCal T a N (va_up Z 8 (upd (Z 8) u (((Z 8) u) + t)))) := hD
  refine lv_aload_n hx hb dX3_letSlip_10 rfl (lv_at hl 0 rfl) ?_
  refine va_get (D := G) (ci := 3) (C := RX3) (T := TX3) (N := 7) hx hb hts iX3 hown hkx.1 hP 6 rfl rfl 5 (by decide) k28 (fun _ h9 => h9) rfl dX3_letSlip_11 ?_
  refine lv_iload_n hx hb dX3_letSlip_14 rfl (lv_at hl 1 rfl) ?_
  refine lv_dup2_11 hx hb dX3_letSlip_15 rfl rfl ?_
  refine ia hx hb hkx hP 11 rfl u rfl (by omega) (by decide) dX3_letSlip_16 ?_
  refine lv_iconst (v := 1) hx hb dX3_letSlip_17 (by decide) ?_
  refine lv_iadd hx hb dX3_letSlip_18 ?_
  refine ist hx hb hkx hP hD hS 11 rfl u rfl (by omega) (by decide) dX3_letSlip_19 (fun H locs hP hD hS => ?_)
  have hP : va_P G vwCl (wCal T a N (va_up (va_up Z 8 (upd (Z 8) u (((Z 8) u) + t))) 9 (upd (Z 9) u (((Z 9) u) + 1)))) H := hP
  have hD : va_D A (wCal T a N (va_up (va_up Z 8 (upd (Z 8) u (((Z 8) u) + t))) 9 (upd (Z 9) u (((Z 9) u) + 1)))) := hD
  refine lv_aload_n hx hb dX3_letSlip_20 rfl (lv_at hl 0 rfl) ?_
  refine va_get (D := G) (ci := 3) (C := RX3) (T := TX3) (N := 7) hx hb hts iX3 hown hkx.1 hP 6 rfl rfl 6 (by decide) k31 (fun _ h9 => h9) rfl dX3_letSlip_21 ?_
  refine lv_iload_n hx hb dX3_letSlip_24 rfl (lv_at hl 1 rfl) ?_
  refine lv_dup2_11 hx hb dX3_letSlip_25 rfl rfl ?_
  refine ia hx hb hkx hP 12 rfl u rfl (by omega) (by decide) dX3_letSlip_26 ?_
  refine lv_iload_n hx hb dX3_letSlip_27 rfl (lv_at hl 2 rfl) ?_
  refine lv_iadd hx hb dX3_letSlip_28 ?_
  refine ist hx hb hkx hP hD hS 12 rfl u rfl (by omega) (by decide) dX3_letSlip_29 (fun H locs hP hD hS => ?_)
  have hP : va_P G vwCl (wCal T a N (va_up (va_up (va_up Z 8 (upd (Z 8) u (((Z 8) u) + t))) 9 (upd (Z 9) u (((Z 9) u) + 1))) 10 (upd (Z 10) u (((Z 10) u) + t)))) H := hP
  have hD : va_D A (wCal T a N (va_up (va_up (va_up Z 8 (upd (Z 8) u (((Z 8) u) + t))) 9 (upd (Z 9) u (((Z 9) u) + 1))) 10 (upd (Z 10) u (((Z 10) u) + t)))) := hD
  exact hret _ _ _ _ (show (none : Option Value) = none ∧ va_P G vwCl (wCal T a N (uSl Z u t)) H from ⟨rfl, hP⟩) hS dX3_letSlip_30

theorem idX3_addRow : yX3_addRow.cls = RX3 ∧ yX3_addRow.cls ≠ "java/lang/invoke/MethodHandle" ∧ yX3_addRow.cls ≠ "java/lang/invoke/VarHandle" ∧ (parseMethodDescriptor yX3_addRow.desc).map (fun d => d.parameters.length) = some 2 := by decide +kernel

set_option maxHeartbeats 4000000 in
set_option maxRecDepth 100000 in
theorem mX3_addRow (l : Launch) {G : va_G} {T : Nat → ClassId} {H0 : Heap} {a : Nat → Nat} {N : Nat → Nat} {Z : Nat → Nat → Int32} {v : Int32} {x : Int32} (hP : va_P G vwCl (wCal T a N Z) H0) (hD : va_D (fun _ => True) (wCal T a N Z)) (hs : N 2 < 10) : mu l yX3_addRow wsX3_addRow 1 23 [.ref (a 6), .int v, .int x] G T H0 (wCal T a N Z) (fun v9 H9 => v9 = some (.int (nI (N 2))) ∧ va_P G vwCl (wCal T a (va_up N 2 (N 2 + 1)) (uAdd N Z v x)) H9) := by
  refine mu_ofi (cc := cX3_addRow) (maxL := 4) (ret := .int) (own := RX3) (by decide +kernel) rfl rfl (Nat.le_of_ble_eq_true rfl) hD ?_
  intro p e s m below meth c Q ls A S hkx hl hD hS hA hret
  obtain ⟨hx, hb, hml, hown, hts⟩ := id S
  have hl : lv_has ls 4 [(0, .ref (a 6)), (1, .int v), (2, .int x)] := hl
  have k9 := hts (.fieldLink RX3 9 "SunsetDates$Users" "count" "I") (by decide +kernel)
  have iX3 : ∀ w ∈ wsX30, w ∈ wsX3_addRow := by decide +kernel
  have k15 := hts (.fieldLink RX3 15 "SunsetDates$Users" "first" "[I") (by decide +kernel)
  have k19 := hts (.fieldLink RX3 19 "SunsetDates$Users" "uses" "[I") (by decide +kernel)
  have k28 := hts (.fieldLink RX3 28 "SunsetDates$Users" "slips" "[I") (by decide +kernel)
  have k31 := hts (.fieldLink RX3 31 "SunsetDates$Users" "slipDays" "[I") (by decide +kernel)
  refine lv_aload_n hx hb dX3_addRow_0 rfl (lv_at hl 0 rfl) ?_
  refine va_get (D := G) (ci := 3) (C := RX3) (T := TX3) (N := 7) hx hb hts iX3 hown hkx.1 hP 6 rfl rfl 0 (by decide) k9 (fun _ h9 => h9) rfl dX3_addRow_1 ?_
  refine lv_istore_n (lv' := [(3, .int (nI (N 2))), (0, .ref (a 6)), (1, .int v), (2, .int x)]) hx hb dX3_addRow_4 rfl hl (by decide) rfl (fun ls hl => ?_)
  refine lv_aload_n hx hb dX3_addRow_5 rfl (lv_at hl 1 rfl) ?_
  refine va_get (D := G) (ci := 3) (C := RX3) (T := TX3) (N := 7) hx hb hts iX3 hown hkx.1 hP 6 rfl rfl 1 (by decide) k15 (fun _ h9 => h9) rfl dX3_addRow_6 ?_
  refine lv_iload_n hx hb dX3_addRow_9 rfl (lv_at hl 0 rfl) ?_
  refine lv_iload_n hx hb dX3_addRow_10 rfl (lv_at hl 2 rfl) ?_
  refine ist hx hb hkx hP hD hS 7 rfl (N 2) rfl (by omega) (by decide) dX3_addRow_11 (fun H locs hP hD hS => ?_)
  have hP : va_P G vwCl (wCal T a N (va_up Z 5 (upd (Z 5) (N 2) v))) H := hP
  have hD : va_D A (wCal T a N (va_up Z 5 (upd (Z 5) (N 2) v))) := hD
  refine lv_aload_n hx hb dX3_addRow_12 rfl (lv_at hl 1 rfl) ?_
  refine va_get (D := G) (ci := 3) (C := RX3) (T := TX3) (N := 7) hx hb hts iX3 hown hkx.1 hP 6 rfl rfl 2 (by decide) k19 (fun _ h9 => h9) rfl dX3_addRow_13 ?_
  refine lv_iload_n hx hb dX3_addRow_16 rfl (lv_at hl 0 rfl) ?_
  refine lv_iload_n hx hb dX3_addRow_17 rfl (lv_at hl 3 rfl) ?_
  refine ist hx hb hkx hP hD hS 8 rfl (N 2) rfl (by omega) (by decide) dX3_addRow_18 (fun H locs hP hD hS => ?_)
  have hP : va_P G vwCl (wCal T a N (va_up (va_up Z 5 (upd (Z 5) (N 2) v)) 6 (upd (Z 6) (N 2) x))) H := hP
  have hD : va_D A (wCal T a N (va_up (va_up Z 5 (upd (Z 5) (N 2) v)) 6 (upd (Z 6) (N 2) x))) := hD
  refine lv_aload_n hx hb dX3_addRow_19 rfl (lv_at hl 1 rfl) ?_
  refine lv_iload_n hx hb dX3_addRow_20 rfl (lv_at hl 0 rfl) ?_
  refine lv_iconst (v := (-1)) hx hb dX3_addRow_21 (by decide) ?_
  refine lv_iconst (v := (-1)) hx hb dX3_addRow_22 (by decide) ?_
  refine mu_V S hkx (mX3_setPledge l (a := a) (N := N) (Z := (va_up (va_up Z 5 (upd (Z 5) (N 2) v)) 6 (upd (Z 6) (N 2) x))) (u := (N 2)) (v := (-1)) (d := (-1)) (hP := hP) (hD := hD.weaken (fun _ _ _ _ => trivial)) (hu := (by omega))) gX3_addRow_X3_setPledge rfl idX3_setPledge ⟨Nat.le_of_ble_eq_true rfl, Nat.le_of_ble_eq_true rfl⟩ hP 6 rfl rfl rfl rfl hl.1 rfl (Nat.le_of_ble_eq_true rfl) dX3_addRow_23 ⟨Nat.le_refl _, Nat.le_refl _⟩ hS (fr_in hD (fun q h => hA q (Nat.le_trans hS.1 h))) (fun v H locs hp9 hz1 hk1 hS => ?_)
  obtain ⟨rfl, hP⟩ := hp9
  have hP : va_P G vwCl (wCal T a N (uPl (va_up (va_up Z 5 (upd (Z 5) (N 2) v)) 6 (upd (Z 6) (N 2) x)) (N 2) (-1) (-1))) H := hP
  have hD : va_D A (wCal T a N (uPl (va_up (va_up Z 5 (upd (Z 5) (N 2) v)) 6 (upd (Z 6) (N 2) x)) (N 2) (-1) (-1))) := fr_all hD rfl
  refine W.eq (g2 := F0 m 26 ls []) rfl ?_
  refine lv_aload_n hx hb dX3_addRow_26 rfl (lv_at hl 1 rfl) ?_
  refine va_get (D := G) (ci := 3) (C := RX3) (T := TX3) (N := 7) hx hb hts iX3 hown hkx.1 hP 6 rfl rfl 5 (by decide) k28 (fun _ h9 => h9) rfl dX3_addRow_27 ?_
  refine lv_iload_n hx hb dX3_addRow_30 rfl (lv_at hl 0 rfl) ?_
  refine lv_iconst (v := 0) hx hb dX3_addRow_31 (by decide) ?_
  refine ist hx hb hkx hP hD hS 11 rfl (N 2) rfl (by omega) (by decide) dX3_addRow_32 (fun H locs hP hD hS => ?_)
  have hP : va_P G vwCl (wCal T a N (va_up (uPl (va_up (va_up Z 5 (upd (Z 5) (N 2) v)) 6 (upd (Z 6) (N 2) x)) (N 2) (-1) (-1)) 9 (upd ((uPl (va_up (va_up Z 5 (upd (Z 5) (N 2) v)) 6 (upd (Z 6) (N 2) x)) (N 2) (-1) (-1)) 9) (N 2) 0))) H := hP
  have hD : va_D A (wCal T a N (va_up (uPl (va_up (va_up Z 5 (upd (Z 5) (N 2) v)) 6 (upd (Z 6) (N 2) x)) (N 2) (-1) (-1)) 9 (upd ((uPl (va_up (va_up Z 5 (upd (Z 5) (N 2) v)) 6 (upd (Z 6) (N 2) x)) (N 2) (-1) (-1)) 9) (N 2) 0))) := hD
  refine lv_aload_n hx hb dX3_addRow_33 rfl (lv_at hl 1 rfl) ?_
  refine va_get (D := G) (ci := 3) (C := RX3) (T := TX3) (N := 7) hx hb hts iX3 hown hkx.1 hP 6 rfl rfl 6 (by decide) k31 (fun _ h9 => h9) rfl dX3_addRow_34 ?_
  refine lv_iload_n hx hb dX3_addRow_37 rfl (lv_at hl 0 rfl) ?_
  refine lv_iconst (v := 0) hx hb dX3_addRow_38 (by decide) ?_
  refine ist hx hb hkx hP hD hS 12 rfl (N 2) rfl (by omega) (by decide) dX3_addRow_39 (fun H locs hP hD hS => ?_)
  have hP : va_P G vwCl (wCal T a N (va_up (va_up (uPl (va_up (va_up Z 5 (upd (Z 5) (N 2) v)) 6 (upd (Z 6) (N 2) x)) (N 2) (-1) (-1)) 9 (upd ((uPl (va_up (va_up Z 5 (upd (Z 5) (N 2) v)) 6 (upd (Z 6) (N 2) x)) (N 2) (-1) (-1)) 9) (N 2) 0)) 10 (upd ((uPl (va_up (va_up Z 5 (upd (Z 5) (N 2) v)) 6 (upd (Z 6) (N 2) x)) (N 2) (-1) (-1)) 10) (N 2) 0))) H := hP
  have hD : va_D A (wCal T a N (va_up (va_up (uPl (va_up (va_up Z 5 (upd (Z 5) (N 2) v)) 6 (upd (Z 6) (N 2) x)) (N 2) (-1) (-1)) 9 (upd ((uPl (va_up (va_up Z 5 (upd (Z 5) (N 2) v)) 6 (upd (Z 6) (N 2) x)) (N 2) (-1) (-1)) 9) (N 2) 0)) 10 (upd ((uPl (va_up (va_up Z 5 (upd (Z 5) (N 2) v)) 6 (upd (Z 6) (N 2) x)) (N 2) (-1) (-1)) 10) (N 2) 0))) := hD
  refine lv_aload_n hx hb dX3_addRow_40 rfl (lv_at hl 1 rfl) ?_
  refine lv_dup hx hb dX3_addRow_41 rfl ?_
  refine va_get (D := G) (ci := 3) (C := RX3) (T := TX3) (N := 7) hx hb hts iX3 hown hkx.1 hP 6 rfl rfl 0 (by decide) k9 (fun _ h9 => h9) rfl dX3_addRow_42 ?_
  refine lv_iconst (v := 1) hx hb dX3_addRow_45 (by decide) ?_
  refine lv_iadd hx hb dX3_addRow_46 ?_
  rw [show ((nI (N 2)) + 1) = (nI ((N 2) + 1)) from nI_add (N 2) 1]
  refine va_put (D := G) (ci := 3) (v := .int (nI ((N 2) + 1))) (ty := .int) (C := RX3) (T := TX3) (N := 7) hx hb hts iX3 tyX3 tyX3_ok nmX3 hown hkx.1 hP hD hS 6 rfl rfl 0 (by decide) k9 (fun _ h9 => h9) rfl (by decide +kernel) rfl rfl (Nat.le_of_ble_eq_true rfl) dX3_addRow_47 (fun H locs hP hD hS => ?_)
  have hP : va_P G vwCl (wCal T a (va_up N 2 ((N 2) + 1)) (va_up (va_up (uPl (va_up (va_up Z 5 (upd (Z 5) (N 2) v)) 6 (upd (Z 6) (N 2) x)) (N 2) (-1) (-1)) 9 (upd ((uPl (va_up (va_up Z 5 (upd (Z 5) (N 2) v)) 6 (upd (Z 6) (N 2) x)) (N 2) (-1) (-1)) 9) (N 2) 0)) 10 (upd ((uPl (va_up (va_up Z 5 (upd (Z 5) (N 2) v)) 6 (upd (Z 6) (N 2) x)) (N 2) (-1) (-1)) 10) (N 2) 0))) H := hP
  have hD : va_D A (wCal T a (va_up N 2 ((N 2) + 1)) (va_up (va_up (uPl (va_up (va_up Z 5 (upd (Z 5) (N 2) v)) 6 (upd (Z 6) (N 2) x)) (N 2) (-1) (-1)) 9 (upd ((uPl (va_up (va_up Z 5 (upd (Z 5) (N 2) v)) 6 (upd (Z 6) (N 2) x)) (N 2) (-1) (-1)) 9) (N 2) 0)) 10 (upd ((uPl (va_up (va_up Z 5 (upd (Z 5) (N 2) v)) 6 (upd (Z 6) (N 2) x)) (N 2) (-1) (-1)) 10) (N 2) 0))) := hD
  refine lv_iload_n hx hb dX3_addRow_50 rfl (lv_at hl 0 rfl) ?_
  exact hret _ _ _ _ _ (show some (Value.int (nI (N 2))) = some (Value.int (nI (N 2))) ∧ va_P G vwCl (wCal T a (va_up N 2 (N 2 + 1)) (uAdd N Z v x)) H from ⟨rfl, hP⟩) rfl hS dX3_addRow_51

theorem idX2_addRow : yX2_addRow.cls = RX2 ∧ yX2_addRow.cls ≠ "java/lang/invoke/MethodHandle" ∧ yX2_addRow.cls ≠ "java/lang/invoke/VarHandle" ∧ (parseMethodDescriptor yX2_addRow.desc).map (fun d => d.parameters.length) = some 5 := by decide +kernel

set_option maxHeartbeats 4000000 in
set_option maxRecDepth 100000 in
theorem mX2_addRow (l : Launch) {G : va_G} {T : Nat → ClassId} {H0 : Heap} {a : Nat → Nat} {N : Nat → Nat} {Z : Nat → Nat → Int32} {f : Int32} {v : Int32} {x : Int32} {z : Int32} {q : Int32} (hP : va_P G vwCl (wCal T a N Z) H0) (hD : va_D (fun _ => True) (wCal T a N Z)) (hs : N 3 < 12) : mu l yX2_addRow wsX2_addRow 0 0 [.ref (a 13), .int f, .int v, .int x, .int z, .int q] G T H0 (wCal T a N Z) (fun v9 H9 => v9 = some (.int (nI (N 3))) ∧ va_P G vwCl (wCal T a (va_up N 3 (N 3 + 1)) (sAdd N Z f v x z q)) H9) := by
  refine mu_ofi (cc := cX2_addRow) (maxL := 7) (ret := .int) (own := RX2) (by decide +kernel) rfl rfl (Nat.le_of_ble_eq_true rfl) hD ?_
  intro p e s m below meth c Q ls A S hkx hl hD hS hA hret
  obtain ⟨hx, hb, hml, hown, hts⟩ := id S
  have hl : lv_has ls 7 [(0, .ref (a 13)), (1, .int f), (2, .int v), (3, .int x), (4, .int z), (5, .int q)] := hl
  have k9 := hts (.fieldLink RX2 9 "SunsetDates$Shims" "count" "I") (by decide +kernel)
  have iX2 : ∀ w ∈ wsX20, w ∈ wsX2_addRow := by decide +kernel
  have k15 := hts (.fieldLink RX2 15 "SunsetDates$Shims" "feature" "[I") (by decide +kernel)
  have k19 := hts (.fieldLink RX2 19 "SunsetDates$Shims" "version" "[I") (by decide +kernel)
  have k22 := hts (.fieldLink RX2 22 "SunsetDates$Shims" "first" "[I") (by decide +kernel)
  have k25 := hts (.fieldLink RX2 25 "SunsetDates$Shims" "last" "[I") (by decide +kernel)
  have k28 := hts (.fieldLink RX2 28 "SunsetDates$Shims" "price" "[I") (by decide +kernel)
  refine lv_aload_n hx hb dX2_addRow_0 rfl (lv_at hl 0 rfl) ?_
  refine va_get (D := G) (ci := 2) (C := RX2) (T := TX2) (N := 6) hx hb hts iX2 hown hkx.1 hP 13 rfl rfl 0 (by decide) k9 (fun _ h9 => h9) rfl dX2_addRow_1 ?_
  refine lv_istore (lv' := [(6, .int (nI (N 3))), (0, .ref (a 13)), (1, .int f), (2, .int v), (3, .int x), (4, .int z), (5, .int q)]) hx hb dX2_addRow_4 hl (by decide) rfl (fun ls hl => ?_)
  refine lv_aload_n hx hb dX2_addRow_6 rfl (lv_at hl 1 rfl) ?_
  refine va_get (D := G) (ci := 2) (C := RX2) (T := TX2) (N := 6) hx hb hts iX2 hown hkx.1 hP 13 rfl rfl 1 (by decide) k15 (fun _ h9 => h9) rfl dX2_addRow_7 ?_
  refine lv_iload hx hb dX2_addRow_10 (lv_at hl 0 rfl) ?_
  refine lv_iload_n hx hb dX2_addRow_12 rfl (lv_at hl 2 rfl) ?_
  refine ist hx hb hkx hP hD hS 14 rfl (N 3) rfl (by omega) (by decide) dX2_addRow_13 (fun H locs hP hD hS => ?_)
  have hP : va_P G vwCl (wCal T a N (va_up Z 11 (upd (Z 11) (N 3) f))) H := hP
  have hD : va_D A (wCal T a N (va_up Z 11 (upd (Z 11) (N 3) f))) := hD
  refine lv_aload_n hx hb dX2_addRow_14 rfl (lv_at hl 1 rfl) ?_
  refine va_get (D := G) (ci := 2) (C := RX2) (T := TX2) (N := 6) hx hb hts iX2 hown hkx.1 hP 13 rfl rfl 2 (by decide) k19 (fun _ h9 => h9) rfl dX2_addRow_15 ?_
  refine lv_iload hx hb dX2_addRow_18 (lv_at hl 0 rfl) ?_
  refine lv_iload_n hx hb dX2_addRow_20 rfl (lv_at hl 3 rfl) ?_
  refine ist hx hb hkx hP hD hS 15 rfl (N 3) rfl (by omega) (by decide) dX2_addRow_21 (fun H locs hP hD hS => ?_)
  have hP : va_P G vwCl (wCal T a N (va_up (va_up Z 11 (upd (Z 11) (N 3) f)) 12 (upd (Z 12) (N 3) v))) H := hP
  have hD : va_D A (wCal T a N (va_up (va_up Z 11 (upd (Z 11) (N 3) f)) 12 (upd (Z 12) (N 3) v))) := hD
  refine lv_aload_n hx hb dX2_addRow_22 rfl (lv_at hl 1 rfl) ?_
  refine va_get (D := G) (ci := 2) (C := RX2) (T := TX2) (N := 6) hx hb hts iX2 hown hkx.1 hP 13 rfl rfl 3 (by decide) k22 (fun _ h9 => h9) rfl dX2_addRow_23 ?_
  refine lv_iload hx hb dX2_addRow_26 (lv_at hl 0 rfl) ?_
  refine lv_iload_n hx hb dX2_addRow_28 rfl (lv_at hl 4 rfl) ?_
  refine ist hx hb hkx hP hD hS 16 rfl (N 3) rfl (by omega) (by decide) dX2_addRow_29 (fun H locs hP hD hS => ?_)
  have hP : va_P G vwCl (wCal T a N (va_up (va_up (va_up Z 11 (upd (Z 11) (N 3) f)) 12 (upd (Z 12) (N 3) v)) 13 (upd (Z 13) (N 3) x))) H := hP
  have hD : va_D A (wCal T a N (va_up (va_up (va_up Z 11 (upd (Z 11) (N 3) f)) 12 (upd (Z 12) (N 3) v)) 13 (upd (Z 13) (N 3) x))) := hD
  refine lv_aload_n hx hb dX2_addRow_30 rfl (lv_at hl 1 rfl) ?_
  refine va_get (D := G) (ci := 2) (C := RX2) (T := TX2) (N := 6) hx hb hts iX2 hown hkx.1 hP 13 rfl rfl 4 (by decide) k25 (fun _ h9 => h9) rfl dX2_addRow_31 ?_
  refine lv_iload hx hb dX2_addRow_34 (lv_at hl 0 rfl) ?_
  refine lv_iload hx hb dX2_addRow_36 (lv_at hl 5 rfl) ?_
  refine ist hx hb hkx hP hD hS 17 rfl (N 3) rfl (by omega) (by decide) dX2_addRow_38 (fun H locs hP hD hS => ?_)
  have hP : va_P G vwCl (wCal T a N (va_up (va_up (va_up (va_up Z 11 (upd (Z 11) (N 3) f)) 12 (upd (Z 12) (N 3) v)) 13 (upd (Z 13) (N 3) x)) 14 (upd (Z 14) (N 3) z))) H := hP
  have hD : va_D A (wCal T a N (va_up (va_up (va_up (va_up Z 11 (upd (Z 11) (N 3) f)) 12 (upd (Z 12) (N 3) v)) 13 (upd (Z 13) (N 3) x)) 14 (upd (Z 14) (N 3) z))) := hD
  refine lv_aload_n hx hb dX2_addRow_39 rfl (lv_at hl 1 rfl) ?_
  refine va_get (D := G) (ci := 2) (C := RX2) (T := TX2) (N := 6) hx hb hts iX2 hown hkx.1 hP 13 rfl rfl 5 (by decide) k28 (fun _ h9 => h9) rfl dX2_addRow_40 ?_
  refine lv_iload hx hb dX2_addRow_43 (lv_at hl 0 rfl) ?_
  refine lv_iload hx hb dX2_addRow_45 (lv_at hl 6 rfl) ?_
  refine ist hx hb hkx hP hD hS 18 rfl (N 3) rfl (by omega) (by decide) dX2_addRow_47 (fun H locs hP hD hS => ?_)
  have hP : va_P G vwCl (wCal T a N (va_up (va_up (va_up (va_up (va_up Z 11 (upd (Z 11) (N 3) f)) 12 (upd (Z 12) (N 3) v)) 13 (upd (Z 13) (N 3) x)) 14 (upd (Z 14) (N 3) z)) 15 (upd (Z 15) (N 3) q))) H := hP
  have hD : va_D A (wCal T a N (va_up (va_up (va_up (va_up (va_up Z 11 (upd (Z 11) (N 3) f)) 12 (upd (Z 12) (N 3) v)) 13 (upd (Z 13) (N 3) x)) 14 (upd (Z 14) (N 3) z)) 15 (upd (Z 15) (N 3) q))) := hD
  refine lv_aload_n hx hb dX2_addRow_48 rfl (lv_at hl 1 rfl) ?_
  refine lv_dup hx hb dX2_addRow_49 rfl ?_
  refine va_get (D := G) (ci := 2) (C := RX2) (T := TX2) (N := 6) hx hb hts iX2 hown hkx.1 hP 13 rfl rfl 0 (by decide) k9 (fun _ h9 => h9) rfl dX2_addRow_50 ?_
  refine lv_iconst (v := 1) hx hb dX2_addRow_53 (by decide) ?_
  refine lv_iadd hx hb dX2_addRow_54 ?_
  rw [show ((nI (N 3)) + 1) = (nI ((N 3) + 1)) from nI_add (N 3) 1]
  refine va_put (D := G) (ci := 2) (v := .int (nI ((N 3) + 1))) (ty := .int) (C := RX2) (T := TX2) (N := 6) hx hb hts iX2 tyX2 tyX2_ok nmX2 hown hkx.1 hP hD hS 13 rfl rfl 0 (by decide) k9 (fun _ h9 => h9) rfl (by decide +kernel) rfl rfl (Nat.le_of_ble_eq_true rfl) dX2_addRow_55 (fun H locs hP hD hS => ?_)
  have hP : va_P G vwCl (wCal T a (va_up N 3 ((N 3) + 1)) (va_up (va_up (va_up (va_up (va_up Z 11 (upd (Z 11) (N 3) f)) 12 (upd (Z 12) (N 3) v)) 13 (upd (Z 13) (N 3) x)) 14 (upd (Z 14) (N 3) z)) 15 (upd (Z 15) (N 3) q))) H := hP
  have hD : va_D A (wCal T a (va_up N 3 ((N 3) + 1)) (va_up (va_up (va_up (va_up (va_up Z 11 (upd (Z 11) (N 3) f)) 12 (upd (Z 12) (N 3) v)) 13 (upd (Z 13) (N 3) x)) 14 (upd (Z 14) (N 3) z)) 15 (upd (Z 15) (N 3) q))) := hD
  refine lv_iload hx hb dX2_addRow_58 (lv_at hl 0 rfl) ?_
  exact hret _ _ _ _ _ (show some (Value.int (nI (N 3))) = some (Value.int (nI (N 3))) ∧ va_P G vwCl (wCal T a (va_up N 3 (N 3 + 1)) (sAdd N Z f v x z q)) H from ⟨rfl, hP⟩) rfl hS dX2_addRow_60

theorem idX2_remove : yX2_remove.cls = RX2 ∧ yX2_remove.cls ≠ "java/lang/invoke/MethodHandle" ∧ yX2_remove.cls ≠ "java/lang/invoke/VarHandle" ∧ (parseMethodDescriptor yX2_remove.desc).map (fun d => d.parameters.length) = some 1 := by decide +kernel

set_option maxHeartbeats 4000000 in
set_option maxRecDepth 100000 in
theorem mX2_remove (l : Launch) {G : va_G} {T : Nat → ClassId} {H0 : Heap} {a : Nat → Nat} {N : Nat → Nat} {Z : Nat → Nat → Int32} {t : Nat} (hP : va_P G vwCl (wCal T a N Z) H0) (hD : va_D (fun _ => True) (wCal T a N Z)) (ht : t < N 3) (hs : N 3 ≤ 12) : mu l yX2_remove wsX2_remove 0 0 [.ref (a 13), .int (nI t)] G T H0 (wCal T a N Z) (fun v9 H9 => v9 = none ∧ va_P G vwCl (wCal T a (va_up N 3 (N 3 - 1)) (sDel Z t (N 3 - 1))) H9) := by
  refine mu_ofv (cc := cX2_remove) (maxL := 3) (own := RX2) (by decide +kernel) rfl rfl (Nat.le_of_ble_eq_true rfl) hD ?_
  intro p e s m below meth c Q ls A S hkx hl hD hS hA hret
  obtain ⟨hx, hb, hml, hown, hts⟩ := id S
  have hl : lv_has ls 3 [(0, .ref (a 13)), (1, .int (nI t))] := hl
  have k9 := hts (.fieldLink RX2 9 "SunsetDates$Shims" "count" "I") (by decide +kernel)
  have iX2 : ∀ w ∈ wsX20, w ∈ wsX2_remove := by decide +kernel
  have k15 := hts (.fieldLink RX2 15 "SunsetDates$Shims" "feature" "[I") (by decide +kernel)
  have k19 := hts (.fieldLink RX2 19 "SunsetDates$Shims" "version" "[I") (by decide +kernel)
  have k22 := hts (.fieldLink RX2 22 "SunsetDates$Shims" "first" "[I") (by decide +kernel)
  have k25 := hts (.fieldLink RX2 25 "SunsetDates$Shims" "last" "[I") (by decide +kernel)
  have k28 := hts (.fieldLink RX2 28 "SunsetDates$Shims" "price" "[I") (by decide +kernel)
  refine lv_aload_n hx hb dX2_remove_0 rfl (lv_at hl 0 rfl) ?_
  refine lv_dup hx hb dX2_remove_1 rfl ?_
  refine va_get (D := G) (ci := 2) (C := RX2) (T := TX2) (N := 6) hx hb hts iX2 hown hkx.1 hP 13 rfl rfl 0 (by decide) k9 (fun _ h9 => h9) rfl dX2_remove_2 ?_
  refine lv_iconst (v := 1) hx hb dX2_remove_5 (by decide) ?_
  refine lv_isub hx hb dX2_remove_6 ?_
  rw [show ((nI (N 3)) - 1) = (nI ((N 3) - 1)) from pk_sub (a := (N 3)) (b := 1) (by omega)]
  refine va_put (D := G) (ci := 2) (v := .int (nI ((N 3) - 1))) (ty := .int) (C := RX2) (T := TX2) (N := 6) hx hb hts iX2 tyX2 tyX2_ok nmX2 hown hkx.1 hP hD hS 13 rfl rfl 0 (by decide) k9 (fun _ h9 => h9) rfl (by decide +kernel) rfl rfl (Nat.le_of_ble_eq_true rfl) dX2_remove_7 (fun H locs hP hD hS => ?_)
  have hP : va_P G vwCl (wCal T a (va_up N 3 ((N 3) - 1)) Z) H := hP
  have hD : va_D A (wCal T a (va_up N 3 ((N 3) - 1)) Z) := hD
  refine lv_iload_n hx hb dX2_remove_10 rfl (lv_at hl 1 rfl) ?_
  refine lv_istore_n (lv' := [(2, .int (nI t)), (0, .ref (a 13)), (1, .int (nI t))]) hx hb dX2_remove_11 rfl hl (by decide) rfl (fun ls hl => ?_)
  have L12 : ∀ (fuel : Nat) (k : Nat) (g1 g2 g3 g4 g5 : Nat → Int32), N 3 - k < fuel → t ≤ k → k ≤ N 3 - 1 → g1 = shf (Z 11) t k → g2 = shf (Z 12) t k → g3 = shf (Z 13) t k → g4 = shf (Z 14) t k → g5 = shf (Z 15) t k → ∀ (H : Heap) (locs : List Loc), va_P G vwCl (wCal T a (va_up N 3 ((N 3) - 1)) (va_up (va_up (va_up (va_up (va_up Z 11 g1) 12 g2) 13 g3) 14 g4) 15 g5)) H → va_D A (wCal T a (va_up N 3 ((N 3) - 1)) (va_up (va_up (va_up (va_up (va_up Z 11 g1) 12 g2) 13 g3) 14 g4) 15 g5)) → va_S A H0 H locs → ∀ ls : Array Slot, lv_has ls 3 [(0, .ref (a 13)), (1, .int (nI t)), (2, .int (nI k))] → W p l e (rmo 0 0) s m ([.ref (a 13), .int (nI t)] : List Value).toArray below meth c H locs 0 0 Q (F0 m 12 ls []) := by
    intro fuel
    induction fuel with
    | zero => intro k g1 g2 g3 g4 g5 hm; exact absurd hm (Nat.not_lt_zero _)
    | succ fuel ih12 =>
      intro k g1 g2 g3 g4 g5 hm12 hk hk2 hg1 hg2 hg3 hg4 hg5 H locs hP hD hS ls hl
      refine lv_iload_n hx hb dX2_remove_12 rfl (lv_at hl 2 rfl) ?_
      refine lv_aload_n hx hb dX2_remove_13 rfl (lv_at hl 0 rfl) ?_
      refine va_get (D := G) (ci := 2) (C := RX2) (T := TX2) (N := 6) hx hb hts iX2 hown hkx.1 hP 13 rfl rfl 0 (by decide) k9 (fun _ h9 => h9) rfl dX2_remove_14 ?_
      refine lv_icmp_ge (tgt := 96) hx hb dX2_remove_17 (by decide) (fun c_1 => ?_) (fun c_1 => ?_)
      · replace c_1 := cn_le (a := ((N 3) - 1)) (b := k) (by omega) (by omega) c_1
        exact hret _ _ _ _ (show (none : Option Value) = none ∧ va_P G vwCl (wCal T a (va_up N 3 (N 3 - 1)) (sDel Z t (N 3 - 1))) H from ⟨rfl, (by have hk9 : k = N 3 - 1 := (by omega); subst hk9; subst hg1 hg2 hg3 hg4 hg5; exact hP)⟩) hS dX2_remove_96
      · replace c_1 := cn_nle (a := ((N 3) - 1)) (b := k) (by omega) (by omega) c_1
        refine lv_aload_n hx hb dX2_remove_20 rfl (lv_at hl 0 rfl) ?_
        refine va_get (D := G) (ci := 2) (C := RX2) (T := TX2) (N := 6) hx hb hts iX2 hown hkx.1 hP 13 rfl rfl 1 (by decide) k15 (fun _ h9 => h9) rfl dX2_remove_21 ?_
        refine lv_iload_n hx hb dX2_remove_24 rfl (lv_at hl 2 rfl) ?_
        refine lv_aload_n hx hb dX2_remove_25 rfl (lv_at hl 0 rfl) ?_
        refine va_get (D := G) (ci := 2) (C := RX2) (T := TX2) (N := 6) hx hb hts iX2 hown hkx.1 hP 13 rfl rfl 1 (by decide) k15 (fun _ h9 => h9) rfl dX2_remove_26 ?_
        refine lv_iload_n hx hb dX2_remove_29 rfl (lv_at hl 2 rfl) ?_
        refine lv_iconst (v := 1) hx hb dX2_remove_30 (by decide) ?_
        refine lv_iadd hx hb dX2_remove_31 ?_
        rw [show ((nI k) + 1) = (nI (k + 1)) from nI_add k 1]
        refine ia hx hb hkx hP 14 rfl (k + 1) rfl (by omega) (by decide) dX2_remove_32 ?_
        refine ist hx hb hkx hP hD hS 14 rfl k rfl (by omega) (by decide) dX2_remove_33 (fun H locs hP hD hS => ?_)
        have hP : va_P G vwCl (wCal T a (va_up N 3 ((N 3) - 1)) (va_up (va_up (va_up (va_up (va_up Z 11 (upd g1 k (g1 (k + 1)))) 12 g2) 13 g3) 14 g4) 15 g5)) H := hP
        have hD : va_D A (wCal T a (va_up N 3 ((N 3) - 1)) (va_up (va_up (va_up (va_up (va_up Z 11 (upd g1 k (g1 (k + 1)))) 12 g2) 13 g3) 14 g4) 15 g5)) := hD
        refine lv_aload_n hx hb dX2_remove_34 rfl (lv_at hl 0 rfl) ?_
        refine va_get (D := G) (ci := 2) (C := RX2) (T := TX2) (N := 6) hx hb hts iX2 hown hkx.1 hP 13 rfl rfl 2 (by decide) k19 (fun _ h9 => h9) rfl dX2_remove_35 ?_
        refine lv_iload_n hx hb dX2_remove_38 rfl (lv_at hl 2 rfl) ?_
        refine lv_aload_n hx hb dX2_remove_39 rfl (lv_at hl 0 rfl) ?_
        refine va_get (D := G) (ci := 2) (C := RX2) (T := TX2) (N := 6) hx hb hts iX2 hown hkx.1 hP 13 rfl rfl 2 (by decide) k19 (fun _ h9 => h9) rfl dX2_remove_40 ?_
        refine lv_iload_n hx hb dX2_remove_43 rfl (lv_at hl 2 rfl) ?_
        refine lv_iconst (v := 1) hx hb dX2_remove_44 (by decide) ?_
        refine lv_iadd hx hb dX2_remove_45 ?_
        rw [show ((nI k) + 1) = (nI (k + 1)) from nI_add k 1]
        refine ia hx hb hkx hP 15 rfl (k + 1) rfl (by omega) (by decide) dX2_remove_46 ?_
        refine ist hx hb hkx hP hD hS 15 rfl k rfl (by omega) (by decide) dX2_remove_47 (fun H locs hP hD hS => ?_)
        have hP : va_P G vwCl (wCal T a (va_up N 3 ((N 3) - 1)) (va_up (va_up (va_up (va_up (va_up Z 11 (upd g1 k (g1 (k + 1)))) 12 (upd g2 k (g2 (k + 1)))) 13 g3) 14 g4) 15 g5)) H := hP
        have hD : va_D A (wCal T a (va_up N 3 ((N 3) - 1)) (va_up (va_up (va_up (va_up (va_up Z 11 (upd g1 k (g1 (k + 1)))) 12 (upd g2 k (g2 (k + 1)))) 13 g3) 14 g4) 15 g5)) := hD
        refine lv_aload_n hx hb dX2_remove_48 rfl (lv_at hl 0 rfl) ?_
        refine va_get (D := G) (ci := 2) (C := RX2) (T := TX2) (N := 6) hx hb hts iX2 hown hkx.1 hP 13 rfl rfl 3 (by decide) k22 (fun _ h9 => h9) rfl dX2_remove_49 ?_
        refine lv_iload_n hx hb dX2_remove_52 rfl (lv_at hl 2 rfl) ?_
        refine lv_aload_n hx hb dX2_remove_53 rfl (lv_at hl 0 rfl) ?_
        refine va_get (D := G) (ci := 2) (C := RX2) (T := TX2) (N := 6) hx hb hts iX2 hown hkx.1 hP 13 rfl rfl 3 (by decide) k22 (fun _ h9 => h9) rfl dX2_remove_54 ?_
        refine lv_iload_n hx hb dX2_remove_57 rfl (lv_at hl 2 rfl) ?_
        refine lv_iconst (v := 1) hx hb dX2_remove_58 (by decide) ?_
        refine lv_iadd hx hb dX2_remove_59 ?_
        rw [show ((nI k) + 1) = (nI (k + 1)) from nI_add k 1]
        refine ia hx hb hkx hP 16 rfl (k + 1) rfl (by omega) (by decide) dX2_remove_60 ?_
        refine ist hx hb hkx hP hD hS 16 rfl k rfl (by omega) (by decide) dX2_remove_61 (fun H locs hP hD hS => ?_)
        have hP : va_P G vwCl (wCal T a (va_up N 3 ((N 3) - 1)) (va_up (va_up (va_up (va_up (va_up Z 11 (upd g1 k (g1 (k + 1)))) 12 (upd g2 k (g2 (k + 1)))) 13 (upd g3 k (g3 (k + 1)))) 14 g4) 15 g5)) H := hP
        have hD : va_D A (wCal T a (va_up N 3 ((N 3) - 1)) (va_up (va_up (va_up (va_up (va_up Z 11 (upd g1 k (g1 (k + 1)))) 12 (upd g2 k (g2 (k + 1)))) 13 (upd g3 k (g3 (k + 1)))) 14 g4) 15 g5)) := hD
        refine lv_aload_n hx hb dX2_remove_62 rfl (lv_at hl 0 rfl) ?_
        refine va_get (D := G) (ci := 2) (C := RX2) (T := TX2) (N := 6) hx hb hts iX2 hown hkx.1 hP 13 rfl rfl 4 (by decide) k25 (fun _ h9 => h9) rfl dX2_remove_63 ?_
        refine lv_iload_n hx hb dX2_remove_66 rfl (lv_at hl 2 rfl) ?_
        refine lv_aload_n hx hb dX2_remove_67 rfl (lv_at hl 0 rfl) ?_
        refine va_get (D := G) (ci := 2) (C := RX2) (T := TX2) (N := 6) hx hb hts iX2 hown hkx.1 hP 13 rfl rfl 4 (by decide) k25 (fun _ h9 => h9) rfl dX2_remove_68 ?_
        refine lv_iload_n hx hb dX2_remove_71 rfl (lv_at hl 2 rfl) ?_
        refine lv_iconst (v := 1) hx hb dX2_remove_72 (by decide) ?_
        refine lv_iadd hx hb dX2_remove_73 ?_
        rw [show ((nI k) + 1) = (nI (k + 1)) from nI_add k 1]
        refine ia hx hb hkx hP 17 rfl (k + 1) rfl (by omega) (by decide) dX2_remove_74 ?_
        refine ist hx hb hkx hP hD hS 17 rfl k rfl (by omega) (by decide) dX2_remove_75 (fun H locs hP hD hS => ?_)
        have hP : va_P G vwCl (wCal T a (va_up N 3 ((N 3) - 1)) (va_up (va_up (va_up (va_up (va_up Z 11 (upd g1 k (g1 (k + 1)))) 12 (upd g2 k (g2 (k + 1)))) 13 (upd g3 k (g3 (k + 1)))) 14 (upd g4 k (g4 (k + 1)))) 15 g5)) H := hP
        have hD : va_D A (wCal T a (va_up N 3 ((N 3) - 1)) (va_up (va_up (va_up (va_up (va_up Z 11 (upd g1 k (g1 (k + 1)))) 12 (upd g2 k (g2 (k + 1)))) 13 (upd g3 k (g3 (k + 1)))) 14 (upd g4 k (g4 (k + 1)))) 15 g5)) := hD
        refine lv_aload_n hx hb dX2_remove_76 rfl (lv_at hl 0 rfl) ?_
        refine va_get (D := G) (ci := 2) (C := RX2) (T := TX2) (N := 6) hx hb hts iX2 hown hkx.1 hP 13 rfl rfl 5 (by decide) k28 (fun _ h9 => h9) rfl dX2_remove_77 ?_
        refine lv_iload_n hx hb dX2_remove_80 rfl (lv_at hl 2 rfl) ?_
        refine lv_aload_n hx hb dX2_remove_81 rfl (lv_at hl 0 rfl) ?_
        refine va_get (D := G) (ci := 2) (C := RX2) (T := TX2) (N := 6) hx hb hts iX2 hown hkx.1 hP 13 rfl rfl 5 (by decide) k28 (fun _ h9 => h9) rfl dX2_remove_82 ?_
        refine lv_iload_n hx hb dX2_remove_85 rfl (lv_at hl 2 rfl) ?_
        refine lv_iconst (v := 1) hx hb dX2_remove_86 (by decide) ?_
        refine lv_iadd hx hb dX2_remove_87 ?_
        rw [show ((nI k) + 1) = (nI (k + 1)) from nI_add k 1]
        refine ia hx hb hkx hP 18 rfl (k + 1) rfl (by omega) (by decide) dX2_remove_88 ?_
        refine ist hx hb hkx hP hD hS 18 rfl k rfl (by omega) (by decide) dX2_remove_89 (fun H locs hP hD hS => ?_)
        have hP : va_P G vwCl (wCal T a (va_up N 3 ((N 3) - 1)) (va_up (va_up (va_up (va_up (va_up Z 11 (upd g1 k (g1 (k + 1)))) 12 (upd g2 k (g2 (k + 1)))) 13 (upd g3 k (g3 (k + 1)))) 14 (upd g4 k (g4 (k + 1)))) 15 (upd g5 k (g5 (k + 1))))) H := hP
        have hD : va_D A (wCal T a (va_up N 3 ((N 3) - 1)) (va_up (va_up (va_up (va_up (va_up Z 11 (upd g1 k (g1 (k + 1)))) 12 (upd g2 k (g2 (k + 1)))) 13 (upd g3 k (g3 (k + 1)))) 14 (upd g4 k (g4 (k + 1)))) 15 (upd g5 k (g5 (k + 1))))) := hD
        refine lv_iinc (v := (nI (k + 1))) (lv' := [(2, .int (nI (k + 1))), (0, .ref (a 13)), (1, .int (nI t))]) hx hb dX2_remove_90 hl (k := 2) rfl (nI_inc k) (by decide) rfl (fun ls hl => ?_)
        refine lv_goto (tgt := 12) hx hb dX2_remove_93 (by decide) ?_
        exact ih12 (k + 1) (upd g1 k (g1 (k + 1))) (upd g2 k (g2 (k + 1))) (upd g3 k (g3 (k + 1))) (upd g4 k (g4 (k + 1))) (upd g5 k (g5 (k + 1))) (by omega) (by omega) (by omega) (by rw [hg1]; exact shf_s _ hk) (by rw [hg2]; exact shf_s _ hk) (by rw [hg3]; exact shf_s _ hk) (by rw [hg4]; exact shf_s _ hk) (by rw [hg5]; exact shf_s _ hk) _ _ hP hD hS _ (lv_sub hl [1, 2, 0] rfl)
  exact L12 _ t (Z 11) (Z 12) (Z 13) (Z 14) (Z 15) (Nat.lt_succ_self _) (by omega) (by omega) (by exact (shf_0 _ _).symm) (by exact (shf_0 _ _).symm) (by exact (shf_0 _ _).symm) (by exact (shf_0 _ _).symm) (by exact (shf_0 _ _).symm) _ _ hP hD hS _ (lv_sub hl [1, 2, 0] rfl)

theorem idX0_appendFeature : yX0_appendFeature.cls = RX0 ∧ yX0_appendFeature.cls ≠ "java/lang/invoke/MethodHandle" ∧ yX0_appendFeature.cls ≠ "java/lang/invoke/VarHandle" ∧ (parseMethodDescriptor yX0_appendFeature.desc).map (fun d => d.parameters.length) = some 1 := by decide +kernel

set_option maxHeartbeats 4000000 in
set_option maxRecDepth 100000 in
theorem mX0_appendFeature (l : Launch) {G : va_G} {T : Nat → ClassId} {H0 : Heap} {a : Nat → Nat} {N : Nat → Nat} {Z : Nat → Nat → Int32} {x : Int32} (hP : va_P G vwCl (wCal T a N Z) H0) (hD : va_D (fun _ => True) (wCal T a N Z)) (hs : N 0 ≤ 8) (hf : N 1 < 10) : mu l yX0_appendFeature wsX0_appendFeature 1 21 [.ref (a 0), .int x] G T H0 (wCal T a N Z) (fun v9 H9 => v9 = some (.int (nI (N 1))) ∧ va_P G vwCl (wCal T a (va_up N 1 (N 1 + 1)) (va_up Z 4 (apF (Z 4) x (N 1) (N 0)))) H9) := by
  refine mu_ofi (cc := cX0_appendFeature) (maxL := 4) (ret := .int) (own := RX0) (by decide +kernel) rfl rfl (Nat.le_of_ble_eq_true rfl) hD ?_
  intro p e s m below meth c Q ls A S hkx hl hD hS hA hret
  obtain ⟨hx, hb, hml, hown, hts⟩ := id S
  have hl : lv_has ls 4 [(0, .ref (a 0)), (1, .int x)] := hl
  have k18 := hts (.fieldLink RX0 18 "SunsetDates$Calendar" "featureCount" "I") (by decide +kernel)
  have iX0 : ∀ w ∈ wsX00, w ∈ wsX0_appendFeature := by decide +kernel
  have k12 := hts (.fieldLink RX0 12 "SunsetDates$Calendar" "versions" "LSunsetDates$Versions;") (by decide +kernel)
  have k46 := hts (.fieldLink RX0 46 "SunsetDates$Versions" "count" "I") (by decide +kernel)
  have iX4 : ∀ w ∈ wsX40, w ∈ wsX0_appendFeature := by decide +kernel
  have nX5 := hts (.initialized RX5) (by decide +kernel)
  have tX5_contains := hts (.static yX5_contains) (by decide +kernel)
  have k53 := hts (.fieldLink RX0 53 "SunsetDates$Versions" "features" "[I") (by decide +kernel)
  refine lv_aload_n hx hb dX0_appendFeature_0 rfl (lv_at hl 0 rfl) ?_
  refine va_get (D := G) (ci := 0) (C := RX0) (T := TX0) (N := 4) hx hb hts iX0 hown hkx.1 hP 0 rfl rfl 1 (by decide) k18 (fun _ h9 => h9) rfl dX0_appendFeature_1 ?_
  refine lv_istore_n (lv' := [(2, .int (nI (N 1))), (0, .ref (a 0)), (1, .int x)]) hx hb dX0_appendFeature_4 rfl hl (by decide) rfl (fun ls hl => ?_)
  refine lv_iconst (v := 0) hx hb dX0_appendFeature_5 (by decide) ?_
  refine lv_istore_n (lv' := [(3, .int 0), (2, .int (nI (N 1))), (0, .ref (a 0)), (1, .int x)]) hx hb dX0_appendFeature_6 rfl hl (by decide) rfl (fun ls hl => ?_)
  have L7 : ∀ (fuel : Nat) (k : Nat) (g : Nat → Int32), N 0 - k < fuel → k ≤ N 0 → g = apF (Z 4) x (N 1) k → ∀ (H : Heap) (locs : List Loc), va_P G vwCl (wCal T a N (va_up Z 4 g)) H → va_D A (wCal T a N (va_up Z 4 g)) → va_S A H0 H locs → ∀ ls : Array Slot, lv_has ls 4 [(0, .ref (a 0)), (1, .int x), (2, .int (nI (N 1))), (3, .int (nI k))] → W p l e (rmo 1 21) s m ([.ref (a 0), .int x] : List Value).toArray below meth c H locs 0 0 Q (F0 m 7 ls []) := by
    intro fuel
    induction fuel with
    | zero => intro k g hm; exact absurd hm (Nat.not_lt_zero _)
    | succ fuel ih7 =>
      intro k g hm7 hk hg H locs hP hD hS ls hl
      refine lv_iload_n hx hb dX0_appendFeature_7 rfl (lv_at hl 3 rfl) ?_
      refine lv_aload_n hx hb dX0_appendFeature_8 rfl (lv_at hl 0 rfl) ?_
      refine va_get (D := G) (ci := 0) (C := RX0) (T := TX0) (N := 4) hx hb hts iX0 hown hkx.1 hP 0 rfl rfl 0 (by decide) k12 (fun _ h9 => h9) rfl dX0_appendFeature_9 ?_
      refine va_get (D := G) (ci := 4) (C := RX4) (T := TX4) (N := 5) hx hb hts iX4 hown hkx.1 hP 1 rfl rfl 0 (by decide) k46 (fun _ h9 => h9) rfl dX0_appendFeature_12 ?_
      refine lv_icmp_ge (tgt := 47) hx hb dX0_appendFeature_15 (by decide) (fun c_1 => ?_) (fun c_1 => ?_)
      · replace c_1 := cn_le (a := (N 0)) (b := k) (by omega) (by omega) c_1
        refine lv_aload_n hx hb dX0_appendFeature_47 rfl (lv_at hl 0 rfl) ?_
        refine lv_dup hx hb dX0_appendFeature_48 rfl ?_
        refine va_get (D := G) (ci := 0) (C := RX0) (T := TX0) (N := 4) hx hb hts iX0 hown hkx.1 hP 0 rfl rfl 1 (by decide) k18 (fun _ h9 => h9) rfl dX0_appendFeature_49 ?_
        refine lv_iconst (v := 1) hx hb dX0_appendFeature_52 (by decide) ?_
        refine lv_iadd hx hb dX0_appendFeature_53 ?_
        rw [show ((nI (N 1)) + 1) = (nI ((N 1) + 1)) from nI_add (N 1) 1]
        refine va_put (D := G) (ci := 0) (v := .int (nI ((N 1) + 1))) (ty := .int) (C := RX0) (T := TX0) (N := 4) hx hb hts iX0 tyX0 tyX0_ok nmX0 hown hkx.1 hP hD hS 0 rfl rfl 1 (by decide) k18 (fun _ h9 => h9) rfl (by decide +kernel) rfl rfl (Nat.le_of_ble_eq_true rfl) dX0_appendFeature_54 (fun H locs hP hD hS => ?_)
        have hP : va_P G vwCl (wCal T a (va_up N 1 ((N 1) + 1)) (va_up Z 4 g)) H := hP
        have hD : va_D A (wCal T a (va_up N 1 ((N 1) + 1)) (va_up Z 4 g)) := hD
        refine lv_iload_n hx hb dX0_appendFeature_57 rfl (lv_at hl 2 rfl) ?_
        exact hret _ _ _ _ _ (show some (Value.int (nI (N 1))) = some (Value.int (nI (N 1))) ∧ va_P G vwCl (wCal T a (va_up N 1 (N 1 + 1)) (va_up Z 4 (apF (Z 4) x (N 1) (N 0)))) H from ⟨rfl, (by have hk9 : k = N 0 := (by omega); subst hk9; subst hg; exact hP)⟩) rfl hS dX0_appendFeature_58
      · replace c_1 := cn_nle (a := (N 0)) (b := k) (by omega) (by omega) c_1
        refine lv_iload_n hx hb dX0_appendFeature_18 rfl (lv_at hl 1 rfl) ?_
        refine lv_iload_n hx hb dX0_appendFeature_19 rfl (lv_at hl 3 rfl) ?_
        refine ro_SN S hkx (mX5_contains l (x := x) (k := (nI k))) gX0_appendFeature_X5_contains_n49 rfl hkx.2.1 nX5 tX5_contains idX5_contains.2 ⟨Nat.le_of_ble_eq_true rfl, Nat.le_of_ble_eq_true rfl⟩ rfl hl.1 rfl (Nat.le_of_ble_eq_true rfl) dX0_appendFeature_20 ⟨Nat.le_of_ble_eq_true rfl, Nat.le_of_ble_eq_true rfl⟩ (fun r_2 hr_2 => ?_)
        subst hr_2
        refine lv_if_eq (tgt := 41) hx hb dX0_appendFeature_23 (by decide) (fun c_3 => ?_) (fun c_3 => ?_)
        · replace c_3 := bI_e0 c_3
          refine lv_iinc (v := (nI (k + 1))) (lv' := [(3, .int (nI (k + 1))), (0, .ref (a 0)), (1, .int x), (2, .int (nI (N 1)))]) hx hb dX0_appendFeature_41 hl (k := 3) rfl (nI_inc k) (by decide) rfl (fun ls hl => ?_)
          refine lv_goto (tgt := 7) hx hb dX0_appendFeature_44 (by decide) ?_
          exact ih7 (k + 1) g (by omega) (by omega) (by rw [hg, apF]; first | rw [if_pos (by assumption)] | rw [if_neg (Bool.eq_false_iff.mp (by assumption))]) _ _ hP hD hS _ (lv_sub hl [1, 2, 3, 0] rfl)
        · replace c_3 := bI_n0 c_3
          refine lv_aload_n hx hb dX0_appendFeature_26 rfl (lv_at hl 0 rfl) ?_
          refine va_get (D := G) (ci := 0) (C := RX0) (T := TX0) (N := 4) hx hb hts iX0 hown hkx.1 hP 0 rfl rfl 0 (by decide) k12 (fun _ h9 => h9) rfl dX0_appendFeature_27 ?_
          refine va_get (D := G) (ci := 4) (C := RX4) (T := TX4) (N := 5) hx hb hts iX4 hown hkx.1 hP 1 rfl rfl 4 (by decide) k53 (fun _ h9 => h9) rfl dX0_appendFeature_30 ?_
          refine lv_iload_n hx hb dX0_appendFeature_33 rfl (lv_at hl 3 rfl) ?_
          refine lv_dup2_11 hx hb dX0_appendFeature_34 rfl rfl ?_
          refine ia hx hb hkx hP 5 rfl k rfl (by omega) (by decide) dX0_appendFeature_35 ?_
          refine lv_iconst (v := 1) hx hb dX0_appendFeature_36 (by decide) ?_
          refine lv_iload_n hx hb dX0_appendFeature_37 rfl (lv_at hl 2 rfl) ?_
          refine lv_ishl hx hb dX0_appendFeature_38 ?_
          refine lv_ior hx hb dX0_appendFeature_39 ?_
          refine ist hx hb hkx hP hD hS 5 rfl k rfl (by omega) (by decide) dX0_appendFeature_40 (fun H locs hP hD hS => ?_)
          have hP : va_P G vwCl (wCal T a N (va_up Z 4 (upd g k ((g k) ||| (1 <<< ((nI (N 1)) &&& 31)))))) H := hP
          have hD : va_D A (wCal T a N (va_up Z 4 (upd g k ((g k) ||| (1 <<< ((nI (N 1)) &&& 31)))))) := hD
          refine lv_iinc (v := (nI (k + 1))) (lv' := [(3, .int (nI (k + 1))), (0, .ref (a 0)), (1, .int x), (2, .int (nI (N 1)))]) hx hb dX0_appendFeature_41 hl (k := 3) rfl (nI_inc k) (by decide) rfl (fun ls hl => ?_)
          refine lv_goto (tgt := 7) hx hb dX0_appendFeature_44 (by decide) ?_
          exact ih7 (k + 1) (upd g k ((g k) ||| (1 <<< ((nI (N 1)) &&& 31)))) (by omega) (by omega) (by rw [hg, apF]; first | rw [if_pos (by assumption)] | rw [if_neg (Bool.eq_false_iff.mp (by assumption))]) _ _ hP hD hS _ (lv_sub hl [1, 2, 3, 0] rfl)
  exact L7 _ 0 (Z 4) (Nat.lt_succ_self _) (by omega) (by rfl) _ _ hP hD hS _ (lv_sub hl [2, 3, 1, 0] rfl)
