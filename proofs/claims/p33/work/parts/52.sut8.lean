theorem idX5_version : yX5_version.cls = RX5 ∧ yX5_version.cls ≠ "java/lang/invoke/MethodHandle" ∧ yX5_version.cls ≠ "java/lang/invoke/VarHandle" ∧ (parseMethodDescriptor yX5_version.desc).map (fun d => d.parameters.length) = some 2 := by decide +kernel

set_option maxHeartbeats 4000000 in
set_option maxRecDepth 100000 in
theorem mX5_version (l : Launch) (hl0 : l.stackTraces = false) {G : va_G} {T : Nat → ClassId} {sa : Nat → Nat} {A9 : Nat → Prop} {H : Heap} {q : Nat → Nat} {a : Nat → Nat} {N : Nat → Nat} {Z : Nat → Nat → Int32} {b : Nat → Nat → Nat} {M : Nat → Nat → Nat} {Y : Nat → Nat → Nat → Int32} {sc : Nat} {tx : Nat → Int32} {L : Nat} {cu : Nat} {er : Int32} {le : Int32} {nb : Nat → Int32} {nc : Nat} {v : Int32} {w : Int32} (h9 : ∀ q, H.size ≤ q → A9 q) (hP : va_P G vwCl (wMain T q a N Z b M Y sc tx L cu er le nb nc) H) (hwf : wf N Z) : rx l yX5_version wsX5_version 7 104 2 [.ref (q 0), .int v, .int w] G T sa A9 H (fun v9 => (sq (thF v (nI (N 0))) (wiF w 0 4)) = 0 ∧ v9 = some (.int (ofV N Z (tn v) (tn w)))) (fcE (sq (thF v (nI (N 0))) (wiF w 0 4))) := by
  refine rx_of (cc := cX5_version) (maxL := 3) (ret := (some .int)) (own := RX5) (by decide +kernel) rfl rfl (Nat.le_of_ble_eq_true rfl) h9 ?_
  intro p e s m below meth c ls hH S hkx hth hnt hlk hl hri hrd hrv hout
  obtain ⟨hx, hb, hml, hown, hts⟩ := id S
  have hl : lv_has ls 3 [(0, .ref (q 0)), (1, .int v), (2, .int w)] := hl
  have k12 := hts (.fieldLink RX5 12 "SunsetDates" "now" "LSunsetDates$Calendar;") (by decide +kernel)
  have iX5 : ∀ w ∈ wsX50, w ∈ wsX5_version := by decide +kernel
  have k35 := hts (.fieldLink RX5 35 "SunsetDates$Calendar" "versions" "LSunsetDates$Versions;") (by decide +kernel)
  have iX0 : ∀ w ∈ wsX00, w ∈ wsX5_version := by decide +kernel
  have k39 := hts (.fieldLink RX5 39 "SunsetDates$Versions" "count" "I") (by decide +kernel)
  have iX4 : ∀ w ∈ wsX40, w ∈ wsX5_version := by decide +kernel
  have hb2 := hwf.1
  refine lv_iload_n hx hb dX5_version_0 rfl (lv_at hl 1 rfl) ?_
  refine lv_aload_n hx hb dX5_version_1 rfl (lv_at hl 0 rfl) ?_
  refine va_get (D := G) (ci := 5) (C := RX5) (T := TX5) (N := 4) hx hb hts iX5 hown hkx.1 hP 0 rfl rfl 0 (by decide) k12 (fun _ h9 => h9) rfl dX5_version_2 ?_
  refine va_get (D := G) (ci := 0) (C := RX0) (T := TX0) (N := 4) hx hb hts iX0 hown hkx.1 hP 5 rfl rfl 0 (by decide) k35 (fun _ h9 => h9) rfl dX5_version_5 ?_
  refine va_get (D := G) (ci := 4) (C := RX4) (T := TX4) (N := 5) hx hb hts iX4 hown hkx.1 hP 6 rfl rfl 0 (by decide) k39 (fun _ h9 => h9) rfl dX5_version_8 ?_
  refine rx_S S hkx hth (mX5_requireThere l hl0 (sa := sa) (h9 := fun _ h => h) (i := v) (n := (nI (N 0))) ) gX5_version_X5_requireThere rfl idX5_requireThere.2 ⟨Nat.le_of_ble_eq_true rfl, Nat.le_of_ble_eq_true rfl⟩ rfl hl.1 rfl (Nat.le_of_ble_eq_true rfl) dX5_version_11 ⟨Nat.le_of_ble_eq_true rfl, Nat.le_of_ble_eq_true rfl⟩ (fun E ce q H1 hpx hq hv9 hc9 hz9 hk9 => hout E ce q _ _ _ _ _ _ (sq_l hpx) hq hv9 hc9 hz9 hk9 (Nat.le_of_ble_eq_true rfl) (Nat.le_of_ble_eq_true rfl)) (fun v hpost => ?_)
  obtain ⟨hF0, rfl⟩ := hpost
  obtain ⟨k1, hk1, rfl⟩ := thF_nat (n := N 0) hF0 (by omega)
  refine W.eq (g2 := F0 m 14 ls []) rfl ?_
  refine lv_iload_n hx hb dX5_version_14 rfl (lv_at hl 2 rfl) ?_
  refine lv_iconst (v := 0) hx hb dX5_version_15 (by decide) ?_
  refine lv_iconst (v := 4) hx hb dX5_version_16 (by decide) ?_
  refine rx_S S hkx hth (mX5_requireWithin l hl0 (sa := sa) (h9 := fun _ h => h) (v := w) (x := 0) (z := 4) ) gX5_version_X5_requireWithin rfl idX5_requireWithin.2 ⟨Nat.le_of_ble_eq_true rfl, Nat.le_of_ble_eq_true rfl⟩ rfl hl.1 rfl (Nat.le_of_ble_eq_true rfl) dX5_version_17 ⟨Nat.le_of_ble_eq_true rfl, Nat.le_of_ble_eq_true rfl⟩ (fun E ce q H1 hpx hq hv9 hc9 hz9 hk9 => hout E ce q _ _ _ _ _ _ (sq_r hF0 hpx) hq hv9 hc9 hz9 hk9 (Nat.le_of_ble_eq_true rfl) (Nat.le_of_ble_eq_true rfl)) (fun v hpost => ?_)
  obtain ⟨hF1, rfl⟩ := hpost
  obtain ⟨k2, hk2a, hk2, rfl⟩ := wiF_nat (a := 0) (b := 4) hF1
  refine W.eq (g2 := F0 m 20 ls []) rfl ?_
  refine lv_aload_n hx hb dX5_version_20 rfl (lv_at hl 0 rfl) ?_
  refine va_get (D := G) (ci := 5) (C := RX5) (T := TX5) (N := 4) hx hb hts iX5 hown hkx.1 hP 0 rfl rfl 0 (by decide) k12 (fun _ h9 => h9) rfl dX5_version_21 ?_
  refine lv_iload_n hx hb dX5_version_24 rfl (lv_at hl 1 rfl) ?_
  refine lv_iload_n hx hb dX5_version_25 rfl (lv_at hl 2 rfl) ?_
  refine ro_V S hkx (mX0_ofVersion l (v := k1) (w := k2) (hP := P_mid hP) (hv := (by omega)) (hs := (by omega)) (hw := (by omega))) gX5_version_X0_ofVersion rfl idX0_ofVersion ⟨Nat.le_of_ble_eq_true rfl, Nat.le_of_ble_eq_true rfl⟩ hP 5 rfl rfl rfl rfl hl.1 rfl (Nat.le_of_ble_eq_true rfl) dX5_version_26 ⟨Nat.le_of_ble_eq_true rfl, Nat.le_of_ble_eq_true rfl⟩ (fun r_1 hr_1 => ?_)
  subst hr_1
  exact hri _ _ _ _ _ _ rfl rfl (show (sq (thF (nI k1) (nI (N 0))) (wiF (nI k2) 0 4)) = 0 ∧ some (Value.int (ofV N Z k1 k2)) = some (Value.int (ofV N Z (tn (nI k1)) (tn (nI k2)))) from ⟨(sq_0 hF0 hF1), by simp only [tn, nI_clamp (show k1 < 2 ^ 31 by omega), nI_clamp (show k2 < 2 ^ 31 by omega)]⟩) (Nat.le_of_ble_eq_true rfl) (Nat.le_of_ble_eq_true rfl) dX5_version_29

theorem idX5_user : yX5_user.cls = RX5 ∧ yX5_user.cls ≠ "java/lang/invoke/MethodHandle" ∧ yX5_user.cls ≠ "java/lang/invoke/VarHandle" ∧ (parseMethodDescriptor yX5_user.desc).map (fun d => d.parameters.length) = some 2 := by decide +kernel

set_option maxHeartbeats 4000000 in
set_option maxRecDepth 100000 in
theorem mX5_user (l : Launch) (hl0 : l.stackTraces = false) {G : va_G} {T : Nat → ClassId} {sa : Nat → Nat} {A9 : Nat → Prop} {H : Heap} {q : Nat → Nat} {a : Nat → Nat} {N : Nat → Nat} {Z : Nat → Nat → Int32} {b : Nat → Nat → Nat} {M : Nat → Nat → Nat} {Y : Nat → Nat → Nat → Int32} {sc : Nat} {tx : Nat → Int32} {L : Nat} {cu : Nat} {er : Int32} {le : Int32} {nb : Nat → Int32} {nc : Nat} {u : Int32} {w : Int32} (h9 : ∀ q, H.size ≤ q → A9 q) (hP : va_P G vwCl (wMain T q a N Z b M Y sc tx L cu er le nb nc) H) (hwf : wf N Z) : rx l yX5_user wsX5_user 7 104 2 [.ref (q 0), .int u, .int w] G T sa A9 H (fun v9 => (sq (thF u (nI (N 2))) (wiF w 0 5)) = 0 ∧ v9 = some (.int (Z (5 + tn w) (tn u)))) (fcE (sq (thF u (nI (N 2))) (wiF w 0 5))) := by
  refine rx_of (cc := cX5_user) (maxL := 3) (ret := (some .int)) (own := RX5) (by decide +kernel) rfl rfl (Nat.le_of_ble_eq_true rfl) h9 ?_
  intro p e s m below meth c ls hH S hkx hth hnt hlk hl hri hrd hrv hout
  obtain ⟨hx, hb, hml, hown, hts⟩ := id S
  have hl : lv_has ls 3 [(0, .ref (q 0)), (1, .int u), (2, .int w)] := hl
  have k12 := hts (.fieldLink RX5 12 "SunsetDates" "now" "LSunsetDates$Calendar;") (by decide +kernel)
  have iX5 : ∀ w ∈ wsX50, w ∈ wsX5_user := by decide +kernel
  have k80 := hts (.fieldLink RX5 80 "SunsetDates$Calendar" "users" "LSunsetDates$Users;") (by decide +kernel)
  have iX0 : ∀ w ∈ wsX00, w ∈ wsX5_user := by decide +kernel
  have k84 := hts (.fieldLink RX5 84 "SunsetDates$Users" "count" "I") (by decide +kernel)
  have iX3 : ∀ w ∈ wsX30, w ∈ wsX5_user := by decide +kernel
  have hb2 := hwf.1
  refine lv_iload_n hx hb dX5_user_0 rfl (lv_at hl 1 rfl) ?_
  refine lv_aload_n hx hb dX5_user_1 rfl (lv_at hl 0 rfl) ?_
  refine va_get (D := G) (ci := 5) (C := RX5) (T := TX5) (N := 4) hx hb hts iX5 hown hkx.1 hP 0 rfl rfl 0 (by decide) k12 (fun _ h9 => h9) rfl dX5_user_2 ?_
  refine va_get (D := G) (ci := 0) (C := RX0) (T := TX0) (N := 4) hx hb hts iX0 hown hkx.1 hP 5 rfl rfl 2 (by decide) k80 (fun _ h9 => h9) rfl dX5_user_5 ?_
  refine va_get (D := G) (ci := 3) (C := RX3) (T := TX3) (N := 7) hx hb hts iX3 hown hkx.1 hP 11 rfl rfl 0 (by decide) k84 (fun _ h9 => h9) rfl dX5_user_8 ?_
  refine rx_S S hkx hth (mX5_requireThere l hl0 (sa := sa) (h9 := fun _ h => h) (i := u) (n := (nI (N 2))) ) gX5_user_X5_requireThere rfl idX5_requireThere.2 ⟨Nat.le_of_ble_eq_true rfl, Nat.le_of_ble_eq_true rfl⟩ rfl hl.1 rfl (Nat.le_of_ble_eq_true rfl) dX5_user_11 ⟨Nat.le_of_ble_eq_true rfl, Nat.le_of_ble_eq_true rfl⟩ (fun E ce q H1 hpx hq hv9 hc9 hz9 hk9 => hout E ce q _ _ _ _ _ _ (sq_l hpx) hq hv9 hc9 hz9 hk9 (Nat.le_of_ble_eq_true rfl) (Nat.le_of_ble_eq_true rfl)) (fun v hpost => ?_)
  obtain ⟨hF0, rfl⟩ := hpost
  obtain ⟨k1, hk1, rfl⟩ := thF_nat (n := N 2) hF0 (by omega)
  refine W.eq (g2 := F0 m 14 ls []) rfl ?_
  refine lv_iload_n hx hb dX5_user_14 rfl (lv_at hl 2 rfl) ?_
  refine lv_iconst (v := 0) hx hb dX5_user_15 (by decide) ?_
  refine lv_iconst (v := 5) hx hb dX5_user_16 (by decide) ?_
  refine rx_S S hkx hth (mX5_requireWithin l hl0 (sa := sa) (h9 := fun _ h => h) (v := w) (x := 0) (z := 5) ) gX5_user_X5_requireWithin rfl idX5_requireWithin.2 ⟨Nat.le_of_ble_eq_true rfl, Nat.le_of_ble_eq_true rfl⟩ rfl hl.1 rfl (Nat.le_of_ble_eq_true rfl) dX5_user_17 ⟨Nat.le_of_ble_eq_true rfl, Nat.le_of_ble_eq_true rfl⟩ (fun E ce q H1 hpx hq hv9 hc9 hz9 hk9 => hout E ce q _ _ _ _ _ _ (sq_r hF0 hpx) hq hv9 hc9 hz9 hk9 (Nat.le_of_ble_eq_true rfl) (Nat.le_of_ble_eq_true rfl)) (fun v hpost => ?_)
  obtain ⟨hF1, rfl⟩ := hpost
  obtain ⟨k2, hk2a, hk2, rfl⟩ := wiF_nat (a := 0) (b := 5) hF1
  refine W.eq (g2 := F0 m 20 ls []) rfl ?_
  refine lv_aload_n hx hb dX5_user_20 rfl (lv_at hl 0 rfl) ?_
  refine va_get (D := G) (ci := 5) (C := RX5) (T := TX5) (N := 4) hx hb hts iX5 hown hkx.1 hP 0 rfl rfl 0 (by decide) k12 (fun _ h9 => h9) rfl dX5_user_21 ?_
  refine va_get (D := G) (ci := 0) (C := RX0) (T := TX0) (N := 4) hx hb hts iX0 hown hkx.1 hP 5 rfl rfl 2 (by decide) k80 (fun _ h9 => h9) rfl dX5_user_24 ?_
  refine lv_iload_n hx hb dX5_user_27 rfl (lv_at hl 1 rfl) ?_
  refine lv_iload_n hx hb dX5_user_28 rfl (lv_at hl 2 rfl) ?_
  refine ro_V S hkx (mX3_about l (k := k1) (w := k2) (hP := P_mid hP) (hk := (by omega)) (hw := (by omega))) gX5_user_X3_about rfl idX3_about ⟨Nat.le_of_ble_eq_true rfl, Nat.le_of_ble_eq_true rfl⟩ hP 11 rfl rfl rfl rfl hl.1 rfl (Nat.le_of_ble_eq_true rfl) dX5_user_29 ⟨Nat.le_of_ble_eq_true rfl, Nat.le_of_ble_eq_true rfl⟩ (fun r_1 hr_1 => ?_)
  subst hr_1
  exact hri _ _ _ _ _ _ rfl rfl (show (sq (thF (nI k1) (nI (N 2))) (wiF (nI k2) 0 5)) = 0 ∧ some (Value.int (Z (5 + k2) k1)) = some (Value.int (Z (5 + tn (nI k2)) (tn (nI k1)))) from ⟨(sq_0 hF0 hF1), by simp only [tn, nI_clamp (show k1 < 2 ^ 31 by omega), nI_clamp (show k2 < 2 ^ 31 by omega)]⟩) (Nat.le_of_ble_eq_true rfl) (Nat.le_of_ble_eq_true rfl) dX5_user_32

theorem idX5_shim : yX5_shim.cls = RX5 ∧ yX5_shim.cls ≠ "java/lang/invoke/MethodHandle" ∧ yX5_shim.cls ≠ "java/lang/invoke/VarHandle" ∧ (parseMethodDescriptor yX5_shim.desc).map (fun d => d.parameters.length) = some 2 := by decide +kernel

set_option maxHeartbeats 4000000 in
set_option maxRecDepth 100000 in
theorem mX5_shim (l : Launch) (hl0 : l.stackTraces = false) {G : va_G} {T : Nat → ClassId} {sa : Nat → Nat} {A9 : Nat → Prop} {H : Heap} {q : Nat → Nat} {a : Nat → Nat} {N : Nat → Nat} {Z : Nat → Nat → Int32} {b : Nat → Nat → Nat} {M : Nat → Nat → Nat} {Y : Nat → Nat → Nat → Int32} {sc : Nat} {tx : Nat → Int32} {L : Nat} {cu : Nat} {er : Int32} {le : Int32} {nb : Nat → Int32} {nc : Nat} {t : Int32} {w : Int32} (h9 : ∀ q, H.size ≤ q → A9 q) (hP : va_P G vwCl (wMain T q a N Z b M Y sc tx L cu er le nb nc) H) (hwf : wf N Z) : rx l yX5_shim wsX5_shim 7 104 2 [.ref (q 0), .int t, .int w] G T sa A9 H (fun v9 => (sq (thF t (nI (N 3))) (wiF w 0 4)) = 0 ∧ v9 = some (.int (Z (11 + tn w) (tn t)))) (fcE (sq (thF t (nI (N 3))) (wiF w 0 4))) := by
  refine rx_of (cc := cX5_shim) (maxL := 3) (ret := (some .int)) (own := RX5) (by decide +kernel) rfl rfl (Nat.le_of_ble_eq_true rfl) h9 ?_
  intro p e s m below meth c ls hH S hkx hth hnt hlk hl hri hrd hrv hout
  obtain ⟨hx, hb, hml, hown, hts⟩ := id S
  have hl : lv_has ls 3 [(0, .ref (q 0)), (1, .int t), (2, .int w)] := hl
  have k12 := hts (.fieldLink RX5 12 "SunsetDates" "now" "LSunsetDates$Calendar;") (by decide +kernel)
  have iX5 : ∀ w ∈ wsX50, w ∈ wsX5_shim := by decide +kernel
  have k125 := hts (.fieldLink RX5 125 "SunsetDates$Calendar" "shims" "LSunsetDates$Shims;") (by decide +kernel)
  have iX0 : ∀ w ∈ wsX00, w ∈ wsX5_shim := by decide +kernel
  have k139 := hts (.fieldLink RX5 139 "SunsetDates$Shims" "count" "I") (by decide +kernel)
  have iX2 : ∀ w ∈ wsX20, w ∈ wsX5_shim := by decide +kernel
  have hb2 := hwf.1
  refine lv_iload_n hx hb dX5_shim_0 rfl (lv_at hl 1 rfl) ?_
  refine lv_aload_n hx hb dX5_shim_1 rfl (lv_at hl 0 rfl) ?_
  refine va_get (D := G) (ci := 5) (C := RX5) (T := TX5) (N := 4) hx hb hts iX5 hown hkx.1 hP 0 rfl rfl 0 (by decide) k12 (fun _ h9 => h9) rfl dX5_shim_2 ?_
  refine va_get (D := G) (ci := 0) (C := RX0) (T := TX0) (N := 4) hx hb hts iX0 hown hkx.1 hP 5 rfl rfl 3 (by decide) k125 (fun _ h9 => h9) rfl dX5_shim_5 ?_
  refine va_get (D := G) (ci := 2) (C := RX2) (T := TX2) (N := 6) hx hb hts iX2 hown hkx.1 hP 18 rfl rfl 0 (by decide) k139 (fun _ h9 => h9) rfl dX5_shim_8 ?_
  refine rx_S S hkx hth (mX5_requireThere l hl0 (sa := sa) (h9 := fun _ h => h) (i := t) (n := (nI (N 3))) ) gX5_shim_X5_requireThere rfl idX5_requireThere.2 ⟨Nat.le_of_ble_eq_true rfl, Nat.le_of_ble_eq_true rfl⟩ rfl hl.1 rfl (Nat.le_of_ble_eq_true rfl) dX5_shim_11 ⟨Nat.le_of_ble_eq_true rfl, Nat.le_of_ble_eq_true rfl⟩ (fun E ce q H1 hpx hq hv9 hc9 hz9 hk9 => hout E ce q _ _ _ _ _ _ (sq_l hpx) hq hv9 hc9 hz9 hk9 (Nat.le_of_ble_eq_true rfl) (Nat.le_of_ble_eq_true rfl)) (fun v hpost => ?_)
  obtain ⟨hF0, rfl⟩ := hpost
  obtain ⟨k1, hk1, rfl⟩ := thF_nat (n := N 3) hF0 (by omega)
  refine W.eq (g2 := F0 m 14 ls []) rfl ?_
  refine lv_iload_n hx hb dX5_shim_14 rfl (lv_at hl 2 rfl) ?_
  refine lv_iconst (v := 0) hx hb dX5_shim_15 (by decide) ?_
  refine lv_iconst (v := 4) hx hb dX5_shim_16 (by decide) ?_
  refine rx_S S hkx hth (mX5_requireWithin l hl0 (sa := sa) (h9 := fun _ h => h) (v := w) (x := 0) (z := 4) ) gX5_shim_X5_requireWithin rfl idX5_requireWithin.2 ⟨Nat.le_of_ble_eq_true rfl, Nat.le_of_ble_eq_true rfl⟩ rfl hl.1 rfl (Nat.le_of_ble_eq_true rfl) dX5_shim_17 ⟨Nat.le_of_ble_eq_true rfl, Nat.le_of_ble_eq_true rfl⟩ (fun E ce q H1 hpx hq hv9 hc9 hz9 hk9 => hout E ce q _ _ _ _ _ _ (sq_r hF0 hpx) hq hv9 hc9 hz9 hk9 (Nat.le_of_ble_eq_true rfl) (Nat.le_of_ble_eq_true rfl)) (fun v hpost => ?_)
  obtain ⟨hF1, rfl⟩ := hpost
  obtain ⟨k2, hk2a, hk2, rfl⟩ := wiF_nat (a := 0) (b := 4) hF1
  refine W.eq (g2 := F0 m 20 ls []) rfl ?_
  refine lv_aload_n hx hb dX5_shim_20 rfl (lv_at hl 0 rfl) ?_
  refine va_get (D := G) (ci := 5) (C := RX5) (T := TX5) (N := 4) hx hb hts iX5 hown hkx.1 hP 0 rfl rfl 0 (by decide) k12 (fun _ h9 => h9) rfl dX5_shim_21 ?_
  refine va_get (D := G) (ci := 0) (C := RX0) (T := TX0) (N := 4) hx hb hts iX0 hown hkx.1 hP 5 rfl rfl 3 (by decide) k125 (fun _ h9 => h9) rfl dX5_shim_24 ?_
  refine lv_iload_n hx hb dX5_shim_27 rfl (lv_at hl 1 rfl) ?_
  refine lv_iload_n hx hb dX5_shim_28 rfl (lv_at hl 2 rfl) ?_
  refine ro_V S hkx (mX2_about l (k := k1) (w := k2) (hP := P_mid hP) (hk := (by omega)) (hw := (by omega))) gX5_shim_X2_about rfl idX2_about ⟨Nat.le_of_ble_eq_true rfl, Nat.le_of_ble_eq_true rfl⟩ hP 18 rfl rfl rfl rfl hl.1 rfl (Nat.le_of_ble_eq_true rfl) dX5_shim_29 ⟨Nat.le_of_ble_eq_true rfl, Nat.le_of_ble_eq_true rfl⟩ (fun r_1 hr_1 => ?_)
  subst hr_1
  exact hri _ _ _ _ _ _ rfl rfl (show (sq (thF (nI k1) (nI (N 3))) (wiF (nI k2) 0 4)) = 0 ∧ some (Value.int (Z (11 + k2) k1)) = some (Value.int (Z (11 + tn (nI k2)) (tn (nI k1)))) from ⟨(sq_0 hF0 hF1), by simp only [tn, nI_clamp (show k1 < 2 ^ 31 by omega), nI_clamp (show k2 < 2 ^ 31 by omega)]⟩) (Nat.le_of_ble_eq_true rfl) (Nat.le_of_ble_eq_true rfl) dX5_shim_32

theorem idX5_requireUserAndDay : yX5_requireUserAndDay.cls = RX5 ∧ yX5_requireUserAndDay.cls ≠ "java/lang/invoke/MethodHandle" ∧ yX5_requireUserAndDay.cls ≠ "java/lang/invoke/VarHandle" ∧ (parseMethodDescriptor yX5_requireUserAndDay.desc).map (fun d => d.parameters.length) = some 2 := by decide +kernel

set_option maxHeartbeats 4000000 in
set_option maxRecDepth 100000 in
theorem mX5_requireUserAndDay (l : Launch) (hl0 : l.stackTraces = false) {G : va_G} {T : Nat → ClassId} {sa : Nat → Nat} {A9 : Nat → Prop} {H : Heap} {q : Nat → Nat} {a : Nat → Nat} {N : Nat → Nat} {Z : Nat → Nat → Int32} {b : Nat → Nat → Nat} {M : Nat → Nat → Nat} {Y : Nat → Nat → Nat → Int32} {sc : Nat} {tx : Nat → Int32} {L : Nat} {cu : Nat} {er : Int32} {le : Int32} {nb : Nat → Int32} {nc : Nat} {u : Int32} {d : Int32} (h9 : ∀ q, H.size ≤ q → A9 q) (hP : va_P G vwCl (wMain T q a N Z b M Y sc tx L cu er le nb nc) H) : rx l yX5_requireUserAndDay wsX5_requireUserAndDay 8 124 2 [.ref (q 0), .int u, .int d] G T sa A9 H (fun v9 => (sq (thF u (nI (N 2))) (dyF d)) = 0 ∧ v9 = none) (fcE (sq (thF u (nI (N 2))) (dyF d))) := by
  refine rx_of (cc := cX5_requireUserAndDay) (maxL := 3) (ret := none) (own := RX5) (by decide +kernel) rfl rfl (Nat.le_of_ble_eq_true rfl) h9 ?_
  intro p e s m below meth c ls hH S hkx hth hnt hlk hl hri hrd hrv hout
  obtain ⟨hx, hb, hml, hown, hts⟩ := id S
  have hl : lv_has ls 3 [(0, .ref (q 0)), (1, .int u), (2, .int d)] := hl
  have k12 := hts (.fieldLink RX5 12 "SunsetDates" "now" "LSunsetDates$Calendar;") (by decide +kernel)
  have iX5 : ∀ w ∈ wsX50, w ∈ wsX5_requireUserAndDay := by decide +kernel
  have k80 := hts (.fieldLink RX5 80 "SunsetDates$Calendar" "users" "LSunsetDates$Users;") (by decide +kernel)
  have iX0 : ∀ w ∈ wsX00, w ∈ wsX5_requireUserAndDay := by decide +kernel
  have k84 := hts (.fieldLink RX5 84 "SunsetDates$Users" "count" "I") (by decide +kernel)
  have iX3 : ∀ w ∈ wsX30, w ∈ wsX5_requireUserAndDay := by decide +kernel
  refine lv_iload_n hx hb dX5_requireUserAndDay_0 rfl (lv_at hl 1 rfl) ?_
  refine lv_aload_n hx hb dX5_requireUserAndDay_1 rfl (lv_at hl 0 rfl) ?_
  refine va_get (D := G) (ci := 5) (C := RX5) (T := TX5) (N := 4) hx hb hts iX5 hown hkx.1 hP 0 rfl rfl 0 (by decide) k12 (fun _ h9 => h9) rfl dX5_requireUserAndDay_2 ?_
  refine va_get (D := G) (ci := 0) (C := RX0) (T := TX0) (N := 4) hx hb hts iX0 hown hkx.1 hP 5 rfl rfl 2 (by decide) k80 (fun _ h9 => h9) rfl dX5_requireUserAndDay_5 ?_
  refine va_get (D := G) (ci := 3) (C := RX3) (T := TX3) (N := 7) hx hb hts iX3 hown hkx.1 hP 11 rfl rfl 0 (by decide) k84 (fun _ h9 => h9) rfl dX5_requireUserAndDay_8 ?_
  refine rx_S S hkx hth (mX5_requireThere l hl0 (sa := sa) (h9 := fun _ h => h) (i := u) (n := (nI (N 2))) ) gX5_requireUserAndDay_X5_requireThere rfl idX5_requireThere.2 ⟨Nat.le_of_ble_eq_true rfl, Nat.le_of_ble_eq_true rfl⟩ rfl hl.1 rfl (Nat.le_of_ble_eq_true rfl) dX5_requireUserAndDay_11 ⟨Nat.le_of_ble_eq_true rfl, Nat.le_of_ble_eq_true rfl⟩ (fun E ce q H1 hpx hq hv9 hc9 hz9 hk9 => hout E ce q _ _ _ _ _ _ (sq_l hpx) hq hv9 hc9 hz9 hk9 (Nat.le_of_ble_eq_true rfl) (Nat.le_of_ble_eq_true rfl)) (fun v hpost => ?_)
  obtain ⟨hF0, rfl⟩ := hpost
  refine W.eq (g2 := F0 m 14 ls []) rfl ?_
  refine lv_iload_n hx hb dX5_requireUserAndDay_14 rfl (lv_at hl 2 rfl) ?_
  refine rx_S S hkx hth (mX5_requireDay l hl0 (sa := sa) (h9 := fun _ h => h) (d := d) ) gX5_requireUserAndDay_X5_requireDay rfl idX5_requireDay.2 ⟨Nat.le_of_ble_eq_true rfl, Nat.le_of_ble_eq_true rfl⟩ rfl hl.1 rfl (Nat.le_of_ble_eq_true rfl) dX5_requireUserAndDay_15 ⟨Nat.le_of_ble_eq_true rfl, Nat.le_of_ble_eq_true rfl⟩ (fun E ce q H1 hpx hq hv9 hc9 hz9 hk9 => hout E ce q _ _ _ _ _ _ (sq_r hF0 hpx) hq hv9 hc9 hz9 hk9 (Nat.le_of_ble_eq_true rfl) (Nat.le_of_ble_eq_true rfl)) (fun v hpost => ?_)
  obtain ⟨hF1, rfl⟩ := hpost
  refine W.eq (g2 := F0 m 18 ls []) rfl ?_
  exact hrv _ _ _ _ rfl (show (sq (thF u (nI (N 2))) (dyF d)) = 0 ∧ (none : Option Value) = none from ⟨(sq_0 hF0 hF1), rfl⟩) (Nat.le_of_ble_eq_true rfl) (Nat.le_of_ble_eq_true rfl) dX5_requireUserAndDay_18

theorem idX5_versionOn : yX5_versionOn.cls = RX5 ∧ yX5_versionOn.cls ≠ "java/lang/invoke/MethodHandle" ∧ yX5_versionOn.cls ≠ "java/lang/invoke/VarHandle" ∧ (parseMethodDescriptor yX5_versionOn.desc).map (fun d => d.parameters.length) = some 2 := by decide +kernel

set_option maxHeartbeats 4000000 in
set_option maxRecDepth 100000 in
theorem mX5_versionOn (l : Launch) (hl0 : l.stackTraces = false) {G : va_G} {T : Nat → ClassId} {sa : Nat → Nat} {A9 : Nat → Prop} {H : Heap} {q : Nat → Nat} {a : Nat → Nat} {N : Nat → Nat} {Z : Nat → Nat → Int32} {b : Nat → Nat → Nat} {M : Nat → Nat → Nat} {Y : Nat → Nat → Nat → Int32} {sc : Nat} {tx : Nat → Int32} {L : Nat} {cu : Nat} {er : Int32} {le : Int32} {nb : Nat → Int32} {nc : Nat} {u : Int32} {d : Int32} (h9 : ∀ q, H.size ≤ q → A9 q) (hP : va_P G vwCl (wMain T q a N Z b M Y sc tx L cu er le nb nc) H) (hwf : wf N Z) : rx l yX5_versionOn wsX5_versionOn 9 146 2 [.ref (q 0), .int u, .int d] G T sa A9 H (fun v9 => (sq (thF u (nI (N 2))) (dyF d)) = 0 ∧ v9 = some (.int (nI (onN Z (tn u) d)))) (fcE (sq (thF u (nI (N 2))) (dyF d))) := by
  refine rx_of (cc := cX5_versionOn) (maxL := 3) (ret := (some .int)) (own := RX5) (by decide +kernel) rfl rfl (Nat.le_of_ble_eq_true rfl) h9 ?_
  intro p e s m below meth c ls hH S hkx hth hnt hlk hl hri hrd hrv hout
  obtain ⟨hx, hb, hml, hown, hts⟩ := id S
  have hl : lv_has ls 3 [(0, .ref (q 0)), (1, .int u), (2, .int d)] := hl
  have k12 := hts (.fieldLink RX5 12 "SunsetDates" "now" "LSunsetDates$Calendar;") (by decide +kernel)
  have iX5 : ∀ w ∈ wsX50, w ∈ wsX5_versionOn := by decide +kernel
  have k80 := hts (.fieldLink RX5 80 "SunsetDates$Calendar" "users" "LSunsetDates$Users;") (by decide +kernel)
  have iX0 : ∀ w ∈ wsX00, w ∈ wsX5_versionOn := by decide +kernel
  have hb2 := hwf.1
  refine lv_aload_n hx hb dX5_versionOn_0 rfl (lv_at hl 0 rfl) ?_
  refine lv_iload_n hx hb dX5_versionOn_1 rfl (lv_at hl 1 rfl) ?_
  refine lv_iload_n hx hb dX5_versionOn_2 rfl (lv_at hl 2 rfl) ?_
  refine rx_V S hkx hth (mX5_requireUserAndDay l hl0 (sa := sa) (h9 := fun _ h => h) (u := u) (d := d) (hP := hP)) gX5_versionOn_X5_requireUserAndDay rfl idX5_requireUserAndDay ⟨Nat.le_of_ble_eq_true rfl, Nat.le_of_ble_eq_true rfl⟩ hP 0 rfl rfl rfl rfl hl.1 rfl (Nat.le_of_ble_eq_true rfl) dX5_versionOn_3 ⟨Nat.le_of_ble_eq_true rfl, Nat.le_of_ble_eq_true rfl⟩ (fun E ce q H1 hpx hq hv9 hc9 hz9 hk9 => hout E ce q _ _ _ _ _ _ hpx hq hv9 hc9 hz9 hk9 (Nat.le_of_ble_eq_true rfl) (Nat.le_of_ble_eq_true rfl)) (fun v hpost => ?_)
  obtain ⟨hF0, rfl⟩ := hpost
  obtain ⟨hFa, hFb⟩ := sq_z hF0
  obtain ⟨k1, hk1, rfl⟩ := thF_nat (n := N 2) hFa (by omega)
  refine W.eq (g2 := F0 m 6 ls []) rfl ?_
  refine lv_aload_n hx hb dX5_versionOn_6 rfl (lv_at hl 0 rfl) ?_
  refine va_get (D := G) (ci := 5) (C := RX5) (T := TX5) (N := 4) hx hb hts iX5 hown hkx.1 hP 0 rfl rfl 0 (by decide) k12 (fun _ h9 => h9) rfl dX5_versionOn_7 ?_
  refine va_get (D := G) (ci := 0) (C := RX0) (T := TX0) (N := 4) hx hb hts iX0 hown hkx.1 hP 5 rfl rfl 2 (by decide) k80 (fun _ h9 => h9) rfl dX5_versionOn_10 ?_
  refine lv_iload_n hx hb dX5_versionOn_13 rfl (lv_at hl 1 rfl) ?_
  refine lv_iload_n hx hb dX5_versionOn_14 rfl (lv_at hl 2 rfl) ?_
  refine ro_V S hkx (mX3_placeOn l (u := k1) (d := d) (hP := P_mid hP) (hwf := hwf) (hu := (by omega))) gX5_versionOn_X3_placeOn rfl idX3_placeOn ⟨Nat.le_of_ble_eq_true rfl, Nat.le_of_ble_eq_true rfl⟩ hP 11 rfl rfl rfl rfl hl.1 rfl (Nat.le_of_ble_eq_true rfl) dX5_versionOn_15 ⟨Nat.le_of_ble_eq_true rfl, Nat.le_of_ble_eq_true rfl⟩ (fun r_1 hr_1 => ?_)
  subst hr_1
  have ho := (on_spec hwf (show k1 < N 2 by omega) d).2
  exact hri _ _ _ _ _ _ rfl rfl (show (sq (thF (nI k1) (nI (N 2))) (dyF d)) = 0 ∧ some (Value.int (nI (onN Z k1 d))) = some (Value.int (nI (onN Z (tn (nI k1)) d))) from ⟨hF0, by simp only [tn, nI_clamp (show k1 < 2 ^ 31 by omega)]⟩) (Nat.le_of_ble_eq_true rfl) (Nat.le_of_ble_eq_true rfl) dX5_versionOn_18

theorem idX5_served : yX5_served.cls = RX5 ∧ yX5_served.cls ≠ "java/lang/invoke/MethodHandle" ∧ yX5_served.cls ≠ "java/lang/invoke/VarHandle" ∧ (parseMethodDescriptor yX5_served.desc).map (fun d => d.parameters.length) = some 3 := by decide +kernel

set_option maxHeartbeats 4000000 in
set_option maxRecDepth 100000 in
theorem mX5_served (l : Launch) (hl0 : l.stackTraces = false) {G : va_G} {T : Nat → ClassId} {sa : Nat → Nat} {A9 : Nat → Prop} {H : Heap} {q : Nat → Nat} {a : Nat → Nat} {N : Nat → Nat} {Z : Nat → Nat → Int32} {b : Nat → Nat → Nat} {M : Nat → Nat → Nat} {Y : Nat → Nat → Nat → Int32} {sc : Nat} {tx : Nat → Int32} {L : Nat} {cu : Nat} {er : Int32} {le : Int32} {nb : Nat → Int32} {nc : Nat} {u : Int32} {f : Int32} {d : Int32} (h9 : ∀ q, H.size ≤ q → A9 q) (hP : va_P G vwCl (wMain T q a N Z b M Y sc tx L cu er le nb nc) H) (hwf : wf N Z) : rx l yX5_served wsX5_served 8 124 3 [.ref (q 0), .int u, .int f, .int d] G T sa A9 H (fun v9 => (sq (thF u (nI (N 2))) (sq (thF f (nI (N 1))) (dyF d))) = 0 ∧ v9 = some (.int (hsv N Z (tn u) f d))) (fcE (sq (thF u (nI (N 2))) (sq (thF f (nI (N 1))) (dyF d)))) := by
  refine rx_of (cc := cX5_served) (maxL := 4) (ret := (some .int)) (own := RX5) (by decide +kernel) rfl rfl (Nat.le_of_ble_eq_true rfl) h9 ?_
  intro p e s m below meth c ls hH S hkx hth hnt hlk hl hri hrd hrv hout
  obtain ⟨hx, hb, hml, hown, hts⟩ := id S
  have hl : lv_has ls 4 [(0, .ref (q 0)), (1, .int u), (2, .int f), (3, .int d)] := hl
  have k12 := hts (.fieldLink RX5 12 "SunsetDates" "now" "LSunsetDates$Calendar;") (by decide +kernel)
  have iX5 : ∀ w ∈ wsX50, w ∈ wsX5_served := by decide +kernel
  have k80 := hts (.fieldLink RX5 80 "SunsetDates$Calendar" "users" "LSunsetDates$Users;") (by decide +kernel)
  have iX0 : ∀ w ∈ wsX00, w ∈ wsX5_served := by decide +kernel
  have k84 := hts (.fieldLink RX5 84 "SunsetDates$Users" "count" "I") (by decide +kernel)
  have iX3 : ∀ w ∈ wsX30, w ∈ wsX5_served := by decide +kernel
  have k59 := hts (.fieldLink RX5 59 "SunsetDates$Calendar" "featureCount" "I") (by decide +kernel)
  have hb2 := hwf.1
  refine lv_iload_n hx hb dX5_served_0 rfl (lv_at hl 1 rfl) ?_
  refine lv_aload_n hx hb dX5_served_1 rfl (lv_at hl 0 rfl) ?_
  refine va_get (D := G) (ci := 5) (C := RX5) (T := TX5) (N := 4) hx hb hts iX5 hown hkx.1 hP 0 rfl rfl 0 (by decide) k12 (fun _ h9 => h9) rfl dX5_served_2 ?_
  refine va_get (D := G) (ci := 0) (C := RX0) (T := TX0) (N := 4) hx hb hts iX0 hown hkx.1 hP 5 rfl rfl 2 (by decide) k80 (fun _ h9 => h9) rfl dX5_served_5 ?_
  refine va_get (D := G) (ci := 3) (C := RX3) (T := TX3) (N := 7) hx hb hts iX3 hown hkx.1 hP 11 rfl rfl 0 (by decide) k84 (fun _ h9 => h9) rfl dX5_served_8 ?_
  refine rx_S S hkx hth (mX5_requireThere l hl0 (sa := sa) (h9 := fun _ h => h) (i := u) (n := (nI (N 2))) ) gX5_served_X5_requireThere rfl idX5_requireThere.2 ⟨Nat.le_of_ble_eq_true rfl, Nat.le_of_ble_eq_true rfl⟩ rfl hl.1 rfl (Nat.le_of_ble_eq_true rfl) dX5_served_11 ⟨Nat.le_of_ble_eq_true rfl, Nat.le_of_ble_eq_true rfl⟩ (fun E ce q H1 hpx hq hv9 hc9 hz9 hk9 => hout E ce q _ _ _ _ _ _ (sq_l hpx) hq hv9 hc9 hz9 hk9 (Nat.le_of_ble_eq_true rfl) (Nat.le_of_ble_eq_true rfl)) (fun v hpost => ?_)
  obtain ⟨hF0, rfl⟩ := hpost
  obtain ⟨k1, hk1, rfl⟩ := thF_nat (n := N 2) hF0 (by omega)
  refine W.eq (g2 := F0 m 14 ls []) rfl ?_
  refine lv_iload_n hx hb dX5_served_14 rfl (lv_at hl 2 rfl) ?_
  refine lv_aload_n hx hb dX5_served_15 rfl (lv_at hl 0 rfl) ?_
  refine va_get (D := G) (ci := 5) (C := RX5) (T := TX5) (N := 4) hx hb hts iX5 hown hkx.1 hP 0 rfl rfl 0 (by decide) k12 (fun _ h9 => h9) rfl dX5_served_16 ?_
  refine va_get (D := G) (ci := 0) (C := RX0) (T := TX0) (N := 4) hx hb hts iX0 hown hkx.1 hP 5 rfl rfl 1 (by decide) k59 (fun _ h9 => h9) rfl dX5_served_19 ?_
  refine rx_S S hkx hth (mX5_requireThere l hl0 (sa := sa) (h9 := fun _ h => h) (i := f) (n := (nI (N 1))) ) gX5_served_X5_requireThere rfl idX5_requireThere.2 ⟨Nat.le_of_ble_eq_true rfl, Nat.le_of_ble_eq_true rfl⟩ rfl hl.1 rfl (Nat.le_of_ble_eq_true rfl) dX5_served_22 ⟨Nat.le_of_ble_eq_true rfl, Nat.le_of_ble_eq_true rfl⟩ (fun E ce q H1 hpx hq hv9 hc9 hz9 hk9 => hout E ce q _ _ _ _ _ _ (sq_r hF0 (sq_l hpx)) hq hv9 hc9 hz9 hk9 (Nat.le_of_ble_eq_true rfl) (Nat.le_of_ble_eq_true rfl)) (fun v hpost => ?_)
  obtain ⟨hF1, rfl⟩ := hpost
  refine W.eq (g2 := F0 m 25 ls []) rfl ?_
  refine lv_iload_n hx hb dX5_served_25 rfl (lv_at hl 3 rfl) ?_
  refine rx_S S hkx hth (mX5_requireDay l hl0 (sa := sa) (h9 := fun _ h => h) (d := d) ) gX5_served_X5_requireDay rfl idX5_requireDay.2 ⟨Nat.le_of_ble_eq_true rfl, Nat.le_of_ble_eq_true rfl⟩ rfl hl.1 rfl (Nat.le_of_ble_eq_true rfl) dX5_served_26 ⟨Nat.le_of_ble_eq_true rfl, Nat.le_of_ble_eq_true rfl⟩ (fun E ce q H1 hpx hq hv9 hc9 hz9 hk9 => hout E ce q _ _ _ _ _ _ (sq_r hF0 (sq_r hF1 hpx)) hq hv9 hc9 hz9 hk9 (Nat.le_of_ble_eq_true rfl) (Nat.le_of_ble_eq_true rfl)) (fun v hpost => ?_)
  obtain ⟨hF2, rfl⟩ := hpost
  refine W.eq (g2 := F0 m 29 ls []) rfl ?_
  refine lv_aload_n hx hb dX5_served_29 rfl (lv_at hl 0 rfl) ?_
  refine va_get (D := G) (ci := 5) (C := RX5) (T := TX5) (N := 4) hx hb hts iX5 hown hkx.1 hP 0 rfl rfl 0 (by decide) k12 (fun _ h9 => h9) rfl dX5_served_30 ?_
  refine lv_iload_n hx hb dX5_served_33 rfl (lv_at hl 1 rfl) ?_
  refine lv_iload_n hx hb dX5_served_34 rfl (lv_at hl 2 rfl) ?_
  refine lv_iload_n hx hb dX5_served_35 rfl (lv_at hl 3 rfl) ?_
  refine ro_V S hkx (mX0_howServed l (u := k1) (f := f) (d := d) (hP := P_mid hP) (hwf := hwf) (hu := (by omega))) gX5_served_X0_howServed rfl idX0_howServed ⟨Nat.le_of_ble_eq_true rfl, Nat.le_of_ble_eq_true rfl⟩ hP 5 rfl rfl rfl rfl hl.1 rfl (Nat.le_of_ble_eq_true rfl) dX5_served_36 ⟨Nat.le_of_ble_eq_true rfl, Nat.le_of_ble_eq_true rfl⟩ (fun r_1 hr_1 => ?_)
  subst hr_1
  exact hri _ _ _ _ _ _ rfl rfl (show (sq (thF (nI k1) (nI (N 2))) (sq (thF f (nI (N 1))) (dyF d))) = 0 ∧ some (Value.int (hsv N Z k1 f d)) = some (Value.int (hsv N Z (tn (nI k1)) f d)) from ⟨(sq_0 hF0 (sq_0 hF1 hF2)), by simp only [tn, nI_clamp (show k1 < 2 ^ 31 by omega)]⟩) (Nat.le_of_ble_eq_true rfl) (Nat.le_of_ble_eq_true rfl) dX5_served_39

theorem idX5_missing : yX5_missing.cls = RX5 ∧ yX5_missing.cls ≠ "java/lang/invoke/MethodHandle" ∧ yX5_missing.cls ≠ "java/lang/invoke/VarHandle" ∧ (parseMethodDescriptor yX5_missing.desc).map (fun d => d.parameters.length) = some 2 := by decide +kernel

set_option maxHeartbeats 4000000 in
set_option maxRecDepth 100000 in
theorem mX5_missing (l : Launch) (hl0 : l.stackTraces = false) {G : va_G} {T : Nat → ClassId} {sa : Nat → Nat} {A9 : Nat → Prop} {H : Heap} {q : Nat → Nat} {a : Nat → Nat} {N : Nat → Nat} {Z : Nat → Nat → Int32} {b : Nat → Nat → Nat} {M : Nat → Nat → Nat} {Y : Nat → Nat → Nat → Int32} {sc : Nat} {tx : Nat → Int32} {L : Nat} {cu : Nat} {er : Int32} {le : Int32} {nb : Nat → Int32} {nc : Nat} {u : Int32} {d : Int32} (h9 : ∀ q, H.size ≤ q → A9 q) (hP : va_P G vwCl (wMain T q a N Z b M Y sc tx L cu er le nb nc) H) (hwf : wf N Z) : rx l yX5_missing wsX5_missing 9 146 2 [.ref (q 0), .int u, .int d] G T sa A9 H (fun v9 => (sq (thF u (nI (N 2))) (dyF d)) = 0 ∧ v9 = some (.int (unU N Z (tn u) d))) (fcE (sq (thF u (nI (N 2))) (dyF d))) := by
  refine rx_of (cc := cX5_missing) (maxL := 3) (ret := (some .int)) (own := RX5) (by decide +kernel) rfl rfl (Nat.le_of_ble_eq_true rfl) h9 ?_
  intro p e s m below meth c ls hH S hkx hth hnt hlk hl hri hrd hrv hout
  obtain ⟨hx, hb, hml, hown, hts⟩ := id S
  have hl : lv_has ls 3 [(0, .ref (q 0)), (1, .int u), (2, .int d)] := hl
  have k12 := hts (.fieldLink RX5 12 "SunsetDates" "now" "LSunsetDates$Calendar;") (by decide +kernel)
  have iX5 : ∀ w ∈ wsX50, w ∈ wsX5_missing := by decide +kernel
  have hb2 := hwf.1
  refine lv_aload_n hx hb dX5_missing_0 rfl (lv_at hl 0 rfl) ?_
  refine lv_iload_n hx hb dX5_missing_1 rfl (lv_at hl 1 rfl) ?_
  refine lv_iload_n hx hb dX5_missing_2 rfl (lv_at hl 2 rfl) ?_
  refine rx_V S hkx hth (mX5_requireUserAndDay l hl0 (sa := sa) (h9 := fun _ h => h) (u := u) (d := d) (hP := hP)) gX5_missing_X5_requireUserAndDay rfl idX5_requireUserAndDay ⟨Nat.le_of_ble_eq_true rfl, Nat.le_of_ble_eq_true rfl⟩ hP 0 rfl rfl rfl rfl hl.1 rfl (Nat.le_of_ble_eq_true rfl) dX5_missing_3 ⟨Nat.le_of_ble_eq_true rfl, Nat.le_of_ble_eq_true rfl⟩ (fun E ce q H1 hpx hq hv9 hc9 hz9 hk9 => hout E ce q _ _ _ _ _ _ hpx hq hv9 hc9 hz9 hk9 (Nat.le_of_ble_eq_true rfl) (Nat.le_of_ble_eq_true rfl)) (fun v hpost => ?_)
  obtain ⟨hF0, rfl⟩ := hpost
  obtain ⟨hFa, hFb⟩ := sq_z hF0
  obtain ⟨k1, hk1, rfl⟩ := thF_nat (n := N 2) hFa (by omega)
  refine W.eq (g2 := F0 m 6 ls []) rfl ?_
  refine lv_aload_n hx hb dX5_missing_6 rfl (lv_at hl 0 rfl) ?_
  refine va_get (D := G) (ci := 5) (C := RX5) (T := TX5) (N := 4) hx hb hts iX5 hown hkx.1 hP 0 rfl rfl 0 (by decide) k12 (fun _ h9 => h9) rfl dX5_missing_7 ?_
  refine lv_iload_n hx hb dX5_missing_10 rfl (lv_at hl 1 rfl) ?_
  refine lv_iload_n hx hb dX5_missing_11 rfl (lv_at hl 2 rfl) ?_
  refine ro_V S hkx (mX0_unservedUses l (u := k1) (d := d) (hP := P_mid hP) (hwf := hwf) (hu := (by omega))) gX5_missing_X0_unservedUses rfl idX0_unservedUses ⟨Nat.le_of_ble_eq_true rfl, Nat.le_of_ble_eq_true rfl⟩ hP 5 rfl rfl rfl rfl hl.1 rfl (Nat.le_of_ble_eq_true rfl) dX5_missing_12 ⟨Nat.le_of_ble_eq_true rfl, Nat.le_of_ble_eq_true rfl⟩ (fun r_1 hr_1 => ?_)
  subst hr_1
  exact hri _ _ _ _ _ _ rfl rfl (show (sq (thF (nI k1) (nI (N 2))) (dyF d)) = 0 ∧ some (Value.int (unU N Z k1 d)) = some (Value.int (unU N Z (tn (nI k1)) d)) from ⟨hF0, by simp only [tn, nI_clamp (show k1 < 2 ^ 31 by omega)]⟩) (Nat.le_of_ble_eq_true rfl) (Nat.le_of_ble_eq_true rfl) dX5_missing_15

theorem idX5_stranded : yX5_stranded.cls = RX5 ∧ yX5_stranded.cls ≠ "java/lang/invoke/MethodHandle" ∧ yX5_stranded.cls ≠ "java/lang/invoke/VarHandle" ∧ (parseMethodDescriptor yX5_stranded.desc).map (fun d => d.parameters.length) = some 1 := by decide +kernel

set_option maxHeartbeats 4000000 in
set_option maxRecDepth 100000 in
theorem mX5_stranded (l : Launch) (hl0 : l.stackTraces = false) {G : va_G} {T : Nat → ClassId} {sa : Nat → Nat} {A9 : Nat → Prop} {H : Heap} {q : Nat → Nat} {a : Nat → Nat} {N : Nat → Nat} {Z : Nat → Nat → Int32} {b : Nat → Nat → Nat} {M : Nat → Nat → Nat} {Y : Nat → Nat → Nat → Int32} {sc : Nat} {tx : Nat → Int32} {L : Nat} {cu : Nat} {er : Int32} {le : Int32} {nb : Nat → Int32} {nc : Nat} {d : Int32} (h9 : ∀ q, H.size ≤ q → A9 q) (hP : va_P G vwCl (wMain T q a N Z b M Y sc tx L cu er le nb nc) H) (hwf : wf N Z) : rx l yX5_stranded wsX5_stranded 8 124 1 [.ref (q 0), .int d] G T sa A9 H (fun v9 => (dyF d) = 0 ∧ v9 = some (.int (stU N Z d (N 2)))) (fcE (dyF d)) := by
  refine rx_of (cc := cX5_stranded) (maxL := 2) (ret := (some .int)) (own := RX5) (by decide +kernel) rfl rfl (Nat.le_of_ble_eq_true rfl) h9 ?_
  intro p e s m below meth c ls hH S hkx hth hnt hlk hl hri hrd hrv hout
  obtain ⟨hx, hb, hml, hown, hts⟩ := id S
  have hl : lv_has ls 2 [(0, .ref (q 0)), (1, .int d)] := hl
  have k12 := hts (.fieldLink RX5 12 "SunsetDates" "now" "LSunsetDates$Calendar;") (by decide +kernel)
  have iX5 : ∀ w ∈ wsX50, w ∈ wsX5_stranded := by decide +kernel
  have hb2 := hwf.1
  refine lv_iload_n hx hb dX5_stranded_0 rfl (lv_at hl 1 rfl) ?_
  refine rx_S S hkx hth (mX5_requireDay l hl0 (sa := sa) (h9 := fun _ h => h) (d := d) ) gX5_stranded_X5_requireDay rfl idX5_requireDay.2 ⟨Nat.le_of_ble_eq_true rfl, Nat.le_of_ble_eq_true rfl⟩ rfl hl.1 rfl (Nat.le_of_ble_eq_true rfl) dX5_stranded_1 ⟨Nat.le_of_ble_eq_true rfl, Nat.le_of_ble_eq_true rfl⟩ (fun E ce q H1 hpx hq hv9 hc9 hz9 hk9 => hout E ce q _ _ _ _ _ _ hpx hq hv9 hc9 hz9 hk9 (Nat.le_of_ble_eq_true rfl) (Nat.le_of_ble_eq_true rfl)) (fun v hpost => ?_)
  obtain ⟨hF0, rfl⟩ := hpost
  refine W.eq (g2 := F0 m 4 ls []) rfl ?_
  refine lv_aload_n hx hb dX5_stranded_4 rfl (lv_at hl 0 rfl) ?_
  refine va_get (D := G) (ci := 5) (C := RX5) (T := TX5) (N := 4) hx hb hts iX5 hown hkx.1 hP 0 rfl rfl 0 (by decide) k12 (fun _ h9 => h9) rfl dX5_stranded_5 ?_
  refine lv_iload_n hx hb dX5_stranded_8 rfl (lv_at hl 1 rfl) ?_
  refine ro_V S hkx (mX0_strandedUsers l (d := d) (hP := P_mid hP) (hwf := hwf)) gX5_stranded_X0_strandedUsers rfl idX0_strandedUsers ⟨Nat.le_of_ble_eq_true rfl, Nat.le_of_ble_eq_true rfl⟩ hP 5 rfl rfl rfl rfl hl.1 rfl (Nat.le_of_ble_eq_true rfl) dX5_stranded_9 ⟨Nat.le_of_ble_eq_true rfl, Nat.le_of_ble_eq_true rfl⟩ (fun r_1 hr_1 => ?_)
  subst hr_1
  exact hri _ _ _ _ _ _ rfl rfl (show (dyF d) = 0 ∧ some (Value.int (stU N Z d (N 2))) = some (Value.int (stU N Z d (N 2))) from ⟨hF0, rfl⟩) (Nat.le_of_ble_eq_true rfl) (Nat.le_of_ble_eq_true rfl) dX5_stranded_12

theorem idX5_costs : yX5_costs.cls = RX5 ∧ yX5_costs.cls ≠ "java/lang/invoke/MethodHandle" ∧ yX5_costs.cls ≠ "java/lang/invoke/VarHandle" ∧ (parseMethodDescriptor yX5_costs.desc).map (fun d => d.parameters.length) = some 2 := by decide +kernel

set_option maxHeartbeats 4000000 in
set_option maxRecDepth 100000 in
theorem mX5_costs (l : Launch) (hl0 : l.stackTraces = false) {G : va_G} {T : Nat → ClassId} {sa : Nat → Nat} {A9 : Nat → Prop} {H : Heap} {q : Nat → Nat} {a : Nat → Nat} {N : Nat → Nat} {Z : Nat → Nat → Int32} {b : Nat → Nat → Nat} {M : Nat → Nat → Nat} {Y : Nat → Nat → Nat → Int32} {sc : Nat} {tx : Nat → Int32} {L : Nat} {cu : Nat} {er : Int32} {le : Int32} {nb : Nat → Int32} {nc : Nat} {f : Int32} {w : Int32} (h9 : ∀ q, H.size ≤ q → A9 q) (hP : va_P G vwCl (wMain T q a N Z b M Y sc tx L cu er le nb nc) H) (hwf : wf N Z) : rx l yX5_costs wsX5_costs 9 145 2 [.ref (q 0), .int f, .int w] G T sa A9 H (fun v9 => (sq (dyF f) (wiF w f 999)) = 0 ∧ v9 = some (.int (smD (cAlD N Z) (tn f) (tn w + 1 - tn f)))) (fcE (sq (dyF f) (wiF w f 999))) := by
  refine rx_of (cc := cX5_costs) (maxL := 3) (ret := (some .int)) (own := RX5) (by decide +kernel) rfl rfl (Nat.le_of_ble_eq_true rfl) h9 ?_
  intro p e s m below meth c ls hH S hkx hth hnt hlk hl hri hrd hrv hout
  obtain ⟨hx, hb, hml, hown, hts⟩ := id S
  have hl : lv_has ls 3 [(0, .ref (q 0)), (1, .int f), (2, .int w)] := hl
  have k12 := hts (.fieldLink RX5 12 "SunsetDates" "now" "LSunsetDates$Calendar;") (by decide +kernel)
  have iX5 : ∀ w ∈ wsX50, w ∈ wsX5_costs := by decide +kernel
  have hb2 := hwf.1
  refine lv_iload_n hx hb dX5_costs_0 rfl (lv_at hl 1 rfl) ?_
  refine lv_iload_n hx hb dX5_costs_1 rfl (lv_at hl 2 rfl) ?_
  refine rx_S S hkx hth (mX5_requireDays l hl0 (sa := sa) (h9 := fun _ h => h) (f := f) (w := w) ) gX5_costs_X5_requireDays rfl idX5_requireDays.2 ⟨Nat.le_of_ble_eq_true rfl, Nat.le_of_ble_eq_true rfl⟩ rfl hl.1 rfl (Nat.le_of_ble_eq_true rfl) dX5_costs_2 ⟨Nat.le_of_ble_eq_true rfl, Nat.le_of_ble_eq_true rfl⟩ (fun E ce q H1 hpx hq hv9 hc9 hz9 hk9 => hout E ce q _ _ _ _ _ _ hpx hq hv9 hc9 hz9 hk9 (Nat.le_of_ble_eq_true rfl) (Nat.le_of_ble_eq_true rfl)) (fun v hpost => ?_)
  obtain ⟨hF0, rfl⟩ := hpost
  obtain ⟨hFa, hFb⟩ := sq_z hF0
  obtain ⟨k1, hk1a, hk1, rfl⟩ := wiF_nat (a := 0) (b := 999) hFa
  obtain ⟨k2, hk2a, hk2, rfl⟩ := wiF_nat (a := k1) (b := 999) hFb
  refine W.eq (g2 := F0 m 5 ls []) rfl ?_
  refine lv_aload_n hx hb dX5_costs_5 rfl (lv_at hl 0 rfl) ?_
  refine va_get (D := G) (ci := 5) (C := RX5) (T := TX5) (N := 4) hx hb hts iX5 hown hkx.1 hP 0 rfl rfl 0 (by decide) k12 (fun _ h9 => h9) rfl dX5_costs_6 ?_
  refine lv_iload_n hx hb dX5_costs_9 rfl (lv_at hl 1 rfl) ?_
  refine lv_iload_n hx hb dX5_costs_10 rfl (lv_at hl 2 rfl) ?_
  refine ro_V S hkx (mX0_costOfAll l (f := k1) (w := k2) (hP := P_mid hP) (hwf := hwf) (hfl := (by omega)) (hl9 := (by omega))) gX5_costs_X0_costOfAll rfl idX0_costOfAll ⟨Nat.le_of_ble_eq_true rfl, Nat.le_of_ble_eq_true rfl⟩ hP 5 rfl rfl rfl rfl hl.1 rfl (Nat.le_of_ble_eq_true rfl) dX5_costs_11 ⟨Nat.le_of_ble_eq_true rfl, Nat.le_of_ble_eq_true rfl⟩ (fun r_1 hr_1 => ?_)
  subst hr_1
  exact hri _ _ _ _ _ _ rfl rfl (show (sq (dyF (nI k1)) (wiF (nI k2) (nI k1) 999)) = 0 ∧ some (Value.int (smD (cAlD N Z) k1 (k2 + 1 - k1))) = some (Value.int (smD (cAlD N Z) (tn (nI k1)) (tn (nI k2) + 1 - tn (nI k1)))) from ⟨hF0, by simp only [tn, nI_clamp (show k1 < 2 ^ 31 by omega), nI_clamp (show k2 < 2 ^ 31 by omega)]⟩) (Nat.le_of_ble_eq_true rfl) (Nat.le_of_ble_eq_true rfl) dX5_costs_14

theorem idX5_value : yX5_value.cls = RX5 ∧ yX5_value.cls ≠ "java/lang/invoke/MethodHandle" ∧ yX5_value.cls ≠ "java/lang/invoke/VarHandle" ∧ (parseMethodDescriptor yX5_value.desc).map (fun d => d.parameters.length) = some 1 := by decide +kernel

set_option maxHeartbeats 4000000 in
set_option maxRecDepth 100000 in
theorem mX5_value (l : Launch) (hl0 : l.stackTraces = false) {G : va_G} {T : Nat → ClassId} {sa : Nat → Nat} {A9 : Nat → Prop} {H : Heap} {q : Nat → Nat} {a : Nat → Nat} {N : Nat → Nat} {Z : Nat → Nat → Int32} {b : Nat → Nat → Nat} {M : Nat → Nat → Nat} {Y : Nat → Nat → Nat → Int32} {sc : Nat} {tx : Nat → Int32} {L : Nat} {cu : Nat} {er : Int32} {le : Int32} {nb : Nat → Int32} {nc : Nat} {w : Int32} (h9 : ∀ q, H.size ≤ q → A9 q) (hP : va_P G vwCl (wMain T q a N Z b M Y sc tx L cu er le nb nc) H) (hwf : wf N Z) : rx l yX5_value wsX5_value 7 159 1 [.ref (q 0), .int w] G T sa A9 H (fun v9 => (wiF w 0 7) = 0 ∧ v9 = some (.int (nmb N Z (tn w)))) (fcE (wiF w 0 7)) := by
  refine rx_of (cc := cX5_value) (maxL := 2) (ret := (some .int)) (own := RX5) (by decide +kernel) rfl rfl (Nat.le_of_ble_eq_true rfl) h9 ?_
  intro p e s m below meth c ls hH S hkx hth hnt hlk hl hri hrd hrv hout
  obtain ⟨hx, hb, hml, hown, hts⟩ := id S
  have hl : lv_has ls 2 [(0, .ref (q 0)), (1, .int w)] := hl
  have k12 := hts (.fieldLink RX5 12 "SunsetDates" "now" "LSunsetDates$Calendar;") (by decide +kernel)
  have iX5 : ∀ w ∈ wsX50, w ∈ wsX5_value := by decide +kernel
  have hb2 := hwf.1
  refine lv_iload_n hx hb dX5_value_0 rfl (lv_at hl 1 rfl) ?_
  refine lv_iconst (v := 0) hx hb dX5_value_1 (by decide) ?_
  refine lv_bipush (v := 7) hx hb dX5_value_2 (by decide) ?_
  refine rx_S S hkx hth (mX5_requireWithin l hl0 (sa := sa) (h9 := fun _ h => h) (v := w) (x := 0) (z := 7) ) gX5_value_X5_requireWithin rfl idX5_requireWithin.2 ⟨Nat.le_of_ble_eq_true rfl, Nat.le_of_ble_eq_true rfl⟩ rfl hl.1 rfl (Nat.le_of_ble_eq_true rfl) dX5_value_4 ⟨Nat.le_of_ble_eq_true rfl, Nat.le_of_ble_eq_true rfl⟩ (fun E ce q H1 hpx hq hv9 hc9 hz9 hk9 => hout E ce q _ _ _ _ _ _ hpx hq hv9 hc9 hz9 hk9 (Nat.le_of_ble_eq_true rfl) (Nat.le_of_ble_eq_true rfl)) (fun v hpost => ?_)
  obtain ⟨hF0, rfl⟩ := hpost
  obtain ⟨k1, hk1a, hk1, rfl⟩ := wiF_nat (a := 0) (b := 7) hF0
  refine W.eq (g2 := F0 m 7 ls []) rfl ?_
  refine lv_aload_n hx hb dX5_value_7 rfl (lv_at hl 0 rfl) ?_
  refine va_get (D := G) (ci := 5) (C := RX5) (T := TX5) (N := 4) hx hb hts iX5 hown hkx.1 hP 0 rfl rfl 0 (by decide) k12 (fun _ h9 => h9) rfl dX5_value_8 ?_
  refine lv_iload_n hx hb dX5_value_11 rfl (lv_at hl 1 rfl) ?_
  refine ro_V S hkx (mX0_number l (w := k1) (hP := P_mid hP) (hwf := hwf) (hw := (by omega))) gX5_value_X0_number rfl idX0_number ⟨Nat.le_of_ble_eq_true rfl, Nat.le_of_ble_eq_true rfl⟩ hP 5 rfl rfl rfl rfl hl.1 rfl (Nat.le_of_ble_eq_true rfl) dX5_value_12 ⟨Nat.le_of_ble_eq_true rfl, Nat.le_of_ble_eq_true rfl⟩ (fun r_1 hr_1 => ?_)
  subst hr_1
  exact hri _ _ _ _ _ _ rfl rfl (show (wiF (nI k1) 0 7) = 0 ∧ some (Value.int (nmb N Z k1)) = some (Value.int (nmb N Z (tn (nI k1)))) from ⟨hF0, by simp only [tn, nI_clamp (show k1 < 2 ^ 31 by omega)]⟩) (Nat.le_of_ble_eq_true rfl) (Nat.le_of_ble_eq_true rfl) dX5_value_15

theorem idX5_firstStranded : yX5_firstStranded.cls = RX5 ∧ yX5_firstStranded.cls ≠ "java/lang/invoke/MethodHandle" ∧ yX5_firstStranded.cls ≠ "java/lang/invoke/VarHandle" ∧ (parseMethodDescriptor yX5_firstStranded.desc).map (fun d => d.parameters.length) = some 2 := by decide +kernel

set_option maxHeartbeats 4000000 in
set_option maxRecDepth 100000 in
theorem mX5_firstStranded (l : Launch) (hl0 : l.stackTraces = false) {G : va_G} {T : Nat → ClassId} {sa : Nat → Nat} {A9 : Nat → Prop} {H : Heap} {q : Nat → Nat} {a : Nat → Nat} {N : Nat → Nat} {Z : Nat → Nat → Int32} {b : Nat → Nat → Nat} {M : Nat → Nat → Nat} {Y : Nat → Nat → Nat → Int32} {sc : Nat} {tx : Nat → Int32} {L : Nat} {cu : Nat} {er : Int32} {le : Int32} {nb : Nat → Int32} {nc : Nat} {u : Int32} {d : Int32} (h9 : ∀ q, H.size ≤ q → A9 q) (hP : va_P G vwCl (wMain T q a N Z b M Y sc tx L cu er le nb nc) H) (hwf : wf N Z) : rx l yX5_firstStranded wsX5_firstStranded 9 146 2 [.ref (q 0), .int u, .int d] G T sa A9 H (fun v9 => (sq (thF u (nI (N 2))) (dyF d)) = 0 ∧ v9 = some (.int (fstD (uuB N Z (tn u)) (tn d) (1000 - tn d)))) (fcE (sq (thF u (nI (N 2))) (dyF d))) := by
  refine rx_of (cc := cX5_firstStranded) (maxL := 3) (ret := (some .int)) (own := RX5) (by decide +kernel) rfl rfl (Nat.le_of_ble_eq_true rfl) h9 ?_
  intro p e s m below meth c ls hH S hkx hth hnt hlk hl hri hrd hrv hout
  obtain ⟨hx, hb, hml, hown, hts⟩ := id S
  have hl : lv_has ls 3 [(0, .ref (q 0)), (1, .int u), (2, .int d)] := hl
  have k12 := hts (.fieldLink RX5 12 "SunsetDates" "now" "LSunsetDates$Calendar;") (by decide +kernel)
  have iX5 : ∀ w ∈ wsX50, w ∈ wsX5_firstStranded := by decide +kernel
  have hb2 := hwf.1
  refine lv_aload_n hx hb dX5_firstStranded_0 rfl (lv_at hl 0 rfl) ?_
  refine lv_iload_n hx hb dX5_firstStranded_1 rfl (lv_at hl 1 rfl) ?_
  refine lv_iload_n hx hb dX5_firstStranded_2 rfl (lv_at hl 2 rfl) ?_
  refine rx_V S hkx hth (mX5_requireUserAndDay l hl0 (sa := sa) (h9 := fun _ h => h) (u := u) (d := d) (hP := hP)) gX5_firstStranded_X5_requireUserAndDay rfl idX5_requireUserAndDay ⟨Nat.le_of_ble_eq_true rfl, Nat.le_of_ble_eq_true rfl⟩ hP 0 rfl rfl rfl rfl hl.1 rfl (Nat.le_of_ble_eq_true rfl) dX5_firstStranded_3 ⟨Nat.le_of_ble_eq_true rfl, Nat.le_of_ble_eq_true rfl⟩ (fun E ce q H1 hpx hq hv9 hc9 hz9 hk9 => hout E ce q _ _ _ _ _ _ hpx hq hv9 hc9 hz9 hk9 (Nat.le_of_ble_eq_true rfl) (Nat.le_of_ble_eq_true rfl)) (fun v hpost => ?_)
  obtain ⟨hF0, rfl⟩ := hpost
  obtain ⟨hFa, hFb⟩ := sq_z hF0
  obtain ⟨k1, hk1, rfl⟩ := thF_nat (n := N 2) hFa (by omega)
  obtain ⟨k2, hk2a, hk2, rfl⟩ := wiF_nat (a := 0) (b := 999) hFb
  refine W.eq (g2 := F0 m 6 ls []) rfl ?_
  refine lv_aload_n hx hb dX5_firstStranded_6 rfl (lv_at hl 0 rfl) ?_
  refine va_get (D := G) (ci := 5) (C := RX5) (T := TX5) (N := 4) hx hb hts iX5 hown hkx.1 hP 0 rfl rfl 0 (by decide) k12 (fun _ h9 => h9) rfl dX5_firstStranded_7 ?_
  refine lv_iload_n hx hb dX5_firstStranded_10 rfl (lv_at hl 1 rfl) ?_
  refine lv_iload_n hx hb dX5_firstStranded_11 rfl (lv_at hl 2 rfl) ?_
  refine ro_V S hkx (mX0_firstDayStranded l (u := k1) (f := k2) (hP := P_mid hP) (hwf := hwf) (hu := (by omega)) (hf9 := (by omega))) gX5_firstStranded_X0_firstDayStranded rfl idX0_firstDayStranded ⟨Nat.le_of_ble_eq_true rfl, Nat.le_of_ble_eq_true rfl⟩ hP 5 rfl rfl rfl rfl hl.1 rfl (Nat.le_of_ble_eq_true rfl) dX5_firstStranded_12 ⟨Nat.le_of_ble_eq_true rfl, Nat.le_of_ble_eq_true rfl⟩ (fun r_1 hr_1 => ?_)
  subst hr_1
  exact hri _ _ _ _ _ _ rfl rfl (show (sq (thF (nI k1) (nI (N 2))) (dyF (nI k2))) = 0 ∧ some (Value.int (fstD (uuB N Z k1) k2 (1000 - k2))) = some (Value.int (fstD (uuB N Z (tn (nI k1))) (tn (nI k2)) (1000 - tn (nI k2)))) from ⟨hF0, by simp only [tn, nI_clamp (show k1 < 2 ^ 31 by omega), nI_clamp (show k2 < 2 ^ 31 by omega)]⟩) (Nat.le_of_ble_eq_true rfl) (Nat.le_of_ble_eq_true rfl) dX5_firstStranded_15

theorem idX5_latestMove : yX5_latestMove.cls = RX5 ∧ yX5_latestMove.cls ≠ "java/lang/invoke/MethodHandle" ∧ yX5_latestMove.cls ≠ "java/lang/invoke/VarHandle" ∧ (parseMethodDescriptor yX5_latestMove.desc).map (fun d => d.parameters.length) = some 3 := by decide +kernel

set_option maxHeartbeats 4000000 in
set_option maxRecDepth 100000 in
theorem mX5_latestMove (l : Launch) (hl0 : l.stackTraces = false) {G : va_G} {T : Nat → ClassId} {sa : Nat → Nat} {A9 : Nat → Prop} {H : Heap} {q : Nat → Nat} {a : Nat → Nat} {N : Nat → Nat} {Z : Nat → Nat → Int32} {b : Nat → Nat → Nat} {M : Nat → Nat → Nat} {Y : Nat → Nat → Nat → Int32} {sc : Nat} {tx : Nat → Int32} {L : Nat} {cu : Nat} {er : Int32} {le : Int32} {nb : Nat → Int32} {nc : Nat} {u : Int32} {v : Int32} {d : Int32} (h9 : ∀ q, H.size ≤ q → A9 q) (hP : va_P G vwCl (wMain T q a N Z b M Y sc tx L cu er le nb nc) H) (hwf : wf N Z) : rx l yX5_latestMove wsX5_latestMove 8 124 3 [.ref (q 0), .int u, .int v, .int d] G T sa A9 H (fun v9 => (sq (thF u (nI (N 2))) (sq (thF v (nI (N 0))) (dyF d))) = 0 ∧ v9 = some (.int (ltP N Z (tn u) (tn v) (tn d)))) (fcE (sq (thF u (nI (N 2))) (sq (thF v (nI (N 0))) (dyF d)))) := by
  refine rx_of (cc := cX5_latestMove) (maxL := 4) (ret := (some .int)) (own := RX5) (by decide +kernel) rfl rfl (Nat.le_of_ble_eq_true rfl) h9 ?_
  intro p e s m below meth c ls hH S hkx hth hnt hlk hl hri hrd hrv hout
  obtain ⟨hx, hb, hml, hown, hts⟩ := id S
  have hl : lv_has ls 4 [(0, .ref (q 0)), (1, .int u), (2, .int v), (3, .int d)] := hl
  have k12 := hts (.fieldLink RX5 12 "SunsetDates" "now" "LSunsetDates$Calendar;") (by decide +kernel)
  have iX5 : ∀ w ∈ wsX50, w ∈ wsX5_latestMove := by decide +kernel
  have k80 := hts (.fieldLink RX5 80 "SunsetDates$Calendar" "users" "LSunsetDates$Users;") (by decide +kernel)
  have iX0 : ∀ w ∈ wsX00, w ∈ wsX5_latestMove := by decide +kernel
  have k84 := hts (.fieldLink RX5 84 "SunsetDates$Users" "count" "I") (by decide +kernel)
  have iX3 : ∀ w ∈ wsX30, w ∈ wsX5_latestMove := by decide +kernel
  have k35 := hts (.fieldLink RX5 35 "SunsetDates$Calendar" "versions" "LSunsetDates$Versions;") (by decide +kernel)
  have k39 := hts (.fieldLink RX5 39 "SunsetDates$Versions" "count" "I") (by decide +kernel)
  have iX4 : ∀ w ∈ wsX40, w ∈ wsX5_latestMove := by decide +kernel
  have hb2 := hwf.1
  refine lv_iload_n hx hb dX5_latestMove_0 rfl (lv_at hl 1 rfl) ?_
  refine lv_aload_n hx hb dX5_latestMove_1 rfl (lv_at hl 0 rfl) ?_
  refine va_get (D := G) (ci := 5) (C := RX5) (T := TX5) (N := 4) hx hb hts iX5 hown hkx.1 hP 0 rfl rfl 0 (by decide) k12 (fun _ h9 => h9) rfl dX5_latestMove_2 ?_
  refine va_get (D := G) (ci := 0) (C := RX0) (T := TX0) (N := 4) hx hb hts iX0 hown hkx.1 hP 5 rfl rfl 2 (by decide) k80 (fun _ h9 => h9) rfl dX5_latestMove_5 ?_
  refine va_get (D := G) (ci := 3) (C := RX3) (T := TX3) (N := 7) hx hb hts iX3 hown hkx.1 hP 11 rfl rfl 0 (by decide) k84 (fun _ h9 => h9) rfl dX5_latestMove_8 ?_
  refine rx_S S hkx hth (mX5_requireThere l hl0 (sa := sa) (h9 := fun _ h => h) (i := u) (n := (nI (N 2))) ) gX5_latestMove_X5_requireThere rfl idX5_requireThere.2 ⟨Nat.le_of_ble_eq_true rfl, Nat.le_of_ble_eq_true rfl⟩ rfl hl.1 rfl (Nat.le_of_ble_eq_true rfl) dX5_latestMove_11 ⟨Nat.le_of_ble_eq_true rfl, Nat.le_of_ble_eq_true rfl⟩ (fun E ce q H1 hpx hq hv9 hc9 hz9 hk9 => hout E ce q _ _ _ _ _ _ (sq_l hpx) hq hv9 hc9 hz9 hk9 (Nat.le_of_ble_eq_true rfl) (Nat.le_of_ble_eq_true rfl)) (fun v hpost => ?_)
  obtain ⟨hF0, rfl⟩ := hpost
  obtain ⟨k1, hk1, rfl⟩ := thF_nat (n := N 2) hF0 (by omega)
  refine W.eq (g2 := F0 m 14 ls []) rfl ?_
  refine lv_iload_n hx hb dX5_latestMove_14 rfl (lv_at hl 2 rfl) ?_
  refine lv_aload_n hx hb dX5_latestMove_15 rfl (lv_at hl 0 rfl) ?_
  refine va_get (D := G) (ci := 5) (C := RX5) (T := TX5) (N := 4) hx hb hts iX5 hown hkx.1 hP 0 rfl rfl 0 (by decide) k12 (fun _ h9 => h9) rfl dX5_latestMove_16 ?_
  refine va_get (D := G) (ci := 0) (C := RX0) (T := TX0) (N := 4) hx hb hts iX0 hown hkx.1 hP 5 rfl rfl 0 (by decide) k35 (fun _ h9 => h9) rfl dX5_latestMove_19 ?_
  refine va_get (D := G) (ci := 4) (C := RX4) (T := TX4) (N := 5) hx hb hts iX4 hown hkx.1 hP 6 rfl rfl 0 (by decide) k39 (fun _ h9 => h9) rfl dX5_latestMove_22 ?_
  refine rx_S S hkx hth (mX5_requireThere l hl0 (sa := sa) (h9 := fun _ h => h) (i := v) (n := (nI (N 0))) ) gX5_latestMove_X5_requireThere rfl idX5_requireThere.2 ⟨Nat.le_of_ble_eq_true rfl, Nat.le_of_ble_eq_true rfl⟩ rfl hl.1 rfl (Nat.le_of_ble_eq_true rfl) dX5_latestMove_25 ⟨Nat.le_of_ble_eq_true rfl, Nat.le_of_ble_eq_true rfl⟩ (fun E ce q H1 hpx hq hv9 hc9 hz9 hk9 => hout E ce q _ _ _ _ _ _ (sq_r hF0 (sq_l hpx)) hq hv9 hc9 hz9 hk9 (Nat.le_of_ble_eq_true rfl) (Nat.le_of_ble_eq_true rfl)) (fun v hpost => ?_)
  obtain ⟨hF1, rfl⟩ := hpost
  obtain ⟨k3, hk3, rfl⟩ := thF_nat (n := N 0) hF1 (by omega)
  refine W.eq (g2 := F0 m 28 ls []) rfl ?_
  refine lv_iload_n hx hb dX5_latestMove_28 rfl (lv_at hl 3 rfl) ?_
  refine rx_S S hkx hth (mX5_requireDay l hl0 (sa := sa) (h9 := fun _ h => h) (d := d) ) gX5_latestMove_X5_requireDay rfl idX5_requireDay.2 ⟨Nat.le_of_ble_eq_true rfl, Nat.le_of_ble_eq_true rfl⟩ rfl hl.1 rfl (Nat.le_of_ble_eq_true rfl) dX5_latestMove_29 ⟨Nat.le_of_ble_eq_true rfl, Nat.le_of_ble_eq_true rfl⟩ (fun E ce q H1 hpx hq hv9 hc9 hz9 hk9 => hout E ce q _ _ _ _ _ _ (sq_r hF0 (sq_r hF1 hpx)) hq hv9 hc9 hz9 hk9 (Nat.le_of_ble_eq_true rfl) (Nat.le_of_ble_eq_true rfl)) (fun v hpost => ?_)
  obtain ⟨hF2, rfl⟩ := hpost
  obtain ⟨k2, hk2a, hk2, rfl⟩ := wiF_nat (a := 0) (b := 999) hF2
  refine W.eq (g2 := F0 m 32 ls []) rfl ?_
  refine lv_aload_n hx hb dX5_latestMove_32 rfl (lv_at hl 0 rfl) ?_
  refine va_get (D := G) (ci := 5) (C := RX5) (T := TX5) (N := 4) hx hb hts iX5 hown hkx.1 hP 0 rfl rfl 0 (by decide) k12 (fun _ h9 => h9) rfl dX5_latestMove_33 ?_
  refine lv_iload_n hx hb dX5_latestMove_36 rfl (lv_at hl 1 rfl) ?_
  refine lv_iload_n hx hb dX5_latestMove_37 rfl (lv_at hl 2 rfl) ?_
  refine lv_iload_n hx hb dX5_latestMove_38 rfl (lv_at hl 3 rfl) ?_
  refine ro_V S hkx (mX0_latestPledge l (u := k1) (v := k3) (f := k2) (hP := P_mid hP) (hwf := hwf) (hu := (by omega)) (hv := (by omega)) (hf9 := (by omega))) gX5_latestMove_X0_latestPledge rfl idX0_latestPledge ⟨Nat.le_of_ble_eq_true rfl, Nat.le_of_ble_eq_true rfl⟩ hP 5 rfl rfl rfl rfl hl.1 rfl (Nat.le_of_ble_eq_true rfl) dX5_latestMove_39 ⟨Nat.le_of_ble_eq_true rfl, Nat.le_of_ble_eq_true rfl⟩ (fun r_1 hr_1 => ?_)
  subst hr_1
  exact hri _ _ _ _ _ _ rfl rfl (show (sq (thF (nI k1) (nI (N 2))) (sq (thF (nI k3) (nI (N 0))) (dyF (nI k2)))) = 0 ∧ some (Value.int (ltP N Z k1 k3 k2)) = some (Value.int (ltP N Z (tn (nI k1)) (tn (nI k3)) (tn (nI k2)))) from ⟨(sq_0 hF0 (sq_0 hF1 hF2)), by simp only [tn, nI_clamp (show k1 < 2 ^ 31 by omega), nI_clamp (show k3 < 2 ^ 31 by omega), nI_clamp (show k2 < 2 ^ 31 by omega)]⟩) (Nat.le_of_ble_eq_true rfl) (Nat.le_of_ble_eq_true rfl) dX5_latestMove_42

theorem idX5_bestVersion : yX5_bestVersion.cls = RX5 ∧ yX5_bestVersion.cls ≠ "java/lang/invoke/MethodHandle" ∧ yX5_bestVersion.cls ≠ "java/lang/invoke/VarHandle" ∧ (parseMethodDescriptor yX5_bestVersion.desc).map (fun d => d.parameters.length) = some 2 := by decide +kernel

set_option maxHeartbeats 4000000 in
set_option maxRecDepth 100000 in
theorem mX5_bestVersion (l : Launch) (hl0 : l.stackTraces = false) {G : va_G} {T : Nat → ClassId} {sa : Nat → Nat} {A9 : Nat → Prop} {H : Heap} {q : Nat → Nat} {a : Nat → Nat} {N : Nat → Nat} {Z : Nat → Nat → Int32} {b : Nat → Nat → Nat} {M : Nat → Nat → Nat} {Y : Nat → Nat → Nat → Int32} {sc : Nat} {tx : Nat → Int32} {L : Nat} {cu : Nat} {er : Int32} {le : Int32} {nb : Nat → Int32} {nc : Nat} {u : Int32} {d : Int32} (h9 : ∀ q, H.size ≤ q → A9 q) (hP : va_P G vwCl (wMain T q a N Z b M Y sc tx L cu er le nb nc) H) (hwf : wf N Z) : rx l yX5_bestVersion wsX5_bestVersion 9 146 2 [.ref (q 0), .int u, .int d] G T sa A9 H (fun v9 => (sq (thF u (nI (N 2))) (dyF d)) = 0 ∧ v9 = some (.int ((vsm N Z (Z 6 (tn u)) d (N 0)).1))) (fcE (sq (thF u (nI (N 2))) (dyF d))) := by
  refine rx_of (cc := cX5_bestVersion) (maxL := 3) (ret := (some .int)) (own := RX5) (by decide +kernel) rfl rfl (Nat.le_of_ble_eq_true rfl) h9 ?_
  intro p e s m below meth c ls hH S hkx hth hnt hlk hl hri hrd hrv hout
  obtain ⟨hx, hb, hml, hown, hts⟩ := id S
  have hl : lv_has ls 3 [(0, .ref (q 0)), (1, .int u), (2, .int d)] := hl
  have k12 := hts (.fieldLink RX5 12 "SunsetDates" "now" "LSunsetDates$Calendar;") (by decide +kernel)
  have iX5 : ∀ w ∈ wsX50, w ∈ wsX5_bestVersion := by decide +kernel
  have k80 := hts (.fieldLink RX5 80 "SunsetDates$Calendar" "users" "LSunsetDates$Users;") (by decide +kernel)
  have iX0 : ∀ w ∈ wsX00, w ∈ wsX5_bestVersion := by decide +kernel
  have k180 := hts (.fieldLink RX5 180 "SunsetDates$Users" "uses" "[I") (by decide +kernel)
  have iX3 : ∀ w ∈ wsX30, w ∈ wsX5_bestVersion := by decide +kernel
  have hb2 := hwf.1
  refine lv_aload_n hx hb dX5_bestVersion_0 rfl (lv_at hl 0 rfl) ?_
  refine lv_iload_n hx hb dX5_bestVersion_1 rfl (lv_at hl 1 rfl) ?_
  refine lv_iload_n hx hb dX5_bestVersion_2 rfl (lv_at hl 2 rfl) ?_
  refine rx_V S hkx hth (mX5_requireUserAndDay l hl0 (sa := sa) (h9 := fun _ h => h) (u := u) (d := d) (hP := hP)) gX5_bestVersion_X5_requireUserAndDay rfl idX5_requireUserAndDay ⟨Nat.le_of_ble_eq_true rfl, Nat.le_of_ble_eq_true rfl⟩ hP 0 rfl rfl rfl rfl hl.1 rfl (Nat.le_of_ble_eq_true rfl) dX5_bestVersion_3 ⟨Nat.le_of_ble_eq_true rfl, Nat.le_of_ble_eq_true rfl⟩ (fun E ce q H1 hpx hq hv9 hc9 hz9 hk9 => hout E ce q _ _ _ _ _ _ hpx hq hv9 hc9 hz9 hk9 (Nat.le_of_ble_eq_true rfl) (Nat.le_of_ble_eq_true rfl)) (fun v hpost => ?_)
  obtain ⟨hF0, rfl⟩ := hpost
  obtain ⟨hFa, hFb⟩ := sq_z hF0
  obtain ⟨k1, hk1, rfl⟩ := thF_nat (n := N 2) hFa (by omega)
  refine W.eq (g2 := F0 m 6 ls []) rfl ?_
  refine lv_aload_n hx hb dX5_bestVersion_6 rfl (lv_at hl 0 rfl) ?_
  refine va_get (D := G) (ci := 5) (C := RX5) (T := TX5) (N := 4) hx hb hts iX5 hown hkx.1 hP 0 rfl rfl 0 (by decide) k12 (fun _ h9 => h9) rfl dX5_bestVersion_7 ?_
  refine lv_aload_n hx hb dX5_bestVersion_10 rfl (lv_at hl 0 rfl) ?_
  refine va_get (D := G) (ci := 5) (C := RX5) (T := TX5) (N := 4) hx hb hts iX5 hown hkx.1 hP 0 rfl rfl 0 (by decide) k12 (fun _ h9 => h9) rfl dX5_bestVersion_11 ?_
  refine va_get (D := G) (ci := 0) (C := RX0) (T := TX0) (N := 4) hx hb hts iX0 hown hkx.1 hP 5 rfl rfl 2 (by decide) k80 (fun _ h9 => h9) rfl dX5_bestVersion_14 ?_
  refine va_get (D := G) (ci := 3) (C := RX3) (T := TX3) (N := 7) hx hb hts iX3 hown hkx.1 hP 11 rfl rfl 2 (by decide) k180 (fun _ h9 => h9) rfl dX5_bestVersion_17 ?_
  refine lv_iload_n hx hb dX5_bestVersion_20 rfl (lv_at hl 1 rfl) ?_
  refine ia hx hb hkx hP 13 rfl k1 rfl (by omega) (by decide) dX5_bestVersion_21 ?_
  refine lv_iload_n hx hb dX5_bestVersion_22 rfl (lv_at hl 2 rfl) ?_
  refine ro_V S hkx (mX0_versionServingMost l (x := ((Z 6) k1)) (d := d) (hP := P_mid hP) (hwf := hwf)) gX5_bestVersion_X0_versionServingMost rfl idX0_versionServingMost ⟨Nat.le_of_ble_eq_true rfl, Nat.le_of_ble_eq_true rfl⟩ hP 5 rfl rfl rfl rfl hl.1 rfl (Nat.le_of_ble_eq_true rfl) dX5_bestVersion_23 ⟨Nat.le_of_ble_eq_true rfl, Nat.le_of_ble_eq_true rfl⟩ (fun r_1 hr_1 => ?_)
  subst hr_1
  exact hri _ _ _ _ _ _ rfl rfl (show (sq (thF (nI k1) (nI (N 2))) (dyF d)) = 0 ∧ some (Value.int ((vsm N Z ((Z 6) k1) d (N 0)).1)) = some (Value.int ((vsm N Z (Z 6 (tn (nI k1))) d (N 0)).1)) from ⟨hF0, by simp only [tn, nI_clamp (show k1 < 2 ^ 31 by omega)]⟩) (Nat.le_of_ble_eq_true rfl) (Nat.le_of_ble_eq_true rfl) dX5_bestVersion_26

theorem idX5_cheapest : yX5_cheapest.cls = RX5 ∧ yX5_cheapest.cls ≠ "java/lang/invoke/MethodHandle" ∧ yX5_cheapest.cls ≠ "java/lang/invoke/VarHandle" ∧ (parseMethodDescriptor yX5_cheapest.desc).map (fun d => d.parameters.length) = some 3 := by decide +kernel

set_option maxHeartbeats 4000000 in
set_option maxRecDepth 100000 in
theorem mX5_cheapest (l : Launch) (hl0 : l.stackTraces = false) {G : va_G} {T : Nat → ClassId} {sa : Nat → Nat} {A9 : Nat → Prop} {H : Heap} {q : Nat → Nat} {a : Nat → Nat} {N : Nat → Nat} {Z : Nat → Nat → Int32} {b : Nat → Nat → Nat} {M : Nat → Nat → Nat} {Y : Nat → Nat → Nat → Int32} {sc : Nat} {tx : Nat → Int32} {L : Nat} {cu : Nat} {er : Int32} {le : Int32} {nb : Nat → Int32} {nc : Nat} {u : Int32} {f : Int32} {w : Int32} (h9 : ∀ q, H.size ≤ q → A9 q) (hP : va_P G vwCl (wMain T q a N Z b M Y sc tx L cu er le nb nc) H) (hwf : wf N Z) : rx l yX5_cheapest wsX5_cheapest 9 145 3 [.ref (q 0), .int u, .int f, .int w] G T sa A9 H (fun v9 => (sq (thF u (nI (N 2))) (sq (dyF f) (wiF w f 999))) = 0 ∧ v9 = some (.int ((vcl N Z (Z 6 (tn u)) (tn f) (tn w) (N 0)).1))) (fcE (sq (thF u (nI (N 2))) (sq (dyF f) (wiF w f 999)))) := by
  refine rx_of (cc := cX5_cheapest) (maxL := 4) (ret := (some .int)) (own := RX5) (by decide +kernel) rfl rfl (Nat.le_of_ble_eq_true rfl) h9 ?_
  intro p e s m below meth c ls hH S hkx hth hnt hlk hl hri hrd hrv hout
  obtain ⟨hx, hb, hml, hown, hts⟩ := id S
  have hl : lv_has ls 4 [(0, .ref (q 0)), (1, .int u), (2, .int f), (3, .int w)] := hl
  have k12 := hts (.fieldLink RX5 12 "SunsetDates" "now" "LSunsetDates$Calendar;") (by decide +kernel)
  have iX5 : ∀ w ∈ wsX50, w ∈ wsX5_cheapest := by decide +kernel
  have k80 := hts (.fieldLink RX5 80 "SunsetDates$Calendar" "users" "LSunsetDates$Users;") (by decide +kernel)
  have iX0 : ∀ w ∈ wsX00, w ∈ wsX5_cheapest := by decide +kernel
  have k84 := hts (.fieldLink RX5 84 "SunsetDates$Users" "count" "I") (by decide +kernel)
  have iX3 : ∀ w ∈ wsX30, w ∈ wsX5_cheapest := by decide +kernel
  have k180 := hts (.fieldLink RX5 180 "SunsetDates$Users" "uses" "[I") (by decide +kernel)
  have hb2 := hwf.1
  refine lv_iload_n hx hb dX5_cheapest_0 rfl (lv_at hl 1 rfl) ?_
  refine lv_aload_n hx hb dX5_cheapest_1 rfl (lv_at hl 0 rfl) ?_
  refine va_get (D := G) (ci := 5) (C := RX5) (T := TX5) (N := 4) hx hb hts iX5 hown hkx.1 hP 0 rfl rfl 0 (by decide) k12 (fun _ h9 => h9) rfl dX5_cheapest_2 ?_
  refine va_get (D := G) (ci := 0) (C := RX0) (T := TX0) (N := 4) hx hb hts iX0 hown hkx.1 hP 5 rfl rfl 2 (by decide) k80 (fun _ h9 => h9) rfl dX5_cheapest_5 ?_
  refine va_get (D := G) (ci := 3) (C := RX3) (T := TX3) (N := 7) hx hb hts iX3 hown hkx.1 hP 11 rfl rfl 0 (by decide) k84 (fun _ h9 => h9) rfl dX5_cheapest_8 ?_
  refine rx_S S hkx hth (mX5_requireThere l hl0 (sa := sa) (h9 := fun _ h => h) (i := u) (n := (nI (N 2))) ) gX5_cheapest_X5_requireThere rfl idX5_requireThere.2 ⟨Nat.le_of_ble_eq_true rfl, Nat.le_of_ble_eq_true rfl⟩ rfl hl.1 rfl (Nat.le_of_ble_eq_true rfl) dX5_cheapest_11 ⟨Nat.le_of_ble_eq_true rfl, Nat.le_of_ble_eq_true rfl⟩ (fun E ce q H1 hpx hq hv9 hc9 hz9 hk9 => hout E ce q _ _ _ _ _ _ (sq_l hpx) hq hv9 hc9 hz9 hk9 (Nat.le_of_ble_eq_true rfl) (Nat.le_of_ble_eq_true rfl)) (fun v hpost => ?_)
  obtain ⟨hF0, rfl⟩ := hpost
  obtain ⟨k3, hk3, rfl⟩ := thF_nat (n := N 2) hF0 (by omega)
  refine W.eq (g2 := F0 m 14 ls []) rfl ?_
  refine lv_iload_n hx hb dX5_cheapest_14 rfl (lv_at hl 2 rfl) ?_
  refine lv_iload_n hx hb dX5_cheapest_15 rfl (lv_at hl 3 rfl) ?_
  refine rx_S S hkx hth (mX5_requireDays l hl0 (sa := sa) (h9 := fun _ h => h) (f := f) (w := w) ) gX5_cheapest_X5_requireDays rfl idX5_requireDays.2 ⟨Nat.le_of_ble_eq_true rfl, Nat.le_of_ble_eq_true rfl⟩ rfl hl.1 rfl (Nat.le_of_ble_eq_true rfl) dX5_cheapest_16 ⟨Nat.le_of_ble_eq_true rfl, Nat.le_of_ble_eq_true rfl⟩ (fun E ce q H1 hpx hq hv9 hc9 hz9 hk9 => hout E ce q _ _ _ _ _ _ (sq_r hF0 hpx) hq hv9 hc9 hz9 hk9 (Nat.le_of_ble_eq_true rfl) (Nat.le_of_ble_eq_true rfl)) (fun v hpost => ?_)
  obtain ⟨hF1, rfl⟩ := hpost
  obtain ⟨hFa, hFb⟩ := sq_z hF1
  obtain ⟨k1, hk1a, hk1, rfl⟩ := wiF_nat (a := 0) (b := 999) hFa
  obtain ⟨k2, hk2a, hk2, rfl⟩ := wiF_nat (a := k1) (b := 999) hFb
  refine W.eq (g2 := F0 m 19 ls []) rfl ?_
  refine lv_aload_n hx hb dX5_cheapest_19 rfl (lv_at hl 0 rfl) ?_
  refine va_get (D := G) (ci := 5) (C := RX5) (T := TX5) (N := 4) hx hb hts iX5 hown hkx.1 hP 0 rfl rfl 0 (by decide) k12 (fun _ h9 => h9) rfl dX5_cheapest_20 ?_
  refine lv_aload_n hx hb dX5_cheapest_23 rfl (lv_at hl 0 rfl) ?_
  refine va_get (D := G) (ci := 5) (C := RX5) (T := TX5) (N := 4) hx hb hts iX5 hown hkx.1 hP 0 rfl rfl 0 (by decide) k12 (fun _ h9 => h9) rfl dX5_cheapest_24 ?_
  refine va_get (D := G) (ci := 0) (C := RX0) (T := TX0) (N := 4) hx hb hts iX0 hown hkx.1 hP 5 rfl rfl 2 (by decide) k80 (fun _ h9 => h9) rfl dX5_cheapest_27 ?_
  refine va_get (D := G) (ci := 3) (C := RX3) (T := TX3) (N := 7) hx hb hts iX3 hown hkx.1 hP 11 rfl rfl 2 (by decide) k180 (fun _ h9 => h9) rfl dX5_cheapest_30 ?_
  refine lv_iload_n hx hb dX5_cheapest_33 rfl (lv_at hl 1 rfl) ?_
  refine ia hx hb hkx hP 13 rfl k3 rfl (by omega) (by decide) dX5_cheapest_34 ?_
  refine lv_iload_n hx hb dX5_cheapest_35 rfl (lv_at hl 2 rfl) ?_
  refine lv_iload_n hx hb dX5_cheapest_36 rfl (lv_at hl 3 rfl) ?_
  refine ro_V S hkx (mX0_versionCostingLeast l (x := ((Z 6) k3)) (f := k1) (w := k2) (hP := P_mid hP) (hwf := hwf) (hfl := (by omega)) (hl9 := (by omega))) gX5_cheapest_X0_versionCostingLeast rfl idX0_versionCostingLeast ⟨Nat.le_of_ble_eq_true rfl, Nat.le_of_ble_eq_true rfl⟩ hP 5 rfl rfl rfl rfl hl.1 rfl (Nat.le_of_ble_eq_true rfl) dX5_cheapest_37 ⟨Nat.le_of_ble_eq_true rfl, Nat.le_of_ble_eq_true rfl⟩ (fun r_1 hr_1 => ?_)
  subst hr_1
  exact hri _ _ _ _ _ _ rfl rfl (show (sq (thF (nI k3) (nI (N 2))) (sq (dyF (nI k1)) (wiF (nI k2) (nI k1) 999))) = 0 ∧ some (Value.int ((vcl N Z ((Z 6) k3) k1 k2 (N 0)).1)) = some (Value.int ((vcl N Z (Z 6 (tn (nI k3))) (tn (nI k1)) (tn (nI k2)) (N 0)).1)) from ⟨(sq_0 hF0 hF1), by simp only [tn, nI_clamp (show k3 < 2 ^ 31 by omega), nI_clamp (show k1 < 2 ^ 31 by omega), nI_clamp (show k2 < 2 ^ 31 by omega)]⟩) (Nat.le_of_ble_eq_true rfl) (Nat.le_of_ble_eq_true rfl) dX5_cheapest_40

theorem idX5_shimsNeeded : yX5_shimsNeeded.cls = RX5 ∧ yX5_shimsNeeded.cls ≠ "java/lang/invoke/MethodHandle" ∧ yX5_shimsNeeded.cls ≠ "java/lang/invoke/VarHandle" ∧ (parseMethodDescriptor yX5_shimsNeeded.desc).map (fun d => d.parameters.length) = some 1 := by decide +kernel

set_option maxHeartbeats 4000000 in
set_option maxRecDepth 100000 in
theorem mX5_shimsNeeded (l : Launch) (hl0 : l.stackTraces = false) {G : va_G} {T : Nat → ClassId} {sa : Nat → Nat} {A9 : Nat → Prop} {H : Heap} {q : Nat → Nat} {a : Nat → Nat} {N : Nat → Nat} {Z : Nat → Nat → Int32} {b : Nat → Nat → Nat} {M : Nat → Nat → Nat} {Y : Nat → Nat → Nat → Int32} {sc : Nat} {tx : Nat → Int32} {L : Nat} {cu : Nat} {er : Int32} {le : Int32} {nb : Nat → Int32} {nc : Nat} {d : Int32} (h9 : ∀ q, H.size ≤ q → A9 q) (hP : va_P G vwCl (wMain T q a N Z b M Y sc tx L cu er le nb nc) H) (hwf : wf N Z) : rx l yX5_shimsNeeded wsX5_shimsNeeded 8 139 1 [.ref (q 0), .int d] G T sa A9 H (fun v9 => (dyF d) = 0 ∧ v9 = some (.int (prs N Z d (N 0)))) (fcE (dyF d)) := by
  refine rx_of (cc := cX5_shimsNeeded) (maxL := 2) (ret := (some .int)) (own := RX5) (by decide +kernel) rfl rfl (Nat.le_of_ble_eq_true rfl) h9 ?_
  intro p e s m below meth c ls hH S hkx hth hnt hlk hl hri hrd hrv hout
  obtain ⟨hx, hb, hml, hown, hts⟩ := id S
  have hl : lv_has ls 2 [(0, .ref (q 0)), (1, .int d)] := hl
  have k12 := hts (.fieldLink RX5 12 "SunsetDates" "now" "LSunsetDates$Calendar;") (by decide +kernel)
  have iX5 : ∀ w ∈ wsX50, w ∈ wsX5_shimsNeeded := by decide +kernel
  have hb2 := hwf.1
  refine lv_iload_n hx hb dX5_shimsNeeded_0 rfl (lv_at hl 1 rfl) ?_
  refine rx_S S hkx hth (mX5_requireDay l hl0 (sa := sa) (h9 := fun _ h => h) (d := d) ) gX5_shimsNeeded_X5_requireDay rfl idX5_requireDay.2 ⟨Nat.le_of_ble_eq_true rfl, Nat.le_of_ble_eq_true rfl⟩ rfl hl.1 rfl (Nat.le_of_ble_eq_true rfl) dX5_shimsNeeded_1 ⟨Nat.le_of_ble_eq_true rfl, Nat.le_of_ble_eq_true rfl⟩ (fun E ce q H1 hpx hq hv9 hc9 hz9 hk9 => hout E ce q _ _ _ _ _ _ hpx hq hv9 hc9 hz9 hk9 (Nat.le_of_ble_eq_true rfl) (Nat.le_of_ble_eq_true rfl)) (fun v hpost => ?_)
  obtain ⟨hF0, rfl⟩ := hpost
  refine W.eq (g2 := F0 m 4 ls []) rfl ?_
  refine lv_aload_n hx hb dX5_shimsNeeded_4 rfl (lv_at hl 0 rfl) ?_
  refine va_get (D := G) (ci := 5) (C := RX5) (T := TX5) (N := 4) hx hb hts iX5 hown hkx.1 hP 0 rfl rfl 0 (by decide) k12 (fun _ h9 => h9) rfl dX5_shimsNeeded_5 ?_
  refine lv_iload_n hx hb dX5_shimsNeeded_8 rfl (lv_at hl 1 rfl) ?_
  refine ro_V S hkx (mX0_pairsLacking l (d := d) (hP := P_mid hP) (hwf := hwf)) gX5_shimsNeeded_X0_pairsLacking rfl idX0_pairsLacking ⟨Nat.le_of_ble_eq_true rfl, Nat.le_of_ble_eq_true rfl⟩ hP 5 rfl rfl rfl rfl hl.1 rfl (Nat.le_of_ble_eq_true rfl) dX5_shimsNeeded_9 ⟨Nat.le_of_ble_eq_true rfl, Nat.le_of_ble_eq_true rfl⟩ (fun r_1 hr_1 => ?_)
  subst hr_1
  exact hri _ _ _ _ _ _ rfl rfl (show (dyF d) = 0 ∧ some (Value.int (prs N Z d (N 0))) = some (Value.int (prs N Z d (N 0))) from ⟨hF0, rfl⟩) (Nat.le_of_ble_eq_true rfl) (Nat.le_of_ble_eq_true rfl) dX5_shimsNeeded_12
