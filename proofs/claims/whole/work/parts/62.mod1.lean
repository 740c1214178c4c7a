theorem idX6_in : yX6_in.cls = RX6 ∧ yX6_in.cls ≠ "java/lang/invoke/MethodHandle" ∧ yX6_in.cls ≠ "java/lang/invoke/VarHandle" ∧ (parseMethodDescriptor yX6_in.desc).map (fun d => d.parameters.length) = some 3 := by decide +kernel

set_option maxHeartbeats 4000000 in
set_option maxRecDepth 100000 in
theorem mX6_in (l : Launch) {G : va_G} {T : Nat → ClassId} {H : Heap} {v : Int32} {x : Int32} {z : Int32}  : ro l yX6_in wsX6_in 0 0 [.int v, .int x, .int z] G T H (fun r => r = bI (isW v x z)) := by
  refine ro_of (cc := cX6_in) (maxL := 3) (ret := .boolean) (own := RX6) (by decide +kernel) rfl rfl (Nat.le_of_ble_eq_true rfl) (fun v h => bI_nar h) ?_
  intro p e s m below meth c Q ls S hkx hl hret
  obtain ⟨hx, hb, hml, hown, hts⟩ := id S
  have hl : lv_has ls 3 [(0, .int v), (1, .int x), (2, .int z)] := hl
  refine lv_iload_n hx hb dX6_in_0 rfl (lv_at hl 0 rfl) ?_
  refine lv_iload_n hx hb dX6_in_1 rfl (lv_at hl 1 rfl) ?_
  refine lv_icmp_lt (tgt := 14) hx hb dX6_in_2 (by decide) (fun c_1 => ?_) (fun c_1 => ?_)
  · have c_1n := Int32.not_le.mpr c_1
    refine lv_iconst (v := 0) hx hb dX6_in_14 (by decide) ?_
    exact hret _ _ _ (show 0 = bI (isW v x z) from by
        clear hret hl; refine bI_0 ?_; rw [Bool.eq_false_iff]; intro h; have z0 : Int32.toInt 0 = 0 := rfl;simp only [isW, Bool.and_eq_true, decide_eq_true_eq, i3lt, i3le, i3eq] at *;  omega) dX6_in_15
  · have c_1n := Int32.not_lt.mp c_1
    refine lv_iload_n hx hb dX6_in_5 rfl (lv_at hl 0 rfl) ?_
    refine lv_iload_n hx hb dX6_in_6 rfl (lv_at hl 2 rfl) ?_
    refine lv_icmp_gt (tgt := 14) hx hb dX6_in_7 (by decide) (fun c_2 => ?_) (fun c_2 => ?_)
    · have c_2n := Int32.not_le.mpr c_2
      refine lv_iconst (v := 0) hx hb dX6_in_14 (by decide) ?_
      exact hret _ _ _ (show 0 = bI (isW v x z) from by
          clear hret hl; refine bI_0 ?_; rw [Bool.eq_false_iff]; intro h; have z0 : Int32.toInt 0 = 0 := rfl;simp only [isW, Bool.and_eq_true, decide_eq_true_eq, i3lt, i3le, i3eq] at *;  omega) dX6_in_15
    · have c_2n := Int32.not_lt.mp c_2
      refine lv_iconst (v := 1) hx hb dX6_in_10 (by decide) ?_
      refine lv_goto (tgt := 15) hx hb dX6_in_11 (by decide) ?_
      exact hret _ _ _ (show 1 = bI (isW v x z) from by
          clear hret hl; refine bI_1 ?_; have z0 : Int32.toInt 0 = 0 := rfl;simp only [isW, Bool.and_eq_true, decide_eq_true_eq, i3lt, i3le, i3eq] at *;  omega) dX6_in_15

theorem idX6_isDay : yX6_isDay.cls = RX6 ∧ yX6_isDay.cls ≠ "java/lang/invoke/MethodHandle" ∧ yX6_isDay.cls ≠ "java/lang/invoke/VarHandle" ∧ (parseMethodDescriptor yX6_isDay.desc).map (fun d => d.parameters.length) = some 1 := by decide +kernel

set_option maxHeartbeats 4000000 in
set_option maxRecDepth 100000 in
theorem mX6_isDay (l : Launch) {G : va_G} {T : Nat → ClassId} {H : Heap} {d : Int32}  : ro l yX6_isDay wsX6_isDay 1 22 [.int d] G T H (fun r => r = bI (isW d 0 999)) := by
  refine ro_of (cc := cX6_isDay) (maxL := 1) (ret := .boolean) (own := RX6) (by decide +kernel) rfl rfl (Nat.le_of_ble_eq_true rfl) (fun v h => bI_nar h) ?_
  intro p e s m below meth c Q ls S hkx hl hret
  obtain ⟨hx, hb, hml, hown, hts⟩ := id S
  have hl : lv_has ls 1 [(0, .int d)] := hl
  refine lv_iload_n hx hb dX6_isDay_0 rfl (lv_at hl 0 rfl) ?_
  refine lv_iconst (v := 0) hx hb dX6_isDay_1 (by decide) ?_
  refine lv_sipush (v := 999) hx hb dX6_isDay_2 (by decide) ?_
  refine ro_S S hkx (mX6_in l (v := d) (x := 0) (z := 999)) gX6_isDay_X6_in rfl idX6_in.2 ⟨Nat.le_of_ble_eq_true rfl, Nat.le_of_ble_eq_true rfl⟩ rfl hl.1 rfl (Nat.le_of_ble_eq_true rfl) dX6_isDay_5 ⟨Nat.le_of_ble_eq_true rfl, Nat.le_of_ble_eq_true rfl⟩ (fun r_1 hr_1 => ?_)
  subst hr_1
  exact hret _ _ _ (show (bI (isW d 0 999)) = bI (isW d 0 999) from rfl) dX6_isDay_8

theorem idX6_has : yX6_has.cls = RX6 ∧ yX6_has.cls ≠ "java/lang/invoke/MethodHandle" ∧ yX6_has.cls ≠ "java/lang/invoke/VarHandle" ∧ (parseMethodDescriptor yX6_has.desc).map (fun d => d.parameters.length) = some 2 := by decide +kernel

set_option maxHeartbeats 4000000 in
set_option maxRecDepth 100000 in
theorem mX6_has (l : Launch) {G : va_G} {T : Nat → ClassId} {H : Heap} {x : Int32} {k : Int32}  : ro l yX6_has wsX6_has 0 0 [.int x, .int k] G T H (fun r => r = bI (cnt1 x k)) := by
  refine ro_of (cc := cX6_has) (maxL := 2) (ret := .boolean) (own := RX6) (by decide +kernel) rfl rfl (Nat.le_of_ble_eq_true rfl) (fun v h => bI_nar h) ?_
  intro p e s m below meth c Q ls S hkx hl hret
  obtain ⟨hx, hb, hml, hown, hts⟩ := id S
  have hl : lv_has ls 2 [(0, .int x), (1, .int k)] := hl
  refine lv_iload_n hx hb dX6_has_0 rfl (lv_at hl 0 rfl) ?_
  refine lv_iload_n hx hb dX6_has_1 rfl (lv_at hl 1 rfl) ?_
  refine lv_ishr hx hb dX6_has_2 ?_
  refine lv_iconst (v := 1) hx hb dX6_has_3 (by decide) ?_
  refine lv_iand hx hb dX6_has_4 ?_
  refine lv_iconst (v := 1) hx hb dX6_has_5 (by decide) ?_
  refine lv_icmp_ne (tgt := 13) hx hb dX6_has_6 (by decide) (fun c_1 => ?_) (fun c_1 => ?_)
  · skip
    refine lv_iconst (v := 0) hx hb dX6_has_13 (by decide) ?_
    exact hret _ _ _ (show 0 = bI (cnt1 x k) from by
        clear hret hl; rcases and1 (x >>> (k &&& 31)) with ⟨h1, -⟩ | ⟨h1, -⟩ <;> rw [h1] at c_1 <;> first | (exfalso; revert c_1; decide) | (unfold cnt1; rw [h1]; rfl)) dX6_has_14
  · skip
    refine lv_iconst (v := 1) hx hb dX6_has_9 (by decide) ?_
    refine lv_goto (tgt := 14) hx hb dX6_has_10 (by decide) ?_
    exact hret _ _ _ (show 1 = bI (cnt1 x k) from by
        clear hret hl; rcases and1 (x >>> (k &&& 31)) with ⟨h1, -⟩ | ⟨h1, -⟩ <;> rw [h1] at c_1 <;> first | (exfalso; revert c_1; decide) | (unfold cnt1; rw [h1]; rfl)) dX6_has_14

theorem idX6_isVersion : yX6_isVersion.cls = RX6 ∧ yX6_isVersion.cls ≠ "java/lang/invoke/MethodHandle" ∧ yX6_isVersion.cls ≠ "java/lang/invoke/VarHandle" ∧ (parseMethodDescriptor yX6_isVersion.desc).map (fun d => d.parameters.length) = some 1 := by decide +kernel

set_option maxHeartbeats 4000000 in
set_option maxRecDepth 100000 in
theorem mX6_isVersion (l : Launch) {G : va_G} {T : Nat → ClassId} {H : Heap} {r : Nat → Nat} {N : Nat → Nat} {Z : Nat → Nat → Int32} {mm : Nat → Int32} {pp : Nat → Int32} {xx : Nat → Int32} {th : Int32} {sv : Nat} {n1 : Nat} {ac : Int32} {ea : Int32} {le : Int32} {v1 : Int32} {v2 : Int32} {v3 : Int32} {v4 : Int32} {v5 : Int32} {v : Int32} (hP : va_P G vwCl (wMod T r mm pp xx th sv n1 ac ea le v1 v2 v3 v4 v5) H) (hwf : wf N Z) (hr : rel N Z mm) : ro l yX6_isVersion wsX6_isVersion 1 22 [.ref (r 0), .int v] G T H (fun r => r = bI (isT v (nI (N 0)))) := by
  refine ro_of (cc := cX6_isVersion) (maxL := 2) (ret := .boolean) (own := RX6) (by decide +kernel) rfl rfl (Nat.le_of_ble_eq_true rfl) (fun v h => bI_nar h) ?_
  intro p e s m below meth c Q ls S hkx hl hret
  obtain ⟨hx, hb, hml, hown, hts⟩ := id S
  have hl : lv_has ls 2 [(0, .ref (r 0)), (1, .int v)] := hl
  have k7 := hts (.fieldLink RX6 7 "SunsetDatesModel" "now" "[I") (by decide +kernel)
  have iX6 : ∀ w ∈ wsX60, w ∈ wsX6_isVersion := by decide +kernel
  have hb2 := hwf.1
  obtain ⟨hr0, hr1, hr2, hr3, hrv, hrf, hru, hrs⟩ := id hr
  refine lv_iload_n hx hb dX6_isVersion_0 rfl (lv_at hl 1 rfl) ?_
  refine lv_iconst (v := 0) hx hb dX6_isVersion_1 (by decide) ?_
  refine lv_aload_n hx hb dX6_isVersion_2 rfl (lv_at hl 0 rfl) ?_
  refine va_get (D := G) (ci := 6) (C := RX6) (T := TX6) (N := 14) hx hb hts iX6 hown hkx.1 hP 0 rfl rfl 0 (by decide) k7 (fun _ h9 => h9) rfl dX6_isVersion_3 ?_
  refine lv_iconst (v := 0) hx hb dX6_isVersion_6 (by decide) ?_
  refine ia hx hb hkx hP 1 rfl 0 rfl (by omega) (by decide) dX6_isVersion_7 ?_
  rw [hr0]
  refine lv_iconst (v := 1) hx hb dX6_isVersion_8 (by decide) ?_
  refine lv_isub hx hb dX6_isVersion_9 ?_
  refine ro_S S hkx (mX6_in l (v := v) (x := 0) (z := ((nI (N 0)) - 1))) gX6_isVersion_X6_in rfl idX6_in.2 ⟨Nat.le_of_ble_eq_true rfl, Nat.le_of_ble_eq_true rfl⟩ rfl hl.1 rfl (Nat.le_of_ble_eq_true rfl) dX6_isVersion_10 ⟨Nat.le_of_ble_eq_true rfl, Nat.le_of_ble_eq_true rfl⟩ (fun r_1 hr_1 => ?_)
  subst hr_1
  exact hret _ _ _ (show (bI (isW v 0 ((nI (N 0)) - 1))) = bI (isT v (nI (N 0))) from by
      rw [isW_T (by omega)]) dX6_isVersion_13

theorem idX6_isFeature : yX6_isFeature.cls = RX6 ∧ yX6_isFeature.cls ≠ "java/lang/invoke/MethodHandle" ∧ yX6_isFeature.cls ≠ "java/lang/invoke/VarHandle" ∧ (parseMethodDescriptor yX6_isFeature.desc).map (fun d => d.parameters.length) = some 1 := by decide +kernel

set_option maxHeartbeats 4000000 in
set_option maxRecDepth 100000 in
theorem mX6_isFeature (l : Launch) {G : va_G} {T : Nat → ClassId} {H : Heap} {r : Nat → Nat} {N : Nat → Nat} {Z : Nat → Nat → Int32} {mm : Nat → Int32} {pp : Nat → Int32} {xx : Nat → Int32} {th : Int32} {sv : Nat} {n1 : Nat} {ac : Int32} {ea : Int32} {le : Int32} {v1 : Int32} {v2 : Int32} {v3 : Int32} {v4 : Int32} {v5 : Int32} {v : Int32} (hP : va_P G vwCl (wMod T r mm pp xx th sv n1 ac ea le v1 v2 v3 v4 v5) H) (hwf : wf N Z) (hr : rel N Z mm) : ro l yX6_isFeature wsX6_isFeature 1 22 [.ref (r 0), .int v] G T H (fun r => r = bI (isT v (nI (N 1)))) := by
  refine ro_of (cc := cX6_isFeature) (maxL := 2) (ret := .boolean) (own := RX6) (by decide +kernel) rfl rfl (Nat.le_of_ble_eq_true rfl) (fun v h => bI_nar h) ?_
  intro p e s m below meth c Q ls S hkx hl hret
  obtain ⟨hx, hb, hml, hown, hts⟩ := id S
  have hl : lv_has ls 2 [(0, .ref (r 0)), (1, .int v)] := hl
  have k7 := hts (.fieldLink RX6 7 "SunsetDatesModel" "now" "[I") (by decide +kernel)
  have iX6 : ∀ w ∈ wsX60, w ∈ wsX6_isFeature := by decide +kernel
  have hb2 := hwf.1
  obtain ⟨hr0, hr1, hr2, hr3, hrv, hrf, hru, hrs⟩ := id hr
  refine lv_iload_n hx hb dX6_isFeature_0 rfl (lv_at hl 1 rfl) ?_
  refine lv_iconst (v := 0) hx hb dX6_isFeature_1 (by decide) ?_
  refine lv_aload_n hx hb dX6_isFeature_2 rfl (lv_at hl 0 rfl) ?_
  refine va_get (D := G) (ci := 6) (C := RX6) (T := TX6) (N := 14) hx hb hts iX6 hown hkx.1 hP 0 rfl rfl 0 (by decide) k7 (fun _ h9 => h9) rfl dX6_isFeature_3 ?_
  refine lv_iconst (v := 1) hx hb dX6_isFeature_6 (by decide) ?_
  refine ia hx hb hkx hP 1 rfl 1 rfl (by omega) (by decide) dX6_isFeature_7 ?_
  rw [hr1]
  refine lv_iconst (v := 1) hx hb dX6_isFeature_8 (by decide) ?_
  refine lv_isub hx hb dX6_isFeature_9 ?_
  refine ro_S S hkx (mX6_in l (v := v) (x := 0) (z := ((nI (N 1)) - 1))) gX6_isFeature_X6_in rfl idX6_in.2 ⟨Nat.le_of_ble_eq_true rfl, Nat.le_of_ble_eq_true rfl⟩ rfl hl.1 rfl (Nat.le_of_ble_eq_true rfl) dX6_isFeature_10 ⟨Nat.le_of_ble_eq_true rfl, Nat.le_of_ble_eq_true rfl⟩ (fun r_1 hr_1 => ?_)
  subst hr_1
  exact hret _ _ _ (show (bI (isW v 0 ((nI (N 1)) - 1))) = bI (isT v (nI (N 1))) from by
      rw [isW_T (by omega)]) dX6_isFeature_13

theorem idX6_isUser : yX6_isUser.cls = RX6 ∧ yX6_isUser.cls ≠ "java/lang/invoke/MethodHandle" ∧ yX6_isUser.cls ≠ "java/lang/invoke/VarHandle" ∧ (parseMethodDescriptor yX6_isUser.desc).map (fun d => d.parameters.length) = some 1 := by decide +kernel

set_option maxHeartbeats 4000000 in
set_option maxRecDepth 100000 in
theorem mX6_isUser (l : Launch) {G : va_G} {T : Nat → ClassId} {H : Heap} {r : Nat → Nat} {N : Nat → Nat} {Z : Nat → Nat → Int32} {mm : Nat → Int32} {pp : Nat → Int32} {xx : Nat → Int32} {th : Int32} {sv : Nat} {n1 : Nat} {ac : Int32} {ea : Int32} {le : Int32} {v1 : Int32} {v2 : Int32} {v3 : Int32} {v4 : Int32} {v5 : Int32} {v : Int32} (hP : va_P G vwCl (wMod T r mm pp xx th sv n1 ac ea le v1 v2 v3 v4 v5) H) (hwf : wf N Z) (hr : rel N Z mm) : ro l yX6_isUser wsX6_isUser 1 22 [.ref (r 0), .int v] G T H (fun r => r = bI (isT v (nI (N 2)))) := by
  refine ro_of (cc := cX6_isUser) (maxL := 2) (ret := .boolean) (own := RX6) (by decide +kernel) rfl rfl (Nat.le_of_ble_eq_true rfl) (fun v h => bI_nar h) ?_
  intro p e s m below meth c Q ls S hkx hl hret
  obtain ⟨hx, hb, hml, hown, hts⟩ := id S
  have hl : lv_has ls 2 [(0, .ref (r 0)), (1, .int v)] := hl
  have k7 := hts (.fieldLink RX6 7 "SunsetDatesModel" "now" "[I") (by decide +kernel)
  have iX6 : ∀ w ∈ wsX60, w ∈ wsX6_isUser := by decide +kernel
  have hb2 := hwf.1
  obtain ⟨hr0, hr1, hr2, hr3, hrv, hrf, hru, hrs⟩ := id hr
  refine lv_iload_n hx hb dX6_isUser_0 rfl (lv_at hl 1 rfl) ?_
  refine lv_iconst (v := 0) hx hb dX6_isUser_1 (by decide) ?_
  refine lv_aload_n hx hb dX6_isUser_2 rfl (lv_at hl 0 rfl) ?_
  refine va_get (D := G) (ci := 6) (C := RX6) (T := TX6) (N := 14) hx hb hts iX6 hown hkx.1 hP 0 rfl rfl 0 (by decide) k7 (fun _ h9 => h9) rfl dX6_isUser_3 ?_
  refine lv_iconst (v := 2) hx hb dX6_isUser_6 (by decide) ?_
  refine ia hx hb hkx hP 1 rfl 2 rfl (by omega) (by decide) dX6_isUser_7 ?_
  rw [hr2]
  refine lv_iconst (v := 1) hx hb dX6_isUser_8 (by decide) ?_
  refine lv_isub hx hb dX6_isUser_9 ?_
  refine ro_S S hkx (mX6_in l (v := v) (x := 0) (z := ((nI (N 2)) - 1))) gX6_isUser_X6_in rfl idX6_in.2 ⟨Nat.le_of_ble_eq_true rfl, Nat.le_of_ble_eq_true rfl⟩ rfl hl.1 rfl (Nat.le_of_ble_eq_true rfl) dX6_isUser_10 ⟨Nat.le_of_ble_eq_true rfl, Nat.le_of_ble_eq_true rfl⟩ (fun r_1 hr_1 => ?_)
  subst hr_1
  exact hret _ _ _ (show (bI (isW v 0 ((nI (N 2)) - 1))) = bI (isT v (nI (N 2))) from by
      rw [isW_T (by omega)]) dX6_isUser_13

theorem idX6_isShim : yX6_isShim.cls = RX6 ∧ yX6_isShim.cls ≠ "java/lang/invoke/MethodHandle" ∧ yX6_isShim.cls ≠ "java/lang/invoke/VarHandle" ∧ (parseMethodDescriptor yX6_isShim.desc).map (fun d => d.parameters.length) = some 1 := by decide +kernel

set_option maxHeartbeats 4000000 in
set_option maxRecDepth 100000 in
theorem mX6_isShim (l : Launch) {G : va_G} {T : Nat → ClassId} {H : Heap} {r : Nat → Nat} {N : Nat → Nat} {Z : Nat → Nat → Int32} {mm : Nat → Int32} {pp : Nat → Int32} {xx : Nat → Int32} {th : Int32} {sv : Nat} {n1 : Nat} {ac : Int32} {ea : Int32} {le : Int32} {v1 : Int32} {v2 : Int32} {v3 : Int32} {v4 : Int32} {v5 : Int32} {v : Int32} (hP : va_P G vwCl (wMod T r mm pp xx th sv n1 ac ea le v1 v2 v3 v4 v5) H) (hwf : wf N Z) (hr : rel N Z mm) : ro l yX6_isShim wsX6_isShim 1 22 [.ref (r 0), .int v] G T H (fun r => r = bI (isT v (nI (N 3)))) := by
  refine ro_of (cc := cX6_isShim) (maxL := 2) (ret := .boolean) (own := RX6) (by decide +kernel) rfl rfl (Nat.le_of_ble_eq_true rfl) (fun v h => bI_nar h) ?_
  intro p e s m below meth c Q ls S hkx hl hret
  obtain ⟨hx, hb, hml, hown, hts⟩ := id S
  have hl : lv_has ls 2 [(0, .ref (r 0)), (1, .int v)] := hl
  have k7 := hts (.fieldLink RX6 7 "SunsetDatesModel" "now" "[I") (by decide +kernel)
  have iX6 : ∀ w ∈ wsX60, w ∈ wsX6_isShim := by decide +kernel
  have hb2 := hwf.1
  obtain ⟨hr0, hr1, hr2, hr3, hrv, hrf, hru, hrs⟩ := id hr
  refine lv_iload_n hx hb dX6_isShim_0 rfl (lv_at hl 1 rfl) ?_
  refine lv_iconst (v := 0) hx hb dX6_isShim_1 (by decide) ?_
  refine lv_aload_n hx hb dX6_isShim_2 rfl (lv_at hl 0 rfl) ?_
  refine va_get (D := G) (ci := 6) (C := RX6) (T := TX6) (N := 14) hx hb hts iX6 hown hkx.1 hP 0 rfl rfl 0 (by decide) k7 (fun _ h9 => h9) rfl dX6_isShim_3 ?_
  refine lv_iconst (v := 3) hx hb dX6_isShim_6 (by decide) ?_
  refine ia hx hb hkx hP 1 rfl 3 rfl (by omega) (by decide) dX6_isShim_7 ?_
  rw [hr3]
  refine lv_iconst (v := 1) hx hb dX6_isShim_8 (by decide) ?_
  refine lv_isub hx hb dX6_isShim_9 ?_
  refine ro_S S hkx (mX6_in l (v := v) (x := 0) (z := ((nI (N 3)) - 1))) gX6_isShim_X6_in rfl idX6_in.2 ⟨Nat.le_of_ble_eq_true rfl, Nat.le_of_ble_eq_true rfl⟩ rfl hl.1 rfl (Nat.le_of_ble_eq_true rfl) dX6_isShim_10 ⟨Nat.le_of_ble_eq_true rfl, Nat.le_of_ble_eq_true rfl⟩ (fun r_1 hr_1 => ?_)
  subst hr_1
  exact hret _ _ _ (show (bI (isW v 0 ((nI (N 3)) - 1))) = bI (isT v (nI (N 3))) from by
      rw [isW_T (by omega)]) dX6_isShim_13

theorem idX6_release : yX6_release.cls = RX6 ∧ yX6_release.cls ≠ "java/lang/invoke/MethodHandle" ∧ yX6_release.cls ≠ "java/lang/invoke/VarHandle" ∧ (parseMethodDescriptor yX6_release.desc).map (fun d => d.parameters.length) = some 1 := by decide +kernel

set_option maxHeartbeats 4000000 in
set_option maxRecDepth 100000 in
theorem mX6_release (l : Launch) {G : va_G} {T : Nat → ClassId} {H : Heap} {r : Nat → Nat} {N : Nat → Nat} {Z : Nat → Nat → Int32} {mm : Nat → Int32} {pp : Nat → Int32} {xx : Nat → Int32} {th : Int32} {sv : Nat} {n1 : Nat} {ac : Int32} {ea : Int32} {le : Int32} {v1 : Int32} {v2 : Int32} {v3 : Int32} {v4 : Int32} {v5 : Int32} {v : Nat} (hP : va_P G vwCl (wMod T r mm pp xx th sv n1 ac ea le v1 v2 v3 v4 v5) H) (hwf : wf N Z) (hr : rel N Z mm) (hv : v < N 0) : ro l yX6_release wsX6_release 0 0 [.ref (r 0), .int (nI v)] G T H (fun r => r = Z 1 v) := by
  refine ro_of (cc := cX6_release) (maxL := 2) (ret := .int) (own := RX6) (by decide +kernel) rfl rfl (Nat.le_of_ble_eq_true rfl) (fun v _ => vp_nar_int v) ?_
  intro p e s m below meth c Q ls S hkx hl hret
  obtain ⟨hx, hb, hml, hown, hts⟩ := id S
  have hl : lv_has ls 2 [(0, .ref (r 0)), (1, .int (nI v))] := hl
  have k7 := hts (.fieldLink RX6 7 "SunsetDatesModel" "now" "[I") (by decide +kernel)
  have iX6 : ∀ w ∈ wsX60, w ∈ wsX6_release := by decide +kernel
  have hb2 := hwf.1
  obtain ⟨hr0, hr1, hr2, hr3, hrv, hrf, hru, hrs⟩ := id hr
  refine lv_aload_n hx hb dX6_release_0 rfl (lv_at hl 0 rfl) ?_
  refine va_get (D := G) (ci := 6) (C := RX6) (T := TX6) (N := 14) hx hb hts iX6 hown hkx.1 hP 0 rfl rfl 0 (by decide) k7 (fun _ h9 => h9) rfl dX6_release_1 ?_
  refine lv_iconst (v := 4) hx hb dX6_release_4 (by decide) ?_
  refine lv_iconst (v := 3) hx hb dX6_release_5 (by decide) ?_
  refine lv_iload_n hx hb dX6_release_6 rfl (lv_at hl 1 rfl) ?_
  refine lv_imul hx hb dX6_release_7 ?_
  rw [show (3 * (nI v)) = (nI (3 * v)) from pk_mul _ _]
  refine lv_iadd hx hb dX6_release_8 ?_
  rw [show (4 + (nI (3 * v))) = (nI (4 + (3 * v))) from nI_add 4 (3 * v)]
  refine ia hx hb hkx hP 1 rfl (4 + (3 * v)) rfl (by omega) (by decide) dX6_release_9 ?_
  exact hret _ _ _ (show (mm (4 + (3 * v))) = Z 1 v from by
      exact (hrv v hv).1) dX6_release_10

theorem idX6_end : yX6_end.cls = RX6 ∧ yX6_end.cls ≠ "java/lang/invoke/MethodHandle" ∧ yX6_end.cls ≠ "java/lang/invoke/VarHandle" ∧ (parseMethodDescriptor yX6_end.desc).map (fun d => d.parameters.length) = some 1 := by decide +kernel

set_option maxHeartbeats 4000000 in
set_option maxRecDepth 100000 in
theorem mX6_end (l : Launch) {G : va_G} {T : Nat → ClassId} {H : Heap} {r : Nat → Nat} {N : Nat → Nat} {Z : Nat → Nat → Int32} {mm : Nat → Int32} {pp : Nat → Int32} {xx : Nat → Int32} {th : Int32} {sv : Nat} {n1 : Nat} {ac : Int32} {ea : Int32} {le : Int32} {v1 : Int32} {v2 : Int32} {v3 : Int32} {v4 : Int32} {v5 : Int32} {v : Nat} (hP : va_P G vwCl (wMod T r mm pp xx th sv n1 ac ea le v1 v2 v3 v4 v5) H) (hwf : wf N Z) (hr : rel N Z mm) (hv : v < N 0) : ro l yX6_end wsX6_end 0 0 [.ref (r 0), .int (nI v)] G T H (fun r => r = Z 2 v) := by
  refine ro_of (cc := cX6_end) (maxL := 2) (ret := .int) (own := RX6) (by decide +kernel) rfl rfl (Nat.le_of_ble_eq_true rfl) (fun v _ => vp_nar_int v) ?_
  intro p e s m below meth c Q ls S hkx hl hret
  obtain ⟨hx, hb, hml, hown, hts⟩ := id S
  have hl : lv_has ls 2 [(0, .ref (r 0)), (1, .int (nI v))] := hl
  have k7 := hts (.fieldLink RX6 7 "SunsetDatesModel" "now" "[I") (by decide +kernel)
  have iX6 : ∀ w ∈ wsX60, w ∈ wsX6_end := by decide +kernel
  have hb2 := hwf.1
  obtain ⟨hr0, hr1, hr2, hr3, hrv, hrf, hru, hrs⟩ := id hr
  refine lv_aload_n hx hb dX6_end_0 rfl (lv_at hl 0 rfl) ?_
  refine va_get (D := G) (ci := 6) (C := RX6) (T := TX6) (N := 14) hx hb hts iX6 hown hkx.1 hP 0 rfl rfl 0 (by decide) k7 (fun _ h9 => h9) rfl dX6_end_1 ?_
  refine lv_iconst (v := 5) hx hb dX6_end_4 (by decide) ?_
  refine lv_iconst (v := 3) hx hb dX6_end_5 (by decide) ?_
  refine lv_iload_n hx hb dX6_end_6 rfl (lv_at hl 1 rfl) ?_
  refine lv_imul hx hb dX6_end_7 ?_
  rw [show (3 * (nI v)) = (nI (3 * v)) from pk_mul _ _]
  refine lv_iadd hx hb dX6_end_8 ?_
  rw [show (5 + (nI (3 * v))) = (nI (5 + (3 * v))) from nI_add 5 (3 * v)]
  refine ia hx hb hkx hP 1 rfl (5 + (3 * v)) rfl (by omega) (by decide) dX6_end_9 ?_
  exact hret _ _ _ (show (mm (5 + (3 * v))) = Z 2 v from by
      exact (hrv v hv).2.1) dX6_end_10

theorem idX6_ofUser : yX6_ofUser.cls = RX6 ∧ yX6_ofUser.cls ≠ "java/lang/invoke/MethodHandle" ∧ yX6_ofUser.cls ≠ "java/lang/invoke/VarHandle" ∧ (parseMethodDescriptor yX6_ofUser.desc).map (fun d => d.parameters.length) = some 2 := by decide +kernel

set_option maxHeartbeats 4000000 in
set_option maxRecDepth 100000 in
theorem mX6_ofUser (l : Launch) {G : va_G} {T : Nat → ClassId} {H : Heap} {r : Nat → Nat} {N : Nat → Nat} {Z : Nat → Nat → Int32} {mm : Nat → Int32} {pp : Nat → Int32} {xx : Nat → Int32} {th : Int32} {sv : Nat} {n1 : Nat} {ac : Int32} {ea : Int32} {le : Int32} {v1 : Int32} {v2 : Int32} {v3 : Int32} {v4 : Int32} {v5 : Int32} {u : Nat} {w : Nat} (hP : va_P G vwCl (wMod T r mm pp xx th sv n1 ac ea le v1 v2 v3 v4 v5) H) (hwf : wf N Z) (hr : rel N Z mm) (hu : u < N 2) (hw : w < 6) : ro l yX6_ofUser wsX6_ofUser 0 0 [.ref (r 0), .int (nI u), .int (nI w)] G T H (fun r => r = Z (5 + w) u) := by
  refine ro_of (cc := cX6_ofUser) (maxL := 3) (ret := .int) (own := RX6) (by decide +kernel) rfl rfl (Nat.le_of_ble_eq_true rfl) (fun v _ => vp_nar_int v) ?_
  intro p e s m below meth c Q ls S hkx hl hret
  obtain ⟨hx, hb, hml, hown, hts⟩ := id S
  have hl : lv_has ls 3 [(0, .ref (r 0)), (1, .int (nI u)), (2, .int (nI w))] := hl
  have k7 := hts (.fieldLink RX6 7 "SunsetDatesModel" "now" "[I") (by decide +kernel)
  have iX6 : ∀ w ∈ wsX60, w ∈ wsX6_ofUser := by decide +kernel
  have hb2 := hwf.1
  obtain ⟨hr0, hr1, hr2, hr3, hrv, hrf, hru, hrs⟩ := id hr
  refine lv_aload_n hx hb dX6_ofUser_0 rfl (lv_at hl 0 rfl) ?_
  refine va_get (D := G) (ci := 6) (C := RX6) (T := TX6) (N := 14) hx hb hts iX6 hown hkx.1 hP 0 rfl rfl 0 (by decide) k7 (fun _ h9 => h9) rfl dX6_ofUser_1 ?_
  refine lv_bipush (v := 38) hx hb dX6_ofUser_4 (by decide) ?_
  refine lv_bipush (v := 6) hx hb dX6_ofUser_6 (by decide) ?_
  refine lv_iload_n hx hb dX6_ofUser_8 rfl (lv_at hl 1 rfl) ?_
  refine lv_imul hx hb dX6_ofUser_9 ?_
  rw [show (6 * (nI u)) = (nI (6 * u)) from pk_mul _ _]
  refine lv_iadd hx hb dX6_ofUser_10 ?_
  rw [show (38 + (nI (6 * u))) = (nI (38 + (6 * u))) from nI_add 38 (6 * u)]
  refine lv_iload_n hx hb dX6_ofUser_11 rfl (lv_at hl 2 rfl) ?_
  refine lv_iadd hx hb dX6_ofUser_12 ?_
  rw [show ((nI (38 + (6 * u))) + (nI w)) = (nI ((38 + (6 * u)) + w)) from nI_add (38 + (6 * u)) w]
  refine ia hx hb hkx hP 1 rfl ((38 + (6 * u)) + w) rfl (by omega) (by decide) dX6_ofUser_13 ?_
  exact hret _ _ _ (show (mm ((38 + (6 * u)) + w)) = Z (5 + w) u from by
      exact hru u hu w hw) dX6_ofUser_14

theorem idX6_ofShim : yX6_ofShim.cls = RX6 ∧ yX6_ofShim.cls ≠ "java/lang/invoke/MethodHandle" ∧ yX6_ofShim.cls ≠ "java/lang/invoke/VarHandle" ∧ (parseMethodDescriptor yX6_ofShim.desc).map (fun d => d.parameters.length) = some 2 := by decide +kernel

set_option maxHeartbeats 4000000 in
set_option maxRecDepth 100000 in
theorem mX6_ofShim (l : Launch) {G : va_G} {T : Nat → ClassId} {H : Heap} {r : Nat → Nat} {N : Nat → Nat} {Z : Nat → Nat → Int32} {mm : Nat → Int32} {pp : Nat → Int32} {xx : Nat → Int32} {th : Int32} {sv : Nat} {n1 : Nat} {ac : Int32} {ea : Int32} {le : Int32} {v1 : Int32} {v2 : Int32} {v3 : Int32} {v4 : Int32} {v5 : Int32} {t : Nat} {w : Nat} (hP : va_P G vwCl (wMod T r mm pp xx th sv n1 ac ea le v1 v2 v3 v4 v5) H) (hwf : wf N Z) (hr : rel N Z mm) (ht : t < N 3) (hw : w < 5) : ro l yX6_ofShim wsX6_ofShim 0 0 [.ref (r 0), .int (nI t), .int (nI w)] G T H (fun r => r = Z (11 + w) t) := by
  refine ro_of (cc := cX6_ofShim) (maxL := 3) (ret := .int) (own := RX6) (by decide +kernel) rfl rfl (Nat.le_of_ble_eq_true rfl) (fun v _ => vp_nar_int v) ?_
  intro p e s m below meth c Q ls S hkx hl hret
  obtain ⟨hx, hb, hml, hown, hts⟩ := id S
  have hl : lv_has ls 3 [(0, .ref (r 0)), (1, .int (nI t)), (2, .int (nI w))] := hl
  have k7 := hts (.fieldLink RX6 7 "SunsetDatesModel" "now" "[I") (by decide +kernel)
  have iX6 : ∀ w ∈ wsX60, w ∈ wsX6_ofShim := by decide +kernel
  have hb2 := hwf.1
  obtain ⟨hr0, hr1, hr2, hr3, hrv, hrf, hru, hrs⟩ := id hr
  refine lv_aload_n hx hb dX6_ofShim_0 rfl (lv_at hl 0 rfl) ?_
  refine va_get (D := G) (ci := 6) (C := RX6) (T := TX6) (N := 14) hx hb hts iX6 hown hkx.1 hP 0 rfl rfl 0 (by decide) k7 (fun _ h9 => h9) rfl dX6_ofShim_1 ?_
  refine lv_bipush (v := 98) hx hb dX6_ofShim_4 (by decide) ?_
  refine lv_iconst (v := 5) hx hb dX6_ofShim_6 (by decide) ?_
  refine lv_iload_n hx hb dX6_ofShim_7 rfl (lv_at hl 1 rfl) ?_
  refine lv_imul hx hb dX6_ofShim_8 ?_
  rw [show (5 * (nI t)) = (nI (5 * t)) from pk_mul _ _]
  refine lv_iadd hx hb dX6_ofShim_9 ?_
  rw [show (98 + (nI (5 * t))) = (nI (98 + (5 * t))) from nI_add 98 (5 * t)]
  refine lv_iload_n hx hb dX6_ofShim_10 rfl (lv_at hl 2 rfl) ?_
  refine lv_iadd hx hb dX6_ofShim_11 ?_
  rw [show ((nI (98 + (5 * t))) + (nI w)) = (nI ((98 + (5 * t)) + w)) from nI_add (98 + (5 * t)) w]
  refine ia hx hb hkx hP 1 rfl ((98 + (5 * t)) + w) rfl (by omega) (by decide) dX6_ofShim_12 ?_
  exact hret _ _ _ (show (mm ((98 + (5 * t)) + w)) = Z (11 + w) t from by
      exact hrs t ht w hw) dX6_ofShim_13

theorem idX6_featuresOf : yX6_featuresOf.cls = RX6 ∧ yX6_featuresOf.cls ≠ "java/lang/invoke/MethodHandle" ∧ yX6_featuresOf.cls ≠ "java/lang/invoke/VarHandle" ∧ (parseMethodDescriptor yX6_featuresOf.desc).map (fun d => d.parameters.length) = some 1 := by decide +kernel

set_option maxHeartbeats 4000000 in
set_option maxRecDepth 100000 in
theorem mX6_featuresOf (l : Launch) {G : va_G} {T : Nat → ClassId} {H : Heap} {r : Nat → Nat} {N : Nat → Nat} {Z : Nat → Nat → Int32} {mm : Nat → Int32} {pp : Nat → Int32} {xx : Nat → Int32} {th : Int32} {sv : Nat} {n1 : Nat} {ac : Int32} {ea : Int32} {le : Int32} {v1 : Int32} {v2 : Int32} {v3 : Int32} {v4 : Int32} {v5 : Int32} {v : Nat} (hP : va_P G vwCl (wMod T r mm pp xx th sv n1 ac ea le v1 v2 v3 v4 v5) H) (hwf : wf N Z) (hr : rel N Z mm) (hv : v < N 0) : ro l yX6_featuresOf wsX6_featuresOf 1 21 [.ref (r 0), .int (nI v)] G T H (fun r => r = Z 4 v) := by
  refine ro_of (cc := cX6_featuresOf) (maxL := 4) (ret := .int) (own := RX6) (by decide +kernel) rfl rfl (Nat.le_of_ble_eq_true rfl) (fun v _ => vp_nar_int v) ?_
  intro p e s m below meth c Q ls S hkx hl hret
  obtain ⟨hx, hb, hml, hown, hts⟩ := id S
  have hl : lv_has ls 4 [(0, .ref (r 0)), (1, .int (nI v))] := hl
  have k7 := hts (.fieldLink RX6 7 "SunsetDatesModel" "now" "[I") (by decide +kernel)
  have iX6 : ∀ w ∈ wsX60, w ∈ wsX6_featuresOf := by decide +kernel
  have hb2 := hwf.1
  obtain ⟨hr0, hr1, hr2, hr3, hrv, hrf, hru, hrs⟩ := id hr
  refine lv_iconst (v := 0) hx hb dX6_featuresOf_0 (by decide) ?_
  refine lv_istore_n (lv' := [(2, .int 0), (0, .ref (r 0)), (1, .int (nI v))]) hx hb dX6_featuresOf_1 rfl hl (by decide) rfl (fun ls hl => ?_)
  refine lv_iconst (v := 0) hx hb dX6_featuresOf_2 (by decide) ?_
  refine lv_istore_n (lv' := [(3, .int 0), (2, .int 0), (0, .ref (r 0)), (1, .int (nI v))]) hx hb dX6_featuresOf_3 rfl hl (by decide) rfl (fun ls hl => ?_)
  have L4 : ∀ (fuel : Nat) (k : Nat) (y : Int32), N 1 - k < fuel → k ≤ N 1 → y = foM Z v k → ∀ ls : Array Slot, lv_has ls 4 [(0, .ref (r 0)), (1, .int (nI v)), (2, .int y), (3, .int (nI k))] → W p l e (rmo 1 21) s m ([.ref (r 0), .int (nI v)] : List Value).toArray below meth c H [] 0 0 Q (F0 m 4 ls []) := by
    intro fuel
    induction fuel with
    | zero => intro k y hm; exact absurd hm (Nat.not_lt_zero _)
    | succ fuel ih4 =>
      intro k y hm4 hk hy ls hl
      refine lv_iload_n hx hb dX6_featuresOf_4 rfl (lv_at hl 3 rfl) ?_
      refine lv_aload_n hx hb dX6_featuresOf_5 rfl (lv_at hl 0 rfl) ?_
      refine va_get (D := G) (ci := 6) (C := RX6) (T := TX6) (N := 14) hx hb hts iX6 hown hkx.1 hP 0 rfl rfl 0 (by decide) k7 (fun _ h9 => h9) rfl dX6_featuresOf_6 ?_
      refine lv_iconst (v := 1) hx hb dX6_featuresOf_9 (by decide) ?_
      refine ia hx hb hkx hP 1 rfl 1 rfl (by omega) (by decide) dX6_featuresOf_10 ?_
      rw [hr1]
      refine lv_icmp_ge (tgt := 46) hx hb dX6_featuresOf_11 (by decide) (fun c_1 => ?_) (fun c_1 => ?_)
      · replace c_1 := cn_le (a := (N 1)) (b := k) (by omega) (by omega) c_1
        refine lv_iload_n hx hb dX6_featuresOf_46 rfl (lv_at hl 2 rfl) ?_
        exact hret _ _ _ (show y = Z 4 v from by
            rw [hy, show k = N 1 by omega, foM_eq hwf hv]) dX6_featuresOf_47
      · replace c_1 := cn_nle (a := (N 1)) (b := k) (by omega) (by omega) c_1
        refine lv_iload_n hx hb dX6_featuresOf_14 rfl (lv_at hl 2 rfl) ?_
        refine lv_aload_n hx hb dX6_featuresOf_15 rfl (lv_at hl 0 rfl) ?_
        refine va_get (D := G) (ci := 6) (C := RX6) (T := TX6) (N := 14) hx hb hts iX6 hown hkx.1 hP 0 rfl rfl 0 (by decide) k7 (fun _ h9 => h9) rfl dX6_featuresOf_16 ?_
        refine lv_bipush (v := 28) hx hb dX6_featuresOf_19 (by decide) ?_
        refine lv_iload_n hx hb dX6_featuresOf_21 rfl (lv_at hl 3 rfl) ?_
        refine lv_iadd hx hb dX6_featuresOf_22 ?_
        rw [show (28 + (nI k)) = (nI (28 + k)) from nI_add 28 k]
        refine ia hx hb hkx hP 1 rfl (28 + k) rfl (by omega) (by decide) dX6_featuresOf_23 ?_
        refine lv_iload_n hx hb dX6_featuresOf_24 rfl (lv_at hl 1 rfl) ?_
        refine ro_S S hkx (mX6_has l (x := (mm (28 + k))) (k := (nI v))) gX6_featuresOf_X6_has rfl idX6_has.2 ⟨Nat.le_of_ble_eq_true rfl, Nat.le_of_ble_eq_true rfl⟩ rfl hl.1 rfl (Nat.le_of_ble_eq_true rfl) dX6_featuresOf_25 ⟨Nat.le_of_ble_eq_true rfl, Nat.le_of_ble_eq_true rfl⟩ (fun r_2 hr_2 => ?_)
        subst hr_2
        rw [rel_has hwf hr (show k < N 1 by omega) (show v < N 0 by omega)]
        refine lv_if_eq (tgt := 37) hx hb dX6_featuresOf_28 (by decide) (fun c_3 => ?_) (fun c_3 => ?_)
        · replace c_3 := bI_e0 c_3
          refine lv_iconst (v := 0) hx hb dX6_featuresOf_37 (by decide) ?_
          refine lv_ior hx hb dX6_featuresOf_38 ?_
          refine lv_istore_n (lv' := [(2, .int (y ||| 0)), (0, .ref (r 0)), (1, .int (nI v)), (3, .int (nI k))]) hx hb dX6_featuresOf_39 rfl hl (by decide) rfl (fun ls hl => ?_)
          refine lv_iinc (v := (nI (k + 1))) (lv' := [(3, .int (nI (k + 1))), (2, .int (y ||| 0)), (0, .ref (r 0)), (1, .int (nI v))]) hx hb dX6_featuresOf_40 hl (k := 3) rfl (nI_inc k) (by decide) rfl (fun ls hl => ?_)
          refine lv_goto (tgt := 4) hx hb dX6_featuresOf_43 (by decide) ?_
          exact ih4 (k + 1) (y ||| 0) (by omega) (by omega) (by rw [hy]; first | rfl | (simp [foM, *]; done)) _ (lv_sub hl [2, 3, 1, 0] rfl)
        · replace c_3 := bI_n0 c_3
          refine lv_iconst (v := 1) hx hb dX6_featuresOf_31 (by decide) ?_
          refine lv_iload_n hx hb dX6_featuresOf_32 rfl (lv_at hl 3 rfl) ?_
          refine lv_ishl hx hb dX6_featuresOf_33 ?_
          refine lv_goto (tgt := 38) hx hb dX6_featuresOf_34 (by decide) ?_
          refine lv_ior hx hb dX6_featuresOf_38 ?_
          refine lv_istore_n (lv' := [(2, .int (y ||| (1 <<< ((nI k) &&& 31)))), (0, .ref (r 0)), (1, .int (nI v)), (3, .int (nI k))]) hx hb dX6_featuresOf_39 rfl hl (by decide) rfl (fun ls hl => ?_)
          refine lv_iinc (v := (nI (k + 1))) (lv' := [(3, .int (nI (k + 1))), (2, .int (y ||| (1 <<< ((nI k) &&& 31)))), (0, .ref (r 0)), (1, .int (nI v))]) hx hb dX6_featuresOf_40 hl (k := 3) rfl (nI_inc k) (by decide) rfl (fun ls hl => ?_)
          refine lv_goto (tgt := 4) hx hb dX6_featuresOf_43 (by decide) ?_
          exact ih4 (k + 1) (y ||| (1 <<< ((nI k) &&& 31))) (by omega) (by omega) (by rw [hy]; first | rfl | (simp [foM, *]; done)) _ (lv_sub hl [2, 3, 1, 0] rfl)
  exact L4 _ 0 0 (Nat.lt_succ_self _) (by omega) (by rfl) _ (lv_sub hl [2, 3, 1, 0] rfl)

theorem idX6_shimsFor : yX6_shimsFor.cls = RX6 ∧ yX6_shimsFor.cls ≠ "java/lang/invoke/MethodHandle" ∧ yX6_shimsFor.cls ≠ "java/lang/invoke/VarHandle" ∧ (parseMethodDescriptor yX6_shimsFor.desc).map (fun d => d.parameters.length) = some 1 := by decide +kernel

set_option maxHeartbeats 4000000 in
set_option maxRecDepth 100000 in
theorem mX6_shimsFor (l : Launch) {G : va_G} {T : Nat → ClassId} {H : Heap} {r : Nat → Nat} {N : Nat → Nat} {Z : Nat → Nat → Int32} {mm : Nat → Int32} {pp : Nat → Int32} {xx : Nat → Int32} {th : Int32} {sv : Nat} {n1 : Nat} {ac : Int32} {ea : Int32} {le : Int32} {v1 : Int32} {v2 : Int32} {v3 : Int32} {v4 : Int32} {v5 : Int32} {v : Nat} (hP : va_P G vwCl (wMod T r mm pp xx th sv n1 ac ea le v1 v2 v3 v4 v5) H) (hwf : wf N Z) (hr : rel N Z mm) (hv : v < N 0) : ro l yX6_shimsFor wsX6_shimsFor 1 22 [.ref (r 0), .int (nI v)] G T H (fun r => r = cntFor Z (nI v) (N 3)) := by
  refine ro_of (cc := cX6_shimsFor) (maxL := 4) (ret := .int) (own := RX6) (by decide +kernel) rfl rfl (Nat.le_of_ble_eq_true rfl) (fun v _ => vp_nar_int v) ?_
  intro p e s m below meth c Q ls S hkx hl hret
  obtain ⟨hx, hb, hml, hown, hts⟩ := id S
  have hl : lv_has ls 4 [(0, .ref (r 0)), (1, .int (nI v))] := hl
  have k7 := hts (.fieldLink RX6 7 "SunsetDatesModel" "now" "[I") (by decide +kernel)
  have iX6 : ∀ w ∈ wsX60, w ∈ wsX6_shimsFor := by decide +kernel
  have hb2 := hwf.1
  obtain ⟨hr0, hr1, hr2, hr3, hrv, hrf, hru, hrs⟩ := id hr
  refine lv_iconst (v := 0) hx hb dX6_shimsFor_0 (by decide) ?_
  refine lv_istore_n (lv' := [(2, .int 0), (0, .ref (r 0)), (1, .int (nI v))]) hx hb dX6_shimsFor_1 rfl hl (by decide) rfl (fun ls hl => ?_)
  refine lv_iconst (v := 0) hx hb dX6_shimsFor_2 (by decide) ?_
  refine lv_istore_n (lv' := [(3, .int 0), (2, .int 0), (0, .ref (r 0)), (1, .int (nI v))]) hx hb dX6_shimsFor_3 rfl hl (by decide) rfl (fun ls hl => ?_)
  have L4 : ∀ (fuel : Nat) (k : Nat) (y : Int32), N 3 - k < fuel → k ≤ N 3 → y = cntFor Z (nI v) k → ∀ ls : Array Slot, lv_has ls 4 [(0, .ref (r 0)), (1, .int (nI v)), (2, .int y), (3, .int (nI k))] → W p l e (rmo 1 22) s m ([.ref (r 0), .int (nI v)] : List Value).toArray below meth c H [] 0 0 Q (F0 m 4 ls []) := by
    intro fuel
    induction fuel with
    | zero => intro k y hm; exact absurd hm (Nat.not_lt_zero _)
    | succ fuel ih4 =>
      intro k y hm4 hk hy ls hl
      refine lv_iload_n hx hb dX6_shimsFor_4 rfl (lv_at hl 3 rfl) ?_
      refine lv_aload_n hx hb dX6_shimsFor_5 rfl (lv_at hl 0 rfl) ?_
      refine va_get (D := G) (ci := 6) (C := RX6) (T := TX6) (N := 14) hx hb hts iX6 hown hkx.1 hP 0 rfl rfl 0 (by decide) k7 (fun _ h9 => h9) rfl dX6_shimsFor_6 ?_
      refine lv_iconst (v := 3) hx hb dX6_shimsFor_9 (by decide) ?_
      refine ia hx hb hkx hP 1 rfl 3 rfl (by omega) (by decide) dX6_shimsFor_10 ?_
      rw [hr3]
      refine lv_icmp_ge (tgt := 38) hx hb dX6_shimsFor_11 (by decide) (fun c_1 => ?_) (fun c_1 => ?_)
      · replace c_1 := cn_le (a := (N 3)) (b := k) (by omega) (by omega) c_1
        refine lv_iload_n hx hb dX6_shimsFor_38 rfl (lv_at hl 2 rfl) ?_
        exact hret _ _ _ (show y = cntFor Z (nI v) (N 3) from by
            rw [hy, show k = N 3 by omega]) dX6_shimsFor_39
      · replace c_1 := cn_nle (a := (N 3)) (b := k) (by omega) (by omega) c_1
        refine lv_iload_n hx hb dX6_shimsFor_14 rfl (lv_at hl 2 rfl) ?_
        refine lv_aload_n hx hb dX6_shimsFor_15 rfl (lv_at hl 0 rfl) ?_
        refine lv_iload_n hx hb dX6_shimsFor_16 rfl (lv_at hl 3 rfl) ?_
        refine lv_iconst (v := 1) hx hb dX6_shimsFor_17 (by decide) ?_
        refine ro_V S hkx (mX6_ofShim l (t := k) (w := 1) (hP := hP) (hwf := hwf) (hr := hr) (ht := (by omega)) (hw := (by omega))) gX6_shimsFor_X6_ofShim rfl idX6_ofShim ⟨Nat.le_of_ble_eq_true rfl, Nat.le_of_ble_eq_true rfl⟩ hP 0 rfl rfl rfl rfl hl.1 rfl (Nat.le_of_ble_eq_true rfl) dX6_shimsFor_18 ⟨Nat.le_of_ble_eq_true rfl, Nat.le_of_ble_eq_true rfl⟩ (fun r_2 hr_2 => ?_)
        subst hr_2
        skip
        refine lv_iload_n hx hb dX6_shimsFor_21 rfl (lv_at hl 1 rfl) ?_
        refine lv_icmp_ne (tgt := 29) hx hb dX6_shimsFor_22 (by decide) (fun c_3 => ?_) (fun c_3 => ?_)
        · skip
          refine lv_iconst (v := 0) hx hb dX6_shimsFor_29 (by decide) ?_
          refine lv_iadd hx hb dX6_shimsFor_30 ?_
          refine lv_istore_n (lv' := [(2, .int (y + 0)), (0, .ref (r 0)), (1, .int (nI v)), (3, .int (nI k))]) hx hb dX6_shimsFor_31 rfl hl (by decide) rfl (fun ls hl => ?_)
          refine lv_iinc (v := (nI (k + 1))) (lv' := [(3, .int (nI (k + 1))), (2, .int (y + 0)), (0, .ref (r 0)), (1, .int (nI v))]) hx hb dX6_shimsFor_32 hl (k := 3) rfl (nI_inc k) (by decide) rfl (fun ls hl => ?_)
          refine lv_goto (tgt := 4) hx hb dX6_shimsFor_35 (by decide) ?_
          exact ih4 (k + 1) (y + 0) (by omega) (by omega) (by rw [hy]; first | rfl | (simp [cntFor, *]; done)) _ (lv_sub hl [2, 3, 1, 0] rfl)
        · skip
          refine lv_iconst (v := 1) hx hb dX6_shimsFor_25 (by decide) ?_
          refine lv_goto (tgt := 30) hx hb dX6_shimsFor_26 (by decide) ?_
          refine lv_iadd hx hb dX6_shimsFor_30 ?_
          refine lv_istore_n (lv' := [(2, .int (y + 1)), (0, .ref (r 0)), (1, .int (nI v)), (3, .int (nI k))]) hx hb dX6_shimsFor_31 rfl hl (by decide) rfl (fun ls hl => ?_)
          refine lv_iinc (v := (nI (k + 1))) (lv' := [(3, .int (nI (k + 1))), (2, .int (y + 1)), (0, .ref (r 0)), (1, .int (nI v))]) hx hb dX6_shimsFor_32 hl (k := 3) rfl (nI_inc k) (by decide) rfl (fun ls hl => ?_)
          refine lv_goto (tgt := 4) hx hb dX6_shimsFor_35 (by decide) ?_
          exact ih4 (k + 1) (y + 1) (by omega) (by omega) (by rw [hy]; first | rfl | (simp [cntFor, *]; done)) _ (lv_sub hl [2, 3, 1, 0] rfl)
  exact L4 _ 0 0 (Nat.lt_succ_self _) (by omega) (by rfl) _ (lv_sub hl [2, 3, 1, 0] rfl)

theorem idX6_toldVersion : yX6_toldVersion.cls = RX6 ∧ yX6_toldVersion.cls ≠ "java/lang/invoke/MethodHandle" ∧ yX6_toldVersion.cls ≠ "java/lang/invoke/VarHandle" ∧ (parseMethodDescriptor yX6_toldVersion.desc).map (fun d => d.parameters.length) = some 2 := by decide +kernel

set_option maxHeartbeats 4000000 in
set_option maxRecDepth 100000 in
theorem mX6_toldVersion (l : Launch) {G : va_G} {T : Nat → ClassId} {H : Heap} {r : Nat → Nat} {N : Nat → Nat} {Z : Nat → Nat → Int32} {mm : Nat → Int32} {pp : Nat → Int32} {xx : Nat → Int32} {th : Int32} {sv : Nat} {n1 : Nat} {ac : Int32} {ea : Int32} {le : Int32} {v1 : Int32} {v2 : Int32} {v3 : Int32} {v4 : Int32} {v5 : Int32} {v : Nat} {w : Nat} (hP : va_P G vwCl (wMod T r mm pp xx th sv n1 ac ea le v1 v2 v3 v4 v5) H) (hwf : wf N Z) (hr : rel N Z mm) (hv : v < N 0) (hw : w ≤ 4) : ro l yX6_toldVersion wsX6_toldVersion 2 45 [.ref (r 0), .int (nI v), .int (nI w)] G T H (fun r => r = ofV N Z v w) := by
  refine ro_of (cc := cX6_toldVersion) (maxL := 3) (ret := .int) (own := RX6) (by decide +kernel) rfl rfl (Nat.le_of_ble_eq_true rfl) (fun v _ => vp_nar_int v) ?_
  intro p e s m below meth c Q ls S hkx hl hret
  obtain ⟨hx, hb, hml, hown, hts⟩ := id S
  have hl : lv_has ls 3 [(0, .ref (r 0)), (1, .int (nI v)), (2, .int (nI w))] := hl
  have k7 := hts (.fieldLink RX6 7 "SunsetDatesModel" "now" "[I") (by decide +kernel)
  have iX6 : ∀ w ∈ wsX60, w ∈ wsX6_toldVersion := by decide +kernel
  have hb2 := hwf.1
  obtain ⟨hr0, hr1, hr2, hr3, hrv, hrf, hru, hrs⟩ := id hr
  refine lv_iload_n hx hb dX6_toldVersion_0 rfl (lv_at hl 2 rfl) ?_
  refine lv_iconst (v := 2) hx hb dX6_toldVersion_1 (by decide) ?_
  refine lv_icmp_ge (tgt := 20) hx hb dX6_toldVersion_2 (by decide) (fun c_1 => ?_) (fun c_1 => ?_)
  · replace c_1 := cn_le (a := 2) (b := w) (by omega) (by omega) c_1
    refine lv_iload_n hx hb dX6_toldVersion_20 rfl (lv_at hl 2 rfl) ?_
    refine lv_iconst (v := 2) hx hb dX6_toldVersion_21 (by decide) ?_
    refine lv_icmp_ne (tgt := 33) hx hb dX6_toldVersion_22 (by decide) (fun c_2 => ?_) (fun c_2 => ?_)
    · replace c_2 := cn_ne (a := w) (b := 2) (by omega) (by omega) c_2
      refine lv_iload_n hx hb dX6_toldVersion_33 rfl (lv_at hl 2 rfl) ?_
      refine lv_iconst (v := 3) hx hb dX6_toldVersion_34 (by decide) ?_
      refine lv_icmp_ne (tgt := 52) hx hb dX6_toldVersion_35 (by decide) (fun c_3 => ?_) (fun c_3 => ?_)
      · replace c_3 := cn_ne (a := w) (b := 3) (by omega) (by omega) c_3
        refine lv_aload_n hx hb dX6_toldVersion_52 rfl (lv_at hl 0 rfl) ?_
        refine lv_iload_n hx hb dX6_toldVersion_53 rfl (lv_at hl 1 rfl) ?_
        refine ro_V S hkx (mX6_shimsFor l (v := v) (hP := hP) (hwf := hwf) (hr := hr) (hv := (by omega))) gX6_toldVersion_X6_shimsFor rfl idX6_shimsFor ⟨Nat.le_of_ble_eq_true rfl, Nat.le_of_ble_eq_true rfl⟩ hP 0 rfl rfl rfl rfl hl.1 rfl (Nat.le_of_ble_eq_true rfl) dX6_toldVersion_54 ⟨Nat.le_of_ble_eq_true rfl, Nat.le_of_ble_eq_true rfl⟩ (fun r_4 hr_4 => ?_)
        subst hr_4
        exact hret _ _ _ (show (cntFor Z (nI v) (N 3)) = ofV N Z v w from by
            rw [show w = 4 by omega]; rfl) dX6_toldVersion_57
      · replace c_3 := cn_eq (a := w) (b := 3) (by omega) (by omega) c_3
        refine lv_aload_n hx hb dX6_toldVersion_38 rfl (lv_at hl 0 rfl) ?_
        refine va_get (D := G) (ci := 6) (C := RX6) (T := TX6) (N := 14) hx hb hts iX6 hown hkx.1 hP 0 rfl rfl 0 (by decide) k7 (fun _ h9 => h9) rfl dX6_toldVersion_39 ?_
        refine lv_bipush (v := 6) hx hb dX6_toldVersion_42 (by decide) ?_
        refine lv_iconst (v := 3) hx hb dX6_toldVersion_44 (by decide) ?_
        refine lv_iload_n hx hb dX6_toldVersion_45 rfl (lv_at hl 1 rfl) ?_
        refine lv_imul hx hb dX6_toldVersion_46 ?_
        rw [show (3 * (nI v)) = (nI (3 * v)) from pk_mul _ _]
        refine lv_iadd hx hb dX6_toldVersion_47 ?_
        rw [show (6 + (nI (3 * v))) = (nI (6 + (3 * v))) from nI_add 6 (3 * v)]
        refine ia hx hb hkx hP 1 rfl (6 + (3 * v)) rfl (by omega) (by decide) dX6_toldVersion_48 ?_
        refine lv_goto (tgt := 57) hx hb dX6_toldVersion_49 (by decide) ?_
        exact hret _ _ _ (show (mm (6 + (3 * v))) = ofV N Z v w from by
            rw [show w = 3 by omega]; exact (hrv v hv).2.2) dX6_toldVersion_57
    · replace c_2 := cn_eq (a := w) (b := 2) (by omega) (by omega) c_2
      refine lv_aload_n hx hb dX6_toldVersion_25 rfl (lv_at hl 0 rfl) ?_
      refine lv_iload_n hx hb dX6_toldVersion_26 rfl (lv_at hl 1 rfl) ?_
      refine ro_V S hkx (mX6_featuresOf l (v := v) (hP := hP) (hwf := hwf) (hr := hr) (hv := (by omega))) gX6_toldVersion_X6_featuresOf rfl idX6_featuresOf ⟨Nat.le_of_ble_eq_true rfl, Nat.le_of_ble_eq_true rfl⟩ hP 0 rfl rfl rfl rfl hl.1 rfl (Nat.le_of_ble_eq_true rfl) dX6_toldVersion_27 ⟨Nat.le_of_ble_eq_true rfl, Nat.le_of_ble_eq_true rfl⟩ (fun r_5 hr_5 => ?_)
      subst hr_5
      refine lv_goto (tgt := 57) hx hb dX6_toldVersion_30 (by decide) ?_
      exact hret _ _ _ (show (Z 4 v) = ofV N Z v w from by
          rw [show w = 2 by omega]; rfl) dX6_toldVersion_57
  · replace c_1 := cn_nle (a := 2) (b := w) (by omega) (by omega) c_1
    refine lv_aload_n hx hb dX6_toldVersion_5 rfl (lv_at hl 0 rfl) ?_
    refine va_get (D := G) (ci := 6) (C := RX6) (T := TX6) (N := 14) hx hb hts iX6 hown hkx.1 hP 0 rfl rfl 0 (by decide) k7 (fun _ h9 => h9) rfl dX6_toldVersion_6 ?_
    refine lv_iconst (v := 4) hx hb dX6_toldVersion_9 (by decide) ?_
    refine lv_iconst (v := 3) hx hb dX6_toldVersion_10 (by decide) ?_
    refine lv_iload_n hx hb dX6_toldVersion_11 rfl (lv_at hl 1 rfl) ?_
    refine lv_imul hx hb dX6_toldVersion_12 ?_
    rw [show (3 * (nI v)) = (nI (3 * v)) from pk_mul _ _]
    refine lv_iadd hx hb dX6_toldVersion_13 ?_
    rw [show (4 + (nI (3 * v))) = (nI (4 + (3 * v))) from nI_add 4 (3 * v)]
    refine lv_iload_n hx hb dX6_toldVersion_14 rfl (lv_at hl 2 rfl) ?_
    refine lv_iadd hx hb dX6_toldVersion_15 ?_
    rw [show ((nI (4 + (3 * v))) + (nI w)) = (nI ((4 + (3 * v)) + w)) from nI_add (4 + (3 * v)) w]
    refine ia hx hb hkx hP 1 rfl ((4 + (3 * v)) + w) rfl (by omega) (by decide) dX6_toldVersion_16 ?_
    refine lv_goto (tgt := 57) hx hb dX6_toldVersion_17 (by decide) ?_
    exact hret _ _ _ (show (mm ((4 + (3 * v)) + w)) = ofV N Z v w from by
        rcases (show w = 0 ∨ w = 1 by omega) with rfl | rfl; exact (hrv v hv).1; exact (show mm (4 + 3 * v + 1) = _ by rw [show 4 + 3 * v + 1 = 5 + 3 * v by omega]; exact (hrv v hv).2.1)) dX6_toldVersion_57

theorem idX6_on : yX6_on.cls = RX6 ∧ yX6_on.cls ≠ "java/lang/invoke/MethodHandle" ∧ yX6_on.cls ≠ "java/lang/invoke/VarHandle" ∧ (parseMethodDescriptor yX6_on.desc).map (fun d => d.parameters.length) = some 2 := by decide +kernel

set_option maxHeartbeats 4000000 in
set_option maxRecDepth 100000 in
theorem mX6_on (l : Launch) {G : va_G} {T : Nat → ClassId} {H : Heap} {r : Nat → Nat} {N : Nat → Nat} {Z : Nat → Nat → Int32} {mm : Nat → Int32} {pp : Nat → Int32} {xx : Nat → Int32} {th : Int32} {sv : Nat} {n1 : Nat} {ac : Int32} {ea : Int32} {le : Int32} {v1 : Int32} {v2 : Int32} {v3 : Int32} {v4 : Int32} {v5 : Int32} {u : Nat} {d : Int32} (hP : va_P G vwCl (wMod T r mm pp xx th sv n1 ac ea le v1 v2 v3 v4 v5) H) (hwf : wf N Z) (hr : rel N Z mm) (hu : u < N 2) : ro l yX6_on wsX6_on 1 22 [.ref (r 0), .int (nI u), .int d] G T H (fun r => r = (nI (onN Z u d))) := by
  refine ro_of (cc := cX6_on) (maxL := 3) (ret := .int) (own := RX6) (by decide +kernel) rfl rfl (Nat.le_of_ble_eq_true rfl) (fun v _ => vp_nar_int v) ?_
  intro p e s m below meth c Q ls S hkx hl hret
  obtain ⟨hx, hb, hml, hown, hts⟩ := id S
  have hl : lv_has ls 3 [(0, .ref (r 0)), (1, .int (nI u)), (2, .int d)] := hl
  have hb2 := hwf.1
  obtain ⟨hr0, hr1, hr2, hr3, hrv, hrf, hru, hrs⟩ := id hr
  have ho := (on_spec hwf hu d).1
  refine lv_aload_n hx hb dX6_on_0 rfl (lv_at hl 0 rfl) ?_
  refine lv_iload_n hx hb dX6_on_1 rfl (lv_at hl 1 rfl) ?_
  refine lv_iconst (v := 2) hx hb dX6_on_2 (by decide) ?_
  refine ro_V S hkx (mX6_ofUser l (u := u) (w := 2) (hP := hP) (hwf := hwf) (hr := hr) (hu := (by omega)) (hw := (by omega))) gX6_on_X6_ofUser rfl idX6_ofUser ⟨Nat.le_of_ble_eq_true rfl, Nat.le_of_ble_eq_true rfl⟩ hP 0 rfl rfl rfl rfl hl.1 rfl (Nat.le_of_ble_eq_true rfl) dX6_on_3 ⟨Nat.le_of_ble_eq_true rfl, Nat.le_of_ble_eq_true rfl⟩ (fun r_1 hr_1 => ?_)
  subst hr_1
  skip
  refine lv_iconst (v := (-1)) hx hb dX6_on_6 (by decide) ?_
  refine lv_icmp_eq (tgt := 29) hx hb dX6_on_7 (by decide) (fun c_2 => ?_) (fun c_2 => ?_)
  · skip
    refine lv_aload_n hx hb dX6_on_29 rfl (lv_at hl 0 rfl) ?_
    refine lv_iload_n hx hb dX6_on_30 rfl (lv_at hl 1 rfl) ?_
    refine lv_iconst (v := 0) hx hb dX6_on_31 (by decide) ?_
    refine ro_V S hkx (mX6_ofUser l (u := u) (w := 0) (hP := hP) (hwf := hwf) (hr := hr) (hu := (by omega)) (hw := (by omega))) gX6_on_X6_ofUser rfl idX6_ofUser ⟨Nat.le_of_ble_eq_true rfl, Nat.le_of_ble_eq_true rfl⟩ hP 0 rfl rfl rfl rfl hl.1 rfl (Nat.le_of_ble_eq_true rfl) dX6_on_32 ⟨Nat.le_of_ble_eq_true rfl, Nat.le_of_ble_eq_true rfl⟩ (fun r_3 hr_3 => ?_)
    subst hr_3
    skip
    exact hret _ _ _ (show (Z 5 u) = (nI (onN Z u d)) from by
        clear hret hl; rw [← ho, onI, if_neg]; rintro ⟨q1, q2⟩; first | (simp_all [pled]; done) | exact absurd q2 (by assumption)) dX6_on_35
  · skip
    refine lv_aload_n hx hb dX6_on_10 rfl (lv_at hl 0 rfl) ?_
    refine lv_iload_n hx hb dX6_on_11 rfl (lv_at hl 1 rfl) ?_
    refine lv_iconst (v := 3) hx hb dX6_on_12 (by decide) ?_
    refine ro_V S hkx (mX6_ofUser l (u := u) (w := 3) (hP := hP) (hwf := hwf) (hr := hr) (hu := (by omega)) (hw := (by omega))) gX6_on_X6_ofUser rfl idX6_ofUser ⟨Nat.le_of_ble_eq_true rfl, Nat.le_of_ble_eq_true rfl⟩ hP 0 rfl rfl rfl rfl hl.1 rfl (Nat.le_of_ble_eq_true rfl) dX6_on_13 ⟨Nat.le_of_ble_eq_true rfl, Nat.le_of_ble_eq_true rfl⟩ (fun r_4 hr_4 => ?_)
    subst hr_4
    skip
    refine lv_iload_n hx hb dX6_on_16 rfl (lv_at hl 2 rfl) ?_
    refine lv_icmp_gt (tgt := 29) hx hb dX6_on_17 (by decide) (fun c_5 => ?_) (fun c_5 => ?_)
    · have c_5n := Int32.not_le.mpr c_5
      refine lv_aload_n hx hb dX6_on_29 rfl (lv_at hl 0 rfl) ?_
      refine lv_iload_n hx hb dX6_on_30 rfl (lv_at hl 1 rfl) ?_
      refine lv_iconst (v := 0) hx hb dX6_on_31 (by decide) ?_
      refine ro_V S hkx (mX6_ofUser l (u := u) (w := 0) (hP := hP) (hwf := hwf) (hr := hr) (hu := (by omega)) (hw := (by omega))) gX6_on_X6_ofUser rfl idX6_ofUser ⟨Nat.le_of_ble_eq_true rfl, Nat.le_of_ble_eq_true rfl⟩ hP 0 rfl rfl rfl rfl hl.1 rfl (Nat.le_of_ble_eq_true rfl) dX6_on_32 ⟨Nat.le_of_ble_eq_true rfl, Nat.le_of_ble_eq_true rfl⟩ (fun r_6 hr_6 => ?_)
      subst hr_6
      skip
      exact hret _ _ _ (show (Z 5 u) = (nI (onN Z u d)) from by
          clear hret hl; rw [← ho, onI, if_neg]; rintro ⟨q1, q2⟩; first | (simp_all [pled]; done) | exact absurd q2 (by assumption)) dX6_on_35
    · have c_5n := Int32.not_lt.mp c_5
      refine lv_aload_n hx hb dX6_on_20 rfl (lv_at hl 0 rfl) ?_
      refine lv_iload_n hx hb dX6_on_21 rfl (lv_at hl 1 rfl) ?_
      refine lv_iconst (v := 2) hx hb dX6_on_22 (by decide) ?_
      refine ro_V S hkx (mX6_ofUser l (u := u) (w := 2) (hP := hP) (hwf := hwf) (hr := hr) (hu := (by omega)) (hw := (by omega))) gX6_on_X6_ofUser rfl idX6_ofUser ⟨Nat.le_of_ble_eq_true rfl, Nat.le_of_ble_eq_true rfl⟩ hP 0 rfl rfl rfl rfl hl.1 rfl (Nat.le_of_ble_eq_true rfl) dX6_on_23 ⟨Nat.le_of_ble_eq_true rfl, Nat.le_of_ble_eq_true rfl⟩ (fun r_7 hr_7 => ?_)
      subst hr_7
      skip
      refine lv_goto (tgt := 35) hx hb dX6_on_26 (by decide) ?_
      exact hret _ _ _ (show (Z 7 u) = (nI (onN Z u d)) from by
          clear hret hl; rw [← ho, onI, if_pos ⟨by simp [pled, *], by assumption⟩]) dX6_on_35

theorem idX6_cheapestShim : yX6_cheapestShim.cls = RX6 ∧ yX6_cheapestShim.cls ≠ "java/lang/invoke/MethodHandle" ∧ yX6_cheapestShim.cls ≠ "java/lang/invoke/VarHandle" ∧ (parseMethodDescriptor yX6_cheapestShim.desc).map (fun d => d.parameters.length) = some 3 := by decide +kernel

set_option maxHeartbeats 4000000 in
set_option maxRecDepth 100000 in
theorem mX6_cheapestShim (l : Launch) {G : va_G} {T : Nat → ClassId} {H : Heap} {r : Nat → Nat} {N : Nat → Nat} {Z : Nat → Nat → Int32} {mm : Nat → Int32} {pp : Nat → Int32} {xx : Nat → Int32} {th : Int32} {sv : Nat} {n1 : Nat} {ac : Int32} {ea : Int32} {le : Int32} {v1 : Int32} {v2 : Int32} {v3 : Int32} {v4 : Int32} {v5 : Int32} {f : Int32} {z : Int32} {d : Int32} (hP : va_P G vwCl (wMod T r mm pp xx th sv n1 ac ea le v1 v2 v3 v4 v5) H) (hwf : wf N Z) (hr : rel N Z mm) : ro l yX6_cheapestShim wsX6_cheapestShim 1 22 [.ref (r 0), .int f, .int z, .int d] G T H (fun r => r = lowP Z f z d (N 3)) := by
  refine ro_of (cc := cX6_cheapestShim) (maxL := 7) (ret := .int) (own := RX6) (by decide +kernel) rfl rfl (Nat.le_of_ble_eq_true rfl) (fun v _ => vp_nar_int v) ?_
  intro p e s m below meth c Q ls S hkx hl hret
  obtain ⟨hx, hb, hml, hown, hts⟩ := id S
  have hl : lv_has ls 7 [(0, .ref (r 0)), (1, .int f), (2, .int z), (3, .int d)] := hl
  have k7 := hts (.fieldLink RX6 7 "SunsetDatesModel" "now" "[I") (by decide +kernel)
  have iX6 : ∀ w ∈ wsX60, w ∈ wsX6_cheapestShim := by decide +kernel
  have hb2 := hwf.1
  obtain ⟨hr0, hr1, hr2, hr3, hrv, hrf, hru, hrs⟩ := id hr
  refine lv_iconst (v := 0) hx hb dX6_cheapestShim_0 (by decide) ?_
  refine lv_istore (lv' := [(4, .int 0), (0, .ref (r 0)), (1, .int f), (2, .int z), (3, .int d)]) hx hb dX6_cheapestShim_1 hl (by decide) rfl (fun ls hl => ?_)
  refine lv_iconst (v := 0) hx hb dX6_cheapestShim_3 (by decide) ?_
  refine lv_istore (lv' := [(5, .int 0), (4, .int 0), (0, .ref (r 0)), (1, .int f), (2, .int z), (3, .int d)]) hx hb dX6_cheapestShim_4 hl (by decide) rfl (fun ls hl => ?_)
  have L6 : ∀ (fuel : Nat) (k : Nat) (y : Int32), N 3 - k < fuel → k ≤ N 3 → y = lowP Z f z d k → ∀ ls : Array Slot, lv_has ls 7 [(0, .ref (r 0)), (1, .int f), (2, .int z), (3, .int d), (4, .int y), (5, .int (nI k))] → W p l e (rmo 1 22) s m ([.ref (r 0), .int f, .int z, .int d] : List Value).toArray below meth c H [] 0 0 Q (F0 m 6 ls []) := by
    intro fuel
    induction fuel with
    | zero => intro k y hm; exact absurd hm (Nat.not_lt_zero _)
    | succ fuel ih6 =>
      intro k y hm6 hk hy ls hl
      refine lv_iload hx hb dX6_cheapestShim_6 (lv_at hl 5 rfl) ?_
      refine lv_aload_n hx hb dX6_cheapestShim_8 rfl (lv_at hl 0 rfl) ?_
      refine va_get (D := G) (ci := 6) (C := RX6) (T := TX6) (N := 14) hx hb hts iX6 hown hkx.1 hP 0 rfl rfl 0 (by decide) k7 (fun _ h9 => h9) rfl dX6_cheapestShim_9 ?_
      refine lv_iconst (v := 3) hx hb dX6_cheapestShim_12 (by decide) ?_
      refine ia hx hb hkx hP 1 rfl 3 rfl (by omega) (by decide) dX6_cheapestShim_13 ?_
      rw [hr3]
      refine lv_icmp_ge (tgt := 109) hx hb dX6_cheapestShim_14 (by decide) (fun c_1 => ?_) (fun c_1 => ?_)
      · replace c_1 := cn_le (a := (N 3)) (b := k) (by omega) (by omega) c_1
        refine lv_iload hx hb dX6_cheapestShim_109 (lv_at hl 4 rfl) ?_
        exact hret _ _ _ (show y = lowP Z f z d (N 3) from by
            rw [hy, show k = N 3 by omega]) dX6_cheapestShim_111
      · replace c_1 := cn_nle (a := (N 3)) (b := k) (by omega) (by omega) c_1
        refine lv_aload_n hx hb dX6_cheapestShim_17 rfl (lv_at hl 0 rfl) ?_
        refine lv_iload hx hb dX6_cheapestShim_18 (lv_at hl 5 rfl) ?_
        refine lv_iconst (v := 0) hx hb dX6_cheapestShim_20 (by decide) ?_
        refine ro_V S hkx (mX6_ofShim l (t := k) (w := 0) (hP := hP) (hwf := hwf) (hr := hr) (ht := (by omega)) (hw := (by omega))) gX6_cheapestShim_X6_ofShim rfl idX6_ofShim ⟨Nat.le_of_ble_eq_true rfl, Nat.le_of_ble_eq_true rfl⟩ hP 0 rfl rfl rfl rfl hl.1 rfl (Nat.le_of_ble_eq_true rfl) dX6_cheapestShim_21 ⟨Nat.le_of_ble_eq_true rfl, Nat.le_of_ble_eq_true rfl⟩ (fun r_2 hr_2 => ?_)
        subst hr_2
        skip
        refine lv_iload_n hx hb dX6_cheapestShim_24 rfl (lv_at hl 1 rfl) ?_
        refine lv_icmp_ne (tgt := 64) hx hb dX6_cheapestShim_25 (by decide) (fun c_3 => ?_) (fun c_3 => ?_)
        · skip
          refine lv_iconst (v := 0) hx hb dX6_cheapestShim_64 (by decide) ?_
          refine lv_istore (lv' := [(6, .int 0), (0, .ref (r 0)), (1, .int f), (2, .int z), (3, .int d), (4, .int y), (5, .int (nI k))]) hx hb dX6_cheapestShim_65 hl (by decide) rfl (fun ls hl => ?_)
          refine lv_iload hx hb dX6_cheapestShim_67 (lv_at hl 0 rfl) ?_
          refine lv_if_eq (tgt := 99) hx hb dX6_cheapestShim_69 (by decide) (fun c_4 => ?_) (fun c_4 => ?_)
          · replace c_4 := cn_eq (a := 0) (b := 0) (by omega) (by omega) c_4
            refine lv_iload hx hb dX6_cheapestShim_99 (lv_at hl 5 rfl) ?_
            refine lv_istore (lv' := [(4, .int y), (6, .int 0), (0, .ref (r 0)), (1, .int f), (2, .int z), (3, .int d), (5, .int (nI k))]) hx hb dX6_cheapestShim_101 hl (by decide) rfl (fun ls hl => ?_)
            refine lv_iinc (v := (nI (k + 1))) (lv' := [(5, .int (nI (k + 1))), (4, .int y), (6, .int 0), (0, .ref (r 0)), (1, .int f), (2, .int z), (3, .int d)]) hx hb dX6_cheapestShim_103 hl (k := 6) rfl (nI_inc k) (by decide) rfl (fun ls hl => ?_)
            refine lv_goto (tgt := 6) hx hb dX6_cheapestShim_106 (by decide) ?_
            exact ih6 (k + 1) y (by omega) (by omega) (by subst hy; rw [lowP, isAct_W]; simp [*]) _ (lv_sub hl [3, 4, 5, 6, 1, 0] rfl)
          · replace c_4 := cn_ne (a := 0) (b := 0) (by omega) (by omega) c_4
            exact absurd c_4 (by decide)
        · skip
          refine lv_aload_n hx hb dX6_cheapestShim_28 rfl (lv_at hl 0 rfl) ?_
          refine lv_iload hx hb dX6_cheapestShim_29 (lv_at hl 5 rfl) ?_
          refine lv_iconst (v := 1) hx hb dX6_cheapestShim_31 (by decide) ?_
          refine ro_V S hkx (mX6_ofShim l (t := k) (w := 1) (hP := hP) (hwf := hwf) (hr := hr) (ht := (by omega)) (hw := (by omega))) gX6_cheapestShim_X6_ofShim rfl idX6_ofShim ⟨Nat.le_of_ble_eq_true rfl, Nat.le_of_ble_eq_true rfl⟩ hP 0 rfl rfl rfl rfl hl.1 rfl (Nat.le_of_ble_eq_true rfl) dX6_cheapestShim_32 ⟨Nat.le_of_ble_eq_true rfl, Nat.le_of_ble_eq_true rfl⟩ (fun r_5 hr_5 => ?_)
          subst hr_5
          skip
          refine lv_iload_n hx hb dX6_cheapestShim_35 rfl (lv_at hl 2 rfl) ?_
          refine lv_icmp_ne (tgt := 64) hx hb dX6_cheapestShim_36 (by decide) (fun c_6 => ?_) (fun c_6 => ?_)
          · skip
            refine lv_iconst (v := 0) hx hb dX6_cheapestShim_64 (by decide) ?_
            refine lv_istore (lv' := [(6, .int 0), (0, .ref (r 0)), (1, .int f), (2, .int z), (3, .int d), (4, .int y), (5, .int (nI k))]) hx hb dX6_cheapestShim_65 hl (by decide) rfl (fun ls hl => ?_)
            refine lv_iload hx hb dX6_cheapestShim_67 (lv_at hl 0 rfl) ?_
            refine lv_if_eq (tgt := 99) hx hb dX6_cheapestShim_69 (by decide) (fun c_7 => ?_) (fun c_7 => ?_)
            · replace c_7 := cn_eq (a := 0) (b := 0) (by omega) (by omega) c_7
              refine lv_iload hx hb dX6_cheapestShim_99 (lv_at hl 5 rfl) ?_
              refine lv_istore (lv' := [(4, .int y), (6, .int 0), (0, .ref (r 0)), (1, .int f), (2, .int z), (3, .int d), (5, .int (nI k))]) hx hb dX6_cheapestShim_101 hl (by decide) rfl (fun ls hl => ?_)
              refine lv_iinc (v := (nI (k + 1))) (lv' := [(5, .int (nI (k + 1))), (4, .int y), (6, .int 0), (0, .ref (r 0)), (1, .int f), (2, .int z), (3, .int d)]) hx hb dX6_cheapestShim_103 hl (k := 6) rfl (nI_inc k) (by decide) rfl (fun ls hl => ?_)
              refine lv_goto (tgt := 6) hx hb dX6_cheapestShim_106 (by decide) ?_
              exact ih6 (k + 1) y (by omega) (by omega) (by subst hy; rw [lowP, isAct_W]; simp [*]) _ (lv_sub hl [3, 4, 5, 6, 1, 0] rfl)
            · replace c_7 := cn_ne (a := 0) (b := 0) (by omega) (by omega) c_7
              exact absurd c_7 (by decide)
          · skip
            refine lv_iload_n hx hb dX6_cheapestShim_39 rfl (lv_at hl 3 rfl) ?_
            refine lv_aload_n hx hb dX6_cheapestShim_40 rfl (lv_at hl 0 rfl) ?_
            refine lv_iload hx hb dX6_cheapestShim_41 (lv_at hl 5 rfl) ?_
            refine lv_iconst (v := 2) hx hb dX6_cheapestShim_43 (by decide) ?_
            refine ro_V S hkx (mX6_ofShim l (t := k) (w := 2) (hP := hP) (hwf := hwf) (hr := hr) (ht := (by omega)) (hw := (by omega))) gX6_cheapestShim_X6_ofShim rfl idX6_ofShim ⟨Nat.le_of_ble_eq_true rfl, Nat.le_of_ble_eq_true rfl⟩ hP 0 rfl rfl rfl rfl hl.1 rfl (Nat.le_of_ble_eq_true rfl) dX6_cheapestShim_44 ⟨Nat.le_of_ble_eq_true rfl, Nat.le_of_ble_eq_true rfl⟩ (fun r_8 hr_8 => ?_)
            subst hr_8
            skip
            refine lv_aload_n hx hb dX6_cheapestShim_47 rfl (lv_at hl 0 rfl) ?_
            refine lv_iload hx hb dX6_cheapestShim_48 (lv_at hl 5 rfl) ?_
            refine lv_iconst (v := 3) hx hb dX6_cheapestShim_50 (by decide) ?_
            refine ro_V S hkx (mX6_ofShim l (t := k) (w := 3) (hP := hP) (hwf := hwf) (hr := hr) (ht := (by omega)) (hw := (by omega))) gX6_cheapestShim_X6_ofShim rfl idX6_ofShim ⟨Nat.le_of_ble_eq_true rfl, Nat.le_of_ble_eq_true rfl⟩ hP 0 rfl rfl rfl rfl hl.1 rfl (Nat.le_of_ble_eq_true rfl) dX6_cheapestShim_51 ⟨Nat.le_of_ble_eq_true rfl, Nat.le_of_ble_eq_true rfl⟩ (fun r_9 hr_9 => ?_)
            subst hr_9
            skip
            refine ro_S S hkx (mX6_in l (v := d) (x := (Z 13 k)) (z := (Z 14 k))) gX6_cheapestShim_X6_in rfl idX6_in.2 ⟨Nat.le_of_ble_eq_true rfl, Nat.le_of_ble_eq_true rfl⟩ rfl hl.1 rfl (Nat.le_of_ble_eq_true rfl) dX6_cheapestShim_54 ⟨Nat.le_of_ble_eq_true rfl, Nat.le_of_ble_eq_true rfl⟩ (fun r_10 hr_10 => ?_)
            subst hr_10
            refine lv_if_eq (tgt := 64) hx hb dX6_cheapestShim_57 (by decide) (fun c_11 => ?_) (fun c_11 => ?_)
            · replace c_11 := bI_e0 c_11
              refine lv_iconst (v := 0) hx hb dX6_cheapestShim_64 (by decide) ?_
              refine lv_istore (lv' := [(6, .int 0), (0, .ref (r 0)), (1, .int f), (2, .int z), (3, .int d), (4, .int y), (5, .int (nI k))]) hx hb dX6_cheapestShim_65 hl (by decide) rfl (fun ls hl => ?_)
              refine lv_iload hx hb dX6_cheapestShim_67 (lv_at hl 0 rfl) ?_
              refine lv_if_eq (tgt := 99) hx hb dX6_cheapestShim_69 (by decide) (fun c_12 => ?_) (fun c_12 => ?_)
              · replace c_12 := cn_eq (a := 0) (b := 0) (by omega) (by omega) c_12
                refine lv_iload hx hb dX6_cheapestShim_99 (lv_at hl 5 rfl) ?_
                refine lv_istore (lv' := [(4, .int y), (6, .int 0), (0, .ref (r 0)), (1, .int f), (2, .int z), (3, .int d), (5, .int (nI k))]) hx hb dX6_cheapestShim_101 hl (by decide) rfl (fun ls hl => ?_)
                refine lv_iinc (v := (nI (k + 1))) (lv' := [(5, .int (nI (k + 1))), (4, .int y), (6, .int 0), (0, .ref (r 0)), (1, .int f), (2, .int z), (3, .int d)]) hx hb dX6_cheapestShim_103 hl (k := 6) rfl (nI_inc k) (by decide) rfl (fun ls hl => ?_)
                refine lv_goto (tgt := 6) hx hb dX6_cheapestShim_106 (by decide) ?_
                exact ih6 (k + 1) y (by omega) (by omega) (by subst hy; rw [lowP, isAct_W]; simp [*]) _ (lv_sub hl [3, 4, 5, 6, 1, 0] rfl)
              · replace c_12 := cn_ne (a := 0) (b := 0) (by omega) (by omega) c_12
                exact absurd c_12 (by decide)
            · replace c_11 := bI_n0 c_11
              refine lv_iconst (v := 1) hx hb dX6_cheapestShim_60 (by decide) ?_
              refine lv_goto (tgt := 65) hx hb dX6_cheapestShim_61 (by decide) ?_
              refine lv_istore (lv' := [(6, .int 1), (0, .ref (r 0)), (1, .int f), (2, .int z), (3, .int d), (4, .int y), (5, .int (nI k))]) hx hb dX6_cheapestShim_65 hl (by decide) rfl (fun ls hl => ?_)
              refine lv_iload hx hb dX6_cheapestShim_67 (lv_at hl 0 rfl) ?_
              refine lv_if_eq (tgt := 99) hx hb dX6_cheapestShim_69 (by decide) (fun c_13 => ?_) (fun c_13 => ?_)
              · replace c_13 := cn_eq (a := 1) (b := 0) (by omega) (by omega) c_13
                exact absurd c_13 (by decide)
              · replace c_13 := cn_ne (a := 1) (b := 0) (by omega) (by omega) c_13
                refine lv_iload hx hb dX6_cheapestShim_72 (lv_at hl 5 rfl) ?_
                refine lv_if_eq (tgt := 89) hx hb dX6_cheapestShim_74 (by decide) (fun c_14 => ?_) (fun c_14 => ?_)
                · skip
                  refine lv_aload_n hx hb dX6_cheapestShim_89 rfl (lv_at hl 1 rfl) ?_
                  refine lv_iload hx hb dX6_cheapestShim_90 (lv_at hl 6 rfl) ?_
                  refine lv_iconst (v := 4) hx hb dX6_cheapestShim_92 (by decide) ?_
                  refine ro_V S hkx (mX6_ofShim l (t := k) (w := 4) (hP := hP) (hwf := hwf) (hr := hr) (ht := (by omega)) (hw := (by omega))) gX6_cheapestShim_X6_ofShim rfl idX6_ofShim ⟨Nat.le_of_ble_eq_true rfl, Nat.le_of_ble_eq_true rfl⟩ hP 0 rfl rfl rfl rfl hl.1 rfl (Nat.le_of_ble_eq_true rfl) dX6_cheapestShim_93 ⟨Nat.le_of_ble_eq_true rfl, Nat.le_of_ble_eq_true rfl⟩ (fun r_15 hr_15 => ?_)
                  subst hr_15
                  skip
                  refine lv_goto (tgt := 101) hx hb dX6_cheapestShim_96 (by decide) ?_
                  refine lv_istore (lv' := [(4, .int (Z 15 k)), (6, .int 1), (0, .ref (r 0)), (1, .int f), (2, .int z), (3, .int d), (5, .int (nI k))]) hx hb dX6_cheapestShim_101 hl (by decide) rfl (fun ls hl => ?_)
                  refine lv_iinc (v := (nI (k + 1))) (lv' := [(5, .int (nI (k + 1))), (4, .int (Z 15 k)), (6, .int 1), (0, .ref (r 0)), (1, .int f), (2, .int z), (3, .int d)]) hx hb dX6_cheapestShim_103 hl (k := 6) rfl (nI_inc k) (by decide) rfl (fun ls hl => ?_)
                  refine lv_goto (tgt := 6) hx hb dX6_cheapestShim_106 (by decide) ?_
                  exact ih6 (k + 1) (Z 15 k) (by omega) (by omega) (by subst hy; rw [lowP, isAct_W]; simp [*]) _ (lv_sub hl [3, 4, 5, 6, 1, 0] rfl)
                · skip
                  refine lv_aload_n hx hb dX6_cheapestShim_77 rfl (lv_at hl 1 rfl) ?_
                  refine lv_iload hx hb dX6_cheapestShim_78 (lv_at hl 6 rfl) ?_
                  refine lv_iconst (v := 4) hx hb dX6_cheapestShim_80 (by decide) ?_
                  refine ro_V S hkx (mX6_ofShim l (t := k) (w := 4) (hP := hP) (hwf := hwf) (hr := hr) (ht := (by omega)) (hw := (by omega))) gX6_cheapestShim_X6_ofShim rfl idX6_ofShim ⟨Nat.le_of_ble_eq_true rfl, Nat.le_of_ble_eq_true rfl⟩ hP 0 rfl rfl rfl rfl hl.1 rfl (Nat.le_of_ble_eq_true rfl) dX6_cheapestShim_81 ⟨Nat.le_of_ble_eq_true rfl, Nat.le_of_ble_eq_true rfl⟩ (fun r_16 hr_16 => ?_)
                  subst hr_16
                  skip
                  refine lv_iload hx hb dX6_cheapestShim_84 (lv_at hl 5 rfl) ?_
                  refine lv_icmp_ge (tgt := 99) hx hb dX6_cheapestShim_86 (by decide) (fun c_17 => ?_) (fun c_17 => ?_)
                  · have c_17n := Int32.not_lt.mpr c_17
                    refine lv_iload hx hb dX6_cheapestShim_99 (lv_at hl 5 rfl) ?_
                    refine lv_istore (lv' := [(4, .int y), (6, .int 1), (0, .ref (r 0)), (1, .int f), (2, .int z), (3, .int d), (5, .int (nI k))]) hx hb dX6_cheapestShim_101 hl (by decide) rfl (fun ls hl => ?_)
                    refine lv_iinc (v := (nI (k + 1))) (lv' := [(5, .int (nI (k + 1))), (4, .int y), (6, .int 1), (0, .ref (r 0)), (1, .int f), (2, .int z), (3, .int d)]) hx hb dX6_cheapestShim_103 hl (k := 6) rfl (nI_inc k) (by decide) rfl (fun ls hl => ?_)
                    refine lv_goto (tgt := 6) hx hb dX6_cheapestShim_106 (by decide) ?_
                    exact ih6 (k + 1) y (by omega) (by omega) (by subst hy; rw [lowP, isAct_W]; simp [*]) _ (lv_sub hl [3, 4, 5, 6, 1, 0] rfl)
                  · have c_17n := Int32.not_le.mp c_17
                    refine lv_aload_n hx hb dX6_cheapestShim_89 rfl (lv_at hl 1 rfl) ?_
                    refine lv_iload hx hb dX6_cheapestShim_90 (lv_at hl 6 rfl) ?_
                    refine lv_iconst (v := 4) hx hb dX6_cheapestShim_92 (by decide) ?_
                    refine ro_V S hkx (mX6_ofShim l (t := k) (w := 4) (hP := hP) (hwf := hwf) (hr := hr) (ht := (by omega)) (hw := (by omega))) gX6_cheapestShim_X6_ofShim rfl idX6_ofShim ⟨Nat.le_of_ble_eq_true rfl, Nat.le_of_ble_eq_true rfl⟩ hP 0 rfl rfl rfl rfl hl.1 rfl (Nat.le_of_ble_eq_true rfl) dX6_cheapestShim_93 ⟨Nat.le_of_ble_eq_true rfl, Nat.le_of_ble_eq_true rfl⟩ (fun r_18 hr_18 => ?_)
                    subst hr_18
                    skip
                    refine lv_goto (tgt := 101) hx hb dX6_cheapestShim_96 (by decide) ?_
                    refine lv_istore (lv' := [(4, .int (Z 15 k)), (6, .int 1), (0, .ref (r 0)), (1, .int f), (2, .int z), (3, .int d), (5, .int (nI k))]) hx hb dX6_cheapestShim_101 hl (by decide) rfl (fun ls hl => ?_)
                    refine lv_iinc (v := (nI (k + 1))) (lv' := [(5, .int (nI (k + 1))), (4, .int (Z 15 k)), (6, .int 1), (0, .ref (r 0)), (1, .int f), (2, .int z), (3, .int d)]) hx hb dX6_cheapestShim_103 hl (k := 6) rfl (nI_inc k) (by decide) rfl (fun ls hl => ?_)
                    refine lv_goto (tgt := 6) hx hb dX6_cheapestShim_106 (by decide) ?_
                    exact ih6 (k + 1) (Z 15 k) (by omega) (by omega) (by subst hy; rw [lowP, isAct_W]; simp [*]) _ (lv_sub hl [3, 4, 5, 6, 1, 0] rfl)
  exact L6 _ 0 0 (Nat.lt_succ_self _) (by omega) (by rfl) _ (lv_sub hl [2, 3, 4, 5, 1, 0] rfl)

theorem idX6_servedOn : yX6_servedOn.cls = RX6 ∧ yX6_servedOn.cls ≠ "java/lang/invoke/MethodHandle" ∧ yX6_servedOn.cls ≠ "java/lang/invoke/VarHandle" ∧ (parseMethodDescriptor yX6_servedOn.desc).map (fun d => d.parameters.length) = some 3 := by decide +kernel

set_option maxHeartbeats 4000000 in
set_option maxRecDepth 100000 in
theorem mX6_servedOn (l : Launch) {G : va_G} {T : Nat → ClassId} {H : Heap} {r : Nat → Nat} {N : Nat → Nat} {Z : Nat → Nat → Int32} {mm : Nat → Int32} {pp : Nat → Int32} {xx : Nat → Int32} {th : Int32} {sv : Nat} {n1 : Nat} {ac : Int32} {ea : Int32} {le : Int32} {v1 : Int32} {v2 : Int32} {v3 : Int32} {v4 : Int32} {v5 : Int32} {v : Nat} {f : Nat} {d : Int32} (hP : va_P G vwCl (wMod T r mm pp xx th sv n1 ac ea le v1 v2 v3 v4 v5) H) (hwf : wf N Z) (hr : rel N Z mm) (hv : v < N 0) (hf : f < N 1) : ro l yX6_servedOn wsX6_servedOn 2 48 [.ref (r 0), .int (nI v), .int (nI f), .int d] G T H (fun r => r = sv4 N Z v f d) := by
  refine ro_of (cc := cX6_servedOn) (maxL := 4) (ret := .int) (own := RX6) (by decide +kernel) rfl rfl (Nat.le_of_ble_eq_true rfl) (fun v _ => vp_nar_int v) ?_
  intro p e s m below meth c Q ls S hkx hl hret
  obtain ⟨hx, hb, hml, hown, hts⟩ := id S
  have hl : lv_has ls 4 [(0, .ref (r 0)), (1, .int (nI v)), (2, .int (nI f)), (3, .int d)] := hl
  have k7 := hts (.fieldLink RX6 7 "SunsetDatesModel" "now" "[I") (by decide +kernel)
  have iX6 : ∀ w ∈ wsX60, w ∈ wsX6_servedOn := by decide +kernel
  have hb2 := hwf.1
  obtain ⟨hr0, hr1, hr2, hr3, hrv, hrf, hru, hrs⟩ := id hr
  refine lv_iload_n hx hb dX6_servedOn_0 rfl (lv_at hl 3 rfl) ?_
  refine lv_aload_n hx hb dX6_servedOn_1 rfl (lv_at hl 0 rfl) ?_
  refine lv_iload_n hx hb dX6_servedOn_2 rfl (lv_at hl 1 rfl) ?_
  refine ro_V S hkx (mX6_release l (v := v) (hP := hP) (hwf := hwf) (hr := hr) (hv := (by omega))) gX6_servedOn_X6_release rfl idX6_release ⟨Nat.le_of_ble_eq_true rfl, Nat.le_of_ble_eq_true rfl⟩ hP 0 rfl rfl rfl rfl hl.1 rfl (Nat.le_of_ble_eq_true rfl) dX6_servedOn_3 ⟨Nat.le_of_ble_eq_true rfl, Nat.le_of_ble_eq_true rfl⟩ (fun r_1 hr_1 => ?_)
  subst hr_1
  refine lv_icmp_ge (tgt := 11) hx hb dX6_servedOn_6 (by decide) (fun c_2 => ?_) (fun c_2 => ?_)
  · have c_2n := Int32.not_lt.mpr c_2
    refine lv_iload_n hx hb dX6_servedOn_11 rfl (lv_at hl 3 rfl) ?_
    refine lv_aload_n hx hb dX6_servedOn_12 rfl (lv_at hl 0 rfl) ?_
    refine lv_iload_n hx hb dX6_servedOn_13 rfl (lv_at hl 1 rfl) ?_
    refine ro_V S hkx (mX6_end l (v := v) (hP := hP) (hwf := hwf) (hr := hr) (hv := (by omega))) gX6_servedOn_X6_end rfl idX6_end ⟨Nat.le_of_ble_eq_true rfl, Nat.le_of_ble_eq_true rfl⟩ hP 0 rfl rfl rfl rfl hl.1 rfl (Nat.le_of_ble_eq_true rfl) dX6_servedOn_14 ⟨Nat.le_of_ble_eq_true rfl, Nat.le_of_ble_eq_true rfl⟩ (fun r_3 hr_3 => ?_)
    subst hr_3
    refine lv_icmp_lt (tgt := 22) hx hb dX6_servedOn_17 (by decide) (fun c_4 => ?_) (fun c_4 => ?_)
    · have c_4n := Int32.not_le.mpr c_4
      refine lv_aload_n hx hb dX6_servedOn_22 rfl (lv_at hl 0 rfl) ?_
      refine va_get (D := G) (ci := 6) (C := RX6) (T := TX6) (N := 14) hx hb hts iX6 hown hkx.1 hP 0 rfl rfl 0 (by decide) k7 (fun _ h9 => h9) rfl dX6_servedOn_23 ?_
      refine lv_bipush (v := 28) hx hb dX6_servedOn_26 (by decide) ?_
      refine lv_iload_n hx hb dX6_servedOn_28 rfl (lv_at hl 2 rfl) ?_
      refine lv_iadd hx hb dX6_servedOn_29 ?_
      rw [show (28 + (nI f)) = (nI (28 + f)) from nI_add 28 f]
      refine ia hx hb hkx hP 1 rfl (28 + f) rfl (by omega) (by decide) dX6_servedOn_30 ?_
      refine lv_iload_n hx hb dX6_servedOn_31 rfl (lv_at hl 1 rfl) ?_
      refine ro_S S hkx (mX6_has l (x := (mm (28 + f))) (k := (nI v))) gX6_servedOn_X6_has rfl idX6_has.2 ⟨Nat.le_of_ble_eq_true rfl, Nat.le_of_ble_eq_true rfl⟩ rfl hl.1 rfl (Nat.le_of_ble_eq_true rfl) dX6_servedOn_32 ⟨Nat.le_of_ble_eq_true rfl, Nat.le_of_ble_eq_true rfl⟩ (fun r_5 hr_5 => ?_)
      subst hr_5
      rw [rel_has hwf hr (show f < N 1 by omega) (show v < N 0 by omega)]
      refine lv_if_eq (tgt := 42) hx hb dX6_servedOn_35 (by decide) (fun c_6 => ?_) (fun c_6 => ?_)
      · replace c_6 := bI_e0 c_6
        refine lv_aload_n hx hb dX6_servedOn_42 rfl (lv_at hl 0 rfl) ?_
        refine lv_iload_n hx hb dX6_servedOn_43 rfl (lv_at hl 2 rfl) ?_
        refine lv_iload_n hx hb dX6_servedOn_44 rfl (lv_at hl 1 rfl) ?_
        refine lv_iload_n hx hb dX6_servedOn_45 rfl (lv_at hl 3 rfl) ?_
        refine ro_V S hkx (mX6_cheapestShim l (f := (nI f)) (z := (nI v)) (d := d) (hP := hP) (hwf := hwf) (hr := hr)) gX6_servedOn_X6_cheapestShim rfl idX6_cheapestShim ⟨Nat.le_of_ble_eq_true rfl, Nat.le_of_ble_eq_true rfl⟩ hP 0 rfl rfl rfl rfl hl.1 rfl (Nat.le_of_ble_eq_true rfl) dX6_servedOn_46 ⟨Nat.le_of_ble_eq_true rfl, Nat.le_of_ble_eq_true rfl⟩ (fun r_7 hr_7 => ?_)
        subst hr_7
        refine lv_if_le (tgt := 56) hx hb dX6_servedOn_49 (by decide) (fun c_8 => ?_) (fun c_8 => ?_)
        · have c_8n := Int32.not_lt.mpr c_8
          refine lv_iconst (v := 4) hx hb dX6_servedOn_56 (by decide) ?_
          exact hret _ _ _ (show 4 = sv4 N Z v f d from by
              clear hret hl; simp [sv4, *]) dX6_servedOn_57
        · have c_8n := Int32.not_le.mp c_8
          refine lv_iconst (v := 1) hx hb dX6_servedOn_52 (by decide) ?_
          refine lv_goto (tgt := 57) hx hb dX6_servedOn_53 (by decide) ?_
          exact hret _ _ _ (show 1 = sv4 N Z v f d from by
              clear hret hl; simp [sv4, *]) dX6_servedOn_57
      · replace c_6 := bI_n0 c_6
        refine lv_iconst (v := 0) hx hb dX6_servedOn_38 (by decide) ?_
        refine lv_goto (tgt := 57) hx hb dX6_servedOn_39 (by decide) ?_
        exact hret _ _ _ (show 0 = sv4 N Z v f d from by
            clear hret hl; simp [sv4, *]) dX6_servedOn_57
    · have c_4n := Int32.not_lt.mp c_4
      refine lv_iconst (v := 3) hx hb dX6_servedOn_20 (by decide) ?_
      exact hret _ _ _ (show 3 = sv4 N Z v f d from by
          clear hret hl; simp [sv4, *]) dX6_servedOn_21
  · have c_2n := Int32.not_le.mp c_2
    refine lv_iconst (v := 2) hx hb dX6_servedOn_9 (by decide) ?_
    exact hret _ _ _ (show 2 = sv4 N Z v f d from by
        clear hret hl; simp [sv4, *]) dX6_servedOn_10

theorem idX6_missingOn : yX6_missingOn.cls = RX6 ∧ yX6_missingOn.cls ≠ "java/lang/invoke/MethodHandle" ∧ yX6_missingOn.cls ≠ "java/lang/invoke/VarHandle" ∧ (parseMethodDescriptor yX6_missingOn.desc).map (fun d => d.parameters.length) = some 3 := by decide +kernel

set_option maxHeartbeats 4000000 in
set_option maxRecDepth 100000 in
theorem mX6_missingOn (l : Launch) {G : va_G} {T : Nat → ClassId} {H : Heap} {r : Nat → Nat} {N : Nat → Nat} {Z : Nat → Nat → Int32} {mm : Nat → Int32} {pp : Nat → Int32} {xx : Nat → Int32} {th : Int32} {sv : Nat} {n1 : Nat} {ac : Int32} {ea : Int32} {le : Int32} {v1 : Int32} {v2 : Int32} {v3 : Int32} {v4 : Int32} {v5 : Int32} {u : Nat} {v : Nat} {d : Int32} (hP : va_P G vwCl (wMod T r mm pp xx th sv n1 ac ea le v1 v2 v3 v4 v5) H) (hwf : wf N Z) (hr : rel N Z mm) (hu : u < N 2) (hv : v < N 0) : ro l yX6_missingOn wsX6_missingOn 3 71 [.ref (r 0), .int (nI u), .int (nI v), .int d] G T H (fun r => r = uns N Z (Z 6 u) v d) := by
  refine ro_of (cc := cX6_missingOn) (maxL := 6) (ret := .int) (own := RX6) (by decide +kernel) rfl rfl (Nat.le_of_ble_eq_true rfl) (fun v _ => vp_nar_int v) ?_
  intro p e s m below meth c Q ls S hkx hl hret
  obtain ⟨hx, hb, hml, hown, hts⟩ := id S
  have hl : lv_has ls 6 [(0, .ref (r 0)), (1, .int (nI u)), (2, .int (nI v)), (3, .int d)] := hl
  have k7 := hts (.fieldLink RX6 7 "SunsetDatesModel" "now" "[I") (by decide +kernel)
  have iX6 : ∀ w ∈ wsX60, w ∈ wsX6_missingOn := by decide +kernel
  have hb2 := hwf.1
  obtain ⟨hr0, hr1, hr2, hr3, hrv, hrf, hru, hrs⟩ := id hr
  refine lv_iconst (v := 0) hx hb dX6_missingOn_0 (by decide) ?_
  refine lv_istore (lv' := [(4, .int 0), (0, .ref (r 0)), (1, .int (nI u)), (2, .int (nI v)), (3, .int d)]) hx hb dX6_missingOn_1 hl (by decide) rfl (fun ls hl => ?_)
  refine lv_iconst (v := 0) hx hb dX6_missingOn_3 (by decide) ?_
  refine lv_istore (lv' := [(5, .int 0), (4, .int 0), (0, .ref (r 0)), (1, .int (nI u)), (2, .int (nI v)), (3, .int d)]) hx hb dX6_missingOn_4 hl (by decide) rfl (fun ls hl => ?_)
  have L6 : ∀ (fuel : Nat) (k : Nat) (y : Int32), N 1 - k < fuel → k ≤ N 1 → y = msU N Z (Z 6 u) v d k → ∀ ls : Array Slot, lv_has ls 6 [(0, .ref (r 0)), (1, .int (nI u)), (2, .int (nI v)), (3, .int d), (4, .int y), (5, .int (nI k))] → W p l e (rmo 3 71) s m ([.ref (r 0), .int (nI u), .int (nI v), .int d] : List Value).toArray below meth c H [] 0 0 Q (F0 m 6 ls []) := by
    intro fuel
    induction fuel with
    | zero => intro k y hm; exact absurd hm (Nat.not_lt_zero _)
    | succ fuel ih6 =>
      intro k y hm6 hk hy ls hl
      refine lv_iload hx hb dX6_missingOn_6 (lv_at hl 5 rfl) ?_
      refine lv_aload_n hx hb dX6_missingOn_8 rfl (lv_at hl 0 rfl) ?_
      refine va_get (D := G) (ci := 6) (C := RX6) (T := TX6) (N := 14) hx hb hts iX6 hown hkx.1 hP 0 rfl rfl 0 (by decide) k7 (fun _ h9 => h9) rfl dX6_missingOn_9 ?_
      refine lv_iconst (v := 1) hx hb dX6_missingOn_12 (by decide) ?_
      refine ia hx hb hkx hP 1 rfl 1 rfl (by omega) (by decide) dX6_missingOn_13 ?_
      rw [hr1]
      refine lv_icmp_ge (tgt := 62) hx hb dX6_missingOn_14 (by decide) (fun c_1 => ?_) (fun c_1 => ?_)
      · replace c_1 := cn_le (a := (N 1)) (b := k) (by omega) (by omega) c_1
        refine lv_iload hx hb dX6_missingOn_62 (lv_at hl 4 rfl) ?_
        exact hret _ _ _ (show y = uns N Z (Z 6 u) v d from by
            rw [hy, show k = N 1 by omega]; exact msU_uns hwf (hwf.2.2.2.2.2.2 u hu).1 (hwf.2.2.2.2.2.2 u hu).2 d) dX6_missingOn_64
      · replace c_1 := cn_nle (a := (N 1)) (b := k) (by omega) (by omega) c_1
        refine lv_iload hx hb dX6_missingOn_17 (lv_at hl 4 rfl) ?_
        refine lv_aload_n hx hb dX6_missingOn_19 rfl (lv_at hl 0 rfl) ?_
        refine lv_iload_n hx hb dX6_missingOn_20 rfl (lv_at hl 1 rfl) ?_
        refine lv_iconst (v := 1) hx hb dX6_missingOn_21 (by decide) ?_
        refine ro_V S hkx (mX6_ofUser l (u := u) (w := 1) (hP := hP) (hwf := hwf) (hr := hr) (hu := (by omega)) (hw := (by omega))) gX6_missingOn_X6_ofUser rfl idX6_ofUser ⟨Nat.le_of_ble_eq_true rfl, Nat.le_of_ble_eq_true rfl⟩ hP 0 rfl rfl rfl rfl hl.1 rfl (Nat.le_of_ble_eq_true rfl) dX6_missingOn_22 ⟨Nat.le_of_ble_eq_true rfl, Nat.le_of_ble_eq_true rfl⟩ (fun r_2 hr_2 => ?_)
        subst hr_2
        skip
        refine lv_iload hx hb dX6_missingOn_25 (lv_at hl 5 rfl) ?_
        refine ro_S S hkx (mX6_has l (x := (Z 6 u)) (k := (nI k))) gX6_missingOn_X6_has rfl idX6_has.2 ⟨Nat.le_of_ble_eq_true rfl, Nat.le_of_ble_eq_true rfl⟩ rfl hl.1 rfl (Nat.le_of_ble_eq_true rfl) dX6_missingOn_27 ⟨Nat.le_of_ble_eq_true rfl, Nat.le_of_ble_eq_true rfl⟩ (fun r_3 hr_3 => ?_)
        subst hr_3
        refine lv_if_eq (tgt := 52) hx hb dX6_missingOn_30 (by decide) (fun c_4 => ?_) (fun c_4 => ?_)
        · replace c_4 := bI_e0 c_4
          refine lv_iconst (v := 0) hx hb dX6_missingOn_52 (by decide) ?_
          refine lv_ior hx hb dX6_missingOn_53 ?_
          refine lv_istore (lv' := [(4, .int (y ||| 0)), (0, .ref (r 0)), (1, .int (nI u)), (2, .int (nI v)), (3, .int d), (5, .int (nI k))]) hx hb dX6_missingOn_54 hl (by decide) rfl (fun ls hl => ?_)
          refine lv_iinc (v := (nI (k + 1))) (lv' := [(5, .int (nI (k + 1))), (4, .int (y ||| 0)), (0, .ref (r 0)), (1, .int (nI u)), (2, .int (nI v)), (3, .int d)]) hx hb dX6_missingOn_56 hl (k := 5) rfl (nI_inc k) (by decide) rfl (fun ls hl => ?_)
          refine lv_goto (tgt := 6) hx hb dX6_missingOn_59 (by decide) ?_
          exact ih6 (k + 1) (y ||| 0) (by omega) (by omega) (by rw [hy]; simp [msU, *]) _ (lv_sub hl [2, 3, 4, 5, 1, 0] rfl)
        · replace c_4 := bI_n0 c_4
          refine lv_aload_n hx hb dX6_missingOn_33 rfl (lv_at hl 0 rfl) ?_
          refine lv_iload_n hx hb dX6_missingOn_34 rfl (lv_at hl 2 rfl) ?_
          refine lv_iload hx hb dX6_missingOn_35 (lv_at hl 5 rfl) ?_
          refine lv_iload_n hx hb dX6_missingOn_37 rfl (lv_at hl 3 rfl) ?_
          refine ro_V S hkx (mX6_servedOn l (v := v) (f := k) (d := d) (hP := hP) (hwf := hwf) (hr := hr) (hv := (by omega)) (hf := (by omega))) gX6_missingOn_X6_servedOn rfl idX6_servedOn ⟨Nat.le_of_ble_eq_true rfl, Nat.le_of_ble_eq_true rfl⟩ hP 0 rfl rfl rfl rfl hl.1 rfl (Nat.le_of_ble_eq_true rfl) dX6_missingOn_38 ⟨Nat.le_of_ble_eq_true rfl, Nat.le_of_ble_eq_true rfl⟩ (fun r_5 hr_5 => ?_)
          subst hr_5
          refine lv_iconst (v := 1) hx hb dX6_missingOn_41 (by decide) ?_
          refine lv_icmp_le (tgt := 52) hx hb dX6_missingOn_42 (by decide) (fun c_6 => ?_) (fun c_6 => ?_)
          · have c_6n := Int32.not_lt.mpr c_6
            refine lv_iconst (v := 0) hx hb dX6_missingOn_52 (by decide) ?_
            refine lv_ior hx hb dX6_missingOn_53 ?_
            refine lv_istore (lv' := [(4, .int (y ||| 0)), (0, .ref (r 0)), (1, .int (nI u)), (2, .int (nI v)), (3, .int d), (5, .int (nI k))]) hx hb dX6_missingOn_54 hl (by decide) rfl (fun ls hl => ?_)
            refine lv_iinc (v := (nI (k + 1))) (lv' := [(5, .int (nI (k + 1))), (4, .int (y ||| 0)), (0, .ref (r 0)), (1, .int (nI u)), (2, .int (nI v)), (3, .int d)]) hx hb dX6_missingOn_56 hl (k := 5) rfl (nI_inc k) (by decide) rfl (fun ls hl => ?_)
            refine lv_goto (tgt := 6) hx hb dX6_missingOn_59 (by decide) ?_
            exact ih6 (k + 1) (y ||| 0) (by omega) (by omega) (by rw [hy]; simp [msU, *]) _ (lv_sub hl [2, 3, 4, 5, 1, 0] rfl)
          · have c_6n := Int32.not_le.mp c_6
            refine lv_iconst (v := 1) hx hb dX6_missingOn_45 (by decide) ?_
            refine lv_iload hx hb dX6_missingOn_46 (lv_at hl 5 rfl) ?_
            refine lv_ishl hx hb dX6_missingOn_48 ?_
            refine lv_goto (tgt := 53) hx hb dX6_missingOn_49 (by decide) ?_
            refine lv_ior hx hb dX6_missingOn_53 ?_
            refine lv_istore (lv' := [(4, .int (y ||| (1 <<< ((nI k) &&& 31)))), (0, .ref (r 0)), (1, .int (nI u)), (2, .int (nI v)), (3, .int d), (5, .int (nI k))]) hx hb dX6_missingOn_54 hl (by decide) rfl (fun ls hl => ?_)
            refine lv_iinc (v := (nI (k + 1))) (lv' := [(5, .int (nI (k + 1))), (4, .int (y ||| (1 <<< ((nI k) &&& 31)))), (0, .ref (r 0)), (1, .int (nI u)), (2, .int (nI v)), (3, .int d)]) hx hb dX6_missingOn_56 hl (k := 5) rfl (nI_inc k) (by decide) rfl (fun ls hl => ?_)
            refine lv_goto (tgt := 6) hx hb dX6_missingOn_59 (by decide) ?_
            exact ih6 (k + 1) (y ||| (1 <<< ((nI k) &&& 31))) (by omega) (by omega) (by rw [hy]; simp [msU, *]) _ (lv_sub hl [2, 3, 4, 5, 1, 0] rfl)
  exact L6 _ 0 0 (Nat.lt_succ_self _) (by omega) (by rfl) _ (lv_sub hl [2, 3, 4, 5, 1, 0] rfl)
