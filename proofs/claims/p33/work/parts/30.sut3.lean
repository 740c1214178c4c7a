theorem idX0_pledgeFault : yX0_pledgeFault.cls = RX0 ∧ yX0_pledgeFault.cls ≠ "java/lang/invoke/MethodHandle" ∧ yX0_pledgeFault.cls ≠ "java/lang/invoke/VarHandle" ∧ (parseMethodDescriptor yX0_pledgeFault.desc).map (fun d => d.parameters.length) = some 3 := by decide +kernel

set_option maxHeartbeats 4000000 in
set_option maxRecDepth 100000 in
theorem mX0_pledgeFault (l : Launch) {G : va_G} {T : Nat → ClassId} {H : Heap} {a : Nat → Nat} {N : Nat → Nat} {Z : Nat → Nat → Int32} {u : Int32} {v : Int32} {d : Int32} (hP : va_P G vwCl (wCal T a N Z) H) : ro l yX0_pledgeFault wsX0_pledgeFault 1 22 [.ref (a 0), .int u, .int v, .int d] G T H (fun r => r = plF N u v d) := by
  refine ro_of (cc := cX0_pledgeFault) (maxL := 4) (ret := .int) (own := RX0) (by decide +kernel) rfl rfl (Nat.le_of_ble_eq_true rfl) (fun v _ => vp_nar_int v) ?_
  intro p e s m below meth c Q ls S hkx hl hret
  obtain ⟨hx, hb, hml, hown, hts⟩ := id S
  have hl : lv_has ls 4 [(0, .ref (a 0)), (1, .int u), (2, .int v), (3, .int d)] := hl
  have k25 := hts (.fieldLink RX0 25 "SunsetDates$Calendar" "users" "LSunsetDates$Users;") (by decide +kernel)
  have iX0 : ∀ w ∈ wsX00, w ∈ wsX0_pledgeFault := by decide +kernel
  have k57 := hts (.fieldLink RX0 57 "SunsetDates$Users" "count" "I") (by decide +kernel)
  have iX3 : ∀ w ∈ wsX30, w ∈ wsX0_pledgeFault := by decide +kernel
  have nX5 := hts (.initialized RX5) (by decide +kernel)
  have tX5_isThere := hts (.static yX5_isThere) (by decide +kernel)
  have k12 := hts (.fieldLink RX0 12 "SunsetDates$Calendar" "versions" "LSunsetDates$Versions;") (by decide +kernel)
  have k46 := hts (.fieldLink RX0 46 "SunsetDates$Versions" "count" "I") (by decide +kernel)
  have iX4 : ∀ w ∈ wsX40, w ∈ wsX0_pledgeFault := by decide +kernel
  have tX5_isWithin := hts (.static yX5_isWithin) (by decide +kernel)
  refine lv_iload_n hx hb dX0_pledgeFault_0 rfl (lv_at hl 1 rfl) ?_
  refine lv_aload_n hx hb dX0_pledgeFault_1 rfl (lv_at hl 0 rfl) ?_
  refine va_get (D := G) (ci := 0) (C := RX0) (T := TX0) (N := 4) hx hb hts iX0 hown hkx.1 hP 0 rfl rfl 2 (by decide) k25 (fun _ h9 => h9) rfl dX0_pledgeFault_2 ?_
  refine va_get (D := G) (ci := 3) (C := RX3) (T := TX3) (N := 7) hx hb hts iX3 hown hkx.1 hP 6 rfl rfl 0 (by decide) k57 (fun _ h9 => h9) rfl dX0_pledgeFault_5 ?_
  refine ro_SN S hkx (mX5_isThere l (i := u) (n := (nI (N 2)))) gX0_pledgeFault_X5_isThere_n58 rfl hkx.2.2.1 nX5 tX5_isThere idX5_isThere.2 ⟨Nat.le_of_ble_eq_true rfl, Nat.le_of_ble_eq_true rfl⟩ rfl hl.1 rfl (Nat.le_of_ble_eq_true rfl) dX0_pledgeFault_8 ⟨Nat.le_of_ble_eq_true rfl, Nat.le_of_ble_eq_true rfl⟩ (fun r_1 hr_1 => ?_)
  subst hr_1
  refine lv_if_eq (tgt := 28) hx hb dX0_pledgeFault_11 (by decide) (fun c_2 => ?_) (fun c_2 => ?_)
  · replace c_2 := bI_e0 c_2
    refine lv_iconst (v := 1) hx hb dX0_pledgeFault_28 (by decide) ?_
    exact hret _ _ _ (show 1 = plF N u v d from by
        simp [plF, *]) dX0_pledgeFault_29
  · replace c_2 := bI_n0 c_2
    refine lv_iload_n hx hb dX0_pledgeFault_14 rfl (lv_at hl 2 rfl) ?_
    refine lv_aload_n hx hb dX0_pledgeFault_15 rfl (lv_at hl 0 rfl) ?_
    refine va_get (D := G) (ci := 0) (C := RX0) (T := TX0) (N := 4) hx hb hts iX0 hown hkx.1 hP 0 rfl rfl 0 (by decide) k12 (fun _ h9 => h9) rfl dX0_pledgeFault_16 ?_
    refine va_get (D := G) (ci := 4) (C := RX4) (T := TX4) (N := 5) hx hb hts iX4 hown hkx.1 hP 1 rfl rfl 0 (by decide) k46 (fun _ h9 => h9) rfl dX0_pledgeFault_19 ?_
    refine ro_SN S hkx (mX5_isThere l (i := v) (n := (nI (N 0)))) gX0_pledgeFault_X5_isThere_n58 rfl hkx.2.2.1 nX5 tX5_isThere idX5_isThere.2 ⟨Nat.le_of_ble_eq_true rfl, Nat.le_of_ble_eq_true rfl⟩ rfl hl.1 rfl (Nat.le_of_ble_eq_true rfl) dX0_pledgeFault_22 ⟨Nat.le_of_ble_eq_true rfl, Nat.le_of_ble_eq_true rfl⟩ (fun r_3 hr_3 => ?_)
    subst hr_3
    refine lv_if_ne (tgt := 30) hx hb dX0_pledgeFault_25 (by decide) (fun c_4 => ?_) (fun c_4 => ?_)
    · replace c_4 := bI_n0 c_4
      refine lv_iload_n hx hb dX0_pledgeFault_30 rfl (lv_at hl 3 rfl) ?_
      refine lv_iconst (v := 0) hx hb dX0_pledgeFault_31 (by decide) ?_
      refine lv_sipush (v := 999) hx hb dX0_pledgeFault_32 (by decide) ?_
      refine ro_SN S hkx (mX5_isWithin l (v := d) (x := 0) (z := 999)) gX0_pledgeFault_X5_isWithin_n61 rfl hkx.2.2.2.1 nX5 tX5_isWithin idX5_isWithin.2 ⟨Nat.le_of_ble_eq_true rfl, Nat.le_of_ble_eq_true rfl⟩ rfl hl.1 rfl (Nat.le_of_ble_eq_true rfl) dX0_pledgeFault_35 ⟨Nat.le_of_ble_eq_true rfl, Nat.le_of_ble_eq_true rfl⟩ (fun r_5 hr_5 => ?_)
      subst hr_5
      refine lv_if_eq (tgt := 45) hx hb dX0_pledgeFault_38 (by decide) (fun c_6 => ?_) (fun c_6 => ?_)
      · replace c_6 := bI_e0 c_6
        refine lv_iconst (v := 2) hx hb dX0_pledgeFault_45 (by decide) ?_
        exact hret _ _ _ (show 2 = plF N u v d from by
            simp [plF, *]) dX0_pledgeFault_46
      · replace c_6 := bI_n0 c_6
        refine lv_iconst (v := 0) hx hb dX0_pledgeFault_41 (by decide) ?_
        refine lv_goto (tgt := 46) hx hb dX0_pledgeFault_42 (by decide) ?_
        exact hret _ _ _ (show 0 = plF N u v d from by
            simp [plF, *]) dX0_pledgeFault_46
    · replace c_4 := bI_e0 c_4
      refine lv_iconst (v := 1) hx hb dX0_pledgeFault_28 (by decide) ?_
      exact hret _ _ _ (show 1 = plF N u v d from by
          simp [plF, *]) dX0_pledgeFault_29

theorem idX0_slipFault : yX0_slipFault.cls = RX0 ∧ yX0_slipFault.cls ≠ "java/lang/invoke/MethodHandle" ∧ yX0_slipFault.cls ≠ "java/lang/invoke/VarHandle" ∧ (parseMethodDescriptor yX0_slipFault.desc).map (fun d => d.parameters.length) = some 2 := by decide +kernel

set_option maxHeartbeats 4000000 in
set_option maxRecDepth 100000 in
theorem mX0_slipFault (l : Launch) {G : va_G} {T : Nat → ClassId} {H : Heap} {a : Nat → Nat} {N : Nat → Nat} {Z : Nat → Nat → Int32} {u : Int32} {t : Int32} (hP : va_P G vwCl (wCal T a N Z) H) (hs : N 2 ≤ 10) : ro l yX0_slipFault wsX0_slipFault 1 22 [.ref (a 0), .int u, .int t] G T H (fun r => r = slF N Z u t) := by
  refine ro_of (cc := cX0_slipFault) (maxL := 3) (ret := .int) (own := RX0) (by decide +kernel) rfl rfl (Nat.le_of_ble_eq_true rfl) (fun v _ => vp_nar_int v) ?_
  intro p e s m below meth c Q ls S hkx hl hret
  obtain ⟨hx, hb, hml, hown, hts⟩ := id S
  have hl : lv_has ls 3 [(0, .ref (a 0)), (1, .int u), (2, .int t)] := hl
  have k25 := hts (.fieldLink RX0 25 "SunsetDates$Calendar" "users" "LSunsetDates$Users;") (by decide +kernel)
  have iX0 : ∀ w ∈ wsX00, w ∈ wsX0_slipFault := by decide +kernel
  have k57 := hts (.fieldLink RX0 57 "SunsetDates$Users" "count" "I") (by decide +kernel)
  have iX3 : ∀ w ∈ wsX30, w ∈ wsX0_slipFault := by decide +kernel
  have nX5 := hts (.initialized RX5) (by decide +kernel)
  have tX5_isThere := hts (.static yX5_isThere) (by decide +kernel)
  have tX5_isWithin := hts (.static yX5_isWithin) (by decide +kernel)
  have k69 := hts (.fieldLink RX0 69 "SunsetDates$Users" "pledgeDay" "[I") (by decide +kernel)
  refine lv_iload_n hx hb dX0_slipFault_0 rfl (lv_at hl 1 rfl) ?_
  refine lv_aload_n hx hb dX0_slipFault_1 rfl (lv_at hl 0 rfl) ?_
  refine va_get (D := G) (ci := 0) (C := RX0) (T := TX0) (N := 4) hx hb hts iX0 hown hkx.1 hP 0 rfl rfl 2 (by decide) k25 (fun _ h9 => h9) rfl dX0_slipFault_2 ?_
  refine va_get (D := G) (ci := 3) (C := RX3) (T := TX3) (N := 7) hx hb hts iX3 hown hkx.1 hP 6 rfl rfl 0 (by decide) k57 (fun _ h9 => h9) rfl dX0_slipFault_5 ?_
  refine ro_SN S hkx (mX5_isThere l (i := u) (n := (nI (N 2)))) gX0_slipFault_X5_isThere_n58 rfl hkx.2.2.1 nX5 tX5_isThere idX5_isThere.2 ⟨Nat.le_of_ble_eq_true rfl, Nat.le_of_ble_eq_true rfl⟩ rfl hl.1 rfl (Nat.le_of_ble_eq_true rfl) dX0_slipFault_8 ⟨Nat.le_of_ble_eq_true rfl, Nat.le_of_ble_eq_true rfl⟩ (fun r_1 hr_1 => ?_)
  subst hr_1
  refine lv_if_ne (tgt := 16) hx hb dX0_slipFault_11 (by decide) (fun c_2 => ?_) (fun c_2 => ?_)
  · replace c_2 := bI_n0 c_2
    refine lv_iload_n hx hb dX0_slipFault_16 rfl (lv_at hl 2 rfl) ?_
    refine lv_iconst (v := 1) hx hb dX0_slipFault_17 (by decide) ?_
    refine lv_bipush (v := 99) hx hb dX0_slipFault_18 (by decide) ?_
    refine ro_SN S hkx (mX5_isWithin l (v := t) (x := 1) (z := 99)) gX0_slipFault_X5_isWithin_n61 rfl hkx.2.2.2.1 nX5 tX5_isWithin idX5_isWithin.2 ⟨Nat.le_of_ble_eq_true rfl, Nat.le_of_ble_eq_true rfl⟩ rfl hl.1 rfl (Nat.le_of_ble_eq_true rfl) dX0_slipFault_20 ⟨Nat.le_of_ble_eq_true rfl, Nat.le_of_ble_eq_true rfl⟩ (fun r_3 hr_3 => ?_)
    subst hr_3
    refine lv_if_ne (tgt := 28) hx hb dX0_slipFault_23 (by decide) (fun c_4 => ?_) (fun c_4 => ?_)
    · replace c_4 := bI_n0 c_4
      obtain ⟨k, hk, rfl⟩ := isT_nat (by omega) c_2
      refine lv_aload_n hx hb dX0_slipFault_28 rfl (lv_at hl 0 rfl) ?_
      refine va_get (D := G) (ci := 0) (C := RX0) (T := TX0) (N := 4) hx hb hts iX0 hown hkx.1 hP 0 rfl rfl 2 (by decide) k25 (fun _ h9 => h9) rfl dX0_slipFault_29 ?_
      refine lv_iload_n hx hb dX0_slipFault_32 rfl (lv_at hl 1 rfl) ?_
      refine ro_V S hkx (mX3_isPledged l (k := k) (hP := hP) (hk := (by omega))) gX0_slipFault_X3_isPledged rfl idX3_isPledged ⟨Nat.le_of_ble_eq_true rfl, Nat.le_of_ble_eq_true rfl⟩ hP 6 rfl rfl rfl rfl hl.1 rfl (Nat.le_of_ble_eq_true rfl) dX0_slipFault_33 ⟨Nat.le_of_ble_eq_true rfl, Nat.le_of_ble_eq_true rfl⟩ (fun r_5 hr_5 => ?_)
      subst hr_5
      refine lv_if_eq (tgt := 60) hx hb dX0_slipFault_36 (by decide) (fun c_6 => ?_) (fun c_6 => ?_)
      · replace c_6 := bI_e0 c_6
        refine lv_iconst (v := 3) hx hb dX0_slipFault_60 (by decide) ?_
        exact hret _ _ _ (show 3 = slF N Z (nI k) t from by
            clear hret hl; simp only [slF, nI_clamp (show k < 2 ^ 31 by omega)]; simp [*]) dX0_slipFault_61
      · replace c_6 := bI_n0 c_6
        refine lv_aload_n hx hb dX0_slipFault_39 rfl (lv_at hl 0 rfl) ?_
        refine va_get (D := G) (ci := 0) (C := RX0) (T := TX0) (N := 4) hx hb hts iX0 hown hkx.1 hP 0 rfl rfl 2 (by decide) k25 (fun _ h9 => h9) rfl dX0_slipFault_40 ?_
        refine va_get (D := G) (ci := 3) (C := RX3) (T := TX3) (N := 7) hx hb hts iX3 hown hkx.1 hP 6 rfl rfl 4 (by decide) k69 (fun _ h9 => h9) rfl dX0_slipFault_43 ?_
        refine lv_iload_n hx hb dX0_slipFault_46 rfl (lv_at hl 1 rfl) ?_
        refine ia hx hb hkx hP 10 rfl k rfl (by omega) (by decide) dX0_slipFault_47 ?_
        refine lv_iload_n hx hb dX0_slipFault_48 rfl (lv_at hl 2 rfl) ?_
        refine lv_iadd hx hb dX0_slipFault_49 ?_
        refine lv_sipush (v := 999) hx hb dX0_slipFault_50 (by decide) ?_
        refine lv_icmp_gt (tgt := 60) hx hb dX0_slipFault_53 (by decide) (fun c_7 => ?_) (fun c_7 => ?_)
        · have c_7n := Int32.not_le.mpr c_7
          refine lv_iconst (v := 3) hx hb dX0_slipFault_60 (by decide) ?_
          exact hret _ _ _ (show 3 = slF N Z (nI k) t from by
              clear hret hl; simp only [slF, nI_clamp (show k < 2 ^ 31 by omega)]; simp [*]) dX0_slipFault_61
        · have c_7n := Int32.not_lt.mp c_7
          refine lv_iconst (v := 0) hx hb dX0_slipFault_56 (by decide) ?_
          refine lv_goto (tgt := 61) hx hb dX0_slipFault_57 (by decide) ?_
          exact hret _ _ _ (show 0 = slF N Z (nI k) t from by
              clear hret hl; simp only [slF, nI_clamp (show k < 2 ^ 31 by omega)]; simp [*]) dX0_slipFault_61
    · replace c_4 := bI_e0 c_4
      refine lv_iconst (v := 2) hx hb dX0_slipFault_26 (by decide) ?_
      exact hret _ _ _ (show 2 = slF N Z u t from by
          clear hret hl; simp [slF, *]) dX0_slipFault_27
  · replace c_2 := bI_e0 c_2
    refine lv_iconst (v := 1) hx hb dX0_slipFault_14 (by decide) ?_
    exact hret _ _ _ (show 1 = slF N Z u t from by
        clear hret hl; simp [slF, *]) dX0_slipFault_15

theorem idX0_extendFault : yX0_extendFault.cls = RX0 ∧ yX0_extendFault.cls ≠ "java/lang/invoke/MethodHandle" ∧ yX0_extendFault.cls ≠ "java/lang/invoke/VarHandle" ∧ (parseMethodDescriptor yX0_extendFault.desc).map (fun d => d.parameters.length) = some 2 := by decide +kernel

set_option maxHeartbeats 4000000 in
set_option maxRecDepth 100000 in
theorem mX0_extendFault (l : Launch) {G : va_G} {T : Nat → ClassId} {H : Heap} {a : Nat → Nat} {N : Nat → Nat} {Z : Nat → Nat → Int32} {v : Int32} {t : Int32} (hP : va_P G vwCl (wCal T a N Z) H) (hs : N 0 ≤ 8) : ro l yX0_extendFault wsX0_extendFault 1 22 [.ref (a 0), .int v, .int t] G T H (fun r => r = exF N Z v t) := by
  refine ro_of (cc := cX0_extendFault) (maxL := 3) (ret := .int) (own := RX0) (by decide +kernel) rfl rfl (Nat.le_of_ble_eq_true rfl) (fun v _ => vp_nar_int v) ?_
  intro p e s m below meth c Q ls S hkx hl hret
  obtain ⟨hx, hb, hml, hown, hts⟩ := id S
  have hl : lv_has ls 3 [(0, .ref (a 0)), (1, .int v), (2, .int t)] := hl
  have k12 := hts (.fieldLink RX0 12 "SunsetDates$Calendar" "versions" "LSunsetDates$Versions;") (by decide +kernel)
  have iX0 : ∀ w ∈ wsX00, w ∈ wsX0_extendFault := by decide +kernel
  have k46 := hts (.fieldLink RX0 46 "SunsetDates$Versions" "count" "I") (by decide +kernel)
  have iX4 : ∀ w ∈ wsX40, w ∈ wsX0_extendFault := by decide +kernel
  have nX5 := hts (.initialized RX5) (by decide +kernel)
  have tX5_isThere := hts (.static yX5_isThere) (by decide +kernel)
  have tX5_isWithin := hts (.static yX5_isWithin) (by decide +kernel)
  have k72 := hts (.fieldLink RX0 72 "SunsetDates$Versions" "end" "[I") (by decide +kernel)
  refine lv_iload_n hx hb dX0_extendFault_0 rfl (lv_at hl 1 rfl) ?_
  refine lv_aload_n hx hb dX0_extendFault_1 rfl (lv_at hl 0 rfl) ?_
  refine va_get (D := G) (ci := 0) (C := RX0) (T := TX0) (N := 4) hx hb hts iX0 hown hkx.1 hP 0 rfl rfl 0 (by decide) k12 (fun _ h9 => h9) rfl dX0_extendFault_2 ?_
  refine va_get (D := G) (ci := 4) (C := RX4) (T := TX4) (N := 5) hx hb hts iX4 hown hkx.1 hP 1 rfl rfl 0 (by decide) k46 (fun _ h9 => h9) rfl dX0_extendFault_5 ?_
  refine ro_SN S hkx (mX5_isThere l (i := v) (n := (nI (N 0)))) gX0_extendFault_X5_isThere_n58 rfl hkx.2.2.1 nX5 tX5_isThere idX5_isThere.2 ⟨Nat.le_of_ble_eq_true rfl, Nat.le_of_ble_eq_true rfl⟩ rfl hl.1 rfl (Nat.le_of_ble_eq_true rfl) dX0_extendFault_8 ⟨Nat.le_of_ble_eq_true rfl, Nat.le_of_ble_eq_true rfl⟩ (fun r_1 hr_1 => ?_)
  subst hr_1
  refine lv_if_ne (tgt := 16) hx hb dX0_extendFault_11 (by decide) (fun c_2 => ?_) (fun c_2 => ?_)
  · replace c_2 := bI_n0 c_2
    refine lv_iload_n hx hb dX0_extendFault_16 rfl (lv_at hl 2 rfl) ?_
    refine lv_iconst (v := 1) hx hb dX0_extendFault_17 (by decide) ?_
    refine lv_bipush (v := 99) hx hb dX0_extendFault_18 (by decide) ?_
    refine ro_SN S hkx (mX5_isWithin l (v := t) (x := 1) (z := 99)) gX0_extendFault_X5_isWithin_n61 rfl hkx.2.2.2.1 nX5 tX5_isWithin idX5_isWithin.2 ⟨Nat.le_of_ble_eq_true rfl, Nat.le_of_ble_eq_true rfl⟩ rfl hl.1 rfl (Nat.le_of_ble_eq_true rfl) dX0_extendFault_20 ⟨Nat.le_of_ble_eq_true rfl, Nat.le_of_ble_eq_true rfl⟩ (fun r_3 hr_3 => ?_)
    subst hr_3
    refine lv_if_ne (tgt := 28) hx hb dX0_extendFault_23 (by decide) (fun c_4 => ?_) (fun c_4 => ?_)
    · replace c_4 := bI_n0 c_4
      obtain ⟨k, hk, rfl⟩ := isT_nat (by omega) c_2
      refine lv_aload_n hx hb dX0_extendFault_28 rfl (lv_at hl 0 rfl) ?_
      refine va_get (D := G) (ci := 0) (C := RX0) (T := TX0) (N := 4) hx hb hts iX0 hown hkx.1 hP 0 rfl rfl 0 (by decide) k12 (fun _ h9 => h9) rfl dX0_extendFault_29 ?_
      refine va_get (D := G) (ci := 4) (C := RX4) (T := TX4) (N := 5) hx hb hts iX4 hown hkx.1 hP 1 rfl rfl 2 (by decide) k72 (fun _ h9 => h9) rfl dX0_extendFault_32 ?_
      refine lv_iload_n hx hb dX0_extendFault_35 rfl (lv_at hl 1 rfl) ?_
      refine ia hx hb hkx hP 3 rfl k rfl (by omega) (by decide) dX0_extendFault_36 ?_
      refine lv_iload_n hx hb dX0_extendFault_37 rfl (lv_at hl 2 rfl) ?_
      refine lv_iadd hx hb dX0_extendFault_38 ?_
      refine lv_sipush (v := 1000) hx hb dX0_extendFault_39 (by decide) ?_
      refine lv_icmp_gt (tgt := 49) hx hb dX0_extendFault_42 (by decide) (fun c_5 => ?_) (fun c_5 => ?_)
      · have c_5n := Int32.not_le.mpr c_5
        refine lv_iconst (v := 3) hx hb dX0_extendFault_49 (by decide) ?_
        exact hret _ _ _ (show 3 = exF N Z (nI k) t from by
            clear hret hl; simp only [exF, nI_clamp (show k < 2 ^ 31 by omega)]; simp [*]) dX0_extendFault_50
      · have c_5n := Int32.not_lt.mp c_5
        refine lv_iconst (v := 0) hx hb dX0_extendFault_45 (by decide) ?_
        refine lv_goto (tgt := 50) hx hb dX0_extendFault_46 (by decide) ?_
        exact hret _ _ _ (show 0 = exF N Z (nI k) t from by
            clear hret hl; simp only [exF, nI_clamp (show k < 2 ^ 31 by omega)]; simp [*]) dX0_extendFault_50
    · replace c_4 := bI_e0 c_4
      refine lv_iconst (v := 2) hx hb dX0_extendFault_26 (by decide) ?_
      exact hret _ _ _ (show 2 = exF N Z v t from by
          clear hret hl; simp [exF, *]) dX0_extendFault_27
  · replace c_2 := bI_e0 c_2
    refine lv_iconst (v := 1) hx hb dX0_extendFault_14 (by decide) ?_
    exact hret _ _ _ (show 1 = exF N Z v t from by
        clear hret hl; simp [exF, *]) dX0_extendFault_15

theorem idX0_shimFault : yX0_shimFault.cls = RX0 ∧ yX0_shimFault.cls ≠ "java/lang/invoke/MethodHandle" ∧ yX0_shimFault.cls ≠ "java/lang/invoke/VarHandle" ∧ (parseMethodDescriptor yX0_shimFault.desc).map (fun d => d.parameters.length) = some 5 := by decide +kernel

set_option maxHeartbeats 4000000 in
set_option maxRecDepth 100000 in
theorem mX0_shimFault (l : Launch) {G : va_G} {T : Nat → ClassId} {H : Heap} {a : Nat → Nat} {N : Nat → Nat} {Z : Nat → Nat → Int32} {f : Int32} {v : Int32} {x : Int32} {z : Int32} {q : Int32} (hP : va_P G vwCl (wCal T a N Z) H) (hs : N 3 ≤ 12) : ro l yX0_shimFault wsX0_shimFault 1 22 [.ref (a 0), .int f, .int v, .int x, .int z, .int q] G T H (fun r => r = shF N f v x z q) := by
  refine ro_of (cc := cX0_shimFault) (maxL := 6) (ret := .int) (own := RX0) (by decide +kernel) rfl rfl (Nat.le_of_ble_eq_true rfl) (fun v _ => vp_nar_int v) ?_
  intro p e s m below meth c Q ls S hkx hl hret
  obtain ⟨hx, hb, hml, hown, hts⟩ := id S
  have hl : lv_has ls 6 [(0, .ref (a 0)), (1, .int f), (2, .int v), (3, .int x), (4, .int z), (5, .int q)] := hl
  have k18 := hts (.fieldLink RX0 18 "SunsetDates$Calendar" "featureCount" "I") (by decide +kernel)
  have iX0 : ∀ w ∈ wsX00, w ∈ wsX0_shimFault := by decide +kernel
  have nX5 := hts (.initialized RX5) (by decide +kernel)
  have tX5_isThere := hts (.static yX5_isThere) (by decide +kernel)
  have k12 := hts (.fieldLink RX0 12 "SunsetDates$Calendar" "versions" "LSunsetDates$Versions;") (by decide +kernel)
  have k46 := hts (.fieldLink RX0 46 "SunsetDates$Versions" "count" "I") (by decide +kernel)
  have iX4 : ∀ w ∈ wsX40, w ∈ wsX0_shimFault := by decide +kernel
  have tX5_isWithin := hts (.static yX5_isWithin) (by decide +kernel)
  have k32 := hts (.fieldLink RX0 32 "SunsetDates$Calendar" "shims" "LSunsetDates$Shims;") (by decide +kernel)
  have k75 := hts (.fieldLink RX0 75 "SunsetDates$Shims" "count" "I") (by decide +kernel)
  have iX2 : ∀ w ∈ wsX20, w ∈ wsX0_shimFault := by decide +kernel
  refine lv_iload_n hx hb dX0_shimFault_0 rfl (lv_at hl 1 rfl) ?_
  refine lv_aload_n hx hb dX0_shimFault_1 rfl (lv_at hl 0 rfl) ?_
  refine va_get (D := G) (ci := 0) (C := RX0) (T := TX0) (N := 4) hx hb hts iX0 hown hkx.1 hP 0 rfl rfl 1 (by decide) k18 (fun _ h9 => h9) rfl dX0_shimFault_2 ?_
  refine ro_SN S hkx (mX5_isThere l (i := f) (n := (nI (N 1)))) gX0_shimFault_X5_isThere_n58 rfl hkx.2.2.1 nX5 tX5_isThere idX5_isThere.2 ⟨Nat.le_of_ble_eq_true rfl, Nat.le_of_ble_eq_true rfl⟩ rfl hl.1 rfl (Nat.le_of_ble_eq_true rfl) dX0_shimFault_5 ⟨Nat.le_of_ble_eq_true rfl, Nat.le_of_ble_eq_true rfl⟩ (fun r_1 hr_1 => ?_)
  subst hr_1
  refine lv_if_eq (tgt := 25) hx hb dX0_shimFault_8 (by decide) (fun c_2 => ?_) (fun c_2 => ?_)
  · replace c_2 := bI_e0 c_2
    refine lv_iconst (v := 1) hx hb dX0_shimFault_25 (by decide) ?_
    exact hret _ _ _ (show 1 = shF N f v x z q from by
        clear hret hl; first | (simp [shF, *]; done) | (simp only [shF, *]; rw [if_neg (by omega)]; simp)) dX0_shimFault_26
  · replace c_2 := bI_n0 c_2
    refine lv_iload_n hx hb dX0_shimFault_11 rfl (lv_at hl 2 rfl) ?_
    refine lv_aload_n hx hb dX0_shimFault_12 rfl (lv_at hl 0 rfl) ?_
    refine va_get (D := G) (ci := 0) (C := RX0) (T := TX0) (N := 4) hx hb hts iX0 hown hkx.1 hP 0 rfl rfl 0 (by decide) k12 (fun _ h9 => h9) rfl dX0_shimFault_13 ?_
    refine va_get (D := G) (ci := 4) (C := RX4) (T := TX4) (N := 5) hx hb hts iX4 hown hkx.1 hP 1 rfl rfl 0 (by decide) k46 (fun _ h9 => h9) rfl dX0_shimFault_16 ?_
    refine ro_SN S hkx (mX5_isThere l (i := v) (n := (nI (N 0)))) gX0_shimFault_X5_isThere_n58 rfl hkx.2.2.1 nX5 tX5_isThere idX5_isThere.2 ⟨Nat.le_of_ble_eq_true rfl, Nat.le_of_ble_eq_true rfl⟩ rfl hl.1 rfl (Nat.le_of_ble_eq_true rfl) dX0_shimFault_19 ⟨Nat.le_of_ble_eq_true rfl, Nat.le_of_ble_eq_true rfl⟩ (fun r_3 hr_3 => ?_)
    subst hr_3
    refine lv_if_ne (tgt := 27) hx hb dX0_shimFault_22 (by decide) (fun c_4 => ?_) (fun c_4 => ?_)
    · replace c_4 := bI_n0 c_4
      refine lv_iload_n hx hb dX0_shimFault_27 rfl (lv_at hl 3 rfl) ?_
      refine lv_iconst (v := 0) hx hb dX0_shimFault_28 (by decide) ?_
      refine lv_sipush (v := 999) hx hb dX0_shimFault_29 (by decide) ?_
      refine ro_SN S hkx (mX5_isWithin l (v := x) (x := 0) (z := 999)) gX0_shimFault_X5_isWithin_n61 rfl hkx.2.2.2.1 nX5 tX5_isWithin idX5_isWithin.2 ⟨Nat.le_of_ble_eq_true rfl, Nat.le_of_ble_eq_true rfl⟩ rfl hl.1 rfl (Nat.le_of_ble_eq_true rfl) dX0_shimFault_32 ⟨Nat.le_of_ble_eq_true rfl, Nat.le_of_ble_eq_true rfl⟩ (fun r_5 hr_5 => ?_)
      subst hr_5
      refine lv_if_eq (tgt := 61) hx hb dX0_shimFault_35 (by decide) (fun c_6 => ?_) (fun c_6 => ?_)
      · replace c_6 := bI_e0 c_6
        refine lv_iconst (v := 2) hx hb dX0_shimFault_61 (by decide) ?_
        exact hret _ _ _ (show 2 = shF N f v x z q from by
            clear hret hl; first | (simp [shF, *]; done) | (simp only [shF, *]; rw [if_neg (by omega)]; simp)) dX0_shimFault_62
      · replace c_6 := bI_n0 c_6
        refine lv_iload hx hb dX0_shimFault_38 (lv_at hl 4 rfl) ?_
        refine lv_iload_n hx hb dX0_shimFault_40 rfl (lv_at hl 3 rfl) ?_
        refine lv_sipush (v := 999) hx hb dX0_shimFault_41 (by decide) ?_
        refine ro_SN S hkx (mX5_isWithin l (v := z) (x := x) (z := 999)) gX0_shimFault_X5_isWithin_n61 rfl hkx.2.2.2.1 nX5 tX5_isWithin idX5_isWithin.2 ⟨Nat.le_of_ble_eq_true rfl, Nat.le_of_ble_eq_true rfl⟩ rfl hl.1 rfl (Nat.le_of_ble_eq_true rfl) dX0_shimFault_44 ⟨Nat.le_of_ble_eq_true rfl, Nat.le_of_ble_eq_true rfl⟩ (fun r_7 hr_7 => ?_)
        subst hr_7
        refine lv_if_eq (tgt := 61) hx hb dX0_shimFault_47 (by decide) (fun c_8 => ?_) (fun c_8 => ?_)
        · replace c_8 := bI_e0 c_8
          refine lv_iconst (v := 2) hx hb dX0_shimFault_61 (by decide) ?_
          exact hret _ _ _ (show 2 = shF N f v x z q from by
              clear hret hl; first | (simp [shF, *]; done) | (simp only [shF, *]; rw [if_neg (by omega)]; simp)) dX0_shimFault_62
        · replace c_8 := bI_n0 c_8
          refine lv_iload hx hb dX0_shimFault_50 (lv_at hl 5 rfl) ?_
          refine lv_iconst (v := 1) hx hb dX0_shimFault_52 (by decide) ?_
          refine lv_bipush (v := 99) hx hb dX0_shimFault_53 (by decide) ?_
          refine ro_SN S hkx (mX5_isWithin l (v := q) (x := 1) (z := 99)) gX0_shimFault_X5_isWithin_n61 rfl hkx.2.2.2.1 nX5 tX5_isWithin idX5_isWithin.2 ⟨Nat.le_of_ble_eq_true rfl, Nat.le_of_ble_eq_true rfl⟩ rfl hl.1 rfl (Nat.le_of_ble_eq_true rfl) dX0_shimFault_55 ⟨Nat.le_of_ble_eq_true rfl, Nat.le_of_ble_eq_true rfl⟩ (fun r_9 hr_9 => ?_)
          subst hr_9
          refine lv_if_ne (tgt := 63) hx hb dX0_shimFault_58 (by decide) (fun c_10 => ?_) (fun c_10 => ?_)
          · replace c_10 := bI_n0 c_10
            refine lv_aload_n hx hb dX0_shimFault_63 rfl (lv_at hl 0 rfl) ?_
            refine va_get (D := G) (ci := 0) (C := RX0) (T := TX0) (N := 4) hx hb hts iX0 hown hkx.1 hP 0 rfl rfl 3 (by decide) k32 (fun _ h9 => h9) rfl dX0_shimFault_64 ?_
            refine va_get (D := G) (ci := 2) (C := RX2) (T := TX2) (N := 6) hx hb hts iX2 hown hkx.1 hP 13 rfl rfl 0 (by decide) k75 (fun _ h9 => h9) rfl dX0_shimFault_67 ?_
            refine lv_bipush (v := 12) hx hb dX0_shimFault_70 (by decide) ?_
            refine lv_icmp_ge (tgt := 79) hx hb dX0_shimFault_72 (by decide) (fun c_11 => ?_) (fun c_11 => ?_)
            · replace c_11 := cn_le (a := 12) (b := (N 3)) (by omega) (by omega) c_11
              refine lv_iconst (v := 3) hx hb dX0_shimFault_79 (by decide) ?_
              exact hret _ _ _ (show 3 = shF N f v x z q from by
                  clear hret hl; first | (simp [shF, *]; done) | (simp only [shF, *]; rw [if_neg (by omega)]; simp)) dX0_shimFault_80
            · replace c_11 := cn_nle (a := 12) (b := (N 3)) (by omega) (by omega) c_11
              refine lv_iconst (v := 0) hx hb dX0_shimFault_75 (by decide) ?_
              refine lv_goto (tgt := 80) hx hb dX0_shimFault_76 (by decide) ?_
              exact hret _ _ _ (show 0 = shF N f v x z q from by
                  clear hret hl; first | (simp [shF, *]; done) | (simp only [shF, *]; rw [if_neg (by omega)]; simp)) dX0_shimFault_80
          · replace c_10 := bI_e0 c_10
            refine lv_iconst (v := 2) hx hb dX0_shimFault_61 (by decide) ?_
            exact hret _ _ _ (show 2 = shF N f v x z q from by
                clear hret hl; first | (simp [shF, *]; done) | (simp only [shF, *]; rw [if_neg (by omega)]; simp)) dX0_shimFault_62
    · replace c_4 := bI_e0 c_4
      refine lv_iconst (v := 1) hx hb dX0_shimFault_25 (by decide) ?_
      exact hret _ _ _ (show 1 = shF N f v x z q from by
          clear hret hl; first | (simp [shF, *]; done) | (simp only [shF, *]; rw [if_neg (by omega)]; simp)) dX0_shimFault_26

theorem idX0_dropFault : yX0_dropFault.cls = RX0 ∧ yX0_dropFault.cls ≠ "java/lang/invoke/MethodHandle" ∧ yX0_dropFault.cls ≠ "java/lang/invoke/VarHandle" ∧ (parseMethodDescriptor yX0_dropFault.desc).map (fun d => d.parameters.length) = some 1 := by decide +kernel

set_option maxHeartbeats 4000000 in
set_option maxRecDepth 100000 in
theorem mX0_dropFault (l : Launch) {G : va_G} {T : Nat → ClassId} {H : Heap} {a : Nat → Nat} {N : Nat → Nat} {Z : Nat → Nat → Int32} {t : Int32} (hP : va_P G vwCl (wCal T a N Z) H) : ro l yX0_dropFault wsX0_dropFault 1 21 [.ref (a 0), .int t] G T H (fun r => r = drF N t) := by
  refine ro_of (cc := cX0_dropFault) (maxL := 2) (ret := .int) (own := RX0) (by decide +kernel) rfl rfl (Nat.le_of_ble_eq_true rfl) (fun v _ => vp_nar_int v) ?_
  intro p e s m below meth c Q ls S hkx hl hret
  obtain ⟨hx, hb, hml, hown, hts⟩ := id S
  have hl : lv_has ls 2 [(0, .ref (a 0)), (1, .int t)] := hl
  have k32 := hts (.fieldLink RX0 32 "SunsetDates$Calendar" "shims" "LSunsetDates$Shims;") (by decide +kernel)
  have iX0 : ∀ w ∈ wsX00, w ∈ wsX0_dropFault := by decide +kernel
  have k75 := hts (.fieldLink RX0 75 "SunsetDates$Shims" "count" "I") (by decide +kernel)
  have iX2 : ∀ w ∈ wsX20, w ∈ wsX0_dropFault := by decide +kernel
  have nX5 := hts (.initialized RX5) (by decide +kernel)
  have tX5_isThere := hts (.static yX5_isThere) (by decide +kernel)
  refine lv_iload_n hx hb dX0_dropFault_0 rfl (lv_at hl 1 rfl) ?_
  refine lv_aload_n hx hb dX0_dropFault_1 rfl (lv_at hl 0 rfl) ?_
  refine va_get (D := G) (ci := 0) (C := RX0) (T := TX0) (N := 4) hx hb hts iX0 hown hkx.1 hP 0 rfl rfl 3 (by decide) k32 (fun _ h9 => h9) rfl dX0_dropFault_2 ?_
  refine va_get (D := G) (ci := 2) (C := RX2) (T := TX2) (N := 6) hx hb hts iX2 hown hkx.1 hP 13 rfl rfl 0 (by decide) k75 (fun _ h9 => h9) rfl dX0_dropFault_5 ?_
  refine ro_SN S hkx (mX5_isThere l (i := t) (n := (nI (N 3)))) gX0_dropFault_X5_isThere_n58 rfl hkx.2.2.1 nX5 tX5_isThere idX5_isThere.2 ⟨Nat.le_of_ble_eq_true rfl, Nat.le_of_ble_eq_true rfl⟩ rfl hl.1 rfl (Nat.le_of_ble_eq_true rfl) dX0_dropFault_8 ⟨Nat.le_of_ble_eq_true rfl, Nat.le_of_ble_eq_true rfl⟩ (fun r_1 hr_1 => ?_)
  subst hr_1
  refine lv_if_eq (tgt := 18) hx hb dX0_dropFault_11 (by decide) (fun c_2 => ?_) (fun c_2 => ?_)
  · replace c_2 := bI_e0 c_2
    refine lv_iconst (v := 1) hx hb dX0_dropFault_18 (by decide) ?_
    exact hret _ _ _ (show 1 = drF N t from by
        simp [drF, *]) dX0_dropFault_19
  · replace c_2 := bI_n0 c_2
    refine lv_iconst (v := 0) hx hb dX0_dropFault_14 (by decide) ?_
    refine lv_goto (tgt := 19) hx hb dX0_dropFault_15 (by decide) ?_
    exact hret _ _ _ (show 0 = drF N t from by
        simp [drF, *]) dX0_dropFault_19

theorem idX0_ofVersion : yX0_ofVersion.cls = RX0 ∧ yX0_ofVersion.cls ≠ "java/lang/invoke/MethodHandle" ∧ yX0_ofVersion.cls ≠ "java/lang/invoke/VarHandle" ∧ (parseMethodDescriptor yX0_ofVersion.desc).map (fun d => d.parameters.length) = some 2 := by decide +kernel

set_option maxHeartbeats 4000000 in
set_option maxRecDepth 100000 in
theorem mX0_ofVersion (l : Launch) {G : va_G} {T : Nat → ClassId} {H : Heap} {a : Nat → Nat} {N : Nat → Nat} {Z : Nat → Nat → Int32} {v : Nat} {w : Nat} (hP : va_P G vwCl (wCal T a N Z) H) (hv : v < 8) (hs : N 3 ≤ 12) (hw : w ≤ 4) : ro l yX0_ofVersion wsX0_ofVersion 1 23 [.ref (a 0), .int (nI v), .int (nI w)] G T H (fun r => r = ofV N Z v w) := by
  refine ro_of (cc := cX0_ofVersion) (maxL := 3) (ret := .int) (own := RX0) (by decide +kernel) rfl rfl (Nat.le_of_ble_eq_true rfl) (fun v _ => vp_nar_int v) ?_
  intro p e s m below meth c Q ls S hkx hl hret
  obtain ⟨hx, hb, hml, hown, hts⟩ := id S
  have hl : lv_has ls 3 [(0, .ref (a 0)), (1, .int (nI v)), (2, .int (nI w))] := hl
  have k12 := hts (.fieldLink RX0 12 "SunsetDates$Calendar" "versions" "LSunsetDates$Versions;") (by decide +kernel)
  have iX0 : ∀ w ∈ wsX00, w ∈ wsX0_ofVersion := by decide +kernel
  have k76 := hts (.fieldLink RX0 76 "SunsetDates$Versions" "release" "[I") (by decide +kernel)
  have iX4 : ∀ w ∈ wsX40, w ∈ wsX0_ofVersion := by decide +kernel
  have k72 := hts (.fieldLink RX0 72 "SunsetDates$Versions" "end" "[I") (by decide +kernel)
  have k53 := hts (.fieldLink RX0 53 "SunsetDates$Versions" "features" "[I") (by decide +kernel)
  have k79 := hts (.fieldLink RX0 79 "SunsetDates$Versions" "extended" "[I") (by decide +kernel)
  have k32 := hts (.fieldLink RX0 32 "SunsetDates$Calendar" "shims" "LSunsetDates$Shims;") (by decide +kernel)
  refine lv_iload_n hx hb dX0_ofVersion_0 rfl (lv_at hl 2 rfl) ?_
  rcases (show w = 0 ∨ w = 1 ∨ w = 2 ∨ w = 3 ∨ w = 4 by omega) with rfl | rfl | rfl | rfl | rfl
  · refine lv_tableIn (off := 31) (tgt := 32) hx hb dX0_ofVersion_1 (by decide) (by decide) rfl (by decide) ?_
    refine lv_aload_n hx hb dX0_ofVersion_32 rfl (lv_at hl 0 rfl) ?_
    refine va_get (D := G) (ci := 0) (C := RX0) (T := TX0) (N := 4) hx hb hts iX0 hown hkx.1 hP 0 rfl rfl 0 (by decide) k12 (fun _ h9 => h9) rfl dX0_ofVersion_33 ?_
    refine va_get (D := G) (ci := 4) (C := RX4) (T := TX4) (N := 5) hx hb hts iX4 hown hkx.1 hP 1 rfl rfl 1 (by decide) k76 (fun _ h9 => h9) rfl dX0_ofVersion_36 ?_
    refine lv_iload_n hx hb dX0_ofVersion_39 rfl (lv_at hl 1 rfl) ?_
    refine ia hx hb hkx hP 2 rfl v rfl (by omega) (by decide) dX0_ofVersion_40 ?_
    exact hret _ _ _ (show (Z 1 v) = ofV N Z v 0 from rfl) dX0_ofVersion_41
  · refine lv_tableIn (off := 41) (tgt := 42) hx hb dX0_ofVersion_1 (by decide) (by decide) rfl (by decide) ?_
    refine lv_aload_n hx hb dX0_ofVersion_42 rfl (lv_at hl 0 rfl) ?_
    refine va_get (D := G) (ci := 0) (C := RX0) (T := TX0) (N := 4) hx hb hts iX0 hown hkx.1 hP 0 rfl rfl 0 (by decide) k12 (fun _ h9 => h9) rfl dX0_ofVersion_43 ?_
    refine va_get (D := G) (ci := 4) (C := RX4) (T := TX4) (N := 5) hx hb hts iX4 hown hkx.1 hP 1 rfl rfl 2 (by decide) k72 (fun _ h9 => h9) rfl dX0_ofVersion_46 ?_
    refine lv_iload_n hx hb dX0_ofVersion_49 rfl (lv_at hl 1 rfl) ?_
    refine ia hx hb hkx hP 3 rfl v rfl (by omega) (by decide) dX0_ofVersion_50 ?_
    exact hret _ _ _ (show (Z 2 v) = ofV N Z v 1 from rfl) dX0_ofVersion_51
  · refine lv_tableIn (off := 51) (tgt := 52) hx hb dX0_ofVersion_1 (by decide) (by decide) rfl (by decide) ?_
    refine lv_aload_n hx hb dX0_ofVersion_52 rfl (lv_at hl 0 rfl) ?_
    refine va_get (D := G) (ci := 0) (C := RX0) (T := TX0) (N := 4) hx hb hts iX0 hown hkx.1 hP 0 rfl rfl 0 (by decide) k12 (fun _ h9 => h9) rfl dX0_ofVersion_53 ?_
    refine va_get (D := G) (ci := 4) (C := RX4) (T := TX4) (N := 5) hx hb hts iX4 hown hkx.1 hP 1 rfl rfl 4 (by decide) k53 (fun _ h9 => h9) rfl dX0_ofVersion_56 ?_
    refine lv_iload_n hx hb dX0_ofVersion_59 rfl (lv_at hl 1 rfl) ?_
    refine ia hx hb hkx hP 5 rfl v rfl (by omega) (by decide) dX0_ofVersion_60 ?_
    exact hret _ _ _ (show (Z 4 v) = ofV N Z v 2 from rfl) dX0_ofVersion_61
  · refine lv_tableIn (off := 61) (tgt := 62) hx hb dX0_ofVersion_1 (by decide) (by decide) rfl (by decide) ?_
    refine lv_aload_n hx hb dX0_ofVersion_62 rfl (lv_at hl 0 rfl) ?_
    refine va_get (D := G) (ci := 0) (C := RX0) (T := TX0) (N := 4) hx hb hts iX0 hown hkx.1 hP 0 rfl rfl 0 (by decide) k12 (fun _ h9 => h9) rfl dX0_ofVersion_63 ?_
    refine va_get (D := G) (ci := 4) (C := RX4) (T := TX4) (N := 5) hx hb hts iX4 hown hkx.1 hP 1 rfl rfl 3 (by decide) k79 (fun _ h9 => h9) rfl dX0_ofVersion_66 ?_
    refine lv_iload_n hx hb dX0_ofVersion_69 rfl (lv_at hl 1 rfl) ?_
    refine ia hx hb hkx hP 4 rfl v rfl (by omega) (by decide) dX0_ofVersion_70 ?_
    exact hret _ _ _ (show (Z 3 v) = ofV N Z v 3 from rfl) dX0_ofVersion_71
  · refine lv_tableOut (tgt := 72) hx hb dX0_ofVersion_1 (Or.inr (by decide)) (by decide) ?_
    refine lv_aload_n hx hb dX0_ofVersion_72 rfl (lv_at hl 0 rfl) ?_
    refine va_get (D := G) (ci := 0) (C := RX0) (T := TX0) (N := 4) hx hb hts iX0 hown hkx.1 hP 0 rfl rfl 3 (by decide) k32 (fun _ h9 => h9) rfl dX0_ofVersion_73 ?_
    refine lv_iload_n hx hb dX0_ofVersion_76 rfl (lv_at hl 1 rfl) ?_
    refine ro_V S hkx (mX2_countFor l (x := (nI v)) (hP := hP) (hs := (by omega))) gX0_ofVersion_X2_countFor rfl idX2_countFor ⟨Nat.le_of_ble_eq_true rfl, Nat.le_of_ble_eq_true rfl⟩ hP 13 rfl rfl rfl rfl hl.1 rfl (Nat.le_of_ble_eq_true rfl) dX0_ofVersion_77 ⟨Nat.le_of_ble_eq_true rfl, Nat.le_of_ble_eq_true rfl⟩ (fun r_1 hr_1 => ?_)
    subst hr_1
    exact hret _ _ _ (show (cntFor Z (nI v) (N 3)) = ofV N Z v 4 from rfl) dX0_ofVersion_80

theorem idX0_howServed : yX0_howServed.cls = RX0 ∧ yX0_howServed.cls ≠ "java/lang/invoke/MethodHandle" ∧ yX0_howServed.cls ≠ "java/lang/invoke/VarHandle" ∧ (parseMethodDescriptor yX0_howServed.desc).map (fun d => d.parameters.length) = some 3 := by decide +kernel

set_option maxHeartbeats 4000000 in
set_option maxRecDepth 100000 in
theorem mX0_howServed (l : Launch) {G : va_G} {T : Nat → ClassId} {H : Heap} {a : Nat → Nat} {N : Nat → Nat} {Z : Nat → Nat → Int32} {u : Nat} {f : Int32} {d : Int32} (hP : va_P G vwCl (wCal T a N Z) H) (hwf : wf N Z) (hu : u < N 2) : ro l yX0_howServed wsX0_howServed 2 47 [.ref (a 0), .int (nI u), .int f, .int d] G T H (fun r => r = hsv N Z u f d) := by
  refine ro_of (cc := cX0_howServed) (maxL := 5) (ret := .int) (own := RX0) (by decide +kernel) rfl rfl (Nat.le_of_ble_eq_true rfl) (fun v _ => vp_nar_int v) ?_
  intro p e s m below meth c Q ls S hkx hl hret
  obtain ⟨hx, hb, hml, hown, hts⟩ := id S
  have hl : lv_has ls 5 [(0, .ref (a 0)), (1, .int (nI u)), (2, .int f), (3, .int d)] := hl
  have k25 := hts (.fieldLink RX0 25 "SunsetDates$Calendar" "users" "LSunsetDates$Users;") (by decide +kernel)
  have iX0 : ∀ w ∈ wsX00, w ∈ wsX0_howServed := by decide +kernel
  have k99 := hts (.fieldLink RX0 99 "SunsetDates$Users" "uses" "[I") (by decide +kernel)
  have iX3 : ∀ w ∈ wsX30, w ∈ wsX0_howServed := by decide +kernel
  have nX5 := hts (.initialized RX5) (by decide +kernel)
  have tX5_contains := hts (.static yX5_contains) (by decide +kernel)
  have k12 := hts (.fieldLink RX0 12 "SunsetDates$Calendar" "versions" "LSunsetDates$Versions;") (by decide +kernel)
  have k76 := hts (.fieldLink RX0 76 "SunsetDates$Versions" "release" "[I") (by decide +kernel)
  have iX4 : ∀ w ∈ wsX40, w ∈ wsX0_howServed := by decide +kernel
  have k72 := hts (.fieldLink RX0 72 "SunsetDates$Versions" "end" "[I") (by decide +kernel)
  have k53 := hts (.fieldLink RX0 53 "SunsetDates$Versions" "features" "[I") (by decide +kernel)
  have k32 := hts (.fieldLink RX0 32 "SunsetDates$Calendar" "shims" "LSunsetDates$Shims;") (by decide +kernel)
  have hb2 := hwf.1
  refine lv_aload_n hx hb dX0_howServed_0 rfl (lv_at hl 0 rfl) ?_
  refine va_get (D := G) (ci := 0) (C := RX0) (T := TX0) (N := 4) hx hb hts iX0 hown hkx.1 hP 0 rfl rfl 2 (by decide) k25 (fun _ h9 => h9) rfl dX0_howServed_1 ?_
  refine va_get (D := G) (ci := 3) (C := RX3) (T := TX3) (N := 7) hx hb hts iX3 hown hkx.1 hP 6 rfl rfl 2 (by decide) k99 (fun _ h9 => h9) rfl dX0_howServed_4 ?_
  refine lv_iload_n hx hb dX0_howServed_7 rfl (lv_at hl 1 rfl) ?_
  refine ia hx hb hkx hP 8 rfl u rfl (by omega) (by decide) dX0_howServed_8 ?_
  refine lv_iload_n hx hb dX0_howServed_9 rfl (lv_at hl 2 rfl) ?_
  refine ro_SN S hkx (mX5_contains l (x := (Z 6 u)) (k := f)) gX0_howServed_X5_contains_n49 rfl hkx.2.1 nX5 tX5_contains idX5_contains.2 ⟨Nat.le_of_ble_eq_true rfl, Nat.le_of_ble_eq_true rfl⟩ rfl hl.1 rfl (Nat.le_of_ble_eq_true rfl) dX0_howServed_10 ⟨Nat.le_of_ble_eq_true rfl, Nat.le_of_ble_eq_true rfl⟩ (fun r_1 hr_1 => ?_)
  subst hr_1
  refine lv_if_ne (tgt := 18) hx hb dX0_howServed_13 (by decide) (fun c_2 => ?_) (fun c_2 => ?_)
  · replace c_2 := bI_n0 c_2
    refine lv_aload_n hx hb dX0_howServed_18 rfl (lv_at hl 0 rfl) ?_
    refine va_get (D := G) (ci := 0) (C := RX0) (T := TX0) (N := 4) hx hb hts iX0 hown hkx.1 hP 0 rfl rfl 2 (by decide) k25 (fun _ h9 => h9) rfl dX0_howServed_19 ?_
    refine lv_iload_n hx hb dX0_howServed_22 rfl (lv_at hl 1 rfl) ?_
    refine lv_iload_n hx hb dX0_howServed_23 rfl (lv_at hl 3 rfl) ?_
    refine ro_V S hkx (mX3_placeOn l (u := u) (d := d) (hP := hP) (hwf := hwf) (hu := (by omega))) gX0_howServed_X3_placeOn rfl idX3_placeOn ⟨Nat.le_of_ble_eq_true rfl, Nat.le_of_ble_eq_true rfl⟩ hP 6 rfl rfl rfl rfl hl.1 rfl (Nat.le_of_ble_eq_true rfl) dX0_howServed_24 ⟨Nat.le_of_ble_eq_true rfl, Nat.le_of_ble_eq_true rfl⟩ (fun r_3 hr_3 => ?_)
    subst hr_3
    have ho := (on_spec hwf (show u < N 2 by omega) d).2
    refine lv_istore (lv' := [(4, .int (nI (onN Z u d))), (0, .ref (a 0)), (1, .int (nI u)), (2, .int f), (3, .int d)]) hx hb dX0_howServed_27 hl (by decide) rfl (fun ls hl => ?_)
    refine lv_iload_n hx hb dX0_howServed_29 rfl (lv_at hl 4 rfl) ?_
    refine lv_aload_n hx hb dX0_howServed_30 rfl (lv_at hl 1 rfl) ?_
    refine va_get (D := G) (ci := 0) (C := RX0) (T := TX0) (N := 4) hx hb hts iX0 hown hkx.1 hP 0 rfl rfl 0 (by decide) k12 (fun _ h9 => h9) rfl dX0_howServed_31 ?_
    refine va_get (D := G) (ci := 4) (C := RX4) (T := TX4) (N := 5) hx hb hts iX4 hown hkx.1 hP 1 rfl rfl 1 (by decide) k76 (fun _ h9 => h9) rfl dX0_howServed_34 ?_
    refine lv_iload hx hb dX0_howServed_37 (lv_at hl 0 rfl) ?_
    refine ia hx hb hkx hP 2 rfl (onN Z u d) rfl (by omega) (by decide) dX0_howServed_39 ?_
    refine lv_icmp_ge (tgt := 45) hx hb dX0_howServed_40 (by decide) (fun c_4 => ?_) (fun c_4 => ?_)
    · have c_4n := Int32.not_lt.mpr c_4
      refine lv_iload_n hx hb dX0_howServed_45 rfl (lv_at hl 4 rfl) ?_
      refine lv_aload_n hx hb dX0_howServed_46 rfl (lv_at hl 1 rfl) ?_
      refine va_get (D := G) (ci := 0) (C := RX0) (T := TX0) (N := 4) hx hb hts iX0 hown hkx.1 hP 0 rfl rfl 0 (by decide) k12 (fun _ h9 => h9) rfl dX0_howServed_47 ?_
      refine va_get (D := G) (ci := 4) (C := RX4) (T := TX4) (N := 5) hx hb hts iX4 hown hkx.1 hP 1 rfl rfl 2 (by decide) k72 (fun _ h9 => h9) rfl dX0_howServed_50 ?_
      refine lv_iload hx hb dX0_howServed_53 (lv_at hl 0 rfl) ?_
      refine ia hx hb hkx hP 3 rfl (onN Z u d) rfl (by omega) (by decide) dX0_howServed_55 ?_
      refine lv_icmp_lt (tgt := 61) hx hb dX0_howServed_56 (by decide) (fun c_5 => ?_) (fun c_5 => ?_)
      · have c_5n := Int32.not_le.mpr c_5
        refine lv_aload_n hx hb dX0_howServed_61 rfl (lv_at hl 1 rfl) ?_
        refine va_get (D := G) (ci := 0) (C := RX0) (T := TX0) (N := 4) hx hb hts iX0 hown hkx.1 hP 0 rfl rfl 0 (by decide) k12 (fun _ h9 => h9) rfl dX0_howServed_62 ?_
        refine va_get (D := G) (ci := 4) (C := RX4) (T := TX4) (N := 5) hx hb hts iX4 hown hkx.1 hP 1 rfl rfl 4 (by decide) k53 (fun _ h9 => h9) rfl dX0_howServed_65 ?_
        refine lv_iload hx hb dX0_howServed_68 (lv_at hl 0 rfl) ?_
        refine ia hx hb hkx hP 5 rfl (onN Z u d) rfl (by omega) (by decide) dX0_howServed_70 ?_
        refine lv_iload_n hx hb dX0_howServed_71 rfl (lv_at hl 3 rfl) ?_
        refine ro_SN S hkx (mX5_contains l (x := (Z 4 (onN Z u d))) (k := f)) gX0_howServed_X5_contains_n49 rfl hkx.2.1 nX5 tX5_contains idX5_contains.2 ⟨Nat.le_of_ble_eq_true rfl, Nat.le_of_ble_eq_true rfl⟩ rfl hl.1 rfl (Nat.le_of_ble_eq_true rfl) dX0_howServed_72 ⟨Nat.le_of_ble_eq_true rfl, Nat.le_of_ble_eq_true rfl⟩ (fun r_6 hr_6 => ?_)
        subst hr_6
        refine lv_if_eq (tgt := 80) hx hb dX0_howServed_75 (by decide) (fun c_7 => ?_) (fun c_7 => ?_)
        · replace c_7 := bI_e0 c_7
          refine lv_aload_n hx hb dX0_howServed_80 rfl (lv_at hl 1 rfl) ?_
          refine va_get (D := G) (ci := 0) (C := RX0) (T := TX0) (N := 4) hx hb hts iX0 hown hkx.1 hP 0 rfl rfl 3 (by decide) k32 (fun _ h9 => h9) rfl dX0_howServed_81 ?_
          refine lv_iload hx hb dX0_howServed_84 (lv_at hl 0 rfl) ?_
          refine lv_iload_n hx hb dX0_howServed_86 rfl (lv_at hl 4 rfl) ?_
          refine ro_V S hkx (mX2_activeFeatures l (x := (nI (onN Z u d))) (d := d) (hP := hP) (hs := (by omega))) gX0_howServed_X2_activeFeatures rfl idX2_activeFeatures ⟨Nat.le_of_ble_eq_true rfl, Nat.le_of_ble_eq_true rfl⟩ hP 13 rfl rfl rfl rfl hl.1 rfl (Nat.le_of_ble_eq_true rfl) dX0_howServed_87 ⟨Nat.le_of_ble_eq_true rfl, Nat.le_of_ble_eq_true rfl⟩ (fun r_8 hr_8 => ?_)
          subst hr_8
          refine lv_iload_n hx hb dX0_howServed_90 rfl (lv_at hl 3 rfl) ?_
          refine ro_SN S hkx (mX5_contains l (x := (actS Z (nI (onN Z u d)) d (N 3))) (k := f)) gX0_howServed_X5_contains_n49 rfl hkx.2.1 nX5 tX5_contains idX5_contains.2 ⟨Nat.le_of_ble_eq_true rfl, Nat.le_of_ble_eq_true rfl⟩ rfl hl.1 rfl (Nat.le_of_ble_eq_true rfl) dX0_howServed_91 ⟨Nat.le_of_ble_eq_true rfl, Nat.le_of_ble_eq_true rfl⟩ (fun r_9 hr_9 => ?_)
          subst hr_9
          refine lv_if_eq (tgt := 101) hx hb dX0_howServed_94 (by decide) (fun c_10 => ?_) (fun c_10 => ?_)
          · replace c_10 := bI_e0 c_10
            refine lv_iconst (v := 4) hx hb dX0_howServed_101 (by decide) ?_
            exact hret _ _ _ (show 4 = hsv N Z u f d from by
                clear hret hl; simp [hsv, *]) dX0_howServed_102
          · replace c_10 := bI_n0 c_10
            refine lv_iconst (v := 1) hx hb dX0_howServed_97 (by decide) ?_
            refine lv_goto (tgt := 102) hx hb dX0_howServed_98 (by decide) ?_
            exact hret _ _ _ (show 1 = hsv N Z u f d from by
                clear hret hl; simp [hsv, *]) dX0_howServed_102
        · replace c_7 := bI_n0 c_7
          refine lv_iconst (v := 0) hx hb dX0_howServed_78 (by decide) ?_
          exact hret _ _ _ (show 0 = hsv N Z u f d from by
              clear hret hl; simp [hsv, *]) dX0_howServed_79
      · have c_5n := Int32.not_lt.mp c_5
        refine lv_iconst (v := 3) hx hb dX0_howServed_59 (by decide) ?_
        exact hret _ _ _ (show 3 = hsv N Z u f d from by
            clear hret hl; simp [hsv, *]) dX0_howServed_60
    · have c_4n := Int32.not_le.mp c_4
      refine lv_iconst (v := 2) hx hb dX0_howServed_43 (by decide) ?_
      exact hret _ _ _ (show 2 = hsv N Z u f d from by
          clear hret hl; simp [hsv, *]) dX0_howServed_44
  · replace c_2 := bI_e0 c_2
    refine lv_iconst (v := 5) hx hb dX0_howServed_16 (by decide) ?_
    exact hret _ _ _ (show 5 = hsv N Z u f d from by
        clear hret hl; simp [hsv, *]) dX0_howServed_17

theorem idX0_unserved : yX0_unserved.cls = RX0 ∧ yX0_unserved.cls ≠ "java/lang/invoke/MethodHandle" ∧ yX0_unserved.cls ≠ "java/lang/invoke/VarHandle" ∧ (parseMethodDescriptor yX0_unserved.desc).map (fun d => d.parameters.length) = some 3 := by decide +kernel

set_option maxHeartbeats 4000000 in
set_option maxRecDepth 100000 in
theorem mX0_unserved (l : Launch) {G : va_G} {T : Nat → ClassId} {H : Heap} {a : Nat → Nat} {N : Nat → Nat} {Z : Nat → Nat → Int32} {x : Int32} {v : Nat} {d : Int32} (hP : va_P G vwCl (wCal T a N Z) H) (hv : v < 8) (hs : N 3 ≤ 12) : ro l yX0_unserved wsX0_unserved 2 47 [.ref (a 0), .int x, .int (nI v), .int d] G T H (fun r => r = uns N Z x v d) := by
  refine ro_of (cc := cX0_unserved) (maxL := 4) (ret := .int) (own := RX0) (by decide +kernel) rfl rfl (Nat.le_of_ble_eq_true rfl) (fun v _ => vp_nar_int v) ?_
  intro p e s m below meth c Q ls S hkx hl hret
  obtain ⟨hx, hb, hml, hown, hts⟩ := id S
  have hl : lv_has ls 4 [(0, .ref (a 0)), (1, .int x), (2, .int (nI v)), (3, .int d)] := hl
  have k12 := hts (.fieldLink RX0 12 "SunsetDates$Calendar" "versions" "LSunsetDates$Versions;") (by decide +kernel)
  have iX0 : ∀ w ∈ wsX00, w ∈ wsX0_unserved := by decide +kernel
  have k53 := hts (.fieldLink RX0 53 "SunsetDates$Versions" "features" "[I") (by decide +kernel)
  have iX4 : ∀ w ∈ wsX40, w ∈ wsX0_unserved := by decide +kernel
  have k32 := hts (.fieldLink RX0 32 "SunsetDates$Calendar" "shims" "LSunsetDates$Shims;") (by decide +kernel)
  refine lv_aload_n hx hb dX0_unserved_0 rfl (lv_at hl 0 rfl) ?_
  refine va_get (D := G) (ci := 0) (C := RX0) (T := TX0) (N := 4) hx hb hts iX0 hown hkx.1 hP 0 rfl rfl 0 (by decide) k12 (fun _ h9 => h9) rfl dX0_unserved_1 ?_
  refine lv_iload_n hx hb dX0_unserved_4 rfl (lv_at hl 2 rfl) ?_
  refine lv_iload_n hx hb dX0_unserved_5 rfl (lv_at hl 3 rfl) ?_
  refine ro_V S hkx (mX4_isAlive l (k := v) (d := d) (hP := hP) (hk := (by omega))) gX0_unserved_X4_isAlive rfl idX4_isAlive ⟨Nat.le_of_ble_eq_true rfl, Nat.le_of_ble_eq_true rfl⟩ hP 1 rfl rfl rfl rfl hl.1 rfl (Nat.le_of_ble_eq_true rfl) dX0_unserved_6 ⟨Nat.le_of_ble_eq_true rfl, Nat.le_of_ble_eq_true rfl⟩ (fun r_1 hr_1 => ?_)
  subst hr_1
  refine lv_if_ne (tgt := 14) hx hb dX0_unserved_9 (by decide) (fun c_2 => ?_) (fun c_2 => ?_)
  · replace c_2 := bI_n0 c_2
    refine lv_iload_n hx hb dX0_unserved_14 rfl (lv_at hl 1 rfl) ?_
    refine lv_aload_n hx hb dX0_unserved_15 rfl (lv_at hl 0 rfl) ?_
    refine va_get (D := G) (ci := 0) (C := RX0) (T := TX0) (N := 4) hx hb hts iX0 hown hkx.1 hP 0 rfl rfl 0 (by decide) k12 (fun _ h9 => h9) rfl dX0_unserved_16 ?_
    refine va_get (D := G) (ci := 4) (C := RX4) (T := TX4) (N := 5) hx hb hts iX4 hown hkx.1 hP 1 rfl rfl 4 (by decide) k53 (fun _ h9 => h9) rfl dX0_unserved_19 ?_
    refine lv_iload_n hx hb dX0_unserved_22 rfl (lv_at hl 2 rfl) ?_
    refine ia hx hb hkx hP 5 rfl v rfl (by omega) (by decide) dX0_unserved_23 ?_
    refine lv_aload_n hx hb dX0_unserved_24 rfl (lv_at hl 0 rfl) ?_
    refine va_get (D := G) (ci := 0) (C := RX0) (T := TX0) (N := 4) hx hb hts iX0 hown hkx.1 hP 0 rfl rfl 3 (by decide) k32 (fun _ h9 => h9) rfl dX0_unserved_25 ?_
    refine lv_iload_n hx hb dX0_unserved_28 rfl (lv_at hl 2 rfl) ?_
    refine lv_iload_n hx hb dX0_unserved_29 rfl (lv_at hl 3 rfl) ?_
    refine ro_V S hkx (mX2_activeFeatures l (x := (nI v)) (d := d) (hP := hP) (hs := (by omega))) gX0_unserved_X2_activeFeatures rfl idX2_activeFeatures ⟨Nat.le_of_ble_eq_true rfl, Nat.le_of_ble_eq_true rfl⟩ hP 13 rfl rfl rfl rfl hl.1 rfl (Nat.le_of_ble_eq_true rfl) dX0_unserved_30 ⟨Nat.le_of_ble_eq_true rfl, Nat.le_of_ble_eq_true rfl⟩ (fun r_3 hr_3 => ?_)
    subst hr_3
    refine lv_ior hx hb dX0_unserved_33 ?_
    refine lv_iconst (v := (-1)) hx hb dX0_unserved_34 (by decide) ?_
    refine lv_ixor hx hb dX0_unserved_35 ?_
    refine lv_iand hx hb dX0_unserved_36 ?_
    exact hret _ _ _ (show (x &&& (((Z 4 v) ||| (actS Z (nI v) d (N 3))) ^^^ (-1))) = uns N Z x v d from by
        clear hret hl; simp [uns, *]) dX0_unserved_37
  · replace c_2 := bI_e0 c_2
    refine lv_iload_n hx hb dX0_unserved_12 rfl (lv_at hl 1 rfl) ?_
    exact hret _ _ _ (show x = uns N Z x v d from by
        clear hret hl; simp [uns, *]) dX0_unserved_13

theorem idX0_unservedUses : yX0_unservedUses.cls = RX0 ∧ yX0_unservedUses.cls ≠ "java/lang/invoke/MethodHandle" ∧ yX0_unservedUses.cls ≠ "java/lang/invoke/VarHandle" ∧ (parseMethodDescriptor yX0_unservedUses.desc).map (fun d => d.parameters.length) = some 2 := by decide +kernel

set_option maxHeartbeats 4000000 in
set_option maxRecDepth 100000 in
theorem mX0_unservedUses (l : Launch) {G : va_G} {T : Nat → ClassId} {H : Heap} {a : Nat → Nat} {N : Nat → Nat} {Z : Nat → Nat → Int32} {u : Nat} {d : Int32} (hP : va_P G vwCl (wCal T a N Z) H) (hwf : wf N Z) (hu : u < N 2) : ro l yX0_unservedUses wsX0_unservedUses 3 70 [.ref (a 0), .int (nI u), .int d] G T H (fun r => r = unU N Z u d) := by
  refine ro_of (cc := cX0_unservedUses) (maxL := 3) (ret := .int) (own := RX0) (by decide +kernel) rfl rfl (Nat.le_of_ble_eq_true rfl) (fun v _ => vp_nar_int v) ?_
  intro p e s m below meth c Q ls S hkx hl hret
  obtain ⟨hx, hb, hml, hown, hts⟩ := id S
  have hl : lv_has ls 3 [(0, .ref (a 0)), (1, .int (nI u)), (2, .int d)] := hl
  have k25 := hts (.fieldLink RX0 25 "SunsetDates$Calendar" "users" "LSunsetDates$Users;") (by decide +kernel)
  have iX0 : ∀ w ∈ wsX00, w ∈ wsX0_unservedUses := by decide +kernel
  have k99 := hts (.fieldLink RX0 99 "SunsetDates$Users" "uses" "[I") (by decide +kernel)
  have iX3 : ∀ w ∈ wsX30, w ∈ wsX0_unservedUses := by decide +kernel
  have hb2 := hwf.1
  refine lv_aload_n hx hb dX0_unservedUses_0 rfl (lv_at hl 0 rfl) ?_
  refine lv_aload_n hx hb dX0_unservedUses_1 rfl (lv_at hl 0 rfl) ?_
  refine va_get (D := G) (ci := 0) (C := RX0) (T := TX0) (N := 4) hx hb hts iX0 hown hkx.1 hP 0 rfl rfl 2 (by decide) k25 (fun _ h9 => h9) rfl dX0_unservedUses_2 ?_
  refine va_get (D := G) (ci := 3) (C := RX3) (T := TX3) (N := 7) hx hb hts iX3 hown hkx.1 hP 6 rfl rfl 2 (by decide) k99 (fun _ h9 => h9) rfl dX0_unservedUses_5 ?_
  refine lv_iload_n hx hb dX0_unservedUses_8 rfl (lv_at hl 1 rfl) ?_
  refine ia hx hb hkx hP 8 rfl u rfl (by omega) (by decide) dX0_unservedUses_9 ?_
  refine lv_aload_n hx hb dX0_unservedUses_10 rfl (lv_at hl 0 rfl) ?_
  refine va_get (D := G) (ci := 0) (C := RX0) (T := TX0) (N := 4) hx hb hts iX0 hown hkx.1 hP 0 rfl rfl 2 (by decide) k25 (fun _ h9 => h9) rfl dX0_unservedUses_11 ?_
  refine lv_iload_n hx hb dX0_unservedUses_14 rfl (lv_at hl 1 rfl) ?_
  refine lv_iload_n hx hb dX0_unservedUses_15 rfl (lv_at hl 2 rfl) ?_
  refine ro_V S hkx (mX3_placeOn l (u := u) (d := d) (hP := hP) (hwf := hwf) (hu := (by omega))) gX0_unservedUses_X3_placeOn rfl idX3_placeOn ⟨Nat.le_of_ble_eq_true rfl, Nat.le_of_ble_eq_true rfl⟩ hP 6 rfl rfl rfl rfl hl.1 rfl (Nat.le_of_ble_eq_true rfl) dX0_unservedUses_16 ⟨Nat.le_of_ble_eq_true rfl, Nat.le_of_ble_eq_true rfl⟩ (fun r_1 hr_1 => ?_)
  subst hr_1
  have ho := (on_spec hwf (show u < N 2 by omega) d).2
  refine lv_iload_n hx hb dX0_unservedUses_19 rfl (lv_at hl 2 rfl) ?_
  refine ro_V S hkx (mX0_unserved l (x := (Z 6 u)) (v := (onN Z u d)) (d := d) (hP := hP) (hv := (by omega)) (hs := (by omega))) gX0_unservedUses_X0_unserved rfl idX0_unserved ⟨Nat.le_of_ble_eq_true rfl, Nat.le_of_ble_eq_true rfl⟩ hP 0 rfl rfl rfl rfl hl.1 rfl (Nat.le_of_ble_eq_true rfl) dX0_unservedUses_20 ⟨Nat.le_of_ble_eq_true rfl, Nat.le_of_ble_eq_true rfl⟩ (fun r_2 hr_2 => ?_)
  subst hr_2
  exact hret _ _ _ (show (uns N Z (Z 6 u) (onN Z u d) d) = unU N Z u d from rfl) dX0_unservedUses_23

theorem idX0_unservedCount : yX0_unservedCount.cls = RX0 ∧ yX0_unservedCount.cls ≠ "java/lang/invoke/MethodHandle" ∧ yX0_unservedCount.cls ≠ "java/lang/invoke/VarHandle" ∧ (parseMethodDescriptor yX0_unservedCount.desc).map (fun d => d.parameters.length) = some 1 := by decide +kernel

set_option maxHeartbeats 4000000 in
set_option maxRecDepth 100000 in
theorem mX0_unservedCount (l : Launch) {G : va_G} {T : Nat → ClassId} {H : Heap} {a : Nat → Nat} {N : Nat → Nat} {Z : Nat → Nat → Int32} {d : Int32} (hP : va_P G vwCl (wCal T a N Z) H) (hwf : wf N Z) : ro l yX0_unservedCount wsX0_unservedCount 4 92 [.ref (a 0), .int d] G T H (fun r => r = unC N Z d (N 2)) := by
  refine ro_of (cc := cX0_unservedCount) (maxL := 4) (ret := .int) (own := RX0) (by decide +kernel) rfl rfl (Nat.le_of_ble_eq_true rfl) (fun v _ => vp_nar_int v) ?_
  intro p e s m below meth c Q ls S hkx hl hret
  obtain ⟨hx, hb, hml, hown, hts⟩ := id S
  have hl : lv_has ls 4 [(0, .ref (a 0)), (1, .int d)] := hl
  have k25 := hts (.fieldLink RX0 25 "SunsetDates$Calendar" "users" "LSunsetDates$Users;") (by decide +kernel)
  have iX0 : ∀ w ∈ wsX00, w ∈ wsX0_unservedCount := by decide +kernel
  have k57 := hts (.fieldLink RX0 57 "SunsetDates$Users" "count" "I") (by decide +kernel)
  have iX3 : ∀ w ∈ wsX30, w ∈ wsX0_unservedCount := by decide +kernel
  have hb2 := hwf.1
  refine lv_iconst (v := 0) hx hb dX0_unservedCount_0 (by decide) ?_
  refine lv_istore_n (lv' := [(2, .int 0), (0, .ref (a 0)), (1, .int d)]) hx hb dX0_unservedCount_1 rfl hl (by decide) rfl (fun ls hl => ?_)
  refine lv_iconst (v := 0) hx hb dX0_unservedCount_2 (by decide) ?_
  refine lv_istore_n (lv' := [(3, .int 0), (2, .int 0), (0, .ref (a 0)), (1, .int d)]) hx hb dX0_unservedCount_3 rfl hl (by decide) rfl (fun ls hl => ?_)
  have L4 : ∀ (fuel : Nat) (k : Nat) (y : Int32), N 2 - k < fuel → k ≤ N 2 → y = unC N Z d k → ∀ ls : Array Slot, lv_has ls 4 [(0, .ref (a 0)), (1, .int d), (2, .int y), (3, .int (nI k))] → W p l e (rmo 4 92) s m ([.ref (a 0), .int d] : List Value).toArray below meth c H [] 0 0 Q (F0 m 4 ls []) := by
    intro fuel
    induction fuel with
    | zero => intro k y hm; exact absurd hm (Nat.not_lt_zero _)
    | succ fuel ih4 =>
      intro k y hm4 hk hy ls hl
      refine lv_iload_n hx hb dX0_unservedCount_4 rfl (lv_at hl 3 rfl) ?_
      refine lv_aload_n hx hb dX0_unservedCount_5 rfl (lv_at hl 0 rfl) ?_
      refine va_get (D := G) (ci := 0) (C := RX0) (T := TX0) (N := 4) hx hb hts iX0 hown hkx.1 hP 0 rfl rfl 2 (by decide) k25 (fun _ h9 => h9) rfl dX0_unservedCount_6 ?_
      refine va_get (D := G) (ci := 3) (C := RX3) (T := TX3) (N := 7) hx hb hts iX3 hown hkx.1 hP 6 rfl rfl 0 (by decide) k57 (fun _ h9 => h9) rfl dX0_unservedCount_9 ?_
      refine lv_icmp_ge (tgt := 33) hx hb dX0_unservedCount_12 (by decide) (fun c_1 => ?_) (fun c_1 => ?_)
      · replace c_1 := cn_le (a := (N 2)) (b := k) (by omega) (by omega) c_1
        refine lv_iload_n hx hb dX0_unservedCount_33 rfl (lv_at hl 2 rfl) ?_
        exact hret _ _ _ (show y = unC N Z d (N 2) from by
            rw [hy, show k = N 2 by omega]) dX0_unservedCount_34
      · replace c_1 := cn_nle (a := (N 2)) (b := k) (by omega) (by omega) c_1
        refine lv_iload_n hx hb dX0_unservedCount_15 rfl (lv_at hl 2 rfl) ?_
        refine lv_aload_n hx hb dX0_unservedCount_16 rfl (lv_at hl 0 rfl) ?_
        refine lv_iload_n hx hb dX0_unservedCount_17 rfl (lv_at hl 3 rfl) ?_
        refine lv_iload_n hx hb dX0_unservedCount_18 rfl (lv_at hl 1 rfl) ?_
        refine ro_V S hkx (mX0_unservedUses l (u := k) (d := d) (hP := hP) (hwf := hwf) (hu := (by omega))) gX0_unservedCount_X0_unservedUses rfl idX0_unservedUses ⟨Nat.le_of_ble_eq_true rfl, Nat.le_of_ble_eq_true rfl⟩ hP 0 rfl rfl rfl rfl hl.1 rfl (Nat.le_of_ble_eq_true rfl) dX0_unservedCount_19 ⟨Nat.le_of_ble_eq_true rfl, Nat.le_of_ble_eq_true rfl⟩ (fun r_2 hr_2 => ?_)
        subst hr_2
        refine ro_S S hkx (mJ6_bitCount_0f7a4 l (x := (unU N Z k d))) gX0_unservedCount_J6_bitCount_0f7a4 rfl idJ6_bitCount_0f7a4.2 ⟨Nat.le_of_ble_eq_true rfl, Nat.le_of_ble_eq_true rfl⟩ rfl hl.1 rfl (Nat.le_of_ble_eq_true rfl) dX0_unservedCount_22 ⟨Nat.le_of_ble_eq_true rfl, Nat.le_of_ble_eq_true rfl⟩ (fun r_3 hr_3 => ?_)
        subst hr_3
        refine lv_iadd hx hb dX0_unservedCount_25 ?_
        refine lv_istore_n (lv' := [(2, .int (y + (bc (unU N Z k d)))), (0, .ref (a 0)), (1, .int d), (3, .int (nI k))]) hx hb dX0_unservedCount_26 rfl hl (by decide) rfl (fun ls hl => ?_)
        refine lv_iinc (v := (nI (k + 1))) (lv' := [(3, .int (nI (k + 1))), (2, .int (y + (bc (unU N Z k d)))), (0, .ref (a 0)), (1, .int d)]) hx hb dX0_unservedCount_27 hl (k := 3) rfl (nI_inc k) (by decide) rfl (fun ls hl => ?_)
        refine lv_goto (tgt := 4) hx hb dX0_unservedCount_30 (by decide) ?_
        exact ih4 (k + 1) (y + (bc (unU N Z k d))) (by omega) (by omega) (by rw [hy]; first | rfl | (simp only [unC]; rw [if_pos (by assumption)]; done) | (simp only [unC]; rw [if_neg (Bool.eq_false_iff.mp (by assumption))]; done) | (simp only [unC]; rw [if_neg (by assumption)]; done) | (simp [unC, *]; done)) _ (lv_sub hl [2, 3, 1, 0] rfl)
  exact L4 _ 0 0 (Nat.lt_succ_self _) (by omega) (by rfl) _ (lv_sub hl [2, 3, 1, 0] rfl)

theorem idX0_strandedUsers : yX0_strandedUsers.cls = RX0 ∧ yX0_strandedUsers.cls ≠ "java/lang/invoke/MethodHandle" ∧ yX0_strandedUsers.cls ≠ "java/lang/invoke/VarHandle" ∧ (parseMethodDescriptor yX0_strandedUsers.desc).map (fun d => d.parameters.length) = some 1 := by decide +kernel

set_option maxHeartbeats 4000000 in
set_option maxRecDepth 100000 in
theorem mX0_strandedUsers (l : Launch) {G : va_G} {T : Nat → ClassId} {H : Heap} {a : Nat → Nat} {N : Nat → Nat} {Z : Nat → Nat → Int32} {d : Int32} (hP : va_P G vwCl (wCal T a N Z) H) (hwf : wf N Z) : ro l yX0_strandedUsers wsX0_strandedUsers 4 92 [.ref (a 0), .int d] G T H (fun r => r = stU N Z d (N 2)) := by
  refine ro_of (cc := cX0_strandedUsers) (maxL := 4) (ret := .int) (own := RX0) (by decide +kernel) rfl rfl (Nat.le_of_ble_eq_true rfl) (fun v _ => vp_nar_int v) ?_
  intro p e s m below meth c Q ls S hkx hl hret
  obtain ⟨hx, hb, hml, hown, hts⟩ := id S
  have hl : lv_has ls 4 [(0, .ref (a 0)), (1, .int d)] := hl
  have k25 := hts (.fieldLink RX0 25 "SunsetDates$Calendar" "users" "LSunsetDates$Users;") (by decide +kernel)
  have iX0 : ∀ w ∈ wsX00, w ∈ wsX0_strandedUsers := by decide +kernel
  have k57 := hts (.fieldLink RX0 57 "SunsetDates$Users" "count" "I") (by decide +kernel)
  have iX3 : ∀ w ∈ wsX30, w ∈ wsX0_strandedUsers := by decide +kernel
  have hb2 := hwf.1
  refine lv_iconst (v := 0) hx hb dX0_strandedUsers_0 (by decide) ?_
  refine lv_istore_n (lv' := [(2, .int 0), (0, .ref (a 0)), (1, .int d)]) hx hb dX0_strandedUsers_1 rfl hl (by decide) rfl (fun ls hl => ?_)
  refine lv_iconst (v := 0) hx hb dX0_strandedUsers_2 (by decide) ?_
  refine lv_istore_n (lv' := [(3, .int 0), (2, .int 0), (0, .ref (a 0)), (1, .int d)]) hx hb dX0_strandedUsers_3 rfl hl (by decide) rfl (fun ls hl => ?_)
  have L4 : ∀ (fuel : Nat) (k : Nat) (y : Int32), N 2 - k < fuel → k ≤ N 2 → y = stU N Z d k → ∀ ls : Array Slot, lv_has ls 4 [(0, .ref (a 0)), (1, .int d), (2, .int y), (3, .int (nI k))] → W p l e (rmo 4 92) s m ([.ref (a 0), .int d] : List Value).toArray below meth c H [] 0 0 Q (F0 m 4 ls []) := by
    intro fuel
    induction fuel with
    | zero => intro k y hm; exact absurd hm (Nat.not_lt_zero _)
    | succ fuel ih4 =>
      intro k y hm4 hk hy ls hl
      refine lv_iload_n hx hb dX0_strandedUsers_4 rfl (lv_at hl 3 rfl) ?_
      refine lv_aload_n hx hb dX0_strandedUsers_5 rfl (lv_at hl 0 rfl) ?_
      refine va_get (D := G) (ci := 0) (C := RX0) (T := TX0) (N := 4) hx hb hts iX0 hown hkx.1 hP 0 rfl rfl 2 (by decide) k25 (fun _ h9 => h9) rfl dX0_strandedUsers_6 ?_
      refine va_get (D := G) (ci := 3) (C := RX3) (T := TX3) (N := 7) hx hb hts iX3 hown hkx.1 hP 6 rfl rfl 0 (by decide) k57 (fun _ h9 => h9) rfl dX0_strandedUsers_9 ?_
      refine lv_icmp_ge (tgt := 36) hx hb dX0_strandedUsers_12 (by decide) (fun c_1 => ?_) (fun c_1 => ?_)
      · replace c_1 := cn_le (a := (N 2)) (b := k) (by omega) (by omega) c_1
        refine lv_iload_n hx hb dX0_strandedUsers_36 rfl (lv_at hl 2 rfl) ?_
        exact hret _ _ _ (show y = stU N Z d (N 2) from by
            rw [hy, show k = N 2 by omega]) dX0_strandedUsers_37
      · replace c_1 := cn_nle (a := (N 2)) (b := k) (by omega) (by omega) c_1
        refine lv_aload_n hx hb dX0_strandedUsers_15 rfl (lv_at hl 0 rfl) ?_
        refine lv_iload_n hx hb dX0_strandedUsers_16 rfl (lv_at hl 3 rfl) ?_
        refine lv_iload_n hx hb dX0_strandedUsers_17 rfl (lv_at hl 1 rfl) ?_
        refine ro_V S hkx (mX0_unservedUses l (u := k) (d := d) (hP := hP) (hwf := hwf) (hu := (by omega))) gX0_strandedUsers_X0_unservedUses rfl idX0_unservedUses ⟨Nat.le_of_ble_eq_true rfl, Nat.le_of_ble_eq_true rfl⟩ hP 0 rfl rfl rfl rfl hl.1 rfl (Nat.le_of_ble_eq_true rfl) dX0_strandedUsers_18 ⟨Nat.le_of_ble_eq_true rfl, Nat.le_of_ble_eq_true rfl⟩ (fun r_2 hr_2 => ?_)
        subst hr_2
        refine lv_if_eq (tgt := 30) hx hb dX0_strandedUsers_21 (by decide) (fun c_3 => ?_) (fun c_3 => ?_)
        · skip
          refine lv_iinc (v := (nI (k + 1))) (lv' := [(3, .int (nI (k + 1))), (0, .ref (a 0)), (1, .int d), (2, .int y)]) hx hb dX0_strandedUsers_30 hl (k := 3) rfl (nI_inc k) (by decide) rfl (fun ls hl => ?_)
          refine lv_goto (tgt := 4) hx hb dX0_strandedUsers_33 (by decide) ?_
          exact ih4 (k + 1) y (by omega) (by omega) (by rw [hy]; first | rfl | (simp only [stU]; rw [if_pos (by assumption)]; done) | (simp only [stU]; rw [if_neg (Bool.eq_false_iff.mp (by assumption))]; done) | (simp only [stU]; rw [if_neg (by assumption)]; done) | (simp [stU, *]; done)) _ (lv_sub hl [1, 2, 3, 0] rfl)
        · skip
          refine lv_iload_n hx hb dX0_strandedUsers_24 rfl (lv_at hl 2 rfl) ?_
          refine lv_iconst (v := 1) hx hb dX0_strandedUsers_25 (by decide) ?_
          refine lv_iload_n hx hb dX0_strandedUsers_26 rfl (lv_at hl 3 rfl) ?_
          refine lv_ishl hx hb dX0_strandedUsers_27 ?_
          refine lv_ior hx hb dX0_strandedUsers_28 ?_
          refine lv_istore_n (lv' := [(2, .int (y ||| (1 <<< ((nI k) &&& 31)))), (0, .ref (a 0)), (1, .int d), (3, .int (nI k))]) hx hb dX0_strandedUsers_29 rfl hl (by decide) rfl (fun ls hl => ?_)
          refine lv_iinc (v := (nI (k + 1))) (lv' := [(3, .int (nI (k + 1))), (2, .int (y ||| (1 <<< ((nI k) &&& 31)))), (0, .ref (a 0)), (1, .int d)]) hx hb dX0_strandedUsers_30 hl (k := 3) rfl (nI_inc k) (by decide) rfl (fun ls hl => ?_)
          refine lv_goto (tgt := 4) hx hb dX0_strandedUsers_33 (by decide) ?_
          exact ih4 (k + 1) (y ||| (1 <<< ((nI k) &&& 31))) (by omega) (by omega) (by rw [hy]; first | rfl | (simp only [stU]; rw [if_pos (by assumption)]; done) | (simp only [stU]; rw [if_neg (Bool.eq_false_iff.mp (by assumption))]; done) | (simp only [stU]; rw [if_neg (by assumption)]; done) | (simp [stU, *]; done)) _ (lv_sub hl [2, 3, 1, 0] rfl)
  exact L4 _ 0 0 (Nat.lt_succ_self _) (by omega) (by rfl) _ (lv_sub hl [2, 3, 1, 0] rfl)

theorem idX0_costOn : yX0_costOn.cls = RX0 ∧ yX0_costOn.cls ≠ "java/lang/invoke/MethodHandle" ∧ yX0_costOn.cls ≠ "java/lang/invoke/VarHandle" ∧ (parseMethodDescriptor yX0_costOn.desc).map (fun d => d.parameters.length) = some 3 := by decide +kernel

set_option maxHeartbeats 4000000 in
set_option maxRecDepth 100000 in
theorem mX0_costOn (l : Launch) {G : va_G} {T : Nat → ClassId} {H : Heap} {a : Nat → Nat} {N : Nat → Nat} {Z : Nat → Nat → Int32} {x : Int32} {v : Nat} {d : Int32} (hP : va_P G vwCl (wCal T a N Z) H) (hv : v < 8) (hs : N 3 ≤ 12) (hf : N 1 ≤ 10) : ro l yX0_costOn wsX0_costOn 2 48 [.ref (a 0), .int x, .int (nI v), .int d] G T H (fun r => r = cst N Z x v d) := by
  refine ro_of (cc := cX0_costOn) (maxL := 7) (ret := .int) (own := RX0) (by decide +kernel) rfl rfl (Nat.le_of_ble_eq_true rfl) (fun v _ => vp_nar_int v) ?_
  intro p e s m below meth c Q ls S hkx hl hret
  obtain ⟨hx, hb, hml, hown, hts⟩ := id S
  have hl : lv_has ls 7 [(0, .ref (a 0)), (1, .int x), (2, .int (nI v)), (3, .int d)] := hl
  have k12 := hts (.fieldLink RX0 12 "SunsetDates$Calendar" "versions" "LSunsetDates$Versions;") (by decide +kernel)
  have iX0 : ∀ w ∈ wsX00, w ∈ wsX0_costOn := by decide +kernel
  have k53 := hts (.fieldLink RX0 53 "SunsetDates$Versions" "features" "[I") (by decide +kernel)
  have iX4 : ∀ w ∈ wsX40, w ∈ wsX0_costOn := by decide +kernel
  have k18 := hts (.fieldLink RX0 18 "SunsetDates$Calendar" "featureCount" "I") (by decide +kernel)
  have nX5 := hts (.initialized RX5) (by decide +kernel)
  have tX5_contains := hts (.static yX5_contains) (by decide +kernel)
  have k32 := hts (.fieldLink RX0 32 "SunsetDates$Calendar" "shims" "LSunsetDates$Shims;") (by decide +kernel)
  refine lv_aload_n hx hb dX0_costOn_0 rfl (lv_at hl 0 rfl) ?_
  refine va_get (D := G) (ci := 0) (C := RX0) (T := TX0) (N := 4) hx hb hts iX0 hown hkx.1 hP 0 rfl rfl 0 (by decide) k12 (fun _ h9 => h9) rfl dX0_costOn_1 ?_
  refine lv_iload_n hx hb dX0_costOn_4 rfl (lv_at hl 2 rfl) ?_
  refine lv_iload_n hx hb dX0_costOn_5 rfl (lv_at hl 3 rfl) ?_
  refine ro_V S hkx (mX4_isAlive l (k := v) (d := d) (hP := hP) (hk := (by omega))) gX0_costOn_X4_isAlive rfl idX4_isAlive ⟨Nat.le_of_ble_eq_true rfl, Nat.le_of_ble_eq_true rfl⟩ hP 1 rfl rfl rfl rfl hl.1 rfl (Nat.le_of_ble_eq_true rfl) dX0_costOn_6 ⟨Nat.le_of_ble_eq_true rfl, Nat.le_of_ble_eq_true rfl⟩ (fun r_1 hr_1 => ?_)
  subst hr_1
  refine lv_if_ne (tgt := 14) hx hb dX0_costOn_9 (by decide) (fun c_2 => ?_) (fun c_2 => ?_)
  · replace c_2 := bI_n0 c_2
    refine lv_iload_n hx hb dX0_costOn_14 rfl (lv_at hl 1 rfl) ?_
    refine lv_aload_n hx hb dX0_costOn_15 rfl (lv_at hl 0 rfl) ?_
    refine va_get (D := G) (ci := 0) (C := RX0) (T := TX0) (N := 4) hx hb hts iX0 hown hkx.1 hP 0 rfl rfl 0 (by decide) k12 (fun _ h9 => h9) rfl dX0_costOn_16 ?_
    refine va_get (D := G) (ci := 4) (C := RX4) (T := TX4) (N := 5) hx hb hts iX4 hown hkx.1 hP 1 rfl rfl 4 (by decide) k53 (fun _ h9 => h9) rfl dX0_costOn_19 ?_
    refine lv_iload_n hx hb dX0_costOn_22 rfl (lv_at hl 2 rfl) ?_
    refine ia hx hb hkx hP 5 rfl v rfl (by omega) (by decide) dX0_costOn_23 ?_
    refine lv_iconst (v := (-1)) hx hb dX0_costOn_24 (by decide) ?_
    refine lv_ixor hx hb dX0_costOn_25 ?_
    refine lv_iand hx hb dX0_costOn_26 ?_
    refine lv_istore (lv' := [(4, .int (x &&& ((Z 4 v) ^^^ (-1)))), (0, .ref (a 0)), (1, .int x), (2, .int (nI v)), (3, .int d)]) hx hb dX0_costOn_27 hl (by decide) rfl (fun ls hl => ?_)
    refine lv_iconst (v := 0) hx hb dX0_costOn_29 (by decide) ?_
    refine lv_istore (lv' := [(5, .int 0), (4, .int (x &&& ((Z 4 v) ^^^ (-1)))), (0, .ref (a 0)), (1, .int x), (2, .int (nI v)), (3, .int d)]) hx hb dX0_costOn_30 hl (by decide) rfl (fun ls hl => ?_)
    refine lv_iconst (v := 0) hx hb dX0_costOn_32 (by decide) ?_
    refine lv_istore (lv' := [(6, .int 0), (5, .int 0), (4, .int (x &&& ((Z 4 v) ^^^ (-1)))), (0, .ref (a 0)), (1, .int x), (2, .int (nI v)), (3, .int d)]) hx hb dX0_costOn_33 hl (by decide) rfl (fun ls hl => ?_)
    have L35 : ∀ (fuel : Nat) (k : Nat) (y : Int32), N 1 - k < fuel → k ≤ N 1 → y = cfS N Z x v d k → ∀ ls : Array Slot, lv_has ls 7 [(0, .ref (a 0)), (1, .int x), (2, .int (nI v)), (3, .int d), (4, .int (x &&& ((Z 4 v) ^^^ (-1)))), (5, .int y), (6, .int (nI k))] → W p l e (rmo 2 48) s m ([.ref (a 0), .int x, .int (nI v), .int d] : List Value).toArray below meth c H [] 0 0 Q (F0 m 35 ls []) := by
      intro fuel
      induction fuel with
      | zero => intro k y hm; exact absurd hm (Nat.not_lt_zero _)
      | succ fuel ih35 =>
        intro k y hm35 hk hy ls hl
        refine lv_iload hx hb dX0_costOn_35 (lv_at hl 6 rfl) ?_
        refine lv_aload_n hx hb dX0_costOn_37 rfl (lv_at hl 0 rfl) ?_
        refine va_get (D := G) (ci := 0) (C := RX0) (T := TX0) (N := 4) hx hb hts iX0 hown hkx.1 hP 0 rfl rfl 1 (by decide) k18 (fun _ h9 => h9) rfl dX0_costOn_38 ?_
        refine lv_icmp_ge (tgt := 76) hx hb dX0_costOn_41 (by decide) (fun c_3 => ?_) (fun c_3 => ?_)
        · replace c_3 := cn_le (a := (N 1)) (b := k) (by omega) (by omega) c_3
          refine lv_iload hx hb dX0_costOn_76 (lv_at hl 5 rfl) ?_
          exact hret _ _ _ (show y = cst N Z x v d from by
              rw [show k = N 1 from by omega] at hy; simp [cst, *]) dX0_costOn_78
        · replace c_3 := cn_nle (a := (N 1)) (b := k) (by omega) (by omega) c_3
          refine lv_iload hx hb dX0_costOn_44 (lv_at hl 4 rfl) ?_
          refine lv_iload hx hb dX0_costOn_46 (lv_at hl 6 rfl) ?_
          refine ro_SN S hkx (mX5_contains l (x := (x &&& ((Z 4 v) ^^^ (-1)))) (k := (nI k))) gX0_costOn_X5_contains_n49 rfl hkx.2.1 nX5 tX5_contains idX5_contains.2 ⟨Nat.le_of_ble_eq_true rfl, Nat.le_of_ble_eq_true rfl⟩ rfl hl.1 rfl (Nat.le_of_ble_eq_true rfl) dX0_costOn_48 ⟨Nat.le_of_ble_eq_true rfl, Nat.le_of_ble_eq_true rfl⟩ (fun r_4 hr_4 => ?_)
          subst hr_4
          refine lv_if_eq (tgt := 70) hx hb dX0_costOn_51 (by decide) (fun c_5 => ?_) (fun c_5 => ?_)
          · replace c_5 := bI_e0 c_5
            refine lv_iinc (v := (nI (k + 1))) (lv' := [(6, .int (nI (k + 1))), (0, .ref (a 0)), (1, .int x), (2, .int (nI v)), (3, .int d), (4, .int (x &&& ((Z 4 v) ^^^ (-1)))), (5, .int y)]) hx hb dX0_costOn_70 hl (k := 6) rfl (nI_inc k) (by decide) rfl (fun ls hl => ?_)
            refine lv_goto (tgt := 35) hx hb dX0_costOn_73 (by decide) ?_
            exact ih35 (k + 1) y (by omega) (by omega) (by rw [hy]; first | rfl | (simp only [cfS]; rw [if_pos (by assumption)]; done) | (simp only [cfS]; rw [if_neg (Bool.eq_false_iff.mp (by assumption))]; done) | (simp only [cfS]; rw [if_neg (by assumption)]; done) | (simp [cfS, *]; done)) _ (lv_sub hl [1, 2, 3, 4, 5, 6, 0] rfl)
          · replace c_5 := bI_n0 c_5
            refine lv_iload hx hb dX0_costOn_54 (lv_at hl 5 rfl) ?_
            refine lv_aload_n hx hb dX0_costOn_56 rfl (lv_at hl 0 rfl) ?_
            refine va_get (D := G) (ci := 0) (C := RX0) (T := TX0) (N := 4) hx hb hts iX0 hown hkx.1 hP 0 rfl rfl 3 (by decide) k32 (fun _ h9 => h9) rfl dX0_costOn_57 ?_
            refine lv_iload hx hb dX0_costOn_60 (lv_at hl 6 rfl) ?_
            refine lv_iload_n hx hb dX0_costOn_62 rfl (lv_at hl 2 rfl) ?_
            refine lv_iload_n hx hb dX0_costOn_63 rfl (lv_at hl 3 rfl) ?_
            refine ro_V S hkx (mX2_lowestPrice l (f := (nI k)) (x := (nI v)) (d := d) (hP := hP) (hs := (by omega))) gX0_costOn_X2_lowestPrice rfl idX2_lowestPrice ⟨Nat.le_of_ble_eq_true rfl, Nat.le_of_ble_eq_true rfl⟩ hP 13 rfl rfl rfl rfl hl.1 rfl (Nat.le_of_ble_eq_true rfl) dX0_costOn_64 ⟨Nat.le_of_ble_eq_true rfl, Nat.le_of_ble_eq_true rfl⟩ (fun r_6 hr_6 => ?_)
            subst hr_6
            refine lv_iadd hx hb dX0_costOn_67 ?_
            refine lv_istore (lv' := [(5, .int (y + (lowP Z (nI k) (nI v) d (N 3)))), (0, .ref (a 0)), (1, .int x), (2, .int (nI v)), (3, .int d), (4, .int (x &&& ((Z 4 v) ^^^ (-1)))), (6, .int (nI k))]) hx hb dX0_costOn_68 hl (by decide) rfl (fun ls hl => ?_)
            refine lv_iinc (v := (nI (k + 1))) (lv' := [(6, .int (nI (k + 1))), (5, .int (y + (lowP Z (nI k) (nI v) d (N 3)))), (0, .ref (a 0)), (1, .int x), (2, .int (nI v)), (3, .int d), (4, .int (x &&& ((Z 4 v) ^^^ (-1))))]) hx hb dX0_costOn_70 hl (k := 6) rfl (nI_inc k) (by decide) rfl (fun ls hl => ?_)
            refine lv_goto (tgt := 35) hx hb dX0_costOn_73 (by decide) ?_
            exact ih35 (k + 1) (y + (lowP Z (nI k) (nI v) d (N 3))) (by omega) (by omega) (by rw [hy]; first | rfl | (simp only [cfS]; rw [if_pos (by assumption)]; done) | (simp only [cfS]; rw [if_neg (Bool.eq_false_iff.mp (by assumption))]; done) | (simp only [cfS]; rw [if_neg (by assumption)]; done) | (simp [cfS, *]; done)) _ (lv_sub hl [2, 3, 4, 5, 6, 1, 0] rfl)
    exact L35 _ 0 0 (Nat.lt_succ_self _) (by omega) (by rfl) _ (lv_sub hl [3, 4, 5, 6, 2, 1, 0] rfl)
  · replace c_2 := bI_e0 c_2
    refine lv_iconst (v := 0) hx hb dX0_costOn_12 (by decide) ?_
    exact hret _ _ _ (show 0 = cst N Z x v d from by
        clear hret hl; simp [cst, *]) dX0_costOn_13

theorem idX0_costOfAllOn : yX0_costOfAllOn.cls = RX0 ∧ yX0_costOfAllOn.cls ≠ "java/lang/invoke/MethodHandle" ∧ yX0_costOfAllOn.cls ≠ "java/lang/invoke/VarHandle" ∧ (parseMethodDescriptor yX0_costOfAllOn.desc).map (fun d => d.parameters.length) = some 1 := by decide +kernel

set_option maxHeartbeats 4000000 in
set_option maxRecDepth 100000 in
theorem mX0_costOfAllOn (l : Launch) {G : va_G} {T : Nat → ClassId} {H : Heap} {a : Nat → Nat} {N : Nat → Nat} {Z : Nat → Nat → Int32} {d : Int32} (hP : va_P G vwCl (wCal T a N Z) H) (hwf : wf N Z) : ro l yX0_costOfAllOn wsX0_costOfAllOn 3 74 [.ref (a 0), .int d] G T H (fun r => r = cAl N Z d (N 2)) := by
  refine ro_of (cc := cX0_costOfAllOn) (maxL := 4) (ret := .int) (own := RX0) (by decide +kernel) rfl rfl (Nat.le_of_ble_eq_true rfl) (fun v _ => vp_nar_int v) ?_
  intro p e s m below meth c Q ls S hkx hl hret
  obtain ⟨hx, hb, hml, hown, hts⟩ := id S
  have hl : lv_has ls 4 [(0, .ref (a 0)), (1, .int d)] := hl
  have k25 := hts (.fieldLink RX0 25 "SunsetDates$Calendar" "users" "LSunsetDates$Users;") (by decide +kernel)
  have iX0 : ∀ w ∈ wsX00, w ∈ wsX0_costOfAllOn := by decide +kernel
  have k57 := hts (.fieldLink RX0 57 "SunsetDates$Users" "count" "I") (by decide +kernel)
  have iX3 : ∀ w ∈ wsX30, w ∈ wsX0_costOfAllOn := by decide +kernel
  have k99 := hts (.fieldLink RX0 99 "SunsetDates$Users" "uses" "[I") (by decide +kernel)
  have hb2 := hwf.1
  refine lv_iconst (v := 0) hx hb dX0_costOfAllOn_0 (by decide) ?_
  refine lv_istore_n (lv' := [(2, .int 0), (0, .ref (a 0)), (1, .int d)]) hx hb dX0_costOfAllOn_1 rfl hl (by decide) rfl (fun ls hl => ?_)
  refine lv_iconst (v := 0) hx hb dX0_costOfAllOn_2 (by decide) ?_
  refine lv_istore_n (lv' := [(3, .int 0), (2, .int 0), (0, .ref (a 0)), (1, .int d)]) hx hb dX0_costOfAllOn_3 rfl hl (by decide) rfl (fun ls hl => ?_)
  have L4 : ∀ (fuel : Nat) (k : Nat) (y : Int32), N 2 - k < fuel → k ≤ N 2 → y = cAl N Z d k → ∀ ls : Array Slot, lv_has ls 4 [(0, .ref (a 0)), (1, .int d), (2, .int y), (3, .int (nI k))] → W p l e (rmo 3 74) s m ([.ref (a 0), .int d] : List Value).toArray below meth c H [] 0 0 Q (F0 m 4 ls []) := by
    intro fuel
    induction fuel with
    | zero => intro k y hm; exact absurd hm (Nat.not_lt_zero _)
    | succ fuel ih4 =>
      intro k y hm4 hk hy ls hl
      refine lv_iload_n hx hb dX0_costOfAllOn_4 rfl (lv_at hl 3 rfl) ?_
      refine lv_aload_n hx hb dX0_costOfAllOn_5 rfl (lv_at hl 0 rfl) ?_
      refine va_get (D := G) (ci := 0) (C := RX0) (T := TX0) (N := 4) hx hb hts iX0 hown hkx.1 hP 0 rfl rfl 2 (by decide) k25 (fun _ h9 => h9) rfl dX0_costOfAllOn_6 ?_
      refine va_get (D := G) (ci := 3) (C := RX3) (T := TX3) (N := 7) hx hb hts iX3 hown hkx.1 hP 6 rfl rfl 0 (by decide) k57 (fun _ h9 => h9) rfl dX0_costOfAllOn_9 ?_
      refine lv_icmp_ge (tgt := 47) hx hb dX0_costOfAllOn_12 (by decide) (fun c_1 => ?_) (fun c_1 => ?_)
      · replace c_1 := cn_le (a := (N 2)) (b := k) (by omega) (by omega) c_1
        refine lv_iload_n hx hb dX0_costOfAllOn_47 rfl (lv_at hl 2 rfl) ?_
        exact hret _ _ _ (show y = cAl N Z d (N 2) from by
            rw [hy, show k = N 2 by omega]) dX0_costOfAllOn_48
      · replace c_1 := cn_nle (a := (N 2)) (b := k) (by omega) (by omega) c_1
        refine lv_iload_n hx hb dX0_costOfAllOn_15 rfl (lv_at hl 2 rfl) ?_
        refine lv_aload_n hx hb dX0_costOfAllOn_16 rfl (lv_at hl 0 rfl) ?_
        refine lv_aload_n hx hb dX0_costOfAllOn_17 rfl (lv_at hl 0 rfl) ?_
        refine va_get (D := G) (ci := 0) (C := RX0) (T := TX0) (N := 4) hx hb hts iX0 hown hkx.1 hP 0 rfl rfl 2 (by decide) k25 (fun _ h9 => h9) rfl dX0_costOfAllOn_18 ?_
        refine va_get (D := G) (ci := 3) (C := RX3) (T := TX3) (N := 7) hx hb hts iX3 hown hkx.1 hP 6 rfl rfl 2 (by decide) k99 (fun _ h9 => h9) rfl dX0_costOfAllOn_21 ?_
        refine lv_iload_n hx hb dX0_costOfAllOn_24 rfl (lv_at hl 3 rfl) ?_
        refine ia hx hb hkx hP 8 rfl k rfl (by omega) (by decide) dX0_costOfAllOn_25 ?_
        refine lv_aload_n hx hb dX0_costOfAllOn_26 rfl (lv_at hl 0 rfl) ?_
        refine va_get (D := G) (ci := 0) (C := RX0) (T := TX0) (N := 4) hx hb hts iX0 hown hkx.1 hP 0 rfl rfl 2 (by decide) k25 (fun _ h9 => h9) rfl dX0_costOfAllOn_27 ?_
        refine lv_iload_n hx hb dX0_costOfAllOn_30 rfl (lv_at hl 3 rfl) ?_
        refine lv_iload_n hx hb dX0_costOfAllOn_31 rfl (lv_at hl 1 rfl) ?_
        refine ro_V S hkx (mX3_placeOn l (u := k) (d := d) (hP := hP) (hwf := hwf) (hu := (by omega))) gX0_costOfAllOn_X3_placeOn rfl idX3_placeOn ⟨Nat.le_of_ble_eq_true rfl, Nat.le_of_ble_eq_true rfl⟩ hP 6 rfl rfl rfl rfl hl.1 rfl (Nat.le_of_ble_eq_true rfl) dX0_costOfAllOn_32 ⟨Nat.le_of_ble_eq_true rfl, Nat.le_of_ble_eq_true rfl⟩ (fun r_2 hr_2 => ?_)
        subst hr_2
        have ho := (on_spec hwf (show k < N 2 by omega) d).2
        refine lv_iload_n hx hb dX0_costOfAllOn_35 rfl (lv_at hl 1 rfl) ?_
        refine ro_V S hkx (mX0_costOn l (x := (Z 6 k)) (v := (onN Z k d)) (d := d) (hP := hP) (hv := (by omega)) (hs := (by omega)) (hf := (by omega))) gX0_costOfAllOn_X0_costOn rfl idX0_costOn ⟨Nat.le_of_ble_eq_true rfl, Nat.le_of_ble_eq_true rfl⟩ hP 0 rfl rfl rfl rfl hl.1 rfl (Nat.le_of_ble_eq_true rfl) dX0_costOfAllOn_36 ⟨Nat.le_of_ble_eq_true rfl, Nat.le_of_ble_eq_true rfl⟩ (fun r_3 hr_3 => ?_)
        subst hr_3
        refine lv_iadd hx hb dX0_costOfAllOn_39 ?_
        refine lv_istore_n (lv' := [(2, .int (y + (cst N Z (Z 6 k) (onN Z k d) d))), (0, .ref (a 0)), (1, .int d), (3, .int (nI k))]) hx hb dX0_costOfAllOn_40 rfl hl (by decide) rfl (fun ls hl => ?_)
        refine lv_iinc (v := (nI (k + 1))) (lv' := [(3, .int (nI (k + 1))), (2, .int (y + (cst N Z (Z 6 k) (onN Z k d) d))), (0, .ref (a 0)), (1, .int d)]) hx hb dX0_costOfAllOn_41 hl (k := 3) rfl (nI_inc k) (by decide) rfl (fun ls hl => ?_)
        refine lv_goto (tgt := 4) hx hb dX0_costOfAllOn_44 (by decide) ?_
        exact ih4 (k + 1) (y + (cst N Z (Z 6 k) (onN Z k d) d)) (by omega) (by omega) (by rw [hy]; first | rfl | (simp only [cAl]; rw [if_pos (by assumption)]; done) | (simp only [cAl]; rw [if_neg (Bool.eq_false_iff.mp (by assumption))]; done) | (simp only [cAl]; rw [if_neg (by assumption)]; done) | (simp [cAl, *]; done)) _ (lv_sub hl [2, 3, 1, 0] rfl)
  exact L4 _ 0 0 (Nat.lt_succ_self _) (by omega) (by rfl) _ (lv_sub hl [2, 3, 1, 0] rfl)

theorem idX0_lackingOn : yX0_lackingOn.cls = RX0 ∧ yX0_lackingOn.cls ≠ "java/lang/invoke/MethodHandle" ∧ yX0_lackingOn.cls ≠ "java/lang/invoke/VarHandle" ∧ (parseMethodDescriptor yX0_lackingOn.desc).map (fun d => d.parameters.length) = some 2 := by decide +kernel

set_option maxHeartbeats 4000000 in
set_option maxRecDepth 100000 in
theorem mX0_lackingOn (l : Launch) {G : va_G} {T : Nat → ClassId} {H : Heap} {a : Nat → Nat} {N : Nat → Nat} {Z : Nat → Nat → Int32} {v : Nat} {d : Int32} (hP : va_P G vwCl (wCal T a N Z) H) (hwf : wf N Z) (hv : v < 8) : ro l yX0_lackingOn wsX0_lackingOn 4 92 [.ref (a 0), .int (nI v), .int d] G T H (fun r => r = lak N Z v d (N 2)) := by
  refine ro_of (cc := cX0_lackingOn) (maxL := 5) (ret := .int) (own := RX0) (by decide +kernel) rfl rfl (Nat.le_of_ble_eq_true rfl) (fun v _ => vp_nar_int v) ?_
  intro p e s m below meth c Q ls S hkx hl hret
  obtain ⟨hx, hb, hml, hown, hts⟩ := id S
  have hl : lv_has ls 5 [(0, .ref (a 0)), (1, .int (nI v)), (2, .int d)] := hl
  have k25 := hts (.fieldLink RX0 25 "SunsetDates$Calendar" "users" "LSunsetDates$Users;") (by decide +kernel)
  have iX0 : ∀ w ∈ wsX00, w ∈ wsX0_lackingOn := by decide +kernel
  have k57 := hts (.fieldLink RX0 57 "SunsetDates$Users" "count" "I") (by decide +kernel)
  have iX3 : ∀ w ∈ wsX30, w ∈ wsX0_lackingOn := by decide +kernel
  have hb2 := hwf.1
  refine lv_iconst (v := 0) hx hb dX0_lackingOn_0 (by decide) ?_
  refine lv_istore_n (lv' := [(3, .int 0), (0, .ref (a 0)), (1, .int (nI v)), (2, .int d)]) hx hb dX0_lackingOn_1 rfl hl (by decide) rfl (fun ls hl => ?_)
  refine lv_iconst (v := 0) hx hb dX0_lackingOn_2 (by decide) ?_
  refine lv_istore (lv' := [(4, .int 0), (3, .int 0), (0, .ref (a 0)), (1, .int (nI v)), (2, .int d)]) hx hb dX0_lackingOn_3 hl (by decide) rfl (fun ls hl => ?_)
  have L5 : ∀ (fuel : Nat) (k : Nat) (y : Int32), N 2 - k < fuel → k ≤ N 2 → y = lak N Z v d k → ∀ ls : Array Slot, lv_has ls 5 [(0, .ref (a 0)), (1, .int (nI v)), (2, .int d), (3, .int y), (4, .int (nI k))] → W p l e (rmo 4 92) s m ([.ref (a 0), .int (nI v), .int d] : List Value).toArray below meth c H [] 0 0 Q (F0 m 5 ls []) := by
    intro fuel
    induction fuel with
    | zero => intro k y hm; exact absurd hm (Nat.not_lt_zero _)
    | succ fuel ih5 =>
      intro k y hm5 hk hy ls hl
      refine lv_iload hx hb dX0_lackingOn_5 (lv_at hl 4 rfl) ?_
      refine lv_aload_n hx hb dX0_lackingOn_7 rfl (lv_at hl 0 rfl) ?_
      refine va_get (D := G) (ci := 0) (C := RX0) (T := TX0) (N := 4) hx hb hts iX0 hown hkx.1 hP 0 rfl rfl 2 (by decide) k25 (fun _ h9 => h9) rfl dX0_lackingOn_8 ?_
      refine va_get (D := G) (ci := 3) (C := RX3) (T := TX3) (N := 7) hx hb hts iX3 hown hkx.1 hP 6 rfl rfl 0 (by decide) k57 (fun _ h9 => h9) rfl dX0_lackingOn_11 ?_
      refine lv_icmp_ge (tgt := 47) hx hb dX0_lackingOn_14 (by decide) (fun c_1 => ?_) (fun c_1 => ?_)
      · replace c_1 := cn_le (a := (N 2)) (b := k) (by omega) (by omega) c_1
        refine lv_iload_n hx hb dX0_lackingOn_47 rfl (lv_at hl 3 rfl) ?_
        exact hret _ _ _ (show y = lak N Z v d (N 2) from by
            rw [hy, show k = N 2 by omega]) dX0_lackingOn_48
      · replace c_1 := cn_nle (a := (N 2)) (b := k) (by omega) (by omega) c_1
        refine lv_aload_n hx hb dX0_lackingOn_17 rfl (lv_at hl 0 rfl) ?_
        refine va_get (D := G) (ci := 0) (C := RX0) (T := TX0) (N := 4) hx hb hts iX0 hown hkx.1 hP 0 rfl rfl 2 (by decide) k25 (fun _ h9 => h9) rfl dX0_lackingOn_18 ?_
        refine lv_iload hx hb dX0_lackingOn_21 (lv_at hl 4 rfl) ?_
        refine lv_iload_n hx hb dX0_lackingOn_23 rfl (lv_at hl 2 rfl) ?_
        refine ro_V S hkx (mX3_placeOn l (u := k) (d := d) (hP := hP) (hwf := hwf) (hu := (by omega))) gX0_lackingOn_X3_placeOn rfl idX3_placeOn ⟨Nat.le_of_ble_eq_true rfl, Nat.le_of_ble_eq_true rfl⟩ hP 6 rfl rfl rfl rfl hl.1 rfl (Nat.le_of_ble_eq_true rfl) dX0_lackingOn_24 ⟨Nat.le_of_ble_eq_true rfl, Nat.le_of_ble_eq_true rfl⟩ (fun r_2 hr_2 => ?_)
        subst hr_2
        have ho := (on_spec hwf (show k < N 2 by omega) d).2
        refine lv_iload_n hx hb dX0_lackingOn_27 rfl (lv_at hl 1 rfl) ?_
        refine lv_icmp_ne (tgt := 41) hx hb dX0_lackingOn_28 (by decide) (fun c_3 => ?_) (fun c_3 => ?_)
        · replace c_3 := cn_ne (a := (onN Z k d)) (b := v) (by omega) (by omega) c_3
          refine lv_iinc (v := (nI (k + 1))) (lv' := [(4, .int (nI (k + 1))), (0, .ref (a 0)), (1, .int (nI v)), (2, .int d), (3, .int y)]) hx hb dX0_lackingOn_41 hl (k := 4) rfl (nI_inc k) (by decide) rfl (fun ls hl => ?_)
          refine lv_goto (tgt := 5) hx hb dX0_lackingOn_44 (by decide) ?_
          exact ih5 (k + 1) y (by omega) (by omega) (by rw [hy]; first | rfl | (simp only [lak]; rw [if_pos (by assumption)]; done) | (simp only [lak]; rw [if_neg (Bool.eq_false_iff.mp (by assumption))]; done) | (simp only [lak]; rw [if_neg (by assumption)]; done) | (simp [lak, *]; done)) _ (lv_sub hl [1, 2, 3, 4, 0] rfl)
        · replace c_3 := cn_eq (a := (onN Z k d)) (b := v) (by omega) (by omega) c_3
          refine lv_iload_n hx hb dX0_lackingOn_31 rfl (lv_at hl 3 rfl) ?_
          refine lv_aload_n hx hb dX0_lackingOn_32 rfl (lv_at hl 0 rfl) ?_
          refine lv_iload hx hb dX0_lackingOn_33 (lv_at hl 4 rfl) ?_
          refine lv_iload_n hx hb dX0_lackingOn_35 rfl (lv_at hl 2 rfl) ?_
          refine ro_V S hkx (mX0_unservedUses l (u := k) (d := d) (hP := hP) (hwf := hwf) (hu := (by omega))) gX0_lackingOn_X0_unservedUses rfl idX0_unservedUses ⟨Nat.le_of_ble_eq_true rfl, Nat.le_of_ble_eq_true rfl⟩ hP 0 rfl rfl rfl rfl hl.1 rfl (Nat.le_of_ble_eq_true rfl) dX0_lackingOn_36 ⟨Nat.le_of_ble_eq_true rfl, Nat.le_of_ble_eq_true rfl⟩ (fun r_4 hr_4 => ?_)
          subst hr_4
          refine lv_ior hx hb dX0_lackingOn_39 ?_
          refine lv_istore_n (lv' := [(3, .int (y ||| (unU N Z k d))), (0, .ref (a 0)), (1, .int (nI v)), (2, .int d), (4, .int (nI k))]) hx hb dX0_lackingOn_40 rfl hl (by decide) rfl (fun ls hl => ?_)
          refine lv_iinc (v := (nI (k + 1))) (lv' := [(4, .int (nI (k + 1))), (3, .int (y ||| (unU N Z k d))), (0, .ref (a 0)), (1, .int (nI v)), (2, .int d)]) hx hb dX0_lackingOn_41 hl (k := 4) rfl (nI_inc k) (by decide) rfl (fun ls hl => ?_)
          refine lv_goto (tgt := 5) hx hb dX0_lackingOn_44 (by decide) ?_
          exact ih5 (k + 1) (y ||| (unU N Z k d)) (by omega) (by omega) (by rw [hy]; first | rfl | (simp only [lak]; rw [if_pos (by assumption)]; done) | (simp only [lak]; rw [if_neg (Bool.eq_false_iff.mp (by assumption))]; done) | (simp only [lak]; rw [if_neg (by assumption)]; done) | (simp [lak, *]; done)) _ (lv_sub hl [2, 3, 4, 1, 0] rfl)
  exact L5 _ 0 0 (Nat.lt_succ_self _) (by omega) (by rfl) _ (lv_sub hl [2, 3, 4, 1, 0] rfl)

theorem idX0_pairsLacking : yX0_pairsLacking.cls = RX0 ∧ yX0_pairsLacking.cls ≠ "java/lang/invoke/MethodHandle" ∧ yX0_pairsLacking.cls ≠ "java/lang/invoke/VarHandle" ∧ (parseMethodDescriptor yX0_pairsLacking.desc).map (fun d => d.parameters.length) = some 1 := by decide +kernel

set_option maxHeartbeats 4000000 in
set_option maxRecDepth 100000 in
theorem mX0_pairsLacking (l : Launch) {G : va_G} {T : Nat → ClassId} {H : Heap} {a : Nat → Nat} {N : Nat → Nat} {Z : Nat → Nat → Int32} {d : Int32} (hP : va_P G vwCl (wCal T a N Z) H) (hwf : wf N Z) : ro l yX0_pairsLacking wsX0_pairsLacking 5 116 [.ref (a 0), .int d] G T H (fun r => r = prs N Z d (N 0)) := by
  refine ro_of (cc := cX0_pairsLacking) (maxL := 4) (ret := .int) (own := RX0) (by decide +kernel) rfl rfl (Nat.le_of_ble_eq_true rfl) (fun v _ => vp_nar_int v) ?_
  intro p e s m below meth c Q ls S hkx hl hret
  obtain ⟨hx, hb, hml, hown, hts⟩ := id S
  have hl : lv_has ls 4 [(0, .ref (a 0)), (1, .int d)] := hl
  have k12 := hts (.fieldLink RX0 12 "SunsetDates$Calendar" "versions" "LSunsetDates$Versions;") (by decide +kernel)
  have iX0 : ∀ w ∈ wsX00, w ∈ wsX0_pairsLacking := by decide +kernel
  have k46 := hts (.fieldLink RX0 46 "SunsetDates$Versions" "count" "I") (by decide +kernel)
  have iX4 : ∀ w ∈ wsX40, w ∈ wsX0_pairsLacking := by decide +kernel
  have hb2 := hwf.1
  refine lv_iconst (v := 0) hx hb dX0_pairsLacking_0 (by decide) ?_
  refine lv_istore_n (lv' := [(2, .int 0), (0, .ref (a 0)), (1, .int d)]) hx hb dX0_pairsLacking_1 rfl hl (by decide) rfl (fun ls hl => ?_)
  refine lv_iconst (v := 0) hx hb dX0_pairsLacking_2 (by decide) ?_
  refine lv_istore_n (lv' := [(3, .int 0), (2, .int 0), (0, .ref (a 0)), (1, .int d)]) hx hb dX0_pairsLacking_3 rfl hl (by decide) rfl (fun ls hl => ?_)
  have L4 : ∀ (fuel : Nat) (k : Nat) (y : Int32), N 0 - k < fuel → k ≤ N 0 → y = prs N Z d k → ∀ ls : Array Slot, lv_has ls 4 [(0, .ref (a 0)), (1, .int d), (2, .int y), (3, .int (nI k))] → W p l e (rmo 5 116) s m ([.ref (a 0), .int d] : List Value).toArray below meth c H [] 0 0 Q (F0 m 4 ls []) := by
    intro fuel
    induction fuel with
    | zero => intro k y hm; exact absurd hm (Nat.not_lt_zero _)
    | succ fuel ih4 =>
      intro k y hm4 hk hy ls hl
      refine lv_iload_n hx hb dX0_pairsLacking_4 rfl (lv_at hl 3 rfl) ?_
      refine lv_aload_n hx hb dX0_pairsLacking_5 rfl (lv_at hl 0 rfl) ?_
      refine va_get (D := G) (ci := 0) (C := RX0) (T := TX0) (N := 4) hx hb hts iX0 hown hkx.1 hP 0 rfl rfl 0 (by decide) k12 (fun _ h9 => h9) rfl dX0_pairsLacking_6 ?_
      refine va_get (D := G) (ci := 4) (C := RX4) (T := TX4) (N := 5) hx hb hts iX4 hown hkx.1 hP 1 rfl rfl 0 (by decide) k46 (fun _ h9 => h9) rfl dX0_pairsLacking_9 ?_
      refine lv_icmp_ge (tgt := 45) hx hb dX0_pairsLacking_12 (by decide) (fun c_1 => ?_) (fun c_1 => ?_)
      · replace c_1 := cn_le (a := (N 0)) (b := k) (by omega) (by omega) c_1
        refine lv_iload_n hx hb dX0_pairsLacking_45 rfl (lv_at hl 2 rfl) ?_
        exact hret _ _ _ (show y = prs N Z d (N 0) from by
            rw [hy, show k = N 0 by omega]) dX0_pairsLacking_46
      · replace c_1 := cn_nle (a := (N 0)) (b := k) (by omega) (by omega) c_1
        refine lv_aload_n hx hb dX0_pairsLacking_15 rfl (lv_at hl 0 rfl) ?_
        refine va_get (D := G) (ci := 0) (C := RX0) (T := TX0) (N := 4) hx hb hts iX0 hown hkx.1 hP 0 rfl rfl 0 (by decide) k12 (fun _ h9 => h9) rfl dX0_pairsLacking_16 ?_
        refine lv_iload_n hx hb dX0_pairsLacking_19 rfl (lv_at hl 3 rfl) ?_
        refine lv_iload_n hx hb dX0_pairsLacking_20 rfl (lv_at hl 1 rfl) ?_
        refine ro_V S hkx (mX4_isAlive l (k := k) (d := d) (hP := hP) (hk := (by omega))) gX0_pairsLacking_X4_isAlive rfl idX4_isAlive ⟨Nat.le_of_ble_eq_true rfl, Nat.le_of_ble_eq_true rfl⟩ hP 1 rfl rfl rfl rfl hl.1 rfl (Nat.le_of_ble_eq_true rfl) dX0_pairsLacking_21 ⟨Nat.le_of_ble_eq_true rfl, Nat.le_of_ble_eq_true rfl⟩ (fun r_2 hr_2 => ?_)
        subst hr_2
        refine lv_if_eq (tgt := 39) hx hb dX0_pairsLacking_24 (by decide) (fun c_3 => ?_) (fun c_3 => ?_)
        · replace c_3 := bI_e0 c_3
          refine lv_iinc (v := (nI (k + 1))) (lv' := [(3, .int (nI (k + 1))), (0, .ref (a 0)), (1, .int d), (2, .int y)]) hx hb dX0_pairsLacking_39 hl (k := 3) rfl (nI_inc k) (by decide) rfl (fun ls hl => ?_)
          refine lv_goto (tgt := 4) hx hb dX0_pairsLacking_42 (by decide) ?_
          exact ih4 (k + 1) y (by omega) (by omega) (by rw [hy]; first | rfl | (simp only [prs]; rw [if_pos (by assumption)]; done) | (simp only [prs]; rw [if_neg (Bool.eq_false_iff.mp (by assumption))]; done) | (simp only [prs]; rw [if_neg (by assumption)]; done) | (simp [prs, *]; done)) _ (lv_sub hl [1, 2, 3, 0] rfl)
        · replace c_3 := bI_n0 c_3
          refine lv_iload_n hx hb dX0_pairsLacking_27 rfl (lv_at hl 2 rfl) ?_
          refine lv_aload_n hx hb dX0_pairsLacking_28 rfl (lv_at hl 0 rfl) ?_
          refine lv_iload_n hx hb dX0_pairsLacking_29 rfl (lv_at hl 3 rfl) ?_
          refine lv_iload_n hx hb dX0_pairsLacking_30 rfl (lv_at hl 1 rfl) ?_
          refine ro_V S hkx (mX0_lackingOn l (v := k) (d := d) (hP := hP) (hwf := hwf) (hv := (by omega))) gX0_pairsLacking_X0_lackingOn rfl idX0_lackingOn ⟨Nat.le_of_ble_eq_true rfl, Nat.le_of_ble_eq_true rfl⟩ hP 0 rfl rfl rfl rfl hl.1 rfl (Nat.le_of_ble_eq_true rfl) dX0_pairsLacking_31 ⟨Nat.le_of_ble_eq_true rfl, Nat.le_of_ble_eq_true rfl⟩ (fun r_4 hr_4 => ?_)
          subst hr_4
          refine ro_S S hkx (mJ6_bitCount_0f7a4 l (x := (lak N Z k d (N 2)))) gX0_pairsLacking_J6_bitCount_0f7a4 rfl idJ6_bitCount_0f7a4.2 ⟨Nat.le_of_ble_eq_true rfl, Nat.le_of_ble_eq_true rfl⟩ rfl hl.1 rfl (Nat.le_of_ble_eq_true rfl) dX0_pairsLacking_34 ⟨Nat.le_of_ble_eq_true rfl, Nat.le_of_ble_eq_true rfl⟩ (fun r_5 hr_5 => ?_)
          subst hr_5
          refine lv_iadd hx hb dX0_pairsLacking_37 ?_
          refine lv_istore_n (lv' := [(2, .int (y + (bc (lak N Z k d (N 2))))), (0, .ref (a 0)), (1, .int d), (3, .int (nI k))]) hx hb dX0_pairsLacking_38 rfl hl (by decide) rfl (fun ls hl => ?_)
          refine lv_iinc (v := (nI (k + 1))) (lv' := [(3, .int (nI (k + 1))), (2, .int (y + (bc (lak N Z k d (N 2))))), (0, .ref (a 0)), (1, .int d)]) hx hb dX0_pairsLacking_39 hl (k := 3) rfl (nI_inc k) (by decide) rfl (fun ls hl => ?_)
          refine lv_goto (tgt := 4) hx hb dX0_pairsLacking_42 (by decide) ?_
          exact ih4 (k + 1) (y + (bc (lak N Z k d (N 2)))) (by omega) (by omega) (by rw [hy]; first | rfl | (simp only [prs]; rw [if_pos (by assumption)]; done) | (simp only [prs]; rw [if_neg (Bool.eq_false_iff.mp (by assumption))]; done) | (simp only [prs]; rw [if_neg (by assumption)]; done) | (simp [prs, *]; done)) _ (lv_sub hl [2, 3, 1, 0] rfl)
  exact L4 _ 0 0 (Nat.lt_succ_self _) (by omega) (by rfl) _ (lv_sub hl [2, 3, 1, 0] rfl)

theorem idX0_versionServingMost : yX0_versionServingMost.cls = RX0 ∧ yX0_versionServingMost.cls ≠ "java/lang/invoke/MethodHandle" ∧ yX0_versionServingMost.cls ≠ "java/lang/invoke/VarHandle" ∧ (parseMethodDescriptor yX0_versionServingMost.desc).map (fun d => d.parameters.length) = some 2 := by decide +kernel

set_option maxHeartbeats 4000000 in
set_option maxRecDepth 100000 in
theorem mX0_versionServingMost (l : Launch) {G : va_G} {T : Nat → ClassId} {H : Heap} {a : Nat → Nat} {N : Nat → Nat} {Z : Nat → Nat → Int32} {x : Int32} {d : Int32} (hP : va_P G vwCl (wCal T a N Z) H) (hwf : wf N Z) : ro l yX0_versionServingMost wsX0_versionServingMost 3 70 [.ref (a 0), .int x, .int d] G T H (fun r => r = (vsm N Z x d (N 0)).1) := by
  refine ro_of (cc := cX0_versionServingMost) (maxL := 7) (ret := .int) (own := RX0) (by decide +kernel) rfl rfl (Nat.le_of_ble_eq_true rfl) (fun v _ => vp_nar_int v) ?_
  intro p e s m below meth c Q ls S hkx hl hret
  obtain ⟨hx, hb, hml, hown, hts⟩ := id S
  have hl : lv_has ls 7 [(0, .ref (a 0)), (1, .int x), (2, .int d)] := hl
  have k12 := hts (.fieldLink RX0 12 "SunsetDates$Calendar" "versions" "LSunsetDates$Versions;") (by decide +kernel)
  have iX0 : ∀ w ∈ wsX00, w ∈ wsX0_versionServingMost := by decide +kernel
  have k46 := hts (.fieldLink RX0 46 "SunsetDates$Versions" "count" "I") (by decide +kernel)
  have iX4 : ∀ w ∈ wsX40, w ∈ wsX0_versionServingMost := by decide +kernel
  have hb2 := hwf.1
  refine lv_iconst (v := (-1)) hx hb dX0_versionServingMost_0 (by decide) ?_
  refine lv_istore_n (lv' := [(3, .int (-1)), (0, .ref (a 0)), (1, .int x), (2, .int d)]) hx hb dX0_versionServingMost_1 rfl hl (by decide) rfl (fun ls hl => ?_)
  refine lv_iconst (v := 0) hx hb dX0_versionServingMost_2 (by decide) ?_
  refine lv_istore (lv' := [(4, .int 0), (3, .int (-1)), (0, .ref (a 0)), (1, .int x), (2, .int d)]) hx hb dX0_versionServingMost_3 hl (by decide) rfl (fun ls hl => ?_)
  refine lv_iconst (v := 0) hx hb dX0_versionServingMost_5 (by decide) ?_
  refine lv_istore (lv' := [(5, .int 0), (4, .int 0), (3, .int (-1)), (0, .ref (a 0)), (1, .int x), (2, .int d)]) hx hb dX0_versionServingMost_6 hl (by decide) rfl (fun ls hl => ?_)
  have L8 : ∀ (fuel : Nat) (k : Nat) (y z : Int32), N 0 - k < fuel → k ≤ N 0 → vsm N Z x d k = (y, z) → ∀ ls : Array Slot, lv_has ls 7 [(0, .ref (a 0)), (1, .int x), (2, .int d), (3, .int y), (4, .int z), (5, .int (nI k))] → W p l e (rmo 3 70) s m ([.ref (a 0), .int x, .int d] : List Value).toArray below meth c H [] 0 0 Q (F0 m 8 ls []) := by
    intro fuel
    induction fuel with
    | zero => intro k y z hm; exact absurd hm (Nat.not_lt_zero _)
    | succ fuel ih8 =>
      intro k y z hm8 hk hy ls hl
      refine lv_iload hx hb dX0_versionServingMost_8 (lv_at hl 5 rfl) ?_
      refine lv_aload_n hx hb dX0_versionServingMost_10 rfl (lv_at hl 0 rfl) ?_
      refine va_get (D := G) (ci := 0) (C := RX0) (T := TX0) (N := 4) hx hb hts iX0 hown hkx.1 hP 0 rfl rfl 0 (by decide) k12 (fun _ h9 => h9) rfl dX0_versionServingMost_11 ?_
      refine va_get (D := G) (ci := 4) (C := RX4) (T := TX4) (N := 5) hx hb hts iX4 hown hkx.1 hP 1 rfl rfl 0 (by decide) k46 (fun _ h9 => h9) rfl dX0_versionServingMost_14 ?_
      refine lv_icmp_ge (tgt := 71) hx hb dX0_versionServingMost_17 (by decide) (fun c_1 => ?_) (fun c_1 => ?_)
      · replace c_1 := cn_le (a := (N 0)) (b := k) (by omega) (by omega) c_1
        refine lv_iload_n hx hb dX0_versionServingMost_71 rfl (lv_at hl 3 rfl) ?_
        exact hret _ _ _ (show y = (vsm N Z x d (N 0)).1 from by
            rw [show k = N 0 from by omega] at hy; rw [hy]) dX0_versionServingMost_72
      · replace c_1 := cn_nle (a := (N 0)) (b := k) (by omega) (by omega) c_1
        refine lv_aload_n hx hb dX0_versionServingMost_20 rfl (lv_at hl 0 rfl) ?_
        refine lv_iload_n hx hb dX0_versionServingMost_21 rfl (lv_at hl 1 rfl) ?_
        refine lv_iload hx hb dX0_versionServingMost_22 (lv_at hl 5 rfl) ?_
        refine lv_iload_n hx hb dX0_versionServingMost_24 rfl (lv_at hl 2 rfl) ?_
        refine ro_V S hkx (mX0_unserved l (x := x) (v := k) (d := d) (hP := hP) (hv := (by omega)) (hs := (by omega))) gX0_versionServingMost_X0_unserved rfl idX0_unserved ⟨Nat.le_of_ble_eq_true rfl, Nat.le_of_ble_eq_true rfl⟩ hP 0 rfl rfl rfl rfl hl.1 rfl (Nat.le_of_ble_eq_true rfl) dX0_versionServingMost_25 ⟨Nat.le_of_ble_eq_true rfl, Nat.le_of_ble_eq_true rfl⟩ (fun r_2 hr_2 => ?_)
        subst hr_2
        refine ro_S S hkx (mJ6_bitCount_0f7a4 l (x := (uns N Z x k d))) gX0_versionServingMost_J6_bitCount_0f7a4 rfl idJ6_bitCount_0f7a4.2 ⟨Nat.le_of_ble_eq_true rfl, Nat.le_of_ble_eq_true rfl⟩ rfl hl.1 rfl (Nat.le_of_ble_eq_true rfl) dX0_versionServingMost_28 ⟨Nat.le_of_ble_eq_true rfl, Nat.le_of_ble_eq_true rfl⟩ (fun r_3 hr_3 => ?_)
        subst hr_3
        refine lv_istore (lv' := [(6, .int (bc (uns N Z x k d))), (0, .ref (a 0)), (1, .int x), (2, .int d), (3, .int y), (4, .int z), (5, .int (nI k))]) hx hb dX0_versionServingMost_31 hl (by decide) rfl (fun ls hl => ?_)
        refine lv_aload_n hx hb dX0_versionServingMost_33 rfl (lv_at hl 1 rfl) ?_
        refine va_get (D := G) (ci := 0) (C := RX0) (T := TX0) (N := 4) hx hb hts iX0 hown hkx.1 hP 0 rfl rfl 0 (by decide) k12 (fun _ h9 => h9) rfl dX0_versionServingMost_34 ?_
        refine lv_iload hx hb dX0_versionServingMost_37 (lv_at hl 6 rfl) ?_
        refine lv_iload_n hx hb dX0_versionServingMost_39 rfl (lv_at hl 3 rfl) ?_
        refine ro_V S hkx (mX4_isAlive l (k := k) (d := d) (hP := hP) (hk := (by omega))) gX0_versionServingMost_X4_isAlive rfl idX4_isAlive ⟨Nat.le_of_ble_eq_true rfl, Nat.le_of_ble_eq_true rfl⟩ hP 1 rfl rfl rfl rfl hl.1 rfl (Nat.le_of_ble_eq_true rfl) dX0_versionServingMost_40 ⟨Nat.le_of_ble_eq_true rfl, Nat.le_of_ble_eq_true rfl⟩ (fun r_4 hr_4 => ?_)
        subst hr_4
        refine lv_if_eq (tgt := 65) hx hb dX0_versionServingMost_43 (by decide) (fun c_5 => ?_) (fun c_5 => ?_)
        · replace c_5 := bI_e0 c_5
          refine lv_iinc (v := (nI (k + 1))) (lv' := [(5, .int (nI (k + 1))), (6, .int (bc (uns N Z x k d))), (0, .ref (a 0)), (1, .int x), (2, .int d), (3, .int y), (4, .int z)]) hx hb dX0_versionServingMost_65 hl (k := 6) rfl (nI_inc k) (by decide) rfl (fun ls hl => ?_)
          refine lv_goto (tgt := 8) hx hb dX0_versionServingMost_68 (by decide) ?_
          exact ih8 (k + 1) y z (by omega) (by omega) (by rw [vsm, hy]; first | rw [if_pos ⟨by assumption, Or.inl (by assumption)⟩] | rw [if_pos ⟨by assumption, Or.inr (by assumption)⟩] | (rw [if_neg]; rintro ⟨q1, q2⟩; first | (simp_all; done) | exact q2.elim (fun h => absurd h (by assumption)) (fun h => absurd h (by assumption)))) _ (lv_sub hl [2, 3, 4, 5, 6, 0] rfl)
        · replace c_5 := bI_n0 c_5
          refine lv_iload_n hx hb dX0_versionServingMost_46 rfl (lv_at hl 4 rfl) ?_
          refine lv_iconst (v := (-1)) hx hb dX0_versionServingMost_47 (by decide) ?_
          refine lv_icmp_eq (tgt := 58) hx hb dX0_versionServingMost_48 (by decide) (fun c_6 => ?_) (fun c_6 => ?_)
          · skip
            refine lv_iload hx hb dX0_versionServingMost_58 (lv_at hl 6 rfl) ?_
            refine lv_istore_n (lv' := [(3, .int (nI k)), (6, .int (bc (uns N Z x k d))), (0, .ref (a 0)), (1, .int x), (2, .int d), (4, .int z), (5, .int (nI k))]) hx hb dX0_versionServingMost_60 rfl hl (by decide) rfl (fun ls hl => ?_)
            refine lv_iload hx hb dX0_versionServingMost_61 (lv_at hl 1 rfl) ?_
            refine lv_istore (lv' := [(4, .int (bc (uns N Z x k d))), (3, .int (nI k)), (6, .int (bc (uns N Z x k d))), (0, .ref (a 0)), (1, .int x), (2, .int d), (5, .int (nI k))]) hx hb dX0_versionServingMost_63 hl (by decide) rfl (fun ls hl => ?_)
            refine lv_iinc (v := (nI (k + 1))) (lv' := [(5, .int (nI (k + 1))), (4, .int (bc (uns N Z x k d))), (3, .int (nI k)), (6, .int (bc (uns N Z x k d))), (0, .ref (a 0)), (1, .int x), (2, .int d)]) hx hb dX0_versionServingMost_65 hl (k := 6) rfl (nI_inc k) (by decide) rfl (fun ls hl => ?_)
            refine lv_goto (tgt := 8) hx hb dX0_versionServingMost_68 (by decide) ?_
            exact ih8 (k + 1) (nI k) (bc (uns N Z x k d)) (by omega) (by omega) (by rw [vsm, hy]; first | rw [if_pos ⟨by assumption, Or.inl (by assumption)⟩] | rw [if_pos ⟨by assumption, Or.inr (by assumption)⟩] | (rw [if_neg]; rintro ⟨q1, q2⟩; first | (simp_all; done) | exact q2.elim (fun h => absurd h (by assumption)) (fun h => absurd h (by assumption)))) _ (lv_sub hl [4, 5, 6, 2, 1, 0] rfl)
          · skip
            refine lv_iload hx hb dX0_versionServingMost_51 (lv_at hl 0 rfl) ?_
            refine lv_iload hx hb dX0_versionServingMost_53 (lv_at hl 5 rfl) ?_
            refine lv_icmp_ge (tgt := 65) hx hb dX0_versionServingMost_55 (by decide) (fun c_7 => ?_) (fun c_7 => ?_)
            · have c_7n := Int32.not_lt.mpr c_7
              refine lv_iinc (v := (nI (k + 1))) (lv' := [(5, .int (nI (k + 1))), (6, .int (bc (uns N Z x k d))), (0, .ref (a 0)), (1, .int x), (2, .int d), (3, .int y), (4, .int z)]) hx hb dX0_versionServingMost_65 hl (k := 6) rfl (nI_inc k) (by decide) rfl (fun ls hl => ?_)
              refine lv_goto (tgt := 8) hx hb dX0_versionServingMost_68 (by decide) ?_
              exact ih8 (k + 1) y z (by omega) (by omega) (by rw [vsm, hy]; first | rw [if_pos ⟨by assumption, Or.inl (by assumption)⟩] | rw [if_pos ⟨by assumption, Or.inr (by assumption)⟩] | (rw [if_neg]; rintro ⟨q1, q2⟩; first | (simp_all; done) | exact q2.elim (fun h => absurd h (by assumption)) (fun h => absurd h (by assumption)))) _ (lv_sub hl [2, 3, 4, 5, 6, 0] rfl)
            · have c_7n := Int32.not_le.mp c_7
              refine lv_iload hx hb dX0_versionServingMost_58 (lv_at hl 6 rfl) ?_
              refine lv_istore_n (lv' := [(3, .int (nI k)), (6, .int (bc (uns N Z x k d))), (0, .ref (a 0)), (1, .int x), (2, .int d), (4, .int z), (5, .int (nI k))]) hx hb dX0_versionServingMost_60 rfl hl (by decide) rfl (fun ls hl => ?_)
              refine lv_iload hx hb dX0_versionServingMost_61 (lv_at hl 1 rfl) ?_
              refine lv_istore (lv' := [(4, .int (bc (uns N Z x k d))), (3, .int (nI k)), (6, .int (bc (uns N Z x k d))), (0, .ref (a 0)), (1, .int x), (2, .int d), (5, .int (nI k))]) hx hb dX0_versionServingMost_63 hl (by decide) rfl (fun ls hl => ?_)
              refine lv_iinc (v := (nI (k + 1))) (lv' := [(5, .int (nI (k + 1))), (4, .int (bc (uns N Z x k d))), (3, .int (nI k)), (6, .int (bc (uns N Z x k d))), (0, .ref (a 0)), (1, .int x), (2, .int d)]) hx hb dX0_versionServingMost_65 hl (k := 6) rfl (nI_inc k) (by decide) rfl (fun ls hl => ?_)
              refine lv_goto (tgt := 8) hx hb dX0_versionServingMost_68 (by decide) ?_
              exact ih8 (k + 1) (nI k) (bc (uns N Z x k d)) (by omega) (by omega) (by rw [vsm, hy]; first | rw [if_pos ⟨by assumption, Or.inl (by assumption)⟩] | rw [if_pos ⟨by assumption, Or.inr (by assumption)⟩] | (rw [if_neg]; rintro ⟨q1, q2⟩; first | (simp_all; done) | exact q2.elim (fun h => absurd h (by assumption)) (fun h => absurd h (by assumption)))) _ (lv_sub hl [4, 5, 6, 2, 1, 0] rfl)
  exact L8 _ 0 (-1) 0 (Nat.lt_succ_self _) (by omega) (by rfl) _ (lv_sub hl [3, 4, 5, 2, 1, 0] rfl)

theorem idX0_earlier : yX0_earlier.cls = RX0 ∧ yX0_earlier.cls ≠ "java/lang/invoke/MethodHandle" ∧ yX0_earlier.cls ≠ "java/lang/invoke/VarHandle" ∧ (parseMethodDescriptor yX0_earlier.desc).map (fun d => d.parameters.length) = some 3 := by decide +kernel

set_option maxHeartbeats 4000000 in
set_option maxRecDepth 100000 in
theorem mX0_earlier (l : Launch) {G : va_G} {T : Nat → ClassId} {H : Heap} {n : Int32} {x : Int32} {d : Int32}  : ro l yX0_earlier wsX0_earlier 0 0 [.int n, .int x, .int d] G T H (fun r => r = ear n x d) := by
  refine ro_of (cc := cX0_earlier) (maxL := 3) (ret := .int) (own := RX0) (by decide +kernel) rfl rfl (Nat.le_of_ble_eq_true rfl) (fun v _ => vp_nar_int v) ?_
  intro p e s m below meth c Q ls S hkx hl hret
  obtain ⟨hx, hb, hml, hown, hts⟩ := id S
  have hl : lv_has ls 3 [(0, .int n), (1, .int x), (2, .int d)] := hl
  refine lv_iload_n hx hb dX0_earlier_0 rfl (lv_at hl 1 rfl) ?_
  refine lv_iload_n hx hb dX0_earlier_1 rfl (lv_at hl 2 rfl) ?_
  refine lv_icmp_le (tgt := 14) hx hb dX0_earlier_2 (by decide) (fun c_1 => ?_) (fun c_1 => ?_)
  · have c_1n := Int32.not_lt.mpr c_1
    refine lv_iload_n hx hb dX0_earlier_14 rfl (lv_at hl 0 rfl) ?_
    exact hret _ _ _ (show n = ear n x d from by
        clear hret hl; first | (rw [ear, if_pos ⟨by assumption, by assumption⟩]; done) | (rw [ear, if_neg]; rintro ⟨q1, q2⟩; first | exact absurd q1 (by assumption) | exact absurd q2 (by assumption))) dX0_earlier_15
  · have c_1n := Int32.not_le.mp c_1
    refine lv_iload_n hx hb dX0_earlier_5 rfl (lv_at hl 1 rfl) ?_
    refine lv_iload_n hx hb dX0_earlier_6 rfl (lv_at hl 0 rfl) ?_
    refine lv_icmp_ge (tgt := 14) hx hb dX0_earlier_7 (by decide) (fun c_2 => ?_) (fun c_2 => ?_)
    · have c_2n := Int32.not_lt.mpr c_2
      refine lv_iload_n hx hb dX0_earlier_14 rfl (lv_at hl 0 rfl) ?_
      exact hret _ _ _ (show n = ear n x d from by
          clear hret hl; first | (rw [ear, if_pos ⟨by assumption, by assumption⟩]; done) | (rw [ear, if_neg]; rintro ⟨q1, q2⟩; first | exact absurd q1 (by assumption) | exact absurd q2 (by assumption))) dX0_earlier_15
    · have c_2n := Int32.not_le.mp c_2
      refine lv_iload_n hx hb dX0_earlier_10 rfl (lv_at hl 1 rfl) ?_
      refine lv_goto (tgt := 15) hx hb dX0_earlier_11 (by decide) ?_
      exact hret _ _ _ (show x = ear n x d from by
          clear hret hl; first | (rw [ear, if_pos ⟨by assumption, by assumption⟩]; done) | (rw [ear, if_neg]; rintro ⟨q1, q2⟩; first | exact absurd q1 (by assumption) | exact absurd q2 (by assumption))) dX0_earlier_15

theorem idX0_nextChange : yX0_nextChange.cls = RX0 ∧ yX0_nextChange.cls ≠ "java/lang/invoke/MethodHandle" ∧ yX0_nextChange.cls ≠ "java/lang/invoke/VarHandle" ∧ (parseMethodDescriptor yX0_nextChange.desc).map (fun d => d.parameters.length) = some 1 := by decide +kernel

set_option maxHeartbeats 4000000 in
set_option maxRecDepth 100000 in
theorem mX0_nextChange (l : Launch) {G : va_G} {T : Nat → ClassId} {H : Heap} {a : Nat → Nat} {N : Nat → Nat} {Z : Nat → Nat → Int32} {d : Int32} (hP : va_P G vwCl (wCal T a N Z) H) (hwf : wf N Z) : ro l yX0_nextChange wsX0_nextChange 1 22 [.ref (a 0), .int d] G T H (fun r => r = nxC N Z d) := by
  refine ro_of (cc := cX0_nextChange) (maxL := 4) (ret := .int) (own := RX0) (by decide +kernel) rfl rfl (Nat.le_of_ble_eq_true rfl) (fun v _ => vp_nar_int v) ?_
  intro p e s m below meth c Q ls S hkx hl hret
  obtain ⟨hx, hb, hml, hown, hts⟩ := id S
  have hl : lv_has ls 4 [(0, .ref (a 0)), (1, .int d)] := hl
  have k12 := hts (.fieldLink RX0 12 "SunsetDates$Calendar" "versions" "LSunsetDates$Versions;") (by decide +kernel)
  have iX0 : ∀ w ∈ wsX00, w ∈ wsX0_nextChange := by decide +kernel
  have k46 := hts (.fieldLink RX0 46 "SunsetDates$Versions" "count" "I") (by decide +kernel)
  have iX4 : ∀ w ∈ wsX40, w ∈ wsX0_nextChange := by decide +kernel
  have k25 := hts (.fieldLink RX0 25 "SunsetDates$Calendar" "users" "LSunsetDates$Users;") (by decide +kernel)
  have k57 := hts (.fieldLink RX0 57 "SunsetDates$Users" "count" "I") (by decide +kernel)
  have iX3 : ∀ w ∈ wsX30, w ∈ wsX0_nextChange := by decide +kernel
  have k32 := hts (.fieldLink RX0 32 "SunsetDates$Calendar" "shims" "LSunsetDates$Shims;") (by decide +kernel)
  have k75 := hts (.fieldLink RX0 75 "SunsetDates$Shims" "count" "I") (by decide +kernel)
  have iX2 : ∀ w ∈ wsX20, w ∈ wsX0_nextChange := by decide +kernel
  have k136 := hts (.fieldLink RX0 136 "SunsetDates$Shims" "first" "[I") (by decide +kernel)
  have k139 := hts (.fieldLink RX0 139 "SunsetDates$Shims" "last" "[I") (by decide +kernel)
  have k69 := hts (.fieldLink RX0 69 "SunsetDates$Users" "pledgeDay" "[I") (by decide +kernel)
  have k76 := hts (.fieldLink RX0 76 "SunsetDates$Versions" "release" "[I") (by decide +kernel)
  have k72 := hts (.fieldLink RX0 72 "SunsetDates$Versions" "end" "[I") (by decide +kernel)
  have hb2 := hwf.1
  refine lv_sipush (v := 1000) hx hb dX0_nextChange_0 (by decide) ?_
  refine lv_istore_n (lv' := [(2, .int 1000), (0, .ref (a 0)), (1, .int d)]) hx hb dX0_nextChange_3 rfl hl (by decide) rfl (fun ls hl => ?_)
  refine lv_iconst (v := 0) hx hb dX0_nextChange_4 (by decide) ?_
  refine lv_istore_n (lv' := [(3, .int 0), (2, .int 1000), (0, .ref (a 0)), (1, .int d)]) hx hb dX0_nextChange_5 rfl hl (by decide) rfl (fun ls hl => ?_)
  have L6 : ∀ (fuel : Nat) (k : Nat) (y : Int32), N 0 - k < fuel → k ≤ N 0 → y = nx1 Z d k → ∀ ls : Array Slot, lv_has ls 4 [(0, .ref (a 0)), (1, .int d), (2, .int y), (3, .int (nI k))] → W p l e (rmo 1 22) s m ([.ref (a 0), .int d] : List Value).toArray below meth c H [] 0 0 Q (F0 m 6 ls []) := by
    intro fuel
    induction fuel with
    | zero => intro k y hm; exact absurd hm (Nat.not_lt_zero _)
    | succ fuel ih6 =>
      intro k y hm6 hk hy ls hl
      refine lv_iload_n hx hb dX0_nextChange_6 rfl (lv_at hl 3 rfl) ?_
      refine lv_aload_n hx hb dX0_nextChange_7 rfl (lv_at hl 0 rfl) ?_
      refine va_get (D := G) (ci := 0) (C := RX0) (T := TX0) (N := 4) hx hb hts iX0 hown hkx.1 hP 0 rfl rfl 0 (by decide) k12 (fun _ h9 => h9) rfl dX0_nextChange_8 ?_
      refine va_get (D := G) (ci := 4) (C := RX4) (T := TX4) (N := 5) hx hb hts iX4 hown hkx.1 hP 1 rfl rfl 0 (by decide) k46 (fun _ h9 => h9) rfl dX0_nextChange_11 ?_
      refine lv_icmp_ge (tgt := 53) hx hb dX0_nextChange_14 (by decide) (fun c_1 => ?_) (fun c_1 => ?_)
      · replace c_1 := cn_le (a := (N 0)) (b := k) (by omega) (by omega) c_1
        refine lv_iconst (v := 0) hx hb dX0_nextChange_53 (by decide) ?_
        refine lv_istore_n (lv' := [(3, .int 0), (0, .ref (a 0)), (1, .int d), (2, .int y)]) hx hb dX0_nextChange_54 rfl hl (by decide) rfl (fun ls hl => ?_)
        have L55 : ∀ (fuel : Nat) (k2 : Nat) (y2 : Int32), N 2 - k2 < fuel → k2 ≤ N 2 → y2 = nx2 Z d (nx1 Z d (N 0)) k2 → ∀ ls : Array Slot, lv_has ls 4 [(0, .ref (a 0)), (1, .int d), (2, .int y2), (3, .int (nI k2))] → W p l e (rmo 1 22) s m ([.ref (a 0), .int d] : List Value).toArray below meth c H [] 0 0 Q (F0 m 55 ls []) := by
          intro fuel
          induction fuel with
          | zero => intro k2 y2 hm; exact absurd hm (Nat.not_lt_zero _)
          | succ fuel ih55 =>
            intro k2 y2 hm55 hk2 hy2 ls hl
            refine lv_iload_n hx hb dX0_nextChange_55 rfl (lv_at hl 3 rfl) ?_
            refine lv_aload_n hx hb dX0_nextChange_56 rfl (lv_at hl 0 rfl) ?_
            refine va_get (D := G) (ci := 0) (C := RX0) (T := TX0) (N := 4) hx hb hts iX0 hown hkx.1 hP 0 rfl rfl 2 (by decide) k25 (fun _ h9 => h9) rfl dX0_nextChange_57 ?_
            refine va_get (D := G) (ci := 3) (C := RX3) (T := TX3) (N := 7) hx hb hts iX3 hown hkx.1 hP 6 rfl rfl 0 (by decide) k57 (fun _ h9 => h9) rfl dX0_nextChange_60 ?_
            refine lv_icmp_ge (tgt := 87) hx hb dX0_nextChange_63 (by decide) (fun c_2 => ?_) (fun c_2 => ?_)
            · replace c_2 := cn_le (a := (N 2)) (b := k2) (by omega) (by omega) c_2
              refine lv_iconst (v := 0) hx hb dX0_nextChange_87 (by decide) ?_
              refine lv_istore_n (lv' := [(3, .int 0), (0, .ref (a 0)), (1, .int d), (2, .int y2)]) hx hb dX0_nextChange_88 rfl hl (by decide) rfl (fun ls hl => ?_)
              have L89 : ∀ (fuel : Nat) (k3 : Nat) (y3 : Int32), N 3 - k3 < fuel → k3 ≤ N 3 → y3 = nx3 Z d (nx2 Z d (nx1 Z d (N 0)) (N 2)) k3 → ∀ ls : Array Slot, lv_has ls 4 [(0, .ref (a 0)), (1, .int d), (2, .int y3), (3, .int (nI k3))] → W p l e (rmo 1 22) s m ([.ref (a 0), .int d] : List Value).toArray below meth c H [] 0 0 Q (F0 m 89 ls []) := by
                intro fuel
                induction fuel with
                | zero => intro k3 y3 hm; exact absurd hm (Nat.not_lt_zero _)
                | succ fuel ih89 =>
                  intro k3 y3 hm89 hk3 hy3 ls hl
                  refine lv_iload_n hx hb dX0_nextChange_89 rfl (lv_at hl 3 rfl) ?_
                  refine lv_aload_n hx hb dX0_nextChange_90 rfl (lv_at hl 0 rfl) ?_
                  refine va_get (D := G) (ci := 0) (C := RX0) (T := TX0) (N := 4) hx hb hts iX0 hown hkx.1 hP 0 rfl rfl 3 (by decide) k32 (fun _ h9 => h9) rfl dX0_nextChange_91 ?_
                  refine va_get (D := G) (ci := 2) (C := RX2) (T := TX2) (N := 6) hx hb hts iX2 hown hkx.1 hP 13 rfl rfl 0 (by decide) k75 (fun _ h9 => h9) rfl dX0_nextChange_94 ?_
                  refine lv_icmp_ge (tgt := 138) hx hb dX0_nextChange_97 (by decide) (fun c_3 => ?_) (fun c_3 => ?_)
                  · replace c_3 := cn_le (a := (N 3)) (b := k3) (by omega) (by omega) c_3
                    refine lv_iload_n hx hb dX0_nextChange_138 rfl (lv_at hl 2 rfl) ?_
                    exact hret _ _ _ (show y3 = nxC N Z d from by
                        rw [hy3, show k3 = N 3 by omega]; rfl) dX0_nextChange_139
                  · replace c_3 := cn_nle (a := (N 3)) (b := k3) (by omega) (by omega) c_3
                    refine lv_iload_n hx hb dX0_nextChange_100 rfl (lv_at hl 2 rfl) ?_
                    refine lv_aload_n hx hb dX0_nextChange_101 rfl (lv_at hl 0 rfl) ?_
                    refine va_get (D := G) (ci := 0) (C := RX0) (T := TX0) (N := 4) hx hb hts iX0 hown hkx.1 hP 0 rfl rfl 3 (by decide) k32 (fun _ h9 => h9) rfl dX0_nextChange_102 ?_
                    refine va_get (D := G) (ci := 2) (C := RX2) (T := TX2) (N := 6) hx hb hts iX2 hown hkx.1 hP 13 rfl rfl 3 (by decide) k136 (fun _ h9 => h9) rfl dX0_nextChange_105 ?_
                    refine lv_iload_n hx hb dX0_nextChange_108 rfl (lv_at hl 3 rfl) ?_
                    refine ia hx hb hkx hP 16 rfl k3 rfl (by omega) (by decide) dX0_nextChange_109 ?_
                    refine lv_iload_n hx hb dX0_nextChange_110 rfl (lv_at hl 1 rfl) ?_
                    refine ro_S S hkx (mX0_earlier l (n := y3) (x := (Z 13 k3)) (d := d)) gX0_nextChange_X0_earlier rfl idX0_earlier.2 ⟨Nat.le_of_ble_eq_true rfl, Nat.le_of_ble_eq_true rfl⟩ rfl hl.1 rfl (Nat.le_of_ble_eq_true rfl) dX0_nextChange_111 ⟨Nat.le_of_ble_eq_true rfl, Nat.le_of_ble_eq_true rfl⟩ (fun r_4 hr_4 => ?_)
                    subst hr_4
                    refine lv_istore_n (lv' := [(2, .int (ear y3 (Z 13 k3) d)), (0, .ref (a 0)), (1, .int d), (3, .int (nI k3))]) hx hb dX0_nextChange_114 rfl hl (by decide) rfl (fun ls hl => ?_)
                    refine lv_iload_n hx hb dX0_nextChange_115 rfl (lv_at hl 0 rfl) ?_
                    refine lv_aload_n hx hb dX0_nextChange_116 rfl (lv_at hl 1 rfl) ?_
                    refine va_get (D := G) (ci := 0) (C := RX0) (T := TX0) (N := 4) hx hb hts iX0 hown hkx.1 hP 0 rfl rfl 3 (by decide) k32 (fun _ h9 => h9) rfl dX0_nextChange_117 ?_
                    refine va_get (D := G) (ci := 2) (C := RX2) (T := TX2) (N := 6) hx hb hts iX2 hown hkx.1 hP 13 rfl rfl 4 (by decide) k139 (fun _ h9 => h9) rfl dX0_nextChange_120 ?_
                    refine lv_iload_n hx hb dX0_nextChange_123 rfl (lv_at hl 3 rfl) ?_
                    refine ia hx hb hkx hP 17 rfl k3 rfl (by omega) (by decide) dX0_nextChange_124 ?_
                    refine lv_iconst (v := 1) hx hb dX0_nextChange_125 (by decide) ?_
                    refine lv_iadd hx hb dX0_nextChange_126 ?_
                    refine lv_iload_n hx hb dX0_nextChange_127 rfl (lv_at hl 2 rfl) ?_
                    refine ro_S S hkx (mX0_earlier l (n := (ear y3 (Z 13 k3) d)) (x := ((Z 14 k3) + 1)) (d := d)) gX0_nextChange_X0_earlier rfl idX0_earlier.2 ⟨Nat.le_of_ble_eq_true rfl, Nat.le_of_ble_eq_true rfl⟩ rfl hl.1 rfl (Nat.le_of_ble_eq_true rfl) dX0_nextChange_128 ⟨Nat.le_of_ble_eq_true rfl, Nat.le_of_ble_eq_true rfl⟩ (fun r_5 hr_5 => ?_)
                    subst hr_5
                    refine lv_istore_n (lv' := [(2, .int (ear (ear y3 (Z 13 k3) d) ((Z 14 k3) + 1) d)), (0, .ref (a 0)), (1, .int d), (3, .int (nI k3))]) hx hb dX0_nextChange_131 rfl hl (by decide) rfl (fun ls hl => ?_)
                    refine lv_iinc (v := (nI (k3 + 1))) (lv' := [(3, .int (nI (k3 + 1))), (2, .int (ear (ear y3 (Z 13 k3) d) ((Z 14 k3) + 1) d)), (0, .ref (a 0)), (1, .int d)]) hx hb dX0_nextChange_132 hl (k := 3) rfl (nI_inc k3) (by decide) rfl (fun ls hl => ?_)
                    refine lv_goto (tgt := 89) hx hb dX0_nextChange_135 (by decide) ?_
                    exact ih89 (k3 + 1) (ear (ear y3 (Z 13 k3) d) ((Z 14 k3) + 1) d) (by omega) (by omega) (by rw [hy3]; rfl) _ (lv_sub hl [2, 3, 1, 0] rfl)
              exact L89 _ 0 y2 (Nat.lt_succ_self _) (by omega) (by rw [hy2, show k2 = N 2 by omega]; rfl) _ (lv_sub hl [1, 2, 3, 0] rfl)
            · replace c_2 := cn_nle (a := (N 2)) (b := k2) (by omega) (by omega) c_2
              refine lv_iload_n hx hb dX0_nextChange_66 rfl (lv_at hl 2 rfl) ?_
              refine lv_aload_n hx hb dX0_nextChange_67 rfl (lv_at hl 0 rfl) ?_
              refine va_get (D := G) (ci := 0) (C := RX0) (T := TX0) (N := 4) hx hb hts iX0 hown hkx.1 hP 0 rfl rfl 2 (by decide) k25 (fun _ h9 => h9) rfl dX0_nextChange_68 ?_
              refine va_get (D := G) (ci := 3) (C := RX3) (T := TX3) (N := 7) hx hb hts iX3 hown hkx.1 hP 6 rfl rfl 4 (by decide) k69 (fun _ h9 => h9) rfl dX0_nextChange_71 ?_
              refine lv_iload_n hx hb dX0_nextChange_74 rfl (lv_at hl 3 rfl) ?_
              refine ia hx hb hkx hP 10 rfl k2 rfl (by omega) (by decide) dX0_nextChange_75 ?_
              refine lv_iload_n hx hb dX0_nextChange_76 rfl (lv_at hl 1 rfl) ?_
              refine ro_S S hkx (mX0_earlier l (n := y2) (x := (Z 8 k2)) (d := d)) gX0_nextChange_X0_earlier rfl idX0_earlier.2 ⟨Nat.le_of_ble_eq_true rfl, Nat.le_of_ble_eq_true rfl⟩ rfl hl.1 rfl (Nat.le_of_ble_eq_true rfl) dX0_nextChange_77 ⟨Nat.le_of_ble_eq_true rfl, Nat.le_of_ble_eq_true rfl⟩ (fun r_6 hr_6 => ?_)
              subst hr_6
              refine lv_istore_n (lv' := [(2, .int (ear y2 (Z 8 k2) d)), (0, .ref (a 0)), (1, .int d), (3, .int (nI k2))]) hx hb dX0_nextChange_80 rfl hl (by decide) rfl (fun ls hl => ?_)
              refine lv_iinc (v := (nI (k2 + 1))) (lv' := [(3, .int (nI (k2 + 1))), (2, .int (ear y2 (Z 8 k2) d)), (0, .ref (a 0)), (1, .int d)]) hx hb dX0_nextChange_81 hl (k := 3) rfl (nI_inc k2) (by decide) rfl (fun ls hl => ?_)
              refine lv_goto (tgt := 55) hx hb dX0_nextChange_84 (by decide) ?_
              exact ih55 (k2 + 1) (ear y2 (Z 8 k2) d) (by omega) (by omega) (by rw [hy2]; rfl) _ (lv_sub hl [2, 3, 1, 0] rfl)
        exact L55 _ 0 y (Nat.lt_succ_self _) (by omega) (by rw [hy, show k = N 0 by omega]; rfl) _ (lv_sub hl [1, 2, 3, 0] rfl)
      · replace c_1 := cn_nle (a := (N 0)) (b := k) (by omega) (by omega) c_1
        refine lv_iload_n hx hb dX0_nextChange_17 rfl (lv_at hl 2 rfl) ?_
        refine lv_aload_n hx hb dX0_nextChange_18 rfl (lv_at hl 0 rfl) ?_
        refine va_get (D := G) (ci := 0) (C := RX0) (T := TX0) (N := 4) hx hb hts iX0 hown hkx.1 hP 0 rfl rfl 0 (by decide) k12 (fun _ h9 => h9) rfl dX0_nextChange_19 ?_
        refine va_get (D := G) (ci := 4) (C := RX4) (T := TX4) (N := 5) hx hb hts iX4 hown hkx.1 hP 1 rfl rfl 1 (by decide) k76 (fun _ h9 => h9) rfl dX0_nextChange_22 ?_
        refine lv_iload_n hx hb dX0_nextChange_25 rfl (lv_at hl 3 rfl) ?_
        refine ia hx hb hkx hP 2 rfl k rfl (by omega) (by decide) dX0_nextChange_26 ?_
        refine lv_iload_n hx hb dX0_nextChange_27 rfl (lv_at hl 1 rfl) ?_
        refine ro_S S hkx (mX0_earlier l (n := y) (x := (Z 1 k)) (d := d)) gX0_nextChange_X0_earlier rfl idX0_earlier.2 ⟨Nat.le_of_ble_eq_true rfl, Nat.le_of_ble_eq_true rfl⟩ rfl hl.1 rfl (Nat.le_of_ble_eq_true rfl) dX0_nextChange_28 ⟨Nat.le_of_ble_eq_true rfl, Nat.le_of_ble_eq_true rfl⟩ (fun r_7 hr_7 => ?_)
        subst hr_7
        refine lv_istore_n (lv' := [(2, .int (ear y (Z 1 k) d)), (0, .ref (a 0)), (1, .int d), (3, .int (nI k))]) hx hb dX0_nextChange_31 rfl hl (by decide) rfl (fun ls hl => ?_)
        refine lv_iload_n hx hb dX0_nextChange_32 rfl (lv_at hl 0 rfl) ?_
        refine lv_aload_n hx hb dX0_nextChange_33 rfl (lv_at hl 1 rfl) ?_
        refine va_get (D := G) (ci := 0) (C := RX0) (T := TX0) (N := 4) hx hb hts iX0 hown hkx.1 hP 0 rfl rfl 0 (by decide) k12 (fun _ h9 => h9) rfl dX0_nextChange_34 ?_
        refine va_get (D := G) (ci := 4) (C := RX4) (T := TX4) (N := 5) hx hb hts iX4 hown hkx.1 hP 1 rfl rfl 2 (by decide) k72 (fun _ h9 => h9) rfl dX0_nextChange_37 ?_
        refine lv_iload_n hx hb dX0_nextChange_40 rfl (lv_at hl 3 rfl) ?_
        refine ia hx hb hkx hP 3 rfl k rfl (by omega) (by decide) dX0_nextChange_41 ?_
        refine lv_iload_n hx hb dX0_nextChange_42 rfl (lv_at hl 2 rfl) ?_
        refine ro_S S hkx (mX0_earlier l (n := (ear y (Z 1 k) d)) (x := (Z 2 k)) (d := d)) gX0_nextChange_X0_earlier rfl idX0_earlier.2 ⟨Nat.le_of_ble_eq_true rfl, Nat.le_of_ble_eq_true rfl⟩ rfl hl.1 rfl (Nat.le_of_ble_eq_true rfl) dX0_nextChange_43 ⟨Nat.le_of_ble_eq_true rfl, Nat.le_of_ble_eq_true rfl⟩ (fun r_8 hr_8 => ?_)
        subst hr_8
        refine lv_istore_n (lv' := [(2, .int (ear (ear y (Z 1 k) d) (Z 2 k) d)), (0, .ref (a 0)), (1, .int d), (3, .int (nI k))]) hx hb dX0_nextChange_46 rfl hl (by decide) rfl (fun ls hl => ?_)
        refine lv_iinc (v := (nI (k + 1))) (lv' := [(3, .int (nI (k + 1))), (2, .int (ear (ear y (Z 1 k) d) (Z 2 k) d)), (0, .ref (a 0)), (1, .int d)]) hx hb dX0_nextChange_47 hl (k := 3) rfl (nI_inc k) (by decide) rfl (fun ls hl => ?_)
        refine lv_goto (tgt := 6) hx hb dX0_nextChange_50 (by decide) ?_
        exact ih6 (k + 1) (ear (ear y (Z 1 k) d) (Z 2 k) d) (by omega) (by omega) (by rw [hy]; rfl) _ (lv_sub hl [2, 3, 1, 0] rfl)
  exact L6 _ 0 1000 (Nat.lt_succ_self _) (by omega) (by rfl) _ (lv_sub hl [2, 3, 1, 0] rfl)
