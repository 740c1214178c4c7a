theorem idX6_pledgeRefused : yX6_pledgeRefused.cls = RX6 ∧ yX6_pledgeRefused.cls ≠ "java/lang/invoke/MethodHandle" ∧ yX6_pledgeRefused.cls ≠ "java/lang/invoke/VarHandle" ∧ (parseMethodDescriptor yX6_pledgeRefused.desc).map (fun d => d.parameters.length) = some 3 := by decide +kernel

set_option maxHeartbeats 4000000 in
set_option maxRecDepth 100000 in
theorem mX6_pledgeRefused (l : Launch) {G : va_G} {T : Nat → ClassId} {H : Heap} {r : Nat → Nat} {N : Nat → Nat} {Z : Nat → Nat → Int32} {mm : Nat → Int32} {pp : Nat → Int32} {xx : Nat → Int32} {th : Int32} {sv : Nat} {n1 : Nat} {ac : Int32} {ea : Int32} {le : Int32} {v1 : Int32} {v2 : Int32} {v3 : Int32} {v4 : Int32} {v5 : Int32} {u : Int32} {v : Int32} {d : Int32} (hP : va_P G vwCl (wMod T r mm pp xx th sv n1 ac ea le v1 v2 v3 v4 v5) H) (hwf : wf N Z) (hr : rel N Z mm) : ro l yX6_pledgeRefused wsX6_pledgeRefused 2 43 [.ref (r 0), .int u, .int v, .int d] G T H (fun r => r = plF N u v d) := by
  refine ro_of (cc := cX6_pledgeRefused) (maxL := 4) (ret := .int) (own := RX6) (by decide +kernel) rfl rfl (Nat.le_of_ble_eq_true rfl) (fun v _ => vp_nar_int v) ?_
  intro p e s m below meth c Q ls S hkx hl hret
  obtain ⟨hx, hb, hml, hown, hts⟩ := id S
  have hl : lv_has ls 4 [(0, .ref (r 0)), (1, .int u), (2, .int v), (3, .int d)] := hl
  have hb2 := hwf.1
  obtain ⟨hr0, hr1, hr2, hr3, hrv, hrf, hru, hrs⟩ := id hr
  refine lv_aload_n hx hb dX6_pledgeRefused_0 rfl (lv_at hl 0 rfl) ?_
  refine lv_iload_n hx hb dX6_pledgeRefused_1 rfl (lv_at hl 1 rfl) ?_
  refine ro_V S hkx (mX6_isUser l (v := u) (hP := hP) (hwf := hwf) (hr := hr)) gX6_pledgeRefused_X6_isUser rfl idX6_isUser ⟨Nat.le_of_ble_eq_true rfl, Nat.le_of_ble_eq_true rfl⟩ hP 0 rfl rfl rfl rfl hl.1 rfl (Nat.le_of_ble_eq_true rfl) dX6_pledgeRefused_2 ⟨Nat.le_of_ble_eq_true rfl, Nat.le_of_ble_eq_true rfl⟩ (fun r_1 hr_1 => ?_)
  subst hr_1
  refine lv_if_eq (tgt := 16) hx hb dX6_pledgeRefused_5 (by decide) (fun c_2 => ?_) (fun c_2 => ?_)
  · replace c_2 := bI_e0 c_2
    refine lv_iconst (v := 1) hx hb dX6_pledgeRefused_16 (by decide) ?_
    refine lv_goto (tgt := 32) hx hb dX6_pledgeRefused_17 (by decide) ?_
    exact hret _ _ _ (show 1 = plF N u v d from by
        clear hret hl; simp [plF, *]) dX6_pledgeRefused_32
  · replace c_2 := bI_n0 c_2
    refine lv_aload_n hx hb dX6_pledgeRefused_8 rfl (lv_at hl 0 rfl) ?_
    refine lv_iload_n hx hb dX6_pledgeRefused_9 rfl (lv_at hl 2 rfl) ?_
    refine ro_V S hkx (mX6_isVersion l (v := v) (hP := hP) (hwf := hwf) (hr := hr)) gX6_pledgeRefused_X6_isVersion rfl idX6_isVersion ⟨Nat.le_of_ble_eq_true rfl, Nat.le_of_ble_eq_true rfl⟩ hP 0 rfl rfl rfl rfl hl.1 rfl (Nat.le_of_ble_eq_true rfl) dX6_pledgeRefused_10 ⟨Nat.le_of_ble_eq_true rfl, Nat.le_of_ble_eq_true rfl⟩ (fun r_3 hr_3 => ?_)
    subst hr_3
    refine lv_if_ne (tgt := 20) hx hb dX6_pledgeRefused_13 (by decide) (fun c_4 => ?_) (fun c_4 => ?_)
    · replace c_4 := bI_n0 c_4
      refine lv_iload_n hx hb dX6_pledgeRefused_20 rfl (lv_at hl 3 rfl) ?_
      refine ro_S S hkx (mX6_isDay l (d := d)) gX6_pledgeRefused_X6_isDay rfl idX6_isDay.2 ⟨Nat.le_of_ble_eq_true rfl, Nat.le_of_ble_eq_true rfl⟩ rfl hl.1 rfl (Nat.le_of_ble_eq_true rfl) dX6_pledgeRefused_21 ⟨Nat.le_of_ble_eq_true rfl, Nat.le_of_ble_eq_true rfl⟩ (fun r_5 hr_5 => ?_)
      subst hr_5
      refine lv_if_ne (tgt := 31) hx hb dX6_pledgeRefused_24 (by decide) (fun c_6 => ?_) (fun c_6 => ?_)
      · replace c_6 := bI_n0 c_6
        refine lv_iconst (v := 0) hx hb dX6_pledgeRefused_31 (by decide) ?_
        exact hret _ _ _ (show 0 = plF N u v d from by
            clear hret hl; simp [plF, *]) dX6_pledgeRefused_32
      · replace c_6 := bI_e0 c_6
        refine lv_iconst (v := 2) hx hb dX6_pledgeRefused_27 (by decide) ?_
        refine lv_goto (tgt := 32) hx hb dX6_pledgeRefused_28 (by decide) ?_
        exact hret _ _ _ (show 2 = plF N u v d from by
            clear hret hl; simp [plF, *]) dX6_pledgeRefused_32
    · replace c_4 := bI_e0 c_4
      refine lv_iconst (v := 1) hx hb dX6_pledgeRefused_16 (by decide) ?_
      refine lv_goto (tgt := 32) hx hb dX6_pledgeRefused_17 (by decide) ?_
      exact hret _ _ _ (show 1 = plF N u v d from by
          clear hret hl; simp [plF, *]) dX6_pledgeRefused_32

theorem idX6_slipRefused : yX6_slipRefused.cls = RX6 ∧ yX6_slipRefused.cls ≠ "java/lang/invoke/MethodHandle" ∧ yX6_slipRefused.cls ≠ "java/lang/invoke/VarHandle" ∧ (parseMethodDescriptor yX6_slipRefused.desc).map (fun d => d.parameters.length) = some 2 := by decide +kernel

set_option maxHeartbeats 4000000 in
set_option maxRecDepth 100000 in
theorem mX6_slipRefused (l : Launch) {G : va_G} {T : Nat → ClassId} {H : Heap} {r : Nat → Nat} {N : Nat → Nat} {Z : Nat → Nat → Int32} {mm : Nat → Int32} {pp : Nat → Int32} {xx : Nat → Int32} {th : Int32} {sv : Nat} {n1 : Nat} {ac : Int32} {ea : Int32} {le : Int32} {v1 : Int32} {v2 : Int32} {v3 : Int32} {v4 : Int32} {v5 : Int32} {u : Int32} {t : Int32} (hP : va_P G vwCl (wMod T r mm pp xx th sv n1 ac ea le v1 v2 v3 v4 v5) H) (hwf : wf N Z) (hr : rel N Z mm) : ro l yX6_slipRefused wsX6_slipRefused 2 43 [.ref (r 0), .int u, .int t] G T H (fun r => r = slF N Z u t) := by
  refine ro_of (cc := cX6_slipRefused) (maxL := 3) (ret := .int) (own := RX6) (by decide +kernel) rfl rfl (Nat.le_of_ble_eq_true rfl) (fun v _ => vp_nar_int v) ?_
  intro p e s m below meth c Q ls S hkx hl hret
  obtain ⟨hx, hb, hml, hown, hts⟩ := id S
  have hl : lv_has ls 3 [(0, .ref (r 0)), (1, .int u), (2, .int t)] := hl
  have hb2 := hwf.1
  obtain ⟨hr0, hr1, hr2, hr3, hrv, hrf, hru, hrs⟩ := id hr
  refine lv_aload_n hx hb dX6_slipRefused_0 rfl (lv_at hl 0 rfl) ?_
  refine lv_iload_n hx hb dX6_slipRefused_1 rfl (lv_at hl 1 rfl) ?_
  refine ro_V S hkx (mX6_isUser l (v := u) (hP := hP) (hwf := hwf) (hr := hr)) gX6_slipRefused_X6_isUser rfl idX6_isUser ⟨Nat.le_of_ble_eq_true rfl, Nat.le_of_ble_eq_true rfl⟩ hP 0 rfl rfl rfl rfl hl.1 rfl (Nat.le_of_ble_eq_true rfl) dX6_slipRefused_2 ⟨Nat.le_of_ble_eq_true rfl, Nat.le_of_ble_eq_true rfl⟩ (fun r_1 hr_1 => ?_)
  subst hr_1
  refine lv_if_ne (tgt := 10) hx hb dX6_slipRefused_5 (by decide) (fun c_2 => ?_) (fun c_2 => ?_)
  · replace c_2 := bI_n0 c_2
    refine lv_iload_n hx hb dX6_slipRefused_10 rfl (lv_at hl 2 rfl) ?_
    refine lv_iconst (v := 1) hx hb dX6_slipRefused_11 (by decide) ?_
    refine lv_bipush (v := 99) hx hb dX6_slipRefused_12 (by decide) ?_
    refine ro_S S hkx (mX6_in l (v := t) (x := 1) (z := 99)) gX6_slipRefused_X6_in rfl idX6_in.2 ⟨Nat.le_of_ble_eq_true rfl, Nat.le_of_ble_eq_true rfl⟩ rfl hl.1 rfl (Nat.le_of_ble_eq_true rfl) dX6_slipRefused_14 ⟨Nat.le_of_ble_eq_true rfl, Nat.le_of_ble_eq_true rfl⟩ (fun r_3 hr_3 => ?_)
    subst hr_3
    refine lv_if_ne (tgt := 22) hx hb dX6_slipRefused_17 (by decide) (fun c_4 => ?_) (fun c_4 => ?_)
    · replace c_4 := bI_n0 c_4
      obtain ⟨k, hk, rfl⟩ := isT_nat (i := u) (n := N 2) (by omega) (by assumption)
      refine lv_aload_n hx hb dX6_slipRefused_22 rfl (lv_at hl 0 rfl) ?_
      refine lv_iload_n hx hb dX6_slipRefused_23 rfl (lv_at hl 1 rfl) ?_
      refine lv_iconst (v := 2) hx hb dX6_slipRefused_24 (by decide) ?_
      refine ro_V S hkx (mX6_ofUser l (u := k) (w := 2) (hP := hP) (hwf := hwf) (hr := hr) (hu := (by omega)) (hw := (by omega))) gX6_slipRefused_X6_ofUser rfl idX6_ofUser ⟨Nat.le_of_ble_eq_true rfl, Nat.le_of_ble_eq_true rfl⟩ hP 0 rfl rfl rfl rfl hl.1 rfl (Nat.le_of_ble_eq_true rfl) dX6_slipRefused_25 ⟨Nat.le_of_ble_eq_true rfl, Nat.le_of_ble_eq_true rfl⟩ (fun r_5 hr_5 => ?_)
      subst hr_5
      skip
      refine lv_iconst (v := (-1)) hx hb dX6_slipRefused_28 (by decide) ?_
      refine lv_icmp_eq (tgt := 46) hx hb dX6_slipRefused_29 (by decide) (fun c_6 => ?_) (fun c_6 => ?_)
      · skip
        refine lv_iconst (v := 3) hx hb dX6_slipRefused_46 (by decide) ?_
        refine lv_goto (tgt := 51) hx hb dX6_slipRefused_47 (by decide) ?_
        exact hret _ _ _ (show 3 = slF N Z (nI k) t from by
            clear hret hl; simp only [slF, pled, nI_clamp (show k < 2 ^ 31 by omega)]; simp [*]) dX6_slipRefused_51
      · skip
        refine lv_aload_n hx hb dX6_slipRefused_32 rfl (lv_at hl 0 rfl) ?_
        refine lv_iload_n hx hb dX6_slipRefused_33 rfl (lv_at hl 1 rfl) ?_
        refine lv_iconst (v := 3) hx hb dX6_slipRefused_34 (by decide) ?_
        refine ro_V S hkx (mX6_ofUser l (u := k) (w := 3) (hP := hP) (hwf := hwf) (hr := hr) (hu := (by omega)) (hw := (by omega))) gX6_slipRefused_X6_ofUser rfl idX6_ofUser ⟨Nat.le_of_ble_eq_true rfl, Nat.le_of_ble_eq_true rfl⟩ hP 0 rfl rfl rfl rfl hl.1 rfl (Nat.le_of_ble_eq_true rfl) dX6_slipRefused_35 ⟨Nat.le_of_ble_eq_true rfl, Nat.le_of_ble_eq_true rfl⟩ (fun r_7 hr_7 => ?_)
        subst hr_7
        skip
        refine lv_iload_n hx hb dX6_slipRefused_38 rfl (lv_at hl 2 rfl) ?_
        refine lv_iadd hx hb dX6_slipRefused_39 ?_
        refine lv_sipush (v := 999) hx hb dX6_slipRefused_40 (by decide) ?_
        refine lv_icmp_le (tgt := 50) hx hb dX6_slipRefused_43 (by decide) (fun c_8 => ?_) (fun c_8 => ?_)
        · have c_8n := Int32.not_lt.mpr c_8
          refine lv_iconst (v := 0) hx hb dX6_slipRefused_50 (by decide) ?_
          exact hret _ _ _ (show 0 = slF N Z (nI k) t from by
              clear hret hl; simp only [slF, pled, nI_clamp (show k < 2 ^ 31 by omega)]; simp [*]) dX6_slipRefused_51
        · have c_8n := Int32.not_le.mp c_8
          refine lv_iconst (v := 3) hx hb dX6_slipRefused_46 (by decide) ?_
          refine lv_goto (tgt := 51) hx hb dX6_slipRefused_47 (by decide) ?_
          exact hret _ _ _ (show 3 = slF N Z (nI k) t from by
              clear hret hl; simp only [slF, pled, nI_clamp (show k < 2 ^ 31 by omega)]; simp [*]) dX6_slipRefused_51
    · replace c_4 := bI_e0 c_4
      refine lv_iconst (v := 2) hx hb dX6_slipRefused_20 (by decide) ?_
      exact hret _ _ _ (show 2 = slF N Z u t from by
          clear hret hl; simp [slF, *]) dX6_slipRefused_21
  · replace c_2 := bI_e0 c_2
    refine lv_iconst (v := 1) hx hb dX6_slipRefused_8 (by decide) ?_
    exact hret _ _ _ (show 1 = slF N Z u t from by
        clear hret hl; simp [slF, *]) dX6_slipRefused_9

theorem idX6_extendRefused : yX6_extendRefused.cls = RX6 ∧ yX6_extendRefused.cls ≠ "java/lang/invoke/MethodHandle" ∧ yX6_extendRefused.cls ≠ "java/lang/invoke/VarHandle" ∧ (parseMethodDescriptor yX6_extendRefused.desc).map (fun d => d.parameters.length) = some 2 := by decide +kernel

set_option maxHeartbeats 4000000 in
set_option maxRecDepth 100000 in
theorem mX6_extendRefused (l : Launch) {G : va_G} {T : Nat → ClassId} {H : Heap} {r : Nat → Nat} {N : Nat → Nat} {Z : Nat → Nat → Int32} {mm : Nat → Int32} {pp : Nat → Int32} {xx : Nat → Int32} {th : Int32} {sv : Nat} {n1 : Nat} {ac : Int32} {ea : Int32} {le : Int32} {v1 : Int32} {v2 : Int32} {v3 : Int32} {v4 : Int32} {v5 : Int32} {v : Int32} {t : Int32} (hP : va_P G vwCl (wMod T r mm pp xx th sv n1 ac ea le v1 v2 v3 v4 v5) H) (hwf : wf N Z) (hr : rel N Z mm) : ro l yX6_extendRefused wsX6_extendRefused 2 43 [.ref (r 0), .int v, .int t] G T H (fun r => r = exF N Z v t) := by
  refine ro_of (cc := cX6_extendRefused) (maxL := 3) (ret := .int) (own := RX6) (by decide +kernel) rfl rfl (Nat.le_of_ble_eq_true rfl) (fun v _ => vp_nar_int v) ?_
  intro p e s m below meth c Q ls S hkx hl hret
  obtain ⟨hx, hb, hml, hown, hts⟩ := id S
  have hl : lv_has ls 3 [(0, .ref (r 0)), (1, .int v), (2, .int t)] := hl
  have hb2 := hwf.1
  obtain ⟨hr0, hr1, hr2, hr3, hrv, hrf, hru, hrs⟩ := id hr
  refine lv_aload_n hx hb dX6_extendRefused_0 rfl (lv_at hl 0 rfl) ?_
  refine lv_iload_n hx hb dX6_extendRefused_1 rfl (lv_at hl 1 rfl) ?_
  refine ro_V S hkx (mX6_isVersion l (v := v) (hP := hP) (hwf := hwf) (hr := hr)) gX6_extendRefused_X6_isVersion rfl idX6_isVersion ⟨Nat.le_of_ble_eq_true rfl, Nat.le_of_ble_eq_true rfl⟩ hP 0 rfl rfl rfl rfl hl.1 rfl (Nat.le_of_ble_eq_true rfl) dX6_extendRefused_2 ⟨Nat.le_of_ble_eq_true rfl, Nat.le_of_ble_eq_true rfl⟩ (fun r_1 hr_1 => ?_)
  subst hr_1
  refine lv_if_ne (tgt := 12) hx hb dX6_extendRefused_5 (by decide) (fun c_2 => ?_) (fun c_2 => ?_)
  · replace c_2 := bI_n0 c_2
    refine lv_iload_n hx hb dX6_extendRefused_12 rfl (lv_at hl 2 rfl) ?_
    refine lv_iconst (v := 1) hx hb dX6_extendRefused_13 (by decide) ?_
    refine lv_bipush (v := 99) hx hb dX6_extendRefused_14 (by decide) ?_
    refine ro_S S hkx (mX6_in l (v := t) (x := 1) (z := 99)) gX6_extendRefused_X6_in rfl idX6_in.2 ⟨Nat.le_of_ble_eq_true rfl, Nat.le_of_ble_eq_true rfl⟩ rfl hl.1 rfl (Nat.le_of_ble_eq_true rfl) dX6_extendRefused_16 ⟨Nat.le_of_ble_eq_true rfl, Nat.le_of_ble_eq_true rfl⟩ (fun r_3 hr_3 => ?_)
    subst hr_3
    refine lv_if_ne (tgt := 26) hx hb dX6_extendRefused_19 (by decide) (fun c_4 => ?_) (fun c_4 => ?_)
    · replace c_4 := bI_n0 c_4
      obtain ⟨k, hk, rfl⟩ := isT_nat (i := v) (n := N 0) (by omega) (by assumption)
      refine lv_aload_n hx hb dX6_extendRefused_26 rfl (lv_at hl 0 rfl) ?_
      refine lv_iload_n hx hb dX6_extendRefused_27 rfl (lv_at hl 1 rfl) ?_
      refine ro_V S hkx (mX6_end l (v := k) (hP := hP) (hwf := hwf) (hr := hr) (hv := (by omega))) gX6_extendRefused_X6_end rfl idX6_end ⟨Nat.le_of_ble_eq_true rfl, Nat.le_of_ble_eq_true rfl⟩ hP 0 rfl rfl rfl rfl hl.1 rfl (Nat.le_of_ble_eq_true rfl) dX6_extendRefused_28 ⟨Nat.le_of_ble_eq_true rfl, Nat.le_of_ble_eq_true rfl⟩ (fun r_5 hr_5 => ?_)
      subst hr_5
      refine lv_iload_n hx hb dX6_extendRefused_31 rfl (lv_at hl 2 rfl) ?_
      refine lv_iadd hx hb dX6_extendRefused_32 ?_
      refine lv_sipush (v := 1000) hx hb dX6_extendRefused_33 (by decide) ?_
      refine lv_icmp_le (tgt := 43) hx hb dX6_extendRefused_36 (by decide) (fun c_6 => ?_) (fun c_6 => ?_)
      · have c_6n := Int32.not_lt.mpr c_6
        refine lv_iconst (v := 0) hx hb dX6_extendRefused_43 (by decide) ?_
        exact hret _ _ _ (show 0 = exF N Z (nI k) t from by
            clear hret hl; simp only [exF, nI_clamp (show k < 2 ^ 31 by omega)]; simp [*]) dX6_extendRefused_44
      · have c_6n := Int32.not_le.mp c_6
        refine lv_iconst (v := 3) hx hb dX6_extendRefused_39 (by decide) ?_
        refine lv_goto (tgt := 44) hx hb dX6_extendRefused_40 (by decide) ?_
        exact hret _ _ _ (show 3 = exF N Z (nI k) t from by
            clear hret hl; simp only [exF, nI_clamp (show k < 2 ^ 31 by omega)]; simp [*]) dX6_extendRefused_44
    · replace c_4 := bI_e0 c_4
      refine lv_iconst (v := 2) hx hb dX6_extendRefused_22 (by decide) ?_
      refine lv_goto (tgt := 44) hx hb dX6_extendRefused_23 (by decide) ?_
      exact hret _ _ _ (show 2 = exF N Z v t from by
          clear hret hl; simp [exF, *]) dX6_extendRefused_44
  · replace c_2 := bI_e0 c_2
    refine lv_iconst (v := 1) hx hb dX6_extendRefused_8 (by decide) ?_
    refine lv_goto (tgt := 44) hx hb dX6_extendRefused_9 (by decide) ?_
    exact hret _ _ _ (show 1 = exF N Z v t from by
        clear hret hl; simp [exF, *]) dX6_extendRefused_44

theorem idX6_shimRefused : yX6_shimRefused.cls = RX6 ∧ yX6_shimRefused.cls ≠ "java/lang/invoke/MethodHandle" ∧ yX6_shimRefused.cls ≠ "java/lang/invoke/VarHandle" ∧ (parseMethodDescriptor yX6_shimRefused.desc).map (fun d => d.parameters.length) = some 5 := by decide +kernel

set_option maxHeartbeats 4000000 in
set_option maxRecDepth 100000 in
theorem mX6_shimRefused (l : Launch) {G : va_G} {T : Nat → ClassId} {H : Heap} {r : Nat → Nat} {N : Nat → Nat} {Z : Nat → Nat → Int32} {mm : Nat → Int32} {pp : Nat → Int32} {xx : Nat → Int32} {th : Int32} {sv : Nat} {n1 : Nat} {ac : Int32} {ea : Int32} {le : Int32} {v1 : Int32} {v2 : Int32} {v3 : Int32} {v4 : Int32} {v5 : Int32} {f : Int32} {v : Int32} {x : Int32} {z : Int32} {y : Int32} (hP : va_P G vwCl (wMod T r mm pp xx th sv n1 ac ea le v1 v2 v3 v4 v5) H) (hwf : wf N Z) (hr : rel N Z mm) : ro l yX6_shimRefused wsX6_shimRefused 2 43 [.ref (r 0), .int f, .int v, .int x, .int z, .int y] G T H (fun r => r = shF N f v x z y) := by
  refine ro_of (cc := cX6_shimRefused) (maxL := 6) (ret := .int) (own := RX6) (by decide +kernel) rfl rfl (Nat.le_of_ble_eq_true rfl) (fun v _ => vp_nar_int v) ?_
  intro p e s m below meth c Q ls S hkx hl hret
  obtain ⟨hx, hb, hml, hown, hts⟩ := id S
  have hl : lv_has ls 6 [(0, .ref (r 0)), (1, .int f), (2, .int v), (3, .int x), (4, .int z), (5, .int y)] := hl
  have k7 := hts (.fieldLink RX6 7 "SunsetDatesModel" "now" "[I") (by decide +kernel)
  have iX6 : ∀ w ∈ wsX60, w ∈ wsX6_shimRefused := by decide +kernel
  have hb2 := hwf.1
  obtain ⟨hr0, hr1, hr2, hr3, hrv, hrf, hru, hrs⟩ := id hr
  refine lv_aload_n hx hb dX6_shimRefused_0 rfl (lv_at hl 0 rfl) ?_
  refine lv_iload_n hx hb dX6_shimRefused_1 rfl (lv_at hl 1 rfl) ?_
  refine ro_V S hkx (mX6_isFeature l (v := f) (hP := hP) (hwf := hwf) (hr := hr)) gX6_shimRefused_X6_isFeature rfl idX6_isFeature ⟨Nat.le_of_ble_eq_true rfl, Nat.le_of_ble_eq_true rfl⟩ hP 0 rfl rfl rfl rfl hl.1 rfl (Nat.le_of_ble_eq_true rfl) dX6_shimRefused_2 ⟨Nat.le_of_ble_eq_true rfl, Nat.le_of_ble_eq_true rfl⟩ (fun r_1 hr_1 => ?_)
  subst hr_1
  refine lv_if_eq (tgt := 16) hx hb dX6_shimRefused_5 (by decide) (fun c_2 => ?_) (fun c_2 => ?_)
  · replace c_2 := bI_e0 c_2
    refine lv_iconst (v := 1) hx hb dX6_shimRefused_16 (by decide) ?_
    exact hret _ _ _ (show 1 = shF N f v x z y from by
        clear hret hl; first | (simp [shF, *]; done) | (simp only [shF, *]; rw [if_neg (by omega)]; simp; done) | (simp only [shF, *]; rw [if_pos (show N 3 < 12 by omega)]; simp)) dX6_shimRefused_17
  · replace c_2 := bI_n0 c_2
    refine lv_aload_n hx hb dX6_shimRefused_8 rfl (lv_at hl 0 rfl) ?_
    refine lv_iload_n hx hb dX6_shimRefused_9 rfl (lv_at hl 2 rfl) ?_
    refine ro_V S hkx (mX6_isVersion l (v := v) (hP := hP) (hwf := hwf) (hr := hr)) gX6_shimRefused_X6_isVersion rfl idX6_isVersion ⟨Nat.le_of_ble_eq_true rfl, Nat.le_of_ble_eq_true rfl⟩ hP 0 rfl rfl rfl rfl hl.1 rfl (Nat.le_of_ble_eq_true rfl) dX6_shimRefused_10 ⟨Nat.le_of_ble_eq_true rfl, Nat.le_of_ble_eq_true rfl⟩ (fun r_3 hr_3 => ?_)
    subst hr_3
    refine lv_if_ne (tgt := 18) hx hb dX6_shimRefused_13 (by decide) (fun c_4 => ?_) (fun c_4 => ?_)
    · replace c_4 := bI_n0 c_4
      refine lv_iload_n hx hb dX6_shimRefused_18 rfl (lv_at hl 3 rfl) ?_
      refine ro_S S hkx (mX6_isDay l (d := x)) gX6_shimRefused_X6_isDay rfl idX6_isDay.2 ⟨Nat.le_of_ble_eq_true rfl, Nat.le_of_ble_eq_true rfl⟩ rfl hl.1 rfl (Nat.le_of_ble_eq_true rfl) dX6_shimRefused_19 ⟨Nat.le_of_ble_eq_true rfl, Nat.le_of_ble_eq_true rfl⟩ (fun r_5 hr_5 => ?_)
      subst hr_5
      refine lv_if_eq (tgt := 48) hx hb dX6_shimRefused_22 (by decide) (fun c_6 => ?_) (fun c_6 => ?_)
      · replace c_6 := bI_e0 c_6
        refine lv_iconst (v := 2) hx hb dX6_shimRefused_48 (by decide) ?_
        exact hret _ _ _ (show 2 = shF N f v x z y from by
            clear hret hl; first | (simp [shF, *]; done) | (simp only [shF, *]; rw [if_neg (by omega)]; simp; done) | (simp only [shF, *]; rw [if_pos (show N 3 < 12 by omega)]; simp)) dX6_shimRefused_49
      · replace c_6 := bI_n0 c_6
        refine lv_iload hx hb dX6_shimRefused_25 (lv_at hl 4 rfl) ?_
        refine lv_iload_n hx hb dX6_shimRefused_27 rfl (lv_at hl 3 rfl) ?_
        refine lv_sipush (v := 999) hx hb dX6_shimRefused_28 (by decide) ?_
        refine ro_S S hkx (mX6_in l (v := z) (x := x) (z := 999)) gX6_shimRefused_X6_in rfl idX6_in.2 ⟨Nat.le_of_ble_eq_true rfl, Nat.le_of_ble_eq_true rfl⟩ rfl hl.1 rfl (Nat.le_of_ble_eq_true rfl) dX6_shimRefused_31 ⟨Nat.le_of_ble_eq_true rfl, Nat.le_of_ble_eq_true rfl⟩ (fun r_7 hr_7 => ?_)
        subst hr_7
        refine lv_if_eq (tgt := 48) hx hb dX6_shimRefused_34 (by decide) (fun c_8 => ?_) (fun c_8 => ?_)
        · replace c_8 := bI_e0 c_8
          refine lv_iconst (v := 2) hx hb dX6_shimRefused_48 (by decide) ?_
          exact hret _ _ _ (show 2 = shF N f v x z y from by
              clear hret hl; first | (simp [shF, *]; done) | (simp only [shF, *]; rw [if_neg (by omega)]; simp; done) | (simp only [shF, *]; rw [if_pos (show N 3 < 12 by omega)]; simp)) dX6_shimRefused_49
        · replace c_8 := bI_n0 c_8
          refine lv_iload hx hb dX6_shimRefused_37 (lv_at hl 5 rfl) ?_
          refine lv_iconst (v := 1) hx hb dX6_shimRefused_39 (by decide) ?_
          refine lv_bipush (v := 99) hx hb dX6_shimRefused_40 (by decide) ?_
          refine ro_S S hkx (mX6_in l (v := y) (x := 1) (z := 99)) gX6_shimRefused_X6_in rfl idX6_in.2 ⟨Nat.le_of_ble_eq_true rfl, Nat.le_of_ble_eq_true rfl⟩ rfl hl.1 rfl (Nat.le_of_ble_eq_true rfl) dX6_shimRefused_42 ⟨Nat.le_of_ble_eq_true rfl, Nat.le_of_ble_eq_true rfl⟩ (fun r_9 hr_9 => ?_)
          subst hr_9
          refine lv_if_ne (tgt := 50) hx hb dX6_shimRefused_45 (by decide) (fun c_10 => ?_) (fun c_10 => ?_)
          · replace c_10 := bI_n0 c_10
            refine lv_aload_n hx hb dX6_shimRefused_50 rfl (lv_at hl 0 rfl) ?_
            refine va_get (D := G) (ci := 6) (C := RX6) (T := TX6) (N := 14) hx hb hts iX6 hown hkx.1 hP 0 rfl rfl 0 (by decide) k7 (fun _ h9 => h9) rfl dX6_shimRefused_51 ?_
            refine lv_iconst (v := 3) hx hb dX6_shimRefused_54 (by decide) ?_
            refine ia hx hb hkx hP 1 rfl 3 rfl (by omega) (by decide) dX6_shimRefused_55 ?_
            rw [hr3]
            refine lv_bipush (v := 12) hx hb dX6_shimRefused_56 (by decide) ?_
            refine lv_icmp_ne (tgt := 65) hx hb dX6_shimRefused_58 (by decide) (fun c_11 => ?_) (fun c_11 => ?_)
            · replace c_11 := cn_ne (a := (N 3)) (b := 12) (by omega) (by omega) c_11
              refine lv_iconst (v := 0) hx hb dX6_shimRefused_65 (by decide) ?_
              exact hret _ _ _ (show 0 = shF N f v x z y from by
                  clear hret hl; first | (simp [shF, *]; done) | (simp only [shF, *]; rw [if_neg (by omega)]; simp; done) | (simp only [shF, *]; rw [if_pos (show N 3 < 12 by omega)]; simp)) dX6_shimRefused_66
            · replace c_11 := cn_eq (a := (N 3)) (b := 12) (by omega) (by omega) c_11
              refine lv_iconst (v := 3) hx hb dX6_shimRefused_61 (by decide) ?_
              refine lv_goto (tgt := 66) hx hb dX6_shimRefused_62 (by decide) ?_
              exact hret _ _ _ (show 3 = shF N f v x z y from by
                  clear hret hl; first | (simp [shF, *]; done) | (simp only [shF, *]; rw [if_neg (by omega)]; simp; done) | (simp only [shF, *]; rw [if_pos (show N 3 < 12 by omega)]; simp)) dX6_shimRefused_66
          · replace c_10 := bI_e0 c_10
            refine lv_iconst (v := 2) hx hb dX6_shimRefused_48 (by decide) ?_
            exact hret _ _ _ (show 2 = shF N f v x z y from by
                clear hret hl; first | (simp [shF, *]; done) | (simp only [shF, *]; rw [if_neg (by omega)]; simp; done) | (simp only [shF, *]; rw [if_pos (show N 3 < 12 by omega)]; simp)) dX6_shimRefused_49
    · replace c_4 := bI_e0 c_4
      refine lv_iconst (v := 1) hx hb dX6_shimRefused_16 (by decide) ?_
      exact hret _ _ _ (show 1 = shF N f v x z y from by
          clear hret hl; first | (simp [shF, *]; done) | (simp only [shF, *]; rw [if_neg (by omega)]; simp; done) | (simp only [shF, *]; rw [if_pos (show N 3 < 12 by omega)]; simp)) dX6_shimRefused_17

theorem idX6_refused : yX6_refused.cls = RX6 ∧ yX6_refused.cls ≠ "java/lang/invoke/MethodHandle" ∧ yX6_refused.cls ≠ "java/lang/invoke/VarHandle" ∧ (parseMethodDescriptor yX6_refused.desc).map (fun d => d.parameters.length) = some 1 := by decide +kernel

set_option maxHeartbeats 4000000 in
set_option maxRecDepth 100000 in
theorem mX6_refused (l : Launch) {G : va_G} {T : Nat → ClassId} {H0 : Heap} {r : Nat → Nat} {N : Nat → Nat} {Z : Nat → Nat → Int32} {mm : Nat → Int32} {pp : Nat → Int32} {xx : Nat → Int32} {th : Int32} {sv : Nat} {n1 : Nat} {ac : Int32} {ea : Int32} {le : Int32} {v1 : Int32} {v2 : Int32} {v3 : Int32} {v4 : Int32} {v5 : Int32} {x : Int32} (hP : va_P G vwCl (wMod T r mm pp xx th sv n1 ac ea le v1 v2 v3 v4 v5) H0) (hD : va_D (fun _ => True) (wMod T r mm pp xx th sv n1 ac ea le v1 v2 v3 v4 v5)) : mu l yX6_refused wsX6_refused 0 0 [.ref (r 0), .int x] G T H0 (wMod T r mm pp xx th sv n1 ac ea le v1 v2 v3 v4 v5) (fun v9 H9 => v9 = some (.int 0) ∧ va_P G vwCl (wMod T r mm pp xx x sv n1 ac ea le v1 v2 v3 v4 v5) H9) := by
  refine mu_ofi (cc := cX6_refused) (maxL := 2) (ret := .int) (own := RX6) (by decide +kernel) rfl rfl (Nat.le_of_ble_eq_true rfl) hD ?_
  intro p e s m below meth c Q ls A S hkx hl hD hS hA hret
  obtain ⟨hx, hb, hml, hown, hts⟩ := id S
  have hl : lv_has ls 2 [(0, .ref (r 0)), (1, .int x)] := hl
  have k19 := hts (.fieldLink RX6 19 "SunsetDatesModel" "thrown" "I") (by decide +kernel)
  have iX6 : ∀ w ∈ wsX60, w ∈ wsX6_refused := by decide +kernel
  refine lv_aload_n hx hb dX6_refused_0 rfl (lv_at hl 0 rfl) ?_
  refine lv_iload_n hx hb dX6_refused_1 rfl (lv_at hl 1 rfl) ?_
  refine va_put (D := G) (ci := 6) (v := .int x) (ty := .int) (C := RX6) (T := TX6) (N := 14) hx hb hts iX6 tyX6 tyX6_ok nmX6 hown hkx.1 hP hD hS 0 rfl rfl 1 (by decide) k19 (fun _ h9 => h9) rfl (by decide +kernel) rfl rfl (Nat.le_of_ble_eq_true rfl) dX6_refused_2 (fun H locs hP hD hS => ?_)
  have hP : va_P G vwCl (wMod T r mm pp xx x sv n1 ac ea le v1 v2 v3 v4 v5) H := hP
  have hD : va_D A (wMod T r mm pp xx x sv n1 ac ea le v1 v2 v3 v4 v5) := hD
  refine lv_iconst (v := 0) hx hb dX6_refused_5 (by decide) ?_
  exact hret _ _ _ _ _ (show some (Value.int 0) = some (Value.int 0) ∧ va_P G vwCl (wMod T r mm pp xx x sv n1 ac ea le v1 v2 v3 v4 v5) H from ⟨rfl, hP⟩) rfl hS dX6_refused_6

theorem idX6_pledgeNow : yX6_pledgeNow.cls = RX6 ∧ yX6_pledgeNow.cls ≠ "java/lang/invoke/MethodHandle" ∧ yX6_pledgeNow.cls ≠ "java/lang/invoke/VarHandle" ∧ (parseMethodDescriptor yX6_pledgeNow.desc).map (fun d => d.parameters.length) = some 3 := by decide +kernel

set_option maxHeartbeats 4000000 in
set_option maxRecDepth 100000 in
theorem mX6_pledgeNow (l : Launch) {G : va_G} {T : Nat → ClassId} {H0 : Heap} {r : Nat → Nat} {N : Nat → Nat} {Z : Nat → Nat → Int32} {mm : Nat → Int32} {pp : Nat → Int32} {xx : Nat → Int32} {th : Int32} {sv : Nat} {n1 : Nat} {ac : Int32} {ea : Int32} {le : Int32} {v1 : Int32} {v2 : Int32} {v3 : Int32} {v4 : Int32} {v5 : Int32} {u : Nat} {v : Int32} {d : Int32} (hP : va_P G vwCl (wMod T r mm pp xx th sv n1 ac ea le v1 v2 v3 v4 v5) H0) (hD : va_D (fun _ => True) (wMod T r mm pp xx th sv n1 ac ea le v1 v2 v3 v4 v5)) (hwf : wf N Z) (hr : rel N Z mm) (hu : u < N 2) : mu l yX6_pledgeNow wsX6_pledgeNow 0 0 [.ref (r 0), .int (nI u), .int v, .int d] G T H0 (wMod T r mm pp xx th sv n1 ac ea le v1 v2 v3 v4 v5) (fun v9 H9 => v9 = some (.int (Z 8 u)) ∧ va_P G vwCl (wMod T r (mPl mm u v d) pp xx th sv n1 ac ea le v1 v2 v3 v4 v5) H9) := by
  refine mu_ofi (cc := cX6_pledgeNow) (maxL := 6) (ret := .int) (own := RX6) (by decide +kernel) rfl rfl (Nat.le_of_ble_eq_true rfl) hD ?_
  intro p e s m below meth c Q ls A S hkx hl hD hS hA hret
  obtain ⟨hx, hb, hml, hown, hts⟩ := id S
  have hl : lv_has ls 6 [(0, .ref (r 0)), (1, .int (nI u)), (2, .int v), (3, .int d)] := hl
  have k7 := hts (.fieldLink RX6 7 "SunsetDatesModel" "now" "[I") (by decide +kernel)
  have iX6 : ∀ w ∈ wsX60, w ∈ wsX6_pledgeNow := by decide +kernel
  have hb2 := hwf.1
  obtain ⟨hr0, hr1, hr2, hr3, hrv, hrf, hru, hrs⟩ := id hr
  refine lv_bipush (v := 38) hx hb dX6_pledgeNow_0 (by decide) ?_
  refine lv_bipush (v := 6) hx hb dX6_pledgeNow_2 (by decide) ?_
  refine lv_iload_n hx hb dX6_pledgeNow_4 rfl (lv_at hl 1 rfl) ?_
  refine lv_imul hx hb dX6_pledgeNow_5 ?_
  rw [show (6 * (nI u)) = (nI (6 * u)) from pk_mul _ _]
  refine lv_iadd hx hb dX6_pledgeNow_6 ?_
  rw [show (38 + (nI (6 * u))) = (nI (38 + (6 * u))) from nI_add 38 (6 * u)]
  refine lv_istore (lv' := [(4, .int (nI (38 + (6 * u)))), (0, .ref (r 0)), (1, .int (nI u)), (2, .int v), (3, .int d)]) hx hb dX6_pledgeNow_7 hl (by decide) rfl (fun ls hl => ?_)
  refine lv_aload_n hx hb dX6_pledgeNow_9 rfl (lv_at hl 1 rfl) ?_
  refine va_get (D := G) (ci := 6) (C := RX6) (T := TX6) (N := 14) hx hb hts iX6 hown hkx.1 hP 0 rfl rfl 0 (by decide) k7 (fun _ h9 => h9) rfl dX6_pledgeNow_10 ?_
  refine lv_iload hx hb dX6_pledgeNow_13 (lv_at hl 0 rfl) ?_
  refine lv_iconst (v := 3) hx hb dX6_pledgeNow_15 (by decide) ?_
  refine lv_iadd hx hb dX6_pledgeNow_16 ?_
  rw [show ((nI (38 + (6 * u))) + 3) = (nI ((38 + (6 * u)) + 3)) from nI_add (38 + (6 * u)) 3]
  refine ia hx hb hkx hP 1 rfl ((38 + (6 * u)) + 3) rfl (by omega) (by decide) dX6_pledgeNow_17 ?_
  refine lv_istore (lv' := [(5, .int (mm ((38 + (6 * u)) + 3))), (4, .int (nI (38 + (6 * u)))), (0, .ref (r 0)), (1, .int (nI u)), (2, .int v), (3, .int d)]) hx hb dX6_pledgeNow_18 hl (by decide) rfl (fun ls hl => ?_)
  refine lv_aload_n hx hb dX6_pledgeNow_20 rfl (lv_at hl 2 rfl) ?_
  refine va_get (D := G) (ci := 6) (C := RX6) (T := TX6) (N := 14) hx hb hts iX6 hown hkx.1 hP 0 rfl rfl 0 (by decide) k7 (fun _ h9 => h9) rfl dX6_pledgeNow_21 ?_
  refine lv_iload hx hb dX6_pledgeNow_24 (lv_at hl 1 rfl) ?_
  refine lv_iconst (v := 2) hx hb dX6_pledgeNow_26 (by decide) ?_
  refine lv_iadd hx hb dX6_pledgeNow_27 ?_
  rw [show ((nI (38 + (6 * u))) + 2) = (nI ((38 + (6 * u)) + 2)) from nI_add (38 + (6 * u)) 2]
  refine lv_iload_n hx hb dX6_pledgeNow_28 rfl (lv_at hl 4 rfl) ?_
  refine ist hx hb hkx hP hD hS 1 rfl ((38 + (6 * u)) + 2) rfl (by omega) (by decide) dX6_pledgeNow_29 (fun H locs hP hD hS => ?_)
  have hP : va_P G vwCl (wMod T r (upd mm ((38 + (6 * u)) + 2) v) pp xx th sv n1 ac ea le v1 v2 v3 v4 v5) H := hP
  have hD : va_D A (wMod T r (upd mm ((38 + (6 * u)) + 2) v) pp xx th sv n1 ac ea le v1 v2 v3 v4 v5) := hD
  refine lv_aload_n hx hb dX6_pledgeNow_30 rfl (lv_at hl 2 rfl) ?_
  refine va_get (D := G) (ci := 6) (C := RX6) (T := TX6) (N := 14) hx hb hts iX6 hown hkx.1 hP 0 rfl rfl 0 (by decide) k7 (fun _ h9 => h9) rfl dX6_pledgeNow_31 ?_
  refine lv_iload hx hb dX6_pledgeNow_34 (lv_at hl 1 rfl) ?_
  refine lv_iconst (v := 3) hx hb dX6_pledgeNow_36 (by decide) ?_
  refine lv_iadd hx hb dX6_pledgeNow_37 ?_
  rw [show ((nI (38 + (6 * u))) + 3) = (nI ((38 + (6 * u)) + 3)) from nI_add (38 + (6 * u)) 3]
  refine lv_iload_n hx hb dX6_pledgeNow_38 rfl (lv_at hl 5 rfl) ?_
  refine ist hx hb hkx hP hD hS 1 rfl ((38 + (6 * u)) + 3) rfl (by omega) (by decide) dX6_pledgeNow_39 (fun H locs hP hD hS => ?_)
  have hP : va_P G vwCl (wMod T r (upd (upd mm ((38 + (6 * u)) + 2) v) ((38 + (6 * u)) + 3) d) pp xx th sv n1 ac ea le v1 v2 v3 v4 v5) H := hP
  have hD : va_D A (wMod T r (upd (upd mm ((38 + (6 * u)) + 2) v) ((38 + (6 * u)) + 3) d) pp xx th sv n1 ac ea le v1 v2 v3 v4 v5) := hD
  refine lv_iload hx hb dX6_pledgeNow_40 (lv_at hl 0 rfl) ?_
  exact hret _ _ _ _ _ (show some (Value.int (mm ((38 + (6 * u)) + 3))) = some (Value.int (Z 8 u)) ∧ va_P G vwCl (wMod T r (mPl mm u v d) pp xx th sv n1 ac ea le v1 v2 v3 v4 v5) H from ⟨by refine congrArg (fun z => some (Value.int z)) (?_ : _ = _); exact hru u hu 3 (by omega), hP⟩) rfl hS dX6_pledgeNow_42

theorem idX6_slipNow : yX6_slipNow.cls = RX6 ∧ yX6_slipNow.cls ≠ "java/lang/invoke/MethodHandle" ∧ yX6_slipNow.cls ≠ "java/lang/invoke/VarHandle" ∧ (parseMethodDescriptor yX6_slipNow.desc).map (fun d => d.parameters.length) = some 2 := by decide +kernel

set_option maxHeartbeats 4000000 in
set_option maxRecDepth 100000 in
theorem mX6_slipNow (l : Launch) {G : va_G} {T : Nat → ClassId} {H0 : Heap} {r : Nat → Nat} {N : Nat → Nat} {Z : Nat → Nat → Int32} {mm : Nat → Int32} {pp : Nat → Int32} {xx : Nat → Int32} {th : Int32} {sv : Nat} {n1 : Nat} {ac : Int32} {ea : Int32} {le : Int32} {v1 : Int32} {v2 : Int32} {v3 : Int32} {v4 : Int32} {v5 : Int32} {u : Nat} {t : Int32} (hP : va_P G vwCl (wMod T r mm pp xx th sv n1 ac ea le v1 v2 v3 v4 v5) H0) (hD : va_D (fun _ => True) (wMod T r mm pp xx th sv n1 ac ea le v1 v2 v3 v4 v5)) (hwf : wf N Z) (hr : rel N Z mm) (hu : u < N 2) : mu l yX6_slipNow wsX6_slipNow 0 0 [.ref (r 0), .int (nI u), .int t] G T H0 (wMod T r mm pp xx th sv n1 ac ea le v1 v2 v3 v4 v5) (fun v9 H9 => v9 = some (.int (Z 8 u + t)) ∧ va_P G vwCl (wMod T r (mSl mm u t) pp xx th sv n1 ac ea le v1 v2 v3 v4 v5) H9) := by
  refine mu_ofi (cc := cX6_slipNow) (maxL := 4) (ret := .int) (own := RX6) (by decide +kernel) rfl rfl (Nat.le_of_ble_eq_true rfl) hD ?_
  intro p e s m below meth c Q ls A S hkx hl hD hS hA hret
  obtain ⟨hx, hb, hml, hown, hts⟩ := id S
  have hl : lv_has ls 4 [(0, .ref (r 0)), (1, .int (nI u)), (2, .int t)] := hl
  have k7 := hts (.fieldLink RX6 7 "SunsetDatesModel" "now" "[I") (by decide +kernel)
  have iX6 : ∀ w ∈ wsX60, w ∈ wsX6_slipNow := by decide +kernel
  have hb2 := hwf.1
  obtain ⟨hr0, hr1, hr2, hr3, hrv, hrf, hru, hrs⟩ := id hr
  refine lv_bipush (v := 38) hx hb dX6_slipNow_0 (by decide) ?_
  refine lv_bipush (v := 6) hx hb dX6_slipNow_2 (by decide) ?_
  refine lv_iload_n hx hb dX6_slipNow_4 rfl (lv_at hl 1 rfl) ?_
  refine lv_imul hx hb dX6_slipNow_5 ?_
  rw [show (6 * (nI u)) = (nI (6 * u)) from pk_mul _ _]
  refine lv_iadd hx hb dX6_slipNow_6 ?_
  rw [show (38 + (nI (6 * u))) = (nI (38 + (6 * u))) from nI_add 38 (6 * u)]
  refine lv_istore_n (lv' := [(3, .int (nI (38 + (6 * u)))), (0, .ref (r 0)), (1, .int (nI u)), (2, .int t)]) hx hb dX6_slipNow_7 rfl hl (by decide) rfl (fun ls hl => ?_)
  refine lv_aload_n hx hb dX6_slipNow_8 rfl (lv_at hl 1 rfl) ?_
  refine va_get (D := G) (ci := 6) (C := RX6) (T := TX6) (N := 14) hx hb hts iX6 hown hkx.1 hP 0 rfl rfl 0 (by decide) k7 (fun _ h9 => h9) rfl dX6_slipNow_9 ?_
  refine lv_iload_n hx hb dX6_slipNow_12 rfl (lv_at hl 0 rfl) ?_
  refine lv_iconst (v := 3) hx hb dX6_slipNow_13 (by decide) ?_
  refine lv_iadd hx hb dX6_slipNow_14 ?_
  rw [show ((nI (38 + (6 * u))) + 3) = (nI ((38 + (6 * u)) + 3)) from nI_add (38 + (6 * u)) 3]
  refine lv_dup2_11 hx hb dX6_slipNow_15 rfl rfl ?_
  refine ia hx hb hkx hP 1 rfl ((38 + (6 * u)) + 3) rfl (by omega) (by decide) dX6_slipNow_16 ?_
  refine lv_iload_n hx hb dX6_slipNow_17 rfl (lv_at hl 3 rfl) ?_
  refine lv_iadd hx hb dX6_slipNow_18 ?_
  refine ist hx hb hkx hP hD hS 1 rfl ((38 + (6 * u)) + 3) rfl (by omega) (by decide) dX6_slipNow_19 (fun H locs hP hD hS => ?_)
  have hP : va_P G vwCl (wMod T r (upd mm ((38 + (6 * u)) + 3) ((mm ((38 + (6 * u)) + 3)) + t)) pp xx th sv n1 ac ea le v1 v2 v3 v4 v5) H := hP
  have hD : va_D A (wMod T r (upd mm ((38 + (6 * u)) + 3) ((mm ((38 + (6 * u)) + 3)) + t)) pp xx th sv n1 ac ea le v1 v2 v3 v4 v5) := hD
  refine lv_aload_n hx hb dX6_slipNow_20 rfl (lv_at hl 1 rfl) ?_
  refine va_get (D := G) (ci := 6) (C := RX6) (T := TX6) (N := 14) hx hb hts iX6 hown hkx.1 hP 0 rfl rfl 0 (by decide) k7 (fun _ h9 => h9) rfl dX6_slipNow_21 ?_
  refine lv_iload_n hx hb dX6_slipNow_24 rfl (lv_at hl 0 rfl) ?_
  refine lv_iconst (v := 4) hx hb dX6_slipNow_25 (by decide) ?_
  refine lv_iadd hx hb dX6_slipNow_26 ?_
  rw [show ((nI (38 + (6 * u))) + 4) = (nI ((38 + (6 * u)) + 4)) from nI_add (38 + (6 * u)) 4]
  refine lv_dup2_11 hx hb dX6_slipNow_27 rfl rfl ?_
  refine ia hx hb hkx hP 1 rfl ((38 + (6 * u)) + 4) rfl (by omega) (by decide) dX6_slipNow_28 ?_
  rw [pk_un (show ((38 + (6 * u)) + 4) ≠ ((38 + (6 * u)) + 3) by omega)]
  refine lv_iconst (v := 1) hx hb dX6_slipNow_29 (by decide) ?_
  refine lv_iadd hx hb dX6_slipNow_30 ?_
  refine ist hx hb hkx hP hD hS 1 rfl ((38 + (6 * u)) + 4) rfl (by omega) (by decide) dX6_slipNow_31 (fun H locs hP hD hS => ?_)
  have hP : va_P G vwCl (wMod T r (upd (upd mm ((38 + (6 * u)) + 3) ((mm ((38 + (6 * u)) + 3)) + t)) ((38 + (6 * u)) + 4) ((mm ((38 + (6 * u)) + 4)) + 1)) pp xx th sv n1 ac ea le v1 v2 v3 v4 v5) H := hP
  have hD : va_D A (wMod T r (upd (upd mm ((38 + (6 * u)) + 3) ((mm ((38 + (6 * u)) + 3)) + t)) ((38 + (6 * u)) + 4) ((mm ((38 + (6 * u)) + 4)) + 1)) pp xx th sv n1 ac ea le v1 v2 v3 v4 v5) := hD
  refine lv_aload_n hx hb dX6_slipNow_32 rfl (lv_at hl 1 rfl) ?_
  refine va_get (D := G) (ci := 6) (C := RX6) (T := TX6) (N := 14) hx hb hts iX6 hown hkx.1 hP 0 rfl rfl 0 (by decide) k7 (fun _ h9 => h9) rfl dX6_slipNow_33 ?_
  refine lv_iload_n hx hb dX6_slipNow_36 rfl (lv_at hl 0 rfl) ?_
  refine lv_iconst (v := 5) hx hb dX6_slipNow_37 (by decide) ?_
  refine lv_iadd hx hb dX6_slipNow_38 ?_
  rw [show ((nI (38 + (6 * u))) + 5) = (nI ((38 + (6 * u)) + 5)) from nI_add (38 + (6 * u)) 5]
  refine lv_dup2_11 hx hb dX6_slipNow_39 rfl rfl ?_
  refine ia hx hb hkx hP 1 rfl ((38 + (6 * u)) + 5) rfl (by omega) (by decide) dX6_slipNow_40 ?_
  rw [pk_un (show ((38 + (6 * u)) + 5) ≠ ((38 + (6 * u)) + 4) by omega), pk_un (show ((38 + (6 * u)) + 5) ≠ ((38 + (6 * u)) + 3) by omega)]
  refine lv_iload_n hx hb dX6_slipNow_41 rfl (lv_at hl 3 rfl) ?_
  refine lv_iadd hx hb dX6_slipNow_42 ?_
  refine ist hx hb hkx hP hD hS 1 rfl ((38 + (6 * u)) + 5) rfl (by omega) (by decide) dX6_slipNow_43 (fun H locs hP hD hS => ?_)
  have hP : va_P G vwCl (wMod T r (upd (upd (upd mm ((38 + (6 * u)) + 3) ((mm ((38 + (6 * u)) + 3)) + t)) ((38 + (6 * u)) + 4) ((mm ((38 + (6 * u)) + 4)) + 1)) ((38 + (6 * u)) + 5) ((mm ((38 + (6 * u)) + 5)) + t)) pp xx th sv n1 ac ea le v1 v2 v3 v4 v5) H := hP
  have hD : va_D A (wMod T r (upd (upd (upd mm ((38 + (6 * u)) + 3) ((mm ((38 + (6 * u)) + 3)) + t)) ((38 + (6 * u)) + 4) ((mm ((38 + (6 * u)) + 4)) + 1)) ((38 + (6 * u)) + 5) ((mm ((38 + (6 * u)) + 5)) + t)) pp xx th sv n1 ac ea le v1 v2 v3 v4 v5) := hD
  refine lv_aload_n hx hb dX6_slipNow_44 rfl (lv_at hl 1 rfl) ?_
  refine va_get (D := G) (ci := 6) (C := RX6) (T := TX6) (N := 14) hx hb hts iX6 hown hkx.1 hP 0 rfl rfl 0 (by decide) k7 (fun _ h9 => h9) rfl dX6_slipNow_45 ?_
  refine lv_iload_n hx hb dX6_slipNow_48 rfl (lv_at hl 0 rfl) ?_
  refine lv_iconst (v := 3) hx hb dX6_slipNow_49 (by decide) ?_
  refine lv_iadd hx hb dX6_slipNow_50 ?_
  rw [show ((nI (38 + (6 * u))) + 3) = (nI ((38 + (6 * u)) + 3)) from nI_add (38 + (6 * u)) 3]
  refine ia hx hb hkx hP 1 rfl ((38 + (6 * u)) + 3) rfl (by omega) (by decide) dX6_slipNow_51 ?_
  rw [pk_un (show ((38 + (6 * u)) + 3) ≠ ((38 + (6 * u)) + 5) by omega), pk_un (show ((38 + (6 * u)) + 3) ≠ ((38 + (6 * u)) + 4) by omega), pk_us]
  exact hret _ _ _ _ _ (show some (Value.int ((mm ((38 + (6 * u)) + 3)) + t)) = some (Value.int (Z 8 u + t)) ∧ va_P G vwCl (wMod T r (mSl mm u t) pp xx th sv n1 ac ea le v1 v2 v3 v4 v5) H from ⟨by refine congrArg (fun z => some (Value.int z)) (?_ : _ = _); rw [show 38 + 6 * u + 3 = 38 + 6 * u + 3 from rfl, hru u hu 3 (by omega)], hP⟩) rfl hS dX6_slipNow_52

theorem idX6_extendNow : yX6_extendNow.cls = RX6 ∧ yX6_extendNow.cls ≠ "java/lang/invoke/MethodHandle" ∧ yX6_extendNow.cls ≠ "java/lang/invoke/VarHandle" ∧ (parseMethodDescriptor yX6_extendNow.desc).map (fun d => d.parameters.length) = some 2 := by decide +kernel

set_option maxHeartbeats 4000000 in
set_option maxRecDepth 100000 in
theorem mX6_extendNow (l : Launch) {G : va_G} {T : Nat → ClassId} {H0 : Heap} {r : Nat → Nat} {N : Nat → Nat} {Z : Nat → Nat → Int32} {mm : Nat → Int32} {pp : Nat → Int32} {xx : Nat → Int32} {th : Int32} {sv : Nat} {n1 : Nat} {ac : Int32} {ea : Int32} {le : Int32} {v1 : Int32} {v2 : Int32} {v3 : Int32} {v4 : Int32} {v5 : Int32} {v : Nat} {t : Int32} (hP : va_P G vwCl (wMod T r mm pp xx th sv n1 ac ea le v1 v2 v3 v4 v5) H0) (hD : va_D (fun _ => True) (wMod T r mm pp xx th sv n1 ac ea le v1 v2 v3 v4 v5)) (hwf : wf N Z) (hr : rel N Z mm) (hv : v < N 0) : mu l yX6_extendNow wsX6_extendNow 0 0 [.ref (r 0), .int (nI v), .int t] G T H0 (wMod T r mm pp xx th sv n1 ac ea le v1 v2 v3 v4 v5) (fun v9 H9 => v9 = some (.int (Z 2 v + t)) ∧ va_P G vwCl (wMod T r (mEx mm v t) pp xx th sv n1 ac ea le v1 v2 v3 v4 v5) H9) := by
  refine mu_ofi (cc := cX6_extendNow) (maxL := 4) (ret := .int) (own := RX6) (by decide +kernel) rfl rfl (Nat.le_of_ble_eq_true rfl) hD ?_
  intro p e s m below meth c Q ls A S hkx hl hD hS hA hret
  obtain ⟨hx, hb, hml, hown, hts⟩ := id S
  have hl : lv_has ls 4 [(0, .ref (r 0)), (1, .int (nI v)), (2, .int t)] := hl
  have k7 := hts (.fieldLink RX6 7 "SunsetDatesModel" "now" "[I") (by decide +kernel)
  have iX6 : ∀ w ∈ wsX60, w ∈ wsX6_extendNow := by decide +kernel
  have hb2 := hwf.1
  obtain ⟨hr0, hr1, hr2, hr3, hrv, hrf, hru, hrs⟩ := id hr
  refine lv_iconst (v := 4) hx hb dX6_extendNow_0 (by decide) ?_
  refine lv_iconst (v := 3) hx hb dX6_extendNow_1 (by decide) ?_
  refine lv_iload_n hx hb dX6_extendNow_2 rfl (lv_at hl 1 rfl) ?_
  refine lv_imul hx hb dX6_extendNow_3 ?_
  rw [show (3 * (nI v)) = (nI (3 * v)) from pk_mul _ _]
  refine lv_iadd hx hb dX6_extendNow_4 ?_
  rw [show (4 + (nI (3 * v))) = (nI (4 + (3 * v))) from nI_add 4 (3 * v)]
  refine lv_istore_n (lv' := [(3, .int (nI (4 + (3 * v)))), (0, .ref (r 0)), (1, .int (nI v)), (2, .int t)]) hx hb dX6_extendNow_5 rfl hl (by decide) rfl (fun ls hl => ?_)
  refine lv_aload_n hx hb dX6_extendNow_6 rfl (lv_at hl 1 rfl) ?_
  refine va_get (D := G) (ci := 6) (C := RX6) (T := TX6) (N := 14) hx hb hts iX6 hown hkx.1 hP 0 rfl rfl 0 (by decide) k7 (fun _ h9 => h9) rfl dX6_extendNow_7 ?_
  refine lv_iload_n hx hb dX6_extendNow_10 rfl (lv_at hl 0 rfl) ?_
  refine lv_iconst (v := 1) hx hb dX6_extendNow_11 (by decide) ?_
  refine lv_iadd hx hb dX6_extendNow_12 ?_
  rw [show ((nI (4 + (3 * v))) + 1) = (nI ((4 + (3 * v)) + 1)) from nI_add (4 + (3 * v)) 1]
  refine lv_dup2_11 hx hb dX6_extendNow_13 rfl rfl ?_
  refine ia hx hb hkx hP 1 rfl ((4 + (3 * v)) + 1) rfl (by omega) (by decide) dX6_extendNow_14 ?_
  refine lv_iload_n hx hb dX6_extendNow_15 rfl (lv_at hl 3 rfl) ?_
  refine lv_iadd hx hb dX6_extendNow_16 ?_
  refine ist hx hb hkx hP hD hS 1 rfl ((4 + (3 * v)) + 1) rfl (by omega) (by decide) dX6_extendNow_17 (fun H locs hP hD hS => ?_)
  have hP : va_P G vwCl (wMod T r (upd mm ((4 + (3 * v)) + 1) ((mm ((4 + (3 * v)) + 1)) + t)) pp xx th sv n1 ac ea le v1 v2 v3 v4 v5) H := hP
  have hD : va_D A (wMod T r (upd mm ((4 + (3 * v)) + 1) ((mm ((4 + (3 * v)) + 1)) + t)) pp xx th sv n1 ac ea le v1 v2 v3 v4 v5) := hD
  refine lv_aload_n hx hb dX6_extendNow_18 rfl (lv_at hl 1 rfl) ?_
  refine va_get (D := G) (ci := 6) (C := RX6) (T := TX6) (N := 14) hx hb hts iX6 hown hkx.1 hP 0 rfl rfl 0 (by decide) k7 (fun _ h9 => h9) rfl dX6_extendNow_19 ?_
  refine lv_iload_n hx hb dX6_extendNow_22 rfl (lv_at hl 0 rfl) ?_
  refine lv_iconst (v := 2) hx hb dX6_extendNow_23 (by decide) ?_
  refine lv_iadd hx hb dX6_extendNow_24 ?_
  rw [show ((nI (4 + (3 * v))) + 2) = (nI ((4 + (3 * v)) + 2)) from nI_add (4 + (3 * v)) 2]
  refine lv_dup2_11 hx hb dX6_extendNow_25 rfl rfl ?_
  refine ia hx hb hkx hP 1 rfl ((4 + (3 * v)) + 2) rfl (by omega) (by decide) dX6_extendNow_26 ?_
  rw [pk_un (show ((4 + (3 * v)) + 2) ≠ ((4 + (3 * v)) + 1) by omega)]
  refine lv_iload_n hx hb dX6_extendNow_27 rfl (lv_at hl 3 rfl) ?_
  refine lv_iadd hx hb dX6_extendNow_28 ?_
  refine ist hx hb hkx hP hD hS 1 rfl ((4 + (3 * v)) + 2) rfl (by omega) (by decide) dX6_extendNow_29 (fun H locs hP hD hS => ?_)
  have hP : va_P G vwCl (wMod T r (upd (upd mm ((4 + (3 * v)) + 1) ((mm ((4 + (3 * v)) + 1)) + t)) ((4 + (3 * v)) + 2) ((mm ((4 + (3 * v)) + 2)) + t)) pp xx th sv n1 ac ea le v1 v2 v3 v4 v5) H := hP
  have hD : va_D A (wMod T r (upd (upd mm ((4 + (3 * v)) + 1) ((mm ((4 + (3 * v)) + 1)) + t)) ((4 + (3 * v)) + 2) ((mm ((4 + (3 * v)) + 2)) + t)) pp xx th sv n1 ac ea le v1 v2 v3 v4 v5) := hD
  refine lv_aload_n hx hb dX6_extendNow_30 rfl (lv_at hl 1 rfl) ?_
  refine va_get (D := G) (ci := 6) (C := RX6) (T := TX6) (N := 14) hx hb hts iX6 hown hkx.1 hP 0 rfl rfl 0 (by decide) k7 (fun _ h9 => h9) rfl dX6_extendNow_31 ?_
  refine lv_iload_n hx hb dX6_extendNow_34 rfl (lv_at hl 0 rfl) ?_
  refine lv_iconst (v := 1) hx hb dX6_extendNow_35 (by decide) ?_
  refine lv_iadd hx hb dX6_extendNow_36 ?_
  rw [show ((nI (4 + (3 * v))) + 1) = (nI ((4 + (3 * v)) + 1)) from nI_add (4 + (3 * v)) 1]
  refine ia hx hb hkx hP 1 rfl ((4 + (3 * v)) + 1) rfl (by omega) (by decide) dX6_extendNow_37 ?_
  rw [pk_un (show ((4 + (3 * v)) + 1) ≠ ((4 + (3 * v)) + 2) by omega), pk_us]
  exact hret _ _ _ _ _ (show some (Value.int ((mm ((4 + (3 * v)) + 1)) + t)) = some (Value.int (Z 2 v + t)) ∧ va_P G vwCl (wMod T r (mEx mm v t) pp xx th sv n1 ac ea le v1 v2 v3 v4 v5) H from ⟨by refine congrArg (fun z => some (Value.int z)) (?_ : _ = _); rw [show 4 + 3 * v + 1 = 5 + 3 * v by omega, (hrv v hv).2.1], hP⟩) rfl hS dX6_extendNow_38

theorem idX6_shimNow : yX6_shimNow.cls = RX6 ∧ yX6_shimNow.cls ≠ "java/lang/invoke/MethodHandle" ∧ yX6_shimNow.cls ≠ "java/lang/invoke/VarHandle" ∧ (parseMethodDescriptor yX6_shimNow.desc).map (fun d => d.parameters.length) = some 5 := by decide +kernel

set_option maxHeartbeats 4000000 in
set_option maxRecDepth 100000 in
theorem mX6_shimNow (l : Launch) {G : va_G} {T : Nat → ClassId} {H0 : Heap} {r : Nat → Nat} {N : Nat → Nat} {Z : Nat → Nat → Int32} {mm : Nat → Int32} {pp : Nat → Int32} {xx : Nat → Int32} {th : Int32} {sv : Nat} {n1 : Nat} {ac : Int32} {ea : Int32} {le : Int32} {v1 : Int32} {v2 : Int32} {v3 : Int32} {v4 : Int32} {v5 : Int32} {f : Int32} {v : Int32} {x : Int32} {z : Int32} {y : Int32} (hP : va_P G vwCl (wMod T r mm pp xx th sv n1 ac ea le v1 v2 v3 v4 v5) H0) (hD : va_D (fun _ => True) (wMod T r mm pp xx th sv n1 ac ea le v1 v2 v3 v4 v5)) (hwf : wf N Z) (hr : rel N Z mm) (h12 : N 3 < 12) : mu l yX6_shimNow wsX6_shimNow 0 0 [.ref (r 0), .int f, .int v, .int x, .int z, .int y] G T H0 (wMod T r mm pp xx th sv n1 ac ea le v1 v2 v3 v4 v5) (fun v9 H9 => v9 = some (.int (nI (N 3))) ∧ va_P G vwCl (wMod T r (mSh mm (N 3) f v x z y) pp xx th sv n1 ac ea le v1 v2 v3 v4 v5) H9) := by
  refine mu_ofi (cc := cX6_shimNow) (maxL := 7) (ret := .int) (own := RX6) (by decide +kernel) rfl rfl (Nat.le_of_ble_eq_true rfl) hD ?_
  intro p e s m below meth c Q ls A S hkx hl hD hS hA hret
  obtain ⟨hx, hb, hml, hown, hts⟩ := id S
  have hl : lv_has ls 7 [(0, .ref (r 0)), (1, .int f), (2, .int v), (3, .int x), (4, .int z), (5, .int y)] := hl
  have k7 := hts (.fieldLink RX6 7 "SunsetDatesModel" "now" "[I") (by decide +kernel)
  have iX6 : ∀ w ∈ wsX60, w ∈ wsX6_shimNow := by decide +kernel
  have hb2 := hwf.1
  obtain ⟨hr0, hr1, hr2, hr3, hrv, hrf, hru, hrs⟩ := id hr
  refine lv_bipush (v := 98) hx hb dX6_shimNow_0 (by decide) ?_
  refine lv_iconst (v := 5) hx hb dX6_shimNow_2 (by decide) ?_
  refine lv_aload_n hx hb dX6_shimNow_3 rfl (lv_at hl 0 rfl) ?_
  refine va_get (D := G) (ci := 6) (C := RX6) (T := TX6) (N := 14) hx hb hts iX6 hown hkx.1 hP 0 rfl rfl 0 (by decide) k7 (fun _ h9 => h9) rfl dX6_shimNow_4 ?_
  refine lv_iconst (v := 3) hx hb dX6_shimNow_7 (by decide) ?_
  refine ia hx hb hkx hP 1 rfl 3 rfl (by omega) (by decide) dX6_shimNow_8 ?_
  rw [hr3]
  refine lv_imul hx hb dX6_shimNow_9 ?_
  rw [show (5 * (nI (N 3))) = (nI (5 * (N 3))) from pk_mul _ _]
  refine lv_iadd hx hb dX6_shimNow_10 ?_
  rw [show (98 + (nI (5 * (N 3)))) = (nI (98 + (5 * (N 3)))) from nI_add 98 (5 * (N 3))]
  refine lv_istore (lv' := [(6, .int (nI (98 + (5 * (N 3))))), (0, .ref (r 0)), (1, .int f), (2, .int v), (3, .int x), (4, .int z), (5, .int y)]) hx hb dX6_shimNow_11 hl (by decide) rfl (fun ls hl => ?_)
  refine lv_aload_n hx hb dX6_shimNow_13 rfl (lv_at hl 1 rfl) ?_
  refine va_get (D := G) (ci := 6) (C := RX6) (T := TX6) (N := 14) hx hb hts iX6 hown hkx.1 hP 0 rfl rfl 0 (by decide) k7 (fun _ h9 => h9) rfl dX6_shimNow_14 ?_
  refine lv_iload hx hb dX6_shimNow_17 (lv_at hl 0 rfl) ?_
  refine lv_iload_n hx hb dX6_shimNow_19 rfl (lv_at hl 2 rfl) ?_
  refine ist hx hb hkx hP hD hS 1 rfl (98 + (5 * (N 3))) rfl (by omega) (by decide) dX6_shimNow_20 (fun H locs hP hD hS => ?_)
  have hP : va_P G vwCl (wMod T r (upd mm (98 + (5 * (N 3))) f) pp xx th sv n1 ac ea le v1 v2 v3 v4 v5) H := hP
  have hD : va_D A (wMod T r (upd mm (98 + (5 * (N 3))) f) pp xx th sv n1 ac ea le v1 v2 v3 v4 v5) := hD
  refine lv_aload_n hx hb dX6_shimNow_21 rfl (lv_at hl 1 rfl) ?_
  refine va_get (D := G) (ci := 6) (C := RX6) (T := TX6) (N := 14) hx hb hts iX6 hown hkx.1 hP 0 rfl rfl 0 (by decide) k7 (fun _ h9 => h9) rfl dX6_shimNow_22 ?_
  refine lv_iload hx hb dX6_shimNow_25 (lv_at hl 0 rfl) ?_
  refine lv_iconst (v := 1) hx hb dX6_shimNow_27 (by decide) ?_
  refine lv_iadd hx hb dX6_shimNow_28 ?_
  rw [show ((nI (98 + (5 * (N 3)))) + 1) = (nI ((98 + (5 * (N 3))) + 1)) from nI_add (98 + (5 * (N 3))) 1]
  refine lv_iload_n hx hb dX6_shimNow_29 rfl (lv_at hl 3 rfl) ?_
  refine ist hx hb hkx hP hD hS 1 rfl ((98 + (5 * (N 3))) + 1) rfl (by omega) (by decide) dX6_shimNow_30 (fun H locs hP hD hS => ?_)
  have hP : va_P G vwCl (wMod T r (upd (upd mm (98 + (5 * (N 3))) f) ((98 + (5 * (N 3))) + 1) v) pp xx th sv n1 ac ea le v1 v2 v3 v4 v5) H := hP
  have hD : va_D A (wMod T r (upd (upd mm (98 + (5 * (N 3))) f) ((98 + (5 * (N 3))) + 1) v) pp xx th sv n1 ac ea le v1 v2 v3 v4 v5) := hD
  refine lv_aload_n hx hb dX6_shimNow_31 rfl (lv_at hl 1 rfl) ?_
  refine va_get (D := G) (ci := 6) (C := RX6) (T := TX6) (N := 14) hx hb hts iX6 hown hkx.1 hP 0 rfl rfl 0 (by decide) k7 (fun _ h9 => h9) rfl dX6_shimNow_32 ?_
  refine lv_iload hx hb dX6_shimNow_35 (lv_at hl 0 rfl) ?_
  refine lv_iconst (v := 2) hx hb dX6_shimNow_37 (by decide) ?_
  refine lv_iadd hx hb dX6_shimNow_38 ?_
  rw [show ((nI (98 + (5 * (N 3)))) + 2) = (nI ((98 + (5 * (N 3))) + 2)) from nI_add (98 + (5 * (N 3))) 2]
  refine lv_iload_n hx hb dX6_shimNow_39 rfl (lv_at hl 4 rfl) ?_
  refine ist hx hb hkx hP hD hS 1 rfl ((98 + (5 * (N 3))) + 2) rfl (by omega) (by decide) dX6_shimNow_40 (fun H locs hP hD hS => ?_)
  have hP : va_P G vwCl (wMod T r (upd (upd (upd mm (98 + (5 * (N 3))) f) ((98 + (5 * (N 3))) + 1) v) ((98 + (5 * (N 3))) + 2) x) pp xx th sv n1 ac ea le v1 v2 v3 v4 v5) H := hP
  have hD : va_D A (wMod T r (upd (upd (upd mm (98 + (5 * (N 3))) f) ((98 + (5 * (N 3))) + 1) v) ((98 + (5 * (N 3))) + 2) x) pp xx th sv n1 ac ea le v1 v2 v3 v4 v5) := hD
  refine lv_aload_n hx hb dX6_shimNow_41 rfl (lv_at hl 1 rfl) ?_
  refine va_get (D := G) (ci := 6) (C := RX6) (T := TX6) (N := 14) hx hb hts iX6 hown hkx.1 hP 0 rfl rfl 0 (by decide) k7 (fun _ h9 => h9) rfl dX6_shimNow_42 ?_
  refine lv_iload hx hb dX6_shimNow_45 (lv_at hl 0 rfl) ?_
  refine lv_iconst (v := 3) hx hb dX6_shimNow_47 (by decide) ?_
  refine lv_iadd hx hb dX6_shimNow_48 ?_
  rw [show ((nI (98 + (5 * (N 3)))) + 3) = (nI ((98 + (5 * (N 3))) + 3)) from nI_add (98 + (5 * (N 3))) 3]
  refine lv_iload hx hb dX6_shimNow_49 (lv_at hl 5 rfl) ?_
  refine ist hx hb hkx hP hD hS 1 rfl ((98 + (5 * (N 3))) + 3) rfl (by omega) (by decide) dX6_shimNow_51 (fun H locs hP hD hS => ?_)
  have hP : va_P G vwCl (wMod T r (upd (upd (upd (upd mm (98 + (5 * (N 3))) f) ((98 + (5 * (N 3))) + 1) v) ((98 + (5 * (N 3))) + 2) x) ((98 + (5 * (N 3))) + 3) z) pp xx th sv n1 ac ea le v1 v2 v3 v4 v5) H := hP
  have hD : va_D A (wMod T r (upd (upd (upd (upd mm (98 + (5 * (N 3))) f) ((98 + (5 * (N 3))) + 1) v) ((98 + (5 * (N 3))) + 2) x) ((98 + (5 * (N 3))) + 3) z) pp xx th sv n1 ac ea le v1 v2 v3 v4 v5) := hD
  refine lv_aload_n hx hb dX6_shimNow_52 rfl (lv_at hl 1 rfl) ?_
  refine va_get (D := G) (ci := 6) (C := RX6) (T := TX6) (N := 14) hx hb hts iX6 hown hkx.1 hP 0 rfl rfl 0 (by decide) k7 (fun _ h9 => h9) rfl dX6_shimNow_53 ?_
  refine lv_iload hx hb dX6_shimNow_56 (lv_at hl 0 rfl) ?_
  refine lv_iconst (v := 4) hx hb dX6_shimNow_58 (by decide) ?_
  refine lv_iadd hx hb dX6_shimNow_59 ?_
  rw [show ((nI (98 + (5 * (N 3)))) + 4) = (nI ((98 + (5 * (N 3))) + 4)) from nI_add (98 + (5 * (N 3))) 4]
  refine lv_iload hx hb dX6_shimNow_60 (lv_at hl 6 rfl) ?_
  refine ist hx hb hkx hP hD hS 1 rfl ((98 + (5 * (N 3))) + 4) rfl (by omega) (by decide) dX6_shimNow_62 (fun H locs hP hD hS => ?_)
  have hP : va_P G vwCl (wMod T r (upd (upd (upd (upd (upd mm (98 + (5 * (N 3))) f) ((98 + (5 * (N 3))) + 1) v) ((98 + (5 * (N 3))) + 2) x) ((98 + (5 * (N 3))) + 3) z) ((98 + (5 * (N 3))) + 4) y) pp xx th sv n1 ac ea le v1 v2 v3 v4 v5) H := hP
  have hD : va_D A (wMod T r (upd (upd (upd (upd (upd mm (98 + (5 * (N 3))) f) ((98 + (5 * (N 3))) + 1) v) ((98 + (5 * (N 3))) + 2) x) ((98 + (5 * (N 3))) + 3) z) ((98 + (5 * (N 3))) + 4) y) pp xx th sv n1 ac ea le v1 v2 v3 v4 v5) := hD
  refine lv_aload_n hx hb dX6_shimNow_63 rfl (lv_at hl 1 rfl) ?_
  refine va_get (D := G) (ci := 6) (C := RX6) (T := TX6) (N := 14) hx hb hts iX6 hown hkx.1 hP 0 rfl rfl 0 (by decide) k7 (fun _ h9 => h9) rfl dX6_shimNow_64 ?_
  refine lv_iconst (v := 3) hx hb dX6_shimNow_67 (by decide) ?_
  refine lv_dup2_11 hx hb dX6_shimNow_68 rfl rfl ?_
  refine ia hx hb hkx hP 1 rfl 3 rfl (by omega) (by decide) dX6_shimNow_69 ?_
  rw [pk_un (show 3 ≠ ((98 + (5 * (N 3))) + 4) by omega), pk_un (show 3 ≠ ((98 + (5 * (N 3))) + 3) by omega), pk_un (show 3 ≠ ((98 + (5 * (N 3))) + 2) by omega), pk_un (show 3 ≠ ((98 + (5 * (N 3))) + 1) by omega), pk_un (show 3 ≠ (98 + (5 * (N 3))) by omega), hr3]
  refine lv_iconst (v := 1) hx hb dX6_shimNow_70 (by decide) ?_
  refine lv_iadd hx hb dX6_shimNow_71 ?_
  rw [show ((nI (N 3)) + 1) = (nI ((N 3) + 1)) from nI_add (N 3) 1]
  refine ist hx hb hkx hP hD hS 1 rfl 3 rfl (by omega) (by decide) dX6_shimNow_72 (fun H locs hP hD hS => ?_)
  have hP : va_P G vwCl (wMod T r (upd (upd (upd (upd (upd (upd mm (98 + (5 * (N 3))) f) ((98 + (5 * (N 3))) + 1) v) ((98 + (5 * (N 3))) + 2) x) ((98 + (5 * (N 3))) + 3) z) ((98 + (5 * (N 3))) + 4) y) 3 (nI ((N 3) + 1))) pp xx th sv n1 ac ea le v1 v2 v3 v4 v5) H := hP
  have hD : va_D A (wMod T r (upd (upd (upd (upd (upd (upd mm (98 + (5 * (N 3))) f) ((98 + (5 * (N 3))) + 1) v) ((98 + (5 * (N 3))) + 2) x) ((98 + (5 * (N 3))) + 3) z) ((98 + (5 * (N 3))) + 4) y) 3 (nI ((N 3) + 1))) pp xx th sv n1 ac ea le v1 v2 v3 v4 v5) := hD
  refine lv_aload_n hx hb dX6_shimNow_73 rfl (lv_at hl 1 rfl) ?_
  refine va_get (D := G) (ci := 6) (C := RX6) (T := TX6) (N := 14) hx hb hts iX6 hown hkx.1 hP 0 rfl rfl 0 (by decide) k7 (fun _ h9 => h9) rfl dX6_shimNow_74 ?_
  refine lv_iconst (v := 3) hx hb dX6_shimNow_77 (by decide) ?_
  refine ia hx hb hkx hP 1 rfl 3 rfl (by omega) (by decide) dX6_shimNow_78 ?_
  rw [pk_us]
  refine lv_iconst (v := 1) hx hb dX6_shimNow_79 (by decide) ?_
  refine lv_isub hx hb dX6_shimNow_80 ?_
  rw [show ((nI ((N 3) + 1)) - 1) = (nI (((N 3) + 1) - 1)) from pk_sub (a := ((N 3) + 1)) (b := 1) (by omega)]
  exact hret _ _ _ _ _ (show some (Value.int (nI (((N 3) + 1) - 1))) = some (Value.int (nI (N 3))) ∧ va_P G vwCl (wMod T r (mSh mm (N 3) f v x z y) pp xx th sv n1 ac ea le v1 v2 v3 v4 v5) H from ⟨rfl, hP⟩) rfl hS dX6_shimNow_81

theorem idX6_dropNow : yX6_dropNow.cls = RX6 ∧ yX6_dropNow.cls ≠ "java/lang/invoke/MethodHandle" ∧ yX6_dropNow.cls ≠ "java/lang/invoke/VarHandle" ∧ (parseMethodDescriptor yX6_dropNow.desc).map (fun d => d.parameters.length) = some 1 := by decide +kernel

set_option maxHeartbeats 4000000 in
set_option maxRecDepth 100000 in
theorem mX6_dropNow (l : Launch) {G : va_G} {T : Nat → ClassId} {H0 : Heap} {r : Nat → Nat} {N : Nat → Nat} {Z : Nat → Nat → Int32} {mm : Nat → Int32} {pp : Nat → Int32} {xx : Nat → Int32} {th : Int32} {sv : Nat} {n1 : Nat} {ac : Int32} {ea : Int32} {le : Int32} {v1 : Int32} {v2 : Int32} {v3 : Int32} {v4 : Int32} {v5 : Int32} {t : Nat} (hP : va_P G vwCl (wMod T r mm pp xx th sv n1 ac ea le v1 v2 v3 v4 v5) H0) (hD : va_D (fun _ => True) (wMod T r mm pp xx th sv n1 ac ea le v1 v2 v3 v4 v5)) (hwf : wf N Z) (hr : rel N Z mm) (ht : t < N 3) : mu l yX6_dropNow wsX6_dropNow 0 0 [.ref (r 0), .int (nI t)] G T H0 (wMod T r mm pp xx th sv n1 ac ea le v1 v2 v3 v4 v5) (fun v9 H9 => v9 = some (.int (nI (N 3 - 1))) ∧ va_P G vwCl (wMod T r (mDr mm (N 3) t) pp xx th sv n1 ac ea le v1 v2 v3 v4 v5) H9) := by
  refine mu_ofi (cc := cX6_dropNow) (maxL := 3) (ret := .int) (own := RX6) (by decide +kernel) rfl rfl (Nat.le_of_ble_eq_true rfl) hD ?_
  intro p e s m below meth c Q ls A S hkx hl hD hS hA hret
  obtain ⟨hx, hb, hml, hown, hts⟩ := id S
  have hl : lv_has ls 3 [(0, .ref (r 0)), (1, .int (nI t))] := hl
  have k7 := hts (.fieldLink RX6 7 "SunsetDatesModel" "now" "[I") (by decide +kernel)
  have iX6 : ∀ w ∈ wsX60, w ∈ wsX6_dropNow := by decide +kernel
  have hb2 := hwf.1
  obtain ⟨hr0, hr1, hr2, hr3, hrv, hrf, hru, hrs⟩ := id hr
  refine lv_bipush (v := 98) hx hb dX6_dropNow_0 (by decide) ?_
  refine lv_iconst (v := 5) hx hb dX6_dropNow_2 (by decide) ?_
  refine lv_iload_n hx hb dX6_dropNow_3 rfl (lv_at hl 1 rfl) ?_
  refine lv_imul hx hb dX6_dropNow_4 ?_
  rw [show (5 * (nI t)) = (nI (5 * t)) from pk_mul _ _]
  refine lv_iadd hx hb dX6_dropNow_5 ?_
  rw [show (98 + (nI (5 * t))) = (nI (98 + (5 * t))) from nI_add 98 (5 * t)]
  refine lv_iconst (v := 5) hx hb dX6_dropNow_6 (by decide) ?_
  refine lv_iadd hx hb dX6_dropNow_7 ?_
  rw [show ((nI (98 + (5 * t))) + 5) = (nI ((98 + (5 * t)) + 5)) from nI_add (98 + (5 * t)) 5]
  refine lv_istore_n (lv' := [(2, .int (nI ((98 + (5 * t)) + 5))), (0, .ref (r 0)), (1, .int (nI t))]) hx hb dX6_dropNow_8 rfl hl (by decide) rfl (fun ls hl => ?_)
  have L9 : ∀ (fuel : Nat) (k : Nat) (g : Nat → Int32), 158 - k < fuel → 98 + 5 * t + 5 ≤ k → k ≤ 158 → g = dsf mm (98 + 5 * t) (k - (98 + 5 * t + 5)) → ∀ (H : Heap) (locs : List Loc), va_P G vwCl (wMod T r g pp xx th sv n1 ac ea le v1 v2 v3 v4 v5) H → va_D A (wMod T r g pp xx th sv n1 ac ea le v1 v2 v3 v4 v5) → va_S A H0 H locs → ∀ ls : Array Slot, lv_has ls 3 [(0, .ref (r 0)), (1, .int (nI t)), (2, .int (nI k))] → W p l e (rmo 0 0) s m ([.ref (r 0), .int (nI t)] : List Value).toArray below meth c H locs 0 0 Q (F0 m 9 ls []) := by
    intro fuel
    induction fuel with
    | zero => intro k g hm; exact absurd hm (Nat.not_lt_zero _)
    | succ fuel ih9 =>
      intro k g hm9 hk hk2 hg H locs hP hD hS ls hl
      refine lv_iload_n hx hb dX6_dropNow_9 rfl (lv_at hl 2 rfl) ?_
      refine lv_sipush (v := 158) hx hb dX6_dropNow_10 (by decide) ?_
      refine lv_icmp_ge (tgt := 36) hx hb dX6_dropNow_13 (by decide) (fun c_1 => ?_) (fun c_1 => ?_)
      · replace c_1 := cn_le (a := 158) (b := k) (by omega) (by omega) c_1
        have hk9 : k = 158 := by omega
        subst hk9
        subst hg
        have hg3 : dsf mm (98 + 5 * t) (158 - (98 + 5 * t + 5)) 3 = nI (N 3) := by unfold dsf; rw [if_neg (by omega)]; exact hr3
        refine lv_aload_n hx hb dX6_dropNow_36 rfl (lv_at hl 0 rfl) ?_
        refine va_get (D := G) (ci := 6) (C := RX6) (T := TX6) (N := 14) hx hb hts iX6 hown hkx.1 hP 0 rfl rfl 0 (by decide) k7 (fun _ h9 => h9) rfl dX6_dropNow_37 ?_
        refine lv_iconst (v := 3) hx hb dX6_dropNow_40 (by decide) ?_
        refine lv_dup2_11 hx hb dX6_dropNow_41 rfl rfl ?_
        refine ia hx hb hkx hP 1 rfl 3 rfl (by omega) (by decide) dX6_dropNow_42 ?_
        rw [hg3]
        refine lv_iconst (v := 1) hx hb dX6_dropNow_43 (by decide) ?_
        refine lv_isub hx hb dX6_dropNow_44 ?_
        rw [show ((nI (N 3)) - 1) = (nI ((N 3) - 1)) from pk_sub (a := (N 3)) (b := 1) (by omega)]
        refine ist hx hb hkx hP hD hS 1 rfl 3 rfl (by omega) (by decide) dX6_dropNow_45 (fun H locs hP hD hS => ?_)
        have hP : va_P G vwCl (wMod T r (upd (dsf mm (98 + 5 * t) (158 - (98 + 5 * t + 5))) 3 (nI ((N 3) - 1))) pp xx th sv n1 ac ea le v1 v2 v3 v4 v5) H := hP
        have hD : va_D A (wMod T r (upd (dsf mm (98 + 5 * t) (158 - (98 + 5 * t + 5))) 3 (nI ((N 3) - 1))) pp xx th sv n1 ac ea le v1 v2 v3 v4 v5) := hD
        refine lv_aload_n hx hb dX6_dropNow_46 rfl (lv_at hl 0 rfl) ?_
        refine va_get (D := G) (ci := 6) (C := RX6) (T := TX6) (N := 14) hx hb hts iX6 hown hkx.1 hP 0 rfl rfl 0 (by decide) k7 (fun _ h9 => h9) rfl dX6_dropNow_47 ?_
        refine lv_iconst (v := 3) hx hb dX6_dropNow_50 (by decide) ?_
        refine ia hx hb hkx hP 1 rfl 3 rfl (by omega) (by decide) dX6_dropNow_51 ?_
        rw [pk_us]
        exact hret _ _ _ _ _ (show some (Value.int (nI ((N 3) - 1))) = some (Value.int (nI (N 3 - 1))) ∧ va_P G vwCl (wMod T r (mDr mm (N 3) t) pp xx th sv n1 ac ea le v1 v2 v3 v4 v5) H from ⟨rfl, hP⟩) rfl hS dX6_dropNow_52
      · replace c_1 := cn_nle (a := 158) (b := k) (by omega) (by omega) c_1
        refine lv_aload_n hx hb dX6_dropNow_16 rfl (lv_at hl 0 rfl) ?_
        refine va_get (D := G) (ci := 6) (C := RX6) (T := TX6) (N := 14) hx hb hts iX6 hown hkx.1 hP 0 rfl rfl 0 (by decide) k7 (fun _ h9 => h9) rfl dX6_dropNow_17 ?_
        refine lv_iload_n hx hb dX6_dropNow_20 rfl (lv_at hl 2 rfl) ?_
        refine lv_iconst (v := 5) hx hb dX6_dropNow_21 (by decide) ?_
        refine lv_isub hx hb dX6_dropNow_22 ?_
        rw [show ((nI k) - 5) = (nI (k - 5)) from pk_sub (a := k) (b := 5) (by omega)]
        refine lv_aload_n hx hb dX6_dropNow_23 rfl (lv_at hl 0 rfl) ?_
        refine va_get (D := G) (ci := 6) (C := RX6) (T := TX6) (N := 14) hx hb hts iX6 hown hkx.1 hP 0 rfl rfl 0 (by decide) k7 (fun _ h9 => h9) rfl dX6_dropNow_24 ?_
        refine lv_iload_n hx hb dX6_dropNow_27 rfl (lv_at hl 2 rfl) ?_
        refine ia hx hb hkx hP 1 rfl k rfl (by omega) (by decide) dX6_dropNow_28 ?_
        refine ist hx hb hkx hP hD hS 1 rfl (k - 5) rfl (by omega) (by decide) dX6_dropNow_29 (fun H locs hP hD hS => ?_)
        have hP : va_P G vwCl (wMod T r (upd g (k - 5) (g k)) pp xx th sv n1 ac ea le v1 v2 v3 v4 v5) H := hP
        have hD : va_D A (wMod T r (upd g (k - 5) (g k)) pp xx th sv n1 ac ea le v1 v2 v3 v4 v5) := hD
        refine lv_iinc (v := (nI (k + 1))) (lv' := [(2, .int (nI (k + 1))), (0, .ref (r 0)), (1, .int (nI t))]) hx hb dX6_dropNow_30 hl (k := 2) rfl (nI_inc k) (by decide) rfl (fun ls hl => ?_)
        refine lv_goto (tgt := 9) hx hb dX6_dropNow_33 (by decide) ?_
        exact ih9 (k + 1) (upd g (k - 5) (g k)) (by omega) (by omega) (by omega) (by rw [hg, show k + 1 - (98 + 5 * t + 5) = (k - (98 + 5 * t + 5)) + 1 by omega, ← dsf_s, show 98 + 5 * t + (k - (98 + 5 * t + 5)) = k - 5 by omega, show k - 5 + 5 = k by omega]) _ _ hP hD hS _ (lv_sub hl [1, 2, 0] rfl)
  exact L9 _ ((98 + (5 * t)) + 5) mm (Nat.lt_succ_self _) (by omega) (by omega) (by rw [Nat.sub_self]; exact (dsf_0 _ _).symm) _ _ hP hD hS _ (lv_sub hl [1, 2, 0] rfl)

theorem idX6_save : yX6_save.cls = RX6 ∧ yX6_save.cls ≠ "java/lang/invoke/MethodHandle" ∧ yX6_save.cls ≠ "java/lang/invoke/VarHandle" ∧ (parseMethodDescriptor yX6_save.desc).map (fun d => d.parameters.length) = some 0 := by decide +kernel

set_option maxHeartbeats 4000000 in
set_option maxRecDepth 100000 in
theorem mX6_save (l : Launch) {G : va_G} {T : Nat → ClassId} {H0 : Heap} {r : Nat → Nat} {N : Nat → Nat} {Z : Nat → Nat → Int32} {mm : Nat → Int32} {pp : Nat → Int32} {xx : Nat → Int32} {th : Int32} {sv : Nat} {n1 : Nat} {ac : Int32} {ea : Int32} {le : Int32} {v1 : Int32} {v2 : Int32} {v3 : Int32} {v4 : Int32} {v5 : Int32} (hP : va_P G vwCl (wMod T r mm pp xx th sv n1 ac ea le v1 v2 v3 v4 v5) H0) (hD : va_D (fun _ => True) (wMod T r mm pp xx th sv n1 ac ea le v1 v2 v3 v4 v5)) (hs4 : sv ≤ 4) : mu l yX6_save wsX6_save 0 0 [.ref (r 0)] G T H0 (wMod T r mm pp xx th sv n1 ac ea le v1 v2 v3 v4 v5) (fun v9 H9 => v9 = none ∧ va_P G vwCl (wMod T r mm (svP sv pp mm) xx th (svC sv) n1 ac ea le v1 v2 v3 v4 v5) H9) := by
  refine mu_ofv (cc := cX6_save) (maxL := 2) (own := RX6) (by decide +kernel) rfl rfl (Nat.le_of_ble_eq_true rfl) hD ?_
  intro p e s m below meth c Q ls A S hkx hl hD hS hA hret
  obtain ⟨hx, hb, hml, hown, hts⟩ := id S
  have hl : lv_has ls 2 [(0, .ref (r 0))] := hl
  have k27 := hts (.fieldLink RX6 27 "SunsetDatesModel" "saved" "I") (by decide +kernel)
  have iX6 : ∀ w ∈ wsX60, w ∈ wsX6_save := by decide +kernel
  have k13 := hts (.fieldLink RX6 13 "SunsetDatesModel" "past" "[I") (by decide +kernel)
  have k7 := hts (.fieldLink RX6 7 "SunsetDatesModel" "now" "[I") (by decide +kernel)
  refine lv_aload_n hx hb dX6_save_0 rfl (lv_at hl 0 rfl) ?_
  refine va_get (D := G) (ci := 6) (C := RX6) (T := TX6) (N := 14) hx hb hts iX6 hown hkx.1 hP 0 rfl rfl 3 (by decide) k27 (fun _ h9 => h9) rfl dX6_save_1 ?_
  refine lv_iconst (v := 4) hx hb dX6_save_4 (by decide) ?_
  refine lv_icmp_ne (tgt := 51) hx hb dX6_save_5 (by decide) (fun c_1 => ?_) (fun c_1 => ?_)
  · replace c_1 := cn_ne (a := sv) (b := 4) (by omega) (by omega) c_1
    refine lv_iconst (v := 0) hx hb dX6_save_51 (by decide) ?_
    refine lv_istore_n (lv' := [(1, .int 0), (0, .ref (r 0))]) hx hb dX6_save_52 rfl hl (by decide) rfl (fun ls hl => ?_)
    have L53 : ∀ (fuel : Nat) (k : Nat) (g : Nat → Int32), 158 - k < fuel → k ≤ 158 → g = pcp pp (158 * sv) mm k → ∀ (H : Heap) (locs : List Loc), va_P G vwCl (wMod T r mm g xx th sv n1 ac ea le v1 v2 v3 v4 v5) H → va_D A (wMod T r mm g xx th sv n1 ac ea le v1 v2 v3 v4 v5) → va_S A H0 H locs → ∀ ls : Array Slot, lv_has ls 2 [(0, .ref (r 0)), (1, .int (nI k))] → W p l e (rmo 0 0) s m ([.ref (r 0)] : List Value).toArray below meth c H locs 0 0 Q (F0 m 53 ls []) := by
      intro fuel
      induction fuel with
      | zero => intro k g hm; exact absurd hm (Nat.not_lt_zero _)
      | succ fuel ih53 =>
        intro k g hm53 hj hg H locs hP hD hS ls hl
        refine lv_iload_n hx hb dX6_save_53 rfl (lv_at hl 1 rfl) ?_
        refine lv_sipush (v := 158) hx hb dX6_save_54 (by decide) ?_
        refine lv_icmp_ge (tgt := 87) hx hb dX6_save_57 (by decide) (fun c_2 => ?_) (fun c_2 => ?_)
        · replace c_2 := cn_le (a := 158) (b := k) (by omega) (by omega) c_2
          refine lv_aload_n hx hb dX6_save_87 rfl (lv_at hl 0 rfl) ?_
          refine lv_dup hx hb dX6_save_88 rfl ?_
          refine va_get (D := G) (ci := 6) (C := RX6) (T := TX6) (N := 14) hx hb hts iX6 hown hkx.1 hP 0 rfl rfl 3 (by decide) k27 (fun _ h9 => h9) rfl dX6_save_89 ?_
          refine lv_iconst (v := 1) hx hb dX6_save_92 (by decide) ?_
          refine lv_iadd hx hb dX6_save_93 ?_
          rw [show ((nI sv) + 1) = (nI (sv + 1)) from nI_add sv 1]
          refine va_put (D := G) (ci := 6) (v := .int (nI (sv + 1))) (ty := .int) (C := RX6) (T := TX6) (N := 14) hx hb hts iX6 tyX6 tyX6_ok nmX6 hown hkx.1 hP hD hS 0 rfl rfl 3 (by decide) k27 (fun _ h9 => h9) rfl (by decide +kernel) rfl rfl (Nat.le_of_ble_eq_true rfl) dX6_save_94 (fun H locs hP hD hS => ?_)
          have hP : va_P G vwCl (wMod T r mm g xx th (sv + 1) n1 ac ea le v1 v2 v3 v4 v5) H := hP
          have hD : va_D A (wMod T r mm g xx th (sv + 1) n1 ac ea le v1 v2 v3 v4 v5) := hD
          exact hret _ _ _ _ (show (none : Option Value) = none ∧ va_P G vwCl (wMod T r mm (svP sv pp mm) xx th (svC sv) n1 ac ea le v1 v2 v3 v4 v5) H from ⟨rfl, (by have hk9 : k = 158 := (by omega); subst hk9; subst hg; have c9 : svP sv pp mm = pcp pp (158 * sv) mm 158 := if_neg c_1; have c8 : svC sv = sv + 1 := if_neg c_1; rw [c9, c8]; exact hP)⟩) hS dX6_save_97
        · replace c_2 := cn_nle (a := 158) (b := k) (by omega) (by omega) c_2
          refine lv_aload_n hx hb dX6_save_60 rfl (lv_at hl 0 rfl) ?_
          refine va_get (D := G) (ci := 6) (C := RX6) (T := TX6) (N := 14) hx hb hts iX6 hown hkx.1 hP 0 rfl rfl 2 (by decide) k13 (fun _ h9 => h9) rfl dX6_save_61 ?_
          refine lv_sipush (v := 158) hx hb dX6_save_64 (by decide) ?_
          refine lv_aload_n hx hb dX6_save_67 rfl (lv_at hl 0 rfl) ?_
          refine va_get (D := G) (ci := 6) (C := RX6) (T := TX6) (N := 14) hx hb hts iX6 hown hkx.1 hP 0 rfl rfl 3 (by decide) k27 (fun _ h9 => h9) rfl dX6_save_68 ?_
          refine lv_imul hx hb dX6_save_71 ?_
          rw [show (158 * (nI sv)) = (nI (158 * sv)) from pk_mul _ _]
          refine lv_iload_n hx hb dX6_save_72 rfl (lv_at hl 1 rfl) ?_
          refine lv_iadd hx hb dX6_save_73 ?_
          rw [show ((nI (158 * sv)) + (nI k)) = (nI ((158 * sv) + k)) from nI_add (158 * sv) k]
          refine lv_aload_n hx hb dX6_save_74 rfl (lv_at hl 0 rfl) ?_
          refine va_get (D := G) (ci := 6) (C := RX6) (T := TX6) (N := 14) hx hb hts iX6 hown hkx.1 hP 0 rfl rfl 0 (by decide) k7 (fun _ h9 => h9) rfl dX6_save_75 ?_
          refine lv_iload_n hx hb dX6_save_78 rfl (lv_at hl 1 rfl) ?_
          refine ia hx hb hkx hP 1 rfl k rfl (by omega) (by decide) dX6_save_79 ?_
          refine ist hx hb hkx hP hD hS 2 rfl ((158 * sv) + k) rfl (by omega) (by decide) dX6_save_80 (fun H locs hP hD hS => ?_)
          have hP : va_P G vwCl (wMod T r mm (upd g ((158 * sv) + k) (mm k)) xx th sv n1 ac ea le v1 v2 v3 v4 v5) H := hP
          have hD : va_D A (wMod T r mm (upd g ((158 * sv) + k) (mm k)) xx th sv n1 ac ea le v1 v2 v3 v4 v5) := hD
          refine lv_iinc (v := (nI (k + 1))) (lv' := [(1, .int (nI (k + 1))), (0, .ref (r 0))]) hx hb dX6_save_81 hl (k := 1) rfl (nI_inc k) (by decide) rfl (fun ls hl => ?_)
          refine lv_goto (tgt := 53) hx hb dX6_save_84 (by decide) ?_
          exact ih53 (k + 1) (upd g ((158 * sv) + k) (mm k)) (by omega) (by omega) (by rw [hg, pcp_s]) _ _ hP hD hS _ (lv_sub hl [1, 0] rfl)
    exact L53 _ 0 pp (Nat.lt_succ_self _) (by omega) (by exact (pcp_0 _ _ _).symm) _ _ hP hD hS _ (lv_sub hl [1, 0] rfl)
  · replace c_1 := cn_eq (a := sv) (b := 4) (by omega) (by omega) c_1
    refine lv_sipush (v := 158) hx hb dX6_save_8 (by decide) ?_
    refine lv_istore_n (lv' := [(1, .int 158), (0, .ref (r 0))]) hx hb dX6_save_11 rfl hl (by decide) rfl (fun ls hl => ?_)
    have L12 : ∀ (fuel : Nat) (k : Nat) (g : Nat → Int32), 632 - k < fuel → 158 ≤ k → k ≤ 632 → g = psf pp (k - 158) → ∀ (H : Heap) (locs : List Loc), va_P G vwCl (wMod T r mm g xx th sv n1 ac ea le v1 v2 v3 v4 v5) H → va_D A (wMod T r mm g xx th sv n1 ac ea le v1 v2 v3 v4 v5) → va_S A H0 H locs → ∀ ls : Array Slot, lv_has ls 2 [(0, .ref (r 0)), (1, .int (nI k))] → W p l e (rmo 0 0) s m ([.ref (r 0)] : List Value).toArray below meth c H locs 0 0 Q (F0 m 12 ls []) := by
      intro fuel
      induction fuel with
      | zero => intro k g hm; exact absurd hm (Nat.not_lt_zero _)
      | succ fuel ih12 =>
        intro k g hm12 hk hk2 hg H locs hP hD hS ls hl
        refine lv_iload_n hx hb dX6_save_12 rfl (lv_at hl 1 rfl) ?_
        refine lv_sipush (v := 632) hx hb dX6_save_13 (by decide) ?_
        refine lv_icmp_ge (tgt := 41) hx hb dX6_save_16 (by decide) (fun c_3 => ?_) (fun c_3 => ?_)
        · replace c_3 := cn_le (a := 632) (b := k) (by omega) (by omega) c_3
          have hk9 : k = 632 := by omega
          subst hk9
          subst hg
          refine lv_aload_n hx hb dX6_save_41 rfl (lv_at hl 0 rfl) ?_
          refine lv_dup hx hb dX6_save_42 rfl ?_
          refine va_get (D := G) (ci := 6) (C := RX6) (T := TX6) (N := 14) hx hb hts iX6 hown hkx.1 hP 0 rfl rfl 3 (by decide) k27 (fun _ h9 => h9) rfl dX6_save_43 ?_
          refine lv_iconst (v := 1) hx hb dX6_save_46 (by decide) ?_
          refine lv_isub hx hb dX6_save_47 ?_
          rw [show ((nI sv) - 1) = (nI (sv - 1)) from pk_sub (a := sv) (b := 1) (by omega)]
          refine va_put (D := G) (ci := 6) (v := .int (nI (sv - 1))) (ty := .int) (C := RX6) (T := TX6) (N := 14) hx hb hts iX6 tyX6 tyX6_ok nmX6 hown hkx.1 hP hD hS 0 rfl rfl 3 (by decide) k27 (fun _ h9 => h9) rfl (by decide +kernel) rfl rfl (Nat.le_of_ble_eq_true rfl) dX6_save_48 (fun H locs hP hD hS => ?_)
          have hP : va_P G vwCl (wMod T r mm (psf pp (632 - 158)) xx th (sv - 1) n1 ac ea le v1 v2 v3 v4 v5) H := hP
          have hD : va_D A (wMod T r mm (psf pp (632 - 158)) xx th (sv - 1) n1 ac ea le v1 v2 v3 v4 v5) := hD
          refine lv_iconst (v := 0) hx hb dX6_save_51 (by decide) ?_
          refine lv_istore_n (lv' := [(1, .int 0), (0, .ref (r 0))]) hx hb dX6_save_52 rfl hl (by decide) rfl (fun ls hl => ?_)
          have L53 : ∀ (fuel : Nat) (k : Nat) (g : Nat → Int32), 158 - k < fuel → k ≤ 158 → g = pcp (psf pp 474) (158 * (sv - 1)) mm k → ∀ (H : Heap) (locs : List Loc), va_P G vwCl (wMod T r mm g xx th (sv - 1) n1 ac ea le v1 v2 v3 v4 v5) H → va_D A (wMod T r mm g xx th (sv - 1) n1 ac ea le v1 v2 v3 v4 v5) → va_S A H0 H locs → ∀ ls : Array Slot, lv_has ls 2 [(0, .ref (r 0)), (1, .int (nI k))] → W p l e (rmo 0 0) s m ([.ref (r 0)] : List Value).toArray below meth c H locs 0 0 Q (F0 m 53 ls []) := by
            intro fuel
            induction fuel with
            | zero => intro k g hm; exact absurd hm (Nat.not_lt_zero _)
            | succ fuel ih53 =>
              intro k g hm53 hj hg H locs hP hD hS ls hl
              refine lv_iload_n hx hb dX6_save_53 rfl (lv_at hl 1 rfl) ?_
              refine lv_sipush (v := 158) hx hb dX6_save_54 (by decide) ?_
              refine lv_icmp_ge (tgt := 87) hx hb dX6_save_57 (by decide) (fun c_4 => ?_) (fun c_4 => ?_)
              · replace c_4 := cn_le (a := 158) (b := k) (by omega) (by omega) c_4
                refine lv_aload_n hx hb dX6_save_87 rfl (lv_at hl 0 rfl) ?_
                refine lv_dup hx hb dX6_save_88 rfl ?_
                refine va_get (D := G) (ci := 6) (C := RX6) (T := TX6) (N := 14) hx hb hts iX6 hown hkx.1 hP 0 rfl rfl 3 (by decide) k27 (fun _ h9 => h9) rfl dX6_save_89 ?_
                refine lv_iconst (v := 1) hx hb dX6_save_92 (by decide) ?_
                refine lv_iadd hx hb dX6_save_93 ?_
                rw [show ((nI (sv - 1)) + 1) = (nI ((sv - 1) + 1)) from nI_add (sv - 1) 1]
                refine va_put (D := G) (ci := 6) (v := .int (nI ((sv - 1) + 1))) (ty := .int) (C := RX6) (T := TX6) (N := 14) hx hb hts iX6 tyX6 tyX6_ok nmX6 hown hkx.1 hP hD hS 0 rfl rfl 3 (by decide) k27 (fun _ h9 => h9) rfl (by decide +kernel) rfl rfl (Nat.le_of_ble_eq_true rfl) dX6_save_94 (fun H locs hP hD hS => ?_)
                have hP : va_P G vwCl (wMod T r mm g xx th ((sv - 1) + 1) n1 ac ea le v1 v2 v3 v4 v5) H := hP
                have hD : va_D A (wMod T r mm g xx th ((sv - 1) + 1) n1 ac ea le v1 v2 v3 v4 v5) := hD
                exact hret _ _ _ _ (show (none : Option Value) = none ∧ va_P G vwCl (wMod T r mm (svP sv pp mm) xx th (svC sv) n1 ac ea le v1 v2 v3 v4 v5) H from ⟨rfl, (by have hk9 : k = 158 := (by omega); subst hk9; subst hg; subst c_1; exact hP)⟩) hS dX6_save_97
              · replace c_4 := cn_nle (a := 158) (b := k) (by omega) (by omega) c_4
                refine lv_aload_n hx hb dX6_save_60 rfl (lv_at hl 0 rfl) ?_
                refine va_get (D := G) (ci := 6) (C := RX6) (T := TX6) (N := 14) hx hb hts iX6 hown hkx.1 hP 0 rfl rfl 2 (by decide) k13 (fun _ h9 => h9) rfl dX6_save_61 ?_
                refine lv_sipush (v := 158) hx hb dX6_save_64 (by decide) ?_
                refine lv_aload_n hx hb dX6_save_67 rfl (lv_at hl 0 rfl) ?_
                refine va_get (D := G) (ci := 6) (C := RX6) (T := TX6) (N := 14) hx hb hts iX6 hown hkx.1 hP 0 rfl rfl 3 (by decide) k27 (fun _ h9 => h9) rfl dX6_save_68 ?_
                refine lv_imul hx hb dX6_save_71 ?_
                rw [show (158 * (nI (sv - 1))) = (nI (158 * (sv - 1))) from pk_mul _ _]
                refine lv_iload_n hx hb dX6_save_72 rfl (lv_at hl 1 rfl) ?_
                refine lv_iadd hx hb dX6_save_73 ?_
                rw [show ((nI (158 * (sv - 1))) + (nI k)) = (nI ((158 * (sv - 1)) + k)) from nI_add (158 * (sv - 1)) k]
                refine lv_aload_n hx hb dX6_save_74 rfl (lv_at hl 0 rfl) ?_
                refine va_get (D := G) (ci := 6) (C := RX6) (T := TX6) (N := 14) hx hb hts iX6 hown hkx.1 hP 0 rfl rfl 0 (by decide) k7 (fun _ h9 => h9) rfl dX6_save_75 ?_
                refine lv_iload_n hx hb dX6_save_78 rfl (lv_at hl 1 rfl) ?_
                refine ia hx hb hkx hP 1 rfl k rfl (by omega) (by decide) dX6_save_79 ?_
                refine ist hx hb hkx hP hD hS 2 rfl ((158 * (sv - 1)) + k) rfl (by omega) (by decide) dX6_save_80 (fun H locs hP hD hS => ?_)
                have hP : va_P G vwCl (wMod T r mm (upd g ((158 * (sv - 1)) + k) (mm k)) xx th (sv - 1) n1 ac ea le v1 v2 v3 v4 v5) H := hP
                have hD : va_D A (wMod T r mm (upd g ((158 * (sv - 1)) + k) (mm k)) xx th (sv - 1) n1 ac ea le v1 v2 v3 v4 v5) := hD
                refine lv_iinc (v := (nI (k + 1))) (lv' := [(1, .int (nI (k + 1))), (0, .ref (r 0))]) hx hb dX6_save_81 hl (k := 1) rfl (nI_inc k) (by decide) rfl (fun ls hl => ?_)
                refine lv_goto (tgt := 53) hx hb dX6_save_84 (by decide) ?_
                exact ih53 (k + 1) (upd g ((158 * (sv - 1)) + k) (mm k)) (by omega) (by omega) (by rw [hg, pcp_s]) _ _ hP hD hS _ (lv_sub hl [1, 0] rfl)
          exact L53 _ 0 (psf pp (632 - 158)) (Nat.lt_succ_self _) (by omega) (by exact (pcp_0 _ _ _).symm) _ _ hP hD hS _ (lv_sub hl [1, 0] rfl)
        · replace c_3 := cn_nle (a := 632) (b := k) (by omega) (by omega) c_3
          refine lv_aload_n hx hb dX6_save_19 rfl (lv_at hl 0 rfl) ?_
          refine va_get (D := G) (ci := 6) (C := RX6) (T := TX6) (N := 14) hx hb hts iX6 hown hkx.1 hP 0 rfl rfl 2 (by decide) k13 (fun _ h9 => h9) rfl dX6_save_20 ?_
          refine lv_iload_n hx hb dX6_save_23 rfl (lv_at hl 1 rfl) ?_
          refine lv_sipush (v := 158) hx hb dX6_save_24 (by decide) ?_
          refine lv_isub hx hb dX6_save_27 ?_
          rw [show ((nI k) - 158) = (nI (k - 158)) from pk_sub (a := k) (b := 158) (by omega)]
          refine lv_aload_n hx hb dX6_save_28 rfl (lv_at hl 0 rfl) ?_
          refine va_get (D := G) (ci := 6) (C := RX6) (T := TX6) (N := 14) hx hb hts iX6 hown hkx.1 hP 0 rfl rfl 2 (by decide) k13 (fun _ h9 => h9) rfl dX6_save_29 ?_
          refine lv_iload_n hx hb dX6_save_32 rfl (lv_at hl 1 rfl) ?_
          refine ia hx hb hkx hP 2 rfl k rfl (by omega) (by decide) dX6_save_33 ?_
          refine ist hx hb hkx hP hD hS 2 rfl (k - 158) rfl (by omega) (by decide) dX6_save_34 (fun H locs hP hD hS => ?_)
          have hP : va_P G vwCl (wMod T r mm (upd g (k - 158) (g k)) xx th sv n1 ac ea le v1 v2 v3 v4 v5) H := hP
          have hD : va_D A (wMod T r mm (upd g (k - 158) (g k)) xx th sv n1 ac ea le v1 v2 v3 v4 v5) := hD
          refine lv_iinc (v := (nI (k + 1))) (lv' := [(1, .int (nI (k + 1))), (0, .ref (r 0))]) hx hb dX6_save_35 hl (k := 1) rfl (nI_inc k) (by decide) rfl (fun ls hl => ?_)
          refine lv_goto (tgt := 12) hx hb dX6_save_38 (by decide) ?_
          exact ih12 (k + 1) (upd g (k - 158) (g k)) (by omega) (by omega) (by omega) (by rw [hg, show k + 1 - 158 = (k - 158) + 1 by omega, ← psf_s, show k - 158 + 158 = k by omega]) _ _ hP hD hS _ (lv_sub hl [1, 0] rfl)
    exact L12 _ 158 pp (Nat.lt_succ_self _) (by omega) (by omega) (by exact (psf_0 _).symm) _ _ hP hD hS _ (lv_sub hl [1, 0] rfl)
