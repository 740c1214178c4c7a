theorem idX6_isStranded : yX6_isStranded.cls = RX6 ∧ yX6_isStranded.cls ≠ "java/lang/invoke/MethodHandle" ∧ yX6_isStranded.cls ≠ "java/lang/invoke/VarHandle" ∧ (parseMethodDescriptor yX6_isStranded.desc).map (fun d => d.parameters.length) = some 2 := by decide +kernel

set_option maxHeartbeats 4000000 in
set_option maxRecDepth 100000 in
theorem mX6_isStranded (l : Launch) {G : va_G} {T : Nat → ClassId} {H : Heap} {r : Nat → Nat} {N : Nat → Nat} {Z : Nat → Nat → Int32} {mm : Nat → Int32} {pp : Nat → Int32} {xx : Nat → Int32} {th : Int32} {sv : Nat} {n1 : Nat} {ac : Int32} {ea : Int32} {le : Int32} {v1 : Int32} {v2 : Int32} {v3 : Int32} {v4 : Int32} {v5 : Int32} {u : Nat} {d : Int32} (hP : va_P G vwCl (wMod T r mm pp xx th sv n1 ac ea le v1 v2 v3 v4 v5) H) (hwf : wf N Z) (hr : rel N Z mm) (hu : u < N 2) : ro l yX6_isStranded wsX6_isStranded 4 96 [.ref (r 0), .int (nI u), .int d] G T H (fun r => r = bI (decide (¬ unU N Z u d = 0))) := by
  refine ro_of (cc := cX6_isStranded) (maxL := 3) (ret := .boolean) (own := RX6) (by decide +kernel) rfl rfl (Nat.le_of_ble_eq_true rfl) (fun v h => bI_nar h) ?_
  intro p e s m below meth c Q ls S hkx hl hret
  obtain ⟨hx, hb, hml, hown, hts⟩ := id S
  have hl : lv_has ls 3 [(0, .ref (r 0)), (1, .int (nI u)), (2, .int d)] := hl
  have hb2 := hwf.1
  obtain ⟨hr0, hr1, hr2, hr3, hrv, hrf, hru, hrs⟩ := id hr
  refine lv_aload_n hx hb dX6_isStranded_0 rfl (lv_at hl 0 rfl) ?_
  refine lv_iload_n hx hb dX6_isStranded_1 rfl (lv_at hl 1 rfl) ?_
  refine lv_aload_n hx hb dX6_isStranded_2 rfl (lv_at hl 0 rfl) ?_
  refine lv_iload_n hx hb dX6_isStranded_3 rfl (lv_at hl 1 rfl) ?_
  refine lv_iload_n hx hb dX6_isStranded_4 rfl (lv_at hl 2 rfl) ?_
  refine ro_V S hkx (mX6_on l (u := u) (d := d) (hP := hP) (hwf := hwf) (hr := hr) (hu := (by omega))) gX6_isStranded_X6_on rfl idX6_on ⟨Nat.le_of_ble_eq_true rfl, Nat.le_of_ble_eq_true rfl⟩ hP 0 rfl rfl rfl rfl hl.1 rfl (Nat.le_of_ble_eq_true rfl) dX6_isStranded_5 ⟨Nat.le_of_ble_eq_true rfl, Nat.le_of_ble_eq_true rfl⟩ (fun r_1 hr_1 => ?_)
  subst hr_1
  have ho := (on_spec hwf (show u < N 2 by omega) d).2
  refine lv_iload_n hx hb dX6_isStranded_8 rfl (lv_at hl 2 rfl) ?_
  refine ro_V S hkx (mX6_missingOn l (u := u) (v := (onN Z u d)) (d := d) (hP := hP) (hwf := hwf) (hr := hr) (hu := (by omega)) (hv := (by omega))) gX6_isStranded_X6_missingOn rfl idX6_missingOn ⟨Nat.le_of_ble_eq_true rfl, Nat.le_of_ble_eq_true rfl⟩ hP 0 rfl rfl rfl rfl hl.1 rfl (Nat.le_of_ble_eq_true rfl) dX6_isStranded_9 ⟨Nat.le_of_ble_eq_true rfl, Nat.le_of_ble_eq_true rfl⟩ (fun r_2 hr_2 => ?_)
  subst hr_2
  refine lv_if_eq (tgt := 19) hx hb dX6_isStranded_12 (by decide) (fun c_3 => ?_) (fun c_3 => ?_)
  · skip
    refine lv_iconst (v := 0) hx hb dX6_isStranded_19 (by decide) ?_
    exact hret _ _ _ (show 0 = bI (decide (¬ unU N Z u d = 0)) from by
        clear hret hl; refine bI_0 ?_; exact decide_eq_false (not_not_intro (by assumption))) dX6_isStranded_20
  · skip
    refine lv_iconst (v := 1) hx hb dX6_isStranded_15 (by decide) ?_
    refine lv_goto (tgt := 20) hx hb dX6_isStranded_16 (by decide) ?_
    exact hret _ _ _ (show 1 = bI (decide (¬ unU N Z u d = 0)) from by
        clear hret hl; refine bI_1 ?_; exact decide_eq_true (by assumption)) dX6_isStranded_20

theorem idX6_strandedOn : yX6_strandedOn.cls = RX6 ∧ yX6_strandedOn.cls ≠ "java/lang/invoke/MethodHandle" ∧ yX6_strandedOn.cls ≠ "java/lang/invoke/VarHandle" ∧ (parseMethodDescriptor yX6_strandedOn.desc).map (fun d => d.parameters.length) = some 1 := by decide +kernel

set_option maxHeartbeats 4000000 in
set_option maxRecDepth 100000 in
theorem mX6_strandedOn (l : Launch) {G : va_G} {T : Nat → ClassId} {H : Heap} {r : Nat → Nat} {N : Nat → Nat} {Z : Nat → Nat → Int32} {mm : Nat → Int32} {pp : Nat → Int32} {xx : Nat → Int32} {th : Int32} {sv : Nat} {n1 : Nat} {ac : Int32} {ea : Int32} {le : Int32} {v1 : Int32} {v2 : Int32} {v3 : Int32} {v4 : Int32} {v5 : Int32} {d : Int32} (hP : va_P G vwCl (wMod T r mm pp xx th sv n1 ac ea le v1 v2 v3 v4 v5) H) (hwf : wf N Z) (hr : rel N Z mm) : ro l yX6_strandedOn wsX6_strandedOn 5 118 [.ref (r 0), .int d] G T H (fun r => r = stU N Z d (N 2)) := by
  refine ro_of (cc := cX6_strandedOn) (maxL := 4) (ret := .int) (own := RX6) (by decide +kernel) rfl rfl (Nat.le_of_ble_eq_true rfl) (fun v _ => vp_nar_int v) ?_
  intro p e s m below meth c Q ls S hkx hl hret
  obtain ⟨hx, hb, hml, hown, hts⟩ := id S
  have hl : lv_has ls 4 [(0, .ref (r 0)), (1, .int d)] := hl
  have k7 := hts (.fieldLink RX6 7 "SunsetDatesModel" "now" "[I") (by decide +kernel)
  have iX6 : ∀ w ∈ wsX60, w ∈ wsX6_strandedOn := by decide +kernel
  have hb2 := hwf.1
  obtain ⟨hr0, hr1, hr2, hr3, hrv, hrf, hru, hrs⟩ := id hr
  refine lv_iconst (v := 0) hx hb dX6_strandedOn_0 (by decide) ?_
  refine lv_istore_n (lv' := [(2, .int 0), (0, .ref (r 0)), (1, .int d)]) hx hb dX6_strandedOn_1 rfl hl (by decide) rfl (fun ls hl => ?_)
  refine lv_iconst (v := 0) hx hb dX6_strandedOn_2 (by decide) ?_
  refine lv_istore_n (lv' := [(3, .int 0), (2, .int 0), (0, .ref (r 0)), (1, .int d)]) hx hb dX6_strandedOn_3 rfl hl (by decide) rfl (fun ls hl => ?_)
  have L4 : ∀ (fuel : Nat) (k : Nat) (y : Int32), N 2 - k < fuel → k ≤ N 2 → y = stU N Z d k → ∀ ls : Array Slot, lv_has ls 4 [(0, .ref (r 0)), (1, .int d), (2, .int y), (3, .int (nI k))] → W p l e (rmo 5 118) s m ([.ref (r 0), .int d] : List Value).toArray below meth c H [] 0 0 Q (F0 m 4 ls []) := by
    intro fuel
    induction fuel with
    | zero => intro k y hm; exact absurd hm (Nat.not_lt_zero _)
    | succ fuel ih4 =>
      intro k y hm4 hk hy ls hl
      refine lv_iload_n hx hb dX6_strandedOn_4 rfl (lv_at hl 3 rfl) ?_
      refine lv_aload_n hx hb dX6_strandedOn_5 rfl (lv_at hl 0 rfl) ?_
      refine va_get (D := G) (ci := 6) (C := RX6) (T := TX6) (N := 14) hx hb hts iX6 hown hkx.1 hP 0 rfl rfl 0 (by decide) k7 (fun _ h9 => h9) rfl dX6_strandedOn_6 ?_
      refine lv_iconst (v := 2) hx hb dX6_strandedOn_9 (by decide) ?_
      refine ia hx hb hkx hP 1 rfl 2 rfl (by omega) (by decide) dX6_strandedOn_10 ?_
      rw [hr2]
      refine lv_icmp_ge (tgt := 39) hx hb dX6_strandedOn_11 (by decide) (fun c_1 => ?_) (fun c_1 => ?_)
      · replace c_1 := cn_le (a := (N 2)) (b := k) (by omega) (by omega) c_1
        refine lv_iload_n hx hb dX6_strandedOn_39 rfl (lv_at hl 2 rfl) ?_
        exact hret _ _ _ (show y = stU N Z d (N 2) from by
            rw [hy, show k = N 2 by omega]) dX6_strandedOn_40
      · replace c_1 := cn_nle (a := (N 2)) (b := k) (by omega) (by omega) c_1
        refine lv_iload_n hx hb dX6_strandedOn_14 rfl (lv_at hl 2 rfl) ?_
        refine lv_aload_n hx hb dX6_strandedOn_15 rfl (lv_at hl 0 rfl) ?_
        refine lv_iload_n hx hb dX6_strandedOn_16 rfl (lv_at hl 3 rfl) ?_
        refine lv_iload_n hx hb dX6_strandedOn_17 rfl (lv_at hl 1 rfl) ?_
        refine ro_V S hkx (mX6_isStranded l (u := k) (d := d) (hP := hP) (hwf := hwf) (hr := hr) (hu := (by omega))) gX6_strandedOn_X6_isStranded rfl idX6_isStranded ⟨Nat.le_of_ble_eq_true rfl, Nat.le_of_ble_eq_true rfl⟩ hP 0 rfl rfl rfl rfl hl.1 rfl (Nat.le_of_ble_eq_true rfl) dX6_strandedOn_18 ⟨Nat.le_of_ble_eq_true rfl, Nat.le_of_ble_eq_true rfl⟩ (fun r_2 hr_2 => ?_)
        subst hr_2
        refine lv_if_eq (tgt := 30) hx hb dX6_strandedOn_21 (by decide) (fun c_3 => ?_) (fun c_3 => ?_)
        · replace c_3 := bI_e0 c_3
          refine lv_iconst (v := 0) hx hb dX6_strandedOn_30 (by decide) ?_
          refine lv_ior hx hb dX6_strandedOn_31 ?_
          refine lv_istore_n (lv' := [(2, .int (y ||| 0)), (0, .ref (r 0)), (1, .int d), (3, .int (nI k))]) hx hb dX6_strandedOn_32 rfl hl (by decide) rfl (fun ls hl => ?_)
          refine lv_iinc (v := (nI (k + 1))) (lv' := [(3, .int (nI (k + 1))), (2, .int (y ||| 0)), (0, .ref (r 0)), (1, .int d)]) hx hb dX6_strandedOn_33 hl (k := 3) rfl (nI_inc k) (by decide) rfl (fun ls hl => ?_)
          refine lv_goto (tgt := 4) hx hb dX6_strandedOn_36 (by decide) ?_
          exact ih4 (k + 1) (y ||| 0) (by omega) (by omega) (by rw [hy, stU]; simp_all) _ (lv_sub hl [2, 3, 1, 0] rfl)
        · replace c_3 := bI_n0 c_3
          refine lv_iconst (v := 1) hx hb dX6_strandedOn_24 (by decide) ?_
          refine lv_iload_n hx hb dX6_strandedOn_25 rfl (lv_at hl 3 rfl) ?_
          refine lv_ishl hx hb dX6_strandedOn_26 ?_
          refine lv_goto (tgt := 31) hx hb dX6_strandedOn_27 (by decide) ?_
          refine lv_ior hx hb dX6_strandedOn_31 ?_
          refine lv_istore_n (lv' := [(2, .int (y ||| (1 <<< ((nI k) &&& 31)))), (0, .ref (r 0)), (1, .int d), (3, .int (nI k))]) hx hb dX6_strandedOn_32 rfl hl (by decide) rfl (fun ls hl => ?_)
          refine lv_iinc (v := (nI (k + 1))) (lv' := [(3, .int (nI (k + 1))), (2, .int (y ||| (1 <<< ((nI k) &&& 31)))), (0, .ref (r 0)), (1, .int d)]) hx hb dX6_strandedOn_33 hl (k := 3) rfl (nI_inc k) (by decide) rfl (fun ls hl => ?_)
          refine lv_goto (tgt := 4) hx hb dX6_strandedOn_36 (by decide) ?_
          exact ih4 (k + 1) (y ||| (1 <<< ((nI k) &&& 31))) (by omega) (by omega) (by rw [hy, stU]; simp_all) _ (lv_sub hl [2, 3, 1, 0] rfl)
  exact L4 _ 0 0 (Nat.lt_succ_self _) (by omega) (by rfl) _ (lv_sub hl [2, 3, 1, 0] rfl)

theorem idX6_costOn : yX6_costOn.cls = RX6 ∧ yX6_costOn.cls ≠ "java/lang/invoke/MethodHandle" ∧ yX6_costOn.cls ≠ "java/lang/invoke/VarHandle" ∧ (parseMethodDescriptor yX6_costOn.desc).map (fun d => d.parameters.length) = some 3 := by decide +kernel

set_option maxHeartbeats 4000000 in
set_option maxRecDepth 100000 in
theorem mX6_costOn (l : Launch) {G : va_G} {T : Nat → ClassId} {H : Heap} {r : Nat → Nat} {N : Nat → Nat} {Z : Nat → Nat → Int32} {mm : Nat → Int32} {pp : Nat → Int32} {xx : Nat → Int32} {th : Int32} {sv : Nat} {n1 : Nat} {ac : Int32} {ea : Int32} {le : Int32} {v1 : Int32} {v2 : Int32} {v3 : Int32} {v4 : Int32} {v5 : Int32} {u : Nat} {v : Nat} {d : Int32} (hP : va_P G vwCl (wMod T r mm pp xx th sv n1 ac ea le v1 v2 v3 v4 v5) H) (hwf : wf N Z) (hr : rel N Z mm) (hu : u < N 2) (hv : v < N 0) : ro l yX6_costOn wsX6_costOn 3 71 [.ref (r 0), .int (nI u), .int (nI v), .int d] G T H (fun r => r = cst N Z (Z 6 u) v d) := by
  refine ro_of (cc := cX6_costOn) (maxL := 7) (ret := .int) (own := RX6) (by decide +kernel) rfl rfl (Nat.le_of_ble_eq_true rfl) (fun v _ => vp_nar_int v) ?_
  intro p e s m below meth c Q ls S hkx hl hret
  obtain ⟨hx, hb, hml, hown, hts⟩ := id S
  have hl : lv_has ls 7 [(0, .ref (r 0)), (1, .int (nI u)), (2, .int (nI v)), (3, .int d)] := hl
  have k7 := hts (.fieldLink RX6 7 "SunsetDatesModel" "now" "[I") (by decide +kernel)
  have iX6 : ∀ w ∈ wsX60, w ∈ wsX6_costOn := by decide +kernel
  have hb2 := hwf.1
  obtain ⟨hr0, hr1, hr2, hr3, hrv, hrf, hru, hrs⟩ := id hr
  refine lv_iconst (v := 0) hx hb dX6_costOn_0 (by decide) ?_
  refine lv_istore (lv' := [(4, .int 0), (0, .ref (r 0)), (1, .int (nI u)), (2, .int (nI v)), (3, .int d)]) hx hb dX6_costOn_1 hl (by decide) rfl (fun ls hl => ?_)
  refine lv_iconst (v := 0) hx hb dX6_costOn_3 (by decide) ?_
  refine lv_istore (lv' := [(5, .int 0), (4, .int 0), (0, .ref (r 0)), (1, .int (nI u)), (2, .int (nI v)), (3, .int d)]) hx hb dX6_costOn_4 hl (by decide) rfl (fun ls hl => ?_)
  have L6 : ∀ (fuel : Nat) (k : Nat) (y : Int32), N 1 - k < fuel → k ≤ N 1 → y = csM N Z (Z 6 u) v d k → ∀ ls : Array Slot, lv_has ls 7 [(0, .ref (r 0)), (1, .int (nI u)), (2, .int (nI v)), (3, .int d), (4, .int y), (5, .int (nI k))] → W p l e (rmo 3 71) s m ([.ref (r 0), .int (nI u), .int (nI v), .int d] : List Value).toArray below meth c H [] 0 0 Q (F0 m 6 ls []) := by
    intro fuel
    induction fuel with
    | zero => intro k y hm; exact absurd hm (Nat.not_lt_zero _)
    | succ fuel ih6 =>
      intro k y hm6 hk hy ls hl
      refine lv_iload hx hb dX6_costOn_6 (lv_at hl 5 rfl) ?_
      refine lv_aload_n hx hb dX6_costOn_8 rfl (lv_at hl 0 rfl) ?_
      refine va_get (D := G) (ci := 6) (C := RX6) (T := TX6) (N := 14) hx hb hts iX6 hown hkx.1 hP 0 rfl rfl 0 (by decide) k7 (fun _ h9 => h9) rfl dX6_costOn_9 ?_
      refine lv_iconst (v := 1) hx hb dX6_costOn_12 (by decide) ?_
      refine ia hx hb hkx hP 1 rfl 1 rfl (by omega) (by decide) dX6_costOn_13 ?_
      rw [hr1]
      refine lv_icmp_ge (tgt := 78) hx hb dX6_costOn_14 (by decide) (fun c_1 => ?_) (fun c_1 => ?_)
      · replace c_1 := cn_le (a := (N 1)) (b := k) (by omega) (by omega) c_1
        refine lv_iload hx hb dX6_costOn_78 (lv_at hl 4 rfl) ?_
        exact hret _ _ _ (show y = cst N Z (Z 6 u) v d from by
            rw [hy, show k = N 1 by omega]; exact csM_cst hwf (Z 6 u) d) dX6_costOn_80
      · replace c_1 := cn_nle (a := (N 1)) (b := k) (by omega) (by omega) c_1
        refine lv_aload_n hx hb dX6_costOn_17 rfl (lv_at hl 0 rfl) ?_
        refine lv_iload_n hx hb dX6_costOn_18 rfl (lv_at hl 1 rfl) ?_
        refine lv_iconst (v := 1) hx hb dX6_costOn_19 (by decide) ?_
        refine ro_V S hkx (mX6_ofUser l (u := u) (w := 1) (hP := hP) (hwf := hwf) (hr := hr) (hu := (by omega)) (hw := (by omega))) gX6_costOn_X6_ofUser rfl idX6_ofUser ⟨Nat.le_of_ble_eq_true rfl, Nat.le_of_ble_eq_true rfl⟩ hP 0 rfl rfl rfl rfl hl.1 rfl (Nat.le_of_ble_eq_true rfl) dX6_costOn_20 ⟨Nat.le_of_ble_eq_true rfl, Nat.le_of_ble_eq_true rfl⟩ (fun r_2 hr_2 => ?_)
        subst hr_2
        skip
        refine lv_iload hx hb dX6_costOn_23 (lv_at hl 5 rfl) ?_
        refine ro_S S hkx (mX6_has l (x := (Z 6 u)) (k := (nI k))) gX6_costOn_X6_has rfl idX6_has.2 ⟨Nat.le_of_ble_eq_true rfl, Nat.le_of_ble_eq_true rfl⟩ rfl hl.1 rfl (Nat.le_of_ble_eq_true rfl) dX6_costOn_25 ⟨Nat.le_of_ble_eq_true rfl, Nat.le_of_ble_eq_true rfl⟩ (fun r_3 hr_3 => ?_)
        subst hr_3
        refine lv_if_eq (tgt := 47) hx hb dX6_costOn_28 (by decide) (fun c_4 => ?_) (fun c_4 => ?_)
        · replace c_4 := bI_e0 c_4
          refine lv_iconst (v := 0) hx hb dX6_costOn_47 (by decide) ?_
          refine lv_istore (lv' := [(6, .int 0), (0, .ref (r 0)), (1, .int (nI u)), (2, .int (nI v)), (3, .int d), (4, .int y), (5, .int (nI k))]) hx hb dX6_costOn_48 hl (by decide) rfl (fun ls hl => ?_)
          refine lv_iload hx hb dX6_costOn_50 (lv_at hl 5 rfl) ?_
          refine lv_iload hx hb dX6_costOn_52 (lv_at hl 0 rfl) ?_
          refine lv_if_eq (tgt := 68) hx hb dX6_costOn_54 (by decide) (fun c_5 => ?_) (fun c_5 => ?_)
          · replace c_5 := cn_eq (a := 0) (b := 0) (by omega) (by omega) c_5
            refine lv_iconst (v := 0) hx hb dX6_costOn_68 (by decide) ?_
            refine lv_iadd hx hb dX6_costOn_69 ?_
            refine lv_istore (lv' := [(4, .int (y + 0)), (6, .int 0), (0, .ref (r 0)), (1, .int (nI u)), (2, .int (nI v)), (3, .int d), (5, .int (nI k))]) hx hb dX6_costOn_70 hl (by decide) rfl (fun ls hl => ?_)
            refine lv_iinc (v := (nI (k + 1))) (lv' := [(5, .int (nI (k + 1))), (4, .int (y + 0)), (6, .int 0), (0, .ref (r 0)), (1, .int (nI u)), (2, .int (nI v)), (3, .int d)]) hx hb dX6_costOn_72 hl (k := 6) rfl (nI_inc k) (by decide) rfl (fun ls hl => ?_)
            refine lv_goto (tgt := 6) hx hb dX6_costOn_75 (by decide) ?_
            exact ih6 (k + 1) (y + 0) (by omega) (by omega) (by rw [hy]; simp [csM, *]) _ (lv_sub hl [3, 4, 5, 6, 1, 0] rfl)
          · replace c_5 := cn_ne (a := 0) (b := 0) (by omega) (by omega) c_5
            exact absurd c_5 (by decide)
        · replace c_4 := bI_n0 c_4
          refine lv_aload_n hx hb dX6_costOn_31 rfl (lv_at hl 0 rfl) ?_
          refine lv_iload_n hx hb dX6_costOn_32 rfl (lv_at hl 2 rfl) ?_
          refine lv_iload hx hb dX6_costOn_33 (lv_at hl 5 rfl) ?_
          refine lv_iload_n hx hb dX6_costOn_35 rfl (lv_at hl 3 rfl) ?_
          refine ro_V S hkx (mX6_servedOn l (v := v) (f := k) (d := d) (hP := hP) (hwf := hwf) (hr := hr) (hv := (by omega)) (hf := (by omega))) gX6_costOn_X6_servedOn rfl idX6_servedOn ⟨Nat.le_of_ble_eq_true rfl, Nat.le_of_ble_eq_true rfl⟩ hP 0 rfl rfl rfl rfl hl.1 rfl (Nat.le_of_ble_eq_true rfl) dX6_costOn_36 ⟨Nat.le_of_ble_eq_true rfl, Nat.le_of_ble_eq_true rfl⟩ (fun r_6 hr_6 => ?_)
          subst hr_6
          refine lv_iconst (v := 1) hx hb dX6_costOn_39 (by decide) ?_
          refine lv_icmp_ne (tgt := 47) hx hb dX6_costOn_40 (by decide) (fun c_7 => ?_) (fun c_7 => ?_)
          · skip
            refine lv_iconst (v := 0) hx hb dX6_costOn_47 (by decide) ?_
            refine lv_istore (lv' := [(6, .int 0), (0, .ref (r 0)), (1, .int (nI u)), (2, .int (nI v)), (3, .int d), (4, .int y), (5, .int (nI k))]) hx hb dX6_costOn_48 hl (by decide) rfl (fun ls hl => ?_)
            refine lv_iload hx hb dX6_costOn_50 (lv_at hl 5 rfl) ?_
            refine lv_iload hx hb dX6_costOn_52 (lv_at hl 0 rfl) ?_
            refine lv_if_eq (tgt := 68) hx hb dX6_costOn_54 (by decide) (fun c_8 => ?_) (fun c_8 => ?_)
            · replace c_8 := cn_eq (a := 0) (b := 0) (by omega) (by omega) c_8
              refine lv_iconst (v := 0) hx hb dX6_costOn_68 (by decide) ?_
              refine lv_iadd hx hb dX6_costOn_69 ?_
              refine lv_istore (lv' := [(4, .int (y + 0)), (6, .int 0), (0, .ref (r 0)), (1, .int (nI u)), (2, .int (nI v)), (3, .int d), (5, .int (nI k))]) hx hb dX6_costOn_70 hl (by decide) rfl (fun ls hl => ?_)
              refine lv_iinc (v := (nI (k + 1))) (lv' := [(5, .int (nI (k + 1))), (4, .int (y + 0)), (6, .int 0), (0, .ref (r 0)), (1, .int (nI u)), (2, .int (nI v)), (3, .int d)]) hx hb dX6_costOn_72 hl (k := 6) rfl (nI_inc k) (by decide) rfl (fun ls hl => ?_)
              refine lv_goto (tgt := 6) hx hb dX6_costOn_75 (by decide) ?_
              exact ih6 (k + 1) (y + 0) (by omega) (by omega) (by rw [hy]; simp [csM, *]) _ (lv_sub hl [3, 4, 5, 6, 1, 0] rfl)
            · replace c_8 := cn_ne (a := 0) (b := 0) (by omega) (by omega) c_8
              exact absurd c_8 (by decide)
          · skip
            refine lv_iconst (v := 1) hx hb dX6_costOn_43 (by decide) ?_
            refine lv_goto (tgt := 48) hx hb dX6_costOn_44 (by decide) ?_
            refine lv_istore (lv' := [(6, .int 1), (0, .ref (r 0)), (1, .int (nI u)), (2, .int (nI v)), (3, .int d), (4, .int y), (5, .int (nI k))]) hx hb dX6_costOn_48 hl (by decide) rfl (fun ls hl => ?_)
            refine lv_iload hx hb dX6_costOn_50 (lv_at hl 5 rfl) ?_
            refine lv_iload hx hb dX6_costOn_52 (lv_at hl 0 rfl) ?_
            refine lv_if_eq (tgt := 68) hx hb dX6_costOn_54 (by decide) (fun c_9 => ?_) (fun c_9 => ?_)
            · replace c_9 := cn_eq (a := 1) (b := 0) (by omega) (by omega) c_9
              exact absurd c_9 (by decide)
            · replace c_9 := cn_ne (a := 1) (b := 0) (by omega) (by omega) c_9
              refine lv_aload_n hx hb dX6_costOn_57 rfl (lv_at hl 1 rfl) ?_
              refine lv_iload hx hb dX6_costOn_58 (lv_at hl 6 rfl) ?_
              refine lv_iload_n hx hb dX6_costOn_60 rfl (lv_at hl 3 rfl) ?_
              refine lv_iload_n hx hb dX6_costOn_61 rfl (lv_at hl 4 rfl) ?_
              refine ro_V S hkx (mX6_cheapestShim l (f := (nI k)) (z := (nI v)) (d := d) (hP := hP) (hwf := hwf) (hr := hr)) gX6_costOn_X6_cheapestShim rfl idX6_cheapestShim ⟨Nat.le_of_ble_eq_true rfl, Nat.le_of_ble_eq_true rfl⟩ hP 0 rfl rfl rfl rfl hl.1 rfl (Nat.le_of_ble_eq_true rfl) dX6_costOn_62 ⟨Nat.le_of_ble_eq_true rfl, Nat.le_of_ble_eq_true rfl⟩ (fun r_10 hr_10 => ?_)
              subst hr_10
              refine lv_goto (tgt := 69) hx hb dX6_costOn_65 (by decide) ?_
              refine lv_iadd hx hb dX6_costOn_69 ?_
              refine lv_istore (lv' := [(4, .int (y + (lowP Z (nI k) (nI v) d (N 3)))), (6, .int 1), (0, .ref (r 0)), (1, .int (nI u)), (2, .int (nI v)), (3, .int d), (5, .int (nI k))]) hx hb dX6_costOn_70 hl (by decide) rfl (fun ls hl => ?_)
              refine lv_iinc (v := (nI (k + 1))) (lv' := [(5, .int (nI (k + 1))), (4, .int (y + (lowP Z (nI k) (nI v) d (N 3)))), (6, .int 1), (0, .ref (r 0)), (1, .int (nI u)), (2, .int (nI v)), (3, .int d)]) hx hb dX6_costOn_72 hl (k := 6) rfl (nI_inc k) (by decide) rfl (fun ls hl => ?_)
              refine lv_goto (tgt := 6) hx hb dX6_costOn_75 (by decide) ?_
              exact ih6 (k + 1) (y + (lowP Z (nI k) (nI v) d (N 3))) (by omega) (by omega) (by rw [hy]; simp [csM, *]) _ (lv_sub hl [3, 4, 5, 6, 1, 0] rfl)
  exact L6 _ 0 0 (Nat.lt_succ_self _) (by omega) (by rfl) _ (lv_sub hl [2, 3, 4, 5, 1, 0] rfl)

theorem idX6_costsOf : yX6_costsOf.cls = RX6 ∧ yX6_costsOf.cls ≠ "java/lang/invoke/MethodHandle" ∧ yX6_costsOf.cls ≠ "java/lang/invoke/VarHandle" ∧ (parseMethodDescriptor yX6_costsOf.desc).map (fun d => d.parameters.length) = some 2 := by decide +kernel

set_option maxHeartbeats 4000000 in
set_option maxRecDepth 100000 in
theorem mX6_costsOf (l : Launch) {G : va_G} {T : Nat → ClassId} {H : Heap} {r : Nat → Nat} {N : Nat → Nat} {Z : Nat → Nat → Int32} {mm : Nat → Int32} {pp : Nat → Int32} {xx : Nat → Int32} {th : Int32} {sv : Nat} {n1 : Nat} {ac : Int32} {ea : Int32} {le : Int32} {v1 : Int32} {v2 : Int32} {v3 : Int32} {v4 : Int32} {v5 : Int32} {f : Nat} {w : Nat} (hP : va_P G vwCl (wMod T r mm pp xx th sv n1 ac ea le v1 v2 v3 v4 v5) H) (hwf : wf N Z) (hr : rel N Z mm) (hfl : f ≤ w) (hl9 : w ≤ 999) : ro l yX6_costsOf wsX6_costsOf 4 97 [.ref (r 0), .int (nI f), .int (nI w)] G T H (fun r => r = smD (cAlD N Z) f (w + 1 - f)) := by
  refine ro_of (cc := cX6_costsOf) (maxL := 6) (ret := .int) (own := RX6) (by decide +kernel) rfl rfl (Nat.le_of_ble_eq_true rfl) (fun v _ => vp_nar_int v) ?_
  intro p e s m below meth c Q ls S hkx hl hret
  obtain ⟨hx, hb, hml, hown, hts⟩ := id S
  have hl : lv_has ls 6 [(0, .ref (r 0)), (1, .int (nI f)), (2, .int (nI w))] := hl
  have k7 := hts (.fieldLink RX6 7 "SunsetDatesModel" "now" "[I") (by decide +kernel)
  have iX6 : ∀ w ∈ wsX60, w ∈ wsX6_costsOf := by decide +kernel
  have hb2 := hwf.1
  obtain ⟨hr0, hr1, hr2, hr3, hrv, hrf, hru, hrs⟩ := id hr
  refine lv_iconst (v := 0) hx hb dX6_costsOf_0 (by decide) ?_
  refine lv_istore_n (lv' := [(3, .int 0), (0, .ref (r 0)), (1, .int (nI f)), (2, .int (nI w))]) hx hb dX6_costsOf_1 rfl hl (by decide) rfl (fun ls hl => ?_)
  refine lv_iload_n hx hb dX6_costsOf_2 rfl (lv_at hl 2 rfl) ?_
  refine lv_istore (lv' := [(4, .int (nI f)), (3, .int 0), (0, .ref (r 0)), (1, .int (nI f)), (2, .int (nI w))]) hx hb dX6_costsOf_3 hl (by decide) rfl (fun ls hl => ?_)
  have L5 : ∀ (fuel : Nat) (k : Nat) (y : Int32), w + 1 - k < fuel → f ≤ k → k ≤ w + 1 → y = smD (cAlD N Z) f (k - f) → ∀ ls : Array Slot, lv_has ls 6 [(0, .ref (r 0)), (1, .int (nI f)), (2, .int (nI w)), (3, .int y), (4, .int (nI k))] → W p l e (rmo 4 97) s m ([.ref (r 0), .int (nI f), .int (nI w)] : List Value).toArray below meth c H [] 0 0 Q (F0 m 5 ls []) := by
    intro fuel
    induction fuel with
    | zero => intro k y hm; exact absurd hm (Nat.not_lt_zero _)
    | succ fuel ih5 =>
      intro k y hm5 hk hk2 hy ls hl
      refine lv_iload hx hb dX6_costsOf_5 (lv_at hl 4 rfl) ?_
      refine lv_iload_n hx hb dX6_costsOf_7 rfl (lv_at hl 2 rfl) ?_
      refine lv_icmp_gt (tgt := 56) hx hb dX6_costsOf_8 (by decide) (fun c_1 => ?_) (fun c_1 => ?_)
      · replace c_1 := cn_lt (a := w) (b := k) (by omega) (by omega) c_1
        refine lv_iload_n hx hb dX6_costsOf_56 rfl (lv_at hl 3 rfl) ?_
        exact hret _ _ _ (show y = smD (cAlD N Z) f (w + 1 - f) from by
            rw [hy, show k = w + 1 by omega]) dX6_costsOf_57
      · replace c_1 := cn_nlt (a := w) (b := k) (by omega) (by omega) c_1
        refine lv_iconst (v := 0) hx hb dX6_costsOf_11 (by decide) ?_
        refine lv_istore (lv' := [(5, .int 0), (0, .ref (r 0)), (1, .int (nI f)), (2, .int (nI w)), (3, .int y), (4, .int (nI k))]) hx hb dX6_costsOf_12 hl (by decide) rfl (fun ls hl => ?_)
        have L14 : ∀ (fuel : Nat) (j : Nat) (y2 : Int32), N 2 - j < fuel → j ≤ N 2 → y2 = smD (cAlD N Z) f (k - f) + cAl N Z (nI k) j → ∀ ls : Array Slot, lv_has ls 6 [(0, .ref (r 0)), (1, .int (nI f)), (2, .int (nI w)), (3, .int y2), (4, .int (nI k)), (5, .int (nI j))] → W p l e (rmo 4 97) s m ([.ref (r 0), .int (nI f), .int (nI w)] : List Value).toArray below meth c H [] 0 0 Q (F0 m 14 ls []) := by
          intro fuel
          induction fuel with
          | zero => intro j y2 hm; exact absurd hm (Nat.not_lt_zero _)
          | succ fuel ih14 =>
            intro j y2 hm14 hj hy2 ls hl
            refine lv_iload hx hb dX6_costsOf_14 (lv_at hl 5 rfl) ?_
            refine lv_aload_n hx hb dX6_costsOf_16 rfl (lv_at hl 0 rfl) ?_
            refine va_get (D := G) (ci := 6) (C := RX6) (T := TX6) (N := 14) hx hb hts iX6 hown hkx.1 hP 0 rfl rfl 0 (by decide) k7 (fun _ h9 => h9) rfl dX6_costsOf_17 ?_
            refine lv_iconst (v := 2) hx hb dX6_costsOf_20 (by decide) ?_
            refine ia hx hb hkx hP 1 rfl 2 rfl (by omega) (by decide) dX6_costsOf_21 ?_
            rw [hr2]
            refine lv_icmp_ge (tgt := 50) hx hb dX6_costsOf_22 (by decide) (fun c_2 => ?_) (fun c_2 => ?_)
            · replace c_2 := cn_le (a := (N 2)) (b := j) (by omega) (by omega) c_2
              refine lv_iinc (v := (nI (k + 1))) (lv' := [(4, .int (nI (k + 1))), (0, .ref (r 0)), (1, .int (nI f)), (2, .int (nI w)), (3, .int y2), (5, .int (nI j))]) hx hb dX6_costsOf_50 hl (k := 4) rfl (nI_inc k) (by decide) rfl (fun ls hl => ?_)
              refine lv_goto (tgt := 5) hx hb dX6_costsOf_53 (by decide) ?_
              exact ih5 (k + 1) y2 (by omega) (by omega) (by omega) (by rw [hy2, show j = N 2 by omega, show k + 1 - f = (k - f) + 1 by omega, smD, show f + (k - f) = k by omega]; rfl) _ (lv_sub hl [1, 2, 3, 4, 0] rfl)
            · replace c_2 := cn_nle (a := (N 2)) (b := j) (by omega) (by omega) c_2
              refine lv_iload_n hx hb dX6_costsOf_25 rfl (lv_at hl 3 rfl) ?_
              refine lv_aload_n hx hb dX6_costsOf_26 rfl (lv_at hl 0 rfl) ?_
              refine lv_iload hx hb dX6_costsOf_27 (lv_at hl 5 rfl) ?_
              refine lv_aload_n hx hb dX6_costsOf_29 rfl (lv_at hl 0 rfl) ?_
              refine lv_iload hx hb dX6_costsOf_30 (lv_at hl 5 rfl) ?_
              refine lv_iload hx hb dX6_costsOf_32 (lv_at hl 4 rfl) ?_
              refine ro_V S hkx (mX6_on l (u := j) (d := (nI k)) (hP := hP) (hwf := hwf) (hr := hr) (hu := (by omega))) gX6_costsOf_X6_on rfl idX6_on ⟨Nat.le_of_ble_eq_true rfl, Nat.le_of_ble_eq_true rfl⟩ hP 0 rfl rfl rfl rfl hl.1 rfl (Nat.le_of_ble_eq_true rfl) dX6_costsOf_34 ⟨Nat.le_of_ble_eq_true rfl, Nat.le_of_ble_eq_true rfl⟩ (fun r_3 hr_3 => ?_)
              subst hr_3
              have ho := (on_spec hwf (show j < N 2 by omega) (nI k)).2
              refine lv_iload hx hb dX6_costsOf_37 (lv_at hl 4 rfl) ?_
              refine ro_V S hkx (mX6_costOn l (u := j) (v := (onN Z j (nI k))) (d := (nI k)) (hP := hP) (hwf := hwf) (hr := hr) (hu := (by omega)) (hv := (by omega))) gX6_costsOf_X6_costOn rfl idX6_costOn ⟨Nat.le_of_ble_eq_true rfl, Nat.le_of_ble_eq_true rfl⟩ hP 0 rfl rfl rfl rfl hl.1 rfl (Nat.le_of_ble_eq_true rfl) dX6_costsOf_39 ⟨Nat.le_of_ble_eq_true rfl, Nat.le_of_ble_eq_true rfl⟩ (fun r_4 hr_4 => ?_)
              subst hr_4
              refine lv_iadd hx hb dX6_costsOf_42 ?_
              refine lv_istore_n (lv' := [(3, .int (y2 + (cst N Z (Z 6 j) (onN Z j (nI k)) (nI k)))), (0, .ref (r 0)), (1, .int (nI f)), (2, .int (nI w)), (4, .int (nI k)), (5, .int (nI j))]) hx hb dX6_costsOf_43 rfl hl (by decide) rfl (fun ls hl => ?_)
              refine lv_iinc (v := (nI (j + 1))) (lv' := [(5, .int (nI (j + 1))), (3, .int (y2 + (cst N Z (Z 6 j) (onN Z j (nI k)) (nI k)))), (0, .ref (r 0)), (1, .int (nI f)), (2, .int (nI w)), (4, .int (nI k))]) hx hb dX6_costsOf_44 hl (k := 5) rfl (nI_inc j) (by decide) rfl (fun ls hl => ?_)
              refine lv_goto (tgt := 14) hx hb dX6_costsOf_47 (by decide) ?_
              exact ih14 (j + 1) (y2 + (cst N Z (Z 6 j) (onN Z j (nI k)) (nI k))) (by omega) (by omega) (by rw [hy2, cAl, Int32.add_assoc]) _ (lv_sub hl [2, 3, 4, 1, 5, 0] rfl)
        exact L14 _ 0 y (Nat.lt_succ_self _) (by omega) (by rw [cAl, Int32.add_zero]; exact hy) _ (lv_sub hl [1, 2, 3, 4, 5, 0] rfl)
  exact L5 _ f 0 (Nat.lt_succ_self _) (by omega) (by omega) (by rw [Nat.sub_self]; rfl) _ (lv_sub hl [2, 3, 4, 1, 0] rfl)

theorem idX6_areDays : yX6_areDays.cls = RX6 ∧ yX6_areDays.cls ≠ "java/lang/invoke/MethodHandle" ∧ yX6_areDays.cls ≠ "java/lang/invoke/VarHandle" ∧ (parseMethodDescriptor yX6_areDays.desc).map (fun d => d.parameters.length) = some 2 := by decide +kernel

set_option maxHeartbeats 4000000 in
set_option maxRecDepth 100000 in
theorem mX6_areDays (l : Launch) {G : va_G} {T : Nat → ClassId} {H : Heap} {f : Int32} {w : Int32}  : ro l yX6_areDays wsX6_areDays 2 42 [.int f, .int w] G T H (fun r => r = bI (isW f 0 999 && isW w f 999)) := by
  refine ro_of (cc := cX6_areDays) (maxL := 2) (ret := .boolean) (own := RX6) (by decide +kernel) rfl rfl (Nat.le_of_ble_eq_true rfl) (fun v h => bI_nar h) ?_
  intro p e s m below meth c Q ls S hkx hl hret
  obtain ⟨hx, hb, hml, hown, hts⟩ := id S
  have hl : lv_has ls 2 [(0, .int f), (1, .int w)] := hl
  refine lv_iload_n hx hb dX6_areDays_0 rfl (lv_at hl 0 rfl) ?_
  refine ro_S S hkx (mX6_isDay l (d := f)) gX6_areDays_X6_isDay rfl idX6_isDay.2 ⟨Nat.le_of_ble_eq_true rfl, Nat.le_of_ble_eq_true rfl⟩ rfl hl.1 rfl (Nat.le_of_ble_eq_true rfl) dX6_areDays_1 ⟨Nat.le_of_ble_eq_true rfl, Nat.le_of_ble_eq_true rfl⟩ (fun r_1 hr_1 => ?_)
  subst hr_1
  refine lv_if_eq (tgt := 22) hx hb dX6_areDays_4 (by decide) (fun c_2 => ?_) (fun c_2 => ?_)
  · replace c_2 := bI_e0 c_2
    refine lv_iconst (v := 0) hx hb dX6_areDays_22 (by decide) ?_
    exact hret _ _ _ (show 0 = bI (isW f 0 999 && isW w f 999) from by
        clear hret hl; simp [*, bI]) dX6_areDays_23
  · replace c_2 := bI_n0 c_2
    refine lv_iload_n hx hb dX6_areDays_7 rfl (lv_at hl 1 rfl) ?_
    refine lv_iload_n hx hb dX6_areDays_8 rfl (lv_at hl 0 rfl) ?_
    refine lv_sipush (v := 999) hx hb dX6_areDays_9 (by decide) ?_
    refine ro_S S hkx (mX6_in l (v := w) (x := f) (z := 999)) gX6_areDays_X6_in rfl idX6_in.2 ⟨Nat.le_of_ble_eq_true rfl, Nat.le_of_ble_eq_true rfl⟩ rfl hl.1 rfl (Nat.le_of_ble_eq_true rfl) dX6_areDays_12 ⟨Nat.le_of_ble_eq_true rfl, Nat.le_of_ble_eq_true rfl⟩ (fun r_3 hr_3 => ?_)
    subst hr_3
    refine lv_if_eq (tgt := 22) hx hb dX6_areDays_15 (by decide) (fun c_4 => ?_) (fun c_4 => ?_)
    · replace c_4 := bI_e0 c_4
      refine lv_iconst (v := 0) hx hb dX6_areDays_22 (by decide) ?_
      exact hret _ _ _ (show 0 = bI (isW f 0 999 && isW w f 999) from by
          clear hret hl; simp [*, bI]) dX6_areDays_23
    · replace c_4 := bI_n0 c_4
      refine lv_iconst (v := 1) hx hb dX6_areDays_18 (by decide) ?_
      refine lv_goto (tgt := 23) hx hb dX6_areDays_19 (by decide) ?_
      exact hret _ _ _ (show 1 = bI (isW f 0 999 && isW w f 999) from by
          clear hret hl; simp [*, bI]) dX6_areDays_23

theorem idX6_bits : yX6_bits.cls = RX6 ∧ yX6_bits.cls ≠ "java/lang/invoke/MethodHandle" ∧ yX6_bits.cls ≠ "java/lang/invoke/VarHandle" ∧ (parseMethodDescriptor yX6_bits.desc).map (fun d => d.parameters.length) = some 1 := by decide +kernel

set_option maxHeartbeats 4000000 in
set_option maxRecDepth 100000 in
theorem mX6_bits (l : Launch) {G : va_G} {T : Nat → ClassId} {H : Heap} {x : Int32}  : ro l yX6_bits wsX6_bits 0 0 [.int x] G T H (fun r => r = bcM x 10) := by
  refine ro_of (cc := cX6_bits) (maxL := 3) (ret := .int) (own := RX6) (by decide +kernel) rfl rfl (Nat.le_of_ble_eq_true rfl) (fun v _ => vp_nar_int v) ?_
  intro p e s m below meth c Q ls S hkx hl hret
  obtain ⟨hx, hb, hml, hown, hts⟩ := id S
  have hl : lv_has ls 3 [(0, .int x)] := hl
  refine lv_iconst (v := 0) hx hb dX6_bits_0 (by decide) ?_
  refine lv_istore_n (lv' := [(1, .int 0), (0, .int x)]) hx hb dX6_bits_1 rfl hl (by decide) rfl (fun ls hl => ?_)
  refine lv_iconst (v := 0) hx hb dX6_bits_2 (by decide) ?_
  refine lv_istore_n (lv' := [(2, .int 0), (1, .int 0), (0, .int x)]) hx hb dX6_bits_3 rfl hl (by decide) rfl (fun ls hl => ?_)
  have L4 : ∀ (fuel : Nat) (k : Nat) (y : Int32), 10 - k < fuel → k ≤ 10 → y = bcM x k → ∀ ls : Array Slot, lv_has ls 3 [(0, .int x), (1, .int y), (2, .int (nI k))] → W p l e (rmo 0 0) s m ([.int x] : List Value).toArray below meth c H [] 0 0 Q (F0 m 4 ls []) := by
    intro fuel
    induction fuel with
    | zero => intro k y hm; exact absurd hm (Nat.not_lt_zero _)
    | succ fuel ih4 =>
      intro k y hm4 hk hy ls hl
      refine lv_iload_n hx hb dX6_bits_4 rfl (lv_at hl 2 rfl) ?_
      refine lv_bipush (v := 10) hx hb dX6_bits_5 (by decide) ?_
      refine lv_icmp_ge (tgt := 24) hx hb dX6_bits_7 (by decide) (fun c_1 => ?_) (fun c_1 => ?_)
      · replace c_1 := cn_le (a := 10) (b := k) (by omega) (by omega) c_1
        refine lv_iload_n hx hb dX6_bits_24 rfl (lv_at hl 1 rfl) ?_
        exact hret _ _ _ (show y = bcM x 10 from by
            rw [hy, show k = 10 by omega]) dX6_bits_25
      · replace c_1 := cn_nle (a := 10) (b := k) (by omega) (by omega) c_1
        refine lv_iload_n hx hb dX6_bits_10 rfl (lv_at hl 1 rfl) ?_
        refine lv_iload_n hx hb dX6_bits_11 rfl (lv_at hl 0 rfl) ?_
        refine lv_iload_n hx hb dX6_bits_12 rfl (lv_at hl 2 rfl) ?_
        refine lv_ishr hx hb dX6_bits_13 ?_
        refine lv_iconst (v := 1) hx hb dX6_bits_14 (by decide) ?_
        refine lv_iand hx hb dX6_bits_15 ?_
        refine lv_iadd hx hb dX6_bits_16 ?_
        refine lv_istore_n (lv' := [(1, .int (y + ((x >>> ((nI k) &&& 31)) &&& 1))), (0, .int x), (2, .int (nI k))]) hx hb dX6_bits_17 rfl hl (by decide) rfl (fun ls hl => ?_)
        refine lv_iinc (v := (nI (k + 1))) (lv' := [(2, .int (nI (k + 1))), (1, .int (y + ((x >>> ((nI k) &&& 31)) &&& 1))), (0, .int x)]) hx hb dX6_bits_18 hl (k := 2) rfl (nI_inc k) (by decide) rfl (fun ls hl => ?_)
        refine lv_goto (tgt := 4) hx hb dX6_bits_21 (by decide) ?_
        exact ih4 (k + 1) (y + ((x >>> ((nI k) &&& 31)) &&& 1)) (by omega) (by omega) (by rw [hy]; rfl) _ (lv_sub hl [2, 1, 0] rfl)
  exact L4 _ 0 0 (Nat.lt_succ_self _) (by omega) (by rfl) _ (lv_sub hl [2, 1, 0] rfl)

theorem idX6_uses : yX6_uses.cls = RX6 ∧ yX6_uses.cls ≠ "java/lang/invoke/MethodHandle" ∧ yX6_uses.cls ≠ "java/lang/invoke/VarHandle" ∧ (parseMethodDescriptor yX6_uses.desc).map (fun d => d.parameters.length) = some 0 := by decide +kernel

set_option maxHeartbeats 4000000 in
set_option maxRecDepth 100000 in
theorem mX6_uses (l : Launch) {G : va_G} {T : Nat → ClassId} {H : Heap} {r : Nat → Nat} {N : Nat → Nat} {Z : Nat → Nat → Int32} {mm : Nat → Int32} {pp : Nat → Int32} {xx : Nat → Int32} {th : Int32} {sv : Nat} {n1 : Nat} {ac : Int32} {ea : Int32} {le : Int32} {v1 : Int32} {v2 : Int32} {v3 : Int32} {v4 : Int32} {v5 : Int32} (hP : va_P G vwCl (wMod T r mm pp xx th sv n1 ac ea le v1 v2 v3 v4 v5) H) (hwf : wf N Z) (hr : rel N Z mm) : ro l yX6_uses wsX6_uses 1 22 [.ref (r 0)] G T H (fun r => r = usC Z (N 2)) := by
  refine ro_of (cc := cX6_uses) (maxL := 3) (ret := .int) (own := RX6) (by decide +kernel) rfl rfl (Nat.le_of_ble_eq_true rfl) (fun v _ => vp_nar_int v) ?_
  intro p e s m below meth c Q ls S hkx hl hret
  obtain ⟨hx, hb, hml, hown, hts⟩ := id S
  have hl : lv_has ls 3 [(0, .ref (r 0))] := hl
  have k7 := hts (.fieldLink RX6 7 "SunsetDatesModel" "now" "[I") (by decide +kernel)
  have iX6 : ∀ w ∈ wsX60, w ∈ wsX6_uses := by decide +kernel
  have hb2 := hwf.1
  obtain ⟨hr0, hr1, hr2, hr3, hrv, hrf, hru, hrs⟩ := id hr
  refine lv_iconst (v := 0) hx hb dX6_uses_0 (by decide) ?_
  refine lv_istore_n (lv' := [(1, .int 0), (0, .ref (r 0))]) hx hb dX6_uses_1 rfl hl (by decide) rfl (fun ls hl => ?_)
  refine lv_iconst (v := 0) hx hb dX6_uses_2 (by decide) ?_
  refine lv_istore_n (lv' := [(2, .int 0), (1, .int 0), (0, .ref (r 0))]) hx hb dX6_uses_3 rfl hl (by decide) rfl (fun ls hl => ?_)
  have L4 : ∀ (fuel : Nat) (k : Nat) (y : Int32), N 2 - k < fuel → k ≤ N 2 → y = usC Z k → ∀ ls : Array Slot, lv_has ls 3 [(0, .ref (r 0)), (1, .int y), (2, .int (nI k))] → W p l e (rmo 1 22) s m ([.ref (r 0)] : List Value).toArray below meth c H [] 0 0 Q (F0 m 4 ls []) := by
    intro fuel
    induction fuel with
    | zero => intro k y hm; exact absurd hm (Nat.not_lt_zero _)
    | succ fuel ih4 =>
      intro k y hm4 hk hy ls hl
      refine lv_iload_n hx hb dX6_uses_4 rfl (lv_at hl 2 rfl) ?_
      refine lv_aload_n hx hb dX6_uses_5 rfl (lv_at hl 0 rfl) ?_
      refine va_get (D := G) (ci := 6) (C := RX6) (T := TX6) (N := 14) hx hb hts iX6 hown hkx.1 hP 0 rfl rfl 0 (by decide) k7 (fun _ h9 => h9) rfl dX6_uses_6 ?_
      refine lv_iconst (v := 2) hx hb dX6_uses_9 (by decide) ?_
      refine ia hx hb hkx hP 1 rfl 2 rfl (by omega) (by decide) dX6_uses_10 ?_
      rw [hr2]
      refine lv_icmp_ge (tgt := 32) hx hb dX6_uses_11 (by decide) (fun c_1 => ?_) (fun c_1 => ?_)
      · replace c_1 := cn_le (a := (N 2)) (b := k) (by omega) (by omega) c_1
        refine lv_iload_n hx hb dX6_uses_32 rfl (lv_at hl 1 rfl) ?_
        exact hret _ _ _ (show y = usC Z (N 2) from by
            rw [hy, show k = N 2 by omega]) dX6_uses_33
      · replace c_1 := cn_nle (a := (N 2)) (b := k) (by omega) (by omega) c_1
        refine lv_iload_n hx hb dX6_uses_14 rfl (lv_at hl 1 rfl) ?_
        refine lv_aload_n hx hb dX6_uses_15 rfl (lv_at hl 0 rfl) ?_
        refine lv_iload_n hx hb dX6_uses_16 rfl (lv_at hl 2 rfl) ?_
        refine lv_iconst (v := 1) hx hb dX6_uses_17 (by decide) ?_
        refine ro_V S hkx (mX6_ofUser l (u := k) (w := 1) (hP := hP) (hwf := hwf) (hr := hr) (hu := (by omega)) (hw := (by omega))) gX6_uses_X6_ofUser rfl idX6_ofUser ⟨Nat.le_of_ble_eq_true rfl, Nat.le_of_ble_eq_true rfl⟩ hP 0 rfl rfl rfl rfl hl.1 rfl (Nat.le_of_ble_eq_true rfl) dX6_uses_18 ⟨Nat.le_of_ble_eq_true rfl, Nat.le_of_ble_eq_true rfl⟩ (fun r_2 hr_2 => ?_)
        subst hr_2
        skip
        refine ro_S S hkx (mX6_bits l (x := (Z 6 k))) gX6_uses_X6_bits rfl idX6_bits.2 ⟨Nat.le_of_ble_eq_true rfl, Nat.le_of_ble_eq_true rfl⟩ rfl hl.1 rfl (Nat.le_of_ble_eq_true rfl) dX6_uses_21 ⟨Nat.le_of_ble_eq_true rfl, Nat.le_of_ble_eq_true rfl⟩ (fun r_3 hr_3 => ?_)
        subst hr_3
        rw [bcM_Z hwf (show k < N 2 by omega)]
        refine lv_iadd hx hb dX6_uses_24 ?_
        refine lv_istore_n (lv' := [(1, .int (y + (bc (Z 6 k)))), (0, .ref (r 0)), (2, .int (nI k))]) hx hb dX6_uses_25 rfl hl (by decide) rfl (fun ls hl => ?_)
        refine lv_iinc (v := (nI (k + 1))) (lv' := [(2, .int (nI (k + 1))), (1, .int (y + (bc (Z 6 k)))), (0, .ref (r 0))]) hx hb dX6_uses_26 hl (k := 2) rfl (nI_inc k) (by decide) rfl (fun ls hl => ?_)
        refine lv_goto (tgt := 4) hx hb dX6_uses_29 (by decide) ?_
        exact ih4 (k + 1) (y + (bc (Z 6 k))) (by omega) (by omega) (by rw [hy]; rfl) _ (lv_sub hl [2, 1, 0] rfl)
  exact L4 _ 0 0 (Nat.lt_succ_self _) (by omega) (by rfl) _ (lv_sub hl [2, 1, 0] rfl)

theorem idX6_valueOf : yX6_valueOf.cls = RX6 ∧ yX6_valueOf.cls ≠ "java/lang/invoke/MethodHandle" ∧ yX6_valueOf.cls ≠ "java/lang/invoke/VarHandle" ∧ (parseMethodDescriptor yX6_valueOf.desc).map (fun d => d.parameters.length) = some 1 := by decide +kernel

set_option maxHeartbeats 4000000 in
set_option maxRecDepth 100000 in
theorem mX6_valueOf (l : Launch) {G : va_G} {T : Nat → ClassId} {H : Heap} {r : Nat → Nat} {N : Nat → Nat} {Z : Nat → Nat → Int32} {mm : Nat → Int32} {pp : Nat → Int32} {xx : Nat → Int32} {th : Int32} {sv : Nat} {n1 : Nat} {ac : Int32} {ea : Int32} {le : Int32} {v1 : Int32} {v2 : Int32} {v3 : Int32} {v4 : Int32} {v5 : Int32} {w : Nat} (hP : va_P G vwCl (wMod T r mm pp xx th sv n1 ac ea le v1 v2 v3 v4 v5) H) (hwf : wf N Z) (hr : rel N Z mm) (hw : w ≤ 7) : ro l yX6_valueOf wsX6_valueOf 6 141 [.ref (r 0), .int (nI w)] G T H (fun r => r = nmb N Z w) := by
  refine ro_of (cc := cX6_valueOf) (maxL := 6) (ret := .int) (own := RX6) (by decide +kernel) rfl rfl (Nat.le_of_ble_eq_true rfl) (fun v _ => vp_nar_int v) ?_
  intro p e s m below meth c Q ls S hkx hl hret
  obtain ⟨hx, hb, hml, hown, hts⟩ := id S
  have hl : lv_has ls 6 [(0, .ref (r 0)), (1, .int (nI w))] := hl
  have k7 := hts (.fieldLink RX6 7 "SunsetDatesModel" "now" "[I") (by decide +kernel)
  have iX6 : ∀ w ∈ wsX60, w ∈ wsX6_valueOf := by decide +kernel
  have hb2 := hwf.1
  obtain ⟨hr0, hr1, hr2, hr3, hrv, hrf, hru, hrs⟩ := id hr
  refine lv_iload_n hx hb dX6_valueOf_0 rfl (lv_at hl 1 rfl) ?_
  refine lv_iconst (v := 4) hx hb dX6_valueOf_1 (by decide) ?_
  refine lv_icmp_ge (tgt := 12) hx hb dX6_valueOf_2 (by decide) (fun c_1 => ?_) (fun c_1 => ?_)
  · replace c_1 := cn_le (a := 4) (b := w) (by omega) (by omega) c_1
    refine lv_iconst (v := 0) hx hb dX6_valueOf_12 (by decide) ?_
    refine lv_istore_n (lv' := [(2, .int 0), (0, .ref (r 0)), (1, .int (nI w))]) hx hb dX6_valueOf_13 rfl hl (by decide) rfl (fun ls hl => ?_)
    refine lv_iconst (v := 0) hx hb dX6_valueOf_14 (by decide) ?_
    refine lv_istore_n (lv' := [(3, .int 0), (2, .int 0), (0, .ref (r 0)), (1, .int (nI w))]) hx hb dX6_valueOf_15 rfl hl (by decide) rfl (fun ls hl => ?_)
    refine lv_iconst (v := 0) hx hb dX6_valueOf_16 (by decide) ?_
    refine lv_istore (lv' := [(4, .int 0), (3, .int 0), (2, .int 0), (0, .ref (r 0)), (1, .int (nI w))]) hx hb dX6_valueOf_17 hl (by decide) rfl (fun ls hl => ?_)
    have L19 : ∀ (fuel : Nat) (k : Nat) (y z : Int32), N 2 - k < fuel → k ≤ N 2 → y = plC Z k → z = slC Z k → ∀ ls : Array Slot, lv_has ls 6 [(0, .ref (r 0)), (1, .int (nI w)), (2, .int y), (3, .int z), (4, .int (nI k))] → W p l e (rmo 6 141) s m ([.ref (r 0), .int (nI w)] : List Value).toArray below meth c H [] 0 0 Q (F0 m 19 ls []) := by
      intro fuel
      induction fuel with
      | zero => intro k y z hm; exact absurd hm (Nat.not_lt_zero _)
      | succ fuel ih19 =>
        intro k y z hm19 hk hy hz ls hl
        refine lv_iload hx hb dX6_valueOf_19 (lv_at hl 4 rfl) ?_
        refine lv_aload_n hx hb dX6_valueOf_21 rfl (lv_at hl 0 rfl) ?_
        refine va_get (D := G) (ci := 6) (C := RX6) (T := TX6) (N := 14) hx hb hts iX6 hown hkx.1 hP 0 rfl rfl 0 (by decide) k7 (fun _ h9 => h9) rfl dX6_valueOf_22 ?_
        refine lv_iconst (v := 2) hx hb dX6_valueOf_25 (by decide) ?_
        refine ia hx hb hkx hP 1 rfl 2 rfl (by omega) (by decide) dX6_valueOf_26 ?_
        rw [hr2]
        refine lv_icmp_ge (tgt := 65) hx hb dX6_valueOf_27 (by decide) (fun c_2 => ?_) (fun c_2 => ?_)
        · replace c_2 := cn_le (a := (N 2)) (b := k) (by omega) (by omega) c_2
          refine lv_iconst (v := 0) hx hb dX6_valueOf_65 (by decide) ?_
          refine lv_istore (lv' := [(4, .int 0), (0, .ref (r 0)), (1, .int (nI w)), (2, .int y), (3, .int z)]) hx hb dX6_valueOf_66 hl (by decide) rfl (fun ls hl => ?_)
          refine lv_iconst (v := 0) hx hb dX6_valueOf_68 (by decide) ?_
          refine lv_istore (lv' := [(5, .int 0), (4, .int 0), (0, .ref (r 0)), (1, .int (nI w)), (2, .int y), (3, .int z)]) hx hb dX6_valueOf_69 hl (by decide) rfl (fun ls hl => ?_)
          have L71 : ∀ (fuel : Nat) (i n : Nat), 1000 - i < fuel → i ≤ 1000 → n = ctN (stB N Z) i → ∀ ls : Array Slot, lv_has ls 6 [(0, .ref (r 0)), (1, .int (nI w)), (2, .int y), (3, .int z), (4, .int (nI n)), (5, .int (nI i))] → W p l e (rmo 6 141) s m ([.ref (r 0), .int (nI w)] : List Value).toArray below meth c H [] 0 0 Q (F0 m 71 ls []) := by
            intro fuel
            induction fuel with
            | zero => intro i n hm; exact absurd hm (Nat.not_lt_zero _)
            | succ fuel ih71 =>
              intro i n hm71 hi hn ls hl
              refine lv_iload hx hb dX6_valueOf_71 (lv_at hl 5 rfl) ?_
              refine lv_sipush (v := 999) hx hb dX6_valueOf_73 (by decide) ?_
              refine lv_icmp_gt (tgt := 110) hx hb dX6_valueOf_76 (by decide) (fun c_3 => ?_) (fun c_3 => ?_)
              · replace c_3 := cn_lt (a := 999) (b := i) (by omega) (by omega) c_3
                refine lv_iload_n hx hb dX6_valueOf_110 rfl (lv_at hl 1 rfl) ?_
                refine lv_iconst (v := 4) hx hb dX6_valueOf_111 (by decide) ?_
                refine lv_icmp_ne (tgt := 119) hx hb dX6_valueOf_112 (by decide) (fun c_4 => ?_) (fun c_4 => ?_)
                · replace c_4 := cn_ne (a := w) (b := 4) (by omega) (by omega) c_4
                  refine lv_iload_n hx hb dX6_valueOf_119 rfl (lv_at hl 1 rfl) ?_
                  refine lv_iconst (v := 5) hx hb dX6_valueOf_120 (by decide) ?_
                  refine lv_icmp_ne (tgt := 131) hx hb dX6_valueOf_121 (by decide) (fun c_5 => ?_) (fun c_5 => ?_)
                  · replace c_5 := cn_ne (a := w) (b := 5) (by omega) (by omega) c_5
                    refine lv_iload_n hx hb dX6_valueOf_131 rfl (lv_at hl 1 rfl) ?_
                    refine lv_bipush (v := 6) hx hb dX6_valueOf_132 (by decide) ?_
                    refine lv_icmp_ne (tgt := 141) hx hb dX6_valueOf_134 (by decide) (fun c_6 => ?_) (fun c_6 => ?_)
                    · replace c_6 := cn_ne (a := w) (b := 6) (by omega) (by omega) c_6
                      refine lv_iload hx hb dX6_valueOf_141 (lv_at hl 4 rfl) ?_
                      exact hret _ _ _ (show (nI n) = nmb N Z w from by
                          first | (exfalso; omega) | (rw [show w = 7 by omega, hn, show i = 1000 by omega]; rfl)) dX6_valueOf_143
                    · replace c_6 := cn_eq (a := w) (b := 6) (by omega) (by omega) c_6
                      refine lv_iload_n hx hb dX6_valueOf_137 rfl (lv_at hl 3 rfl) ?_
                      refine lv_goto (tgt := 143) hx hb dX6_valueOf_138 (by decide) ?_
                      exact hret _ _ _ (show z = nmb N Z w from by
                          rw [show w = 6 by omega, hz, show k = N 2 by omega]; rfl) dX6_valueOf_143
                  · replace c_5 := cn_eq (a := w) (b := 5) (by omega) (by omega) c_5
                    refine lv_aload_n hx hb dX6_valueOf_124 rfl (lv_at hl 0 rfl) ?_
                    refine ro_V S hkx (mX6_uses l (hP := hP) (hwf := hwf) (hr := hr)) gX6_valueOf_X6_uses rfl idX6_uses ⟨Nat.le_of_ble_eq_true rfl, Nat.le_of_ble_eq_true rfl⟩ hP 0 rfl rfl rfl rfl hl.1 rfl (Nat.le_of_ble_eq_true rfl) dX6_valueOf_125 ⟨Nat.le_of_ble_eq_true rfl, Nat.le_of_ble_eq_true rfl⟩ (fun r_7 hr_7 => ?_)
                    subst hr_7
                    refine lv_goto (tgt := 143) hx hb dX6_valueOf_128 (by decide) ?_
                    exact hret _ _ _ (show (usC Z (N 2)) = nmb N Z w from by
                        rw [show w = 5 by omega]; rfl) dX6_valueOf_143
                · replace c_4 := cn_eq (a := w) (b := 4) (by omega) (by omega) c_4
                  refine lv_iload_n hx hb dX6_valueOf_115 rfl (lv_at hl 2 rfl) ?_
                  refine lv_goto (tgt := 143) hx hb dX6_valueOf_116 (by decide) ?_
                  exact hret _ _ _ (show y = nmb N Z w from by
                      rw [show w = 4 by omega, hy, show k = N 2 by omega]; rfl) dX6_valueOf_143
              · replace c_3 := cn_nlt (a := 999) (b := i) (by omega) (by omega) c_3
                refine lv_iload_n hx hb dX6_valueOf_79 rfl (lv_at hl 1 rfl) ?_
                refine lv_bipush (v := 7) hx hb dX6_valueOf_80 (by decide) ?_
                refine lv_icmp_ne (tgt := 110) hx hb dX6_valueOf_82 (by decide) (fun c_8 => ?_) (fun c_8 => ?_)
                · replace c_8 := cn_ne (a := w) (b := 7) (by omega) (by omega) c_8
                  refine lv_iload_n hx hb dX6_valueOf_110 rfl (lv_at hl 1 rfl) ?_
                  refine lv_iconst (v := 4) hx hb dX6_valueOf_111 (by decide) ?_
                  refine lv_icmp_ne (tgt := 119) hx hb dX6_valueOf_112 (by decide) (fun c_9 => ?_) (fun c_9 => ?_)
                  · replace c_9 := cn_ne (a := w) (b := 4) (by omega) (by omega) c_9
                    refine lv_iload_n hx hb dX6_valueOf_119 rfl (lv_at hl 1 rfl) ?_
                    refine lv_iconst (v := 5) hx hb dX6_valueOf_120 (by decide) ?_
                    refine lv_icmp_ne (tgt := 131) hx hb dX6_valueOf_121 (by decide) (fun c_10 => ?_) (fun c_10 => ?_)
                    · replace c_10 := cn_ne (a := w) (b := 5) (by omega) (by omega) c_10
                      refine lv_iload_n hx hb dX6_valueOf_131 rfl (lv_at hl 1 rfl) ?_
                      refine lv_bipush (v := 6) hx hb dX6_valueOf_132 (by decide) ?_
                      refine lv_icmp_ne (tgt := 141) hx hb dX6_valueOf_134 (by decide) (fun c_11 => ?_) (fun c_11 => ?_)
                      · replace c_11 := cn_ne (a := w) (b := 6) (by omega) (by omega) c_11
                        refine lv_iload hx hb dX6_valueOf_141 (lv_at hl 4 rfl) ?_
                        exact hret _ _ _ (show (nI n) = nmb N Z w from by
                            first | (exfalso; omega) | (rw [show w = 7 by omega, hn, show i = 1000 by omega]; rfl)) dX6_valueOf_143
                      · replace c_11 := cn_eq (a := w) (b := 6) (by omega) (by omega) c_11
                        refine lv_iload_n hx hb dX6_valueOf_137 rfl (lv_at hl 3 rfl) ?_
                        refine lv_goto (tgt := 143) hx hb dX6_valueOf_138 (by decide) ?_
                        exact hret _ _ _ (show z = nmb N Z w from by
                            rw [show w = 6 by omega, hz, show k = N 2 by omega]; rfl) dX6_valueOf_143
                    · replace c_10 := cn_eq (a := w) (b := 5) (by omega) (by omega) c_10
                      refine lv_aload_n hx hb dX6_valueOf_124 rfl (lv_at hl 0 rfl) ?_
                      refine ro_V S hkx (mX6_uses l (hP := hP) (hwf := hwf) (hr := hr)) gX6_valueOf_X6_uses rfl idX6_uses ⟨Nat.le_of_ble_eq_true rfl, Nat.le_of_ble_eq_true rfl⟩ hP 0 rfl rfl rfl rfl hl.1 rfl (Nat.le_of_ble_eq_true rfl) dX6_valueOf_125 ⟨Nat.le_of_ble_eq_true rfl, Nat.le_of_ble_eq_true rfl⟩ (fun r_12 hr_12 => ?_)
                      subst hr_12
                      refine lv_goto (tgt := 143) hx hb dX6_valueOf_128 (by decide) ?_
                      exact hret _ _ _ (show (usC Z (N 2)) = nmb N Z w from by
                          rw [show w = 5 by omega]; rfl) dX6_valueOf_143
                  · replace c_9 := cn_eq (a := w) (b := 4) (by omega) (by omega) c_9
                    refine lv_iload_n hx hb dX6_valueOf_115 rfl (lv_at hl 2 rfl) ?_
                    refine lv_goto (tgt := 143) hx hb dX6_valueOf_116 (by decide) ?_
                    exact hret _ _ _ (show y = nmb N Z w from by
                        rw [show w = 4 by omega, hy, show k = N 2 by omega]; rfl) dX6_valueOf_143
                · replace c_8 := cn_eq (a := w) (b := 7) (by omega) (by omega) c_8
                  refine lv_iload hx hb dX6_valueOf_85 (lv_at hl 4 rfl) ?_
                  refine lv_aload_n hx hb dX6_valueOf_87 rfl (lv_at hl 0 rfl) ?_
                  refine lv_iload hx hb dX6_valueOf_88 (lv_at hl 5 rfl) ?_
                  refine ro_V S hkx (mX6_strandedOn l (d := (nI i)) (hP := hP) (hwf := hwf) (hr := hr)) gX6_valueOf_X6_strandedOn rfl idX6_strandedOn ⟨Nat.le_of_ble_eq_true rfl, Nat.le_of_ble_eq_true rfl⟩ hP 0 rfl rfl rfl rfl hl.1 rfl (Nat.le_of_ble_eq_true rfl) dX6_valueOf_90 ⟨Nat.le_of_ble_eq_true rfl, Nat.le_of_ble_eq_true rfl⟩ (fun r_13 hr_13 => ?_)
                  subst hr_13
                  refine lv_if_eq (tgt := 100) hx hb dX6_valueOf_93 (by decide) (fun c_14 => ?_) (fun c_14 => ?_)
                  · skip
                    refine lv_iconst (v := 0) hx hb dX6_valueOf_100 (by decide) ?_
                    refine lv_iadd hx hb dX6_valueOf_101 ?_
                    rw [show ((nI n) + 0) = (nI (n + 0)) from nI_add n 0]
                    refine lv_istore (lv' := [(4, .int (nI (n + 0))), (0, .ref (r 0)), (1, .int (nI w)), (2, .int y), (3, .int z), (5, .int (nI i))]) hx hb dX6_valueOf_102 hl (by decide) rfl (fun ls hl => ?_)
                    refine lv_iinc (v := (nI (i + 1))) (lv' := [(5, .int (nI (i + 1))), (4, .int (nI (n + 0))), (0, .ref (r 0)), (1, .int (nI w)), (2, .int y), (3, .int z)]) hx hb dX6_valueOf_104 hl (k := 5) rfl (nI_inc i) (by decide) rfl (fun ls hl => ?_)
                    refine lv_goto (tgt := 71) hx hb dX6_valueOf_107 (by decide) ?_
                    exact ih71 (i + 1) (n + 0) (by omega) (by omega) (by rw [hn, ctN]; simp [stB, *]) _ (lv_sub hl [2, 3, 4, 5, 1, 0] rfl)
                  · skip
                    refine lv_iconst (v := 1) hx hb dX6_valueOf_96 (by decide) ?_
                    refine lv_goto (tgt := 101) hx hb dX6_valueOf_97 (by decide) ?_
                    refine lv_iadd hx hb dX6_valueOf_101 ?_
                    rw [show ((nI n) + 1) = (nI (n + 1)) from nI_add n 1]
                    refine lv_istore (lv' := [(4, .int (nI (n + 1))), (0, .ref (r 0)), (1, .int (nI w)), (2, .int y), (3, .int z), (5, .int (nI i))]) hx hb dX6_valueOf_102 hl (by decide) rfl (fun ls hl => ?_)
                    refine lv_iinc (v := (nI (i + 1))) (lv' := [(5, .int (nI (i + 1))), (4, .int (nI (n + 1))), (0, .ref (r 0)), (1, .int (nI w)), (2, .int y), (3, .int z)]) hx hb dX6_valueOf_104 hl (k := 5) rfl (nI_inc i) (by decide) rfl (fun ls hl => ?_)
                    refine lv_goto (tgt := 71) hx hb dX6_valueOf_107 (by decide) ?_
                    exact ih71 (i + 1) (n + 1) (by omega) (by omega) (by rw [hn, ctN]; simp [stB, *]) _ (lv_sub hl [2, 3, 4, 5, 1, 0] rfl)
          exact L71 _ 0 0 (Nat.lt_succ_self _) (by omega) (by rfl) _ (lv_sub hl [2, 3, 4, 5, 1, 0] rfl)
        · replace c_2 := cn_nle (a := (N 2)) (b := k) (by omega) (by omega) c_2
          refine lv_iload_n hx hb dX6_valueOf_30 rfl (lv_at hl 2 rfl) ?_
          refine lv_aload_n hx hb dX6_valueOf_31 rfl (lv_at hl 0 rfl) ?_
          refine lv_iload hx hb dX6_valueOf_32 (lv_at hl 4 rfl) ?_
          refine lv_iconst (v := 2) hx hb dX6_valueOf_34 (by decide) ?_
          refine ro_V S hkx (mX6_ofUser l (u := k) (w := 2) (hP := hP) (hwf := hwf) (hr := hr) (hu := (by omega)) (hw := (by omega))) gX6_valueOf_X6_ofUser rfl idX6_ofUser ⟨Nat.le_of_ble_eq_true rfl, Nat.le_of_ble_eq_true rfl⟩ hP 0 rfl rfl rfl rfl hl.1 rfl (Nat.le_of_ble_eq_true rfl) dX6_valueOf_35 ⟨Nat.le_of_ble_eq_true rfl, Nat.le_of_ble_eq_true rfl⟩ (fun r_15 hr_15 => ?_)
          subst hr_15
          skip
          refine lv_iconst (v := (-1)) hx hb dX6_valueOf_38 (by decide) ?_
          refine lv_icmp_ne (tgt := 46) hx hb dX6_valueOf_39 (by decide) (fun c_16 => ?_) (fun c_16 => ?_)
          · skip
            refine lv_iconst (v := 1) hx hb dX6_valueOf_46 (by decide) ?_
            refine lv_iadd hx hb dX6_valueOf_47 ?_
            refine lv_istore_n (lv' := [(2, .int (y + 1)), (0, .ref (r 0)), (1, .int (nI w)), (3, .int z), (4, .int (nI k))]) hx hb dX6_valueOf_48 rfl hl (by decide) rfl (fun ls hl => ?_)
            refine lv_iload_n hx hb dX6_valueOf_49 rfl (lv_at hl 3 rfl) ?_
            refine lv_aload_n hx hb dX6_valueOf_50 rfl (lv_at hl 1 rfl) ?_
            refine lv_iload hx hb dX6_valueOf_51 (lv_at hl 4 rfl) ?_
            refine lv_iconst (v := 4) hx hb dX6_valueOf_53 (by decide) ?_
            refine ro_V S hkx (mX6_ofUser l (u := k) (w := 4) (hP := hP) (hwf := hwf) (hr := hr) (hu := (by omega)) (hw := (by omega))) gX6_valueOf_X6_ofUser rfl idX6_ofUser ⟨Nat.le_of_ble_eq_true rfl, Nat.le_of_ble_eq_true rfl⟩ hP 0 rfl rfl rfl rfl hl.1 rfl (Nat.le_of_ble_eq_true rfl) dX6_valueOf_54 ⟨Nat.le_of_ble_eq_true rfl, Nat.le_of_ble_eq_true rfl⟩ (fun r_17 hr_17 => ?_)
            subst hr_17
            skip
            refine lv_iadd hx hb dX6_valueOf_57 ?_
            refine lv_istore_n (lv' := [(3, .int (z + (Z 9 k))), (2, .int (y + 1)), (0, .ref (r 0)), (1, .int (nI w)), (4, .int (nI k))]) hx hb dX6_valueOf_58 rfl hl (by decide) rfl (fun ls hl => ?_)
            refine lv_iinc (v := (nI (k + 1))) (lv' := [(4, .int (nI (k + 1))), (3, .int (z + (Z 9 k))), (2, .int (y + 1)), (0, .ref (r 0)), (1, .int (nI w))]) hx hb dX6_valueOf_59 hl (k := 4) rfl (nI_inc k) (by decide) rfl (fun ls hl => ?_)
            refine lv_goto (tgt := 19) hx hb dX6_valueOf_62 (by decide) ?_
            exact ih19 (k + 1) (y + 1) (z + (Z 9 k)) (by omega) (by omega) (by rw [hy, plC]; simp [pled, *]) (by rw [hz]; rfl) _ (lv_sub hl [3, 4, 2, 1, 0] rfl)
          · skip
            refine lv_iconst (v := 0) hx hb dX6_valueOf_42 (by decide) ?_
            refine lv_goto (tgt := 47) hx hb dX6_valueOf_43 (by decide) ?_
            refine lv_iadd hx hb dX6_valueOf_47 ?_
            refine lv_istore_n (lv' := [(2, .int (y + 0)), (0, .ref (r 0)), (1, .int (nI w)), (3, .int z), (4, .int (nI k))]) hx hb dX6_valueOf_48 rfl hl (by decide) rfl (fun ls hl => ?_)
            refine lv_iload_n hx hb dX6_valueOf_49 rfl (lv_at hl 3 rfl) ?_
            refine lv_aload_n hx hb dX6_valueOf_50 rfl (lv_at hl 1 rfl) ?_
            refine lv_iload hx hb dX6_valueOf_51 (lv_at hl 4 rfl) ?_
            refine lv_iconst (v := 4) hx hb dX6_valueOf_53 (by decide) ?_
            refine ro_V S hkx (mX6_ofUser l (u := k) (w := 4) (hP := hP) (hwf := hwf) (hr := hr) (hu := (by omega)) (hw := (by omega))) gX6_valueOf_X6_ofUser rfl idX6_ofUser ⟨Nat.le_of_ble_eq_true rfl, Nat.le_of_ble_eq_true rfl⟩ hP 0 rfl rfl rfl rfl hl.1 rfl (Nat.le_of_ble_eq_true rfl) dX6_valueOf_54 ⟨Nat.le_of_ble_eq_true rfl, Nat.le_of_ble_eq_true rfl⟩ (fun r_18 hr_18 => ?_)
            subst hr_18
            skip
            refine lv_iadd hx hb dX6_valueOf_57 ?_
            refine lv_istore_n (lv' := [(3, .int (z + (Z 9 k))), (2, .int (y + 0)), (0, .ref (r 0)), (1, .int (nI w)), (4, .int (nI k))]) hx hb dX6_valueOf_58 rfl hl (by decide) rfl (fun ls hl => ?_)
            refine lv_iinc (v := (nI (k + 1))) (lv' := [(4, .int (nI (k + 1))), (3, .int (z + (Z 9 k))), (2, .int (y + 0)), (0, .ref (r 0)), (1, .int (nI w))]) hx hb dX6_valueOf_59 hl (k := 4) rfl (nI_inc k) (by decide) rfl (fun ls hl => ?_)
            refine lv_goto (tgt := 19) hx hb dX6_valueOf_62 (by decide) ?_
            exact ih19 (k + 1) (y + 0) (z + (Z 9 k)) (by omega) (by omega) (by rw [hy, plC]; simp [pled, *]) (by rw [hz]; rfl) _ (lv_sub hl [3, 4, 2, 1, 0] rfl)
    exact L19 _ 0 0 0 (Nat.lt_succ_self _) (by omega) (by rfl) (by rfl) _ (lv_sub hl [3, 4, 2, 1, 0] rfl)
  · replace c_1 := cn_nle (a := 4) (b := w) (by omega) (by omega) c_1
    refine lv_aload_n hx hb dX6_valueOf_5 rfl (lv_at hl 0 rfl) ?_
    refine va_get (D := G) (ci := 6) (C := RX6) (T := TX6) (N := 14) hx hb hts iX6 hown hkx.1 hP 0 rfl rfl 0 (by decide) k7 (fun _ h9 => h9) rfl dX6_valueOf_6 ?_
    refine lv_iload_n hx hb dX6_valueOf_9 rfl (lv_at hl 1 rfl) ?_
    refine ia hx hb hkx hP 1 rfl w rfl (by omega) (by decide) dX6_valueOf_10 ?_
    exact hret _ _ _ (show (mm w) = nmb N Z w from by
        rcases (show w = 0 ∨ w = 1 ∨ w = 2 ∨ w = 3 by omega) with rfl | rfl | rfl | rfl; exact hr0; exact hr1; exact hr2; exact hr3) dX6_valueOf_11

theorem idX6_firstOf : yX6_firstOf.cls = RX6 ∧ yX6_firstOf.cls ≠ "java/lang/invoke/MethodHandle" ∧ yX6_firstOf.cls ≠ "java/lang/invoke/VarHandle" ∧ (parseMethodDescriptor yX6_firstOf.desc).map (fun d => d.parameters.length) = some 2 := by decide +kernel

set_option maxHeartbeats 4000000 in
set_option maxRecDepth 100000 in
theorem mX6_firstOf (l : Launch) {G : va_G} {T : Nat → ClassId} {H : Heap} {r : Nat → Nat} {N : Nat → Nat} {Z : Nat → Nat → Int32} {mm : Nat → Int32} {pp : Nat → Int32} {xx : Nat → Int32} {th : Int32} {sv : Nat} {n1 : Nat} {ac : Int32} {ea : Int32} {le : Int32} {v1 : Int32} {v2 : Int32} {v3 : Int32} {v4 : Int32} {v5 : Int32} {u : Nat} {f : Nat} (hP : va_P G vwCl (wMod T r mm pp xx th sv n1 ac ea le v1 v2 v3 v4 v5) H) (hwf : wf N Z) (hr : rel N Z mm) (hu : u < N 2) (hf9 : f ≤ 999) : ro l yX6_firstOf wsX6_firstOf 5 118 [.ref (r 0), .int (nI u), .int (nI f)] G T H (fun r => r = fstD (uuB N Z u) f (1000 - f)) := by
  refine ro_of (cc := cX6_firstOf) (maxL := 4) (ret := .int) (own := RX6) (by decide +kernel) rfl rfl (Nat.le_of_ble_eq_true rfl) (fun v _ => vp_nar_int v) ?_
  intro p e s m below meth c Q ls S hkx hl hret
  obtain ⟨hx, hb, hml, hown, hts⟩ := id S
  have hl : lv_has ls 4 [(0, .ref (r 0)), (1, .int (nI u)), (2, .int (nI f))] := hl
  have hb2 := hwf.1
  obtain ⟨hr0, hr1, hr2, hr3, hrv, hrf, hru, hrs⟩ := id hr
  refine lv_iload_n hx hb dX6_firstOf_0 rfl (lv_at hl 2 rfl) ?_
  refine lv_istore_n (lv' := [(3, .int (nI f)), (0, .ref (r 0)), (1, .int (nI u)), (2, .int (nI f))]) hx hb dX6_firstOf_1 rfl hl (by decide) rfl (fun ls hl => ?_)
  have L2 : ∀ (fuel : Nat) (k : Nat), 1000 - k < fuel → f ≤ k → k ≤ 1000 → fstD (uuB N Z u) f (1000 - f) = fstD (uuB N Z u) k (1000 - k) → ∀ ls : Array Slot, lv_has ls 4 [(0, .ref (r 0)), (1, .int (nI u)), (2, .int (nI f)), (3, .int (nI k))] → W p l e (rmo 5 118) s m ([.ref (r 0), .int (nI u), .int (nI f)] : List Value).toArray below meth c H [] 0 0 Q (F0 m 2 ls []) := by
    intro fuel
    induction fuel with
    | zero => intro k hm; exact absurd hm (Nat.not_lt_zero _)
    | succ fuel ih2 =>
      intro k hm2 hk hk2 hy ls hl
      refine lv_iload_n hx hb dX6_firstOf_2 rfl (lv_at hl 3 rfl) ?_
      refine lv_sipush (v := 999) hx hb dX6_firstOf_3 (by decide) ?_
      refine lv_icmp_gt (tgt := 26) hx hb dX6_firstOf_6 (by decide) (fun c_1 => ?_) (fun c_1 => ?_)
      · replace c_1 := cn_lt (a := 999) (b := k) (by omega) (by omega) c_1
        refine lv_iconst (v := (-1)) hx hb dX6_firstOf_26 (by decide) ?_
        exact hret _ _ _ (show (-1) = fstD (uuB N Z u) f (1000 - f) from by
            rw [hy, fst_end (by omega)]) dX6_firstOf_27
      · replace c_1 := cn_nlt (a := 999) (b := k) (by omega) (by omega) c_1
        refine lv_aload_n hx hb dX6_firstOf_9 rfl (lv_at hl 0 rfl) ?_
        refine lv_iload_n hx hb dX6_firstOf_10 rfl (lv_at hl 1 rfl) ?_
        refine lv_iload_n hx hb dX6_firstOf_11 rfl (lv_at hl 3 rfl) ?_
        refine ro_V S hkx (mX6_isStranded l (u := u) (d := (nI k)) (hP := hP) (hwf := hwf) (hr := hr) (hu := (by omega))) gX6_firstOf_X6_isStranded rfl idX6_isStranded ⟨Nat.le_of_ble_eq_true rfl, Nat.le_of_ble_eq_true rfl⟩ hP 0 rfl rfl rfl rfl hl.1 rfl (Nat.le_of_ble_eq_true rfl) dX6_firstOf_12 ⟨Nat.le_of_ble_eq_true rfl, Nat.le_of_ble_eq_true rfl⟩ (fun r_2 hr_2 => ?_)
        subst hr_2
        refine lv_if_eq (tgt := 20) hx hb dX6_firstOf_15 (by decide) (fun c_3 => ?_) (fun c_3 => ?_)
        · replace c_3 := bI_e0 c_3
          refine lv_iinc (v := (nI (k + 1))) (lv' := [(3, .int (nI (k + 1))), (0, .ref (r 0)), (1, .int (nI u)), (2, .int (nI f))]) hx hb dX6_firstOf_20 hl (k := 3) rfl (nI_inc k) (by decide) rfl (fun ls hl => ?_)
          refine lv_goto (tgt := 2) hx hb dX6_firstOf_23 (by decide) ?_
          exact ih2 (k + 1) (by omega) (by omega) (by omega) (by rw [hy, show 1000 - k = (1000 - (k + 1)) + 1 by omega, fstD, if_neg]; simp [uuB, *]) _ (lv_sub hl [1, 2, 3, 0] rfl)
        · replace c_3 := bI_n0 c_3
          refine lv_iload_n hx hb dX6_firstOf_18 rfl (lv_at hl 3 rfl) ?_
          exact hret _ _ _ (show (nI k) = fstD (uuB N Z u) f (1000 - f) from by
              rw [hy, fst_hit (by simp [uuB, *]) (by omega)]) dX6_firstOf_19
  exact L2 _ f (Nat.lt_succ_self _) (by omega) (by omega) (by rfl) _ (lv_sub hl [1, 2, 3, 0] rfl)
