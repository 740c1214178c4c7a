theorem idX5_mixed : yX5_mixed.cls = RX5 ∧ yX5_mixed.cls ≠ "java/lang/invoke/MethodHandle" ∧ yX5_mixed.cls ≠ "java/lang/invoke/VarHandle" ∧ (parseMethodDescriptor yX5_mixed.desc).map (fun d => d.parameters.length) = some 2 := by decide +kernel

set_option maxHeartbeats 4000000 in
set_option maxRecDepth 100000 in
theorem mX5_mixed (l : Launch) {G : va_G} {T : Nat → ClassId} {H : Heap} {h : Int64} {v : Int32}  : rol l yX5_mixed wsX5_mixed 0 0 [.long h, .int v] G T H (fun r => r = mx h v) := by
  refine rol_of (cc := cX5_mixed) (maxL := 3) (own := RX5) (by decide +kernel) rfl rfl (Nat.le_of_ble_eq_true rfl) ?_
  intro p e s m below meth c Q ls S hkx hl hret
  obtain ⟨hx, hb, hml, hown, hts⟩ := id S
  have hl : lv_has ls 3 [(0, .long h), (2, .int v)] := hl
  have kL228 := hts (.constantLong RX5 228 31) (by decide +kernel)
  refine lv_ldc2 hx hb hown kL228 dX5_mixed_0 ?_
  refine lv_lload_n hx hb dX5_mixed_3 rfl (lv_at hl 0 rfl) ?_
  refine lv_lmul hx hb dX5_mixed_4 ?_
  refine lv_iload_n hx hb dX5_mixed_5 rfl (lv_at hl 1 rfl) ?_
  refine lv_i2l hx hb dX5_mixed_6 rfl ?_
  refine lv_ladd hx hb dX5_mixed_7 ?_
  exact hret _ _ _ (show ((31 * h) + (v).toInt64) = mx h v from by rfl) dX5_mixed_8

theorem idX6_mix : yX6_mix.cls = RX6 ∧ yX6_mix.cls ≠ "java/lang/invoke/MethodHandle" ∧ yX6_mix.cls ≠ "java/lang/invoke/VarHandle" ∧ (parseMethodDescriptor yX6_mix.desc).map (fun d => d.parameters.length) = some 2 := by decide +kernel

set_option maxHeartbeats 4000000 in
set_option maxRecDepth 100000 in
theorem mX6_mix (l : Launch) {G : va_G} {T : Nat → ClassId} {H : Heap} {h : Int64} {v : Int32}  : rol l yX6_mix wsX6_mix 0 0 [.long h, .int v] G T H (fun r => r = mx h v) := by
  refine rol_of (cc := cX6_mix) (maxL := 3) (own := RX6) (by decide +kernel) rfl rfl (Nat.le_of_ble_eq_true rfl) ?_
  intro p e s m below meth c Q ls S hkx hl hret
  obtain ⟨hx, hb, hml, hown, hts⟩ := id S
  have hl : lv_has ls 3 [(0, .long h), (2, .int v)] := hl
  have kL197 := hts (.constantLong RX6 197 31) (by decide +kernel)
  refine lv_ldc2 hx hb hown kL197 dX6_mix_0 ?_
  refine lv_lload_n hx hb dX6_mix_3 rfl (lv_at hl 0 rfl) ?_
  refine lv_lmul hx hb dX6_mix_4 ?_
  refine lv_iload_n hx hb dX6_mix_5 rfl (lv_at hl 1 rfl) ?_
  refine lv_i2l hx hb dX6_mix_6 rfl ?_
  refine lv_ladd hx hb dX6_mix_7 ?_
  exact hret _ _ _ (show ((31 * h) + (v).toInt64) = mx h v from by rfl) dX6_mix_8

theorem idX5_share : yX5_share.cls = RX5 ∧ yX5_share.cls ≠ "java/lang/invoke/MethodHandle" ∧ yX5_share.cls ≠ "java/lang/invoke/VarHandle" ∧ (parseMethodDescriptor yX5_share.desc).map (fun d => d.parameters.length) = some 1 := by decide +kernel

set_option maxHeartbeats 4000000 in
set_option maxRecDepth 100000 in
theorem mX5_share (l : Launch) (hl0 : l.stackTraces = false) {G : va_G} {T : Nat → ClassId} {sa : Nat → Nat} {A9 : Nat → Prop} {H : Heap} {q : Nat → Nat} {a : Nat → Nat} {N : Nat → Nat} {Z : Nat → Nat → Int32} {b : Nat → Nat → Nat} {M : Nat → Nat → Nat} {Y : Nat → Nat → Nat → Int32} {sc : Nat} {tx : Nat → Int32} {L : Nat} {cu : Nat} {er : Int32} {le : Int32} {nb : Nat → Int32} {nc : Nat} {d : Int32} (h9 : ∀ q, H.size ≤ q → A9 q) (hP : va_P G vwCl (wMain T q a N Z b M Y sc tx L cu er le nb nc) H) (hwf : wf N Z) : rx l yX5_share wsX5_share 8 124 1 [.ref (q 0), .int d] G T sa A9 H (fun v9 => (dyF d) = 0 ∧ v9 = some (.double (shr N Z d))) (fcE (dyF d)) := by
  refine rx_of (cc := cX5_share) (maxL := 3) (ret := (some .double)) (own := RX5) (by decide +kernel) rfl rfl (Nat.le_of_ble_eq_true rfl) h9 ?_
  intro p e s m below meth c ls hH S hkx hth hnt hlk hl hri hrd hrv hout
  obtain ⟨hx, hb, hml, hown, hts⟩ := id S
  have hl : lv_has ls 3 [(0, .ref (q 0)), (1, .int d)] := hl
  have k12 := hts (.fieldLink RX5 12 "SunsetDates" "now" "LSunsetDates$Calendar;") (by decide +kernel)
  have iX5 : ∀ w ∈ wsX50, w ∈ wsX5_share := by decide +kernel
  have k80 := hts (.fieldLink RX5 80 "SunsetDates$Calendar" "users" "LSunsetDates$Users;") (by decide +kernel)
  have iX0 : ∀ w ∈ wsX00, w ∈ wsX5_share := by decide +kernel
  have hb2 := hwf.1
  refine lv_iload_n hx hb dX5_share_0 rfl (lv_at hl 1 rfl) ?_
  refine rx_S S hkx hth (mX5_requireDay l hl0 (sa := sa) (h9 := fun _ h => h) (d := d) ) gX5_share_X5_requireDay rfl idX5_requireDay.2 ⟨Nat.le_of_ble_eq_true rfl, Nat.le_of_ble_eq_true rfl⟩ rfl hl.1 rfl (Nat.le_of_ble_eq_true rfl) dX5_share_1 ⟨Nat.le_of_ble_eq_true rfl, Nat.le_of_ble_eq_true rfl⟩ (fun E ce q H1 hpx hq hv9 hc9 hz9 hk9 => hout E ce q _ _ _ _ _ _ hpx hq hv9 hc9 hz9 hk9 (Nat.le_of_ble_eq_true rfl) (Nat.le_of_ble_eq_true rfl)) (fun v hpost => ?_)
  obtain ⟨hF0, rfl⟩ := hpost
  refine W.eq (g2 := F0 m 4 ls []) rfl ?_
  refine lv_aload_n hx hb dX5_share_4 rfl (lv_at hl 0 rfl) ?_
  refine va_get (D := G) (ci := 5) (C := RX5) (T := TX5) (N := 4) hx hb hts iX5 hown hkx.1 hP 0 rfl rfl 0 (by decide) k12 (fun _ h9 => h9) rfl dX5_share_5 ?_
  refine va_get (D := G) (ci := 0) (C := RX0) (T := TX0) (N := 4) hx hb hts iX0 hown hkx.1 hP 5 rfl rfl 2 (by decide) k80 (fun _ h9 => h9) rfl dX5_share_8 ?_
  refine ro_V S hkx (mX3_useCount l (hP := P_mid hP) (hs := (by omega))) gX5_share_X3_useCount rfl idX3_useCount ⟨Nat.le_of_ble_eq_true rfl, Nat.le_of_ble_eq_true rfl⟩ hP 11 rfl rfl rfl rfl hl.1 rfl (Nat.le_of_ble_eq_true rfl) dX5_share_11 ⟨Nat.le_of_ble_eq_true rfl, Nat.le_of_ble_eq_true rfl⟩ (fun r_1 hr_1 => ?_)
  subst hr_1
  refine lv_istore_n (lv' := [(2, .int (usC Z (N 2))), (0, .ref (q 0)), (1, .int d)]) hx hb dX5_share_14 rfl hl (by decide) rfl (fun ls hl => ?_)
  refine lv_iload_n hx hb dX5_share_15 rfl (lv_at hl 0 rfl) ?_
  refine lv_if_ne (tgt := 21) hx hb dX5_share_16 (by decide) (fun c_2 => ?_) (fun c_2 => ?_)
  · skip
    refine lv_iload_n hx hb dX5_share_21 rfl (lv_at hl 0 rfl) ?_
    refine lv_aload_n hx hb dX5_share_22 rfl (lv_at hl 1 rfl) ?_
    refine va_get (D := G) (ci := 5) (C := RX5) (T := TX5) (N := 4) hx hb hts iX5 hown hkx.1 hP 0 rfl rfl 0 (by decide) k12 (fun _ h9 => h9) rfl dX5_share_23 ?_
    refine lv_iload_n hx hb dX5_share_26 rfl (lv_at hl 2 rfl) ?_
    refine ro_V S hkx (mX0_unservedCount l (d := d) (hP := P_mid hP) (hwf := hwf)) gX5_share_X0_unservedCount rfl idX0_unservedCount ⟨Nat.le_of_ble_eq_true rfl, Nat.le_of_ble_eq_true rfl⟩ hP 5 rfl rfl rfl rfl hl.1 rfl (Nat.le_of_ble_eq_true rfl) dX5_share_27 ⟨Nat.le_of_ble_eq_true rfl, Nat.le_of_ble_eq_true rfl⟩ (fun r_3 hr_3 => ?_)
    subst hr_3
    refine lv_isub hx hb dX5_share_30 ?_
    refine lv_i2d hx hb dX5_share_31 ?_
    refine lv_iload_n hx hb dX5_share_32 rfl (lv_at hl 0 rfl) ?_
    refine lv_i2d hx hb dX5_share_33 ?_
    refine lv_ddiv hx hb dX5_share_34 (vf_div (by assumption)) ?_
    exact hrd _ _ _ _ _ rfl (show (dyF d) = 0 ∧ some (Value.double (FP.ddiv (FP.i2d ((usC Z (N 2)) - (unC N Z d (N 2)))) (FP.i2d (usC Z (N 2))))) = some (Value.double (shr N Z d)) from ⟨hF0, by refine congrArg (fun z => some (Value.double z)) (?_ : _ = _); unfold shr; rw [if_neg (by assumption)]⟩) (Nat.le_of_ble_eq_true rfl) (Nat.le_of_ble_eq_true rfl) dX5_share_35
  · skip
    refine lv_dconst1 hx hb dX5_share_19 ?_
    exact hrd _ _ _ _ _ rfl (show (dyF d) = 0 ∧ some (Value.double FP.dconst1) = some (Value.double (shr N Z d)) from ⟨hF0, by refine congrArg (fun z => some (Value.double z)) (?_ : _ = _); unfold shr; rw [if_pos (by assumption)]⟩) (Nat.le_of_ble_eq_true rfl) (Nat.le_of_ble_eq_true rfl) dX5_share_20

theorem idX6_share : yX6_share.cls = RX6 ∧ yX6_share.cls ≠ "java/lang/invoke/MethodHandle" ∧ yX6_share.cls ≠ "java/lang/invoke/VarHandle" ∧ (parseMethodDescriptor yX6_share.desc).map (fun d => d.parameters.length) = some 1 := by decide +kernel

set_option maxHeartbeats 4000000 in
set_option maxRecDepth 100000 in
theorem mX6_share (l : Launch) {G : va_G} {T : Nat → ClassId} {H0 : Heap} {r : Nat → Nat} {N : Nat → Nat} {Z : Nat → Nat → Int32} {mm : Nat → Int32} {pp : Nat → Int32} {xx : Nat → Int32} {th : Int32} {sv : Nat} {n1 : Nat} {ac : Int32} {ea : Int32} {le : Int32} {v1 : Int32} {v2 : Int32} {v3 : Int32} {v4 : Int32} {v5 : Int32} {d : Int32} (hP : va_P G vwCl (wMod T r mm pp xx th sv n1 ac ea le v1 v2 v3 v4 v5) H0) (hD : va_D (fun _ => True) (wMod T r mm pp xx th sv n1 ac ea le v1 v2 v3 v4 v5)) (hwf : wf N Z) (hr : rel N Z mm) : mu l yX6_share wsX6_share 4 96 [.ref (r 0), .int d] G T H0 (wMod T r mm pp xx th sv n1 ac ea le v1 v2 v3 v4 v5) (mPostD G (dyF d) (shr N Z d) (wMod T r mm pp xx 0 sv n1 ac ea le v1 v2 v3 v4 v5) (wMod T r mm pp xx (cmA (dyF d)) sv n1 ac ea le v1 v2 v3 v4 v5)) := by
  refine mu_ofd (cc := cX6_share) (maxL := 5) (own := RX6) (by decide +kernel) rfl rfl (Nat.le_of_ble_eq_true rfl) hD ?_
  intro p e s m below meth c Q ls A S hkx hl hD hS hA hret
  obtain ⟨hx, hb, hml, hown, hts⟩ := id S
  have hl : lv_has ls 5 [(0, .ref (r 0)), (1, .int d)] := hl
  have k19 := hts (.fieldLink RX6 19 "SunsetDatesModel" "thrown" "I") (by decide +kernel)
  have iX6 : ∀ w ∈ wsX60, w ∈ wsX6_share := by decide +kernel
  have k7 := hts (.fieldLink RX6 7 "SunsetDatesModel" "now" "[I") (by decide +kernel)
  have hb2 := hwf.1
  obtain ⟨hr0, hr1, hr2, hr3, hrv, hrf, hru, hrs⟩ := id hr
  refine lv_aload_n hx hb dX6_share_0 rfl (lv_at hl 0 rfl) ?_
  refine lv_iload_n hx hb dX6_share_1 rfl (lv_at hl 1 rfl) ?_
  refine ro_S S hkx (mX6_isDay l (d := d)) gX6_share_X6_isDay rfl idX6_isDay.2 ⟨Nat.le_of_ble_eq_true rfl, Nat.le_of_ble_eq_true rfl⟩ rfl hl.1 rfl (Nat.le_of_ble_eq_true rfl) dX6_share_2 ⟨Nat.le_of_ble_eq_true rfl, Nat.le_of_ble_eq_true rfl⟩ (fun r_1 hr_1 => ?_)
  subst hr_1
  refine lv_if_eq (tgt := 12) hx hb dX6_share_5 (by decide) (fun c_2 => ?_) (fun c_2 => ?_)
  · replace c_2 := bI_e0 c_2
    refine lv_iconst (v := 1) hx hb dX6_share_12 (by decide) ?_
    refine va_put (D := G) (ci := 6) (v := .int 1) (ty := .int) (C := RX6) (T := TX6) (N := 14) hx hb hts iX6 tyX6 tyX6_ok nmX6 hown hkx.1 hP hD hS 0 rfl rfl 1 (by decide) k19 (fun _ h9 => h9) rfl (by decide +kernel) rfl rfl (Nat.le_of_ble_eq_true rfl) dX6_share_13 (fun H locs hP hD hS => ?_)
    have hP : va_P G vwCl (wMod T r mm pp xx 1 sv n1 ac ea le v1 v2 v3 v4 v5) H := hP
    have hD : va_D A (wMod T r mm pp xx 1 sv n1 ac ea le v1 v2 v3 v4 v5) := hD
    refine lv_aload_n hx hb dX6_share_16 rfl (lv_at hl 0 rfl) ?_
    refine ro_V S hkx (mX6_uses l (hP := hP) (hwf := hwf) (hr := hr)) gX6_share_X6_uses rfl idX6_uses ⟨Nat.le_of_ble_eq_true rfl, Nat.le_of_ble_eq_true rfl⟩ hP 0 rfl rfl rfl rfl hl.1 rfl (Nat.le_of_ble_eq_true rfl) dX6_share_17 ⟨Nat.le_of_ble_eq_true rfl, Nat.le_of_ble_eq_true rfl⟩ (fun r_3 hr_3 => ?_)
    subst hr_3
    refine lv_istore_n (lv' := [(2, .int (usC Z (N 2))), (0, .ref (r 0)), (1, .int d)]) hx hb dX6_share_20 rfl hl (by decide) rfl (fun ls hl => ?_)
    refine lv_aload_n hx hb dX6_share_21 rfl (lv_at hl 1 rfl) ?_
    refine va_get (D := G) (ci := 6) (C := RX6) (T := TX6) (N := 14) hx hb hts iX6 hown hkx.1 hP 0 rfl rfl 1 (by decide) k19 (fun _ h9 => h9) rfl dX6_share_22 ?_
    refine lv_if_gt (tgt := 32) hx hb dX6_share_25 (by decide) (fun c_4 => ?_) (fun c_4 => ?_)
    · replace c_4 := cn_lt (a := 0) (b := 1) (by omega) (by omega) c_4
      refine lv_aload_n hx hb dX6_share_32 rfl (lv_at hl 1 rfl) ?_
      refine va_get (D := G) (ci := 6) (C := RX6) (T := TX6) (N := 14) hx hb hts iX6 hown hkx.1 hP 0 rfl rfl 1 (by decide) k19 (fun _ h9 => h9) rfl dX6_share_33 ?_
      refine lv_if_le (tgt := 43) hx hb dX6_share_36 (by decide) (fun c_5 => ?_) (fun c_5 => ?_)
      · replace c_5 := cn_le (a := 1) (b := 0) (by omega) (by omega) c_5
        exact absurd c_5 (by decide)
      · replace c_5 := cn_nle (a := 1) (b := 0) (by omega) (by omega) c_5
        refine lv_dconst0 hx hb dX6_share_39 ?_
        refine lv_goto (tgt := 44) hx hb dX6_share_40 (by decide) ?_
        exact hret _ _ _ _ _ (show mPostD G (dyF d) (shr N Z d) (wMod T r mm pp xx 0 sv n1 ac ea le v1 v2 v3 v4 v5) (wMod T r mm pp xx (cmA (dyF d)) sv n1 ac ea le v1 v2 v3 v4 v5) (some (Value.double FP.dconst0)) H from ⟨_, rfl, Or.inr ⟨by simp [dyF, wiF, *], by rw [show (cmA (dyF d)) = 1 by simp [dyF, wiF, cmA, nIl1, *]]; exact hP⟩⟩) hS dX6_share_44
    · replace c_4 := cn_nlt (a := 0) (b := 1) (by omega) (by omega) c_4
      exact absurd c_4 (by decide)
  · replace c_2 := bI_n0 c_2
    refine lv_iconst (v := 0) hx hb dX6_share_8 (by decide) ?_
    refine lv_goto (tgt := 13) hx hb dX6_share_9 (by decide) ?_
    refine va_put (D := G) (ci := 6) (v := .int 0) (ty := .int) (C := RX6) (T := TX6) (N := 14) hx hb hts iX6 tyX6 tyX6_ok nmX6 hown hkx.1 hP hD hS 0 rfl rfl 1 (by decide) k19 (fun _ h9 => h9) rfl (by decide +kernel) rfl rfl (Nat.le_of_ble_eq_true rfl) dX6_share_13 (fun H locs hP hD hS => ?_)
    have hP : va_P G vwCl (wMod T r mm pp xx 0 sv n1 ac ea le v1 v2 v3 v4 v5) H := hP
    have hD : va_D A (wMod T r mm pp xx 0 sv n1 ac ea le v1 v2 v3 v4 v5) := hD
    refine lv_aload_n hx hb dX6_share_16 rfl (lv_at hl 0 rfl) ?_
    refine ro_V S hkx (mX6_uses l (hP := hP) (hwf := hwf) (hr := hr)) gX6_share_X6_uses rfl idX6_uses ⟨Nat.le_of_ble_eq_true rfl, Nat.le_of_ble_eq_true rfl⟩ hP 0 rfl rfl rfl rfl hl.1 rfl (Nat.le_of_ble_eq_true rfl) dX6_share_17 ⟨Nat.le_of_ble_eq_true rfl, Nat.le_of_ble_eq_true rfl⟩ (fun r_6 hr_6 => ?_)
    subst hr_6
    refine lv_istore_n (lv' := [(2, .int (usC Z (N 2))), (0, .ref (r 0)), (1, .int d)]) hx hb dX6_share_20 rfl hl (by decide) rfl (fun ls hl => ?_)
    refine lv_aload_n hx hb dX6_share_21 rfl (lv_at hl 1 rfl) ?_
    refine va_get (D := G) (ci := 6) (C := RX6) (T := TX6) (N := 14) hx hb hts iX6 hown hkx.1 hP 0 rfl rfl 1 (by decide) k19 (fun _ h9 => h9) rfl dX6_share_22 ?_
    refine lv_if_gt (tgt := 32) hx hb dX6_share_25 (by decide) (fun c_7 => ?_) (fun c_7 => ?_)
    · replace c_7 := cn_lt (a := 0) (b := 0) (by omega) (by omega) c_7
      exact absurd c_7 (by decide)
    · replace c_7 := cn_nlt (a := 0) (b := 0) (by omega) (by omega) c_7
      refine lv_iload_n hx hb dX6_share_28 rfl (lv_at hl 0 rfl) ?_
      refine lv_if_ne (tgt := 45) hx hb dX6_share_29 (by decide) (fun c_8 => ?_) (fun c_8 => ?_)
      · skip
        refine lv_iconst (v := 0) hx hb dX6_share_45 (by decide) ?_
        refine lv_istore_n (lv' := [(3, .int 0), (2, .int (usC Z (N 2))), (0, .ref (r 0)), (1, .int d)]) hx hb dX6_share_46 rfl hl (by decide) rfl (fun ls hl => ?_)
        refine lv_iconst (v := 0) hx hb dX6_share_47 (by decide) ?_
        refine lv_istore (lv' := [(4, .int 0), (3, .int 0), (2, .int (usC Z (N 2))), (0, .ref (r 0)), (1, .int d)]) hx hb dX6_share_48 hl (by decide) rfl (fun ls hl => ?_)
        have L50 : ∀ (fuel : Nat) (k : Nat) (y : Int32), N 2 - k < fuel → k ≤ N 2 → y = unC N Z d k → ∀ (H : Heap) (locs : List Loc), va_P G vwCl (wMod T r mm pp xx 0 sv n1 ac ea le v1 v2 v3 v4 v5) H → va_D A (wMod T r mm pp xx 0 sv n1 ac ea le v1 v2 v3 v4 v5) → va_S A H0 H locs → ∀ ls : Array Slot, lv_has ls 5 [(0, .ref (r 0)), (1, .int d), (2, .int (usC Z (N 2))), (3, .int y), (4, .int (nI k))] → W p l e (rmo 4 96) s m ([.ref (r 0), .int d] : List Value).toArray below meth c H locs 0 0 Q (F0 m 50 ls []) := by
          intro fuel
          induction fuel with
          | zero => intro k y hm; exact absurd hm (Nat.not_lt_zero _)
          | succ fuel ih50 =>
            intro k y hm50 hk hy H locs hP hD hS ls hl
            refine lv_iload hx hb dX6_share_50 (lv_at hl 4 rfl) ?_
            refine lv_aload_n hx hb dX6_share_52 rfl (lv_at hl 0 rfl) ?_
            refine va_get (D := G) (ci := 6) (C := RX6) (T := TX6) (N := 14) hx hb hts iX6 hown hkx.1 hP 0 rfl rfl 0 (by decide) k7 (fun _ h9 => h9) rfl dX6_share_53 ?_
            refine lv_iconst (v := 2) hx hb dX6_share_56 (by decide) ?_
            refine ia hx hb hkx hP 1 rfl 2 rfl (by omega) (by decide) dX6_share_57 ?_
            rw [hr2]
            refine lv_icmp_ge (tgt := 87) hx hb dX6_share_58 (by decide) (fun c_9 => ?_) (fun c_9 => ?_)
            · replace c_9 := cn_le (a := (N 2)) (b := k) (by omega) (by omega) c_9
              refine lv_iload_n hx hb dX6_share_87 rfl (lv_at hl 2 rfl) ?_
              refine lv_iload_n hx hb dX6_share_88 rfl (lv_at hl 3 rfl) ?_
              refine lv_isub hx hb dX6_share_89 ?_
              refine lv_i2d hx hb dX6_share_90 ?_
              refine lv_iload_n hx hb dX6_share_91 rfl (lv_at hl 2 rfl) ?_
              refine lv_i2d hx hb dX6_share_92 ?_
              refine lv_ddiv hx hb dX6_share_93 (vf_div (by assumption)) ?_
              exact hret _ _ _ _ _ (show mPostD G (dyF d) (shr N Z d) (wMod T r mm pp xx 0 sv n1 ac ea le v1 v2 v3 v4 v5) (wMod T r mm pp xx (cmA (dyF d)) sv n1 ac ea le v1 v2 v3 v4 v5) (some (Value.double (FP.ddiv (FP.i2d ((usC Z (N 2)) - y)) (FP.i2d (usC Z (N 2)))))) H from ⟨_, rfl, Or.inl ⟨by simp [dyF, wiF, *], by rw [hy, show k = N 2 by omega]; unfold shr; rw [if_neg (by assumption)], by exact hP⟩⟩) hS dX6_share_94
            · replace c_9 := cn_nle (a := (N 2)) (b := k) (by omega) (by omega) c_9
              refine lv_iload_n hx hb dX6_share_61 rfl (lv_at hl 3 rfl) ?_
              refine lv_aload_n hx hb dX6_share_62 rfl (lv_at hl 0 rfl) ?_
              refine lv_iload hx hb dX6_share_63 (lv_at hl 4 rfl) ?_
              refine lv_aload_n hx hb dX6_share_65 rfl (lv_at hl 0 rfl) ?_
              refine lv_iload hx hb dX6_share_66 (lv_at hl 4 rfl) ?_
              refine lv_iload_n hx hb dX6_share_68 rfl (lv_at hl 1 rfl) ?_
              refine ro_V S hkx (mX6_on l (u := k) (d := d) (hP := hP) (hwf := hwf) (hr := hr) (hu := (by omega))) gX6_share_X6_on rfl idX6_on ⟨Nat.le_of_ble_eq_true rfl, Nat.le_of_ble_eq_true rfl⟩ hP 0 rfl rfl rfl rfl hl.1 rfl (Nat.le_of_ble_eq_true rfl) dX6_share_69 ⟨Nat.le_of_ble_eq_true rfl, Nat.le_of_ble_eq_true rfl⟩ (fun r_10 hr_10 => ?_)
              subst hr_10
              have ho := (on_spec hwf (show k < N 2 by omega) d).2
              refine lv_iload_n hx hb dX6_share_72 rfl (lv_at hl 1 rfl) ?_
              refine ro_V S hkx (mX6_missingOn l (u := k) (v := (onN Z k d)) (d := d) (hP := hP) (hwf := hwf) (hr := hr) (hu := (by omega)) (hv := (by omega))) gX6_share_X6_missingOn rfl idX6_missingOn ⟨Nat.le_of_ble_eq_true rfl, Nat.le_of_ble_eq_true rfl⟩ hP 0 rfl rfl rfl rfl hl.1 rfl (Nat.le_of_ble_eq_true rfl) dX6_share_73 ⟨Nat.le_of_ble_eq_true rfl, Nat.le_of_ble_eq_true rfl⟩ (fun r_11 hr_11 => ?_)
              subst hr_11
              refine ro_S S hkx (mX6_bits l (x := (uns N Z (Z 6 k) (onN Z k d) d))) gX6_share_X6_bits rfl idX6_bits.2 ⟨Nat.le_of_ble_eq_true rfl, Nat.le_of_ble_eq_true rfl⟩ rfl hl.1 rfl (Nat.le_of_ble_eq_true rfl) dX6_share_76 ⟨Nat.le_of_ble_eq_true rfl, Nat.le_of_ble_eq_true rfl⟩ (fun r_12 hr_12 => ?_)
              subst hr_12
              rw [bcM_uns hwf (show k < N 2 by omega) (onN Z k d) d]
              refine lv_iadd hx hb dX6_share_79 ?_
              refine lv_istore_n (lv' := [(3, .int (y + (bc (uns N Z (Z 6 k) (onN Z k d) d)))), (0, .ref (r 0)), (1, .int d), (2, .int (usC Z (N 2))), (4, .int (nI k))]) hx hb dX6_share_80 rfl hl (by decide) rfl (fun ls hl => ?_)
              refine lv_iinc (v := (nI (k + 1))) (lv' := [(4, .int (nI (k + 1))), (3, .int (y + (bc (uns N Z (Z 6 k) (onN Z k d) d)))), (0, .ref (r 0)), (1, .int d), (2, .int (usC Z (N 2)))]) hx hb dX6_share_81 hl (k := 4) rfl (nI_inc k) (by decide) rfl (fun ls hl => ?_)
              refine lv_goto (tgt := 50) hx hb dX6_share_84 (by decide) ?_
              exact ih50 (k + 1) (y + (bc (uns N Z (Z 6 k) (onN Z k d) d))) (by omega) (by omega) (by rw [hy]; rfl) _ _ hP hD hS _ (lv_sub hl [2, 3, 4, 1, 0] rfl)
        exact L50 _ 0 0 (Nat.lt_succ_self _) (by omega) (by rfl) _ _ hP hD hS _ (lv_sub hl [3, 4, 2, 1, 0] rfl)
      · skip
        refine lv_aload_n hx hb dX6_share_32 rfl (lv_at hl 1 rfl) ?_
        refine va_get (D := G) (ci := 6) (C := RX6) (T := TX6) (N := 14) hx hb hts iX6 hown hkx.1 hP 0 rfl rfl 1 (by decide) k19 (fun _ h9 => h9) rfl dX6_share_33 ?_
        refine lv_if_le (tgt := 43) hx hb dX6_share_36 (by decide) (fun c_13 => ?_) (fun c_13 => ?_)
        · replace c_13 := cn_le (a := 0) (b := 0) (by omega) (by omega) c_13
          refine lv_dconst1 hx hb dX6_share_43 ?_
          exact hret _ _ _ _ _ (show mPostD G (dyF d) (shr N Z d) (wMod T r mm pp xx 0 sv n1 ac ea le v1 v2 v3 v4 v5) (wMod T r mm pp xx (cmA (dyF d)) sv n1 ac ea le v1 v2 v3 v4 v5) (some (Value.double FP.dconst1)) H from ⟨_, rfl, Or.inl ⟨by simp [dyF, wiF, *], by unfold shr; rw [if_pos (by assumption)], by exact hP⟩⟩) hS dX6_share_44
        · replace c_13 := cn_nle (a := 0) (b := 0) (by omega) (by omega) c_13
          exact absurd c_13 (by decide)
