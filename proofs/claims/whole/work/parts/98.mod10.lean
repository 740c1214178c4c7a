theorem idX6_orderRefused : yX6_orderRefused.cls = RX6 ∧ yX6_orderRefused.cls ≠ "java/lang/invoke/MethodHandle" ∧ yX6_orderRefused.cls ≠ "java/lang/invoke/VarHandle" ∧ (parseMethodDescriptor yX6_orderRefused.desc).map (fun d => d.parameters.length) = some 0 := by decide +kernel

set_option maxHeartbeats 4000000 in
set_option maxRecDepth 100000 in
theorem mX6_orderRefused (l : Launch) {G : va_G} {T : Nat → ClassId} {H : Heap} {r : Nat → Nat} {N : Nat → Nat} {Z : Nat → Nat → Int32} {mm : Nat → Int32} {pp : Nat → Int32} {xx : Nat → Int32} {th : Int32} {sv : Nat} {n1 : Nat} {ac : Int32} {ea : Int32} {le : Int32} {v1 : Int32} {v2 : Int32} {v3 : Int32} {v4 : Int32} {v5 : Int32} (hP : va_P G vwCl (wMod T r mm pp xx th sv n1 ac ea le v1 v2 v3 v4 v5) H) (hwf : wf N Z) (hr : rel N Z mm) : ro l yX6_orderRefused wsX6_orderRefused 3 68 [.ref (r 0)] G T H (fun r => r = orF N Z le v1 v2 v3 v4 v5) := by
  refine ro_of (cc := cX6_orderRefused) (maxL := 1) (ret := .int) (own := RX6) (by decide +kernel) rfl rfl (Nat.le_of_ble_eq_true rfl) (fun v _ => vp_nar_int v) ?_
  intro p e s m below meth c Q ls S hkx hl hret
  obtain ⟨hx, hb, hml, hown, hts⟩ := id S
  have hl : lv_has ls 1 [(0, .ref (r 0))] := hl
  have k163 := hts (.fieldLink RX6 163 "SunsetDatesModel" "letter" "I") (by decide +kernel)
  have iX6 : ∀ w ∈ wsX60, w ∈ wsX6_orderRefused := by decide +kernel
  have k170 := hts (.fieldLink RX6 170 "SunsetDatesModel" "one" "I") (by decide +kernel)
  have k173 := hts (.fieldLink RX6 173 "SunsetDatesModel" "two" "I") (by decide +kernel)
  have k179 := hts (.fieldLink RX6 179 "SunsetDatesModel" "three" "I") (by decide +kernel)
  have k182 := hts (.fieldLink RX6 182 "SunsetDatesModel" "four" "I") (by decide +kernel)
  have k185 := hts (.fieldLink RX6 185 "SunsetDatesModel" "five" "I") (by decide +kernel)
  have hb2 := hwf.1
  obtain ⟨hr0, hr1, hr2, hr3, hrv, hrf, hru, hrs⟩ := id hr
  refine lv_aload_n hx hb dX6_orderRefused_0 rfl (lv_at hl 0 rfl) ?_
  refine va_get (D := G) (ci := 6) (C := RX6) (T := TX6) (N := 14) hx hb hts iX6 hown hkx.1 hP 0 rfl rfl 8 (by decide) k163 (fun _ h9 => h9) rfl dX6_orderRefused_1 ?_
  by_cases c_1 : le = 101
  · refine lv_lookup (off := 74) (tgt := 78) hx hb dX6_orderRefused_4 (by decide) (by rw [c_1]; decide) (by decide) ?_
    refine lv_aload_n hx hb dX6_orderRefused_78 rfl (lv_at hl 0 rfl) ?_
    refine lv_aload_n hx hb dX6_orderRefused_79 rfl (lv_at hl 0 rfl) ?_
    refine va_get (D := G) (ci := 6) (C := RX6) (T := TX6) (N := 14) hx hb hts iX6 hown hkx.1 hP 0 rfl rfl 9 (by decide) k170 (fun _ h9 => h9) rfl dX6_orderRefused_80 ?_
    refine lv_aload_n hx hb dX6_orderRefused_83 rfl (lv_at hl 0 rfl) ?_
    refine va_get (D := G) (ci := 6) (C := RX6) (T := TX6) (N := 14) hx hb hts iX6 hown hkx.1 hP 0 rfl rfl 10 (by decide) k173 (fun _ h9 => h9) rfl dX6_orderRefused_84 ?_
    refine ro_V S hkx (mX6_extendRefused l (v := v1) (t := v2) (hP := hP) (hwf := hwf) (hr := hr)) gX6_orderRefused_X6_extendRefused rfl idX6_extendRefused ⟨Nat.le_of_ble_eq_true rfl, Nat.le_of_ble_eq_true rfl⟩ hP 0 rfl rfl rfl rfl hl.1 rfl (Nat.le_of_ble_eq_true rfl) dX6_orderRefused_87 ⟨Nat.le_of_ble_eq_true rfl, Nat.le_of_ble_eq_true rfl⟩ (fun r_2 hr_2 => ?_)
    subst hr_2
    exact hret _ _ _ (show (exF N Z v1 v2) = orF N Z le v1 v2 v3 v4 v5 from by
        unfold orF; rw [if_neg (show ¬ le = 112 by rw [c_1]; decide), if_neg (show ¬ le = 108 by rw [c_1]; decide), if_pos c_1]) dX6_orderRefused_90
  by_cases c_3 : le = 108
  · refine lv_lookup (off := 61) (tgt := 65) hx hb dX6_orderRefused_4 (by decide) (by rw [c_3]; decide) (by decide) ?_
    refine lv_aload_n hx hb dX6_orderRefused_65 rfl (lv_at hl 0 rfl) ?_
    refine lv_aload_n hx hb dX6_orderRefused_66 rfl (lv_at hl 0 rfl) ?_
    refine va_get (D := G) (ci := 6) (C := RX6) (T := TX6) (N := 14) hx hb hts iX6 hown hkx.1 hP 0 rfl rfl 9 (by decide) k170 (fun _ h9 => h9) rfl dX6_orderRefused_67 ?_
    refine lv_aload_n hx hb dX6_orderRefused_70 rfl (lv_at hl 0 rfl) ?_
    refine va_get (D := G) (ci := 6) (C := RX6) (T := TX6) (N := 14) hx hb hts iX6 hown hkx.1 hP 0 rfl rfl 10 (by decide) k173 (fun _ h9 => h9) rfl dX6_orderRefused_71 ?_
    refine ro_V S hkx (mX6_slipRefused l (u := v1) (t := v2) (hP := hP) (hwf := hwf) (hr := hr)) gX6_orderRefused_X6_slipRefused rfl idX6_slipRefused ⟨Nat.le_of_ble_eq_true rfl, Nat.le_of_ble_eq_true rfl⟩ hP 0 rfl rfl rfl rfl hl.1 rfl (Nat.le_of_ble_eq_true rfl) dX6_orderRefused_74 ⟨Nat.le_of_ble_eq_true rfl, Nat.le_of_ble_eq_true rfl⟩ (fun r_4 hr_4 => ?_)
    subst hr_4
    exact hret _ _ _ (show (slF N Z v1 v2) = orF N Z le v1 v2 v3 v4 v5 from by
        unfold orF; rw [if_neg (show ¬ le = 112 by rw [c_3]; decide), if_pos c_3]) dX6_orderRefused_77
  by_cases c_5 : le = 112
  · refine lv_lookup (off := 44) (tgt := 48) hx hb dX6_orderRefused_4 (by decide) (by rw [c_5]; decide) (by decide) ?_
    refine lv_aload_n hx hb dX6_orderRefused_48 rfl (lv_at hl 0 rfl) ?_
    refine lv_aload_n hx hb dX6_orderRefused_49 rfl (lv_at hl 0 rfl) ?_
    refine va_get (D := G) (ci := 6) (C := RX6) (T := TX6) (N := 14) hx hb hts iX6 hown hkx.1 hP 0 rfl rfl 9 (by decide) k170 (fun _ h9 => h9) rfl dX6_orderRefused_50 ?_
    refine lv_aload_n hx hb dX6_orderRefused_53 rfl (lv_at hl 0 rfl) ?_
    refine va_get (D := G) (ci := 6) (C := RX6) (T := TX6) (N := 14) hx hb hts iX6 hown hkx.1 hP 0 rfl rfl 10 (by decide) k173 (fun _ h9 => h9) rfl dX6_orderRefused_54 ?_
    refine lv_aload_n hx hb dX6_orderRefused_57 rfl (lv_at hl 0 rfl) ?_
    refine va_get (D := G) (ci := 6) (C := RX6) (T := TX6) (N := 14) hx hb hts iX6 hown hkx.1 hP 0 rfl rfl 11 (by decide) k179 (fun _ h9 => h9) rfl dX6_orderRefused_58 ?_
    refine ro_V S hkx (mX6_pledgeRefused l (u := v1) (v := v2) (d := v3) (hP := hP) (hwf := hwf) (hr := hr)) gX6_orderRefused_X6_pledgeRefused rfl idX6_pledgeRefused ⟨Nat.le_of_ble_eq_true rfl, Nat.le_of_ble_eq_true rfl⟩ hP 0 rfl rfl rfl rfl hl.1 rfl (Nat.le_of_ble_eq_true rfl) dX6_orderRefused_61 ⟨Nat.le_of_ble_eq_true rfl, Nat.le_of_ble_eq_true rfl⟩ (fun r_6 hr_6 => ?_)
    subst hr_6
    exact hret _ _ _ (show (plF N v1 v2 v3) = orF N Z le v1 v2 v3 v4 v5 from by
        unfold orF; rw [if_pos c_5]) dX6_orderRefused_64
  by_cases c_7 : le = 115
  · refine lv_lookup (off := 87) (tgt := 91) hx hb dX6_orderRefused_4 (by decide) (by rw [c_7]; decide) (by decide) ?_
    refine lv_aload_n hx hb dX6_orderRefused_91 rfl (lv_at hl 0 rfl) ?_
    refine lv_aload_n hx hb dX6_orderRefused_92 rfl (lv_at hl 0 rfl) ?_
    refine va_get (D := G) (ci := 6) (C := RX6) (T := TX6) (N := 14) hx hb hts iX6 hown hkx.1 hP 0 rfl rfl 9 (by decide) k170 (fun _ h9 => h9) rfl dX6_orderRefused_93 ?_
    refine lv_aload_n hx hb dX6_orderRefused_96 rfl (lv_at hl 0 rfl) ?_
    refine va_get (D := G) (ci := 6) (C := RX6) (T := TX6) (N := 14) hx hb hts iX6 hown hkx.1 hP 0 rfl rfl 10 (by decide) k173 (fun _ h9 => h9) rfl dX6_orderRefused_97 ?_
    refine lv_aload_n hx hb dX6_orderRefused_100 rfl (lv_at hl 0 rfl) ?_
    refine va_get (D := G) (ci := 6) (C := RX6) (T := TX6) (N := 14) hx hb hts iX6 hown hkx.1 hP 0 rfl rfl 11 (by decide) k179 (fun _ h9 => h9) rfl dX6_orderRefused_101 ?_
    refine lv_aload_n hx hb dX6_orderRefused_104 rfl (lv_at hl 0 rfl) ?_
    refine va_get (D := G) (ci := 6) (C := RX6) (T := TX6) (N := 14) hx hb hts iX6 hown hkx.1 hP 0 rfl rfl 12 (by decide) k182 (fun _ h9 => h9) rfl dX6_orderRefused_105 ?_
    refine lv_aload_n hx hb dX6_orderRefused_108 rfl (lv_at hl 0 rfl) ?_
    refine va_get (D := G) (ci := 6) (C := RX6) (T := TX6) (N := 14) hx hb hts iX6 hown hkx.1 hP 0 rfl rfl 13 (by decide) k185 (fun _ h9 => h9) rfl dX6_orderRefused_109 ?_
    refine ro_V S hkx (mX6_shimRefused l (f := v1) (v := v2) (x := v3) (z := v4) (y := v5) (hP := hP) (hwf := hwf) (hr := hr)) gX6_orderRefused_X6_shimRefused rfl idX6_shimRefused ⟨Nat.le_of_ble_eq_true rfl, Nat.le_of_ble_eq_true rfl⟩ hP 0 rfl rfl rfl rfl hl.1 rfl (Nat.le_of_ble_eq_true rfl) dX6_orderRefused_112 ⟨Nat.le_of_ble_eq_true rfl, Nat.le_of_ble_eq_true rfl⟩ (fun r_8 hr_8 => ?_)
    subst hr_8
    exact hret _ _ _ (show (shF N v1 v2 v3 v4 v5) = orF N Z le v1 v2 v3 v4 v5 from by
        unfold orF; rw [if_neg (show ¬ le = 112 by rw [c_7]; decide), if_neg (show ¬ le = 108 by rw [c_7]; decide), if_neg (show ¬ le = 101 by rw [c_7]; decide), if_pos c_7]) dX6_orderRefused_115
  refine lv_lookup (off := 112) (tgt := 116) hx hb dX6_orderRefused_4 (by decide) (by show Op.lookupswitch.offset [(101, 74), (108, 61), (112, 44), (115, 87)] 112 _ = 112; rw [lv_osw (k := 101) (a := 101) c_1 rfl, lv_osw (k := 108) (a := 108) c_3 rfl, lv_osw (k := 112) (a := 112) c_5 rfl, lv_osw (k := 115) (a := 115) c_7 rfl]; rfl) (by decide) ?_
  refine lv_aload_n hx hb dX6_orderRefused_116 rfl (lv_at hl 0 rfl) ?_
  refine lv_aload_n hx hb dX6_orderRefused_117 rfl (lv_at hl 0 rfl) ?_
  refine va_get (D := G) (ci := 6) (C := RX6) (T := TX6) (N := 14) hx hb hts iX6 hown hkx.1 hP 0 rfl rfl 9 (by decide) k170 (fun _ h9 => h9) rfl dX6_orderRefused_118 ?_
  refine ro_V S hkx (mX6_isShim l (v := v1) (hP := hP) (hwf := hwf) (hr := hr)) gX6_orderRefused_X6_isShim rfl idX6_isShim ⟨Nat.le_of_ble_eq_true rfl, Nat.le_of_ble_eq_true rfl⟩ hP 0 rfl rfl rfl rfl hl.1 rfl (Nat.le_of_ble_eq_true rfl) dX6_orderRefused_121 ⟨Nat.le_of_ble_eq_true rfl, Nat.le_of_ble_eq_true rfl⟩ (fun r_9 hr_9 => ?_)
  subst hr_9
  refine lv_if_eq (tgt := 131) hx hb dX6_orderRefused_124 (by decide) (fun c_10 => ?_) (fun c_10 => ?_)
  · replace c_10 := bI_e0 c_10
    refine lv_iconst (v := 1) hx hb dX6_orderRefused_131 (by decide) ?_
    exact hret _ _ _ (show 1 = orF N Z le v1 v2 v3 v4 v5 from by
        unfold orF; rw [if_neg c_5, if_neg c_3, if_neg c_1, if_neg c_7]; unfold drF; rw [if_neg (Bool.eq_false_iff.mp (by assumption))]) dX6_orderRefused_132
  · replace c_10 := bI_n0 c_10
    refine lv_iconst (v := 0) hx hb dX6_orderRefused_127 (by decide) ?_
    refine lv_goto (tgt := 132) hx hb dX6_orderRefused_128 (by decide) ?_
    exact hret _ _ _ (show 0 = orF N Z le v1 v2 v3 v4 v5 from by
        unfold orF; rw [if_neg c_5, if_neg c_3, if_neg c_1, if_neg c_7]; unfold drF; rw [if_pos (by assumption)]) dX6_orderRefused_132

theorem idX6_orderNow : yX6_orderNow.cls = RX6 ∧ yX6_orderNow.cls ≠ "java/lang/invoke/MethodHandle" ∧ yX6_orderNow.cls ≠ "java/lang/invoke/VarHandle" ∧ (parseMethodDescriptor yX6_orderNow.desc).map (fun d => d.parameters.length) = some 0 := by decide +kernel

set_option maxHeartbeats 4000000 in
set_option maxRecDepth 100000 in
theorem mX6_orderNow (l : Launch) {G : va_G} {T : Nat → ClassId} {H0 : Heap} {r : Nat → Nat} {N : Nat → Nat} {Z : Nat → Nat → Int32} {mm : Nat → Int32} {pp : Nat → Int32} {xx : Nat → Int32} {th : Int32} {sv : Nat} {n1 : Nat} {ac : Int32} {ea : Int32} {le : Int32} {v1 : Int32} {v2 : Int32} {v3 : Int32} {v4 : Int32} {v5 : Int32} (hP : va_P G vwCl (wMod T r mm pp xx th sv n1 ac ea le v1 v2 v3 v4 v5) H0) (hD : va_D (fun _ => True) (wMod T r mm pp xx th sv n1 ac ea le v1 v2 v3 v4 v5)) (hwf : wf N Z) (hr : rel N Z mm) (hor : orF N Z le v1 v2 v3 v4 v5 = 0) : mu l yX6_orderNow wsX6_orderNow 1 26 [.ref (r 0)] G T H0 (wMod T r mm pp xx th sv n1 ac ea le v1 v2 v3 v4 v5) (onP G (wMod T r (apM N mm le v1 v2 v3 v4 v5) pp xx th sv n1 ac ea le v1 v2 v3 v4 v5)) := by
  refine mu_ofi (cc := cX6_orderNow) (maxL := 1) (ret := .int) (own := RX6) (by decide +kernel) rfl rfl (Nat.le_of_ble_eq_true rfl) hD ?_
  intro p e s m below meth c Q ls A S hkx hl hD hS hA hret
  obtain ⟨hx, hb, hml, hown, hts⟩ := id S
  have hl : lv_has ls 1 [(0, .ref (r 0))] := hl
  have k163 := hts (.fieldLink RX6 163 "SunsetDatesModel" "letter" "I") (by decide +kernel)
  have iX6 : ∀ w ∈ wsX60, w ∈ wsX6_orderNow := by decide +kernel
  have k170 := hts (.fieldLink RX6 170 "SunsetDatesModel" "one" "I") (by decide +kernel)
  have k173 := hts (.fieldLink RX6 173 "SunsetDatesModel" "two" "I") (by decide +kernel)
  have k179 := hts (.fieldLink RX6 179 "SunsetDatesModel" "three" "I") (by decide +kernel)
  have k182 := hts (.fieldLink RX6 182 "SunsetDatesModel" "four" "I") (by decide +kernel)
  have k185 := hts (.fieldLink RX6 185 "SunsetDatesModel" "five" "I") (by decide +kernel)
  have hb2 := hwf.1
  obtain ⟨hr0, hr1, hr2, hr3, hrv, hrf, hru, hrs⟩ := id hr
  refine lv_aload_n hx hb dX6_orderNow_0 rfl (lv_at hl 0 rfl) ?_
  refine va_get (D := G) (ci := 6) (C := RX6) (T := TX6) (N := 14) hx hb hts iX6 hown hkx.1 hP 0 rfl rfl 8 (by decide) k163 (fun _ h9 => h9) rfl dX6_orderNow_1 ?_
  by_cases c_1 : le = 101
  · refine lv_lookup (off := 74) (tgt := 78) hx hb dX6_orderNow_4 (by decide) (by rw [c_1]; decide) (by decide) ?_
    have h9 := hor
    unfold orF at h9
    rw [if_neg (show ¬ le = 112 by rw [c_1]; decide), if_neg (show ¬ le = 108 by rw [c_1]; decide), if_pos c_1] at h9
    obtain ⟨k1, k2, hy1, hy2a, hy2, rfl, rfl, hy3⟩ := ex_ok (N := N) (Z := Z) (v := v1) (t := v2) (by rw [h9]; rfl) (by omega)
    refine lv_aload_n hx hb dX6_orderNow_78 rfl (lv_at hl 0 rfl) ?_
    refine lv_aload_n hx hb dX6_orderNow_79 rfl (lv_at hl 0 rfl) ?_
    refine va_get (D := G) (ci := 6) (C := RX6) (T := TX6) (N := 14) hx hb hts iX6 hown hkx.1 hP 0 rfl rfl 9 (by decide) k170 (fun _ h9 => h9) rfl dX6_orderNow_80 ?_
    refine lv_aload_n hx hb dX6_orderNow_83 rfl (lv_at hl 0 rfl) ?_
    refine va_get (D := G) (ci := 6) (C := RX6) (T := TX6) (N := 14) hx hb hts iX6 hown hkx.1 hP 0 rfl rfl 10 (by decide) k173 (fun _ h9 => h9) rfl dX6_orderNow_84 ?_
    refine mu_V S hkx (mX6_extendNow l (hP := hP) (hD := hD.weaken (fun _ _ _ _ => trivial)) (N := N) (Z := Z) (mm := mm) (pp := pp) (xx := xx) (th := th) (sv := sv) (n1 := n1) (ac := ac) (ea := ea) (le := le) (v1 := (nI k1)) (v2 := (nI k2)) (v3 := v3) (v4 := v4) (v5 := v5) (v := k1) (t := (nI k2)) (hwf := hwf) (hr := hr) (hv := (by omega))) gX6_orderNow_X6_extendNow rfl idX6_extendNow ⟨Nat.le_of_ble_eq_true rfl, Nat.le_of_ble_eq_true rfl⟩ hP 0 rfl rfl rfl rfl hl.1 rfl (Nat.le_of_ble_eq_true rfl) dX6_orderNow_87 ⟨Nat.le_refl _, Nat.le_refl _⟩ hS (fr_in hD (fun q h => hA q (Nat.le_trans hS.1 h))) (fun v H locs hp9 hz1 hk1 hS => ?_)
    obtain ⟨rfl, hP⟩ := hp9
    have hP : va_P G vwCl (wMod T r (mEx mm k1 (nI k2)) pp xx th sv n1 ac ea le (nI k1) (nI k2) v3 v4 v5) H := hP
    have hD : va_D A (wMod T r (mEx mm k1 (nI k2)) pp xx th sv n1 ac ea le (nI k1) (nI k2) v3 v4 v5) := fr_all hD rfl
    refine W.eq (g2 := F0 m 90 ls [.int (Z 2 k1 + (nI k2))]) rfl ?_
    exact hret _ _ _ _ _ (show onP G (wMod T r (apM N mm le (nI k1) (nI k2) v3 v4 v5) pp xx th sv n1 ac ea le (nI k1) (nI k2) v3 v4 v5) (some (Value.int (Z 2 k1 + (nI k2)))) H from ⟨_, rfl, nlt_ex hwf hy1 hy2, by unfold apM; rw [if_neg (show ¬ le = 112 by rw [c_1]; decide), if_neg (show ¬ le = 108 by rw [c_1]; decide), if_pos c_1, show tn (nI k1) = k1 from nI_clamp (by omega)]; exact hP⟩) rfl hS dX6_orderNow_90
  by_cases c_2 : le = 108
  · refine lv_lookup (off := 61) (tgt := 65) hx hb dX6_orderNow_4 (by decide) (by rw [c_2]; decide) (by decide) ?_
    have h9 := hor
    unfold orF at h9
    rw [if_neg (show ¬ le = 112 by rw [c_2]; decide), if_pos c_2] at h9
    obtain ⟨k1, k2, hy1, hy2a, hy2, rfl, rfl, hy3, hy4⟩ := sl_ok (N := N) (Z := Z) (u := v1) (t := v2) (by rw [h9]; rfl) (by omega)
    refine lv_aload_n hx hb dX6_orderNow_65 rfl (lv_at hl 0 rfl) ?_
    refine lv_aload_n hx hb dX6_orderNow_66 rfl (lv_at hl 0 rfl) ?_
    refine va_get (D := G) (ci := 6) (C := RX6) (T := TX6) (N := 14) hx hb hts iX6 hown hkx.1 hP 0 rfl rfl 9 (by decide) k170 (fun _ h9 => h9) rfl dX6_orderNow_67 ?_
    refine lv_aload_n hx hb dX6_orderNow_70 rfl (lv_at hl 0 rfl) ?_
    refine va_get (D := G) (ci := 6) (C := RX6) (T := TX6) (N := 14) hx hb hts iX6 hown hkx.1 hP 0 rfl rfl 10 (by decide) k173 (fun _ h9 => h9) rfl dX6_orderNow_71 ?_
    refine mu_V S hkx (mX6_slipNow l (hP := hP) (hD := hD.weaken (fun _ _ _ _ => trivial)) (N := N) (Z := Z) (mm := mm) (pp := pp) (xx := xx) (th := th) (sv := sv) (n1 := n1) (ac := ac) (ea := ea) (le := le) (v1 := (nI k1)) (v2 := (nI k2)) (v3 := v3) (v4 := v4) (v5 := v5) (u := k1) (t := (nI k2)) (hwf := hwf) (hr := hr) (hu := (by omega))) gX6_orderNow_X6_slipNow rfl idX6_slipNow ⟨Nat.le_of_ble_eq_true rfl, Nat.le_of_ble_eq_true rfl⟩ hP 0 rfl rfl rfl rfl hl.1 rfl (Nat.le_of_ble_eq_true rfl) dX6_orderNow_74 ⟨Nat.le_refl _, Nat.le_refl _⟩ hS (fr_in hD (fun q h => hA q (Nat.le_trans hS.1 h))) (fun v H locs hp9 hz1 hk1 hS => ?_)
    obtain ⟨rfl, hP⟩ := hp9
    have hP : va_P G vwCl (wMod T r (mSl mm k1 (nI k2)) pp xx th sv n1 ac ea le (nI k1) (nI k2) v3 v4 v5) H := hP
    have hD : va_D A (wMod T r (mSl mm k1 (nI k2)) pp xx th sv n1 ac ea le (nI k1) (nI k2) v3 v4 v5) := fr_all hD rfl
    refine W.eq (g2 := F0 m 77 ls [.int (Z 8 k1 + (nI k2))]) rfl ?_
    exact hret _ _ _ _ _ (show onP G (wMod T r (apM N mm le (nI k1) (nI k2) v3 v4 v5) pp xx th sv n1 ac ea le (nI k1) (nI k2) v3 v4 v5) (some (Value.int (Z 8 k1 + (nI k2)))) H from ⟨_, rfl, nlt_sl hwf hy1 hy2 hy3, by unfold apM; rw [if_neg (show ¬ le = 112 by rw [c_2]; decide), if_pos c_2, show tn (nI k1) = k1 from nI_clamp (by omega)]; exact hP⟩) rfl hS dX6_orderNow_77
  by_cases c_3 : le = 112
  · refine lv_lookup (off := 44) (tgt := 48) hx hb dX6_orderNow_4 (by decide) (by rw [c_3]; decide) (by decide) ?_
    have h9 := hor
    unfold orF at h9
    rw [if_pos c_3] at h9
    obtain ⟨k1, k2, k3, hy1, hy2, hy3, rfl, rfl, rfl⟩ := pl_ok (N := N) (u := v1) (v := v2) (d := v3) (by rw [h9]; rfl) (by omega) (by omega)
    refine lv_aload_n hx hb dX6_orderNow_48 rfl (lv_at hl 0 rfl) ?_
    refine lv_aload_n hx hb dX6_orderNow_49 rfl (lv_at hl 0 rfl) ?_
    refine va_get (D := G) (ci := 6) (C := RX6) (T := TX6) (N := 14) hx hb hts iX6 hown hkx.1 hP 0 rfl rfl 9 (by decide) k170 (fun _ h9 => h9) rfl dX6_orderNow_50 ?_
    refine lv_aload_n hx hb dX6_orderNow_53 rfl (lv_at hl 0 rfl) ?_
    refine va_get (D := G) (ci := 6) (C := RX6) (T := TX6) (N := 14) hx hb hts iX6 hown hkx.1 hP 0 rfl rfl 10 (by decide) k173 (fun _ h9 => h9) rfl dX6_orderNow_54 ?_
    refine lv_aload_n hx hb dX6_orderNow_57 rfl (lv_at hl 0 rfl) ?_
    refine va_get (D := G) (ci := 6) (C := RX6) (T := TX6) (N := 14) hx hb hts iX6 hown hkx.1 hP 0 rfl rfl 11 (by decide) k179 (fun _ h9 => h9) rfl dX6_orderNow_58 ?_
    refine mu_V S hkx (mX6_pledgeNow l (hP := hP) (hD := hD.weaken (fun _ _ _ _ => trivial)) (N := N) (Z := Z) (mm := mm) (pp := pp) (xx := xx) (th := th) (sv := sv) (n1 := n1) (ac := ac) (ea := ea) (le := le) (v1 := (nI k1)) (v2 := (nI k2)) (v3 := (nI k3)) (v4 := v4) (v5 := v5) (u := k1) (v := (nI k2)) (d := (nI k3)) (hwf := hwf) (hr := hr) (hu := (by omega))) gX6_orderNow_X6_pledgeNow rfl idX6_pledgeNow ⟨Nat.le_of_ble_eq_true rfl, Nat.le_of_ble_eq_true rfl⟩ hP 0 rfl rfl rfl rfl hl.1 rfl (Nat.le_of_ble_eq_true rfl) dX6_orderNow_61 ⟨Nat.le_refl _, Nat.le_refl _⟩ hS (fr_in hD (fun q h => hA q (Nat.le_trans hS.1 h))) (fun v H locs hp9 hz1 hk1 hS => ?_)
    obtain ⟨rfl, hP⟩ := hp9
    have hP : va_P G vwCl (wMod T r (mPl mm k1 (nI k2) (nI k3)) pp xx th sv n1 ac ea le (nI k1) (nI k2) (nI k3) v4 v5) H := hP
    have hD : va_D A (wMod T r (mPl mm k1 (nI k2) (nI k3)) pp xx th sv n1 ac ea le (nI k1) (nI k2) (nI k3) v4 v5) := fr_all hD rfl
    refine W.eq (g2 := F0 m 64 ls [.int (Z 8 k1)]) rfl ?_
    exact hret _ _ _ _ _ (show onP G (wMod T r (apM N mm le (nI k1) (nI k2) (nI k3) v4 v5) pp xx th sv n1 ac ea le (nI k1) (nI k2) (nI k3) v4 v5) (some (Value.int (Z 8 k1))) H from ⟨_, rfl, nlt_pl hwf hy1, by unfold apM; rw [if_pos c_3, show tn (nI k1) = k1 from nI_clamp (by omega)]; exact hP⟩) rfl hS dX6_orderNow_64
  by_cases c_4 : le = 115
  · refine lv_lookup (off := 87) (tgt := 91) hx hb dX6_orderNow_4 (by decide) (by rw [c_4]; decide) (by decide) ?_
    have h9 := hor
    unfold orF at h9
    rw [if_neg (show ¬ le = 112 by rw [c_4]; decide), if_neg (show ¬ le = 108 by rw [c_4]; decide), if_neg (show ¬ le = 101 by rw [c_4]; decide), if_pos c_4] at h9
    obtain ⟨-, -, -, -, -, -, -, -, -, -, -, -, -, -, -, -, hy3⟩ := sh_ok (N := N) (f := v1) (v := v2) (x := v3) (z := v4) (y := v5) (by rw [h9]; rfl) (by omega) (by omega)
    refine lv_aload_n hx hb dX6_orderNow_91 rfl (lv_at hl 0 rfl) ?_
    refine lv_aload_n hx hb dX6_orderNow_92 rfl (lv_at hl 0 rfl) ?_
    refine va_get (D := G) (ci := 6) (C := RX6) (T := TX6) (N := 14) hx hb hts iX6 hown hkx.1 hP 0 rfl rfl 9 (by decide) k170 (fun _ h9 => h9) rfl dX6_orderNow_93 ?_
    refine lv_aload_n hx hb dX6_orderNow_96 rfl (lv_at hl 0 rfl) ?_
    refine va_get (D := G) (ci := 6) (C := RX6) (T := TX6) (N := 14) hx hb hts iX6 hown hkx.1 hP 0 rfl rfl 10 (by decide) k173 (fun _ h9 => h9) rfl dX6_orderNow_97 ?_
    refine lv_aload_n hx hb dX6_orderNow_100 rfl (lv_at hl 0 rfl) ?_
    refine va_get (D := G) (ci := 6) (C := RX6) (T := TX6) (N := 14) hx hb hts iX6 hown hkx.1 hP 0 rfl rfl 11 (by decide) k179 (fun _ h9 => h9) rfl dX6_orderNow_101 ?_
    refine lv_aload_n hx hb dX6_orderNow_104 rfl (lv_at hl 0 rfl) ?_
    refine va_get (D := G) (ci := 6) (C := RX6) (T := TX6) (N := 14) hx hb hts iX6 hown hkx.1 hP 0 rfl rfl 12 (by decide) k182 (fun _ h9 => h9) rfl dX6_orderNow_105 ?_
    refine lv_aload_n hx hb dX6_orderNow_108 rfl (lv_at hl 0 rfl) ?_
    refine va_get (D := G) (ci := 6) (C := RX6) (T := TX6) (N := 14) hx hb hts iX6 hown hkx.1 hP 0 rfl rfl 13 (by decide) k185 (fun _ h9 => h9) rfl dX6_orderNow_109 ?_
    refine mu_V S hkx (mX6_shimNow l (hP := hP) (hD := hD.weaken (fun _ _ _ _ => trivial)) (N := N) (Z := Z) (mm := mm) (pp := pp) (xx := xx) (th := th) (sv := sv) (n1 := n1) (ac := ac) (ea := ea) (le := le) (v1 := v1) (v2 := v2) (v3 := v3) (v4 := v4) (v5 := v5) (f := v1) (v := v2) (x := v3) (z := v4) (y := v5) (hwf := hwf) (hr := hr) (h12 := (by omega))) gX6_orderNow_X6_shimNow rfl idX6_shimNow ⟨Nat.le_of_ble_eq_true rfl, Nat.le_of_ble_eq_true rfl⟩ hP 0 rfl rfl rfl rfl hl.1 rfl (Nat.le_of_ble_eq_true rfl) dX6_orderNow_112 ⟨Nat.le_refl _, Nat.le_refl _⟩ hS (fr_in hD (fun q h => hA q (Nat.le_trans hS.1 h))) (fun v H locs hp9 hz1 hk1 hS => ?_)
    obtain ⟨rfl, hP⟩ := hp9
    have hP : va_P G vwCl (wMod T r (mSh mm (N 3) v1 v2 v3 v4 v5) pp xx th sv n1 ac ea le v1 v2 v3 v4 v5) H := hP
    have hD : va_D A (wMod T r (mSh mm (N 3) v1 v2 v3 v4 v5) pp xx th sv n1 ac ea le v1 v2 v3 v4 v5) := fr_all hD rfl
    refine W.eq (g2 := F0 m 115 ls [.int (nI (N 3))]) rfl ?_
    exact hret _ _ _ _ _ (show onP G (wMod T r (apM N mm le v1 v2 v3 v4 v5) pp xx th sv n1 ac ea le v1 v2 v3 v4 v5) (some (Value.int (nI (N 3)))) H from ⟨_, rfl, nlt_nat (by omega), by unfold apM; rw [if_neg (show ¬ le = 112 by rw [c_4]; decide), if_neg (show ¬ le = 108 by rw [c_4]; decide), if_neg (show ¬ le = 101 by rw [c_4]; decide), if_pos c_4]; exact hP⟩) rfl hS dX6_orderNow_115
  refine lv_lookup (off := 112) (tgt := 116) hx hb dX6_orderNow_4 (by decide) (by show Op.lookupswitch.offset [(101, 74), (108, 61), (112, 44), (115, 87)] 112 _ = 112; rw [lv_osw (k := 101) (a := 101) c_1 rfl, lv_osw (k := 108) (a := 108) c_2 rfl, lv_osw (k := 112) (a := 112) c_3 rfl, lv_osw (k := 115) (a := 115) c_4 rfl]; rfl) (by decide) ?_
  have h9 := hor
  unfold orF at h9
  rw [if_neg c_3, if_neg c_2, if_neg c_1, if_neg c_4] at h9
  obtain ⟨k1, hy1, rfl⟩ := dr_ok (N := N) (t := v1) (by rw [h9]; rfl) (by omega)
  refine lv_aload_n hx hb dX6_orderNow_116 rfl (lv_at hl 0 rfl) ?_
  refine lv_aload_n hx hb dX6_orderNow_117 rfl (lv_at hl 0 rfl) ?_
  refine va_get (D := G) (ci := 6) (C := RX6) (T := TX6) (N := 14) hx hb hts iX6 hown hkx.1 hP 0 rfl rfl 9 (by decide) k170 (fun _ h9 => h9) rfl dX6_orderNow_118 ?_
  refine mu_V S hkx (mX6_dropNow l (hP := hP) (hD := hD.weaken (fun _ _ _ _ => trivial)) (N := N) (Z := Z) (mm := mm) (pp := pp) (xx := xx) (th := th) (sv := sv) (n1 := n1) (ac := ac) (ea := ea) (le := le) (v1 := (nI k1)) (v2 := v2) (v3 := v3) (v4 := v4) (v5 := v5) (t := k1) (hwf := hwf) (hr := hr) (ht := (by omega))) gX6_orderNow_X6_dropNow rfl idX6_dropNow ⟨Nat.le_of_ble_eq_true rfl, Nat.le_of_ble_eq_true rfl⟩ hP 0 rfl rfl rfl rfl hl.1 rfl (Nat.le_of_ble_eq_true rfl) dX6_orderNow_121 ⟨Nat.le_refl _, Nat.le_refl _⟩ hS (fr_in hD (fun q h => hA q (Nat.le_trans hS.1 h))) (fun v H locs hp9 hz1 hk1 hS => ?_)
  obtain ⟨rfl, hP⟩ := hp9
  have hP : va_P G vwCl (wMod T r (mDr mm (N 3) k1) pp xx th sv n1 ac ea le (nI k1) v2 v3 v4 v5) H := hP
  have hD : va_D A (wMod T r (mDr mm (N 3) k1) pp xx th sv n1 ac ea le (nI k1) v2 v3 v4 v5) := fr_all hD rfl
  refine W.eq (g2 := F0 m 124 ls [.int (nI (N 3 - 1))]) rfl ?_
  exact hret _ _ _ _ _ (show onP G (wMod T r (apM N mm le (nI k1) v2 v3 v4 v5) pp xx th sv n1 ac ea le (nI k1) v2 v3 v4 v5) (some (Value.int (nI (N 3 - 1)))) H from ⟨_, rfl, nlt_nat (by omega), by unfold apM; rw [if_neg c_3, if_neg c_2, if_neg c_1, if_neg c_4, show tn (nI k1) = k1 from nI_clamp (by omega)]; exact hP⟩) rfl hS dX6_orderNow_124
