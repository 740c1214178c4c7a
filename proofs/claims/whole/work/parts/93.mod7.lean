theorem idX6_here : yX6_here.cls = RX6 ∧ yX6_here.cls ≠ "java/lang/invoke/MethodHandle" ∧ yX6_here.cls ≠ "java/lang/invoke/VarHandle" ∧ (parseMethodDescriptor yX6_here.desc).map (fun d => d.parameters.length) = some 0 := by decide +kernel

set_option maxHeartbeats 4000000 in
set_option maxRecDepth 100000 in
theorem mX6_here (l : Launch) {G : va_G} {T : Nat → ClassId} {H : Heap} {r : Nat → Nat} {mm : Nat → Int32} {pp : Nat → Int32} {xx : Nat → Int32} {th : Int32} {sv : Nat} {n1 : Nat} {ea : Int32} {le : Int32} {v1 : Int32} {v2 : Int32} {v3 : Int32} {v4 : Int32} {v5 : Int32} {pz : Nat} (hP : va_P G vwCl (wMod T r mm pp xx th sv n1 (nI pz) ea le v1 v2 v3 v4 v5) H) (hn1 : n1 ≤ 100) (hq : pz ≤ n1) : ro l yX6_here wsX6_here 0 0 [.ref (r 0)] G T H (fun r => r = (chr xx n1 pz)) := by
  refine ro_of (cc := cX6_here) (maxL := 1) (ret := .int) (own := RX6) (by decide +kernel) rfl rfl (Nat.le_of_ble_eq_true rfl) (fun v _ => vp_nar_int v) ?_
  intro p e s m below meth c Q ls S hkx hl hret
  obtain ⟨hx, hb, hml, hown, hts⟩ := id S
  have hl : lv_has ls 1 [(0, .ref (r 0))] := hl
  have k151 := hts (.fieldLink RX6 151 "SunsetDatesModel" "at0" "I") (by decide +kernel)
  have iX6 : ∀ w ∈ wsX60, w ∈ wsX6_here := by decide +kernel
  have k148 := hts (.fieldLink RX6 148 "SunsetDatesModel" "texted" "I") (by decide +kernel)
  have k16 := hts (.fieldLink RX6 16 "SunsetDatesModel" "text" "[I") (by decide +kernel)
  refine lv_aload_n hx hb dX6_here_0 rfl (lv_at hl 0 rfl) ?_
  refine va_get (D := G) (ci := 6) (C := RX6) (T := TX6) (N := 14) hx hb hts iX6 hown hkx.1 hP 0 rfl rfl 6 (by decide) k151 (fun _ h9 => h9) rfl dX6_here_1 ?_
  refine lv_aload_n hx hb dX6_here_4 rfl (lv_at hl 0 rfl) ?_
  refine va_get (D := G) (ci := 6) (C := RX6) (T := TX6) (N := 14) hx hb hts iX6 hown hkx.1 hP 0 rfl rfl 5 (by decide) k148 (fun _ h9 => h9) rfl dX6_here_5 ?_
  refine lv_icmp_ge (tgt := 23) hx hb dX6_here_8 (by decide) (fun c_1 => ?_) (fun c_1 => ?_)
  · replace c_1 := cn_le (a := n1) (b := pz) (by omega) (by omega) c_1
    refine lv_iconst (v := (-1)) hx hb dX6_here_23 (by decide) ?_
    exact hret _ _ _ (show (-1) = (chr xx n1 pz) from by
        unfold chr; rw [if_neg (by omega)]) dX6_here_24
  · replace c_1 := cn_nle (a := n1) (b := pz) (by omega) (by omega) c_1
    refine lv_aload_n hx hb dX6_here_11 rfl (lv_at hl 0 rfl) ?_
    refine va_get (D := G) (ci := 6) (C := RX6) (T := TX6) (N := 14) hx hb hts iX6 hown hkx.1 hP 0 rfl rfl 4 (by decide) k16 (fun _ h9 => h9) rfl dX6_here_12 ?_
    refine lv_aload_n hx hb dX6_here_15 rfl (lv_at hl 0 rfl) ?_
    refine va_get (D := G) (ci := 6) (C := RX6) (T := TX6) (N := 14) hx hb hts iX6 hown hkx.1 hP 0 rfl rfl 6 (by decide) k151 (fun _ h9 => h9) rfl dX6_here_16 ?_
    refine ia hx hb hkx hP 3 rfl pz rfl (by omega) (by decide) dX6_here_19 ?_
    refine lv_goto (tgt := 24) hx hb dX6_here_20 (by decide) ?_
    exact hret _ _ _ (show (xx pz) = (chr xx n1 pz) from by
        unfold chr; rw [if_pos (by omega)]) dX6_here_24

theorem idX6_sign : yX6_sign.cls = RX6 ∧ yX6_sign.cls ≠ "java/lang/invoke/MethodHandle" ∧ yX6_sign.cls ≠ "java/lang/invoke/VarHandle" ∧ (parseMethodDescriptor yX6_sign.desc).map (fun d => d.parameters.length) = some 1 := by decide +kernel

set_option maxHeartbeats 4000000 in
set_option maxRecDepth 100000 in
theorem mX6_sign_ok (l : Launch) {G : va_G} {T : Nat → ClassId} {H0 : Heap} {r : Nat → Nat} {mm : Nat → Int32} {pp : Nat → Int32} {xx : Nat → Int32} {th : Int32} {sv : Nat} {n1 : Nat} {le : Int32} {v1 : Int32} {v2 : Int32} {v3 : Int32} {v4 : Int32} {v5 : Int32} {pz : Nat} {ns : List Int32} {sz : Int32} (hP : va_P G vwCl (wMod T r mm pp xx th sv n1 (nI pz) (-1) le v1 v2 v3 v4 v5) H0) (hD : va_D (fun _ => True) (wMod T r mm pp xx th sv n1 (nI pz) (-1) le v1 v2 v3 v4 v5)) (hn1 : n1 ≤ 100) (hq : pz ≤ n1) : mu l yX6_sign wsX6_sign 1 20 [.ref (r 0), .int sz] G T H0 (wMod T r mm pp xx th sv n1 (nI pz) (-1) le v1 v2 v3 v4 v5) (fun v9 H9 => v9 = none ∧ va_P G vwCl (wMod T r mm pp xx th sv n1 (nI (acO (pSg xx n1 sz (pok pz ns)))) (eaO (pSg xx n1 sz (pok pz ns))) le v1 v2 v3 v4 v5) H9) := by
  refine mu_ofv (cc := cX6_sign) (maxL := 2) (own := RX6) (by decide +kernel) rfl rfl (Nat.le_of_ble_eq_true rfl) hD ?_
  intro p e s m below meth c Q ls A S hkx hl hD hS hA hret
  obtain ⟨hx, hb, hml, hown, hts⟩ := id S
  have hl : lv_has ls 2 [(0, .ref (r 0)), (1, .int sz)] := hl
  have k154 := hts (.fieldLink RX6 154 "SunsetDatesModel" "errorAt" "I") (by decide +kernel)
  have iX6 : ∀ w ∈ wsX60, w ∈ wsX6_sign := by decide +kernel
  have k151 := hts (.fieldLink RX6 151 "SunsetDatesModel" "at0" "I") (by decide +kernel)
  refine lv_aload_n hx hb dX6_sign_0 rfl (lv_at hl 0 rfl) ?_
  refine va_get (D := G) (ci := 6) (C := RX6) (T := TX6) (N := 14) hx hb hts iX6 hown hkx.1 hP 0 rfl rfl 7 (by decide) k154 (fun _ h9 => h9) rfl dX6_sign_1 ?_
  refine lv_iconst (v := (-1)) hx hb dX6_sign_4 (by decide) ?_
  refine lv_icmp_ne (tgt := 24) hx hb dX6_sign_5 (by decide) (fun c_1 => ?_) (fun c_1 => ?_)
  · skip
    exact absurd c_1 (by decide)
  · skip
    refine lv_aload_n hx hb dX6_sign_8 rfl (lv_at hl 0 rfl) ?_
    refine ro_V S hkx (mX6_here l (hP := hP) (hn1 := (by omega)) (hq := (by omega))) gX6_sign_X6_here rfl idX6_here ⟨Nat.le_of_ble_eq_true rfl, Nat.le_of_ble_eq_true rfl⟩ hP 0 rfl rfl rfl rfl hl.1 rfl (Nat.le_of_ble_eq_true rfl) dX6_sign_9 ⟨Nat.le_of_ble_eq_true rfl, Nat.le_of_ble_eq_true rfl⟩ (fun r_2 hr_2 => ?_)
    subst hr_2
    refine lv_iload_n hx hb dX6_sign_12 rfl (lv_at hl 1 rfl) ?_
    refine lv_icmp_eq (tgt := 24) hx hb dX6_sign_13 (by decide) (fun c_3 => ?_) (fun c_3 => ?_)
    · skip
      refine lv_aload_n hx hb dX6_sign_24 rfl (lv_at hl 0 rfl) ?_
      refine lv_dup hx hb dX6_sign_25 rfl ?_
      refine va_get (D := G) (ci := 6) (C := RX6) (T := TX6) (N := 14) hx hb hts iX6 hown hkx.1 hP 0 rfl rfl 6 (by decide) k151 (fun _ h9 => h9) rfl dX6_sign_26 ?_
      refine lv_aload_n hx hb dX6_sign_29 rfl (lv_at hl 0 rfl) ?_
      refine va_get (D := G) (ci := 6) (C := RX6) (T := TX6) (N := 14) hx hb hts iX6 hown hkx.1 hP 0 rfl rfl 7 (by decide) k154 (fun _ h9 => h9) rfl dX6_sign_30 ?_
      refine lv_iconst (v := (-1)) hx hb dX6_sign_33 (by decide) ?_
      refine lv_icmp_ne (tgt := 41) hx hb dX6_sign_34 (by decide) (fun c_4 => ?_) (fun c_4 => ?_)
      · skip
        exact absurd c_4 (by decide)
      · skip
        refine lv_iconst (v := 1) hx hb dX6_sign_37 (by decide) ?_
        refine lv_goto (tgt := 42) hx hb dX6_sign_38 (by decide) ?_
        refine lv_iadd hx hb dX6_sign_42 ?_
        rw [show ((nI pz) + 1) = (nI (pz + 1)) from nI_add pz 1]
        refine va_put (D := G) (ci := 6) (v := .int (nI (pz + 1))) (ty := .int) (C := RX6) (T := TX6) (N := 14) hx hb hts iX6 tyX6 tyX6_ok nmX6 hown hkx.1 hP hD hS 0 rfl rfl 6 (by decide) k151 (fun _ h9 => h9) rfl (by decide +kernel) rfl rfl (Nat.le_of_ble_eq_true rfl) dX6_sign_43 (fun H locs hP hD hS => ?_)
        have hP : va_P G vwCl (wMod T r mm pp xx th sv n1 (nI (pz + 1)) (-1) le v1 v2 v3 v4 v5) H := hP
        have hD : va_D A (wMod T r mm pp xx th sv n1 (nI (pz + 1)) (-1) le v1 v2 v3 v4 v5) := hD
        exact hret _ _ _ _ (show (none : Option Value) = none ∧ va_P G vwCl (wMod T r mm pp xx th sv n1 (nI (acO (pSg xx n1 sz (pok pz ns)))) (eaO (pSg xx n1 sz (pok pz ns))) le v1 v2 v3 v4 v5) H from ⟨rfl, (by rw [show pSg xx n1 sz (pok pz ns) = pok (pz + 1) ns from if_pos (by assumption)]; exact hP)⟩) hS dX6_sign_46
    · skip
      refine lv_aload_n hx hb dX6_sign_16 rfl (lv_at hl 0 rfl) ?_
      refine lv_aload_n hx hb dX6_sign_17 rfl (lv_at hl 0 rfl) ?_
      refine va_get (D := G) (ci := 6) (C := RX6) (T := TX6) (N := 14) hx hb hts iX6 hown hkx.1 hP 0 rfl rfl 6 (by decide) k151 (fun _ h9 => h9) rfl dX6_sign_18 ?_
      refine va_put (D := G) (ci := 6) (v := .int (nI pz)) (ty := .int) (C := RX6) (T := TX6) (N := 14) hx hb hts iX6 tyX6 tyX6_ok nmX6 hown hkx.1 hP hD hS 0 rfl rfl 7 (by decide) k154 (fun _ h9 => h9) rfl (by decide +kernel) rfl rfl (Nat.le_of_ble_eq_true rfl) dX6_sign_21 (fun H locs hP hD hS => ?_)
      have hP : va_P G vwCl (wMod T r mm pp xx th sv n1 (nI pz) (nI pz) le v1 v2 v3 v4 v5) H := hP
      have hD : va_D A (wMod T r mm pp xx th sv n1 (nI pz) (nI pz) le v1 v2 v3 v4 v5) := hD
      refine lv_aload_n hx hb dX6_sign_24 rfl (lv_at hl 0 rfl) ?_
      refine lv_dup hx hb dX6_sign_25 rfl ?_
      refine va_get (D := G) (ci := 6) (C := RX6) (T := TX6) (N := 14) hx hb hts iX6 hown hkx.1 hP 0 rfl rfl 6 (by decide) k151 (fun _ h9 => h9) rfl dX6_sign_26 ?_
      refine lv_aload_n hx hb dX6_sign_29 rfl (lv_at hl 0 rfl) ?_
      refine va_get (D := G) (ci := 6) (C := RX6) (T := TX6) (N := 14) hx hb hts iX6 hown hkx.1 hP 0 rfl rfl 7 (by decide) k154 (fun _ h9 => h9) rfl dX6_sign_30 ?_
      refine lv_iconst (v := (-1)) hx hb dX6_sign_33 (by decide) ?_
      refine lv_icmp_ne (tgt := 41) hx hb dX6_sign_34 (by decide) (fun c_5 => ?_) (fun c_5 => ?_)
      · skip
        refine lv_iconst (v := 0) hx hb dX6_sign_41 (by decide) ?_
        refine lv_iadd hx hb dX6_sign_42 ?_
        rw [show ((nI pz) + 0) = (nI (pz + 0)) from nI_add pz 0]
        refine va_put (D := G) (ci := 6) (v := .int (nI (pz + 0))) (ty := .int) (C := RX6) (T := TX6) (N := 14) hx hb hts iX6 tyX6 tyX6_ok nmX6 hown hkx.1 hP hD hS 0 rfl rfl 6 (by decide) k151 (fun _ h9 => h9) rfl (by decide +kernel) rfl rfl (Nat.le_of_ble_eq_true rfl) dX6_sign_43 (fun H locs hP hD hS => ?_)
        have hP : va_P G vwCl (wMod T r mm pp xx th sv n1 (nI (pz + 0)) (nI pz) le v1 v2 v3 v4 v5) H := hP
        have hD : va_D A (wMod T r mm pp xx th sv n1 (nI (pz + 0)) (nI pz) le v1 v2 v3 v4 v5) := hD
        exact hret _ _ _ _ (show (none : Option Value) = none ∧ va_P G vwCl (wMod T r mm pp xx th sv n1 (nI (acO (pSg xx n1 sz (pok pz ns)))) (eaO (pSg xx n1 sz (pok pz ns))) le v1 v2 v3 v4 v5) H from ⟨rfl, (by rw [show pSg xx n1 sz (pok pz ns) = per pz pz from if_neg (by assumption)]; exact hP)⟩) hS dX6_sign_46
      · skip
        exact absurd c_5 (nIm1 (by omega))

set_option maxHeartbeats 4000000 in
set_option maxRecDepth 100000 in
theorem mX6_sign_er (l : Launch) {G : va_G} {T : Nat → ClassId} {H0 : Heap} {r : Nat → Nat} {mm : Nat → Int32} {pp : Nat → Int32} {xx : Nat → Int32} {th : Int32} {sv : Nat} {n1 : Nat} {le : Int32} {v1 : Int32} {v2 : Int32} {v3 : Int32} {v4 : Int32} {v5 : Int32} {qz : Nat} {az : Nat} {sz : Int32} (hP : va_P G vwCl (wMod T r mm pp xx th sv n1 (nI az) (nI qz) le v1 v2 v3 v4 v5) H0) (hD : va_D (fun _ => True) (wMod T r mm pp xx th sv n1 (nI az) (nI qz) le v1 v2 v3 v4 v5)) (hn1 : n1 ≤ 100) (hq : qz ≤ n1) (ha : az ≤ n1) : mu l yX6_sign wsX6_sign 1 20 [.ref (r 0), .int sz] G T H0 (wMod T r mm pp xx th sv n1 (nI az) (nI qz) le v1 v2 v3 v4 v5) (fun v9 H9 => v9 = none ∧ va_P G vwCl (wMod T r mm pp xx th sv n1 (nI (acO (pSg xx n1 sz (per qz az)))) (eaO (pSg xx n1 sz (per qz az))) le v1 v2 v3 v4 v5) H9) := by
  refine mu_ofv (cc := cX6_sign) (maxL := 2) (own := RX6) (by decide +kernel) rfl rfl (Nat.le_of_ble_eq_true rfl) hD ?_
  intro p e s m below meth c Q ls A S hkx hl hD hS hA hret
  obtain ⟨hx, hb, hml, hown, hts⟩ := id S
  have hl : lv_has ls 2 [(0, .ref (r 0)), (1, .int sz)] := hl
  have k154 := hts (.fieldLink RX6 154 "SunsetDatesModel" "errorAt" "I") (by decide +kernel)
  have iX6 : ∀ w ∈ wsX60, w ∈ wsX6_sign := by decide +kernel
  have k151 := hts (.fieldLink RX6 151 "SunsetDatesModel" "at0" "I") (by decide +kernel)
  refine lv_aload_n hx hb dX6_sign_0 rfl (lv_at hl 0 rfl) ?_
  refine va_get (D := G) (ci := 6) (C := RX6) (T := TX6) (N := 14) hx hb hts iX6 hown hkx.1 hP 0 rfl rfl 7 (by decide) k154 (fun _ h9 => h9) rfl dX6_sign_1 ?_
  refine lv_iconst (v := (-1)) hx hb dX6_sign_4 (by decide) ?_
  refine lv_icmp_ne (tgt := 24) hx hb dX6_sign_5 (by decide) (fun c_1 => ?_) (fun c_1 => ?_)
  · skip
    refine lv_aload_n hx hb dX6_sign_24 rfl (lv_at hl 0 rfl) ?_
    refine lv_dup hx hb dX6_sign_25 rfl ?_
    refine va_get (D := G) (ci := 6) (C := RX6) (T := TX6) (N := 14) hx hb hts iX6 hown hkx.1 hP 0 rfl rfl 6 (by decide) k151 (fun _ h9 => h9) rfl dX6_sign_26 ?_
    refine lv_aload_n hx hb dX6_sign_29 rfl (lv_at hl 0 rfl) ?_
    refine va_get (D := G) (ci := 6) (C := RX6) (T := TX6) (N := 14) hx hb hts iX6 hown hkx.1 hP 0 rfl rfl 7 (by decide) k154 (fun _ h9 => h9) rfl dX6_sign_30 ?_
    refine lv_iconst (v := (-1)) hx hb dX6_sign_33 (by decide) ?_
    refine lv_icmp_ne (tgt := 41) hx hb dX6_sign_34 (by decide) (fun c_2 => ?_) (fun c_2 => ?_)
    · skip
      refine lv_iconst (v := 0) hx hb dX6_sign_41 (by decide) ?_
      refine lv_iadd hx hb dX6_sign_42 ?_
      rw [show ((nI az) + 0) = (nI (az + 0)) from nI_add az 0]
      refine va_put (D := G) (ci := 6) (v := .int (nI (az + 0))) (ty := .int) (C := RX6) (T := TX6) (N := 14) hx hb hts iX6 tyX6 tyX6_ok nmX6 hown hkx.1 hP hD hS 0 rfl rfl 6 (by decide) k151 (fun _ h9 => h9) rfl (by decide +kernel) rfl rfl (Nat.le_of_ble_eq_true rfl) dX6_sign_43 (fun H locs hP hD hS => ?_)
      have hP : va_P G vwCl (wMod T r mm pp xx th sv n1 (nI (az + 0)) (nI qz) le v1 v2 v3 v4 v5) H := hP
      have hD : va_D A (wMod T r mm pp xx th sv n1 (nI (az + 0)) (nI qz) le v1 v2 v3 v4 v5) := hD
      exact hret _ _ _ _ (show (none : Option Value) = none ∧ va_P G vwCl (wMod T r mm pp xx th sv n1 (nI (acO (pSg xx n1 sz (per qz az)))) (eaO (pSg xx n1 sz (per qz az))) le v1 v2 v3 v4 v5) H from ⟨rfl, hP⟩) hS dX6_sign_46
    · skip
      exact absurd c_2 (nIm1 (by omega))
  · skip
    exact absurd c_1 (nIm1 (by omega))

set_option maxHeartbeats 4000000 in
set_option maxRecDepth 100000 in
theorem mX6_sign_pe (l : Launch) {G : va_G} {T : Nat → ClassId} {H0 : Heap} {r : Nat → Nat} {mm : Nat → Int32} {pp : Nat → Int32} {xx : Nat → Int32} {th : Int32} {sv : Nat} {n1 : Nat} {le : Int32} {v1 : Int32} {v2 : Int32} {v3 : Int32} {v4 : Int32} {v5 : Int32} {qz : Nat} {sz : Int32} (hP : va_P G vwCl (wMod T r mm pp xx th sv n1 (nI qz) (-1) le v1 v2 v3 v4 v5) H0) (hD : va_D (fun _ => True) (wMod T r mm pp xx th sv n1 (nI qz) (-1) le v1 v2 v3 v4 v5)) (hn1 : n1 ≤ 100) (hq : qz ≤ n1) : mu l yX6_sign wsX6_sign 1 20 [.ref (r 0), .int sz] G T H0 (wMod T r mm pp xx th sv n1 (nI qz) (-1) le v1 v2 v3 v4 v5) (fun v9 H9 => v9 = none ∧ va_P G vwCl (wMod T r mm pp xx th sv n1 (nI (acO (pSg xx n1 sz (ppe qz)))) (eaO (pSg xx n1 sz (ppe qz))) le v1 v2 v3 v4 v5) H9) := by
  refine mu_ofv (cc := cX6_sign) (maxL := 2) (own := RX6) (by decide +kernel) rfl rfl (Nat.le_of_ble_eq_true rfl) hD ?_
  intro p e s m below meth c Q ls A S hkx hl hD hS hA hret
  obtain ⟨hx, hb, hml, hown, hts⟩ := id S
  have hl : lv_has ls 2 [(0, .ref (r 0)), (1, .int sz)] := hl
  have k154 := hts (.fieldLink RX6 154 "SunsetDatesModel" "errorAt" "I") (by decide +kernel)
  have iX6 : ∀ w ∈ wsX60, w ∈ wsX6_sign := by decide +kernel
  have k151 := hts (.fieldLink RX6 151 "SunsetDatesModel" "at0" "I") (by decide +kernel)
  refine lv_aload_n hx hb dX6_sign_0 rfl (lv_at hl 0 rfl) ?_
  refine va_get (D := G) (ci := 6) (C := RX6) (T := TX6) (N := 14) hx hb hts iX6 hown hkx.1 hP 0 rfl rfl 7 (by decide) k154 (fun _ h9 => h9) rfl dX6_sign_1 ?_
  refine lv_iconst (v := (-1)) hx hb dX6_sign_4 (by decide) ?_
  refine lv_icmp_ne (tgt := 24) hx hb dX6_sign_5 (by decide) (fun c_1 => ?_) (fun c_1 => ?_)
  · skip
    exact absurd c_1 (by decide)
  · skip
    refine lv_aload_n hx hb dX6_sign_8 rfl (lv_at hl 0 rfl) ?_
    refine ro_V S hkx (mX6_here l (hP := hP) (hn1 := (by omega)) (hq := (by omega))) gX6_sign_X6_here rfl idX6_here ⟨Nat.le_of_ble_eq_true rfl, Nat.le_of_ble_eq_true rfl⟩ hP 0 rfl rfl rfl rfl hl.1 rfl (Nat.le_of_ble_eq_true rfl) dX6_sign_9 ⟨Nat.le_of_ble_eq_true rfl, Nat.le_of_ble_eq_true rfl⟩ (fun r_2 hr_2 => ?_)
    subst hr_2
    refine lv_iload_n hx hb dX6_sign_12 rfl (lv_at hl 1 rfl) ?_
    refine lv_icmp_eq (tgt := 24) hx hb dX6_sign_13 (by decide) (fun c_3 => ?_) (fun c_3 => ?_)
    · skip
      refine lv_aload_n hx hb dX6_sign_24 rfl (lv_at hl 0 rfl) ?_
      refine lv_dup hx hb dX6_sign_25 rfl ?_
      refine va_get (D := G) (ci := 6) (C := RX6) (T := TX6) (N := 14) hx hb hts iX6 hown hkx.1 hP 0 rfl rfl 6 (by decide) k151 (fun _ h9 => h9) rfl dX6_sign_26 ?_
      refine lv_aload_n hx hb dX6_sign_29 rfl (lv_at hl 0 rfl) ?_
      refine va_get (D := G) (ci := 6) (C := RX6) (T := TX6) (N := 14) hx hb hts iX6 hown hkx.1 hP 0 rfl rfl 7 (by decide) k154 (fun _ h9 => h9) rfl dX6_sign_30 ?_
      refine lv_iconst (v := (-1)) hx hb dX6_sign_33 (by decide) ?_
      refine lv_icmp_ne (tgt := 41) hx hb dX6_sign_34 (by decide) (fun c_4 => ?_) (fun c_4 => ?_)
      · skip
        exact absurd c_4 (by decide)
      · skip
        refine lv_iconst (v := 1) hx hb dX6_sign_37 (by decide) ?_
        refine lv_goto (tgt := 42) hx hb dX6_sign_38 (by decide) ?_
        refine lv_iadd hx hb dX6_sign_42 ?_
        rw [show ((nI qz) + 1) = (nI (qz + 1)) from nI_add qz 1]
        refine va_put (D := G) (ci := 6) (v := .int (nI (qz + 1))) (ty := .int) (C := RX6) (T := TX6) (N := 14) hx hb hts iX6 tyX6 tyX6_ok nmX6 hown hkx.1 hP hD hS 0 rfl rfl 6 (by decide) k151 (fun _ h9 => h9) rfl (by decide +kernel) rfl rfl (Nat.le_of_ble_eq_true rfl) dX6_sign_43 (fun H locs hP hD hS => ?_)
        have hP : va_P G vwCl (wMod T r mm pp xx th sv n1 (nI (qz + 1)) (-1) le v1 v2 v3 v4 v5) H := hP
        have hD : va_D A (wMod T r mm pp xx th sv n1 (nI (qz + 1)) (-1) le v1 v2 v3 v4 v5) := hD
        exact hret _ _ _ _ (show (none : Option Value) = none ∧ va_P G vwCl (wMod T r mm pp xx th sv n1 (nI (acO (pSg xx n1 sz (ppe qz)))) (eaO (pSg xx n1 sz (ppe qz))) le v1 v2 v3 v4 v5) H from ⟨rfl, (by rw [show pSg xx n1 sz (ppe qz) = pok (qz + 1) [] from if_pos (by assumption)]; exact hP)⟩) hS dX6_sign_46
    · skip
      refine lv_aload_n hx hb dX6_sign_16 rfl (lv_at hl 0 rfl) ?_
      refine lv_aload_n hx hb dX6_sign_17 rfl (lv_at hl 0 rfl) ?_
      refine va_get (D := G) (ci := 6) (C := RX6) (T := TX6) (N := 14) hx hb hts iX6 hown hkx.1 hP 0 rfl rfl 6 (by decide) k151 (fun _ h9 => h9) rfl dX6_sign_18 ?_
      refine va_put (D := G) (ci := 6) (v := .int (nI qz)) (ty := .int) (C := RX6) (T := TX6) (N := 14) hx hb hts iX6 tyX6 tyX6_ok nmX6 hown hkx.1 hP hD hS 0 rfl rfl 7 (by decide) k154 (fun _ h9 => h9) rfl (by decide +kernel) rfl rfl (Nat.le_of_ble_eq_true rfl) dX6_sign_21 (fun H locs hP hD hS => ?_)
      have hP : va_P G vwCl (wMod T r mm pp xx th sv n1 (nI qz) (nI qz) le v1 v2 v3 v4 v5) H := hP
      have hD : va_D A (wMod T r mm pp xx th sv n1 (nI qz) (nI qz) le v1 v2 v3 v4 v5) := hD
      refine lv_aload_n hx hb dX6_sign_24 rfl (lv_at hl 0 rfl) ?_
      refine lv_dup hx hb dX6_sign_25 rfl ?_
      refine va_get (D := G) (ci := 6) (C := RX6) (T := TX6) (N := 14) hx hb hts iX6 hown hkx.1 hP 0 rfl rfl 6 (by decide) k151 (fun _ h9 => h9) rfl dX6_sign_26 ?_
      refine lv_aload_n hx hb dX6_sign_29 rfl (lv_at hl 0 rfl) ?_
      refine va_get (D := G) (ci := 6) (C := RX6) (T := TX6) (N := 14) hx hb hts iX6 hown hkx.1 hP 0 rfl rfl 7 (by decide) k154 (fun _ h9 => h9) rfl dX6_sign_30 ?_
      refine lv_iconst (v := (-1)) hx hb dX6_sign_33 (by decide) ?_
      refine lv_icmp_ne (tgt := 41) hx hb dX6_sign_34 (by decide) (fun c_5 => ?_) (fun c_5 => ?_)
      · skip
        refine lv_iconst (v := 0) hx hb dX6_sign_41 (by decide) ?_
        refine lv_iadd hx hb dX6_sign_42 ?_
        rw [show ((nI qz) + 0) = (nI (qz + 0)) from nI_add qz 0]
        refine va_put (D := G) (ci := 6) (v := .int (nI (qz + 0))) (ty := .int) (C := RX6) (T := TX6) (N := 14) hx hb hts iX6 tyX6 tyX6_ok nmX6 hown hkx.1 hP hD hS 0 rfl rfl 6 (by decide) k151 (fun _ h9 => h9) rfl (by decide +kernel) rfl rfl (Nat.le_of_ble_eq_true rfl) dX6_sign_43 (fun H locs hP hD hS => ?_)
        have hP : va_P G vwCl (wMod T r mm pp xx th sv n1 (nI (qz + 0)) (nI qz) le v1 v2 v3 v4 v5) H := hP
        have hD : va_D A (wMod T r mm pp xx th sv n1 (nI (qz + 0)) (nI qz) le v1 v2 v3 v4 v5) := hD
        exact hret _ _ _ _ (show (none : Option Value) = none ∧ va_P G vwCl (wMod T r mm pp xx th sv n1 (nI (acO (pSg xx n1 sz (ppe qz)))) (eaO (pSg xx n1 sz (ppe qz))) le v1 v2 v3 v4 v5) H from ⟨rfl, (by rw [show pSg xx n1 sz (ppe qz) = per qz qz from if_neg (by assumption)]; exact hP)⟩) hS dX6_sign_46
      · skip
        exact absurd c_5 (nIm1 (by omega))

theorem mX6_sign (l : Launch) {G : va_G} {T : Nat → ClassId} {H0 : Heap} {r : Nat → Nat} {mm : Nat → Int32} {pp : Nat → Int32} {xx : Nat → Int32} {th : Int32} {sv : Nat} {n1 : Nat} {le : Int32} {v1 : Int32} {v2 : Int32} {v3 : Int32} {v4 : Int32} {v5 : Int32} {po : PO} {sz : Int32} (hP : va_P G vwCl (wMod T r mm pp xx th sv n1 (nI (acO po)) (eaO po) le v1 v2 v3 v4 v5) H0) (hD : va_D (fun _ => True) (wMod T r mm pp xx th sv n1 (nI (acO po)) (eaO po) le v1 v2 v3 v4 v5)) (hn1 : n1 ≤ 100) (ho : wfo n1 po) (hs : ¬ sz = -1) : mu l yX6_sign wsX6_sign 1 20 [.ref (r 0), .int sz] G T H0 (wMod T r mm pp xx th sv n1 (nI (acO po)) (eaO po) le v1 v2 v3 v4 v5) (fun v9 H9 => v9 = none ∧ va_P G vwCl (wMod T r mm pp xx th sv n1 (nI (acO (pSg xx n1 sz po))) (eaO (pSg xx n1 sz po)) le v1 v2 v3 v4 v5) H9) := by
  rcases po with ⟨p, ns⟩ | ⟨q, a⟩ | q
  · exact mX6_sign_ok l hP hD hn1 (show p ≤ n1 from ho)
  · exact mX6_sign_er l hP hD hn1 ho.1 ho.2
  · exact mX6_sign_pe l hP hD hn1 (show q ≤ n1 from ho)

theorem idX6_digit : yX6_digit.cls = RX6 ∧ yX6_digit.cls ≠ "java/lang/invoke/MethodHandle" ∧ yX6_digit.cls ≠ "java/lang/invoke/VarHandle" ∧ (parseMethodDescriptor yX6_digit.desc).map (fun d => d.parameters.length) = some 1 := by decide +kernel

set_option maxHeartbeats 4000000 in
set_option maxRecDepth 100000 in
theorem mX6_digit_ok (l : Launch) {G : va_G} {T : Nat → ClassId} {H0 : Heap} {r : Nat → Nat} {mm : Nat → Int32} {pp : Nat → Int32} {xx : Nat → Int32} {th : Int32} {sv : Nat} {n1 : Nat} {le : Int32} {v1 : Int32} {v2 : Int32} {v3 : Int32} {v4 : Int32} {v5 : Int32} {pz : Nat} {ns : List Int32} {g : Int32} (hP : va_P G vwCl (wMod T r mm pp xx th sv n1 (nI pz) (-1) le v1 v2 v3 v4 v5) H0) (hD : va_D (fun _ => True) (wMod T r mm pp xx th sv n1 (nI pz) (-1) le v1 v2 v3 v4 v5)) (hn1 : n1 ≤ 100) (hq : pz ≤ n1) : mu l yX6_digit wsX6_digit 1 22 [.ref (r 0), .int g] G T H0 (wMod T r mm pp xx th sv n1 (nI pz) (-1) le v1 v2 v3 v4 v5) (fun v9 H9 => v9 = some (.int (dgv xx n1 g (pok pz ns))) ∧ va_P G vwCl (wMod T r mm pp xx th sv n1 (nI (acO (pDg xx n1 g (pok pz ns)))) (eaO (pDg xx n1 g (pok pz ns))) le v1 v2 v3 v4 v5) H9) := by
  refine mu_ofi (cc := cX6_digit) (maxL := 3) (ret := .int) (own := RX6) (by decide +kernel) rfl rfl (Nat.le_of_ble_eq_true rfl) hD ?_
  intro p e s m below meth c Q ls A S hkx hl hD hS hA hret
  obtain ⟨hx, hb, hml, hown, hts⟩ := id S
  have hl : lv_has ls 3 [(0, .ref (r 0)), (1, .int g)] := hl
  have k154 := hts (.fieldLink RX6 154 "SunsetDatesModel" "errorAt" "I") (by decide +kernel)
  have iX6 : ∀ w ∈ wsX60, w ∈ wsX6_digit := by decide +kernel
  have k16 := hts (.fieldLink RX6 16 "SunsetDatesModel" "text" "[I") (by decide +kernel)
  have k151 := hts (.fieldLink RX6 151 "SunsetDatesModel" "at0" "I") (by decide +kernel)
  refine lv_aload_n hx hb dX6_digit_0 rfl (lv_at hl 0 rfl) ?_
  refine va_get (D := G) (ci := 6) (C := RX6) (T := TX6) (N := 14) hx hb hts iX6 hown hkx.1 hP 0 rfl rfl 7 (by decide) k154 (fun _ h9 => h9) rfl dX6_digit_1 ?_
  refine lv_iconst (v := (-1)) hx hb dX6_digit_4 (by decide) ?_
  refine lv_icmp_ne (tgt := 32) hx hb dX6_digit_5 (by decide) (fun c_1 => ?_) (fun c_1 => ?_)
  · skip
    exact absurd c_1 (by decide)
  · skip
    refine lv_aload_n hx hb dX6_digit_8 rfl (lv_at hl 0 rfl) ?_
    refine ro_V S hkx (mX6_here l (hP := hP) (hn1 := (by omega)) (hq := (by omega))) gX6_digit_X6_here rfl idX6_here ⟨Nat.le_of_ble_eq_true rfl, Nat.le_of_ble_eq_true rfl⟩ hP 0 rfl rfl rfl rfl hl.1 rfl (Nat.le_of_ble_eq_true rfl) dX6_digit_9 ⟨Nat.le_of_ble_eq_true rfl, Nat.le_of_ble_eq_true rfl⟩ (fun r_2 hr_2 => ?_)
    subst hr_2
    refine lv_bipush (v := 48) hx hb dX6_digit_12 (by decide) ?_
    refine lv_bipush (v := 48) hx hb dX6_digit_14 (by decide) ?_
    refine lv_iload_n hx hb dX6_digit_16 rfl (lv_at hl 1 rfl) ?_
    refine lv_iadd hx hb dX6_digit_17 ?_
    refine ro_S S hkx (mX6_in l (v := (chr xx n1 pz)) (x := 48) (z := (48 + g))) gX6_digit_X6_in rfl idX6_in.2 ⟨Nat.le_of_ble_eq_true rfl, Nat.le_of_ble_eq_true rfl⟩ rfl hl.1 rfl (Nat.le_of_ble_eq_true rfl) dX6_digit_18 ⟨Nat.le_of_ble_eq_true rfl, Nat.le_of_ble_eq_true rfl⟩ (fun r_3 hr_3 => ?_)
    subst hr_3
    refine lv_if_ne (tgt := 32) hx hb dX6_digit_21 (by decide) (fun c_4 => ?_) (fun c_4 => ?_)
    · replace c_4 := bI_n0 c_4
      try have hpl : pz < n1 := chr_lt (m := g) (by assumption)
      refine lv_aload_n hx hb dX6_digit_32 rfl (lv_at hl 0 rfl) ?_
      refine va_get (D := G) (ci := 6) (C := RX6) (T := TX6) (N := 14) hx hb hts iX6 hown hkx.1 hP 0 rfl rfl 7 (by decide) k154 (fun _ h9 => h9) rfl dX6_digit_33 ?_
      refine lv_iconst (v := (-1)) hx hb dX6_digit_36 (by decide) ?_
      refine lv_icmp_ne (tgt := 55) hx hb dX6_digit_37 (by decide) (fun c_5 => ?_) (fun c_5 => ?_)
      · skip
        exact absurd c_5 (by decide)
      · skip
        refine lv_aload_n hx hb dX6_digit_40 rfl (lv_at hl 0 rfl) ?_
        refine va_get (D := G) (ci := 6) (C := RX6) (T := TX6) (N := 14) hx hb hts iX6 hown hkx.1 hP 0 rfl rfl 4 (by decide) k16 (fun _ h9 => h9) rfl dX6_digit_41 ?_
        refine lv_aload_n hx hb dX6_digit_44 rfl (lv_at hl 0 rfl) ?_
        refine va_get (D := G) (ci := 6) (C := RX6) (T := TX6) (N := 14) hx hb hts iX6 hown hkx.1 hP 0 rfl rfl 6 (by decide) k151 (fun _ h9 => h9) rfl dX6_digit_45 ?_
        refine ia hx hb hkx hP 3 rfl pz rfl (by omega) (by decide) dX6_digit_48 ?_
        refine lv_bipush (v := 48) hx hb dX6_digit_49 (by decide) ?_
        refine lv_isub hx hb dX6_digit_51 ?_
        refine lv_goto (tgt := 56) hx hb dX6_digit_52 (by decide) ?_
        refine lv_istore_n (lv' := [(2, .int ((xx pz) - 48)), (0, .ref (r 0)), (1, .int g)]) hx hb dX6_digit_56 rfl hl (by decide) rfl (fun ls hl => ?_)
        refine lv_aload_n hx hb dX6_digit_57 rfl (lv_at hl 1 rfl) ?_
        refine lv_dup hx hb dX6_digit_58 rfl ?_
        refine va_get (D := G) (ci := 6) (C := RX6) (T := TX6) (N := 14) hx hb hts iX6 hown hkx.1 hP 0 rfl rfl 6 (by decide) k151 (fun _ h9 => h9) rfl dX6_digit_59 ?_
        refine lv_aload_n hx hb dX6_digit_62 rfl (lv_at hl 1 rfl) ?_
        refine va_get (D := G) (ci := 6) (C := RX6) (T := TX6) (N := 14) hx hb hts iX6 hown hkx.1 hP 0 rfl rfl 7 (by decide) k154 (fun _ h9 => h9) rfl dX6_digit_63 ?_
        refine lv_iconst (v := (-1)) hx hb dX6_digit_66 (by decide) ?_
        refine lv_icmp_ne (tgt := 74) hx hb dX6_digit_67 (by decide) (fun c_6 => ?_) (fun c_6 => ?_)
        · skip
          exact absurd c_6 (by decide)
        · skip
          refine lv_iconst (v := 1) hx hb dX6_digit_70 (by decide) ?_
          refine lv_goto (tgt := 75) hx hb dX6_digit_71 (by decide) ?_
          refine lv_iadd hx hb dX6_digit_75 ?_
          rw [show ((nI pz) + 1) = (nI (pz + 1)) from nI_add pz 1]
          refine va_put (D := G) (ci := 6) (v := .int (nI (pz + 1))) (ty := .int) (C := RX6) (T := TX6) (N := 14) hx hb hts iX6 tyX6 tyX6_ok nmX6 hown hkx.1 hP hD hS 0 rfl rfl 6 (by decide) k151 (fun _ h9 => h9) rfl (by decide +kernel) rfl rfl (Nat.le_of_ble_eq_true rfl) dX6_digit_76 (fun H locs hP hD hS => ?_)
          have hP : va_P G vwCl (wMod T r mm pp xx th sv n1 (nI (pz + 1)) (-1) le v1 v2 v3 v4 v5) H := hP
          have hD : va_D A (wMod T r mm pp xx th sv n1 (nI (pz + 1)) (-1) le v1 v2 v3 v4 v5) := hD
          refine lv_iload_n hx hb dX6_digit_79 rfl (lv_at hl 0 rfl) ?_
          exact hret _ _ _ _ _ (show some (Value.int ((xx pz) - 48)) = some (Value.int (dgv xx n1 g (pok pz ns))) ∧ va_P G vwCl (wMod T r mm pp xx th sv n1 (nI (acO (pDg xx n1 g (pok pz ns)))) (eaO (pDg xx n1 g (pok pz ns))) le v1 v2 v3 v4 v5) H from ⟨by refine congrArg (fun z => some (Value.int z)) (?_ : _ = _); exact (show dgv xx n1 g (pok pz ns) = xx pz - 48 from if_pos (by assumption)).symm, (by rw [show pDg xx n1 g (pok pz ns) = pok (pz + 1) (ns ++ [xx pz - 48]) from if_pos (by assumption)]; exact hP)⟩) rfl hS dX6_digit_80
    · replace c_4 := bI_e0 c_4
      refine lv_aload_n hx hb dX6_digit_24 rfl (lv_at hl 0 rfl) ?_
      refine lv_aload_n hx hb dX6_digit_25 rfl (lv_at hl 0 rfl) ?_
      refine va_get (D := G) (ci := 6) (C := RX6) (T := TX6) (N := 14) hx hb hts iX6 hown hkx.1 hP 0 rfl rfl 6 (by decide) k151 (fun _ h9 => h9) rfl dX6_digit_26 ?_
      refine va_put (D := G) (ci := 6) (v := .int (nI pz)) (ty := .int) (C := RX6) (T := TX6) (N := 14) hx hb hts iX6 tyX6 tyX6_ok nmX6 hown hkx.1 hP hD hS 0 rfl rfl 7 (by decide) k154 (fun _ h9 => h9) rfl (by decide +kernel) rfl rfl (Nat.le_of_ble_eq_true rfl) dX6_digit_29 (fun H locs hP hD hS => ?_)
      have hP : va_P G vwCl (wMod T r mm pp xx th sv n1 (nI pz) (nI pz) le v1 v2 v3 v4 v5) H := hP
      have hD : va_D A (wMod T r mm pp xx th sv n1 (nI pz) (nI pz) le v1 v2 v3 v4 v5) := hD
      try have hpl : pz < n1 := chr_lt (m := g) (by assumption)
      refine lv_aload_n hx hb dX6_digit_32 rfl (lv_at hl 0 rfl) ?_
      refine va_get (D := G) (ci := 6) (C := RX6) (T := TX6) (N := 14) hx hb hts iX6 hown hkx.1 hP 0 rfl rfl 7 (by decide) k154 (fun _ h9 => h9) rfl dX6_digit_33 ?_
      refine lv_iconst (v := (-1)) hx hb dX6_digit_36 (by decide) ?_
      refine lv_icmp_ne (tgt := 55) hx hb dX6_digit_37 (by decide) (fun c_7 => ?_) (fun c_7 => ?_)
      · skip
        refine lv_iconst (v := 0) hx hb dX6_digit_55 (by decide) ?_
        refine lv_istore_n (lv' := [(2, .int 0), (0, .ref (r 0)), (1, .int g)]) hx hb dX6_digit_56 rfl hl (by decide) rfl (fun ls hl => ?_)
        refine lv_aload_n hx hb dX6_digit_57 rfl (lv_at hl 1 rfl) ?_
        refine lv_dup hx hb dX6_digit_58 rfl ?_
        refine va_get (D := G) (ci := 6) (C := RX6) (T := TX6) (N := 14) hx hb hts iX6 hown hkx.1 hP 0 rfl rfl 6 (by decide) k151 (fun _ h9 => h9) rfl dX6_digit_59 ?_
        refine lv_aload_n hx hb dX6_digit_62 rfl (lv_at hl 1 rfl) ?_
        refine va_get (D := G) (ci := 6) (C := RX6) (T := TX6) (N := 14) hx hb hts iX6 hown hkx.1 hP 0 rfl rfl 7 (by decide) k154 (fun _ h9 => h9) rfl dX6_digit_63 ?_
        refine lv_iconst (v := (-1)) hx hb dX6_digit_66 (by decide) ?_
        refine lv_icmp_ne (tgt := 74) hx hb dX6_digit_67 (by decide) (fun c_8 => ?_) (fun c_8 => ?_)
        · skip
          refine lv_iconst (v := 0) hx hb dX6_digit_74 (by decide) ?_
          refine lv_iadd hx hb dX6_digit_75 ?_
          rw [show ((nI pz) + 0) = (nI (pz + 0)) from nI_add pz 0]
          refine va_put (D := G) (ci := 6) (v := .int (nI (pz + 0))) (ty := .int) (C := RX6) (T := TX6) (N := 14) hx hb hts iX6 tyX6 tyX6_ok nmX6 hown hkx.1 hP hD hS 0 rfl rfl 6 (by decide) k151 (fun _ h9 => h9) rfl (by decide +kernel) rfl rfl (Nat.le_of_ble_eq_true rfl) dX6_digit_76 (fun H locs hP hD hS => ?_)
          have hP : va_P G vwCl (wMod T r mm pp xx th sv n1 (nI (pz + 0)) (nI pz) le v1 v2 v3 v4 v5) H := hP
          have hD : va_D A (wMod T r mm pp xx th sv n1 (nI (pz + 0)) (nI pz) le v1 v2 v3 v4 v5) := hD
          refine lv_iload_n hx hb dX6_digit_79 rfl (lv_at hl 0 rfl) ?_
          exact hret _ _ _ _ _ (show some (Value.int 0) = some (Value.int (dgv xx n1 g (pok pz ns))) ∧ va_P G vwCl (wMod T r mm pp xx th sv n1 (nI (acO (pDg xx n1 g (pok pz ns)))) (eaO (pDg xx n1 g (pok pz ns))) le v1 v2 v3 v4 v5) H from ⟨by refine congrArg (fun z => some (Value.int z)) (?_ : _ = _); exact (show dgv xx n1 g (pok pz ns) = 0 from if_neg (Bool.eq_false_iff.mp (by assumption))).symm, (by rw [show pDg xx n1 g (pok pz ns) = per pz pz from if_neg (Bool.eq_false_iff.mp (by assumption))]; exact hP)⟩) rfl hS dX6_digit_80
        · skip
          exact absurd c_8 (nIm1 (by omega))
      · skip
        exact absurd c_7 (nIm1 (by omega))

set_option maxHeartbeats 4000000 in
set_option maxRecDepth 100000 in
theorem mX6_digit_er (l : Launch) {G : va_G} {T : Nat → ClassId} {H0 : Heap} {r : Nat → Nat} {mm : Nat → Int32} {pp : Nat → Int32} {xx : Nat → Int32} {th : Int32} {sv : Nat} {n1 : Nat} {le : Int32} {v1 : Int32} {v2 : Int32} {v3 : Int32} {v4 : Int32} {v5 : Int32} {qz : Nat} {az : Nat} {g : Int32} (hP : va_P G vwCl (wMod T r mm pp xx th sv n1 (nI az) (nI qz) le v1 v2 v3 v4 v5) H0) (hD : va_D (fun _ => True) (wMod T r mm pp xx th sv n1 (nI az) (nI qz) le v1 v2 v3 v4 v5)) (hn1 : n1 ≤ 100) (hq : qz ≤ n1) (ha : az ≤ n1) : mu l yX6_digit wsX6_digit 1 22 [.ref (r 0), .int g] G T H0 (wMod T r mm pp xx th sv n1 (nI az) (nI qz) le v1 v2 v3 v4 v5) (fun v9 H9 => v9 = some (.int (dgv xx n1 g (per qz az))) ∧ va_P G vwCl (wMod T r mm pp xx th sv n1 (nI (acO (pDg xx n1 g (per qz az)))) (eaO (pDg xx n1 g (per qz az))) le v1 v2 v3 v4 v5) H9) := by
  refine mu_ofi (cc := cX6_digit) (maxL := 3) (ret := .int) (own := RX6) (by decide +kernel) rfl rfl (Nat.le_of_ble_eq_true rfl) hD ?_
  intro p e s m below meth c Q ls A S hkx hl hD hS hA hret
  obtain ⟨hx, hb, hml, hown, hts⟩ := id S
  have hl : lv_has ls 3 [(0, .ref (r 0)), (1, .int g)] := hl
  have k154 := hts (.fieldLink RX6 154 "SunsetDatesModel" "errorAt" "I") (by decide +kernel)
  have iX6 : ∀ w ∈ wsX60, w ∈ wsX6_digit := by decide +kernel
  have k151 := hts (.fieldLink RX6 151 "SunsetDatesModel" "at0" "I") (by decide +kernel)
  refine lv_aload_n hx hb dX6_digit_0 rfl (lv_at hl 0 rfl) ?_
  refine va_get (D := G) (ci := 6) (C := RX6) (T := TX6) (N := 14) hx hb hts iX6 hown hkx.1 hP 0 rfl rfl 7 (by decide) k154 (fun _ h9 => h9) rfl dX6_digit_1 ?_
  refine lv_iconst (v := (-1)) hx hb dX6_digit_4 (by decide) ?_
  refine lv_icmp_ne (tgt := 32) hx hb dX6_digit_5 (by decide) (fun c_1 => ?_) (fun c_1 => ?_)
  · skip
    refine lv_aload_n hx hb dX6_digit_32 rfl (lv_at hl 0 rfl) ?_
    refine va_get (D := G) (ci := 6) (C := RX6) (T := TX6) (N := 14) hx hb hts iX6 hown hkx.1 hP 0 rfl rfl 7 (by decide) k154 (fun _ h9 => h9) rfl dX6_digit_33 ?_
    refine lv_iconst (v := (-1)) hx hb dX6_digit_36 (by decide) ?_
    refine lv_icmp_ne (tgt := 55) hx hb dX6_digit_37 (by decide) (fun c_2 => ?_) (fun c_2 => ?_)
    · skip
      refine lv_iconst (v := 0) hx hb dX6_digit_55 (by decide) ?_
      refine lv_istore_n (lv' := [(2, .int 0), (0, .ref (r 0)), (1, .int g)]) hx hb dX6_digit_56 rfl hl (by decide) rfl (fun ls hl => ?_)
      refine lv_aload_n hx hb dX6_digit_57 rfl (lv_at hl 1 rfl) ?_
      refine lv_dup hx hb dX6_digit_58 rfl ?_
      refine va_get (D := G) (ci := 6) (C := RX6) (T := TX6) (N := 14) hx hb hts iX6 hown hkx.1 hP 0 rfl rfl 6 (by decide) k151 (fun _ h9 => h9) rfl dX6_digit_59 ?_
      refine lv_aload_n hx hb dX6_digit_62 rfl (lv_at hl 1 rfl) ?_
      refine va_get (D := G) (ci := 6) (C := RX6) (T := TX6) (N := 14) hx hb hts iX6 hown hkx.1 hP 0 rfl rfl 7 (by decide) k154 (fun _ h9 => h9) rfl dX6_digit_63 ?_
      refine lv_iconst (v := (-1)) hx hb dX6_digit_66 (by decide) ?_
      refine lv_icmp_ne (tgt := 74) hx hb dX6_digit_67 (by decide) (fun c_3 => ?_) (fun c_3 => ?_)
      · skip
        refine lv_iconst (v := 0) hx hb dX6_digit_74 (by decide) ?_
        refine lv_iadd hx hb dX6_digit_75 ?_
        rw [show ((nI az) + 0) = (nI (az + 0)) from nI_add az 0]
        refine va_put (D := G) (ci := 6) (v := .int (nI (az + 0))) (ty := .int) (C := RX6) (T := TX6) (N := 14) hx hb hts iX6 tyX6 tyX6_ok nmX6 hown hkx.1 hP hD hS 0 rfl rfl 6 (by decide) k151 (fun _ h9 => h9) rfl (by decide +kernel) rfl rfl (Nat.le_of_ble_eq_true rfl) dX6_digit_76 (fun H locs hP hD hS => ?_)
        have hP : va_P G vwCl (wMod T r mm pp xx th sv n1 (nI (az + 0)) (nI qz) le v1 v2 v3 v4 v5) H := hP
        have hD : va_D A (wMod T r mm pp xx th sv n1 (nI (az + 0)) (nI qz) le v1 v2 v3 v4 v5) := hD
        refine lv_iload_n hx hb dX6_digit_79 rfl (lv_at hl 0 rfl) ?_
        exact hret _ _ _ _ _ (show some (Value.int 0) = some (Value.int (dgv xx n1 g (per qz az))) ∧ va_P G vwCl (wMod T r mm pp xx th sv n1 (nI (acO (pDg xx n1 g (per qz az)))) (eaO (pDg xx n1 g (per qz az))) le v1 v2 v3 v4 v5) H from ⟨rfl, hP⟩) rfl hS dX6_digit_80
      · skip
        exact absurd c_3 (nIm1 (by omega))
    · skip
      exact absurd c_2 (nIm1 (by omega))
  · skip
    exact absurd c_1 (nIm1 (by omega))

theorem mX6_digit (l : Launch) {G : va_G} {T : Nat → ClassId} {H0 : Heap} {r : Nat → Nat} {mm : Nat → Int32} {pp : Nat → Int32} {xx : Nat → Int32} {th : Int32} {sv : Nat} {n1 : Nat} {le : Int32} {v1 : Int32} {v2 : Int32} {v3 : Int32} {v4 : Int32} {v5 : Int32} {po : PO} {g : Int32} (hP : va_P G vwCl (wMod T r mm pp xx th sv n1 (nI (acO po)) (eaO po) le v1 v2 v3 v4 v5) H0) (hD : va_D (fun _ => True) (wMod T r mm pp xx th sv n1 (nI (acO po)) (eaO po) le v1 v2 v3 v4 v5)) (hn1 : n1 ≤ 100) (ho : wfo n1 po) (hnp : npe po) : mu l yX6_digit wsX6_digit 1 22 [.ref (r 0), .int g] G T H0 (wMod T r mm pp xx th sv n1 (nI (acO po)) (eaO po) le v1 v2 v3 v4 v5) (fun v9 H9 => v9 = some (.int (dgv xx n1 g po)) ∧ va_P G vwCl (wMod T r mm pp xx th sv n1 (nI (acO (pDg xx n1 g po))) (eaO (pDg xx n1 g po)) le v1 v2 v3 v4 v5) H9) := by
  rcases po with ⟨p, ns⟩ | ⟨q, a⟩ | q
  · exact mX6_digit_ok l hP hD hn1 (show p ≤ n1 from ho)
  · exact mX6_digit_er l hP hD hn1 ho.1 ho.2
  · exact absurd hnp id
