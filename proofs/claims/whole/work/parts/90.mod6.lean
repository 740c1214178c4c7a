theorem idX6_put : yX6_put.cls = RX6 ∧ yX6_put.cls ≠ "java/lang/invoke/MethodHandle" ∧ yX6_put.cls ≠ "java/lang/invoke/VarHandle" ∧ (parseMethodDescriptor yX6_put.desc).map (fun d => d.parameters.length) = some 3 := by decide +kernel

set_option maxHeartbeats 4000000 in
set_option maxRecDepth 100000 in
theorem mX6_put (l : Launch) {G : va_G} {T : Nat → ClassId} {H0 : Heap} {r : Nat → Nat} {N : Nat → Nat} {Z : Nat → Nat → Int32} {mm : Nat → Int32} {pp : Nat → Int32} {xx : Nat → Int32} {th : Int32} {sv : Nat} {n1 : Nat} {ac : Int32} {ea : Int32} {le : Int32} {v1 : Int32} {v2 : Int32} {v3 : Int32} {v4 : Int32} {v5 : Int32} {f : Int32} {v : Int32} {h : Bool} (hP : va_P G vwCl (wMod T r mm pp xx th sv n1 ac ea le v1 v2 v3 v4 v5) H0) (hD : va_D (fun _ => True) (wMod T r mm pp xx th sv n1 ac ea le v1 v2 v3 v4 v5)) (hwf : wf N Z) (hr : rel N Z mm) (hs4 : sv ≤ 4) : mu l yX6_put wsX6_put 2 43 [.ref (r 0), .int f, .int v, .int (bI h)] G T H0 (wMod T r mm pp xx th sv n1 ac ea le v1 v2 v3 v4 v5) (mPost G (sq (thF f (nI (N 1))) (sq (thF v (nI (N 0))) (poF (bI (decide (¬ cnt1 (Z 4 (tn v)) f = h)))))) (allW (va_up Z 4 (upd (Z 4) (tn v) (Z 4 (tn v) ^^^ ((1 : Int32) <<< (f &&& 31))))) f (N 0)) (wMod T r (mPu mm (tn f) (tn v) h) (svP sv pp mm) xx 0 (svC sv) n1 ac ea le v1 v2 v3 v4 v5) (wMod T r mm pp xx (cmB (sq (thF f (nI (N 1))) (sq (thF v (nI (N 0))) (poF (bI (decide (¬ cnt1 (Z 4 (tn v)) f = h))))))) sv n1 ac ea le v1 v2 v3 v4 v5)) := by
  refine mu_ofi (cc := cX6_put) (maxL := 5) (ret := .int) (own := RX6) (by decide +kernel) rfl rfl (Nat.le_of_ble_eq_true rfl) hD ?_
  intro p e s m below meth c Q ls A S hkx hl hD hS hA hret
  obtain ⟨hx, hb, hml, hown, hts⟩ := id S
  have hl : lv_has ls 5 [(0, .ref (r 0)), (1, .int f), (2, .int v), (3, .int (bI h))] := hl
  have k19 := hts (.fieldLink RX6 19 "SunsetDatesModel" "thrown" "I") (by decide +kernel)
  have iX6 : ∀ w ∈ wsX60, w ∈ wsX6_put := by decide +kernel
  have k7 := hts (.fieldLink RX6 7 "SunsetDatesModel" "now" "[I") (by decide +kernel)
  have hb2 := hwf.1
  obtain ⟨hr0, hr1, hr2, hr3, hrv, hrf, hru, hrs⟩ := id hr
  refine lv_aload_n hx hb dX6_put_0 rfl (lv_at hl 0 rfl) ?_
  refine lv_iconst (v := 0) hx hb dX6_put_1 (by decide) ?_
  refine va_put (D := G) (ci := 6) (v := .int 0) (ty := .int) (C := RX6) (T := TX6) (N := 14) hx hb hts iX6 tyX6 tyX6_ok nmX6 hown hkx.1 hP hD hS 0 rfl rfl 1 (by decide) k19 (fun _ h9 => h9) rfl (by decide +kernel) rfl rfl (Nat.le_of_ble_eq_true rfl) dX6_put_2 (fun H locs hP hD hS => ?_)
  have hP : va_P G vwCl (wMod T r mm pp xx 0 sv n1 ac ea le v1 v2 v3 v4 v5) H := hP
  have hD : va_D A (wMod T r mm pp xx 0 sv n1 ac ea le v1 v2 v3 v4 v5) := hD
  refine lv_aload_n hx hb dX6_put_5 rfl (lv_at hl 0 rfl) ?_
  refine lv_iload_n hx hb dX6_put_6 rfl (lv_at hl 1 rfl) ?_
  refine ro_V S hkx (mX6_isFeature l (v := f) (hP := hP) (hwf := hwf) (hr := hr)) gX6_put_X6_isFeature rfl idX6_isFeature ⟨Nat.le_of_ble_eq_true rfl, Nat.le_of_ble_eq_true rfl⟩ hP 0 rfl rfl rfl rfl hl.1 rfl (Nat.le_of_ble_eq_true rfl) dX6_put_7 ⟨Nat.le_of_ble_eq_true rfl, Nat.le_of_ble_eq_true rfl⟩ (fun r_1 hr_1 => ?_)
  subst hr_1
  refine lv_if_eq (tgt := 21) hx hb dX6_put_10 (by decide) (fun c_2 => ?_) (fun c_2 => ?_)
  · replace c_2 := bI_e0 c_2
    refine lv_aload_n hx hb dX6_put_21 rfl (lv_at hl 0 rfl) ?_
    refine lv_iconst (v := 1) hx hb dX6_put_22 (by decide) ?_
    refine mu_V S hkx (mX6_refused l (hP := hP) (hD := hD.weaken (fun _ _ _ _ => trivial)) (N := N) (Z := Z) (mm := mm) (pp := pp) (xx := xx) (th := 0) (sv := sv) (n1 := n1) (ac := ac) (ea := ea) (le := le) (v1 := v1) (v2 := v2) (v3 := v3) (v4 := v4) (v5 := v5) (x := 1)) gX6_put_X6_refused rfl idX6_refused ⟨Nat.le_of_ble_eq_true rfl, Nat.le_of_ble_eq_true rfl⟩ hP 0 rfl rfl rfl rfl hl.1 rfl (Nat.le_of_ble_eq_true rfl) dX6_put_23 ⟨Nat.le_refl _, Nat.le_refl _⟩ hS (fr_in hD (fun q h => hA q (Nat.le_trans hS.1 h))) (fun v H locs hp9 hz1 hk1 hS => ?_)
    obtain ⟨rfl, hP⟩ := hp9
    have hP : va_P G vwCl (wMod T r mm pp xx 1 sv n1 ac ea le v1 v2 v3 v4 v5) H := hP
    have hD : va_D A (wMod T r mm pp xx 1 sv n1 ac ea le v1 v2 v3 v4 v5) := fr_all hD rfl
    refine W.eq (g2 := F0 m 26 ls [.int 0]) rfl ?_
    exact hret _ _ _ _ _ (show mPost G (sq (thF f (nI (N 1))) (sq (thF v (nI (N 0))) (poF (bI (decide (¬ cnt1 (Z 4 (tn v)) f = h)))))) (allW (va_up Z 4 (upd (Z 4) (tn v) (Z 4 (tn v) ^^^ ((1 : Int32) <<< (f &&& 31))))) f (N 0)) (wMod T r (mPu mm (tn f) (tn v) h) (svP sv pp mm) xx 0 (svC sv) n1 ac ea le v1 v2 v3 v4 v5) (wMod T r mm pp xx (cmB (sq (thF f (nI (N 1))) (sq (thF v (nI (N 0))) (poF (bI (decide (¬ cnt1 (Z 4 (tn v)) f = h))))))) sv n1 ac ea le v1 v2 v3 v4 v5) (some (Value.int 0)) H from ⟨_, rfl, Or.inr ⟨by first | (simp only [ej2]; rw [cD]; simp [sq, thF, poF, bI, *]; done) | (simp [sq, thF, poF, bI, *]), by rw [show (cmB (sq (thF f (nI (N 1))) (sq (thF v (nI (N 0))) (poF (bI (decide (¬ cnt1 (Z 4 (tn v)) f = h))))))) = 1 by first | (simp only [ej2]; rw [cD]; simp [sq, thF, poF, bI, cmB, nIl1, *]; done) | (simp [sq, thF, poF, bI, cmB, nIl1, *])]; exact hP⟩⟩) rfl hS dX6_put_26
  · replace c_2 := bI_n0 c_2
    refine lv_aload_n hx hb dX6_put_13 rfl (lv_at hl 0 rfl) ?_
    refine lv_iload_n hx hb dX6_put_14 rfl (lv_at hl 2 rfl) ?_
    refine ro_V S hkx (mX6_isVersion l (v := v) (hP := hP) (hwf := hwf) (hr := hr)) gX6_put_X6_isVersion rfl idX6_isVersion ⟨Nat.le_of_ble_eq_true rfl, Nat.le_of_ble_eq_true rfl⟩ hP 0 rfl rfl rfl rfl hl.1 rfl (Nat.le_of_ble_eq_true rfl) dX6_put_15 ⟨Nat.le_of_ble_eq_true rfl, Nat.le_of_ble_eq_true rfl⟩ (fun r_3 hr_3 => ?_)
    subst hr_3
    refine lv_if_ne (tgt := 27) hx hb dX6_put_18 (by decide) (fun c_4 => ?_) (fun c_4 => ?_)
    · replace c_4 := bI_n0 c_4
      obtain ⟨j1, hj1, rfl⟩ := isT_nat (i := f) (n := N 1) (by omega) (by assumption)
      obtain ⟨j2, hj2, rfl⟩ := isT_nat (i := v) (n := N 0) (by omega) (by assumption)
      have ej1 : tn (nI j1) = j1 := nI_clamp (by omega)
      have ej2 : tn (nI j2) = j2 := nI_clamp (by omega)
      refine lv_bipush (v := 28) hx hb dX6_put_27 (by decide) ?_
      refine lv_iload_n hx hb dX6_put_29 rfl (lv_at hl 1 rfl) ?_
      refine lv_iadd hx hb dX6_put_30 ?_
      rw [show (28 + (nI j1)) = (nI (28 + j1)) from nI_add 28 j1]
      refine lv_istore (lv' := [(4, .int (nI (28 + j1))), (0, .ref (r 0)), (1, .int (nI j1)), (2, .int (nI j2)), (3, .int (bI h))]) hx hb dX6_put_31 hl (by decide) rfl (fun ls hl => ?_)
      refine lv_aload_n hx hb dX6_put_33 rfl (lv_at hl 1 rfl) ?_
      refine va_get (D := G) (ci := 6) (C := RX6) (T := TX6) (N := 14) hx hb hts iX6 hown hkx.1 hP 0 rfl rfl 0 (by decide) k7 (fun _ h9 => h9) rfl dX6_put_34 ?_
      refine lv_iload hx hb dX6_put_37 (lv_at hl 0 rfl) ?_
      refine ia hx hb hkx hP 1 rfl (28 + j1) rfl (by omega) (by decide) dX6_put_39 ?_
      refine lv_iload_n hx hb dX6_put_40 rfl (lv_at hl 3 rfl) ?_
      refine ro_S S hkx (mX6_has l (x := (mm (28 + j1))) (k := (nI j2))) gX6_put_X6_has rfl idX6_has.2 ⟨Nat.le_of_ble_eq_true rfl, Nat.le_of_ble_eq_true rfl⟩ rfl hl.1 rfl (Nat.le_of_ble_eq_true rfl) dX6_put_41 ⟨Nat.le_of_ble_eq_true rfl, Nat.le_of_ble_eq_true rfl⟩ (fun r_5 hr_5 => ?_)
      subst hr_5
      rw [rel_has hwf hr (show j1 < N 1 by omega) (show j2 < N 0 by omega)]
      refine lv_iload_n hx hb dX6_put_44 rfl (lv_at hl 4 rfl) ?_
      refine lv_icmp_ne (tgt := 54) hx hb dX6_put_45 (by decide) (fun c_6 => ?_) (fun c_6 => ?_)
      · skip
        have cD : decide (¬ cnt1 (Z 4 j2) (nI j1) = h) = true := decide_eq_true (fun z9 => c_6 (by rw [z9]))
        refine lv_aload_n hx hb dX6_put_54 rfl (lv_at hl 1 rfl) ?_
        refine mu_V S hkx (mX6_save l (hP := hP) (hD := hD.weaken (fun _ _ _ _ => trivial)) (N := N) (Z := Z) (mm := mm) (pp := pp) (xx := xx) (th := 0) (sv := sv) (n1 := n1) (ac := ac) (ea := ea) (le := le) (v1 := v1) (v2 := v2) (v3 := v3) (v4 := v4) (v5 := v5) (hs4 := (by omega))) gX6_put_X6_save rfl idX6_save ⟨Nat.le_of_ble_eq_true rfl, Nat.le_of_ble_eq_true rfl⟩ hP 0 rfl rfl rfl rfl hl.1 rfl (Nat.le_of_ble_eq_true rfl) dX6_put_55 ⟨Nat.le_refl _, Nat.le_refl _⟩ hS (fr_in hD (fun q h => hA q (Nat.le_trans hS.1 h))) (fun v H locs hp9 hz1 hk1 hS => ?_)
        obtain ⟨rfl, hP⟩ := hp9
        have hP : va_P G vwCl (wMod T r mm (svP sv pp mm) xx 0 (svC sv) n1 ac ea le v1 v2 v3 v4 v5) H := hP
        have hD : va_D A (wMod T r mm (svP sv pp mm) xx 0 (svC sv) n1 ac ea le v1 v2 v3 v4 v5) := fr_all hD rfl
        refine W.eq (g2 := F0 m 58 ls []) rfl ?_
        refine lv_aload_n hx hb dX6_put_58 rfl (lv_at hl 1 rfl) ?_
        refine va_get (D := G) (ci := 6) (C := RX6) (T := TX6) (N := 14) hx hb hts iX6 hown hkx.1 hP 0 rfl rfl 0 (by decide) k7 (fun _ h9 => h9) rfl dX6_put_59 ?_
        refine lv_iload hx hb dX6_put_62 (lv_at hl 0 rfl) ?_
        refine lv_iload_n hx hb dX6_put_64 rfl (lv_at hl 4 rfl) ?_
        refine lv_if_eq (tgt := 82) hx hb dX6_put_65 (by decide) (fun c_7 => ?_) (fun c_7 => ?_)
        · replace c_7 := bI_e0 c_7
          refine lv_aload_n hx hb dX6_put_82 rfl (lv_at hl 1 rfl) ?_
          refine va_get (D := G) (ci := 6) (C := RX6) (T := TX6) (N := 14) hx hb hts iX6 hown hkx.1 hP 0 rfl rfl 0 (by decide) k7 (fun _ h9 => h9) rfl dX6_put_83 ?_
          refine lv_iload hx hb dX6_put_86 (lv_at hl 0 rfl) ?_
          refine ia hx hb hkx hP 1 rfl (28 + j1) rfl (by omega) (by decide) dX6_put_88 ?_
          refine lv_iconst (v := 1) hx hb dX6_put_89 (by decide) ?_
          refine lv_iload_n hx hb dX6_put_90 rfl (lv_at hl 3 rfl) ?_
          refine lv_ishl hx hb dX6_put_91 ?_
          refine lv_iconst (v := (-1)) hx hb dX6_put_92 (by decide) ?_
          refine lv_ixor hx hb dX6_put_93 ?_
          refine lv_iand hx hb dX6_put_94 ?_
          refine ist hx hb hkx hP hD hS 1 rfl (28 + j1) rfl (by omega) (by decide) dX6_put_95 (fun H locs hP hD hS => ?_)
          have hP : va_P G vwCl (wMod T r (upd mm (28 + j1) ((mm (28 + j1)) &&& ((1 <<< ((nI j2) &&& 31)) ^^^ (-1)))) (svP sv pp mm) xx 0 (svC sv) n1 ac ea le v1 v2 v3 v4 v5) H := hP
          have hD : va_D A (wMod T r (upd mm (28 + j1) ((mm (28 + j1)) &&& ((1 <<< ((nI j2) &&& 31)) ^^^ (-1)))) (svP sv pp mm) xx 0 (svC sv) n1 ac ea le v1 v2 v3 v4 v5) := hD
          refine lv_aload_n hx hb dX6_put_96 rfl (lv_at hl 1 rfl) ?_
          refine va_get (D := G) (ci := 6) (C := RX6) (T := TX6) (N := 14) hx hb hts iX6 hown hkx.1 hP 0 rfl rfl 0 (by decide) k7 (fun _ h9 => h9) rfl dX6_put_97 ?_
          refine lv_iload hx hb dX6_put_100 (lv_at hl 0 rfl) ?_
          refine ia hx hb hkx hP 1 rfl (28 + j1) rfl (by omega) (by decide) dX6_put_102 ?_
          rw [pk_us]
          exact hret _ _ _ _ _ (show mPost G (sq (thF (nI j1) (nI (N 1))) (sq (thF (nI j2) (nI (N 0))) (poF (bI (decide (¬ cnt1 (Z 4 (tn (nI j2))) (nI j1) = h)))))) (allW (va_up Z 4 (upd (Z 4) (tn (nI j2)) (Z 4 (tn (nI j2)) ^^^ ((1 : Int32) <<< ((nI j1) &&& 31))))) (nI j1) (N 0)) (wMod T r (mPu mm (tn (nI j1)) (tn (nI j2)) h) (svP sv pp mm) xx 0 (svC sv) n1 ac ea le v1 v2 v3 v4 v5) (wMod T r mm pp xx (cmB (sq (thF (nI j1) (nI (N 1))) (sq (thF (nI j2) (nI (N 0))) (poF (bI (decide (¬ cnt1 (Z 4 (tn (nI j2))) (nI j1) = h))))))) sv n1 ac ea le v1 v2 v3 v4 v5) (some (Value.int ((mm (28 + j1)) &&& ((1 <<< ((nI j2) &&& 31)) ^^^ (-1))))) H from ⟨_, rfl, Or.inl ⟨by simp only [ej2]; rw [cD]; simp [sq, thF, poF, bI, *], by simp only [ej2]; refine Eq.trans ?_ ((rel_pu hwf hr hj1 hj2 (h := h) (of_decide_eq_true cD)).2.2.2.2.2.1 j1 hj1); unfold mPu; rw [pk_us]; rw [if_neg (Bool.eq_false_iff.mp (show h = false by assumption))], by simp only [ej1, ej2, mPu]; rw [if_neg (Bool.eq_false_iff.mp (show h = false by assumption))]; exact hP⟩⟩) rfl hS dX6_put_103
        · replace c_7 := bI_n0 c_7
          refine lv_aload_n hx hb dX6_put_68 rfl (lv_at hl 1 rfl) ?_
          refine va_get (D := G) (ci := 6) (C := RX6) (T := TX6) (N := 14) hx hb hts iX6 hown hkx.1 hP 0 rfl rfl 0 (by decide) k7 (fun _ h9 => h9) rfl dX6_put_69 ?_
          refine lv_iload hx hb dX6_put_72 (lv_at hl 0 rfl) ?_
          refine ia hx hb hkx hP 1 rfl (28 + j1) rfl (by omega) (by decide) dX6_put_74 ?_
          refine lv_iconst (v := 1) hx hb dX6_put_75 (by decide) ?_
          refine lv_iload_n hx hb dX6_put_76 rfl (lv_at hl 3 rfl) ?_
          refine lv_ishl hx hb dX6_put_77 ?_
          refine lv_ior hx hb dX6_put_78 ?_
          refine lv_goto (tgt := 95) hx hb dX6_put_79 (by decide) ?_
          refine ist hx hb hkx hP hD hS 1 rfl (28 + j1) rfl (by omega) (by decide) dX6_put_95 (fun H locs hP hD hS => ?_)
          have hP : va_P G vwCl (wMod T r (upd mm (28 + j1) ((mm (28 + j1)) ||| (1 <<< ((nI j2) &&& 31)))) (svP sv pp mm) xx 0 (svC sv) n1 ac ea le v1 v2 v3 v4 v5) H := hP
          have hD : va_D A (wMod T r (upd mm (28 + j1) ((mm (28 + j1)) ||| (1 <<< ((nI j2) &&& 31)))) (svP sv pp mm) xx 0 (svC sv) n1 ac ea le v1 v2 v3 v4 v5) := hD
          refine lv_aload_n hx hb dX6_put_96 rfl (lv_at hl 1 rfl) ?_
          refine va_get (D := G) (ci := 6) (C := RX6) (T := TX6) (N := 14) hx hb hts iX6 hown hkx.1 hP 0 rfl rfl 0 (by decide) k7 (fun _ h9 => h9) rfl dX6_put_97 ?_
          refine lv_iload hx hb dX6_put_100 (lv_at hl 0 rfl) ?_
          refine ia hx hb hkx hP 1 rfl (28 + j1) rfl (by omega) (by decide) dX6_put_102 ?_
          rw [pk_us]
          exact hret _ _ _ _ _ (show mPost G (sq (thF (nI j1) (nI (N 1))) (sq (thF (nI j2) (nI (N 0))) (poF (bI (decide (¬ cnt1 (Z 4 (tn (nI j2))) (nI j1) = h)))))) (allW (va_up Z 4 (upd (Z 4) (tn (nI j2)) (Z 4 (tn (nI j2)) ^^^ ((1 : Int32) <<< ((nI j1) &&& 31))))) (nI j1) (N 0)) (wMod T r (mPu mm (tn (nI j1)) (tn (nI j2)) h) (svP sv pp mm) xx 0 (svC sv) n1 ac ea le v1 v2 v3 v4 v5) (wMod T r mm pp xx (cmB (sq (thF (nI j1) (nI (N 1))) (sq (thF (nI j2) (nI (N 0))) (poF (bI (decide (¬ cnt1 (Z 4 (tn (nI j2))) (nI j1) = h))))))) sv n1 ac ea le v1 v2 v3 v4 v5) (some (Value.int ((mm (28 + j1)) ||| (1 <<< ((nI j2) &&& 31))))) H from ⟨_, rfl, Or.inl ⟨by simp only [ej2]; rw [cD]; simp [sq, thF, poF, bI, *], by simp only [ej2]; refine Eq.trans ?_ ((rel_pu hwf hr hj1 hj2 (h := h) (of_decide_eq_true cD)).2.2.2.2.2.1 j1 hj1); unfold mPu; rw [pk_us]; rw [if_pos (show h = true by assumption)], by simp only [ej1, ej2, mPu]; rw [if_pos (show h = true by assumption)]; exact hP⟩⟩) rfl hS dX6_put_103
      · skip
        have cD : decide (¬ cnt1 (Z 4 j2) (nI j1) = h) = false := decide_eq_false (not_not_intro (bI_inj c_6))
        refine lv_aload_n hx hb dX6_put_48 rfl (lv_at hl 1 rfl) ?_
        refine lv_iconst (v := 2) hx hb dX6_put_49 (by decide) ?_
        refine mu_V S hkx (mX6_refused l (hP := hP) (hD := hD.weaken (fun _ _ _ _ => trivial)) (N := N) (Z := Z) (mm := mm) (pp := pp) (xx := xx) (th := 0) (sv := sv) (n1 := n1) (ac := ac) (ea := ea) (le := le) (v1 := v1) (v2 := v2) (v3 := v3) (v4 := v4) (v5 := v5) (x := 2)) gX6_put_X6_refused rfl idX6_refused ⟨Nat.le_of_ble_eq_true rfl, Nat.le_of_ble_eq_true rfl⟩ hP 0 rfl rfl rfl rfl hl.1 rfl (Nat.le_of_ble_eq_true rfl) dX6_put_50 ⟨Nat.le_refl _, Nat.le_refl _⟩ hS (fr_in hD (fun q h => hA q (Nat.le_trans hS.1 h))) (fun v H locs hp9 hz1 hk1 hS => ?_)
        obtain ⟨rfl, hP⟩ := hp9
        have hP : va_P G vwCl (wMod T r mm pp xx 2 sv n1 ac ea le v1 v2 v3 v4 v5) H := hP
        have hD : va_D A (wMod T r mm pp xx 2 sv n1 ac ea le v1 v2 v3 v4 v5) := fr_all hD rfl
        refine W.eq (g2 := F0 m 53 ls [.int 0]) rfl ?_
        exact hret _ _ _ _ _ (show mPost G (sq (thF (nI j1) (nI (N 1))) (sq (thF (nI j2) (nI (N 0))) (poF (bI (decide (¬ cnt1 (Z 4 (tn (nI j2))) (nI j1) = h)))))) (allW (va_up Z 4 (upd (Z 4) (tn (nI j2)) (Z 4 (tn (nI j2)) ^^^ ((1 : Int32) <<< ((nI j1) &&& 31))))) (nI j1) (N 0)) (wMod T r (mPu mm (tn (nI j1)) (tn (nI j2)) h) (svP sv pp mm) xx 0 (svC sv) n1 ac ea le v1 v2 v3 v4 v5) (wMod T r mm pp xx (cmB (sq (thF (nI j1) (nI (N 1))) (sq (thF (nI j2) (nI (N 0))) (poF (bI (decide (¬ cnt1 (Z 4 (tn (nI j2))) (nI j1) = h))))))) sv n1 ac ea le v1 v2 v3 v4 v5) (some (Value.int 0)) H from ⟨_, rfl, Or.inr ⟨by first | (simp only [ej2]; rw [cD]; simp [sq, thF, poF, bI, *]; done) | (simp [sq, thF, poF, bI, *]), by rw [show (cmB (sq (thF (nI j1) (nI (N 1))) (sq (thF (nI j2) (nI (N 0))) (poF (bI (decide (¬ cnt1 (Z 4 (tn (nI j2))) (nI j1) = h))))))) = 2 by first | (simp only [ej2]; rw [cD]; simp [sq, thF, poF, bI, cmB, nIl1, *]; done) | (simp [sq, thF, poF, bI, cmB, nIl1, *])]; exact hP⟩⟩) rfl hS dX6_put_53
    · replace c_4 := bI_e0 c_4
      refine lv_aload_n hx hb dX6_put_21 rfl (lv_at hl 0 rfl) ?_
      refine lv_iconst (v := 1) hx hb dX6_put_22 (by decide) ?_
      refine mu_V S hkx (mX6_refused l (hP := hP) (hD := hD.weaken (fun _ _ _ _ => trivial)) (N := N) (Z := Z) (mm := mm) (pp := pp) (xx := xx) (th := 0) (sv := sv) (n1 := n1) (ac := ac) (ea := ea) (le := le) (v1 := v1) (v2 := v2) (v3 := v3) (v4 := v4) (v5 := v5) (x := 1)) gX6_put_X6_refused rfl idX6_refused ⟨Nat.le_of_ble_eq_true rfl, Nat.le_of_ble_eq_true rfl⟩ hP 0 rfl rfl rfl rfl hl.1 rfl (Nat.le_of_ble_eq_true rfl) dX6_put_23 ⟨Nat.le_refl _, Nat.le_refl _⟩ hS (fr_in hD (fun q h => hA q (Nat.le_trans hS.1 h))) (fun v H locs hp9 hz1 hk1 hS => ?_)
      obtain ⟨rfl, hP⟩ := hp9
      have hP : va_P G vwCl (wMod T r mm pp xx 1 sv n1 ac ea le v1 v2 v3 v4 v5) H := hP
      have hD : va_D A (wMod T r mm pp xx 1 sv n1 ac ea le v1 v2 v3 v4 v5) := fr_all hD rfl
      refine W.eq (g2 := F0 m 26 ls [.int 0]) rfl ?_
      exact hret _ _ _ _ _ (show mPost G (sq (thF f (nI (N 1))) (sq (thF v (nI (N 0))) (poF (bI (decide (¬ cnt1 (Z 4 (tn v)) f = h)))))) (allW (va_up Z 4 (upd (Z 4) (tn v) (Z 4 (tn v) ^^^ ((1 : Int32) <<< (f &&& 31))))) f (N 0)) (wMod T r (mPu mm (tn f) (tn v) h) (svP sv pp mm) xx 0 (svC sv) n1 ac ea le v1 v2 v3 v4 v5) (wMod T r mm pp xx (cmB (sq (thF f (nI (N 1))) (sq (thF v (nI (N 0))) (poF (bI (decide (¬ cnt1 (Z 4 (tn v)) f = h))))))) sv n1 ac ea le v1 v2 v3 v4 v5) (some (Value.int 0)) H from ⟨_, rfl, Or.inr ⟨by first | (simp only [ej2]; rw [cD]; simp [sq, thF, poF, bI, *]; done) | (simp [sq, thF, poF, bI, *]), by rw [show (cmB (sq (thF f (nI (N 1))) (sq (thF v (nI (N 0))) (poF (bI (decide (¬ cnt1 (Z 4 (tn v)) f = h))))))) = 1 by first | (simp only [ej2]; rw [cD]; simp [sq, thF, poF, bI, cmB, nIl1, *]; done) | (simp [sq, thF, poF, bI, cmB, nIl1, *])]; exact hP⟩⟩) rfl hS dX6_put_26
