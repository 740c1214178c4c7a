theorem idX6_latestMove : yX6_latestMove.cls = RX6 ∧ yX6_latestMove.cls ≠ "java/lang/invoke/MethodHandle" ∧ yX6_latestMove.cls ≠ "java/lang/invoke/VarHandle" ∧ (parseMethodDescriptor yX6_latestMove.desc).map (fun d => d.parameters.length) = some 3 := by decide +kernel

set_option maxHeartbeats 4000000 in
set_option maxRecDepth 100000 in
theorem mX6_latestMove (l : Launch) {G : va_G} {T : Nat → ClassId} {H0 : Heap} {r : Nat → Nat} {N : Nat → Nat} {Z : Nat → Nat → Int32} {mm : Nat → Int32} {pp : Nat → Int32} {xx : Nat → Int32} {th : Int32} {sv : Nat} {n1 : Nat} {ac : Int32} {ea : Int32} {le : Int32} {v1 : Int32} {v2 : Int32} {v3 : Int32} {v4 : Int32} {v5 : Int32} {u : Int32} {v : Int32} {d : Int32} (hP : va_P G vwCl (wMod T r mm pp xx th sv n1 ac ea le v1 v2 v3 v4 v5) H0) (hD : va_D (fun _ => True) (wMod T r mm pp xx th sv n1 ac ea le v1 v2 v3 v4 v5)) (hwf : wf N Z) (hr : rel N Z mm) : mu l yX6_latestMove wsX6_latestMove 4 96 [.ref (r 0), .int u, .int v, .int d] G T H0 (wMod T r mm pp xx th sv n1 ac ea le v1 v2 v3 v4 v5) (mPost G (sq (thF u (nI (N 2))) (sq (thF v (nI (N 0))) (dyF d))) (ltP N Z (tn u) (tn v) (tn d)) (wMod T r mm pp xx 0 sv n1 ac ea le v1 v2 v3 v4 v5) (wMod T r mm pp xx (cmI (sq (thF u (nI (N 2))) (sq (thF v (nI (N 0))) (dyF d)))) sv n1 ac ea le v1 v2 v3 v4 v5)) := by
  refine mu_ofi (cc := cX6_latestMove) (maxL := 7) (ret := .int) (own := RX6) (by decide +kernel) rfl rfl (Nat.le_of_ble_eq_true rfl) hD ?_
  intro p e s m below meth c Q ls A S hkx hl hD hS hA hret
  obtain ⟨hx, hb, hml, hown, hts⟩ := id S
  have hl : lv_has ls 7 [(0, .ref (r 0)), (1, .int u), (2, .int v), (3, .int d)] := hl
  have k19 := hts (.fieldLink RX6 19 "SunsetDatesModel" "thrown" "I") (by decide +kernel)
  have iX6 : ∀ w ∈ wsX60, w ∈ wsX6_latestMove := by decide +kernel
  have hb2 := hwf.1
  obtain ⟨hr0, hr1, hr2, hr3, hrv, hrf, hru, hrs⟩ := id hr
  refine lv_aload_n hx hb dX6_latestMove_0 rfl (lv_at hl 0 rfl) ?_
  refine lv_aload_n hx hb dX6_latestMove_1 rfl (lv_at hl 0 rfl) ?_
  refine lv_iload_n hx hb dX6_latestMove_2 rfl (lv_at hl 1 rfl) ?_
  refine ro_V S hkx (mX6_isUser l (v := u) (hP := hP) (hwf := hwf) (hr := hr)) gX6_latestMove_X6_isUser rfl idX6_isUser ⟨Nat.le_of_ble_eq_true rfl, Nat.le_of_ble_eq_true rfl⟩ hP 0 rfl rfl rfl rfl hl.1 rfl (Nat.le_of_ble_eq_true rfl) dX6_latestMove_3 ⟨Nat.le_of_ble_eq_true rfl, Nat.le_of_ble_eq_true rfl⟩ (fun r_1 hr_1 => ?_)
  subst hr_1
  refine lv_if_eq (tgt := 17) hx hb dX6_latestMove_6 (by decide) (fun c_2 => ?_) (fun c_2 => ?_)
  · replace c_2 := bI_e0 c_2
    refine lv_iconst (v := 1) hx hb dX6_latestMove_17 (by decide) ?_
    refine lv_goto (tgt := 33) hx hb dX6_latestMove_18 (by decide) ?_
    refine va_put (D := G) (ci := 6) (v := .int 1) (ty := .int) (C := RX6) (T := TX6) (N := 14) hx hb hts iX6 tyX6 tyX6_ok nmX6 hown hkx.1 hP hD hS 0 rfl rfl 1 (by decide) k19 (fun _ h9 => h9) rfl (by decide +kernel) rfl rfl (Nat.le_of_ble_eq_true rfl) dX6_latestMove_33 (fun H locs hP hD hS => ?_)
    have hP : va_P G vwCl (wMod T r mm pp xx 1 sv n1 ac ea le v1 v2 v3 v4 v5) H := hP
    have hD : va_D A (wMod T r mm pp xx 1 sv n1 ac ea le v1 v2 v3 v4 v5) := hD
    refine lv_aload_n hx hb dX6_latestMove_36 rfl (lv_at hl 0 rfl) ?_
    refine va_get (D := G) (ci := 6) (C := RX6) (T := TX6) (N := 14) hx hb hts iX6 hown hkx.1 hP 0 rfl rfl 1 (by decide) k19 (fun _ h9 => h9) rfl dX6_latestMove_37 ?_
    refine lv_if_le (tgt := 45) hx hb dX6_latestMove_40 (by decide) (fun c_3 => ?_) (fun c_3 => ?_)
    · replace c_3 := cn_le (a := 1) (b := 0) (by omega) (by omega) c_3
      exact absurd c_3 (by decide)
    · replace c_3 := cn_nle (a := 1) (b := 0) (by omega) (by omega) c_3
      refine lv_iconst (v := 0) hx hb dX6_latestMove_43 (by decide) ?_
      exact hret _ _ _ _ _ (show mPost G (sq (thF u (nI (N 2))) (sq (thF v (nI (N 0))) (dyF d))) (ltP N Z (tn u) (tn v) (tn d)) (wMod T r mm pp xx 0 sv n1 ac ea le v1 v2 v3 v4 v5) (wMod T r mm pp xx (cmI (sq (thF u (nI (N 2))) (sq (thF v (nI (N 0))) (dyF d)))) sv n1 ac ea le v1 v2 v3 v4 v5) (some (Value.int 0)) H from ⟨_, rfl, Or.inr ⟨by simp [sq, thF, wiF, seF, dyF, poF, rfF, bI, *], by rw [show (cmI (sq (thF u (nI (N 2))) (sq (thF v (nI (N 0))) (dyF d)))) = 1 by simp [sq, thF, wiF, seF, dyF, poF, rfF, bI, cmI, cmA, cmB, cmS, nIl1, nIl2, nIl3, *]]; exact hP⟩⟩) rfl hS dX6_latestMove_44
  · replace c_2 := bI_n0 c_2
    refine lv_aload_n hx hb dX6_latestMove_9 rfl (lv_at hl 0 rfl) ?_
    refine lv_iload_n hx hb dX6_latestMove_10 rfl (lv_at hl 2 rfl) ?_
    refine ro_V S hkx (mX6_isVersion l (v := v) (hP := hP) (hwf := hwf) (hr := hr)) gX6_latestMove_X6_isVersion rfl idX6_isVersion ⟨Nat.le_of_ble_eq_true rfl, Nat.le_of_ble_eq_true rfl⟩ hP 0 rfl rfl rfl rfl hl.1 rfl (Nat.le_of_ble_eq_true rfl) dX6_latestMove_11 ⟨Nat.le_of_ble_eq_true rfl, Nat.le_of_ble_eq_true rfl⟩ (fun r_4 hr_4 => ?_)
    subst hr_4
    refine lv_if_ne (tgt := 21) hx hb dX6_latestMove_14 (by decide) (fun c_5 => ?_) (fun c_5 => ?_)
    · replace c_5 := bI_n0 c_5
      refine lv_iload_n hx hb dX6_latestMove_21 rfl (lv_at hl 3 rfl) ?_
      refine ro_S S hkx (mX6_isDay l (d := d)) gX6_latestMove_X6_isDay rfl idX6_isDay.2 ⟨Nat.le_of_ble_eq_true rfl, Nat.le_of_ble_eq_true rfl⟩ rfl hl.1 rfl (Nat.le_of_ble_eq_true rfl) dX6_latestMove_22 ⟨Nat.le_of_ble_eq_true rfl, Nat.le_of_ble_eq_true rfl⟩ (fun r_6 hr_6 => ?_)
      subst hr_6
      refine lv_if_ne (tgt := 32) hx hb dX6_latestMove_25 (by decide) (fun c_7 => ?_) (fun c_7 => ?_)
      · replace c_7 := bI_n0 c_7
        obtain ⟨k1, hk1, rfl⟩ := isT_nat (i := u) (n := N 2) (by omega) (by assumption)
        obtain ⟨k3, hk3, rfl⟩ := isT_nat (i := v) (n := N 0) (by omega) (by assumption)
        obtain ⟨k2, hk2a, hk2, rfl⟩ := isW_nat (v := d) (a := 0) (b := 999) (by assumption)
        have ek1 : tn (nI k1) = k1 := nI_clamp (by omega)
        have ek3 : tn (nI k3) = k3 := nI_clamp (by omega)
        have ek2 : tn (nI k2) = k2 := nI_clamp (by omega)
        refine lv_iconst (v := 0) hx hb dX6_latestMove_32 (by decide) ?_
        refine va_put (D := G) (ci := 6) (v := .int 0) (ty := .int) (C := RX6) (T := TX6) (N := 14) hx hb hts iX6 tyX6 tyX6_ok nmX6 hown hkx.1 hP hD hS 0 rfl rfl 1 (by decide) k19 (fun _ h9 => h9) rfl (by decide +kernel) rfl rfl (Nat.le_of_ble_eq_true rfl) dX6_latestMove_33 (fun H locs hP hD hS => ?_)
        have hP : va_P G vwCl (wMod T r mm pp xx 0 sv n1 ac ea le v1 v2 v3 v4 v5) H := hP
        have hD : va_D A (wMod T r mm pp xx 0 sv n1 ac ea le v1 v2 v3 v4 v5) := hD
        refine lv_aload_n hx hb dX6_latestMove_36 rfl (lv_at hl 0 rfl) ?_
        refine va_get (D := G) (ci := 6) (C := RX6) (T := TX6) (N := 14) hx hb hts iX6 hown hkx.1 hP 0 rfl rfl 1 (by decide) k19 (fun _ h9 => h9) rfl dX6_latestMove_37 ?_
        refine lv_if_le (tgt := 45) hx hb dX6_latestMove_40 (by decide) (fun c_8 => ?_) (fun c_8 => ?_)
        · replace c_8 := cn_le (a := 0) (b := 0) (by omega) (by omega) c_8
          refine lv_aload_n hx hb dX6_latestMove_45 rfl (lv_at hl 0 rfl) ?_
          refine lv_iload_n hx hb dX6_latestMove_46 rfl (lv_at hl 1 rfl) ?_
          refine lv_iconst (v := 0) hx hb dX6_latestMove_47 (by decide) ?_
          refine ro_V S hkx (mX6_ofUser l (u := k1) (w := 0) (hP := hP) (hwf := hwf) (hr := hr) (hu := (by omega)) (hw := (by omega))) gX6_latestMove_X6_ofUser rfl idX6_ofUser ⟨Nat.le_of_ble_eq_true rfl, Nat.le_of_ble_eq_true rfl⟩ hP 0 rfl rfl rfl rfl hl.1 rfl (Nat.le_of_ble_eq_true rfl) dX6_latestMove_48 ⟨Nat.le_of_ble_eq_true rfl, Nat.le_of_ble_eq_true rfl⟩ (fun r_9 hr_9 => ?_)
          subst hr_9
          skip
          rw [(fv_spec hwf hk1).1]
          have hfv := (fv_spec hwf hk1).2
          refine lv_istore (lv' := [(4, .int (nI (fvN Z k1))), (0, .ref (r 0)), (1, .int (nI k1)), (2, .int (nI k3)), (3, .int (nI k2))]) hx hb dX6_latestMove_51 hl (by decide) rfl (fun ls hl => ?_)
          refine lv_iload_n hx hb dX6_latestMove_53 rfl (lv_at hl 4 rfl) ?_
          refine lv_istore (lv' := [(5, .int (nI k2)), (4, .int (nI (fvN Z k1))), (0, .ref (r 0)), (1, .int (nI k1)), (2, .int (nI k3)), (3, .int (nI k2))]) hx hb dX6_latestMove_54 hl (by decide) rfl (fun ls hl => ?_)
          have L56 : ∀ (fuel : Nat) (k : Nat), 1000 - k < fuel → k2 ≤ k → k ≤ 999 → fstD (unB N Z (Z 6 k1) (fvN Z k1)) k2 (1000 - k2) = fstD (unB N Z (Z 6 k1) (fvN Z k1)) k (1000 - k) → ∀ (H : Heap) (locs : List Loc), va_P G vwCl (wMod T r mm pp xx 0 sv n1 ac ea le v1 v2 v3 v4 v5) H → va_D A (wMod T r mm pp xx 0 sv n1 ac ea le v1 v2 v3 v4 v5) → va_S A H0 H locs → ∀ ls : Array Slot, lv_has ls 7 [(0, .ref (r 0)), (1, .int (nI k1)), (2, .int (nI k3)), (3, .int (nI k2)), (4, .int (nI (fvN Z k1))), (5, .int (nI k))] → W p l e (rmo 4 96) s m ([.ref (r 0), .int (nI k1), .int (nI k3), .int (nI k2)] : List Value).toArray below meth c H locs 0 0 Q (F0 m 56 ls []) := by
            intro fuel
            induction fuel with
            | zero => intro k hm; exact absurd hm (Nat.not_lt_zero _)
            | succ fuel ih56 =>
              intro k hm56 hk hkk hy H locs hP hD hS ls hl
              refine lv_iload hx hb dX6_latestMove_56 (lv_at hl 5 rfl) ?_
              refine lv_sipush (v := 999) hx hb dX6_latestMove_58 (by decide) ?_
              refine lv_icmp_ge (tgt := 82) hx hb dX6_latestMove_61 (by decide) (fun c_10 => ?_) (fun c_10 => ?_)
              · replace c_10 := cn_le (a := 999) (b := k) (by omega) (by omega) c_10
                have hk9 : k ≤ 999 := by omega
                have hE : ltE (unB N Z (Z 6 k1) (fvN Z k1)) k2 = nI k := ltE_eq hk9 hy (by first | exact Or.inl (by omega) | exact Or.inr (by simp [unB, *]))
                refine lv_iload hx hb dX6_latestMove_82 (lv_at hl 5 rfl) ?_
                refine lv_istore (lv' := [(6, .int (nI k)), (0, .ref (r 0)), (1, .int (nI k1)), (2, .int (nI k3)), (3, .int (nI k2)), (4, .int (nI (fvN Z k1))), (5, .int (nI k))]) hx hb dX6_latestMove_84 hl (by decide) rfl (fun ls hl => ?_)
                have L86 : ∀ (fuel : Nat) (i : Nat), 1000 - i < fuel → k ≤ i → i ≤ 1000 → sfD (unB N Z (Z 6 k1) k3) k2 (i - k2) ≤ k → ∀ (H : Heap) (locs : List Loc), va_P G vwCl (wMod T r mm pp xx 0 sv n1 ac ea le v1 v2 v3 v4 v5) H → va_D A (wMod T r mm pp xx 0 sv n1 ac ea le v1 v2 v3 v4 v5) → va_S A H0 H locs → ∀ ls : Array Slot, lv_has ls 7 [(0, .ref (r 0)), (1, .int (nI k1)), (2, .int (nI k3)), (3, .int (nI k2)), (4, .int (nI (fvN Z k1))), (5, .int (nI k)), (6, .int (nI i))] → W p l e (rmo 4 96) s m ([.ref (r 0), .int (nI k1), .int (nI k3), .int (nI k2)] : List Value).toArray below meth c H locs 0 0 Q (F0 m 86 ls []) := by
                  intro fuel
                  induction fuel with
                  | zero => intro i hm; exact absurd hm (Nat.not_lt_zero _)
                  | succ fuel ih86 =>
                    intro i hm86 hi hi2 hs H locs hP hD hS ls hl
                    refine lv_iload hx hb dX6_latestMove_86 (lv_at hl 6 rfl) ?_
                    refine lv_sipush (v := 999) hx hb dX6_latestMove_88 (by decide) ?_
                    refine lv_icmp_gt (tgt := 113) hx hb dX6_latestMove_91 (by decide) (fun c_11 => ?_) (fun c_11 => ?_)
                    · replace c_11 := cn_lt (a := 999) (b := i) (by omega) (by omega) c_11
                      refine lv_iload hx hb dX6_latestMove_113 (lv_at hl 5 rfl) ?_
                      exact hret _ _ _ _ _ (show mPost G (sq (thF (nI k1) (nI (N 2))) (sq (thF (nI k3) (nI (N 0))) (dyF (nI k2)))) (ltP N Z (tn (nI k1)) (tn (nI k3)) (tn (nI k2))) (wMod T r mm pp xx 0 sv n1 ac ea le v1 v2 v3 v4 v5) (wMod T r mm pp xx (cmI (sq (thF (nI k1) (nI (N 2))) (sq (thF (nI k3) (nI (N 0))) (dyF (nI k2))))) sv n1 ac ea le v1 v2 v3 v4 v5) (some (Value.int (nI k))) H from ⟨_, rfl, Or.inl ⟨by simp [sq, thF, wiF, seF, dyF, poF, rfF, bI, *], by simp only [ek1, ek2, ek3]; exact (ltP_ok hk9 hE (by rw [show 1000 - k2 = i - k2 by omega]; exact hs)).symm, by exact hP⟩⟩) rfl hS dX6_latestMove_115
                    · replace c_11 := cn_nlt (a := 999) (b := i) (by omega) (by omega) c_11
                      refine lv_aload_n hx hb dX6_latestMove_94 rfl (lv_at hl 0 rfl) ?_
                      refine lv_iload_n hx hb dX6_latestMove_95 rfl (lv_at hl 1 rfl) ?_
                      refine lv_iload_n hx hb dX6_latestMove_96 rfl (lv_at hl 2 rfl) ?_
                      refine lv_iload hx hb dX6_latestMove_97 (lv_at hl 6 rfl) ?_
                      refine ro_V S hkx (mX6_missingOn l (u := k1) (v := k3) (d := (nI i)) (hP := hP) (hwf := hwf) (hr := hr) (hu := (by omega)) (hv := (by omega))) gX6_latestMove_X6_missingOn rfl idX6_missingOn ⟨Nat.le_of_ble_eq_true rfl, Nat.le_of_ble_eq_true rfl⟩ hP 0 rfl rfl rfl rfl hl.1 rfl (Nat.le_of_ble_eq_true rfl) dX6_latestMove_99 ⟨Nat.le_of_ble_eq_true rfl, Nat.le_of_ble_eq_true rfl⟩ (fun r_12 hr_12 => ?_)
                      subst hr_12
                      refine lv_if_eq (tgt := 107) hx hb dX6_latestMove_102 (by decide) (fun c_13 => ?_) (fun c_13 => ?_)
                      · skip
                        refine lv_iinc (v := (nI (i + 1))) (lv' := [(6, .int (nI (i + 1))), (0, .ref (r 0)), (1, .int (nI k1)), (2, .int (nI k3)), (3, .int (nI k2)), (4, .int (nI (fvN Z k1))), (5, .int (nI k))]) hx hb dX6_latestMove_107 hl (k := 6) rfl (nI_inc i) (by decide) rfl (fun ls hl => ?_)
                        refine lv_goto (tgt := 86) hx hb dX6_latestMove_110 (by decide) ?_
                        exact ih86 (i + 1) (by omega) (by omega) (by omega) (by rw [show i + 1 - k2 = (i - k2) + 1 by omega, sfD, show k2 + (i - k2) = i by omega, if_neg (by simp [unB, *])]; exact hs) _ _ hP hD hS _ (lv_sub hl [1, 2, 3, 4, 5, 6, 0] rfl)
                      · skip
                        refine lv_iconst (v := (-1)) hx hb dX6_latestMove_105 (by decide) ?_
                        exact hret _ _ _ _ _ (show mPost G (sq (thF (nI k1) (nI (N 2))) (sq (thF (nI k3) (nI (N 0))) (dyF (nI k2)))) (ltP N Z (tn (nI k1)) (tn (nI k3)) (tn (nI k2))) (wMod T r mm pp xx 0 sv n1 ac ea le v1 v2 v3 v4 v5) (wMod T r mm pp xx (cmI (sq (thF (nI k1) (nI (N 2))) (sq (thF (nI k3) (nI (N 0))) (dyF (nI k2))))) sv n1 ac ea le v1 v2 v3 v4 v5) (some (Value.int (-1))) H from ⟨_, rfl, Or.inl ⟨by simp [sq, thF, wiF, seF, dyF, poF, rfF, bI, *], by simp only [ek1, ek2, ek3]; exact (ltP_no (i := i) hk9 hE (by omega) (by omega) (by omega) (by simp [unB, *])).symm, by exact hP⟩⟩) rfl hS dX6_latestMove_106
                exact L86 _ k (Nat.lt_succ_self _) (by omega) (by omega) (by have := (sfD_le (unB N Z (Z 6 k1) k3) k2 (k - k2)).2; omega) _ _ hP hD hS _ (lv_sub hl [1, 2, 3, 4, 5, 6, 0] rfl)
              · replace c_10 := cn_nle (a := 999) (b := k) (by omega) (by omega) c_10
                refine lv_aload_n hx hb dX6_latestMove_64 rfl (lv_at hl 0 rfl) ?_
                refine lv_iload_n hx hb dX6_latestMove_65 rfl (lv_at hl 1 rfl) ?_
                refine lv_iload hx hb dX6_latestMove_66 (lv_at hl 4 rfl) ?_
                refine lv_iload hx hb dX6_latestMove_68 (lv_at hl 5 rfl) ?_
                refine ro_V S hkx (mX6_missingOn l (u := k1) (v := (fvN Z k1)) (d := (nI k)) (hP := hP) (hwf := hwf) (hr := hr) (hu := (by omega)) (hv := (by omega))) gX6_latestMove_X6_missingOn rfl idX6_missingOn ⟨Nat.le_of_ble_eq_true rfl, Nat.le_of_ble_eq_true rfl⟩ hP 0 rfl rfl rfl rfl hl.1 rfl (Nat.le_of_ble_eq_true rfl) dX6_latestMove_70 ⟨Nat.le_of_ble_eq_true rfl, Nat.le_of_ble_eq_true rfl⟩ (fun r_14 hr_14 => ?_)
                subst hr_14
                refine lv_if_ne (tgt := 82) hx hb dX6_latestMove_73 (by decide) (fun c_15 => ?_) (fun c_15 => ?_)
                · skip
                  have hk9 : k ≤ 999 := by omega
                  have hE : ltE (unB N Z (Z 6 k1) (fvN Z k1)) k2 = nI k := ltE_eq hk9 hy (by first | exact Or.inl (by omega) | exact Or.inr (by simp [unB, *]))
                  refine lv_iload hx hb dX6_latestMove_82 (lv_at hl 5 rfl) ?_
                  refine lv_istore (lv' := [(6, .int (nI k)), (0, .ref (r 0)), (1, .int (nI k1)), (2, .int (nI k3)), (3, .int (nI k2)), (4, .int (nI (fvN Z k1))), (5, .int (nI k))]) hx hb dX6_latestMove_84 hl (by decide) rfl (fun ls hl => ?_)
                  have L86 : ∀ (fuel : Nat) (i : Nat), 1000 - i < fuel → k ≤ i → i ≤ 1000 → sfD (unB N Z (Z 6 k1) k3) k2 (i - k2) ≤ k → ∀ (H : Heap) (locs : List Loc), va_P G vwCl (wMod T r mm pp xx 0 sv n1 ac ea le v1 v2 v3 v4 v5) H → va_D A (wMod T r mm pp xx 0 sv n1 ac ea le v1 v2 v3 v4 v5) → va_S A H0 H locs → ∀ ls : Array Slot, lv_has ls 7 [(0, .ref (r 0)), (1, .int (nI k1)), (2, .int (nI k3)), (3, .int (nI k2)), (4, .int (nI (fvN Z k1))), (5, .int (nI k)), (6, .int (nI i))] → W p l e (rmo 4 96) s m ([.ref (r 0), .int (nI k1), .int (nI k3), .int (nI k2)] : List Value).toArray below meth c H locs 0 0 Q (F0 m 86 ls []) := by
                    intro fuel
                    induction fuel with
                    | zero => intro i hm; exact absurd hm (Nat.not_lt_zero _)
                    | succ fuel ih86 =>
                      intro i hm86 hi hi2 hs H locs hP hD hS ls hl
                      refine lv_iload hx hb dX6_latestMove_86 (lv_at hl 6 rfl) ?_
                      refine lv_sipush (v := 999) hx hb dX6_latestMove_88 (by decide) ?_
                      refine lv_icmp_gt (tgt := 113) hx hb dX6_latestMove_91 (by decide) (fun c_16 => ?_) (fun c_16 => ?_)
                      · replace c_16 := cn_lt (a := 999) (b := i) (by omega) (by omega) c_16
                        refine lv_iload hx hb dX6_latestMove_113 (lv_at hl 5 rfl) ?_
                        exact hret _ _ _ _ _ (show mPost G (sq (thF (nI k1) (nI (N 2))) (sq (thF (nI k3) (nI (N 0))) (dyF (nI k2)))) (ltP N Z (tn (nI k1)) (tn (nI k3)) (tn (nI k2))) (wMod T r mm pp xx 0 sv n1 ac ea le v1 v2 v3 v4 v5) (wMod T r mm pp xx (cmI (sq (thF (nI k1) (nI (N 2))) (sq (thF (nI k3) (nI (N 0))) (dyF (nI k2))))) sv n1 ac ea le v1 v2 v3 v4 v5) (some (Value.int (nI k))) H from ⟨_, rfl, Or.inl ⟨by simp [sq, thF, wiF, seF, dyF, poF, rfF, bI, *], by simp only [ek1, ek2, ek3]; exact (ltP_ok hk9 hE (by rw [show 1000 - k2 = i - k2 by omega]; exact hs)).symm, by exact hP⟩⟩) rfl hS dX6_latestMove_115
                      · replace c_16 := cn_nlt (a := 999) (b := i) (by omega) (by omega) c_16
                        refine lv_aload_n hx hb dX6_latestMove_94 rfl (lv_at hl 0 rfl) ?_
                        refine lv_iload_n hx hb dX6_latestMove_95 rfl (lv_at hl 1 rfl) ?_
                        refine lv_iload_n hx hb dX6_latestMove_96 rfl (lv_at hl 2 rfl) ?_
                        refine lv_iload hx hb dX6_latestMove_97 (lv_at hl 6 rfl) ?_
                        refine ro_V S hkx (mX6_missingOn l (u := k1) (v := k3) (d := (nI i)) (hP := hP) (hwf := hwf) (hr := hr) (hu := (by omega)) (hv := (by omega))) gX6_latestMove_X6_missingOn rfl idX6_missingOn ⟨Nat.le_of_ble_eq_true rfl, Nat.le_of_ble_eq_true rfl⟩ hP 0 rfl rfl rfl rfl hl.1 rfl (Nat.le_of_ble_eq_true rfl) dX6_latestMove_99 ⟨Nat.le_of_ble_eq_true rfl, Nat.le_of_ble_eq_true rfl⟩ (fun r_17 hr_17 => ?_)
                        subst hr_17
                        refine lv_if_eq (tgt := 107) hx hb dX6_latestMove_102 (by decide) (fun c_18 => ?_) (fun c_18 => ?_)
                        · skip
                          refine lv_iinc (v := (nI (i + 1))) (lv' := [(6, .int (nI (i + 1))), (0, .ref (r 0)), (1, .int (nI k1)), (2, .int (nI k3)), (3, .int (nI k2)), (4, .int (nI (fvN Z k1))), (5, .int (nI k))]) hx hb dX6_latestMove_107 hl (k := 6) rfl (nI_inc i) (by decide) rfl (fun ls hl => ?_)
                          refine lv_goto (tgt := 86) hx hb dX6_latestMove_110 (by decide) ?_
                          exact ih86 (i + 1) (by omega) (by omega) (by omega) (by rw [show i + 1 - k2 = (i - k2) + 1 by omega, sfD, show k2 + (i - k2) = i by omega, if_neg (by simp [unB, *])]; exact hs) _ _ hP hD hS _ (lv_sub hl [1, 2, 3, 4, 5, 6, 0] rfl)
                        · skip
                          refine lv_iconst (v := (-1)) hx hb dX6_latestMove_105 (by decide) ?_
                          exact hret _ _ _ _ _ (show mPost G (sq (thF (nI k1) (nI (N 2))) (sq (thF (nI k3) (nI (N 0))) (dyF (nI k2)))) (ltP N Z (tn (nI k1)) (tn (nI k3)) (tn (nI k2))) (wMod T r mm pp xx 0 sv n1 ac ea le v1 v2 v3 v4 v5) (wMod T r mm pp xx (cmI (sq (thF (nI k1) (nI (N 2))) (sq (thF (nI k3) (nI (N 0))) (dyF (nI k2))))) sv n1 ac ea le v1 v2 v3 v4 v5) (some (Value.int (-1))) H from ⟨_, rfl, Or.inl ⟨by simp [sq, thF, wiF, seF, dyF, poF, rfF, bI, *], by simp only [ek1, ek2, ek3]; exact (ltP_no (i := i) hk9 hE (by omega) (by omega) (by omega) (by simp [unB, *])).symm, by exact hP⟩⟩) rfl hS dX6_latestMove_106
                  exact L86 _ k (Nat.lt_succ_self _) (by omega) (by omega) (by have := (sfD_le (unB N Z (Z 6 k1) k3) k2 (k - k2)).2; omega) _ _ hP hD hS _ (lv_sub hl [1, 2, 3, 4, 5, 6, 0] rfl)
                · skip
                  refine lv_iinc (v := (nI (k + 1))) (lv' := [(5, .int (nI (k + 1))), (0, .ref (r 0)), (1, .int (nI k1)), (2, .int (nI k3)), (3, .int (nI k2)), (4, .int (nI (fvN Z k1)))]) hx hb dX6_latestMove_76 hl (k := 5) rfl (nI_inc k) (by decide) rfl (fun ls hl => ?_)
                  refine lv_goto (tgt := 56) hx hb dX6_latestMove_79 (by decide) ?_
                  exact ih56 (k + 1) (by omega) (by omega) (by omega) (by rw [hy, show 1000 - k = (1000 - (k + 1)) + 1 by omega, fstD, if_neg]; simp [unB, *]) _ _ hP hD hS _ (lv_sub hl [1, 2, 3, 4, 5, 0] rfl)
          exact L56 _ k2 (Nat.lt_succ_self _) (by omega) (by omega) (by rfl) _ _ hP hD hS _ (lv_sub hl [2, 3, 4, 5, 1, 0] rfl)
        · replace c_8 := cn_nle (a := 0) (b := 0) (by omega) (by omega) c_8
          exact absurd c_8 (by decide)
      · replace c_7 := bI_e0 c_7
        refine lv_iconst (v := 2) hx hb dX6_latestMove_28 (by decide) ?_
        refine lv_goto (tgt := 33) hx hb dX6_latestMove_29 (by decide) ?_
        refine va_put (D := G) (ci := 6) (v := .int 2) (ty := .int) (C := RX6) (T := TX6) (N := 14) hx hb hts iX6 tyX6 tyX6_ok nmX6 hown hkx.1 hP hD hS 0 rfl rfl 1 (by decide) k19 (fun _ h9 => h9) rfl (by decide +kernel) rfl rfl (Nat.le_of_ble_eq_true rfl) dX6_latestMove_33 (fun H locs hP hD hS => ?_)
        have hP : va_P G vwCl (wMod T r mm pp xx 2 sv n1 ac ea le v1 v2 v3 v4 v5) H := hP
        have hD : va_D A (wMod T r mm pp xx 2 sv n1 ac ea le v1 v2 v3 v4 v5) := hD
        refine lv_aload_n hx hb dX6_latestMove_36 rfl (lv_at hl 0 rfl) ?_
        refine va_get (D := G) (ci := 6) (C := RX6) (T := TX6) (N := 14) hx hb hts iX6 hown hkx.1 hP 0 rfl rfl 1 (by decide) k19 (fun _ h9 => h9) rfl dX6_latestMove_37 ?_
        refine lv_if_le (tgt := 45) hx hb dX6_latestMove_40 (by decide) (fun c_19 => ?_) (fun c_19 => ?_)
        · replace c_19 := cn_le (a := 2) (b := 0) (by omega) (by omega) c_19
          exact absurd c_19 (by decide)
        · replace c_19 := cn_nle (a := 2) (b := 0) (by omega) (by omega) c_19
          refine lv_iconst (v := 0) hx hb dX6_latestMove_43 (by decide) ?_
          exact hret _ _ _ _ _ (show mPost G (sq (thF u (nI (N 2))) (sq (thF v (nI (N 0))) (dyF d))) (ltP N Z (tn u) (tn v) (tn d)) (wMod T r mm pp xx 0 sv n1 ac ea le v1 v2 v3 v4 v5) (wMod T r mm pp xx (cmI (sq (thF u (nI (N 2))) (sq (thF v (nI (N 0))) (dyF d)))) sv n1 ac ea le v1 v2 v3 v4 v5) (some (Value.int 0)) H from ⟨_, rfl, Or.inr ⟨by simp [sq, thF, wiF, seF, dyF, poF, rfF, bI, *], by rw [show (cmI (sq (thF u (nI (N 2))) (sq (thF v (nI (N 0))) (dyF d)))) = 2 by simp [sq, thF, wiF, seF, dyF, poF, rfF, bI, cmI, cmA, cmB, cmS, nIl1, nIl2, nIl3, *]]; exact hP⟩⟩) rfl hS dX6_latestMove_44
    · replace c_5 := bI_e0 c_5
      refine lv_iconst (v := 1) hx hb dX6_latestMove_17 (by decide) ?_
      refine lv_goto (tgt := 33) hx hb dX6_latestMove_18 (by decide) ?_
      refine va_put (D := G) (ci := 6) (v := .int 1) (ty := .int) (C := RX6) (T := TX6) (N := 14) hx hb hts iX6 tyX6 tyX6_ok nmX6 hown hkx.1 hP hD hS 0 rfl rfl 1 (by decide) k19 (fun _ h9 => h9) rfl (by decide +kernel) rfl rfl (Nat.le_of_ble_eq_true rfl) dX6_latestMove_33 (fun H locs hP hD hS => ?_)
      have hP : va_P G vwCl (wMod T r mm pp xx 1 sv n1 ac ea le v1 v2 v3 v4 v5) H := hP
      have hD : va_D A (wMod T r mm pp xx 1 sv n1 ac ea le v1 v2 v3 v4 v5) := hD
      refine lv_aload_n hx hb dX6_latestMove_36 rfl (lv_at hl 0 rfl) ?_
      refine va_get (D := G) (ci := 6) (C := RX6) (T := TX6) (N := 14) hx hb hts iX6 hown hkx.1 hP 0 rfl rfl 1 (by decide) k19 (fun _ h9 => h9) rfl dX6_latestMove_37 ?_
      refine lv_if_le (tgt := 45) hx hb dX6_latestMove_40 (by decide) (fun c_20 => ?_) (fun c_20 => ?_)
      · replace c_20 := cn_le (a := 1) (b := 0) (by omega) (by omega) c_20
        exact absurd c_20 (by decide)
      · replace c_20 := cn_nle (a := 1) (b := 0) (by omega) (by omega) c_20
        refine lv_iconst (v := 0) hx hb dX6_latestMove_43 (by decide) ?_
        exact hret _ _ _ _ _ (show mPost G (sq (thF u (nI (N 2))) (sq (thF v (nI (N 0))) (dyF d))) (ltP N Z (tn u) (tn v) (tn d)) (wMod T r mm pp xx 0 sv n1 ac ea le v1 v2 v3 v4 v5) (wMod T r mm pp xx (cmI (sq (thF u (nI (N 2))) (sq (thF v (nI (N 0))) (dyF d)))) sv n1 ac ea le v1 v2 v3 v4 v5) (some (Value.int 0)) H from ⟨_, rfl, Or.inr ⟨by simp [sq, thF, wiF, seF, dyF, poF, rfF, bI, *], by rw [show (cmI (sq (thF u (nI (N 2))) (sq (thF v (nI (N 0))) (dyF d)))) = 1 by simp [sq, thF, wiF, seF, dyF, poF, rfF, bI, cmI, cmA, cmB, cmS, nIl1, nIl2, nIl3, *]]; exact hP⟩⟩) rfl hS dX6_latestMove_44
