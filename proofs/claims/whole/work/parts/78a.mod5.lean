theorem idX6_cheapest : yX6_cheapest.cls = RX6 ∧ yX6_cheapest.cls ≠ "java/lang/invoke/MethodHandle" ∧ yX6_cheapest.cls ≠ "java/lang/invoke/VarHandle" ∧ (parseMethodDescriptor yX6_cheapest.desc).map (fun d => d.parameters.length) = some 3 := by decide +kernel

set_option maxHeartbeats 4000000 in
set_option maxRecDepth 100000 in
theorem mX6_cheapest (l : Launch) {G : va_G} {T : Nat → ClassId} {H0 : Heap} {r : Nat → Nat} {N : Nat → Nat} {Z : Nat → Nat → Int32} {mm : Nat → Int32} {pp : Nat → Int32} {xx : Nat → Int32} {th : Int32} {sv : Nat} {n1 : Nat} {ac : Int32} {ea : Int32} {le : Int32} {v1 : Int32} {v2 : Int32} {v3 : Int32} {v4 : Int32} {v5 : Int32} {u : Int32} {f : Int32} {w : Int32} (hP : va_P G vwCl (wMod T r mm pp xx th sv n1 ac ea le v1 v2 v3 v4 v5) H0) (hD : va_D (fun _ => True) (wMod T r mm pp xx th sv n1 ac ea le v1 v2 v3 v4 v5)) (hwf : wf N Z) (hr : rel N Z mm) : mu l yX6_cheapest wsX6_cheapest 4 97 [.ref (r 0), .int u, .int f, .int w] G T H0 (wMod T r mm pp xx th sv n1 ac ea le v1 v2 v3 v4 v5) (mPost G (sq (thF u (nI (N 2))) (sq (dyF f) (wiF w f 999))) ((vcl N Z (Z 6 (tn u)) (tn f) (tn w) (N 0)).1) (wMod T r mm pp xx 0 sv n1 ac ea le v1 v2 v3 v4 v5) (wMod T r mm pp xx (cmI (sq (thF u (nI (N 2))) (sq (dyF f) (wiF w f 999)))) sv n1 ac ea le v1 v2 v3 v4 v5)) := by
  refine mu_ofi (cc := cX6_cheapest) (maxL := 10) (ret := .int) (own := RX6) (by decide +kernel) rfl rfl (Nat.le_of_ble_eq_true rfl) hD ?_
  intro p e s m below meth c Q ls A S hkx hl hD hS hA hret
  obtain ⟨hx, hb, hml, hown, hts⟩ := id S
  have hl : lv_has ls 10 [(0, .ref (r 0)), (1, .int u), (2, .int f), (3, .int w)] := hl
  have k19 := hts (.fieldLink RX6 19 "SunsetDatesModel" "thrown" "I") (by decide +kernel)
  have iX6 : ∀ w ∈ wsX60, w ∈ wsX6_cheapest := by decide +kernel
  have k7 := hts (.fieldLink RX6 7 "SunsetDatesModel" "now" "[I") (by decide +kernel)
  have hb2 := hwf.1
  obtain ⟨hr0, hr1, hr2, hr3, hrv, hrf, hru, hrs⟩ := id hr
  refine lv_aload_n hx hb dX6_cheapest_0 rfl (lv_at hl 0 rfl) ?_
  refine lv_aload_n hx hb dX6_cheapest_1 rfl (lv_at hl 0 rfl) ?_
  refine lv_iload_n hx hb dX6_cheapest_2 rfl (lv_at hl 1 rfl) ?_
  refine ro_V S hkx (mX6_isUser l (v := u) (hP := hP) (hwf := hwf) (hr := hr)) gX6_cheapest_X6_isUser rfl idX6_isUser ⟨Nat.le_of_ble_eq_true rfl, Nat.le_of_ble_eq_true rfl⟩ hP 0 rfl rfl rfl rfl hl.1 rfl (Nat.le_of_ble_eq_true rfl) dX6_cheapest_3 ⟨Nat.le_of_ble_eq_true rfl, Nat.le_of_ble_eq_true rfl⟩ (fun r_1 hr_1 => ?_)
  subst hr_1
  refine lv_if_ne (tgt := 13) hx hb dX6_cheapest_6 (by decide) (fun c_2 => ?_) (fun c_2 => ?_)
  · replace c_2 := bI_n0 c_2
    refine lv_iload_n hx hb dX6_cheapest_13 rfl (lv_at hl 2 rfl) ?_
    refine lv_iload_n hx hb dX6_cheapest_14 rfl (lv_at hl 3 rfl) ?_
    refine ro_S S hkx (mX6_areDays l (f := f) (w := w)) gX6_cheapest_X6_areDays rfl idX6_areDays.2 ⟨Nat.le_of_ble_eq_true rfl, Nat.le_of_ble_eq_true rfl⟩ rfl hl.1 rfl (Nat.le_of_ble_eq_true rfl) dX6_cheapest_15 ⟨Nat.le_of_ble_eq_true rfl, Nat.le_of_ble_eq_true rfl⟩ (fun r_3 hr_3 => ?_)
    subst hr_3
    refine lv_if_ne (tgt := 25) hx hb dX6_cheapest_18 (by decide) (fun c_4 => ?_) (fun c_4 => ?_)
    · replace c_4 := bI_n0 c_4
      obtain ⟨k1, hk1, rfl⟩ := isT_nat (i := u) (n := N 2) (by omega) (by assumption)
      have hAD : isW f 0 999 = true ∧ isW w f 999 = true := by simpa using (show (isW f 0 999 && isW w f 999) = true by assumption)
      obtain ⟨hADa, hADb⟩ := hAD
      obtain ⟨k2, hk2a, hk2, rfl⟩ := isW_nat (v := f) (a := 0) (b := 999) (by assumption)
      obtain ⟨k3, hk3a, hk3, rfl⟩ := isW_nat (v := w) (a := k2) (b := 999) hADb
      have ek1 : tn (nI k1) = k1 := nI_clamp (by omega)
      have ek2 : tn (nI k2) = k2 := nI_clamp (by omega)
      have ek3 : tn (nI k3) = k3 := nI_clamp (by omega)
      refine lv_iconst (v := 0) hx hb dX6_cheapest_25 (by decide) ?_
      refine va_put (D := G) (ci := 6) (v := .int 0) (ty := .int) (C := RX6) (T := TX6) (N := 14) hx hb hts iX6 tyX6 tyX6_ok nmX6 hown hkx.1 hP hD hS 0 rfl rfl 1 (by decide) k19 (fun _ h9 => h9) rfl (by decide +kernel) rfl rfl (Nat.le_of_ble_eq_true rfl) dX6_cheapest_26 (fun H locs hP hD hS => ?_)
      have hP : va_P G vwCl (wMod T r mm pp xx 0 sv n1 ac ea le v1 v2 v3 v4 v5) H := hP
      have hD : va_D A (wMod T r mm pp xx 0 sv n1 ac ea le v1 v2 v3 v4 v5) := hD
      refine lv_aload_n hx hb dX6_cheapest_29 rfl (lv_at hl 0 rfl) ?_
      refine va_get (D := G) (ci := 6) (C := RX6) (T := TX6) (N := 14) hx hb hts iX6 hown hkx.1 hP 0 rfl rfl 1 (by decide) k19 (fun _ h9 => h9) rfl dX6_cheapest_30 ?_
      refine lv_if_le (tgt := 38) hx hb dX6_cheapest_33 (by decide) (fun c_5 => ?_) (fun c_5 => ?_)
      · replace c_5 := cn_le (a := 0) (b := 0) (by omega) (by omega) c_5
        refine lv_iconst (v := (-1)) hx hb dX6_cheapest_38 (by decide) ?_
        refine lv_istore (lv' := [(4, .int (-1)), (0, .ref (r 0)), (1, .int (nI k1)), (2, .int (nI k2)), (3, .int (nI k3))]) hx hb dX6_cheapest_39 hl (by decide) rfl (fun ls hl => ?_)
        refine lv_iconst (v := 0) hx hb dX6_cheapest_41 (by decide) ?_
        refine lv_istore (lv' := [(5, .int 0), (4, .int (-1)), (0, .ref (r 0)), (1, .int (nI k1)), (2, .int (nI k2)), (3, .int (nI k3))]) hx hb dX6_cheapest_42 hl (by decide) rfl (fun ls hl => ?_)
        refine lv_iconst (v := 0) hx hb dX6_cheapest_44 (by decide) ?_
        refine lv_istore (lv' := [(6, .int 0), (5, .int 0), (4, .int (-1)), (0, .ref (r 0)), (1, .int (nI k1)), (2, .int (nI k2)), (3, .int (nI k3))]) hx hb dX6_cheapest_45 hl (by decide) rfl (fun ls hl => ?_)
        have L47 : ∀ (fuel : Nat) (k : Nat) (y z : Int32), N 0 - k < fuel → k ≤ N 0 → vcl N Z (Z 6 k1) k2 k3 k = (y, z) → ∀ (H : Heap) (locs : List Loc), va_P G vwCl (wMod T r mm pp xx 0 sv n1 ac ea le v1 v2 v3 v4 v5) H → va_D A (wMod T r mm pp xx 0 sv n1 ac ea le v1 v2 v3 v4 v5) → va_S A H0 H locs → ∀ ls : Array Slot, lv_has ls 10 [(0, .ref (r 0)), (1, .int (nI k1)), (2, .int (nI k2)), (3, .int (nI k3)), (4, .int y), (5, .int z), (6, .int (nI k))] → W p l e (rmo 4 97) s m ([.ref (r 0), .int (nI k1), .int (nI k2), .int (nI k3)] : List Value).toArray below meth c H locs 0 0 Q (F0 m 47 ls []) := by
          intro fuel
          induction fuel with
          | zero => intro k y z hm; exact absurd hm (Nat.not_lt_zero _)
          | succ fuel ih47 =>
            intro k y z hm47 hk hy H locs hP hD hS ls hl
            refine lv_iload hx hb dX6_cheapest_47 (lv_at hl 6 rfl) ?_
            refine lv_aload_n hx hb dX6_cheapest_49 rfl (lv_at hl 0 rfl) ?_
            refine va_get (D := G) (ci := 6) (C := RX6) (T := TX6) (N := 14) hx hb hts iX6 hown hkx.1 hP 0 rfl rfl 0 (by decide) k7 (fun _ h9 => h9) rfl dX6_cheapest_50 ?_
            refine lv_iconst (v := 0) hx hb dX6_cheapest_53 (by decide) ?_
            refine ia hx hb hkx hP 1 rfl 0 rfl (by omega) (by decide) dX6_cheapest_54 ?_
            rw [hr0]
            refine lv_icmp_ge (tgt := 149) hx hb dX6_cheapest_55 (by decide) (fun c_6 => ?_) (fun c_6 => ?_)
            · replace c_6 := cn_le (a := (N 0)) (b := k) (by omega) (by omega) c_6
              refine lv_iload hx hb dX6_cheapest_149 (lv_at hl 4 rfl) ?_
              exact hret _ _ _ _ _ (show mPost G (sq (thF (nI k1) (nI (N 2))) (sq (dyF (nI k2)) (wiF (nI k3) (nI k2) 999))) ((vcl N Z (Z 6 (tn (nI k1))) (tn (nI k2)) (tn (nI k3)) (N 0)).1) (wMod T r mm pp xx 0 sv n1 ac ea le v1 v2 v3 v4 v5) (wMod T r mm pp xx (cmI (sq (thF (nI k1) (nI (N 2))) (sq (dyF (nI k2)) (wiF (nI k3) (nI k2) 999)))) sv n1 ac ea le v1 v2 v3 v4 v5) (some (Value.int y)) H from ⟨_, rfl, Or.inl ⟨by simp [sq, thF, wiF, seF, dyF, poF, rfF, bI, *], by simp only [ek1, ek2, ek3]; rw [show k = N 0 from by omega] at hy; rw [hy], by exact hP⟩⟩) rfl hS dX6_cheapest_151
            · replace c_6 := cn_nle (a := (N 0)) (b := k) (by omega) (by omega) c_6
              refine lv_iconst (v := 1) hx hb dX6_cheapest_58 (by decide) ?_
              refine W.eq (g2 := F0 m 59 ls [.int (bI true)]) rfl ?_
              refine lv_istore (lv' := [(7, .int (bI true)), (0, .ref (r 0)), (1, .int (nI k1)), (2, .int (nI k2)), (3, .int (nI k3)), (4, .int y), (5, .int z), (6, .int (nI k))]) hx hb dX6_cheapest_59 hl (by decide) rfl (fun ls hl => ?_)
              refine lv_iconst (v := 0) hx hb dX6_cheapest_61 (by decide) ?_
              refine lv_istore (lv' := [(8, .int 0), (7, .int (bI true)), (0, .ref (r 0)), (1, .int (nI k1)), (2, .int (nI k2)), (3, .int (nI k3)), (4, .int y), (5, .int z), (6, .int (nI k))]) hx hb dX6_cheapest_62 hl (by decide) rfl (fun ls hl => ?_)
              refine lv_iload_n hx hb dX6_cheapest_64 rfl (lv_at hl 4 rfl) ?_
              refine lv_istore (lv' := [(9, .int (nI k2)), (8, .int 0), (7, .int (bI true)), (0, .ref (r 0)), (1, .int (nI k1)), (2, .int (nI k2)), (3, .int (nI k3)), (4, .int y), (5, .int z), (6, .int (nI k))]) hx hb dX6_cheapest_65 hl (by decide) rfl (fun ls hl => ?_)
              have L67 : ∀ (fuel : Nat) (i : Nat) (g : Bool) (x : Int32), k3 + 1 - i < fuel → k2 ≤ i → i ≤ k3 + 1 → g = decide (fstD (unB N Z (Z 6 k1) k) k2 (i - k2) = -1) → x = smD (cstD N Z (Z 6 k1) k) k2 (i - k2) → ∀ (H : Heap) (locs : List Loc), va_P G vwCl (wMod T r mm pp xx 0 sv n1 ac ea le v1 v2 v3 v4 v5) H → va_D A (wMod T r mm pp xx 0 sv n1 ac ea le v1 v2 v3 v4 v5) → va_S A H0 H locs → ∀ ls : Array Slot, lv_has ls 10 [(0, .ref (r 0)), (1, .int (nI k1)), (2, .int (nI k2)), (3, .int (nI k3)), (4, .int y), (5, .int z), (6, .int (nI k)), (7, .int (bI g)), (8, .int x), (9, .int (nI i))] → W p l e (rmo 4 97) s m ([.ref (r 0), .int (nI k1), .int (nI k2), .int (nI k3)] : List Value).toArray below meth c H locs 0 0 Q (F0 m 67 ls []) := by
                intro fuel
                induction fuel with
                | zero => intro i g x hm; exact absurd hm (Nat.not_lt_zero _)
                | succ fuel ih67 =>
                  intro i g x hm67 hi hi2 hg hs H locs hP hD hS ls hl
                  refine lv_iload hx hb dX6_cheapest_67 (lv_at hl 9 rfl) ?_
                  refine lv_iload_n hx hb dX6_cheapest_69 rfl (lv_at hl 3 rfl) ?_
                  refine lv_icmp_gt (tgt := 117) hx hb dX6_cheapest_70 (by decide) (fun c_7 => ?_) (fun c_7 => ?_)
                  · replace c_7 := cn_lt (a := k3) (b := i) (by omega) (by omega) c_7
                    refine lv_iload hx hb dX6_cheapest_117 (lv_at hl 7 rfl) ?_
                    refine lv_if_eq (tgt := 143) hx hb dX6_cheapest_119 (by decide) (fun c_8 => ?_) (fun c_8 => ?_)
                    · replace c_8 := bI_e0 c_8
                      refine lv_iinc (v := (nI (k + 1))) (lv' := [(6, .int (nI (k + 1))), (0, .ref (r 0)), (1, .int (nI k1)), (2, .int (nI k2)), (3, .int (nI k3)), (4, .int y), (5, .int z), (7, .int (bI g)), (8, .int x), (9, .int (nI i))]) hx hb dX6_cheapest_143 hl (k := 6) rfl (nI_inc k) (by decide) rfl (fun ls hl => ?_)
                      refine lv_goto (tgt := 47) hx hb dX6_cheapest_146 (by decide) ?_
                      exact ih47 (k + 1) y z (by omega) (by omega) (by first | exact cp_F hy (by omega) hi hi2 hg (by assumption) | exact cp_T hy (by omega) hg (by assumption) hs (Or.inl (by assumption)) | exact cp_T hy (by omega) hg (by assumption) hs (Or.inr (by assumption)) | exact cp_K hy (by omega) hs (by assumption) (by assumption)) _ _ hP hD hS _ (lv_sub hl [1, 2, 3, 4, 5, 6, 0] rfl)
                    · replace c_8 := bI_n0 c_8
                      refine lv_iload hx hb dX6_cheapest_122 (lv_at hl 4 rfl) ?_
                      refine lv_iconst (v := (-1)) hx hb dX6_cheapest_124 (by decide) ?_
                      refine lv_icmp_eq (tgt := 135) hx hb dX6_cheapest_125 (by decide) (fun c_9 => ?_) (fun c_9 => ?_)
                      · skip
                        refine lv_iload hx hb dX6_cheapest_135 (lv_at hl 6 rfl) ?_
                        refine lv_istore (lv' := [(4, .int (nI k)), (0, .ref (r 0)), (1, .int (nI k1)), (2, .int (nI k2)), (3, .int (nI k3)), (5, .int z), (6, .int (nI k)), (7, .int (bI g)), (8, .int x), (9, .int (nI i))]) hx hb dX6_cheapest_137 hl (by decide) rfl (fun ls hl => ?_)
                        refine lv_iload hx hb dX6_cheapest_139 (lv_at hl 8 rfl) ?_
                        refine lv_istore (lv' := [(5, .int x), (4, .int (nI k)), (0, .ref (r 0)), (1, .int (nI k1)), (2, .int (nI k2)), (3, .int (nI k3)), (6, .int (nI k)), (7, .int (bI g)), (8, .int x), (9, .int (nI i))]) hx hb dX6_cheapest_141 hl (by decide) rfl (fun ls hl => ?_)
                        refine lv_iinc (v := (nI (k + 1))) (lv' := [(6, .int (nI (k + 1))), (5, .int x), (4, .int (nI k)), (0, .ref (r 0)), (1, .int (nI k1)), (2, .int (nI k2)), (3, .int (nI k3)), (7, .int (bI g)), (8, .int x), (9, .int (nI i))]) hx hb dX6_cheapest_143 hl (k := 6) rfl (nI_inc k) (by decide) rfl (fun ls hl => ?_)
                        refine lv_goto (tgt := 47) hx hb dX6_cheapest_146 (by decide) ?_
                        exact ih47 (k + 1) (nI k) x (by omega) (by omega) (by first | exact cp_F hy (by omega) hi hi2 hg (by assumption) | exact cp_T hy (by omega) hg (by assumption) hs (Or.inl (by assumption)) | exact cp_T hy (by omega) hg (by assumption) hs (Or.inr (by assumption)) | exact cp_K hy (by omega) hs (by assumption) (by assumption)) _ _ hP hD hS _ (lv_sub hl [3, 4, 5, 6, 2, 1, 0] rfl)
                      · skip
                        refine lv_iload hx hb dX6_cheapest_128 (lv_at hl 8 rfl) ?_
                        refine lv_iload hx hb dX6_cheapest_130 (lv_at hl 5 rfl) ?_
                        refine lv_icmp_ge (tgt := 143) hx hb dX6_cheapest_132 (by decide) (fun c_10 => ?_) (fun c_10 => ?_)
                        · have c_10n := Int32.not_lt.mpr c_10
                          refine lv_iinc (v := (nI (k + 1))) (lv' := [(6, .int (nI (k + 1))), (0, .ref (r 0)), (1, .int (nI k1)), (2, .int (nI k2)), (3, .int (nI k3)), (4, .int y), (5, .int z), (7, .int (bI g)), (8, .int x), (9, .int (nI i))]) hx hb dX6_cheapest_143 hl (k := 6) rfl (nI_inc k) (by decide) rfl (fun ls hl => ?_)
                          refine lv_goto (tgt := 47) hx hb dX6_cheapest_146 (by decide) ?_
                          exact ih47 (k + 1) y z (by omega) (by omega) (by first | exact cp_F hy (by omega) hi hi2 hg (by assumption) | exact cp_T hy (by omega) hg (by assumption) hs (Or.inl (by assumption)) | exact cp_T hy (by omega) hg (by assumption) hs (Or.inr (by assumption)) | exact cp_K hy (by omega) hs (by assumption) (by assumption)) _ _ hP hD hS _ (lv_sub hl [1, 2, 3, 4, 5, 6, 0] rfl)
                        · have c_10n := Int32.not_le.mp c_10
                          refine lv_iload hx hb dX6_cheapest_135 (lv_at hl 6 rfl) ?_
                          refine lv_istore (lv' := [(4, .int (nI k)), (0, .ref (r 0)), (1, .int (nI k1)), (2, .int (nI k2)), (3, .int (nI k3)), (5, .int z), (6, .int (nI k)), (7, .int (bI g)), (8, .int x), (9, .int (nI i))]) hx hb dX6_cheapest_137 hl (by decide) rfl (fun ls hl => ?_)
                          refine lv_iload hx hb dX6_cheapest_139 (lv_at hl 8 rfl) ?_
                          refine lv_istore (lv' := [(5, .int x), (4, .int (nI k)), (0, .ref (r 0)), (1, .int (nI k1)), (2, .int (nI k2)), (3, .int (nI k3)), (6, .int (nI k)), (7, .int (bI g)), (8, .int x), (9, .int (nI i))]) hx hb dX6_cheapest_141 hl (by decide) rfl (fun ls hl => ?_)
                          refine lv_iinc (v := (nI (k + 1))) (lv' := [(6, .int (nI (k + 1))), (5, .int x), (4, .int (nI k)), (0, .ref (r 0)), (1, .int (nI k1)), (2, .int (nI k2)), (3, .int (nI k3)), (7, .int (bI g)), (8, .int x), (9, .int (nI i))]) hx hb dX6_cheapest_143 hl (k := 6) rfl (nI_inc k) (by decide) rfl (fun ls hl => ?_)
                          refine lv_goto (tgt := 47) hx hb dX6_cheapest_146 (by decide) ?_
                          exact ih47 (k + 1) (nI k) x (by omega) (by omega) (by first | exact cp_F hy (by omega) hi hi2 hg (by assumption) | exact cp_T hy (by omega) hg (by assumption) hs (Or.inl (by assumption)) | exact cp_T hy (by omega) hg (by assumption) hs (Or.inr (by assumption)) | exact cp_K hy (by omega) hs (by assumption) (by assumption)) _ _ hP hD hS _ (lv_sub hl [3, 4, 5, 6, 2, 1, 0] rfl)
                  · replace c_7 := cn_nlt (a := k3) (b := i) (by omega) (by omega) c_7
                    refine lv_iload hx hb dX6_cheapest_73 (lv_at hl 7 rfl) ?_
                    refine lv_if_eq (tgt := 117) hx hb dX6_cheapest_75 (by decide) (fun c_11 => ?_) (fun c_11 => ?_)
                    · replace c_11 := bI_e0 c_11
                      refine lv_iload hx hb dX6_cheapest_117 (lv_at hl 7 rfl) ?_
                      refine lv_if_eq (tgt := 143) hx hb dX6_cheapest_119 (by decide) (fun c_12 => ?_) (fun c_12 => ?_)
                      · replace c_12 := bI_e0 c_12
                        refine lv_iinc (v := (nI (k + 1))) (lv' := [(6, .int (nI (k + 1))), (0, .ref (r 0)), (1, .int (nI k1)), (2, .int (nI k2)), (3, .int (nI k3)), (4, .int y), (5, .int z), (7, .int (bI g)), (8, .int x), (9, .int (nI i))]) hx hb dX6_cheapest_143 hl (k := 6) rfl (nI_inc k) (by decide) rfl (fun ls hl => ?_)
                        refine lv_goto (tgt := 47) hx hb dX6_cheapest_146 (by decide) ?_
                        exact ih47 (k + 1) y z (by omega) (by omega) (by first | exact cp_F hy (by omega) hi hi2 hg (by assumption) | exact cp_T hy (by omega) hg (by assumption) hs (Or.inl (by assumption)) | exact cp_T hy (by omega) hg (by assumption) hs (Or.inr (by assumption)) | exact cp_K hy (by omega) hs (by assumption) (by assumption)) _ _ hP hD hS _ (lv_sub hl [1, 2, 3, 4, 5, 6, 0] rfl)
                      · replace c_12 := bI_n0 c_12
                        exact absurd (c_11.symm.trans c_12) (by decide)
                    · replace c_11 := bI_n0 c_11
                      refine lv_aload_n hx hb dX6_cheapest_78 rfl (lv_at hl 0 rfl) ?_
                      refine lv_iload_n hx hb dX6_cheapest_79 rfl (lv_at hl 1 rfl) ?_
                      refine lv_iload hx hb dX6_cheapest_80 (lv_at hl 6 rfl) ?_
                      refine lv_iload hx hb dX6_cheapest_82 (lv_at hl 9 rfl) ?_
                      refine ro_V S hkx (mX6_missingOn l (u := k1) (v := k) (d := (nI i)) (hP := hP) (hwf := hwf) (hr := hr) (hu := (by omega)) (hv := (by omega))) gX6_cheapest_X6_missingOn rfl idX6_missingOn ⟨Nat.le_of_ble_eq_true rfl, Nat.le_of_ble_eq_true rfl⟩ hP 0 rfl rfl rfl rfl hl.1 rfl (Nat.le_of_ble_eq_true rfl) dX6_cheapest_84 ⟨Nat.le_of_ble_eq_true rfl, Nat.le_of_ble_eq_true rfl⟩ (fun r_13 hr_13 => ?_)
                      subst hr_13
                      refine lv_if_ne (tgt := 94) hx hb dX6_cheapest_87 (by decide) (fun c_14 => ?_) (fun c_14 => ?_)
                      · skip
                        refine lv_iconst (v := 0) hx hb dX6_cheapest_94 (by decide) ?_
                        refine W.eq (g2 := F0 m 95 ls [.int (bI false)]) rfl ?_
                        refine lv_istore (lv' := [(7, .int (bI false)), (0, .ref (r 0)), (1, .int (nI k1)), (2, .int (nI k2)), (3, .int (nI k3)), (4, .int y), (5, .int z), (6, .int (nI k)), (8, .int x), (9, .int (nI i))]) hx hb dX6_cheapest_95 hl (by decide) rfl (fun ls hl => ?_)
                        refine lv_iload hx hb dX6_cheapest_97 (lv_at hl 8 rfl) ?_
                        refine lv_aload_n hx hb dX6_cheapest_99 rfl (lv_at hl 1 rfl) ?_
                        refine lv_iload_n hx hb dX6_cheapest_100 rfl (lv_at hl 2 rfl) ?_
                        refine lv_iload hx hb dX6_cheapest_101 (lv_at hl 7 rfl) ?_
                        refine lv_iload hx hb dX6_cheapest_103 (lv_at hl 9 rfl) ?_
                        refine ro_V S hkx (mX6_costOn l (u := k1) (v := k) (d := (nI i)) (hP := hP) (hwf := hwf) (hr := hr) (hu := (by omega)) (hv := (by omega))) gX6_cheapest_X6_costOn rfl idX6_costOn ⟨Nat.le_of_ble_eq_true rfl, Nat.le_of_ble_eq_true rfl⟩ hP 0 rfl rfl rfl rfl hl.1 rfl (Nat.le_of_ble_eq_true rfl) dX6_cheapest_105 ⟨Nat.le_of_ble_eq_true rfl, Nat.le_of_ble_eq_true rfl⟩ (fun r_15 hr_15 => ?_)
                        subst hr_15
                        refine lv_iadd hx hb dX6_cheapest_108 ?_
                        refine lv_istore (lv' := [(8, .int (x + (cst N Z (Z 6 k1) k (nI i)))), (7, .int (bI false)), (0, .ref (r 0)), (1, .int (nI k1)), (2, .int (nI k2)), (3, .int (nI k3)), (4, .int y), (5, .int z), (6, .int (nI k)), (9, .int (nI i))]) hx hb dX6_cheapest_109 hl (by decide) rfl (fun ls hl => ?_)
                        refine lv_iinc (v := (nI (i + 1))) (lv' := [(9, .int (nI (i + 1))), (8, .int (x + (cst N Z (Z 6 k1) k (nI i)))), (7, .int (bI false)), (0, .ref (r 0)), (1, .int (nI k1)), (2, .int (nI k2)), (3, .int (nI k3)), (4, .int y), (5, .int z), (6, .int (nI k))]) hx hb dX6_cheapest_111 hl (k := 9) rfl (nI_inc i) (by decide) rfl (fun ls hl => ?_)
                        refine lv_goto (tgt := 67) hx hb dX6_cheapest_114 (by decide) ?_
                        exact ih67 (i + 1) false (x + (cst N Z (Z 6 k1) k (nI i))) (by omega) (by omega) (by omega) (by first | exact cp_t hi (by omega) hg (by assumption) (decide_eq_false (not_not_intro (by assumption))) | exact cp_f hi (by omega) hg (by assumption) (decide_eq_true (by assumption))) (by rw [hs, show i + 1 - k2 = (i - k2) + 1 by omega, smD, show k2 + (i - k2) = i by omega]; rfl) _ _ hP hD hS _ (lv_sub hl [3, 4, 5, 6, 7, 8, 9, 2, 1, 0] rfl)
                      · skip
                        refine lv_iconst (v := 1) hx hb dX6_cheapest_90 (by decide) ?_
                        refine lv_goto (tgt := 95) hx hb dX6_cheapest_91 (by decide) ?_
                        refine W.eq (g2 := F0 m 95 ls [.int (bI true)]) rfl ?_
                        refine lv_istore (lv' := [(7, .int (bI true)), (0, .ref (r 0)), (1, .int (nI k1)), (2, .int (nI k2)), (3, .int (nI k3)), (4, .int y), (5, .int z), (6, .int (nI k)), (8, .int x), (9, .int (nI i))]) hx hb dX6_cheapest_95 hl (by decide) rfl (fun ls hl => ?_)
                        refine lv_iload hx hb dX6_cheapest_97 (lv_at hl 8 rfl) ?_
                        refine lv_aload_n hx hb dX6_cheapest_99 rfl (lv_at hl 1 rfl) ?_
                        refine lv_iload_n hx hb dX6_cheapest_100 rfl (lv_at hl 2 rfl) ?_
                        refine lv_iload hx hb dX6_cheapest_101 (lv_at hl 7 rfl) ?_
                        refine lv_iload hx hb dX6_cheapest_103 (lv_at hl 9 rfl) ?_
                        refine ro_V S hkx (mX6_costOn l (u := k1) (v := k) (d := (nI i)) (hP := hP) (hwf := hwf) (hr := hr) (hu := (by omega)) (hv := (by omega))) gX6_cheapest_X6_costOn rfl idX6_costOn ⟨Nat.le_of_ble_eq_true rfl, Nat.le_of_ble_eq_true rfl⟩ hP 0 rfl rfl rfl rfl hl.1 rfl (Nat.le_of_ble_eq_true rfl) dX6_cheapest_105 ⟨Nat.le_of_ble_eq_true rfl, Nat.le_of_ble_eq_true rfl⟩ (fun r_16 hr_16 => ?_)
                        subst hr_16
                        refine lv_iadd hx hb dX6_cheapest_108 ?_
                        refine lv_istore (lv' := [(8, .int (x + (cst N Z (Z 6 k1) k (nI i)))), (7, .int (bI true)), (0, .ref (r 0)), (1, .int (nI k1)), (2, .int (nI k2)), (3, .int (nI k3)), (4, .int y), (5, .int z), (6, .int (nI k)), (9, .int (nI i))]) hx hb dX6_cheapest_109 hl (by decide) rfl (fun ls hl => ?_)
                        refine lv_iinc (v := (nI (i + 1))) (lv' := [(9, .int (nI (i + 1))), (8, .int (x + (cst N Z (Z 6 k1) k (nI i)))), (7, .int (bI true)), (0, .ref (r 0)), (1, .int (nI k1)), (2, .int (nI k2)), (3, .int (nI k3)), (4, .int y), (5, .int z), (6, .int (nI k))]) hx hb dX6_cheapest_111 hl (k := 9) rfl (nI_inc i) (by decide) rfl (fun ls hl => ?_)
                        refine lv_goto (tgt := 67) hx hb dX6_cheapest_114 (by decide) ?_
                        exact ih67 (i + 1) true (x + (cst N Z (Z 6 k1) k (nI i))) (by omega) (by omega) (by omega) (by first | exact cp_t hi (by omega) hg (by assumption) (decide_eq_false (not_not_intro (by assumption))) | exact cp_f hi (by omega) hg (by assumption) (decide_eq_true (by assumption))) (by rw [hs, show i + 1 - k2 = (i - k2) + 1 by omega, smD, show k2 + (i - k2) = i by omega]; rfl) _ _ hP hD hS _ (lv_sub hl [3, 4, 5, 6, 7, 8, 9, 2, 1, 0] rfl)
              exact L67 _ k2 true 0 (Nat.lt_succ_self _) (by omega) (by omega) (by rw [Nat.sub_self]; rfl) (by rw [Nat.sub_self]; rfl) _ _ hP hD hS _ (lv_sub hl [3, 4, 5, 6, 7, 8, 9, 2, 1, 0] rfl)
        exact L47 _ 0 (-1) 0 (Nat.lt_succ_self _) (by omega) (by rfl) _ _ hP hD hS _ (lv_sub hl [3, 4, 5, 6, 2, 1, 0] rfl)
      · replace c_5 := cn_nle (a := 0) (b := 0) (by omega) (by omega) c_5
        exact absurd c_5 (by decide)
    · replace c_4 := bI_e0 c_4
      refine lv_iconst (v := 2) hx hb dX6_cheapest_21 (by decide) ?_
      refine lv_goto (tgt := 26) hx hb dX6_cheapest_22 (by decide) ?_
      refine va_put (D := G) (ci := 6) (v := .int 2) (ty := .int) (C := RX6) (T := TX6) (N := 14) hx hb hts iX6 tyX6 tyX6_ok nmX6 hown hkx.1 hP hD hS 0 rfl rfl 1 (by decide) k19 (fun _ h9 => h9) rfl (by decide +kernel) rfl rfl (Nat.le_of_ble_eq_true rfl) dX6_cheapest_26 (fun H locs hP hD hS => ?_)
      have hP : va_P G vwCl (wMod T r mm pp xx 2 sv n1 ac ea le v1 v2 v3 v4 v5) H := hP
      have hD : va_D A (wMod T r mm pp xx 2 sv n1 ac ea le v1 v2 v3 v4 v5) := hD
      refine lv_aload_n hx hb dX6_cheapest_29 rfl (lv_at hl 0 rfl) ?_
      refine va_get (D := G) (ci := 6) (C := RX6) (T := TX6) (N := 14) hx hb hts iX6 hown hkx.1 hP 0 rfl rfl 1 (by decide) k19 (fun _ h9 => h9) rfl dX6_cheapest_30 ?_
      refine lv_if_le (tgt := 38) hx hb dX6_cheapest_33 (by decide) (fun c_17 => ?_) (fun c_17 => ?_)
      · replace c_17 := cn_le (a := 2) (b := 0) (by omega) (by omega) c_17
        exact absurd c_17 (by decide)
      · replace c_17 := cn_nle (a := 2) (b := 0) (by omega) (by omega) c_17
        refine lv_iconst (v := 0) hx hb dX6_cheapest_36 (by decide) ?_
        exact hret _ _ _ _ _ (show mPost G (sq (thF u (nI (N 2))) (sq (dyF f) (wiF w f 999))) ((vcl N Z (Z 6 (tn u)) (tn f) (tn w) (N 0)).1) (wMod T r mm pp xx 0 sv n1 ac ea le v1 v2 v3 v4 v5) (wMod T r mm pp xx (cmI (sq (thF u (nI (N 2))) (sq (dyF f) (wiF w f 999)))) sv n1 ac ea le v1 v2 v3 v4 v5) (some (Value.int 0)) H from ⟨_, rfl, Or.inr ⟨by first | (simp [sq, thF, *]; done) | (rcases Bool.eq_false_or_eq_true (isW f 0 999) with h8 | h8 <;> simp_all [sq, thF, dyF, wiF]), by rw [show (cmI (sq (thF u (nI (N 2))) (sq (dyF f) (wiF w f 999)))) = 2 by first | (simp [sq, thF, cmI, nIl1, *]; done) | (rcases Bool.eq_false_or_eq_true (isW f 0 999) with h8 | h8 <;> simp_all [sq, thF, dyF, wiF, cmI, nIl1, nIl2])]; exact hP⟩⟩) rfl hS dX6_cheapest_37
  · replace c_2 := bI_e0 c_2
    refine lv_iconst (v := 1) hx hb dX6_cheapest_9 (by decide) ?_
    refine lv_goto (tgt := 26) hx hb dX6_cheapest_10 (by decide) ?_
    refine va_put (D := G) (ci := 6) (v := .int 1) (ty := .int) (C := RX6) (T := TX6) (N := 14) hx hb hts iX6 tyX6 tyX6_ok nmX6 hown hkx.1 hP hD hS 0 rfl rfl 1 (by decide) k19 (fun _ h9 => h9) rfl (by decide +kernel) rfl rfl (Nat.le_of_ble_eq_true rfl) dX6_cheapest_26 (fun H locs hP hD hS => ?_)
    have hP : va_P G vwCl (wMod T r mm pp xx 1 sv n1 ac ea le v1 v2 v3 v4 v5) H := hP
    have hD : va_D A (wMod T r mm pp xx 1 sv n1 ac ea le v1 v2 v3 v4 v5) := hD
    refine lv_aload_n hx hb dX6_cheapest_29 rfl (lv_at hl 0 rfl) ?_
    refine va_get (D := G) (ci := 6) (C := RX6) (T := TX6) (N := 14) hx hb hts iX6 hown hkx.1 hP 0 rfl rfl 1 (by decide) k19 (fun _ h9 => h9) rfl dX6_cheapest_30 ?_
    refine lv_if_le (tgt := 38) hx hb dX6_cheapest_33 (by decide) (fun c_18 => ?_) (fun c_18 => ?_)
    · replace c_18 := cn_le (a := 1) (b := 0) (by omega) (by omega) c_18
      exact absurd c_18 (by decide)
    · replace c_18 := cn_nle (a := 1) (b := 0) (by omega) (by omega) c_18
      refine lv_iconst (v := 0) hx hb dX6_cheapest_36 (by decide) ?_
      exact hret _ _ _ _ _ (show mPost G (sq (thF u (nI (N 2))) (sq (dyF f) (wiF w f 999))) ((vcl N Z (Z 6 (tn u)) (tn f) (tn w) (N 0)).1) (wMod T r mm pp xx 0 sv n1 ac ea le v1 v2 v3 v4 v5) (wMod T r mm pp xx (cmI (sq (thF u (nI (N 2))) (sq (dyF f) (wiF w f 999)))) sv n1 ac ea le v1 v2 v3 v4 v5) (some (Value.int 0)) H from ⟨_, rfl, Or.inr ⟨by first | (simp [sq, thF, *]; done) | (rcases Bool.eq_false_or_eq_true (isW f 0 999) with h8 | h8 <;> simp_all [sq, thF, dyF, wiF]), by rw [show (cmI (sq (thF u (nI (N 2))) (sq (dyF f) (wiF w f 999)))) = 1 by first | (simp [sq, thF, cmI, nIl1, *]; done) | (rcases Bool.eq_false_or_eq_true (isW f 0 999) with h8 | h8 <;> simp_all [sq, thF, dyF, wiF, cmI, nIl1, nIl2])]; exact hP⟩⟩) rfl hS dX6_cheapest_37
