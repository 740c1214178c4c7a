theorem idX6_shimsNeeded : yX6_shimsNeeded.cls = RX6 ∧ yX6_shimsNeeded.cls ≠ "java/lang/invoke/MethodHandle" ∧ yX6_shimsNeeded.cls ≠ "java/lang/invoke/VarHandle" ∧ (parseMethodDescriptor yX6_shimsNeeded.desc).map (fun d => d.parameters.length) = some 1 := by decide +kernel

set_option maxHeartbeats 4000000 in
set_option maxRecDepth 100000 in
theorem mX6_shimsNeeded (l : Launch) {G : va_G} {T : Nat → ClassId} {H0 : Heap} {r : Nat → Nat} {N : Nat → Nat} {Z : Nat → Nat → Int32} {mm : Nat → Int32} {pp : Nat → Int32} {xx : Nat → Int32} {th : Int32} {sv : Nat} {n1 : Nat} {ac : Int32} {ea : Int32} {le : Int32} {v1 : Int32} {v2 : Int32} {v3 : Int32} {v4 : Int32} {v5 : Int32} {d : Int32} (hP : va_P G vwCl (wMod T r mm pp xx th sv n1 ac ea le v1 v2 v3 v4 v5) H0) (hD : va_D (fun _ => True) (wMod T r mm pp xx th sv n1 ac ea le v1 v2 v3 v4 v5)) (hwf : wf N Z) (hr : rel N Z mm) : mu l yX6_shimsNeeded wsX6_shimsNeeded 3 71 [.ref (r 0), .int d] G T H0 (wMod T r mm pp xx th sv n1 ac ea le v1 v2 v3 v4 v5) (mPost G (dyF d) (prs N Z d (N 0)) (wMod T r mm pp xx 0 sv n1 ac ea le v1 v2 v3 v4 v5) (wMod T r mm pp xx (cmA (dyF d)) sv n1 ac ea le v1 v2 v3 v4 v5)) := by
  refine mu_ofi (cc := cX6_shimsNeeded) (maxL := 8) (ret := .int) (own := RX6) (by decide +kernel) rfl rfl (Nat.le_of_ble_eq_true rfl) hD ?_
  intro p e s m below meth c Q ls A S hkx hl hD hS hA hret
  obtain ⟨hx, hb, hml, hown, hts⟩ := id S
  have hl : lv_has ls 8 [(0, .ref (r 0)), (1, .int d)] := hl
  have k19 := hts (.fieldLink RX6 19 "SunsetDatesModel" "thrown" "I") (by decide +kernel)
  have iX6 : ∀ w ∈ wsX60, w ∈ wsX6_shimsNeeded := by decide +kernel
  have k7 := hts (.fieldLink RX6 7 "SunsetDatesModel" "now" "[I") (by decide +kernel)
  have hb2 := hwf.1
  obtain ⟨hr0, hr1, hr2, hr3, hrv, hrf, hru, hrs⟩ := id hr
  have hNN : N 0 * N 1 ≤ 80 := Nat.mul_le_mul (show N 0 ≤ 8 by omega) (show N 1 ≤ 10 by omega)
  refine lv_aload_n hx hb dX6_shimsNeeded_0 rfl (lv_at hl 0 rfl) ?_
  refine lv_iload_n hx hb dX6_shimsNeeded_1 rfl (lv_at hl 1 rfl) ?_
  refine ro_S S hkx (mX6_isDay l (d := d)) gX6_shimsNeeded_X6_isDay rfl idX6_isDay.2 ⟨Nat.le_of_ble_eq_true rfl, Nat.le_of_ble_eq_true rfl⟩ rfl hl.1 rfl (Nat.le_of_ble_eq_true rfl) dX6_shimsNeeded_2 ⟨Nat.le_of_ble_eq_true rfl, Nat.le_of_ble_eq_true rfl⟩ (fun r_1 hr_1 => ?_)
  subst hr_1
  refine lv_if_eq (tgt := 12) hx hb dX6_shimsNeeded_5 (by decide) (fun c_2 => ?_) (fun c_2 => ?_)
  · replace c_2 := bI_e0 c_2
    refine lv_iconst (v := 1) hx hb dX6_shimsNeeded_12 (by decide) ?_
    refine va_put (D := G) (ci := 6) (v := .int 1) (ty := .int) (C := RX6) (T := TX6) (N := 14) hx hb hts iX6 tyX6 tyX6_ok nmX6 hown hkx.1 hP hD hS 0 rfl rfl 1 (by decide) k19 (fun _ h9 => h9) rfl (by decide +kernel) rfl rfl (Nat.le_of_ble_eq_true rfl) dX6_shimsNeeded_13 (fun H locs hP hD hS => ?_)
    have hP : va_P G vwCl (wMod T r mm pp xx 1 sv n1 ac ea le v1 v2 v3 v4 v5) H := hP
    have hD : va_D A (wMod T r mm pp xx 1 sv n1 ac ea le v1 v2 v3 v4 v5) := hD
    refine lv_aload_n hx hb dX6_shimsNeeded_16 rfl (lv_at hl 0 rfl) ?_
    refine va_get (D := G) (ci := 6) (C := RX6) (T := TX6) (N := 14) hx hb hts iX6 hown hkx.1 hP 0 rfl rfl 1 (by decide) k19 (fun _ h9 => h9) rfl dX6_shimsNeeded_17 ?_
    refine lv_if_le (tgt := 25) hx hb dX6_shimsNeeded_20 (by decide) (fun c_3 => ?_) (fun c_3 => ?_)
    · replace c_3 := cn_le (a := 1) (b := 0) (by omega) (by omega) c_3
      exact absurd c_3 (by decide)
    · replace c_3 := cn_nle (a := 1) (b := 0) (by omega) (by omega) c_3
      refine lv_iconst (v := 0) hx hb dX6_shimsNeeded_23 (by decide) ?_
      exact hret _ _ _ _ _ (show mPost G (dyF d) (prs N Z d (N 0)) (wMod T r mm pp xx 0 sv n1 ac ea le v1 v2 v3 v4 v5) (wMod T r mm pp xx (cmA (dyF d)) sv n1 ac ea le v1 v2 v3 v4 v5) (some (Value.int 0)) H from ⟨_, rfl, Or.inr ⟨by simp [sq, thF, wiF, seF, dyF, poF, rfF, bI, *], by rw [show (cmA (dyF d)) = 1 by simp [sq, thF, wiF, seF, dyF, poF, rfF, bI, cmI, cmA, cmB, cmS, nIl1, nIl2, nIl3, *]]; exact hP⟩⟩) rfl hS dX6_shimsNeeded_24
  · replace c_2 := bI_n0 c_2
    refine lv_iconst (v := 0) hx hb dX6_shimsNeeded_8 (by decide) ?_
    refine lv_goto (tgt := 13) hx hb dX6_shimsNeeded_9 (by decide) ?_
    refine va_put (D := G) (ci := 6) (v := .int 0) (ty := .int) (C := RX6) (T := TX6) (N := 14) hx hb hts iX6 tyX6 tyX6_ok nmX6 hown hkx.1 hP hD hS 0 rfl rfl 1 (by decide) k19 (fun _ h9 => h9) rfl (by decide +kernel) rfl rfl (Nat.le_of_ble_eq_true rfl) dX6_shimsNeeded_13 (fun H locs hP hD hS => ?_)
    have hP : va_P G vwCl (wMod T r mm pp xx 0 sv n1 ac ea le v1 v2 v3 v4 v5) H := hP
    have hD : va_D A (wMod T r mm pp xx 0 sv n1 ac ea le v1 v2 v3 v4 v5) := hD
    refine lv_aload_n hx hb dX6_shimsNeeded_16 rfl (lv_at hl 0 rfl) ?_
    refine va_get (D := G) (ci := 6) (C := RX6) (T := TX6) (N := 14) hx hb hts iX6 hown hkx.1 hP 0 rfl rfl 1 (by decide) k19 (fun _ h9 => h9) rfl dX6_shimsNeeded_17 ?_
    refine lv_if_le (tgt := 25) hx hb dX6_shimsNeeded_20 (by decide) (fun c_4 => ?_) (fun c_4 => ?_)
    · replace c_4 := cn_le (a := 0) (b := 0) (by omega) (by omega) c_4
      refine lv_iconst (v := 0) hx hb dX6_shimsNeeded_25 (by decide) ?_
      refine lv_istore_n (lv' := [(2, .int 0), (0, .ref (r 0)), (1, .int d)]) hx hb dX6_shimsNeeded_26 rfl hl (by decide) rfl (fun ls hl => ?_)
      refine lv_iconst (v := 0) hx hb dX6_shimsNeeded_27 (by decide) ?_
      refine lv_istore_n (lv' := [(3, .int 0), (2, .int 0), (0, .ref (r 0)), (1, .int d)]) hx hb dX6_shimsNeeded_28 rfl hl (by decide) rfl (fun ls hl => ?_)
      have L29 : ∀ (fuel : Nat) (k : Nat) (y : Int32), N 0 * N 1 - k < fuel → k ≤ N 0 * N 1 → y = nps N Z d k → ∀ (H : Heap) (locs : List Loc), va_P G vwCl (wMod T r mm pp xx 0 sv n1 ac ea le v1 v2 v3 v4 v5) H → va_D A (wMod T r mm pp xx 0 sv n1 ac ea le v1 v2 v3 v4 v5) → va_S A H0 H locs → ∀ ls : Array Slot, lv_has ls 8 [(0, .ref (r 0)), (1, .int d), (2, .int y), (3, .int (nI k))] → W p l e (rmo 3 71) s m ([.ref (r 0), .int d] : List Value).toArray below meth c H locs 0 0 Q (F0 m 29 ls []) := by
        intro fuel
        induction fuel with
        | zero => intro k y hm; exact absurd hm (Nat.not_lt_zero _)
        | succ fuel ih29 =>
          intro k y hm29 hk hy H locs hP hD hS ls hl
          refine lv_iload_n hx hb dX6_shimsNeeded_29 rfl (lv_at hl 3 rfl) ?_
          refine lv_aload_n hx hb dX6_shimsNeeded_30 rfl (lv_at hl 0 rfl) ?_
          refine va_get (D := G) (ci := 6) (C := RX6) (T := TX6) (N := 14) hx hb hts iX6 hown hkx.1 hP 0 rfl rfl 0 (by decide) k7 (fun _ h9 => h9) rfl dX6_shimsNeeded_31 ?_
          refine lv_iconst (v := 0) hx hb dX6_shimsNeeded_34 (by decide) ?_
          refine ia hx hb hkx hP 1 rfl 0 rfl (by omega) (by decide) dX6_shimsNeeded_35 ?_
          rw [hr0]
          refine lv_aload_n hx hb dX6_shimsNeeded_36 rfl (lv_at hl 0 rfl) ?_
          refine va_get (D := G) (ci := 6) (C := RX6) (T := TX6) (N := 14) hx hb hts iX6 hown hkx.1 hP 0 rfl rfl 0 (by decide) k7 (fun _ h9 => h9) rfl dX6_shimsNeeded_37 ?_
          refine lv_iconst (v := 1) hx hb dX6_shimsNeeded_40 (by decide) ?_
          refine ia hx hb hkx hP 1 rfl 1 rfl (by omega) (by decide) dX6_shimsNeeded_41 ?_
          rw [hr1]
          refine lv_imul hx hb dX6_shimsNeeded_42 ?_
          rw [show ((nI (N 0)) * (nI (N 1))) = (nI ((N 0) * (N 1))) from pk_mul _ _]
          refine lv_icmp_ge (tgt := 160) hx hb dX6_shimsNeeded_43 (by decide) (fun c_5 => ?_) (fun c_5 => ?_)
          · replace c_5 := cn_le (a := ((N 0) * (N 1))) (b := k) (by omega) (by omega) c_5
            refine lv_iload_n hx hb dX6_shimsNeeded_160 rfl (lv_at hl 2 rfl) ?_
            exact hret _ _ _ _ _ (show mPost G (dyF d) (prs N Z d (N 0)) (wMod T r mm pp xx 0 sv n1 ac ea le v1 v2 v3 v4 v5) (wMod T r mm pp xx (cmA (dyF d)) sv n1 ac ea le v1 v2 v3 v4 v5) (some (Value.int y)) H from ⟨_, rfl, Or.inl ⟨by simp [sq, thF, wiF, seF, dyF, poF, rfF, bI, *], by rw [hy, show k = N 0 * N 1 by omega]; exact nps_prs hwf d (N 0) (Nat.le_refl _), by exact hP⟩⟩) rfl hS dX6_shimsNeeded_161
          · replace c_5 := cn_nle (a := ((N 0) * (N 1))) (b := k) (by omega) (by omega) c_5
            have hN1 : 0 < N 1 := Nat.pos_of_mul_pos_left (a := N 0) (Nat.lt_of_le_of_lt (Nat.zero_le k) (by assumption))
            have hkv : k / N 1 < N 0 := (Nat.div_lt_iff_lt_mul hN1).mpr (by assumption)
            have hkf : k % N 1 < N 1 := Nat.mod_lt _ hN1
            refine lv_iload_n hx hb dX6_shimsNeeded_46 rfl (lv_at hl 3 rfl) ?_
            refine lv_aload_n hx hb dX6_shimsNeeded_47 rfl (lv_at hl 0 rfl) ?_
            refine va_get (D := G) (ci := 6) (C := RX6) (T := TX6) (N := 14) hx hb hts iX6 hown hkx.1 hP 0 rfl rfl 0 (by decide) k7 (fun _ h9 => h9) rfl dX6_shimsNeeded_48 ?_
            refine lv_iconst (v := 1) hx hb dX6_shimsNeeded_51 (by decide) ?_
            refine ia hx hb hkx hP 1 rfl 1 rfl (by omega) (by decide) dX6_shimsNeeded_52 ?_
            rw [hr1]
            refine lv_idiv hx hb dX6_shimsNeeded_53 (by rw [show (0 : Int32) = nI 0 from rfl]; exact fun q9 => absurd ((nI_eq (a := (N 1)) (b := 0) (by omega) (by omega)).mp q9) (by omega)) ?_
            rw [show ((nI k) / (nI (N 1))) = (nI (k / (N 1))) from pk_div (a := k) (d := (N 1)) (by omega) (by omega) (by omega)]
            refine lv_istore (lv' := [(4, .int (nI (k / (N 1)))), (0, .ref (r 0)), (1, .int d), (2, .int y), (3, .int (nI k))]) hx hb dX6_shimsNeeded_54 hl (by decide) rfl (fun ls hl => ?_)
            refine lv_iload_n hx hb dX6_shimsNeeded_56 rfl (lv_at hl 4 rfl) ?_
            refine lv_aload_n hx hb dX6_shimsNeeded_57 rfl (lv_at hl 1 rfl) ?_
            refine va_get (D := G) (ci := 6) (C := RX6) (T := TX6) (N := 14) hx hb hts iX6 hown hkx.1 hP 0 rfl rfl 0 (by decide) k7 (fun _ h9 => h9) rfl dX6_shimsNeeded_58 ?_
            refine lv_iconst (v := 1) hx hb dX6_shimsNeeded_61 (by decide) ?_
            refine ia hx hb hkx hP 1 rfl 1 rfl (by omega) (by decide) dX6_shimsNeeded_62 ?_
            rw [hr1]
            refine lv_irem hx hb dX6_shimsNeeded_63 (by rw [show (0 : Int32) = nI 0 from rfl]; exact fun q9 => absurd ((nI_eq (a := (N 1)) (b := 0) (by omega) (by omega)).mp q9) (by omega)) ?_
            rw [show ((nI k) - (nI k) / (nI (N 1)) * (nI (N 1))) = (nI (k % (N 1))) from pk_rem (a := k) (d := (N 1)) (by omega) (by omega) (by omega)]
            refine lv_istore (lv' := [(5, .int (nI (k % (N 1)))), (4, .int (nI (k / (N 1)))), (0, .ref (r 0)), (1, .int d), (2, .int y), (3, .int (nI k))]) hx hb dX6_shimsNeeded_64 hl (by decide) rfl (fun ls hl => ?_)
            refine lv_iconst (v := 0) hx hb dX6_shimsNeeded_66 (by decide) ?_
            refine W.eq (g2 := F0 m 67 ls [.int (bI false)]) rfl ?_
            refine lv_istore (lv' := [(6, .int (bI false)), (5, .int (nI (k % (N 1)))), (4, .int (nI (k / (N 1)))), (0, .ref (r 0)), (1, .int d), (2, .int y), (3, .int (nI k))]) hx hb dX6_shimsNeeded_67 hl (by decide) rfl (fun ls hl => ?_)
            refine lv_iconst (v := 0) hx hb dX6_shimsNeeded_69 (by decide) ?_
            refine lv_istore (lv' := [(7, .int 0), (6, .int (bI false)), (5, .int (nI (k % (N 1)))), (4, .int (nI (k / (N 1)))), (0, .ref (r 0)), (1, .int d), (2, .int y), (3, .int (nI k))]) hx hb dX6_shimsNeeded_70 hl (by decide) rfl (fun ls hl => ?_)
            have L72 : ∀ (fuel : Nat) (j : Nat) (g : Bool), N 2 - j < fuel → j ≤ N 2 → g = ndB N Z d (k / N 1) (k % N 1) j → ∀ (H : Heap) (locs : List Loc), va_P G vwCl (wMod T r mm pp xx 0 sv n1 ac ea le v1 v2 v3 v4 v5) H → va_D A (wMod T r mm pp xx 0 sv n1 ac ea le v1 v2 v3 v4 v5) → va_S A H0 H locs → ∀ ls : Array Slot, lv_has ls 8 [(0, .ref (r 0)), (1, .int d), (2, .int y), (3, .int (nI k)), (4, .int (nI (k / (N 1)))), (5, .int (nI (k % (N 1)))), (6, .int (bI g)), (7, .int (nI j))] → W p l e (rmo 3 71) s m ([.ref (r 0), .int d] : List Value).toArray below meth c H locs 0 0 Q (F0 m 72 ls []) := by
              intro fuel
              induction fuel with
              | zero => intro j g hm; exact absurd hm (Nat.not_lt_zero _)
              | succ fuel ih72 =>
                intro j g hm72 hj hg H locs hP hD hS ls hl
                refine lv_iload hx hb dX6_shimsNeeded_72 (lv_at hl 7 rfl) ?_
                refine lv_aload_n hx hb dX6_shimsNeeded_74 rfl (lv_at hl 0 rfl) ?_
                refine va_get (D := G) (ci := 6) (C := RX6) (T := TX6) (N := 14) hx hb hts iX6 hown hkx.1 hP 0 rfl rfl 0 (by decide) k7 (fun _ h9 => h9) rfl dX6_shimsNeeded_75 ?_
                refine lv_iconst (v := 2) hx hb dX6_shimsNeeded_78 (by decide) ?_
                refine ia hx hb hkx hP 1 rfl 2 rfl (by omega) (by decide) dX6_shimsNeeded_79 ?_
                rw [hr2]
                refine lv_icmp_ge (tgt := 141) hx hb dX6_shimsNeeded_80 (by decide) (fun c_6 => ?_) (fun c_6 => ?_)
                · replace c_6 := cn_le (a := (N 2)) (b := j) (by omega) (by omega) c_6
                  refine lv_iload_n hx hb dX6_shimsNeeded_141 rfl (lv_at hl 2 rfl) ?_
                  refine lv_iload hx hb dX6_shimsNeeded_142 (lv_at hl 6 rfl) ?_
                  refine lv_if_eq (tgt := 151) hx hb dX6_shimsNeeded_144 (by decide) (fun c_7 => ?_) (fun c_7 => ?_)
                  · replace c_7 := bI_e0 c_7
                    refine lv_iconst (v := 0) hx hb dX6_shimsNeeded_151 (by decide) ?_
                    refine lv_iadd hx hb dX6_shimsNeeded_152 ?_
                    refine lv_istore_n (lv' := [(2, .int (y + 0)), (0, .ref (r 0)), (1, .int d), (3, .int (nI k)), (4, .int (nI (k / (N 1)))), (5, .int (nI (k % (N 1)))), (6, .int (bI g)), (7, .int (nI j))]) hx hb dX6_shimsNeeded_153 rfl hl (by decide) rfl (fun ls hl => ?_)
                    refine lv_iinc (v := (nI (k + 1))) (lv' := [(3, .int (nI (k + 1))), (2, .int (y + 0)), (0, .ref (r 0)), (1, .int d), (4, .int (nI (k / (N 1)))), (5, .int (nI (k % (N 1)))), (6, .int (bI g)), (7, .int (nI j))]) hx hb dX6_shimsNeeded_154 hl (k := 3) rfl (nI_inc k) (by decide) rfl (fun ls hl => ?_)
                    refine lv_goto (tgt := 29) hx hb dX6_shimsNeeded_157 (by decide) ?_
                    exact ih29 (k + 1) (y + 0) (by omega) (by omega) (by have h8 := hg; rw [show j = N 2 by omega] at h8; rw [hy, nps]; first | (rw [if_pos (h8.symm.trans (show g = true by assumption))]; done) | (rw [if_neg (Bool.eq_false_iff.mp (h8.symm.trans (show g = false by assumption))), Int32.add_zero])) _ _ hP hD hS _ (lv_sub hl [2, 3, 1, 0] rfl)
                  · replace c_7 := bI_n0 c_7
                    refine lv_iconst (v := 1) hx hb dX6_shimsNeeded_147 (by decide) ?_
                    refine lv_goto (tgt := 152) hx hb dX6_shimsNeeded_148 (by decide) ?_
                    refine lv_iadd hx hb dX6_shimsNeeded_152 ?_
                    refine lv_istore_n (lv' := [(2, .int (y + 1)), (0, .ref (r 0)), (1, .int d), (3, .int (nI k)), (4, .int (nI (k / (N 1)))), (5, .int (nI (k % (N 1)))), (6, .int (bI g)), (7, .int (nI j))]) hx hb dX6_shimsNeeded_153 rfl hl (by decide) rfl (fun ls hl => ?_)
                    refine lv_iinc (v := (nI (k + 1))) (lv' := [(3, .int (nI (k + 1))), (2, .int (y + 1)), (0, .ref (r 0)), (1, .int d), (4, .int (nI (k / (N 1)))), (5, .int (nI (k % (N 1)))), (6, .int (bI g)), (7, .int (nI j))]) hx hb dX6_shimsNeeded_154 hl (k := 3) rfl (nI_inc k) (by decide) rfl (fun ls hl => ?_)
                    refine lv_goto (tgt := 29) hx hb dX6_shimsNeeded_157 (by decide) ?_
                    exact ih29 (k + 1) (y + 1) (by omega) (by omega) (by have h8 := hg; rw [show j = N 2 by omega] at h8; rw [hy, nps]; first | (rw [if_pos (h8.symm.trans (show g = true by assumption))]; done) | (rw [if_neg (Bool.eq_false_iff.mp (h8.symm.trans (show g = false by assumption))), Int32.add_zero])) _ _ hP hD hS _ (lv_sub hl [2, 3, 1, 0] rfl)
                · replace c_6 := cn_nle (a := (N 2)) (b := j) (by omega) (by omega) c_6
                  refine lv_iload hx hb dX6_shimsNeeded_83 (lv_at hl 6 rfl) ?_
                  refine lv_if_ne (tgt := 128) hx hb dX6_shimsNeeded_85 (by decide) (fun c_8 => ?_) (fun c_8 => ?_)
                  · replace c_8 := bI_n0 c_8
                    refine lv_iconst (v := 1) hx hb dX6_shimsNeeded_128 (by decide) ?_
                    refine lv_goto (tgt := 133) hx hb dX6_shimsNeeded_129 (by decide) ?_
                    refine W.eq (g2 := F0 m 133 ls [.int (bI true)]) rfl ?_
                    refine lv_istore (lv' := [(6, .int (bI true)), (0, .ref (r 0)), (1, .int d), (2, .int y), (3, .int (nI k)), (4, .int (nI (k / (N 1)))), (5, .int (nI (k % (N 1)))), (7, .int (nI j))]) hx hb dX6_shimsNeeded_133 hl (by decide) rfl (fun ls hl => ?_)
                    refine lv_iinc (v := (nI (j + 1))) (lv' := [(7, .int (nI (j + 1))), (6, .int (bI true)), (0, .ref (r 0)), (1, .int d), (2, .int y), (3, .int (nI k)), (4, .int (nI (k / (N 1)))), (5, .int (nI (k % (N 1))))]) hx hb dX6_shimsNeeded_135 hl (k := 7) rfl (nI_inc j) (by decide) rfl (fun ls hl => ?_)
                    refine lv_goto (tgt := 72) hx hb dX6_shimsNeeded_138 (by decide) ?_
                    exact ih72 (j + 1) true (by omega) (by omega) (by rw [ndB, ← hg]; simp [c_2, c_4, c_5, c_6, c_8]) _ _ hP hD hS _ (lv_sub hl [2, 3, 4, 5, 6, 7, 1, 0] rfl)
                  · replace c_8 := bI_e0 c_8
                    refine lv_aload_n hx hb dX6_shimsNeeded_88 rfl (lv_at hl 0 rfl) ?_
                    refine lv_iload hx hb dX6_shimsNeeded_89 (lv_at hl 7 rfl) ?_
                    refine lv_iconst (v := 1) hx hb dX6_shimsNeeded_91 (by decide) ?_
                    refine ro_V S hkx (mX6_ofUser l (u := j) (w := 1) (hP := hP) (hwf := hwf) (hr := hr) (hu := (by omega)) (hw := (by omega))) gX6_shimsNeeded_X6_ofUser rfl idX6_ofUser ⟨Nat.le_of_ble_eq_true rfl, Nat.le_of_ble_eq_true rfl⟩ hP 0 rfl rfl rfl rfl hl.1 rfl (Nat.le_of_ble_eq_true rfl) dX6_shimsNeeded_92 ⟨Nat.le_of_ble_eq_true rfl, Nat.le_of_ble_eq_true rfl⟩ (fun r_9 hr_9 => ?_)
                    subst hr_9
                    skip
                    refine lv_iload hx hb dX6_shimsNeeded_95 (lv_at hl 5 rfl) ?_
                    refine ro_S S hkx (mX6_has l (x := (Z 6 j)) (k := (nI (k % (N 1))))) gX6_shimsNeeded_X6_has rfl idX6_has.2 ⟨Nat.le_of_ble_eq_true rfl, Nat.le_of_ble_eq_true rfl⟩ rfl hl.1 rfl (Nat.le_of_ble_eq_true rfl) dX6_shimsNeeded_97 ⟨Nat.le_of_ble_eq_true rfl, Nat.le_of_ble_eq_true rfl⟩ (fun r_10 hr_10 => ?_)
                    subst hr_10
                    refine lv_if_eq (tgt := 132) hx hb dX6_shimsNeeded_100 (by decide) (fun c_11 => ?_) (fun c_11 => ?_)
                    · replace c_11 := bI_e0 c_11
                      refine lv_iconst (v := 0) hx hb dX6_shimsNeeded_132 (by decide) ?_
                      refine W.eq (g2 := F0 m 133 ls [.int (bI false)]) rfl ?_
                      refine lv_istore (lv' := [(6, .int (bI false)), (0, .ref (r 0)), (1, .int d), (2, .int y), (3, .int (nI k)), (4, .int (nI (k / (N 1)))), (5, .int (nI (k % (N 1)))), (7, .int (nI j))]) hx hb dX6_shimsNeeded_133 hl (by decide) rfl (fun ls hl => ?_)
                      refine lv_iinc (v := (nI (j + 1))) (lv' := [(7, .int (nI (j + 1))), (6, .int (bI false)), (0, .ref (r 0)), (1, .int d), (2, .int y), (3, .int (nI k)), (4, .int (nI (k / (N 1)))), (5, .int (nI (k % (N 1))))]) hx hb dX6_shimsNeeded_135 hl (k := 7) rfl (nI_inc j) (by decide) rfl (fun ls hl => ?_)
                      refine lv_goto (tgt := 72) hx hb dX6_shimsNeeded_138 (by decide) ?_
                      exact ih72 (j + 1) false (by omega) (by omega) (by rw [ndB, ← hg]; simp [c_2, c_4, c_5, c_6, c_8, c_11]) _ _ hP hD hS _ (lv_sub hl [2, 3, 4, 5, 6, 7, 1, 0] rfl)
                    · replace c_11 := bI_n0 c_11
                      refine lv_aload_n hx hb dX6_shimsNeeded_103 rfl (lv_at hl 0 rfl) ?_
                      refine lv_iload hx hb dX6_shimsNeeded_104 (lv_at hl 7 rfl) ?_
                      refine lv_iload_n hx hb dX6_shimsNeeded_106 rfl (lv_at hl 1 rfl) ?_
                      refine ro_V S hkx (mX6_on l (u := j) (d := d) (hP := hP) (hwf := hwf) (hr := hr) (hu := (by omega))) gX6_shimsNeeded_X6_on rfl idX6_on ⟨Nat.le_of_ble_eq_true rfl, Nat.le_of_ble_eq_true rfl⟩ hP 0 rfl rfl rfl rfl hl.1 rfl (Nat.le_of_ble_eq_true rfl) dX6_shimsNeeded_107 ⟨Nat.le_of_ble_eq_true rfl, Nat.le_of_ble_eq_true rfl⟩ (fun r_12 hr_12 => ?_)
                      subst hr_12
                      have ho := (on_spec hwf (show j < N 2 by omega) d).2
                      refine lv_iload hx hb dX6_shimsNeeded_110 (lv_at hl 4 rfl) ?_
                      refine lv_icmp_ne (tgt := 132) hx hb dX6_shimsNeeded_112 (by decide) (fun c_13 => ?_) (fun c_13 => ?_)
                      · replace c_13 := cn_ne (a := (onN Z j d)) (b := (k / (N 1))) (by omega) (by omega) c_13
                        refine lv_iconst (v := 0) hx hb dX6_shimsNeeded_132 (by decide) ?_
                        refine W.eq (g2 := F0 m 133 ls [.int (bI false)]) rfl ?_
                        refine lv_istore (lv' := [(6, .int (bI false)), (0, .ref (r 0)), (1, .int d), (2, .int y), (3, .int (nI k)), (4, .int (nI (k / (N 1)))), (5, .int (nI (k % (N 1)))), (7, .int (nI j))]) hx hb dX6_shimsNeeded_133 hl (by decide) rfl (fun ls hl => ?_)
                        refine lv_iinc (v := (nI (j + 1))) (lv' := [(7, .int (nI (j + 1))), (6, .int (bI false)), (0, .ref (r 0)), (1, .int d), (2, .int y), (3, .int (nI k)), (4, .int (nI (k / (N 1)))), (5, .int (nI (k % (N 1))))]) hx hb dX6_shimsNeeded_135 hl (k := 7) rfl (nI_inc j) (by decide) rfl (fun ls hl => ?_)
                        refine lv_goto (tgt := 72) hx hb dX6_shimsNeeded_138 (by decide) ?_
                        exact ih72 (j + 1) false (by omega) (by omega) (by rw [ndB, ← hg]; simp [c_4, c_5, c_6, c_8, c_11, c_13]) _ _ hP hD hS _ (lv_sub hl [2, 3, 4, 5, 6, 7, 1, 0] rfl)
                      · replace c_13 := cn_eq (a := (onN Z j d)) (b := (k / (N 1))) (by omega) (by omega) c_13
                        refine lv_aload_n hx hb dX6_shimsNeeded_115 rfl (lv_at hl 0 rfl) ?_
                        refine lv_iload hx hb dX6_shimsNeeded_116 (lv_at hl 4 rfl) ?_
                        refine lv_iload hx hb dX6_shimsNeeded_118 (lv_at hl 5 rfl) ?_
                        refine lv_iload_n hx hb dX6_shimsNeeded_120 rfl (lv_at hl 1 rfl) ?_
                        refine ro_V S hkx (mX6_servedOn l (v := (k / (N 1))) (f := (k % (N 1))) (d := d) (hP := hP) (hwf := hwf) (hr := hr) (hv := hkv) (hf := hkf)) gX6_shimsNeeded_X6_servedOn rfl idX6_servedOn ⟨Nat.le_of_ble_eq_true rfl, Nat.le_of_ble_eq_true rfl⟩ hP 0 rfl rfl rfl rfl hl.1 rfl (Nat.le_of_ble_eq_true rfl) dX6_shimsNeeded_121 ⟨Nat.le_of_ble_eq_true rfl, Nat.le_of_ble_eq_true rfl⟩ (fun r_14 hr_14 => ?_)
                        subst hr_14
                        refine lv_iconst (v := 4) hx hb dX6_shimsNeeded_124 (by decide) ?_
                        refine lv_icmp_ne (tgt := 132) hx hb dX6_shimsNeeded_125 (by decide) (fun c_15 => ?_) (fun c_15 => ?_)
                        · skip
                          refine lv_iconst (v := 0) hx hb dX6_shimsNeeded_132 (by decide) ?_
                          refine W.eq (g2 := F0 m 133 ls [.int (bI false)]) rfl ?_
                          refine lv_istore (lv' := [(6, .int (bI false)), (0, .ref (r 0)), (1, .int d), (2, .int y), (3, .int (nI k)), (4, .int (nI (k / (N 1)))), (5, .int (nI (k % (N 1)))), (7, .int (nI j))]) hx hb dX6_shimsNeeded_133 hl (by decide) rfl (fun ls hl => ?_)
                          refine lv_iinc (v := (nI (j + 1))) (lv' := [(7, .int (nI (j + 1))), (6, .int (bI false)), (0, .ref (r 0)), (1, .int d), (2, .int y), (3, .int (nI k)), (4, .int (nI (k / (N 1)))), (5, .int (nI (k % (N 1))))]) hx hb dX6_shimsNeeded_135 hl (k := 7) rfl (nI_inc j) (by decide) rfl (fun ls hl => ?_)
                          refine lv_goto (tgt := 72) hx hb dX6_shimsNeeded_138 (by decide) ?_
                          exact ih72 (j + 1) false (by omega) (by omega) (by rw [ndB, ← hg]; simp [c_5, c_6, c_8, c_11, c_13, c_15]) _ _ hP hD hS _ (lv_sub hl [2, 3, 4, 5, 6, 7, 1, 0] rfl)
                        · skip
                          refine lv_iconst (v := 1) hx hb dX6_shimsNeeded_128 (by decide) ?_
                          refine lv_goto (tgt := 133) hx hb dX6_shimsNeeded_129 (by decide) ?_
                          refine W.eq (g2 := F0 m 133 ls [.int (bI true)]) rfl ?_
                          refine lv_istore (lv' := [(6, .int (bI true)), (0, .ref (r 0)), (1, .int d), (2, .int y), (3, .int (nI k)), (4, .int (nI (k / (N 1)))), (5, .int (nI (k % (N 1)))), (7, .int (nI j))]) hx hb dX6_shimsNeeded_133 hl (by decide) rfl (fun ls hl => ?_)
                          refine lv_iinc (v := (nI (j + 1))) (lv' := [(7, .int (nI (j + 1))), (6, .int (bI true)), (0, .ref (r 0)), (1, .int d), (2, .int y), (3, .int (nI k)), (4, .int (nI (k / (N 1)))), (5, .int (nI (k % (N 1))))]) hx hb dX6_shimsNeeded_135 hl (k := 7) rfl (nI_inc j) (by decide) rfl (fun ls hl => ?_)
                          refine lv_goto (tgt := 72) hx hb dX6_shimsNeeded_138 (by decide) ?_
                          exact ih72 (j + 1) true (by omega) (by omega) (by rw [ndB, ← hg]; simp [c_5, c_6, c_8, c_11, c_13, c_15]) _ _ hP hD hS _ (lv_sub hl [2, 3, 4, 5, 6, 7, 1, 0] rfl)
            exact L72 _ 0 false (Nat.lt_succ_self _) (by omega) (by rfl) _ _ hP hD hS _ (lv_sub hl [4, 5, 6, 7, 3, 2, 1, 0] rfl)
      exact L29 _ 0 0 (Nat.lt_succ_self _) (by omega) (by rfl) _ _ hP hD hS _ (lv_sub hl [2, 3, 1, 0] rfl)
    · replace c_4 := cn_nle (a := 0) (b := 0) (by omega) (by omega) c_4
      exact absurd c_4 (by decide)
