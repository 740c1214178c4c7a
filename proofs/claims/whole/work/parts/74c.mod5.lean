theorem idX6_bestVersion : yX6_bestVersion.cls = RX6 ∧ yX6_bestVersion.cls ≠ "java/lang/invoke/MethodHandle" ∧ yX6_bestVersion.cls ≠ "java/lang/invoke/VarHandle" ∧ (parseMethodDescriptor yX6_bestVersion.desc).map (fun d => d.parameters.length) = some 2 := by decide +kernel

set_option maxHeartbeats 4000000 in
set_option maxRecDepth 100000 in
theorem mX6_bestVersion (l : Launch) {G : va_G} {T : Nat → ClassId} {H0 : Heap} {r : Nat → Nat} {N : Nat → Nat} {Z : Nat → Nat → Int32} {mm : Nat → Int32} {pp : Nat → Int32} {xx : Nat → Int32} {th : Int32} {sv : Nat} {n1 : Nat} {ac : Int32} {ea : Int32} {le : Int32} {v1 : Int32} {v2 : Int32} {v3 : Int32} {v4 : Int32} {v5 : Int32} {u : Int32} {d : Int32} (hP : va_P G vwCl (wMod T r mm pp xx th sv n1 ac ea le v1 v2 v3 v4 v5) H0) (hD : va_D (fun _ => True) (wMod T r mm pp xx th sv n1 ac ea le v1 v2 v3 v4 v5)) (hwf : wf N Z) (hr : rel N Z mm) : mu l yX6_bestVersion wsX6_bestVersion 4 96 [.ref (r 0), .int u, .int d] G T H0 (wMod T r mm pp xx th sv n1 ac ea le v1 v2 v3 v4 v5) (mPost G (sq (thF u (nI (N 2))) (dyF d)) ((vsm N Z (Z 6 (tn u)) d (N 0)).1) (wMod T r mm pp xx 0 sv n1 ac ea le v1 v2 v3 v4 v5) (wMod T r mm pp xx (cmI (sq (thF u (nI (N 2))) (dyF d))) sv n1 ac ea le v1 v2 v3 v4 v5)) := by
  refine mu_ofi (cc := cX6_bestVersion) (maxL := 7) (ret := .int) (own := RX6) (by decide +kernel) rfl rfl (Nat.le_of_ble_eq_true rfl) hD ?_
  intro p e s m below meth c Q ls A S hkx hl hD hS hA hret
  obtain ⟨hx, hb, hml, hown, hts⟩ := id S
  have hl : lv_has ls 7 [(0, .ref (r 0)), (1, .int u), (2, .int d)] := hl
  have k19 := hts (.fieldLink RX6 19 "SunsetDatesModel" "thrown" "I") (by decide +kernel)
  have iX6 : ∀ w ∈ wsX60, w ∈ wsX6_bestVersion := by decide +kernel
  have k7 := hts (.fieldLink RX6 7 "SunsetDatesModel" "now" "[I") (by decide +kernel)
  have hb2 := hwf.1
  obtain ⟨hr0, hr1, hr2, hr3, hrv, hrf, hru, hrs⟩ := id hr
  refine lv_aload_n hx hb dX6_bestVersion_0 rfl (lv_at hl 0 rfl) ?_
  refine lv_aload_n hx hb dX6_bestVersion_1 rfl (lv_at hl 0 rfl) ?_
  refine lv_iload_n hx hb dX6_bestVersion_2 rfl (lv_at hl 1 rfl) ?_
  refine ro_V S hkx (mX6_isUser l (v := u) (hP := hP) (hwf := hwf) (hr := hr)) gX6_bestVersion_X6_isUser rfl idX6_isUser ⟨Nat.le_of_ble_eq_true rfl, Nat.le_of_ble_eq_true rfl⟩ hP 0 rfl rfl rfl rfl hl.1 rfl (Nat.le_of_ble_eq_true rfl) dX6_bestVersion_3 ⟨Nat.le_of_ble_eq_true rfl, Nat.le_of_ble_eq_true rfl⟩ (fun r_1 hr_1 => ?_)
  subst hr_1
  refine lv_if_ne (tgt := 13) hx hb dX6_bestVersion_6 (by decide) (fun c_2 => ?_) (fun c_2 => ?_)
  · replace c_2 := bI_n0 c_2
    refine lv_iload_n hx hb dX6_bestVersion_13 rfl (lv_at hl 2 rfl) ?_
    refine ro_S S hkx (mX6_isDay l (d := d)) gX6_bestVersion_X6_isDay rfl idX6_isDay.2 ⟨Nat.le_of_ble_eq_true rfl, Nat.le_of_ble_eq_true rfl⟩ rfl hl.1 rfl (Nat.le_of_ble_eq_true rfl) dX6_bestVersion_14 ⟨Nat.le_of_ble_eq_true rfl, Nat.le_of_ble_eq_true rfl⟩ (fun r_3 hr_3 => ?_)
    subst hr_3
    refine lv_if_ne (tgt := 24) hx hb dX6_bestVersion_17 (by decide) (fun c_4 => ?_) (fun c_4 => ?_)
    · replace c_4 := bI_n0 c_4
      obtain ⟨k1, hk1, rfl⟩ := isT_nat (i := u) (n := N 2) (by omega) (by assumption)
      have ek1 : tn (nI k1) = k1 := nI_clamp (by omega)
      refine lv_iconst (v := 0) hx hb dX6_bestVersion_24 (by decide) ?_
      refine va_put (D := G) (ci := 6) (v := .int 0) (ty := .int) (C := RX6) (T := TX6) (N := 14) hx hb hts iX6 tyX6 tyX6_ok nmX6 hown hkx.1 hP hD hS 0 rfl rfl 1 (by decide) k19 (fun _ h9 => h9) rfl (by decide +kernel) rfl rfl (Nat.le_of_ble_eq_true rfl) dX6_bestVersion_25 (fun H locs hP hD hS => ?_)
      have hP : va_P G vwCl (wMod T r mm pp xx 0 sv n1 ac ea le v1 v2 v3 v4 v5) H := hP
      have hD : va_D A (wMod T r mm pp xx 0 sv n1 ac ea le v1 v2 v3 v4 v5) := hD
      refine lv_aload_n hx hb dX6_bestVersion_28 rfl (lv_at hl 0 rfl) ?_
      refine va_get (D := G) (ci := 6) (C := RX6) (T := TX6) (N := 14) hx hb hts iX6 hown hkx.1 hP 0 rfl rfl 1 (by decide) k19 (fun _ h9 => h9) rfl dX6_bestVersion_29 ?_
      refine lv_if_le (tgt := 37) hx hb dX6_bestVersion_32 (by decide) (fun c_5 => ?_) (fun c_5 => ?_)
      · replace c_5 := cn_le (a := 0) (b := 0) (by omega) (by omega) c_5
        refine lv_iconst (v := (-1)) hx hb dX6_bestVersion_37 (by decide) ?_
        refine lv_istore_n (lv' := [(3, .int (-1)), (0, .ref (r 0)), (1, .int (nI k1)), (2, .int d)]) hx hb dX6_bestVersion_38 rfl hl (by decide) rfl (fun ls hl => ?_)
        refine lv_iconst (v := 0) hx hb dX6_bestVersion_39 (by decide) ?_
        refine lv_istore (lv' := [(4, .int 0), (3, .int (-1)), (0, .ref (r 0)), (1, .int (nI k1)), (2, .int d)]) hx hb dX6_bestVersion_40 hl (by decide) rfl (fun ls hl => ?_)
        refine lv_iconst (v := 0) hx hb dX6_bestVersion_42 (by decide) ?_
        refine lv_istore (lv' := [(5, .int 0), (4, .int 0), (3, .int (-1)), (0, .ref (r 0)), (1, .int (nI k1)), (2, .int d)]) hx hb dX6_bestVersion_43 hl (by decide) rfl (fun ls hl => ?_)
        have L45 : ∀ (fuel : Nat) (k : Nat) (y z : Int32), N 0 - k < fuel → k ≤ N 0 → (y = -1 ∨ ∃ j, j < k ∧ y = nI j) → vsm N Z (Z 6 k1) d k = (y, z) → ∀ (H : Heap) (locs : List Loc), va_P G vwCl (wMod T r mm pp xx 0 sv n1 ac ea le v1 v2 v3 v4 v5) H → va_D A (wMod T r mm pp xx 0 sv n1 ac ea le v1 v2 v3 v4 v5) → va_S A H0 H locs → ∀ ls : Array Slot, lv_has ls 7 [(0, .ref (r 0)), (1, .int (nI k1)), (2, .int d), (3, .int y), (4, .int z), (5, .int (nI k))] → W p l e (rmo 4 96) s m ([.ref (r 0), .int (nI k1), .int d] : List Value).toArray below meth c H locs 0 0 Q (F0 m 45 ls []) := by
          intro fuel
          induction fuel with
          | zero => intro k y z hm; exact absurd hm (Nat.not_lt_zero _)
          | succ fuel ih45 =>
            intro k y z hm45 hk hyk hy H locs hP hD hS ls hl
            refine lv_iload hx hb dX6_bestVersion_45 (lv_at hl 5 rfl) ?_
            refine lv_aload_n hx hb dX6_bestVersion_47 rfl (lv_at hl 0 rfl) ?_
            refine va_get (D := G) (ci := 6) (C := RX6) (T := TX6) (N := 14) hx hb hts iX6 hown hkx.1 hP 0 rfl rfl 0 (by decide) k7 (fun _ h9 => h9) rfl dX6_bestVersion_48 ?_
            refine lv_iconst (v := 0) hx hb dX6_bestVersion_51 (by decide) ?_
            refine ia hx hb hkx hP 1 rfl 0 rfl (by omega) (by decide) dX6_bestVersion_52 ?_
            rw [hr0]
            refine lv_icmp_ge (tgt := 130) hx hb dX6_bestVersion_53 (by decide) (fun c_6 => ?_) (fun c_6 => ?_)
            · replace c_6 := cn_le (a := (N 0)) (b := k) (by omega) (by omega) c_6
              refine lv_iload_n hx hb dX6_bestVersion_130 rfl (lv_at hl 3 rfl) ?_
              exact hret _ _ _ _ _ (show mPost G (sq (thF (nI k1) (nI (N 2))) (dyF d)) ((vsm N Z (Z 6 (tn (nI k1))) d (N 0)).1) (wMod T r mm pp xx 0 sv n1 ac ea le v1 v2 v3 v4 v5) (wMod T r mm pp xx (cmI (sq (thF (nI k1) (nI (N 2))) (dyF d))) sv n1 ac ea le v1 v2 v3 v4 v5) (some (Value.int y)) H from ⟨_, rfl, Or.inl ⟨by simp [sq, thF, wiF, seF, dyF, poF, rfF, bI, *], by simp only [ek1]; rw [show k = N 0 from by omega] at hy; rw [hy], by exact hP⟩⟩) rfl hS dX6_bestVersion_131
            · replace c_6 := cn_nle (a := (N 0)) (b := k) (by omega) (by omega) c_6
              refine lv_iload_n hx hb dX6_bestVersion_56 rfl (lv_at hl 2 rfl) ?_
              refine lv_aload_n hx hb dX6_bestVersion_57 rfl (lv_at hl 0 rfl) ?_
              refine lv_iload hx hb dX6_bestVersion_58 (lv_at hl 5 rfl) ?_
              refine ro_V S hkx (mX6_release l (v := k) (hP := hP) (hwf := hwf) (hr := hr) (hv := (by omega))) gX6_bestVersion_X6_release rfl idX6_release ⟨Nat.le_of_ble_eq_true rfl, Nat.le_of_ble_eq_true rfl⟩ hP 0 rfl rfl rfl rfl hl.1 rfl (Nat.le_of_ble_eq_true rfl) dX6_bestVersion_60 ⟨Nat.le_of_ble_eq_true rfl, Nat.le_of_ble_eq_true rfl⟩ (fun r_7 hr_7 => ?_)
              subst hr_7
              refine lv_aload_n hx hb dX6_bestVersion_63 rfl (lv_at hl 0 rfl) ?_
              refine lv_iload hx hb dX6_bestVersion_64 (lv_at hl 5 rfl) ?_
              refine ro_V S hkx (mX6_end l (v := k) (hP := hP) (hwf := hwf) (hr := hr) (hv := (by omega))) gX6_bestVersion_X6_end rfl idX6_end ⟨Nat.le_of_ble_eq_true rfl, Nat.le_of_ble_eq_true rfl⟩ hP 0 rfl rfl rfl rfl hl.1 rfl (Nat.le_of_ble_eq_true rfl) dX6_bestVersion_66 ⟨Nat.le_of_ble_eq_true rfl, Nat.le_of_ble_eq_true rfl⟩ (fun r_8 hr_8 => ?_)
              subst hr_8
              refine lv_iconst (v := 1) hx hb dX6_bestVersion_69 (by decide) ?_
              refine lv_isub hx hb dX6_bestVersion_70 ?_
              refine ro_S S hkx (mX6_in l (v := d) (x := (Z 1 k)) (z := ((Z 2 k) - 1))) gX6_bestVersion_X6_in rfl idX6_in.2 ⟨Nat.le_of_ble_eq_true rfl, Nat.le_of_ble_eq_true rfl⟩ rfl hl.1 rfl (Nat.le_of_ble_eq_true rfl) dX6_bestVersion_71 ⟨Nat.le_of_ble_eq_true rfl, Nat.le_of_ble_eq_true rfl⟩ (fun r_9 hr_9 => ?_)
              subst hr_9
              rw [aliv_W hwf (show k < N 0 by omega)]
              refine lv_if_eq (tgt := 124) hx hb dX6_bestVersion_74 (by decide) (fun c_10 => ?_) (fun c_10 => ?_)
              · replace c_10 := bI_e0 c_10
                refine lv_iinc (v := (nI (k + 1))) (lv' := [(5, .int (nI (k + 1))), (0, .ref (r 0)), (1, .int (nI k1)), (2, .int d), (3, .int y), (4, .int z)]) hx hb dX6_bestVersion_124 hl (k := 5) rfl (nI_inc k) (by decide) rfl (fun ls hl => ?_)
                refine lv_goto (tgt := 45) hx hb dX6_bestVersion_127 (by decide) ?_
                exact ih45 (k + 1) y z (by omega) (by omega) (by first | exact Or.inr ⟨k, by omega, rfl⟩ | (rcases hyk with h | ⟨j, hj, h⟩; exact Or.inl h; exact Or.inr ⟨j, by omega, h⟩)) (by rw [vsm, hy]; first | (rw [if_pos ⟨by assumption, Or.inl (by assumption)⟩]; done) | (rw [if_pos ⟨by assumption, Or.inr (by assumption)⟩]; done) | (rw [if_neg (fun q => Bool.eq_false_iff.mp (by assumption) q.1)]; done) | (rw [if_neg (fun q => q.2.elim (fun h => absurd h (by assumption)) (fun h => absurd h (by assumption)))]; done)) _ _ hP hD hS _ (lv_sub hl [1, 2, 3, 4, 5, 0] rfl)
              · replace c_10 := bI_n0 c_10
                refine lv_aload_n hx hb dX6_bestVersion_77 rfl (lv_at hl 0 rfl) ?_
                refine lv_iload_n hx hb dX6_bestVersion_78 rfl (lv_at hl 1 rfl) ?_
                refine lv_iload hx hb dX6_bestVersion_79 (lv_at hl 5 rfl) ?_
                refine lv_iload_n hx hb dX6_bestVersion_81 rfl (lv_at hl 2 rfl) ?_
                refine ro_V S hkx (mX6_missingOn l (u := k1) (v := k) (d := d) (hP := hP) (hwf := hwf) (hr := hr) (hu := (by omega)) (hv := (by omega))) gX6_bestVersion_X6_missingOn rfl idX6_missingOn ⟨Nat.le_of_ble_eq_true rfl, Nat.le_of_ble_eq_true rfl⟩ hP 0 rfl rfl rfl rfl hl.1 rfl (Nat.le_of_ble_eq_true rfl) dX6_bestVersion_82 ⟨Nat.le_of_ble_eq_true rfl, Nat.le_of_ble_eq_true rfl⟩ (fun r_11 hr_11 => ?_)
                subst hr_11
                refine ro_S S hkx (mX6_bits l (x := (uns N Z (Z 6 k1) k d))) gX6_bestVersion_X6_bits rfl idX6_bits.2 ⟨Nat.le_of_ble_eq_true rfl, Nat.le_of_ble_eq_true rfl⟩ rfl hl.1 rfl (Nat.le_of_ble_eq_true rfl) dX6_bestVersion_85 ⟨Nat.le_of_ble_eq_true rfl, Nat.le_of_ble_eq_true rfl⟩ (fun r_12 hr_12 => ?_)
                subst hr_12
                rw [bcM_uns hwf (show k1 < N 2 by omega) k d]
                refine lv_istore (lv' := [(6, .int (bc (uns N Z (Z 6 k1) k d))), (0, .ref (r 0)), (1, .int (nI k1)), (2, .int d), (3, .int y), (4, .int z), (5, .int (nI k))]) hx hb dX6_bestVersion_88 hl (by decide) rfl (fun ls hl => ?_)
                refine lv_iload_n hx hb dX6_bestVersion_90 rfl (lv_at hl 4 rfl) ?_
                refine lv_iconst (v := (-1)) hx hb dX6_bestVersion_91 (by decide) ?_
                refine lv_icmp_eq (tgt := 102) hx hb dX6_bestVersion_92 (by decide) (fun c_13 => ?_) (fun c_13 => ?_)
                · skip
                  refine lv_iload hx hb dX6_bestVersion_102 (lv_at hl 6 rfl) ?_
                  refine lv_goto (tgt := 108) hx hb dX6_bestVersion_104 (by decide) ?_
                  refine lv_istore_n (lv' := [(3, .int (nI k)), (6, .int (bc (uns N Z (Z 6 k1) k d))), (0, .ref (r 0)), (1, .int (nI k1)), (2, .int d), (4, .int z), (5, .int (nI k))]) hx hb dX6_bestVersion_108 rfl hl (by decide) rfl (fun ls hl => ?_)
                  refine lv_iload_n hx hb dX6_bestVersion_109 rfl (lv_at hl 0 rfl) ?_
                  refine lv_iload hx hb dX6_bestVersion_110 (lv_at hl 6 rfl) ?_
                  refine lv_icmp_ne (tgt := 120) hx hb dX6_bestVersion_112 (by decide) (fun c_14 => ?_) (fun c_14 => ?_)
                  · replace c_14 := cn_ne (a := k) (b := k) (by omega) (by omega) c_14
                    exact absurd rfl c_14
                  · replace c_14 := cn_eq (a := k) (b := k) (by omega) (by omega) c_14
                    refine lv_iload hx hb dX6_bestVersion_115 (lv_at hl 1 rfl) ?_
                    refine lv_goto (tgt := 122) hx hb dX6_bestVersion_117 (by decide) ?_
                    refine lv_istore (lv' := [(4, .int (bc (uns N Z (Z 6 k1) k d))), (3, .int (nI k)), (6, .int (bc (uns N Z (Z 6 k1) k d))), (0, .ref (r 0)), (1, .int (nI k1)), (2, .int d), (5, .int (nI k))]) hx hb dX6_bestVersion_122 hl (by decide) rfl (fun ls hl => ?_)
                    refine lv_iinc (v := (nI (k + 1))) (lv' := [(5, .int (nI (k + 1))), (4, .int (bc (uns N Z (Z 6 k1) k d))), (3, .int (nI k)), (6, .int (bc (uns N Z (Z 6 k1) k d))), (0, .ref (r 0)), (1, .int (nI k1)), (2, .int d)]) hx hb dX6_bestVersion_124 hl (k := 6) rfl (nI_inc k) (by decide) rfl (fun ls hl => ?_)
                    refine lv_goto (tgt := 45) hx hb dX6_bestVersion_127 (by decide) ?_
                    exact ih45 (k + 1) (nI k) (bc (uns N Z (Z 6 k1) k d)) (by omega) (by omega) (by first | exact Or.inr ⟨k, by omega, rfl⟩ | (rcases hyk with h | ⟨j, hj, h⟩; exact Or.inl h; exact Or.inr ⟨j, by omega, h⟩)) (by rw [vsm, hy]; first | (rw [if_pos ⟨by assumption, Or.inl (by assumption)⟩]; done) | (rw [if_pos ⟨by assumption, Or.inr (by assumption)⟩]; done) | (rw [if_neg (fun q => Bool.eq_false_iff.mp (by assumption) q.1)]; done) | (rw [if_neg (fun q => q.2.elim (fun h => absurd h (by assumption)) (fun h => absurd h (by assumption)))]; done)) _ _ hP hD hS _ (lv_sub hl [4, 5, 6, 2, 1, 0] rfl)
                · skip
                  refine lv_iload hx hb dX6_bestVersion_95 (lv_at hl 0 rfl) ?_
                  refine lv_iload hx hb dX6_bestVersion_97 (lv_at hl 5 rfl) ?_
                  refine lv_icmp_ge (tgt := 107) hx hb dX6_bestVersion_99 (by decide) (fun c_15 => ?_) (fun c_15 => ?_)
                  · have c_15n := Int32.not_lt.mpr c_15
                    refine lv_iload_n hx hb dX6_bestVersion_107 rfl (lv_at hl 4 rfl) ?_
                    refine lv_istore_n (lv' := [(3, .int y), (6, .int (bc (uns N Z (Z 6 k1) k d))), (0, .ref (r 0)), (1, .int (nI k1)), (2, .int d), (4, .int z), (5, .int (nI k))]) hx hb dX6_bestVersion_108 rfl hl (by decide) rfl (fun ls hl => ?_)
                    refine lv_iload_n hx hb dX6_bestVersion_109 rfl (lv_at hl 0 rfl) ?_
                    refine lv_iload hx hb dX6_bestVersion_110 (lv_at hl 6 rfl) ?_
                    refine lv_icmp_ne (tgt := 120) hx hb dX6_bestVersion_112 (by decide) (fun c_16 => ?_) (fun c_16 => ?_)
                    · skip
                      refine lv_iload hx hb dX6_bestVersion_120 (lv_at hl 5 rfl) ?_
                      refine lv_istore (lv' := [(4, .int z), (3, .int y), (6, .int (bc (uns N Z (Z 6 k1) k d))), (0, .ref (r 0)), (1, .int (nI k1)), (2, .int d), (5, .int (nI k))]) hx hb dX6_bestVersion_122 hl (by decide) rfl (fun ls hl => ?_)
                      refine lv_iinc (v := (nI (k + 1))) (lv' := [(5, .int (nI (k + 1))), (4, .int z), (3, .int y), (6, .int (bc (uns N Z (Z 6 k1) k d))), (0, .ref (r 0)), (1, .int (nI k1)), (2, .int d)]) hx hb dX6_bestVersion_124 hl (k := 6) rfl (nI_inc k) (by decide) rfl (fun ls hl => ?_)
                      refine lv_goto (tgt := 45) hx hb dX6_bestVersion_127 (by decide) ?_
                      exact ih45 (k + 1) y z (by omega) (by omega) (by first | exact Or.inr ⟨k, by omega, rfl⟩ | (rcases hyk with h | ⟨j, hj, h⟩; exact Or.inl h; exact Or.inr ⟨j, by omega, h⟩)) (by rw [vsm, hy]; first | (rw [if_pos ⟨by assumption, Or.inl (by assumption)⟩]; done) | (rw [if_pos ⟨by assumption, Or.inr (by assumption)⟩]; done) | (rw [if_neg (fun q => Bool.eq_false_iff.mp (by assumption) q.1)]; done) | (rw [if_neg (fun q => q.2.elim (fun h => absurd h (by assumption)) (fun h => absurd h (by assumption)))]; done)) _ _ hP hD hS _ (lv_sub hl [4, 5, 6, 2, 1, 0] rfl)
                    · skip
                      exact absurd c_16 (by rcases hyk with h | ⟨j, hj, h⟩; rw [h]; exact fun q => nIm1 (k := k) (by omega) q.symm; rw [h]; exact fun q => absurd ((nI_eq (by omega) (by omega)).mp q) (by omega))
                  · have c_15n := Int32.not_le.mp c_15
                    refine lv_iload hx hb dX6_bestVersion_102 (lv_at hl 6 rfl) ?_
                    refine lv_goto (tgt := 108) hx hb dX6_bestVersion_104 (by decide) ?_
                    refine lv_istore_n (lv' := [(3, .int (nI k)), (6, .int (bc (uns N Z (Z 6 k1) k d))), (0, .ref (r 0)), (1, .int (nI k1)), (2, .int d), (4, .int z), (5, .int (nI k))]) hx hb dX6_bestVersion_108 rfl hl (by decide) rfl (fun ls hl => ?_)
                    refine lv_iload_n hx hb dX6_bestVersion_109 rfl (lv_at hl 0 rfl) ?_
                    refine lv_iload hx hb dX6_bestVersion_110 (lv_at hl 6 rfl) ?_
                    refine lv_icmp_ne (tgt := 120) hx hb dX6_bestVersion_112 (by decide) (fun c_17 => ?_) (fun c_17 => ?_)
                    · replace c_17 := cn_ne (a := k) (b := k) (by omega) (by omega) c_17
                      exact absurd rfl c_17
                    · replace c_17 := cn_eq (a := k) (b := k) (by omega) (by omega) c_17
                      refine lv_iload hx hb dX6_bestVersion_115 (lv_at hl 1 rfl) ?_
                      refine lv_goto (tgt := 122) hx hb dX6_bestVersion_117 (by decide) ?_
                      refine lv_istore (lv' := [(4, .int (bc (uns N Z (Z 6 k1) k d))), (3, .int (nI k)), (6, .int (bc (uns N Z (Z 6 k1) k d))), (0, .ref (r 0)), (1, .int (nI k1)), (2, .int d), (5, .int (nI k))]) hx hb dX6_bestVersion_122 hl (by decide) rfl (fun ls hl => ?_)
                      refine lv_iinc (v := (nI (k + 1))) (lv' := [(5, .int (nI (k + 1))), (4, .int (bc (uns N Z (Z 6 k1) k d))), (3, .int (nI k)), (6, .int (bc (uns N Z (Z 6 k1) k d))), (0, .ref (r 0)), (1, .int (nI k1)), (2, .int d)]) hx hb dX6_bestVersion_124 hl (k := 6) rfl (nI_inc k) (by decide) rfl (fun ls hl => ?_)
                      refine lv_goto (tgt := 45) hx hb dX6_bestVersion_127 (by decide) ?_
                      exact ih45 (k + 1) (nI k) (bc (uns N Z (Z 6 k1) k d)) (by omega) (by omega) (by first | exact Or.inr ⟨k, by omega, rfl⟩ | (rcases hyk with h | ⟨j, hj, h⟩; exact Or.inl h; exact Or.inr ⟨j, by omega, h⟩)) (by rw [vsm, hy]; first | (rw [if_pos ⟨by assumption, Or.inl (by assumption)⟩]; done) | (rw [if_pos ⟨by assumption, Or.inr (by assumption)⟩]; done) | (rw [if_neg (fun q => Bool.eq_false_iff.mp (by assumption) q.1)]; done) | (rw [if_neg (fun q => q.2.elim (fun h => absurd h (by assumption)) (fun h => absurd h (by assumption)))]; done)) _ _ hP hD hS _ (lv_sub hl [4, 5, 6, 2, 1, 0] rfl)
        exact L45 _ 0 (-1) 0 (Nat.lt_succ_self _) (by omega) (by exact Or.inl rfl) (by rfl) _ _ hP hD hS _ (lv_sub hl [3, 4, 5, 2, 1, 0] rfl)
      · replace c_5 := cn_nle (a := 0) (b := 0) (by omega) (by omega) c_5
        exact absurd c_5 (by decide)
    · replace c_4 := bI_e0 c_4
      refine lv_iconst (v := 2) hx hb dX6_bestVersion_20 (by decide) ?_
      refine lv_goto (tgt := 25) hx hb dX6_bestVersion_21 (by decide) ?_
      refine va_put (D := G) (ci := 6) (v := .int 2) (ty := .int) (C := RX6) (T := TX6) (N := 14) hx hb hts iX6 tyX6 tyX6_ok nmX6 hown hkx.1 hP hD hS 0 rfl rfl 1 (by decide) k19 (fun _ h9 => h9) rfl (by decide +kernel) rfl rfl (Nat.le_of_ble_eq_true rfl) dX6_bestVersion_25 (fun H locs hP hD hS => ?_)
      have hP : va_P G vwCl (wMod T r mm pp xx 2 sv n1 ac ea le v1 v2 v3 v4 v5) H := hP
      have hD : va_D A (wMod T r mm pp xx 2 sv n1 ac ea le v1 v2 v3 v4 v5) := hD
      refine lv_aload_n hx hb dX6_bestVersion_28 rfl (lv_at hl 0 rfl) ?_
      refine va_get (D := G) (ci := 6) (C := RX6) (T := TX6) (N := 14) hx hb hts iX6 hown hkx.1 hP 0 rfl rfl 1 (by decide) k19 (fun _ h9 => h9) rfl dX6_bestVersion_29 ?_
      refine lv_if_le (tgt := 37) hx hb dX6_bestVersion_32 (by decide) (fun c_18 => ?_) (fun c_18 => ?_)
      · replace c_18 := cn_le (a := 2) (b := 0) (by omega) (by omega) c_18
        exact absurd c_18 (by decide)
      · replace c_18 := cn_nle (a := 2) (b := 0) (by omega) (by omega) c_18
        refine lv_iconst (v := 0) hx hb dX6_bestVersion_35 (by decide) ?_
        exact hret _ _ _ _ _ (show mPost G (sq (thF u (nI (N 2))) (dyF d)) ((vsm N Z (Z 6 (tn u)) d (N 0)).1) (wMod T r mm pp xx 0 sv n1 ac ea le v1 v2 v3 v4 v5) (wMod T r mm pp xx (cmI (sq (thF u (nI (N 2))) (dyF d))) sv n1 ac ea le v1 v2 v3 v4 v5) (some (Value.int 0)) H from ⟨_, rfl, Or.inr ⟨by simp [sq, thF, wiF, seF, dyF, poF, rfF, bI, *], by rw [show (cmI (sq (thF u (nI (N 2))) (dyF d))) = 2 by simp [sq, thF, wiF, seF, dyF, poF, rfF, bI, cmI, cmA, cmB, cmS, nIl1, nIl2, nIl3, *]]; exact hP⟩⟩) rfl hS dX6_bestVersion_36
  · replace c_2 := bI_e0 c_2
    refine lv_iconst (v := 1) hx hb dX6_bestVersion_9 (by decide) ?_
    refine lv_goto (tgt := 25) hx hb dX6_bestVersion_10 (by decide) ?_
    refine va_put (D := G) (ci := 6) (v := .int 1) (ty := .int) (C := RX6) (T := TX6) (N := 14) hx hb hts iX6 tyX6 tyX6_ok nmX6 hown hkx.1 hP hD hS 0 rfl rfl 1 (by decide) k19 (fun _ h9 => h9) rfl (by decide +kernel) rfl rfl (Nat.le_of_ble_eq_true rfl) dX6_bestVersion_25 (fun H locs hP hD hS => ?_)
    have hP : va_P G vwCl (wMod T r mm pp xx 1 sv n1 ac ea le v1 v2 v3 v4 v5) H := hP
    have hD : va_D A (wMod T r mm pp xx 1 sv n1 ac ea le v1 v2 v3 v4 v5) := hD
    refine lv_aload_n hx hb dX6_bestVersion_28 rfl (lv_at hl 0 rfl) ?_
    refine va_get (D := G) (ci := 6) (C := RX6) (T := TX6) (N := 14) hx hb hts iX6 hown hkx.1 hP 0 rfl rfl 1 (by decide) k19 (fun _ h9 => h9) rfl dX6_bestVersion_29 ?_
    refine lv_if_le (tgt := 37) hx hb dX6_bestVersion_32 (by decide) (fun c_19 => ?_) (fun c_19 => ?_)
    · replace c_19 := cn_le (a := 1) (b := 0) (by omega) (by omega) c_19
      exact absurd c_19 (by decide)
    · replace c_19 := cn_nle (a := 1) (b := 0) (by omega) (by omega) c_19
      refine lv_iconst (v := 0) hx hb dX6_bestVersion_35 (by decide) ?_
      exact hret _ _ _ _ _ (show mPost G (sq (thF u (nI (N 2))) (dyF d)) ((vsm N Z (Z 6 (tn u)) d (N 0)).1) (wMod T r mm pp xx 0 sv n1 ac ea le v1 v2 v3 v4 v5) (wMod T r mm pp xx (cmI (sq (thF u (nI (N 2))) (dyF d))) sv n1 ac ea le v1 v2 v3 v4 v5) (some (Value.int 0)) H from ⟨_, rfl, Or.inr ⟨by simp [sq, thF, wiF, seF, dyF, poF, rfF, bI, *], by rw [show (cmI (sq (thF u (nI (N 2))) (dyF d))) = 1 by simp [sq, thF, wiF, seF, dyF, poF, rfF, bI, cmI, cmA, cmB, cmS, nIl1, nIl2, nIl3, *]]; exact hP⟩⟩) rfl hS dX6_bestVersion_36
