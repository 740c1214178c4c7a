theorem idX5_dropOldestState : yX5_dropOldestState.cls = RX5 ∧ yX5_dropOldestState.cls ≠ "java/lang/invoke/MethodHandle" ∧ yX5_dropOldestState.cls ≠ "java/lang/invoke/VarHandle" ∧ (parseMethodDescriptor yX5_dropOldestState.desc).map (fun d => d.parameters.length) = some 0 := by decide +kernel

set_option maxHeartbeats 4000000 in
set_option maxRecDepth 100000 in
theorem mX5_dropOldestState (l : Launch) {G : va_G} {T : Nat → ClassId} {H0 : Heap} {q : Nat → Nat} {a : Nat → Nat} {N : Nat → Nat} {Z : Nat → Nat → Int32} {b : Nat → Nat → Nat} {M : Nat → Nat → Nat} {Y : Nat → Nat → Nat → Int32} {sc : Nat} {tx : Nat → Int32} {L : Nat} {cu : Nat} {er : Int32} {le : Int32} {nb : Nat → Int32} {nc : Nat} (hP : va_P G vwCl (wMain T q a N Z b M Y sc tx L cu er le nb nc) H0) (hD : va_D (fun _ => True) (wMain T q a N Z b M Y sc tx L cu er le nb nc)) (hsc : 0 < sc) (hs4 : sc ≤ 4) : mu l yX5_dropOldestState wsX5_dropOldestState 0 0 [.ref (q 0)] G T H0 (wMain T q a N Z b M Y sc tx L cu er le nb nc) (fun v9 H9 => v9 = none ∧ va_P G vwCl (wMain T q a N Z (rot b) (rot M) (rot Y) (sc - 1) tx L cu er le nb nc) H9) := by
  refine mu_ofv (cc := cX5_dropOldestState) (maxL := 3) (own := RX5) (by decide +kernel) rfl rfl (Nat.le_of_ble_eq_true rfl) hD ?_
  intro p e s m below meth c Q ls A S hkx hl hD hS hA hret
  obtain ⟨hx, hb, hml, hown, hts⟩ := id S
  have hl : lv_has ls 3 [(0, .ref (q 0))] := hl
  have k16 := hts (.fieldLink RX5 16 "SunsetDates" "saved" "[LSunsetDates$Calendar;") (by decide +kernel)
  have iX5 : ∀ w ∈ wsX50, w ∈ wsX5_dropOldestState := by decide +kernel
  have k20 := hts (.fieldLink RX5 20 "SunsetDates" "savedCount" "I") (by decide +kernel)
  refine lv_aload_n hx hb dX5_dropOldestState_0 rfl (lv_at hl 0 rfl) ?_
  refine va_get (D := G) (ci := 5) (C := RX5) (T := TX5) (N := 4) hx hb hts iX5 hown hkx.1 hP 0 rfl rfl 1 (by decide) k16 (fun _ h9 => h9) rfl dX5_dropOldestState_1 ?_
  refine lv_iconst (v := 0) hx hb dX5_dropOldestState_4 (by decide) ?_
  refine aq hx hb hkx hP 1 rfl 0 rfl (by omega) (by decide) dX5_dropOldestState_5 ?_
  refine W.eq (g2 := F0 m 6 ls [.ref (b 0 0)]) rfl ?_
  refine lv_astore_n (lv' := [(1, .ref (b 0 0)), (0, .ref (q 0))]) hx hb dX5_dropOldestState_6 rfl hl (by decide) rfl (fun ls hl => ?_)
  refine lv_iconst (v := 1) hx hb dX5_dropOldestState_7 (by decide) ?_
  refine lv_istore_n (lv' := [(2, .int 1), (1, .ref (b 0 0)), (0, .ref (q 0))]) hx hb dX5_dropOldestState_8 rfl hl (by decide) rfl (fun ls hl => ?_)
  refine lv_iload_n hx hb dX5_dropOldestState_9 rfl (lv_at hl 0 rfl) ?_
  refine lv_aload_n hx hb dX5_dropOldestState_10 rfl (lv_at hl 2 rfl) ?_
  refine va_get (D := G) (ci := 5) (C := RX5) (T := TX5) (N := 4) hx hb hts iX5 hown hkx.1 hP 0 rfl rfl 1 (by decide) k16 (fun _ h9 => h9) rfl dX5_dropOldestState_11 ?_
  refine aln hx hb hkx hP 1 2 rfl rfl dX5_dropOldestState_14 ?_
  refine lv_icmp_ge (tgt := 38) hx hb dX5_dropOldestState_15 (by decide) (fun c_1 => ?_) (fun c_1 => ?_)
  · replace c_1 := cn_le (a := 4) (b := 1) (by omega) (by omega) c_1
    exact absurd c_1 (by decide)
  · replace c_1 := cn_nle (a := 4) (b := 1) (by omega) (by omega) c_1
    refine lv_aload_n hx hb dX5_dropOldestState_18 rfl (lv_at hl 2 rfl) ?_
    refine va_get (D := G) (ci := 5) (C := RX5) (T := TX5) (N := 4) hx hb hts iX5 hown hkx.1 hP 0 rfl rfl 1 (by decide) k16 (fun _ h9 => h9) rfl dX5_dropOldestState_19 ?_
    refine lv_iload_n hx hb dX5_dropOldestState_22 rfl (lv_at hl 0 rfl) ?_
    refine lv_iconst (v := 1) hx hb dX5_dropOldestState_23 (by decide) ?_
    refine lv_isub hx hb dX5_dropOldestState_24 ?_
    rw [show (1 - 1) = (nI (1 - 1)) from pk_sub (a := 1) (b := 1) (by omega)]
    refine lv_aload_n hx hb dX5_dropOldestState_25 rfl (lv_at hl 2 rfl) ?_
    refine va_get (D := G) (ci := 5) (C := RX5) (T := TX5) (N := 4) hx hb hts iX5 hown hkx.1 hP 0 rfl rfl 1 (by decide) k16 (fun _ h9 => h9) rfl dX5_dropOldestState_26 ?_
    refine lv_iload_n hx hb dX5_dropOldestState_29 rfl (lv_at hl 0 rfl) ?_
    refine aq hx hb hkx hP 1 rfl 1 rfl (by omega) (by decide) dX5_dropOldestState_30 ?_
    refine W.eq (g2 := F0 m 31 ls [.ref (b 1 0), .int (nI (1 - 1)), .ref (q 1)]) rfl ?_
    refine aqs hx hb hkx hP hD hS 1 43 rfl rfl (1 - 1) rfl (by omega) (by decide) dX5_dropOldestState_31 (fun H locs hP hD hS => ?_)
    have hP : va_P G vwCl (wMainR T q a N Z b M Y sc tx L cu er le nb nc (va_up (fun i => some (b i 0)) (1 - 1) (some (b 1 0)))) H := hP
    have hD : va_D A (wMainR T q a N Z b M Y sc tx L cu er le nb nc (va_up (fun i => some (b i 0)) (1 - 1) (some (b 1 0)))) := hD
    refine lv_iinc (v := (nI 2)) (lv' := [(2, .int (nI 2)), (1, .ref (b 0 0)), (0, .ref (q 0))]) hx hb dX5_dropOldestState_32 hl (k := 0) rfl (nI_inc 1) (by decide) rfl (fun ls hl => ?_)
    refine lv_goto (tgt := 9) hx hb dX5_dropOldestState_35 (by decide) ?_
    refine lv_iload_n hx hb dX5_dropOldestState_9 rfl (lv_at hl 0 rfl) ?_
    refine lv_aload_n hx hb dX5_dropOldestState_10 rfl (lv_at hl 2 rfl) ?_
    refine va_get (D := G) (ci := 5) (C := RX5) (T := TX5) (N := 4) hx hb hts iX5 hown hkx.1 hP 0 rfl rfl 1 (by decide) k16 (fun _ h9 => h9) rfl dX5_dropOldestState_11 ?_
    refine aln hx hb hkx hP 1 2 rfl rfl dX5_dropOldestState_14 ?_
    refine lv_icmp_ge (tgt := 38) hx hb dX5_dropOldestState_15 (by decide) (fun c_2 => ?_) (fun c_2 => ?_)
    · replace c_2 := cn_le (a := 4) (b := 2) (by omega) (by omega) c_2
      exact absurd c_2 (by decide)
    · replace c_2 := cn_nle (a := 4) (b := 2) (by omega) (by omega) c_2
      refine lv_aload_n hx hb dX5_dropOldestState_18 rfl (lv_at hl 2 rfl) ?_
      refine va_get (D := G) (ci := 5) (C := RX5) (T := TX5) (N := 4) hx hb hts iX5 hown hkx.1 hP 0 rfl rfl 1 (by decide) k16 (fun _ h9 => h9) rfl dX5_dropOldestState_19 ?_
      refine lv_iload_n hx hb dX5_dropOldestState_22 rfl (lv_at hl 0 rfl) ?_
      refine lv_iconst (v := 1) hx hb dX5_dropOldestState_23 (by decide) ?_
      refine lv_isub hx hb dX5_dropOldestState_24 ?_
      rw [show ((nI 2) - 1) = (nI (2 - 1)) from pk_sub (a := 2) (b := 1) (by omega)]
      refine lv_aload_n hx hb dX5_dropOldestState_25 rfl (lv_at hl 2 rfl) ?_
      refine va_get (D := G) (ci := 5) (C := RX5) (T := TX5) (N := 4) hx hb hts iX5 hown hkx.1 hP 0 rfl rfl 1 (by decide) k16 (fun _ h9 => h9) rfl dX5_dropOldestState_26 ?_
      refine lv_iload_n hx hb dX5_dropOldestState_29 rfl (lv_at hl 0 rfl) ?_
      refine aq hx hb hkx hP 1 rfl 2 rfl (by omega) (by decide) dX5_dropOldestState_30 ?_
      refine W.eq (g2 := F0 m 31 ls [.ref (b 2 0), .int (nI (2 - 1)), .ref (q 1)]) rfl ?_
      refine aqs hx hb hkx hP hD hS 1 62 rfl rfl (2 - 1) rfl (by omega) (by decide) dX5_dropOldestState_31 (fun H locs hP hD hS => ?_)
      have hP : va_P G vwCl (wMainR T q a N Z b M Y sc tx L cu er le nb nc (va_up (va_up (fun i => some (b i 0)) (1 - 1) (some (b 1 0))) (2 - 1) (some (b 2 0)))) H := hP
      have hD : va_D A (wMainR T q a N Z b M Y sc tx L cu er le nb nc (va_up (va_up (fun i => some (b i 0)) (1 - 1) (some (b 1 0))) (2 - 1) (some (b 2 0)))) := hD
      refine lv_iinc (v := (nI 3)) (lv' := [(2, .int (nI 3)), (1, .ref (b 0 0)), (0, .ref (q 0))]) hx hb dX5_dropOldestState_32 hl (k := 0) rfl (nI_inc 2) (by decide) rfl (fun ls hl => ?_)
      refine lv_goto (tgt := 9) hx hb dX5_dropOldestState_35 (by decide) ?_
      refine lv_iload_n hx hb dX5_dropOldestState_9 rfl (lv_at hl 0 rfl) ?_
      refine lv_aload_n hx hb dX5_dropOldestState_10 rfl (lv_at hl 2 rfl) ?_
      refine va_get (D := G) (ci := 5) (C := RX5) (T := TX5) (N := 4) hx hb hts iX5 hown hkx.1 hP 0 rfl rfl 1 (by decide) k16 (fun _ h9 => h9) rfl dX5_dropOldestState_11 ?_
      refine aln hx hb hkx hP 1 2 rfl rfl dX5_dropOldestState_14 ?_
      refine lv_icmp_ge (tgt := 38) hx hb dX5_dropOldestState_15 (by decide) (fun c_3 => ?_) (fun c_3 => ?_)
      · replace c_3 := cn_le (a := 4) (b := 3) (by omega) (by omega) c_3
        exact absurd c_3 (by decide)
      · replace c_3 := cn_nle (a := 4) (b := 3) (by omega) (by omega) c_3
        refine lv_aload_n hx hb dX5_dropOldestState_18 rfl (lv_at hl 2 rfl) ?_
        refine va_get (D := G) (ci := 5) (C := RX5) (T := TX5) (N := 4) hx hb hts iX5 hown hkx.1 hP 0 rfl rfl 1 (by decide) k16 (fun _ h9 => h9) rfl dX5_dropOldestState_19 ?_
        refine lv_iload_n hx hb dX5_dropOldestState_22 rfl (lv_at hl 0 rfl) ?_
        refine lv_iconst (v := 1) hx hb dX5_dropOldestState_23 (by decide) ?_
        refine lv_isub hx hb dX5_dropOldestState_24 ?_
        rw [show ((nI 3) - 1) = (nI (3 - 1)) from pk_sub (a := 3) (b := 1) (by omega)]
        refine lv_aload_n hx hb dX5_dropOldestState_25 rfl (lv_at hl 2 rfl) ?_
        refine va_get (D := G) (ci := 5) (C := RX5) (T := TX5) (N := 4) hx hb hts iX5 hown hkx.1 hP 0 rfl rfl 1 (by decide) k16 (fun _ h9 => h9) rfl dX5_dropOldestState_26 ?_
        refine lv_iload_n hx hb dX5_dropOldestState_29 rfl (lv_at hl 0 rfl) ?_
        refine aq hx hb hkx hP 1 rfl 3 rfl (by omega) (by decide) dX5_dropOldestState_30 ?_
        refine W.eq (g2 := F0 m 31 ls [.ref (b 3 0), .int (nI (3 - 1)), .ref (q 1)]) rfl ?_
        refine aqs hx hb hkx hP hD hS 1 81 rfl rfl (3 - 1) rfl (by omega) (by decide) dX5_dropOldestState_31 (fun H locs hP hD hS => ?_)
        have hP : va_P G vwCl (wMainR T q a N Z b M Y sc tx L cu er le nb nc (va_up (va_up (va_up (fun i => some (b i 0)) (1 - 1) (some (b 1 0))) (2 - 1) (some (b 2 0))) (3 - 1) (some (b 3 0)))) H := hP
        have hD : va_D A (wMainR T q a N Z b M Y sc tx L cu er le nb nc (va_up (va_up (va_up (fun i => some (b i 0)) (1 - 1) (some (b 1 0))) (2 - 1) (some (b 2 0))) (3 - 1) (some (b 3 0)))) := hD
        refine lv_iinc (v := (nI 4)) (lv' := [(2, .int (nI 4)), (1, .ref (b 0 0)), (0, .ref (q 0))]) hx hb dX5_dropOldestState_32 hl (k := 0) rfl (nI_inc 3) (by decide) rfl (fun ls hl => ?_)
        refine lv_goto (tgt := 9) hx hb dX5_dropOldestState_35 (by decide) ?_
        refine lv_iload_n hx hb dX5_dropOldestState_9 rfl (lv_at hl 0 rfl) ?_
        refine lv_aload_n hx hb dX5_dropOldestState_10 rfl (lv_at hl 2 rfl) ?_
        refine va_get (D := G) (ci := 5) (C := RX5) (T := TX5) (N := 4) hx hb hts iX5 hown hkx.1 hP 0 rfl rfl 1 (by decide) k16 (fun _ h9 => h9) rfl dX5_dropOldestState_11 ?_
        refine aln hx hb hkx hP 1 2 rfl rfl dX5_dropOldestState_14 ?_
        refine lv_icmp_ge (tgt := 38) hx hb dX5_dropOldestState_15 (by decide) (fun c_4 => ?_) (fun c_4 => ?_)
        · replace c_4 := cn_le (a := 4) (b := 4) (by omega) (by omega) c_4
          refine lv_aload_n hx hb dX5_dropOldestState_38 rfl (lv_at hl 2 rfl) ?_
          refine va_get (D := G) (ci := 5) (C := RX5) (T := TX5) (N := 4) hx hb hts iX5 hown hkx.1 hP 0 rfl rfl 1 (by decide) k16 (fun _ h9 => h9) rfl dX5_dropOldestState_39 ?_
          refine lv_aload_n hx hb dX5_dropOldestState_42 rfl (lv_at hl 2 rfl) ?_
          refine va_get (D := G) (ci := 5) (C := RX5) (T := TX5) (N := 4) hx hb hts iX5 hown hkx.1 hP 0 rfl rfl 1 (by decide) k16 (fun _ h9 => h9) rfl dX5_dropOldestState_43 ?_
          refine aln hx hb hkx hP 1 2 rfl rfl dX5_dropOldestState_46 ?_
          refine lv_iconst (v := 1) hx hb dX5_dropOldestState_47 (by decide) ?_
          refine lv_isub hx hb dX5_dropOldestState_48 ?_
          rw [show ((nI 4) - 1) = (nI (4 - 1)) from pk_sub (a := 4) (b := 1) (by omega)]
          refine lv_aload_n hx hb dX5_dropOldestState_49 rfl (lv_at hl 1 rfl) ?_
          refine aqs hx hb hkx hP hD hS 1 24 rfl rfl (4 - 1) rfl (by omega) (by decide) dX5_dropOldestState_50 (fun H locs hP hD hS => ?_)
          have hP : va_P G vwCl (wMainR T q a N Z b M Y sc tx L cu er le nb nc (va_up (va_up (va_up (va_up (fun i => some (b i 0)) (1 - 1) (some (b 1 0))) (2 - 1) (some (b 2 0))) (3 - 1) (some (b 3 0))) (4 - 1) (some (b 0 0)))) H := hP
          have hD : va_D A (wMainR T q a N Z b M Y sc tx L cu er le nb nc (va_up (va_up (va_up (va_up (fun i => some (b i 0)) (1 - 1) (some (b 1 0))) (2 - 1) (some (b 2 0))) (3 - 1) (some (b 3 0))) (4 - 1) (some (b 0 0)))) := hD
          refine lv_aload_n hx hb dX5_dropOldestState_51 rfl (lv_at hl 2 rfl) ?_
          refine lv_dup hx hb dX5_dropOldestState_52 rfl ?_
          refine va_get (D := G) (ci := 5) (C := RX5) (T := TX5) (N := 4) hx hb hts iX5 hown hkx.1 hP 0 rfl rfl 2 (by decide) k20 (fun _ h9 => h9) rfl dX5_dropOldestState_53 ?_
          refine lv_iconst (v := 1) hx hb dX5_dropOldestState_56 (by decide) ?_
          refine lv_isub hx hb dX5_dropOldestState_57 ?_
          rw [show ((nI sc) - 1) = (nI (sc - 1)) from pk_sub (a := sc) (b := 1) (by omega)]
          refine va_put (D := G) (ci := 5) (v := .int (nI (sc - 1))) (ty := .int) (C := RX5) (T := TX5) (N := 4) hx hb hts iX5 tyX5 tyX5_ok nmX5 hown hkx.1 hP hD hS 0 rfl rfl 2 (by decide) k20 (fun _ h9 => h9) rfl (by decide +kernel) rfl rfl (Nat.le_of_ble_eq_true rfl) dX5_dropOldestState_58 (fun H locs hP hD hS => ?_)
          have hP : va_P G vwCl (wMainR T q a N Z b M Y (sc - 1) tx L cu er le nb nc (va_up (va_up (va_up (va_up (fun i => some (b i 0)) (1 - 1) (some (b 1 0))) (2 - 1) (some (b 2 0))) (3 - 1) (some (b 3 0))) (4 - 1) (some (b 0 0)))) H := hP
          have hD : va_D A (wMainR T q a N Z b M Y (sc - 1) tx L cu er le nb nc (va_up (va_up (va_up (va_up (fun i => some (b i 0)) (1 - 1) (some (b 1 0))) (2 - 1) (some (b 2 0))) (3 - 1) (some (b 3 0))) (4 - 1) (some (b 0 0)))) := hD
          exact hret _ _ _ _ (show (none : Option Value) = none ∧ va_P G vwCl (wMain T q a N Z (rot b) (rot M) (rot Y) (sc - 1) tx L cu er le nb nc) H from ⟨rfl, (by
                  have h1 := P_rowq hP 1 (g := fun i => some (rot b i 0)) rfl (by
                    intro k hk
                    rcases (show k = 0 ∨ k = 1 ∨ k = 2 ∨ k = 3 by omega) with rfl | rfl | rfl | rfl <;> rfl)
                  exact P_perm (w := wMainR T q a N Z b M Y (sc - 1) tx L cu er le nb nc (fun i => some (rot b i 0))) h1 (List.Perm.append_left _ (List.Perm.append_left _ (rot_perm b M Y))))⟩) hS dX5_dropOldestState_61
        · replace c_4 := cn_nle (a := 4) (b := 4) (by omega) (by omega) c_4
          exact absurd c_4 (by decide)

theorem idX5_saveState : yX5_saveState.cls = RX5 ∧ yX5_saveState.cls ≠ "java/lang/invoke/MethodHandle" ∧ yX5_saveState.cls ≠ "java/lang/invoke/VarHandle" ∧ (parseMethodDescriptor yX5_saveState.desc).map (fun d => d.parameters.length) = some 0 := by decide +kernel

set_option maxHeartbeats 4000000 in
set_option maxRecDepth 100000 in
theorem mX5_saveState (l : Launch) {G : va_G} {T : Nat → ClassId} {H0 : Heap} {q : Nat → Nat} {a : Nat → Nat} {N : Nat → Nat} {Z : Nat → Nat → Int32} {b : Nat → Nat → Nat} {M : Nat → Nat → Nat} {Y : Nat → Nat → Nat → Int32} {sc : Nat} {tx : Nat → Int32} {L : Nat} {cu : Nat} {er : Int32} {le : Int32} {nb : Nat → Int32} {nc : Nat} (hP : va_P G vwCl (wMain T q a N Z b M Y sc tx L cu er le nb nc) H0) (hD : va_D (fun _ => True) (wMain T q a N Z b M Y sc tx L cu er le nb nc)) (hsc : sc ≤ 4) : mu l yX5_saveState wsX5_saveState 3 102 [.ref (q 0)] G T H0 (wMain T q a N Z b M Y sc tx L cu er le nb nc) (fun v9 H9 => v9 = none ∧ va_P G vwCl (wMain T q a N Z (svB sc b) (psh sc M N) (psh sc Y Z) (svC sc) tx L cu er le nb nc) H9) := by
  refine mu_ofv (cc := cX5_saveState) (maxL := 1) (own := RX5) (by decide +kernel) rfl rfl (Nat.le_of_ble_eq_true rfl) hD ?_
  intro p e s m below meth c Q ls A S hkx hl hD hS hA hret
  obtain ⟨hx, hb, hml, hown, hts⟩ := id S
  have hl : lv_has ls 1 [(0, .ref (q 0))] := hl
  have k20 := hts (.fieldLink RX5 20 "SunsetDates" "savedCount" "I") (by decide +kernel)
  have iX5 : ∀ w ∈ wsX50, w ∈ wsX5_saveState := by decide +kernel
  have k16 := hts (.fieldLink RX5 16 "SunsetDates" "saved" "[LSunsetDates$Calendar;") (by decide +kernel)
  have k12 := hts (.fieldLink RX5 12 "SunsetDates" "now" "LSunsetDates$Calendar;") (by decide +kernel)
  refine lv_aload_n hx hb dX5_saveState_0 rfl (lv_at hl 0 rfl) ?_
  refine va_get (D := G) (ci := 5) (C := RX5) (T := TX5) (N := 4) hx hb hts iX5 hown hkx.1 hP 0 rfl rfl 2 (by decide) k20 (fun _ h9 => h9) rfl dX5_saveState_1 ?_
  refine lv_iconst (v := 4) hx hb dX5_saveState_4 (by decide) ?_
  refine lv_icmp_ne (tgt := 12) hx hb dX5_saveState_5 (by decide) (fun c_1 => ?_) (fun c_1 => ?_)
  · replace c_1 := cn_ne (a := sc) (b := 4) (by omega) (by omega) c_1
    refine lv_aload_n hx hb dX5_saveState_12 rfl (lv_at hl 0 rfl) ?_
    refine va_get (D := G) (ci := 5) (C := RX5) (T := TX5) (N := 4) hx hb hts iX5 hown hkx.1 hP 0 rfl rfl 1 (by decide) k16 (fun _ h9 => h9) rfl dX5_saveState_13 ?_
    refine lv_aload_n hx hb dX5_saveState_16 rfl (lv_at hl 0 rfl) ?_
    refine va_get (D := G) (ci := 5) (C := RX5) (T := TX5) (N := 4) hx hb hts iX5 hown hkx.1 hP 0 rfl rfl 2 (by decide) k20 (fun _ h9 => h9) rfl dX5_saveState_17 ?_
    refine aq hx hb hkx hP 1 rfl sc rfl (by omega) (by decide) dX5_saveState_20 ?_
    refine W.eq (g2 := F0 m 21 ls [.ref (b sc 0)]) rfl ?_
    refine lv_aload_n hx hb dX5_saveState_21 rfl (lv_at hl 0 rfl) ?_
    refine va_get (D := G) (ci := 5) (C := RX5) (T := TX5) (N := 4) hx hb hts iX5 hown hkx.1 hP 0 rfl rfl 0 (by decide) k12 (fun _ h9 => h9) rfl dX5_saveState_22 ?_
    obtain ⟨R9, hp1, hp2⟩ := sv_split (T := T) b M Y (i := sc) (by omega)
    have hPx := P_perm hP (pm_sav hp1)
    have hDx := D_perm' hD (pm_sav hp1)
    refine mu_V S hkx (mX0_copy l (a := (b sc)) (N := (M sc)) (Z := (Y sc)) (b := a) (M := N) (Y := Z) (hP := P_mid hPx) (hD := (D_mid hDx).weaken (fun _ _ _ _ => trivial))) gX5_saveState_X0_copy rfl idX0_copy ⟨Nat.le_of_ble_eq_true rfl, Nat.le_of_ble_eq_true rfl⟩ hPx 5 rfl rfl rfl rfl hl.1 rfl (Nat.le_of_ble_eq_true rfl) dX5_saveState_25 ⟨Nat.le_of_ble_eq_true rfl, Nat.le_of_ble_eq_true rfl⟩ hS (fr_in (D_mid hDx) (fun q h => hA q (Nat.le_trans hS.1 h))) (fun v H locs hp9 hz1 hk1 hS => ?_)
    obtain ⟨rfl, hPc⟩ := hp9
    obtain ⟨hP, hD⟩ := fr_mid hPx hDx hk1 hPc rfl
    have hP := P_perm hP (pm_sav (hp2 N Z)).symm
    have hD := D_perm' hD (pm_sav (hp2 N Z)).symm
    have hP : va_P G vwCl (wMain T q a N Z b (va_up M sc N) (va_up Y sc Z) sc tx L cu er le nb nc) H := hP
    have hD : va_D A (wMain T q a N Z b (va_up M sc N) (va_up Y sc Z) sc tx L cu er le nb nc) := hD
    refine W.eq (g2 := F0 m 28 ls []) rfl ?_
    refine lv_aload_n hx hb dX5_saveState_28 rfl (lv_at hl 0 rfl) ?_
    refine lv_dup hx hb dX5_saveState_29 rfl ?_
    refine va_get (D := G) (ci := 5) (C := RX5) (T := TX5) (N := 4) hx hb hts iX5 hown hkx.1 hP 0 rfl rfl 2 (by decide) k20 (fun _ h9 => h9) rfl dX5_saveState_30 ?_
    refine lv_iconst (v := 1) hx hb dX5_saveState_33 (by decide) ?_
    refine lv_iadd hx hb dX5_saveState_34 ?_
    rw [show ((nI sc) + 1) = (nI (sc + 1)) from nI_add sc 1]
    refine va_put (D := G) (ci := 5) (v := .int (nI (sc + 1))) (ty := .int) (C := RX5) (T := TX5) (N := 4) hx hb hts iX5 tyX5 tyX5_ok nmX5 hown hkx.1 hP hD hS 0 rfl rfl 2 (by decide) k20 (fun _ h9 => h9) rfl (by decide +kernel) rfl rfl (Nat.le_of_ble_eq_true rfl) dX5_saveState_35 (fun H locs hP hD hS => ?_)
    have hP : va_P G vwCl (wMain T q a N Z b (va_up M sc N) (va_up Y sc Z) (sc + 1) tx L cu er le nb nc) H := hP
    have hD : va_D A (wMain T q a N Z b (va_up M sc N) (va_up Y sc Z) (sc + 1) tx L cu er le nb nc) := hD
    exact hret _ _ _ _ (show (none : Option Value) = none ∧ va_P G vwCl (wMain T q a N Z (svB sc b) (psh sc M N) (psh sc Y Z) (svC sc) tx L cu er le nb nc) H from ⟨rfl, (by simp only [psh, svB, svC, if_neg c_1]; exact hP)⟩) hS dX5_saveState_38
  · replace c_1 := cn_eq (a := sc) (b := 4) (by omega) (by omega) c_1
    refine lv_aload_n hx hb dX5_saveState_8 rfl (lv_at hl 0 rfl) ?_
    refine mu_V S hkx (mX5_dropOldestState l (hP := hP) (hD := hD.weaken (fun _ _ _ _ => trivial)) (q := q) (a := a) (N := N) (Z := Z) (b := b) (M := M) (Y := Y) (sc := sc) (tx := tx) (L := L) (cu := cu) (er := er) (le := le) (nb := nb) (nc := nc) (hsc := (by omega)) (hs4 := (by omega))) gX5_saveState_X5_dropOldestState rfl idX5_dropOldestState ⟨Nat.le_of_ble_eq_true rfl, Nat.le_of_ble_eq_true rfl⟩ hP 0 rfl rfl rfl rfl hl.1 rfl (Nat.le_of_ble_eq_true rfl) dX5_saveState_9 ⟨Nat.le_of_ble_eq_true rfl, Nat.le_of_ble_eq_true rfl⟩ hS (fr_in hD (fun q h => hA q (Nat.le_trans hS.1 h))) (fun v H locs hp9 hz1 hk1 hS => ?_)
    obtain ⟨rfl, hP⟩ := hp9
    have hP : va_P G vwCl (wMain T q a N Z (rot b) (rot M) (rot Y) (sc - 1) tx L cu er le nb nc) H := hP
    have hD : va_D A (wMain T q a N Z (rot b) (rot M) (rot Y) (sc - 1) tx L cu er le nb nc) := D_perm hD rot_addr
    refine W.eq (g2 := F0 m 12 ls []) rfl ?_
    refine lv_aload_n hx hb dX5_saveState_12 rfl (lv_at hl 0 rfl) ?_
    refine va_get (D := G) (ci := 5) (C := RX5) (T := TX5) (N := 4) hx hb hts iX5 hown hkx.1 hP 0 rfl rfl 1 (by decide) k16 (fun _ h9 => h9) rfl dX5_saveState_13 ?_
    refine lv_aload_n hx hb dX5_saveState_16 rfl (lv_at hl 0 rfl) ?_
    refine va_get (D := G) (ci := 5) (C := RX5) (T := TX5) (N := 4) hx hb hts iX5 hown hkx.1 hP 0 rfl rfl 2 (by decide) k20 (fun _ h9 => h9) rfl dX5_saveState_17 ?_
    refine aq hx hb hkx hP 1 rfl (sc - 1) rfl (by omega) (by decide) dX5_saveState_20 ?_
    refine W.eq (g2 := F0 m 21 ls [.ref ((rot b) (sc - 1) 0)]) rfl ?_
    refine lv_aload_n hx hb dX5_saveState_21 rfl (lv_at hl 0 rfl) ?_
    refine va_get (D := G) (ci := 5) (C := RX5) (T := TX5) (N := 4) hx hb hts iX5 hown hkx.1 hP 0 rfl rfl 0 (by decide) k12 (fun _ h9 => h9) rfl dX5_saveState_22 ?_
    obtain ⟨R9, hp1, hp2⟩ := sv_split (T := T) (rot b) (rot M) (rot Y) (i := (sc - 1)) (by omega)
    have hPx := P_perm hP (pm_sav hp1)
    have hDx := D_perm' hD (pm_sav hp1)
    refine mu_V S hkx (mX0_copy l (a := ((rot b) (sc - 1))) (N := ((rot M) (sc - 1))) (Z := ((rot Y) (sc - 1))) (b := a) (M := N) (Y := Z) (hP := P_mid hPx) (hD := (D_mid hDx).weaken (fun _ _ _ _ => trivial))) gX5_saveState_X0_copy rfl idX0_copy ⟨Nat.le_of_ble_eq_true rfl, Nat.le_of_ble_eq_true rfl⟩ hPx 5 rfl rfl rfl rfl hl.1 rfl (Nat.le_of_ble_eq_true rfl) dX5_saveState_25 ⟨Nat.le_of_ble_eq_true rfl, Nat.le_of_ble_eq_true rfl⟩ hS (fr_in (D_mid hDx) (fun q h => hA q (Nat.le_trans hS.1 h))) (fun v H locs hp9 hz1 hk1 hS => ?_)
    obtain ⟨rfl, hPc⟩ := hp9
    obtain ⟨hP, hD⟩ := fr_mid hPx hDx hk1 hPc rfl
    have hP := P_perm hP (pm_sav (hp2 N Z)).symm
    have hD := D_perm' hD (pm_sav (hp2 N Z)).symm
    have hP : va_P G vwCl (wMain T q a N Z (rot b) (va_up (rot M) (sc - 1) N) (va_up (rot Y) (sc - 1) Z) (sc - 1) tx L cu er le nb nc) H := hP
    have hD : va_D A (wMain T q a N Z (rot b) (va_up (rot M) (sc - 1) N) (va_up (rot Y) (sc - 1) Z) (sc - 1) tx L cu er le nb nc) := hD
    refine W.eq (g2 := F0 m 28 ls []) rfl ?_
    refine lv_aload_n hx hb dX5_saveState_28 rfl (lv_at hl 0 rfl) ?_
    refine lv_dup hx hb dX5_saveState_29 rfl ?_
    refine va_get (D := G) (ci := 5) (C := RX5) (T := TX5) (N := 4) hx hb hts iX5 hown hkx.1 hP 0 rfl rfl 2 (by decide) k20 (fun _ h9 => h9) rfl dX5_saveState_30 ?_
    refine lv_iconst (v := 1) hx hb dX5_saveState_33 (by decide) ?_
    refine lv_iadd hx hb dX5_saveState_34 ?_
    rw [show ((nI (sc - 1)) + 1) = (nI ((sc - 1) + 1)) from nI_add (sc - 1) 1]
    refine va_put (D := G) (ci := 5) (v := .int (nI ((sc - 1) + 1))) (ty := .int) (C := RX5) (T := TX5) (N := 4) hx hb hts iX5 tyX5 tyX5_ok nmX5 hown hkx.1 hP hD hS 0 rfl rfl 2 (by decide) k20 (fun _ h9 => h9) rfl (by decide +kernel) rfl rfl (Nat.le_of_ble_eq_true rfl) dX5_saveState_35 (fun H locs hP hD hS => ?_)
    have hP : va_P G vwCl (wMain T q a N Z (rot b) (va_up (rot M) (sc - 1) N) (va_up (rot Y) (sc - 1) Z) ((sc - 1) + 1) tx L cu er le nb nc) H := hP
    have hD : va_D A (wMain T q a N Z (rot b) (va_up (rot M) (sc - 1) N) (va_up (rot Y) (sc - 1) Z) ((sc - 1) + 1) tx L cu er le nb nc) := hD
    exact hret _ _ _ _ (show (none : Option Value) = none ∧ va_P G vwCl (wMain T q a N Z (svB sc b) (psh sc M N) (psh sc Y Z) (svC sc) tx L cu er le nb nc) H from ⟨rfl, (by subst c_1; exact hP)⟩) hS dX5_saveState_38

theorem idX5_addVersion : yX5_addVersion.cls = RX5 ∧ yX5_addVersion.cls ≠ "java/lang/invoke/MethodHandle" ∧ yX5_addVersion.cls ≠ "java/lang/invoke/VarHandle" ∧ (parseMethodDescriptor yX5_addVersion.desc).map (fun d => d.parameters.length) = some 2 := by decide +kernel

set_option maxHeartbeats 4000000 in
set_option maxRecDepth 100000 in
theorem mX5_addVersion (l : Launch) (hl0 : l.stackTraces = false) {G : va_G} {T : Nat → ClassId} {sa : Nat → Nat} {A9 : Nat → Prop} {H : Heap} {q : Nat → Nat} {a : Nat → Nat} {N : Nat → Nat} {Z : Nat → Nat → Int32} {b : Nat → Nat → Nat} {M : Nat → Nat → Nat} {Y : Nat → Nat → Nat → Int32} {sc : Nat} {tx : Nat → Int32} {L : Nat} {cu : Nat} {er : Int32} {le : Int32} {nb : Nat → Int32} {nc : Nat} {x : Int32} {z : Int32} (h9 : ∀ q, H.size ≤ q → A9 q) (hP : va_P G vwCl (wMain T q a N Z b M Y sc tx L cu er le nb nc) H) (hD : va_D (fun _ => True) (wMain T q a N Z b M Y sc tx L cu er le nb nc)) (hwf : wf N Z) (hsc : sc ≤ 4) : txm l yX5_addVersion wsX5_addVersion 7 122 3 [.ref (q 0), .int x, .int z] G T sa A9 H (wMain T q a N Z b M Y sc tx L cu er le nb nc) (fun v9 H9 => (sq (wiF x 0 998) (sq (wiF z (x + 1) 1000) (poF (bI (decide (N 0 < 8)))))) = 0 ∧ v9 = some (.int (nI (N 0))) ∧ va_P G vwCl (wMain T q a (va_up N 0 (N 0 + 1)) (vAdd N Z x z) (svB sc b) (psh sc M N) (psh sc Y Z) (svC sc) tx L cu er le nb nc) H9) (fcE (sq (wiF x 0 998) (sq (wiF z (x + 1) 1000) (poF (bI (decide (N 0 < 8))))))) := by
  refine tx_of (cc := cX5_addVersion) (maxL := 3) (ret := (some .int)) (own := RX5) (by decide +kernel) rfl rfl (Nat.le_of_ble_eq_true rfl) h9 hD ?_
  intro p e s m below meth c ls A Q S hkx hth hl hD hS hA hret hout
  obtain ⟨hx, hb, hml, hown, hts⟩ := id S
  have hl : lv_has ls 3 [(0, .ref (q 0)), (1, .int x), (2, .int z)] := hl
  have k12 := hts (.fieldLink RX5 12 "SunsetDates" "now" "LSunsetDates$Calendar;") (by decide +kernel)
  have iX5 : ∀ w ∈ wsX50, w ∈ wsX5_addVersion := by decide +kernel
  have k35 := hts (.fieldLink RX5 35 "SunsetDates$Calendar" "versions" "LSunsetDates$Versions;") (by decide +kernel)
  have iX0 : ∀ w ∈ wsX00, w ∈ wsX5_addVersion := by decide +kernel
  have k39 := hts (.fieldLink RX5 39 "SunsetDates$Versions" "count" "I") (by decide +kernel)
  have iX4 : ∀ w ∈ wsX40, w ∈ wsX5_addVersion := by decide +kernel
  have hb2 := hwf.1
  refine lv_iload_n hx hb dX5_addVersion_0 rfl (lv_at hl 1 rfl) ?_
  refine lv_iconst (v := 0) hx hb dX5_addVersion_1 (by decide) ?_
  refine lv_sipush (v := 998) hx hb dX5_addVersion_2 (by decide) ?_
  refine rx_S S hkx hth (mX5_requireWithin l hl0 (sa := sa) (h9 := fun _ h => h) (v := x) (x := 0) (z := 998) ) gX5_addVersion_X5_requireWithin rfl idX5_requireWithin.2 ⟨Nat.le_of_ble_eq_true rfl, Nat.le_of_ble_eq_true rfl⟩ rfl hl.1 rfl (Nat.le_of_ble_eq_true rfl) dX5_addVersion_5 ⟨Nat.le_of_ble_eq_true rfl, Nat.le_of_ble_eq_true rfl⟩ (fun E ce q H1 hpx hq hv9 hc9 hz9 hk9 => hout E ce q _ _ _ _ _ _ (sq_l hpx) hq hv9 hc9 hz9 hk9 (Nat.le_of_ble_eq_true rfl) (Nat.le_of_ble_eq_true rfl)) (fun v hpost => ?_)
  obtain ⟨hF0, rfl⟩ := hpost
  refine W.eq (g2 := F0 m 8 ls []) rfl ?_
  refine lv_iload_n hx hb dX5_addVersion_8 rfl (lv_at hl 2 rfl) ?_
  refine lv_iload_n hx hb dX5_addVersion_9 rfl (lv_at hl 1 rfl) ?_
  refine lv_iconst (v := 1) hx hb dX5_addVersion_10 (by decide) ?_
  refine lv_iadd hx hb dX5_addVersion_11 ?_
  refine lv_sipush (v := 1000) hx hb dX5_addVersion_12 (by decide) ?_
  refine rx_S S hkx hth (mX5_requireWithin l hl0 (sa := sa) (h9 := fun _ h => h) (v := z) (x := (x + 1)) (z := 1000) ) gX5_addVersion_X5_requireWithin rfl idX5_requireWithin.2 ⟨Nat.le_of_ble_eq_true rfl, Nat.le_of_ble_eq_true rfl⟩ rfl hl.1 rfl (Nat.le_of_ble_eq_true rfl) dX5_addVersion_15 ⟨Nat.le_of_ble_eq_true rfl, Nat.le_of_ble_eq_true rfl⟩ (fun E ce q H1 hpx hq hv9 hc9 hz9 hk9 => hout E ce q _ _ _ _ _ _ (sq_r hF0 (sq_l hpx)) hq hv9 hc9 hz9 hk9 (Nat.le_of_ble_eq_true rfl) (Nat.le_of_ble_eq_true rfl)) (fun v hpost => ?_)
  obtain ⟨hF1, rfl⟩ := hpost
  refine W.eq (g2 := F0 m 18 ls []) rfl ?_
  refine lv_aload_n hx hb dX5_addVersion_18 rfl (lv_at hl 0 rfl) ?_
  refine va_get (D := G) (ci := 5) (C := RX5) (T := TX5) (N := 4) hx hb hts iX5 hown hkx.1 hP 0 rfl rfl 0 (by decide) k12 (fun _ h9 => h9) rfl dX5_addVersion_19 ?_
  refine va_get (D := G) (ci := 0) (C := RX0) (T := TX0) (N := 4) hx hb hts iX0 hown hkx.1 hP 5 rfl rfl 0 (by decide) k35 (fun _ h9 => h9) rfl dX5_addVersion_22 ?_
  refine va_get (D := G) (ci := 4) (C := RX4) (T := TX4) (N := 5) hx hb hts iX4 hown hkx.1 hP 6 rfl rfl 0 (by decide) k39 (fun _ h9 => h9) rfl dX5_addVersion_25 ?_
  refine lv_bipush (v := 8) hx hb dX5_addVersion_28 (by decide) ?_
  refine lv_icmp_ge (tgt := 37) hx hb dX5_addVersion_30 (by decide) (fun c_1 => ?_) (fun c_1 => ?_)
  · replace c_1 := cn_le (a := 8) (b := (N 0)) (by omega) (by omega) c_1
    have cD : decide (N 0 < 8) = false := decide_eq_false (by omega)
    refine lv_iconst (v := 0) hx hb dX5_addVersion_37 (by decide) ?_
    refine rx_S S hkx hth (mX5_requirePossible l hl0 (sa := sa) (h9 := fun _ h => h) (z := 0) ) gX5_addVersion_X5_requirePossible rfl idX5_requirePossible.2 ⟨Nat.le_of_ble_eq_true rfl, Nat.le_of_ble_eq_true rfl⟩ rfl hl.1 rfl (Nat.le_of_ble_eq_true rfl) dX5_addVersion_38 ⟨Nat.le_of_ble_eq_true rfl, Nat.le_of_ble_eq_true rfl⟩ (fun E ce q H1 hpx hq hv9 hc9 hz9 hk9 => hout E ce q _ _ _ _ _ _ (sq_r hF0 (sq_r hF1 (by first | exact hpx | (rw [cD]; exact hpx)))) hq hv9 hc9 hz9 hk9 (Nat.le_of_ble_eq_true rfl) (Nat.le_of_ble_eq_true rfl)) (fun v hpost => ?_)
    obtain ⟨hF2, rfl⟩ := hpost
    exact absurd hF2 (by decide)
  · replace c_1 := cn_nle (a := 8) (b := (N 0)) (by omega) (by omega) c_1
    have cD : decide (N 0 < 8) = true := decide_eq_true (by omega)
    refine lv_iconst (v := 1) hx hb dX5_addVersion_33 (by decide) ?_
    refine lv_goto (tgt := 38) hx hb dX5_addVersion_34 (by decide) ?_
    refine rx_S S hkx hth (mX5_requirePossible l hl0 (sa := sa) (h9 := fun _ h => h) (z := 1) ) gX5_addVersion_X5_requirePossible rfl idX5_requirePossible.2 ⟨Nat.le_of_ble_eq_true rfl, Nat.le_of_ble_eq_true rfl⟩ rfl hl.1 rfl (Nat.le_of_ble_eq_true rfl) dX5_addVersion_38 ⟨Nat.le_of_ble_eq_true rfl, Nat.le_of_ble_eq_true rfl⟩ (fun E ce q H1 hpx hq hv9 hc9 hz9 hk9 => hout E ce q _ _ _ _ _ _ (sq_r hF0 (sq_r hF1 (by first | exact hpx | (rw [cD]; exact hpx)))) hq hv9 hc9 hz9 hk9 (Nat.le_of_ble_eq_true rfl) (Nat.le_of_ble_eq_true rfl)) (fun v hpost => ?_)
    obtain ⟨hF2, rfl⟩ := hpost
    have hF2 : (poF (bI (decide (N 0 < 8)))) = 0 := by first | exact hF2 | (rw [cD]; exact hF2)
    refine W.eq (g2 := F0 m 41 ls []) rfl ?_
    refine lv_aload_n hx hb dX5_addVersion_41 rfl (lv_at hl 0 rfl) ?_
    refine mu_V S hkx (mX5_saveState l (hP := hP) (hD := hD.weaken (fun _ _ _ _ => trivial)) (q := q) (a := a) (N := N) (Z := Z) (b := b) (M := M) (Y := Y) (sc := sc) (tx := tx) (L := L) (cu := cu) (er := er) (le := le) (nb := nb) (nc := nc) (hsc := (by omega))) gX5_addVersion_X5_saveState rfl idX5_saveState ⟨Nat.le_of_ble_eq_true rfl, Nat.le_of_ble_eq_true rfl⟩ hP 0 rfl rfl rfl rfl hl.1 rfl (Nat.le_of_ble_eq_true rfl) dX5_addVersion_42 ⟨Nat.le_of_ble_eq_true rfl, Nat.le_of_ble_eq_true rfl⟩ hS (fr_in hD (fun q h => hA q (Nat.le_trans hS.1 h))) (fun v H locs hp9 hz1 hk1 hS => ?_)
    obtain ⟨rfl, hP⟩ := hp9
    have hP : va_P G vwCl (wMain T q a N Z (svB sc b) (psh sc M N) (psh sc Y Z) (svC sc) tx L cu er le nb nc) H := hP
    have hD : va_D A (wMain T q a N Z (svB sc b) (psh sc M N) (psh sc Y Z) (svC sc) tx L cu er le nb nc) := D_perm hD sv_addr
    refine W.eq (g2 := F0 m 45 ls []) rfl ?_
    refine lv_aload_n hx hb dX5_addVersion_45 rfl (lv_at hl 0 rfl) ?_
    refine va_get (D := G) (ci := 5) (C := RX5) (T := TX5) (N := 4) hx hb hts iX5 hown hkx.1 hP 0 rfl rfl 0 (by decide) k12 (fun _ h9 => h9) rfl dX5_addVersion_46 ?_
    refine va_get (D := G) (ci := 0) (C := RX0) (T := TX0) (N := 4) hx hb hts iX0 hown hkx.1 hP 5 rfl rfl 0 (by decide) k35 (fun _ h9 => h9) rfl dX5_addVersion_49 ?_
    refine lv_iload_n hx hb dX5_addVersion_52 rfl (lv_at hl 1 rfl) ?_
    refine lv_iload_n hx hb dX5_addVersion_53 rfl (lv_at hl 2 rfl) ?_
    refine mu_V S hkx (mX4_addRow l (hP := P_mid hP) (hD := (D_mid hD).weaken (fun _ _ _ _ => trivial)) (a := a) (N := N) (Z := Z) (x := x) (z := z) (hs := (by omega))) gX5_addVersion_X4_addRow rfl idX4_addRow ⟨Nat.le_of_ble_eq_true rfl, Nat.le_of_ble_eq_true rfl⟩ hP 6 rfl rfl rfl rfl hl.1 rfl (Nat.le_of_ble_eq_true rfl) dX5_addVersion_54 ⟨Nat.le_of_ble_eq_true rfl, Nat.le_of_ble_eq_true rfl⟩ hS (fr_in (D_mid hD) (fun q h => hA q (Nat.le_trans hS.1 h))) (fun v H locs hp9 hz1 hk1 hS => ?_)
    obtain ⟨rfl, hPc⟩ := hp9
    obtain ⟨hP, hD⟩ := fr_mid hP hD hk1 hPc rfl
    have hP : va_P G vwCl (wMain T q a (va_up N 0 (N 0 + 1)) (vAdd N Z x z) (svB sc b) (psh sc M N) (psh sc Y Z) (svC sc) tx L cu er le nb nc) H := hP
    have hD : va_D A (wMain T q a (va_up N 0 (N 0 + 1)) (vAdd N Z x z) (svB sc b) (psh sc M N) (psh sc Y Z) (svC sc) tx L cu er le nb nc) := hD
    refine W.eq (g2 := F0 m 57 ls [.int (nI (N 0))]) rfl ?_
    exact hret _ _ _ _ _ _ _ _ rfl rfl (show (sq (wiF x 0 998) (sq (wiF z (x + 1) 1000) (poF (bI (decide (N 0 < 8)))))) = 0 ∧ some (Value.int (nI (N 0))) = some (Value.int (nI (N 0))) ∧ va_P G vwCl (wMain T q a (va_up N 0 (N 0 + 1)) (vAdd N Z x z) (svB sc b) (psh sc M N) (psh sc Y Z) (svC sc) tx L cu er le nb nc) H from ⟨(sq_0 hF0 (sq_0 hF1 hF2)), rfl, hP⟩) hS (Nat.le_of_ble_eq_true rfl) (Nat.le_of_ble_eq_true rfl) dX5_addVersion_57

theorem idX5_addFeature : yX5_addFeature.cls = RX5 ∧ yX5_addFeature.cls ≠ "java/lang/invoke/MethodHandle" ∧ yX5_addFeature.cls ≠ "java/lang/invoke/VarHandle" ∧ (parseMethodDescriptor yX5_addFeature.desc).map (fun d => d.parameters.length) = some 1 := by decide +kernel

set_option maxHeartbeats 4000000 in
set_option maxRecDepth 100000 in
theorem mX5_addFeature (l : Launch) (hl0 : l.stackTraces = false) {G : va_G} {T : Nat → ClassId} {sa : Nat → Nat} {A9 : Nat → Prop} {H : Heap} {q : Nat → Nat} {a : Nat → Nat} {N : Nat → Nat} {Z : Nat → Nat → Int32} {b : Nat → Nat → Nat} {M : Nat → Nat → Nat} {Y : Nat → Nat → Nat → Int32} {sc : Nat} {tx : Nat → Int32} {L : Nat} {cu : Nat} {er : Int32} {le : Int32} {nb : Nat → Int32} {nc : Nat} {x : Int32} (h9 : ∀ q, H.size ≤ q → A9 q) (hP : va_P G vwCl (wMain T q a N Z b M Y sc tx L cu er le nb nc) H) (hD : va_D (fun _ => True) (wMain T q a N Z b M Y sc tx L cu er le nb nc)) (hwf : wf N Z) (hsc : sc ≤ 4) : txm l yX5_addFeature wsX5_addFeature 8 125 2 [.ref (q 0), .int x] G T sa A9 H (wMain T q a N Z b M Y sc tx L cu er le nb nc) (fun v9 H9 => (sq (seF x (nI (N 0))) (poF (bI (decide (N 1 < 10))))) = 0 ∧ v9 = some (.int (nI (N 1))) ∧ va_P G vwCl (wMain T q a (va_up N 1 (N 1 + 1)) (va_up Z 4 (apF (Z 4) x (N 1) (N 0))) (svB sc b) (psh sc M N) (psh sc Y Z) (svC sc) tx L cu er le nb nc) H9) (fcE (sq (seF x (nI (N 0))) (poF (bI (decide (N 1 < 10)))))) := by
  refine tx_of (cc := cX5_addFeature) (maxL := 2) (ret := (some .int)) (own := RX5) (by decide +kernel) rfl rfl (Nat.le_of_ble_eq_true rfl) h9 hD ?_
  intro p e s m below meth c ls A Q S hkx hth hl hD hS hA hret hout
  obtain ⟨hx, hb, hml, hown, hts⟩ := id S
  have hl : lv_has ls 2 [(0, .ref (q 0)), (1, .int x)] := hl
  have k12 := hts (.fieldLink RX5 12 "SunsetDates" "now" "LSunsetDates$Calendar;") (by decide +kernel)
  have iX5 : ∀ w ∈ wsX50, w ∈ wsX5_addFeature := by decide +kernel
  have k35 := hts (.fieldLink RX5 35 "SunsetDates$Calendar" "versions" "LSunsetDates$Versions;") (by decide +kernel)
  have iX0 : ∀ w ∈ wsX00, w ∈ wsX5_addFeature := by decide +kernel
  have k39 := hts (.fieldLink RX5 39 "SunsetDates$Versions" "count" "I") (by decide +kernel)
  have iX4 : ∀ w ∈ wsX40, w ∈ wsX5_addFeature := by decide +kernel
  have k59 := hts (.fieldLink RX5 59 "SunsetDates$Calendar" "featureCount" "I") (by decide +kernel)
  have hb2 := hwf.1
  refine lv_iload_n hx hb dX5_addFeature_0 rfl (lv_at hl 1 rfl) ?_
  refine lv_aload_n hx hb dX5_addFeature_1 rfl (lv_at hl 0 rfl) ?_
  refine va_get (D := G) (ci := 5) (C := RX5) (T := TX5) (N := 4) hx hb hts iX5 hown hkx.1 hP 0 rfl rfl 0 (by decide) k12 (fun _ h9 => h9) rfl dX5_addFeature_2 ?_
  refine va_get (D := G) (ci := 0) (C := RX0) (T := TX0) (N := 4) hx hb hts iX0 hown hkx.1 hP 5 rfl rfl 0 (by decide) k35 (fun _ h9 => h9) rfl dX5_addFeature_5 ?_
  refine va_get (D := G) (ci := 4) (C := RX4) (T := TX4) (N := 5) hx hb hts iX4 hown hkx.1 hP 6 rfl rfl 0 (by decide) k39 (fun _ h9 => h9) rfl dX5_addFeature_8 ?_
  refine rx_S S hkx hth (mX5_requireSet l hl0 (sa := sa) (h9 := fun _ h => h) (x := x) (n := (nI (N 0))) ) gX5_addFeature_X5_requireSet rfl idX5_requireSet.2 ⟨Nat.le_of_ble_eq_true rfl, Nat.le_of_ble_eq_true rfl⟩ rfl hl.1 rfl (Nat.le_of_ble_eq_true rfl) dX5_addFeature_11 ⟨Nat.le_of_ble_eq_true rfl, Nat.le_of_ble_eq_true rfl⟩ (fun E ce q H1 hpx hq hv9 hc9 hz9 hk9 => hout E ce q _ _ _ _ _ _ (sq_l hpx) hq hv9 hc9 hz9 hk9 (Nat.le_of_ble_eq_true rfl) (Nat.le_of_ble_eq_true rfl)) (fun v hpost => ?_)
  obtain ⟨hF0, rfl⟩ := hpost
  refine W.eq (g2 := F0 m 14 ls []) rfl ?_
  refine lv_aload_n hx hb dX5_addFeature_14 rfl (lv_at hl 0 rfl) ?_
  refine va_get (D := G) (ci := 5) (C := RX5) (T := TX5) (N := 4) hx hb hts iX5 hown hkx.1 hP 0 rfl rfl 0 (by decide) k12 (fun _ h9 => h9) rfl dX5_addFeature_15 ?_
  refine va_get (D := G) (ci := 0) (C := RX0) (T := TX0) (N := 4) hx hb hts iX0 hown hkx.1 hP 5 rfl rfl 1 (by decide) k59 (fun _ h9 => h9) rfl dX5_addFeature_18 ?_
  refine lv_bipush (v := 10) hx hb dX5_addFeature_21 (by decide) ?_
  refine lv_icmp_ge (tgt := 30) hx hb dX5_addFeature_23 (by decide) (fun c_1 => ?_) (fun c_1 => ?_)
  · replace c_1 := cn_le (a := 10) (b := (N 1)) (by omega) (by omega) c_1
    have cD : decide (N 1 < 10) = false := decide_eq_false (by omega)
    refine lv_iconst (v := 0) hx hb dX5_addFeature_30 (by decide) ?_
    refine rx_S S hkx hth (mX5_requirePossible l hl0 (sa := sa) (h9 := fun _ h => h) (z := 0) ) gX5_addFeature_X5_requirePossible rfl idX5_requirePossible.2 ⟨Nat.le_of_ble_eq_true rfl, Nat.le_of_ble_eq_true rfl⟩ rfl hl.1 rfl (Nat.le_of_ble_eq_true rfl) dX5_addFeature_31 ⟨Nat.le_of_ble_eq_true rfl, Nat.le_of_ble_eq_true rfl⟩ (fun E ce q H1 hpx hq hv9 hc9 hz9 hk9 => hout E ce q _ _ _ _ _ _ (sq_r hF0 (by first | exact hpx | (rw [cD]; exact hpx))) hq hv9 hc9 hz9 hk9 (Nat.le_of_ble_eq_true rfl) (Nat.le_of_ble_eq_true rfl)) (fun v hpost => ?_)
    obtain ⟨hF1, rfl⟩ := hpost
    exact absurd hF1 (by decide)
  · replace c_1 := cn_nle (a := 10) (b := (N 1)) (by omega) (by omega) c_1
    have cD : decide (N 1 < 10) = true := decide_eq_true (by omega)
    refine lv_iconst (v := 1) hx hb dX5_addFeature_26 (by decide) ?_
    refine lv_goto (tgt := 31) hx hb dX5_addFeature_27 (by decide) ?_
    refine rx_S S hkx hth (mX5_requirePossible l hl0 (sa := sa) (h9 := fun _ h => h) (z := 1) ) gX5_addFeature_X5_requirePossible rfl idX5_requirePossible.2 ⟨Nat.le_of_ble_eq_true rfl, Nat.le_of_ble_eq_true rfl⟩ rfl hl.1 rfl (Nat.le_of_ble_eq_true rfl) dX5_addFeature_31 ⟨Nat.le_of_ble_eq_true rfl, Nat.le_of_ble_eq_true rfl⟩ (fun E ce q H1 hpx hq hv9 hc9 hz9 hk9 => hout E ce q _ _ _ _ _ _ (sq_r hF0 (by first | exact hpx | (rw [cD]; exact hpx))) hq hv9 hc9 hz9 hk9 (Nat.le_of_ble_eq_true rfl) (Nat.le_of_ble_eq_true rfl)) (fun v hpost => ?_)
    obtain ⟨hF1, rfl⟩ := hpost
    have hF1 : (poF (bI (decide (N 1 < 10)))) = 0 := by first | exact hF1 | (rw [cD]; exact hF1)
    refine W.eq (g2 := F0 m 34 ls []) rfl ?_
    refine lv_aload_n hx hb dX5_addFeature_34 rfl (lv_at hl 0 rfl) ?_
    refine mu_V S hkx (mX5_saveState l (hP := hP) (hD := hD.weaken (fun _ _ _ _ => trivial)) (q := q) (a := a) (N := N) (Z := Z) (b := b) (M := M) (Y := Y) (sc := sc) (tx := tx) (L := L) (cu := cu) (er := er) (le := le) (nb := nb) (nc := nc) (hsc := (by omega))) gX5_addFeature_X5_saveState rfl idX5_saveState ⟨Nat.le_of_ble_eq_true rfl, Nat.le_of_ble_eq_true rfl⟩ hP 0 rfl rfl rfl rfl hl.1 rfl (Nat.le_of_ble_eq_true rfl) dX5_addFeature_35 ⟨Nat.le_of_ble_eq_true rfl, Nat.le_of_ble_eq_true rfl⟩ hS (fr_in hD (fun q h => hA q (Nat.le_trans hS.1 h))) (fun v H locs hp9 hz1 hk1 hS => ?_)
    obtain ⟨rfl, hP⟩ := hp9
    have hP : va_P G vwCl (wMain T q a N Z (svB sc b) (psh sc M N) (psh sc Y Z) (svC sc) tx L cu er le nb nc) H := hP
    have hD : va_D A (wMain T q a N Z (svB sc b) (psh sc M N) (psh sc Y Z) (svC sc) tx L cu er le nb nc) := D_perm hD sv_addr
    refine W.eq (g2 := F0 m 38 ls []) rfl ?_
    refine lv_aload_n hx hb dX5_addFeature_38 rfl (lv_at hl 0 rfl) ?_
    refine va_get (D := G) (ci := 5) (C := RX5) (T := TX5) (N := 4) hx hb hts iX5 hown hkx.1 hP 0 rfl rfl 0 (by decide) k12 (fun _ h9 => h9) rfl dX5_addFeature_39 ?_
    refine lv_iload_n hx hb dX5_addFeature_42 rfl (lv_at hl 1 rfl) ?_
    refine mu_V S hkx (mX0_appendFeature l (hP := P_mid hP) (hD := (D_mid hD).weaken (fun _ _ _ _ => trivial)) (a := a) (N := N) (Z := Z) (x := x) (hs := (by omega)) (hf := (by omega))) gX5_addFeature_X0_appendFeature rfl idX0_appendFeature ⟨Nat.le_of_ble_eq_true rfl, Nat.le_of_ble_eq_true rfl⟩ hP 5 rfl rfl rfl rfl hl.1 rfl (Nat.le_of_ble_eq_true rfl) dX5_addFeature_43 ⟨Nat.le_of_ble_eq_true rfl, Nat.le_of_ble_eq_true rfl⟩ hS (fr_in (D_mid hD) (fun q h => hA q (Nat.le_trans hS.1 h))) (fun v H locs hp9 hz1 hk1 hS => ?_)
    obtain ⟨rfl, hPc⟩ := hp9
    obtain ⟨hP, hD⟩ := fr_mid hP hD hk1 hPc rfl
    have hP : va_P G vwCl (wMain T q a (va_up N 1 (N 1 + 1)) (va_up Z 4 (apF (Z 4) x (N 1) (N 0))) (svB sc b) (psh sc M N) (psh sc Y Z) (svC sc) tx L cu er le nb nc) H := hP
    have hD : va_D A (wMain T q a (va_up N 1 (N 1 + 1)) (va_up Z 4 (apF (Z 4) x (N 1) (N 0))) (svB sc b) (psh sc M N) (psh sc Y Z) (svC sc) tx L cu er le nb nc) := hD
    refine W.eq (g2 := F0 m 46 ls [.int (nI (N 1))]) rfl ?_
    exact hret _ _ _ _ _ _ _ _ rfl rfl (show (sq (seF x (nI (N 0))) (poF (bI (decide (N 1 < 10))))) = 0 ∧ some (Value.int (nI (N 1))) = some (Value.int (nI (N 1))) ∧ va_P G vwCl (wMain T q a (va_up N 1 (N 1 + 1)) (va_up Z 4 (apF (Z 4) x (N 1) (N 0))) (svB sc b) (psh sc M N) (psh sc Y Z) (svC sc) tx L cu er le nb nc) H from ⟨(sq_0 hF0 hF1), rfl, hP⟩) hS (Nat.le_of_ble_eq_true rfl) (Nat.le_of_ble_eq_true rfl) dX5_addFeature_46

theorem idX5_addUser : yX5_addUser.cls = RX5 ∧ yX5_addUser.cls ≠ "java/lang/invoke/MethodHandle" ∧ yX5_addUser.cls ≠ "java/lang/invoke/VarHandle" ∧ (parseMethodDescriptor yX5_addUser.desc).map (fun d => d.parameters.length) = some 2 := by decide +kernel

set_option maxHeartbeats 4000000 in
set_option maxRecDepth 100000 in
theorem mX5_addUser (l : Launch) (hl0 : l.stackTraces = false) {G : va_G} {T : Nat → ClassId} {sa : Nat → Nat} {A9 : Nat → Prop} {H : Heap} {q : Nat → Nat} {a : Nat → Nat} {N : Nat → Nat} {Z : Nat → Nat → Int32} {b : Nat → Nat → Nat} {M : Nat → Nat → Nat} {Y : Nat → Nat → Nat → Int32} {sc : Nat} {tx : Nat → Int32} {L : Nat} {cu : Nat} {er : Int32} {le : Int32} {nb : Nat → Int32} {nc : Nat} {v : Int32} {x : Int32} (h9 : ∀ q, H.size ≤ q → A9 q) (hP : va_P G vwCl (wMain T q a N Z b M Y sc tx L cu er le nb nc) H) (hD : va_D (fun _ => True) (wMain T q a N Z b M Y sc tx L cu er le nb nc)) (hwf : wf N Z) (hsc : sc ≤ 4) : txm l yX5_addUser wsX5_addUser 8 125 3 [.ref (q 0), .int v, .int x] G T sa A9 H (wMain T q a N Z b M Y sc tx L cu er le nb nc) (fun v9 H9 => (sq (thF v (nI (N 0))) (sq (seF x (nI (N 1))) (poF (bI (decide (N 2 < 10)))))) = 0 ∧ v9 = some (.int (nI (N 2))) ∧ va_P G vwCl (wMain T q a (va_up N 2 (N 2 + 1)) (uAdd N Z v x) (svB sc b) (psh sc M N) (psh sc Y Z) (svC sc) tx L cu er le nb nc) H9) (fcE (sq (thF v (nI (N 0))) (sq (seF x (nI (N 1))) (poF (bI (decide (N 2 < 10))))))) := by
  refine tx_of (cc := cX5_addUser) (maxL := 3) (ret := (some .int)) (own := RX5) (by decide +kernel) rfl rfl (Nat.le_of_ble_eq_true rfl) h9 hD ?_
  intro p e s m below meth c ls A Q S hkx hth hl hD hS hA hret hout
  obtain ⟨hx, hb, hml, hown, hts⟩ := id S
  have hl : lv_has ls 3 [(0, .ref (q 0)), (1, .int v), (2, .int x)] := hl
  have k12 := hts (.fieldLink RX5 12 "SunsetDates" "now" "LSunsetDates$Calendar;") (by decide +kernel)
  have iX5 : ∀ w ∈ wsX50, w ∈ wsX5_addUser := by decide +kernel
  have k35 := hts (.fieldLink RX5 35 "SunsetDates$Calendar" "versions" "LSunsetDates$Versions;") (by decide +kernel)
  have iX0 : ∀ w ∈ wsX00, w ∈ wsX5_addUser := by decide +kernel
  have k39 := hts (.fieldLink RX5 39 "SunsetDates$Versions" "count" "I") (by decide +kernel)
  have iX4 : ∀ w ∈ wsX40, w ∈ wsX5_addUser := by decide +kernel
  have k59 := hts (.fieldLink RX5 59 "SunsetDates$Calendar" "featureCount" "I") (by decide +kernel)
  have k80 := hts (.fieldLink RX5 80 "SunsetDates$Calendar" "users" "LSunsetDates$Users;") (by decide +kernel)
  have k84 := hts (.fieldLink RX5 84 "SunsetDates$Users" "count" "I") (by decide +kernel)
  have iX3 : ∀ w ∈ wsX30, w ∈ wsX5_addUser := by decide +kernel
  have hb2 := hwf.1
  refine lv_iload_n hx hb dX5_addUser_0 rfl (lv_at hl 1 rfl) ?_
  refine lv_aload_n hx hb dX5_addUser_1 rfl (lv_at hl 0 rfl) ?_
  refine va_get (D := G) (ci := 5) (C := RX5) (T := TX5) (N := 4) hx hb hts iX5 hown hkx.1 hP 0 rfl rfl 0 (by decide) k12 (fun _ h9 => h9) rfl dX5_addUser_2 ?_
  refine va_get (D := G) (ci := 0) (C := RX0) (T := TX0) (N := 4) hx hb hts iX0 hown hkx.1 hP 5 rfl rfl 0 (by decide) k35 (fun _ h9 => h9) rfl dX5_addUser_5 ?_
  refine va_get (D := G) (ci := 4) (C := RX4) (T := TX4) (N := 5) hx hb hts iX4 hown hkx.1 hP 6 rfl rfl 0 (by decide) k39 (fun _ h9 => h9) rfl dX5_addUser_8 ?_
  refine rx_S S hkx hth (mX5_requireThere l hl0 (sa := sa) (h9 := fun _ h => h) (i := v) (n := (nI (N 0))) ) gX5_addUser_X5_requireThere rfl idX5_requireThere.2 ⟨Nat.le_of_ble_eq_true rfl, Nat.le_of_ble_eq_true rfl⟩ rfl hl.1 rfl (Nat.le_of_ble_eq_true rfl) dX5_addUser_11 ⟨Nat.le_of_ble_eq_true rfl, Nat.le_of_ble_eq_true rfl⟩ (fun E ce q H1 hpx hq hv9 hc9 hz9 hk9 => hout E ce q _ _ _ _ _ _ (sq_l hpx) hq hv9 hc9 hz9 hk9 (Nat.le_of_ble_eq_true rfl) (Nat.le_of_ble_eq_true rfl)) (fun v hpost => ?_)
  obtain ⟨hF0, rfl⟩ := hpost
  refine W.eq (g2 := F0 m 14 ls []) rfl ?_
  refine lv_iload_n hx hb dX5_addUser_14 rfl (lv_at hl 2 rfl) ?_
  refine lv_aload_n hx hb dX5_addUser_15 rfl (lv_at hl 0 rfl) ?_
  refine va_get (D := G) (ci := 5) (C := RX5) (T := TX5) (N := 4) hx hb hts iX5 hown hkx.1 hP 0 rfl rfl 0 (by decide) k12 (fun _ h9 => h9) rfl dX5_addUser_16 ?_
  refine va_get (D := G) (ci := 0) (C := RX0) (T := TX0) (N := 4) hx hb hts iX0 hown hkx.1 hP 5 rfl rfl 1 (by decide) k59 (fun _ h9 => h9) rfl dX5_addUser_19 ?_
  refine rx_S S hkx hth (mX5_requireSet l hl0 (sa := sa) (h9 := fun _ h => h) (x := x) (n := (nI (N 1))) ) gX5_addUser_X5_requireSet rfl idX5_requireSet.2 ⟨Nat.le_of_ble_eq_true rfl, Nat.le_of_ble_eq_true rfl⟩ rfl hl.1 rfl (Nat.le_of_ble_eq_true rfl) dX5_addUser_22 ⟨Nat.le_of_ble_eq_true rfl, Nat.le_of_ble_eq_true rfl⟩ (fun E ce q H1 hpx hq hv9 hc9 hz9 hk9 => hout E ce q _ _ _ _ _ _ (sq_r hF0 (sq_l hpx)) hq hv9 hc9 hz9 hk9 (Nat.le_of_ble_eq_true rfl) (Nat.le_of_ble_eq_true rfl)) (fun v hpost => ?_)
  obtain ⟨hF1, rfl⟩ := hpost
  refine W.eq (g2 := F0 m 25 ls []) rfl ?_
  refine lv_aload_n hx hb dX5_addUser_25 rfl (lv_at hl 0 rfl) ?_
  refine va_get (D := G) (ci := 5) (C := RX5) (T := TX5) (N := 4) hx hb hts iX5 hown hkx.1 hP 0 rfl rfl 0 (by decide) k12 (fun _ h9 => h9) rfl dX5_addUser_26 ?_
  refine va_get (D := G) (ci := 0) (C := RX0) (T := TX0) (N := 4) hx hb hts iX0 hown hkx.1 hP 5 rfl rfl 2 (by decide) k80 (fun _ h9 => h9) rfl dX5_addUser_29 ?_
  refine va_get (D := G) (ci := 3) (C := RX3) (T := TX3) (N := 7) hx hb hts iX3 hown hkx.1 hP 11 rfl rfl 0 (by decide) k84 (fun _ h9 => h9) rfl dX5_addUser_32 ?_
  refine lv_bipush (v := 10) hx hb dX5_addUser_35 (by decide) ?_
  refine lv_icmp_ge (tgt := 44) hx hb dX5_addUser_37 (by decide) (fun c_1 => ?_) (fun c_1 => ?_)
  · replace c_1 := cn_le (a := 10) (b := (N 2)) (by omega) (by omega) c_1
    have cD : decide (N 2 < 10) = false := decide_eq_false (by omega)
    refine lv_iconst (v := 0) hx hb dX5_addUser_44 (by decide) ?_
    refine rx_S S hkx hth (mX5_requirePossible l hl0 (sa := sa) (h9 := fun _ h => h) (z := 0) ) gX5_addUser_X5_requirePossible rfl idX5_requirePossible.2 ⟨Nat.le_of_ble_eq_true rfl, Nat.le_of_ble_eq_true rfl⟩ rfl hl.1 rfl (Nat.le_of_ble_eq_true rfl) dX5_addUser_45 ⟨Nat.le_of_ble_eq_true rfl, Nat.le_of_ble_eq_true rfl⟩ (fun E ce q H1 hpx hq hv9 hc9 hz9 hk9 => hout E ce q _ _ _ _ _ _ (sq_r hF0 (sq_r hF1 (by first | exact hpx | (rw [cD]; exact hpx)))) hq hv9 hc9 hz9 hk9 (Nat.le_of_ble_eq_true rfl) (Nat.le_of_ble_eq_true rfl)) (fun v hpost => ?_)
    obtain ⟨hF2, rfl⟩ := hpost
    exact absurd hF2 (by decide)
  · replace c_1 := cn_nle (a := 10) (b := (N 2)) (by omega) (by omega) c_1
    have cD : decide (N 2 < 10) = true := decide_eq_true (by omega)
    refine lv_iconst (v := 1) hx hb dX5_addUser_40 (by decide) ?_
    refine lv_goto (tgt := 45) hx hb dX5_addUser_41 (by decide) ?_
    refine rx_S S hkx hth (mX5_requirePossible l hl0 (sa := sa) (h9 := fun _ h => h) (z := 1) ) gX5_addUser_X5_requirePossible rfl idX5_requirePossible.2 ⟨Nat.le_of_ble_eq_true rfl, Nat.le_of_ble_eq_true rfl⟩ rfl hl.1 rfl (Nat.le_of_ble_eq_true rfl) dX5_addUser_45 ⟨Nat.le_of_ble_eq_true rfl, Nat.le_of_ble_eq_true rfl⟩ (fun E ce q H1 hpx hq hv9 hc9 hz9 hk9 => hout E ce q _ _ _ _ _ _ (sq_r hF0 (sq_r hF1 (by first | exact hpx | (rw [cD]; exact hpx)))) hq hv9 hc9 hz9 hk9 (Nat.le_of_ble_eq_true rfl) (Nat.le_of_ble_eq_true rfl)) (fun v hpost => ?_)
    obtain ⟨hF2, rfl⟩ := hpost
    have hF2 : (poF (bI (decide (N 2 < 10)))) = 0 := by first | exact hF2 | (rw [cD]; exact hF2)
    refine W.eq (g2 := F0 m 48 ls []) rfl ?_
    refine lv_aload_n hx hb dX5_addUser_48 rfl (lv_at hl 0 rfl) ?_
    refine mu_V S hkx (mX5_saveState l (hP := hP) (hD := hD.weaken (fun _ _ _ _ => trivial)) (q := q) (a := a) (N := N) (Z := Z) (b := b) (M := M) (Y := Y) (sc := sc) (tx := tx) (L := L) (cu := cu) (er := er) (le := le) (nb := nb) (nc := nc) (hsc := (by omega))) gX5_addUser_X5_saveState rfl idX5_saveState ⟨Nat.le_of_ble_eq_true rfl, Nat.le_of_ble_eq_true rfl⟩ hP 0 rfl rfl rfl rfl hl.1 rfl (Nat.le_of_ble_eq_true rfl) dX5_addUser_49 ⟨Nat.le_of_ble_eq_true rfl, Nat.le_of_ble_eq_true rfl⟩ hS (fr_in hD (fun q h => hA q (Nat.le_trans hS.1 h))) (fun v H locs hp9 hz1 hk1 hS => ?_)
    obtain ⟨rfl, hP⟩ := hp9
    have hP : va_P G vwCl (wMain T q a N Z (svB sc b) (psh sc M N) (psh sc Y Z) (svC sc) tx L cu er le nb nc) H := hP
    have hD : va_D A (wMain T q a N Z (svB sc b) (psh sc M N) (psh sc Y Z) (svC sc) tx L cu er le nb nc) := D_perm hD sv_addr
    refine W.eq (g2 := F0 m 52 ls []) rfl ?_
    refine lv_aload_n hx hb dX5_addUser_52 rfl (lv_at hl 0 rfl) ?_
    refine va_get (D := G) (ci := 5) (C := RX5) (T := TX5) (N := 4) hx hb hts iX5 hown hkx.1 hP 0 rfl rfl 0 (by decide) k12 (fun _ h9 => h9) rfl dX5_addUser_53 ?_
    refine va_get (D := G) (ci := 0) (C := RX0) (T := TX0) (N := 4) hx hb hts iX0 hown hkx.1 hP 5 rfl rfl 2 (by decide) k80 (fun _ h9 => h9) rfl dX5_addUser_56 ?_
    refine lv_iload_n hx hb dX5_addUser_59 rfl (lv_at hl 1 rfl) ?_
    refine lv_iload_n hx hb dX5_addUser_60 rfl (lv_at hl 2 rfl) ?_
    refine mu_V S hkx (mX3_addRow l (hP := P_mid hP) (hD := (D_mid hD).weaken (fun _ _ _ _ => trivial)) (a := a) (N := N) (Z := Z) (v := v) (x := x) (hs := (by omega))) gX5_addUser_X3_addRow rfl idX3_addRow ⟨Nat.le_of_ble_eq_true rfl, Nat.le_of_ble_eq_true rfl⟩ hP 11 rfl rfl rfl rfl hl.1 rfl (Nat.le_of_ble_eq_true rfl) dX5_addUser_61 ⟨Nat.le_of_ble_eq_true rfl, Nat.le_of_ble_eq_true rfl⟩ hS (fr_in (D_mid hD) (fun q h => hA q (Nat.le_trans hS.1 h))) (fun v H locs hp9 hz1 hk1 hS => ?_)
    obtain ⟨rfl, hPc⟩ := hp9
    obtain ⟨hP, hD⟩ := fr_mid hP hD hk1 hPc rfl
    have hP : va_P G vwCl (wMain T q a (va_up N 2 (N 2 + 1)) (uAdd N Z v x) (svB sc b) (psh sc M N) (psh sc Y Z) (svC sc) tx L cu er le nb nc) H := hP
    have hD : va_D A (wMain T q a (va_up N 2 (N 2 + 1)) (uAdd N Z v x) (svB sc b) (psh sc M N) (psh sc Y Z) (svC sc) tx L cu er le nb nc) := hD
    refine W.eq (g2 := F0 m 64 ls [.int (nI (N 2))]) rfl ?_
    exact hret _ _ _ _ _ _ _ _ rfl rfl (show (sq (thF v (nI (N 0))) (sq (seF x (nI (N 1))) (poF (bI (decide (N 2 < 10)))))) = 0 ∧ some (Value.int (nI (N 2))) = some (Value.int (nI (N 2))) ∧ va_P G vwCl (wMain T q a (va_up N 2 (N 2 + 1)) (uAdd N Z v x) (svB sc b) (psh sc M N) (psh sc Y Z) (svC sc) tx L cu er le nb nc) H from ⟨(sq_0 hF0 (sq_0 hF1 hF2)), rfl, hP⟩) hS (Nat.le_of_ble_eq_true rfl) (Nat.le_of_ble_eq_true rfl) dX5_addUser_64

theorem idX5_put : yX5_put.cls = RX5 ∧ yX5_put.cls ≠ "java/lang/invoke/MethodHandle" ∧ yX5_put.cls ≠ "java/lang/invoke/VarHandle" ∧ (parseMethodDescriptor yX5_put.desc).map (fun d => d.parameters.length) = some 3 := by decide +kernel

set_option maxHeartbeats 4000000 in
set_option maxRecDepth 100000 in
theorem mX5_put (l : Launch) (hl0 : l.stackTraces = false) {G : va_G} {T : Nat → ClassId} {sa : Nat → Nat} {A9 : Nat → Prop} {H : Heap} {q : Nat → Nat} {a : Nat → Nat} {N : Nat → Nat} {Z : Nat → Nat → Int32} {b : Nat → Nat → Nat} {M : Nat → Nat → Nat} {Y : Nat → Nat → Nat → Int32} {sc : Nat} {tx : Nat → Int32} {L : Nat} {cu : Nat} {er : Int32} {le : Int32} {nb : Nat → Int32} {nc : Nat} {f : Int32} {v : Int32} {h : Bool} (h9 : ∀ q, H.size ≤ q → A9 q) (hP : va_P G vwCl (wMain T q a N Z b M Y sc tx L cu er le nb nc) H) (hD : va_D (fun _ => True) (wMain T q a N Z b M Y sc tx L cu er le nb nc)) (hwf : wf N Z) (hsc : sc ≤ 4) : txm l yX5_put wsX5_put 7 122 3 [.ref (q 0), .int f, .int v, .int (bI h)] G T sa A9 H (wMain T q a N Z b M Y sc tx L cu er le nb nc) (fun v9 H9 => (sq (thF f (nI (N 1))) (sq (thF v (nI (N 0))) (poF (bI (decide (¬ cnt1 (Z 4 (tn v)) f = h)))))) = 0 ∧ v9 = some (.int (allW (va_up Z 4 (upd (Z 4) (tn v) (Z 4 (tn v) ^^^ ((1 : Int32) <<< (f &&& 31))))) f (N 0))) ∧ va_P G vwCl (wMain T q a N (va_up Z 4 (upd (Z 4) (tn v) (Z 4 (tn v) ^^^ ((1 : Int32) <<< (f &&& 31))))) (svB sc b) (psh sc M N) (psh sc Y Z) (svC sc) tx L cu er le nb nc) H9) (fcE (sq (thF f (nI (N 1))) (sq (thF v (nI (N 0))) (poF (bI (decide (¬ cnt1 (Z 4 (tn v)) f = h))))))) := by
  refine tx_of (cc := cX5_put) (maxL := 4) (ret := (some .int)) (own := RX5) (by decide +kernel) rfl rfl (Nat.le_of_ble_eq_true rfl) h9 hD ?_
  intro p e s m below meth c ls A Q S hkx hth hl hD hS hA hret hout
  obtain ⟨hx, hb, hml, hown, hts⟩ := id S
  have hl : lv_has ls 4 [(0, .ref (q 0)), (1, .int f), (2, .int v), (3, .int (bI h))] := hl
  have k12 := hts (.fieldLink RX5 12 "SunsetDates" "now" "LSunsetDates$Calendar;") (by decide +kernel)
  have iX5 : ∀ w ∈ wsX50, w ∈ wsX5_put := by decide +kernel
  have k59 := hts (.fieldLink RX5 59 "SunsetDates$Calendar" "featureCount" "I") (by decide +kernel)
  have iX0 : ∀ w ∈ wsX00, w ∈ wsX5_put := by decide +kernel
  have k35 := hts (.fieldLink RX5 35 "SunsetDates$Calendar" "versions" "LSunsetDates$Versions;") (by decide +kernel)
  have k39 := hts (.fieldLink RX5 39 "SunsetDates$Versions" "count" "I") (by decide +kernel)
  have iX4 : ∀ w ∈ wsX40, w ∈ wsX5_put := by decide +kernel
  have k69 := hts (.fieldLink RX5 69 "SunsetDates$Versions" "features" "[I") (by decide +kernel)
  have hb2 := hwf.1
  refine lv_iload_n hx hb dX5_put_0 rfl (lv_at hl 1 rfl) ?_
  refine lv_aload_n hx hb dX5_put_1 rfl (lv_at hl 0 rfl) ?_
  refine va_get (D := G) (ci := 5) (C := RX5) (T := TX5) (N := 4) hx hb hts iX5 hown hkx.1 hP 0 rfl rfl 0 (by decide) k12 (fun _ h9 => h9) rfl dX5_put_2 ?_
  refine va_get (D := G) (ci := 0) (C := RX0) (T := TX0) (N := 4) hx hb hts iX0 hown hkx.1 hP 5 rfl rfl 1 (by decide) k59 (fun _ h9 => h9) rfl dX5_put_5 ?_
  refine rx_S S hkx hth (mX5_requireThere l hl0 (sa := sa) (h9 := fun _ h => h) (i := f) (n := (nI (N 1))) ) gX5_put_X5_requireThere rfl idX5_requireThere.2 ⟨Nat.le_of_ble_eq_true rfl, Nat.le_of_ble_eq_true rfl⟩ rfl hl.1 rfl (Nat.le_of_ble_eq_true rfl) dX5_put_8 ⟨Nat.le_of_ble_eq_true rfl, Nat.le_of_ble_eq_true rfl⟩ (fun E ce q H1 hpx hq hv9 hc9 hz9 hk9 => hout E ce q _ _ _ _ _ _ (sq_l hpx) hq hv9 hc9 hz9 hk9 (Nat.le_of_ble_eq_true rfl) (Nat.le_of_ble_eq_true rfl)) (fun v hpost => ?_)
  obtain ⟨hF0, rfl⟩ := hpost
  obtain ⟨k1, hk1, rfl⟩ := thF_nat (n := N 1) hF0 (by omega)
  refine W.eq (g2 := F0 m 11 ls []) rfl ?_
  refine lv_iload_n hx hb dX5_put_11 rfl (lv_at hl 2 rfl) ?_
  refine lv_aload_n hx hb dX5_put_12 rfl (lv_at hl 0 rfl) ?_
  refine va_get (D := G) (ci := 5) (C := RX5) (T := TX5) (N := 4) hx hb hts iX5 hown hkx.1 hP 0 rfl rfl 0 (by decide) k12 (fun _ h9 => h9) rfl dX5_put_13 ?_
  refine va_get (D := G) (ci := 0) (C := RX0) (T := TX0) (N := 4) hx hb hts iX0 hown hkx.1 hP 5 rfl rfl 0 (by decide) k35 (fun _ h9 => h9) rfl dX5_put_16 ?_
  refine va_get (D := G) (ci := 4) (C := RX4) (T := TX4) (N := 5) hx hb hts iX4 hown hkx.1 hP 6 rfl rfl 0 (by decide) k39 (fun _ h9 => h9) rfl dX5_put_19 ?_
  refine rx_S S hkx hth (mX5_requireThere l hl0 (sa := sa) (h9 := fun _ h => h) (i := v) (n := (nI (N 0))) ) gX5_put_X5_requireThere rfl idX5_requireThere.2 ⟨Nat.le_of_ble_eq_true rfl, Nat.le_of_ble_eq_true rfl⟩ rfl hl.1 rfl (Nat.le_of_ble_eq_true rfl) dX5_put_22 ⟨Nat.le_of_ble_eq_true rfl, Nat.le_of_ble_eq_true rfl⟩ (fun E ce q H1 hpx hq hv9 hc9 hz9 hk9 => hout E ce q _ _ _ _ _ _ (sq_r hF0 (sq_l hpx)) hq hv9 hc9 hz9 hk9 (Nat.le_of_ble_eq_true rfl) (Nat.le_of_ble_eq_true rfl)) (fun v hpost => ?_)
  obtain ⟨hF1, rfl⟩ := hpost
  obtain ⟨k2, hk2, rfl⟩ := thF_nat (n := N 0) hF1 (by omega)
  have e2 : tn (nI k2) = k2 := nI_clamp (by omega)
  refine W.eq (g2 := F0 m 25 ls []) rfl ?_
  refine lv_aload_n hx hb dX5_put_25 rfl (lv_at hl 0 rfl) ?_
  refine va_get (D := G) (ci := 5) (C := RX5) (T := TX5) (N := 4) hx hb hts iX5 hown hkx.1 hP 0 rfl rfl 0 (by decide) k12 (fun _ h9 => h9) rfl dX5_put_26 ?_
  refine va_get (D := G) (ci := 0) (C := RX0) (T := TX0) (N := 4) hx hb hts iX0 hown hkx.1 hP 5 rfl rfl 0 (by decide) k35 (fun _ h9 => h9) rfl dX5_put_29 ?_
  refine va_get (D := G) (ci := 4) (C := RX4) (T := TX4) (N := 5) hx hb hts iX4 hown hkx.1 hP 6 rfl rfl 4 (by decide) k69 (fun _ h9 => h9) rfl dX5_put_32 ?_
  refine lv_iload_n hx hb dX5_put_35 rfl (lv_at hl 2 rfl) ?_
  refine ia hx hb hkx hP 10 rfl k2 rfl (by omega) (by decide) dX5_put_36 ?_
  refine lv_iload_n hx hb dX5_put_37 rfl (lv_at hl 1 rfl) ?_
  refine ro_S S hkx (mX5_contains l (x := ((Z 4) k2)) (k := (nI k1))) gX5_put_X5_contains rfl idX5_contains.2 ⟨Nat.le_of_ble_eq_true rfl, Nat.le_of_ble_eq_true rfl⟩ rfl hl.1 rfl (Nat.le_of_ble_eq_true rfl) dX5_put_38 ⟨Nat.le_of_ble_eq_true rfl, Nat.le_of_ble_eq_true rfl⟩ (fun r_1 hr_1 => ?_)
  subst hr_1
  refine lv_iload_n hx hb dX5_put_41 rfl (lv_at hl 3 rfl) ?_
  refine lv_icmp_eq (tgt := 49) hx hb dX5_put_42 (by decide) (fun c_2 => ?_) (fun c_2 => ?_)
  · skip
    have cD : decide (¬ cnt1 (Z 4 k2) (nI k1) = h) = false := decide_eq_false (not_not_intro (bI_inj c_2))
    refine lv_iconst (v := 0) hx hb dX5_put_49 (by decide) ?_
    refine rx_S S hkx hth (mX5_requirePossible l hl0 (sa := sa) (h9 := fun _ h => h) (z := 0) ) gX5_put_X5_requirePossible rfl idX5_requirePossible.2 ⟨Nat.le_of_ble_eq_true rfl, Nat.le_of_ble_eq_true rfl⟩ rfl hl.1 rfl (Nat.le_of_ble_eq_true rfl) dX5_put_50 ⟨Nat.le_of_ble_eq_true rfl, Nat.le_of_ble_eq_true rfl⟩ (fun E ce q H1 hpx hq hv9 hc9 hz9 hk9 => hout E ce q _ _ _ _ _ _ (sq_r hF0 (sq_r hF1 (by first | exact hpx | (rw [cD]; exact hpx) | (rw [e2]; exact hpx) | (rw [e2, cD]; exact hpx)))) hq hv9 hc9 hz9 hk9 (Nat.le_of_ble_eq_true rfl) (Nat.le_of_ble_eq_true rfl)) (fun v hpost => ?_)
    obtain ⟨hF2, rfl⟩ := hpost
    exact absurd hF2 (by decide)
  · skip
    have cD : decide (¬ cnt1 (Z 4 k2) (nI k1) = h) = true := decide_eq_true (fun z9 => c_2 (by rw [z9]))
    refine lv_iconst (v := 1) hx hb dX5_put_45 (by decide) ?_
    refine lv_goto (tgt := 50) hx hb dX5_put_46 (by decide) ?_
    refine rx_S S hkx hth (mX5_requirePossible l hl0 (sa := sa) (h9 := fun _ h => h) (z := 1) ) gX5_put_X5_requirePossible rfl idX5_requirePossible.2 ⟨Nat.le_of_ble_eq_true rfl, Nat.le_of_ble_eq_true rfl⟩ rfl hl.1 rfl (Nat.le_of_ble_eq_true rfl) dX5_put_50 ⟨Nat.le_of_ble_eq_true rfl, Nat.le_of_ble_eq_true rfl⟩ (fun E ce q H1 hpx hq hv9 hc9 hz9 hk9 => hout E ce q _ _ _ _ _ _ (sq_r hF0 (sq_r hF1 (by first | exact hpx | (rw [cD]; exact hpx) | (rw [e2]; exact hpx) | (rw [e2, cD]; exact hpx)))) hq hv9 hc9 hz9 hk9 (Nat.le_of_ble_eq_true rfl) (Nat.le_of_ble_eq_true rfl)) (fun v hpost => ?_)
    obtain ⟨hF2, rfl⟩ := hpost
    have hF2 : (poF (bI (decide (¬ cnt1 (Z 4 (tn (nI k2))) (nI k1) = h)))) = 0 := by first | exact hF2 | (rw [cD]; exact hF2) | (rw [e2]; exact hF2) | (rw [e2, cD]; exact hF2)
    refine W.eq (g2 := F0 m 53 ls []) rfl ?_
    refine lv_aload_n hx hb dX5_put_53 rfl (lv_at hl 0 rfl) ?_
    refine mu_V S hkx (mX5_saveState l (hP := hP) (hD := hD.weaken (fun _ _ _ _ => trivial)) (q := q) (a := a) (N := N) (Z := Z) (b := b) (M := M) (Y := Y) (sc := sc) (tx := tx) (L := L) (cu := cu) (er := er) (le := le) (nb := nb) (nc := nc) (hsc := (by omega))) gX5_put_X5_saveState rfl idX5_saveState ⟨Nat.le_of_ble_eq_true rfl, Nat.le_of_ble_eq_true rfl⟩ hP 0 rfl rfl rfl rfl hl.1 rfl (Nat.le_of_ble_eq_true rfl) dX5_put_54 ⟨Nat.le_of_ble_eq_true rfl, Nat.le_of_ble_eq_true rfl⟩ hS (fr_in hD (fun q h => hA q (Nat.le_trans hS.1 h))) (fun v H locs hp9 hz1 hk1 hS => ?_)
    obtain ⟨rfl, hP⟩ := hp9
    have hP : va_P G vwCl (wMain T q a N Z (svB sc b) (psh sc M N) (psh sc Y Z) (svC sc) tx L cu er le nb nc) H := hP
    have hD : va_D A (wMain T q a N Z (svB sc b) (psh sc M N) (psh sc Y Z) (svC sc) tx L cu er le nb nc) := D_perm hD sv_addr
    refine W.eq (g2 := F0 m 57 ls []) rfl ?_
    refine lv_aload_n hx hb dX5_put_57 rfl (lv_at hl 0 rfl) ?_
    refine va_get (D := G) (ci := 5) (C := RX5) (T := TX5) (N := 4) hx hb hts iX5 hown hkx.1 hP 0 rfl rfl 0 (by decide) k12 (fun _ h9 => h9) rfl dX5_put_58 ?_
    refine va_get (D := G) (ci := 0) (C := RX0) (T := TX0) (N := 4) hx hb hts iX0 hown hkx.1 hP 5 rfl rfl 0 (by decide) k35 (fun _ h9 => h9) rfl dX5_put_61 ?_
    refine va_get (D := G) (ci := 4) (C := RX4) (T := TX4) (N := 5) hx hb hts iX4 hown hkx.1 hP 6 rfl rfl 4 (by decide) k69 (fun _ h9 => h9) rfl dX5_put_64 ?_
    refine lv_iload_n hx hb dX5_put_67 rfl (lv_at hl 2 rfl) ?_
    refine lv_dup2_11 hx hb dX5_put_68 rfl rfl ?_
    refine ia hx hb hkx hP 10 rfl k2 rfl (by omega) (by decide) dX5_put_69 ?_
    refine lv_iconst (v := 1) hx hb dX5_put_70 (by decide) ?_
    refine lv_iload_n hx hb dX5_put_71 rfl (lv_at hl 1 rfl) ?_
    refine lv_ishl hx hb dX5_put_72 ?_
    refine lv_ixor hx hb dX5_put_73 ?_
    refine ist hx hb hkx hP hD hS 10 rfl k2 rfl (by omega) (by decide) dX5_put_74 (fun H locs hP hD hS => ?_)
    have hP : va_P G vwCl (wMain T q a N (va_up Z 4 (upd (Z 4) k2 (((Z 4) k2) ^^^ (1 <<< ((nI k1) &&& 31))))) (svB sc b) (psh sc M N) (psh sc Y Z) (svC sc) tx L cu er le nb nc) H := hP
    have hD : va_D A (wMain T q a N (va_up Z 4 (upd (Z 4) k2 (((Z 4) k2) ^^^ (1 <<< ((nI k1) &&& 31))))) (svB sc b) (psh sc M N) (psh sc Y Z) (svC sc) tx L cu er le nb nc) := hD
    refine lv_aload_n hx hb dX5_put_75 rfl (lv_at hl 0 rfl) ?_
    refine va_get (D := G) (ci := 5) (C := RX5) (T := TX5) (N := 4) hx hb hts iX5 hown hkx.1 hP 0 rfl rfl 0 (by decide) k12 (fun _ h9 => h9) rfl dX5_put_76 ?_
    refine va_get (D := G) (ci := 0) (C := RX0) (T := TX0) (N := 4) hx hb hts iX0 hown hkx.1 hP 5 rfl rfl 0 (by decide) k35 (fun _ h9 => h9) rfl dX5_put_79 ?_
    refine lv_iload_n hx hb dX5_put_82 rfl (lv_at hl 1 rfl) ?_
    refine ro_V S hkx (mX4_allWith l (f := (nI k1)) (hP := P_mid hP) (hs := (by omega))) gX5_put_X4_allWith rfl idX4_allWith ⟨Nat.le_of_ble_eq_true rfl, Nat.le_of_ble_eq_true rfl⟩ hP 6 rfl rfl rfl rfl hl.1 rfl (Nat.le_of_ble_eq_true rfl) dX5_put_83 ⟨Nat.le_of_ble_eq_true rfl, Nat.le_of_ble_eq_true rfl⟩ (fun r_3 hr_3 => ?_)
    subst hr_3
    exact hret _ _ _ _ _ _ _ _ rfl rfl (show (sq (thF (nI k1) (nI (N 1))) (sq (thF (nI k2) (nI (N 0))) (poF (bI (decide (¬ cnt1 (Z 4 (tn (nI k2))) (nI k1) = h)))))) = 0 ∧ some (Value.int (allW (va_up Z 4 (upd (Z 4) k2 (((Z 4) k2) ^^^ (1 <<< ((nI k1) &&& 31))))) (nI k1) (N 0))) = some (Value.int (allW (va_up Z 4 (upd (Z 4) (tn (nI k2)) (Z 4 (tn (nI k2)) ^^^ ((1 : Int32) <<< ((nI k1) &&& 31))))) (nI k1) (N 0))) ∧ va_P G vwCl (wMain T q a N (va_up Z 4 (upd (Z 4) (tn (nI k2)) (Z 4 (tn (nI k2)) ^^^ ((1 : Int32) <<< ((nI k1) &&& 31))))) (svB sc b) (psh sc M N) (psh sc Y Z) (svC sc) tx L cu er le nb nc) H from ⟨(sq_0 hF0 (sq_0 hF1 hF2)), by first | rfl | (simp only [e2]; done) | (simp only [e2]; rfl), (by simp only [e2]; exact hP)⟩) hS (Nat.le_of_ble_eq_true rfl) (Nat.le_of_ble_eq_true rfl) dX5_put_86

theorem idX5_pledge : yX5_pledge.cls = RX5 ∧ yX5_pledge.cls ≠ "java/lang/invoke/MethodHandle" ∧ yX5_pledge.cls ≠ "java/lang/invoke/VarHandle" ∧ (parseMethodDescriptor yX5_pledge.desc).map (fun d => d.parameters.length) = some 3 := by decide +kernel

set_option maxHeartbeats 4000000 in
set_option maxRecDepth 100000 in
theorem mX5_pledge (l : Launch) (hl0 : l.stackTraces = false) {G : va_G} {T : Nat → ClassId} {sa : Nat → Nat} {A9 : Nat → Prop} {H : Heap} {q : Nat → Nat} {a : Nat → Nat} {N : Nat → Nat} {Z : Nat → Nat → Int32} {b : Nat → Nat → Nat} {M : Nat → Nat → Nat} {Y : Nat → Nat → Nat → Int32} {sc : Nat} {tx : Nat → Int32} {L : Nat} {cu : Nat} {er : Int32} {le : Int32} {nb : Nat → Int32} {nc : Nat} {u : Int32} {v : Int32} {d : Int32} (h9 : ∀ q, H.size ≤ q → A9 q) (hP : va_P G vwCl (wMain T q a N Z b M Y sc tx L cu er le nb nc) H) (hD : va_D (fun _ => True) (wMain T q a N Z b M Y sc tx L cu er le nb nc)) (hwf : wf N Z) (hsc : sc ≤ 4) : txm l yX5_pledge wsX5_pledge 7 122 1 [.ref (q 0), .int u, .int v, .int d] G T sa A9 H (wMain T q a N Z b M Y sc tx L cu er le nb nc) (fun v9 H9 => (rfF (plF N u v d)) = 0 ∧ v9 = some (.int (Z 8 (tn u))) ∧ va_P G vwCl (wMain T q a N (uPl Z (tn u) v d) (svB sc b) (psh sc M N) (psh sc Y Z) (svC sc) tx L cu er le nb nc) H9) (fcE (rfF (plF N u v d))) := by
  refine tx_of (cc := cX5_pledge) (maxL := 5) (ret := (some .int)) (own := RX5) (by decide +kernel) rfl rfl (Nat.le_of_ble_eq_true rfl) h9 hD ?_
  intro p e s m below meth c ls A Q S hkx hth hl hD hS hA hret hout
  obtain ⟨hx, hb, hml, hown, hts⟩ := id S
  have hl : lv_has ls 5 [(0, .ref (q 0)), (1, .int u), (2, .int v), (3, .int d)] := hl
  have k12 := hts (.fieldLink RX5 12 "SunsetDates" "now" "LSunsetDates$Calendar;") (by decide +kernel)
  have iX5 : ∀ w ∈ wsX50, w ∈ wsX5_pledge := by decide +kernel
  have k80 := hts (.fieldLink RX5 80 "SunsetDates$Calendar" "users" "LSunsetDates$Users;") (by decide +kernel)
  have iX0 : ∀ w ∈ wsX00, w ∈ wsX5_pledge := by decide +kernel
  have k96 := hts (.fieldLink RX5 96 "SunsetDates$Users" "pledgeDay" "[I") (by decide +kernel)
  have iX3 : ∀ w ∈ wsX30, w ∈ wsX5_pledge := by decide +kernel
  have hb2 := hwf.1
  refine lv_aload_n hx hb dX5_pledge_0 rfl (lv_at hl 0 rfl) ?_
  refine va_get (D := G) (ci := 5) (C := RX5) (T := TX5) (N := 4) hx hb hts iX5 hown hkx.1 hP 0 rfl rfl 0 (by decide) k12 (fun _ h9 => h9) rfl dX5_pledge_1 ?_
  refine lv_iload_n hx hb dX5_pledge_4 rfl (lv_at hl 1 rfl) ?_
  refine lv_iload_n hx hb dX5_pledge_5 rfl (lv_at hl 2 rfl) ?_
  refine lv_iload_n hx hb dX5_pledge_6 rfl (lv_at hl 3 rfl) ?_
  refine ro_V S hkx (mX0_pledgeFault l (u := u) (v := v) (d := d) (hP := P_mid hP)) gX5_pledge_X0_pledgeFault rfl idX0_pledgeFault ⟨Nat.le_of_ble_eq_true rfl, Nat.le_of_ble_eq_true rfl⟩ hP 5 rfl rfl rfl rfl hl.1 rfl (Nat.le_of_ble_eq_true rfl) dX5_pledge_7 ⟨Nat.le_of_ble_eq_true rfl, Nat.le_of_ble_eq_true rfl⟩ (fun r_1 hr_1 => ?_)
  subst hr_1
  refine rx_S S hkx hth (mX5_refuse l hl0 (sa := sa) (h9 := fun _ h => h) (z := (plF N u v d)) ) gX5_pledge_X5_refuse rfl idX5_refuse.2 ⟨Nat.le_of_ble_eq_true rfl, Nat.le_of_ble_eq_true rfl⟩ rfl hl.1 rfl (Nat.le_of_ble_eq_true rfl) dX5_pledge_10 ⟨Nat.le_of_ble_eq_true rfl, Nat.le_of_ble_eq_true rfl⟩ (fun E ce q H1 hpx hq hv9 hc9 hz9 hk9 => hout E ce q _ _ _ _ _ _ hpx hq hv9 hc9 hz9 hk9 (Nat.le_of_ble_eq_true rfl) (Nat.le_of_ble_eq_true rfl)) (fun v hpost => ?_)
  obtain ⟨hF0, rfl⟩ := hpost
  
  
  
  obtain ⟨k1, k2, k3, hk1, hk2, hk3, rfl, rfl, rfl⟩ := pl_ok hF0 (by omega) (by omega)
  refine W.eq (g2 := F0 m 13 ls []) rfl ?_
  refine lv_aload_n hx hb dX5_pledge_13 rfl (lv_at hl 0 rfl) ?_
  refine mu_V S hkx (mX5_saveState l (hP := hP) (hD := hD.weaken (fun _ _ _ _ => trivial)) (q := q) (a := a) (N := N) (Z := Z) (b := b) (M := M) (Y := Y) (sc := sc) (tx := tx) (L := L) (cu := cu) (er := er) (le := le) (nb := nb) (nc := nc) (hsc := (by omega))) gX5_pledge_X5_saveState rfl idX5_saveState ⟨Nat.le_of_ble_eq_true rfl, Nat.le_of_ble_eq_true rfl⟩ hP 0 rfl rfl rfl rfl hl.1 rfl (Nat.le_of_ble_eq_true rfl) dX5_pledge_14 ⟨Nat.le_of_ble_eq_true rfl, Nat.le_of_ble_eq_true rfl⟩ hS (fr_in hD (fun q h => hA q (Nat.le_trans hS.1 h))) (fun v H locs hp9 hz1 hk1 hS => ?_)
  obtain ⟨rfl, hP⟩ := hp9
  have hP : va_P G vwCl (wMain T q a N Z (svB sc b) (psh sc M N) (psh sc Y Z) (svC sc) tx L cu er le nb nc) H := hP
  have hD : va_D A (wMain T q a N Z (svB sc b) (psh sc M N) (psh sc Y Z) (svC sc) tx L cu er le nb nc) := D_perm hD sv_addr
  refine W.eq (g2 := F0 m 17 ls []) rfl ?_
  refine lv_aload_n hx hb dX5_pledge_17 rfl (lv_at hl 0 rfl) ?_
  refine va_get (D := G) (ci := 5) (C := RX5) (T := TX5) (N := 4) hx hb hts iX5 hown hkx.1 hP 0 rfl rfl 0 (by decide) k12 (fun _ h9 => h9) rfl dX5_pledge_18 ?_
  refine va_get (D := G) (ci := 0) (C := RX0) (T := TX0) (N := 4) hx hb hts iX0 hown hkx.1 hP 5 rfl rfl 2 (by decide) k80 (fun _ h9 => h9) rfl dX5_pledge_21 ?_
  refine va_get (D := G) (ci := 3) (C := RX3) (T := TX3) (N := 7) hx hb hts iX3 hown hkx.1 hP 11 rfl rfl 4 (by decide) k96 (fun _ h9 => h9) rfl dX5_pledge_24 ?_
  refine lv_iload_n hx hb dX5_pledge_27 rfl (lv_at hl 1 rfl) ?_
  refine ia hx hb hkx hP 15 rfl k1 rfl (by omega) (by decide) dX5_pledge_28 ?_
  refine lv_istore (lv' := [(4, .int ((Z 8) k1)), (0, .ref (q 0)), (1, .int (nI k1)), (2, .int (nI k2)), (3, .int (nI k3))]) hx hb dX5_pledge_29 hl (by decide) rfl (fun ls hl => ?_)
  refine lv_aload_n hx hb dX5_pledge_31 rfl (lv_at hl 1 rfl) ?_
  refine va_get (D := G) (ci := 5) (C := RX5) (T := TX5) (N := 4) hx hb hts iX5 hown hkx.1 hP 0 rfl rfl 0 (by decide) k12 (fun _ h9 => h9) rfl dX5_pledge_32 ?_
  refine va_get (D := G) (ci := 0) (C := RX0) (T := TX0) (N := 4) hx hb hts iX0 hown hkx.1 hP 5 rfl rfl 2 (by decide) k80 (fun _ h9 => h9) rfl dX5_pledge_35 ?_
  refine lv_iload_n hx hb dX5_pledge_38 rfl (lv_at hl 2 rfl) ?_
  refine lv_iload_n hx hb dX5_pledge_39 rfl (lv_at hl 3 rfl) ?_
  refine lv_iload_n hx hb dX5_pledge_40 rfl (lv_at hl 4 rfl) ?_
  refine mu_V S hkx (mX3_setPledge l (hP := P_mid hP) (hD := (D_mid hD).weaken (fun _ _ _ _ => trivial)) (a := a) (N := N) (Z := Z) (u := k1) (v := (nI k2)) (d := (nI k3)) (hu := (by omega))) gX5_pledge_X3_setPledge rfl idX3_setPledge ⟨Nat.le_of_ble_eq_true rfl, Nat.le_of_ble_eq_true rfl⟩ hP 11 rfl rfl rfl rfl hl.1 rfl (Nat.le_of_ble_eq_true rfl) dX5_pledge_41 ⟨Nat.le_of_ble_eq_true rfl, Nat.le_of_ble_eq_true rfl⟩ hS (fr_in (D_mid hD) (fun q h => hA q (Nat.le_trans hS.1 h))) (fun v H locs hp9 hz1 hk1 hS => ?_)
  obtain ⟨rfl, hPc⟩ := hp9
  obtain ⟨hP, hD⟩ := fr_mid hP hD hk1 hPc rfl
  have hP : va_P G vwCl (wMain T q a N (uPl Z k1 (nI k2) (nI k3)) (svB sc b) (psh sc M N) (psh sc Y Z) (svC sc) tx L cu er le nb nc) H := hP
  have hD : va_D A (wMain T q a N (uPl Z k1 (nI k2) (nI k3)) (svB sc b) (psh sc M N) (psh sc Y Z) (svC sc) tx L cu er le nb nc) := hD
  refine W.eq (g2 := F0 m 44 ls []) rfl ?_
  refine lv_iload hx hb dX5_pledge_44 (lv_at hl 0 rfl) ?_
  exact hret _ _ _ _ _ _ _ _ rfl rfl (show (rfF (plF N (nI k1) (nI k2) (nI k3))) = 0 ∧ some (Value.int ((Z 8) k1)) = some (Value.int (Z 8 (tn (nI k1)))) ∧ va_P G vwCl (wMain T q a N (uPl Z (tn (nI k1)) (nI k2) (nI k3)) (svB sc b) (psh sc M N) (psh sc Y Z) (svC sc) tx L cu er le nb nc) H from ⟨hF0, by simp only [tn, nI_clamp (show k1 < 2 ^ 31 by omega)], (by simp only [tn, nI_clamp (show k1 < 2 ^ 31 by omega)]; exact hP)⟩) hS (Nat.le_of_ble_eq_true rfl) (Nat.le_of_ble_eq_true rfl) dX5_pledge_46

theorem idX5_takeBack : yX5_takeBack.cls = RX5 ∧ yX5_takeBack.cls ≠ "java/lang/invoke/MethodHandle" ∧ yX5_takeBack.cls ≠ "java/lang/invoke/VarHandle" ∧ (parseMethodDescriptor yX5_takeBack.desc).map (fun d => d.parameters.length) = some 1 := by decide +kernel

set_option maxHeartbeats 4000000 in
set_option maxRecDepth 100000 in
theorem mX5_takeBack (l : Launch) (hl0 : l.stackTraces = false) {G : va_G} {T : Nat → ClassId} {sa : Nat → Nat} {A9 : Nat → Prop} {H : Heap} {q : Nat → Nat} {a : Nat → Nat} {N : Nat → Nat} {Z : Nat → Nat → Int32} {b : Nat → Nat → Nat} {M : Nat → Nat → Nat} {Y : Nat → Nat → Nat → Int32} {sc : Nat} {tx : Nat → Int32} {L : Nat} {cu : Nat} {er : Int32} {le : Int32} {nb : Nat → Int32} {nc : Nat} {u : Int32} (h9 : ∀ q, H.size ≤ q → A9 q) (hP : va_P G vwCl (wMain T q a N Z b M Y sc tx L cu er le nb nc) H) (hD : va_D (fun _ => True) (wMain T q a N Z b M Y sc tx L cu er le nb nc)) (hwf : wf N Z) (hsc : sc ≤ 4) : txm l yX5_takeBack wsX5_takeBack 7 122 2 [.ref (q 0), .int u] G T sa A9 H (wMain T q a N Z b M Y sc tx L cu er le nb nc) (fun v9 H9 => (sq (thF u (nI (N 2))) (poF (bI (pled Z (tn u))))) = 0 ∧ v9 = some (.int (Z 8 (tn u))) ∧ va_P G vwCl (wMain T q a N (uPl Z (tn u) (-1) (-1)) (svB sc b) (psh sc M N) (psh sc Y Z) (svC sc) tx L cu er le nb nc) H9) (fcE (sq (thF u (nI (N 2))) (poF (bI (pled Z (tn u)))))) := by
  refine tx_of (cc := cX5_takeBack) (maxL := 3) (ret := (some .int)) (own := RX5) (by decide +kernel) rfl rfl (Nat.le_of_ble_eq_true rfl) h9 hD ?_
  intro p e s m below meth c ls A Q S hkx hth hl hD hS hA hret hout
  obtain ⟨hx, hb, hml, hown, hts⟩ := id S
  have hl : lv_has ls 3 [(0, .ref (q 0)), (1, .int u)] := hl
  have k12 := hts (.fieldLink RX5 12 "SunsetDates" "now" "LSunsetDates$Calendar;") (by decide +kernel)
  have iX5 : ∀ w ∈ wsX50, w ∈ wsX5_takeBack := by decide +kernel
  have k80 := hts (.fieldLink RX5 80 "SunsetDates$Calendar" "users" "LSunsetDates$Users;") (by decide +kernel)
  have iX0 : ∀ w ∈ wsX00, w ∈ wsX5_takeBack := by decide +kernel
  have k84 := hts (.fieldLink RX5 84 "SunsetDates$Users" "count" "I") (by decide +kernel)
  have iX3 : ∀ w ∈ wsX30, w ∈ wsX5_takeBack := by decide +kernel
  have k96 := hts (.fieldLink RX5 96 "SunsetDates$Users" "pledgeDay" "[I") (by decide +kernel)
  have hb2 := hwf.1
  refine lv_iload_n hx hb dX5_takeBack_0 rfl (lv_at hl 1 rfl) ?_
  refine lv_aload_n hx hb dX5_takeBack_1 rfl (lv_at hl 0 rfl) ?_
  refine va_get (D := G) (ci := 5) (C := RX5) (T := TX5) (N := 4) hx hb hts iX5 hown hkx.1 hP 0 rfl rfl 0 (by decide) k12 (fun _ h9 => h9) rfl dX5_takeBack_2 ?_
  refine va_get (D := G) (ci := 0) (C := RX0) (T := TX0) (N := 4) hx hb hts iX0 hown hkx.1 hP 5 rfl rfl 2 (by decide) k80 (fun _ h9 => h9) rfl dX5_takeBack_5 ?_
  refine va_get (D := G) (ci := 3) (C := RX3) (T := TX3) (N := 7) hx hb hts iX3 hown hkx.1 hP 11 rfl rfl 0 (by decide) k84 (fun _ h9 => h9) rfl dX5_takeBack_8 ?_
  refine rx_S S hkx hth (mX5_requireThere l hl0 (sa := sa) (h9 := fun _ h => h) (i := u) (n := (nI (N 2))) ) gX5_takeBack_X5_requireThere rfl idX5_requireThere.2 ⟨Nat.le_of_ble_eq_true rfl, Nat.le_of_ble_eq_true rfl⟩ rfl hl.1 rfl (Nat.le_of_ble_eq_true rfl) dX5_takeBack_11 ⟨Nat.le_of_ble_eq_true rfl, Nat.le_of_ble_eq_true rfl⟩ (fun E ce q H1 hpx hq hv9 hc9 hz9 hk9 => hout E ce q _ _ _ _ _ _ (sq_l hpx) hq hv9 hc9 hz9 hk9 (Nat.le_of_ble_eq_true rfl) (Nat.le_of_ble_eq_true rfl)) (fun v hpost => ?_)
  obtain ⟨hF0, rfl⟩ := hpost
  obtain ⟨k1, hk1, rfl⟩ := thF_nat (n := N 2) hF0 (by omega)
  have e1 : tn (nI k1) = k1 := nI_clamp (by omega)
  refine W.eq (g2 := F0 m 14 ls []) rfl ?_
  refine lv_aload_n hx hb dX5_takeBack_14 rfl (lv_at hl 0 rfl) ?_
  refine va_get (D := G) (ci := 5) (C := RX5) (T := TX5) (N := 4) hx hb hts iX5 hown hkx.1 hP 0 rfl rfl 0 (by decide) k12 (fun _ h9 => h9) rfl dX5_takeBack_15 ?_
  refine va_get (D := G) (ci := 0) (C := RX0) (T := TX0) (N := 4) hx hb hts iX0 hown hkx.1 hP 5 rfl rfl 2 (by decide) k80 (fun _ h9 => h9) rfl dX5_takeBack_18 ?_
  refine lv_iload_n hx hb dX5_takeBack_21 rfl (lv_at hl 1 rfl) ?_
  refine ro_V S hkx (mX3_isPledged l (k := k1) (hP := P_mid hP) (hk := (by omega))) gX5_takeBack_X3_isPledged rfl idX3_isPledged ⟨Nat.le_of_ble_eq_true rfl, Nat.le_of_ble_eq_true rfl⟩ hP 11 rfl rfl rfl rfl hl.1 rfl (Nat.le_of_ble_eq_true rfl) dX5_takeBack_22 ⟨Nat.le_of_ble_eq_true rfl, Nat.le_of_ble_eq_true rfl⟩ (fun r_1 hr_1 => ?_)
  subst hr_1
  refine rx_S S hkx hth (mX5_requirePossible l hl0 (sa := sa) (h9 := fun _ h => h) (z := (bI (pled Z k1))) ) gX5_takeBack_X5_requirePossible rfl idX5_requirePossible.2 ⟨Nat.le_of_ble_eq_true rfl, Nat.le_of_ble_eq_true rfl⟩ rfl hl.1 rfl (Nat.le_of_ble_eq_true rfl) dX5_takeBack_25 ⟨Nat.le_of_ble_eq_true rfl, Nat.le_of_ble_eq_true rfl⟩ (fun E ce q H1 hpx hq hv9 hc9 hz9 hk9 => hout E ce q _ _ _ _ _ _ (sq_r hF0 (by first | exact hpx | (rw [e1]; exact hpx))) hq hv9 hc9 hz9 hk9 (Nat.le_of_ble_eq_true rfl) (Nat.le_of_ble_eq_true rfl)) (fun v hpost => ?_)
  obtain ⟨hF1, rfl⟩ := hpost
  have hF1 : (poF (bI (pled Z (tn (nI k1))))) = 0 := by first | exact hF1 | (rw [e1]; exact hF1)
  refine W.eq (g2 := F0 m 28 ls []) rfl ?_
  refine lv_aload_n hx hb dX5_takeBack_28 rfl (lv_at hl 0 rfl) ?_
  refine mu_V S hkx (mX5_saveState l (hP := hP) (hD := hD.weaken (fun _ _ _ _ => trivial)) (q := q) (a := a) (N := N) (Z := Z) (b := b) (M := M) (Y := Y) (sc := sc) (tx := tx) (L := L) (cu := cu) (er := er) (le := le) (nb := nb) (nc := nc) (hsc := (by omega))) gX5_takeBack_X5_saveState rfl idX5_saveState ⟨Nat.le_of_ble_eq_true rfl, Nat.le_of_ble_eq_true rfl⟩ hP 0 rfl rfl rfl rfl hl.1 rfl (Nat.le_of_ble_eq_true rfl) dX5_takeBack_29 ⟨Nat.le_of_ble_eq_true rfl, Nat.le_of_ble_eq_true rfl⟩ hS (fr_in hD (fun q h => hA q (Nat.le_trans hS.1 h))) (fun v H locs hp9 hz1 hk1 hS => ?_)
  obtain ⟨rfl, hP⟩ := hp9
  have hP : va_P G vwCl (wMain T q a N Z (svB sc b) (psh sc M N) (psh sc Y Z) (svC sc) tx L cu er le nb nc) H := hP
  have hD : va_D A (wMain T q a N Z (svB sc b) (psh sc M N) (psh sc Y Z) (svC sc) tx L cu er le nb nc) := D_perm hD sv_addr
  refine W.eq (g2 := F0 m 32 ls []) rfl ?_
  refine lv_aload_n hx hb dX5_takeBack_32 rfl (lv_at hl 0 rfl) ?_
  refine va_get (D := G) (ci := 5) (C := RX5) (T := TX5) (N := 4) hx hb hts iX5 hown hkx.1 hP 0 rfl rfl 0 (by decide) k12 (fun _ h9 => h9) rfl dX5_takeBack_33 ?_
  refine va_get (D := G) (ci := 0) (C := RX0) (T := TX0) (N := 4) hx hb hts iX0 hown hkx.1 hP 5 rfl rfl 2 (by decide) k80 (fun _ h9 => h9) rfl dX5_takeBack_36 ?_
  refine va_get (D := G) (ci := 3) (C := RX3) (T := TX3) (N := 7) hx hb hts iX3 hown hkx.1 hP 11 rfl rfl 4 (by decide) k96 (fun _ h9 => h9) rfl dX5_takeBack_39 ?_
  refine lv_iload_n hx hb dX5_takeBack_42 rfl (lv_at hl 1 rfl) ?_
  refine ia hx hb hkx hP 15 rfl k1 rfl (by omega) (by decide) dX5_takeBack_43 ?_
  refine lv_istore_n (lv' := [(2, .int ((Z 8) k1)), (0, .ref (q 0)), (1, .int (nI k1))]) hx hb dX5_takeBack_44 rfl hl (by decide) rfl (fun ls hl => ?_)
  refine lv_aload_n hx hb dX5_takeBack_45 rfl (lv_at hl 1 rfl) ?_
  refine va_get (D := G) (ci := 5) (C := RX5) (T := TX5) (N := 4) hx hb hts iX5 hown hkx.1 hP 0 rfl rfl 0 (by decide) k12 (fun _ h9 => h9) rfl dX5_takeBack_46 ?_
  refine va_get (D := G) (ci := 0) (C := RX0) (T := TX0) (N := 4) hx hb hts iX0 hown hkx.1 hP 5 rfl rfl 2 (by decide) k80 (fun _ h9 => h9) rfl dX5_takeBack_49 ?_
  refine lv_iload_n hx hb dX5_takeBack_52 rfl (lv_at hl 2 rfl) ?_
  refine lv_iconst (v := (-1)) hx hb dX5_takeBack_53 (by decide) ?_
  refine lv_iconst (v := (-1)) hx hb dX5_takeBack_54 (by decide) ?_
  refine mu_V S hkx (mX3_setPledge l (hP := P_mid hP) (hD := (D_mid hD).weaken (fun _ _ _ _ => trivial)) (a := a) (N := N) (Z := Z) (u := k1) (v := (-1)) (d := (-1)) (hu := (by omega))) gX5_takeBack_X3_setPledge rfl idX3_setPledge ⟨Nat.le_of_ble_eq_true rfl, Nat.le_of_ble_eq_true rfl⟩ hP 11 rfl rfl rfl rfl hl.1 rfl (Nat.le_of_ble_eq_true rfl) dX5_takeBack_55 ⟨Nat.le_of_ble_eq_true rfl, Nat.le_of_ble_eq_true rfl⟩ hS (fr_in (D_mid hD) (fun q h => hA q (Nat.le_trans hS.1 h))) (fun v H locs hp9 hz1 hk1 hS => ?_)
  obtain ⟨rfl, hPc⟩ := hp9
  obtain ⟨hP, hD⟩ := fr_mid hP hD hk1 hPc rfl
  have hP : va_P G vwCl (wMain T q a N (uPl Z k1 (-1) (-1)) (svB sc b) (psh sc M N) (psh sc Y Z) (svC sc) tx L cu er le nb nc) H := hP
  have hD : va_D A (wMain T q a N (uPl Z k1 (-1) (-1)) (svB sc b) (psh sc M N) (psh sc Y Z) (svC sc) tx L cu er le nb nc) := hD
  refine W.eq (g2 := F0 m 58 ls []) rfl ?_
  refine lv_iload_n hx hb dX5_takeBack_58 rfl (lv_at hl 0 rfl) ?_
  exact hret _ _ _ _ _ _ _ _ rfl rfl (show (sq (thF (nI k1) (nI (N 2))) (poF (bI (pled Z (tn (nI k1)))))) = 0 ∧ some (Value.int ((Z 8) k1)) = some (Value.int (Z 8 (tn (nI k1)))) ∧ va_P G vwCl (wMain T q a N (uPl Z (tn (nI k1)) (-1) (-1)) (svB sc b) (psh sc M N) (psh sc Y Z) (svC sc) tx L cu er le nb nc) H from ⟨(sq_0 hF0 hF1), by first | rfl | (simp only [e1]; done) | (simp only [e1]; rfl), (by simp only [e1]; exact hP)⟩) hS (Nat.le_of_ble_eq_true rfl) (Nat.le_of_ble_eq_true rfl) dX5_takeBack_59

theorem idX5_slip : yX5_slip.cls = RX5 ∧ yX5_slip.cls ≠ "java/lang/invoke/MethodHandle" ∧ yX5_slip.cls ≠ "java/lang/invoke/VarHandle" ∧ (parseMethodDescriptor yX5_slip.desc).map (fun d => d.parameters.length) = some 2 := by decide +kernel

set_option maxHeartbeats 4000000 in
set_option maxRecDepth 100000 in
theorem mX5_slip (l : Launch) (hl0 : l.stackTraces = false) {G : va_G} {T : Nat → ClassId} {sa : Nat → Nat} {A9 : Nat → Prop} {H : Heap} {q : Nat → Nat} {a : Nat → Nat} {N : Nat → Nat} {Z : Nat → Nat → Int32} {b : Nat → Nat → Nat} {M : Nat → Nat → Nat} {Y : Nat → Nat → Nat → Int32} {sc : Nat} {tx : Nat → Int32} {L : Nat} {cu : Nat} {er : Int32} {le : Int32} {nb : Nat → Int32} {nc : Nat} {u : Int32} {t : Int32} (h9 : ∀ q, H.size ≤ q → A9 q) (hP : va_P G vwCl (wMain T q a N Z b M Y sc tx L cu er le nb nc) H) (hD : va_D (fun _ => True) (wMain T q a N Z b M Y sc tx L cu er le nb nc)) (hwf : wf N Z) (hsc : sc ≤ 4) : txm l yX5_slip wsX5_slip 7 122 1 [.ref (q 0), .int u, .int t] G T sa A9 H (wMain T q a N Z b M Y sc tx L cu er le nb nc) (fun v9 H9 => (rfF (slF N Z u t)) = 0 ∧ v9 = some (.int (uSl Z (tn u) t 8 (tn u))) ∧ va_P G vwCl (wMain T q a N (uSl Z (tn u) t) (svB sc b) (psh sc M N) (psh sc Y Z) (svC sc) tx L cu er le nb nc) H9) (fcE (rfF (slF N Z u t))) := by
  refine tx_of (cc := cX5_slip) (maxL := 3) (ret := (some .int)) (own := RX5) (by decide +kernel) rfl rfl (Nat.le_of_ble_eq_true rfl) h9 hD ?_
  intro p e s m below meth c ls A Q S hkx hth hl hD hS hA hret hout
  obtain ⟨hx, hb, hml, hown, hts⟩ := id S
  have hl : lv_has ls 3 [(0, .ref (q 0)), (1, .int u), (2, .int t)] := hl
  have k12 := hts (.fieldLink RX5 12 "SunsetDates" "now" "LSunsetDates$Calendar;") (by decide +kernel)
  have iX5 : ∀ w ∈ wsX50, w ∈ wsX5_slip := by decide +kernel
  have k80 := hts (.fieldLink RX5 80 "SunsetDates$Calendar" "users" "LSunsetDates$Users;") (by decide +kernel)
  have iX0 : ∀ w ∈ wsX00, w ∈ wsX5_slip := by decide +kernel
  have k96 := hts (.fieldLink RX5 96 "SunsetDates$Users" "pledgeDay" "[I") (by decide +kernel)
  have iX3 : ∀ w ∈ wsX30, w ∈ wsX5_slip := by decide +kernel
  have hb2 := hwf.1
  refine lv_aload_n hx hb dX5_slip_0 rfl (lv_at hl 0 rfl) ?_
  refine va_get (D := G) (ci := 5) (C := RX5) (T := TX5) (N := 4) hx hb hts iX5 hown hkx.1 hP 0 rfl rfl 0 (by decide) k12 (fun _ h9 => h9) rfl dX5_slip_1 ?_
  refine lv_iload_n hx hb dX5_slip_4 rfl (lv_at hl 1 rfl) ?_
  refine lv_iload_n hx hb dX5_slip_5 rfl (lv_at hl 2 rfl) ?_
  refine ro_V S hkx (mX0_slipFault l (u := u) (t := t) (hP := P_mid hP) (hs := (by omega))) gX5_slip_X0_slipFault rfl idX0_slipFault ⟨Nat.le_of_ble_eq_true rfl, Nat.le_of_ble_eq_true rfl⟩ hP 5 rfl rfl rfl rfl hl.1 rfl (Nat.le_of_ble_eq_true rfl) dX5_slip_6 ⟨Nat.le_of_ble_eq_true rfl, Nat.le_of_ble_eq_true rfl⟩ (fun r_1 hr_1 => ?_)
  subst hr_1
  refine rx_S S hkx hth (mX5_refuse l hl0 (sa := sa) (h9 := fun _ h => h) (z := (slF N Z u t)) ) gX5_slip_X5_refuse rfl idX5_refuse.2 ⟨Nat.le_of_ble_eq_true rfl, Nat.le_of_ble_eq_true rfl⟩ rfl hl.1 rfl (Nat.le_of_ble_eq_true rfl) dX5_slip_9 ⟨Nat.le_of_ble_eq_true rfl, Nat.le_of_ble_eq_true rfl⟩ (fun E ce q H1 hpx hq hv9 hc9 hz9 hk9 => hout E ce q _ _ _ _ _ _ hpx hq hv9 hc9 hz9 hk9 (Nat.le_of_ble_eq_true rfl) (Nat.le_of_ble_eq_true rfl)) (fun v hpost => ?_)
  obtain ⟨hF0, rfl⟩ := hpost
  
  
  obtain ⟨k1, k2, hk1, hk2a, hk2, rfl, rfl, hk3, hk4⟩ := sl_ok hF0 (by omega)
  refine W.eq (g2 := F0 m 12 ls []) rfl ?_
  refine lv_aload_n hx hb dX5_slip_12 rfl (lv_at hl 0 rfl) ?_
  refine mu_V S hkx (mX5_saveState l (hP := hP) (hD := hD.weaken (fun _ _ _ _ => trivial)) (q := q) (a := a) (N := N) (Z := Z) (b := b) (M := M) (Y := Y) (sc := sc) (tx := tx) (L := L) (cu := cu) (er := er) (le := le) (nb := nb) (nc := nc) (hsc := (by omega))) gX5_slip_X5_saveState rfl idX5_saveState ⟨Nat.le_of_ble_eq_true rfl, Nat.le_of_ble_eq_true rfl⟩ hP 0 rfl rfl rfl rfl hl.1 rfl (Nat.le_of_ble_eq_true rfl) dX5_slip_13 ⟨Nat.le_of_ble_eq_true rfl, Nat.le_of_ble_eq_true rfl⟩ hS (fr_in hD (fun q h => hA q (Nat.le_trans hS.1 h))) (fun v H locs hp9 hz1 hk1 hS => ?_)
  obtain ⟨rfl, hP⟩ := hp9
  have hP : va_P G vwCl (wMain T q a N Z (svB sc b) (psh sc M N) (psh sc Y Z) (svC sc) tx L cu er le nb nc) H := hP
  have hD : va_D A (wMain T q a N Z (svB sc b) (psh sc M N) (psh sc Y Z) (svC sc) tx L cu er le nb nc) := D_perm hD sv_addr
  refine W.eq (g2 := F0 m 16 ls []) rfl ?_
  refine lv_aload_n hx hb dX5_slip_16 rfl (lv_at hl 0 rfl) ?_
  refine va_get (D := G) (ci := 5) (C := RX5) (T := TX5) (N := 4) hx hb hts iX5 hown hkx.1 hP 0 rfl rfl 0 (by decide) k12 (fun _ h9 => h9) rfl dX5_slip_17 ?_
  refine va_get (D := G) (ci := 0) (C := RX0) (T := TX0) (N := 4) hx hb hts iX0 hown hkx.1 hP 5 rfl rfl 2 (by decide) k80 (fun _ h9 => h9) rfl dX5_slip_20 ?_
  refine lv_iload_n hx hb dX5_slip_23 rfl (lv_at hl 1 rfl) ?_
  refine lv_iload_n hx hb dX5_slip_24 rfl (lv_at hl 2 rfl) ?_
  refine mu_V S hkx (mX3_letSlip l (hP := P_mid hP) (hD := (D_mid hD).weaken (fun _ _ _ _ => trivial)) (a := a) (N := N) (Z := Z) (u := k1) (t := (nI k2)) (hu := (by omega))) gX5_slip_X3_letSlip rfl idX3_letSlip ⟨Nat.le_of_ble_eq_true rfl, Nat.le_of_ble_eq_true rfl⟩ hP 11 rfl rfl rfl rfl hl.1 rfl (Nat.le_of_ble_eq_true rfl) dX5_slip_25 ⟨Nat.le_of_ble_eq_true rfl, Nat.le_of_ble_eq_true rfl⟩ hS (fr_in (D_mid hD) (fun q h => hA q (Nat.le_trans hS.1 h))) (fun v H locs hp9 hz1 hk1 hS => ?_)
  obtain ⟨rfl, hPc⟩ := hp9
  obtain ⟨hP, hD⟩ := fr_mid hP hD hk1 hPc rfl
  have hP : va_P G vwCl (wMain T q a N (uSl Z k1 (nI k2)) (svB sc b) (psh sc M N) (psh sc Y Z) (svC sc) tx L cu er le nb nc) H := hP
  have hD : va_D A (wMain T q a N (uSl Z k1 (nI k2)) (svB sc b) (psh sc M N) (psh sc Y Z) (svC sc) tx L cu er le nb nc) := hD
  refine W.eq (g2 := F0 m 28 ls []) rfl ?_
  refine lv_aload_n hx hb dX5_slip_28 rfl (lv_at hl 0 rfl) ?_
  refine va_get (D := G) (ci := 5) (C := RX5) (T := TX5) (N := 4) hx hb hts iX5 hown hkx.1 hP 0 rfl rfl 0 (by decide) k12 (fun _ h9 => h9) rfl dX5_slip_29 ?_
  refine va_get (D := G) (ci := 0) (C := RX0) (T := TX0) (N := 4) hx hb hts iX0 hown hkx.1 hP 5 rfl rfl 2 (by decide) k80 (fun _ h9 => h9) rfl dX5_slip_32 ?_
  refine va_get (D := G) (ci := 3) (C := RX3) (T := TX3) (N := 7) hx hb hts iX3 hown hkx.1 hP 11 rfl rfl 4 (by decide) k96 (fun _ h9 => h9) rfl dX5_slip_35 ?_
  refine lv_iload_n hx hb dX5_slip_38 rfl (lv_at hl 1 rfl) ?_
  refine ia hx hb hkx hP 15 rfl k1 rfl (by omega) (by decide) dX5_slip_39 ?_
  exact hret _ _ _ _ _ _ _ _ rfl rfl (show (rfF (slF N Z (nI k1) (nI k2))) = 0 ∧ some (Value.int (((uSl Z k1 (nI k2)) 8) k1)) = some (Value.int (uSl Z (tn (nI k1)) (nI k2) 8 (tn (nI k1)))) ∧ va_P G vwCl (wMain T q a N (uSl Z (tn (nI k1)) (nI k2)) (svB sc b) (psh sc M N) (psh sc Y Z) (svC sc) tx L cu er le nb nc) H from ⟨hF0, by simp only [tn, nI_clamp (show k1 < 2 ^ 31 by omega)], (by simp only [tn, nI_clamp (show k1 < 2 ^ 31 by omega)]; exact hP)⟩) hS (Nat.le_of_ble_eq_true rfl) (Nat.le_of_ble_eq_true rfl) dX5_slip_40

theorem idX5_extend : yX5_extend.cls = RX5 ∧ yX5_extend.cls ≠ "java/lang/invoke/MethodHandle" ∧ yX5_extend.cls ≠ "java/lang/invoke/VarHandle" ∧ (parseMethodDescriptor yX5_extend.desc).map (fun d => d.parameters.length) = some 2 := by decide +kernel

set_option maxHeartbeats 4000000 in
set_option maxRecDepth 100000 in
theorem mX5_extend (l : Launch) (hl0 : l.stackTraces = false) {G : va_G} {T : Nat → ClassId} {sa : Nat → Nat} {A9 : Nat → Prop} {H : Heap} {q : Nat → Nat} {a : Nat → Nat} {N : Nat → Nat} {Z : Nat → Nat → Int32} {b : Nat → Nat → Nat} {M : Nat → Nat → Nat} {Y : Nat → Nat → Nat → Int32} {sc : Nat} {tx : Nat → Int32} {L : Nat} {cu : Nat} {er : Int32} {le : Int32} {nb : Nat → Int32} {nc : Nat} {v : Int32} {t : Int32} (h9 : ∀ q, H.size ≤ q → A9 q) (hP : va_P G vwCl (wMain T q a N Z b M Y sc tx L cu er le nb nc) H) (hD : va_D (fun _ => True) (wMain T q a N Z b M Y sc tx L cu er le nb nc)) (hwf : wf N Z) (hsc : sc ≤ 4) : txm l yX5_extend wsX5_extend 7 122 1 [.ref (q 0), .int v, .int t] G T sa A9 H (wMain T q a N Z b M Y sc tx L cu er le nb nc) (fun v9 H9 => (rfF (exF N Z v t)) = 0 ∧ v9 = some (.int (vExt Z (tn v) t 2 (tn v))) ∧ va_P G vwCl (wMain T q a N (vExt Z (tn v) t) (svB sc b) (psh sc M N) (psh sc Y Z) (svC sc) tx L cu er le nb nc) H9) (fcE (rfF (exF N Z v t))) := by
  refine tx_of (cc := cX5_extend) (maxL := 3) (ret := (some .int)) (own := RX5) (by decide +kernel) rfl rfl (Nat.le_of_ble_eq_true rfl) h9 hD ?_
  intro p e s m below meth c ls A Q S hkx hth hl hD hS hA hret hout
  obtain ⟨hx, hb, hml, hown, hts⟩ := id S
  have hl : lv_has ls 3 [(0, .ref (q 0)), (1, .int v), (2, .int t)] := hl
  have k12 := hts (.fieldLink RX5 12 "SunsetDates" "now" "LSunsetDates$Calendar;") (by decide +kernel)
  have iX5 : ∀ w ∈ wsX50, w ∈ wsX5_extend := by decide +kernel
  have k35 := hts (.fieldLink RX5 35 "SunsetDates$Calendar" "versions" "LSunsetDates$Versions;") (by decide +kernel)
  have iX0 : ∀ w ∈ wsX00, w ∈ wsX5_extend := by decide +kernel
  have k118 := hts (.fieldLink RX5 118 "SunsetDates$Versions" "end" "[I") (by decide +kernel)
  have iX4 : ∀ w ∈ wsX40, w ∈ wsX5_extend := by decide +kernel
  have hb2 := hwf.1
  refine lv_aload_n hx hb dX5_extend_0 rfl (lv_at hl 0 rfl) ?_
  refine va_get (D := G) (ci := 5) (C := RX5) (T := TX5) (N := 4) hx hb hts iX5 hown hkx.1 hP 0 rfl rfl 0 (by decide) k12 (fun _ h9 => h9) rfl dX5_extend_1 ?_
  refine lv_iload_n hx hb dX5_extend_4 rfl (lv_at hl 1 rfl) ?_
  refine lv_iload_n hx hb dX5_extend_5 rfl (lv_at hl 2 rfl) ?_
  refine ro_V S hkx (mX0_extendFault l (v := v) (t := t) (hP := P_mid hP) (hs := (by omega))) gX5_extend_X0_extendFault rfl idX0_extendFault ⟨Nat.le_of_ble_eq_true rfl, Nat.le_of_ble_eq_true rfl⟩ hP 5 rfl rfl rfl rfl hl.1 rfl (Nat.le_of_ble_eq_true rfl) dX5_extend_6 ⟨Nat.le_of_ble_eq_true rfl, Nat.le_of_ble_eq_true rfl⟩ (fun r_1 hr_1 => ?_)
  subst hr_1
  refine rx_S S hkx hth (mX5_refuse l hl0 (sa := sa) (h9 := fun _ h => h) (z := (exF N Z v t)) ) gX5_extend_X5_refuse rfl idX5_refuse.2 ⟨Nat.le_of_ble_eq_true rfl, Nat.le_of_ble_eq_true rfl⟩ rfl hl.1 rfl (Nat.le_of_ble_eq_true rfl) dX5_extend_9 ⟨Nat.le_of_ble_eq_true rfl, Nat.le_of_ble_eq_true rfl⟩ (fun E ce q H1 hpx hq hv9 hc9 hz9 hk9 => hout E ce q _ _ _ _ _ _ hpx hq hv9 hc9 hz9 hk9 (Nat.le_of_ble_eq_true rfl) (Nat.le_of_ble_eq_true rfl)) (fun v hpost => ?_)
  obtain ⟨hF0, rfl⟩ := hpost
  
  
  obtain ⟨k1, k2, hk1, hk2a, hk2, rfl, rfl, hk3⟩ := ex_ok hF0 (by omega)
  refine W.eq (g2 := F0 m 12 ls []) rfl ?_
  refine lv_aload_n hx hb dX5_extend_12 rfl (lv_at hl 0 rfl) ?_
  refine mu_V S hkx (mX5_saveState l (hP := hP) (hD := hD.weaken (fun _ _ _ _ => trivial)) (q := q) (a := a) (N := N) (Z := Z) (b := b) (M := M) (Y := Y) (sc := sc) (tx := tx) (L := L) (cu := cu) (er := er) (le := le) (nb := nb) (nc := nc) (hsc := (by omega))) gX5_extend_X5_saveState rfl idX5_saveState ⟨Nat.le_of_ble_eq_true rfl, Nat.le_of_ble_eq_true rfl⟩ hP 0 rfl rfl rfl rfl hl.1 rfl (Nat.le_of_ble_eq_true rfl) dX5_extend_13 ⟨Nat.le_of_ble_eq_true rfl, Nat.le_of_ble_eq_true rfl⟩ hS (fr_in hD (fun q h => hA q (Nat.le_trans hS.1 h))) (fun v H locs hp9 hz1 hk1 hS => ?_)
  obtain ⟨rfl, hP⟩ := hp9
  have hP : va_P G vwCl (wMain T q a N Z (svB sc b) (psh sc M N) (psh sc Y Z) (svC sc) tx L cu er le nb nc) H := hP
  have hD : va_D A (wMain T q a N Z (svB sc b) (psh sc M N) (psh sc Y Z) (svC sc) tx L cu er le nb nc) := D_perm hD sv_addr
  refine W.eq (g2 := F0 m 16 ls []) rfl ?_
  refine lv_aload_n hx hb dX5_extend_16 rfl (lv_at hl 0 rfl) ?_
  refine va_get (D := G) (ci := 5) (C := RX5) (T := TX5) (N := 4) hx hb hts iX5 hown hkx.1 hP 0 rfl rfl 0 (by decide) k12 (fun _ h9 => h9) rfl dX5_extend_17 ?_
  refine va_get (D := G) (ci := 0) (C := RX0) (T := TX0) (N := 4) hx hb hts iX0 hown hkx.1 hP 5 rfl rfl 0 (by decide) k35 (fun _ h9 => h9) rfl dX5_extend_20 ?_
  refine lv_iload_n hx hb dX5_extend_23 rfl (lv_at hl 1 rfl) ?_
  refine lv_iload_n hx hb dX5_extend_24 rfl (lv_at hl 2 rfl) ?_
  refine mu_V S hkx (mX4_moveEnd l (hP := P_mid hP) (hD := (D_mid hD).weaken (fun _ _ _ _ => trivial)) (a := a) (N := N) (Z := Z) (v := k1) (t := (nI k2)) (hv := (by omega))) gX5_extend_X4_moveEnd rfl idX4_moveEnd ⟨Nat.le_of_ble_eq_true rfl, Nat.le_of_ble_eq_true rfl⟩ hP 6 rfl rfl rfl rfl hl.1 rfl (Nat.le_of_ble_eq_true rfl) dX5_extend_25 ⟨Nat.le_of_ble_eq_true rfl, Nat.le_of_ble_eq_true rfl⟩ hS (fr_in (D_mid hD) (fun q h => hA q (Nat.le_trans hS.1 h))) (fun v H locs hp9 hz1 hk1 hS => ?_)
  obtain ⟨rfl, hPc⟩ := hp9
  obtain ⟨hP, hD⟩ := fr_mid hP hD hk1 hPc rfl
  have hP : va_P G vwCl (wMain T q a N (vExt Z k1 (nI k2)) (svB sc b) (psh sc M N) (psh sc Y Z) (svC sc) tx L cu er le nb nc) H := hP
  have hD : va_D A (wMain T q a N (vExt Z k1 (nI k2)) (svB sc b) (psh sc M N) (psh sc Y Z) (svC sc) tx L cu er le nb nc) := hD
  refine W.eq (g2 := F0 m 28 ls []) rfl ?_
  refine lv_aload_n hx hb dX5_extend_28 rfl (lv_at hl 0 rfl) ?_
  refine va_get (D := G) (ci := 5) (C := RX5) (T := TX5) (N := 4) hx hb hts iX5 hown hkx.1 hP 0 rfl rfl 0 (by decide) k12 (fun _ h9 => h9) rfl dX5_extend_29 ?_
  refine va_get (D := G) (ci := 0) (C := RX0) (T := TX0) (N := 4) hx hb hts iX0 hown hkx.1 hP 5 rfl rfl 0 (by decide) k35 (fun _ h9 => h9) rfl dX5_extend_32 ?_
  refine va_get (D := G) (ci := 4) (C := RX4) (T := TX4) (N := 5) hx hb hts iX4 hown hkx.1 hP 6 rfl rfl 2 (by decide) k118 (fun _ h9 => h9) rfl dX5_extend_35 ?_
  refine lv_iload_n hx hb dX5_extend_38 rfl (lv_at hl 1 rfl) ?_
  refine ia hx hb hkx hP 8 rfl k1 rfl (by omega) (by decide) dX5_extend_39 ?_
  exact hret _ _ _ _ _ _ _ _ rfl rfl (show (rfF (exF N Z (nI k1) (nI k2))) = 0 ∧ some (Value.int (((vExt Z k1 (nI k2)) 2) k1)) = some (Value.int (vExt Z (tn (nI k1)) (nI k2) 2 (tn (nI k1)))) ∧ va_P G vwCl (wMain T q a N (vExt Z (tn (nI k1)) (nI k2)) (svB sc b) (psh sc M N) (psh sc Y Z) (svC sc) tx L cu er le nb nc) H from ⟨hF0, by simp only [tn, nI_clamp (show k1 < 2 ^ 31 by omega)], (by simp only [tn, nI_clamp (show k1 < 2 ^ 31 by omega)]; exact hP)⟩) hS (Nat.le_of_ble_eq_true rfl) (Nat.le_of_ble_eq_true rfl) dX5_extend_40

theorem idX5_addShim : yX5_addShim.cls = RX5 ∧ yX5_addShim.cls ≠ "java/lang/invoke/MethodHandle" ∧ yX5_addShim.cls ≠ "java/lang/invoke/VarHandle" ∧ (parseMethodDescriptor yX5_addShim.desc).map (fun d => d.parameters.length) = some 5 := by decide +kernel

set_option maxHeartbeats 4000000 in
set_option maxRecDepth 100000 in
theorem mX5_addShim (l : Launch) (hl0 : l.stackTraces = false) {G : va_G} {T : Nat → ClassId} {sa : Nat → Nat} {A9 : Nat → Prop} {H : Heap} {q : Nat → Nat} {a : Nat → Nat} {N : Nat → Nat} {Z : Nat → Nat → Int32} {b : Nat → Nat → Nat} {M : Nat → Nat → Nat} {Y : Nat → Nat → Nat → Int32} {sc : Nat} {tx : Nat → Int32} {L : Nat} {cu : Nat} {er : Int32} {le : Int32} {nb : Nat → Int32} {nc : Nat} {f : Int32} {v : Int32} {x : Int32} {z : Int32} {y : Int32} (h9 : ∀ q, H.size ≤ q → A9 q) (hP : va_P G vwCl (wMain T q a N Z b M Y sc tx L cu er le nb nc) H) (hD : va_D (fun _ => True) (wMain T q a N Z b M Y sc tx L cu er le nb nc)) (hwf : wf N Z) (hsc : sc ≤ 4) : txm l yX5_addShim wsX5_addShim 7 122 1 [.ref (q 0), .int f, .int v, .int x, .int z, .int y] G T sa A9 H (wMain T q a N Z b M Y sc tx L cu er le nb nc) (fun v9 H9 => (rfF (shF N f v x z y)) = 0 ∧ v9 = some (.int (nI (N 3))) ∧ va_P G vwCl (wMain T q a (va_up N 3 (N 3 + 1)) (sAdd N Z f v x z y) (svB sc b) (psh sc M N) (psh sc Y Z) (svC sc) tx L cu er le nb nc) H9) (fcE (rfF (shF N f v x z y))) := by
  refine tx_of (cc := cX5_addShim) (maxL := 6) (ret := (some .int)) (own := RX5) (by decide +kernel) rfl rfl (Nat.le_of_ble_eq_true rfl) h9 hD ?_
  intro p e s m below meth c ls A Q S hkx hth hl hD hS hA hret hout
  obtain ⟨hx, hb, hml, hown, hts⟩ := id S
  have hl : lv_has ls 6 [(0, .ref (q 0)), (1, .int f), (2, .int v), (3, .int x), (4, .int z), (5, .int y)] := hl
  have k12 := hts (.fieldLink RX5 12 "SunsetDates" "now" "LSunsetDates$Calendar;") (by decide +kernel)
  have iX5 : ∀ w ∈ wsX50, w ∈ wsX5_addShim := by decide +kernel
  have k125 := hts (.fieldLink RX5 125 "SunsetDates$Calendar" "shims" "LSunsetDates$Shims;") (by decide +kernel)
  have iX0 : ∀ w ∈ wsX00, w ∈ wsX5_addShim := by decide +kernel
  have hb2 := hwf.1
  refine lv_aload_n hx hb dX5_addShim_0 rfl (lv_at hl 0 rfl) ?_
  refine va_get (D := G) (ci := 5) (C := RX5) (T := TX5) (N := 4) hx hb hts iX5 hown hkx.1 hP 0 rfl rfl 0 (by decide) k12 (fun _ h9 => h9) rfl dX5_addShim_1 ?_
  refine lv_iload_n hx hb dX5_addShim_4 rfl (lv_at hl 1 rfl) ?_
  refine lv_iload_n hx hb dX5_addShim_5 rfl (lv_at hl 2 rfl) ?_
  refine lv_iload_n hx hb dX5_addShim_6 rfl (lv_at hl 3 rfl) ?_
  refine lv_iload hx hb dX5_addShim_7 (lv_at hl 4 rfl) ?_
  refine lv_iload hx hb dX5_addShim_9 (lv_at hl 5 rfl) ?_
  refine ro_V S hkx (mX0_shimFault l (f := f) (v := v) (x := x) (z := z) (q := y) (hP := P_mid hP) (hs := (by omega))) gX5_addShim_X0_shimFault rfl idX0_shimFault ⟨Nat.le_of_ble_eq_true rfl, Nat.le_of_ble_eq_true rfl⟩ hP 5 rfl rfl rfl rfl hl.1 rfl (Nat.le_of_ble_eq_true rfl) dX5_addShim_11 ⟨Nat.le_of_ble_eq_true rfl, Nat.le_of_ble_eq_true rfl⟩ (fun r_1 hr_1 => ?_)
  subst hr_1
  refine rx_S S hkx hth (mX5_refuse l hl0 (sa := sa) (h9 := fun _ h => h) (z := (shF N f v x z y)) ) gX5_addShim_X5_refuse rfl idX5_refuse.2 ⟨Nat.le_of_ble_eq_true rfl, Nat.le_of_ble_eq_true rfl⟩ rfl hl.1 rfl (Nat.le_of_ble_eq_true rfl) dX5_addShim_14 ⟨Nat.le_of_ble_eq_true rfl, Nat.le_of_ble_eq_true rfl⟩ (fun E ce q H1 hpx hq hv9 hc9 hz9 hk9 => hout E ce q _ _ _ _ _ _ hpx hq hv9 hc9 hz9 hk9 (Nat.le_of_ble_eq_true rfl) (Nat.le_of_ble_eq_true rfl)) (fun v hpost => ?_)
  obtain ⟨hF0, rfl⟩ := hpost
  have hk9 : N 3 < 12 := by
      obtain ⟨k1, k2, k3, k4, k5, -, -, -, -, -, -, -, -, -, -, -, h⟩ := sh_ok hF0 (by omega) (by omega)
      exact h
  refine W.eq (g2 := F0 m 17 ls []) rfl ?_
  refine lv_aload_n hx hb dX5_addShim_17 rfl (lv_at hl 0 rfl) ?_
  refine mu_V S hkx (mX5_saveState l (hP := hP) (hD := hD.weaken (fun _ _ _ _ => trivial)) (q := q) (a := a) (N := N) (Z := Z) (b := b) (M := M) (Y := Y) (sc := sc) (tx := tx) (L := L) (cu := cu) (er := er) (le := le) (nb := nb) (nc := nc) (hsc := (by omega))) gX5_addShim_X5_saveState rfl idX5_saveState ⟨Nat.le_of_ble_eq_true rfl, Nat.le_of_ble_eq_true rfl⟩ hP 0 rfl rfl rfl rfl hl.1 rfl (Nat.le_of_ble_eq_true rfl) dX5_addShim_18 ⟨Nat.le_of_ble_eq_true rfl, Nat.le_of_ble_eq_true rfl⟩ hS (fr_in hD (fun q h => hA q (Nat.le_trans hS.1 h))) (fun v H locs hp9 hz1 hk1 hS => ?_)
  obtain ⟨rfl, hP⟩ := hp9
  have hP : va_P G vwCl (wMain T q a N Z (svB sc b) (psh sc M N) (psh sc Y Z) (svC sc) tx L cu er le nb nc) H := hP
  have hD : va_D A (wMain T q a N Z (svB sc b) (psh sc M N) (psh sc Y Z) (svC sc) tx L cu er le nb nc) := D_perm hD sv_addr
  refine W.eq (g2 := F0 m 21 ls []) rfl ?_
  refine lv_aload_n hx hb dX5_addShim_21 rfl (lv_at hl 0 rfl) ?_
  refine va_get (D := G) (ci := 5) (C := RX5) (T := TX5) (N := 4) hx hb hts iX5 hown hkx.1 hP 0 rfl rfl 0 (by decide) k12 (fun _ h9 => h9) rfl dX5_addShim_22 ?_
  refine va_get (D := G) (ci := 0) (C := RX0) (T := TX0) (N := 4) hx hb hts iX0 hown hkx.1 hP 5 rfl rfl 3 (by decide) k125 (fun _ h9 => h9) rfl dX5_addShim_25 ?_
  refine lv_iload_n hx hb dX5_addShim_28 rfl (lv_at hl 1 rfl) ?_
  refine lv_iload_n hx hb dX5_addShim_29 rfl (lv_at hl 2 rfl) ?_
  refine lv_iload_n hx hb dX5_addShim_30 rfl (lv_at hl 3 rfl) ?_
  refine lv_iload hx hb dX5_addShim_31 (lv_at hl 4 rfl) ?_
  refine lv_iload hx hb dX5_addShim_33 (lv_at hl 5 rfl) ?_
  refine mu_V S hkx (mX2_addRow l (hP := P_mid hP) (hD := (D_mid hD).weaken (fun _ _ _ _ => trivial)) (a := a) (N := N) (Z := Z) (f := f) (v := v) (x := x) (z := z) (q := y) (hs := (by omega))) gX5_addShim_X2_addRow rfl idX2_addRow ⟨Nat.le_of_ble_eq_true rfl, Nat.le_of_ble_eq_true rfl⟩ hP 18 rfl rfl rfl rfl hl.1 rfl (Nat.le_of_ble_eq_true rfl) dX5_addShim_35 ⟨Nat.le_of_ble_eq_true rfl, Nat.le_of_ble_eq_true rfl⟩ hS (fr_in (D_mid hD) (fun q h => hA q (Nat.le_trans hS.1 h))) (fun v H locs hp9 hz1 hk1 hS => ?_)
  obtain ⟨rfl, hPc⟩ := hp9
  obtain ⟨hP, hD⟩ := fr_mid hP hD hk1 hPc rfl
  have hP : va_P G vwCl (wMain T q a (va_up N 3 (N 3 + 1)) (sAdd N Z f v x z y) (svB sc b) (psh sc M N) (psh sc Y Z) (svC sc) tx L cu er le nb nc) H := hP
  have hD : va_D A (wMain T q a (va_up N 3 (N 3 + 1)) (sAdd N Z f v x z y) (svB sc b) (psh sc M N) (psh sc Y Z) (svC sc) tx L cu er le nb nc) := hD
  refine W.eq (g2 := F0 m 38 ls [.int (nI (N 3))]) rfl ?_
  exact hret _ _ _ _ _ _ _ _ rfl rfl (show (rfF (shF N f v x z y)) = 0 ∧ some (Value.int (nI (N 3))) = some (Value.int (nI (N 3))) ∧ va_P G vwCl (wMain T q a (va_up N 3 (N 3 + 1)) (sAdd N Z f v x z y) (svB sc b) (psh sc M N) (psh sc Y Z) (svC sc) tx L cu er le nb nc) H from ⟨hF0, rfl, hP⟩) hS (Nat.le_of_ble_eq_true rfl) (Nat.le_of_ble_eq_true rfl) dX5_addShim_38

theorem idX5_dropShim : yX5_dropShim.cls = RX5 ∧ yX5_dropShim.cls ≠ "java/lang/invoke/MethodHandle" ∧ yX5_dropShim.cls ≠ "java/lang/invoke/VarHandle" ∧ (parseMethodDescriptor yX5_dropShim.desc).map (fun d => d.parameters.length) = some 1 := by decide +kernel

set_option maxHeartbeats 4000000 in
set_option maxRecDepth 100000 in
theorem mX5_dropShim (l : Launch) (hl0 : l.stackTraces = false) {G : va_G} {T : Nat → ClassId} {sa : Nat → Nat} {A9 : Nat → Prop} {H : Heap} {q : Nat → Nat} {a : Nat → Nat} {N : Nat → Nat} {Z : Nat → Nat → Int32} {b : Nat → Nat → Nat} {M : Nat → Nat → Nat} {Y : Nat → Nat → Nat → Int32} {sc : Nat} {tx : Nat → Int32} {L : Nat} {cu : Nat} {er : Int32} {le : Int32} {nb : Nat → Int32} {nc : Nat} {t : Int32} (h9 : ∀ q, H.size ≤ q → A9 q) (hP : va_P G vwCl (wMain T q a N Z b M Y sc tx L cu er le nb nc) H) (hD : va_D (fun _ => True) (wMain T q a N Z b M Y sc tx L cu er le nb nc)) (hwf : wf N Z) (hsc : sc ≤ 4) : txm l yX5_dropShim wsX5_dropShim 7 122 1 [.ref (q 0), .int t] G T sa A9 H (wMain T q a N Z b M Y sc tx L cu er le nb nc) (fun v9 H9 => (rfF (drF N t)) = 0 ∧ v9 = some (.int (nI (N 3 - 1))) ∧ va_P G vwCl (wMain T q a (va_up N 3 (N 3 - 1)) (sDel Z (tn t) (N 3 - 1)) (svB sc b) (psh sc M N) (psh sc Y Z) (svC sc) tx L cu er le nb nc) H9) (fcE (rfF (drF N t))) := by
  refine tx_of (cc := cX5_dropShim) (maxL := 2) (ret := (some .int)) (own := RX5) (by decide +kernel) rfl rfl (Nat.le_of_ble_eq_true rfl) h9 hD ?_
  intro p e s m below meth c ls A Q S hkx hth hl hD hS hA hret hout
  obtain ⟨hx, hb, hml, hown, hts⟩ := id S
  have hl : lv_has ls 2 [(0, .ref (q 0)), (1, .int t)] := hl
  have k12 := hts (.fieldLink RX5 12 "SunsetDates" "now" "LSunsetDates$Calendar;") (by decide +kernel)
  have iX5 : ∀ w ∈ wsX50, w ∈ wsX5_dropShim := by decide +kernel
  have k125 := hts (.fieldLink RX5 125 "SunsetDates$Calendar" "shims" "LSunsetDates$Shims;") (by decide +kernel)
  have iX0 : ∀ w ∈ wsX00, w ∈ wsX5_dropShim := by decide +kernel
  have k139 := hts (.fieldLink RX5 139 "SunsetDates$Shims" "count" "I") (by decide +kernel)
  have iX2 : ∀ w ∈ wsX20, w ∈ wsX5_dropShim := by decide +kernel
  have hb2 := hwf.1
  refine lv_aload_n hx hb dX5_dropShim_0 rfl (lv_at hl 0 rfl) ?_
  refine va_get (D := G) (ci := 5) (C := RX5) (T := TX5) (N := 4) hx hb hts iX5 hown hkx.1 hP 0 rfl rfl 0 (by decide) k12 (fun _ h9 => h9) rfl dX5_dropShim_1 ?_
  refine lv_iload_n hx hb dX5_dropShim_4 rfl (lv_at hl 1 rfl) ?_
  refine ro_V S hkx (mX0_dropFault l (t := t) (hP := P_mid hP)) gX5_dropShim_X0_dropFault rfl idX0_dropFault ⟨Nat.le_of_ble_eq_true rfl, Nat.le_of_ble_eq_true rfl⟩ hP 5 rfl rfl rfl rfl hl.1 rfl (Nat.le_of_ble_eq_true rfl) dX5_dropShim_5 ⟨Nat.le_of_ble_eq_true rfl, Nat.le_of_ble_eq_true rfl⟩ (fun r_1 hr_1 => ?_)
  subst hr_1
  refine rx_S S hkx hth (mX5_refuse l hl0 (sa := sa) (h9 := fun _ h => h) (z := (drF N t)) ) gX5_dropShim_X5_refuse rfl idX5_refuse.2 ⟨Nat.le_of_ble_eq_true rfl, Nat.le_of_ble_eq_true rfl⟩ rfl hl.1 rfl (Nat.le_of_ble_eq_true rfl) dX5_dropShim_8 ⟨Nat.le_of_ble_eq_true rfl, Nat.le_of_ble_eq_true rfl⟩ (fun E ce q H1 hpx hq hv9 hc9 hz9 hk9 => hout E ce q _ _ _ _ _ _ hpx hq hv9 hc9 hz9 hk9 (Nat.le_of_ble_eq_true rfl) (Nat.le_of_ble_eq_true rfl)) (fun v hpost => ?_)
  obtain ⟨hF0, rfl⟩ := hpost
  
  obtain ⟨k1, hk1, rfl⟩ := dr_ok hF0 (by omega)
  refine W.eq (g2 := F0 m 11 ls []) rfl ?_
  refine lv_aload_n hx hb dX5_dropShim_11 rfl (lv_at hl 0 rfl) ?_
  refine mu_V S hkx (mX5_saveState l (hP := hP) (hD := hD.weaken (fun _ _ _ _ => trivial)) (q := q) (a := a) (N := N) (Z := Z) (b := b) (M := M) (Y := Y) (sc := sc) (tx := tx) (L := L) (cu := cu) (er := er) (le := le) (nb := nb) (nc := nc) (hsc := (by omega))) gX5_dropShim_X5_saveState rfl idX5_saveState ⟨Nat.le_of_ble_eq_true rfl, Nat.le_of_ble_eq_true rfl⟩ hP 0 rfl rfl rfl rfl hl.1 rfl (Nat.le_of_ble_eq_true rfl) dX5_dropShim_12 ⟨Nat.le_of_ble_eq_true rfl, Nat.le_of_ble_eq_true rfl⟩ hS (fr_in hD (fun q h => hA q (Nat.le_trans hS.1 h))) (fun v H locs hp9 hz1 hk1 hS => ?_)
  obtain ⟨rfl, hP⟩ := hp9
  have hP : va_P G vwCl (wMain T q a N Z (svB sc b) (psh sc M N) (psh sc Y Z) (svC sc) tx L cu er le nb nc) H := hP
  have hD : va_D A (wMain T q a N Z (svB sc b) (psh sc M N) (psh sc Y Z) (svC sc) tx L cu er le nb nc) := D_perm hD sv_addr
  refine W.eq (g2 := F0 m 15 ls []) rfl ?_
  refine lv_aload_n hx hb dX5_dropShim_15 rfl (lv_at hl 0 rfl) ?_
  refine va_get (D := G) (ci := 5) (C := RX5) (T := TX5) (N := 4) hx hb hts iX5 hown hkx.1 hP 0 rfl rfl 0 (by decide) k12 (fun _ h9 => h9) rfl dX5_dropShim_16 ?_
  refine va_get (D := G) (ci := 0) (C := RX0) (T := TX0) (N := 4) hx hb hts iX0 hown hkx.1 hP 5 rfl rfl 3 (by decide) k125 (fun _ h9 => h9) rfl dX5_dropShim_19 ?_
  refine lv_iload_n hx hb dX5_dropShim_22 rfl (lv_at hl 1 rfl) ?_
  refine mu_V S hkx (mX2_remove l (hP := P_mid hP) (hD := (D_mid hD).weaken (fun _ _ _ _ => trivial)) (a := a) (N := N) (Z := Z) (t := k1) (ht := (by omega)) (hs := (by omega))) gX5_dropShim_X2_remove rfl idX2_remove ⟨Nat.le_of_ble_eq_true rfl, Nat.le_of_ble_eq_true rfl⟩ hP 18 rfl rfl rfl rfl hl.1 rfl (Nat.le_of_ble_eq_true rfl) dX5_dropShim_23 ⟨Nat.le_of_ble_eq_true rfl, Nat.le_of_ble_eq_true rfl⟩ hS (fr_in (D_mid hD) (fun q h => hA q (Nat.le_trans hS.1 h))) (fun v H locs hp9 hz1 hk1 hS => ?_)
  obtain ⟨rfl, hPc⟩ := hp9
  obtain ⟨hP, hD⟩ := fr_mid hP hD hk1 hPc rfl
  have hP : va_P G vwCl (wMain T q a (va_up N 3 (N 3 - 1)) (sDel Z k1 (N 3 - 1)) (svB sc b) (psh sc M N) (psh sc Y Z) (svC sc) tx L cu er le nb nc) H := hP
  have hD : va_D A (wMain T q a (va_up N 3 (N 3 - 1)) (sDel Z k1 (N 3 - 1)) (svB sc b) (psh sc M N) (psh sc Y Z) (svC sc) tx L cu er le nb nc) := hD
  refine W.eq (g2 := F0 m 26 ls []) rfl ?_
  refine lv_aload_n hx hb dX5_dropShim_26 rfl (lv_at hl 0 rfl) ?_
  refine va_get (D := G) (ci := 5) (C := RX5) (T := TX5) (N := 4) hx hb hts iX5 hown hkx.1 hP 0 rfl rfl 0 (by decide) k12 (fun _ h9 => h9) rfl dX5_dropShim_27 ?_
  refine va_get (D := G) (ci := 0) (C := RX0) (T := TX0) (N := 4) hx hb hts iX0 hown hkx.1 hP 5 rfl rfl 3 (by decide) k125 (fun _ h9 => h9) rfl dX5_dropShim_30 ?_
  refine va_get (D := G) (ci := 2) (C := RX2) (T := TX2) (N := 6) hx hb hts iX2 hown hkx.1 hP 18 rfl rfl 0 (by decide) k139 (fun _ h9 => h9) rfl dX5_dropShim_33 ?_
  exact hret _ _ _ _ _ _ _ _ rfl rfl (show (rfF (drF N (nI k1))) = 0 ∧ some (Value.int (nI ((va_up N 3 (N 3 - 1)) 3))) = some (Value.int (nI (N 3 - 1))) ∧ va_P G vwCl (wMain T q a (va_up N 3 (N 3 - 1)) (sDel Z (tn (nI k1)) (N 3 - 1)) (svB sc b) (psh sc M N) (psh sc Y Z) (svC sc) tx L cu er le nb nc) H from ⟨hF0, rfl, (by simp only [tn, nI_clamp (show k1 < 2 ^ 31 by omega)]; exact hP)⟩) hS (Nat.le_of_ble_eq_true rfl) (Nat.le_of_ble_eq_true rfl) dX5_dropShim_36

theorem idX5_undo : yX5_undo.cls = RX5 ∧ yX5_undo.cls ≠ "java/lang/invoke/MethodHandle" ∧ yX5_undo.cls ≠ "java/lang/invoke/VarHandle" ∧ (parseMethodDescriptor yX5_undo.desc).map (fun d => d.parameters.length) = some 0 := by decide +kernel

set_option maxHeartbeats 4000000 in
set_option maxRecDepth 100000 in
theorem mX5_undo (l : Launch) (hl0 : l.stackTraces = false) {G : va_G} {T : Nat → ClassId} {sa : Nat → Nat} {A9 : Nat → Prop} {H : Heap} {q : Nat → Nat} {a : Nat → Nat} {N : Nat → Nat} {Z : Nat → Nat → Int32} {b : Nat → Nat → Nat} {M : Nat → Nat → Nat} {Y : Nat → Nat → Nat → Int32} {sc : Nat} {tx : Nat → Int32} {L : Nat} {cu : Nat} {er : Int32} {le : Int32} {nb : Nat → Int32} {nc : Nat} (h9 : ∀ q, H.size ≤ q → A9 q) (hP : va_P G vwCl (wMain T q a N Z b M Y sc tx L cu er le nb nc) H) (hD : va_D (fun _ => True) (wMain T q a N Z b M Y sc tx L cu er le nb nc)) (hwf : wf N Z) (hsc : sc ≤ 4) : txm l yX5_undo wsX5_undo 7 102 1 [.ref (q 0)] G T sa A9 H (wMain T q a N Z b M Y sc tx L cu er le nb nc) (fun v9 H9 => (poF (bI (decide (0 < sc)))) = 0 ∧ v9 = some (.int (nI (sc - 1))) ∧ va_P G vwCl (wMain T q a (M (sc - 1)) (Y (sc - 1)) b M Y (sc - 1) tx L cu er le nb nc) H9) (fcE (poF (bI (decide (0 < sc))))) := by
  refine tx_of (cc := cX5_undo) (maxL := 1) (ret := (some .int)) (own := RX5) (by decide +kernel) rfl rfl (Nat.le_of_ble_eq_true rfl) h9 hD ?_
  intro p e s m below meth c ls A Q S hkx hth hl hD hS hA hret hout
  obtain ⟨hx, hb, hml, hown, hts⟩ := id S
  have hl : lv_has ls 1 [(0, .ref (q 0))] := hl
  have k20 := hts (.fieldLink RX5 20 "SunsetDates" "savedCount" "I") (by decide +kernel)
  have iX5 : ∀ w ∈ wsX50, w ∈ wsX5_undo := by decide +kernel
  have k12 := hts (.fieldLink RX5 12 "SunsetDates" "now" "LSunsetDates$Calendar;") (by decide +kernel)
  have k16 := hts (.fieldLink RX5 16 "SunsetDates" "saved" "[LSunsetDates$Calendar;") (by decide +kernel)
  have hb2 := hwf.1
  refine lv_aload_n hx hb dX5_undo_0 rfl (lv_at hl 0 rfl) ?_
  refine va_get (D := G) (ci := 5) (C := RX5) (T := TX5) (N := 4) hx hb hts iX5 hown hkx.1 hP 0 rfl rfl 2 (by decide) k20 (fun _ h9 => h9) rfl dX5_undo_1 ?_
  refine lv_if_le (tgt := 11) hx hb dX5_undo_4 (by decide) (fun c_1 => ?_) (fun c_1 => ?_)
  · replace c_1 := cn_le (a := sc) (b := 0) (by omega) (by omega) c_1
    have cD : decide (0 < sc) = false := decide_eq_false (by omega)
    refine lv_iconst (v := 0) hx hb dX5_undo_11 (by decide) ?_
    refine rx_S S hkx hth (mX5_requirePossible l hl0 (sa := sa) (h9 := fun _ h => h) (z := 0) ) gX5_undo_X5_requirePossible rfl idX5_requirePossible.2 ⟨Nat.le_of_ble_eq_true rfl, Nat.le_of_ble_eq_true rfl⟩ rfl hl.1 rfl (Nat.le_of_ble_eq_true rfl) dX5_undo_12 ⟨Nat.le_of_ble_eq_true rfl, Nat.le_of_ble_eq_true rfl⟩ (fun E ce q H1 hpx hq hv9 hc9 hz9 hk9 => hout E ce q _ _ _ _ _ _ (by first | exact hpx | (rw [cD]; exact hpx)) hq hv9 hc9 hz9 hk9 (Nat.le_of_ble_eq_true rfl) (Nat.le_of_ble_eq_true rfl)) (fun v hpost => ?_)
    obtain ⟨hF0, rfl⟩ := hpost
    exact absurd hF0 (by decide)
  · replace c_1 := cn_nle (a := sc) (b := 0) (by omega) (by omega) c_1
    have cD : decide (0 < sc) = true := decide_eq_true (by omega)
    refine lv_iconst (v := 1) hx hb dX5_undo_7 (by decide) ?_
    refine lv_goto (tgt := 12) hx hb dX5_undo_8 (by decide) ?_
    refine rx_S S hkx hth (mX5_requirePossible l hl0 (sa := sa) (h9 := fun _ h => h) (z := 1) ) gX5_undo_X5_requirePossible rfl idX5_requirePossible.2 ⟨Nat.le_of_ble_eq_true rfl, Nat.le_of_ble_eq_true rfl⟩ rfl hl.1 rfl (Nat.le_of_ble_eq_true rfl) dX5_undo_12 ⟨Nat.le_of_ble_eq_true rfl, Nat.le_of_ble_eq_true rfl⟩ (fun E ce q H1 hpx hq hv9 hc9 hz9 hk9 => hout E ce q _ _ _ _ _ _ (by first | exact hpx | (rw [cD]; exact hpx)) hq hv9 hc9 hz9 hk9 (Nat.le_of_ble_eq_true rfl) (Nat.le_of_ble_eq_true rfl)) (fun v hpost => ?_)
    obtain ⟨hF0, rfl⟩ := hpost
    have hF0 : (poF (bI (decide (0 < sc)))) = 0 := by first | exact hF0 | (rw [cD]; exact hF0)
    refine W.eq (g2 := F0 m 15 ls []) rfl ?_
    refine lv_aload_n hx hb dX5_undo_15 rfl (lv_at hl 0 rfl) ?_
    refine lv_dup hx hb dX5_undo_16 rfl ?_
    refine va_get (D := G) (ci := 5) (C := RX5) (T := TX5) (N := 4) hx hb hts iX5 hown hkx.1 hP 0 rfl rfl 2 (by decide) k20 (fun _ h9 => h9) rfl dX5_undo_17 ?_
    refine lv_iconst (v := 1) hx hb dX5_undo_20 (by decide) ?_
    refine lv_isub hx hb dX5_undo_21 ?_
    rw [show ((nI sc) - 1) = (nI (sc - 1)) from pk_sub (a := sc) (b := 1) (by omega)]
    refine va_put (D := G) (ci := 5) (v := .int (nI (sc - 1))) (ty := .int) (C := RX5) (T := TX5) (N := 4) hx hb hts iX5 tyX5 tyX5_ok nmX5 hown hkx.1 hP hD hS 0 rfl rfl 2 (by decide) k20 (fun _ h9 => h9) rfl (by decide +kernel) rfl rfl (Nat.le_of_ble_eq_true rfl) dX5_undo_22 (fun H locs hP hD hS => ?_)
    have hP : va_P G vwCl (wMain T q a N Z b M Y (sc - 1) tx L cu er le nb nc) H := hP
    have hD : va_D A (wMain T q a N Z b M Y (sc - 1) tx L cu er le nb nc) := hD
    refine lv_aload_n hx hb dX5_undo_25 rfl (lv_at hl 0 rfl) ?_
    refine va_get (D := G) (ci := 5) (C := RX5) (T := TX5) (N := 4) hx hb hts iX5 hown hkx.1 hP 0 rfl rfl 0 (by decide) k12 (fun _ h9 => h9) rfl dX5_undo_26 ?_
    refine lv_aload_n hx hb dX5_undo_29 rfl (lv_at hl 0 rfl) ?_
    refine va_get (D := G) (ci := 5) (C := RX5) (T := TX5) (N := 4) hx hb hts iX5 hown hkx.1 hP 0 rfl rfl 1 (by decide) k16 (fun _ h9 => h9) rfl dX5_undo_30 ?_
    refine lv_aload_n hx hb dX5_undo_33 rfl (lv_at hl 0 rfl) ?_
    refine va_get (D := G) (ci := 5) (C := RX5) (T := TX5) (N := 4) hx hb hts iX5 hown hkx.1 hP 0 rfl rfl 2 (by decide) k20 (fun _ h9 => h9) rfl dX5_undo_34 ?_
    refine aq hx hb hkx hP 1 rfl (sc - 1) rfl (by omega) (by decide) dX5_undo_37 ?_
    refine W.eq (g2 := F0 m 38 ls [.ref (b (sc - 1) 0), .ref (a 0)]) rfl ?_
    obtain ⟨R9, hp1, hp2⟩ := sv_split (T := T) b M Y (i := (sc - 1)) (by omega)
    have hPx := P_perm hP (pm_now hp1)
    have hDx := D_perm' hD (pm_now hp1)
    refine mu_V S hkx (mX0_copy l (a := a) (N := N) (Z := Z) (b := (b (sc - 1))) (M := (M (sc - 1))) (Y := (Y (sc - 1))) (hP := P_mid hPx) (hD := (D_mid hDx).weaken (fun _ _ _ _ => trivial))) gX5_undo_X0_copy rfl idX0_copy ⟨Nat.le_of_ble_eq_true rfl, Nat.le_of_ble_eq_true rfl⟩ hPx 5 rfl rfl rfl rfl hl.1 rfl (Nat.le_of_ble_eq_true rfl) dX5_undo_38 ⟨Nat.le_of_ble_eq_true rfl, Nat.le_of_ble_eq_true rfl⟩ hS (fr_in (D_mid hDx) (fun q h => hA q (Nat.le_trans hS.1 h))) (fun v H locs hp9 hz1 hk1 hS => ?_)
    obtain ⟨rfl, hPc⟩ := hp9
    obtain ⟨hP, hD⟩ := fr_mid hPx hDx hk1 hPc rfl
    have hP := P_perm hP (pm_now hp1).symm
    have hD := D_perm' hD (pm_now hp1).symm
    have hP : va_P G vwCl (wMain T q a (M (sc - 1)) (Y (sc - 1)) b M Y (sc - 1) tx L cu er le nb nc) H := hP
    have hD : va_D A (wMain T q a (M (sc - 1)) (Y (sc - 1)) b M Y (sc - 1) tx L cu er le nb nc) := hD
    refine W.eq (g2 := F0 m 41 ls []) rfl ?_
    refine lv_aload_n hx hb dX5_undo_41 rfl (lv_at hl 0 rfl) ?_
    refine va_get (D := G) (ci := 5) (C := RX5) (T := TX5) (N := 4) hx hb hts iX5 hown hkx.1 hP 0 rfl rfl 2 (by decide) k20 (fun _ h9 => h9) rfl dX5_undo_42 ?_
    exact hret _ _ _ _ _ _ _ _ rfl rfl (show (poF (bI (decide (0 < sc)))) = 0 ∧ some (Value.int (nI (sc - 1))) = some (Value.int (nI (sc - 1))) ∧ va_P G vwCl (wMain T q a (M (sc - 1)) (Y (sc - 1)) b M Y (sc - 1) tx L cu er le nb nc) H from ⟨hF0, rfl, hP⟩) hS (Nat.le_of_ble_eq_true rfl) (Nat.le_of_ble_eq_true rfl) dX5_undo_45
