theorem idX1_rewind : yX1_rewind.cls = RX1 ∧ yX1_rewind.cls ≠ "java/lang/invoke/MethodHandle" ∧ yX1_rewind.cls ≠ "java/lang/invoke/VarHandle" ∧ (parseMethodDescriptor yX1_rewind.desc).map (fun d => d.parameters.length) = some 0 := by decide +kernel

set_option maxHeartbeats 4000000 in
set_option maxRecDepth 100000 in
theorem mX1_rewind (l : Launch) {G : va_G} {T : Nat → ClassId} {H0 : Heap} {q : Nat → Nat} {a : Nat → Nat} {N : Nat → Nat} {Z : Nat → Nat → Int32} {b : Nat → Nat → Nat} {M : Nat → Nat → Nat} {Y : Nat → Nat → Nat → Int32} {sc : Nat} {tx : Nat → Int32} {L : Nat} {cu : Nat} {er : Int32} {le : Int32} {nb : Nat → Int32} {nc : Nat} (hP : va_P G vwCl (wMain T q a N Z b M Y sc tx L cu er le nb nc) H0) (hD : va_D (fun _ => True) (wMain T q a N Z b M Y sc tx L cu er le nb nc)) : mu l yX1_rewind wsX1_rewind 0 0 [.ref (q 2)] G T H0 (wMain T q a N Z b M Y sc tx L cu er le nb nc) (fun v9 H9 => v9 = none ∧ va_P G vwCl (wMain T q a N Z b M Y sc tx L 0 er le nb nc) H9) := by
  refine mu_ofv (cc := cX1_rewind) (maxL := 1) (own := RX1) (by decide +kernel) rfl rfl (Nat.le_of_ble_eq_true rfl) hD ?_
  intro p e s m below meth c Q ls A S hkx hl hD hS hA hret
  obtain ⟨hx, hb, hml, hown, hts⟩ := id S
  have hl : lv_has ls 1 [(0, .ref (q 2))] := hl
  have k19 := hts (.fieldLink RX1 19 "SunsetDates$Orders" "cursor" "I") (by decide +kernel)
  have iX1 : ∀ w ∈ wsX10, w ∈ wsX1_rewind := by decide +kernel
  refine lv_aload_n hx hb dX1_rewind_0 rfl (lv_at hl 0 rfl) ?_
  refine lv_iconst (v := 0) hx hb dX1_rewind_1 (by decide) ?_
  refine va_put (D := G) (ci := 1) (v := .int 0) (ty := .int) (C := RX1) (T := TX1) (N := 7) hx hb hts iX1 tyX1 tyX1_ok nmX1 hown hkx.1 hP hD hS 2 rfl rfl 2 (by decide) k19 (fun _ h9 => h9) rfl (by decide +kernel) rfl rfl (Nat.le_of_ble_eq_true rfl) dX1_rewind_2 (fun H locs hP hD hS => ?_)
  have hP : va_P G vwCl (wMain T q a N Z b M Y sc tx L 0 er le nb nc) H := hP
  have hD : va_D A (wMain T q a N Z b M Y sc tx L 0 er le nb nc) := hD
  exact hret _ _ _ _ (show (none : Option Value) = none ∧ va_P G vwCl (wMain T q a N Z b M Y sc tx L 0 er le nb nc) H from ⟨rfl, hP⟩) hS dX1_rewind_5

theorem idX1_fail : yX1_fail.cls = RX1 ∧ yX1_fail.cls ≠ "java/lang/invoke/MethodHandle" ∧ yX1_fail.cls ≠ "java/lang/invoke/VarHandle" ∧ (parseMethodDescriptor yX1_fail.desc).map (fun d => d.parameters.length) = some 1 := by decide +kernel

set_option maxHeartbeats 4000000 in
set_option maxRecDepth 100000 in
theorem mX1_fail (l : Launch) {G : va_G} {T : Nat → ClassId} {H0 : Heap} {q : Nat → Nat} {a : Nat → Nat} {N : Nat → Nat} {Z : Nat → Nat → Int32} {b : Nat → Nat → Nat} {M : Nat → Nat → Nat} {Y : Nat → Nat → Nat → Int32} {sc : Nat} {tx : Nat → Int32} {L : Nat} {cu : Nat} {er : Int32} {le : Int32} {nb : Nat → Int32} {nc : Nat} {k : Nat} (hP : va_P G vwCl (wMain T q a N Z b M Y sc tx L cu er le nb nc) H0) (hD : va_D (fun _ => True) (wMain T q a N Z b M Y sc tx L cu er le nb nc)) : mu l yX1_fail wsX1_fail 0 0 [.ref (q 2), .int (nI k)] G T H0 (wMain T q a N Z b M Y sc tx L cu er le nb nc) (fun v9 H9 => v9 = some (.int 0) ∧ va_P G vwCl (wMain T q a N Z b M Y sc tx L cu (nI k) le nb nc) H9) := by
  refine mu_ofi (cc := cX1_fail) (maxL := 2) (ret := .boolean) (own := RX1) (by decide +kernel) rfl rfl (Nat.le_of_ble_eq_true rfl) hD ?_
  intro p e s m below meth c Q ls A S hkx hl hD hS hA hret
  obtain ⟨hx, hb, hml, hown, hts⟩ := id S
  have hl : lv_has ls 2 [(0, .ref (q 2)), (1, .int (nI k))] := hl
  have k22 := hts (.fieldLink RX1 22 "SunsetDates$Orders" "error" "I") (by decide +kernel)
  have iX1 : ∀ w ∈ wsX10, w ∈ wsX1_fail := by decide +kernel
  refine lv_aload_n hx hb dX1_fail_0 rfl (lv_at hl 0 rfl) ?_
  refine lv_iload_n hx hb dX1_fail_1 rfl (lv_at hl 1 rfl) ?_
  refine va_put (D := G) (ci := 1) (v := .int (nI k)) (ty := .int) (C := RX1) (T := TX1) (N := 7) hx hb hts iX1 tyX1 tyX1_ok nmX1 hown hkx.1 hP hD hS 2 rfl rfl 3 (by decide) k22 (fun _ h9 => h9) rfl (by decide +kernel) rfl rfl (Nat.le_of_ble_eq_true rfl) dX1_fail_2 (fun H locs hP hD hS => ?_)
  have hP : va_P G vwCl (wMain T q a N Z b M Y sc tx L cu (nI k) le nb nc) H := hP
  have hD : va_D A (wMain T q a N Z b M Y sc tx L cu (nI k) le nb nc) := hD
  refine lv_iconst (v := 0) hx hb dX1_fail_5 (by decide) ?_
  exact hret _ _ _ _ _ (show some (Value.int 0) = some (Value.int 0) ∧ va_P G vwCl (wMain T q a N Z b M Y sc tx L cu (nI k) le nb nc) H from ⟨rfl, hP⟩) rfl hS dX1_fail_6

theorem idX1_keep : yX1_keep.cls = RX1 ∧ yX1_keep.cls ≠ "java/lang/invoke/MethodHandle" ∧ yX1_keep.cls ≠ "java/lang/invoke/VarHandle" ∧ (parseMethodDescriptor yX1_keep.desc).map (fun d => d.parameters.length) = some 1 := by decide +kernel

set_option maxHeartbeats 4000000 in
set_option maxRecDepth 100000 in
theorem mX1_keep (l : Launch) {G : va_G} {T : Nat → ClassId} {H0 : Heap} {q : Nat → Nat} {a : Nat → Nat} {N : Nat → Nat} {Z : Nat → Nat → Int32} {b : Nat → Nat → Nat} {M : Nat → Nat → Nat} {Y : Nat → Nat → Nat → Int32} {sc : Nat} {tx : Nat → Int32} {L : Nat} {cu : Nat} {er : Int32} {le : Int32} {nb : Nat → Int32} {nc : Nat} {x : Int32} (hP : va_P G vwCl (wMain T q a N Z b M Y sc tx L cu er le nb nc) H0) (hD : va_D (fun _ => True) (wMain T q a N Z b M Y sc tx L cu er le nb nc)) (hnc : nc < 5) : mu l yX1_keep wsX1_keep 0 0 [.ref (q 2), .int x] G T H0 (wMain T q a N Z b M Y sc tx L cu er le nb nc) (fun v9 H9 => v9 = none ∧ va_P G vwCl (wMain T q a N Z b M Y sc tx L cu er le (upd nb nc x) (nc + 1)) H9) := by
  refine mu_ofv (cc := cX1_keep) (maxL := 2) (own := RX1) (by decide +kernel) rfl rfl (Nat.le_of_ble_eq_true rfl) hD ?_
  intro p e s m below meth c Q ls A S hkx hl hD hS hA hret
  obtain ⟨hx, hb, hml, hown, hts⟩ := id S
  have hl : lv_has ls 2 [(0, .ref (q 2)), (1, .int x)] := hl
  have k32 := hts (.fieldLink RX1 32 "SunsetDates$Orders" "numberCount" "I") (by decide +kernel)
  have iX1 : ∀ w ∈ wsX10, w ∈ wsX1_keep := by decide +kernel
  have k28 := hts (.fieldLink RX1 28 "SunsetDates$Orders" "numbers" "[I") (by decide +kernel)
  refine lv_aload_n hx hb dX1_keep_0 rfl (lv_at hl 0 rfl) ?_
  refine va_get (D := G) (ci := 1) (C := RX1) (T := TX1) (N := 7) hx hb hts iX1 hown hkx.1 hP 2 rfl rfl 6 (by decide) k32 (fun _ h9 => h9) rfl dX1_keep_1 ?_
  refine lv_aload_n hx hb dX1_keep_4 rfl (lv_at hl 0 rfl) ?_
  refine va_get (D := G) (ci := 1) (C := RX1) (T := TX1) (N := 7) hx hb hts iX1 hown hkx.1 hP 2 rfl rfl 5 (by decide) k28 (fun _ h9 => h9) rfl dX1_keep_5 ?_
  refine aln hx hb hkx hP 4 0 rfl rfl dX1_keep_8 ?_
  refine lv_icmp_ge (tgt := 32) hx hb dX1_keep_9 (by decide) (fun c_1 => ?_) (fun c_1 => ?_)
  · replace c_1 := cn_le (a := 5) (b := nc) (by omega) (by omega) c_1
    exfalso; omega
  · replace c_1 := cn_nle (a := 5) (b := nc) (by omega) (by omega) c_1
    refine lv_aload_n hx hb dX1_keep_12 rfl (lv_at hl 0 rfl) ?_
    refine va_get (D := G) (ci := 1) (C := RX1) (T := TX1) (N := 7) hx hb hts iX1 hown hkx.1 hP 2 rfl rfl 5 (by decide) k28 (fun _ h9 => h9) rfl dX1_keep_13 ?_
    refine lv_aload_n hx hb dX1_keep_16 rfl (lv_at hl 0 rfl) ?_
    refine va_get (D := G) (ci := 1) (C := RX1) (T := TX1) (N := 7) hx hb hts iX1 hown hkx.1 hP 2 rfl rfl 6 (by decide) k32 (fun _ h9 => h9) rfl dX1_keep_17 ?_
    refine lv_iload_n hx hb dX1_keep_20 rfl (lv_at hl 1 rfl) ?_
    refine ist hx hb hkx hP hD hS 4 rfl nc rfl (by omega) (by decide) dX1_keep_21 (fun H locs hP hD hS => ?_)
    have hP : va_P G vwCl (wMain T q a N Z b M Y sc tx L cu er le (upd nb nc x) nc) H := hP
    have hD : va_D A (wMain T q a N Z b M Y sc tx L cu er le (upd nb nc x) nc) := hD
    refine lv_aload_n hx hb dX1_keep_22 rfl (lv_at hl 0 rfl) ?_
    refine lv_dup hx hb dX1_keep_23 rfl ?_
    refine va_get (D := G) (ci := 1) (C := RX1) (T := TX1) (N := 7) hx hb hts iX1 hown hkx.1 hP 2 rfl rfl 6 (by decide) k32 (fun _ h9 => h9) rfl dX1_keep_24 ?_
    refine lv_iconst (v := 1) hx hb dX1_keep_27 (by decide) ?_
    refine lv_iadd hx hb dX1_keep_28 ?_
    rw [show ((nI nc) + 1) = (nI (nc + 1)) from nI_add nc 1]
    refine va_put (D := G) (ci := 1) (v := .int (nI (nc + 1))) (ty := .int) (C := RX1) (T := TX1) (N := 7) hx hb hts iX1 tyX1 tyX1_ok nmX1 hown hkx.1 hP hD hS 2 rfl rfl 6 (by decide) k32 (fun _ h9 => h9) rfl (by decide +kernel) rfl rfl (Nat.le_of_ble_eq_true rfl) dX1_keep_29 (fun H locs hP hD hS => ?_)
    have hP : va_P G vwCl (wMain T q a N Z b M Y sc tx L cu er le (upd nb nc x) (nc + 1)) H := hP
    have hD : va_D A (wMain T q a N Z b M Y sc tx L cu er le (upd nb nc x) (nc + 1)) := hD
    exact hret _ _ _ _ (show (none : Option Value) = none ∧ va_P G vwCl (wMain T q a N Z b M Y sc tx L cu er le (upd nb nc x) (nc + 1)) H from ⟨rfl, hP⟩) hS dX1_keep_32

theorem idX1_isNextWithin : yX1_isNextWithin.cls = RX1 ∧ yX1_isNextWithin.cls ≠ "java/lang/invoke/MethodHandle" ∧ yX1_isNextWithin.cls ≠ "java/lang/invoke/VarHandle" ∧ (parseMethodDescriptor yX1_isNextWithin.desc).map (fun d => d.parameters.length) = some 2 := by decide +kernel

set_option maxHeartbeats 4000000 in
set_option maxRecDepth 100000 in
theorem mX1_isNextWithin (l : Launch) {G : va_G} {T : Nat → ClassId} {H : Heap} {q : Nat → Nat} {a : Nat → Nat} {N : Nat → Nat} {Z : Nat → Nat → Int32} {b : Nat → Nat → Nat} {M : Nat → Nat → Nat} {Y : Nat → Nat → Nat → Int32} {sc : Nat} {tx : Nat → Int32} {L : Nat} {cu : Nat} {er : Int32} {le : Int32} {nb : Nat → Int32} {nc : Nat} {lo : Int32} {hi : Int32} (hP : va_P G vwCl (wMain T q a N Z b M Y sc tx L cu er le nb nc) H) (hL : L ≤ 100) (hcu : cu ≤ L) : ro l yX1_isNextWithin wsX1_isNextWithin 0 0 [.ref (q 2), .int lo, .int hi] G T H (fun r => r = bI (isN tx L cu lo hi)) := by
  refine ro_of (cc := cX1_isNextWithin) (maxL := 3) (ret := .boolean) (own := RX1) (by decide +kernel) rfl rfl (Nat.le_of_ble_eq_true rfl) (fun v h => bI_nar h) ?_
  intro p e s m below meth c Q ls S hkx hl hret
  obtain ⟨hx, hb, hml, hown, hts⟩ := id S
  have hl : lv_has ls 3 [(0, .ref (q 2)), (1, .int lo), (2, .int hi)] := hl
  have k19 := hts (.fieldLink RX1 19 "SunsetDates$Orders" "cursor" "I") (by decide +kernel)
  have iX1 : ∀ w ∈ wsX10, w ∈ wsX1_isNextWithin := by decide +kernel
  have k15 := hts (.fieldLink RX1 15 "SunsetDates$Orders" "length" "I") (by decide +kernel)
  have k9 := hts (.fieldLink RX1 9 "SunsetDates$Orders" "text" "[B") (by decide +kernel)
  refine lv_aload_n hx hb dX1_isNextWithin_0 rfl (lv_at hl 0 rfl) ?_
  refine va_get (D := G) (ci := 1) (C := RX1) (T := TX1) (N := 7) hx hb hts iX1 hown hkx.1 hP 2 rfl rfl 2 (by decide) k19 (fun _ h9 => h9) rfl dX1_isNextWithin_1 ?_
  refine lv_aload_n hx hb dX1_isNextWithin_4 rfl (lv_at hl 0 rfl) ?_
  refine va_get (D := G) (ci := 1) (C := RX1) (T := TX1) (N := 7) hx hb hts iX1 hown hkx.1 hP 2 rfl rfl 1 (by decide) k15 (fun _ h9 => h9) rfl dX1_isNextWithin_5 ?_
  refine lv_icmp_ge (tgt := 41) hx hb dX1_isNextWithin_8 (by decide) (fun c_1 => ?_) (fun c_1 => ?_)
  · replace c_1 := cn_le (a := L) (b := cu) (by omega) (by omega) c_1
    refine lv_iconst (v := 0) hx hb dX1_isNextWithin_41 (by decide) ?_
    exact hret _ _ _ (show 0 = bI (isN tx L cu lo hi) from by
        clear hret hl; refine bI_0 ?_; unfold isN isW; first | (rw [decide_eq_false (show ¬ cu < L by omega)]; rfl) | simp [*]) dX1_isNextWithin_42
  · replace c_1 := cn_nle (a := L) (b := cu) (by omega) (by omega) c_1
    refine lv_aload_n hx hb dX1_isNextWithin_11 rfl (lv_at hl 0 rfl) ?_
    refine va_get (D := G) (ci := 1) (C := RX1) (T := TX1) (N := 7) hx hb hts iX1 hown hkx.1 hP 2 rfl rfl 0 (by decide) k9 (fun _ h9 => h9) rfl dX1_isNextWithin_12 ?_
    refine lv_aload_n hx hb dX1_isNextWithin_15 rfl (lv_at hl 0 rfl) ?_
    refine va_get (D := G) (ci := 1) (C := RX1) (T := TX1) (N := 7) hx hb hts iX1 hown hkx.1 hP 2 rfl rfl 2 (by decide) k19 (fun _ h9 => h9) rfl dX1_isNextWithin_16 ?_
    refine ba hx hb hkx hP 3 rfl cu rfl (by omega) (by decide) dX1_isNextWithin_19 ?_
    refine lv_iload_n hx hb dX1_isNextWithin_20 rfl (lv_at hl 1 rfl) ?_
    refine lv_icmp_lt (tgt := 41) hx hb dX1_isNextWithin_21 (by decide) (fun c_2 => ?_) (fun c_2 => ?_)
    · have c_2n := Int32.not_le.mpr c_2
      refine lv_iconst (v := 0) hx hb dX1_isNextWithin_41 (by decide) ?_
      exact hret _ _ _ (show 0 = bI (isN tx L cu lo hi) from by
          clear hret hl; refine bI_0 ?_; unfold isN isW; first | (rw [decide_eq_false (show ¬ cu < L by omega)]; rfl) | simp [*]) dX1_isNextWithin_42
    · have c_2n := Int32.not_lt.mp c_2
      refine lv_aload_n hx hb dX1_isNextWithin_24 rfl (lv_at hl 0 rfl) ?_
      refine va_get (D := G) (ci := 1) (C := RX1) (T := TX1) (N := 7) hx hb hts iX1 hown hkx.1 hP 2 rfl rfl 0 (by decide) k9 (fun _ h9 => h9) rfl dX1_isNextWithin_25 ?_
      refine lv_aload_n hx hb dX1_isNextWithin_28 rfl (lv_at hl 0 rfl) ?_
      refine va_get (D := G) (ci := 1) (C := RX1) (T := TX1) (N := 7) hx hb hts iX1 hown hkx.1 hP 2 rfl rfl 2 (by decide) k19 (fun _ h9 => h9) rfl dX1_isNextWithin_29 ?_
      refine ba hx hb hkx hP 3 rfl cu rfl (by omega) (by decide) dX1_isNextWithin_32 ?_
      refine lv_iload_n hx hb dX1_isNextWithin_33 rfl (lv_at hl 2 rfl) ?_
      refine lv_icmp_gt (tgt := 41) hx hb dX1_isNextWithin_34 (by decide) (fun c_3 => ?_) (fun c_3 => ?_)
      · have c_3n := Int32.not_le.mpr c_3
        refine lv_iconst (v := 0) hx hb dX1_isNextWithin_41 (by decide) ?_
        exact hret _ _ _ (show 0 = bI (isN tx L cu lo hi) from by
            clear hret hl; refine bI_0 ?_; unfold isN isW; first | (rw [decide_eq_false (show ¬ cu < L by omega)]; rfl) | simp [*]) dX1_isNextWithin_42
      · have c_3n := Int32.not_lt.mp c_3
        refine lv_iconst (v := 1) hx hb dX1_isNextWithin_37 (by decide) ?_
        refine lv_goto (tgt := 42) hx hb dX1_isNextWithin_38 (by decide) ?_
        exact hret _ _ _ (show 1 = bI (isN tx L cu lo hi) from by
            clear hret hl; refine bI_1 ?_; unfold isN isW; simp [*]) dX1_isNextWithin_42
