theorem idX1_readSign : yX1_readSign.cls = RX1 ∧ yX1_readSign.cls ≠ "java/lang/invoke/MethodHandle" ∧ yX1_readSign.cls ≠ "java/lang/invoke/VarHandle" ∧ (parseMethodDescriptor yX1_readSign.desc).map (fun d => d.parameters.length) = some 1 := by decide +kernel

set_option maxHeartbeats 4000000 in
set_option maxRecDepth 100000 in
theorem mX1_readSign (l : Launch) {G : va_G} {T : Nat → ClassId} {H0 : Heap} {q : Nat → Nat} {a : Nat → Nat} {N : Nat → Nat} {Z : Nat → Nat → Int32} {b : Nat → Nat → Nat} {M : Nat → Nat → Nat} {Y : Nat → Nat → Nat → Int32} {sc : Nat} {tx : Nat → Int32} {L : Nat} {cu : Nat} {er : Int32} {le : Int32} {nb : Nat → Int32} {nc : Nat} {sz : Int32} (hP : va_P G vwCl (wMain T q a N Z b M Y sc tx L cu er le nb nc) H0) (hD : va_D (fun _ => True) (wMain T q a N Z b M Y sc tx L cu er le nb nc)) (hL : L ≤ 100) (hcu : cu ≤ L) (hs : ¬ sz = -1) : mu l yX1_readSign wsX1_readSign 1 22 [.ref (q 2), .int sz] G T H0 (wMain T q a N Z b M Y sc tx L cu er le nb nc) (fun v9 H9 => v9 = some (.int (bI (decide (chr tx L cu = sz)))) ∧ va_P G vwCl (wMain T q a N Z b M Y sc tx L (if chr tx L cu = sz then cu + 1 else cu) (if chr tx L cu = sz then er else (nI cu)) le nb nc) H9) := by
  refine mu_ofi (cc := cX1_readSign) (maxL := 2) (ret := .boolean) (own := RX1) (by decide +kernel) rfl rfl (Nat.le_of_ble_eq_true rfl) hD ?_
  intro p e s m below meth c Q ls A S hkx hl hD hS hA hret
  obtain ⟨hx, hb, hml, hown, hts⟩ := id S
  have hl : lv_has ls 2 [(0, .ref (q 2)), (1, .int sz)] := hl
  have k19 := hts (.fieldLink RX1 19 "SunsetDates$Orders" "cursor" "I") (by decide +kernel)
  have iX1 : ∀ w ∈ wsX10, w ∈ wsX1_readSign := by decide +kernel
  refine lv_aload_n hx hb dX1_readSign_0 rfl (lv_at hl 0 rfl) ?_
  refine lv_iload_n hx hb dX1_readSign_1 rfl (lv_at hl 1 rfl) ?_
  refine lv_iload_n hx hb dX1_readSign_2 rfl (lv_at hl 1 rfl) ?_
  refine ro_V S hkx (mX1_isNextWithin l (lo := sz) (hi := sz) (hP := hP) (hL := (by omega)) (hcu := (by omega))) gX1_readSign_X1_isNextWithin rfl idX1_isNextWithin ⟨Nat.le_of_ble_eq_true rfl, Nat.le_of_ble_eq_true rfl⟩ hP 2 rfl rfl rfl rfl hl.1 rfl (Nat.le_of_ble_eq_true rfl) dX1_readSign_3 ⟨Nat.le_of_ble_eq_true rfl, Nat.le_of_ble_eq_true rfl⟩ (fun r_1 hr_1 => ?_)
  subst hr_1
  rw [isN_s (by assumption)]
  refine lv_if_ne (tgt := 18) hx hb dX1_readSign_6 (by decide) (fun c_2 => ?_) (fun c_2 => ?_)
  · replace c_2 := bI_n0 c_2
    refine lv_aload_n hx hb dX1_readSign_18 rfl (lv_at hl 0 rfl) ?_
    refine lv_dup hx hb dX1_readSign_19 rfl ?_
    refine va_get (D := G) (ci := 1) (C := RX1) (T := TX1) (N := 7) hx hb hts iX1 hown hkx.1 hP 2 rfl rfl 2 (by decide) k19 (fun _ h9 => h9) rfl dX1_readSign_20 ?_
    refine lv_iconst (v := 1) hx hb dX1_readSign_23 (by decide) ?_
    refine lv_iadd hx hb dX1_readSign_24 ?_
    rw [show ((nI cu) + 1) = (nI (cu + 1)) from nI_add cu 1]
    refine va_put (D := G) (ci := 1) (v := .int (nI (cu + 1))) (ty := .int) (C := RX1) (T := TX1) (N := 7) hx hb hts iX1 tyX1 tyX1_ok nmX1 hown hkx.1 hP hD hS 2 rfl rfl 2 (by decide) k19 (fun _ h9 => h9) rfl (by decide +kernel) rfl rfl (Nat.le_of_ble_eq_true rfl) dX1_readSign_25 (fun H locs hP hD hS => ?_)
    have hP : va_P G vwCl (wMain T q a N Z b M Y sc tx L (cu + 1) er le nb nc) H := hP
    have hD : va_D A (wMain T q a N Z b M Y sc tx L (cu + 1) er le nb nc) := hD
    refine lv_iconst (v := 1) hx hb dX1_readSign_28 (by decide) ?_
    exact hret _ _ _ _ _ (show some (Value.int 1) = some (Value.int (bI (decide (chr tx L cu = sz)))) ∧ va_P G vwCl (wMain T q a N Z b M Y sc tx L (if chr tx L cu = sz then cu + 1 else cu) (if chr tx L cu = sz then er else (nI cu)) le nb nc) H from ⟨by rw [show decide (chr tx L cu = sz) = true by assumption]; rfl, (by rw [if_pos (of_decide_eq_true (show decide (chr tx L cu = sz) = true by assumption)), if_pos (of_decide_eq_true (show decide (chr tx L cu = sz) = true by assumption))]; exact hP)⟩) rfl hS dX1_readSign_29
  · replace c_2 := bI_e0 c_2
    refine lv_aload_n hx hb dX1_readSign_9 rfl (lv_at hl 0 rfl) ?_
    refine lv_aload_n hx hb dX1_readSign_10 rfl (lv_at hl 0 rfl) ?_
    refine va_get (D := G) (ci := 1) (C := RX1) (T := TX1) (N := 7) hx hb hts iX1 hown hkx.1 hP 2 rfl rfl 2 (by decide) k19 (fun _ h9 => h9) rfl dX1_readSign_11 ?_
    refine mu_V S hkx (mX1_fail l (hP := hP) (hD := hD.weaken (fun _ _ _ _ => trivial)) (q := q) (a := a) (N := N) (Z := Z) (b := b) (M := M) (Y := Y) (sc := sc) (tx := tx) (L := L) (cu := cu) (er := er) (le := le) (nb := nb) (nc := nc) (k := cu)) gX1_readSign_X1_fail rfl idX1_fail ⟨Nat.le_of_ble_eq_true rfl, Nat.le_of_ble_eq_true rfl⟩ hP 2 rfl rfl rfl rfl hl.1 rfl (Nat.le_of_ble_eq_true rfl) dX1_readSign_14 ⟨Nat.le_of_ble_eq_true rfl, Nat.le_of_ble_eq_true rfl⟩ hS (fr_in hD (fun q h => hA q (Nat.le_trans hS.1 h))) (fun v H locs hp9 hz1 hk1 hS => ?_)
    obtain ⟨rfl, hP⟩ := hp9
    have hP : va_P G vwCl (wMain T q a N Z b M Y sc tx L cu (nI cu) le nb nc) H := hP
    have hD : va_D A (wMain T q a N Z b M Y sc tx L cu (nI cu) le nb nc) := D_perm hD (List.Perm.refl _)
    refine W.eq (g2 := F0 m 17 ls [.int 0]) rfl ?_
    exact hret _ _ _ _ _ (show some (Value.int 0) = some (Value.int (bI (decide (chr tx L cu = sz)))) ∧ va_P G vwCl (wMain T q a N Z b M Y sc tx L (if chr tx L cu = sz then cu + 1 else cu) (if chr tx L cu = sz then er else (nI cu)) le nb nc) H from ⟨by rw [show decide (chr tx L cu = sz) = false by assumption]; rfl, (by rw [if_neg (of_decide_eq_false (show decide (chr tx L cu = sz) = false by assumption)), if_neg (of_decide_eq_false (show decide (chr tx L cu = sz) = false by assumption))]; exact hP)⟩) rfl hS dX1_readSign_17

theorem idX1_readDigit : yX1_readDigit.cls = RX1 ∧ yX1_readDigit.cls ≠ "java/lang/invoke/MethodHandle" ∧ yX1_readDigit.cls ≠ "java/lang/invoke/VarHandle" ∧ (parseMethodDescriptor yX1_readDigit.desc).map (fun d => d.parameters.length) = some 1 := by decide +kernel

set_option maxHeartbeats 4000000 in
set_option maxRecDepth 100000 in
theorem mX1_readDigit (l : Launch) {G : va_G} {T : Nat → ClassId} {H0 : Heap} {q : Nat → Nat} {a : Nat → Nat} {N : Nat → Nat} {Z : Nat → Nat → Int32} {b : Nat → Nat → Nat} {M : Nat → Nat → Nat} {Y : Nat → Nat → Nat → Int32} {sc : Nat} {tx : Nat → Int32} {L : Nat} {cu : Nat} {er : Int32} {le : Int32} {nb : Nat → Int32} {nc : Nat} {hi : Int32} (hP : va_P G vwCl (wMain T q a N Z b M Y sc tx L cu er le nb nc) H0) (hD : va_D (fun _ => True) (wMain T q a N Z b M Y sc tx L cu er le nb nc)) (hL : L ≤ 100) (hcu : cu ≤ L) (hnc : nc < 5) (hne : ¬ (48 : Int32) = hi) : mu l yX1_readDigit wsX1_readDigit 1 22 [.ref (q 2), .int hi] G T H0 (wMain T q a N Z b M Y sc tx L cu er le nb nc) (fun v9 H9 => v9 = some (.int (bI (isW (chr tx L cu) 48 hi))) ∧ va_P G vwCl (wMain T q a N Z b M Y sc tx L (if isW (chr tx L cu) 48 hi = true then cu + 1 else cu) (if isW (chr tx L cu) 48 hi = true then er else (nI cu)) le (if isW (chr tx L cu) 48 hi = true then upd nb nc (tx cu - 48) else nb) (if isW (chr tx L cu) 48 hi = true then nc + 1 else nc)) H9) := by
  refine mu_ofi (cc := cX1_readDigit) (maxL := 2) (ret := .boolean) (own := RX1) (by decide +kernel) rfl rfl (Nat.le_of_ble_eq_true rfl) hD ?_
  intro p e s m below meth c Q ls A S hkx hl hD hS hA hret
  obtain ⟨hx, hb, hml, hown, hts⟩ := id S
  have hl : lv_has ls 2 [(0, .ref (q 2)), (1, .int hi)] := hl
  have k9 := hts (.fieldLink RX1 9 "SunsetDates$Orders" "text" "[B") (by decide +kernel)
  have iX1 : ∀ w ∈ wsX10, w ∈ wsX1_readDigit := by decide +kernel
  have k19 := hts (.fieldLink RX1 19 "SunsetDates$Orders" "cursor" "I") (by decide +kernel)
  refine lv_aload_n hx hb dX1_readDigit_0 rfl (lv_at hl 0 rfl) ?_
  refine lv_bipush (v := 48) hx hb dX1_readDigit_1 (by decide) ?_
  refine lv_iload_n hx hb dX1_readDigit_3 rfl (lv_at hl 1 rfl) ?_
  refine ro_V S hkx (mX1_isNextWithin l (lo := 48) (hi := hi) (hP := hP) (hL := (by omega)) (hcu := (by omega))) gX1_readDigit_X1_isNextWithin rfl idX1_isNextWithin ⟨Nat.le_of_ble_eq_true rfl, Nat.le_of_ble_eq_true rfl⟩ hP 2 rfl rfl rfl rfl hl.1 rfl (Nat.le_of_ble_eq_true rfl) dX1_readDigit_4 ⟨Nat.le_of_ble_eq_true rfl, Nat.le_of_ble_eq_true rfl⟩ (fun r_1 hr_1 => ?_)
  subst hr_1
  rw [isN_chr (by decide)]
  refine lv_if_ne (tgt := 19) hx hb dX1_readDigit_7 (by decide) (fun c_2 => ?_) (fun c_2 => ?_)
  · replace c_2 := bI_n0 c_2
    have hlt : cu < L := chr_w (hi := hi) (by assumption)
    refine lv_aload_n hx hb dX1_readDigit_19 rfl (lv_at hl 0 rfl) ?_
    refine lv_aload_n hx hb dX1_readDigit_20 rfl (lv_at hl 0 rfl) ?_
    refine va_get (D := G) (ci := 1) (C := RX1) (T := TX1) (N := 7) hx hb hts iX1 hown hkx.1 hP 2 rfl rfl 0 (by decide) k9 (fun _ h9 => h9) rfl dX1_readDigit_21 ?_
    refine lv_aload_n hx hb dX1_readDigit_24 rfl (lv_at hl 0 rfl) ?_
    refine va_get (D := G) (ci := 1) (C := RX1) (T := TX1) (N := 7) hx hb hts iX1 hown hkx.1 hP 2 rfl rfl 2 (by decide) k19 (fun _ h9 => h9) rfl dX1_readDigit_25 ?_
    refine ba hx hb hkx hP 3 rfl cu rfl (by omega) (by decide) dX1_readDigit_28 ?_
    refine lv_bipush (v := 48) hx hb dX1_readDigit_29 (by decide) ?_
    refine lv_isub hx hb dX1_readDigit_31 ?_
    refine mu_V S hkx (mX1_keep l (hP := hP) (hD := hD.weaken (fun _ _ _ _ => trivial)) (q := q) (a := a) (N := N) (Z := Z) (b := b) (M := M) (Y := Y) (sc := sc) (tx := tx) (L := L) (cu := cu) (er := er) (le := le) (nb := nb) (nc := nc) (x := ((tx cu) - 48)) (hnc := (by omega))) gX1_readDigit_X1_keep rfl idX1_keep ⟨Nat.le_of_ble_eq_true rfl, Nat.le_of_ble_eq_true rfl⟩ hP 2 rfl rfl rfl rfl hl.1 rfl (Nat.le_of_ble_eq_true rfl) dX1_readDigit_32 ⟨Nat.le_of_ble_eq_true rfl, Nat.le_of_ble_eq_true rfl⟩ hS (fr_in hD (fun q h => hA q (Nat.le_trans hS.1 h))) (fun v H locs hp9 hz1 hk1 hS => ?_)
    obtain ⟨rfl, hP⟩ := hp9
    have hP : va_P G vwCl (wMain T q a N Z b M Y sc tx L cu er le (upd nb nc ((tx cu) - 48)) (nc + 1)) H := hP
    have hD : va_D A (wMain T q a N Z b M Y sc tx L cu er le (upd nb nc ((tx cu) - 48)) (nc + 1)) := D_perm hD (List.Perm.refl _)
    refine W.eq (g2 := F0 m 35 ls []) rfl ?_
    refine lv_aload_n hx hb dX1_readDigit_35 rfl (lv_at hl 0 rfl) ?_
    refine lv_dup hx hb dX1_readDigit_36 rfl ?_
    refine va_get (D := G) (ci := 1) (C := RX1) (T := TX1) (N := 7) hx hb hts iX1 hown hkx.1 hP 2 rfl rfl 2 (by decide) k19 (fun _ h9 => h9) rfl dX1_readDigit_37 ?_
    refine lv_iconst (v := 1) hx hb dX1_readDigit_40 (by decide) ?_
    refine lv_iadd hx hb dX1_readDigit_41 ?_
    rw [show ((nI cu) + 1) = (nI (cu + 1)) from nI_add cu 1]
    refine va_put (D := G) (ci := 1) (v := .int (nI (cu + 1))) (ty := .int) (C := RX1) (T := TX1) (N := 7) hx hb hts iX1 tyX1 tyX1_ok nmX1 hown hkx.1 hP hD hS 2 rfl rfl 2 (by decide) k19 (fun _ h9 => h9) rfl (by decide +kernel) rfl rfl (Nat.le_of_ble_eq_true rfl) dX1_readDigit_42 (fun H locs hP hD hS => ?_)
    have hP : va_P G vwCl (wMain T q a N Z b M Y sc tx L (cu + 1) er le (upd nb nc ((tx cu) - 48)) (nc + 1)) H := hP
    have hD : va_D A (wMain T q a N Z b M Y sc tx L (cu + 1) er le (upd nb nc ((tx cu) - 48)) (nc + 1)) := hD
    refine lv_iconst (v := 1) hx hb dX1_readDigit_45 (by decide) ?_
    exact hret _ _ _ _ _ (show some (Value.int 1) = some (Value.int (bI (isW (chr tx L cu) 48 hi))) ∧ va_P G vwCl (wMain T q a N Z b M Y sc tx L (if isW (chr tx L cu) 48 hi = true then cu + 1 else cu) (if isW (chr tx L cu) 48 hi = true then er else (nI cu)) le (if isW (chr tx L cu) 48 hi = true then upd nb nc (tx cu - 48) else nb) (if isW (chr tx L cu) 48 hi = true then nc + 1 else nc)) H from ⟨by rw [show isW (chr tx L cu) 48 hi = true by assumption]; rfl, (by rw [if_pos (show isW (chr tx L cu) 48 hi = true by assumption), if_pos (show isW (chr tx L cu) 48 hi = true by assumption), if_pos (show isW (chr tx L cu) 48 hi = true by assumption), if_pos (show isW (chr tx L cu) 48 hi = true by assumption)]; exact hP)⟩) rfl hS dX1_readDigit_46
  · replace c_2 := bI_e0 c_2
    refine lv_aload_n hx hb dX1_readDigit_10 rfl (lv_at hl 0 rfl) ?_
    refine lv_aload_n hx hb dX1_readDigit_11 rfl (lv_at hl 0 rfl) ?_
    refine va_get (D := G) (ci := 1) (C := RX1) (T := TX1) (N := 7) hx hb hts iX1 hown hkx.1 hP 2 rfl rfl 2 (by decide) k19 (fun _ h9 => h9) rfl dX1_readDigit_12 ?_
    refine mu_V S hkx (mX1_fail l (hP := hP) (hD := hD.weaken (fun _ _ _ _ => trivial)) (q := q) (a := a) (N := N) (Z := Z) (b := b) (M := M) (Y := Y) (sc := sc) (tx := tx) (L := L) (cu := cu) (er := er) (le := le) (nb := nb) (nc := nc) (k := cu)) gX1_readDigit_X1_fail rfl idX1_fail ⟨Nat.le_of_ble_eq_true rfl, Nat.le_of_ble_eq_true rfl⟩ hP 2 rfl rfl rfl rfl hl.1 rfl (Nat.le_of_ble_eq_true rfl) dX1_readDigit_15 ⟨Nat.le_of_ble_eq_true rfl, Nat.le_of_ble_eq_true rfl⟩ hS (fr_in hD (fun q h => hA q (Nat.le_trans hS.1 h))) (fun v H locs hp9 hz1 hk1 hS => ?_)
    obtain ⟨rfl, hP⟩ := hp9
    have hP : va_P G vwCl (wMain T q a N Z b M Y sc tx L cu (nI cu) le nb nc) H := hP
    have hD : va_D A (wMain T q a N Z b M Y sc tx L cu (nI cu) le nb nc) := D_perm hD (List.Perm.refl _)
    refine W.eq (g2 := F0 m 18 ls [.int 0]) rfl ?_
    exact hret _ _ _ _ _ (show some (Value.int 0) = some (Value.int (bI (isW (chr tx L cu) 48 hi))) ∧ va_P G vwCl (wMain T q a N Z b M Y sc tx L (if isW (chr tx L cu) 48 hi = true then cu + 1 else cu) (if isW (chr tx L cu) 48 hi = true then er else (nI cu)) le (if isW (chr tx L cu) 48 hi = true then upd nb nc (tx cu - 48) else nb) (if isW (chr tx L cu) 48 hi = true then nc + 1 else nc)) H from ⟨by rw [show isW (chr tx L cu) 48 hi = false by assumption]; rfl, (by rw [if_neg (Bool.eq_false_iff.mp (show isW (chr tx L cu) 48 hi = false by assumption)), if_neg (Bool.eq_false_iff.mp (show isW (chr tx L cu) 48 hi = false by assumption)), if_neg (Bool.eq_false_iff.mp (show isW (chr tx L cu) 48 hi = false by assumption)), if_neg (Bool.eq_false_iff.mp (show isW (chr tx L cu) 48 hi = false by assumption))]; exact hP)⟩) rfl hS dX1_readDigit_18
