theorem idX1_readNumber : yX1_readNumber.cls = RX1 ∧ yX1_readNumber.cls ≠ "java/lang/invoke/MethodHandle" ∧ yX1_readNumber.cls ≠ "java/lang/invoke/VarHandle" ∧ (parseMethodDescriptor yX1_readNumber.desc).map (fun d => d.parameters.length) = some 2 := by decide +kernel

set_option maxHeartbeats 4000000 in
set_option maxRecDepth 100000 in
theorem mX1_readNumber (l : Launch) {G : va_G} {T : Nat → ClassId} {H0 : Heap} {q : Nat → Nat} {a : Nat → Nat} {N : Nat → Nat} {Z : Nat → Nat → Int32} {b : Nat → Nat → Nat} {M : Nat → Nat → Nat} {Y : Nat → Nat → Nat → Int32} {sc : Nat} {tx : Nat → Int32} {L : Nat} {cu : Nat} {er : Int32} {le : Int32} {nb : Nat → Int32} {nc : Nat} {kz : Nat} {lo : Int32} (hP : va_P G vwCl (wMain T q a N Z b M Y sc tx L cu er le nb nc) H0) (hD : va_D (fun _ => True) (wMain T q a N Z b M Y sc tx L cu er le nb nc)) (hL : L ≤ 100) (hcu : cu ≤ L) (hnc : nc < 5) (hk1 : 1 ≤ kz) (hk3 : kz ≤ 3) : mu l yX1_readNumber wsX1_readNumber 1 22 [.ref (q 2), .int (nI kz), .int lo] G T H0 (wMain T q a N Z b M Y sc tx L cu er le nb nc) (fun v9 H9 => v9 = some (.int (bI (numB tx L kz lo cu))) ∧ va_P G vwCl (wMain T q a N Z b M Y sc tx L (cu + ru tx L kz cu) (if numB tx L kz lo cu = true then er else (nI (numE tx L kz cu))) le (if numB tx L kz lo cu = true then upd nb nc (vn tx cu (ru tx L kz cu)) else nb) (if numB tx L kz lo cu = true then nc + 1 else nc)) H9) := by
  refine mu_ofi (cc := cX1_readNumber) (maxL := 5) (ret := .boolean) (own := RX1) (by decide +kernel) rfl rfl (Nat.le_of_ble_eq_true rfl) hD ?_
  intro p e s m below meth c Q ls A S hkx hl hD hS hA hret
  obtain ⟨hx, hb, hml, hown, hts⟩ := id S
  have hl : lv_has ls 5 [(0, .ref (q 2)), (1, .int (nI kz)), (2, .int lo)] := hl
  have k19 := hts (.fieldLink RX1 19 "SunsetDates$Orders" "cursor" "I") (by decide +kernel)
  have iX1 : ∀ w ∈ wsX10, w ∈ wsX1_readNumber := by decide +kernel
  have k15 := hts (.fieldLink RX1 15 "SunsetDates$Orders" "length" "I") (by decide +kernel)
  have k9 := hts (.fieldLink RX1 9 "SunsetDates$Orders" "text" "[B") (by decide +kernel)
  refine lv_aload_n hx hb dX1_readNumber_0 rfl (lv_at hl 0 rfl) ?_
  refine va_get (D := G) (ci := 1) (C := RX1) (T := TX1) (N := 7) hx hb hts iX1 hown hkx.1 hP 2 rfl rfl 2 (by decide) k19 (fun _ h9 => h9) rfl dX1_readNumber_1 ?_
  refine lv_istore_n (lv' := [(3, .int (nI cu)), (0, .ref (q 2)), (1, .int (nI kz)), (2, .int lo)]) hx hb dX1_readNumber_4 rfl hl (by decide) rfl (fun ls hl => ?_)
  refine lv_iconst (v := 0) hx hb dX1_readNumber_5 (by decide) ?_
  refine W.eq (g2 := F0 m 6 ls [.int (vn tx cu 0)]) rfl ?_
  refine lv_istore (lv' := [(4, .int (vn tx cu 0)), (3, .int (nI cu)), (0, .ref (q 2)), (1, .int (nI kz)), (2, .int lo)]) hx hb dX1_readNumber_6 hl (by decide) rfl (fun ls hl => ?_)
  have hP : va_P G vwCl (wMain T q a N Z b M Y sc tx L (cu + 0) er le nb nc) H0 := hP
  have hD : va_D A (wMain T q a N Z b M Y sc tx L (cu + 0) er le nb nc) := hD
  have L8 : ∀ (fuel : Nat) (j : Nat), kz + 1 - j < fuel → j ≤ kz → cu + j ≤ L → (∀ i, i < j → isG tx L (cu + i) 9 = true) → ∀ (H : Heap) (locs : List Loc), va_P G vwCl (wMain T q a N Z b M Y sc tx L (cu + j) er le nb nc) H → va_D A (wMain T q a N Z b M Y sc tx L (cu + j) er le nb nc) → va_S A H0 H locs → ∀ ls : Array Slot, lv_has ls 5 [(0, .ref (q 2)), (1, .int (nI kz)), (2, .int lo), (3, .int (nI cu)), (4, .int (vn tx cu j))] → W p l e (rmo 1 22) s m ([.ref (q 2), .int (nI kz), .int lo] : List Value).toArray below meth c H locs 0 0 Q (F0 m 8 ls []) := by
    intro fuel
    induction fuel with
    | zero => intro j hm; exact absurd hm (Nat.not_lt_zero _)
    | succ fuel ih8 =>
      intro j hm8 hjk hjn hall H locs hP hD hS ls hl
      refine lv_aload_n hx hb dX1_readNumber_8 rfl (lv_at hl 0 rfl) ?_
      refine va_get (D := G) (ci := 1) (C := RX1) (T := TX1) (N := 7) hx hb hts iX1 hown hkx.1 hP 2 rfl rfl 2 (by decide) k19 (fun _ h9 => h9) rfl dX1_readNumber_9 ?_
      refine lv_aload_n hx hb dX1_readNumber_12 rfl (lv_at hl 0 rfl) ?_
      refine va_get (D := G) (ci := 1) (C := RX1) (T := TX1) (N := 7) hx hb hts iX1 hown hkx.1 hP 2 rfl rfl 1 (by decide) k15 (fun _ h9 => h9) rfl dX1_readNumber_13 ?_
      refine lv_icmp_ge (tgt := 82) hx hb dX1_readNumber_16 (by decide) (fun c_1 => ?_) (fun c_1 => ?_)
      · replace c_1 := cn_le (a := L) (b := (cu + j)) (by omega) (by omega) c_1
        have hru := ru_end (tx := tx) (L := L) (p := cu) (k := kz) (j := j) (by omega) hall (by first | exact Or.inl (by omega) | exact Or.inr (isG_no (by omega) 9) | exact Or.inr (by rw [isG9]; assumption))
        obtain ⟨hnB, hnE⟩ := num_of (lo := lo) hru
        refine lv_aload_n hx hb dX1_readNumber_82 rfl (lv_at hl 0 rfl) ?_
        refine va_get (D := G) (ci := 1) (C := RX1) (T := TX1) (N := 7) hx hb hts iX1 hown hkx.1 hP 2 rfl rfl 2 (by decide) k19 (fun _ h9 => h9) rfl dX1_readNumber_83 ?_
        refine lv_iload_n hx hb dX1_readNumber_86 rfl (lv_at hl 3 rfl) ?_
        refine lv_icmp_ne (tgt := 99) hx hb dX1_readNumber_87 (by decide) (fun c_2 => ?_) (fun c_2 => ?_)
        · replace c_2 := cn_ne (a := (cu + j)) (b := cu) (by omega) (by omega) c_2
          refine lv_iload hx hb dX1_readNumber_99 (lv_at hl 4 rfl) ?_
          refine lv_iload_n hx hb dX1_readNumber_101 rfl (lv_at hl 2 rfl) ?_
          refine lv_icmp_ge (tgt := 111) hx hb dX1_readNumber_102 (by decide) (fun c_3 => ?_) (fun c_3 => ?_)
          · have c_3n := Int32.not_lt.mpr c_3
            refine lv_aload_n hx hb dX1_readNumber_111 rfl (lv_at hl 0 rfl) ?_
            refine lv_iload hx hb dX1_readNumber_112 (lv_at hl 4 rfl) ?_
            refine mu_V S hkx (mX1_keep l (hP := hP) (hD := hD.weaken (fun _ _ _ _ => trivial)) (q := q) (a := a) (N := N) (Z := Z) (b := b) (M := M) (Y := Y) (sc := sc) (tx := tx) (L := L) (cu := (cu + j)) (er := er) (le := le) (nb := nb) (nc := nc) (x := (vn tx cu j)) (hnc := (by omega))) gX1_readNumber_X1_keep rfl idX1_keep ⟨Nat.le_of_ble_eq_true rfl, Nat.le_of_ble_eq_true rfl⟩ hP 2 rfl rfl rfl rfl hl.1 rfl (Nat.le_of_ble_eq_true rfl) dX1_readNumber_114 ⟨Nat.le_of_ble_eq_true rfl, Nat.le_of_ble_eq_true rfl⟩ hS (fr_in hD (fun q h => hA q (Nat.le_trans hS.1 h))) (fun v H locs hp9 hz1 hk1 hS => ?_)
            obtain ⟨rfl, hP⟩ := hp9
            have hP : va_P G vwCl (wMain T q a N Z b M Y sc tx L (cu + j) er le (upd nb nc (vn tx cu j)) (nc + 1)) H := hP
            have hD : va_D A (wMain T q a N Z b M Y sc tx L (cu + j) er le (upd nb nc (vn tx cu j)) (nc + 1)) := D_perm hD (List.Perm.refl _)
            refine W.eq (g2 := F0 m 117 ls []) rfl ?_
            refine lv_iconst (v := 1) hx hb dX1_readNumber_117 (by decide) ?_
            have hgg : isG tx L (cu + j) 9 = false := (by first | exact isG_no (by omega) 9 | (rw [isG9]; assumption))
            have hnb : numB tx L kz lo cu = true := by rw [hnB, decide_eq_false (show ¬ j = 0 by omega), hgg, decide_eq_false (show ¬ vn tx cu j < lo by assumption)]; rfl
            exact hret _ _ _ _ _ (show some (Value.int 1) = some (Value.int (bI (numB tx L kz lo cu))) ∧ va_P G vwCl (wMain T q a N Z b M Y sc tx L (cu + ru tx L kz cu) (if numB tx L kz lo cu = true then er else (nI (numE tx L kz cu))) le (if numB tx L kz lo cu = true then upd nb nc (vn tx cu (ru tx L kz cu)) else nb) (if numB tx L kz lo cu = true then nc + 1 else nc)) H from ⟨by rw [hnb]; rfl, (by rw [if_pos hnb, if_pos hnb, if_pos hnb, hru]; exact hP)⟩) rfl hS dX1_readNumber_118
          · have c_3n := Int32.not_le.mp c_3
            refine lv_aload_n hx hb dX1_readNumber_105 rfl (lv_at hl 0 rfl) ?_
            refine lv_iload_n hx hb dX1_readNumber_106 rfl (lv_at hl 3 rfl) ?_
            refine mu_V S hkx (mX1_fail l (hP := hP) (hD := hD.weaken (fun _ _ _ _ => trivial)) (q := q) (a := a) (N := N) (Z := Z) (b := b) (M := M) (Y := Y) (sc := sc) (tx := tx) (L := L) (cu := (cu + j)) (er := er) (le := le) (nb := nb) (nc := nc) (k := cu)) gX1_readNumber_X1_fail rfl idX1_fail ⟨Nat.le_of_ble_eq_true rfl, Nat.le_of_ble_eq_true rfl⟩ hP 2 rfl rfl rfl rfl hl.1 rfl (Nat.le_of_ble_eq_true rfl) dX1_readNumber_107 ⟨Nat.le_of_ble_eq_true rfl, Nat.le_of_ble_eq_true rfl⟩ hS (fr_in hD (fun q h => hA q (Nat.le_trans hS.1 h))) (fun v H locs hp9 hz1 hk1 hS => ?_)
            obtain ⟨rfl, hP⟩ := hp9
            have hP : va_P G vwCl (wMain T q a N Z b M Y sc tx L (cu + j) (nI cu) le nb nc) H := hP
            have hD : va_D A (wMain T q a N Z b M Y sc tx L (cu + j) (nI cu) le nb nc) := D_perm hD (List.Perm.refl _)
            refine W.eq (g2 := F0 m 110 ls [.int 0]) rfl ?_
            have hgg : isG tx L (cu + j) 9 = false := (by first | exact isG_no (by omega) 9 | (rw [isG9]; assumption))
            have hnb : ¬ numB tx L kz lo cu = true := by rw [hnB, decide_eq_true (show vn tx cu j < lo by assumption)]; simp
            exact hret _ _ _ _ _ (show some (Value.int 0) = some (Value.int (bI (numB tx L kz lo cu))) ∧ va_P G vwCl (wMain T q a N Z b M Y sc tx L (cu + ru tx L kz cu) (if numB tx L kz lo cu = true then er else (nI (numE tx L kz cu))) le (if numB tx L kz lo cu = true then upd nb nc (vn tx cu (ru tx L kz cu)) else nb) (if numB tx L kz lo cu = true then nc + 1 else nc)) H from ⟨by rw [Bool.eq_false_iff.mpr hnb]; rfl, (by rw [if_neg hnb, if_neg hnb, if_neg hnb, hnE, hgg, hru]; exact hP)⟩) rfl hS dX1_readNumber_110
        · replace c_2 := cn_eq (a := (cu + j)) (b := cu) (by omega) (by omega) c_2
          refine lv_aload_n hx hb dX1_readNumber_90 rfl (lv_at hl 0 rfl) ?_
          refine lv_aload_n hx hb dX1_readNumber_91 rfl (lv_at hl 0 rfl) ?_
          refine va_get (D := G) (ci := 1) (C := RX1) (T := TX1) (N := 7) hx hb hts iX1 hown hkx.1 hP 2 rfl rfl 2 (by decide) k19 (fun _ h9 => h9) rfl dX1_readNumber_92 ?_
          refine mu_V S hkx (mX1_fail l (hP := hP) (hD := hD.weaken (fun _ _ _ _ => trivial)) (q := q) (a := a) (N := N) (Z := Z) (b := b) (M := M) (Y := Y) (sc := sc) (tx := tx) (L := L) (cu := (cu + j)) (er := er) (le := le) (nb := nb) (nc := nc) (k := (cu + j))) gX1_readNumber_X1_fail rfl idX1_fail ⟨Nat.le_of_ble_eq_true rfl, Nat.le_of_ble_eq_true rfl⟩ hP 2 rfl rfl rfl rfl hl.1 rfl (Nat.le_of_ble_eq_true rfl) dX1_readNumber_95 ⟨Nat.le_of_ble_eq_true rfl, Nat.le_of_ble_eq_true rfl⟩ hS (fr_in hD (fun q h => hA q (Nat.le_trans hS.1 h))) (fun v H locs hp9 hz1 hk1 hS => ?_)
          obtain ⟨rfl, hP⟩ := hp9
          have hP : va_P G vwCl (wMain T q a N Z b M Y sc tx L (cu + j) (nI (cu + j)) le nb nc) H := hP
          have hD : va_D A (wMain T q a N Z b M Y sc tx L (cu + j) (nI (cu + j)) le nb nc) := D_perm hD (List.Perm.refl _)
          refine W.eq (g2 := F0 m 98 ls [.int 0]) rfl ?_
          have hgg : isG tx L (cu + j) 9 = false := (by first | exact isG_no (by omega) 9 | (rw [isG9]; assumption))
          have hnb : ¬ numB tx L kz lo cu = true := by rw [hnB, decide_eq_true (show j = 0 by omega)]; simp
          exact hret _ _ _ _ _ (show some (Value.int 0) = some (Value.int (bI (numB tx L kz lo cu))) ∧ va_P G vwCl (wMain T q a N Z b M Y sc tx L (cu + ru tx L kz cu) (if numB tx L kz lo cu = true then er else (nI (numE tx L kz cu))) le (if numB tx L kz lo cu = true then upd nb nc (vn tx cu (ru tx L kz cu)) else nb) (if numB tx L kz lo cu = true then nc + 1 else nc)) H from ⟨by rw [Bool.eq_false_iff.mpr hnb]; rfl, (by rw [if_neg hnb, if_neg hnb, if_neg hnb, hnE, hgg, hru]; have h0 : j = 0 := (by omega); subst h0; exact hP)⟩) rfl hS dX1_readNumber_98
      · replace c_1 := cn_nle (a := L) (b := (cu + j)) (by omega) (by omega) c_1
        refine lv_aload_n hx hb dX1_readNumber_19 rfl (lv_at hl 0 rfl) ?_
        refine lv_bipush (v := 48) hx hb dX1_readNumber_20 (by decide) ?_
        refine lv_bipush (v := 57) hx hb dX1_readNumber_22 (by decide) ?_
        refine ro_V S hkx (mX1_isNextWithin l (lo := 48) (hi := 57) (hP := hP) (hL := (by omega)) (hcu := (by omega))) gX1_readNumber_X1_isNextWithin rfl idX1_isNextWithin ⟨Nat.le_of_ble_eq_true rfl, Nat.le_of_ble_eq_true rfl⟩ hP 2 rfl rfl rfl rfl hl.1 rfl (Nat.le_of_ble_eq_true rfl) dX1_readNumber_24 ⟨Nat.le_of_ble_eq_true rfl, Nat.le_of_ble_eq_true rfl⟩ (fun r_4 hr_4 => ?_)
        subst hr_4
        rw [isN_chr (by decide)]
        refine lv_if_eq (tgt := 82) hx hb dX1_readNumber_27 (by decide) (fun c_5 => ?_) (fun c_5 => ?_)
        · replace c_5 := bI_e0 c_5
          have hru := ru_end (tx := tx) (L := L) (p := cu) (k := kz) (j := j) (by omega) hall (by first | exact Or.inl (by omega) | exact Or.inr (isG_no (by omega) 9) | exact Or.inr (by rw [isG9]; assumption))
          obtain ⟨hnB, hnE⟩ := num_of (lo := lo) hru
          refine lv_aload_n hx hb dX1_readNumber_82 rfl (lv_at hl 0 rfl) ?_
          refine va_get (D := G) (ci := 1) (C := RX1) (T := TX1) (N := 7) hx hb hts iX1 hown hkx.1 hP 2 rfl rfl 2 (by decide) k19 (fun _ h9 => h9) rfl dX1_readNumber_83 ?_
          refine lv_iload_n hx hb dX1_readNumber_86 rfl (lv_at hl 3 rfl) ?_
          refine lv_icmp_ne (tgt := 99) hx hb dX1_readNumber_87 (by decide) (fun c_6 => ?_) (fun c_6 => ?_)
          · replace c_6 := cn_ne (a := (cu + j)) (b := cu) (by omega) (by omega) c_6
            refine lv_iload hx hb dX1_readNumber_99 (lv_at hl 4 rfl) ?_
            refine lv_iload_n hx hb dX1_readNumber_101 rfl (lv_at hl 2 rfl) ?_
            refine lv_icmp_ge (tgt := 111) hx hb dX1_readNumber_102 (by decide) (fun c_7 => ?_) (fun c_7 => ?_)
            · have c_7n := Int32.not_lt.mpr c_7
              refine lv_aload_n hx hb dX1_readNumber_111 rfl (lv_at hl 0 rfl) ?_
              refine lv_iload hx hb dX1_readNumber_112 (lv_at hl 4 rfl) ?_
              refine mu_V S hkx (mX1_keep l (hP := hP) (hD := hD.weaken (fun _ _ _ _ => trivial)) (q := q) (a := a) (N := N) (Z := Z) (b := b) (M := M) (Y := Y) (sc := sc) (tx := tx) (L := L) (cu := (cu + j)) (er := er) (le := le) (nb := nb) (nc := nc) (x := (vn tx cu j)) (hnc := (by omega))) gX1_readNumber_X1_keep rfl idX1_keep ⟨Nat.le_of_ble_eq_true rfl, Nat.le_of_ble_eq_true rfl⟩ hP 2 rfl rfl rfl rfl hl.1 rfl (Nat.le_of_ble_eq_true rfl) dX1_readNumber_114 ⟨Nat.le_of_ble_eq_true rfl, Nat.le_of_ble_eq_true rfl⟩ hS (fr_in hD (fun q h => hA q (Nat.le_trans hS.1 h))) (fun v H locs hp9 hz1 hk1 hS => ?_)
              obtain ⟨rfl, hP⟩ := hp9
              have hP : va_P G vwCl (wMain T q a N Z b M Y sc tx L (cu + j) er le (upd nb nc (vn tx cu j)) (nc + 1)) H := hP
              have hD : va_D A (wMain T q a N Z b M Y sc tx L (cu + j) er le (upd nb nc (vn tx cu j)) (nc + 1)) := D_perm hD (List.Perm.refl _)
              refine W.eq (g2 := F0 m 117 ls []) rfl ?_
              refine lv_iconst (v := 1) hx hb dX1_readNumber_117 (by decide) ?_
              have hgg : isG tx L (cu + j) 9 = false := (by first | exact isG_no (by omega) 9 | (rw [isG9]; assumption))
              have hnb : numB tx L kz lo cu = true := by rw [hnB, decide_eq_false (show ¬ j = 0 by omega), hgg, decide_eq_false (show ¬ vn tx cu j < lo by assumption)]; rfl
              exact hret _ _ _ _ _ (show some (Value.int 1) = some (Value.int (bI (numB tx L kz lo cu))) ∧ va_P G vwCl (wMain T q a N Z b M Y sc tx L (cu + ru tx L kz cu) (if numB tx L kz lo cu = true then er else (nI (numE tx L kz cu))) le (if numB tx L kz lo cu = true then upd nb nc (vn tx cu (ru tx L kz cu)) else nb) (if numB tx L kz lo cu = true then nc + 1 else nc)) H from ⟨by rw [hnb]; rfl, (by rw [if_pos hnb, if_pos hnb, if_pos hnb, hru]; exact hP)⟩) rfl hS dX1_readNumber_118
            · have c_7n := Int32.not_le.mp c_7
              refine lv_aload_n hx hb dX1_readNumber_105 rfl (lv_at hl 0 rfl) ?_
              refine lv_iload_n hx hb dX1_readNumber_106 rfl (lv_at hl 3 rfl) ?_
              refine mu_V S hkx (mX1_fail l (hP := hP) (hD := hD.weaken (fun _ _ _ _ => trivial)) (q := q) (a := a) (N := N) (Z := Z) (b := b) (M := M) (Y := Y) (sc := sc) (tx := tx) (L := L) (cu := (cu + j)) (er := er) (le := le) (nb := nb) (nc := nc) (k := cu)) gX1_readNumber_X1_fail rfl idX1_fail ⟨Nat.le_of_ble_eq_true rfl, Nat.le_of_ble_eq_true rfl⟩ hP 2 rfl rfl rfl rfl hl.1 rfl (Nat.le_of_ble_eq_true rfl) dX1_readNumber_107 ⟨Nat.le_of_ble_eq_true rfl, Nat.le_of_ble_eq_true rfl⟩ hS (fr_in hD (fun q h => hA q (Nat.le_trans hS.1 h))) (fun v H locs hp9 hz1 hk1 hS => ?_)
              obtain ⟨rfl, hP⟩ := hp9
              have hP : va_P G vwCl (wMain T q a N Z b M Y sc tx L (cu + j) (nI cu) le nb nc) H := hP
              have hD : va_D A (wMain T q a N Z b M Y sc tx L (cu + j) (nI cu) le nb nc) := D_perm hD (List.Perm.refl _)
              refine W.eq (g2 := F0 m 110 ls [.int 0]) rfl ?_
              have hgg : isG tx L (cu + j) 9 = false := (by first | exact isG_no (by omega) 9 | (rw [isG9]; assumption))
              have hnb : ¬ numB tx L kz lo cu = true := by rw [hnB, decide_eq_true (show vn tx cu j < lo by assumption)]; simp
              exact hret _ _ _ _ _ (show some (Value.int 0) = some (Value.int (bI (numB tx L kz lo cu))) ∧ va_P G vwCl (wMain T q a N Z b M Y sc tx L (cu + ru tx L kz cu) (if numB tx L kz lo cu = true then er else (nI (numE tx L kz cu))) le (if numB tx L kz lo cu = true then upd nb nc (vn tx cu (ru tx L kz cu)) else nb) (if numB tx L kz lo cu = true then nc + 1 else nc)) H from ⟨by rw [Bool.eq_false_iff.mpr hnb]; rfl, (by rw [if_neg hnb, if_neg hnb, if_neg hnb, hnE, hgg, hru]; exact hP)⟩) rfl hS dX1_readNumber_110
          · replace c_6 := cn_eq (a := (cu + j)) (b := cu) (by omega) (by omega) c_6
            refine lv_aload_n hx hb dX1_readNumber_90 rfl (lv_at hl 0 rfl) ?_
            refine lv_aload_n hx hb dX1_readNumber_91 rfl (lv_at hl 0 rfl) ?_
            refine va_get (D := G) (ci := 1) (C := RX1) (T := TX1) (N := 7) hx hb hts iX1 hown hkx.1 hP 2 rfl rfl 2 (by decide) k19 (fun _ h9 => h9) rfl dX1_readNumber_92 ?_
            refine mu_V S hkx (mX1_fail l (hP := hP) (hD := hD.weaken (fun _ _ _ _ => trivial)) (q := q) (a := a) (N := N) (Z := Z) (b := b) (M := M) (Y := Y) (sc := sc) (tx := tx) (L := L) (cu := (cu + j)) (er := er) (le := le) (nb := nb) (nc := nc) (k := (cu + j))) gX1_readNumber_X1_fail rfl idX1_fail ⟨Nat.le_of_ble_eq_true rfl, Nat.le_of_ble_eq_true rfl⟩ hP 2 rfl rfl rfl rfl hl.1 rfl (Nat.le_of_ble_eq_true rfl) dX1_readNumber_95 ⟨Nat.le_of_ble_eq_true rfl, Nat.le_of_ble_eq_true rfl⟩ hS (fr_in hD (fun q h => hA q (Nat.le_trans hS.1 h))) (fun v H locs hp9 hz1 hk1 hS => ?_)
            obtain ⟨rfl, hP⟩ := hp9
            have hP : va_P G vwCl (wMain T q a N Z b M Y sc tx L (cu + j) (nI (cu + j)) le nb nc) H := hP
            have hD : va_D A (wMain T q a N Z b M Y sc tx L (cu + j) (nI (cu + j)) le nb nc) := D_perm hD (List.Perm.refl _)
            refine W.eq (g2 := F0 m 98 ls [.int 0]) rfl ?_
            have hgg : isG tx L (cu + j) 9 = false := (by first | exact isG_no (by omega) 9 | (rw [isG9]; assumption))
            have hnb : ¬ numB tx L kz lo cu = true := by rw [hnB, decide_eq_true (show j = 0 by omega)]; simp
            exact hret _ _ _ _ _ (show some (Value.int 0) = some (Value.int (bI (numB tx L kz lo cu))) ∧ va_P G vwCl (wMain T q a N Z b M Y sc tx L (cu + ru tx L kz cu) (if numB tx L kz lo cu = true then er else (nI (numE tx L kz cu))) le (if numB tx L kz lo cu = true then upd nb nc (vn tx cu (ru tx L kz cu)) else nb) (if numB tx L kz lo cu = true then nc + 1 else nc)) H from ⟨by rw [Bool.eq_false_iff.mpr hnb]; rfl, (by rw [if_neg hnb, if_neg hnb, if_neg hnb, hnE, hgg, hru]; have h0 : j = 0 := (by omega); subst h0; exact hP)⟩) rfl hS dX1_readNumber_98
        · replace c_5 := bI_n0 c_5
          have hgj : isG tx L (cu + j) 9 = true := by rw [isG9]; assumption
          have hlt := chr_lt hgj
          refine lv_aload_n hx hb dX1_readNumber_30 rfl (lv_at hl 0 rfl) ?_
          refine va_get (D := G) (ci := 1) (C := RX1) (T := TX1) (N := 7) hx hb hts iX1 hown hkx.1 hP 2 rfl rfl 2 (by decide) k19 (fun _ h9 => h9) rfl dX1_readNumber_31 ?_
          refine lv_iload_n hx hb dX1_readNumber_34 rfl (lv_at hl 3 rfl) ?_
          refine lv_isub hx hb dX1_readNumber_35 ?_
          rw [show ((nI (cu + j)) - (nI cu)) = (nI ((cu + j) - cu)) from pk_sub (a := (cu + j)) (b := cu) (by omega)]
          refine lv_iload_n hx hb dX1_readNumber_36 rfl (lv_at hl 1 rfl) ?_
          refine lv_icmp_ne (tgt := 49) hx hb dX1_readNumber_37 (by decide) (fun c_8 => ?_) (fun c_8 => ?_)
          · replace c_8 := cn_ne (a := ((cu + j) - cu)) (b := kz) (by omega) (by omega) c_8
            refine lv_bipush (v := 10) hx hb dX1_readNumber_49 (by decide) ?_
            refine lv_iload hx hb dX1_readNumber_51 (lv_at hl 4 rfl) ?_
            refine lv_imul hx hb dX1_readNumber_53 ?_
            refine lv_aload_n hx hb dX1_readNumber_54 rfl (lv_at hl 0 rfl) ?_
            refine va_get (D := G) (ci := 1) (C := RX1) (T := TX1) (N := 7) hx hb hts iX1 hown hkx.1 hP 2 rfl rfl 0 (by decide) k9 (fun _ h9 => h9) rfl dX1_readNumber_55 ?_
            refine lv_aload_n hx hb dX1_readNumber_58 rfl (lv_at hl 0 rfl) ?_
            refine va_get (D := G) (ci := 1) (C := RX1) (T := TX1) (N := 7) hx hb hts iX1 hown hkx.1 hP 2 rfl rfl 2 (by decide) k19 (fun _ h9 => h9) rfl dX1_readNumber_59 ?_
            refine ba hx hb hkx hP 3 rfl (cu + j) rfl (by omega) (by decide) dX1_readNumber_62 ?_
            refine lv_iadd hx hb dX1_readNumber_63 ?_
            refine lv_bipush (v := 48) hx hb dX1_readNumber_64 (by decide) ?_
            refine lv_isub hx hb dX1_readNumber_66 ?_
            refine W.eq (g2 := F0 m 67 ls [.int (vn tx cu (j + 1))]) rfl ?_
            refine lv_istore (lv' := [(4, .int (vn tx cu (j + 1))), (0, .ref (q 2)), (1, .int (nI kz)), (2, .int lo), (3, .int (nI cu))]) hx hb dX1_readNumber_67 hl (by decide) rfl (fun ls hl => ?_)
            refine lv_aload_n hx hb dX1_readNumber_69 rfl (lv_at hl 1 rfl) ?_
            refine lv_dup hx hb dX1_readNumber_70 rfl ?_
            refine va_get (D := G) (ci := 1) (C := RX1) (T := TX1) (N := 7) hx hb hts iX1 hown hkx.1 hP 2 rfl rfl 2 (by decide) k19 (fun _ h9 => h9) rfl dX1_readNumber_71 ?_
            refine lv_iconst (v := 1) hx hb dX1_readNumber_74 (by decide) ?_
            refine lv_iadd hx hb dX1_readNumber_75 ?_
            rw [show ((nI (cu + j)) + 1) = (nI ((cu + j) + 1)) from nI_add (cu + j) 1]
            refine va_put (D := G) (ci := 1) (v := .int (nI ((cu + j) + 1))) (ty := .int) (C := RX1) (T := TX1) (N := 7) hx hb hts iX1 tyX1 tyX1_ok nmX1 hown hkx.1 hP hD hS 2 rfl rfl 2 (by decide) k19 (fun _ h9 => h9) rfl (by decide +kernel) rfl rfl (Nat.le_of_ble_eq_true rfl) dX1_readNumber_76 (fun H locs hP hD hS => ?_)
            have hP : va_P G vwCl (wMain T q a N Z b M Y sc tx L ((cu + j) + 1) er le nb nc) H := hP
            have hD : va_D A (wMain T q a N Z b M Y sc tx L ((cu + j) + 1) er le nb nc) := hD
            have hP : va_P G vwCl (wMain T q a N Z b M Y sc tx L (cu + (j + 1)) er le nb nc) H := hP
            have hD : va_D A (wMain T q a N Z b M Y sc tx L (cu + (j + 1)) er le nb nc) := hD
            refine lv_goto (tgt := 8) hx hb dX1_readNumber_79 (by decide) ?_
            exact ih8 (j + 1) (by omega) (by omega) (by omega) (by intro i hi; rcases Nat.lt_or_ge i j with h9 | h9; exact hall i h9; obtain rfl : i = j := (by omega); exact hgj) _ _ hP hD hS _ (lv_sub hl [1, 2, 3, 4, 0] rfl)
          · replace c_8 := cn_eq (a := ((cu + j) - cu)) (b := kz) (by omega) (by omega) c_8
            refine lv_aload_n hx hb dX1_readNumber_40 rfl (lv_at hl 0 rfl) ?_
            refine lv_aload_n hx hb dX1_readNumber_41 rfl (lv_at hl 0 rfl) ?_
            refine va_get (D := G) (ci := 1) (C := RX1) (T := TX1) (N := 7) hx hb hts iX1 hown hkx.1 hP 2 rfl rfl 2 (by decide) k19 (fun _ h9 => h9) rfl dX1_readNumber_42 ?_
            refine mu_V S hkx (mX1_fail l (hP := hP) (hD := hD.weaken (fun _ _ _ _ => trivial)) (q := q) (a := a) (N := N) (Z := Z) (b := b) (M := M) (Y := Y) (sc := sc) (tx := tx) (L := L) (cu := (cu + j)) (er := er) (le := le) (nb := nb) (nc := nc) (k := (cu + j))) gX1_readNumber_X1_fail rfl idX1_fail ⟨Nat.le_of_ble_eq_true rfl, Nat.le_of_ble_eq_true rfl⟩ hP 2 rfl rfl rfl rfl hl.1 rfl (Nat.le_of_ble_eq_true rfl) dX1_readNumber_45 ⟨Nat.le_of_ble_eq_true rfl, Nat.le_of_ble_eq_true rfl⟩ hS (fr_in hD (fun q h => hA q (Nat.le_trans hS.1 h))) (fun v H locs hp9 hz1 hk1 hS => ?_)
            obtain ⟨rfl, hP⟩ := hp9
            have hP : va_P G vwCl (wMain T q a N Z b M Y sc tx L (cu + j) (nI (cu + j)) le nb nc) H := hP
            have hD : va_D A (wMain T q a N Z b M Y sc tx L (cu + j) (nI (cu + j)) le nb nc) := D_perm hD (List.Perm.refl _)
            refine W.eq (g2 := F0 m 48 ls [.int 0]) rfl ?_
            have hru := ru_end (tx := tx) (L := L) (p := cu) (k := kz) (j := j) (by omega) hall (by first | exact Or.inl (by omega) | exact Or.inr (isG_no (by omega) 9) | exact Or.inr (by rw [isG9]; assumption))
            obtain ⟨hnB, hnE⟩ := num_of (lo := lo) hru
            have hgg : isG tx L (cu + j) 9 = true := (by rw [isG9]; assumption)
            have hnb : ¬ numB tx L kz lo cu = true := by rw [hnB, hgg]; simp
            exact hret _ _ _ _ _ (show some (Value.int 0) = some (Value.int (bI (numB tx L kz lo cu))) ∧ va_P G vwCl (wMain T q a N Z b M Y sc tx L (cu + ru tx L kz cu) (if numB tx L kz lo cu = true then er else (nI (numE tx L kz cu))) le (if numB tx L kz lo cu = true then upd nb nc (vn tx cu (ru tx L kz cu)) else nb) (if numB tx L kz lo cu = true then nc + 1 else nc)) H from ⟨by rw [Bool.eq_false_iff.mpr hnb]; rfl, (by rw [if_neg hnb, if_neg hnb, if_neg hnb, hnE, hgg, hru]; exact hP)⟩) rfl hS dX1_readNumber_48
  exact L8 _ 0 (Nat.lt_succ_self _) (by omega) (by omega) (by intro i hi; exact absurd hi (Nat.not_lt_zero i)) _ _ hP hD hS _ (lv_sub hl [2, 3, 4, 1, 0] rfl)
