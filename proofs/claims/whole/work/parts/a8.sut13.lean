theorem idX1_readPart : yX1_readPart.cls = RX1 ∧ yX1_readPart.cls ≠ "java/lang/invoke/MethodHandle" ∧ yX1_readPart.cls ≠ "java/lang/invoke/VarHandle" ∧ (parseMethodDescriptor yX1_readPart.desc).map (fun d => d.parameters.length) = some 1 := by decide +kernel

set_option maxHeartbeats 4000000 in
set_option maxRecDepth 100000 in
theorem mX1_readPart_n (l : Launch) {G : va_G} {T : Nat → ClassId} {H0 : Heap} {q : Nat → Nat} {a : Nat → Nat} {N : Nat → Nat} {Z : Nat → Nat → Int32} {b : Nat → Nat → Nat} {M : Nat → Nat → Nat} {Y : Nat → Nat → Nat → Int32} {sc : Nat} {tx : Nat → Int32} {L : Nat} {cu : Nat} {er : Int32} {le : Int32} {nb : Nat → Int32} {nc : Nat} (hP : va_P G vwCl (wMain T q a N Z b M Y sc tx L cu er le nb nc) H0) (hD : va_D (fun _ => True) (wMain T q a N Z b M Y sc tx L cu er le nb nc)) (hL : L ≤ 100) (hcu : cu ≤ L) (hnc : nc < 5) : mu l yX1_readPart wsX1_readPart 2 43 [.ref (q 2), .int 110] G T H0 (wMain T q a N Z b M Y sc tx L cu er le nb nc) (fun v9 H9 => v9 = some (.int (bI (isW (chr tx L cu) 48 57))) ∧ va_P G vwCl (wMain T q a N Z b M Y sc tx L (if isW (chr tx L cu) 48 57 = true then cu + 1 else cu) (if isW (chr tx L cu) 48 57 = true then er else (nI cu)) le (if isW (chr tx L cu) 48 57 = true then upd nb nc (tx cu - 48) else nb) (if isW (chr tx L cu) 48 57 = true then nc + 1 else nc)) H9) := by
  refine mu_ofi (cc := cX1_readPart) (maxL := 2) (ret := .boolean) (own := RX1) (by decide +kernel) rfl rfl (Nat.le_of_ble_eq_true rfl) hD ?_
  intro p e s m below meth c Q ls A S hkx hl hD hS hA hret
  obtain ⟨hx, hb, hml, hown, hts⟩ := id S
  have hl : lv_has ls 2 [(0, .ref (q 2)), (1, .int 110)] := hl
  refine lv_iload_n hx hb dX1_readPart_0 rfl (lv_at hl 1 rfl) ?_
  refine lv_lookup (off := 51) (tgt := 52) hx hb dX1_readPart_1 (by decide) (by decide) (by decide) ?_
  refine lv_aload_n hx hb dX1_readPart_52 rfl (lv_at hl 0 rfl) ?_
  refine lv_bipush (v := 57) hx hb dX1_readPart_53 (by decide) ?_
  refine mu_V S hkx (mX1_readDigit l (hP := hP) (hD := hD.weaken (fun _ _ _ _ => trivial)) (q := q) (a := a) (N := N) (Z := Z) (b := b) (M := M) (Y := Y) (sc := sc) (tx := tx) (L := L) (cu := cu) (er := er) (le := le) (nb := nb) (nc := nc) (hi := 57) (hL := (by omega)) (hcu := (by omega)) (hnc := (by omega)) (hne := (by decide))) gX1_readPart_X1_readDigit rfl idX1_readDigit ⟨Nat.le_of_ble_eq_true rfl, Nat.le_of_ble_eq_true rfl⟩ hP 2 rfl rfl rfl rfl hl.1 rfl (Nat.le_of_ble_eq_true rfl) dX1_readPart_55 ⟨Nat.le_of_ble_eq_true rfl, Nat.le_of_ble_eq_true rfl⟩ hS (fr_in hD (fun q h => hA q (Nat.le_trans hS.1 h))) (fun v H locs hp9 hz1 hk1 hS => ?_)
  obtain ⟨rfl, hP⟩ := hp9
  have hP : va_P G vwCl (wMain T q a N Z b M Y sc tx L (if isW (chr tx L cu) 48 57 = true then cu + 1 else cu) (if isW (chr tx L cu) 48 57 = true then er else (nI cu)) le (if isW (chr tx L cu) 48 57 = true then upd nb nc (tx cu - 48) else nb) (if isW (chr tx L cu) 48 57 = true then nc + 1 else nc)) H := hP
  have hD : va_D A (wMain T q a N Z b M Y sc tx L (if isW (chr tx L cu) 48 57 = true then cu + 1 else cu) (if isW (chr tx L cu) 48 57 = true then er else (nI cu)) le (if isW (chr tx L cu) 48 57 = true then upd nb nc (tx cu - 48) else nb) (if isW (chr tx L cu) 48 57 = true then nc + 1 else nc)) := D_perm hD (List.Perm.refl _)
  refine W.eq (g2 := F0 m 58 ls [.int (bI (isW (chr tx L cu) 48 57))]) rfl ?_
  exact hret _ _ _ _ _ (show some (Value.int (bI (isW (chr tx L cu) 48 57))) = some (Value.int (bI (isW (chr tx L cu) 48 57))) ∧ va_P G vwCl (wMain T q a N Z b M Y sc tx L (if isW (chr tx L cu) 48 57 = true then cu + 1 else cu) (if isW (chr tx L cu) 48 57 = true then er else (nI cu)) le (if isW (chr tx L cu) 48 57 = true then upd nb nc (tx cu - 48) else nb) (if isW (chr tx L cu) 48 57 = true then nc + 1 else nc)) H from ⟨rfl, hP⟩) (bI_nar rfl) hS dX1_readPart_58

set_option maxHeartbeats 4000000 in
set_option maxRecDepth 100000 in
theorem mX1_readPart_v (l : Launch) {G : va_G} {T : Nat → ClassId} {H0 : Heap} {q : Nat → Nat} {a : Nat → Nat} {N : Nat → Nat} {Z : Nat → Nat → Int32} {b : Nat → Nat → Nat} {M : Nat → Nat → Nat} {Y : Nat → Nat → Nat → Int32} {sc : Nat} {tx : Nat → Int32} {L : Nat} {cu : Nat} {er : Int32} {le : Int32} {nb : Nat → Int32} {nc : Nat} (hP : va_P G vwCl (wMain T q a N Z b M Y sc tx L cu er le nb nc) H0) (hD : va_D (fun _ => True) (wMain T q a N Z b M Y sc tx L cu er le nb nc)) (hL : L ≤ 100) (hcu : cu ≤ L) (hnc : nc < 5) : mu l yX1_readPart wsX1_readPart 2 43 [.ref (q 2), .int 118] G T H0 (wMain T q a N Z b M Y sc tx L cu er le nb nc) (fun v9 H9 => v9 = some (.int (bI (isW (chr tx L cu) 48 55))) ∧ va_P G vwCl (wMain T q a N Z b M Y sc tx L (if isW (chr tx L cu) 48 55 = true then cu + 1 else cu) (if isW (chr tx L cu) 48 55 = true then er else (nI cu)) le (if isW (chr tx L cu) 48 55 = true then upd nb nc (tx cu - 48) else nb) (if isW (chr tx L cu) 48 55 = true then nc + 1 else nc)) H9) := by
  refine mu_ofi (cc := cX1_readPart) (maxL := 2) (ret := .boolean) (own := RX1) (by decide +kernel) rfl rfl (Nat.le_of_ble_eq_true rfl) hD ?_
  intro p e s m below meth c Q ls A S hkx hl hD hS hA hret
  obtain ⟨hx, hb, hml, hown, hts⟩ := id S
  have hl : lv_has ls 2 [(0, .ref (q 2)), (1, .int 118)] := hl
  refine lv_iload_n hx hb dX1_readPart_0 rfl (lv_at hl 1 rfl) ?_
  refine lv_lookup (off := 58) (tgt := 59) hx hb dX1_readPart_1 (by decide) (by decide) (by decide) ?_
  refine lv_aload_n hx hb dX1_readPart_59 rfl (lv_at hl 0 rfl) ?_
  refine lv_bipush (v := 55) hx hb dX1_readPart_60 (by decide) ?_
  refine mu_V S hkx (mX1_readDigit l (hP := hP) (hD := hD.weaken (fun _ _ _ _ => trivial)) (q := q) (a := a) (N := N) (Z := Z) (b := b) (M := M) (Y := Y) (sc := sc) (tx := tx) (L := L) (cu := cu) (er := er) (le := le) (nb := nb) (nc := nc) (hi := 55) (hL := (by omega)) (hcu := (by omega)) (hnc := (by omega)) (hne := (by decide))) gX1_readPart_X1_readDigit rfl idX1_readDigit ⟨Nat.le_of_ble_eq_true rfl, Nat.le_of_ble_eq_true rfl⟩ hP 2 rfl rfl rfl rfl hl.1 rfl (Nat.le_of_ble_eq_true rfl) dX1_readPart_62 ⟨Nat.le_of_ble_eq_true rfl, Nat.le_of_ble_eq_true rfl⟩ hS (fr_in hD (fun q h => hA q (Nat.le_trans hS.1 h))) (fun v H locs hp9 hz1 hk1 hS => ?_)
  obtain ⟨rfl, hP⟩ := hp9
  have hP : va_P G vwCl (wMain T q a N Z b M Y sc tx L (if isW (chr tx L cu) 48 55 = true then cu + 1 else cu) (if isW (chr tx L cu) 48 55 = true then er else (nI cu)) le (if isW (chr tx L cu) 48 55 = true then upd nb nc (tx cu - 48) else nb) (if isW (chr tx L cu) 48 55 = true then nc + 1 else nc)) H := hP
  have hD : va_D A (wMain T q a N Z b M Y sc tx L (if isW (chr tx L cu) 48 55 = true then cu + 1 else cu) (if isW (chr tx L cu) 48 55 = true then er else (nI cu)) le (if isW (chr tx L cu) 48 55 = true then upd nb nc (tx cu - 48) else nb) (if isW (chr tx L cu) 48 55 = true then nc + 1 else nc)) := D_perm hD (List.Perm.refl _)
  refine W.eq (g2 := F0 m 65 ls [.int (bI (isW (chr tx L cu) 48 55))]) rfl ?_
  exact hret _ _ _ _ _ (show some (Value.int (bI (isW (chr tx L cu) 48 55))) = some (Value.int (bI (isW (chr tx L cu) 48 55))) ∧ va_P G vwCl (wMain T q a N Z b M Y sc tx L (if isW (chr tx L cu) 48 55 = true then cu + 1 else cu) (if isW (chr tx L cu) 48 55 = true then er else (nI cu)) le (if isW (chr tx L cu) 48 55 = true then upd nb nc (tx cu - 48) else nb) (if isW (chr tx L cu) 48 55 = true then nc + 1 else nc)) H from ⟨rfl, hP⟩) (bI_nar rfl) hS dX1_readPart_65

set_option maxHeartbeats 4000000 in
set_option maxRecDepth 100000 in
theorem mX1_readPart_d (l : Launch) {G : va_G} {T : Nat → ClassId} {H0 : Heap} {q : Nat → Nat} {a : Nat → Nat} {N : Nat → Nat} {Z : Nat → Nat → Int32} {b : Nat → Nat → Nat} {M : Nat → Nat → Nat} {Y : Nat → Nat → Nat → Int32} {sc : Nat} {tx : Nat → Int32} {L : Nat} {cu : Nat} {er : Int32} {le : Int32} {nb : Nat → Int32} {nc : Nat} (hP : va_P G vwCl (wMain T q a N Z b M Y sc tx L cu er le nb nc) H0) (hD : va_D (fun _ => True) (wMain T q a N Z b M Y sc tx L cu er le nb nc)) (hL : L ≤ 100) (hcu : cu ≤ L) (hnc : nc < 5) : mu l yX1_readPart wsX1_readPart 2 46 [.ref (q 2), .int 100] G T H0 (wMain T q a N Z b M Y sc tx L cu er le nb nc) (fun v9 H9 => v9 = some (.int (bI (numB tx L 3 0 cu))) ∧ va_P G vwCl (wMain T q a N Z b M Y sc tx L (cu + ru tx L 3 cu) (if numB tx L 3 0 cu = true then er else (nI (numE tx L 3 cu))) le (if numB tx L 3 0 cu = true then upd nb nc (vn tx cu (ru tx L 3 cu)) else nb) (if numB tx L 3 0 cu = true then nc + 1 else nc)) H9) := by
  refine mu_ofi (cc := cX1_readPart) (maxL := 2) (ret := .boolean) (own := RX1) (by decide +kernel) rfl rfl (Nat.le_of_ble_eq_true rfl) hD ?_
  intro p e s m below meth c Q ls A S hkx hl hD hS hA hret
  obtain ⟨hx, hb, hml, hown, hts⟩ := id S
  have hl : lv_has ls 2 [(0, .ref (q 2)), (1, .int 100)] := hl
  refine lv_iload_n hx hb dX1_readPart_0 rfl (lv_at hl 1 rfl) ?_
  refine lv_lookup (off := 65) (tgt := 66) hx hb dX1_readPart_1 (by decide) (by decide) (by decide) ?_
  refine lv_aload_n hx hb dX1_readPart_66 rfl (lv_at hl 0 rfl) ?_
  refine lv_iconst (v := 3) hx hb dX1_readPart_67 (by decide) ?_
  refine lv_iconst (v := 0) hx hb dX1_readPart_68 (by decide) ?_
  refine mu_V S hkx (mX1_readNumber l (hP := hP) (hD := hD.weaken (fun _ _ _ _ => trivial)) (q := q) (a := a) (N := N) (Z := Z) (b := b) (M := M) (Y := Y) (sc := sc) (tx := tx) (L := L) (cu := cu) (er := er) (le := le) (nb := nb) (nc := nc) (kz := 3) (lo := 0) (hL := (by omega)) (hcu := (by omega)) (hnc := (by omega)) (hk1 := (by decide)) (hk3 := (by decide))) gX1_readPart_X1_readNumber rfl idX1_readNumber ⟨Nat.le_of_ble_eq_true rfl, Nat.le_of_ble_eq_true rfl⟩ hP 2 rfl rfl rfl rfl hl.1 rfl (Nat.le_of_ble_eq_true rfl) dX1_readPart_69 ⟨Nat.le_of_ble_eq_true rfl, Nat.le_of_ble_eq_true rfl⟩ hS (fr_in hD (fun q h => hA q (Nat.le_trans hS.1 h))) (fun v H locs hp9 hz1 hk1 hS => ?_)
  obtain ⟨rfl, hP⟩ := hp9
  have hP : va_P G vwCl (wMain T q a N Z b M Y sc tx L (cu + ru tx L 3 cu) (if numB tx L 3 0 cu = true then er else (nI (numE tx L 3 cu))) le (if numB tx L 3 0 cu = true then upd nb nc (vn tx cu (ru tx L 3 cu)) else nb) (if numB tx L 3 0 cu = true then nc + 1 else nc)) H := hP
  have hD : va_D A (wMain T q a N Z b M Y sc tx L (cu + ru tx L 3 cu) (if numB tx L 3 0 cu = true then er else (nI (numE tx L 3 cu))) le (if numB tx L 3 0 cu = true then upd nb nc (vn tx cu (ru tx L 3 cu)) else nb) (if numB tx L 3 0 cu = true then nc + 1 else nc)) := D_perm hD (List.Perm.refl _)
  refine W.eq (g2 := F0 m 72 ls [.int (bI (numB tx L 3 0 cu))]) rfl ?_
  exact hret _ _ _ _ _ (show some (Value.int (bI (numB tx L 3 0 cu))) = some (Value.int (bI (numB tx L 3 0 cu))) ∧ va_P G vwCl (wMain T q a N Z b M Y sc tx L (cu + ru tx L 3 cu) (if numB tx L 3 0 cu = true then er else (nI (numE tx L 3 cu))) le (if numB tx L 3 0 cu = true then upd nb nc (vn tx cu (ru tx L 3 cu)) else nb) (if numB tx L 3 0 cu = true then nc + 1 else nc)) H from ⟨rfl, hP⟩) (bI_nar rfl) hS dX1_readPart_72

set_option maxHeartbeats 4000000 in
set_option maxRecDepth 100000 in
theorem mX1_readPart_m (l : Launch) {G : va_G} {T : Nat → ClassId} {H0 : Heap} {q : Nat → Nat} {a : Nat → Nat} {N : Nat → Nat} {Z : Nat → Nat → Int32} {b : Nat → Nat → Nat} {M : Nat → Nat → Nat} {Y : Nat → Nat → Nat → Int32} {sc : Nat} {tx : Nat → Int32} {L : Nat} {cu : Nat} {er : Int32} {le : Int32} {nb : Nat → Int32} {nc : Nat} (hP : va_P G vwCl (wMain T q a N Z b M Y sc tx L cu er le nb nc) H0) (hD : va_D (fun _ => True) (wMain T q a N Z b M Y sc tx L cu er le nb nc)) (hL : L ≤ 100) (hcu : cu ≤ L) (hnc : nc < 5) : mu l yX1_readPart wsX1_readPart 2 46 [.ref (q 2), .int 109] G T H0 (wMain T q a N Z b M Y sc tx L cu er le nb nc) (fun v9 H9 => v9 = some (.int (bI (numB tx L 2 1 cu))) ∧ va_P G vwCl (wMain T q a N Z b M Y sc tx L (cu + ru tx L 2 cu) (if numB tx L 2 1 cu = true then er else (nI (numE tx L 2 cu))) le (if numB tx L 2 1 cu = true then upd nb nc (vn tx cu (ru tx L 2 cu)) else nb) (if numB tx L 2 1 cu = true then nc + 1 else nc)) H9) := by
  refine mu_ofi (cc := cX1_readPart) (maxL := 2) (ret := .boolean) (own := RX1) (by decide +kernel) rfl rfl (Nat.le_of_ble_eq_true rfl) hD ?_
  intro p e s m below meth c Q ls A S hkx hl hD hS hA hret
  obtain ⟨hx, hb, hml, hown, hts⟩ := id S
  have hl : lv_has ls 2 [(0, .ref (q 2)), (1, .int 109)] := hl
  refine lv_iload_n hx hb dX1_readPart_0 rfl (lv_at hl 1 rfl) ?_
  refine lv_lookup (off := 72) (tgt := 73) hx hb dX1_readPart_1 (by decide) (by decide) (by decide) ?_
  refine lv_aload_n hx hb dX1_readPart_73 rfl (lv_at hl 0 rfl) ?_
  refine lv_iconst (v := 2) hx hb dX1_readPart_74 (by decide) ?_
  refine lv_iconst (v := 1) hx hb dX1_readPart_75 (by decide) ?_
  refine mu_V S hkx (mX1_readNumber l (hP := hP) (hD := hD.weaken (fun _ _ _ _ => trivial)) (q := q) (a := a) (N := N) (Z := Z) (b := b) (M := M) (Y := Y) (sc := sc) (tx := tx) (L := L) (cu := cu) (er := er) (le := le) (nb := nb) (nc := nc) (kz := 2) (lo := 1) (hL := (by omega)) (hcu := (by omega)) (hnc := (by omega)) (hk1 := (by decide)) (hk3 := (by decide))) gX1_readPart_X1_readNumber rfl idX1_readNumber ⟨Nat.le_of_ble_eq_true rfl, Nat.le_of_ble_eq_true rfl⟩ hP 2 rfl rfl rfl rfl hl.1 rfl (Nat.le_of_ble_eq_true rfl) dX1_readPart_76 ⟨Nat.le_of_ble_eq_true rfl, Nat.le_of_ble_eq_true rfl⟩ hS (fr_in hD (fun q h => hA q (Nat.le_trans hS.1 h))) (fun v H locs hp9 hz1 hk1 hS => ?_)
  obtain ⟨rfl, hP⟩ := hp9
  have hP : va_P G vwCl (wMain T q a N Z b M Y sc tx L (cu + ru tx L 2 cu) (if numB tx L 2 1 cu = true then er else (nI (numE tx L 2 cu))) le (if numB tx L 2 1 cu = true then upd nb nc (vn tx cu (ru tx L 2 cu)) else nb) (if numB tx L 2 1 cu = true then nc + 1 else nc)) H := hP
  have hD : va_D A (wMain T q a N Z b M Y sc tx L (cu + ru tx L 2 cu) (if numB tx L 2 1 cu = true then er else (nI (numE tx L 2 cu))) le (if numB tx L 2 1 cu = true then upd nb nc (vn tx cu (ru tx L 2 cu)) else nb) (if numB tx L 2 1 cu = true then nc + 1 else nc)) := D_perm hD (List.Perm.refl _)
  refine W.eq (g2 := F0 m 79 ls [.int (bI (numB tx L 2 1 cu))]) rfl ?_
  exact hret _ _ _ _ _ (show some (Value.int (bI (numB tx L 2 1 cu))) = some (Value.int (bI (numB tx L 2 1 cu))) ∧ va_P G vwCl (wMain T q a N Z b M Y sc tx L (cu + ru tx L 2 cu) (if numB tx L 2 1 cu = true then er else (nI (numE tx L 2 cu))) le (if numB tx L 2 1 cu = true then upd nb nc (vn tx cu (ru tx L 2 cu)) else nb) (if numB tx L 2 1 cu = true then nc + 1 else nc)) H from ⟨rfl, hP⟩) (bI_nar rfl) hS dX1_readPart_79

set_option maxHeartbeats 4000000 in
set_option maxRecDepth 100000 in
theorem mX1_readPart_z (l : Launch) {G : va_G} {T : Nat → ClassId} {H0 : Heap} {q : Nat → Nat} {a : Nat → Nat} {N : Nat → Nat} {Z : Nat → Nat → Int32} {b : Nat → Nat → Nat} {M : Nat → Nat → Nat} {Y : Nat → Nat → Nat → Int32} {sc : Nat} {tx : Nat → Int32} {L : Nat} {cu : Nat} {er : Int32} {le : Int32} {nb : Nat → Int32} {nc : Nat} (hP : va_P G vwCl (wMain T q a N Z b M Y sc tx L cu er le nb nc) H0) (hD : va_D (fun _ => True) (wMain T q a N Z b M Y sc tx L cu er le nb nc)) (hL : L ≤ 100) (hcu : cu ≤ L) (hnc : nc < 5) : mu l yX1_readPart wsX1_readPart 2 46 [.ref (q 2), .int 122] G T H0 (wMain T q a N Z b M Y sc tx L cu er le nb nc) (fun v9 H9 => v9 = some (.int (bI (numB tx L 2 0 cu))) ∧ va_P G vwCl (wMain T q a N Z b M Y sc tx L (cu + ru tx L 2 cu) (if numB tx L 2 0 cu = true then er else (nI (numE tx L 2 cu))) le (if numB tx L 2 0 cu = true then upd nb nc (vn tx cu (ru tx L 2 cu)) else nb) (if numB tx L 2 0 cu = true then nc + 1 else nc)) H9) := by
  refine mu_ofi (cc := cX1_readPart) (maxL := 2) (ret := .boolean) (own := RX1) (by decide +kernel) rfl rfl (Nat.le_of_ble_eq_true rfl) hD ?_
  intro p e s m below meth c Q ls A S hkx hl hD hS hA hret
  obtain ⟨hx, hb, hml, hown, hts⟩ := id S
  have hl : lv_has ls 2 [(0, .ref (q 2)), (1, .int 122)] := hl
  refine lv_iload_n hx hb dX1_readPart_0 rfl (lv_at hl 1 rfl) ?_
  refine lv_lookup (off := 79) (tgt := 80) hx hb dX1_readPart_1 (by decide) (by decide) (by decide) ?_
  refine lv_aload_n hx hb dX1_readPart_80 rfl (lv_at hl 0 rfl) ?_
  refine lv_iconst (v := 2) hx hb dX1_readPart_81 (by decide) ?_
  refine lv_iconst (v := 0) hx hb dX1_readPart_82 (by decide) ?_
  refine mu_V S hkx (mX1_readNumber l (hP := hP) (hD := hD.weaken (fun _ _ _ _ => trivial)) (q := q) (a := a) (N := N) (Z := Z) (b := b) (M := M) (Y := Y) (sc := sc) (tx := tx) (L := L) (cu := cu) (er := er) (le := le) (nb := nb) (nc := nc) (kz := 2) (lo := 0) (hL := (by omega)) (hcu := (by omega)) (hnc := (by omega)) (hk1 := (by decide)) (hk3 := (by decide))) gX1_readPart_X1_readNumber rfl idX1_readNumber ⟨Nat.le_of_ble_eq_true rfl, Nat.le_of_ble_eq_true rfl⟩ hP 2 rfl rfl rfl rfl hl.1 rfl (Nat.le_of_ble_eq_true rfl) dX1_readPart_83 ⟨Nat.le_of_ble_eq_true rfl, Nat.le_of_ble_eq_true rfl⟩ hS (fr_in hD (fun q h => hA q (Nat.le_trans hS.1 h))) (fun v H locs hp9 hz1 hk1 hS => ?_)
  obtain ⟨rfl, hP⟩ := hp9
  have hP : va_P G vwCl (wMain T q a N Z b M Y sc tx L (cu + ru tx L 2 cu) (if numB tx L 2 0 cu = true then er else (nI (numE tx L 2 cu))) le (if numB tx L 2 0 cu = true then upd nb nc (vn tx cu (ru tx L 2 cu)) else nb) (if numB tx L 2 0 cu = true then nc + 1 else nc)) H := hP
  have hD : va_D A (wMain T q a N Z b M Y sc tx L (cu + ru tx L 2 cu) (if numB tx L 2 0 cu = true then er else (nI (numE tx L 2 cu))) le (if numB tx L 2 0 cu = true then upd nb nc (vn tx cu (ru tx L 2 cu)) else nb) (if numB tx L 2 0 cu = true then nc + 1 else nc)) := D_perm hD (List.Perm.refl _)
  refine W.eq (g2 := F0 m 86 ls [.int (bI (numB tx L 2 0 cu))]) rfl ?_
  exact hret _ _ _ _ _ (show some (Value.int (bI (numB tx L 2 0 cu))) = some (Value.int (bI (numB tx L 2 0 cu))) ∧ va_P G vwCl (wMain T q a N Z b M Y sc tx L (cu + ru tx L 2 cu) (if numB tx L 2 0 cu = true then er else (nI (numE tx L 2 cu))) le (if numB tx L 2 0 cu = true then upd nb nc (vn tx cu (ru tx L 2 cu)) else nb) (if numB tx L 2 0 cu = true then nc + 1 else nc)) H from ⟨rfl, hP⟩) (bI_nar rfl) hS dX1_readPart_86

set_option maxHeartbeats 4000000 in
set_option maxRecDepth 100000 in
theorem mX1_readPart_s59 (l : Launch) {G : va_G} {T : Nat → ClassId} {H0 : Heap} {q : Nat → Nat} {a : Nat → Nat} {N : Nat → Nat} {Z : Nat → Nat → Int32} {b : Nat → Nat → Nat} {M : Nat → Nat → Nat} {Y : Nat → Nat → Nat → Int32} {sc : Nat} {tx : Nat → Int32} {L : Nat} {cu : Nat} {er : Int32} {le : Int32} {nb : Nat → Int32} {nc : Nat} (hP : va_P G vwCl (wMain T q a N Z b M Y sc tx L cu er le nb nc) H0) (hD : va_D (fun _ => True) (wMain T q a N Z b M Y sc tx L cu er le nb nc)) (hL : L ≤ 100) (hcu : cu ≤ L) : mu l yX1_readPart wsX1_readPart 2 43 [.ref (q 2), .int 59] G T H0 (wMain T q a N Z b M Y sc tx L cu er le nb nc) (fun v9 H9 => v9 = some (.int (bI (decide (chr tx L cu = 59)))) ∧ va_P G vwCl (wMain T q a N Z b M Y sc tx L (if chr tx L cu = 59 then cu + 1 else cu) (if chr tx L cu = 59 then er else (nI cu)) le nb nc) H9) := by
  refine mu_ofi (cc := cX1_readPart) (maxL := 2) (ret := .boolean) (own := RX1) (by decide +kernel) rfl rfl (Nat.le_of_ble_eq_true rfl) hD ?_
  intro p e s m below meth c Q ls A S hkx hl hD hS hA hret
  obtain ⟨hx, hb, hml, hown, hts⟩ := id S
  have hl : lv_has ls 2 [(0, .ref (q 2)), (1, .int 59)] := hl
  refine lv_iload_n hx hb dX1_readPart_0 rfl (lv_at hl 1 rfl) ?_
  refine lv_lookup (off := 86) (tgt := 87) hx hb dX1_readPart_1 (by decide) (by decide) (by decide) ?_
  refine lv_aload_n hx hb dX1_readPart_87 rfl (lv_at hl 0 rfl) ?_
  refine lv_iload_n hx hb dX1_readPart_88 rfl (lv_at hl 1 rfl) ?_
  refine mu_V S hkx (mX1_readSign l (hP := hP) (hD := hD.weaken (fun _ _ _ _ => trivial)) (q := q) (a := a) (N := N) (Z := Z) (b := b) (M := M) (Y := Y) (sc := sc) (tx := tx) (L := L) (cu := cu) (er := er) (le := le) (nb := nb) (nc := nc) (sz := 59) (hL := (by omega)) (hcu := (by omega)) (hs := (by decide))) gX1_readPart_X1_readSign rfl idX1_readSign ⟨Nat.le_of_ble_eq_true rfl, Nat.le_of_ble_eq_true rfl⟩ hP 2 rfl rfl rfl rfl hl.1 rfl (Nat.le_of_ble_eq_true rfl) dX1_readPart_89 ⟨Nat.le_of_ble_eq_true rfl, Nat.le_of_ble_eq_true rfl⟩ hS (fr_in hD (fun q h => hA q (Nat.le_trans hS.1 h))) (fun v H locs hp9 hz1 hk1 hS => ?_)
  obtain ⟨rfl, hP⟩ := hp9
  have hP : va_P G vwCl (wMain T q a N Z b M Y sc tx L (if chr tx L cu = 59 then cu + 1 else cu) (if chr tx L cu = 59 then er else (nI cu)) le nb nc) H := hP
  have hD : va_D A (wMain T q a N Z b M Y sc tx L (if chr tx L cu = 59 then cu + 1 else cu) (if chr tx L cu = 59 then er else (nI cu)) le nb nc) := D_perm hD (List.Perm.refl _)
  refine W.eq (g2 := F0 m 92 ls [.int (bI (decide (chr tx L cu = 59)))]) rfl ?_
  exact hret _ _ _ _ _ (show some (Value.int (bI (decide (chr tx L cu = 59)))) = some (Value.int (bI (decide (chr tx L cu = 59)))) ∧ va_P G vwCl (wMain T q a N Z b M Y sc tx L (if chr tx L cu = 59 then cu + 1 else cu) (if chr tx L cu = 59 then er else (nI cu)) le nb nc) H from ⟨rfl, hP⟩) (bI_nar rfl) hS dX1_readPart_92

set_option maxHeartbeats 4000000 in
set_option maxRecDepth 100000 in
theorem mX1_readPart_s64 (l : Launch) {G : va_G} {T : Nat → ClassId} {H0 : Heap} {q : Nat → Nat} {a : Nat → Nat} {N : Nat → Nat} {Z : Nat → Nat → Int32} {b : Nat → Nat → Nat} {M : Nat → Nat → Nat} {Y : Nat → Nat → Nat → Int32} {sc : Nat} {tx : Nat → Int32} {L : Nat} {cu : Nat} {er : Int32} {le : Int32} {nb : Nat → Int32} {nc : Nat} (hP : va_P G vwCl (wMain T q a N Z b M Y sc tx L cu er le nb nc) H0) (hD : va_D (fun _ => True) (wMain T q a N Z b M Y sc tx L cu er le nb nc)) (hL : L ≤ 100) (hcu : cu ≤ L) : mu l yX1_readPart wsX1_readPart 2 43 [.ref (q 2), .int 64] G T H0 (wMain T q a N Z b M Y sc tx L cu er le nb nc) (fun v9 H9 => v9 = some (.int (bI (decide (chr tx L cu = 64)))) ∧ va_P G vwCl (wMain T q a N Z b M Y sc tx L (if chr tx L cu = 64 then cu + 1 else cu) (if chr tx L cu = 64 then er else (nI cu)) le nb nc) H9) := by
  refine mu_ofi (cc := cX1_readPart) (maxL := 2) (ret := .boolean) (own := RX1) (by decide +kernel) rfl rfl (Nat.le_of_ble_eq_true rfl) hD ?_
  intro p e s m below meth c Q ls A S hkx hl hD hS hA hret
  obtain ⟨hx, hb, hml, hown, hts⟩ := id S
  have hl : lv_has ls 2 [(0, .ref (q 2)), (1, .int 64)] := hl
  refine lv_iload_n hx hb dX1_readPart_0 rfl (lv_at hl 1 rfl) ?_
  refine lv_lookup (off := 86) (tgt := 87) hx hb dX1_readPart_1 (by decide) (by decide) (by decide) ?_
  refine lv_aload_n hx hb dX1_readPart_87 rfl (lv_at hl 0 rfl) ?_
  refine lv_iload_n hx hb dX1_readPart_88 rfl (lv_at hl 1 rfl) ?_
  refine mu_V S hkx (mX1_readSign l (hP := hP) (hD := hD.weaken (fun _ _ _ _ => trivial)) (q := q) (a := a) (N := N) (Z := Z) (b := b) (M := M) (Y := Y) (sc := sc) (tx := tx) (L := L) (cu := cu) (er := er) (le := le) (nb := nb) (nc := nc) (sz := 64) (hL := (by omega)) (hcu := (by omega)) (hs := (by decide))) gX1_readPart_X1_readSign rfl idX1_readSign ⟨Nat.le_of_ble_eq_true rfl, Nat.le_of_ble_eq_true rfl⟩ hP 2 rfl rfl rfl rfl hl.1 rfl (Nat.le_of_ble_eq_true rfl) dX1_readPart_89 ⟨Nat.le_of_ble_eq_true rfl, Nat.le_of_ble_eq_true rfl⟩ hS (fr_in hD (fun q h => hA q (Nat.le_trans hS.1 h))) (fun v H locs hp9 hz1 hk1 hS => ?_)
  obtain ⟨rfl, hP⟩ := hp9
  have hP : va_P G vwCl (wMain T q a N Z b M Y sc tx L (if chr tx L cu = 64 then cu + 1 else cu) (if chr tx L cu = 64 then er else (nI cu)) le nb nc) H := hP
  have hD : va_D A (wMain T q a N Z b M Y sc tx L (if chr tx L cu = 64 then cu + 1 else cu) (if chr tx L cu = 64 then er else (nI cu)) le nb nc) := D_perm hD (List.Perm.refl _)
  refine W.eq (g2 := F0 m 92 ls [.int (bI (decide (chr tx L cu = 64)))]) rfl ?_
  exact hret _ _ _ _ _ (show some (Value.int (bI (decide (chr tx L cu = 64)))) = some (Value.int (bI (decide (chr tx L cu = 64)))) ∧ va_P G vwCl (wMain T q a N Z b M Y sc tx L (if chr tx L cu = 64 then cu + 1 else cu) (if chr tx L cu = 64 then er else (nI cu)) le nb nc) H from ⟨rfl, hP⟩) (bI_nar rfl) hS dX1_readPart_92

set_option maxHeartbeats 4000000 in
set_option maxRecDepth 100000 in
theorem mX1_readPart_s43 (l : Launch) {G : va_G} {T : Nat → ClassId} {H0 : Heap} {q : Nat → Nat} {a : Nat → Nat} {N : Nat → Nat} {Z : Nat → Nat → Int32} {b : Nat → Nat → Nat} {M : Nat → Nat → Nat} {Y : Nat → Nat → Nat → Int32} {sc : Nat} {tx : Nat → Int32} {L : Nat} {cu : Nat} {er : Int32} {le : Int32} {nb : Nat → Int32} {nc : Nat} (hP : va_P G vwCl (wMain T q a N Z b M Y sc tx L cu er le nb nc) H0) (hD : va_D (fun _ => True) (wMain T q a N Z b M Y sc tx L cu er le nb nc)) (hL : L ≤ 100) (hcu : cu ≤ L) : mu l yX1_readPart wsX1_readPart 2 43 [.ref (q 2), .int 43] G T H0 (wMain T q a N Z b M Y sc tx L cu er le nb nc) (fun v9 H9 => v9 = some (.int (bI (decide (chr tx L cu = 43)))) ∧ va_P G vwCl (wMain T q a N Z b M Y sc tx L (if chr tx L cu = 43 then cu + 1 else cu) (if chr tx L cu = 43 then er else (nI cu)) le nb nc) H9) := by
  refine mu_ofi (cc := cX1_readPart) (maxL := 2) (ret := .boolean) (own := RX1) (by decide +kernel) rfl rfl (Nat.le_of_ble_eq_true rfl) hD ?_
  intro p e s m below meth c Q ls A S hkx hl hD hS hA hret
  obtain ⟨hx, hb, hml, hown, hts⟩ := id S
  have hl : lv_has ls 2 [(0, .ref (q 2)), (1, .int 43)] := hl
  refine lv_iload_n hx hb dX1_readPart_0 rfl (lv_at hl 1 rfl) ?_
  refine lv_lookup (off := 86) (tgt := 87) hx hb dX1_readPart_1 (by decide) (by decide) (by decide) ?_
  refine lv_aload_n hx hb dX1_readPart_87 rfl (lv_at hl 0 rfl) ?_
  refine lv_iload_n hx hb dX1_readPart_88 rfl (lv_at hl 1 rfl) ?_
  refine mu_V S hkx (mX1_readSign l (hP := hP) (hD := hD.weaken (fun _ _ _ _ => trivial)) (q := q) (a := a) (N := N) (Z := Z) (b := b) (M := M) (Y := Y) (sc := sc) (tx := tx) (L := L) (cu := cu) (er := er) (le := le) (nb := nb) (nc := nc) (sz := 43) (hL := (by omega)) (hcu := (by omega)) (hs := (by decide))) gX1_readPart_X1_readSign rfl idX1_readSign ⟨Nat.le_of_ble_eq_true rfl, Nat.le_of_ble_eq_true rfl⟩ hP 2 rfl rfl rfl rfl hl.1 rfl (Nat.le_of_ble_eq_true rfl) dX1_readPart_89 ⟨Nat.le_of_ble_eq_true rfl, Nat.le_of_ble_eq_true rfl⟩ hS (fr_in hD (fun q h => hA q (Nat.le_trans hS.1 h))) (fun v H locs hp9 hz1 hk1 hS => ?_)
  obtain ⟨rfl, hP⟩ := hp9
  have hP : va_P G vwCl (wMain T q a N Z b M Y sc tx L (if chr tx L cu = 43 then cu + 1 else cu) (if chr tx L cu = 43 then er else (nI cu)) le nb nc) H := hP
  have hD : va_D A (wMain T q a N Z b M Y sc tx L (if chr tx L cu = 43 then cu + 1 else cu) (if chr tx L cu = 43 then er else (nI cu)) le nb nc) := D_perm hD (List.Perm.refl _)
  refine W.eq (g2 := F0 m 92 ls [.int (bI (decide (chr tx L cu = 43)))]) rfl ?_
  exact hret _ _ _ _ _ (show some (Value.int (bI (decide (chr tx L cu = 43)))) = some (Value.int (bI (decide (chr tx L cu = 43)))) ∧ va_P G vwCl (wMain T q a N Z b M Y sc tx L (if chr tx L cu = 43 then cu + 1 else cu) (if chr tx L cu = 43 then er else (nI cu)) le nb nc) H from ⟨rfl, hP⟩) (bI_nar rfl) hS dX1_readPart_92

set_option maxHeartbeats 4000000 in
set_option maxRecDepth 100000 in
theorem mX1_readPart_s58 (l : Launch) {G : va_G} {T : Nat → ClassId} {H0 : Heap} {q : Nat → Nat} {a : Nat → Nat} {N : Nat → Nat} {Z : Nat → Nat → Int32} {b : Nat → Nat → Nat} {M : Nat → Nat → Nat} {Y : Nat → Nat → Nat → Int32} {sc : Nat} {tx : Nat → Int32} {L : Nat} {cu : Nat} {er : Int32} {le : Int32} {nb : Nat → Int32} {nc : Nat} (hP : va_P G vwCl (wMain T q a N Z b M Y sc tx L cu er le nb nc) H0) (hD : va_D (fun _ => True) (wMain T q a N Z b M Y sc tx L cu er le nb nc)) (hL : L ≤ 100) (hcu : cu ≤ L) : mu l yX1_readPart wsX1_readPart 2 43 [.ref (q 2), .int 58] G T H0 (wMain T q a N Z b M Y sc tx L cu er le nb nc) (fun v9 H9 => v9 = some (.int (bI (decide (chr tx L cu = 58)))) ∧ va_P G vwCl (wMain T q a N Z b M Y sc tx L (if chr tx L cu = 58 then cu + 1 else cu) (if chr tx L cu = 58 then er else (nI cu)) le nb nc) H9) := by
  refine mu_ofi (cc := cX1_readPart) (maxL := 2) (ret := .boolean) (own := RX1) (by decide +kernel) rfl rfl (Nat.le_of_ble_eq_true rfl) hD ?_
  intro p e s m below meth c Q ls A S hkx hl hD hS hA hret
  obtain ⟨hx, hb, hml, hown, hts⟩ := id S
  have hl : lv_has ls 2 [(0, .ref (q 2)), (1, .int 58)] := hl
  refine lv_iload_n hx hb dX1_readPart_0 rfl (lv_at hl 1 rfl) ?_
  refine lv_lookup (off := 86) (tgt := 87) hx hb dX1_readPart_1 (by decide) (by decide) (by decide) ?_
  refine lv_aload_n hx hb dX1_readPart_87 rfl (lv_at hl 0 rfl) ?_
  refine lv_iload_n hx hb dX1_readPart_88 rfl (lv_at hl 1 rfl) ?_
  refine mu_V S hkx (mX1_readSign l (hP := hP) (hD := hD.weaken (fun _ _ _ _ => trivial)) (q := q) (a := a) (N := N) (Z := Z) (b := b) (M := M) (Y := Y) (sc := sc) (tx := tx) (L := L) (cu := cu) (er := er) (le := le) (nb := nb) (nc := nc) (sz := 58) (hL := (by omega)) (hcu := (by omega)) (hs := (by decide))) gX1_readPart_X1_readSign rfl idX1_readSign ⟨Nat.le_of_ble_eq_true rfl, Nat.le_of_ble_eq_true rfl⟩ hP 2 rfl rfl rfl rfl hl.1 rfl (Nat.le_of_ble_eq_true rfl) dX1_readPart_89 ⟨Nat.le_of_ble_eq_true rfl, Nat.le_of_ble_eq_true rfl⟩ hS (fr_in hD (fun q h => hA q (Nat.le_trans hS.1 h))) (fun v H locs hp9 hz1 hk1 hS => ?_)
  obtain ⟨rfl, hP⟩ := hp9
  have hP : va_P G vwCl (wMain T q a N Z b M Y sc tx L (if chr tx L cu = 58 then cu + 1 else cu) (if chr tx L cu = 58 then er else (nI cu)) le nb nc) H := hP
  have hD : va_D A (wMain T q a N Z b M Y sc tx L (if chr tx L cu = 58 then cu + 1 else cu) (if chr tx L cu = 58 then er else (nI cu)) le nb nc) := D_perm hD (List.Perm.refl _)
  refine W.eq (g2 := F0 m 92 ls [.int (bI (decide (chr tx L cu = 58)))]) rfl ?_
  exact hret _ _ _ _ _ (show some (Value.int (bI (decide (chr tx L cu = 58)))) = some (Value.int (bI (decide (chr tx L cu = 58)))) ∧ va_P G vwCl (wMain T q a N Z b M Y sc tx L (if chr tx L cu = 58 then cu + 1 else cu) (if chr tx L cu = 58 then er else (nI cu)) le nb nc) H from ⟨rfl, hP⟩) (bI_nar rfl) hS dX1_readPart_92

set_option maxHeartbeats 4000000 in
set_option maxRecDepth 100000 in
theorem mX1_readPart_s45 (l : Launch) {G : va_G} {T : Nat → ClassId} {H0 : Heap} {q : Nat → Nat} {a : Nat → Nat} {N : Nat → Nat} {Z : Nat → Nat → Int32} {b : Nat → Nat → Nat} {M : Nat → Nat → Nat} {Y : Nat → Nat → Nat → Int32} {sc : Nat} {tx : Nat → Int32} {L : Nat} {cu : Nat} {er : Int32} {le : Int32} {nb : Nat → Int32} {nc : Nat} (hP : va_P G vwCl (wMain T q a N Z b M Y sc tx L cu er le nb nc) H0) (hD : va_D (fun _ => True) (wMain T q a N Z b M Y sc tx L cu er le nb nc)) (hL : L ≤ 100) (hcu : cu ≤ L) : mu l yX1_readPart wsX1_readPart 2 43 [.ref (q 2), .int 45] G T H0 (wMain T q a N Z b M Y sc tx L cu er le nb nc) (fun v9 H9 => v9 = some (.int (bI (decide (chr tx L cu = 45)))) ∧ va_P G vwCl (wMain T q a N Z b M Y sc tx L (if chr tx L cu = 45 then cu + 1 else cu) (if chr tx L cu = 45 then er else (nI cu)) le nb nc) H9) := by
  refine mu_ofi (cc := cX1_readPart) (maxL := 2) (ret := .boolean) (own := RX1) (by decide +kernel) rfl rfl (Nat.le_of_ble_eq_true rfl) hD ?_
  intro p e s m below meth c Q ls A S hkx hl hD hS hA hret
  obtain ⟨hx, hb, hml, hown, hts⟩ := id S
  have hl : lv_has ls 2 [(0, .ref (q 2)), (1, .int 45)] := hl
  refine lv_iload_n hx hb dX1_readPart_0 rfl (lv_at hl 1 rfl) ?_
  refine lv_lookup (off := 86) (tgt := 87) hx hb dX1_readPart_1 (by decide) (by decide) (by decide) ?_
  refine lv_aload_n hx hb dX1_readPart_87 rfl (lv_at hl 0 rfl) ?_
  refine lv_iload_n hx hb dX1_readPart_88 rfl (lv_at hl 1 rfl) ?_
  refine mu_V S hkx (mX1_readSign l (hP := hP) (hD := hD.weaken (fun _ _ _ _ => trivial)) (q := q) (a := a) (N := N) (Z := Z) (b := b) (M := M) (Y := Y) (sc := sc) (tx := tx) (L := L) (cu := cu) (er := er) (le := le) (nb := nb) (nc := nc) (sz := 45) (hL := (by omega)) (hcu := (by omega)) (hs := (by decide))) gX1_readPart_X1_readSign rfl idX1_readSign ⟨Nat.le_of_ble_eq_true rfl, Nat.le_of_ble_eq_true rfl⟩ hP 2 rfl rfl rfl rfl hl.1 rfl (Nat.le_of_ble_eq_true rfl) dX1_readPart_89 ⟨Nat.le_of_ble_eq_true rfl, Nat.le_of_ble_eq_true rfl⟩ hS (fr_in hD (fun q h => hA q (Nat.le_trans hS.1 h))) (fun v H locs hp9 hz1 hk1 hS => ?_)
  obtain ⟨rfl, hP⟩ := hp9
  have hP : va_P G vwCl (wMain T q a N Z b M Y sc tx L (if chr tx L cu = 45 then cu + 1 else cu) (if chr tx L cu = 45 then er else (nI cu)) le nb nc) H := hP
  have hD : va_D A (wMain T q a N Z b M Y sc tx L (if chr tx L cu = 45 then cu + 1 else cu) (if chr tx L cu = 45 then er else (nI cu)) le nb nc) := D_perm hD (List.Perm.refl _)
  refine W.eq (g2 := F0 m 92 ls [.int (bI (decide (chr tx L cu = 45)))]) rfl ?_
  exact hret _ _ _ _ _ (show some (Value.int (bI (decide (chr tx L cu = 45)))) = some (Value.int (bI (decide (chr tx L cu = 45)))) ∧ va_P G vwCl (wMain T q a N Z b M Y sc tx L (if chr tx L cu = 45 then cu + 1 else cu) (if chr tx L cu = 45 then er else (nI cu)) le nb nc) H from ⟨rfl, hP⟩) (bI_nar rfl) hS dX1_readPart_92

set_option maxHeartbeats 4000000 in
set_option maxRecDepth 100000 in
theorem mX1_readPart_s44 (l : Launch) {G : va_G} {T : Nat → ClassId} {H0 : Heap} {q : Nat → Nat} {a : Nat → Nat} {N : Nat → Nat} {Z : Nat → Nat → Int32} {b : Nat → Nat → Nat} {M : Nat → Nat → Nat} {Y : Nat → Nat → Nat → Int32} {sc : Nat} {tx : Nat → Int32} {L : Nat} {cu : Nat} {er : Int32} {le : Int32} {nb : Nat → Int32} {nc : Nat} (hP : va_P G vwCl (wMain T q a N Z b M Y sc tx L cu er le nb nc) H0) (hD : va_D (fun _ => True) (wMain T q a N Z b M Y sc tx L cu er le nb nc)) (hL : L ≤ 100) (hcu : cu ≤ L) : mu l yX1_readPart wsX1_readPart 2 43 [.ref (q 2), .int 44] G T H0 (wMain T q a N Z b M Y sc tx L cu er le nb nc) (fun v9 H9 => v9 = some (.int (bI (decide (chr tx L cu = 44)))) ∧ va_P G vwCl (wMain T q a N Z b M Y sc tx L (if chr tx L cu = 44 then cu + 1 else cu) (if chr tx L cu = 44 then er else (nI cu)) le nb nc) H9) := by
  refine mu_ofi (cc := cX1_readPart) (maxL := 2) (ret := .boolean) (own := RX1) (by decide +kernel) rfl rfl (Nat.le_of_ble_eq_true rfl) hD ?_
  intro p e s m below meth c Q ls A S hkx hl hD hS hA hret
  obtain ⟨hx, hb, hml, hown, hts⟩ := id S
  have hl : lv_has ls 2 [(0, .ref (q 2)), (1, .int 44)] := hl
  refine lv_iload_n hx hb dX1_readPart_0 rfl (lv_at hl 1 rfl) ?_
  refine lv_lookup (off := 86) (tgt := 87) hx hb dX1_readPart_1 (by decide) (by decide) (by decide) ?_
  refine lv_aload_n hx hb dX1_readPart_87 rfl (lv_at hl 0 rfl) ?_
  refine lv_iload_n hx hb dX1_readPart_88 rfl (lv_at hl 1 rfl) ?_
  refine mu_V S hkx (mX1_readSign l (hP := hP) (hD := hD.weaken (fun _ _ _ _ => trivial)) (q := q) (a := a) (N := N) (Z := Z) (b := b) (M := M) (Y := Y) (sc := sc) (tx := tx) (L := L) (cu := cu) (er := er) (le := le) (nb := nb) (nc := nc) (sz := 44) (hL := (by omega)) (hcu := (by omega)) (hs := (by decide))) gX1_readPart_X1_readSign rfl idX1_readSign ⟨Nat.le_of_ble_eq_true rfl, Nat.le_of_ble_eq_true rfl⟩ hP 2 rfl rfl rfl rfl hl.1 rfl (Nat.le_of_ble_eq_true rfl) dX1_readPart_89 ⟨Nat.le_of_ble_eq_true rfl, Nat.le_of_ble_eq_true rfl⟩ hS (fr_in hD (fun q h => hA q (Nat.le_trans hS.1 h))) (fun v H locs hp9 hz1 hk1 hS => ?_)
  obtain ⟨rfl, hP⟩ := hp9
  have hP : va_P G vwCl (wMain T q a N Z b M Y sc tx L (if chr tx L cu = 44 then cu + 1 else cu) (if chr tx L cu = 44 then er else (nI cu)) le nb nc) H := hP
  have hD : va_D A (wMain T q a N Z b M Y sc tx L (if chr tx L cu = 44 then cu + 1 else cu) (if chr tx L cu = 44 then er else (nI cu)) le nb nc) := D_perm hD (List.Perm.refl _)
  refine W.eq (g2 := F0 m 92 ls [.int (bI (decide (chr tx L cu = 44)))]) rfl ?_
  exact hret _ _ _ _ _ (show some (Value.int (bI (decide (chr tx L cu = 44)))) = some (Value.int (bI (decide (chr tx L cu = 44)))) ∧ va_P G vwCl (wMain T q a N Z b M Y sc tx L (if chr tx L cu = 44 then cu + 1 else cu) (if chr tx L cu = 44 then er else (nI cu)) le nb nc) H from ⟨rfl, hP⟩) (bI_nar rfl) hS dX1_readPart_92
