set_option maxHeartbeats 4000000 in
set_option maxRecDepth 100000 in
theorem law_latestMove (l : Launch) (hl0 : l.stackTraces = false) {G : va_G} {T : Nat → ClassId} {sa kk vv : Nat → Nat} {p : Program} {e : Env} {s : State} {m : MethodId} {below : List Frame} {meth : Method} {c : Code} {Q : State → Prop} {b0 LL : Nat} {xs : Nat → Int32} {q r : Nat → Nat} {o d : Nat} {a N : Nat → Nat} {Z : Nat → Nat → Int32} {b M : Nat → Nat → Nat} {Y : Nat → Nat → Nat → Int32} {sc : Nat} {tx : Nat → Int32} {L cu : Nat} {er le : Int32} {nb : Nat → Int32} {nc : Nat} {mm pp : Nat → Int32} {th ac ea le2 v1 v2 v3 v4 v5 : Int32} {fo : Int64} {fd : UInt64} {H : Heap} {locs : List Loc} {cells slots j : Nat} {ls : Array Slot} (K : LK G T sa kk vv p s m c b0 LL xs) (hl : lv_has ls 9 [(0, .ref b0), (1, .ref (q 0)), (2, .ref (r 0)), (3, .ref o), (4, .ref d), (5, .int (nI (6 * j)))]) (hj : 6 * j + 5 < LL) (hcs : cells + 3 ≤ 601024) (hss : slots + 18 ≤ 7293034) (hS : va_S (lA s) s.heap H locs) (hT : tie N Z mm M Y pp sc) (hX : txo tx L) (hP : va_P G vwCl (wL T q a N Z b M Y sc tx L cu er le nb nc r mm pp th ac ea le2 v1 v2 v3 v4 v5 o d fo fd) H) (hD : va_D (lA s) (wL T q a N Z b M Y sc tx L cu er le nb nc r mm pp th ac ea le2 v1 v2 v3 v4 v5 o d fo fd)) (hnext : ∀ (H : Heap) (locs : List Loc) (ls : Array Slot), inv G T q r o d (lA s) H → va_S (lA s) s.heap H locs → lv_has ls 9 [(0, .ref b0), (1, .ref (q 0)), (2, .ref (r 0)), (3, .ref o), (4, .ref d), (5, .int (nI (6 * j)))] → W p l e room_1 s m ([.ref b0] : List Value).toArray below meth c H locs (cells + 3) (slots + 18) Q (F0 m 2069 ls [])) : W p l e room_1 s m ([.ref b0] : List Value).toArray below meth c H locs cells slots Q (F0 m 1568 ls []) := by
  obtain ⟨S, hkx, -, hnc, -⟩ := id K
  have hx := S.1
  have hb := S.2.1
  have h9 := K.2.2.2.2.2.2.2
  have hX1 := hX.1
  have hP : va_P G vwCl (((wMain T q a N Z b M Y sc tx L cu er le nb nc) ++ [(o, eL T fo)]) ++ ((wMod T r mm pp tx th sc L ac ea le2 v1 v2 v3 v4 v5) ++ [(d, eD T fd)])) H := hP
  have hD : va_D (lA s) (((wMain T q a N Z b M Y sc tx L cu er le nb nc) ++ [(o, eL T fo)]) ++ ((wMod T r mm pp tx th sc L ac ea le2 v1 v2 v3 v4 v5) ++ [(d, eD T fd)])) := hD
  refine lv_aload_n hx hb dL_law_1568 rfl (lv_at hl 1 rfl) ?_
  refine lv_aload_n hx hb dL_law_1569 rfl (lv_at hl 0 rfl) ?_
  refine lv_iload hx hb dL_law_1570 (lv_at hl 5 rfl) ?_
  refine lv_iconst (v := 1) hx hb dL_law_1572 (by decide) ?_
  refine lv_iadd hx hb dL_law_1573 ?_
  rw [show ((nI (6 * j)) + 1) = (nI ((6 * j) + 1)) from nI_add (6 * j) 1]
  refine sld K hS ((6 * j) + 1) rfl (by omega) dL_law_1574 ?_
  refine lv_aload_n hx hb dL_law_1575 rfl (lv_at hl 0 rfl) ?_
  refine lv_iload hx hb dL_law_1576 (lv_at hl 5 rfl) ?_
  refine lv_iconst (v := 2) hx hb dL_law_1578 (by decide) ?_
  refine lv_iadd hx hb dL_law_1579 ?_
  rw [show ((nI (6 * j)) + 2) = (nI ((6 * j) + 2)) from nI_add (6 * j) 2]
  refine sld K hS ((6 * j) + 2) rfl (by omega) dL_law_1580 ?_
  refine lv_aload_n hx hb dL_law_1581 rfl (lv_at hl 0 rfl) ?_
  refine lv_iload hx hb dL_law_1582 (lv_at hl 5 rfl) ?_
  refine lv_iconst (v := 3) hx hb dL_law_1584 (by decide) ?_
  refine lv_iadd hx hb dL_law_1585 ?_
  rw [show ((nI (6 * j)) + 3) = (nI ((6 * j) + 3)) from nI_add (6 * j) 3]
  refine sld K hS ((6 * j) + 3) rfl (by omega) dL_law_1586 ?_
  refine lv_aload_n hx hb dL_law_1587 rfl (lv_at hl 3 rfl) ?_
  refine lw_S S hkx (K.2.2.1.kept hS.2.1) hnc (mL_latestMove l hl0 (sa := sa) (A9 := lA s) (q := q) (a := a) (N := N) (Z := Z) (b := b) (M := M) (Y := Y) (sc := sc) (tx := tx) (L := L) (cu := cu) (er := er) (le := le) (nb := nb) (nc := nc) (u := (xs ((6 * j) + 1))) (v := (xs ((6 * j) + 2))) (d := (xs ((6 * j) + 3))) (o := o) (fo := fo) (hP := P_hd hP) (hD := (D_hd hD).weaken (fun _ _ _ _ => trivial)) (h9 := (fun q h => Nat.le_trans hS.1 h)) (hwf := hT.1)) gL_law_L_latestMove rfl idL_latestMove ⟨Nat.le_of_ble_eq_true rfl, Nat.le_of_ble_eq_true rfl⟩ rfl hl.1 rfl (Nat.le_of_ble_eq_true rfl) dL_law_1588 ⟨(by show cells + 3 ≤ 601024; omega), (by show slots + 18 ≤ 7293034; omega)⟩ hS (fr_in (D_hd hD) (fun q h => Nat.le_trans hS.1 h)) (fun v H locs hp9 hz1 hk1 hS => ?_)
  rcases hp9 with ⟨hF, rfl, hPc⟩ | ⟨hF, rfl, hPc⟩
  · obtain ⟨hP, hD⟩ := fr_hd hP hD hk1 hPc (addr_snoc (List.Perm.refl _))
    have hP : va_P G vwCl (((wMain T q a N Z b M Y sc tx L cu er le nb nc) ++ [(o, eL T (Int32.toInt64 (ltP N Z (tn (xs ((6 * j) + 1))) (tn (xs ((6 * j) + 2))) (tn (xs ((6 * j) + 3))))))]) ++ ((wMod T r mm pp tx th sc L ac ea le2 v1 v2 v3 v4 v5) ++ [(d, eD T fd)])) H := hP
    have hD : va_D (lA s) (((wMain T q a N Z b M Y sc tx L cu er le nb nc) ++ [(o, eL T (Int32.toInt64 (ltP N Z (tn (xs ((6 * j) + 1))) (tn (xs ((6 * j) + 2))) (tn (xs ((6 * j) + 3))))))]) ++ ((wMod T r mm pp tx th sc L ac ea le2 v1 v2 v3 v4 v5) ++ [(d, eD T fd)])) := hD
    refine W.eq (g2 := F0 m 1591 ls [.int 0]) rfl ?_
    refine lv_istore (lv' := [(6, .int 0), (0, .ref b0), (1, .ref (q 0)), (2, .ref (r 0)), (3, .ref o), (4, .ref d), (5, .int (nI (6 * j)))]) hx hb dL_law_1591 hl (by decide) rfl (fun ls hl => ?_)
    refine lv_aload_n hx hb dL_law_1593 rfl (lv_at hl 3 rfl) ?_
    refine lv_aload_n hx hb dL_law_1594 rfl (lv_at hl 1 rfl) ?_
    refine lv_iload hx hb dL_law_1595 (lv_at hl 6 rfl) ?_
    refine lv_iconst (v := 1) hx hb dL_law_1597 (by decide) ?_
    refine lv_iadd hx hb dL_law_1598 ?_
    rw [show ((nI (6 * j)) + 1) = (nI ((6 * j) + 1)) from nI_add (6 * j) 1]
    refine sld K hS ((6 * j) + 1) rfl (by omega) dL_law_1599 ?_
    refine lv_aload_n hx hb dL_law_1600 rfl (lv_at hl 1 rfl) ?_
    refine lv_iload hx hb dL_law_1601 (lv_at hl 6 rfl) ?_
    refine lv_iconst (v := 2) hx hb dL_law_1603 (by decide) ?_
    refine lv_iadd hx hb dL_law_1604 ?_
    rw [show ((nI (6 * j)) + 2) = (nI ((6 * j) + 2)) from nI_add (6 * j) 2]
    refine sld K hS ((6 * j) + 2) rfl (by omega) dL_law_1605 ?_
    refine lv_aload_n hx hb dL_law_1606 rfl (lv_at hl 1 rfl) ?_
    refine lv_iload hx hb dL_law_1607 (lv_at hl 6 rfl) ?_
    refine lv_iconst (v := 3) hx hb dL_law_1609 (by decide) ?_
    refine lv_iadd hx hb dL_law_1610 ?_
    rw [show ((nI (6 * j)) + 3) = (nI ((6 * j) + 3)) from nI_add (6 * j) 3]
    refine sld K hS ((6 * j) + 3) rfl (by omega) dL_law_1611 ?_
    refine mu_V S hkx (mX6_latestMove l (T := T) (r := r) (N := N) (Z := Z) (mm := mm) (pp := pp) (xx := tx) (th := th) (sv := sc) (n1 := L) (ac := ac) (ea := ea) (le := le2) (v1 := v1) (v2 := v2) (v3 := v3) (v4 := v4) (v5 := v5) (u := (xs ((6 * j) + 1))) (v := (xs ((6 * j) + 2))) (d := (xs ((6 * j) + 3))) (hP := P_mid hP) (hD := (D_mid hD).weaken (fun _ _ _ _ => trivial)) (hwf := hT.1) (hr := hT.2.1)) gL_law_X6_latestMove rfl idX6_latestMove ⟨Nat.le_of_ble_eq_true rfl, Nat.le_of_ble_eq_true rfl⟩ hP 101 rfl rfl rfl rfl hl.1 rfl (Nat.le_of_ble_eq_true rfl) dL_law_1612 ⟨(by show cells + 3 ≤ 601024; omega), (by show slots + 18 ≤ 7293034; omega)⟩ hS (fr_in (D_mid hD) (fun q h => Nat.le_trans hS.1 h)) (fun v H locs hp9 hz1 hk1 hS => ?_)
    obtain ⟨z9, rfl, hp9⟩ := hp9
    obtain ⟨-, rfl, hPm⟩ := hp9.resolve_right (fun h => h.1 hF)
    obtain ⟨hP, hD⟩ := fr_mid hP hD hk1 hPm rfl
    have hP : va_P G vwCl (((wMain T q a N Z b M Y sc tx L cu er le nb nc) ++ [(o, eL T (Int32.toInt64 (ltP N Z (tn (xs ((6 * j) + 1))) (tn (xs ((6 * j) + 2))) (tn (xs ((6 * j) + 3))))))]) ++ ((wMod T r mm pp tx 0 sc L ac ea le2 v1 v2 v3 v4 v5) ++ [(d, eD T fd)])) H := hP
    have hD : va_D (lA s) (((wMain T q a N Z b M Y sc tx L cu er le nb nc) ++ [(o, eL T (Int32.toInt64 (ltP N Z (tn (xs ((6 * j) + 1))) (tn (xs ((6 * j) + 2))) (tn (xs ((6 * j) + 3))))))]) ++ ((wMod T r mm pp tx 0 sc L ac ea le2 v1 v2 v3 v4 v5) ++ [(d, eD T fd)])) := hD
    refine W.eq (g2 := F0 m 1615 ls [.int (ltP N Z (tn (xs ((6 * j) + 1))) (tn (xs ((6 * j) + 2))) (tn (xs ((6 * j) + 3))))]) rfl ?_
    refine lv_istore (lv' := [(7, .int (ltP N Z (tn (xs ((6 * j) + 1))) (tn (xs ((6 * j) + 2))) (tn (xs ((6 * j) + 3))))), (6, .int 0), (0, .ref b0), (1, .ref (q 0)), (2, .ref (r 0)), (3, .ref o), (4, .ref d), (5, .int (nI (6 * j)))]) hx hb dL_law_1615 hl (by decide) rfl (fun ls hl => ?_)
    refine lv_aload_n hx hb dL_law_1617 rfl (lv_at hl 4 rfl) ?_
    refine ro_V S hkx (mX6_thrown l (T := T) (r := r) (N := N) (Z := Z) (mm := mm) (pp := pp) (xx := tx) (th := 0) (sv := sc) (n1 := L) (ac := ac) (ea := ea) (le := le2) (v1 := v1) (v2 := v2) (v3 := v3) (v4 := v4) (v5 := v5) (hP := P_mid hP)) gL_law_X6_thrown rfl idX6_thrown ⟨Nat.le_of_ble_eq_true rfl, Nat.le_of_ble_eq_true rfl⟩ hP 101 rfl rfl rfl rfl hl.1 rfl (Nat.le_of_ble_eq_true rfl) dL_law_1618 ⟨(by show cells + 3 ≤ 601024; omega), (by show slots + 18 ≤ 7293034; omega)⟩ (fun r9 hr9 => ?_)
    subst hr9
    refine lv_iload hx hb dL_law_1621 (lv_at hl 1 rfl) ?_
    refine lv_icmp_eq (tgt := 1628) hx hb dL_law_1623 (by decide) (fun c_1 => ?_) (fun c_1 => ?_)
    · replace c_1 := cn_eq (a := 0) (b := 0) (by omega) (by omega) c_1
      refine lv_iload hx hb dL_law_1628 (lv_at hl 1 rfl) ?_
      refine lv_if_ne (tgt := 1645) hx hb dL_law_1630 (by decide) (fun c_2 => ?_) (fun c_2 => ?_)
      · replace c_2 := cn_ne (a := 0) (b := 0) (by omega) (by omega) c_2
        exact absurd c_2 (by decide)
      · replace c_2 := cn_eq (a := 0) (b := 0) (by omega) (by omega) c_2
        refine lv_aload_n hx hb dL_law_1633 rfl (lv_at hl 5 rfl) ?_
        refine lv_iconst (v := 0) hx hb dL_law_1634 (by decide) ?_
        refine lld0 hx hb hkx hP 100 rfl dL_law_1635 ?_
        refine lv_iload hx hb dL_law_1636 (lv_at hl 0 rfl) ?_
        refine lv_i2l hx hb dL_law_1638 rfl ?_
        refine W.lcmp hx hb dL_law_1639 ?_
        rw [lg_self]
        refine lv_if_eq (tgt := 1645) hx hb dL_law_1640 (by decide) (fun c_3 => ?_) (fun c_3 => ?_)
        · replace c_3 := cn_eq (a := 0) (b := 0) (by omega) (by omega) c_3
          refine lv_goto (tgt := 2069) hx hb dL_law_1645 (by decide) ?_
          refine W.widen (k := cells + 3) (n := slots + 18) (by omega) (by omega) ?_
          exact hnext _ _ _ ⟨a, N, Z, b, M, Y, sc, tx, L, cu, er, le, nb, nc, mm, pp, 0, ac, ea, le2, v1, v2, v3, v4, v5, (Int32.toInt64 (ltP N Z (tn (xs ((6 * j) + 1))) (tn (xs ((6 * j) + 2))) (tn (xs ((6 * j) + 3))))), fd, hT, hX, hP, hD⟩ hS (lv_sub hl [2, 3, 4, 5, 6, 7] rfl)
        · replace c_3 := cn_ne (a := 0) (b := 0) (by omega) (by omega) c_3
          exact absurd c_3 (by decide)
    · replace c_1 := cn_ne (a := 0) (b := 0) (by omega) (by omega) c_1
      exact absurd c_1 (by decide)
  · obtain ⟨hP, hD⟩ := fr_hd hP hD hk1 hPc (List.Perm.refl _)
    have hc0 := (nz_I (le_sq (le_th _ _) (le_sq (le_th _ _) (le_wi _ _ _))) hF)
    have hP : va_P G vwCl (((wMain T q a N Z b M Y sc tx L cu er le nb nc) ++ [(o, eL T fo)]) ++ ((wMod T r mm pp tx th sc L ac ea le2 v1 v2 v3 v4 v5) ++ [(d, eD T fd)])) H := hP
    have hD : va_D (lA s) (((wMain T q a N Z b M Y sc tx L cu er le nb nc) ++ [(o, eL T fo)]) ++ ((wMod T r mm pp tx th sc L ac ea le2 v1 v2 v3 v4 v5) ++ [(d, eD T fd)])) := hD
    refine W.eq (g2 := F0 m 1591 ls [.int (cmI (sq (thF (xs ((6 * j) + 1)) (nI (N 2))) (sq (thF (xs ((6 * j) + 2)) (nI (N 0))) (dyF (xs ((6 * j) + 3))))))]) rfl ?_
    refine lv_istore (lv' := [(6, .int (cmI (sq (thF (xs ((6 * j) + 1)) (nI (N 2))) (sq (thF (xs ((6 * j) + 2)) (nI (N 0))) (dyF (xs ((6 * j) + 3))))))), (0, .ref b0), (1, .ref (q 0)), (2, .ref (r 0)), (3, .ref o), (4, .ref d), (5, .int (nI (6 * j)))]) hx hb dL_law_1591 hl (by decide) rfl (fun ls hl => ?_)
    refine lv_aload_n hx hb dL_law_1593 rfl (lv_at hl 3 rfl) ?_
    refine lv_aload_n hx hb dL_law_1594 rfl (lv_at hl 1 rfl) ?_
    refine lv_iload hx hb dL_law_1595 (lv_at hl 6 rfl) ?_
    refine lv_iconst (v := 1) hx hb dL_law_1597 (by decide) ?_
    refine lv_iadd hx hb dL_law_1598 ?_
    rw [show ((nI (6 * j)) + 1) = (nI ((6 * j) + 1)) from nI_add (6 * j) 1]
    refine sld K hS ((6 * j) + 1) rfl (by omega) dL_law_1599 ?_
    refine lv_aload_n hx hb dL_law_1600 rfl (lv_at hl 1 rfl) ?_
    refine lv_iload hx hb dL_law_1601 (lv_at hl 6 rfl) ?_
    refine lv_iconst (v := 2) hx hb dL_law_1603 (by decide) ?_
    refine lv_iadd hx hb dL_law_1604 ?_
    rw [show ((nI (6 * j)) + 2) = (nI ((6 * j) + 2)) from nI_add (6 * j) 2]
    refine sld K hS ((6 * j) + 2) rfl (by omega) dL_law_1605 ?_
    refine lv_aload_n hx hb dL_law_1606 rfl (lv_at hl 1 rfl) ?_
    refine lv_iload hx hb dL_law_1607 (lv_at hl 6 rfl) ?_
    refine lv_iconst (v := 3) hx hb dL_law_1609 (by decide) ?_
    refine lv_iadd hx hb dL_law_1610 ?_
    rw [show ((nI (6 * j)) + 3) = (nI ((6 * j) + 3)) from nI_add (6 * j) 3]
    refine sld K hS ((6 * j) + 3) rfl (by omega) dL_law_1611 ?_
    refine mu_V S hkx (mX6_latestMove l (T := T) (r := r) (N := N) (Z := Z) (mm := mm) (pp := pp) (xx := tx) (th := th) (sv := sc) (n1 := L) (ac := ac) (ea := ea) (le := le2) (v1 := v1) (v2 := v2) (v3 := v3) (v4 := v4) (v5 := v5) (u := (xs ((6 * j) + 1))) (v := (xs ((6 * j) + 2))) (d := (xs ((6 * j) + 3))) (hP := P_mid hP) (hD := (D_mid hD).weaken (fun _ _ _ _ => trivial)) (hwf := hT.1) (hr := hT.2.1)) gL_law_X6_latestMove rfl idX6_latestMove ⟨Nat.le_of_ble_eq_true rfl, Nat.le_of_ble_eq_true rfl⟩ hP 101 rfl rfl rfl rfl hl.1 rfl (Nat.le_of_ble_eq_true rfl) dL_law_1612 ⟨(by show cells + 3 ≤ 601024; omega), (by show slots + 18 ≤ 7293034; omega)⟩ hS (fr_in (D_mid hD) (fun q h => Nat.le_trans hS.1 h)) (fun v H locs hp9 hz1 hk1 hS => ?_)
    obtain ⟨z9, rfl, hp9⟩ := hp9
    have hPm := (hp9.resolve_left (fun h => hF h.1)).2
    obtain ⟨hP, hD⟩ := fr_mid hP hD hk1 hPm rfl
    have hP : va_P G vwCl (((wMain T q a N Z b M Y sc tx L cu er le nb nc) ++ [(o, eL T fo)]) ++ ((wMod T r mm pp tx (cmI (sq (thF (xs ((6 * j) + 1)) (nI (N 2))) (sq (thF (xs ((6 * j) + 2)) (nI (N 0))) (dyF (xs ((6 * j) + 3)))))) sc L ac ea le2 v1 v2 v3 v4 v5) ++ [(d, eD T fd)])) H := hP
    have hD : va_D (lA s) (((wMain T q a N Z b M Y sc tx L cu er le nb nc) ++ [(o, eL T fo)]) ++ ((wMod T r mm pp tx (cmI (sq (thF (xs ((6 * j) + 1)) (nI (N 2))) (sq (thF (xs ((6 * j) + 2)) (nI (N 0))) (dyF (xs ((6 * j) + 3)))))) sc L ac ea le2 v1 v2 v3 v4 v5) ++ [(d, eD T fd)])) := hD
    refine W.eq (g2 := F0 m 1615 ls [.int z9]) rfl ?_
    refine lv_istore (lv' := [(7, .int z9), (6, .int (cmI (sq (thF (xs ((6 * j) + 1)) (nI (N 2))) (sq (thF (xs ((6 * j) + 2)) (nI (N 0))) (dyF (xs ((6 * j) + 3))))))), (0, .ref b0), (1, .ref (q 0)), (2, .ref (r 0)), (3, .ref o), (4, .ref d), (5, .int (nI (6 * j)))]) hx hb dL_law_1615 hl (by decide) rfl (fun ls hl => ?_)
    refine lv_aload_n hx hb dL_law_1617 rfl (lv_at hl 4 rfl) ?_
    refine ro_V S hkx (mX6_thrown l (T := T) (r := r) (N := N) (Z := Z) (mm := mm) (pp := pp) (xx := tx) (th := (cmI (sq (thF (xs ((6 * j) + 1)) (nI (N 2))) (sq (thF (xs ((6 * j) + 2)) (nI (N 0))) (dyF (xs ((6 * j) + 3))))))) (sv := sc) (n1 := L) (ac := ac) (ea := ea) (le := le2) (v1 := v1) (v2 := v2) (v3 := v3) (v4 := v4) (v5 := v5) (hP := P_mid hP)) gL_law_X6_thrown rfl idX6_thrown ⟨Nat.le_of_ble_eq_true rfl, Nat.le_of_ble_eq_true rfl⟩ hP 101 rfl rfl rfl rfl hl.1 rfl (Nat.le_of_ble_eq_true rfl) dL_law_1618 ⟨(by show cells + 3 ≤ 601024; omega), (by show slots + 18 ≤ 7293034; omega)⟩ (fun r9 hr9 => ?_)
    subst hr9
    refine lv_iload hx hb dL_law_1621 (lv_at hl 1 rfl) ?_
    refine lv_icmp_eq (tgt := 1628) hx hb dL_law_1623 (by decide) (fun c_4 => ?_) (fun c_4 => ?_)
    · skip
      refine lv_iload hx hb dL_law_1628 (lv_at hl 1 rfl) ?_
      refine lv_if_ne (tgt := 1645) hx hb dL_law_1630 (by decide) (fun c_5 => ?_) (fun c_5 => ?_)
      · skip
        refine lv_goto (tgt := 2069) hx hb dL_law_1645 (by decide) ?_
        refine W.widen (k := cells + 3) (n := slots + 18) (by omega) (by omega) ?_
        exact hnext _ _ _ ⟨a, N, Z, b, M, Y, sc, tx, L, cu, er, le, nb, nc, mm, pp, (cmI (sq (thF (xs ((6 * j) + 1)) (nI (N 2))) (sq (thF (xs ((6 * j) + 2)) (nI (N 0))) (dyF (xs ((6 * j) + 3)))))), ac, ea, le2, v1, v2, v3, v4, v5, fo, fd, hT, hX, hP, hD⟩ hS (lv_sub hl [2, 3, 4, 5, 6, 7] rfl)
      · skip
        exact absurd c_5 hc0
    · skip
      exact absurd rfl c_4

set_option maxHeartbeats 4000000 in
set_option maxRecDepth 100000 in
theorem law_bestVersion (l : Launch) (hl0 : l.stackTraces = false) {G : va_G} {T : Nat → ClassId} {sa kk vv : Nat → Nat} {p : Program} {e : Env} {s : State} {m : MethodId} {below : List Frame} {meth : Method} {c : Code} {Q : State → Prop} {b0 LL : Nat} {xs : Nat → Int32} {q r : Nat → Nat} {o d : Nat} {a N : Nat → Nat} {Z : Nat → Nat → Int32} {b M : Nat → Nat → Nat} {Y : Nat → Nat → Nat → Int32} {sc : Nat} {tx : Nat → Int32} {L cu : Nat} {er le : Int32} {nb : Nat → Int32} {nc : Nat} {mm pp : Nat → Int32} {th ac ea le2 v1 v2 v3 v4 v5 : Int32} {fo : Int64} {fd : UInt64} {H : Heap} {locs : List Loc} {cells slots j : Nat} {ls : Array Slot} (K : LK G T sa kk vv p s m c b0 LL xs) (hl : lv_has ls 9 [(0, .ref b0), (1, .ref (q 0)), (2, .ref (r 0)), (3, .ref o), (4, .ref d), (5, .int (nI (6 * j)))]) (hj : 6 * j + 5 < LL) (hcs : cells + 3 ≤ 601024) (hss : slots + 18 ≤ 7293034) (hS : va_S (lA s) s.heap H locs) (hT : tie N Z mm M Y pp sc) (hX : txo tx L) (hP : va_P G vwCl (wL T q a N Z b M Y sc tx L cu er le nb nc r mm pp th ac ea le2 v1 v2 v3 v4 v5 o d fo fd) H) (hD : va_D (lA s) (wL T q a N Z b M Y sc tx L cu er le nb nc r mm pp th ac ea le2 v1 v2 v3 v4 v5 o d fo fd)) (hnext : ∀ (H : Heap) (locs : List Loc) (ls : Array Slot), inv G T q r o d (lA s) H → va_S (lA s) s.heap H locs → lv_has ls 9 [(0, .ref b0), (1, .ref (q 0)), (2, .ref (r 0)), (3, .ref o), (4, .ref d), (5, .int (nI (6 * j)))] → W p l e room_1 s m ([.ref b0] : List Value).toArray below meth c H locs (cells + 3) (slots + 18) Q (F0 m 2069 ls [])) : W p l e room_1 s m ([.ref b0] : List Value).toArray below meth c H locs cells slots Q (F0 m 1648 ls []) := by
  obtain ⟨S, hkx, -, hnc, -⟩ := id K
  have hx := S.1
  have hb := S.2.1
  have h9 := K.2.2.2.2.2.2.2
  have hX1 := hX.1
  have hP : va_P G vwCl (((wMain T q a N Z b M Y sc tx L cu er le nb nc) ++ [(o, eL T fo)]) ++ ((wMod T r mm pp tx th sc L ac ea le2 v1 v2 v3 v4 v5) ++ [(d, eD T fd)])) H := hP
  have hD : va_D (lA s) (((wMain T q a N Z b M Y sc tx L cu er le nb nc) ++ [(o, eL T fo)]) ++ ((wMod T r mm pp tx th sc L ac ea le2 v1 v2 v3 v4 v5) ++ [(d, eD T fd)])) := hD
  refine lv_aload_n hx hb dL_law_1648 rfl (lv_at hl 1 rfl) ?_
  refine lv_aload_n hx hb dL_law_1649 rfl (lv_at hl 0 rfl) ?_
  refine lv_iload hx hb dL_law_1650 (lv_at hl 5 rfl) ?_
  refine lv_iconst (v := 1) hx hb dL_law_1652 (by decide) ?_
  refine lv_iadd hx hb dL_law_1653 ?_
  rw [show ((nI (6 * j)) + 1) = (nI ((6 * j) + 1)) from nI_add (6 * j) 1]
  refine sld K hS ((6 * j) + 1) rfl (by omega) dL_law_1654 ?_
  refine lv_aload_n hx hb dL_law_1655 rfl (lv_at hl 0 rfl) ?_
  refine lv_iload hx hb dL_law_1656 (lv_at hl 5 rfl) ?_
  refine lv_iconst (v := 2) hx hb dL_law_1658 (by decide) ?_
  refine lv_iadd hx hb dL_law_1659 ?_
  rw [show ((nI (6 * j)) + 2) = (nI ((6 * j) + 2)) from nI_add (6 * j) 2]
  refine sld K hS ((6 * j) + 2) rfl (by omega) dL_law_1660 ?_
  refine lv_aload_n hx hb dL_law_1661 rfl (lv_at hl 3 rfl) ?_
  refine lw_S S hkx (K.2.2.1.kept hS.2.1) hnc (mL_bestVersion l hl0 (sa := sa) (A9 := lA s) (q := q) (a := a) (N := N) (Z := Z) (b := b) (M := M) (Y := Y) (sc := sc) (tx := tx) (L := L) (cu := cu) (er := er) (le := le) (nb := nb) (nc := nc) (u := (xs ((6 * j) + 1))) (d := (xs ((6 * j) + 2))) (o := o) (fo := fo) (hP := P_hd hP) (hD := (D_hd hD).weaken (fun _ _ _ _ => trivial)) (h9 := (fun q h => Nat.le_trans hS.1 h)) (hwf := hT.1)) gL_law_L_bestVersion rfl idL_bestVersion ⟨Nat.le_of_ble_eq_true rfl, Nat.le_of_ble_eq_true rfl⟩ rfl hl.1 rfl (Nat.le_of_ble_eq_true rfl) dL_law_1662 ⟨(by show cells + 2 ≤ 601024; omega), (by show slots + 12 ≤ 7293034; omega)⟩ hS (fr_in (D_hd hD) (fun q h => Nat.le_trans hS.1 h)) (fun v H locs hp9 hz1 hk1 hS => ?_)
  rcases hp9 with ⟨hF, rfl, hPc⟩ | ⟨hF, rfl, hPc⟩
  · obtain ⟨hP, hD⟩ := fr_hd hP hD hk1 hPc (addr_snoc (List.Perm.refl _))
    have hP : va_P G vwCl (((wMain T q a N Z b M Y sc tx L cu er le nb nc) ++ [(o, eL T (Int32.toInt64 ((vsm N Z (Z 6 (tn (xs ((6 * j) + 1)))) (xs ((6 * j) + 2)) (N 0)).1)))]) ++ ((wMod T r mm pp tx th sc L ac ea le2 v1 v2 v3 v4 v5) ++ [(d, eD T fd)])) H := hP
    have hD : va_D (lA s) (((wMain T q a N Z b M Y sc tx L cu er le nb nc) ++ [(o, eL T (Int32.toInt64 ((vsm N Z (Z 6 (tn (xs ((6 * j) + 1)))) (xs ((6 * j) + 2)) (N 0)).1)))]) ++ ((wMod T r mm pp tx th sc L ac ea le2 v1 v2 v3 v4 v5) ++ [(d, eD T fd)])) := hD
    refine W.eq (g2 := F0 m 1665 ls [.int 0]) rfl ?_
    refine lv_istore (lv' := [(6, .int 0), (0, .ref b0), (1, .ref (q 0)), (2, .ref (r 0)), (3, .ref o), (4, .ref d), (5, .int (nI (6 * j)))]) hx hb dL_law_1665 hl (by decide) rfl (fun ls hl => ?_)
    refine lv_aload_n hx hb dL_law_1667 rfl (lv_at hl 3 rfl) ?_
    refine lv_aload_n hx hb dL_law_1668 rfl (lv_at hl 1 rfl) ?_
    refine lv_iload hx hb dL_law_1669 (lv_at hl 6 rfl) ?_
    refine lv_iconst (v := 1) hx hb dL_law_1671 (by decide) ?_
    refine lv_iadd hx hb dL_law_1672 ?_
    rw [show ((nI (6 * j)) + 1) = (nI ((6 * j) + 1)) from nI_add (6 * j) 1]
    refine sld K hS ((6 * j) + 1) rfl (by omega) dL_law_1673 ?_
    refine lv_aload_n hx hb dL_law_1674 rfl (lv_at hl 1 rfl) ?_
    refine lv_iload hx hb dL_law_1675 (lv_at hl 6 rfl) ?_
    refine lv_iconst (v := 2) hx hb dL_law_1677 (by decide) ?_
    refine lv_iadd hx hb dL_law_1678 ?_
    rw [show ((nI (6 * j)) + 2) = (nI ((6 * j) + 2)) from nI_add (6 * j) 2]
    refine sld K hS ((6 * j) + 2) rfl (by omega) dL_law_1679 ?_
    refine mu_V S hkx (mX6_bestVersion l (T := T) (r := r) (N := N) (Z := Z) (mm := mm) (pp := pp) (xx := tx) (th := th) (sv := sc) (n1 := L) (ac := ac) (ea := ea) (le := le2) (v1 := v1) (v2 := v2) (v3 := v3) (v4 := v4) (v5 := v5) (u := (xs ((6 * j) + 1))) (d := (xs ((6 * j) + 2))) (hP := P_mid hP) (hD := (D_mid hD).weaken (fun _ _ _ _ => trivial)) (hwf := hT.1) (hr := hT.2.1)) gL_law_X6_bestVersion rfl idX6_bestVersion ⟨Nat.le_of_ble_eq_true rfl, Nat.le_of_ble_eq_true rfl⟩ hP 101 rfl rfl rfl rfl hl.1 rfl (Nat.le_of_ble_eq_true rfl) dL_law_1680 ⟨(by show cells + 2 ≤ 601024; omega), (by show slots + 12 ≤ 7293034; omega)⟩ hS (fr_in (D_mid hD) (fun q h => Nat.le_trans hS.1 h)) (fun v H locs hp9 hz1 hk1 hS => ?_)
    obtain ⟨z9, rfl, hp9⟩ := hp9
    obtain ⟨-, rfl, hPm⟩ := hp9.resolve_right (fun h => h.1 hF)
    obtain ⟨hP, hD⟩ := fr_mid hP hD hk1 hPm rfl
    have hP : va_P G vwCl (((wMain T q a N Z b M Y sc tx L cu er le nb nc) ++ [(o, eL T (Int32.toInt64 ((vsm N Z (Z 6 (tn (xs ((6 * j) + 1)))) (xs ((6 * j) + 2)) (N 0)).1)))]) ++ ((wMod T r mm pp tx 0 sc L ac ea le2 v1 v2 v3 v4 v5) ++ [(d, eD T fd)])) H := hP
    have hD : va_D (lA s) (((wMain T q a N Z b M Y sc tx L cu er le nb nc) ++ [(o, eL T (Int32.toInt64 ((vsm N Z (Z 6 (tn (xs ((6 * j) + 1)))) (xs ((6 * j) + 2)) (N 0)).1)))]) ++ ((wMod T r mm pp tx 0 sc L ac ea le2 v1 v2 v3 v4 v5) ++ [(d, eD T fd)])) := hD
    refine W.eq (g2 := F0 m 1683 ls [.int ((vsm N Z (Z 6 (tn (xs ((6 * j) + 1)))) (xs ((6 * j) + 2)) (N 0)).1)]) rfl ?_
    refine lv_istore (lv' := [(7, .int ((vsm N Z (Z 6 (tn (xs ((6 * j) + 1)))) (xs ((6 * j) + 2)) (N 0)).1)), (6, .int 0), (0, .ref b0), (1, .ref (q 0)), (2, .ref (r 0)), (3, .ref o), (4, .ref d), (5, .int (nI (6 * j)))]) hx hb dL_law_1683 hl (by decide) rfl (fun ls hl => ?_)
    refine lv_aload_n hx hb dL_law_1685 rfl (lv_at hl 4 rfl) ?_
    refine ro_V S hkx (mX6_thrown l (T := T) (r := r) (N := N) (Z := Z) (mm := mm) (pp := pp) (xx := tx) (th := 0) (sv := sc) (n1 := L) (ac := ac) (ea := ea) (le := le2) (v1 := v1) (v2 := v2) (v3 := v3) (v4 := v4) (v5 := v5) (hP := P_mid hP)) gL_law_X6_thrown rfl idX6_thrown ⟨Nat.le_of_ble_eq_true rfl, Nat.le_of_ble_eq_true rfl⟩ hP 101 rfl rfl rfl rfl hl.1 rfl (Nat.le_of_ble_eq_true rfl) dL_law_1686 ⟨(by show cells + 2 ≤ 601024; omega), (by show slots + 12 ≤ 7293034; omega)⟩ (fun r9 hr9 => ?_)
    subst hr9
    refine lv_iload hx hb dL_law_1689 (lv_at hl 1 rfl) ?_
    refine lv_icmp_eq (tgt := 1696) hx hb dL_law_1691 (by decide) (fun c_1 => ?_) (fun c_1 => ?_)
    · replace c_1 := cn_eq (a := 0) (b := 0) (by omega) (by omega) c_1
      refine lv_iload hx hb dL_law_1696 (lv_at hl 1 rfl) ?_
      refine lv_if_ne (tgt := 1713) hx hb dL_law_1698 (by decide) (fun c_2 => ?_) (fun c_2 => ?_)
      · replace c_2 := cn_ne (a := 0) (b := 0) (by omega) (by omega) c_2
        exact absurd c_2 (by decide)
      · replace c_2 := cn_eq (a := 0) (b := 0) (by omega) (by omega) c_2
        refine lv_aload_n hx hb dL_law_1701 rfl (lv_at hl 5 rfl) ?_
        refine lv_iconst (v := 0) hx hb dL_law_1702 (by decide) ?_
        refine lld0 hx hb hkx hP 100 rfl dL_law_1703 ?_
        refine lv_iload hx hb dL_law_1704 (lv_at hl 0 rfl) ?_
        refine lv_i2l hx hb dL_law_1706 rfl ?_
        refine W.lcmp hx hb dL_law_1707 ?_
        rw [lg_self]
        refine lv_if_eq (tgt := 1713) hx hb dL_law_1708 (by decide) (fun c_3 => ?_) (fun c_3 => ?_)
        · replace c_3 := cn_eq (a := 0) (b := 0) (by omega) (by omega) c_3
          refine lv_goto (tgt := 2069) hx hb dL_law_1713 (by decide) ?_
          refine W.widen (k := cells + 3) (n := slots + 18) (by omega) (by omega) ?_
          exact hnext _ _ _ ⟨a, N, Z, b, M, Y, sc, tx, L, cu, er, le, nb, nc, mm, pp, 0, ac, ea, le2, v1, v2, v3, v4, v5, (Int32.toInt64 ((vsm N Z (Z 6 (tn (xs ((6 * j) + 1)))) (xs ((6 * j) + 2)) (N 0)).1)), fd, hT, hX, hP, hD⟩ hS (lv_sub hl [2, 3, 4, 5, 6, 7] rfl)
        · replace c_3 := cn_ne (a := 0) (b := 0) (by omega) (by omega) c_3
          exact absurd c_3 (by decide)
    · replace c_1 := cn_ne (a := 0) (b := 0) (by omega) (by omega) c_1
      exact absurd c_1 (by decide)
  · obtain ⟨hP, hD⟩ := fr_hd hP hD hk1 hPc (List.Perm.refl _)
    have hc0 := (nz_I (le_sq (le_th _ _) (le_wi _ _ _)) hF)
    have hP : va_P G vwCl (((wMain T q a N Z b M Y sc tx L cu er le nb nc) ++ [(o, eL T fo)]) ++ ((wMod T r mm pp tx th sc L ac ea le2 v1 v2 v3 v4 v5) ++ [(d, eD T fd)])) H := hP
    have hD : va_D (lA s) (((wMain T q a N Z b M Y sc tx L cu er le nb nc) ++ [(o, eL T fo)]) ++ ((wMod T r mm pp tx th sc L ac ea le2 v1 v2 v3 v4 v5) ++ [(d, eD T fd)])) := hD
    refine W.eq (g2 := F0 m 1665 ls [.int (cmI (sq (thF (xs ((6 * j) + 1)) (nI (N 2))) (dyF (xs ((6 * j) + 2)))))]) rfl ?_
    refine lv_istore (lv' := [(6, .int (cmI (sq (thF (xs ((6 * j) + 1)) (nI (N 2))) (dyF (xs ((6 * j) + 2)))))), (0, .ref b0), (1, .ref (q 0)), (2, .ref (r 0)), (3, .ref o), (4, .ref d), (5, .int (nI (6 * j)))]) hx hb dL_law_1665 hl (by decide) rfl (fun ls hl => ?_)
    refine lv_aload_n hx hb dL_law_1667 rfl (lv_at hl 3 rfl) ?_
    refine lv_aload_n hx hb dL_law_1668 rfl (lv_at hl 1 rfl) ?_
    refine lv_iload hx hb dL_law_1669 (lv_at hl 6 rfl) ?_
    refine lv_iconst (v := 1) hx hb dL_law_1671 (by decide) ?_
    refine lv_iadd hx hb dL_law_1672 ?_
    rw [show ((nI (6 * j)) + 1) = (nI ((6 * j) + 1)) from nI_add (6 * j) 1]
    refine sld K hS ((6 * j) + 1) rfl (by omega) dL_law_1673 ?_
    refine lv_aload_n hx hb dL_law_1674 rfl (lv_at hl 1 rfl) ?_
    refine lv_iload hx hb dL_law_1675 (lv_at hl 6 rfl) ?_
    refine lv_iconst (v := 2) hx hb dL_law_1677 (by decide) ?_
    refine lv_iadd hx hb dL_law_1678 ?_
    rw [show ((nI (6 * j)) + 2) = (nI ((6 * j) + 2)) from nI_add (6 * j) 2]
    refine sld K hS ((6 * j) + 2) rfl (by omega) dL_law_1679 ?_
    refine mu_V S hkx (mX6_bestVersion l (T := T) (r := r) (N := N) (Z := Z) (mm := mm) (pp := pp) (xx := tx) (th := th) (sv := sc) (n1 := L) (ac := ac) (ea := ea) (le := le2) (v1 := v1) (v2 := v2) (v3 := v3) (v4 := v4) (v5 := v5) (u := (xs ((6 * j) + 1))) (d := (xs ((6 * j) + 2))) (hP := P_mid hP) (hD := (D_mid hD).weaken (fun _ _ _ _ => trivial)) (hwf := hT.1) (hr := hT.2.1)) gL_law_X6_bestVersion rfl idX6_bestVersion ⟨Nat.le_of_ble_eq_true rfl, Nat.le_of_ble_eq_true rfl⟩ hP 101 rfl rfl rfl rfl hl.1 rfl (Nat.le_of_ble_eq_true rfl) dL_law_1680 ⟨(by show cells + 2 ≤ 601024; omega), (by show slots + 12 ≤ 7293034; omega)⟩ hS (fr_in (D_mid hD) (fun q h => Nat.le_trans hS.1 h)) (fun v H locs hp9 hz1 hk1 hS => ?_)
    obtain ⟨z9, rfl, hp9⟩ := hp9
    have hPm := (hp9.resolve_left (fun h => hF h.1)).2
    obtain ⟨hP, hD⟩ := fr_mid hP hD hk1 hPm rfl
    have hP : va_P G vwCl (((wMain T q a N Z b M Y sc tx L cu er le nb nc) ++ [(o, eL T fo)]) ++ ((wMod T r mm pp tx (cmI (sq (thF (xs ((6 * j) + 1)) (nI (N 2))) (dyF (xs ((6 * j) + 2))))) sc L ac ea le2 v1 v2 v3 v4 v5) ++ [(d, eD T fd)])) H := hP
    have hD : va_D (lA s) (((wMain T q a N Z b M Y sc tx L cu er le nb nc) ++ [(o, eL T fo)]) ++ ((wMod T r mm pp tx (cmI (sq (thF (xs ((6 * j) + 1)) (nI (N 2))) (dyF (xs ((6 * j) + 2))))) sc L ac ea le2 v1 v2 v3 v4 v5) ++ [(d, eD T fd)])) := hD
    refine W.eq (g2 := F0 m 1683 ls [.int z9]) rfl ?_
    refine lv_istore (lv' := [(7, .int z9), (6, .int (cmI (sq (thF (xs ((6 * j) + 1)) (nI (N 2))) (dyF (xs ((6 * j) + 2)))))), (0, .ref b0), (1, .ref (q 0)), (2, .ref (r 0)), (3, .ref o), (4, .ref d), (5, .int (nI (6 * j)))]) hx hb dL_law_1683 hl (by decide) rfl (fun ls hl => ?_)
    refine lv_aload_n hx hb dL_law_1685 rfl (lv_at hl 4 rfl) ?_
    refine ro_V S hkx (mX6_thrown l (T := T) (r := r) (N := N) (Z := Z) (mm := mm) (pp := pp) (xx := tx) (th := (cmI (sq (thF (xs ((6 * j) + 1)) (nI (N 2))) (dyF (xs ((6 * j) + 2)))))) (sv := sc) (n1 := L) (ac := ac) (ea := ea) (le := le2) (v1 := v1) (v2 := v2) (v3 := v3) (v4 := v4) (v5 := v5) (hP := P_mid hP)) gL_law_X6_thrown rfl idX6_thrown ⟨Nat.le_of_ble_eq_true rfl, Nat.le_of_ble_eq_true rfl⟩ hP 101 rfl rfl rfl rfl hl.1 rfl (Nat.le_of_ble_eq_true rfl) dL_law_1686 ⟨(by show cells + 2 ≤ 601024; omega), (by show slots + 12 ≤ 7293034; omega)⟩ (fun r9 hr9 => ?_)
    subst hr9
    refine lv_iload hx hb dL_law_1689 (lv_at hl 1 rfl) ?_
    refine lv_icmp_eq (tgt := 1696) hx hb dL_law_1691 (by decide) (fun c_4 => ?_) (fun c_4 => ?_)
    · skip
      refine lv_iload hx hb dL_law_1696 (lv_at hl 1 rfl) ?_
      refine lv_if_ne (tgt := 1713) hx hb dL_law_1698 (by decide) (fun c_5 => ?_) (fun c_5 => ?_)
      · skip
        refine lv_goto (tgt := 2069) hx hb dL_law_1713 (by decide) ?_
        refine W.widen (k := cells + 3) (n := slots + 18) (by omega) (by omega) ?_
        exact hnext _ _ _ ⟨a, N, Z, b, M, Y, sc, tx, L, cu, er, le, nb, nc, mm, pp, (cmI (sq (thF (xs ((6 * j) + 1)) (nI (N 2))) (dyF (xs ((6 * j) + 2))))), ac, ea, le2, v1, v2, v3, v4, v5, fo, fd, hT, hX, hP, hD⟩ hS (lv_sub hl [2, 3, 4, 5, 6, 7] rfl)
      · skip
        exact absurd c_5 hc0
    · skip
      exact absurd rfl c_4

set_option maxHeartbeats 4000000 in
set_option maxRecDepth 100000 in
theorem law_cheapest (l : Launch) (hl0 : l.stackTraces = false) {G : va_G} {T : Nat → ClassId} {sa kk vv : Nat → Nat} {p : Program} {e : Env} {s : State} {m : MethodId} {below : List Frame} {meth : Method} {c : Code} {Q : State → Prop} {b0 LL : Nat} {xs : Nat → Int32} {q r : Nat → Nat} {o d : Nat} {a N : Nat → Nat} {Z : Nat → Nat → Int32} {b M : Nat → Nat → Nat} {Y : Nat → Nat → Nat → Int32} {sc : Nat} {tx : Nat → Int32} {L cu : Nat} {er le : Int32} {nb : Nat → Int32} {nc : Nat} {mm pp : Nat → Int32} {th ac ea le2 v1 v2 v3 v4 v5 : Int32} {fo : Int64} {fd : UInt64} {H : Heap} {locs : List Loc} {cells slots j : Nat} {ls : Array Slot} (K : LK G T sa kk vv p s m c b0 LL xs) (hl : lv_has ls 9 [(0, .ref b0), (1, .ref (q 0)), (2, .ref (r 0)), (3, .ref o), (4, .ref d), (5, .int (nI (6 * j)))]) (hj : 6 * j + 5 < LL) (hcs : cells + 3 ≤ 601024) (hss : slots + 18 ≤ 7293034) (hS : va_S (lA s) s.heap H locs) (hT : tie N Z mm M Y pp sc) (hX : txo tx L) (hP : va_P G vwCl (wL T q a N Z b M Y sc tx L cu er le nb nc r mm pp th ac ea le2 v1 v2 v3 v4 v5 o d fo fd) H) (hD : va_D (lA s) (wL T q a N Z b M Y sc tx L cu er le nb nc r mm pp th ac ea le2 v1 v2 v3 v4 v5 o d fo fd)) (hnext : ∀ (H : Heap) (locs : List Loc) (ls : Array Slot), inv G T q r o d (lA s) H → va_S (lA s) s.heap H locs → lv_has ls 9 [(0, .ref b0), (1, .ref (q 0)), (2, .ref (r 0)), (3, .ref o), (4, .ref d), (5, .int (nI (6 * j)))] → W p l e room_1 s m ([.ref b0] : List Value).toArray below meth c H locs (cells + 3) (slots + 18) Q (F0 m 2069 ls [])) : W p l e room_1 s m ([.ref b0] : List Value).toArray below meth c H locs cells slots Q (F0 m 1716 ls []) := by
  obtain ⟨S, hkx, -, hnc, -⟩ := id K
  have hx := S.1
  have hb := S.2.1
  have h9 := K.2.2.2.2.2.2.2
  have hX1 := hX.1
  have hP : va_P G vwCl (((wMain T q a N Z b M Y sc tx L cu er le nb nc) ++ [(o, eL T fo)]) ++ ((wMod T r mm pp tx th sc L ac ea le2 v1 v2 v3 v4 v5) ++ [(d, eD T fd)])) H := hP
  have hD : va_D (lA s) (((wMain T q a N Z b M Y sc tx L cu er le nb nc) ++ [(o, eL T fo)]) ++ ((wMod T r mm pp tx th sc L ac ea le2 v1 v2 v3 v4 v5) ++ [(d, eD T fd)])) := hD
  refine lv_aload_n hx hb dL_law_1716 rfl (lv_at hl 1 rfl) ?_
  refine lv_aload_n hx hb dL_law_1717 rfl (lv_at hl 0 rfl) ?_
  refine lv_iload hx hb dL_law_1718 (lv_at hl 5 rfl) ?_
  refine lv_iconst (v := 1) hx hb dL_law_1720 (by decide) ?_
  refine lv_iadd hx hb dL_law_1721 ?_
  rw [show ((nI (6 * j)) + 1) = (nI ((6 * j) + 1)) from nI_add (6 * j) 1]
  refine sld K hS ((6 * j) + 1) rfl (by omega) dL_law_1722 ?_
  refine lv_aload_n hx hb dL_law_1723 rfl (lv_at hl 0 rfl) ?_
  refine lv_iload hx hb dL_law_1724 (lv_at hl 5 rfl) ?_
  refine lv_iconst (v := 2) hx hb dL_law_1726 (by decide) ?_
  refine lv_iadd hx hb dL_law_1727 ?_
  rw [show ((nI (6 * j)) + 2) = (nI ((6 * j) + 2)) from nI_add (6 * j) 2]
  refine sld K hS ((6 * j) + 2) rfl (by omega) dL_law_1728 ?_
  refine lv_aload_n hx hb dL_law_1729 rfl (lv_at hl 0 rfl) ?_
  refine lv_iload hx hb dL_law_1730 (lv_at hl 5 rfl) ?_
  refine lv_iconst (v := 3) hx hb dL_law_1732 (by decide) ?_
  refine lv_iadd hx hb dL_law_1733 ?_
  rw [show ((nI (6 * j)) + 3) = (nI ((6 * j) + 3)) from nI_add (6 * j) 3]
  refine sld K hS ((6 * j) + 3) rfl (by omega) dL_law_1734 ?_
  refine lv_aload_n hx hb dL_law_1735 rfl (lv_at hl 3 rfl) ?_
  refine lw_S S hkx (K.2.2.1.kept hS.2.1) hnc (mL_cheapest l hl0 (sa := sa) (A9 := lA s) (q := q) (a := a) (N := N) (Z := Z) (b := b) (M := M) (Y := Y) (sc := sc) (tx := tx) (L := L) (cu := cu) (er := er) (le := le) (nb := nb) (nc := nc) (u := (xs ((6 * j) + 1))) (f := (xs ((6 * j) + 2))) (w := (xs ((6 * j) + 3))) (o := o) (fo := fo) (hP := P_hd hP) (hD := (D_hd hD).weaken (fun _ _ _ _ => trivial)) (h9 := (fun q h => Nat.le_trans hS.1 h)) (hwf := hT.1)) gL_law_L_cheapest rfl idL_cheapest ⟨Nat.le_of_ble_eq_true rfl, Nat.le_of_ble_eq_true rfl⟩ rfl hl.1 rfl (Nat.le_of_ble_eq_true rfl) dL_law_1736 ⟨(by show cells + 3 ≤ 601024; omega), (by show slots + 18 ≤ 7293034; omega)⟩ hS (fr_in (D_hd hD) (fun q h => Nat.le_trans hS.1 h)) (fun v H locs hp9 hz1 hk1 hS => ?_)
  rcases hp9 with ⟨hF, rfl, hPc⟩ | ⟨hF, rfl, hPc⟩
  · obtain ⟨hP, hD⟩ := fr_hd hP hD hk1 hPc (addr_snoc (List.Perm.refl _))
    have hP : va_P G vwCl (((wMain T q a N Z b M Y sc tx L cu er le nb nc) ++ [(o, eL T (Int32.toInt64 ((vcl N Z (Z 6 (tn (xs ((6 * j) + 1)))) (tn (xs ((6 * j) + 2))) (tn (xs ((6 * j) + 3))) (N 0)).1)))]) ++ ((wMod T r mm pp tx th sc L ac ea le2 v1 v2 v3 v4 v5) ++ [(d, eD T fd)])) H := hP
    have hD : va_D (lA s) (((wMain T q a N Z b M Y sc tx L cu er le nb nc) ++ [(o, eL T (Int32.toInt64 ((vcl N Z (Z 6 (tn (xs ((6 * j) + 1)))) (tn (xs ((6 * j) + 2))) (tn (xs ((6 * j) + 3))) (N 0)).1)))]) ++ ((wMod T r mm pp tx th sc L ac ea le2 v1 v2 v3 v4 v5) ++ [(d, eD T fd)])) := hD
    refine W.eq (g2 := F0 m 1739 ls [.int 0]) rfl ?_
    refine lv_istore (lv' := [(6, .int 0), (0, .ref b0), (1, .ref (q 0)), (2, .ref (r 0)), (3, .ref o), (4, .ref d), (5, .int (nI (6 * j)))]) hx hb dL_law_1739 hl (by decide) rfl (fun ls hl => ?_)
    refine lv_aload_n hx hb dL_law_1741 rfl (lv_at hl 3 rfl) ?_
    refine lv_aload_n hx hb dL_law_1742 rfl (lv_at hl 1 rfl) ?_
    refine lv_iload hx hb dL_law_1743 (lv_at hl 6 rfl) ?_
    refine lv_iconst (v := 1) hx hb dL_law_1745 (by decide) ?_
    refine lv_iadd hx hb dL_law_1746 ?_
    rw [show ((nI (6 * j)) + 1) = (nI ((6 * j) + 1)) from nI_add (6 * j) 1]
    refine sld K hS ((6 * j) + 1) rfl (by omega) dL_law_1747 ?_
    refine lv_aload_n hx hb dL_law_1748 rfl (lv_at hl 1 rfl) ?_
    refine lv_iload hx hb dL_law_1749 (lv_at hl 6 rfl) ?_
    refine lv_iconst (v := 2) hx hb dL_law_1751 (by decide) ?_
    refine lv_iadd hx hb dL_law_1752 ?_
    rw [show ((nI (6 * j)) + 2) = (nI ((6 * j) + 2)) from nI_add (6 * j) 2]
    refine sld K hS ((6 * j) + 2) rfl (by omega) dL_law_1753 ?_
    refine lv_aload_n hx hb dL_law_1754 rfl (lv_at hl 1 rfl) ?_
    refine lv_iload hx hb dL_law_1755 (lv_at hl 6 rfl) ?_
    refine lv_iconst (v := 3) hx hb dL_law_1757 (by decide) ?_
    refine lv_iadd hx hb dL_law_1758 ?_
    rw [show ((nI (6 * j)) + 3) = (nI ((6 * j) + 3)) from nI_add (6 * j) 3]
    refine sld K hS ((6 * j) + 3) rfl (by omega) dL_law_1759 ?_
    refine mu_V S hkx (mX6_cheapest l (T := T) (r := r) (N := N) (Z := Z) (mm := mm) (pp := pp) (xx := tx) (th := th) (sv := sc) (n1 := L) (ac := ac) (ea := ea) (le := le2) (v1 := v1) (v2 := v2) (v3 := v3) (v4 := v4) (v5 := v5) (u := (xs ((6 * j) + 1))) (f := (xs ((6 * j) + 2))) (w := (xs ((6 * j) + 3))) (hP := P_mid hP) (hD := (D_mid hD).weaken (fun _ _ _ _ => trivial)) (hwf := hT.1) (hr := hT.2.1)) gL_law_X6_cheapest rfl idX6_cheapest ⟨Nat.le_of_ble_eq_true rfl, Nat.le_of_ble_eq_true rfl⟩ hP 101 rfl rfl rfl rfl hl.1 rfl (Nat.le_of_ble_eq_true rfl) dL_law_1760 ⟨(by show cells + 3 ≤ 601024; omega), (by show slots + 18 ≤ 7293034; omega)⟩ hS (fr_in (D_mid hD) (fun q h => Nat.le_trans hS.1 h)) (fun v H locs hp9 hz1 hk1 hS => ?_)
    obtain ⟨z9, rfl, hp9⟩ := hp9
    obtain ⟨-, rfl, hPm⟩ := hp9.resolve_right (fun h => h.1 hF)
    obtain ⟨hP, hD⟩ := fr_mid hP hD hk1 hPm rfl
    have hP : va_P G vwCl (((wMain T q a N Z b M Y sc tx L cu er le nb nc) ++ [(o, eL T (Int32.toInt64 ((vcl N Z (Z 6 (tn (xs ((6 * j) + 1)))) (tn (xs ((6 * j) + 2))) (tn (xs ((6 * j) + 3))) (N 0)).1)))]) ++ ((wMod T r mm pp tx 0 sc L ac ea le2 v1 v2 v3 v4 v5) ++ [(d, eD T fd)])) H := hP
    have hD : va_D (lA s) (((wMain T q a N Z b M Y sc tx L cu er le nb nc) ++ [(o, eL T (Int32.toInt64 ((vcl N Z (Z 6 (tn (xs ((6 * j) + 1)))) (tn (xs ((6 * j) + 2))) (tn (xs ((6 * j) + 3))) (N 0)).1)))]) ++ ((wMod T r mm pp tx 0 sc L ac ea le2 v1 v2 v3 v4 v5) ++ [(d, eD T fd)])) := hD
    refine W.eq (g2 := F0 m 1763 ls [.int ((vcl N Z (Z 6 (tn (xs ((6 * j) + 1)))) (tn (xs ((6 * j) + 2))) (tn (xs ((6 * j) + 3))) (N 0)).1)]) rfl ?_
    refine lv_istore (lv' := [(7, .int ((vcl N Z (Z 6 (tn (xs ((6 * j) + 1)))) (tn (xs ((6 * j) + 2))) (tn (xs ((6 * j) + 3))) (N 0)).1)), (6, .int 0), (0, .ref b0), (1, .ref (q 0)), (2, .ref (r 0)), (3, .ref o), (4, .ref d), (5, .int (nI (6 * j)))]) hx hb dL_law_1763 hl (by decide) rfl (fun ls hl => ?_)
    refine lv_aload_n hx hb dL_law_1765 rfl (lv_at hl 4 rfl) ?_
    refine ro_V S hkx (mX6_thrown l (T := T) (r := r) (N := N) (Z := Z) (mm := mm) (pp := pp) (xx := tx) (th := 0) (sv := sc) (n1 := L) (ac := ac) (ea := ea) (le := le2) (v1 := v1) (v2 := v2) (v3 := v3) (v4 := v4) (v5 := v5) (hP := P_mid hP)) gL_law_X6_thrown rfl idX6_thrown ⟨Nat.le_of_ble_eq_true rfl, Nat.le_of_ble_eq_true rfl⟩ hP 101 rfl rfl rfl rfl hl.1 rfl (Nat.le_of_ble_eq_true rfl) dL_law_1766 ⟨(by show cells + 3 ≤ 601024; omega), (by show slots + 18 ≤ 7293034; omega)⟩ (fun r9 hr9 => ?_)
    subst hr9
    refine lv_iload hx hb dL_law_1769 (lv_at hl 1 rfl) ?_
    refine lv_icmp_eq (tgt := 1776) hx hb dL_law_1771 (by decide) (fun c_1 => ?_) (fun c_1 => ?_)
    · replace c_1 := cn_eq (a := 0) (b := 0) (by omega) (by omega) c_1
      refine lv_iload hx hb dL_law_1776 (lv_at hl 1 rfl) ?_
      refine lv_if_ne (tgt := 1793) hx hb dL_law_1778 (by decide) (fun c_2 => ?_) (fun c_2 => ?_)
      · replace c_2 := cn_ne (a := 0) (b := 0) (by omega) (by omega) c_2
        exact absurd c_2 (by decide)
      · replace c_2 := cn_eq (a := 0) (b := 0) (by omega) (by omega) c_2
        refine lv_aload_n hx hb dL_law_1781 rfl (lv_at hl 5 rfl) ?_
        refine lv_iconst (v := 0) hx hb dL_law_1782 (by decide) ?_
        refine lld0 hx hb hkx hP 100 rfl dL_law_1783 ?_
        refine lv_iload hx hb dL_law_1784 (lv_at hl 0 rfl) ?_
        refine lv_i2l hx hb dL_law_1786 rfl ?_
        refine W.lcmp hx hb dL_law_1787 ?_
        rw [lg_self]
        refine lv_if_eq (tgt := 1793) hx hb dL_law_1788 (by decide) (fun c_3 => ?_) (fun c_3 => ?_)
        · replace c_3 := cn_eq (a := 0) (b := 0) (by omega) (by omega) c_3
          refine lv_goto (tgt := 2069) hx hb dL_law_1793 (by decide) ?_
          refine W.widen (k := cells + 3) (n := slots + 18) (by omega) (by omega) ?_
          exact hnext _ _ _ ⟨a, N, Z, b, M, Y, sc, tx, L, cu, er, le, nb, nc, mm, pp, 0, ac, ea, le2, v1, v2, v3, v4, v5, (Int32.toInt64 ((vcl N Z (Z 6 (tn (xs ((6 * j) + 1)))) (tn (xs ((6 * j) + 2))) (tn (xs ((6 * j) + 3))) (N 0)).1)), fd, hT, hX, hP, hD⟩ hS (lv_sub hl [2, 3, 4, 5, 6, 7] rfl)
        · replace c_3 := cn_ne (a := 0) (b := 0) (by omega) (by omega) c_3
          exact absurd c_3 (by decide)
    · replace c_1 := cn_ne (a := 0) (b := 0) (by omega) (by omega) c_1
      exact absurd c_1 (by decide)
  · obtain ⟨hP, hD⟩ := fr_hd hP hD hk1 hPc (List.Perm.refl _)
    have hc0 := (nz_I (le_sq (le_th _ _) (le_sq (le_wi _ _ _) (le_wi _ _ _))) hF)
    have hP : va_P G vwCl (((wMain T q a N Z b M Y sc tx L cu er le nb nc) ++ [(o, eL T fo)]) ++ ((wMod T r mm pp tx th sc L ac ea le2 v1 v2 v3 v4 v5) ++ [(d, eD T fd)])) H := hP
    have hD : va_D (lA s) (((wMain T q a N Z b M Y sc tx L cu er le nb nc) ++ [(o, eL T fo)]) ++ ((wMod T r mm pp tx th sc L ac ea le2 v1 v2 v3 v4 v5) ++ [(d, eD T fd)])) := hD
    refine W.eq (g2 := F0 m 1739 ls [.int (cmI (sq (thF (xs ((6 * j) + 1)) (nI (N 2))) (sq (dyF (xs ((6 * j) + 2))) (wiF (xs ((6 * j) + 3)) (xs ((6 * j) + 2)) 999))))]) rfl ?_
    refine lv_istore (lv' := [(6, .int (cmI (sq (thF (xs ((6 * j) + 1)) (nI (N 2))) (sq (dyF (xs ((6 * j) + 2))) (wiF (xs ((6 * j) + 3)) (xs ((6 * j) + 2)) 999))))), (0, .ref b0), (1, .ref (q 0)), (2, .ref (r 0)), (3, .ref o), (4, .ref d), (5, .int (nI (6 * j)))]) hx hb dL_law_1739 hl (by decide) rfl (fun ls hl => ?_)
    refine lv_aload_n hx hb dL_law_1741 rfl (lv_at hl 3 rfl) ?_
    refine lv_aload_n hx hb dL_law_1742 rfl (lv_at hl 1 rfl) ?_
    refine lv_iload hx hb dL_law_1743 (lv_at hl 6 rfl) ?_
    refine lv_iconst (v := 1) hx hb dL_law_1745 (by decide) ?_
    refine lv_iadd hx hb dL_law_1746 ?_
    rw [show ((nI (6 * j)) + 1) = (nI ((6 * j) + 1)) from nI_add (6 * j) 1]
    refine sld K hS ((6 * j) + 1) rfl (by omega) dL_law_1747 ?_
    refine lv_aload_n hx hb dL_law_1748 rfl (lv_at hl 1 rfl) ?_
    refine lv_iload hx hb dL_law_1749 (lv_at hl 6 rfl) ?_
    refine lv_iconst (v := 2) hx hb dL_law_1751 (by decide) ?_
    refine lv_iadd hx hb dL_law_1752 ?_
    rw [show ((nI (6 * j)) + 2) = (nI ((6 * j) + 2)) from nI_add (6 * j) 2]
    refine sld K hS ((6 * j) + 2) rfl (by omega) dL_law_1753 ?_
    refine lv_aload_n hx hb dL_law_1754 rfl (lv_at hl 1 rfl) ?_
    refine lv_iload hx hb dL_law_1755 (lv_at hl 6 rfl) ?_
    refine lv_iconst (v := 3) hx hb dL_law_1757 (by decide) ?_
    refine lv_iadd hx hb dL_law_1758 ?_
    rw [show ((nI (6 * j)) + 3) = (nI ((6 * j) + 3)) from nI_add (6 * j) 3]
    refine sld K hS ((6 * j) + 3) rfl (by omega) dL_law_1759 ?_
    refine mu_V S hkx (mX6_cheapest l (T := T) (r := r) (N := N) (Z := Z) (mm := mm) (pp := pp) (xx := tx) (th := th) (sv := sc) (n1 := L) (ac := ac) (ea := ea) (le := le2) (v1 := v1) (v2 := v2) (v3 := v3) (v4 := v4) (v5 := v5) (u := (xs ((6 * j) + 1))) (f := (xs ((6 * j) + 2))) (w := (xs ((6 * j) + 3))) (hP := P_mid hP) (hD := (D_mid hD).weaken (fun _ _ _ _ => trivial)) (hwf := hT.1) (hr := hT.2.1)) gL_law_X6_cheapest rfl idX6_cheapest ⟨Nat.le_of_ble_eq_true rfl, Nat.le_of_ble_eq_true rfl⟩ hP 101 rfl rfl rfl rfl hl.1 rfl (Nat.le_of_ble_eq_true rfl) dL_law_1760 ⟨(by show cells + 3 ≤ 601024; omega), (by show slots + 18 ≤ 7293034; omega)⟩ hS (fr_in (D_mid hD) (fun q h => Nat.le_trans hS.1 h)) (fun v H locs hp9 hz1 hk1 hS => ?_)
    obtain ⟨z9, rfl, hp9⟩ := hp9
    have hPm := (hp9.resolve_left (fun h => hF h.1)).2
    obtain ⟨hP, hD⟩ := fr_mid hP hD hk1 hPm rfl
    have hP : va_P G vwCl (((wMain T q a N Z b M Y sc tx L cu er le nb nc) ++ [(o, eL T fo)]) ++ ((wMod T r mm pp tx (cmI (sq (thF (xs ((6 * j) + 1)) (nI (N 2))) (sq (dyF (xs ((6 * j) + 2))) (wiF (xs ((6 * j) + 3)) (xs ((6 * j) + 2)) 999)))) sc L ac ea le2 v1 v2 v3 v4 v5) ++ [(d, eD T fd)])) H := hP
    have hD : va_D (lA s) (((wMain T q a N Z b M Y sc tx L cu er le nb nc) ++ [(o, eL T fo)]) ++ ((wMod T r mm pp tx (cmI (sq (thF (xs ((6 * j) + 1)) (nI (N 2))) (sq (dyF (xs ((6 * j) + 2))) (wiF (xs ((6 * j) + 3)) (xs ((6 * j) + 2)) 999)))) sc L ac ea le2 v1 v2 v3 v4 v5) ++ [(d, eD T fd)])) := hD
    refine W.eq (g2 := F0 m 1763 ls [.int z9]) rfl ?_
    refine lv_istore (lv' := [(7, .int z9), (6, .int (cmI (sq (thF (xs ((6 * j) + 1)) (nI (N 2))) (sq (dyF (xs ((6 * j) + 2))) (wiF (xs ((6 * j) + 3)) (xs ((6 * j) + 2)) 999))))), (0, .ref b0), (1, .ref (q 0)), (2, .ref (r 0)), (3, .ref o), (4, .ref d), (5, .int (nI (6 * j)))]) hx hb dL_law_1763 hl (by decide) rfl (fun ls hl => ?_)
    refine lv_aload_n hx hb dL_law_1765 rfl (lv_at hl 4 rfl) ?_
    refine ro_V S hkx (mX6_thrown l (T := T) (r := r) (N := N) (Z := Z) (mm := mm) (pp := pp) (xx := tx) (th := (cmI (sq (thF (xs ((6 * j) + 1)) (nI (N 2))) (sq (dyF (xs ((6 * j) + 2))) (wiF (xs ((6 * j) + 3)) (xs ((6 * j) + 2)) 999))))) (sv := sc) (n1 := L) (ac := ac) (ea := ea) (le := le2) (v1 := v1) (v2 := v2) (v3 := v3) (v4 := v4) (v5 := v5) (hP := P_mid hP)) gL_law_X6_thrown rfl idX6_thrown ⟨Nat.le_of_ble_eq_true rfl, Nat.le_of_ble_eq_true rfl⟩ hP 101 rfl rfl rfl rfl hl.1 rfl (Nat.le_of_ble_eq_true rfl) dL_law_1766 ⟨(by show cells + 3 ≤ 601024; omega), (by show slots + 18 ≤ 7293034; omega)⟩ (fun r9 hr9 => ?_)
    subst hr9
    refine lv_iload hx hb dL_law_1769 (lv_at hl 1 rfl) ?_
    refine lv_icmp_eq (tgt := 1776) hx hb dL_law_1771 (by decide) (fun c_4 => ?_) (fun c_4 => ?_)
    · skip
      refine lv_iload hx hb dL_law_1776 (lv_at hl 1 rfl) ?_
      refine lv_if_ne (tgt := 1793) hx hb dL_law_1778 (by decide) (fun c_5 => ?_) (fun c_5 => ?_)
      · skip
        refine lv_goto (tgt := 2069) hx hb dL_law_1793 (by decide) ?_
        refine W.widen (k := cells + 3) (n := slots + 18) (by omega) (by omega) ?_
        exact hnext _ _ _ ⟨a, N, Z, b, M, Y, sc, tx, L, cu, er, le, nb, nc, mm, pp, (cmI (sq (thF (xs ((6 * j) + 1)) (nI (N 2))) (sq (dyF (xs ((6 * j) + 2))) (wiF (xs ((6 * j) + 3)) (xs ((6 * j) + 2)) 999)))), ac, ea, le2, v1, v2, v3, v4, v5, fo, fd, hT, hX, hP, hD⟩ hS (lv_sub hl [2, 3, 4, 5, 6, 7] rfl)
      · skip
        exact absurd c_5 hc0
    · skip
      exact absurd rfl c_4

set_option maxHeartbeats 4000000 in
set_option maxRecDepth 100000 in
theorem law_shimsNeeded (l : Launch) (hl0 : l.stackTraces = false) {G : va_G} {T : Nat → ClassId} {sa kk vv : Nat → Nat} {p : Program} {e : Env} {s : State} {m : MethodId} {below : List Frame} {meth : Method} {c : Code} {Q : State → Prop} {b0 LL : Nat} {xs : Nat → Int32} {q r : Nat → Nat} {o d : Nat} {a N : Nat → Nat} {Z : Nat → Nat → Int32} {b M : Nat → Nat → Nat} {Y : Nat → Nat → Nat → Int32} {sc : Nat} {tx : Nat → Int32} {L cu : Nat} {er le : Int32} {nb : Nat → Int32} {nc : Nat} {mm pp : Nat → Int32} {th ac ea le2 v1 v2 v3 v4 v5 : Int32} {fo : Int64} {fd : UInt64} {H : Heap} {locs : List Loc} {cells slots j : Nat} {ls : Array Slot} (K : LK G T sa kk vv p s m c b0 LL xs) (hl : lv_has ls 9 [(0, .ref b0), (1, .ref (q 0)), (2, .ref (r 0)), (3, .ref o), (4, .ref d), (5, .int (nI (6 * j)))]) (hj : 6 * j + 5 < LL) (hcs : cells + 3 ≤ 601024) (hss : slots + 18 ≤ 7293034) (hS : va_S (lA s) s.heap H locs) (hT : tie N Z mm M Y pp sc) (hX : txo tx L) (hP : va_P G vwCl (wL T q a N Z b M Y sc tx L cu er le nb nc r mm pp th ac ea le2 v1 v2 v3 v4 v5 o d fo fd) H) (hD : va_D (lA s) (wL T q a N Z b M Y sc tx L cu er le nb nc r mm pp th ac ea le2 v1 v2 v3 v4 v5 o d fo fd)) (hnext : ∀ (H : Heap) (locs : List Loc) (ls : Array Slot), inv G T q r o d (lA s) H → va_S (lA s) s.heap H locs → lv_has ls 9 [(0, .ref b0), (1, .ref (q 0)), (2, .ref (r 0)), (3, .ref o), (4, .ref d), (5, .int (nI (6 * j)))] → W p l e room_1 s m ([.ref b0] : List Value).toArray below meth c H locs (cells + 3) (slots + 18) Q (F0 m 2069 ls [])) : W p l e room_1 s m ([.ref b0] : List Value).toArray below meth c H locs cells slots Q (F0 m 1796 ls []) := by
  obtain ⟨S, hkx, -, hnc, -⟩ := id K
  have hx := S.1
  have hb := S.2.1
  have h9 := K.2.2.2.2.2.2.2
  have hX1 := hX.1
  have hP : va_P G vwCl (((wMain T q a N Z b M Y sc tx L cu er le nb nc) ++ [(o, eL T fo)]) ++ ((wMod T r mm pp tx th sc L ac ea le2 v1 v2 v3 v4 v5) ++ [(d, eD T fd)])) H := hP
  have hD : va_D (lA s) (((wMain T q a N Z b M Y sc tx L cu er le nb nc) ++ [(o, eL T fo)]) ++ ((wMod T r mm pp tx th sc L ac ea le2 v1 v2 v3 v4 v5) ++ [(d, eD T fd)])) := hD
  refine lv_aload_n hx hb dL_law_1796 rfl (lv_at hl 1 rfl) ?_
  refine lv_aload_n hx hb dL_law_1797 rfl (lv_at hl 0 rfl) ?_
  refine lv_iload hx hb dL_law_1798 (lv_at hl 5 rfl) ?_
  refine lv_iconst (v := 1) hx hb dL_law_1800 (by decide) ?_
  refine lv_iadd hx hb dL_law_1801 ?_
  rw [show ((nI (6 * j)) + 1) = (nI ((6 * j) + 1)) from nI_add (6 * j) 1]
  refine sld K hS ((6 * j) + 1) rfl (by omega) dL_law_1802 ?_
  refine lv_aload_n hx hb dL_law_1803 rfl (lv_at hl 3 rfl) ?_
  refine lw_S S hkx (K.2.2.1.kept hS.2.1) hnc (mL_shimsNeeded l hl0 (sa := sa) (A9 := lA s) (q := q) (a := a) (N := N) (Z := Z) (b := b) (M := M) (Y := Y) (sc := sc) (tx := tx) (L := L) (cu := cu) (er := er) (le := le) (nb := nb) (nc := nc) (d := (xs ((6 * j) + 1))) (o := o) (fo := fo) (hP := P_hd hP) (hD := (D_hd hD).weaken (fun _ _ _ _ => trivial)) (h9 := (fun q h => Nat.le_trans hS.1 h)) (hwf := hT.1)) gL_law_L_shimsNeeded rfl idL_shimsNeeded ⟨Nat.le_of_ble_eq_true rfl, Nat.le_of_ble_eq_true rfl⟩ rfl hl.1 rfl (Nat.le_of_ble_eq_true rfl) dL_law_1804 ⟨(by show cells + 1 ≤ 601024; omega), (by show slots + 6 ≤ 7293034; omega)⟩ hS (fr_in (D_hd hD) (fun q h => Nat.le_trans hS.1 h)) (fun v H locs hp9 hz1 hk1 hS => ?_)
  rcases hp9 with ⟨hF, rfl, hPc⟩ | ⟨hF, rfl, hPc⟩
  · obtain ⟨hP, hD⟩ := fr_hd hP hD hk1 hPc (addr_snoc (List.Perm.refl _))
    have hP : va_P G vwCl (((wMain T q a N Z b M Y sc tx L cu er le nb nc) ++ [(o, eL T (Int32.toInt64 (prs N Z (xs ((6 * j) + 1)) (N 0))))]) ++ ((wMod T r mm pp tx th sc L ac ea le2 v1 v2 v3 v4 v5) ++ [(d, eD T fd)])) H := hP
    have hD : va_D (lA s) (((wMain T q a N Z b M Y sc tx L cu er le nb nc) ++ [(o, eL T (Int32.toInt64 (prs N Z (xs ((6 * j) + 1)) (N 0))))]) ++ ((wMod T r mm pp tx th sc L ac ea le2 v1 v2 v3 v4 v5) ++ [(d, eD T fd)])) := hD
    refine W.eq (g2 := F0 m 1807 ls [.int 0]) rfl ?_
    refine lv_istore (lv' := [(6, .int 0), (0, .ref b0), (1, .ref (q 0)), (2, .ref (r 0)), (3, .ref o), (4, .ref d), (5, .int (nI (6 * j)))]) hx hb dL_law_1807 hl (by decide) rfl (fun ls hl => ?_)
    refine lv_aload_n hx hb dL_law_1809 rfl (lv_at hl 3 rfl) ?_
    refine lv_aload_n hx hb dL_law_1810 rfl (lv_at hl 1 rfl) ?_
    refine lv_iload hx hb dL_law_1811 (lv_at hl 6 rfl) ?_
    refine lv_iconst (v := 1) hx hb dL_law_1813 (by decide) ?_
    refine lv_iadd hx hb dL_law_1814 ?_
    rw [show ((nI (6 * j)) + 1) = (nI ((6 * j) + 1)) from nI_add (6 * j) 1]
    refine sld K hS ((6 * j) + 1) rfl (by omega) dL_law_1815 ?_
    refine mu_V S hkx (mX6_shimsNeeded l (T := T) (r := r) (N := N) (Z := Z) (mm := mm) (pp := pp) (xx := tx) (th := th) (sv := sc) (n1 := L) (ac := ac) (ea := ea) (le := le2) (v1 := v1) (v2 := v2) (v3 := v3) (v4 := v4) (v5 := v5) (d := (xs ((6 * j) + 1))) (hP := P_mid hP) (hD := (D_mid hD).weaken (fun _ _ _ _ => trivial)) (hwf := hT.1) (hr := hT.2.1)) gL_law_X6_shimsNeeded rfl idX6_shimsNeeded ⟨Nat.le_of_ble_eq_true rfl, Nat.le_of_ble_eq_true rfl⟩ hP 101 rfl rfl rfl rfl hl.1 rfl (Nat.le_of_ble_eq_true rfl) dL_law_1816 ⟨(by show cells + 1 ≤ 601024; omega), (by show slots + 6 ≤ 7293034; omega)⟩ hS (fr_in (D_mid hD) (fun q h => Nat.le_trans hS.1 h)) (fun v H locs hp9 hz1 hk1 hS => ?_)
    obtain ⟨z9, rfl, hp9⟩ := hp9
    obtain ⟨-, rfl, hPm⟩ := hp9.resolve_right (fun h => h.1 hF)
    obtain ⟨hP, hD⟩ := fr_mid hP hD hk1 hPm rfl
    have hP : va_P G vwCl (((wMain T q a N Z b M Y sc tx L cu er le nb nc) ++ [(o, eL T (Int32.toInt64 (prs N Z (xs ((6 * j) + 1)) (N 0))))]) ++ ((wMod T r mm pp tx 0 sc L ac ea le2 v1 v2 v3 v4 v5) ++ [(d, eD T fd)])) H := hP
    have hD : va_D (lA s) (((wMain T q a N Z b M Y sc tx L cu er le nb nc) ++ [(o, eL T (Int32.toInt64 (prs N Z (xs ((6 * j) + 1)) (N 0))))]) ++ ((wMod T r mm pp tx 0 sc L ac ea le2 v1 v2 v3 v4 v5) ++ [(d, eD T fd)])) := hD
    refine W.eq (g2 := F0 m 1819 ls [.int (prs N Z (xs ((6 * j) + 1)) (N 0))]) rfl ?_
    refine lv_istore (lv' := [(7, .int (prs N Z (xs ((6 * j) + 1)) (N 0))), (6, .int 0), (0, .ref b0), (1, .ref (q 0)), (2, .ref (r 0)), (3, .ref o), (4, .ref d), (5, .int (nI (6 * j)))]) hx hb dL_law_1819 hl (by decide) rfl (fun ls hl => ?_)
    refine lv_aload_n hx hb dL_law_1821 rfl (lv_at hl 4 rfl) ?_
    refine ro_V S hkx (mX6_thrown l (T := T) (r := r) (N := N) (Z := Z) (mm := mm) (pp := pp) (xx := tx) (th := 0) (sv := sc) (n1 := L) (ac := ac) (ea := ea) (le := le2) (v1 := v1) (v2 := v2) (v3 := v3) (v4 := v4) (v5 := v5) (hP := P_mid hP)) gL_law_X6_thrown rfl idX6_thrown ⟨Nat.le_of_ble_eq_true rfl, Nat.le_of_ble_eq_true rfl⟩ hP 101 rfl rfl rfl rfl hl.1 rfl (Nat.le_of_ble_eq_true rfl) dL_law_1822 ⟨(by show cells + 1 ≤ 601024; omega), (by show slots + 6 ≤ 7293034; omega)⟩ (fun r9 hr9 => ?_)
    subst hr9
    refine lv_iload hx hb dL_law_1825 (lv_at hl 1 rfl) ?_
    refine lv_icmp_eq (tgt := 1832) hx hb dL_law_1827 (by decide) (fun c_1 => ?_) (fun c_1 => ?_)
    · replace c_1 := cn_eq (a := 0) (b := 0) (by omega) (by omega) c_1
      refine lv_iload hx hb dL_law_1832 (lv_at hl 1 rfl) ?_
      refine lv_if_ne (tgt := 1849) hx hb dL_law_1834 (by decide) (fun c_2 => ?_) (fun c_2 => ?_)
      · replace c_2 := cn_ne (a := 0) (b := 0) (by omega) (by omega) c_2
        exact absurd c_2 (by decide)
      · replace c_2 := cn_eq (a := 0) (b := 0) (by omega) (by omega) c_2
        refine lv_aload_n hx hb dL_law_1837 rfl (lv_at hl 5 rfl) ?_
        refine lv_iconst (v := 0) hx hb dL_law_1838 (by decide) ?_
        refine lld0 hx hb hkx hP 100 rfl dL_law_1839 ?_
        refine lv_iload hx hb dL_law_1840 (lv_at hl 0 rfl) ?_
        refine lv_i2l hx hb dL_law_1842 rfl ?_
        refine W.lcmp hx hb dL_law_1843 ?_
        rw [lg_self]
        refine lv_if_eq (tgt := 1849) hx hb dL_law_1844 (by decide) (fun c_3 => ?_) (fun c_3 => ?_)
        · replace c_3 := cn_eq (a := 0) (b := 0) (by omega) (by omega) c_3
          refine lv_goto (tgt := 2069) hx hb dL_law_1849 (by decide) ?_
          refine W.widen (k := cells + 3) (n := slots + 18) (by omega) (by omega) ?_
          exact hnext _ _ _ ⟨a, N, Z, b, M, Y, sc, tx, L, cu, er, le, nb, nc, mm, pp, 0, ac, ea, le2, v1, v2, v3, v4, v5, (Int32.toInt64 (prs N Z (xs ((6 * j) + 1)) (N 0))), fd, hT, hX, hP, hD⟩ hS (lv_sub hl [2, 3, 4, 5, 6, 7] rfl)
        · replace c_3 := cn_ne (a := 0) (b := 0) (by omega) (by omega) c_3
          exact absurd c_3 (by decide)
    · replace c_1 := cn_ne (a := 0) (b := 0) (by omega) (by omega) c_1
      exact absurd c_1 (by decide)
  · obtain ⟨hP, hD⟩ := fr_hd hP hD hk1 hPc (List.Perm.refl _)
    have hc0 := (nz_A (le_wi _ _ _) hF (r_wi _ _ _).1)
    have hP : va_P G vwCl (((wMain T q a N Z b M Y sc tx L cu er le nb nc) ++ [(o, eL T fo)]) ++ ((wMod T r mm pp tx th sc L ac ea le2 v1 v2 v3 v4 v5) ++ [(d, eD T fd)])) H := hP
    have hD : va_D (lA s) (((wMain T q a N Z b M Y sc tx L cu er le nb nc) ++ [(o, eL T fo)]) ++ ((wMod T r mm pp tx th sc L ac ea le2 v1 v2 v3 v4 v5) ++ [(d, eD T fd)])) := hD
    refine W.eq (g2 := F0 m 1807 ls [.int (cmA (dyF (xs ((6 * j) + 1))))]) rfl ?_
    refine lv_istore (lv' := [(6, .int (cmA (dyF (xs ((6 * j) + 1))))), (0, .ref b0), (1, .ref (q 0)), (2, .ref (r 0)), (3, .ref o), (4, .ref d), (5, .int (nI (6 * j)))]) hx hb dL_law_1807 hl (by decide) rfl (fun ls hl => ?_)
    refine lv_aload_n hx hb dL_law_1809 rfl (lv_at hl 3 rfl) ?_
    refine lv_aload_n hx hb dL_law_1810 rfl (lv_at hl 1 rfl) ?_
    refine lv_iload hx hb dL_law_1811 (lv_at hl 6 rfl) ?_
    refine lv_iconst (v := 1) hx hb dL_law_1813 (by decide) ?_
    refine lv_iadd hx hb dL_law_1814 ?_
    rw [show ((nI (6 * j)) + 1) = (nI ((6 * j) + 1)) from nI_add (6 * j) 1]
    refine sld K hS ((6 * j) + 1) rfl (by omega) dL_law_1815 ?_
    refine mu_V S hkx (mX6_shimsNeeded l (T := T) (r := r) (N := N) (Z := Z) (mm := mm) (pp := pp) (xx := tx) (th := th) (sv := sc) (n1 := L) (ac := ac) (ea := ea) (le := le2) (v1 := v1) (v2 := v2) (v3 := v3) (v4 := v4) (v5 := v5) (d := (xs ((6 * j) + 1))) (hP := P_mid hP) (hD := (D_mid hD).weaken (fun _ _ _ _ => trivial)) (hwf := hT.1) (hr := hT.2.1)) gL_law_X6_shimsNeeded rfl idX6_shimsNeeded ⟨Nat.le_of_ble_eq_true rfl, Nat.le_of_ble_eq_true rfl⟩ hP 101 rfl rfl rfl rfl hl.1 rfl (Nat.le_of_ble_eq_true rfl) dL_law_1816 ⟨(by show cells + 1 ≤ 601024; omega), (by show slots + 6 ≤ 7293034; omega)⟩ hS (fr_in (D_mid hD) (fun q h => Nat.le_trans hS.1 h)) (fun v H locs hp9 hz1 hk1 hS => ?_)
    obtain ⟨z9, rfl, hp9⟩ := hp9
    have hPm := (hp9.resolve_left (fun h => hF h.1)).2
    obtain ⟨hP, hD⟩ := fr_mid hP hD hk1 hPm rfl
    have hP : va_P G vwCl (((wMain T q a N Z b M Y sc tx L cu er le nb nc) ++ [(o, eL T fo)]) ++ ((wMod T r mm pp tx (cmA (dyF (xs ((6 * j) + 1)))) sc L ac ea le2 v1 v2 v3 v4 v5) ++ [(d, eD T fd)])) H := hP
    have hD : va_D (lA s) (((wMain T q a N Z b M Y sc tx L cu er le nb nc) ++ [(o, eL T fo)]) ++ ((wMod T r mm pp tx (cmA (dyF (xs ((6 * j) + 1)))) sc L ac ea le2 v1 v2 v3 v4 v5) ++ [(d, eD T fd)])) := hD
    refine W.eq (g2 := F0 m 1819 ls [.int z9]) rfl ?_
    refine lv_istore (lv' := [(7, .int z9), (6, .int (cmA (dyF (xs ((6 * j) + 1))))), (0, .ref b0), (1, .ref (q 0)), (2, .ref (r 0)), (3, .ref o), (4, .ref d), (5, .int (nI (6 * j)))]) hx hb dL_law_1819 hl (by decide) rfl (fun ls hl => ?_)
    refine lv_aload_n hx hb dL_law_1821 rfl (lv_at hl 4 rfl) ?_
    refine ro_V S hkx (mX6_thrown l (T := T) (r := r) (N := N) (Z := Z) (mm := mm) (pp := pp) (xx := tx) (th := (cmA (dyF (xs ((6 * j) + 1))))) (sv := sc) (n1 := L) (ac := ac) (ea := ea) (le := le2) (v1 := v1) (v2 := v2) (v3 := v3) (v4 := v4) (v5 := v5) (hP := P_mid hP)) gL_law_X6_thrown rfl idX6_thrown ⟨Nat.le_of_ble_eq_true rfl, Nat.le_of_ble_eq_true rfl⟩ hP 101 rfl rfl rfl rfl hl.1 rfl (Nat.le_of_ble_eq_true rfl) dL_law_1822 ⟨(by show cells + 1 ≤ 601024; omega), (by show slots + 6 ≤ 7293034; omega)⟩ (fun r9 hr9 => ?_)
    subst hr9
    refine lv_iload hx hb dL_law_1825 (lv_at hl 1 rfl) ?_
    refine lv_icmp_eq (tgt := 1832) hx hb dL_law_1827 (by decide) (fun c_4 => ?_) (fun c_4 => ?_)
    · skip
      refine lv_iload hx hb dL_law_1832 (lv_at hl 1 rfl) ?_
      refine lv_if_ne (tgt := 1849) hx hb dL_law_1834 (by decide) (fun c_5 => ?_) (fun c_5 => ?_)
      · skip
        refine lv_goto (tgt := 2069) hx hb dL_law_1849 (by decide) ?_
        refine W.widen (k := cells + 3) (n := slots + 18) (by omega) (by omega) ?_
        exact hnext _ _ _ ⟨a, N, Z, b, M, Y, sc, tx, L, cu, er, le, nb, nc, mm, pp, (cmA (dyF (xs ((6 * j) + 1)))), ac, ea, le2, v1, v2, v3, v4, v5, fo, fd, hT, hX, hP, hD⟩ hS (lv_sub hl [2, 3, 4, 5, 6, 7] rfl)
      · skip
        exact absurd c_5 hc0
    · skip
      exact absurd rfl c_4

set_option maxHeartbeats 4000000 in
set_option maxRecDepth 100000 in
theorem law_share (l : Launch) (hl0 : l.stackTraces = false) {G : va_G} {T : Nat → ClassId} {sa kk vv : Nat → Nat} {p : Program} {e : Env} {s : State} {m : MethodId} {below : List Frame} {meth : Method} {c : Code} {Q : State → Prop} {b0 LL : Nat} {xs : Nat → Int32} {q r : Nat → Nat} {o d : Nat} {a N : Nat → Nat} {Z : Nat → Nat → Int32} {b M : Nat → Nat → Nat} {Y : Nat → Nat → Nat → Int32} {sc : Nat} {tx : Nat → Int32} {L cu : Nat} {er le : Int32} {nb : Nat → Int32} {nc : Nat} {mm pp : Nat → Int32} {th ac ea le2 v1 v2 v3 v4 v5 : Int32} {fo : Int64} {fd : UInt64} {H : Heap} {locs : List Loc} {cells slots j : Nat} {ls : Array Slot} (K : LK G T sa kk vv p s m c b0 LL xs) (hl : lv_has ls 9 [(0, .ref b0), (1, .ref (q 0)), (2, .ref (r 0)), (3, .ref o), (4, .ref d), (5, .int (nI (6 * j)))]) (hj : 6 * j + 5 < LL) (hcs : cells + 3 ≤ 601024) (hss : slots + 18 ≤ 7293034) (hS : va_S (lA s) s.heap H locs) (hT : tie N Z mm M Y pp sc) (hX : txo tx L) (hP : va_P G vwCl (wL T q a N Z b M Y sc tx L cu er le nb nc r mm pp th ac ea le2 v1 v2 v3 v4 v5 o d fo fd) H) (hD : va_D (lA s) (wL T q a N Z b M Y sc tx L cu er le nb nc r mm pp th ac ea le2 v1 v2 v3 v4 v5 o d fo fd)) (hnext : ∀ (H : Heap) (locs : List Loc) (ls : Array Slot), inv G T q r o d (lA s) H → va_S (lA s) s.heap H locs → lv_has ls 9 [(0, .ref b0), (1, .ref (q 0)), (2, .ref (r 0)), (3, .ref o), (4, .ref d), (5, .int (nI (6 * j)))] → W p l e room_1 s m ([.ref b0] : List Value).toArray below meth c H locs (cells + 3) (slots + 18) Q (F0 m 2069 ls [])) : W p l e room_1 s m ([.ref b0] : List Value).toArray below meth c H locs cells slots Q (F0 m 1852 ls []) := by
  obtain ⟨S, hkx, -, hnc, -⟩ := id K
  have hx := S.1
  have hb := S.2.1
  have h9 := K.2.2.2.2.2.2.2
  have hX1 := hX.1
  have hP : va_P G vwCl (((wMain T q a N Z b M Y sc tx L cu er le nb nc) ++ [(o, eL T fo)]) ++ ((wMod T r mm pp tx th sc L ac ea le2 v1 v2 v3 v4 v5) ++ [(d, eD T fd)])) H := hP
  have hD : va_D (lA s) (((wMain T q a N Z b M Y sc tx L cu er le nb nc) ++ [(o, eL T fo)]) ++ ((wMod T r mm pp tx th sc L ac ea le2 v1 v2 v3 v4 v5) ++ [(d, eD T fd)])) := hD
  refine lv_aload_n hx hb dL_law_1852 rfl (lv_at hl 1 rfl) ?_
  refine lv_aload_n hx hb dL_law_1853 rfl (lv_at hl 0 rfl) ?_
  refine lv_iload hx hb dL_law_1854 (lv_at hl 5 rfl) ?_
  refine lv_iconst (v := 1) hx hb dL_law_1856 (by decide) ?_
  refine lv_iadd hx hb dL_law_1857 ?_
  rw [show ((nI (6 * j)) + 1) = (nI ((6 * j) + 1)) from nI_add (6 * j) 1]
  refine sld K hS ((6 * j) + 1) rfl (by omega) dL_law_1858 ?_
  refine lv_aload hx hb dL_law_1859 (lv_at hl 4 rfl) ?_
  have hP := P_perm hP sw_perm
  have hD := D_perm' hD sw_perm
  have hP : va_P G vwCl (((wMain T q a N Z b M Y sc tx L cu er le nb nc) ++ [(d, eD T fd)]) ++ ((wMod T r mm pp tx th sc L ac ea le2 v1 v2 v3 v4 v5) ++ [(o, eL T fo)])) H := hP
  have hD : va_D (lA s) (((wMain T q a N Z b M Y sc tx L cu er le nb nc) ++ [(d, eD T fd)]) ++ ((wMod T r mm pp tx th sc L ac ea le2 v1 v2 v3 v4 v5) ++ [(o, eL T fo)])) := hD
  refine lw_S S hkx (K.2.2.1.kept hS.2.1) hnc (mL_share l hl0 (sa := sa) (A9 := lA s) (q := q) (a := a) (N := N) (Z := Z) (b := b) (M := M) (Y := Y) (sc := sc) (tx := tx) (L := L) (cu := cu) (er := er) (le := le) (nb := nb) (nc := nc) (d := (xs ((6 * j) + 1))) (o := d) (fo := fd) (hP := P_hd hP) (hD := (D_hd hD).weaken (fun _ _ _ _ => trivial)) (h9 := (fun q h => Nat.le_trans hS.1 h)) (hwf := hT.1)) gL_law_L_share rfl idL_share ⟨Nat.le_of_ble_eq_true rfl, Nat.le_of_ble_eq_true rfl⟩ rfl hl.1 rfl (Nat.le_of_ble_eq_true rfl) dL_law_1861 ⟨(by show cells + 1 ≤ 601024; omega), (by show slots + 6 ≤ 7293034; omega)⟩ hS (fr_in (D_hd hD) (fun q h => Nat.le_trans hS.1 h)) (fun v H locs hp9 hz1 hk1 hS => ?_)
  rcases hp9 with ⟨hF, rfl, hPc⟩ | ⟨hF, rfl, hPc⟩
  · obtain ⟨hP, hD⟩ := fr_hd hP hD hk1 hPc (addr_snoc (List.Perm.refl _))
    have hP : va_P G vwCl (((wMain T q a N Z b M Y sc tx L cu er le nb nc) ++ [(d, eD T (shr N Z (xs ((6 * j) + 1))))]) ++ ((wMod T r mm pp tx th sc L ac ea le2 v1 v2 v3 v4 v5) ++ [(o, eL T fo)])) H := hP
    have hD : va_D (lA s) (((wMain T q a N Z b M Y sc tx L cu er le nb nc) ++ [(d, eD T (shr N Z (xs ((6 * j) + 1))))]) ++ ((wMod T r mm pp tx th sc L ac ea le2 v1 v2 v3 v4 v5) ++ [(o, eL T fo)])) := hD
    refine W.eq (g2 := F0 m 1864 ls [.int 0]) rfl ?_
    refine lv_istore (lv' := [(6, .int 0), (0, .ref b0), (1, .ref (q 0)), (2, .ref (r 0)), (3, .ref o), (4, .ref d), (5, .int (nI (6 * j)))]) hx hb dL_law_1864 hl (by decide) rfl (fun ls hl => ?_)
    refine lv_aload_n hx hb dL_law_1866 rfl (lv_at hl 3 rfl) ?_
    refine lv_aload_n hx hb dL_law_1867 rfl (lv_at hl 1 rfl) ?_
    refine lv_iload hx hb dL_law_1868 (lv_at hl 6 rfl) ?_
    refine lv_iconst (v := 1) hx hb dL_law_1870 (by decide) ?_
    refine lv_iadd hx hb dL_law_1871 ?_
    rw [show ((nI (6 * j)) + 1) = (nI ((6 * j) + 1)) from nI_add (6 * j) 1]
    refine sld K hS ((6 * j) + 1) rfl (by omega) dL_law_1872 ?_
    refine mu_V S hkx (mX6_share l (T := T) (r := r) (N := N) (Z := Z) (mm := mm) (pp := pp) (xx := tx) (th := th) (sv := sc) (n1 := L) (ac := ac) (ea := ea) (le := le2) (v1 := v1) (v2 := v2) (v3 := v3) (v4 := v4) (v5 := v5) (d := (xs ((6 * j) + 1))) (hP := P_mid hP) (hD := (D_mid hD).weaken (fun _ _ _ _ => trivial)) (hwf := hT.1) (hr := hT.2.1)) gL_law_X6_share rfl idX6_share ⟨Nat.le_of_ble_eq_true rfl, Nat.le_of_ble_eq_true rfl⟩ hP 101 rfl rfl rfl rfl hl.1 rfl (Nat.le_of_ble_eq_true rfl) dL_law_1873 ⟨(by show cells + 1 ≤ 601024; omega), (by show slots + 6 ≤ 7293034; omega)⟩ hS (fr_in (D_mid hD) (fun q h => Nat.le_trans hS.1 h)) (fun v H locs hp9 hz1 hk1 hS => ?_)
    obtain ⟨z9, rfl, hp9⟩ := hp9
    obtain ⟨-, rfl, hPm⟩ := hp9.resolve_right (fun h => h.1 hF)
    obtain ⟨hP, hD⟩ := fr_mid hP hD hk1 hPm rfl
    have hP : va_P G vwCl (((wMain T q a N Z b M Y sc tx L cu er le nb nc) ++ [(d, eD T (shr N Z (xs ((6 * j) + 1))))]) ++ ((wMod T r mm pp tx 0 sc L ac ea le2 v1 v2 v3 v4 v5) ++ [(o, eL T fo)])) H := hP
    have hD : va_D (lA s) (((wMain T q a N Z b M Y sc tx L cu er le nb nc) ++ [(d, eD T (shr N Z (xs ((6 * j) + 1))))]) ++ ((wMod T r mm pp tx 0 sc L ac ea le2 v1 v2 v3 v4 v5) ++ [(o, eL T fo)])) := hD
    refine W.eq (g2 := F0 m 1876 ls [.double (shr N Z (xs ((6 * j) + 1)))]) rfl ?_
    refine lv_dstore (lv' := [(7, .double (shr N Z (xs ((6 * j) + 1)))), (6, .int 0), (0, .ref b0), (1, .ref (q 0)), (2, .ref (r 0)), (3, .ref o), (4, .ref d), (5, .int (nI (6 * j)))]) hx hb dL_law_1876 hl (by decide) rfl (fun ls hl => ?_)
    refine lv_aload_n hx hb dL_law_1878 rfl (lv_at hl 4 rfl) ?_
    refine ro_V S hkx (mX6_thrown l (T := T) (r := r) (N := N) (Z := Z) (mm := mm) (pp := pp) (xx := tx) (th := 0) (sv := sc) (n1 := L) (ac := ac) (ea := ea) (le := le2) (v1 := v1) (v2 := v2) (v3 := v3) (v4 := v4) (v5 := v5) (hP := P_mid hP)) gL_law_X6_thrown rfl idX6_thrown ⟨Nat.le_of_ble_eq_true rfl, Nat.le_of_ble_eq_true rfl⟩ hP 101 rfl rfl rfl rfl hl.1 rfl (Nat.le_of_ble_eq_true rfl) dL_law_1879 ⟨(by show cells + 1 ≤ 601024; omega), (by show slots + 6 ≤ 7293034; omega)⟩ (fun r9 hr9 => ?_)
    subst hr9
    refine lv_iload hx hb dL_law_1882 (lv_at hl 1 rfl) ?_
    refine lv_icmp_eq (tgt := 1889) hx hb dL_law_1884 (by decide) (fun c_1 => ?_) (fun c_1 => ?_)
    · replace c_1 := cn_eq (a := 0) (b := 0) (by omega) (by omega) c_1
      refine lv_iload hx hb dL_law_1889 (lv_at hl 1 rfl) ?_
      refine lv_if_ne (tgt := 1926) hx hb dL_law_1891 (by decide) (fun c_2 => ?_) (fun c_2 => ?_)
      · replace c_2 := cn_ne (a := 0) (b := 0) (by omega) (by omega) c_2
        exact absurd c_2 (by decide)
      · replace c_2 := cn_eq (a := 0) (b := 0) (by omega) (by omega) c_2
        refine lv_aload hx hb dL_law_1894 (lv_at hl 6 rfl) ?_
        refine lv_iconst (v := 0) hx hb dL_law_1896 (by decide) ?_
        refine dld0 hx hb hkx hP 100 rfl dL_law_1897 ?_
        refine lv_dload hx hb dL_law_1898 (lv_at hl 0 rfl) ?_
        refine lv_dcmp hx hb dL_law_1900 ?_
        refine lv_if_eq (tgt := 1926) hx hb dL_law_1901 (by decide) (fun c_3 => ?_) (fun c_3 => ?_)
        · skip
          refine lv_goto (tgt := 2069) hx hb dL_law_1926 (by decide) ?_
          have hP := P_perm hP sw_perm
          have hD := D_perm' hD sw_perm
          have hP : va_P G vwCl (((wMain T q a N Z b M Y sc tx L cu er le nb nc) ++ [(o, eL T fo)]) ++ ((wMod T r mm pp tx 0 sc L ac ea le2 v1 v2 v3 v4 v5) ++ [(d, eD T (shr N Z (xs ((6 * j) + 1))))])) H := hP
          have hD : va_D (lA s) (((wMain T q a N Z b M Y sc tx L cu er le nb nc) ++ [(o, eL T fo)]) ++ ((wMod T r mm pp tx 0 sc L ac ea le2 v1 v2 v3 v4 v5) ++ [(d, eD T (shr N Z (xs ((6 * j) + 1))))])) := hD
          refine W.widen (k := cells + 3) (n := slots + 18) (by omega) (by omega) ?_
          exact hnext _ _ _ ⟨a, N, Z, b, M, Y, sc, tx, L, cu, er, le, nb, nc, mm, pp, 0, ac, ea, le2, v1, v2, v3, v4, v5, fo, (shr N Z (xs ((6 * j) + 1))), hT, hX, hP, hD⟩ hS (lv_sub hl [2, 3, 4, 5, 6, 7] rfl)
        · skip
          refine lv_aload hx hb dL_law_1904 (lv_at hl 6 rfl) ?_
          refine lv_iconst (v := 0) hx hb dL_law_1906 (by decide) ?_
          refine dld0 hx hb hkx hP 100 rfl dL_law_1907 ?_
          refine lv_aload hx hb dL_law_1908 (lv_at hl 6 rfl) ?_
          refine lv_iconst (v := 0) hx hb dL_law_1910 (by decide) ?_
          refine dld0 hx hb hkx hP 100 rfl dL_law_1911 ?_
          refine lv_dcmp hx hb dL_law_1912 ?_
          refine lv_if_eq (tgt := 1924) hx hb dL_law_1913 (by decide) (fun c_4 => ?_) (fun c_4 => ?_)
          · skip
            exact absurd c_4 c_3
          · skip
            refine lv_dload hx hb dL_law_1916 (lv_at hl 0 rfl) ?_
            refine lv_dload hx hb dL_law_1918 (lv_at hl 0 rfl) ?_
            refine lv_dcmp hx hb dL_law_1920 ?_
            refine lv_if_ne (tgt := 1926) hx hb dL_law_1921 (by decide) (fun c_5 => ?_) (fun c_5 => ?_)
            · skip
              refine lv_goto (tgt := 2069) hx hb dL_law_1926 (by decide) ?_
              have hP := P_perm hP sw_perm
              have hD := D_perm' hD sw_perm
              have hP : va_P G vwCl (((wMain T q a N Z b M Y sc tx L cu er le nb nc) ++ [(o, eL T fo)]) ++ ((wMod T r mm pp tx 0 sc L ac ea le2 v1 v2 v3 v4 v5) ++ [(d, eD T (shr N Z (xs ((6 * j) + 1))))])) H := hP
              have hD : va_D (lA s) (((wMain T q a N Z b M Y sc tx L cu er le nb nc) ++ [(o, eL T fo)]) ++ ((wMod T r mm pp tx 0 sc L ac ea le2 v1 v2 v3 v4 v5) ++ [(d, eD T (shr N Z (xs ((6 * j) + 1))))])) := hD
              refine W.widen (k := cells + 3) (n := slots + 18) (by omega) (by omega) ?_
              exact hnext _ _ _ ⟨a, N, Z, b, M, Y, sc, tx, L, cu, er, le, nb, nc, mm, pp, 0, ac, ea, le2, v1, v2, v3, v4, v5, fo, (shr N Z (xs ((6 * j) + 1))), hT, hX, hP, hD⟩ hS (lv_sub hl [2, 3, 4, 5, 6, 7] rfl)
            · skip
              exact absurd c_5 c_3
    · replace c_1 := cn_ne (a := 0) (b := 0) (by omega) (by omega) c_1
      exact absurd c_1 (by decide)
  · obtain ⟨hP, hD⟩ := fr_hd hP hD hk1 hPc (List.Perm.refl _)
    have hc0 := (nz_A (le_wi _ _ _) hF (r_wi _ _ _).1)
    have hP : va_P G vwCl (((wMain T q a N Z b M Y sc tx L cu er le nb nc) ++ [(d, eD T fd)]) ++ ((wMod T r mm pp tx th sc L ac ea le2 v1 v2 v3 v4 v5) ++ [(o, eL T fo)])) H := hP
    have hD : va_D (lA s) (((wMain T q a N Z b M Y sc tx L cu er le nb nc) ++ [(d, eD T fd)]) ++ ((wMod T r mm pp tx th sc L ac ea le2 v1 v2 v3 v4 v5) ++ [(o, eL T fo)])) := hD
    refine W.eq (g2 := F0 m 1864 ls [.int (cmA (dyF (xs ((6 * j) + 1))))]) rfl ?_
    refine lv_istore (lv' := [(6, .int (cmA (dyF (xs ((6 * j) + 1))))), (0, .ref b0), (1, .ref (q 0)), (2, .ref (r 0)), (3, .ref o), (4, .ref d), (5, .int (nI (6 * j)))]) hx hb dL_law_1864 hl (by decide) rfl (fun ls hl => ?_)
    refine lv_aload_n hx hb dL_law_1866 rfl (lv_at hl 3 rfl) ?_
    refine lv_aload_n hx hb dL_law_1867 rfl (lv_at hl 1 rfl) ?_
    refine lv_iload hx hb dL_law_1868 (lv_at hl 6 rfl) ?_
    refine lv_iconst (v := 1) hx hb dL_law_1870 (by decide) ?_
    refine lv_iadd hx hb dL_law_1871 ?_
    rw [show ((nI (6 * j)) + 1) = (nI ((6 * j) + 1)) from nI_add (6 * j) 1]
    refine sld K hS ((6 * j) + 1) rfl (by omega) dL_law_1872 ?_
    refine mu_V S hkx (mX6_share l (T := T) (r := r) (N := N) (Z := Z) (mm := mm) (pp := pp) (xx := tx) (th := th) (sv := sc) (n1 := L) (ac := ac) (ea := ea) (le := le2) (v1 := v1) (v2 := v2) (v3 := v3) (v4 := v4) (v5 := v5) (d := (xs ((6 * j) + 1))) (hP := P_mid hP) (hD := (D_mid hD).weaken (fun _ _ _ _ => trivial)) (hwf := hT.1) (hr := hT.2.1)) gL_law_X6_share rfl idX6_share ⟨Nat.le_of_ble_eq_true rfl, Nat.le_of_ble_eq_true rfl⟩ hP 101 rfl rfl rfl rfl hl.1 rfl (Nat.le_of_ble_eq_true rfl) dL_law_1873 ⟨(by show cells + 1 ≤ 601024; omega), (by show slots + 6 ≤ 7293034; omega)⟩ hS (fr_in (D_mid hD) (fun q h => Nat.le_trans hS.1 h)) (fun v H locs hp9 hz1 hk1 hS => ?_)
    obtain ⟨z9, rfl, hp9⟩ := hp9
    have hPm := (hp9.resolve_left (fun h => hF h.1)).2
    obtain ⟨hP, hD⟩ := fr_mid hP hD hk1 hPm rfl
    have hP : va_P G vwCl (((wMain T q a N Z b M Y sc tx L cu er le nb nc) ++ [(d, eD T fd)]) ++ ((wMod T r mm pp tx (cmA (dyF (xs ((6 * j) + 1)))) sc L ac ea le2 v1 v2 v3 v4 v5) ++ [(o, eL T fo)])) H := hP
    have hD : va_D (lA s) (((wMain T q a N Z b M Y sc tx L cu er le nb nc) ++ [(d, eD T fd)]) ++ ((wMod T r mm pp tx (cmA (dyF (xs ((6 * j) + 1)))) sc L ac ea le2 v1 v2 v3 v4 v5) ++ [(o, eL T fo)])) := hD
    refine W.eq (g2 := F0 m 1876 ls [.double z9]) rfl ?_
    refine lv_dstore (lv' := [(7, .double z9), (6, .int (cmA (dyF (xs ((6 * j) + 1))))), (0, .ref b0), (1, .ref (q 0)), (2, .ref (r 0)), (3, .ref o), (4, .ref d), (5, .int (nI (6 * j)))]) hx hb dL_law_1876 hl (by decide) rfl (fun ls hl => ?_)
    refine lv_aload_n hx hb dL_law_1878 rfl (lv_at hl 4 rfl) ?_
    refine ro_V S hkx (mX6_thrown l (T := T) (r := r) (N := N) (Z := Z) (mm := mm) (pp := pp) (xx := tx) (th := (cmA (dyF (xs ((6 * j) + 1))))) (sv := sc) (n1 := L) (ac := ac) (ea := ea) (le := le2) (v1 := v1) (v2 := v2) (v3 := v3) (v4 := v4) (v5 := v5) (hP := P_mid hP)) gL_law_X6_thrown rfl idX6_thrown ⟨Nat.le_of_ble_eq_true rfl, Nat.le_of_ble_eq_true rfl⟩ hP 101 rfl rfl rfl rfl hl.1 rfl (Nat.le_of_ble_eq_true rfl) dL_law_1879 ⟨(by show cells + 1 ≤ 601024; omega), (by show slots + 6 ≤ 7293034; omega)⟩ (fun r9 hr9 => ?_)
    subst hr9
    refine lv_iload hx hb dL_law_1882 (lv_at hl 1 rfl) ?_
    refine lv_icmp_eq (tgt := 1889) hx hb dL_law_1884 (by decide) (fun c_6 => ?_) (fun c_6 => ?_)
    · skip
      refine lv_iload hx hb dL_law_1889 (lv_at hl 1 rfl) ?_
      refine lv_if_ne (tgt := 1926) hx hb dL_law_1891 (by decide) (fun c_7 => ?_) (fun c_7 => ?_)
      · skip
        refine lv_goto (tgt := 2069) hx hb dL_law_1926 (by decide) ?_
        have hP := P_perm hP sw_perm
        have hD := D_perm' hD sw_perm
        have hP : va_P G vwCl (((wMain T q a N Z b M Y sc tx L cu er le nb nc) ++ [(o, eL T fo)]) ++ ((wMod T r mm pp tx (cmA (dyF (xs ((6 * j) + 1)))) sc L ac ea le2 v1 v2 v3 v4 v5) ++ [(d, eD T fd)])) H := hP
        have hD : va_D (lA s) (((wMain T q a N Z b M Y sc tx L cu er le nb nc) ++ [(o, eL T fo)]) ++ ((wMod T r mm pp tx (cmA (dyF (xs ((6 * j) + 1)))) sc L ac ea le2 v1 v2 v3 v4 v5) ++ [(d, eD T fd)])) := hD
        refine W.widen (k := cells + 3) (n := slots + 18) (by omega) (by omega) ?_
        exact hnext _ _ _ ⟨a, N, Z, b, M, Y, sc, tx, L, cu, er, le, nb, nc, mm, pp, (cmA (dyF (xs ((6 * j) + 1)))), ac, ea, le2, v1, v2, v3, v4, v5, fo, fd, hT, hX, hP, hD⟩ hS (lv_sub hl [2, 3, 4, 5, 6, 7] rfl)
      · skip
        exact absurd c_7 hc0
    · skip
      exact absurd rfl c_6

set_option maxHeartbeats 4000000 in
set_option maxRecDepth 100000 in
theorem law_append (l : Launch) (hl0 : l.stackTraces = false) {G : va_G} {T : Nat → ClassId} {sa kk vv : Nat → Nat} {p : Program} {e : Env} {s : State} {m : MethodId} {below : List Frame} {meth : Method} {c : Code} {Q : State → Prop} {b0 LL : Nat} {xs : Nat → Int32} {q r : Nat → Nat} {o d : Nat} {a N : Nat → Nat} {Z : Nat → Nat → Int32} {b M : Nat → Nat → Nat} {Y : Nat → Nat → Nat → Int32} {sc : Nat} {tx : Nat → Int32} {L cu : Nat} {er le : Int32} {nb : Nat → Int32} {nc : Nat} {mm pp : Nat → Int32} {th ac ea le2 v1 v2 v3 v4 v5 : Int32} {fo : Int64} {fd : UInt64} {H : Heap} {locs : List Loc} {cells slots j : Nat} {ls : Array Slot} (K : LK G T sa kk vv p s m c b0 LL xs) (hl : lv_has ls 9 [(0, .ref b0), (1, .ref (q 0)), (2, .ref (r 0)), (3, .ref o), (4, .ref d), (5, .int (nI (6 * j)))]) (hj : 6 * j + 5 < LL) (hcs : cells + 3 ≤ 601024) (hss : slots + 18 ≤ 7293034) (hS : va_S (lA s) s.heap H locs) (hT : tie N Z mm M Y pp sc) (hX : txo tx L) (hP : va_P G vwCl (wL T q a N Z b M Y sc tx L cu er le nb nc r mm pp th ac ea le2 v1 v2 v3 v4 v5 o d fo fd) H) (hD : va_D (lA s) (wL T q a N Z b M Y sc tx L cu er le nb nc r mm pp th ac ea le2 v1 v2 v3 v4 v5 o d fo fd)) (hnext : ∀ (H : Heap) (locs : List Loc) (ls : Array Slot), inv G T q r o d (lA s) H → va_S (lA s) s.heap H locs → lv_has ls 9 [(0, .ref b0), (1, .ref (q 0)), (2, .ref (r 0)), (3, .ref o), (4, .ref d), (5, .int (nI (6 * j)))] → W p l e room_1 s m ([.ref b0] : List Value).toArray below meth c H locs (cells + 3) (slots + 18) Q (F0 m 2069 ls [])) : W p l e room_1 s m ([.ref b0] : List Value).toArray below meth c H locs cells slots Q (F0 m 1929 ls []) := by
  obtain ⟨S, hkx, -, hnc, -⟩ := id K
  have hx := S.1
  have hb := S.2.1
  have h9 := K.2.2.2.2.2.2.2
  have hX1 := hX.1
  have hP : va_P G vwCl (((wMain T q a N Z b M Y sc tx L cu er le nb nc) ++ [(o, eL T fo)]) ++ ((wMod T r mm pp tx th sc L ac ea le2 v1 v2 v3 v4 v5) ++ [(d, eD T fd)])) H := hP
  have hD : va_D (lA s) (((wMain T q a N Z b M Y sc tx L cu er le nb nc) ++ [(o, eL T fo)]) ++ ((wMod T r mm pp tx th sc L ac ea le2 v1 v2 v3 v4 v5) ++ [(d, eD T fd)])) := hD
  refine lv_aload_n hx hb dL_law_1929 rfl (lv_at hl 1 rfl) ?_
  refine lv_aload_n hx hb dL_law_1930 rfl (lv_at hl 0 rfl) ?_
  refine lv_iload hx hb dL_law_1931 (lv_at hl 5 rfl) ?_
  refine lv_iconst (v := 1) hx hb dL_law_1933 (by decide) ?_
  refine lv_iadd hx hb dL_law_1934 ?_
  rw [show ((nI (6 * j)) + 1) = (nI ((6 * j) + 1)) from nI_add (6 * j) 1]
  refine sld K hS ((6 * j) + 1) rfl (by omega) dL_law_1935 ?_
  refine lv_aload_n hx hb dL_law_1936 rfl (lv_at hl 3 rfl) ?_
  refine lw_S S hkx (K.2.2.1.kept hS.2.1) hnc (mL_append l hl0 (sa := sa) (A9 := lA s) (q := q) (a := a) (N := N) (Z := Z) (b := b) (M := M) (Y := Y) (sc := sc) (tx := tx) (L := L) (cu := cu) (er := er) (le := le) (nb := nb) (nc := nc) (x := (xs ((6 * j) + 1))) (o := o) (fo := fo) (hP := P_hd hP) (hD := (D_hd hD).weaken (fun _ _ _ _ => trivial)) (h9 := (fun q h => Nat.le_trans hS.1 h)) (hwf := hT.1) (hsc := hT.2.2.2) (hL := hX.1)) gL_law_L_append rfl idL_append ⟨Nat.le_of_ble_eq_true rfl, Nat.le_of_ble_eq_true rfl⟩ rfl hl.1 rfl (Nat.le_of_ble_eq_true rfl) dL_law_1937 ⟨(by show cells + 2 ≤ 601024; omega), (by show slots + 12 ≤ 7293034; omega)⟩ hS (fr_in (D_hd hD) (fun q h => Nat.le_trans hS.1 h)) (fun v H locs hp9 hz1 hk1 hS => ?_)
  rcases hp9 with ⟨hF, rfl, hPc⟩ | ⟨hF, rfl, hPc⟩
  · obtain ⟨hP, hD⟩ := fr_hd hP hD hk1 hPc (addr_snoc (List.Perm.refl _))
    have hP : va_P G vwCl (((wMain T q a N Z b M Y sc (upd tx L (xs ((6 * j) + 1))) (L + 1) cu er le nb nc) ++ [(o, eL T (Int32.toInt64 (nI (L + 1))))]) ++ ((wMod T r mm pp tx th sc L ac ea le2 v1 v2 v3 v4 v5) ++ [(d, eD T fd)])) H := hP
    have hD : va_D (lA s) (((wMain T q a N Z b M Y sc (upd tx L (xs ((6 * j) + 1))) (L + 1) cu er le nb nc) ++ [(o, eL T (Int32.toInt64 (nI (L + 1))))]) ++ ((wMod T r mm pp tx th sc L ac ea le2 v1 v2 v3 v4 v5) ++ [(d, eD T fd)])) := hD
    refine W.eq (g2 := F0 m 1940 ls [.int 0]) rfl ?_
    refine lv_istore (lv' := [(6, .int 0), (0, .ref b0), (1, .ref (q 0)), (2, .ref (r 0)), (3, .ref o), (4, .ref d), (5, .int (nI (6 * j)))]) hx hb dL_law_1940 hl (by decide) rfl (fun ls hl => ?_)
    refine lv_aload_n hx hb dL_law_1942 rfl (lv_at hl 3 rfl) ?_
    refine lv_aload_n hx hb dL_law_1943 rfl (lv_at hl 1 rfl) ?_
    refine lv_iload hx hb dL_law_1944 (lv_at hl 6 rfl) ?_
    refine lv_iconst (v := 1) hx hb dL_law_1946 (by decide) ?_
    refine lv_iadd hx hb dL_law_1947 ?_
    rw [show ((nI (6 * j)) + 1) = (nI ((6 * j) + 1)) from nI_add (6 * j) 1]
    refine sld K hS ((6 * j) + 1) rfl (by omega) dL_law_1948 ?_
    refine mu_V S hkx (mX6_append l (T := T) (r := r) (N := N) (Z := Z) (mm := mm) (pp := pp) (xx := tx) (th := th) (sv := sc) (n1 := L) (ac := ac) (ea := ea) (le := le2) (v1 := v1) (v2 := v2) (v3 := v3) (v4 := v4) (v5 := v5) (x := (xs ((6 * j) + 1))) (hP := P_mid hP) (hD := (D_mid hD).weaken (fun _ _ _ _ => trivial)) (hwf := hT.1) (hr := hT.2.1) (hn1 := hX.1)) gL_law_X6_append rfl idX6_append ⟨Nat.le_of_ble_eq_true rfl, Nat.le_of_ble_eq_true rfl⟩ hP 101 rfl rfl rfl rfl hl.1 rfl (Nat.le_of_ble_eq_true rfl) dL_law_1949 ⟨(by show cells + 2 ≤ 601024; omega), (by show slots + 12 ≤ 7293034; omega)⟩ hS (fr_in (D_mid hD) (fun q h => Nat.le_trans hS.1 h)) (fun v H locs hp9 hz1 hk1 hS => ?_)
    obtain ⟨z9, rfl, hp9⟩ := hp9
    obtain ⟨-, rfl, hPm⟩ := hp9.resolve_right (fun h => h.1 hF)
    obtain ⟨hP, hD⟩ := fr_mid hP hD hk1 hPm rfl
    have hP : va_P G vwCl (((wMain T q a N Z b M Y sc (upd tx L (xs ((6 * j) + 1))) (L + 1) cu er le nb nc) ++ [(o, eL T (Int32.toInt64 (nI (L + 1))))]) ++ ((wMod T r mm pp (upd tx L (xs ((6 * j) + 1))) 0 sc (L + 1) ac ea le2 v1 v2 v3 v4 v5) ++ [(d, eD T fd)])) H := hP
    have hD : va_D (lA s) (((wMain T q a N Z b M Y sc (upd tx L (xs ((6 * j) + 1))) (L + 1) cu er le nb nc) ++ [(o, eL T (Int32.toInt64 (nI (L + 1))))]) ++ ((wMod T r mm pp (upd tx L (xs ((6 * j) + 1))) 0 sc (L + 1) ac ea le2 v1 v2 v3 v4 v5) ++ [(d, eD T fd)])) := hD
    refine W.eq (g2 := F0 m 1952 ls [.int (nI (L + 1))]) rfl ?_
    refine lv_istore (lv' := [(7, .int (nI (L + 1))), (6, .int 0), (0, .ref b0), (1, .ref (q 0)), (2, .ref (r 0)), (3, .ref o), (4, .ref d), (5, .int (nI (6 * j)))]) hx hb dL_law_1952 hl (by decide) rfl (fun ls hl => ?_)
    refine lv_aload_n hx hb dL_law_1954 rfl (lv_at hl 4 rfl) ?_
    refine ro_V S hkx (mX6_thrown l (T := T) (r := r) (N := N) (Z := Z) (mm := mm) (pp := pp) (xx := (upd tx L (xs ((6 * j) + 1)))) (th := 0) (sv := sc) (n1 := (L + 1)) (ac := ac) (ea := ea) (le := le2) (v1 := v1) (v2 := v2) (v3 := v3) (v4 := v4) (v5 := v5) (hP := P_mid hP)) gL_law_X6_thrown rfl idX6_thrown ⟨Nat.le_of_ble_eq_true rfl, Nat.le_of_ble_eq_true rfl⟩ hP 101 rfl rfl rfl rfl hl.1 rfl (Nat.le_of_ble_eq_true rfl) dL_law_1955 ⟨(by show cells + 2 ≤ 601024; omega), (by show slots + 12 ≤ 7293034; omega)⟩ (fun r9 hr9 => ?_)
    subst hr9
    refine lv_iload hx hb dL_law_1958 (lv_at hl 1 rfl) ?_
    refine lv_icmp_eq (tgt := 1965) hx hb dL_law_1960 (by decide) (fun c_1 => ?_) (fun c_1 => ?_)
    · replace c_1 := cn_eq (a := 0) (b := 0) (by omega) (by omega) c_1
      refine lv_iload hx hb dL_law_1965 (lv_at hl 1 rfl) ?_
      refine lv_if_ne (tgt := 1982) hx hb dL_law_1967 (by decide) (fun c_2 => ?_) (fun c_2 => ?_)
      · replace c_2 := cn_ne (a := 0) (b := 0) (by omega) (by omega) c_2
        exact absurd c_2 (by decide)
      · replace c_2 := cn_eq (a := 0) (b := 0) (by omega) (by omega) c_2
        refine lv_aload_n hx hb dL_law_1970 rfl (lv_at hl 5 rfl) ?_
        refine lv_iconst (v := 0) hx hb dL_law_1971 (by decide) ?_
        refine lld0 hx hb hkx hP 100 rfl dL_law_1972 ?_
        refine lv_iload hx hb dL_law_1973 (lv_at hl 0 rfl) ?_
        refine lv_i2l hx hb dL_law_1975 rfl ?_
        refine W.lcmp hx hb dL_law_1976 ?_
        rw [lg_self]
        refine lv_if_eq (tgt := 1982) hx hb dL_law_1977 (by decide) (fun c_3 => ?_) (fun c_3 => ?_)
        · replace c_3 := cn_eq (a := 0) (b := 0) (by omega) (by omega) c_3
          refine lv_goto (tgt := 2069) hx hb dL_law_1982 (by decide) ?_
          refine W.widen (k := cells + 3) (n := slots + 18) (by omega) (by omega) ?_
          exact hnext _ _ _ ⟨a, N, Z, b, M, Y, sc, (upd tx L (xs ((6 * j) + 1))), (L + 1), cu, er, le, nb, nc, mm, pp, 0, ac, ea, le2, v1, v2, v3, v4, v5, (Int32.toInt64 (nI (L + 1))), fd, hT, (t_append hX hF), hP, hD⟩ hS (lv_sub hl [2, 3, 4, 5, 6, 7] rfl)
        · replace c_3 := cn_ne (a := 0) (b := 0) (by omega) (by omega) c_3
          exact absurd c_3 (by decide)
    · replace c_1 := cn_ne (a := 0) (b := 0) (by omega) (by omega) c_1
      exact absurd c_1 (by decide)
  · obtain ⟨hP, hD⟩ := fr_hd hP hD hk1 hPc (List.Perm.refl _)
    have hc0 := (nz_A (le_sq (le_wi _ _ _) (le_po _)) hF (r_sq (r_wi _ _ _).1 (r_po _).1))
    have hP : va_P G vwCl (((wMain T q a N Z b M Y sc tx L cu er le nb nc) ++ [(o, eL T fo)]) ++ ((wMod T r mm pp tx th sc L ac ea le2 v1 v2 v3 v4 v5) ++ [(d, eD T fd)])) H := hP
    have hD : va_D (lA s) (((wMain T q a N Z b M Y sc tx L cu er le nb nc) ++ [(o, eL T fo)]) ++ ((wMod T r mm pp tx th sc L ac ea le2 v1 v2 v3 v4 v5) ++ [(d, eD T fd)])) := hD
    refine W.eq (g2 := F0 m 1940 ls [.int (cmA (sq (wiF (xs ((6 * j) + 1)) 0 127) (poF (bI (decide (L < 100))))))]) rfl ?_
    refine lv_istore (lv' := [(6, .int (cmA (sq (wiF (xs ((6 * j) + 1)) 0 127) (poF (bI (decide (L < 100))))))), (0, .ref b0), (1, .ref (q 0)), (2, .ref (r 0)), (3, .ref o), (4, .ref d), (5, .int (nI (6 * j)))]) hx hb dL_law_1940 hl (by decide) rfl (fun ls hl => ?_)
    refine lv_aload_n hx hb dL_law_1942 rfl (lv_at hl 3 rfl) ?_
    refine lv_aload_n hx hb dL_law_1943 rfl (lv_at hl 1 rfl) ?_
    refine lv_iload hx hb dL_law_1944 (lv_at hl 6 rfl) ?_
    refine lv_iconst (v := 1) hx hb dL_law_1946 (by decide) ?_
    refine lv_iadd hx hb dL_law_1947 ?_
    rw [show ((nI (6 * j)) + 1) = (nI ((6 * j) + 1)) from nI_add (6 * j) 1]
    refine sld K hS ((6 * j) + 1) rfl (by omega) dL_law_1948 ?_
    refine mu_V S hkx (mX6_append l (T := T) (r := r) (N := N) (Z := Z) (mm := mm) (pp := pp) (xx := tx) (th := th) (sv := sc) (n1 := L) (ac := ac) (ea := ea) (le := le2) (v1 := v1) (v2 := v2) (v3 := v3) (v4 := v4) (v5 := v5) (x := (xs ((6 * j) + 1))) (hP := P_mid hP) (hD := (D_mid hD).weaken (fun _ _ _ _ => trivial)) (hwf := hT.1) (hr := hT.2.1) (hn1 := hX.1)) gL_law_X6_append rfl idX6_append ⟨Nat.le_of_ble_eq_true rfl, Nat.le_of_ble_eq_true rfl⟩ hP 101 rfl rfl rfl rfl hl.1 rfl (Nat.le_of_ble_eq_true rfl) dL_law_1949 ⟨(by show cells + 2 ≤ 601024; omega), (by show slots + 12 ≤ 7293034; omega)⟩ hS (fr_in (D_mid hD) (fun q h => Nat.le_trans hS.1 h)) (fun v H locs hp9 hz1 hk1 hS => ?_)
    obtain ⟨z9, rfl, hp9⟩ := hp9
    have hPm := (hp9.resolve_left (fun h => hF h.1)).2
    obtain ⟨hP, hD⟩ := fr_mid hP hD hk1 hPm rfl
    have hP : va_P G vwCl (((wMain T q a N Z b M Y sc tx L cu er le nb nc) ++ [(o, eL T fo)]) ++ ((wMod T r mm pp tx (cmA (sq (wiF (xs ((6 * j) + 1)) 0 127) (poF (bI (decide (L < 100)))))) sc L ac ea le2 v1 v2 v3 v4 v5) ++ [(d, eD T fd)])) H := hP
    have hD : va_D (lA s) (((wMain T q a N Z b M Y sc tx L cu er le nb nc) ++ [(o, eL T fo)]) ++ ((wMod T r mm pp tx (cmA (sq (wiF (xs ((6 * j) + 1)) 0 127) (poF (bI (decide (L < 100)))))) sc L ac ea le2 v1 v2 v3 v4 v5) ++ [(d, eD T fd)])) := hD
    refine W.eq (g2 := F0 m 1952 ls [.int z9]) rfl ?_
    refine lv_istore (lv' := [(7, .int z9), (6, .int (cmA (sq (wiF (xs ((6 * j) + 1)) 0 127) (poF (bI (decide (L < 100))))))), (0, .ref b0), (1, .ref (q 0)), (2, .ref (r 0)), (3, .ref o), (4, .ref d), (5, .int (nI (6 * j)))]) hx hb dL_law_1952 hl (by decide) rfl (fun ls hl => ?_)
    refine lv_aload_n hx hb dL_law_1954 rfl (lv_at hl 4 rfl) ?_
    refine ro_V S hkx (mX6_thrown l (T := T) (r := r) (N := N) (Z := Z) (mm := mm) (pp := pp) (xx := tx) (th := (cmA (sq (wiF (xs ((6 * j) + 1)) 0 127) (poF (bI (decide (L < 100))))))) (sv := sc) (n1 := L) (ac := ac) (ea := ea) (le := le2) (v1 := v1) (v2 := v2) (v3 := v3) (v4 := v4) (v5 := v5) (hP := P_mid hP)) gL_law_X6_thrown rfl idX6_thrown ⟨Nat.le_of_ble_eq_true rfl, Nat.le_of_ble_eq_true rfl⟩ hP 101 rfl rfl rfl rfl hl.1 rfl (Nat.le_of_ble_eq_true rfl) dL_law_1955 ⟨(by show cells + 2 ≤ 601024; omega), (by show slots + 12 ≤ 7293034; omega)⟩ (fun r9 hr9 => ?_)
    subst hr9
    refine lv_iload hx hb dL_law_1958 (lv_at hl 1 rfl) ?_
    refine lv_icmp_eq (tgt := 1965) hx hb dL_law_1960 (by decide) (fun c_4 => ?_) (fun c_4 => ?_)
    · skip
      refine lv_iload hx hb dL_law_1965 (lv_at hl 1 rfl) ?_
      refine lv_if_ne (tgt := 1982) hx hb dL_law_1967 (by decide) (fun c_5 => ?_) (fun c_5 => ?_)
      · skip
        refine lv_goto (tgt := 2069) hx hb dL_law_1982 (by decide) ?_
        refine W.widen (k := cells + 3) (n := slots + 18) (by omega) (by omega) ?_
        exact hnext _ _ _ ⟨a, N, Z, b, M, Y, sc, tx, L, cu, er, le, nb, nc, mm, pp, (cmA (sq (wiF (xs ((6 * j) + 1)) 0 127) (poF (bI (decide (L < 100)))))), ac, ea, le2, v1, v2, v3, v4, v5, fo, fd, hT, hX, hP, hD⟩ hS (lv_sub hl [2, 3, 4, 5, 6, 7] rfl)
      · skip
        exact absurd c_5 hc0
    · skip
      exact absurd rfl c_4

set_option maxHeartbeats 4000000 in
set_option maxRecDepth 100000 in
theorem law_clearText (l : Launch) (hl0 : l.stackTraces = false) {G : va_G} {T : Nat → ClassId} {sa kk vv : Nat → Nat} {p : Program} {e : Env} {s : State} {m : MethodId} {below : List Frame} {meth : Method} {c : Code} {Q : State → Prop} {b0 LL : Nat} {xs : Nat → Int32} {q r : Nat → Nat} {o d : Nat} {a N : Nat → Nat} {Z : Nat → Nat → Int32} {b M : Nat → Nat → Nat} {Y : Nat → Nat → Nat → Int32} {sc : Nat} {tx : Nat → Int32} {L cu : Nat} {er le : Int32} {nb : Nat → Int32} {nc : Nat} {mm pp : Nat → Int32} {th ac ea le2 v1 v2 v3 v4 v5 : Int32} {fo : Int64} {fd : UInt64} {H : Heap} {locs : List Loc} {cells slots j : Nat} {ls : Array Slot} (K : LK G T sa kk vv p s m c b0 LL xs) (hl : lv_has ls 9 [(0, .ref b0), (1, .ref (q 0)), (2, .ref (r 0)), (3, .ref o), (4, .ref d), (5, .int (nI (6 * j)))]) (hj : 6 * j + 5 < LL) (hcs : cells + 3 ≤ 601024) (hss : slots + 18 ≤ 7293034) (hS : va_S (lA s) s.heap H locs) (hT : tie N Z mm M Y pp sc) (hX : txo tx L) (hP : va_P G vwCl (wL T q a N Z b M Y sc tx L cu er le nb nc r mm pp th ac ea le2 v1 v2 v3 v4 v5 o d fo fd) H) (hD : va_D (lA s) (wL T q a N Z b M Y sc tx L cu er le nb nc r mm pp th ac ea le2 v1 v2 v3 v4 v5 o d fo fd)) (hnext : ∀ (H : Heap) (locs : List Loc) (ls : Array Slot), inv G T q r o d (lA s) H → va_S (lA s) s.heap H locs → lv_has ls 9 [(0, .ref b0), (1, .ref (q 0)), (2, .ref (r 0)), (3, .ref o), (4, .ref d), (5, .int (nI (6 * j)))] → W p l e room_1 s m ([.ref b0] : List Value).toArray below meth c H locs (cells + 3) (slots + 18) Q (F0 m 2069 ls [])) : W p l e room_1 s m ([.ref b0] : List Value).toArray below meth c H locs cells slots Q (F0 m 1985 ls []) := by
  obtain ⟨S, hkx, -, hnc, -⟩ := id K
  have hx := S.1
  have hb := S.2.1
  have h9 := K.2.2.2.2.2.2.2
  have hX1 := hX.1
  have hP : va_P G vwCl (((wMain T q a N Z b M Y sc tx L cu er le nb nc) ++ [(o, eL T fo)]) ++ ((wMod T r mm pp tx th sc L ac ea le2 v1 v2 v3 v4 v5) ++ [(d, eD T fd)])) H := hP
  have hD : va_D (lA s) (((wMain T q a N Z b M Y sc tx L cu er le nb nc) ++ [(o, eL T fo)]) ++ ((wMod T r mm pp tx th sc L ac ea le2 v1 v2 v3 v4 v5) ++ [(d, eD T fd)])) := hD
  refine lv_aload_n hx hb dL_law_1985 rfl (lv_at hl 1 rfl) ?_
  refine mu_V S hkx (mX5_clearText l (q := q) (a := a) (N := N) (Z := Z) (b := b) (M := M) (Y := Y) (sc := sc) (tx := tx) (L := L) (cu := cu) (er := er) (le := le) (nb := nb) (nc := nc) (hP := P_hd (P_as hP)) (hD := (D_hd (D_as hD)).weaken (fun _ _ _ _ => trivial))) gL_law_X5_clearText rfl idX5_clearText ⟨Nat.le_of_ble_eq_true rfl, Nat.le_of_ble_eq_true rfl⟩ hP 0 rfl rfl rfl rfl hl.1 rfl (Nat.le_of_ble_eq_true rfl) dL_law_1986 ⟨(by show cells ≤ 601024; omega), (by show slots ≤ 7293034; omega)⟩ hS (fr_in (D_hd (D_as hD)) (fun q h => Nat.le_trans hS.1 h)) (fun v H locs hp9 hz1 hk1 hS => ?_)
  obtain ⟨rfl, hPc⟩ := hp9
  obtain ⟨hP, hD⟩ := fr_hd (P_as hP) (D_as hD) hk1 hPc (List.Perm.refl _)
  have hP := P_sa hP
  have hD := D_sa hD
  have hP : va_P G vwCl (((wMain T q a N Z b M Y sc tx 0 cu er le nb nc) ++ [(o, eL T fo)]) ++ ((wMod T r mm pp tx th sc L ac ea le2 v1 v2 v3 v4 v5) ++ [(d, eD T fd)])) H := hP
  have hD : va_D (lA s) (((wMain T q a N Z b M Y sc tx 0 cu er le nb nc) ++ [(o, eL T fo)]) ++ ((wMod T r mm pp tx th sc L ac ea le2 v1 v2 v3 v4 v5) ++ [(d, eD T fd)])) := hD
  refine W.eq (g2 := F0 m 1989 ls [.int (nI L)]) rfl ?_
  refine lv_aload_n hx hb dL_law_1989 rfl (lv_at hl 2 rfl) ?_
  refine mu_V S hkx (mX6_clearText l (T := T) (r := r) (N := N) (Z := Z) (mm := mm) (pp := pp) (xx := tx) (th := th) (sv := sc) (n1 := L) (ac := ac) (ea := ea) (le := le2) (v1 := v1) (v2 := v2) (v3 := v3) (v4 := v4) (v5 := v5) (hP := P_mid hP) (hD := (D_mid hD).weaken (fun _ _ _ _ => trivial)) ) gL_law_X6_clearText rfl idX6_clearText ⟨Nat.le_of_ble_eq_true rfl, Nat.le_of_ble_eq_true rfl⟩ hP 101 rfl rfl rfl rfl hl.1 rfl (Nat.le_of_ble_eq_true rfl) dL_law_1990 ⟨(by show cells ≤ 601024; omega), (by show slots ≤ 7293034; omega)⟩ hS (fr_in (D_mid hD) (fun q h => Nat.le_trans hS.1 h)) (fun v H locs hp9 hz1 hk1 hS => ?_)
  obtain ⟨rfl, hPm⟩ := hp9
  obtain ⟨hP, hD⟩ := fr_mid hP hD hk1 hPm rfl
  have hP : va_P G vwCl (((wMain T q a N Z b M Y sc tx 0 cu er le nb nc) ++ [(o, eL T fo)]) ++ ((wMod T r mm pp tx 0 sc 0 ac ea le2 v1 v2 v3 v4 v5) ++ [(d, eD T fd)])) H := hP
  have hD : va_D (lA s) (((wMain T q a N Z b M Y sc tx 0 cu er le nb nc) ++ [(o, eL T fo)]) ++ ((wMod T r mm pp tx 0 sc 0 ac ea le2 v1 v2 v3 v4 v5) ++ [(d, eD T fd)])) := hD
  refine W.eq (g2 := F0 m 1993 ls [.int (nI L), .int (nI L)]) rfl ?_
  refine lv_icmp_eq (tgt := 2069) hx hb dL_law_1993 (by decide) (fun c_1 => ?_) (fun c_1 => ?_)
  · replace c_1 := cn_eq (a := L) (b := L) (by omega) (by omega) c_1
    refine W.widen (k := cells + 3) (n := slots + 18) (by omega) (by omega) ?_
    exact hnext _ _ _ ⟨a, N, Z, b, M, Y, sc, tx, 0, cu, er, le, nb, nc, mm, pp, 0, ac, ea, le2, v1, v2, v3, v4, v5, fo, fd, hT, ⟨Nat.zero_le _, fun i hi => absurd hi (Nat.not_lt_zero i)⟩, hP, hD⟩ hS (lv_sub hl [0, 1, 2, 3, 4, 5] rfl)
  · replace c_1 := cn_ne (a := L) (b := L) (by omega) (by omega) c_1
    exact absurd rfl c_1

set_option maxHeartbeats 4000000 in
set_option maxRecDepth 100000 in
theorem law_carryOut (l : Launch) (hl0 : l.stackTraces = false) {G : va_G} {T : Nat → ClassId} {sa kk vv : Nat → Nat} {p : Program} {e : Env} {s : State} {m : MethodId} {below : List Frame} {meth : Method} {c : Code} {Q : State → Prop} {b0 LL : Nat} {xs : Nat → Int32} {q r : Nat → Nat} {o d : Nat} {a N : Nat → Nat} {Z : Nat → Nat → Int32} {b M : Nat → Nat → Nat} {Y : Nat → Nat → Nat → Int32} {sc : Nat} {tx : Nat → Int32} {L cu : Nat} {er le : Int32} {nb : Nat → Int32} {nc : Nat} {mm pp : Nat → Int32} {th ac ea le2 v1 v2 v3 v4 v5 : Int32} {fo : Int64} {fd : UInt64} {H : Heap} {locs : List Loc} {cells slots j : Nat} {ls : Array Slot} (K : LK G T sa kk vv p s m c b0 LL xs) (hl : lv_has ls 9 [(0, .ref b0), (1, .ref (q 0)), (2, .ref (r 0)), (3, .ref o), (4, .ref d), (5, .int (nI (6 * j)))]) (hj : 6 * j + 5 < LL) (hcs : cells + 3 ≤ 601024) (hss : slots + 18 ≤ 7293034) (hS : va_S (lA s) s.heap H locs) (hT : tie N Z mm M Y pp sc) (hX : txo tx L) (hP : va_P G vwCl (wL T q a N Z b M Y sc tx L cu er le nb nc r mm pp th ac ea le2 v1 v2 v3 v4 v5 o d fo fd) H) (hD : va_D (lA s) (wL T q a N Z b M Y sc tx L cu er le nb nc r mm pp th ac ea le2 v1 v2 v3 v4 v5 o d fo fd)) (hnext : ∀ (H : Heap) (locs : List Loc) (ls : Array Slot), inv G T q r o d (lA s) H → va_S (lA s) s.heap H locs → lv_has ls 9 [(0, .ref b0), (1, .ref (q 0)), (2, .ref (r 0)), (3, .ref o), (4, .ref d), (5, .int (nI (6 * j)))] → W p l e room_1 s m ([.ref b0] : List Value).toArray below meth c H locs (cells + 3) (slots + 18) Q (F0 m 2069 ls [])) : W p l e room_1 s m ([.ref b0] : List Value).toArray below meth c H locs cells slots Q (F0 m 1998 ls []) := by
  obtain ⟨S, hkx, -, hnc, -⟩ := id K
  have hx := S.1
  have hb := S.2.1
  have h9 := K.2.2.2.2.2.2.2
  have hX1 := hX.1
  have hP : va_P G vwCl (((wMain T q a N Z b M Y sc tx L cu er le nb nc) ++ [(o, eL T fo)]) ++ ((wMod T r mm pp tx th sc L ac ea le2 v1 v2 v3 v4 v5) ++ [(d, eD T fd)])) H := hP
  have hD : va_D (lA s) (((wMain T q a N Z b M Y sc tx L cu er le nb nc) ++ [(o, eL T fo)]) ++ ((wMod T r mm pp tx th sc L ac ea le2 v1 v2 v3 v4 v5) ++ [(d, eD T fd)])) := hD
  refine lv_aload_n hx hb dL_law_1998 rfl (lv_at hl 1 rfl) ?_
  refine mus_V S hkx (K.2.2.2.2.1.kept hS.2.1) (mX5_carryOut l (A9 := lA s) (q := q) (a := a) (N := N) (Z := Z) (b := b) (M := M) (Y := Y) (sc := sc) (tx := tx) (L := L) (cu := cu) (er := er) (le := le) (nb := nb) (nc := nc) (hP := P_hd (P_as hP)) (hD := (D_hd (D_as hD)).weaken (fun _ _ _ _ => trivial)) (h9 := (fr_in (D_hd (D_as hD)) (fun q h => Nat.le_trans hS.1 h))) (hwf := hT.1) (hsc := hT.2.2.2) (hL := hX.1) (htx := hX.2)) gL_law_X5_carryOut rfl idX5_carryOut ⟨Nat.le_of_ble_eq_true rfl, Nat.le_of_ble_eq_true rfl⟩ hP 0 rfl rfl rfl rfl hl.1 rfl (Nat.le_of_ble_eq_true rfl) dL_law_1999 ⟨(by show cells ≤ 601024; omega), (by show slots ≤ 7293034; omega)⟩ hS (fr_in (D_hd (D_as hD)) (fun q h => Nat.le_trans hS.1 h)) (fun v H locs hp9 hz1 hk1 hS => ?_)
  rcases hp9 with ⟨p9, hce, rfl, cu9, er9, le9, nb9, nc9, hPc⟩ | ⟨hce, rfl, cu9, er9, le9, nb9, nc9, hPc⟩
  · obtain ⟨hP, hD⟩ := fr_hd (P_as hP) (D_as hD) hk1 hPc (List.Perm.refl _)
    have hP := P_sa hP
    have hD := D_sa hD
    have hP : va_P G vwCl (((wMain T q a N Z b M Y sc tx L cu9 er9 le9 nb9 nc9) ++ [(o, eL T fo)]) ++ ((wMod T r mm pp tx th sc L ac ea le2 v1 v2 v3 v4 v5) ++ [(d, eD T fd)])) H := hP
    have hD : va_D (lA s) (((wMain T q a N Z b M Y sc tx L cu9 er9 le9 nb9 nc9) ++ [(o, eL T fo)]) ++ ((wMod T r mm pp tx th sc L ac ea le2 v1 v2 v3 v4 v5) ++ [(d, eD T fd)])) := hD
    refine W.eq (g2 := F0 m 2002 ls [.int ((-10) - (nI p9))]) rfl ?_
    refine lv_aload_n hx hb dL_law_2002 rfl (lv_at hl 2 rfl) ?_
    refine mu_V S hkx (mX6_carryOut l (T := T) (r := r) (N := N) (Z := Z) (mm := mm) (pp := pp) (xx := tx) (th := th) (sv := sc) (n1 := L) (ac := ac) (ea := ea) (le := le2) (v1 := v1) (v2 := v2) (v3 := v3) (v4 := v4) (v5 := v5) (hP := P_mid hP) (hD := (D_mid hD).weaken (fun _ _ _ _ => trivial)) (hwf := hT.1) (hr := hT.2.1) (hs4 := hT.2.2.2) (hn1 := hX.1) (htx := hX.2)) gL_law_X6_carryOut rfl idX6_carryOut ⟨Nat.le_of_ble_eq_true rfl, Nat.le_of_ble_eq_true rfl⟩ hP 101 rfl rfl rfl rfl hl.1 rfl (Nat.le_of_ble_eq_true rfl) dL_law_2003 ⟨(by show cells ≤ 601024; omega), (by show slots ≤ 7293034; omega)⟩ hS (fr_in (D_mid hD) (fun q h => Nat.le_trans hS.1 h)) (fun v H locs hp9 hz1 hk1 hS => ?_)
    rcases hp9 with ⟨q9, hce2, rfl, ac9, ea9, lf9, w1, w2, w3, w4, w5, hPm⟩ | ⟨hce2, -⟩
    rotate_left
    · exact nomatch (hce.symm.trans hce2)
    obtain rfl := Option.some.inj (hce.symm.trans hce2)
    obtain ⟨hP, hD⟩ := fr_mid hP hD hk1 hPm rfl
    have hP : va_P G vwCl (((wMain T q a N Z b M Y sc tx L cu9 er9 le9 nb9 nc9) ++ [(o, eL T fo)]) ++ ((wMod T r mm pp tx 0 sc L ac9 ea9 lf9 w1 w2 w3 w4 w5) ++ [(d, eD T fd)])) H := hP
    have hD : va_D (lA s) (((wMain T q a N Z b M Y sc tx L cu9 er9 le9 nb9 nc9) ++ [(o, eL T fo)]) ++ ((wMod T r mm pp tx 0 sc L ac9 ea9 lf9 w1 w2 w3 w4 w5) ++ [(d, eD T fd)])) := hD
    refine W.eq (g2 := F0 m 2006 ls [.int ((-10) - (nI p9)), .int ((-10) - (nI p9))]) rfl ?_
    refine lv_icmp_eq (tgt := 2069) hx hb dL_law_2006 (by decide) (fun c_1 => ?_) (fun c_1 => ?_)
    · skip
      refine W.widen (k := cells + 3) (n := slots + 18) (by omega) (by omega) ?_
      exact hnext _ _ _ ⟨a, N, Z, b, M, Y, sc, tx, L, cu9, er9, le9, nb9, nc9, mm, pp, 0, ac9, ea9, lf9, w1, w2, w3, w4, w5, fo, fd, hT, hX, hP, hD⟩ hS (lv_sub hl [0, 1, 2, 3, 4, 5] rfl)
    · skip
      exact absurd rfl c_1
  · obtain ⟨hP, hD⟩ := fr_hd (P_as hP) (D_as hD) hk1 hPc sv_addr
    have hP := P_sa hP
    have hD := D_sa hD
    have hP : va_P G vwCl (((wMain T q a ((cry tx L 101 0 N Z 0).2.1) ((cry tx L 101 0 N Z 0).2.2) (svB sc b) (psh sc M N) (psh sc Y Z) (svC sc) tx L cu9 er9 le9 nb9 nc9) ++ [(o, eL T fo)]) ++ ((wMod T r mm pp tx th sc L ac ea le2 v1 v2 v3 v4 v5) ++ [(d, eD T fd)])) H := hP
    have hD : va_D (lA s) (((wMain T q a ((cry tx L 101 0 N Z 0).2.1) ((cry tx L 101 0 N Z 0).2.2) (svB sc b) (psh sc M N) (psh sc Y Z) (svC sc) tx L cu9 er9 le9 nb9 nc9) ++ [(o, eL T fo)]) ++ ((wMod T r mm pp tx th sc L ac ea le2 v1 v2 v3 v4 v5) ++ [(d, eD T fd)])) := hD
    refine W.eq (g2 := F0 m 2002 ls [.int (nI (cry tx L 101 0 N Z 0).1)]) rfl ?_
    refine lv_aload_n hx hb dL_law_2002 rfl (lv_at hl 2 rfl) ?_
    refine mu_V S hkx (mX6_carryOut l (T := T) (r := r) (N := N) (Z := Z) (mm := mm) (pp := pp) (xx := tx) (th := th) (sv := sc) (n1 := L) (ac := ac) (ea := ea) (le := le2) (v1 := v1) (v2 := v2) (v3 := v3) (v4 := v4) (v5 := v5) (hP := P_mid hP) (hD := (D_mid hD).weaken (fun _ _ _ _ => trivial)) (hwf := hT.1) (hr := hT.2.1) (hs4 := hT.2.2.2) (hn1 := hX.1) (htx := hX.2)) gL_law_X6_carryOut rfl idX6_carryOut ⟨Nat.le_of_ble_eq_true rfl, Nat.le_of_ble_eq_true rfl⟩ hP 101 rfl rfl rfl rfl hl.1 rfl (Nat.le_of_ble_eq_true rfl) dL_law_2003 ⟨(by show cells ≤ 601024; omega), (by show slots ≤ 7293034; omega)⟩ hS (fr_in (D_mid hD) (fun q h => Nat.le_trans hS.1 h)) (fun v H locs hp9 hz1 hk1 hS => ?_)
    rcases hp9 with ⟨q9, hce2, -⟩ | ⟨-, rfl, m9, ac9, ea9, lf9, w1, w2, w3, w4, w5, hwf9, hrl9, hPm⟩
    · exact nomatch (hce.symm.trans hce2)
    obtain ⟨hP, hD⟩ := fr_mid hP hD hk1 hPm rfl
    have hP : va_P G vwCl (((wMain T q a ((cry tx L 101 0 N Z 0).2.1) ((cry tx L 101 0 N Z 0).2.2) (svB sc b) (psh sc M N) (psh sc Y Z) (svC sc) tx L cu9 er9 le9 nb9 nc9) ++ [(o, eL T fo)]) ++ ((wMod T r m9 (svP sc pp mm) tx 0 (svC sc) L ac9 ea9 lf9 w1 w2 w3 w4 w5) ++ [(d, eD T fd)])) H := hP
    have hD : va_D (lA s) (((wMain T q a ((cry tx L 101 0 N Z 0).2.1) ((cry tx L 101 0 N Z 0).2.2) (svB sc b) (psh sc M N) (psh sc Y Z) (svC sc) tx L cu9 er9 le9 nb9 nc9) ++ [(o, eL T fo)]) ++ ((wMod T r m9 (svP sc pp mm) tx 0 (svC sc) L ac9 ea9 lf9 w1 w2 w3 w4 w5) ++ [(d, eD T fd)])) := hD
    refine W.eq (g2 := F0 m 2006 ls [.int (nI (cry tx L 101 0 N Z 0).1), .int (nI (cry tx L 101 0 N Z 0).1)]) rfl ?_
    refine lv_icmp_eq (tgt := 2069) hx hb dL_law_2006 (by decide) (fun c_2 => ?_) (fun c_2 => ?_)
    · skip
      refine W.widen (k := cells + 3) (n := slots + 18) (by omega) (by omega) ?_
      exact hnext _ _ _ ⟨a, (cry tx L 101 0 N Z 0).2.1, (cry tx L 101 0 N Z 0).2.2, (svB sc b), (psh sc M N), (psh sc Y Z), (svC sc), tx, L, cu9, er9, le9, nb9, nc9, m9, (svP sc pp mm), 0, ac9, ea9, lf9, w1, w2, w3, w4, w5, fo, fd, (tie_sv hT ⟨hwf9, hrl9⟩), hX, hP, hD⟩ hS (lv_sub hl [0, 1, 2, 3, 4, 5] rfl)
    · skip
      exact absurd rfl c_2

set_option maxHeartbeats 4000000 in
set_option maxRecDepth 100000 in
theorem law_undo (l : Launch) (hl0 : l.stackTraces = false) {G : va_G} {T : Nat → ClassId} {sa kk vv : Nat → Nat} {p : Program} {e : Env} {s : State} {m : MethodId} {below : List Frame} {meth : Method} {c : Code} {Q : State → Prop} {b0 LL : Nat} {xs : Nat → Int32} {q r : Nat → Nat} {o d : Nat} {a N : Nat → Nat} {Z : Nat → Nat → Int32} {b M : Nat → Nat → Nat} {Y : Nat → Nat → Nat → Int32} {sc : Nat} {tx : Nat → Int32} {L cu : Nat} {er le : Int32} {nb : Nat → Int32} {nc : Nat} {mm pp : Nat → Int32} {th ac ea le2 v1 v2 v3 v4 v5 : Int32} {fo : Int64} {fd : UInt64} {H : Heap} {locs : List Loc} {cells slots j : Nat} {ls : Array Slot} (K : LK G T sa kk vv p s m c b0 LL xs) (hl : lv_has ls 9 [(0, .ref b0), (1, .ref (q 0)), (2, .ref (r 0)), (3, .ref o), (4, .ref d), (5, .int (nI (6 * j)))]) (hj : 6 * j + 5 < LL) (hcs : cells + 3 ≤ 601024) (hss : slots + 18 ≤ 7293034) (hS : va_S (lA s) s.heap H locs) (hT : tie N Z mm M Y pp sc) (hX : txo tx L) (hP : va_P G vwCl (wL T q a N Z b M Y sc tx L cu er le nb nc r mm pp th ac ea le2 v1 v2 v3 v4 v5 o d fo fd) H) (hD : va_D (lA s) (wL T q a N Z b M Y sc tx L cu er le nb nc r mm pp th ac ea le2 v1 v2 v3 v4 v5 o d fo fd)) (hnext : ∀ (H : Heap) (locs : List Loc) (ls : Array Slot), inv G T q r o d (lA s) H → va_S (lA s) s.heap H locs → lv_has ls 9 [(0, .ref b0), (1, .ref (q 0)), (2, .ref (r 0)), (3, .ref o), (4, .ref d), (5, .int (nI (6 * j)))] → W p l e room_1 s m ([.ref b0] : List Value).toArray below meth c H locs (cells + 3) (slots + 18) Q (F0 m 2069 ls [])) : W p l e room_1 s m ([.ref b0] : List Value).toArray below meth c H locs cells slots Q (F0 m 2011 ls []) := by
  obtain ⟨S, hkx, -, hnc, -⟩ := id K
  have hx := S.1
  have hb := S.2.1
  have h9 := K.2.2.2.2.2.2.2
  have hX1 := hX.1
  have hP : va_P G vwCl (((wMain T q a N Z b M Y sc tx L cu er le nb nc) ++ [(o, eL T fo)]) ++ ((wMod T r mm pp tx th sc L ac ea le2 v1 v2 v3 v4 v5) ++ [(d, eD T fd)])) H := hP
  have hD : va_D (lA s) (((wMain T q a N Z b M Y sc tx L cu er le nb nc) ++ [(o, eL T fo)]) ++ ((wMod T r mm pp tx th sc L ac ea le2 v1 v2 v3 v4 v5) ++ [(d, eD T fd)])) := hD
  refine lv_aload_n hx hb dL_law_2011 rfl (lv_at hl 1 rfl) ?_
  refine lv_aload_n hx hb dL_law_2012 rfl (lv_at hl 3 rfl) ?_
  refine lw_S S hkx (K.2.2.1.kept hS.2.1) hnc (mL_undo l hl0 (sa := sa) (A9 := lA s) (q := q) (a := a) (N := N) (Z := Z) (b := b) (M := M) (Y := Y) (sc := sc) (tx := tx) (L := L) (cu := cu) (er := er) (le := le) (nb := nb) (nc := nc) (o := o) (fo := fo) (hP := P_hd hP) (hD := (D_hd hD).weaken (fun _ _ _ _ => trivial)) (h9 := (fun q h => Nat.le_trans hS.1 h)) (hwf := hT.1) (hsc := hT.2.2.2)) gL_law_L_undo rfl idL_undo ⟨Nat.le_of_ble_eq_true rfl, Nat.le_of_ble_eq_true rfl⟩ rfl hl.1 rfl (Nat.le_of_ble_eq_true rfl) dL_law_2013 ⟨(by show cells + 1 ≤ 601024; omega), (by show slots + 6 ≤ 7293034; omega)⟩ hS (fr_in (D_hd hD) (fun q h => Nat.le_trans hS.1 h)) (fun v H locs hp9 hz1 hk1 hS => ?_)
  rcases hp9 with ⟨hF, rfl, hPc⟩ | ⟨hF, rfl, hPc⟩
  · obtain ⟨hP, hD⟩ := fr_hd hP hD hk1 hPc (addr_snoc (List.Perm.refl _))
    have hP : va_P G vwCl (((wMain T q a (M (sc - 1)) (Y (sc - 1)) b M Y (sc - 1) tx L cu er le nb nc) ++ [(o, eL T (Int32.toInt64 (nI (sc - 1))))]) ++ ((wMod T r mm pp tx th sc L ac ea le2 v1 v2 v3 v4 v5) ++ [(d, eD T fd)])) H := hP
    have hD : va_D (lA s) (((wMain T q a (M (sc - 1)) (Y (sc - 1)) b M Y (sc - 1) tx L cu er le nb nc) ++ [(o, eL T (Int32.toInt64 (nI (sc - 1))))]) ++ ((wMod T r mm pp tx th sc L ac ea le2 v1 v2 v3 v4 v5) ++ [(d, eD T fd)])) := hD
    refine W.eq (g2 := F0 m 2016 ls [.int 0]) rfl ?_
    refine lv_istore (lv' := [(6, .int 0), (0, .ref b0), (1, .ref (q 0)), (2, .ref (r 0)), (3, .ref o), (4, .ref d), (5, .int (nI (6 * j)))]) hx hb dL_law_2016 hl (by decide) rfl (fun ls hl => ?_)
    refine lv_aload_n hx hb dL_law_2018 rfl (lv_at hl 3 rfl) ?_
    refine mu_V S hkx (mX6_undo l (T := T) (r := r) (N := N) (Z := Z) (mm := mm) (pp := pp) (xx := tx) (th := th) (sv := sc) (n1 := L) (ac := ac) (ea := ea) (le := le2) (v1 := v1) (v2 := v2) (v3 := v3) (v4 := v4) (v5 := v5) (hP := P_mid hP) (hD := (D_mid hD).weaken (fun _ _ _ _ => trivial)) (hwf := hT.1) (hr := hT.2.1) (hs4 := hT.2.2.2)) gL_law_X6_undo rfl idX6_undo ⟨Nat.le_of_ble_eq_true rfl, Nat.le_of_ble_eq_true rfl⟩ hP 101 rfl rfl rfl rfl hl.1 rfl (Nat.le_of_ble_eq_true rfl) dL_law_2019 ⟨(by show cells + 1 ≤ 601024; omega), (by show slots + 6 ≤ 7293034; omega)⟩ hS (fr_in (D_mid hD) (fun q h => Nat.le_trans hS.1 h)) (fun v H locs hp9 hz1 hk1 hS => ?_)
    obtain ⟨z9, rfl, hp9⟩ := hp9
    obtain ⟨-, rfl, hPm⟩ := hp9.resolve_right (fun h => h.1 hF)
    obtain ⟨hP, hD⟩ := fr_mid hP hD hk1 hPm rfl
    have hP : va_P G vwCl (((wMain T q a (M (sc - 1)) (Y (sc - 1)) b M Y (sc - 1) tx L cu er le nb nc) ++ [(o, eL T (Int32.toInt64 (nI (sc - 1))))]) ++ ((wMod T r (gcp mm pp (158 * (sc - 1)) 158) pp tx 0 (sc - 1) L ac ea le2 v1 v2 v3 v4 v5) ++ [(d, eD T fd)])) H := hP
    have hD : va_D (lA s) (((wMain T q a (M (sc - 1)) (Y (sc - 1)) b M Y (sc - 1) tx L cu er le nb nc) ++ [(o, eL T (Int32.toInt64 (nI (sc - 1))))]) ++ ((wMod T r (gcp mm pp (158 * (sc - 1)) 158) pp tx 0 (sc - 1) L ac ea le2 v1 v2 v3 v4 v5) ++ [(d, eD T fd)])) := hD
    refine W.eq (g2 := F0 m 2022 ls [.int (nI (sc - 1))]) rfl ?_
    refine lv_istore (lv' := [(7, .int (nI (sc - 1))), (6, .int 0), (0, .ref b0), (1, .ref (q 0)), (2, .ref (r 0)), (3, .ref o), (4, .ref d), (5, .int (nI (6 * j)))]) hx hb dL_law_2022 hl (by decide) rfl (fun ls hl => ?_)
    refine lv_aload_n hx hb dL_law_2024 rfl (lv_at hl 4 rfl) ?_
    refine ro_V S hkx (mX6_thrown l (T := T) (r := r) (N := N) (Z := Z) (mm := (gcp mm pp (158 * (sc - 1)) 158)) (pp := pp) (xx := tx) (th := 0) (sv := (sc - 1)) (n1 := L) (ac := ac) (ea := ea) (le := le2) (v1 := v1) (v2 := v2) (v3 := v3) (v4 := v4) (v5 := v5) (hP := P_mid hP)) gL_law_X6_thrown rfl idX6_thrown ⟨Nat.le_of_ble_eq_true rfl, Nat.le_of_ble_eq_true rfl⟩ hP 101 rfl rfl rfl rfl hl.1 rfl (Nat.le_of_ble_eq_true rfl) dL_law_2025 ⟨(by show cells + 1 ≤ 601024; omega), (by show slots + 6 ≤ 7293034; omega)⟩ (fun r9 hr9 => ?_)
    subst hr9
    refine lv_iload hx hb dL_law_2028 (lv_at hl 1 rfl) ?_
    refine lv_icmp_eq (tgt := 2035) hx hb dL_law_2030 (by decide) (fun c_1 => ?_) (fun c_1 => ?_)
    · replace c_1 := cn_eq (a := 0) (b := 0) (by omega) (by omega) c_1
      refine lv_iload hx hb dL_law_2035 (lv_at hl 1 rfl) ?_
      refine lv_if_ne (tgt := 2052) hx hb dL_law_2037 (by decide) (fun c_2 => ?_) (fun c_2 => ?_)
      · replace c_2 := cn_ne (a := 0) (b := 0) (by omega) (by omega) c_2
        exact absurd c_2 (by decide)
      · replace c_2 := cn_eq (a := 0) (b := 0) (by omega) (by omega) c_2
        refine lv_aload_n hx hb dL_law_2040 rfl (lv_at hl 5 rfl) ?_
        refine lv_iconst (v := 0) hx hb dL_law_2041 (by decide) ?_
        refine lld0 hx hb hkx hP 100 rfl dL_law_2042 ?_
        refine lv_iload hx hb dL_law_2043 (lv_at hl 0 rfl) ?_
        refine lv_i2l hx hb dL_law_2045 rfl ?_
        refine W.lcmp hx hb dL_law_2046 ?_
        rw [lg_self]
        refine lv_if_eq (tgt := 2052) hx hb dL_law_2047 (by decide) (fun c_3 => ?_) (fun c_3 => ?_)
        · replace c_3 := cn_eq (a := 0) (b := 0) (by omega) (by omega) c_3
          refine lv_goto (tgt := 2069) hx hb dL_law_2052 (by decide) ?_
          refine W.widen (k := cells + 3) (n := slots + 18) (by omega) (by omega) ?_
          exact hnext _ _ _ ⟨a, (M (sc - 1)), (Y (sc - 1)), b, M, Y, (sc - 1), tx, L, cu, er, le, nb, nc, (gcp mm pp (158 * (sc - 1)) 158), pp, 0, ac, ea, le2, v1, v2, v3, v4, v5, (Int32.toInt64 (nI (sc - 1))), fd, (t_undo hT hF), hX, hP, hD⟩ hS (lv_sub hl [2, 3, 4, 5, 6, 7] rfl)
        · replace c_3 := cn_ne (a := 0) (b := 0) (by omega) (by omega) c_3
          exact absurd c_3 (by decide)
    · replace c_1 := cn_ne (a := 0) (b := 0) (by omega) (by omega) c_1
      exact absurd c_1 (by decide)
  · obtain ⟨hP, hD⟩ := fr_hd hP hD hk1 hPc (List.Perm.refl _)
    have hc0 := (nz_S (le_po _) hF (r_po _).1 (r_po _).2)
    have hP : va_P G vwCl (((wMain T q a N Z b M Y sc tx L cu er le nb nc) ++ [(o, eL T fo)]) ++ ((wMod T r mm pp tx th sc L ac ea le2 v1 v2 v3 v4 v5) ++ [(d, eD T fd)])) H := hP
    have hD : va_D (lA s) (((wMain T q a N Z b M Y sc tx L cu er le nb nc) ++ [(o, eL T fo)]) ++ ((wMod T r mm pp tx th sc L ac ea le2 v1 v2 v3 v4 v5) ++ [(d, eD T fd)])) := hD
    refine W.eq (g2 := F0 m 2016 ls [.int (cmS (poF (bI (decide (0 < sc)))))]) rfl ?_
    refine lv_istore (lv' := [(6, .int (cmS (poF (bI (decide (0 < sc)))))), (0, .ref b0), (1, .ref (q 0)), (2, .ref (r 0)), (3, .ref o), (4, .ref d), (5, .int (nI (6 * j)))]) hx hb dL_law_2016 hl (by decide) rfl (fun ls hl => ?_)
    refine lv_aload_n hx hb dL_law_2018 rfl (lv_at hl 3 rfl) ?_
    refine mu_V S hkx (mX6_undo l (T := T) (r := r) (N := N) (Z := Z) (mm := mm) (pp := pp) (xx := tx) (th := th) (sv := sc) (n1 := L) (ac := ac) (ea := ea) (le := le2) (v1 := v1) (v2 := v2) (v3 := v3) (v4 := v4) (v5 := v5) (hP := P_mid hP) (hD := (D_mid hD).weaken (fun _ _ _ _ => trivial)) (hwf := hT.1) (hr := hT.2.1) (hs4 := hT.2.2.2)) gL_law_X6_undo rfl idX6_undo ⟨Nat.le_of_ble_eq_true rfl, Nat.le_of_ble_eq_true rfl⟩ hP 101 rfl rfl rfl rfl hl.1 rfl (Nat.le_of_ble_eq_true rfl) dL_law_2019 ⟨(by show cells + 1 ≤ 601024; omega), (by show slots + 6 ≤ 7293034; omega)⟩ hS (fr_in (D_mid hD) (fun q h => Nat.le_trans hS.1 h)) (fun v H locs hp9 hz1 hk1 hS => ?_)
    obtain ⟨z9, rfl, hp9⟩ := hp9
    have hPm := (hp9.resolve_left (fun h => hF h.1)).2
    obtain ⟨hP, hD⟩ := fr_mid hP hD hk1 hPm rfl
    have hP : va_P G vwCl (((wMain T q a N Z b M Y sc tx L cu er le nb nc) ++ [(o, eL T fo)]) ++ ((wMod T r mm pp tx (cmS (poF (bI (decide (0 < sc))))) sc L ac ea le2 v1 v2 v3 v4 v5) ++ [(d, eD T fd)])) H := hP
    have hD : va_D (lA s) (((wMain T q a N Z b M Y sc tx L cu er le nb nc) ++ [(o, eL T fo)]) ++ ((wMod T r mm pp tx (cmS (poF (bI (decide (0 < sc))))) sc L ac ea le2 v1 v2 v3 v4 v5) ++ [(d, eD T fd)])) := hD
    refine W.eq (g2 := F0 m 2022 ls [.int z9]) rfl ?_
    refine lv_istore (lv' := [(7, .int z9), (6, .int (cmS (poF (bI (decide (0 < sc)))))), (0, .ref b0), (1, .ref (q 0)), (2, .ref (r 0)), (3, .ref o), (4, .ref d), (5, .int (nI (6 * j)))]) hx hb dL_law_2022 hl (by decide) rfl (fun ls hl => ?_)
    refine lv_aload_n hx hb dL_law_2024 rfl (lv_at hl 4 rfl) ?_
    refine ro_V S hkx (mX6_thrown l (T := T) (r := r) (N := N) (Z := Z) (mm := mm) (pp := pp) (xx := tx) (th := (cmS (poF (bI (decide (0 < sc)))))) (sv := sc) (n1 := L) (ac := ac) (ea := ea) (le := le2) (v1 := v1) (v2 := v2) (v3 := v3) (v4 := v4) (v5 := v5) (hP := P_mid hP)) gL_law_X6_thrown rfl idX6_thrown ⟨Nat.le_of_ble_eq_true rfl, Nat.le_of_ble_eq_true rfl⟩ hP 101 rfl rfl rfl rfl hl.1 rfl (Nat.le_of_ble_eq_true rfl) dL_law_2025 ⟨(by show cells + 1 ≤ 601024; omega), (by show slots + 6 ≤ 7293034; omega)⟩ (fun r9 hr9 => ?_)
    subst hr9
    refine lv_iload hx hb dL_law_2028 (lv_at hl 1 rfl) ?_
    refine lv_icmp_eq (tgt := 2035) hx hb dL_law_2030 (by decide) (fun c_4 => ?_) (fun c_4 => ?_)
    · skip
      refine lv_iload hx hb dL_law_2035 (lv_at hl 1 rfl) ?_
      refine lv_if_ne (tgt := 2052) hx hb dL_law_2037 (by decide) (fun c_5 => ?_) (fun c_5 => ?_)
      · skip
        refine lv_goto (tgt := 2069) hx hb dL_law_2052 (by decide) ?_
        refine W.widen (k := cells + 3) (n := slots + 18) (by omega) (by omega) ?_
        exact hnext _ _ _ ⟨a, N, Z, b, M, Y, sc, tx, L, cu, er, le, nb, nc, mm, pp, (cmS (poF (bI (decide (0 < sc))))), ac, ea, le2, v1, v2, v3, v4, v5, fo, fd, hT, hX, hP, hD⟩ hS (lv_sub hl [2, 3, 4, 5, 6, 7] rfl)
      · skip
        exact absurd c_5 hc0
    · skip
      exact absurd rfl c_4

set_option maxHeartbeats 4000000 in
set_option maxRecDepth 100000 in
theorem law_digest (l : Launch) (hl0 : l.stackTraces = false) {G : va_G} {T : Nat → ClassId} {sa kk vv : Nat → Nat} {p : Program} {e : Env} {s : State} {m : MethodId} {below : List Frame} {meth : Method} {c : Code} {Q : State → Prop} {b0 LL : Nat} {xs : Nat → Int32} {q r : Nat → Nat} {o d : Nat} {a N : Nat → Nat} {Z : Nat → Nat → Int32} {b M : Nat → Nat → Nat} {Y : Nat → Nat → Nat → Int32} {sc : Nat} {tx : Nat → Int32} {L cu : Nat} {er le : Int32} {nb : Nat → Int32} {nc : Nat} {mm pp : Nat → Int32} {th ac ea le2 v1 v2 v3 v4 v5 : Int32} {fo : Int64} {fd : UInt64} {H : Heap} {locs : List Loc} {cells slots j : Nat} {ls : Array Slot} (K : LK G T sa kk vv p s m c b0 LL xs) (hl : lv_has ls 9 [(0, .ref b0), (1, .ref (q 0)), (2, .ref (r 0)), (3, .ref o), (4, .ref d), (5, .int (nI (6 * j)))]) (hj : 6 * j + 5 < LL) (hcs : cells + 3 ≤ 601024) (hss : slots + 18 ≤ 7293034) (hS : va_S (lA s) s.heap H locs) (hT : tie N Z mm M Y pp sc) (hX : txo tx L) (hP : va_P G vwCl (wL T q a N Z b M Y sc tx L cu er le nb nc r mm pp th ac ea le2 v1 v2 v3 v4 v5 o d fo fd) H) (hD : va_D (lA s) (wL T q a N Z b M Y sc tx L cu er le nb nc r mm pp th ac ea le2 v1 v2 v3 v4 v5 o d fo fd)) (hnext : ∀ (H : Heap) (locs : List Loc) (ls : Array Slot), inv G T q r o d (lA s) H → va_S (lA s) s.heap H locs → lv_has ls 9 [(0, .ref b0), (1, .ref (q 0)), (2, .ref (r 0)), (3, .ref o), (4, .ref d), (5, .int (nI (6 * j)))] → W p l e room_1 s m ([.ref b0] : List Value).toArray below meth c H locs (cells + 3) (slots + 18) Q (F0 m 2069 ls [])) : W p l e room_1 s m ([.ref b0] : List Value).toArray below meth c H locs cells slots Q (F0 m 2055 ls []) := by
  obtain ⟨S, hkx, -, hnc, -⟩ := id K
  have hx := S.1
  have hb := S.2.1
  have h9 := K.2.2.2.2.2.2.2
  have hX1 := hX.1
  have hP : va_P G vwCl (((wMain T q a N Z b M Y sc tx L cu er le nb nc) ++ [(o, eL T fo)]) ++ ((wMod T r mm pp tx th sc L ac ea le2 v1 v2 v3 v4 v5) ++ [(d, eD T fd)])) H := hP
  have hD : va_D (lA s) (((wMain T q a N Z b M Y sc tx L cu er le nb nc) ++ [(o, eL T fo)]) ++ ((wMod T r mm pp tx th sc L ac ea le2 v1 v2 v3 v4 v5) ++ [(d, eD T fd)])) := hD
  refine lv_aload_n hx hb dL_law_2055 rfl (lv_at hl 1 rfl) ?_
  refine rol_V S hkx (mX5_digest l (q := q) (a := a) (N := N) (Z := Z) (b := b) (M := M) (Y := Y) (sc := sc) (tx := tx) (L := L) (cu := cu) (er := er) (le := le) (nb := nb) (nc := nc) (hP := P_hd (P_as hP)) (hwf := hT.1)) gL_law_X5_digest rfl idX5_digest ⟨Nat.le_of_ble_eq_true rfl, Nat.le_of_ble_eq_true rfl⟩ hP 0 rfl rfl rfl rfl hl.1 rfl (Nat.le_of_ble_eq_true rfl) dL_law_2056 ⟨(by show cells ≤ 601024; omega), (by show slots ≤ 7293034; omega)⟩ (fun r9 hr9 => ?_)
  subst hr9
  refine lv_aload_n hx hb dL_law_2059 rfl (lv_at hl 2 rfl) ?_
  refine mu_V S hkx (mX6_digest l (T := T) (r := r) (N := N) (Z := Z) (mm := mm) (pp := pp) (xx := tx) (th := th) (sv := sc) (n1 := L) (ac := ac) (ea := ea) (le := le2) (v1 := v1) (v2 := v2) (v3 := v3) (v4 := v4) (v5 := v5) (hP := P_mid hP) (hD := (D_mid hD).weaken (fun _ _ _ _ => trivial)) (hwf := hT.1) (hr := hT.2.1)) gL_law_X6_digest rfl idX6_digest ⟨Nat.le_of_ble_eq_true rfl, Nat.le_of_ble_eq_true rfl⟩ hP 101 rfl rfl rfl rfl hl.1 rfl (Nat.le_of_ble_eq_true rfl) dL_law_2060 ⟨(by show cells ≤ 601024; omega), (by show slots ≤ 7293034; omega)⟩ hS (fr_in (D_mid hD) (fun q h => Nat.le_trans hS.1 h)) (fun v H locs hp9 hz1 hk1 hS => ?_)
  obtain ⟨rfl, hPm⟩ := hp9
  obtain ⟨hP, hD⟩ := fr_mid hP hD hk1 hPm rfl
  have hP : va_P G vwCl (((wMain T q a N Z b M Y sc tx L cu er le nb nc) ++ [(o, eL T fo)]) ++ ((wMod T r mm pp tx 0 sc L ac ea le2 v1 v2 v3 v4 v5) ++ [(d, eD T fd)])) H := hP
  have hD : va_D (lA s) (((wMain T q a N Z b M Y sc tx L cu er le nb nc) ++ [(o, eL T fo)]) ++ ((wMod T r mm pp tx 0 sc L ac ea le2 v1 v2 v3 v4 v5) ++ [(d, eD T fd)])) := hD
  refine W.eq (g2 := F0 m 2063 ls [.long (dig N Z L sc), .long (dig N Z L sc)]) rfl ?_
  refine W.lcmp hx hb dL_law_2063 ?_
  rw [lg_self]
  refine lv_if_eq (tgt := 2069) hx hb dL_law_2064 (by decide) (fun c_1 => ?_) (fun c_1 => ?_)
  · replace c_1 := cn_eq (a := 0) (b := 0) (by omega) (by omega) c_1
    refine W.widen (k := cells + 3) (n := slots + 18) (by omega) (by omega) ?_
    exact hnext _ _ _ ⟨a, N, Z, b, M, Y, sc, tx, L, cu, er, le, nb, nc, mm, pp, 0, ac, ea, le2, v1, v2, v3, v4, v5, fo, fd, hT, hX, hP, hD⟩ hS (lv_sub hl [0, 1, 2, 3, 4, 5] rfl)
  · replace c_1 := cn_ne (a := 0) (b := 0) (by omega) (by omega) c_1
    exact absurd c_1 (by decide)
