set_option maxHeartbeats 4000000 in
set_option maxRecDepth 100000 in
theorem law_version (l : Launch) (hl0 : l.stackTraces = false) {G : va_G} {T : Nat → ClassId} {sa kk vv : Nat → Nat} {p : Program} {e : Env} {s : State} {m : MethodId} {below : List Frame} {meth : Method} {c : Code} {Q : State → Prop} {b0 LL : Nat} {xs : Nat → Int32} {q r : Nat → Nat} {o d : Nat} {a N : Nat → Nat} {Z : Nat → Nat → Int32} {b M : Nat → Nat → Nat} {Y : Nat → Nat → Nat → Int32} {sc : Nat} {tx : Nat → Int32} {L cu : Nat} {er le : Int32} {nb : Nat → Int32} {nc : Nat} {mm pp : Nat → Int32} {th ac ea le2 v1 v2 v3 v4 v5 : Int32} {fo : Int64} {fd : UInt64} {H : Heap} {locs : List Loc} {cells slots j : Nat} {ls : Array Slot} (K : LK G T sa kk vv p s m c b0 LL xs) (hl : lv_has ls 9 [(0, .ref b0), (1, .ref (q 0)), (2, .ref (r 0)), (3, .ref o), (4, .ref d), (5, .int (nI (6 * j)))]) (hj : 6 * j + 5 < LL) (hcs : cells + 3 ≤ 601024) (hss : slots + 18 ≤ 7293034) (hS : va_S (lA s) s.heap H locs) (hT : tie N Z mm M Y pp sc) (hX : txo tx L) (hP : va_P G vwCl (wL T q a N Z b M Y sc tx L cu er le nb nc r mm pp th ac ea le2 v1 v2 v3 v4 v5 o d fo fd) H) (hD : va_D (lA s) (wL T q a N Z b M Y sc tx L cu er le nb nc r mm pp th ac ea le2 v1 v2 v3 v4 v5 o d fo fd)) (hnext : ∀ (H : Heap) (locs : List Loc) (ls : Array Slot), inv G T q r o d (lA s) H → va_S (lA s) s.heap H locs → lv_has ls 9 [(0, .ref b0), (1, .ref (q 0)), (2, .ref (r 0)), (3, .ref o), (4, .ref d), (5, .int (nI (6 * j)))] → W p l e room_1 s m ([.ref b0] : List Value).toArray below meth c H locs (cells + 3) (slots + 18) Q (F0 m 2069 ls [])) : W p l e room_1 s m ([.ref b0] : List Value).toArray below meth c H locs cells slots Q (F0 m 900 ls []) := by
  obtain ⟨S, hkx, -, hnc, -⟩ := id K
  have hx := S.1
  have hb := S.2.1
  have h9 := K.2.2.2.2.2.2.2
  have hX1 := hX.1
  have hP : va_P G vwCl (((wMain T q a N Z b M Y sc tx L cu er le nb nc) ++ [(o, eL T fo)]) ++ ((wMod T r mm pp tx th sc L ac ea le2 v1 v2 v3 v4 v5) ++ [(d, eD T fd)])) H := hP
  have hD : va_D (lA s) (((wMain T q a N Z b M Y sc tx L cu er le nb nc) ++ [(o, eL T fo)]) ++ ((wMod T r mm pp tx th sc L ac ea le2 v1 v2 v3 v4 v5) ++ [(d, eD T fd)])) := hD
  refine lv_aload_n hx hb dL_law_900 rfl (lv_at hl 1 rfl) ?_
  refine lv_aload_n hx hb dL_law_901 rfl (lv_at hl 0 rfl) ?_
  refine lv_iload hx hb dL_law_902 (lv_at hl 5 rfl) ?_
  refine lv_iconst (v := 1) hx hb dL_law_904 (by decide) ?_
  refine lv_iadd hx hb dL_law_905 ?_
  rw [show ((nI (6 * j)) + 1) = (nI ((6 * j) + 1)) from nI_add (6 * j) 1]
  refine sld K hS ((6 * j) + 1) rfl (by omega) dL_law_906 ?_
  refine lv_aload_n hx hb dL_law_907 rfl (lv_at hl 0 rfl) ?_
  refine lv_iload hx hb dL_law_908 (lv_at hl 5 rfl) ?_
  refine lv_iconst (v := 2) hx hb dL_law_910 (by decide) ?_
  refine lv_iadd hx hb dL_law_911 ?_
  rw [show ((nI (6 * j)) + 2) = (nI ((6 * j) + 2)) from nI_add (6 * j) 2]
  refine sld K hS ((6 * j) + 2) rfl (by omega) dL_law_912 ?_
  refine lv_aload_n hx hb dL_law_913 rfl (lv_at hl 3 rfl) ?_
  refine lw_S S hkx (K.2.2.1.kept hS.2.1) hnc (mL_version l hl0 (sa := sa) (A9 := lA s) (q := q) (a := a) (N := N) (Z := Z) (b := b) (M := M) (Y := Y) (sc := sc) (tx := tx) (L := L) (cu := cu) (er := er) (le := le) (nb := nb) (nc := nc) (v := (xs ((6 * j) + 1))) (w := (xs ((6 * j) + 2))) (o := o) (fo := fo) (hP := P_hd hP) (hD := (D_hd hD).weaken (fun _ _ _ _ => trivial)) (h9 := (fun q h => Nat.le_trans hS.1 h)) (hwf := hT.1)) gL_law_L_version rfl idL_version ⟨Nat.le_of_ble_eq_true rfl, Nat.le_of_ble_eq_true rfl⟩ rfl hl.1 rfl (Nat.le_of_ble_eq_true rfl) dL_law_914 ⟨(by show cells + 2 ≤ 601024; omega), (by show slots + 12 ≤ 7293034; omega)⟩ hS (fr_in (D_hd hD) (fun q h => Nat.le_trans hS.1 h)) (fun v H locs hp9 hz1 hk1 hS => ?_)
  rcases hp9 with ⟨hF, rfl, hPc⟩ | ⟨hF, rfl, hPc⟩
  · obtain ⟨hP, hD⟩ := fr_hd hP hD hk1 hPc (addr_snoc (List.Perm.refl _))
    have hP : va_P G vwCl (((wMain T q a N Z b M Y sc tx L cu er le nb nc) ++ [(o, eL T (Int32.toInt64 (ofV N Z (tn (xs ((6 * j) + 1))) (tn (xs ((6 * j) + 2))))))]) ++ ((wMod T r mm pp tx th sc L ac ea le2 v1 v2 v3 v4 v5) ++ [(d, eD T fd)])) H := hP
    have hD : va_D (lA s) (((wMain T q a N Z b M Y sc tx L cu er le nb nc) ++ [(o, eL T (Int32.toInt64 (ofV N Z (tn (xs ((6 * j) + 1))) (tn (xs ((6 * j) + 2))))))]) ++ ((wMod T r mm pp tx th sc L ac ea le2 v1 v2 v3 v4 v5) ++ [(d, eD T fd)])) := hD
    refine W.eq (g2 := F0 m 917 ls [.int 0]) rfl ?_
    refine lv_istore (lv' := [(6, .int 0), (0, .ref b0), (1, .ref (q 0)), (2, .ref (r 0)), (3, .ref o), (4, .ref d), (5, .int (nI (6 * j)))]) hx hb dL_law_917 hl (by decide) rfl (fun ls hl => ?_)
    refine lv_aload_n hx hb dL_law_919 rfl (lv_at hl 3 rfl) ?_
    refine lv_aload_n hx hb dL_law_920 rfl (lv_at hl 1 rfl) ?_
    refine lv_iload hx hb dL_law_921 (lv_at hl 6 rfl) ?_
    refine lv_iconst (v := 1) hx hb dL_law_923 (by decide) ?_
    refine lv_iadd hx hb dL_law_924 ?_
    rw [show ((nI (6 * j)) + 1) = (nI ((6 * j) + 1)) from nI_add (6 * j) 1]
    refine sld K hS ((6 * j) + 1) rfl (by omega) dL_law_925 ?_
    refine lv_aload_n hx hb dL_law_926 rfl (lv_at hl 1 rfl) ?_
    refine lv_iload hx hb dL_law_927 (lv_at hl 6 rfl) ?_
    refine lv_iconst (v := 2) hx hb dL_law_929 (by decide) ?_
    refine lv_iadd hx hb dL_law_930 ?_
    rw [show ((nI (6 * j)) + 2) = (nI ((6 * j) + 2)) from nI_add (6 * j) 2]
    refine sld K hS ((6 * j) + 2) rfl (by omega) dL_law_931 ?_
    refine mu_V S hkx (mX6_version l (T := T) (r := r) (N := N) (Z := Z) (mm := mm) (pp := pp) (xx := tx) (th := th) (sv := sc) (n1 := L) (ac := ac) (ea := ea) (le := le2) (v1 := v1) (v2 := v2) (v3 := v3) (v4 := v4) (v5 := v5) (v := (xs ((6 * j) + 1))) (w := (xs ((6 * j) + 2))) (hP := P_mid hP) (hD := (D_mid hD).weaken (fun _ _ _ _ => trivial)) (hwf := hT.1) (hr := hT.2.1)) gL_law_X6_version rfl idX6_version ⟨Nat.le_of_ble_eq_true rfl, Nat.le_of_ble_eq_true rfl⟩ hP 101 rfl rfl rfl rfl hl.1 rfl (Nat.le_of_ble_eq_true rfl) dL_law_932 ⟨(by show cells + 2 ≤ 601024; omega), (by show slots + 12 ≤ 7293034; omega)⟩ hS (fr_in (D_mid hD) (fun q h => Nat.le_trans hS.1 h)) (fun v H locs hp9 hz1 hk1 hS => ?_)
    obtain ⟨z9, rfl, hp9⟩ := hp9
    obtain ⟨-, rfl, hPm⟩ := hp9.resolve_right (fun h => h.1 hF)
    obtain ⟨hP, hD⟩ := fr_mid hP hD hk1 hPm rfl
    have hP : va_P G vwCl (((wMain T q a N Z b M Y sc tx L cu er le nb nc) ++ [(o, eL T (Int32.toInt64 (ofV N Z (tn (xs ((6 * j) + 1))) (tn (xs ((6 * j) + 2))))))]) ++ ((wMod T r mm pp tx 0 sc L ac ea le2 v1 v2 v3 v4 v5) ++ [(d, eD T fd)])) H := hP
    have hD : va_D (lA s) (((wMain T q a N Z b M Y sc tx L cu er le nb nc) ++ [(o, eL T (Int32.toInt64 (ofV N Z (tn (xs ((6 * j) + 1))) (tn (xs ((6 * j) + 2))))))]) ++ ((wMod T r mm pp tx 0 sc L ac ea le2 v1 v2 v3 v4 v5) ++ [(d, eD T fd)])) := hD
    refine W.eq (g2 := F0 m 935 ls [.int (ofV N Z (tn (xs ((6 * j) + 1))) (tn (xs ((6 * j) + 2))))]) rfl ?_
    refine lv_istore (lv' := [(7, .int (ofV N Z (tn (xs ((6 * j) + 1))) (tn (xs ((6 * j) + 2))))), (6, .int 0), (0, .ref b0), (1, .ref (q 0)), (2, .ref (r 0)), (3, .ref o), (4, .ref d), (5, .int (nI (6 * j)))]) hx hb dL_law_935 hl (by decide) rfl (fun ls hl => ?_)
    refine lv_aload_n hx hb dL_law_937 rfl (lv_at hl 4 rfl) ?_
    refine ro_V S hkx (mX6_thrown l (T := T) (r := r) (N := N) (Z := Z) (mm := mm) (pp := pp) (xx := tx) (th := 0) (sv := sc) (n1 := L) (ac := ac) (ea := ea) (le := le2) (v1 := v1) (v2 := v2) (v3 := v3) (v4 := v4) (v5 := v5) (hP := P_mid hP)) gL_law_X6_thrown rfl idX6_thrown ⟨Nat.le_of_ble_eq_true rfl, Nat.le_of_ble_eq_true rfl⟩ hP 101 rfl rfl rfl rfl hl.1 rfl (Nat.le_of_ble_eq_true rfl) dL_law_938 ⟨(by show cells + 2 ≤ 601024; omega), (by show slots + 12 ≤ 7293034; omega)⟩ (fun r9 hr9 => ?_)
    subst hr9
    refine lv_iload hx hb dL_law_941 (lv_at hl 1 rfl) ?_
    refine lv_icmp_eq (tgt := 948) hx hb dL_law_943 (by decide) (fun c_1 => ?_) (fun c_1 => ?_)
    · replace c_1 := cn_eq (a := 0) (b := 0) (by omega) (by omega) c_1
      refine lv_iload hx hb dL_law_948 (lv_at hl 1 rfl) ?_
      refine lv_if_ne (tgt := 965) hx hb dL_law_950 (by decide) (fun c_2 => ?_) (fun c_2 => ?_)
      · replace c_2 := cn_ne (a := 0) (b := 0) (by omega) (by omega) c_2
        exact absurd c_2 (by decide)
      · replace c_2 := cn_eq (a := 0) (b := 0) (by omega) (by omega) c_2
        refine lv_aload_n hx hb dL_law_953 rfl (lv_at hl 5 rfl) ?_
        refine lv_iconst (v := 0) hx hb dL_law_954 (by decide) ?_
        refine lld0 hx hb hkx hP 100 rfl dL_law_955 ?_
        refine lv_iload hx hb dL_law_956 (lv_at hl 0 rfl) ?_
        refine lv_i2l hx hb dL_law_958 rfl ?_
        refine W.lcmp hx hb dL_law_959 ?_
        rw [lg_self]
        refine lv_if_eq (tgt := 965) hx hb dL_law_960 (by decide) (fun c_3 => ?_) (fun c_3 => ?_)
        · replace c_3 := cn_eq (a := 0) (b := 0) (by omega) (by omega) c_3
          refine lv_goto (tgt := 2069) hx hb dL_law_965 (by decide) ?_
          refine W.widen (k := cells + 3) (n := slots + 18) (by omega) (by omega) ?_
          exact hnext _ _ _ ⟨a, N, Z, b, M, Y, sc, tx, L, cu, er, le, nb, nc, mm, pp, 0, ac, ea, le2, v1, v2, v3, v4, v5, (Int32.toInt64 (ofV N Z (tn (xs ((6 * j) + 1))) (tn (xs ((6 * j) + 2))))), fd, hT, hX, hP, hD⟩ hS (lv_sub hl [2, 3, 4, 5, 6, 7] rfl)
        · replace c_3 := cn_ne (a := 0) (b := 0) (by omega) (by omega) c_3
          exact absurd c_3 (by decide)
    · replace c_1 := cn_ne (a := 0) (b := 0) (by omega) (by omega) c_1
      exact absurd c_1 (by decide)
  · obtain ⟨hP, hD⟩ := fr_hd hP hD hk1 hPc (List.Perm.refl _)
    have hc0 := (nz_I (le_sq (le_th _ _) (le_wi _ _ _)) hF)
    have hP : va_P G vwCl (((wMain T q a N Z b M Y sc tx L cu er le nb nc) ++ [(o, eL T fo)]) ++ ((wMod T r mm pp tx th sc L ac ea le2 v1 v2 v3 v4 v5) ++ [(d, eD T fd)])) H := hP
    have hD : va_D (lA s) (((wMain T q a N Z b M Y sc tx L cu er le nb nc) ++ [(o, eL T fo)]) ++ ((wMod T r mm pp tx th sc L ac ea le2 v1 v2 v3 v4 v5) ++ [(d, eD T fd)])) := hD
    refine W.eq (g2 := F0 m 917 ls [.int (cmI (sq (thF (xs ((6 * j) + 1)) (nI (N 0))) (wiF (xs ((6 * j) + 2)) 0 4)))]) rfl ?_
    refine lv_istore (lv' := [(6, .int (cmI (sq (thF (xs ((6 * j) + 1)) (nI (N 0))) (wiF (xs ((6 * j) + 2)) 0 4)))), (0, .ref b0), (1, .ref (q 0)), (2, .ref (r 0)), (3, .ref o), (4, .ref d), (5, .int (nI (6 * j)))]) hx hb dL_law_917 hl (by decide) rfl (fun ls hl => ?_)
    refine lv_aload_n hx hb dL_law_919 rfl (lv_at hl 3 rfl) ?_
    refine lv_aload_n hx hb dL_law_920 rfl (lv_at hl 1 rfl) ?_
    refine lv_iload hx hb dL_law_921 (lv_at hl 6 rfl) ?_
    refine lv_iconst (v := 1) hx hb dL_law_923 (by decide) ?_
    refine lv_iadd hx hb dL_law_924 ?_
    rw [show ((nI (6 * j)) + 1) = (nI ((6 * j) + 1)) from nI_add (6 * j) 1]
    refine sld K hS ((6 * j) + 1) rfl (by omega) dL_law_925 ?_
    refine lv_aload_n hx hb dL_law_926 rfl (lv_at hl 1 rfl) ?_
    refine lv_iload hx hb dL_law_927 (lv_at hl 6 rfl) ?_
    refine lv_iconst (v := 2) hx hb dL_law_929 (by decide) ?_
    refine lv_iadd hx hb dL_law_930 ?_
    rw [show ((nI (6 * j)) + 2) = (nI ((6 * j) + 2)) from nI_add (6 * j) 2]
    refine sld K hS ((6 * j) + 2) rfl (by omega) dL_law_931 ?_
    refine mu_V S hkx (mX6_version l (T := T) (r := r) (N := N) (Z := Z) (mm := mm) (pp := pp) (xx := tx) (th := th) (sv := sc) (n1 := L) (ac := ac) (ea := ea) (le := le2) (v1 := v1) (v2 := v2) (v3 := v3) (v4 := v4) (v5 := v5) (v := (xs ((6 * j) + 1))) (w := (xs ((6 * j) + 2))) (hP := P_mid hP) (hD := (D_mid hD).weaken (fun _ _ _ _ => trivial)) (hwf := hT.1) (hr := hT.2.1)) gL_law_X6_version rfl idX6_version ⟨Nat.le_of_ble_eq_true rfl, Nat.le_of_ble_eq_true rfl⟩ hP 101 rfl rfl rfl rfl hl.1 rfl (Nat.le_of_ble_eq_true rfl) dL_law_932 ⟨(by show cells + 2 ≤ 601024; omega), (by show slots + 12 ≤ 7293034; omega)⟩ hS (fr_in (D_mid hD) (fun q h => Nat.le_trans hS.1 h)) (fun v H locs hp9 hz1 hk1 hS => ?_)
    obtain ⟨z9, rfl, hp9⟩ := hp9
    have hPm := (hp9.resolve_left (fun h => hF h.1)).2
    obtain ⟨hP, hD⟩ := fr_mid hP hD hk1 hPm rfl
    have hP : va_P G vwCl (((wMain T q a N Z b M Y sc tx L cu er le nb nc) ++ [(o, eL T fo)]) ++ ((wMod T r mm pp tx (cmI (sq (thF (xs ((6 * j) + 1)) (nI (N 0))) (wiF (xs ((6 * j) + 2)) 0 4))) sc L ac ea le2 v1 v2 v3 v4 v5) ++ [(d, eD T fd)])) H := hP
    have hD : va_D (lA s) (((wMain T q a N Z b M Y sc tx L cu er le nb nc) ++ [(o, eL T fo)]) ++ ((wMod T r mm pp tx (cmI (sq (thF (xs ((6 * j) + 1)) (nI (N 0))) (wiF (xs ((6 * j) + 2)) 0 4))) sc L ac ea le2 v1 v2 v3 v4 v5) ++ [(d, eD T fd)])) := hD
    refine W.eq (g2 := F0 m 935 ls [.int z9]) rfl ?_
    refine lv_istore (lv' := [(7, .int z9), (6, .int (cmI (sq (thF (xs ((6 * j) + 1)) (nI (N 0))) (wiF (xs ((6 * j) + 2)) 0 4)))), (0, .ref b0), (1, .ref (q 0)), (2, .ref (r 0)), (3, .ref o), (4, .ref d), (5, .int (nI (6 * j)))]) hx hb dL_law_935 hl (by decide) rfl (fun ls hl => ?_)
    refine lv_aload_n hx hb dL_law_937 rfl (lv_at hl 4 rfl) ?_
    refine ro_V S hkx (mX6_thrown l (T := T) (r := r) (N := N) (Z := Z) (mm := mm) (pp := pp) (xx := tx) (th := (cmI (sq (thF (xs ((6 * j) + 1)) (nI (N 0))) (wiF (xs ((6 * j) + 2)) 0 4)))) (sv := sc) (n1 := L) (ac := ac) (ea := ea) (le := le2) (v1 := v1) (v2 := v2) (v3 := v3) (v4 := v4) (v5 := v5) (hP := P_mid hP)) gL_law_X6_thrown rfl idX6_thrown ⟨Nat.le_of_ble_eq_true rfl, Nat.le_of_ble_eq_true rfl⟩ hP 101 rfl rfl rfl rfl hl.1 rfl (Nat.le_of_ble_eq_true rfl) dL_law_938 ⟨(by show cells + 2 ≤ 601024; omega), (by show slots + 12 ≤ 7293034; omega)⟩ (fun r9 hr9 => ?_)
    subst hr9
    refine lv_iload hx hb dL_law_941 (lv_at hl 1 rfl) ?_
    refine lv_icmp_eq (tgt := 948) hx hb dL_law_943 (by decide) (fun c_4 => ?_) (fun c_4 => ?_)
    · skip
      refine lv_iload hx hb dL_law_948 (lv_at hl 1 rfl) ?_
      refine lv_if_ne (tgt := 965) hx hb dL_law_950 (by decide) (fun c_5 => ?_) (fun c_5 => ?_)
      · skip
        refine lv_goto (tgt := 2069) hx hb dL_law_965 (by decide) ?_
        refine W.widen (k := cells + 3) (n := slots + 18) (by omega) (by omega) ?_
        exact hnext _ _ _ ⟨a, N, Z, b, M, Y, sc, tx, L, cu, er, le, nb, nc, mm, pp, (cmI (sq (thF (xs ((6 * j) + 1)) (nI (N 0))) (wiF (xs ((6 * j) + 2)) 0 4))), ac, ea, le2, v1, v2, v3, v4, v5, fo, fd, hT, hX, hP, hD⟩ hS (lv_sub hl [2, 3, 4, 5, 6, 7] rfl)
      · skip
        exact absurd c_5 hc0
    · skip
      exact absurd rfl c_4

set_option maxHeartbeats 4000000 in
set_option maxRecDepth 100000 in
theorem law_user (l : Launch) (hl0 : l.stackTraces = false) {G : va_G} {T : Nat → ClassId} {sa kk vv : Nat → Nat} {p : Program} {e : Env} {s : State} {m : MethodId} {below : List Frame} {meth : Method} {c : Code} {Q : State → Prop} {b0 LL : Nat} {xs : Nat → Int32} {q r : Nat → Nat} {o d : Nat} {a N : Nat → Nat} {Z : Nat → Nat → Int32} {b M : Nat → Nat → Nat} {Y : Nat → Nat → Nat → Int32} {sc : Nat} {tx : Nat → Int32} {L cu : Nat} {er le : Int32} {nb : Nat → Int32} {nc : Nat} {mm pp : Nat → Int32} {th ac ea le2 v1 v2 v3 v4 v5 : Int32} {fo : Int64} {fd : UInt64} {H : Heap} {locs : List Loc} {cells slots j : Nat} {ls : Array Slot} (K : LK G T sa kk vv p s m c b0 LL xs) (hl : lv_has ls 9 [(0, .ref b0), (1, .ref (q 0)), (2, .ref (r 0)), (3, .ref o), (4, .ref d), (5, .int (nI (6 * j)))]) (hj : 6 * j + 5 < LL) (hcs : cells + 3 ≤ 601024) (hss : slots + 18 ≤ 7293034) (hS : va_S (lA s) s.heap H locs) (hT : tie N Z mm M Y pp sc) (hX : txo tx L) (hP : va_P G vwCl (wL T q a N Z b M Y sc tx L cu er le nb nc r mm pp th ac ea le2 v1 v2 v3 v4 v5 o d fo fd) H) (hD : va_D (lA s) (wL T q a N Z b M Y sc tx L cu er le nb nc r mm pp th ac ea le2 v1 v2 v3 v4 v5 o d fo fd)) (hnext : ∀ (H : Heap) (locs : List Loc) (ls : Array Slot), inv G T q r o d (lA s) H → va_S (lA s) s.heap H locs → lv_has ls 9 [(0, .ref b0), (1, .ref (q 0)), (2, .ref (r 0)), (3, .ref o), (4, .ref d), (5, .int (nI (6 * j)))] → W p l e room_1 s m ([.ref b0] : List Value).toArray below meth c H locs (cells + 3) (slots + 18) Q (F0 m 2069 ls [])) : W p l e room_1 s m ([.ref b0] : List Value).toArray below meth c H locs cells slots Q (F0 m 968 ls []) := by
  obtain ⟨S, hkx, -, hnc, -⟩ := id K
  have hx := S.1
  have hb := S.2.1
  have h9 := K.2.2.2.2.2.2.2
  have hX1 := hX.1
  have hP : va_P G vwCl (((wMain T q a N Z b M Y sc tx L cu er le nb nc) ++ [(o, eL T fo)]) ++ ((wMod T r mm pp tx th sc L ac ea le2 v1 v2 v3 v4 v5) ++ [(d, eD T fd)])) H := hP
  have hD : va_D (lA s) (((wMain T q a N Z b M Y sc tx L cu er le nb nc) ++ [(o, eL T fo)]) ++ ((wMod T r mm pp tx th sc L ac ea le2 v1 v2 v3 v4 v5) ++ [(d, eD T fd)])) := hD
  refine lv_aload_n hx hb dL_law_968 rfl (lv_at hl 1 rfl) ?_
  refine lv_aload_n hx hb dL_law_969 rfl (lv_at hl 0 rfl) ?_
  refine lv_iload hx hb dL_law_970 (lv_at hl 5 rfl) ?_
  refine lv_iconst (v := 1) hx hb dL_law_972 (by decide) ?_
  refine lv_iadd hx hb dL_law_973 ?_
  rw [show ((nI (6 * j)) + 1) = (nI ((6 * j) + 1)) from nI_add (6 * j) 1]
  refine sld K hS ((6 * j) + 1) rfl (by omega) dL_law_974 ?_
  refine lv_aload_n hx hb dL_law_975 rfl (lv_at hl 0 rfl) ?_
  refine lv_iload hx hb dL_law_976 (lv_at hl 5 rfl) ?_
  refine lv_iconst (v := 2) hx hb dL_law_978 (by decide) ?_
  refine lv_iadd hx hb dL_law_979 ?_
  rw [show ((nI (6 * j)) + 2) = (nI ((6 * j) + 2)) from nI_add (6 * j) 2]
  refine sld K hS ((6 * j) + 2) rfl (by omega) dL_law_980 ?_
  refine lv_aload_n hx hb dL_law_981 rfl (lv_at hl 3 rfl) ?_
  refine lw_S S hkx (K.2.2.1.kept hS.2.1) hnc (mL_user l hl0 (sa := sa) (A9 := lA s) (q := q) (a := a) (N := N) (Z := Z) (b := b) (M := M) (Y := Y) (sc := sc) (tx := tx) (L := L) (cu := cu) (er := er) (le := le) (nb := nb) (nc := nc) (u := (xs ((6 * j) + 1))) (w := (xs ((6 * j) + 2))) (o := o) (fo := fo) (hP := P_hd hP) (hD := (D_hd hD).weaken (fun _ _ _ _ => trivial)) (h9 := (fun q h => Nat.le_trans hS.1 h)) (hwf := hT.1)) gL_law_L_user rfl idL_user ⟨Nat.le_of_ble_eq_true rfl, Nat.le_of_ble_eq_true rfl⟩ rfl hl.1 rfl (Nat.le_of_ble_eq_true rfl) dL_law_982 ⟨(by show cells + 2 ≤ 601024; omega), (by show slots + 12 ≤ 7293034; omega)⟩ hS (fr_in (D_hd hD) (fun q h => Nat.le_trans hS.1 h)) (fun v H locs hp9 hz1 hk1 hS => ?_)
  rcases hp9 with ⟨hF, rfl, hPc⟩ | ⟨hF, rfl, hPc⟩
  · obtain ⟨hP, hD⟩ := fr_hd hP hD hk1 hPc (addr_snoc (List.Perm.refl _))
    have hP : va_P G vwCl (((wMain T q a N Z b M Y sc tx L cu er le nb nc) ++ [(o, eL T (Int32.toInt64 (Z (5 + tn (xs ((6 * j) + 2))) (tn (xs ((6 * j) + 1))))))]) ++ ((wMod T r mm pp tx th sc L ac ea le2 v1 v2 v3 v4 v5) ++ [(d, eD T fd)])) H := hP
    have hD : va_D (lA s) (((wMain T q a N Z b M Y sc tx L cu er le nb nc) ++ [(o, eL T (Int32.toInt64 (Z (5 + tn (xs ((6 * j) + 2))) (tn (xs ((6 * j) + 1))))))]) ++ ((wMod T r mm pp tx th sc L ac ea le2 v1 v2 v3 v4 v5) ++ [(d, eD T fd)])) := hD
    refine W.eq (g2 := F0 m 985 ls [.int 0]) rfl ?_
    refine lv_istore (lv' := [(6, .int 0), (0, .ref b0), (1, .ref (q 0)), (2, .ref (r 0)), (3, .ref o), (4, .ref d), (5, .int (nI (6 * j)))]) hx hb dL_law_985 hl (by decide) rfl (fun ls hl => ?_)
    refine lv_aload_n hx hb dL_law_987 rfl (lv_at hl 3 rfl) ?_
    refine lv_aload_n hx hb dL_law_988 rfl (lv_at hl 1 rfl) ?_
    refine lv_iload hx hb dL_law_989 (lv_at hl 6 rfl) ?_
    refine lv_iconst (v := 1) hx hb dL_law_991 (by decide) ?_
    refine lv_iadd hx hb dL_law_992 ?_
    rw [show ((nI (6 * j)) + 1) = (nI ((6 * j) + 1)) from nI_add (6 * j) 1]
    refine sld K hS ((6 * j) + 1) rfl (by omega) dL_law_993 ?_
    refine lv_aload_n hx hb dL_law_994 rfl (lv_at hl 1 rfl) ?_
    refine lv_iload hx hb dL_law_995 (lv_at hl 6 rfl) ?_
    refine lv_iconst (v := 2) hx hb dL_law_997 (by decide) ?_
    refine lv_iadd hx hb dL_law_998 ?_
    rw [show ((nI (6 * j)) + 2) = (nI ((6 * j) + 2)) from nI_add (6 * j) 2]
    refine sld K hS ((6 * j) + 2) rfl (by omega) dL_law_999 ?_
    refine mu_V S hkx (mX6_user l (T := T) (r := r) (N := N) (Z := Z) (mm := mm) (pp := pp) (xx := tx) (th := th) (sv := sc) (n1 := L) (ac := ac) (ea := ea) (le := le2) (v1 := v1) (v2 := v2) (v3 := v3) (v4 := v4) (v5 := v5) (u := (xs ((6 * j) + 1))) (w := (xs ((6 * j) + 2))) (hP := P_mid hP) (hD := (D_mid hD).weaken (fun _ _ _ _ => trivial)) (hwf := hT.1) (hr := hT.2.1)) gL_law_X6_user rfl idX6_user ⟨Nat.le_of_ble_eq_true rfl, Nat.le_of_ble_eq_true rfl⟩ hP 101 rfl rfl rfl rfl hl.1 rfl (Nat.le_of_ble_eq_true rfl) dL_law_1000 ⟨(by show cells + 2 ≤ 601024; omega), (by show slots + 12 ≤ 7293034; omega)⟩ hS (fr_in (D_mid hD) (fun q h => Nat.le_trans hS.1 h)) (fun v H locs hp9 hz1 hk1 hS => ?_)
    obtain ⟨z9, rfl, hp9⟩ := hp9
    obtain ⟨-, rfl, hPm⟩ := hp9.resolve_right (fun h => h.1 hF)
    obtain ⟨hP, hD⟩ := fr_mid hP hD hk1 hPm rfl
    have hP : va_P G vwCl (((wMain T q a N Z b M Y sc tx L cu er le nb nc) ++ [(o, eL T (Int32.toInt64 (Z (5 + tn (xs ((6 * j) + 2))) (tn (xs ((6 * j) + 1))))))]) ++ ((wMod T r mm pp tx 0 sc L ac ea le2 v1 v2 v3 v4 v5) ++ [(d, eD T fd)])) H := hP
    have hD : va_D (lA s) (((wMain T q a N Z b M Y sc tx L cu er le nb nc) ++ [(o, eL T (Int32.toInt64 (Z (5 + tn (xs ((6 * j) + 2))) (tn (xs ((6 * j) + 1))))))]) ++ ((wMod T r mm pp tx 0 sc L ac ea le2 v1 v2 v3 v4 v5) ++ [(d, eD T fd)])) := hD
    refine W.eq (g2 := F0 m 1003 ls [.int (Z (5 + tn (xs ((6 * j) + 2))) (tn (xs ((6 * j) + 1))))]) rfl ?_
    refine lv_istore (lv' := [(7, .int (Z (5 + tn (xs ((6 * j) + 2))) (tn (xs ((6 * j) + 1))))), (6, .int 0), (0, .ref b0), (1, .ref (q 0)), (2, .ref (r 0)), (3, .ref o), (4, .ref d), (5, .int (nI (6 * j)))]) hx hb dL_law_1003 hl (by decide) rfl (fun ls hl => ?_)
    refine lv_aload_n hx hb dL_law_1005 rfl (lv_at hl 4 rfl) ?_
    refine ro_V S hkx (mX6_thrown l (T := T) (r := r) (N := N) (Z := Z) (mm := mm) (pp := pp) (xx := tx) (th := 0) (sv := sc) (n1 := L) (ac := ac) (ea := ea) (le := le2) (v1 := v1) (v2 := v2) (v3 := v3) (v4 := v4) (v5 := v5) (hP := P_mid hP)) gL_law_X6_thrown rfl idX6_thrown ⟨Nat.le_of_ble_eq_true rfl, Nat.le_of_ble_eq_true rfl⟩ hP 101 rfl rfl rfl rfl hl.1 rfl (Nat.le_of_ble_eq_true rfl) dL_law_1006 ⟨(by show cells + 2 ≤ 601024; omega), (by show slots + 12 ≤ 7293034; omega)⟩ (fun r9 hr9 => ?_)
    subst hr9
    refine lv_iload hx hb dL_law_1009 (lv_at hl 1 rfl) ?_
    refine lv_icmp_eq (tgt := 1016) hx hb dL_law_1011 (by decide) (fun c_1 => ?_) (fun c_1 => ?_)
    · replace c_1 := cn_eq (a := 0) (b := 0) (by omega) (by omega) c_1
      refine lv_iload hx hb dL_law_1016 (lv_at hl 1 rfl) ?_
      refine lv_if_ne (tgt := 1033) hx hb dL_law_1018 (by decide) (fun c_2 => ?_) (fun c_2 => ?_)
      · replace c_2 := cn_ne (a := 0) (b := 0) (by omega) (by omega) c_2
        exact absurd c_2 (by decide)
      · replace c_2 := cn_eq (a := 0) (b := 0) (by omega) (by omega) c_2
        refine lv_aload_n hx hb dL_law_1021 rfl (lv_at hl 5 rfl) ?_
        refine lv_iconst (v := 0) hx hb dL_law_1022 (by decide) ?_
        refine lld0 hx hb hkx hP 100 rfl dL_law_1023 ?_
        refine lv_iload hx hb dL_law_1024 (lv_at hl 0 rfl) ?_
        refine lv_i2l hx hb dL_law_1026 rfl ?_
        refine W.lcmp hx hb dL_law_1027 ?_
        rw [lg_self]
        refine lv_if_eq (tgt := 1033) hx hb dL_law_1028 (by decide) (fun c_3 => ?_) (fun c_3 => ?_)
        · replace c_3 := cn_eq (a := 0) (b := 0) (by omega) (by omega) c_3
          refine lv_goto (tgt := 2069) hx hb dL_law_1033 (by decide) ?_
          refine W.widen (k := cells + 3) (n := slots + 18) (by omega) (by omega) ?_
          exact hnext _ _ _ ⟨a, N, Z, b, M, Y, sc, tx, L, cu, er, le, nb, nc, mm, pp, 0, ac, ea, le2, v1, v2, v3, v4, v5, (Int32.toInt64 (Z (5 + tn (xs ((6 * j) + 2))) (tn (xs ((6 * j) + 1))))), fd, hT, hX, hP, hD⟩ hS (lv_sub hl [2, 3, 4, 5, 6, 7] rfl)
        · replace c_3 := cn_ne (a := 0) (b := 0) (by omega) (by omega) c_3
          exact absurd c_3 (by decide)
    · replace c_1 := cn_ne (a := 0) (b := 0) (by omega) (by omega) c_1
      exact absurd c_1 (by decide)
  · obtain ⟨hP, hD⟩ := fr_hd hP hD hk1 hPc (List.Perm.refl _)
    have hc0 := (nz_I (le_sq (le_th _ _) (le_wi _ _ _)) hF)
    have hP : va_P G vwCl (((wMain T q a N Z b M Y sc tx L cu er le nb nc) ++ [(o, eL T fo)]) ++ ((wMod T r mm pp tx th sc L ac ea le2 v1 v2 v3 v4 v5) ++ [(d, eD T fd)])) H := hP
    have hD : va_D (lA s) (((wMain T q a N Z b M Y sc tx L cu er le nb nc) ++ [(o, eL T fo)]) ++ ((wMod T r mm pp tx th sc L ac ea le2 v1 v2 v3 v4 v5) ++ [(d, eD T fd)])) := hD
    refine W.eq (g2 := F0 m 985 ls [.int (cmI (sq (thF (xs ((6 * j) + 1)) (nI (N 2))) (wiF (xs ((6 * j) + 2)) 0 5)))]) rfl ?_
    refine lv_istore (lv' := [(6, .int (cmI (sq (thF (xs ((6 * j) + 1)) (nI (N 2))) (wiF (xs ((6 * j) + 2)) 0 5)))), (0, .ref b0), (1, .ref (q 0)), (2, .ref (r 0)), (3, .ref o), (4, .ref d), (5, .int (nI (6 * j)))]) hx hb dL_law_985 hl (by decide) rfl (fun ls hl => ?_)
    refine lv_aload_n hx hb dL_law_987 rfl (lv_at hl 3 rfl) ?_
    refine lv_aload_n hx hb dL_law_988 rfl (lv_at hl 1 rfl) ?_
    refine lv_iload hx hb dL_law_989 (lv_at hl 6 rfl) ?_
    refine lv_iconst (v := 1) hx hb dL_law_991 (by decide) ?_
    refine lv_iadd hx hb dL_law_992 ?_
    rw [show ((nI (6 * j)) + 1) = (nI ((6 * j) + 1)) from nI_add (6 * j) 1]
    refine sld K hS ((6 * j) + 1) rfl (by omega) dL_law_993 ?_
    refine lv_aload_n hx hb dL_law_994 rfl (lv_at hl 1 rfl) ?_
    refine lv_iload hx hb dL_law_995 (lv_at hl 6 rfl) ?_
    refine lv_iconst (v := 2) hx hb dL_law_997 (by decide) ?_
    refine lv_iadd hx hb dL_law_998 ?_
    rw [show ((nI (6 * j)) + 2) = (nI ((6 * j) + 2)) from nI_add (6 * j) 2]
    refine sld K hS ((6 * j) + 2) rfl (by omega) dL_law_999 ?_
    refine mu_V S hkx (mX6_user l (T := T) (r := r) (N := N) (Z := Z) (mm := mm) (pp := pp) (xx := tx) (th := th) (sv := sc) (n1 := L) (ac := ac) (ea := ea) (le := le2) (v1 := v1) (v2 := v2) (v3 := v3) (v4 := v4) (v5 := v5) (u := (xs ((6 * j) + 1))) (w := (xs ((6 * j) + 2))) (hP := P_mid hP) (hD := (D_mid hD).weaken (fun _ _ _ _ => trivial)) (hwf := hT.1) (hr := hT.2.1)) gL_law_X6_user rfl idX6_user ⟨Nat.le_of_ble_eq_true rfl, Nat.le_of_ble_eq_true rfl⟩ hP 101 rfl rfl rfl rfl hl.1 rfl (Nat.le_of_ble_eq_true rfl) dL_law_1000 ⟨(by show cells + 2 ≤ 601024; omega), (by show slots + 12 ≤ 7293034; omega)⟩ hS (fr_in (D_mid hD) (fun q h => Nat.le_trans hS.1 h)) (fun v H locs hp9 hz1 hk1 hS => ?_)
    obtain ⟨z9, rfl, hp9⟩ := hp9
    have hPm := (hp9.resolve_left (fun h => hF h.1)).2
    obtain ⟨hP, hD⟩ := fr_mid hP hD hk1 hPm rfl
    have hP : va_P G vwCl (((wMain T q a N Z b M Y sc tx L cu er le nb nc) ++ [(o, eL T fo)]) ++ ((wMod T r mm pp tx (cmI (sq (thF (xs ((6 * j) + 1)) (nI (N 2))) (wiF (xs ((6 * j) + 2)) 0 5))) sc L ac ea le2 v1 v2 v3 v4 v5) ++ [(d, eD T fd)])) H := hP
    have hD : va_D (lA s) (((wMain T q a N Z b M Y sc tx L cu er le nb nc) ++ [(o, eL T fo)]) ++ ((wMod T r mm pp tx (cmI (sq (thF (xs ((6 * j) + 1)) (nI (N 2))) (wiF (xs ((6 * j) + 2)) 0 5))) sc L ac ea le2 v1 v2 v3 v4 v5) ++ [(d, eD T fd)])) := hD
    refine W.eq (g2 := F0 m 1003 ls [.int z9]) rfl ?_
    refine lv_istore (lv' := [(7, .int z9), (6, .int (cmI (sq (thF (xs ((6 * j) + 1)) (nI (N 2))) (wiF (xs ((6 * j) + 2)) 0 5)))), (0, .ref b0), (1, .ref (q 0)), (2, .ref (r 0)), (3, .ref o), (4, .ref d), (5, .int (nI (6 * j)))]) hx hb dL_law_1003 hl (by decide) rfl (fun ls hl => ?_)
    refine lv_aload_n hx hb dL_law_1005 rfl (lv_at hl 4 rfl) ?_
    refine ro_V S hkx (mX6_thrown l (T := T) (r := r) (N := N) (Z := Z) (mm := mm) (pp := pp) (xx := tx) (th := (cmI (sq (thF (xs ((6 * j) + 1)) (nI (N 2))) (wiF (xs ((6 * j) + 2)) 0 5)))) (sv := sc) (n1 := L) (ac := ac) (ea := ea) (le := le2) (v1 := v1) (v2 := v2) (v3 := v3) (v4 := v4) (v5 := v5) (hP := P_mid hP)) gL_law_X6_thrown rfl idX6_thrown ⟨Nat.le_of_ble_eq_true rfl, Nat.le_of_ble_eq_true rfl⟩ hP 101 rfl rfl rfl rfl hl.1 rfl (Nat.le_of_ble_eq_true rfl) dL_law_1006 ⟨(by show cells + 2 ≤ 601024; omega), (by show slots + 12 ≤ 7293034; omega)⟩ (fun r9 hr9 => ?_)
    subst hr9
    refine lv_iload hx hb dL_law_1009 (lv_at hl 1 rfl) ?_
    refine lv_icmp_eq (tgt := 1016) hx hb dL_law_1011 (by decide) (fun c_4 => ?_) (fun c_4 => ?_)
    · skip
      refine lv_iload hx hb dL_law_1016 (lv_at hl 1 rfl) ?_
      refine lv_if_ne (tgt := 1033) hx hb dL_law_1018 (by decide) (fun c_5 => ?_) (fun c_5 => ?_)
      · skip
        refine lv_goto (tgt := 2069) hx hb dL_law_1033 (by decide) ?_
        refine W.widen (k := cells + 3) (n := slots + 18) (by omega) (by omega) ?_
        exact hnext _ _ _ ⟨a, N, Z, b, M, Y, sc, tx, L, cu, er, le, nb, nc, mm, pp, (cmI (sq (thF (xs ((6 * j) + 1)) (nI (N 2))) (wiF (xs ((6 * j) + 2)) 0 5))), ac, ea, le2, v1, v2, v3, v4, v5, fo, fd, hT, hX, hP, hD⟩ hS (lv_sub hl [2, 3, 4, 5, 6, 7] rfl)
      · skip
        exact absurd c_5 hc0
    · skip
      exact absurd rfl c_4

set_option maxHeartbeats 4000000 in
set_option maxRecDepth 100000 in
theorem law_shim (l : Launch) (hl0 : l.stackTraces = false) {G : va_G} {T : Nat → ClassId} {sa kk vv : Nat → Nat} {p : Program} {e : Env} {s : State} {m : MethodId} {below : List Frame} {meth : Method} {c : Code} {Q : State → Prop} {b0 LL : Nat} {xs : Nat → Int32} {q r : Nat → Nat} {o d : Nat} {a N : Nat → Nat} {Z : Nat → Nat → Int32} {b M : Nat → Nat → Nat} {Y : Nat → Nat → Nat → Int32} {sc : Nat} {tx : Nat → Int32} {L cu : Nat} {er le : Int32} {nb : Nat → Int32} {nc : Nat} {mm pp : Nat → Int32} {th ac ea le2 v1 v2 v3 v4 v5 : Int32} {fo : Int64} {fd : UInt64} {H : Heap} {locs : List Loc} {cells slots j : Nat} {ls : Array Slot} (K : LK G T sa kk vv p s m c b0 LL xs) (hl : lv_has ls 9 [(0, .ref b0), (1, .ref (q 0)), (2, .ref (r 0)), (3, .ref o), (4, .ref d), (5, .int (nI (6 * j)))]) (hj : 6 * j + 5 < LL) (hcs : cells + 3 ≤ 601024) (hss : slots + 18 ≤ 7293034) (hS : va_S (lA s) s.heap H locs) (hT : tie N Z mm M Y pp sc) (hX : txo tx L) (hP : va_P G vwCl (wL T q a N Z b M Y sc tx L cu er le nb nc r mm pp th ac ea le2 v1 v2 v3 v4 v5 o d fo fd) H) (hD : va_D (lA s) (wL T q a N Z b M Y sc tx L cu er le nb nc r mm pp th ac ea le2 v1 v2 v3 v4 v5 o d fo fd)) (hnext : ∀ (H : Heap) (locs : List Loc) (ls : Array Slot), inv G T q r o d (lA s) H → va_S (lA s) s.heap H locs → lv_has ls 9 [(0, .ref b0), (1, .ref (q 0)), (2, .ref (r 0)), (3, .ref o), (4, .ref d), (5, .int (nI (6 * j)))] → W p l e room_1 s m ([.ref b0] : List Value).toArray below meth c H locs (cells + 3) (slots + 18) Q (F0 m 2069 ls [])) : W p l e room_1 s m ([.ref b0] : List Value).toArray below meth c H locs cells slots Q (F0 m 1036 ls []) := by
  obtain ⟨S, hkx, -, hnc, -⟩ := id K
  have hx := S.1
  have hb := S.2.1
  have h9 := K.2.2.2.2.2.2.2
  have hX1 := hX.1
  have hP : va_P G vwCl (((wMain T q a N Z b M Y sc tx L cu er le nb nc) ++ [(o, eL T fo)]) ++ ((wMod T r mm pp tx th sc L ac ea le2 v1 v2 v3 v4 v5) ++ [(d, eD T fd)])) H := hP
  have hD : va_D (lA s) (((wMain T q a N Z b M Y sc tx L cu er le nb nc) ++ [(o, eL T fo)]) ++ ((wMod T r mm pp tx th sc L ac ea le2 v1 v2 v3 v4 v5) ++ [(d, eD T fd)])) := hD
  refine lv_aload_n hx hb dL_law_1036 rfl (lv_at hl 1 rfl) ?_
  refine lv_aload_n hx hb dL_law_1037 rfl (lv_at hl 0 rfl) ?_
  refine lv_iload hx hb dL_law_1038 (lv_at hl 5 rfl) ?_
  refine lv_iconst (v := 1) hx hb dL_law_1040 (by decide) ?_
  refine lv_iadd hx hb dL_law_1041 ?_
  rw [show ((nI (6 * j)) + 1) = (nI ((6 * j) + 1)) from nI_add (6 * j) 1]
  refine sld K hS ((6 * j) + 1) rfl (by omega) dL_law_1042 ?_
  refine lv_aload_n hx hb dL_law_1043 rfl (lv_at hl 0 rfl) ?_
  refine lv_iload hx hb dL_law_1044 (lv_at hl 5 rfl) ?_
  refine lv_iconst (v := 2) hx hb dL_law_1046 (by decide) ?_
  refine lv_iadd hx hb dL_law_1047 ?_
  rw [show ((nI (6 * j)) + 2) = (nI ((6 * j) + 2)) from nI_add (6 * j) 2]
  refine sld K hS ((6 * j) + 2) rfl (by omega) dL_law_1048 ?_
  refine lv_aload_n hx hb dL_law_1049 rfl (lv_at hl 3 rfl) ?_
  refine lw_S S hkx (K.2.2.1.kept hS.2.1) hnc (mL_shim l hl0 (sa := sa) (A9 := lA s) (q := q) (a := a) (N := N) (Z := Z) (b := b) (M := M) (Y := Y) (sc := sc) (tx := tx) (L := L) (cu := cu) (er := er) (le := le) (nb := nb) (nc := nc) (t := (xs ((6 * j) + 1))) (w := (xs ((6 * j) + 2))) (o := o) (fo := fo) (hP := P_hd hP) (hD := (D_hd hD).weaken (fun _ _ _ _ => trivial)) (h9 := (fun q h => Nat.le_trans hS.1 h)) (hwf := hT.1)) gL_law_L_shim rfl idL_shim ⟨Nat.le_of_ble_eq_true rfl, Nat.le_of_ble_eq_true rfl⟩ rfl hl.1 rfl (Nat.le_of_ble_eq_true rfl) dL_law_1050 ⟨(by show cells + 2 ≤ 601024; omega), (by show slots + 12 ≤ 7293034; omega)⟩ hS (fr_in (D_hd hD) (fun q h => Nat.le_trans hS.1 h)) (fun v H locs hp9 hz1 hk1 hS => ?_)
  rcases hp9 with ⟨hF, rfl, hPc⟩ | ⟨hF, rfl, hPc⟩
  · obtain ⟨hP, hD⟩ := fr_hd hP hD hk1 hPc (addr_snoc (List.Perm.refl _))
    have hP : va_P G vwCl (((wMain T q a N Z b M Y sc tx L cu er le nb nc) ++ [(o, eL T (Int32.toInt64 (Z (11 + tn (xs ((6 * j) + 2))) (tn (xs ((6 * j) + 1))))))]) ++ ((wMod T r mm pp tx th sc L ac ea le2 v1 v2 v3 v4 v5) ++ [(d, eD T fd)])) H := hP
    have hD : va_D (lA s) (((wMain T q a N Z b M Y sc tx L cu er le nb nc) ++ [(o, eL T (Int32.toInt64 (Z (11 + tn (xs ((6 * j) + 2))) (tn (xs ((6 * j) + 1))))))]) ++ ((wMod T r mm pp tx th sc L ac ea le2 v1 v2 v3 v4 v5) ++ [(d, eD T fd)])) := hD
    refine W.eq (g2 := F0 m 1053 ls [.int 0]) rfl ?_
    refine lv_istore (lv' := [(6, .int 0), (0, .ref b0), (1, .ref (q 0)), (2, .ref (r 0)), (3, .ref o), (4, .ref d), (5, .int (nI (6 * j)))]) hx hb dL_law_1053 hl (by decide) rfl (fun ls hl => ?_)
    refine lv_aload_n hx hb dL_law_1055 rfl (lv_at hl 3 rfl) ?_
    refine lv_aload_n hx hb dL_law_1056 rfl (lv_at hl 1 rfl) ?_
    refine lv_iload hx hb dL_law_1057 (lv_at hl 6 rfl) ?_
    refine lv_iconst (v := 1) hx hb dL_law_1059 (by decide) ?_
    refine lv_iadd hx hb dL_law_1060 ?_
    rw [show ((nI (6 * j)) + 1) = (nI ((6 * j) + 1)) from nI_add (6 * j) 1]
    refine sld K hS ((6 * j) + 1) rfl (by omega) dL_law_1061 ?_
    refine lv_aload_n hx hb dL_law_1062 rfl (lv_at hl 1 rfl) ?_
    refine lv_iload hx hb dL_law_1063 (lv_at hl 6 rfl) ?_
    refine lv_iconst (v := 2) hx hb dL_law_1065 (by decide) ?_
    refine lv_iadd hx hb dL_law_1066 ?_
    rw [show ((nI (6 * j)) + 2) = (nI ((6 * j) + 2)) from nI_add (6 * j) 2]
    refine sld K hS ((6 * j) + 2) rfl (by omega) dL_law_1067 ?_
    refine mu_V S hkx (mX6_shim l (T := T) (r := r) (N := N) (Z := Z) (mm := mm) (pp := pp) (xx := tx) (th := th) (sv := sc) (n1 := L) (ac := ac) (ea := ea) (le := le2) (v1 := v1) (v2 := v2) (v3 := v3) (v4 := v4) (v5 := v5) (t := (xs ((6 * j) + 1))) (w := (xs ((6 * j) + 2))) (hP := P_mid hP) (hD := (D_mid hD).weaken (fun _ _ _ _ => trivial)) (hwf := hT.1) (hr := hT.2.1)) gL_law_X6_shim rfl idX6_shim ⟨Nat.le_of_ble_eq_true rfl, Nat.le_of_ble_eq_true rfl⟩ hP 101 rfl rfl rfl rfl hl.1 rfl (Nat.le_of_ble_eq_true rfl) dL_law_1068 ⟨(by show cells + 2 ≤ 601024; omega), (by show slots + 12 ≤ 7293034; omega)⟩ hS (fr_in (D_mid hD) (fun q h => Nat.le_trans hS.1 h)) (fun v H locs hp9 hz1 hk1 hS => ?_)
    obtain ⟨z9, rfl, hp9⟩ := hp9
    obtain ⟨-, rfl, hPm⟩ := hp9.resolve_right (fun h => h.1 hF)
    obtain ⟨hP, hD⟩ := fr_mid hP hD hk1 hPm rfl
    have hP : va_P G vwCl (((wMain T q a N Z b M Y sc tx L cu er le nb nc) ++ [(o, eL T (Int32.toInt64 (Z (11 + tn (xs ((6 * j) + 2))) (tn (xs ((6 * j) + 1))))))]) ++ ((wMod T r mm pp tx 0 sc L ac ea le2 v1 v2 v3 v4 v5) ++ [(d, eD T fd)])) H := hP
    have hD : va_D (lA s) (((wMain T q a N Z b M Y sc tx L cu er le nb nc) ++ [(o, eL T (Int32.toInt64 (Z (11 + tn (xs ((6 * j) + 2))) (tn (xs ((6 * j) + 1))))))]) ++ ((wMod T r mm pp tx 0 sc L ac ea le2 v1 v2 v3 v4 v5) ++ [(d, eD T fd)])) := hD
    refine W.eq (g2 := F0 m 1071 ls [.int (Z (11 + tn (xs ((6 * j) + 2))) (tn (xs ((6 * j) + 1))))]) rfl ?_
    refine lv_istore (lv' := [(7, .int (Z (11 + tn (xs ((6 * j) + 2))) (tn (xs ((6 * j) + 1))))), (6, .int 0), (0, .ref b0), (1, .ref (q 0)), (2, .ref (r 0)), (3, .ref o), (4, .ref d), (5, .int (nI (6 * j)))]) hx hb dL_law_1071 hl (by decide) rfl (fun ls hl => ?_)
    refine lv_aload_n hx hb dL_law_1073 rfl (lv_at hl 4 rfl) ?_
    refine ro_V S hkx (mX6_thrown l (T := T) (r := r) (N := N) (Z := Z) (mm := mm) (pp := pp) (xx := tx) (th := 0) (sv := sc) (n1 := L) (ac := ac) (ea := ea) (le := le2) (v1 := v1) (v2 := v2) (v3 := v3) (v4 := v4) (v5 := v5) (hP := P_mid hP)) gL_law_X6_thrown rfl idX6_thrown ⟨Nat.le_of_ble_eq_true rfl, Nat.le_of_ble_eq_true rfl⟩ hP 101 rfl rfl rfl rfl hl.1 rfl (Nat.le_of_ble_eq_true rfl) dL_law_1074 ⟨(by show cells + 2 ≤ 601024; omega), (by show slots + 12 ≤ 7293034; omega)⟩ (fun r9 hr9 => ?_)
    subst hr9
    refine lv_iload hx hb dL_law_1077 (lv_at hl 1 rfl) ?_
    refine lv_icmp_eq (tgt := 1084) hx hb dL_law_1079 (by decide) (fun c_1 => ?_) (fun c_1 => ?_)
    · replace c_1 := cn_eq (a := 0) (b := 0) (by omega) (by omega) c_1
      refine lv_iload hx hb dL_law_1084 (lv_at hl 1 rfl) ?_
      refine lv_if_ne (tgt := 1101) hx hb dL_law_1086 (by decide) (fun c_2 => ?_) (fun c_2 => ?_)
      · replace c_2 := cn_ne (a := 0) (b := 0) (by omega) (by omega) c_2
        exact absurd c_2 (by decide)
      · replace c_2 := cn_eq (a := 0) (b := 0) (by omega) (by omega) c_2
        refine lv_aload_n hx hb dL_law_1089 rfl (lv_at hl 5 rfl) ?_
        refine lv_iconst (v := 0) hx hb dL_law_1090 (by decide) ?_
        refine lld0 hx hb hkx hP 100 rfl dL_law_1091 ?_
        refine lv_iload hx hb dL_law_1092 (lv_at hl 0 rfl) ?_
        refine lv_i2l hx hb dL_law_1094 rfl ?_
        refine W.lcmp hx hb dL_law_1095 ?_
        rw [lg_self]
        refine lv_if_eq (tgt := 1101) hx hb dL_law_1096 (by decide) (fun c_3 => ?_) (fun c_3 => ?_)
        · replace c_3 := cn_eq (a := 0) (b := 0) (by omega) (by omega) c_3
          refine lv_goto (tgt := 2069) hx hb dL_law_1101 (by decide) ?_
          refine W.widen (k := cells + 3) (n := slots + 18) (by omega) (by omega) ?_
          exact hnext _ _ _ ⟨a, N, Z, b, M, Y, sc, tx, L, cu, er, le, nb, nc, mm, pp, 0, ac, ea, le2, v1, v2, v3, v4, v5, (Int32.toInt64 (Z (11 + tn (xs ((6 * j) + 2))) (tn (xs ((6 * j) + 1))))), fd, hT, hX, hP, hD⟩ hS (lv_sub hl [2, 3, 4, 5, 6, 7] rfl)
        · replace c_3 := cn_ne (a := 0) (b := 0) (by omega) (by omega) c_3
          exact absurd c_3 (by decide)
    · replace c_1 := cn_ne (a := 0) (b := 0) (by omega) (by omega) c_1
      exact absurd c_1 (by decide)
  · obtain ⟨hP, hD⟩ := fr_hd hP hD hk1 hPc (List.Perm.refl _)
    have hc0 := (nz_I (le_sq (le_th _ _) (le_wi _ _ _)) hF)
    have hP : va_P G vwCl (((wMain T q a N Z b M Y sc tx L cu er le nb nc) ++ [(o, eL T fo)]) ++ ((wMod T r mm pp tx th sc L ac ea le2 v1 v2 v3 v4 v5) ++ [(d, eD T fd)])) H := hP
    have hD : va_D (lA s) (((wMain T q a N Z b M Y sc tx L cu er le nb nc) ++ [(o, eL T fo)]) ++ ((wMod T r mm pp tx th sc L ac ea le2 v1 v2 v3 v4 v5) ++ [(d, eD T fd)])) := hD
    refine W.eq (g2 := F0 m 1053 ls [.int (cmI (sq (thF (xs ((6 * j) + 1)) (nI (N 3))) (wiF (xs ((6 * j) + 2)) 0 4)))]) rfl ?_
    refine lv_istore (lv' := [(6, .int (cmI (sq (thF (xs ((6 * j) + 1)) (nI (N 3))) (wiF (xs ((6 * j) + 2)) 0 4)))), (0, .ref b0), (1, .ref (q 0)), (2, .ref (r 0)), (3, .ref o), (4, .ref d), (5, .int (nI (6 * j)))]) hx hb dL_law_1053 hl (by decide) rfl (fun ls hl => ?_)
    refine lv_aload_n hx hb dL_law_1055 rfl (lv_at hl 3 rfl) ?_
    refine lv_aload_n hx hb dL_law_1056 rfl (lv_at hl 1 rfl) ?_
    refine lv_iload hx hb dL_law_1057 (lv_at hl 6 rfl) ?_
    refine lv_iconst (v := 1) hx hb dL_law_1059 (by decide) ?_
    refine lv_iadd hx hb dL_law_1060 ?_
    rw [show ((nI (6 * j)) + 1) = (nI ((6 * j) + 1)) from nI_add (6 * j) 1]
    refine sld K hS ((6 * j) + 1) rfl (by omega) dL_law_1061 ?_
    refine lv_aload_n hx hb dL_law_1062 rfl (lv_at hl 1 rfl) ?_
    refine lv_iload hx hb dL_law_1063 (lv_at hl 6 rfl) ?_
    refine lv_iconst (v := 2) hx hb dL_law_1065 (by decide) ?_
    refine lv_iadd hx hb dL_law_1066 ?_
    rw [show ((nI (6 * j)) + 2) = (nI ((6 * j) + 2)) from nI_add (6 * j) 2]
    refine sld K hS ((6 * j) + 2) rfl (by omega) dL_law_1067 ?_
    refine mu_V S hkx (mX6_shim l (T := T) (r := r) (N := N) (Z := Z) (mm := mm) (pp := pp) (xx := tx) (th := th) (sv := sc) (n1 := L) (ac := ac) (ea := ea) (le := le2) (v1 := v1) (v2 := v2) (v3 := v3) (v4 := v4) (v5 := v5) (t := (xs ((6 * j) + 1))) (w := (xs ((6 * j) + 2))) (hP := P_mid hP) (hD := (D_mid hD).weaken (fun _ _ _ _ => trivial)) (hwf := hT.1) (hr := hT.2.1)) gL_law_X6_shim rfl idX6_shim ⟨Nat.le_of_ble_eq_true rfl, Nat.le_of_ble_eq_true rfl⟩ hP 101 rfl rfl rfl rfl hl.1 rfl (Nat.le_of_ble_eq_true rfl) dL_law_1068 ⟨(by show cells + 2 ≤ 601024; omega), (by show slots + 12 ≤ 7293034; omega)⟩ hS (fr_in (D_mid hD) (fun q h => Nat.le_trans hS.1 h)) (fun v H locs hp9 hz1 hk1 hS => ?_)
    obtain ⟨z9, rfl, hp9⟩ := hp9
    have hPm := (hp9.resolve_left (fun h => hF h.1)).2
    obtain ⟨hP, hD⟩ := fr_mid hP hD hk1 hPm rfl
    have hP : va_P G vwCl (((wMain T q a N Z b M Y sc tx L cu er le nb nc) ++ [(o, eL T fo)]) ++ ((wMod T r mm pp tx (cmI (sq (thF (xs ((6 * j) + 1)) (nI (N 3))) (wiF (xs ((6 * j) + 2)) 0 4))) sc L ac ea le2 v1 v2 v3 v4 v5) ++ [(d, eD T fd)])) H := hP
    have hD : va_D (lA s) (((wMain T q a N Z b M Y sc tx L cu er le nb nc) ++ [(o, eL T fo)]) ++ ((wMod T r mm pp tx (cmI (sq (thF (xs ((6 * j) + 1)) (nI (N 3))) (wiF (xs ((6 * j) + 2)) 0 4))) sc L ac ea le2 v1 v2 v3 v4 v5) ++ [(d, eD T fd)])) := hD
    refine W.eq (g2 := F0 m 1071 ls [.int z9]) rfl ?_
    refine lv_istore (lv' := [(7, .int z9), (6, .int (cmI (sq (thF (xs ((6 * j) + 1)) (nI (N 3))) (wiF (xs ((6 * j) + 2)) 0 4)))), (0, .ref b0), (1, .ref (q 0)), (2, .ref (r 0)), (3, .ref o), (4, .ref d), (5, .int (nI (6 * j)))]) hx hb dL_law_1071 hl (by decide) rfl (fun ls hl => ?_)
    refine lv_aload_n hx hb dL_law_1073 rfl (lv_at hl 4 rfl) ?_
    refine ro_V S hkx (mX6_thrown l (T := T) (r := r) (N := N) (Z := Z) (mm := mm) (pp := pp) (xx := tx) (th := (cmI (sq (thF (xs ((6 * j) + 1)) (nI (N 3))) (wiF (xs ((6 * j) + 2)) 0 4)))) (sv := sc) (n1 := L) (ac := ac) (ea := ea) (le := le2) (v1 := v1) (v2 := v2) (v3 := v3) (v4 := v4) (v5 := v5) (hP := P_mid hP)) gL_law_X6_thrown rfl idX6_thrown ⟨Nat.le_of_ble_eq_true rfl, Nat.le_of_ble_eq_true rfl⟩ hP 101 rfl rfl rfl rfl hl.1 rfl (Nat.le_of_ble_eq_true rfl) dL_law_1074 ⟨(by show cells + 2 ≤ 601024; omega), (by show slots + 12 ≤ 7293034; omega)⟩ (fun r9 hr9 => ?_)
    subst hr9
    refine lv_iload hx hb dL_law_1077 (lv_at hl 1 rfl) ?_
    refine lv_icmp_eq (tgt := 1084) hx hb dL_law_1079 (by decide) (fun c_4 => ?_) (fun c_4 => ?_)
    · skip
      refine lv_iload hx hb dL_law_1084 (lv_at hl 1 rfl) ?_
      refine lv_if_ne (tgt := 1101) hx hb dL_law_1086 (by decide) (fun c_5 => ?_) (fun c_5 => ?_)
      · skip
        refine lv_goto (tgt := 2069) hx hb dL_law_1101 (by decide) ?_
        refine W.widen (k := cells + 3) (n := slots + 18) (by omega) (by omega) ?_
        exact hnext _ _ _ ⟨a, N, Z, b, M, Y, sc, tx, L, cu, er, le, nb, nc, mm, pp, (cmI (sq (thF (xs ((6 * j) + 1)) (nI (N 3))) (wiF (xs ((6 * j) + 2)) 0 4))), ac, ea, le2, v1, v2, v3, v4, v5, fo, fd, hT, hX, hP, hD⟩ hS (lv_sub hl [2, 3, 4, 5, 6, 7] rfl)
      · skip
        exact absurd c_5 hc0
    · skip
      exact absurd rfl c_4

set_option maxHeartbeats 4000000 in
set_option maxRecDepth 100000 in
theorem law_versionOn (l : Launch) (hl0 : l.stackTraces = false) {G : va_G} {T : Nat → ClassId} {sa kk vv : Nat → Nat} {p : Program} {e : Env} {s : State} {m : MethodId} {below : List Frame} {meth : Method} {c : Code} {Q : State → Prop} {b0 LL : Nat} {xs : Nat → Int32} {q r : Nat → Nat} {o d : Nat} {a N : Nat → Nat} {Z : Nat → Nat → Int32} {b M : Nat → Nat → Nat} {Y : Nat → Nat → Nat → Int32} {sc : Nat} {tx : Nat → Int32} {L cu : Nat} {er le : Int32} {nb : Nat → Int32} {nc : Nat} {mm pp : Nat → Int32} {th ac ea le2 v1 v2 v3 v4 v5 : Int32} {fo : Int64} {fd : UInt64} {H : Heap} {locs : List Loc} {cells slots j : Nat} {ls : Array Slot} (K : LK G T sa kk vv p s m c b0 LL xs) (hl : lv_has ls 9 [(0, .ref b0), (1, .ref (q 0)), (2, .ref (r 0)), (3, .ref o), (4, .ref d), (5, .int (nI (6 * j)))]) (hj : 6 * j + 5 < LL) (hcs : cells + 3 ≤ 601024) (hss : slots + 18 ≤ 7293034) (hS : va_S (lA s) s.heap H locs) (hT : tie N Z mm M Y pp sc) (hX : txo tx L) (hP : va_P G vwCl (wL T q a N Z b M Y sc tx L cu er le nb nc r mm pp th ac ea le2 v1 v2 v3 v4 v5 o d fo fd) H) (hD : va_D (lA s) (wL T q a N Z b M Y sc tx L cu er le nb nc r mm pp th ac ea le2 v1 v2 v3 v4 v5 o d fo fd)) (hnext : ∀ (H : Heap) (locs : List Loc) (ls : Array Slot), inv G T q r o d (lA s) H → va_S (lA s) s.heap H locs → lv_has ls 9 [(0, .ref b0), (1, .ref (q 0)), (2, .ref (r 0)), (3, .ref o), (4, .ref d), (5, .int (nI (6 * j)))] → W p l e room_1 s m ([.ref b0] : List Value).toArray below meth c H locs (cells + 3) (slots + 18) Q (F0 m 2069 ls [])) : W p l e room_1 s m ([.ref b0] : List Value).toArray below meth c H locs cells slots Q (F0 m 1104 ls []) := by
  obtain ⟨S, hkx, -, hnc, -⟩ := id K
  have hx := S.1
  have hb := S.2.1
  have h9 := K.2.2.2.2.2.2.2
  have hX1 := hX.1
  have hP : va_P G vwCl (((wMain T q a N Z b M Y sc tx L cu er le nb nc) ++ [(o, eL T fo)]) ++ ((wMod T r mm pp tx th sc L ac ea le2 v1 v2 v3 v4 v5) ++ [(d, eD T fd)])) H := hP
  have hD : va_D (lA s) (((wMain T q a N Z b M Y sc tx L cu er le nb nc) ++ [(o, eL T fo)]) ++ ((wMod T r mm pp tx th sc L ac ea le2 v1 v2 v3 v4 v5) ++ [(d, eD T fd)])) := hD
  refine lv_aload_n hx hb dL_law_1104 rfl (lv_at hl 1 rfl) ?_
  refine lv_aload_n hx hb dL_law_1105 rfl (lv_at hl 0 rfl) ?_
  refine lv_iload hx hb dL_law_1106 (lv_at hl 5 rfl) ?_
  refine lv_iconst (v := 1) hx hb dL_law_1108 (by decide) ?_
  refine lv_iadd hx hb dL_law_1109 ?_
  rw [show ((nI (6 * j)) + 1) = (nI ((6 * j) + 1)) from nI_add (6 * j) 1]
  refine sld K hS ((6 * j) + 1) rfl (by omega) dL_law_1110 ?_
  refine lv_aload_n hx hb dL_law_1111 rfl (lv_at hl 0 rfl) ?_
  refine lv_iload hx hb dL_law_1112 (lv_at hl 5 rfl) ?_
  refine lv_iconst (v := 2) hx hb dL_law_1114 (by decide) ?_
  refine lv_iadd hx hb dL_law_1115 ?_
  rw [show ((nI (6 * j)) + 2) = (nI ((6 * j) + 2)) from nI_add (6 * j) 2]
  refine sld K hS ((6 * j) + 2) rfl (by omega) dL_law_1116 ?_
  refine lv_aload_n hx hb dL_law_1117 rfl (lv_at hl 3 rfl) ?_
  refine lw_S S hkx (K.2.2.1.kept hS.2.1) hnc (mL_versionOn l hl0 (sa := sa) (A9 := lA s) (q := q) (a := a) (N := N) (Z := Z) (b := b) (M := M) (Y := Y) (sc := sc) (tx := tx) (L := L) (cu := cu) (er := er) (le := le) (nb := nb) (nc := nc) (u := (xs ((6 * j) + 1))) (d := (xs ((6 * j) + 2))) (o := o) (fo := fo) (hP := P_hd hP) (hD := (D_hd hD).weaken (fun _ _ _ _ => trivial)) (h9 := (fun q h => Nat.le_trans hS.1 h)) (hwf := hT.1)) gL_law_L_versionOn rfl idL_versionOn ⟨Nat.le_of_ble_eq_true rfl, Nat.le_of_ble_eq_true rfl⟩ rfl hl.1 rfl (Nat.le_of_ble_eq_true rfl) dL_law_1118 ⟨(by show cells + 2 ≤ 601024; omega), (by show slots + 12 ≤ 7293034; omega)⟩ hS (fr_in (D_hd hD) (fun q h => Nat.le_trans hS.1 h)) (fun v H locs hp9 hz1 hk1 hS => ?_)
  rcases hp9 with ⟨hF, rfl, hPc⟩ | ⟨hF, rfl, hPc⟩
  · obtain ⟨hP, hD⟩ := fr_hd hP hD hk1 hPc (addr_snoc (List.Perm.refl _))
    have hP : va_P G vwCl (((wMain T q a N Z b M Y sc tx L cu er le nb nc) ++ [(o, eL T (Int32.toInt64 (nI (onN Z (tn (xs ((6 * j) + 1))) (xs ((6 * j) + 2))))))]) ++ ((wMod T r mm pp tx th sc L ac ea le2 v1 v2 v3 v4 v5) ++ [(d, eD T fd)])) H := hP
    have hD : va_D (lA s) (((wMain T q a N Z b M Y sc tx L cu er le nb nc) ++ [(o, eL T (Int32.toInt64 (nI (onN Z (tn (xs ((6 * j) + 1))) (xs ((6 * j) + 2))))))]) ++ ((wMod T r mm pp tx th sc L ac ea le2 v1 v2 v3 v4 v5) ++ [(d, eD T fd)])) := hD
    refine W.eq (g2 := F0 m 1121 ls [.int 0]) rfl ?_
    refine lv_istore (lv' := [(6, .int 0), (0, .ref b0), (1, .ref (q 0)), (2, .ref (r 0)), (3, .ref o), (4, .ref d), (5, .int (nI (6 * j)))]) hx hb dL_law_1121 hl (by decide) rfl (fun ls hl => ?_)
    refine lv_aload_n hx hb dL_law_1123 rfl (lv_at hl 3 rfl) ?_
    refine lv_aload_n hx hb dL_law_1124 rfl (lv_at hl 1 rfl) ?_
    refine lv_iload hx hb dL_law_1125 (lv_at hl 6 rfl) ?_
    refine lv_iconst (v := 1) hx hb dL_law_1127 (by decide) ?_
    refine lv_iadd hx hb dL_law_1128 ?_
    rw [show ((nI (6 * j)) + 1) = (nI ((6 * j) + 1)) from nI_add (6 * j) 1]
    refine sld K hS ((6 * j) + 1) rfl (by omega) dL_law_1129 ?_
    refine lv_aload_n hx hb dL_law_1130 rfl (lv_at hl 1 rfl) ?_
    refine lv_iload hx hb dL_law_1131 (lv_at hl 6 rfl) ?_
    refine lv_iconst (v := 2) hx hb dL_law_1133 (by decide) ?_
    refine lv_iadd hx hb dL_law_1134 ?_
    rw [show ((nI (6 * j)) + 2) = (nI ((6 * j) + 2)) from nI_add (6 * j) 2]
    refine sld K hS ((6 * j) + 2) rfl (by omega) dL_law_1135 ?_
    refine mu_V S hkx (mX6_versionOn l (T := T) (r := r) (N := N) (Z := Z) (mm := mm) (pp := pp) (xx := tx) (th := th) (sv := sc) (n1 := L) (ac := ac) (ea := ea) (le := le2) (v1 := v1) (v2 := v2) (v3 := v3) (v4 := v4) (v5 := v5) (u := (xs ((6 * j) + 1))) (d := (xs ((6 * j) + 2))) (hP := P_mid hP) (hD := (D_mid hD).weaken (fun _ _ _ _ => trivial)) (hwf := hT.1) (hr := hT.2.1)) gL_law_X6_versionOn rfl idX6_versionOn ⟨Nat.le_of_ble_eq_true rfl, Nat.le_of_ble_eq_true rfl⟩ hP 101 rfl rfl rfl rfl hl.1 rfl (Nat.le_of_ble_eq_true rfl) dL_law_1136 ⟨(by show cells + 2 ≤ 601024; omega), (by show slots + 12 ≤ 7293034; omega)⟩ hS (fr_in (D_mid hD) (fun q h => Nat.le_trans hS.1 h)) (fun v H locs hp9 hz1 hk1 hS => ?_)
    obtain ⟨z9, rfl, hp9⟩ := hp9
    obtain ⟨-, rfl, hPm⟩ := hp9.resolve_right (fun h => h.1 hF)
    obtain ⟨hP, hD⟩ := fr_mid hP hD hk1 hPm rfl
    have hP : va_P G vwCl (((wMain T q a N Z b M Y sc tx L cu er le nb nc) ++ [(o, eL T (Int32.toInt64 (nI (onN Z (tn (xs ((6 * j) + 1))) (xs ((6 * j) + 2))))))]) ++ ((wMod T r mm pp tx 0 sc L ac ea le2 v1 v2 v3 v4 v5) ++ [(d, eD T fd)])) H := hP
    have hD : va_D (lA s) (((wMain T q a N Z b M Y sc tx L cu er le nb nc) ++ [(o, eL T (Int32.toInt64 (nI (onN Z (tn (xs ((6 * j) + 1))) (xs ((6 * j) + 2))))))]) ++ ((wMod T r mm pp tx 0 sc L ac ea le2 v1 v2 v3 v4 v5) ++ [(d, eD T fd)])) := hD
    refine W.eq (g2 := F0 m 1139 ls [.int (nI (onN Z (tn (xs ((6 * j) + 1))) (xs ((6 * j) + 2))))]) rfl ?_
    refine lv_istore (lv' := [(7, .int (nI (onN Z (tn (xs ((6 * j) + 1))) (xs ((6 * j) + 2))))), (6, .int 0), (0, .ref b0), (1, .ref (q 0)), (2, .ref (r 0)), (3, .ref o), (4, .ref d), (5, .int (nI (6 * j)))]) hx hb dL_law_1139 hl (by decide) rfl (fun ls hl => ?_)
    refine lv_aload_n hx hb dL_law_1141 rfl (lv_at hl 4 rfl) ?_
    refine ro_V S hkx (mX6_thrown l (T := T) (r := r) (N := N) (Z := Z) (mm := mm) (pp := pp) (xx := tx) (th := 0) (sv := sc) (n1 := L) (ac := ac) (ea := ea) (le := le2) (v1 := v1) (v2 := v2) (v3 := v3) (v4 := v4) (v5 := v5) (hP := P_mid hP)) gL_law_X6_thrown rfl idX6_thrown ⟨Nat.le_of_ble_eq_true rfl, Nat.le_of_ble_eq_true rfl⟩ hP 101 rfl rfl rfl rfl hl.1 rfl (Nat.le_of_ble_eq_true rfl) dL_law_1142 ⟨(by show cells + 2 ≤ 601024; omega), (by show slots + 12 ≤ 7293034; omega)⟩ (fun r9 hr9 => ?_)
    subst hr9
    refine lv_iload hx hb dL_law_1145 (lv_at hl 1 rfl) ?_
    refine lv_icmp_eq (tgt := 1152) hx hb dL_law_1147 (by decide) (fun c_1 => ?_) (fun c_1 => ?_)
    · replace c_1 := cn_eq (a := 0) (b := 0) (by omega) (by omega) c_1
      refine lv_iload hx hb dL_law_1152 (lv_at hl 1 rfl) ?_
      refine lv_if_ne (tgt := 1169) hx hb dL_law_1154 (by decide) (fun c_2 => ?_) (fun c_2 => ?_)
      · replace c_2 := cn_ne (a := 0) (b := 0) (by omega) (by omega) c_2
        exact absurd c_2 (by decide)
      · replace c_2 := cn_eq (a := 0) (b := 0) (by omega) (by omega) c_2
        refine lv_aload_n hx hb dL_law_1157 rfl (lv_at hl 5 rfl) ?_
        refine lv_iconst (v := 0) hx hb dL_law_1158 (by decide) ?_
        refine lld0 hx hb hkx hP 100 rfl dL_law_1159 ?_
        refine lv_iload hx hb dL_law_1160 (lv_at hl 0 rfl) ?_
        refine lv_i2l hx hb dL_law_1162 rfl ?_
        refine W.lcmp hx hb dL_law_1163 ?_
        rw [lg_self]
        refine lv_if_eq (tgt := 1169) hx hb dL_law_1164 (by decide) (fun c_3 => ?_) (fun c_3 => ?_)
        · replace c_3 := cn_eq (a := 0) (b := 0) (by omega) (by omega) c_3
          refine lv_goto (tgt := 2069) hx hb dL_law_1169 (by decide) ?_
          refine W.widen (k := cells + 3) (n := slots + 18) (by omega) (by omega) ?_
          exact hnext _ _ _ ⟨a, N, Z, b, M, Y, sc, tx, L, cu, er, le, nb, nc, mm, pp, 0, ac, ea, le2, v1, v2, v3, v4, v5, (Int32.toInt64 (nI (onN Z (tn (xs ((6 * j) + 1))) (xs ((6 * j) + 2))))), fd, hT, hX, hP, hD⟩ hS (lv_sub hl [2, 3, 4, 5, 6, 7] rfl)
        · replace c_3 := cn_ne (a := 0) (b := 0) (by omega) (by omega) c_3
          exact absurd c_3 (by decide)
    · replace c_1 := cn_ne (a := 0) (b := 0) (by omega) (by omega) c_1
      exact absurd c_1 (by decide)
  · obtain ⟨hP, hD⟩ := fr_hd hP hD hk1 hPc (List.Perm.refl _)
    have hc0 := (nz_I (le_sq (le_th _ _) (le_wi _ _ _)) hF)
    have hP : va_P G vwCl (((wMain T q a N Z b M Y sc tx L cu er le nb nc) ++ [(o, eL T fo)]) ++ ((wMod T r mm pp tx th sc L ac ea le2 v1 v2 v3 v4 v5) ++ [(d, eD T fd)])) H := hP
    have hD : va_D (lA s) (((wMain T q a N Z b M Y sc tx L cu er le nb nc) ++ [(o, eL T fo)]) ++ ((wMod T r mm pp tx th sc L ac ea le2 v1 v2 v3 v4 v5) ++ [(d, eD T fd)])) := hD
    refine W.eq (g2 := F0 m 1121 ls [.int (cmI (sq (thF (xs ((6 * j) + 1)) (nI (N 2))) (dyF (xs ((6 * j) + 2)))))]) rfl ?_
    refine lv_istore (lv' := [(6, .int (cmI (sq (thF (xs ((6 * j) + 1)) (nI (N 2))) (dyF (xs ((6 * j) + 2)))))), (0, .ref b0), (1, .ref (q 0)), (2, .ref (r 0)), (3, .ref o), (4, .ref d), (5, .int (nI (6 * j)))]) hx hb dL_law_1121 hl (by decide) rfl (fun ls hl => ?_)
    refine lv_aload_n hx hb dL_law_1123 rfl (lv_at hl 3 rfl) ?_
    refine lv_aload_n hx hb dL_law_1124 rfl (lv_at hl 1 rfl) ?_
    refine lv_iload hx hb dL_law_1125 (lv_at hl 6 rfl) ?_
    refine lv_iconst (v := 1) hx hb dL_law_1127 (by decide) ?_
    refine lv_iadd hx hb dL_law_1128 ?_
    rw [show ((nI (6 * j)) + 1) = (nI ((6 * j) + 1)) from nI_add (6 * j) 1]
    refine sld K hS ((6 * j) + 1) rfl (by omega) dL_law_1129 ?_
    refine lv_aload_n hx hb dL_law_1130 rfl (lv_at hl 1 rfl) ?_
    refine lv_iload hx hb dL_law_1131 (lv_at hl 6 rfl) ?_
    refine lv_iconst (v := 2) hx hb dL_law_1133 (by decide) ?_
    refine lv_iadd hx hb dL_law_1134 ?_
    rw [show ((nI (6 * j)) + 2) = (nI ((6 * j) + 2)) from nI_add (6 * j) 2]
    refine sld K hS ((6 * j) + 2) rfl (by omega) dL_law_1135 ?_
    refine mu_V S hkx (mX6_versionOn l (T := T) (r := r) (N := N) (Z := Z) (mm := mm) (pp := pp) (xx := tx) (th := th) (sv := sc) (n1 := L) (ac := ac) (ea := ea) (le := le2) (v1 := v1) (v2 := v2) (v3 := v3) (v4 := v4) (v5 := v5) (u := (xs ((6 * j) + 1))) (d := (xs ((6 * j) + 2))) (hP := P_mid hP) (hD := (D_mid hD).weaken (fun _ _ _ _ => trivial)) (hwf := hT.1) (hr := hT.2.1)) gL_law_X6_versionOn rfl idX6_versionOn ⟨Nat.le_of_ble_eq_true rfl, Nat.le_of_ble_eq_true rfl⟩ hP 101 rfl rfl rfl rfl hl.1 rfl (Nat.le_of_ble_eq_true rfl) dL_law_1136 ⟨(by show cells + 2 ≤ 601024; omega), (by show slots + 12 ≤ 7293034; omega)⟩ hS (fr_in (D_mid hD) (fun q h => Nat.le_trans hS.1 h)) (fun v H locs hp9 hz1 hk1 hS => ?_)
    obtain ⟨z9, rfl, hp9⟩ := hp9
    have hPm := (hp9.resolve_left (fun h => hF h.1)).2
    obtain ⟨hP, hD⟩ := fr_mid hP hD hk1 hPm rfl
    have hP : va_P G vwCl (((wMain T q a N Z b M Y sc tx L cu er le nb nc) ++ [(o, eL T fo)]) ++ ((wMod T r mm pp tx (cmI (sq (thF (xs ((6 * j) + 1)) (nI (N 2))) (dyF (xs ((6 * j) + 2))))) sc L ac ea le2 v1 v2 v3 v4 v5) ++ [(d, eD T fd)])) H := hP
    have hD : va_D (lA s) (((wMain T q a N Z b M Y sc tx L cu er le nb nc) ++ [(o, eL T fo)]) ++ ((wMod T r mm pp tx (cmI (sq (thF (xs ((6 * j) + 1)) (nI (N 2))) (dyF (xs ((6 * j) + 2))))) sc L ac ea le2 v1 v2 v3 v4 v5) ++ [(d, eD T fd)])) := hD
    refine W.eq (g2 := F0 m 1139 ls [.int z9]) rfl ?_
    refine lv_istore (lv' := [(7, .int z9), (6, .int (cmI (sq (thF (xs ((6 * j) + 1)) (nI (N 2))) (dyF (xs ((6 * j) + 2)))))), (0, .ref b0), (1, .ref (q 0)), (2, .ref (r 0)), (3, .ref o), (4, .ref d), (5, .int (nI (6 * j)))]) hx hb dL_law_1139 hl (by decide) rfl (fun ls hl => ?_)
    refine lv_aload_n hx hb dL_law_1141 rfl (lv_at hl 4 rfl) ?_
    refine ro_V S hkx (mX6_thrown l (T := T) (r := r) (N := N) (Z := Z) (mm := mm) (pp := pp) (xx := tx) (th := (cmI (sq (thF (xs ((6 * j) + 1)) (nI (N 2))) (dyF (xs ((6 * j) + 2)))))) (sv := sc) (n1 := L) (ac := ac) (ea := ea) (le := le2) (v1 := v1) (v2 := v2) (v3 := v3) (v4 := v4) (v5 := v5) (hP := P_mid hP)) gL_law_X6_thrown rfl idX6_thrown ⟨Nat.le_of_ble_eq_true rfl, Nat.le_of_ble_eq_true rfl⟩ hP 101 rfl rfl rfl rfl hl.1 rfl (Nat.le_of_ble_eq_true rfl) dL_law_1142 ⟨(by show cells + 2 ≤ 601024; omega), (by show slots + 12 ≤ 7293034; omega)⟩ (fun r9 hr9 => ?_)
    subst hr9
    refine lv_iload hx hb dL_law_1145 (lv_at hl 1 rfl) ?_
    refine lv_icmp_eq (tgt := 1152) hx hb dL_law_1147 (by decide) (fun c_4 => ?_) (fun c_4 => ?_)
    · skip
      refine lv_iload hx hb dL_law_1152 (lv_at hl 1 rfl) ?_
      refine lv_if_ne (tgt := 1169) hx hb dL_law_1154 (by decide) (fun c_5 => ?_) (fun c_5 => ?_)
      · skip
        refine lv_goto (tgt := 2069) hx hb dL_law_1169 (by decide) ?_
        refine W.widen (k := cells + 3) (n := slots + 18) (by omega) (by omega) ?_
        exact hnext _ _ _ ⟨a, N, Z, b, M, Y, sc, tx, L, cu, er, le, nb, nc, mm, pp, (cmI (sq (thF (xs ((6 * j) + 1)) (nI (N 2))) (dyF (xs ((6 * j) + 2))))), ac, ea, le2, v1, v2, v3, v4, v5, fo, fd, hT, hX, hP, hD⟩ hS (lv_sub hl [2, 3, 4, 5, 6, 7] rfl)
      · skip
        exact absurd c_5 hc0
    · skip
      exact absurd rfl c_4

set_option maxHeartbeats 4000000 in
set_option maxRecDepth 100000 in
theorem law_served (l : Launch) (hl0 : l.stackTraces = false) {G : va_G} {T : Nat → ClassId} {sa kk vv : Nat → Nat} {p : Program} {e : Env} {s : State} {m : MethodId} {below : List Frame} {meth : Method} {c : Code} {Q : State → Prop} {b0 LL : Nat} {xs : Nat → Int32} {q r : Nat → Nat} {o d : Nat} {a N : Nat → Nat} {Z : Nat → Nat → Int32} {b M : Nat → Nat → Nat} {Y : Nat → Nat → Nat → Int32} {sc : Nat} {tx : Nat → Int32} {L cu : Nat} {er le : Int32} {nb : Nat → Int32} {nc : Nat} {mm pp : Nat → Int32} {th ac ea le2 v1 v2 v3 v4 v5 : Int32} {fo : Int64} {fd : UInt64} {H : Heap} {locs : List Loc} {cells slots j : Nat} {ls : Array Slot} (K : LK G T sa kk vv p s m c b0 LL xs) (hl : lv_has ls 9 [(0, .ref b0), (1, .ref (q 0)), (2, .ref (r 0)), (3, .ref o), (4, .ref d), (5, .int (nI (6 * j)))]) (hj : 6 * j + 5 < LL) (hcs : cells + 3 ≤ 601024) (hss : slots + 18 ≤ 7293034) (hS : va_S (lA s) s.heap H locs) (hT : tie N Z mm M Y pp sc) (hX : txo tx L) (hP : va_P G vwCl (wL T q a N Z b M Y sc tx L cu er le nb nc r mm pp th ac ea le2 v1 v2 v3 v4 v5 o d fo fd) H) (hD : va_D (lA s) (wL T q a N Z b M Y sc tx L cu er le nb nc r mm pp th ac ea le2 v1 v2 v3 v4 v5 o d fo fd)) (hnext : ∀ (H : Heap) (locs : List Loc) (ls : Array Slot), inv G T q r o d (lA s) H → va_S (lA s) s.heap H locs → lv_has ls 9 [(0, .ref b0), (1, .ref (q 0)), (2, .ref (r 0)), (3, .ref o), (4, .ref d), (5, .int (nI (6 * j)))] → W p l e room_1 s m ([.ref b0] : List Value).toArray below meth c H locs (cells + 3) (slots + 18) Q (F0 m 2069 ls [])) : W p l e room_1 s m ([.ref b0] : List Value).toArray below meth c H locs cells slots Q (F0 m 1172 ls []) := by
  obtain ⟨S, hkx, -, hnc, -⟩ := id K
  have hx := S.1
  have hb := S.2.1
  have h9 := K.2.2.2.2.2.2.2
  have hX1 := hX.1
  have hP : va_P G vwCl (((wMain T q a N Z b M Y sc tx L cu er le nb nc) ++ [(o, eL T fo)]) ++ ((wMod T r mm pp tx th sc L ac ea le2 v1 v2 v3 v4 v5) ++ [(d, eD T fd)])) H := hP
  have hD : va_D (lA s) (((wMain T q a N Z b M Y sc tx L cu er le nb nc) ++ [(o, eL T fo)]) ++ ((wMod T r mm pp tx th sc L ac ea le2 v1 v2 v3 v4 v5) ++ [(d, eD T fd)])) := hD
  refine lv_aload_n hx hb dL_law_1172 rfl (lv_at hl 1 rfl) ?_
  refine lv_aload_n hx hb dL_law_1173 rfl (lv_at hl 0 rfl) ?_
  refine lv_iload hx hb dL_law_1174 (lv_at hl 5 rfl) ?_
  refine lv_iconst (v := 1) hx hb dL_law_1176 (by decide) ?_
  refine lv_iadd hx hb dL_law_1177 ?_
  rw [show ((nI (6 * j)) + 1) = (nI ((6 * j) + 1)) from nI_add (6 * j) 1]
  refine sld K hS ((6 * j) + 1) rfl (by omega) dL_law_1178 ?_
  refine lv_aload_n hx hb dL_law_1179 rfl (lv_at hl 0 rfl) ?_
  refine lv_iload hx hb dL_law_1180 (lv_at hl 5 rfl) ?_
  refine lv_iconst (v := 2) hx hb dL_law_1182 (by decide) ?_
  refine lv_iadd hx hb dL_law_1183 ?_
  rw [show ((nI (6 * j)) + 2) = (nI ((6 * j) + 2)) from nI_add (6 * j) 2]
  refine sld K hS ((6 * j) + 2) rfl (by omega) dL_law_1184 ?_
  refine lv_aload_n hx hb dL_law_1185 rfl (lv_at hl 0 rfl) ?_
  refine lv_iload hx hb dL_law_1186 (lv_at hl 5 rfl) ?_
  refine lv_iconst (v := 3) hx hb dL_law_1188 (by decide) ?_
  refine lv_iadd hx hb dL_law_1189 ?_
  rw [show ((nI (6 * j)) + 3) = (nI ((6 * j) + 3)) from nI_add (6 * j) 3]
  refine sld K hS ((6 * j) + 3) rfl (by omega) dL_law_1190 ?_
  refine lv_aload_n hx hb dL_law_1191 rfl (lv_at hl 3 rfl) ?_
  refine lw_S S hkx (K.2.2.1.kept hS.2.1) hnc (mL_served l hl0 (sa := sa) (A9 := lA s) (q := q) (a := a) (N := N) (Z := Z) (b := b) (M := M) (Y := Y) (sc := sc) (tx := tx) (L := L) (cu := cu) (er := er) (le := le) (nb := nb) (nc := nc) (u := (xs ((6 * j) + 1))) (f := (xs ((6 * j) + 2))) (d := (xs ((6 * j) + 3))) (o := o) (fo := fo) (hP := P_hd hP) (hD := (D_hd hD).weaken (fun _ _ _ _ => trivial)) (h9 := (fun q h => Nat.le_trans hS.1 h)) (hwf := hT.1)) gL_law_L_served rfl idL_served ⟨Nat.le_of_ble_eq_true rfl, Nat.le_of_ble_eq_true rfl⟩ rfl hl.1 rfl (Nat.le_of_ble_eq_true rfl) dL_law_1192 ⟨(by show cells + 3 ≤ 601024; omega), (by show slots + 18 ≤ 7293034; omega)⟩ hS (fr_in (D_hd hD) (fun q h => Nat.le_trans hS.1 h)) (fun v H locs hp9 hz1 hk1 hS => ?_)
  rcases hp9 with ⟨hF, rfl, hPc⟩ | ⟨hF, rfl, hPc⟩
  · obtain ⟨hP, hD⟩ := fr_hd hP hD hk1 hPc (addr_snoc (List.Perm.refl _))
    have hP : va_P G vwCl (((wMain T q a N Z b M Y sc tx L cu er le nb nc) ++ [(o, eL T (Int32.toInt64 (hsv N Z (tn (xs ((6 * j) + 1))) (xs ((6 * j) + 2)) (xs ((6 * j) + 3)))))]) ++ ((wMod T r mm pp tx th sc L ac ea le2 v1 v2 v3 v4 v5) ++ [(d, eD T fd)])) H := hP
    have hD : va_D (lA s) (((wMain T q a N Z b M Y sc tx L cu er le nb nc) ++ [(o, eL T (Int32.toInt64 (hsv N Z (tn (xs ((6 * j) + 1))) (xs ((6 * j) + 2)) (xs ((6 * j) + 3)))))]) ++ ((wMod T r mm pp tx th sc L ac ea le2 v1 v2 v3 v4 v5) ++ [(d, eD T fd)])) := hD
    refine W.eq (g2 := F0 m 1195 ls [.int 0]) rfl ?_
    refine lv_istore (lv' := [(6, .int 0), (0, .ref b0), (1, .ref (q 0)), (2, .ref (r 0)), (3, .ref o), (4, .ref d), (5, .int (nI (6 * j)))]) hx hb dL_law_1195 hl (by decide) rfl (fun ls hl => ?_)
    refine lv_aload_n hx hb dL_law_1197 rfl (lv_at hl 3 rfl) ?_
    refine lv_aload_n hx hb dL_law_1198 rfl (lv_at hl 1 rfl) ?_
    refine lv_iload hx hb dL_law_1199 (lv_at hl 6 rfl) ?_
    refine lv_iconst (v := 1) hx hb dL_law_1201 (by decide) ?_
    refine lv_iadd hx hb dL_law_1202 ?_
    rw [show ((nI (6 * j)) + 1) = (nI ((6 * j) + 1)) from nI_add (6 * j) 1]
    refine sld K hS ((6 * j) + 1) rfl (by omega) dL_law_1203 ?_
    refine lv_aload_n hx hb dL_law_1204 rfl (lv_at hl 1 rfl) ?_
    refine lv_iload hx hb dL_law_1205 (lv_at hl 6 rfl) ?_
    refine lv_iconst (v := 2) hx hb dL_law_1207 (by decide) ?_
    refine lv_iadd hx hb dL_law_1208 ?_
    rw [show ((nI (6 * j)) + 2) = (nI ((6 * j) + 2)) from nI_add (6 * j) 2]
    refine sld K hS ((6 * j) + 2) rfl (by omega) dL_law_1209 ?_
    refine lv_aload_n hx hb dL_law_1210 rfl (lv_at hl 1 rfl) ?_
    refine lv_iload hx hb dL_law_1211 (lv_at hl 6 rfl) ?_
    refine lv_iconst (v := 3) hx hb dL_law_1213 (by decide) ?_
    refine lv_iadd hx hb dL_law_1214 ?_
    rw [show ((nI (6 * j)) + 3) = (nI ((6 * j) + 3)) from nI_add (6 * j) 3]
    refine sld K hS ((6 * j) + 3) rfl (by omega) dL_law_1215 ?_
    refine mu_V S hkx (mX6_served l (T := T) (r := r) (N := N) (Z := Z) (mm := mm) (pp := pp) (xx := tx) (th := th) (sv := sc) (n1 := L) (ac := ac) (ea := ea) (le := le2) (v1 := v1) (v2 := v2) (v3 := v3) (v4 := v4) (v5 := v5) (u := (xs ((6 * j) + 1))) (f := (xs ((6 * j) + 2))) (d := (xs ((6 * j) + 3))) (hP := P_mid hP) (hD := (D_mid hD).weaken (fun _ _ _ _ => trivial)) (hwf := hT.1) (hr := hT.2.1)) gL_law_X6_served rfl idX6_served ⟨Nat.le_of_ble_eq_true rfl, Nat.le_of_ble_eq_true rfl⟩ hP 101 rfl rfl rfl rfl hl.1 rfl (Nat.le_of_ble_eq_true rfl) dL_law_1216 ⟨(by show cells + 3 ≤ 601024; omega), (by show slots + 18 ≤ 7293034; omega)⟩ hS (fr_in (D_mid hD) (fun q h => Nat.le_trans hS.1 h)) (fun v H locs hp9 hz1 hk1 hS => ?_)
    obtain ⟨z9, rfl, hp9⟩ := hp9
    obtain ⟨-, rfl, hPm⟩ := hp9.resolve_right (fun h => h.1 hF)
    obtain ⟨hP, hD⟩ := fr_mid hP hD hk1 hPm rfl
    have hP : va_P G vwCl (((wMain T q a N Z b M Y sc tx L cu er le nb nc) ++ [(o, eL T (Int32.toInt64 (hsv N Z (tn (xs ((6 * j) + 1))) (xs ((6 * j) + 2)) (xs ((6 * j) + 3)))))]) ++ ((wMod T r mm pp tx 0 sc L ac ea le2 v1 v2 v3 v4 v5) ++ [(d, eD T fd)])) H := hP
    have hD : va_D (lA s) (((wMain T q a N Z b M Y sc tx L cu er le nb nc) ++ [(o, eL T (Int32.toInt64 (hsv N Z (tn (xs ((6 * j) + 1))) (xs ((6 * j) + 2)) (xs ((6 * j) + 3)))))]) ++ ((wMod T r mm pp tx 0 sc L ac ea le2 v1 v2 v3 v4 v5) ++ [(d, eD T fd)])) := hD
    refine W.eq (g2 := F0 m 1219 ls [.int (hsv N Z (tn (xs ((6 * j) + 1))) (xs ((6 * j) + 2)) (xs ((6 * j) + 3)))]) rfl ?_
    refine lv_istore (lv' := [(7, .int (hsv N Z (tn (xs ((6 * j) + 1))) (xs ((6 * j) + 2)) (xs ((6 * j) + 3)))), (6, .int 0), (0, .ref b0), (1, .ref (q 0)), (2, .ref (r 0)), (3, .ref o), (4, .ref d), (5, .int (nI (6 * j)))]) hx hb dL_law_1219 hl (by decide) rfl (fun ls hl => ?_)
    refine lv_aload_n hx hb dL_law_1221 rfl (lv_at hl 4 rfl) ?_
    refine ro_V S hkx (mX6_thrown l (T := T) (r := r) (N := N) (Z := Z) (mm := mm) (pp := pp) (xx := tx) (th := 0) (sv := sc) (n1 := L) (ac := ac) (ea := ea) (le := le2) (v1 := v1) (v2 := v2) (v3 := v3) (v4 := v4) (v5 := v5) (hP := P_mid hP)) gL_law_X6_thrown rfl idX6_thrown ⟨Nat.le_of_ble_eq_true rfl, Nat.le_of_ble_eq_true rfl⟩ hP 101 rfl rfl rfl rfl hl.1 rfl (Nat.le_of_ble_eq_true rfl) dL_law_1222 ⟨(by show cells + 3 ≤ 601024; omega), (by show slots + 18 ≤ 7293034; omega)⟩ (fun r9 hr9 => ?_)
    subst hr9
    refine lv_iload hx hb dL_law_1225 (lv_at hl 1 rfl) ?_
    refine lv_icmp_eq (tgt := 1232) hx hb dL_law_1227 (by decide) (fun c_1 => ?_) (fun c_1 => ?_)
    · replace c_1 := cn_eq (a := 0) (b := 0) (by omega) (by omega) c_1
      refine lv_iload hx hb dL_law_1232 (lv_at hl 1 rfl) ?_
      refine lv_if_ne (tgt := 1249) hx hb dL_law_1234 (by decide) (fun c_2 => ?_) (fun c_2 => ?_)
      · replace c_2 := cn_ne (a := 0) (b := 0) (by omega) (by omega) c_2
        exact absurd c_2 (by decide)
      · replace c_2 := cn_eq (a := 0) (b := 0) (by omega) (by omega) c_2
        refine lv_aload_n hx hb dL_law_1237 rfl (lv_at hl 5 rfl) ?_
        refine lv_iconst (v := 0) hx hb dL_law_1238 (by decide) ?_
        refine lld0 hx hb hkx hP 100 rfl dL_law_1239 ?_
        refine lv_iload hx hb dL_law_1240 (lv_at hl 0 rfl) ?_
        refine lv_i2l hx hb dL_law_1242 rfl ?_
        refine W.lcmp hx hb dL_law_1243 ?_
        rw [lg_self]
        refine lv_if_eq (tgt := 1249) hx hb dL_law_1244 (by decide) (fun c_3 => ?_) (fun c_3 => ?_)
        · replace c_3 := cn_eq (a := 0) (b := 0) (by omega) (by omega) c_3
          refine lv_goto (tgt := 2069) hx hb dL_law_1249 (by decide) ?_
          refine W.widen (k := cells + 3) (n := slots + 18) (by omega) (by omega) ?_
          exact hnext _ _ _ ⟨a, N, Z, b, M, Y, sc, tx, L, cu, er, le, nb, nc, mm, pp, 0, ac, ea, le2, v1, v2, v3, v4, v5, (Int32.toInt64 (hsv N Z (tn (xs ((6 * j) + 1))) (xs ((6 * j) + 2)) (xs ((6 * j) + 3)))), fd, hT, hX, hP, hD⟩ hS (lv_sub hl [2, 3, 4, 5, 6, 7] rfl)
        · replace c_3 := cn_ne (a := 0) (b := 0) (by omega) (by omega) c_3
          exact absurd c_3 (by decide)
    · replace c_1 := cn_ne (a := 0) (b := 0) (by omega) (by omega) c_1
      exact absurd c_1 (by decide)
  · obtain ⟨hP, hD⟩ := fr_hd hP hD hk1 hPc (List.Perm.refl _)
    have hc0 := (nz_I (le_sq (le_th _ _) (le_sq (le_th _ _) (le_wi _ _ _))) hF)
    have hP : va_P G vwCl (((wMain T q a N Z b M Y sc tx L cu er le nb nc) ++ [(o, eL T fo)]) ++ ((wMod T r mm pp tx th sc L ac ea le2 v1 v2 v3 v4 v5) ++ [(d, eD T fd)])) H := hP
    have hD : va_D (lA s) (((wMain T q a N Z b M Y sc tx L cu er le nb nc) ++ [(o, eL T fo)]) ++ ((wMod T r mm pp tx th sc L ac ea le2 v1 v2 v3 v4 v5) ++ [(d, eD T fd)])) := hD
    refine W.eq (g2 := F0 m 1195 ls [.int (cmI (sq (thF (xs ((6 * j) + 1)) (nI (N 2))) (sq (thF (xs ((6 * j) + 2)) (nI (N 1))) (dyF (xs ((6 * j) + 3))))))]) rfl ?_
    refine lv_istore (lv' := [(6, .int (cmI (sq (thF (xs ((6 * j) + 1)) (nI (N 2))) (sq (thF (xs ((6 * j) + 2)) (nI (N 1))) (dyF (xs ((6 * j) + 3))))))), (0, .ref b0), (1, .ref (q 0)), (2, .ref (r 0)), (3, .ref o), (4, .ref d), (5, .int (nI (6 * j)))]) hx hb dL_law_1195 hl (by decide) rfl (fun ls hl => ?_)
    refine lv_aload_n hx hb dL_law_1197 rfl (lv_at hl 3 rfl) ?_
    refine lv_aload_n hx hb dL_law_1198 rfl (lv_at hl 1 rfl) ?_
    refine lv_iload hx hb dL_law_1199 (lv_at hl 6 rfl) ?_
    refine lv_iconst (v := 1) hx hb dL_law_1201 (by decide) ?_
    refine lv_iadd hx hb dL_law_1202 ?_
    rw [show ((nI (6 * j)) + 1) = (nI ((6 * j) + 1)) from nI_add (6 * j) 1]
    refine sld K hS ((6 * j) + 1) rfl (by omega) dL_law_1203 ?_
    refine lv_aload_n hx hb dL_law_1204 rfl (lv_at hl 1 rfl) ?_
    refine lv_iload hx hb dL_law_1205 (lv_at hl 6 rfl) ?_
    refine lv_iconst (v := 2) hx hb dL_law_1207 (by decide) ?_
    refine lv_iadd hx hb dL_law_1208 ?_
    rw [show ((nI (6 * j)) + 2) = (nI ((6 * j) + 2)) from nI_add (6 * j) 2]
    refine sld K hS ((6 * j) + 2) rfl (by omega) dL_law_1209 ?_
    refine lv_aload_n hx hb dL_law_1210 rfl (lv_at hl 1 rfl) ?_
    refine lv_iload hx hb dL_law_1211 (lv_at hl 6 rfl) ?_
    refine lv_iconst (v := 3) hx hb dL_law_1213 (by decide) ?_
    refine lv_iadd hx hb dL_law_1214 ?_
    rw [show ((nI (6 * j)) + 3) = (nI ((6 * j) + 3)) from nI_add (6 * j) 3]
    refine sld K hS ((6 * j) + 3) rfl (by omega) dL_law_1215 ?_
    refine mu_V S hkx (mX6_served l (T := T) (r := r) (N := N) (Z := Z) (mm := mm) (pp := pp) (xx := tx) (th := th) (sv := sc) (n1 := L) (ac := ac) (ea := ea) (le := le2) (v1 := v1) (v2 := v2) (v3 := v3) (v4 := v4) (v5 := v5) (u := (xs ((6 * j) + 1))) (f := (xs ((6 * j) + 2))) (d := (xs ((6 * j) + 3))) (hP := P_mid hP) (hD := (D_mid hD).weaken (fun _ _ _ _ => trivial)) (hwf := hT.1) (hr := hT.2.1)) gL_law_X6_served rfl idX6_served ⟨Nat.le_of_ble_eq_true rfl, Nat.le_of_ble_eq_true rfl⟩ hP 101 rfl rfl rfl rfl hl.1 rfl (Nat.le_of_ble_eq_true rfl) dL_law_1216 ⟨(by show cells + 3 ≤ 601024; omega), (by show slots + 18 ≤ 7293034; omega)⟩ hS (fr_in (D_mid hD) (fun q h => Nat.le_trans hS.1 h)) (fun v H locs hp9 hz1 hk1 hS => ?_)
    obtain ⟨z9, rfl, hp9⟩ := hp9
    have hPm := (hp9.resolve_left (fun h => hF h.1)).2
    obtain ⟨hP, hD⟩ := fr_mid hP hD hk1 hPm rfl
    have hP : va_P G vwCl (((wMain T q a N Z b M Y sc tx L cu er le nb nc) ++ [(o, eL T fo)]) ++ ((wMod T r mm pp tx (cmI (sq (thF (xs ((6 * j) + 1)) (nI (N 2))) (sq (thF (xs ((6 * j) + 2)) (nI (N 1))) (dyF (xs ((6 * j) + 3)))))) sc L ac ea le2 v1 v2 v3 v4 v5) ++ [(d, eD T fd)])) H := hP
    have hD : va_D (lA s) (((wMain T q a N Z b M Y sc tx L cu er le nb nc) ++ [(o, eL T fo)]) ++ ((wMod T r mm pp tx (cmI (sq (thF (xs ((6 * j) + 1)) (nI (N 2))) (sq (thF (xs ((6 * j) + 2)) (nI (N 1))) (dyF (xs ((6 * j) + 3)))))) sc L ac ea le2 v1 v2 v3 v4 v5) ++ [(d, eD T fd)])) := hD
    refine W.eq (g2 := F0 m 1219 ls [.int z9]) rfl ?_
    refine lv_istore (lv' := [(7, .int z9), (6, .int (cmI (sq (thF (xs ((6 * j) + 1)) (nI (N 2))) (sq (thF (xs ((6 * j) + 2)) (nI (N 1))) (dyF (xs ((6 * j) + 3))))))), (0, .ref b0), (1, .ref (q 0)), (2, .ref (r 0)), (3, .ref o), (4, .ref d), (5, .int (nI (6 * j)))]) hx hb dL_law_1219 hl (by decide) rfl (fun ls hl => ?_)
    refine lv_aload_n hx hb dL_law_1221 rfl (lv_at hl 4 rfl) ?_
    refine ro_V S hkx (mX6_thrown l (T := T) (r := r) (N := N) (Z := Z) (mm := mm) (pp := pp) (xx := tx) (th := (cmI (sq (thF (xs ((6 * j) + 1)) (nI (N 2))) (sq (thF (xs ((6 * j) + 2)) (nI (N 1))) (dyF (xs ((6 * j) + 3))))))) (sv := sc) (n1 := L) (ac := ac) (ea := ea) (le := le2) (v1 := v1) (v2 := v2) (v3 := v3) (v4 := v4) (v5 := v5) (hP := P_mid hP)) gL_law_X6_thrown rfl idX6_thrown ⟨Nat.le_of_ble_eq_true rfl, Nat.le_of_ble_eq_true rfl⟩ hP 101 rfl rfl rfl rfl hl.1 rfl (Nat.le_of_ble_eq_true rfl) dL_law_1222 ⟨(by show cells + 3 ≤ 601024; omega), (by show slots + 18 ≤ 7293034; omega)⟩ (fun r9 hr9 => ?_)
    subst hr9
    refine lv_iload hx hb dL_law_1225 (lv_at hl 1 rfl) ?_
    refine lv_icmp_eq (tgt := 1232) hx hb dL_law_1227 (by decide) (fun c_4 => ?_) (fun c_4 => ?_)
    · skip
      refine lv_iload hx hb dL_law_1232 (lv_at hl 1 rfl) ?_
      refine lv_if_ne (tgt := 1249) hx hb dL_law_1234 (by decide) (fun c_5 => ?_) (fun c_5 => ?_)
      · skip
        refine lv_goto (tgt := 2069) hx hb dL_law_1249 (by decide) ?_
        refine W.widen (k := cells + 3) (n := slots + 18) (by omega) (by omega) ?_
        exact hnext _ _ _ ⟨a, N, Z, b, M, Y, sc, tx, L, cu, er, le, nb, nc, mm, pp, (cmI (sq (thF (xs ((6 * j) + 1)) (nI (N 2))) (sq (thF (xs ((6 * j) + 2)) (nI (N 1))) (dyF (xs ((6 * j) + 3)))))), ac, ea, le2, v1, v2, v3, v4, v5, fo, fd, hT, hX, hP, hD⟩ hS (lv_sub hl [2, 3, 4, 5, 6, 7] rfl)
      · skip
        exact absurd c_5 hc0
    · skip
      exact absurd rfl c_4

set_option maxHeartbeats 4000000 in
set_option maxRecDepth 100000 in
theorem law_missing (l : Launch) (hl0 : l.stackTraces = false) {G : va_G} {T : Nat → ClassId} {sa kk vv : Nat → Nat} {p : Program} {e : Env} {s : State} {m : MethodId} {below : List Frame} {meth : Method} {c : Code} {Q : State → Prop} {b0 LL : Nat} {xs : Nat → Int32} {q r : Nat → Nat} {o d : Nat} {a N : Nat → Nat} {Z : Nat → Nat → Int32} {b M : Nat → Nat → Nat} {Y : Nat → Nat → Nat → Int32} {sc : Nat} {tx : Nat → Int32} {L cu : Nat} {er le : Int32} {nb : Nat → Int32} {nc : Nat} {mm pp : Nat → Int32} {th ac ea le2 v1 v2 v3 v4 v5 : Int32} {fo : Int64} {fd : UInt64} {H : Heap} {locs : List Loc} {cells slots j : Nat} {ls : Array Slot} (K : LK G T sa kk vv p s m c b0 LL xs) (hl : lv_has ls 9 [(0, .ref b0), (1, .ref (q 0)), (2, .ref (r 0)), (3, .ref o), (4, .ref d), (5, .int (nI (6 * j)))]) (hj : 6 * j + 5 < LL) (hcs : cells + 3 ≤ 601024) (hss : slots + 18 ≤ 7293034) (hS : va_S (lA s) s.heap H locs) (hT : tie N Z mm M Y pp sc) (hX : txo tx L) (hP : va_P G vwCl (wL T q a N Z b M Y sc tx L cu er le nb nc r mm pp th ac ea le2 v1 v2 v3 v4 v5 o d fo fd) H) (hD : va_D (lA s) (wL T q a N Z b M Y sc tx L cu er le nb nc r mm pp th ac ea le2 v1 v2 v3 v4 v5 o d fo fd)) (hnext : ∀ (H : Heap) (locs : List Loc) (ls : Array Slot), inv G T q r o d (lA s) H → va_S (lA s) s.heap H locs → lv_has ls 9 [(0, .ref b0), (1, .ref (q 0)), (2, .ref (r 0)), (3, .ref o), (4, .ref d), (5, .int (nI (6 * j)))] → W p l e room_1 s m ([.ref b0] : List Value).toArray below meth c H locs (cells + 3) (slots + 18) Q (F0 m 2069 ls [])) : W p l e room_1 s m ([.ref b0] : List Value).toArray below meth c H locs cells slots Q (F0 m 1252 ls []) := by
  obtain ⟨S, hkx, -, hnc, -⟩ := id K
  have hx := S.1
  have hb := S.2.1
  have h9 := K.2.2.2.2.2.2.2
  have hX1 := hX.1
  have hP : va_P G vwCl (((wMain T q a N Z b M Y sc tx L cu er le nb nc) ++ [(o, eL T fo)]) ++ ((wMod T r mm pp tx th sc L ac ea le2 v1 v2 v3 v4 v5) ++ [(d, eD T fd)])) H := hP
  have hD : va_D (lA s) (((wMain T q a N Z b M Y sc tx L cu er le nb nc) ++ [(o, eL T fo)]) ++ ((wMod T r mm pp tx th sc L ac ea le2 v1 v2 v3 v4 v5) ++ [(d, eD T fd)])) := hD
  refine lv_aload_n hx hb dL_law_1252 rfl (lv_at hl 1 rfl) ?_
  refine lv_aload_n hx hb dL_law_1253 rfl (lv_at hl 0 rfl) ?_
  refine lv_iload hx hb dL_law_1254 (lv_at hl 5 rfl) ?_
  refine lv_iconst (v := 1) hx hb dL_law_1256 (by decide) ?_
  refine lv_iadd hx hb dL_law_1257 ?_
  rw [show ((nI (6 * j)) + 1) = (nI ((6 * j) + 1)) from nI_add (6 * j) 1]
  refine sld K hS ((6 * j) + 1) rfl (by omega) dL_law_1258 ?_
  refine lv_aload_n hx hb dL_law_1259 rfl (lv_at hl 0 rfl) ?_
  refine lv_iload hx hb dL_law_1260 (lv_at hl 5 rfl) ?_
  refine lv_iconst (v := 2) hx hb dL_law_1262 (by decide) ?_
  refine lv_iadd hx hb dL_law_1263 ?_
  rw [show ((nI (6 * j)) + 2) = (nI ((6 * j) + 2)) from nI_add (6 * j) 2]
  refine sld K hS ((6 * j) + 2) rfl (by omega) dL_law_1264 ?_
  refine lv_aload_n hx hb dL_law_1265 rfl (lv_at hl 3 rfl) ?_
  refine lw_S S hkx (K.2.2.1.kept hS.2.1) hnc (mL_missing l hl0 (sa := sa) (A9 := lA s) (q := q) (a := a) (N := N) (Z := Z) (b := b) (M := M) (Y := Y) (sc := sc) (tx := tx) (L := L) (cu := cu) (er := er) (le := le) (nb := nb) (nc := nc) (u := (xs ((6 * j) + 1))) (d := (xs ((6 * j) + 2))) (o := o) (fo := fo) (hP := P_hd hP) (hD := (D_hd hD).weaken (fun _ _ _ _ => trivial)) (h9 := (fun q h => Nat.le_trans hS.1 h)) (hwf := hT.1)) gL_law_L_missing rfl idL_missing ⟨Nat.le_of_ble_eq_true rfl, Nat.le_of_ble_eq_true rfl⟩ rfl hl.1 rfl (Nat.le_of_ble_eq_true rfl) dL_law_1266 ⟨(by show cells + 2 ≤ 601024; omega), (by show slots + 12 ≤ 7293034; omega)⟩ hS (fr_in (D_hd hD) (fun q h => Nat.le_trans hS.1 h)) (fun v H locs hp9 hz1 hk1 hS => ?_)
  rcases hp9 with ⟨hF, rfl, hPc⟩ | ⟨hF, rfl, hPc⟩
  · obtain ⟨hP, hD⟩ := fr_hd hP hD hk1 hPc (addr_snoc (List.Perm.refl _))
    have hP : va_P G vwCl (((wMain T q a N Z b M Y sc tx L cu er le nb nc) ++ [(o, eL T (Int32.toInt64 (unU N Z (tn (xs ((6 * j) + 1))) (xs ((6 * j) + 2)))))]) ++ ((wMod T r mm pp tx th sc L ac ea le2 v1 v2 v3 v4 v5) ++ [(d, eD T fd)])) H := hP
    have hD : va_D (lA s) (((wMain T q a N Z b M Y sc tx L cu er le nb nc) ++ [(o, eL T (Int32.toInt64 (unU N Z (tn (xs ((6 * j) + 1))) (xs ((6 * j) + 2)))))]) ++ ((wMod T r mm pp tx th sc L ac ea le2 v1 v2 v3 v4 v5) ++ [(d, eD T fd)])) := hD
    refine W.eq (g2 := F0 m 1269 ls [.int 0]) rfl ?_
    refine lv_istore (lv' := [(6, .int 0), (0, .ref b0), (1, .ref (q 0)), (2, .ref (r 0)), (3, .ref o), (4, .ref d), (5, .int (nI (6 * j)))]) hx hb dL_law_1269 hl (by decide) rfl (fun ls hl => ?_)
    refine lv_aload_n hx hb dL_law_1271 rfl (lv_at hl 3 rfl) ?_
    refine lv_aload_n hx hb dL_law_1272 rfl (lv_at hl 1 rfl) ?_
    refine lv_iload hx hb dL_law_1273 (lv_at hl 6 rfl) ?_
    refine lv_iconst (v := 1) hx hb dL_law_1275 (by decide) ?_
    refine lv_iadd hx hb dL_law_1276 ?_
    rw [show ((nI (6 * j)) + 1) = (nI ((6 * j) + 1)) from nI_add (6 * j) 1]
    refine sld K hS ((6 * j) + 1) rfl (by omega) dL_law_1277 ?_
    refine lv_aload_n hx hb dL_law_1278 rfl (lv_at hl 1 rfl) ?_
    refine lv_iload hx hb dL_law_1279 (lv_at hl 6 rfl) ?_
    refine lv_iconst (v := 2) hx hb dL_law_1281 (by decide) ?_
    refine lv_iadd hx hb dL_law_1282 ?_
    rw [show ((nI (6 * j)) + 2) = (nI ((6 * j) + 2)) from nI_add (6 * j) 2]
    refine sld K hS ((6 * j) + 2) rfl (by omega) dL_law_1283 ?_
    refine mu_V S hkx (mX6_missing l (T := T) (r := r) (N := N) (Z := Z) (mm := mm) (pp := pp) (xx := tx) (th := th) (sv := sc) (n1 := L) (ac := ac) (ea := ea) (le := le2) (v1 := v1) (v2 := v2) (v3 := v3) (v4 := v4) (v5 := v5) (u := (xs ((6 * j) + 1))) (d := (xs ((6 * j) + 2))) (hP := P_mid hP) (hD := (D_mid hD).weaken (fun _ _ _ _ => trivial)) (hwf := hT.1) (hr := hT.2.1)) gL_law_X6_missing rfl idX6_missing ⟨Nat.le_of_ble_eq_true rfl, Nat.le_of_ble_eq_true rfl⟩ hP 101 rfl rfl rfl rfl hl.1 rfl (Nat.le_of_ble_eq_true rfl) dL_law_1284 ⟨(by show cells + 2 ≤ 601024; omega), (by show slots + 12 ≤ 7293034; omega)⟩ hS (fr_in (D_mid hD) (fun q h => Nat.le_trans hS.1 h)) (fun v H locs hp9 hz1 hk1 hS => ?_)
    obtain ⟨z9, rfl, hp9⟩ := hp9
    obtain ⟨-, rfl, hPm⟩ := hp9.resolve_right (fun h => h.1 hF)
    obtain ⟨hP, hD⟩ := fr_mid hP hD hk1 hPm rfl
    have hP : va_P G vwCl (((wMain T q a N Z b M Y sc tx L cu er le nb nc) ++ [(o, eL T (Int32.toInt64 (unU N Z (tn (xs ((6 * j) + 1))) (xs ((6 * j) + 2)))))]) ++ ((wMod T r mm pp tx 0 sc L ac ea le2 v1 v2 v3 v4 v5) ++ [(d, eD T fd)])) H := hP
    have hD : va_D (lA s) (((wMain T q a N Z b M Y sc tx L cu er le nb nc) ++ [(o, eL T (Int32.toInt64 (unU N Z (tn (xs ((6 * j) + 1))) (xs ((6 * j) + 2)))))]) ++ ((wMod T r mm pp tx 0 sc L ac ea le2 v1 v2 v3 v4 v5) ++ [(d, eD T fd)])) := hD
    refine W.eq (g2 := F0 m 1287 ls [.int (unU N Z (tn (xs ((6 * j) + 1))) (xs ((6 * j) + 2)))]) rfl ?_
    refine lv_istore (lv' := [(7, .int (unU N Z (tn (xs ((6 * j) + 1))) (xs ((6 * j) + 2)))), (6, .int 0), (0, .ref b0), (1, .ref (q 0)), (2, .ref (r 0)), (3, .ref o), (4, .ref d), (5, .int (nI (6 * j)))]) hx hb dL_law_1287 hl (by decide) rfl (fun ls hl => ?_)
    refine lv_aload_n hx hb dL_law_1289 rfl (lv_at hl 4 rfl) ?_
    refine ro_V S hkx (mX6_thrown l (T := T) (r := r) (N := N) (Z := Z) (mm := mm) (pp := pp) (xx := tx) (th := 0) (sv := sc) (n1 := L) (ac := ac) (ea := ea) (le := le2) (v1 := v1) (v2 := v2) (v3 := v3) (v4 := v4) (v5 := v5) (hP := P_mid hP)) gL_law_X6_thrown rfl idX6_thrown ⟨Nat.le_of_ble_eq_true rfl, Nat.le_of_ble_eq_true rfl⟩ hP 101 rfl rfl rfl rfl hl.1 rfl (Nat.le_of_ble_eq_true rfl) dL_law_1290 ⟨(by show cells + 2 ≤ 601024; omega), (by show slots + 12 ≤ 7293034; omega)⟩ (fun r9 hr9 => ?_)
    subst hr9
    refine lv_iload hx hb dL_law_1293 (lv_at hl 1 rfl) ?_
    refine lv_icmp_eq (tgt := 1300) hx hb dL_law_1295 (by decide) (fun c_1 => ?_) (fun c_1 => ?_)
    · replace c_1 := cn_eq (a := 0) (b := 0) (by omega) (by omega) c_1
      refine lv_iload hx hb dL_law_1300 (lv_at hl 1 rfl) ?_
      refine lv_if_ne (tgt := 1317) hx hb dL_law_1302 (by decide) (fun c_2 => ?_) (fun c_2 => ?_)
      · replace c_2 := cn_ne (a := 0) (b := 0) (by omega) (by omega) c_2
        exact absurd c_2 (by decide)
      · replace c_2 := cn_eq (a := 0) (b := 0) (by omega) (by omega) c_2
        refine lv_aload_n hx hb dL_law_1305 rfl (lv_at hl 5 rfl) ?_
        refine lv_iconst (v := 0) hx hb dL_law_1306 (by decide) ?_
        refine lld0 hx hb hkx hP 100 rfl dL_law_1307 ?_
        refine lv_iload hx hb dL_law_1308 (lv_at hl 0 rfl) ?_
        refine lv_i2l hx hb dL_law_1310 rfl ?_
        refine W.lcmp hx hb dL_law_1311 ?_
        rw [lg_self]
        refine lv_if_eq (tgt := 1317) hx hb dL_law_1312 (by decide) (fun c_3 => ?_) (fun c_3 => ?_)
        · replace c_3 := cn_eq (a := 0) (b := 0) (by omega) (by omega) c_3
          refine lv_goto (tgt := 2069) hx hb dL_law_1317 (by decide) ?_
          refine W.widen (k := cells + 3) (n := slots + 18) (by omega) (by omega) ?_
          exact hnext _ _ _ ⟨a, N, Z, b, M, Y, sc, tx, L, cu, er, le, nb, nc, mm, pp, 0, ac, ea, le2, v1, v2, v3, v4, v5, (Int32.toInt64 (unU N Z (tn (xs ((6 * j) + 1))) (xs ((6 * j) + 2)))), fd, hT, hX, hP, hD⟩ hS (lv_sub hl [2, 3, 4, 5, 6, 7] rfl)
        · replace c_3 := cn_ne (a := 0) (b := 0) (by omega) (by omega) c_3
          exact absurd c_3 (by decide)
    · replace c_1 := cn_ne (a := 0) (b := 0) (by omega) (by omega) c_1
      exact absurd c_1 (by decide)
  · obtain ⟨hP, hD⟩ := fr_hd hP hD hk1 hPc (List.Perm.refl _)
    have hc0 := (nz_I (le_sq (le_th _ _) (le_wi _ _ _)) hF)
    have hP : va_P G vwCl (((wMain T q a N Z b M Y sc tx L cu er le nb nc) ++ [(o, eL T fo)]) ++ ((wMod T r mm pp tx th sc L ac ea le2 v1 v2 v3 v4 v5) ++ [(d, eD T fd)])) H := hP
    have hD : va_D (lA s) (((wMain T q a N Z b M Y sc tx L cu er le nb nc) ++ [(o, eL T fo)]) ++ ((wMod T r mm pp tx th sc L ac ea le2 v1 v2 v3 v4 v5) ++ [(d, eD T fd)])) := hD
    refine W.eq (g2 := F0 m 1269 ls [.int (cmI (sq (thF (xs ((6 * j) + 1)) (nI (N 2))) (dyF (xs ((6 * j) + 2)))))]) rfl ?_
    refine lv_istore (lv' := [(6, .int (cmI (sq (thF (xs ((6 * j) + 1)) (nI (N 2))) (dyF (xs ((6 * j) + 2)))))), (0, .ref b0), (1, .ref (q 0)), (2, .ref (r 0)), (3, .ref o), (4, .ref d), (5, .int (nI (6 * j)))]) hx hb dL_law_1269 hl (by decide) rfl (fun ls hl => ?_)
    refine lv_aload_n hx hb dL_law_1271 rfl (lv_at hl 3 rfl) ?_
    refine lv_aload_n hx hb dL_law_1272 rfl (lv_at hl 1 rfl) ?_
    refine lv_iload hx hb dL_law_1273 (lv_at hl 6 rfl) ?_
    refine lv_iconst (v := 1) hx hb dL_law_1275 (by decide) ?_
    refine lv_iadd hx hb dL_law_1276 ?_
    rw [show ((nI (6 * j)) + 1) = (nI ((6 * j) + 1)) from nI_add (6 * j) 1]
    refine sld K hS ((6 * j) + 1) rfl (by omega) dL_law_1277 ?_
    refine lv_aload_n hx hb dL_law_1278 rfl (lv_at hl 1 rfl) ?_
    refine lv_iload hx hb dL_law_1279 (lv_at hl 6 rfl) ?_
    refine lv_iconst (v := 2) hx hb dL_law_1281 (by decide) ?_
    refine lv_iadd hx hb dL_law_1282 ?_
    rw [show ((nI (6 * j)) + 2) = (nI ((6 * j) + 2)) from nI_add (6 * j) 2]
    refine sld K hS ((6 * j) + 2) rfl (by omega) dL_law_1283 ?_
    refine mu_V S hkx (mX6_missing l (T := T) (r := r) (N := N) (Z := Z) (mm := mm) (pp := pp) (xx := tx) (th := th) (sv := sc) (n1 := L) (ac := ac) (ea := ea) (le := le2) (v1 := v1) (v2 := v2) (v3 := v3) (v4 := v4) (v5 := v5) (u := (xs ((6 * j) + 1))) (d := (xs ((6 * j) + 2))) (hP := P_mid hP) (hD := (D_mid hD).weaken (fun _ _ _ _ => trivial)) (hwf := hT.1) (hr := hT.2.1)) gL_law_X6_missing rfl idX6_missing ⟨Nat.le_of_ble_eq_true rfl, Nat.le_of_ble_eq_true rfl⟩ hP 101 rfl rfl rfl rfl hl.1 rfl (Nat.le_of_ble_eq_true rfl) dL_law_1284 ⟨(by show cells + 2 ≤ 601024; omega), (by show slots + 12 ≤ 7293034; omega)⟩ hS (fr_in (D_mid hD) (fun q h => Nat.le_trans hS.1 h)) (fun v H locs hp9 hz1 hk1 hS => ?_)
    obtain ⟨z9, rfl, hp9⟩ := hp9
    have hPm := (hp9.resolve_left (fun h => hF h.1)).2
    obtain ⟨hP, hD⟩ := fr_mid hP hD hk1 hPm rfl
    have hP : va_P G vwCl (((wMain T q a N Z b M Y sc tx L cu er le nb nc) ++ [(o, eL T fo)]) ++ ((wMod T r mm pp tx (cmI (sq (thF (xs ((6 * j) + 1)) (nI (N 2))) (dyF (xs ((6 * j) + 2))))) sc L ac ea le2 v1 v2 v3 v4 v5) ++ [(d, eD T fd)])) H := hP
    have hD : va_D (lA s) (((wMain T q a N Z b M Y sc tx L cu er le nb nc) ++ [(o, eL T fo)]) ++ ((wMod T r mm pp tx (cmI (sq (thF (xs ((6 * j) + 1)) (nI (N 2))) (dyF (xs ((6 * j) + 2))))) sc L ac ea le2 v1 v2 v3 v4 v5) ++ [(d, eD T fd)])) := hD
    refine W.eq (g2 := F0 m 1287 ls [.int z9]) rfl ?_
    refine lv_istore (lv' := [(7, .int z9), (6, .int (cmI (sq (thF (xs ((6 * j) + 1)) (nI (N 2))) (dyF (xs ((6 * j) + 2)))))), (0, .ref b0), (1, .ref (q 0)), (2, .ref (r 0)), (3, .ref o), (4, .ref d), (5, .int (nI (6 * j)))]) hx hb dL_law_1287 hl (by decide) rfl (fun ls hl => ?_)
    refine lv_aload_n hx hb dL_law_1289 rfl (lv_at hl 4 rfl) ?_
    refine ro_V S hkx (mX6_thrown l (T := T) (r := r) (N := N) (Z := Z) (mm := mm) (pp := pp) (xx := tx) (th := (cmI (sq (thF (xs ((6 * j) + 1)) (nI (N 2))) (dyF (xs ((6 * j) + 2)))))) (sv := sc) (n1 := L) (ac := ac) (ea := ea) (le := le2) (v1 := v1) (v2 := v2) (v3 := v3) (v4 := v4) (v5 := v5) (hP := P_mid hP)) gL_law_X6_thrown rfl idX6_thrown ⟨Nat.le_of_ble_eq_true rfl, Nat.le_of_ble_eq_true rfl⟩ hP 101 rfl rfl rfl rfl hl.1 rfl (Nat.le_of_ble_eq_true rfl) dL_law_1290 ⟨(by show cells + 2 ≤ 601024; omega), (by show slots + 12 ≤ 7293034; omega)⟩ (fun r9 hr9 => ?_)
    subst hr9
    refine lv_iload hx hb dL_law_1293 (lv_at hl 1 rfl) ?_
    refine lv_icmp_eq (tgt := 1300) hx hb dL_law_1295 (by decide) (fun c_4 => ?_) (fun c_4 => ?_)
    · skip
      refine lv_iload hx hb dL_law_1300 (lv_at hl 1 rfl) ?_
      refine lv_if_ne (tgt := 1317) hx hb dL_law_1302 (by decide) (fun c_5 => ?_) (fun c_5 => ?_)
      · skip
        refine lv_goto (tgt := 2069) hx hb dL_law_1317 (by decide) ?_
        refine W.widen (k := cells + 3) (n := slots + 18) (by omega) (by omega) ?_
        exact hnext _ _ _ ⟨a, N, Z, b, M, Y, sc, tx, L, cu, er, le, nb, nc, mm, pp, (cmI (sq (thF (xs ((6 * j) + 1)) (nI (N 2))) (dyF (xs ((6 * j) + 2))))), ac, ea, le2, v1, v2, v3, v4, v5, fo, fd, hT, hX, hP, hD⟩ hS (lv_sub hl [2, 3, 4, 5, 6, 7] rfl)
      · skip
        exact absurd c_5 hc0
    · skip
      exact absurd rfl c_4

set_option maxHeartbeats 4000000 in
set_option maxRecDepth 100000 in
theorem law_stranded (l : Launch) (hl0 : l.stackTraces = false) {G : va_G} {T : Nat → ClassId} {sa kk vv : Nat → Nat} {p : Program} {e : Env} {s : State} {m : MethodId} {below : List Frame} {meth : Method} {c : Code} {Q : State → Prop} {b0 LL : Nat} {xs : Nat → Int32} {q r : Nat → Nat} {o d : Nat} {a N : Nat → Nat} {Z : Nat → Nat → Int32} {b M : Nat → Nat → Nat} {Y : Nat → Nat → Nat → Int32} {sc : Nat} {tx : Nat → Int32} {L cu : Nat} {er le : Int32} {nb : Nat → Int32} {nc : Nat} {mm pp : Nat → Int32} {th ac ea le2 v1 v2 v3 v4 v5 : Int32} {fo : Int64} {fd : UInt64} {H : Heap} {locs : List Loc} {cells slots j : Nat} {ls : Array Slot} (K : LK G T sa kk vv p s m c b0 LL xs) (hl : lv_has ls 9 [(0, .ref b0), (1, .ref (q 0)), (2, .ref (r 0)), (3, .ref o), (4, .ref d), (5, .int (nI (6 * j)))]) (hj : 6 * j + 5 < LL) (hcs : cells + 3 ≤ 601024) (hss : slots + 18 ≤ 7293034) (hS : va_S (lA s) s.heap H locs) (hT : tie N Z mm M Y pp sc) (hX : txo tx L) (hP : va_P G vwCl (wL T q a N Z b M Y sc tx L cu er le nb nc r mm pp th ac ea le2 v1 v2 v3 v4 v5 o d fo fd) H) (hD : va_D (lA s) (wL T q a N Z b M Y sc tx L cu er le nb nc r mm pp th ac ea le2 v1 v2 v3 v4 v5 o d fo fd)) (hnext : ∀ (H : Heap) (locs : List Loc) (ls : Array Slot), inv G T q r o d (lA s) H → va_S (lA s) s.heap H locs → lv_has ls 9 [(0, .ref b0), (1, .ref (q 0)), (2, .ref (r 0)), (3, .ref o), (4, .ref d), (5, .int (nI (6 * j)))] → W p l e room_1 s m ([.ref b0] : List Value).toArray below meth c H locs (cells + 3) (slots + 18) Q (F0 m 2069 ls [])) : W p l e room_1 s m ([.ref b0] : List Value).toArray below meth c H locs cells slots Q (F0 m 1320 ls []) := by
  obtain ⟨S, hkx, -, hnc, -⟩ := id K
  have hx := S.1
  have hb := S.2.1
  have h9 := K.2.2.2.2.2.2.2
  have hX1 := hX.1
  have hP : va_P G vwCl (((wMain T q a N Z b M Y sc tx L cu er le nb nc) ++ [(o, eL T fo)]) ++ ((wMod T r mm pp tx th sc L ac ea le2 v1 v2 v3 v4 v5) ++ [(d, eD T fd)])) H := hP
  have hD : va_D (lA s) (((wMain T q a N Z b M Y sc tx L cu er le nb nc) ++ [(o, eL T fo)]) ++ ((wMod T r mm pp tx th sc L ac ea le2 v1 v2 v3 v4 v5) ++ [(d, eD T fd)])) := hD
  refine lv_aload_n hx hb dL_law_1320 rfl (lv_at hl 1 rfl) ?_
  refine lv_aload_n hx hb dL_law_1321 rfl (lv_at hl 0 rfl) ?_
  refine lv_iload hx hb dL_law_1322 (lv_at hl 5 rfl) ?_
  refine lv_iconst (v := 1) hx hb dL_law_1324 (by decide) ?_
  refine lv_iadd hx hb dL_law_1325 ?_
  rw [show ((nI (6 * j)) + 1) = (nI ((6 * j) + 1)) from nI_add (6 * j) 1]
  refine sld K hS ((6 * j) + 1) rfl (by omega) dL_law_1326 ?_
  refine lv_aload_n hx hb dL_law_1327 rfl (lv_at hl 3 rfl) ?_
  refine lw_S S hkx (K.2.2.1.kept hS.2.1) hnc (mL_stranded l hl0 (sa := sa) (A9 := lA s) (q := q) (a := a) (N := N) (Z := Z) (b := b) (M := M) (Y := Y) (sc := sc) (tx := tx) (L := L) (cu := cu) (er := er) (le := le) (nb := nb) (nc := nc) (d := (xs ((6 * j) + 1))) (o := o) (fo := fo) (hP := P_hd hP) (hD := (D_hd hD).weaken (fun _ _ _ _ => trivial)) (h9 := (fun q h => Nat.le_trans hS.1 h)) (hwf := hT.1)) gL_law_L_stranded rfl idL_stranded ⟨Nat.le_of_ble_eq_true rfl, Nat.le_of_ble_eq_true rfl⟩ rfl hl.1 rfl (Nat.le_of_ble_eq_true rfl) dL_law_1328 ⟨(by show cells + 1 ≤ 601024; omega), (by show slots + 6 ≤ 7293034; omega)⟩ hS (fr_in (D_hd hD) (fun q h => Nat.le_trans hS.1 h)) (fun v H locs hp9 hz1 hk1 hS => ?_)
  rcases hp9 with ⟨hF, rfl, hPc⟩ | ⟨hF, rfl, hPc⟩
  · obtain ⟨hP, hD⟩ := fr_hd hP hD hk1 hPc (addr_snoc (List.Perm.refl _))
    have hP : va_P G vwCl (((wMain T q a N Z b M Y sc tx L cu er le nb nc) ++ [(o, eL T (Int32.toInt64 (stU N Z (xs ((6 * j) + 1)) (N 2))))]) ++ ((wMod T r mm pp tx th sc L ac ea le2 v1 v2 v3 v4 v5) ++ [(d, eD T fd)])) H := hP
    have hD : va_D (lA s) (((wMain T q a N Z b M Y sc tx L cu er le nb nc) ++ [(o, eL T (Int32.toInt64 (stU N Z (xs ((6 * j) + 1)) (N 2))))]) ++ ((wMod T r mm pp tx th sc L ac ea le2 v1 v2 v3 v4 v5) ++ [(d, eD T fd)])) := hD
    refine W.eq (g2 := F0 m 1331 ls [.int 0]) rfl ?_
    refine lv_istore (lv' := [(6, .int 0), (0, .ref b0), (1, .ref (q 0)), (2, .ref (r 0)), (3, .ref o), (4, .ref d), (5, .int (nI (6 * j)))]) hx hb dL_law_1331 hl (by decide) rfl (fun ls hl => ?_)
    refine lv_aload_n hx hb dL_law_1333 rfl (lv_at hl 3 rfl) ?_
    refine lv_aload_n hx hb dL_law_1334 rfl (lv_at hl 1 rfl) ?_
    refine lv_iload hx hb dL_law_1335 (lv_at hl 6 rfl) ?_
    refine lv_iconst (v := 1) hx hb dL_law_1337 (by decide) ?_
    refine lv_iadd hx hb dL_law_1338 ?_
    rw [show ((nI (6 * j)) + 1) = (nI ((6 * j) + 1)) from nI_add (6 * j) 1]
    refine sld K hS ((6 * j) + 1) rfl (by omega) dL_law_1339 ?_
    refine mu_V S hkx (mX6_stranded l (T := T) (r := r) (N := N) (Z := Z) (mm := mm) (pp := pp) (xx := tx) (th := th) (sv := sc) (n1 := L) (ac := ac) (ea := ea) (le := le2) (v1 := v1) (v2 := v2) (v3 := v3) (v4 := v4) (v5 := v5) (d := (xs ((6 * j) + 1))) (hP := P_mid hP) (hD := (D_mid hD).weaken (fun _ _ _ _ => trivial)) (hwf := hT.1) (hr := hT.2.1)) gL_law_X6_stranded rfl idX6_stranded ⟨Nat.le_of_ble_eq_true rfl, Nat.le_of_ble_eq_true rfl⟩ hP 101 rfl rfl rfl rfl hl.1 rfl (Nat.le_of_ble_eq_true rfl) dL_law_1340 ⟨(by show cells + 1 ≤ 601024; omega), (by show slots + 6 ≤ 7293034; omega)⟩ hS (fr_in (D_mid hD) (fun q h => Nat.le_trans hS.1 h)) (fun v H locs hp9 hz1 hk1 hS => ?_)
    obtain ⟨z9, rfl, hp9⟩ := hp9
    obtain ⟨-, rfl, hPm⟩ := hp9.resolve_right (fun h => h.1 hF)
    obtain ⟨hP, hD⟩ := fr_mid hP hD hk1 hPm rfl
    have hP : va_P G vwCl (((wMain T q a N Z b M Y sc tx L cu er le nb nc) ++ [(o, eL T (Int32.toInt64 (stU N Z (xs ((6 * j) + 1)) (N 2))))]) ++ ((wMod T r mm pp tx 0 sc L ac ea le2 v1 v2 v3 v4 v5) ++ [(d, eD T fd)])) H := hP
    have hD : va_D (lA s) (((wMain T q a N Z b M Y sc tx L cu er le nb nc) ++ [(o, eL T (Int32.toInt64 (stU N Z (xs ((6 * j) + 1)) (N 2))))]) ++ ((wMod T r mm pp tx 0 sc L ac ea le2 v1 v2 v3 v4 v5) ++ [(d, eD T fd)])) := hD
    refine W.eq (g2 := F0 m 1343 ls [.int (stU N Z (xs ((6 * j) + 1)) (N 2))]) rfl ?_
    refine lv_istore (lv' := [(7, .int (stU N Z (xs ((6 * j) + 1)) (N 2))), (6, .int 0), (0, .ref b0), (1, .ref (q 0)), (2, .ref (r 0)), (3, .ref o), (4, .ref d), (5, .int (nI (6 * j)))]) hx hb dL_law_1343 hl (by decide) rfl (fun ls hl => ?_)
    refine lv_aload_n hx hb dL_law_1345 rfl (lv_at hl 4 rfl) ?_
    refine ro_V S hkx (mX6_thrown l (T := T) (r := r) (N := N) (Z := Z) (mm := mm) (pp := pp) (xx := tx) (th := 0) (sv := sc) (n1 := L) (ac := ac) (ea := ea) (le := le2) (v1 := v1) (v2 := v2) (v3 := v3) (v4 := v4) (v5 := v5) (hP := P_mid hP)) gL_law_X6_thrown rfl idX6_thrown ⟨Nat.le_of_ble_eq_true rfl, Nat.le_of_ble_eq_true rfl⟩ hP 101 rfl rfl rfl rfl hl.1 rfl (Nat.le_of_ble_eq_true rfl) dL_law_1346 ⟨(by show cells + 1 ≤ 601024; omega), (by show slots + 6 ≤ 7293034; omega)⟩ (fun r9 hr9 => ?_)
    subst hr9
    refine lv_iload hx hb dL_law_1349 (lv_at hl 1 rfl) ?_
    refine lv_icmp_eq (tgt := 1356) hx hb dL_law_1351 (by decide) (fun c_1 => ?_) (fun c_1 => ?_)
    · replace c_1 := cn_eq (a := 0) (b := 0) (by omega) (by omega) c_1
      refine lv_iload hx hb dL_law_1356 (lv_at hl 1 rfl) ?_
      refine lv_if_ne (tgt := 1373) hx hb dL_law_1358 (by decide) (fun c_2 => ?_) (fun c_2 => ?_)
      · replace c_2 := cn_ne (a := 0) (b := 0) (by omega) (by omega) c_2
        exact absurd c_2 (by decide)
      · replace c_2 := cn_eq (a := 0) (b := 0) (by omega) (by omega) c_2
        refine lv_aload_n hx hb dL_law_1361 rfl (lv_at hl 5 rfl) ?_
        refine lv_iconst (v := 0) hx hb dL_law_1362 (by decide) ?_
        refine lld0 hx hb hkx hP 100 rfl dL_law_1363 ?_
        refine lv_iload hx hb dL_law_1364 (lv_at hl 0 rfl) ?_
        refine lv_i2l hx hb dL_law_1366 rfl ?_
        refine W.lcmp hx hb dL_law_1367 ?_
        rw [lg_self]
        refine lv_if_eq (tgt := 1373) hx hb dL_law_1368 (by decide) (fun c_3 => ?_) (fun c_3 => ?_)
        · replace c_3 := cn_eq (a := 0) (b := 0) (by omega) (by omega) c_3
          refine lv_goto (tgt := 2069) hx hb dL_law_1373 (by decide) ?_
          refine W.widen (k := cells + 3) (n := slots + 18) (by omega) (by omega) ?_
          exact hnext _ _ _ ⟨a, N, Z, b, M, Y, sc, tx, L, cu, er, le, nb, nc, mm, pp, 0, ac, ea, le2, v1, v2, v3, v4, v5, (Int32.toInt64 (stU N Z (xs ((6 * j) + 1)) (N 2))), fd, hT, hX, hP, hD⟩ hS (lv_sub hl [2, 3, 4, 5, 6, 7] rfl)
        · replace c_3 := cn_ne (a := 0) (b := 0) (by omega) (by omega) c_3
          exact absurd c_3 (by decide)
    · replace c_1 := cn_ne (a := 0) (b := 0) (by omega) (by omega) c_1
      exact absurd c_1 (by decide)
  · obtain ⟨hP, hD⟩ := fr_hd hP hD hk1 hPc (List.Perm.refl _)
    have hc0 := (nz_A (le_wi _ _ _) hF (r_wi _ _ _).1)
    have hP : va_P G vwCl (((wMain T q a N Z b M Y sc tx L cu er le nb nc) ++ [(o, eL T fo)]) ++ ((wMod T r mm pp tx th sc L ac ea le2 v1 v2 v3 v4 v5) ++ [(d, eD T fd)])) H := hP
    have hD : va_D (lA s) (((wMain T q a N Z b M Y sc tx L cu er le nb nc) ++ [(o, eL T fo)]) ++ ((wMod T r mm pp tx th sc L ac ea le2 v1 v2 v3 v4 v5) ++ [(d, eD T fd)])) := hD
    refine W.eq (g2 := F0 m 1331 ls [.int (cmA (dyF (xs ((6 * j) + 1))))]) rfl ?_
    refine lv_istore (lv' := [(6, .int (cmA (dyF (xs ((6 * j) + 1))))), (0, .ref b0), (1, .ref (q 0)), (2, .ref (r 0)), (3, .ref o), (4, .ref d), (5, .int (nI (6 * j)))]) hx hb dL_law_1331 hl (by decide) rfl (fun ls hl => ?_)
    refine lv_aload_n hx hb dL_law_1333 rfl (lv_at hl 3 rfl) ?_
    refine lv_aload_n hx hb dL_law_1334 rfl (lv_at hl 1 rfl) ?_
    refine lv_iload hx hb dL_law_1335 (lv_at hl 6 rfl) ?_
    refine lv_iconst (v := 1) hx hb dL_law_1337 (by decide) ?_
    refine lv_iadd hx hb dL_law_1338 ?_
    rw [show ((nI (6 * j)) + 1) = (nI ((6 * j) + 1)) from nI_add (6 * j) 1]
    refine sld K hS ((6 * j) + 1) rfl (by omega) dL_law_1339 ?_
    refine mu_V S hkx (mX6_stranded l (T := T) (r := r) (N := N) (Z := Z) (mm := mm) (pp := pp) (xx := tx) (th := th) (sv := sc) (n1 := L) (ac := ac) (ea := ea) (le := le2) (v1 := v1) (v2 := v2) (v3 := v3) (v4 := v4) (v5 := v5) (d := (xs ((6 * j) + 1))) (hP := P_mid hP) (hD := (D_mid hD).weaken (fun _ _ _ _ => trivial)) (hwf := hT.1) (hr := hT.2.1)) gL_law_X6_stranded rfl idX6_stranded ⟨Nat.le_of_ble_eq_true rfl, Nat.le_of_ble_eq_true rfl⟩ hP 101 rfl rfl rfl rfl hl.1 rfl (Nat.le_of_ble_eq_true rfl) dL_law_1340 ⟨(by show cells + 1 ≤ 601024; omega), (by show slots + 6 ≤ 7293034; omega)⟩ hS (fr_in (D_mid hD) (fun q h => Nat.le_trans hS.1 h)) (fun v H locs hp9 hz1 hk1 hS => ?_)
    obtain ⟨z9, rfl, hp9⟩ := hp9
    have hPm := (hp9.resolve_left (fun h => hF h.1)).2
    obtain ⟨hP, hD⟩ := fr_mid hP hD hk1 hPm rfl
    have hP : va_P G vwCl (((wMain T q a N Z b M Y sc tx L cu er le nb nc) ++ [(o, eL T fo)]) ++ ((wMod T r mm pp tx (cmA (dyF (xs ((6 * j) + 1)))) sc L ac ea le2 v1 v2 v3 v4 v5) ++ [(d, eD T fd)])) H := hP
    have hD : va_D (lA s) (((wMain T q a N Z b M Y sc tx L cu er le nb nc) ++ [(o, eL T fo)]) ++ ((wMod T r mm pp tx (cmA (dyF (xs ((6 * j) + 1)))) sc L ac ea le2 v1 v2 v3 v4 v5) ++ [(d, eD T fd)])) := hD
    refine W.eq (g2 := F0 m 1343 ls [.int z9]) rfl ?_
    refine lv_istore (lv' := [(7, .int z9), (6, .int (cmA (dyF (xs ((6 * j) + 1))))), (0, .ref b0), (1, .ref (q 0)), (2, .ref (r 0)), (3, .ref o), (4, .ref d), (5, .int (nI (6 * j)))]) hx hb dL_law_1343 hl (by decide) rfl (fun ls hl => ?_)
    refine lv_aload_n hx hb dL_law_1345 rfl (lv_at hl 4 rfl) ?_
    refine ro_V S hkx (mX6_thrown l (T := T) (r := r) (N := N) (Z := Z) (mm := mm) (pp := pp) (xx := tx) (th := (cmA (dyF (xs ((6 * j) + 1))))) (sv := sc) (n1 := L) (ac := ac) (ea := ea) (le := le2) (v1 := v1) (v2 := v2) (v3 := v3) (v4 := v4) (v5 := v5) (hP := P_mid hP)) gL_law_X6_thrown rfl idX6_thrown ⟨Nat.le_of_ble_eq_true rfl, Nat.le_of_ble_eq_true rfl⟩ hP 101 rfl rfl rfl rfl hl.1 rfl (Nat.le_of_ble_eq_true rfl) dL_law_1346 ⟨(by show cells + 1 ≤ 601024; omega), (by show slots + 6 ≤ 7293034; omega)⟩ (fun r9 hr9 => ?_)
    subst hr9
    refine lv_iload hx hb dL_law_1349 (lv_at hl 1 rfl) ?_
    refine lv_icmp_eq (tgt := 1356) hx hb dL_law_1351 (by decide) (fun c_4 => ?_) (fun c_4 => ?_)
    · skip
      refine lv_iload hx hb dL_law_1356 (lv_at hl 1 rfl) ?_
      refine lv_if_ne (tgt := 1373) hx hb dL_law_1358 (by decide) (fun c_5 => ?_) (fun c_5 => ?_)
      · skip
        refine lv_goto (tgt := 2069) hx hb dL_law_1373 (by decide) ?_
        refine W.widen (k := cells + 3) (n := slots + 18) (by omega) (by omega) ?_
        exact hnext _ _ _ ⟨a, N, Z, b, M, Y, sc, tx, L, cu, er, le, nb, nc, mm, pp, (cmA (dyF (xs ((6 * j) + 1)))), ac, ea, le2, v1, v2, v3, v4, v5, fo, fd, hT, hX, hP, hD⟩ hS (lv_sub hl [2, 3, 4, 5, 6, 7] rfl)
      · skip
        exact absurd c_5 hc0
    · skip
      exact absurd rfl c_4

set_option maxHeartbeats 4000000 in
set_option maxRecDepth 100000 in
theorem law_costs (l : Launch) (hl0 : l.stackTraces = false) {G : va_G} {T : Nat → ClassId} {sa kk vv : Nat → Nat} {p : Program} {e : Env} {s : State} {m : MethodId} {below : List Frame} {meth : Method} {c : Code} {Q : State → Prop} {b0 LL : Nat} {xs : Nat → Int32} {q r : Nat → Nat} {o d : Nat} {a N : Nat → Nat} {Z : Nat → Nat → Int32} {b M : Nat → Nat → Nat} {Y : Nat → Nat → Nat → Int32} {sc : Nat} {tx : Nat → Int32} {L cu : Nat} {er le : Int32} {nb : Nat → Int32} {nc : Nat} {mm pp : Nat → Int32} {th ac ea le2 v1 v2 v3 v4 v5 : Int32} {fo : Int64} {fd : UInt64} {H : Heap} {locs : List Loc} {cells slots j : Nat} {ls : Array Slot} (K : LK G T sa kk vv p s m c b0 LL xs) (hl : lv_has ls 9 [(0, .ref b0), (1, .ref (q 0)), (2, .ref (r 0)), (3, .ref o), (4, .ref d), (5, .int (nI (6 * j)))]) (hj : 6 * j + 5 < LL) (hcs : cells + 3 ≤ 601024) (hss : slots + 18 ≤ 7293034) (hS : va_S (lA s) s.heap H locs) (hT : tie N Z mm M Y pp sc) (hX : txo tx L) (hP : va_P G vwCl (wL T q a N Z b M Y sc tx L cu er le nb nc r mm pp th ac ea le2 v1 v2 v3 v4 v5 o d fo fd) H) (hD : va_D (lA s) (wL T q a N Z b M Y sc tx L cu er le nb nc r mm pp th ac ea le2 v1 v2 v3 v4 v5 o d fo fd)) (hnext : ∀ (H : Heap) (locs : List Loc) (ls : Array Slot), inv G T q r o d (lA s) H → va_S (lA s) s.heap H locs → lv_has ls 9 [(0, .ref b0), (1, .ref (q 0)), (2, .ref (r 0)), (3, .ref o), (4, .ref d), (5, .int (nI (6 * j)))] → W p l e room_1 s m ([.ref b0] : List Value).toArray below meth c H locs (cells + 3) (slots + 18) Q (F0 m 2069 ls [])) : W p l e room_1 s m ([.ref b0] : List Value).toArray below meth c H locs cells slots Q (F0 m 1376 ls []) := by
  obtain ⟨S, hkx, -, hnc, -⟩ := id K
  have hx := S.1
  have hb := S.2.1
  have h9 := K.2.2.2.2.2.2.2
  have hX1 := hX.1
  have hP : va_P G vwCl (((wMain T q a N Z b M Y sc tx L cu er le nb nc) ++ [(o, eL T fo)]) ++ ((wMod T r mm pp tx th sc L ac ea le2 v1 v2 v3 v4 v5) ++ [(d, eD T fd)])) H := hP
  have hD : va_D (lA s) (((wMain T q a N Z b M Y sc tx L cu er le nb nc) ++ [(o, eL T fo)]) ++ ((wMod T r mm pp tx th sc L ac ea le2 v1 v2 v3 v4 v5) ++ [(d, eD T fd)])) := hD
  refine lv_aload_n hx hb dL_law_1376 rfl (lv_at hl 1 rfl) ?_
  refine lv_aload_n hx hb dL_law_1377 rfl (lv_at hl 0 rfl) ?_
  refine lv_iload hx hb dL_law_1378 (lv_at hl 5 rfl) ?_
  refine lv_iconst (v := 1) hx hb dL_law_1380 (by decide) ?_
  refine lv_iadd hx hb dL_law_1381 ?_
  rw [show ((nI (6 * j)) + 1) = (nI ((6 * j) + 1)) from nI_add (6 * j) 1]
  refine sld K hS ((6 * j) + 1) rfl (by omega) dL_law_1382 ?_
  refine lv_aload_n hx hb dL_law_1383 rfl (lv_at hl 0 rfl) ?_
  refine lv_iload hx hb dL_law_1384 (lv_at hl 5 rfl) ?_
  refine lv_iconst (v := 2) hx hb dL_law_1386 (by decide) ?_
  refine lv_iadd hx hb dL_law_1387 ?_
  rw [show ((nI (6 * j)) + 2) = (nI ((6 * j) + 2)) from nI_add (6 * j) 2]
  refine sld K hS ((6 * j) + 2) rfl (by omega) dL_law_1388 ?_
  refine lv_aload_n hx hb dL_law_1389 rfl (lv_at hl 3 rfl) ?_
  refine lw_S S hkx (K.2.2.1.kept hS.2.1) hnc (mL_costs l hl0 (sa := sa) (A9 := lA s) (q := q) (a := a) (N := N) (Z := Z) (b := b) (M := M) (Y := Y) (sc := sc) (tx := tx) (L := L) (cu := cu) (er := er) (le := le) (nb := nb) (nc := nc) (f := (xs ((6 * j) + 1))) (w := (xs ((6 * j) + 2))) (o := o) (fo := fo) (hP := P_hd hP) (hD := (D_hd hD).weaken (fun _ _ _ _ => trivial)) (h9 := (fun q h => Nat.le_trans hS.1 h)) (hwf := hT.1)) gL_law_L_costs rfl idL_costs ⟨Nat.le_of_ble_eq_true rfl, Nat.le_of_ble_eq_true rfl⟩ rfl hl.1 rfl (Nat.le_of_ble_eq_true rfl) dL_law_1390 ⟨(by show cells + 2 ≤ 601024; omega), (by show slots + 12 ≤ 7293034; omega)⟩ hS (fr_in (D_hd hD) (fun q h => Nat.le_trans hS.1 h)) (fun v H locs hp9 hz1 hk1 hS => ?_)
  rcases hp9 with ⟨hF, rfl, hPc⟩ | ⟨hF, rfl, hPc⟩
  · obtain ⟨hP, hD⟩ := fr_hd hP hD hk1 hPc (addr_snoc (List.Perm.refl _))
    have hP : va_P G vwCl (((wMain T q a N Z b M Y sc tx L cu er le nb nc) ++ [(o, eL T (Int32.toInt64 (smD (cAlD N Z) (tn (xs ((6 * j) + 1))) (tn (xs ((6 * j) + 2)) + 1 - tn (xs ((6 * j) + 1))))))]) ++ ((wMod T r mm pp tx th sc L ac ea le2 v1 v2 v3 v4 v5) ++ [(d, eD T fd)])) H := hP
    have hD : va_D (lA s) (((wMain T q a N Z b M Y sc tx L cu er le nb nc) ++ [(o, eL T (Int32.toInt64 (smD (cAlD N Z) (tn (xs ((6 * j) + 1))) (tn (xs ((6 * j) + 2)) + 1 - tn (xs ((6 * j) + 1))))))]) ++ ((wMod T r mm pp tx th sc L ac ea le2 v1 v2 v3 v4 v5) ++ [(d, eD T fd)])) := hD
    refine W.eq (g2 := F0 m 1393 ls [.int 0]) rfl ?_
    refine lv_istore (lv' := [(6, .int 0), (0, .ref b0), (1, .ref (q 0)), (2, .ref (r 0)), (3, .ref o), (4, .ref d), (5, .int (nI (6 * j)))]) hx hb dL_law_1393 hl (by decide) rfl (fun ls hl => ?_)
    refine lv_aload_n hx hb dL_law_1395 rfl (lv_at hl 3 rfl) ?_
    refine lv_aload_n hx hb dL_law_1396 rfl (lv_at hl 1 rfl) ?_
    refine lv_iload hx hb dL_law_1397 (lv_at hl 6 rfl) ?_
    refine lv_iconst (v := 1) hx hb dL_law_1399 (by decide) ?_
    refine lv_iadd hx hb dL_law_1400 ?_
    rw [show ((nI (6 * j)) + 1) = (nI ((6 * j) + 1)) from nI_add (6 * j) 1]
    refine sld K hS ((6 * j) + 1) rfl (by omega) dL_law_1401 ?_
    refine lv_aload_n hx hb dL_law_1402 rfl (lv_at hl 1 rfl) ?_
    refine lv_iload hx hb dL_law_1403 (lv_at hl 6 rfl) ?_
    refine lv_iconst (v := 2) hx hb dL_law_1405 (by decide) ?_
    refine lv_iadd hx hb dL_law_1406 ?_
    rw [show ((nI (6 * j)) + 2) = (nI ((6 * j) + 2)) from nI_add (6 * j) 2]
    refine sld K hS ((6 * j) + 2) rfl (by omega) dL_law_1407 ?_
    refine mu_V S hkx (mX6_costs l (T := T) (r := r) (N := N) (Z := Z) (mm := mm) (pp := pp) (xx := tx) (th := th) (sv := sc) (n1 := L) (ac := ac) (ea := ea) (le := le2) (v1 := v1) (v2 := v2) (v3 := v3) (v4 := v4) (v5 := v5) (f := (xs ((6 * j) + 1))) (w := (xs ((6 * j) + 2))) (hP := P_mid hP) (hD := (D_mid hD).weaken (fun _ _ _ _ => trivial)) (hwf := hT.1) (hr := hT.2.1)) gL_law_X6_costs rfl idX6_costs ⟨Nat.le_of_ble_eq_true rfl, Nat.le_of_ble_eq_true rfl⟩ hP 101 rfl rfl rfl rfl hl.1 rfl (Nat.le_of_ble_eq_true rfl) dL_law_1408 ⟨(by show cells + 2 ≤ 601024; omega), (by show slots + 12 ≤ 7293034; omega)⟩ hS (fr_in (D_mid hD) (fun q h => Nat.le_trans hS.1 h)) (fun v H locs hp9 hz1 hk1 hS => ?_)
    obtain ⟨z9, rfl, hp9⟩ := hp9
    obtain ⟨-, rfl, hPm⟩ := hp9.resolve_right (fun h => h.1 hF)
    obtain ⟨hP, hD⟩ := fr_mid hP hD hk1 hPm rfl
    have hP : va_P G vwCl (((wMain T q a N Z b M Y sc tx L cu er le nb nc) ++ [(o, eL T (Int32.toInt64 (smD (cAlD N Z) (tn (xs ((6 * j) + 1))) (tn (xs ((6 * j) + 2)) + 1 - tn (xs ((6 * j) + 1))))))]) ++ ((wMod T r mm pp tx 0 sc L ac ea le2 v1 v2 v3 v4 v5) ++ [(d, eD T fd)])) H := hP
    have hD : va_D (lA s) (((wMain T q a N Z b M Y sc tx L cu er le nb nc) ++ [(o, eL T (Int32.toInt64 (smD (cAlD N Z) (tn (xs ((6 * j) + 1))) (tn (xs ((6 * j) + 2)) + 1 - tn (xs ((6 * j) + 1))))))]) ++ ((wMod T r mm pp tx 0 sc L ac ea le2 v1 v2 v3 v4 v5) ++ [(d, eD T fd)])) := hD
    refine W.eq (g2 := F0 m 1411 ls [.int (smD (cAlD N Z) (tn (xs ((6 * j) + 1))) (tn (xs ((6 * j) + 2)) + 1 - tn (xs ((6 * j) + 1))))]) rfl ?_
    refine lv_istore (lv' := [(7, .int (smD (cAlD N Z) (tn (xs ((6 * j) + 1))) (tn (xs ((6 * j) + 2)) + 1 - tn (xs ((6 * j) + 1))))), (6, .int 0), (0, .ref b0), (1, .ref (q 0)), (2, .ref (r 0)), (3, .ref o), (4, .ref d), (5, .int (nI (6 * j)))]) hx hb dL_law_1411 hl (by decide) rfl (fun ls hl => ?_)
    refine lv_aload_n hx hb dL_law_1413 rfl (lv_at hl 4 rfl) ?_
    refine ro_V S hkx (mX6_thrown l (T := T) (r := r) (N := N) (Z := Z) (mm := mm) (pp := pp) (xx := tx) (th := 0) (sv := sc) (n1 := L) (ac := ac) (ea := ea) (le := le2) (v1 := v1) (v2 := v2) (v3 := v3) (v4 := v4) (v5 := v5) (hP := P_mid hP)) gL_law_X6_thrown rfl idX6_thrown ⟨Nat.le_of_ble_eq_true rfl, Nat.le_of_ble_eq_true rfl⟩ hP 101 rfl rfl rfl rfl hl.1 rfl (Nat.le_of_ble_eq_true rfl) dL_law_1414 ⟨(by show cells + 2 ≤ 601024; omega), (by show slots + 12 ≤ 7293034; omega)⟩ (fun r9 hr9 => ?_)
    subst hr9
    refine lv_iload hx hb dL_law_1417 (lv_at hl 1 rfl) ?_
    refine lv_icmp_eq (tgt := 1424) hx hb dL_law_1419 (by decide) (fun c_1 => ?_) (fun c_1 => ?_)
    · replace c_1 := cn_eq (a := 0) (b := 0) (by omega) (by omega) c_1
      refine lv_iload hx hb dL_law_1424 (lv_at hl 1 rfl) ?_
      refine lv_if_ne (tgt := 1441) hx hb dL_law_1426 (by decide) (fun c_2 => ?_) (fun c_2 => ?_)
      · replace c_2 := cn_ne (a := 0) (b := 0) (by omega) (by omega) c_2
        exact absurd c_2 (by decide)
      · replace c_2 := cn_eq (a := 0) (b := 0) (by omega) (by omega) c_2
        refine lv_aload_n hx hb dL_law_1429 rfl (lv_at hl 5 rfl) ?_
        refine lv_iconst (v := 0) hx hb dL_law_1430 (by decide) ?_
        refine lld0 hx hb hkx hP 100 rfl dL_law_1431 ?_
        refine lv_iload hx hb dL_law_1432 (lv_at hl 0 rfl) ?_
        refine lv_i2l hx hb dL_law_1434 rfl ?_
        refine W.lcmp hx hb dL_law_1435 ?_
        rw [lg_self]
        refine lv_if_eq (tgt := 1441) hx hb dL_law_1436 (by decide) (fun c_3 => ?_) (fun c_3 => ?_)
        · replace c_3 := cn_eq (a := 0) (b := 0) (by omega) (by omega) c_3
          refine lv_goto (tgt := 2069) hx hb dL_law_1441 (by decide) ?_
          refine W.widen (k := cells + 3) (n := slots + 18) (by omega) (by omega) ?_
          exact hnext _ _ _ ⟨a, N, Z, b, M, Y, sc, tx, L, cu, er, le, nb, nc, mm, pp, 0, ac, ea, le2, v1, v2, v3, v4, v5, (Int32.toInt64 (smD (cAlD N Z) (tn (xs ((6 * j) + 1))) (tn (xs ((6 * j) + 2)) + 1 - tn (xs ((6 * j) + 1))))), fd, hT, hX, hP, hD⟩ hS (lv_sub hl [2, 3, 4, 5, 6, 7] rfl)
        · replace c_3 := cn_ne (a := 0) (b := 0) (by omega) (by omega) c_3
          exact absurd c_3 (by decide)
    · replace c_1 := cn_ne (a := 0) (b := 0) (by omega) (by omega) c_1
      exact absurd c_1 (by decide)
  · obtain ⟨hP, hD⟩ := fr_hd hP hD hk1 hPc (List.Perm.refl _)
    have hc0 := (nz_A (le_sq (le_wi _ _ _) (le_wi _ _ _)) hF (r_sq (r_wi _ _ _).1 (r_wi _ _ _).1))
    have hP : va_P G vwCl (((wMain T q a N Z b M Y sc tx L cu er le nb nc) ++ [(o, eL T fo)]) ++ ((wMod T r mm pp tx th sc L ac ea le2 v1 v2 v3 v4 v5) ++ [(d, eD T fd)])) H := hP
    have hD : va_D (lA s) (((wMain T q a N Z b M Y sc tx L cu er le nb nc) ++ [(o, eL T fo)]) ++ ((wMod T r mm pp tx th sc L ac ea le2 v1 v2 v3 v4 v5) ++ [(d, eD T fd)])) := hD
    refine W.eq (g2 := F0 m 1393 ls [.int (cmA (sq (dyF (xs ((6 * j) + 1))) (wiF (xs ((6 * j) + 2)) (xs ((6 * j) + 1)) 999)))]) rfl ?_
    refine lv_istore (lv' := [(6, .int (cmA (sq (dyF (xs ((6 * j) + 1))) (wiF (xs ((6 * j) + 2)) (xs ((6 * j) + 1)) 999)))), (0, .ref b0), (1, .ref (q 0)), (2, .ref (r 0)), (3, .ref o), (4, .ref d), (5, .int (nI (6 * j)))]) hx hb dL_law_1393 hl (by decide) rfl (fun ls hl => ?_)
    refine lv_aload_n hx hb dL_law_1395 rfl (lv_at hl 3 rfl) ?_
    refine lv_aload_n hx hb dL_law_1396 rfl (lv_at hl 1 rfl) ?_
    refine lv_iload hx hb dL_law_1397 (lv_at hl 6 rfl) ?_
    refine lv_iconst (v := 1) hx hb dL_law_1399 (by decide) ?_
    refine lv_iadd hx hb dL_law_1400 ?_
    rw [show ((nI (6 * j)) + 1) = (nI ((6 * j) + 1)) from nI_add (6 * j) 1]
    refine sld K hS ((6 * j) + 1) rfl (by omega) dL_law_1401 ?_
    refine lv_aload_n hx hb dL_law_1402 rfl (lv_at hl 1 rfl) ?_
    refine lv_iload hx hb dL_law_1403 (lv_at hl 6 rfl) ?_
    refine lv_iconst (v := 2) hx hb dL_law_1405 (by decide) ?_
    refine lv_iadd hx hb dL_law_1406 ?_
    rw [show ((nI (6 * j)) + 2) = (nI ((6 * j) + 2)) from nI_add (6 * j) 2]
    refine sld K hS ((6 * j) + 2) rfl (by omega) dL_law_1407 ?_
    refine mu_V S hkx (mX6_costs l (T := T) (r := r) (N := N) (Z := Z) (mm := mm) (pp := pp) (xx := tx) (th := th) (sv := sc) (n1 := L) (ac := ac) (ea := ea) (le := le2) (v1 := v1) (v2 := v2) (v3 := v3) (v4 := v4) (v5 := v5) (f := (xs ((6 * j) + 1))) (w := (xs ((6 * j) + 2))) (hP := P_mid hP) (hD := (D_mid hD).weaken (fun _ _ _ _ => trivial)) (hwf := hT.1) (hr := hT.2.1)) gL_law_X6_costs rfl idX6_costs ⟨Nat.le_of_ble_eq_true rfl, Nat.le_of_ble_eq_true rfl⟩ hP 101 rfl rfl rfl rfl hl.1 rfl (Nat.le_of_ble_eq_true rfl) dL_law_1408 ⟨(by show cells + 2 ≤ 601024; omega), (by show slots + 12 ≤ 7293034; omega)⟩ hS (fr_in (D_mid hD) (fun q h => Nat.le_trans hS.1 h)) (fun v H locs hp9 hz1 hk1 hS => ?_)
    obtain ⟨z9, rfl, hp9⟩ := hp9
    have hPm := (hp9.resolve_left (fun h => hF h.1)).2
    obtain ⟨hP, hD⟩ := fr_mid hP hD hk1 hPm rfl
    have hP : va_P G vwCl (((wMain T q a N Z b M Y sc tx L cu er le nb nc) ++ [(o, eL T fo)]) ++ ((wMod T r mm pp tx (cmA (sq (dyF (xs ((6 * j) + 1))) (wiF (xs ((6 * j) + 2)) (xs ((6 * j) + 1)) 999))) sc L ac ea le2 v1 v2 v3 v4 v5) ++ [(d, eD T fd)])) H := hP
    have hD : va_D (lA s) (((wMain T q a N Z b M Y sc tx L cu er le nb nc) ++ [(o, eL T fo)]) ++ ((wMod T r mm pp tx (cmA (sq (dyF (xs ((6 * j) + 1))) (wiF (xs ((6 * j) + 2)) (xs ((6 * j) + 1)) 999))) sc L ac ea le2 v1 v2 v3 v4 v5) ++ [(d, eD T fd)])) := hD
    refine W.eq (g2 := F0 m 1411 ls [.int z9]) rfl ?_
    refine lv_istore (lv' := [(7, .int z9), (6, .int (cmA (sq (dyF (xs ((6 * j) + 1))) (wiF (xs ((6 * j) + 2)) (xs ((6 * j) + 1)) 999)))), (0, .ref b0), (1, .ref (q 0)), (2, .ref (r 0)), (3, .ref o), (4, .ref d), (5, .int (nI (6 * j)))]) hx hb dL_law_1411 hl (by decide) rfl (fun ls hl => ?_)
    refine lv_aload_n hx hb dL_law_1413 rfl (lv_at hl 4 rfl) ?_
    refine ro_V S hkx (mX6_thrown l (T := T) (r := r) (N := N) (Z := Z) (mm := mm) (pp := pp) (xx := tx) (th := (cmA (sq (dyF (xs ((6 * j) + 1))) (wiF (xs ((6 * j) + 2)) (xs ((6 * j) + 1)) 999)))) (sv := sc) (n1 := L) (ac := ac) (ea := ea) (le := le2) (v1 := v1) (v2 := v2) (v3 := v3) (v4 := v4) (v5 := v5) (hP := P_mid hP)) gL_law_X6_thrown rfl idX6_thrown ⟨Nat.le_of_ble_eq_true rfl, Nat.le_of_ble_eq_true rfl⟩ hP 101 rfl rfl rfl rfl hl.1 rfl (Nat.le_of_ble_eq_true rfl) dL_law_1414 ⟨(by show cells + 2 ≤ 601024; omega), (by show slots + 12 ≤ 7293034; omega)⟩ (fun r9 hr9 => ?_)
    subst hr9
    refine lv_iload hx hb dL_law_1417 (lv_at hl 1 rfl) ?_
    refine lv_icmp_eq (tgt := 1424) hx hb dL_law_1419 (by decide) (fun c_4 => ?_) (fun c_4 => ?_)
    · skip
      refine lv_iload hx hb dL_law_1424 (lv_at hl 1 rfl) ?_
      refine lv_if_ne (tgt := 1441) hx hb dL_law_1426 (by decide) (fun c_5 => ?_) (fun c_5 => ?_)
      · skip
        refine lv_goto (tgt := 2069) hx hb dL_law_1441 (by decide) ?_
        refine W.widen (k := cells + 3) (n := slots + 18) (by omega) (by omega) ?_
        exact hnext _ _ _ ⟨a, N, Z, b, M, Y, sc, tx, L, cu, er, le, nb, nc, mm, pp, (cmA (sq (dyF (xs ((6 * j) + 1))) (wiF (xs ((6 * j) + 2)) (xs ((6 * j) + 1)) 999))), ac, ea, le2, v1, v2, v3, v4, v5, fo, fd, hT, hX, hP, hD⟩ hS (lv_sub hl [2, 3, 4, 5, 6, 7] rfl)
      · skip
        exact absurd c_5 hc0
    · skip
      exact absurd rfl c_4

set_option maxHeartbeats 4000000 in
set_option maxRecDepth 100000 in
theorem law_value (l : Launch) (hl0 : l.stackTraces = false) {G : va_G} {T : Nat → ClassId} {sa kk vv : Nat → Nat} {p : Program} {e : Env} {s : State} {m : MethodId} {below : List Frame} {meth : Method} {c : Code} {Q : State → Prop} {b0 LL : Nat} {xs : Nat → Int32} {q r : Nat → Nat} {o d : Nat} {a N : Nat → Nat} {Z : Nat → Nat → Int32} {b M : Nat → Nat → Nat} {Y : Nat → Nat → Nat → Int32} {sc : Nat} {tx : Nat → Int32} {L cu : Nat} {er le : Int32} {nb : Nat → Int32} {nc : Nat} {mm pp : Nat → Int32} {th ac ea le2 v1 v2 v3 v4 v5 : Int32} {fo : Int64} {fd : UInt64} {H : Heap} {locs : List Loc} {cells slots j : Nat} {ls : Array Slot} (K : LK G T sa kk vv p s m c b0 LL xs) (hl : lv_has ls 9 [(0, .ref b0), (1, .ref (q 0)), (2, .ref (r 0)), (3, .ref o), (4, .ref d), (5, .int (nI (6 * j)))]) (hj : 6 * j + 5 < LL) (hcs : cells + 3 ≤ 601024) (hss : slots + 18 ≤ 7293034) (hS : va_S (lA s) s.heap H locs) (hT : tie N Z mm M Y pp sc) (hX : txo tx L) (hP : va_P G vwCl (wL T q a N Z b M Y sc tx L cu er le nb nc r mm pp th ac ea le2 v1 v2 v3 v4 v5 o d fo fd) H) (hD : va_D (lA s) (wL T q a N Z b M Y sc tx L cu er le nb nc r mm pp th ac ea le2 v1 v2 v3 v4 v5 o d fo fd)) (hnext : ∀ (H : Heap) (locs : List Loc) (ls : Array Slot), inv G T q r o d (lA s) H → va_S (lA s) s.heap H locs → lv_has ls 9 [(0, .ref b0), (1, .ref (q 0)), (2, .ref (r 0)), (3, .ref o), (4, .ref d), (5, .int (nI (6 * j)))] → W p l e room_1 s m ([.ref b0] : List Value).toArray below meth c H locs (cells + 3) (slots + 18) Q (F0 m 2069 ls [])) : W p l e room_1 s m ([.ref b0] : List Value).toArray below meth c H locs cells slots Q (F0 m 1444 ls []) := by
  obtain ⟨S, hkx, -, hnc, -⟩ := id K
  have hx := S.1
  have hb := S.2.1
  have h9 := K.2.2.2.2.2.2.2
  have hX1 := hX.1
  have hP : va_P G vwCl (((wMain T q a N Z b M Y sc tx L cu er le nb nc) ++ [(o, eL T fo)]) ++ ((wMod T r mm pp tx th sc L ac ea le2 v1 v2 v3 v4 v5) ++ [(d, eD T fd)])) H := hP
  have hD : va_D (lA s) (((wMain T q a N Z b M Y sc tx L cu er le nb nc) ++ [(o, eL T fo)]) ++ ((wMod T r mm pp tx th sc L ac ea le2 v1 v2 v3 v4 v5) ++ [(d, eD T fd)])) := hD
  refine lv_aload_n hx hb dL_law_1444 rfl (lv_at hl 1 rfl) ?_
  refine lv_aload_n hx hb dL_law_1445 rfl (lv_at hl 0 rfl) ?_
  refine lv_iload hx hb dL_law_1446 (lv_at hl 5 rfl) ?_
  refine lv_iconst (v := 1) hx hb dL_law_1448 (by decide) ?_
  refine lv_iadd hx hb dL_law_1449 ?_
  rw [show ((nI (6 * j)) + 1) = (nI ((6 * j) + 1)) from nI_add (6 * j) 1]
  refine sld K hS ((6 * j) + 1) rfl (by omega) dL_law_1450 ?_
  refine lv_aload_n hx hb dL_law_1451 rfl (lv_at hl 3 rfl) ?_
  refine lw_S S hkx (K.2.2.1.kept hS.2.1) hnc (mL_value l hl0 (sa := sa) (A9 := lA s) (q := q) (a := a) (N := N) (Z := Z) (b := b) (M := M) (Y := Y) (sc := sc) (tx := tx) (L := L) (cu := cu) (er := er) (le := le) (nb := nb) (nc := nc) (w := (xs ((6 * j) + 1))) (o := o) (fo := fo) (hP := P_hd hP) (hD := (D_hd hD).weaken (fun _ _ _ _ => trivial)) (h9 := (fun q h => Nat.le_trans hS.1 h)) (hwf := hT.1)) gL_law_L_value rfl idL_value ⟨Nat.le_of_ble_eq_true rfl, Nat.le_of_ble_eq_true rfl⟩ rfl hl.1 rfl (Nat.le_of_ble_eq_true rfl) dL_law_1452 ⟨(by show cells + 1 ≤ 601024; omega), (by show slots + 6 ≤ 7293034; omega)⟩ hS (fr_in (D_hd hD) (fun q h => Nat.le_trans hS.1 h)) (fun v H locs hp9 hz1 hk1 hS => ?_)
  rcases hp9 with ⟨hF, rfl, hPc⟩ | ⟨hF, rfl, hPc⟩
  · obtain ⟨hP, hD⟩ := fr_hd hP hD hk1 hPc (addr_snoc (List.Perm.refl _))
    have hP : va_P G vwCl (((wMain T q a N Z b M Y sc tx L cu er le nb nc) ++ [(o, eL T (Int32.toInt64 (nmb N Z (tn (xs ((6 * j) + 1))))))]) ++ ((wMod T r mm pp tx th sc L ac ea le2 v1 v2 v3 v4 v5) ++ [(d, eD T fd)])) H := hP
    have hD : va_D (lA s) (((wMain T q a N Z b M Y sc tx L cu er le nb nc) ++ [(o, eL T (Int32.toInt64 (nmb N Z (tn (xs ((6 * j) + 1))))))]) ++ ((wMod T r mm pp tx th sc L ac ea le2 v1 v2 v3 v4 v5) ++ [(d, eD T fd)])) := hD
    refine W.eq (g2 := F0 m 1455 ls [.int 0]) rfl ?_
    refine lv_istore (lv' := [(6, .int 0), (0, .ref b0), (1, .ref (q 0)), (2, .ref (r 0)), (3, .ref o), (4, .ref d), (5, .int (nI (6 * j)))]) hx hb dL_law_1455 hl (by decide) rfl (fun ls hl => ?_)
    refine lv_aload_n hx hb dL_law_1457 rfl (lv_at hl 3 rfl) ?_
    refine lv_aload_n hx hb dL_law_1458 rfl (lv_at hl 1 rfl) ?_
    refine lv_iload hx hb dL_law_1459 (lv_at hl 6 rfl) ?_
    refine lv_iconst (v := 1) hx hb dL_law_1461 (by decide) ?_
    refine lv_iadd hx hb dL_law_1462 ?_
    rw [show ((nI (6 * j)) + 1) = (nI ((6 * j) + 1)) from nI_add (6 * j) 1]
    refine sld K hS ((6 * j) + 1) rfl (by omega) dL_law_1463 ?_
    refine mu_V S hkx (mX6_value l (T := T) (r := r) (N := N) (Z := Z) (mm := mm) (pp := pp) (xx := tx) (th := th) (sv := sc) (n1 := L) (ac := ac) (ea := ea) (le := le2) (v1 := v1) (v2 := v2) (v3 := v3) (v4 := v4) (v5 := v5) (w := (xs ((6 * j) + 1))) (hP := P_mid hP) (hD := (D_mid hD).weaken (fun _ _ _ _ => trivial)) (hwf := hT.1) (hr := hT.2.1)) gL_law_X6_value rfl idX6_value ⟨Nat.le_of_ble_eq_true rfl, Nat.le_of_ble_eq_true rfl⟩ hP 101 rfl rfl rfl rfl hl.1 rfl (Nat.le_of_ble_eq_true rfl) dL_law_1464 ⟨(by show cells + 1 ≤ 601024; omega), (by show slots + 6 ≤ 7293034; omega)⟩ hS (fr_in (D_mid hD) (fun q h => Nat.le_trans hS.1 h)) (fun v H locs hp9 hz1 hk1 hS => ?_)
    obtain ⟨z9, rfl, hp9⟩ := hp9
    obtain ⟨-, rfl, hPm⟩ := hp9.resolve_right (fun h => h.1 hF)
    obtain ⟨hP, hD⟩ := fr_mid hP hD hk1 hPm rfl
    have hP : va_P G vwCl (((wMain T q a N Z b M Y sc tx L cu er le nb nc) ++ [(o, eL T (Int32.toInt64 (nmb N Z (tn (xs ((6 * j) + 1))))))]) ++ ((wMod T r mm pp tx 0 sc L ac ea le2 v1 v2 v3 v4 v5) ++ [(d, eD T fd)])) H := hP
    have hD : va_D (lA s) (((wMain T q a N Z b M Y sc tx L cu er le nb nc) ++ [(o, eL T (Int32.toInt64 (nmb N Z (tn (xs ((6 * j) + 1))))))]) ++ ((wMod T r mm pp tx 0 sc L ac ea le2 v1 v2 v3 v4 v5) ++ [(d, eD T fd)])) := hD
    refine W.eq (g2 := F0 m 1467 ls [.int (nmb N Z (tn (xs ((6 * j) + 1))))]) rfl ?_
    refine lv_istore (lv' := [(7, .int (nmb N Z (tn (xs ((6 * j) + 1))))), (6, .int 0), (0, .ref b0), (1, .ref (q 0)), (2, .ref (r 0)), (3, .ref o), (4, .ref d), (5, .int (nI (6 * j)))]) hx hb dL_law_1467 hl (by decide) rfl (fun ls hl => ?_)
    refine lv_aload_n hx hb dL_law_1469 rfl (lv_at hl 4 rfl) ?_
    refine ro_V S hkx (mX6_thrown l (T := T) (r := r) (N := N) (Z := Z) (mm := mm) (pp := pp) (xx := tx) (th := 0) (sv := sc) (n1 := L) (ac := ac) (ea := ea) (le := le2) (v1 := v1) (v2 := v2) (v3 := v3) (v4 := v4) (v5 := v5) (hP := P_mid hP)) gL_law_X6_thrown rfl idX6_thrown ⟨Nat.le_of_ble_eq_true rfl, Nat.le_of_ble_eq_true rfl⟩ hP 101 rfl rfl rfl rfl hl.1 rfl (Nat.le_of_ble_eq_true rfl) dL_law_1470 ⟨(by show cells + 1 ≤ 601024; omega), (by show slots + 6 ≤ 7293034; omega)⟩ (fun r9 hr9 => ?_)
    subst hr9
    refine lv_iload hx hb dL_law_1473 (lv_at hl 1 rfl) ?_
    refine lv_icmp_eq (tgt := 1480) hx hb dL_law_1475 (by decide) (fun c_1 => ?_) (fun c_1 => ?_)
    · replace c_1 := cn_eq (a := 0) (b := 0) (by omega) (by omega) c_1
      refine lv_iload hx hb dL_law_1480 (lv_at hl 1 rfl) ?_
      refine lv_if_ne (tgt := 1497) hx hb dL_law_1482 (by decide) (fun c_2 => ?_) (fun c_2 => ?_)
      · replace c_2 := cn_ne (a := 0) (b := 0) (by omega) (by omega) c_2
        exact absurd c_2 (by decide)
      · replace c_2 := cn_eq (a := 0) (b := 0) (by omega) (by omega) c_2
        refine lv_aload_n hx hb dL_law_1485 rfl (lv_at hl 5 rfl) ?_
        refine lv_iconst (v := 0) hx hb dL_law_1486 (by decide) ?_
        refine lld0 hx hb hkx hP 100 rfl dL_law_1487 ?_
        refine lv_iload hx hb dL_law_1488 (lv_at hl 0 rfl) ?_
        refine lv_i2l hx hb dL_law_1490 rfl ?_
        refine W.lcmp hx hb dL_law_1491 ?_
        rw [lg_self]
        refine lv_if_eq (tgt := 1497) hx hb dL_law_1492 (by decide) (fun c_3 => ?_) (fun c_3 => ?_)
        · replace c_3 := cn_eq (a := 0) (b := 0) (by omega) (by omega) c_3
          refine lv_goto (tgt := 2069) hx hb dL_law_1497 (by decide) ?_
          refine W.widen (k := cells + 3) (n := slots + 18) (by omega) (by omega) ?_
          exact hnext _ _ _ ⟨a, N, Z, b, M, Y, sc, tx, L, cu, er, le, nb, nc, mm, pp, 0, ac, ea, le2, v1, v2, v3, v4, v5, (Int32.toInt64 (nmb N Z (tn (xs ((6 * j) + 1))))), fd, hT, hX, hP, hD⟩ hS (lv_sub hl [2, 3, 4, 5, 6, 7] rfl)
        · replace c_3 := cn_ne (a := 0) (b := 0) (by omega) (by omega) c_3
          exact absurd c_3 (by decide)
    · replace c_1 := cn_ne (a := 0) (b := 0) (by omega) (by omega) c_1
      exact absurd c_1 (by decide)
  · obtain ⟨hP, hD⟩ := fr_hd hP hD hk1 hPc (List.Perm.refl _)
    have hc0 := (nz_A (le_wi _ _ _) hF (r_wi _ _ _).1)
    have hP : va_P G vwCl (((wMain T q a N Z b M Y sc tx L cu er le nb nc) ++ [(o, eL T fo)]) ++ ((wMod T r mm pp tx th sc L ac ea le2 v1 v2 v3 v4 v5) ++ [(d, eD T fd)])) H := hP
    have hD : va_D (lA s) (((wMain T q a N Z b M Y sc tx L cu er le nb nc) ++ [(o, eL T fo)]) ++ ((wMod T r mm pp tx th sc L ac ea le2 v1 v2 v3 v4 v5) ++ [(d, eD T fd)])) := hD
    refine W.eq (g2 := F0 m 1455 ls [.int (cmA (wiF (xs ((6 * j) + 1)) 0 7))]) rfl ?_
    refine lv_istore (lv' := [(6, .int (cmA (wiF (xs ((6 * j) + 1)) 0 7))), (0, .ref b0), (1, .ref (q 0)), (2, .ref (r 0)), (3, .ref o), (4, .ref d), (5, .int (nI (6 * j)))]) hx hb dL_law_1455 hl (by decide) rfl (fun ls hl => ?_)
    refine lv_aload_n hx hb dL_law_1457 rfl (lv_at hl 3 rfl) ?_
    refine lv_aload_n hx hb dL_law_1458 rfl (lv_at hl 1 rfl) ?_
    refine lv_iload hx hb dL_law_1459 (lv_at hl 6 rfl) ?_
    refine lv_iconst (v := 1) hx hb dL_law_1461 (by decide) ?_
    refine lv_iadd hx hb dL_law_1462 ?_
    rw [show ((nI (6 * j)) + 1) = (nI ((6 * j) + 1)) from nI_add (6 * j) 1]
    refine sld K hS ((6 * j) + 1) rfl (by omega) dL_law_1463 ?_
    refine mu_V S hkx (mX6_value l (T := T) (r := r) (N := N) (Z := Z) (mm := mm) (pp := pp) (xx := tx) (th := th) (sv := sc) (n1 := L) (ac := ac) (ea := ea) (le := le2) (v1 := v1) (v2 := v2) (v3 := v3) (v4 := v4) (v5 := v5) (w := (xs ((6 * j) + 1))) (hP := P_mid hP) (hD := (D_mid hD).weaken (fun _ _ _ _ => trivial)) (hwf := hT.1) (hr := hT.2.1)) gL_law_X6_value rfl idX6_value ⟨Nat.le_of_ble_eq_true rfl, Nat.le_of_ble_eq_true rfl⟩ hP 101 rfl rfl rfl rfl hl.1 rfl (Nat.le_of_ble_eq_true rfl) dL_law_1464 ⟨(by show cells + 1 ≤ 601024; omega), (by show slots + 6 ≤ 7293034; omega)⟩ hS (fr_in (D_mid hD) (fun q h => Nat.le_trans hS.1 h)) (fun v H locs hp9 hz1 hk1 hS => ?_)
    obtain ⟨z9, rfl, hp9⟩ := hp9
    have hPm := (hp9.resolve_left (fun h => hF h.1)).2
    obtain ⟨hP, hD⟩ := fr_mid hP hD hk1 hPm rfl
    have hP : va_P G vwCl (((wMain T q a N Z b M Y sc tx L cu er le nb nc) ++ [(o, eL T fo)]) ++ ((wMod T r mm pp tx (cmA (wiF (xs ((6 * j) + 1)) 0 7)) sc L ac ea le2 v1 v2 v3 v4 v5) ++ [(d, eD T fd)])) H := hP
    have hD : va_D (lA s) (((wMain T q a N Z b M Y sc tx L cu er le nb nc) ++ [(o, eL T fo)]) ++ ((wMod T r mm pp tx (cmA (wiF (xs ((6 * j) + 1)) 0 7)) sc L ac ea le2 v1 v2 v3 v4 v5) ++ [(d, eD T fd)])) := hD
    refine W.eq (g2 := F0 m 1467 ls [.int z9]) rfl ?_
    refine lv_istore (lv' := [(7, .int z9), (6, .int (cmA (wiF (xs ((6 * j) + 1)) 0 7))), (0, .ref b0), (1, .ref (q 0)), (2, .ref (r 0)), (3, .ref o), (4, .ref d), (5, .int (nI (6 * j)))]) hx hb dL_law_1467 hl (by decide) rfl (fun ls hl => ?_)
    refine lv_aload_n hx hb dL_law_1469 rfl (lv_at hl 4 rfl) ?_
    refine ro_V S hkx (mX6_thrown l (T := T) (r := r) (N := N) (Z := Z) (mm := mm) (pp := pp) (xx := tx) (th := (cmA (wiF (xs ((6 * j) + 1)) 0 7))) (sv := sc) (n1 := L) (ac := ac) (ea := ea) (le := le2) (v1 := v1) (v2 := v2) (v3 := v3) (v4 := v4) (v5 := v5) (hP := P_mid hP)) gL_law_X6_thrown rfl idX6_thrown ⟨Nat.le_of_ble_eq_true rfl, Nat.le_of_ble_eq_true rfl⟩ hP 101 rfl rfl rfl rfl hl.1 rfl (Nat.le_of_ble_eq_true rfl) dL_law_1470 ⟨(by show cells + 1 ≤ 601024; omega), (by show slots + 6 ≤ 7293034; omega)⟩ (fun r9 hr9 => ?_)
    subst hr9
    refine lv_iload hx hb dL_law_1473 (lv_at hl 1 rfl) ?_
    refine lv_icmp_eq (tgt := 1480) hx hb dL_law_1475 (by decide) (fun c_4 => ?_) (fun c_4 => ?_)
    · skip
      refine lv_iload hx hb dL_law_1480 (lv_at hl 1 rfl) ?_
      refine lv_if_ne (tgt := 1497) hx hb dL_law_1482 (by decide) (fun c_5 => ?_) (fun c_5 => ?_)
      · skip
        refine lv_goto (tgt := 2069) hx hb dL_law_1497 (by decide) ?_
        refine W.widen (k := cells + 3) (n := slots + 18) (by omega) (by omega) ?_
        exact hnext _ _ _ ⟨a, N, Z, b, M, Y, sc, tx, L, cu, er, le, nb, nc, mm, pp, (cmA (wiF (xs ((6 * j) + 1)) 0 7)), ac, ea, le2, v1, v2, v3, v4, v5, fo, fd, hT, hX, hP, hD⟩ hS (lv_sub hl [2, 3, 4, 5, 6, 7] rfl)
      · skip
        exact absurd c_5 hc0
    · skip
      exact absurd rfl c_4

set_option maxHeartbeats 4000000 in
set_option maxRecDepth 100000 in
theorem law_firstStranded (l : Launch) (hl0 : l.stackTraces = false) {G : va_G} {T : Nat → ClassId} {sa kk vv : Nat → Nat} {p : Program} {e : Env} {s : State} {m : MethodId} {below : List Frame} {meth : Method} {c : Code} {Q : State → Prop} {b0 LL : Nat} {xs : Nat → Int32} {q r : Nat → Nat} {o d : Nat} {a N : Nat → Nat} {Z : Nat → Nat → Int32} {b M : Nat → Nat → Nat} {Y : Nat → Nat → Nat → Int32} {sc : Nat} {tx : Nat → Int32} {L cu : Nat} {er le : Int32} {nb : Nat → Int32} {nc : Nat} {mm pp : Nat → Int32} {th ac ea le2 v1 v2 v3 v4 v5 : Int32} {fo : Int64} {fd : UInt64} {H : Heap} {locs : List Loc} {cells slots j : Nat} {ls : Array Slot} (K : LK G T sa kk vv p s m c b0 LL xs) (hl : lv_has ls 9 [(0, .ref b0), (1, .ref (q 0)), (2, .ref (r 0)), (3, .ref o), (4, .ref d), (5, .int (nI (6 * j)))]) (hj : 6 * j + 5 < LL) (hcs : cells + 3 ≤ 601024) (hss : slots + 18 ≤ 7293034) (hS : va_S (lA s) s.heap H locs) (hT : tie N Z mm M Y pp sc) (hX : txo tx L) (hP : va_P G vwCl (wL T q a N Z b M Y sc tx L cu er le nb nc r mm pp th ac ea le2 v1 v2 v3 v4 v5 o d fo fd) H) (hD : va_D (lA s) (wL T q a N Z b M Y sc tx L cu er le nb nc r mm pp th ac ea le2 v1 v2 v3 v4 v5 o d fo fd)) (hnext : ∀ (H : Heap) (locs : List Loc) (ls : Array Slot), inv G T q r o d (lA s) H → va_S (lA s) s.heap H locs → lv_has ls 9 [(0, .ref b0), (1, .ref (q 0)), (2, .ref (r 0)), (3, .ref o), (4, .ref d), (5, .int (nI (6 * j)))] → W p l e room_1 s m ([.ref b0] : List Value).toArray below meth c H locs (cells + 3) (slots + 18) Q (F0 m 2069 ls [])) : W p l e room_1 s m ([.ref b0] : List Value).toArray below meth c H locs cells slots Q (F0 m 1500 ls []) := by
  obtain ⟨S, hkx, -, hnc, -⟩ := id K
  have hx := S.1
  have hb := S.2.1
  have h9 := K.2.2.2.2.2.2.2
  have hX1 := hX.1
  have hP : va_P G vwCl (((wMain T q a N Z b M Y sc tx L cu er le nb nc) ++ [(o, eL T fo)]) ++ ((wMod T r mm pp tx th sc L ac ea le2 v1 v2 v3 v4 v5) ++ [(d, eD T fd)])) H := hP
  have hD : va_D (lA s) (((wMain T q a N Z b M Y sc tx L cu er le nb nc) ++ [(o, eL T fo)]) ++ ((wMod T r mm pp tx th sc L ac ea le2 v1 v2 v3 v4 v5) ++ [(d, eD T fd)])) := hD
  refine lv_aload_n hx hb dL_law_1500 rfl (lv_at hl 1 rfl) ?_
  refine lv_aload_n hx hb dL_law_1501 rfl (lv_at hl 0 rfl) ?_
  refine lv_iload hx hb dL_law_1502 (lv_at hl 5 rfl) ?_
  refine lv_iconst (v := 1) hx hb dL_law_1504 (by decide) ?_
  refine lv_iadd hx hb dL_law_1505 ?_
  rw [show ((nI (6 * j)) + 1) = (nI ((6 * j) + 1)) from nI_add (6 * j) 1]
  refine sld K hS ((6 * j) + 1) rfl (by omega) dL_law_1506 ?_
  refine lv_aload_n hx hb dL_law_1507 rfl (lv_at hl 0 rfl) ?_
  refine lv_iload hx hb dL_law_1508 (lv_at hl 5 rfl) ?_
  refine lv_iconst (v := 2) hx hb dL_law_1510 (by decide) ?_
  refine lv_iadd hx hb dL_law_1511 ?_
  rw [show ((nI (6 * j)) + 2) = (nI ((6 * j) + 2)) from nI_add (6 * j) 2]
  refine sld K hS ((6 * j) + 2) rfl (by omega) dL_law_1512 ?_
  refine lv_aload_n hx hb dL_law_1513 rfl (lv_at hl 3 rfl) ?_
  refine lw_S S hkx (K.2.2.1.kept hS.2.1) hnc (mL_firstStranded l hl0 (sa := sa) (A9 := lA s) (q := q) (a := a) (N := N) (Z := Z) (b := b) (M := M) (Y := Y) (sc := sc) (tx := tx) (L := L) (cu := cu) (er := er) (le := le) (nb := nb) (nc := nc) (u := (xs ((6 * j) + 1))) (d := (xs ((6 * j) + 2))) (o := o) (fo := fo) (hP := P_hd hP) (hD := (D_hd hD).weaken (fun _ _ _ _ => trivial)) (h9 := (fun q h => Nat.le_trans hS.1 h)) (hwf := hT.1)) gL_law_L_firstStranded rfl idL_firstStranded ⟨Nat.le_of_ble_eq_true rfl, Nat.le_of_ble_eq_true rfl⟩ rfl hl.1 rfl (Nat.le_of_ble_eq_true rfl) dL_law_1514 ⟨(by show cells + 2 ≤ 601024; omega), (by show slots + 12 ≤ 7293034; omega)⟩ hS (fr_in (D_hd hD) (fun q h => Nat.le_trans hS.1 h)) (fun v H locs hp9 hz1 hk1 hS => ?_)
  rcases hp9 with ⟨hF, rfl, hPc⟩ | ⟨hF, rfl, hPc⟩
  · obtain ⟨hP, hD⟩ := fr_hd hP hD hk1 hPc (addr_snoc (List.Perm.refl _))
    have hP : va_P G vwCl (((wMain T q a N Z b M Y sc tx L cu er le nb nc) ++ [(o, eL T (Int32.toInt64 (fstD (uuB N Z (tn (xs ((6 * j) + 1)))) (tn (xs ((6 * j) + 2))) (1000 - tn (xs ((6 * j) + 2))))))]) ++ ((wMod T r mm pp tx th sc L ac ea le2 v1 v2 v3 v4 v5) ++ [(d, eD T fd)])) H := hP
    have hD : va_D (lA s) (((wMain T q a N Z b M Y sc tx L cu er le nb nc) ++ [(o, eL T (Int32.toInt64 (fstD (uuB N Z (tn (xs ((6 * j) + 1)))) (tn (xs ((6 * j) + 2))) (1000 - tn (xs ((6 * j) + 2))))))]) ++ ((wMod T r mm pp tx th sc L ac ea le2 v1 v2 v3 v4 v5) ++ [(d, eD T fd)])) := hD
    refine W.eq (g2 := F0 m 1517 ls [.int 0]) rfl ?_
    refine lv_istore (lv' := [(6, .int 0), (0, .ref b0), (1, .ref (q 0)), (2, .ref (r 0)), (3, .ref o), (4, .ref d), (5, .int (nI (6 * j)))]) hx hb dL_law_1517 hl (by decide) rfl (fun ls hl => ?_)
    refine lv_aload_n hx hb dL_law_1519 rfl (lv_at hl 3 rfl) ?_
    refine lv_aload_n hx hb dL_law_1520 rfl (lv_at hl 1 rfl) ?_
    refine lv_iload hx hb dL_law_1521 (lv_at hl 6 rfl) ?_
    refine lv_iconst (v := 1) hx hb dL_law_1523 (by decide) ?_
    refine lv_iadd hx hb dL_law_1524 ?_
    rw [show ((nI (6 * j)) + 1) = (nI ((6 * j) + 1)) from nI_add (6 * j) 1]
    refine sld K hS ((6 * j) + 1) rfl (by omega) dL_law_1525 ?_
    refine lv_aload_n hx hb dL_law_1526 rfl (lv_at hl 1 rfl) ?_
    refine lv_iload hx hb dL_law_1527 (lv_at hl 6 rfl) ?_
    refine lv_iconst (v := 2) hx hb dL_law_1529 (by decide) ?_
    refine lv_iadd hx hb dL_law_1530 ?_
    rw [show ((nI (6 * j)) + 2) = (nI ((6 * j) + 2)) from nI_add (6 * j) 2]
    refine sld K hS ((6 * j) + 2) rfl (by omega) dL_law_1531 ?_
    refine mu_V S hkx (mX6_firstStranded l (T := T) (r := r) (N := N) (Z := Z) (mm := mm) (pp := pp) (xx := tx) (th := th) (sv := sc) (n1 := L) (ac := ac) (ea := ea) (le := le2) (v1 := v1) (v2 := v2) (v3 := v3) (v4 := v4) (v5 := v5) (u := (xs ((6 * j) + 1))) (d := (xs ((6 * j) + 2))) (hP := P_mid hP) (hD := (D_mid hD).weaken (fun _ _ _ _ => trivial)) (hwf := hT.1) (hr := hT.2.1)) gL_law_X6_firstStranded rfl idX6_firstStranded ⟨Nat.le_of_ble_eq_true rfl, Nat.le_of_ble_eq_true rfl⟩ hP 101 rfl rfl rfl rfl hl.1 rfl (Nat.le_of_ble_eq_true rfl) dL_law_1532 ⟨(by show cells + 2 ≤ 601024; omega), (by show slots + 12 ≤ 7293034; omega)⟩ hS (fr_in (D_mid hD) (fun q h => Nat.le_trans hS.1 h)) (fun v H locs hp9 hz1 hk1 hS => ?_)
    obtain ⟨z9, rfl, hp9⟩ := hp9
    obtain ⟨-, rfl, hPm⟩ := hp9.resolve_right (fun h => h.1 hF)
    obtain ⟨hP, hD⟩ := fr_mid hP hD hk1 hPm rfl
    have hP : va_P G vwCl (((wMain T q a N Z b M Y sc tx L cu er le nb nc) ++ [(o, eL T (Int32.toInt64 (fstD (uuB N Z (tn (xs ((6 * j) + 1)))) (tn (xs ((6 * j) + 2))) (1000 - tn (xs ((6 * j) + 2))))))]) ++ ((wMod T r mm pp tx 0 sc L ac ea le2 v1 v2 v3 v4 v5) ++ [(d, eD T fd)])) H := hP
    have hD : va_D (lA s) (((wMain T q a N Z b M Y sc tx L cu er le nb nc) ++ [(o, eL T (Int32.toInt64 (fstD (uuB N Z (tn (xs ((6 * j) + 1)))) (tn (xs ((6 * j) + 2))) (1000 - tn (xs ((6 * j) + 2))))))]) ++ ((wMod T r mm pp tx 0 sc L ac ea le2 v1 v2 v3 v4 v5) ++ [(d, eD T fd)])) := hD
    refine W.eq (g2 := F0 m 1535 ls [.int (fstD (uuB N Z (tn (xs ((6 * j) + 1)))) (tn (xs ((6 * j) + 2))) (1000 - tn (xs ((6 * j) + 2))))]) rfl ?_
    refine lv_istore (lv' := [(7, .int (fstD (uuB N Z (tn (xs ((6 * j) + 1)))) (tn (xs ((6 * j) + 2))) (1000 - tn (xs ((6 * j) + 2))))), (6, .int 0), (0, .ref b0), (1, .ref (q 0)), (2, .ref (r 0)), (3, .ref o), (4, .ref d), (5, .int (nI (6 * j)))]) hx hb dL_law_1535 hl (by decide) rfl (fun ls hl => ?_)
    refine lv_aload_n hx hb dL_law_1537 rfl (lv_at hl 4 rfl) ?_
    refine ro_V S hkx (mX6_thrown l (T := T) (r := r) (N := N) (Z := Z) (mm := mm) (pp := pp) (xx := tx) (th := 0) (sv := sc) (n1 := L) (ac := ac) (ea := ea) (le := le2) (v1 := v1) (v2 := v2) (v3 := v3) (v4 := v4) (v5 := v5) (hP := P_mid hP)) gL_law_X6_thrown rfl idX6_thrown ⟨Nat.le_of_ble_eq_true rfl, Nat.le_of_ble_eq_true rfl⟩ hP 101 rfl rfl rfl rfl hl.1 rfl (Nat.le_of_ble_eq_true rfl) dL_law_1538 ⟨(by show cells + 2 ≤ 601024; omega), (by show slots + 12 ≤ 7293034; omega)⟩ (fun r9 hr9 => ?_)
    subst hr9
    refine lv_iload hx hb dL_law_1541 (lv_at hl 1 rfl) ?_
    refine lv_icmp_eq (tgt := 1548) hx hb dL_law_1543 (by decide) (fun c_1 => ?_) (fun c_1 => ?_)
    · replace c_1 := cn_eq (a := 0) (b := 0) (by omega) (by omega) c_1
      refine lv_iload hx hb dL_law_1548 (lv_at hl 1 rfl) ?_
      refine lv_if_ne (tgt := 1565) hx hb dL_law_1550 (by decide) (fun c_2 => ?_) (fun c_2 => ?_)
      · replace c_2 := cn_ne (a := 0) (b := 0) (by omega) (by omega) c_2
        exact absurd c_2 (by decide)
      · replace c_2 := cn_eq (a := 0) (b := 0) (by omega) (by omega) c_2
        refine lv_aload_n hx hb dL_law_1553 rfl (lv_at hl 5 rfl) ?_
        refine lv_iconst (v := 0) hx hb dL_law_1554 (by decide) ?_
        refine lld0 hx hb hkx hP 100 rfl dL_law_1555 ?_
        refine lv_iload hx hb dL_law_1556 (lv_at hl 0 rfl) ?_
        refine lv_i2l hx hb dL_law_1558 rfl ?_
        refine W.lcmp hx hb dL_law_1559 ?_
        rw [lg_self]
        refine lv_if_eq (tgt := 1565) hx hb dL_law_1560 (by decide) (fun c_3 => ?_) (fun c_3 => ?_)
        · replace c_3 := cn_eq (a := 0) (b := 0) (by omega) (by omega) c_3
          refine lv_goto (tgt := 2069) hx hb dL_law_1565 (by decide) ?_
          refine W.widen (k := cells + 3) (n := slots + 18) (by omega) (by omega) ?_
          exact hnext _ _ _ ⟨a, N, Z, b, M, Y, sc, tx, L, cu, er, le, nb, nc, mm, pp, 0, ac, ea, le2, v1, v2, v3, v4, v5, (Int32.toInt64 (fstD (uuB N Z (tn (xs ((6 * j) + 1)))) (tn (xs ((6 * j) + 2))) (1000 - tn (xs ((6 * j) + 2))))), fd, hT, hX, hP, hD⟩ hS (lv_sub hl [2, 3, 4, 5, 6, 7] rfl)
        · replace c_3 := cn_ne (a := 0) (b := 0) (by omega) (by omega) c_3
          exact absurd c_3 (by decide)
    · replace c_1 := cn_ne (a := 0) (b := 0) (by omega) (by omega) c_1
      exact absurd c_1 (by decide)
  · obtain ⟨hP, hD⟩ := fr_hd hP hD hk1 hPc (List.Perm.refl _)
    have hc0 := (nz_I (le_sq (le_th _ _) (le_wi _ _ _)) hF)
    have hP : va_P G vwCl (((wMain T q a N Z b M Y sc tx L cu er le nb nc) ++ [(o, eL T fo)]) ++ ((wMod T r mm pp tx th sc L ac ea le2 v1 v2 v3 v4 v5) ++ [(d, eD T fd)])) H := hP
    have hD : va_D (lA s) (((wMain T q a N Z b M Y sc tx L cu er le nb nc) ++ [(o, eL T fo)]) ++ ((wMod T r mm pp tx th sc L ac ea le2 v1 v2 v3 v4 v5) ++ [(d, eD T fd)])) := hD
    refine W.eq (g2 := F0 m 1517 ls [.int (cmI (sq (thF (xs ((6 * j) + 1)) (nI (N 2))) (dyF (xs ((6 * j) + 2)))))]) rfl ?_
    refine lv_istore (lv' := [(6, .int (cmI (sq (thF (xs ((6 * j) + 1)) (nI (N 2))) (dyF (xs ((6 * j) + 2)))))), (0, .ref b0), (1, .ref (q 0)), (2, .ref (r 0)), (3, .ref o), (4, .ref d), (5, .int (nI (6 * j)))]) hx hb dL_law_1517 hl (by decide) rfl (fun ls hl => ?_)
    refine lv_aload_n hx hb dL_law_1519 rfl (lv_at hl 3 rfl) ?_
    refine lv_aload_n hx hb dL_law_1520 rfl (lv_at hl 1 rfl) ?_
    refine lv_iload hx hb dL_law_1521 (lv_at hl 6 rfl) ?_
    refine lv_iconst (v := 1) hx hb dL_law_1523 (by decide) ?_
    refine lv_iadd hx hb dL_law_1524 ?_
    rw [show ((nI (6 * j)) + 1) = (nI ((6 * j) + 1)) from nI_add (6 * j) 1]
    refine sld K hS ((6 * j) + 1) rfl (by omega) dL_law_1525 ?_
    refine lv_aload_n hx hb dL_law_1526 rfl (lv_at hl 1 rfl) ?_
    refine lv_iload hx hb dL_law_1527 (lv_at hl 6 rfl) ?_
    refine lv_iconst (v := 2) hx hb dL_law_1529 (by decide) ?_
    refine lv_iadd hx hb dL_law_1530 ?_
    rw [show ((nI (6 * j)) + 2) = (nI ((6 * j) + 2)) from nI_add (6 * j) 2]
    refine sld K hS ((6 * j) + 2) rfl (by omega) dL_law_1531 ?_
    refine mu_V S hkx (mX6_firstStranded l (T := T) (r := r) (N := N) (Z := Z) (mm := mm) (pp := pp) (xx := tx) (th := th) (sv := sc) (n1 := L) (ac := ac) (ea := ea) (le := le2) (v1 := v1) (v2 := v2) (v3 := v3) (v4 := v4) (v5 := v5) (u := (xs ((6 * j) + 1))) (d := (xs ((6 * j) + 2))) (hP := P_mid hP) (hD := (D_mid hD).weaken (fun _ _ _ _ => trivial)) (hwf := hT.1) (hr := hT.2.1)) gL_law_X6_firstStranded rfl idX6_firstStranded ⟨Nat.le_of_ble_eq_true rfl, Nat.le_of_ble_eq_true rfl⟩ hP 101 rfl rfl rfl rfl hl.1 rfl (Nat.le_of_ble_eq_true rfl) dL_law_1532 ⟨(by show cells + 2 ≤ 601024; omega), (by show slots + 12 ≤ 7293034; omega)⟩ hS (fr_in (D_mid hD) (fun q h => Nat.le_trans hS.1 h)) (fun v H locs hp9 hz1 hk1 hS => ?_)
    obtain ⟨z9, rfl, hp9⟩ := hp9
    have hPm := (hp9.resolve_left (fun h => hF h.1)).2
    obtain ⟨hP, hD⟩ := fr_mid hP hD hk1 hPm rfl
    have hP : va_P G vwCl (((wMain T q a N Z b M Y sc tx L cu er le nb nc) ++ [(o, eL T fo)]) ++ ((wMod T r mm pp tx (cmI (sq (thF (xs ((6 * j) + 1)) (nI (N 2))) (dyF (xs ((6 * j) + 2))))) sc L ac ea le2 v1 v2 v3 v4 v5) ++ [(d, eD T fd)])) H := hP
    have hD : va_D (lA s) (((wMain T q a N Z b M Y sc tx L cu er le nb nc) ++ [(o, eL T fo)]) ++ ((wMod T r mm pp tx (cmI (sq (thF (xs ((6 * j) + 1)) (nI (N 2))) (dyF (xs ((6 * j) + 2))))) sc L ac ea le2 v1 v2 v3 v4 v5) ++ [(d, eD T fd)])) := hD
    refine W.eq (g2 := F0 m 1535 ls [.int z9]) rfl ?_
    refine lv_istore (lv' := [(7, .int z9), (6, .int (cmI (sq (thF (xs ((6 * j) + 1)) (nI (N 2))) (dyF (xs ((6 * j) + 2)))))), (0, .ref b0), (1, .ref (q 0)), (2, .ref (r 0)), (3, .ref o), (4, .ref d), (5, .int (nI (6 * j)))]) hx hb dL_law_1535 hl (by decide) rfl (fun ls hl => ?_)
    refine lv_aload_n hx hb dL_law_1537 rfl (lv_at hl 4 rfl) ?_
    refine ro_V S hkx (mX6_thrown l (T := T) (r := r) (N := N) (Z := Z) (mm := mm) (pp := pp) (xx := tx) (th := (cmI (sq (thF (xs ((6 * j) + 1)) (nI (N 2))) (dyF (xs ((6 * j) + 2)))))) (sv := sc) (n1 := L) (ac := ac) (ea := ea) (le := le2) (v1 := v1) (v2 := v2) (v3 := v3) (v4 := v4) (v5 := v5) (hP := P_mid hP)) gL_law_X6_thrown rfl idX6_thrown ⟨Nat.le_of_ble_eq_true rfl, Nat.le_of_ble_eq_true rfl⟩ hP 101 rfl rfl rfl rfl hl.1 rfl (Nat.le_of_ble_eq_true rfl) dL_law_1538 ⟨(by show cells + 2 ≤ 601024; omega), (by show slots + 12 ≤ 7293034; omega)⟩ (fun r9 hr9 => ?_)
    subst hr9
    refine lv_iload hx hb dL_law_1541 (lv_at hl 1 rfl) ?_
    refine lv_icmp_eq (tgt := 1548) hx hb dL_law_1543 (by decide) (fun c_4 => ?_) (fun c_4 => ?_)
    · skip
      refine lv_iload hx hb dL_law_1548 (lv_at hl 1 rfl) ?_
      refine lv_if_ne (tgt := 1565) hx hb dL_law_1550 (by decide) (fun c_5 => ?_) (fun c_5 => ?_)
      · skip
        refine lv_goto (tgt := 2069) hx hb dL_law_1565 (by decide) ?_
        refine W.widen (k := cells + 3) (n := slots + 18) (by omega) (by omega) ?_
        exact hnext _ _ _ ⟨a, N, Z, b, M, Y, sc, tx, L, cu, er, le, nb, nc, mm, pp, (cmI (sq (thF (xs ((6 * j) + 1)) (nI (N 2))) (dyF (xs ((6 * j) + 2))))), ac, ea, le2, v1, v2, v3, v4, v5, fo, fd, hT, hX, hP, hD⟩ hS (lv_sub hl [2, 3, 4, 5, 6, 7] rfl)
      · skip
        exact absurd c_5 hc0
    · skip
      exact absurd rfl c_4
