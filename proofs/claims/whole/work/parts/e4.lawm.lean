set_option maxHeartbeats 4000000 in
set_option maxRecDepth 100000 in
theorem law_addVersion (l : Launch) (hl0 : l.stackTraces = false) {G : va_G} {T : Nat → ClassId} {sa kk vv : Nat → Nat} {p : Program} {e : Env} {s : State} {m : MethodId} {below : List Frame} {meth : Method} {c : Code} {Q : State → Prop} {b0 LL : Nat} {xs : Nat → Int32} {q r : Nat → Nat} {o d : Nat} {a N : Nat → Nat} {Z : Nat → Nat → Int32} {b M : Nat → Nat → Nat} {Y : Nat → Nat → Nat → Int32} {sc : Nat} {tx : Nat → Int32} {L cu : Nat} {er le : Int32} {nb : Nat → Int32} {nc : Nat} {mm pp : Nat → Int32} {th ac ea le2 v1 v2 v3 v4 v5 : Int32} {fo : Int64} {fd : UInt64} {H : Heap} {locs : List Loc} {cells slots j : Nat} {ls : Array Slot} (K : LK G T sa kk vv p s m c b0 LL xs) (hl : lv_has ls 9 [(0, .ref b0), (1, .ref (q 0)), (2, .ref (r 0)), (3, .ref o), (4, .ref d), (5, .int (nI (6 * j)))]) (hj : 6 * j + 5 < LL) (hcs : cells + 3 ≤ 601024) (hss : slots + 18 ≤ 7293034) (hS : va_S (lA s) s.heap H locs) (hT : tie N Z mm M Y pp sc) (hX : txo tx L) (hP : va_P G vwCl (wL T q a N Z b M Y sc tx L cu er le nb nc r mm pp th ac ea le2 v1 v2 v3 v4 v5 o d fo fd) H) (hD : va_D (lA s) (wL T q a N Z b M Y sc tx L cu er le nb nc r mm pp th ac ea le2 v1 v2 v3 v4 v5 o d fo fd)) (hnext : ∀ (H : Heap) (locs : List Loc) (ls : Array Slot), inv G T q r o d (lA s) H → va_S (lA s) s.heap H locs → lv_has ls 9 [(0, .ref b0), (1, .ref (q 0)), (2, .ref (r 0)), (3, .ref o), (4, .ref d), (5, .int (nI (6 * j)))] → W p l e room_1 s m ([.ref b0] : List Value).toArray below meth c H locs (cells + 3) (slots + 18) Q (F0 m 2069 ls [])) : W p l e room_1 s m ([.ref b0] : List Value).toArray below meth c H locs cells slots Q (F0 m 180 ls []) := by
  obtain ⟨S, hkx, -, hnc, -⟩ := id K
  have hx := S.1
  have hb := S.2.1
  have h9 := K.2.2.2.2.2.2.2
  have hX1 := hX.1
  have hP : va_P G vwCl (((wMain T q a N Z b M Y sc tx L cu er le nb nc) ++ [(o, eL T fo)]) ++ ((wMod T r mm pp tx th sc L ac ea le2 v1 v2 v3 v4 v5) ++ [(d, eD T fd)])) H := hP
  have hD : va_D (lA s) (((wMain T q a N Z b M Y sc tx L cu er le nb nc) ++ [(o, eL T fo)]) ++ ((wMod T r mm pp tx th sc L ac ea le2 v1 v2 v3 v4 v5) ++ [(d, eD T fd)])) := hD
  refine lv_aload_n hx hb dL_law_180 rfl (lv_at hl 1 rfl) ?_
  refine lv_aload_n hx hb dL_law_181 rfl (lv_at hl 0 rfl) ?_
  refine lv_iload hx hb dL_law_182 (lv_at hl 5 rfl) ?_
  refine lv_iconst (v := 1) hx hb dL_law_184 (by decide) ?_
  refine lv_iadd hx hb dL_law_185 ?_
  rw [show ((nI (6 * j)) + 1) = (nI ((6 * j) + 1)) from nI_add (6 * j) 1]
  refine sld K hS ((6 * j) + 1) rfl (by omega) dL_law_186 ?_
  refine lv_aload_n hx hb dL_law_187 rfl (lv_at hl 0 rfl) ?_
  refine lv_iload hx hb dL_law_188 (lv_at hl 5 rfl) ?_
  refine lv_iconst (v := 2) hx hb dL_law_190 (by decide) ?_
  refine lv_iadd hx hb dL_law_191 ?_
  rw [show ((nI (6 * j)) + 2) = (nI ((6 * j) + 2)) from nI_add (6 * j) 2]
  refine sld K hS ((6 * j) + 2) rfl (by omega) dL_law_192 ?_
  refine lv_aload_n hx hb dL_law_193 rfl (lv_at hl 3 rfl) ?_
  refine lw_S S hkx (K.2.2.1.kept hS.2.1) hnc (mL_addVersion l hl0 (sa := sa) (A9 := lA s) (q := q) (a := a) (N := N) (Z := Z) (b := b) (M := M) (Y := Y) (sc := sc) (tx := tx) (L := L) (cu := cu) (er := er) (le := le) (nb := nb) (nc := nc) (x := (xs ((6 * j) + 1))) (z := (xs ((6 * j) + 2))) (o := o) (fo := fo) (hP := P_hd hP) (hD := (D_hd hD).weaken (fun _ _ _ _ => trivial)) (h9 := (fun q h => Nat.le_trans hS.1 h)) (hwf := hT.1) (hsc := hT.2.2.2)) gL_law_L_addVersion rfl idL_addVersion ⟨Nat.le_of_ble_eq_true rfl, Nat.le_of_ble_eq_true rfl⟩ rfl hl.1 rfl (Nat.le_of_ble_eq_true rfl) dL_law_194 ⟨(by show cells + 3 ≤ 601024; omega), (by show slots + 18 ≤ 7293034; omega)⟩ hS (fr_in (D_hd hD) (fun q h => Nat.le_trans hS.1 h)) (fun v H locs hp9 hz1 hk1 hS => ?_)
  rcases hp9 with ⟨hF, rfl, hPc⟩ | ⟨hF, rfl, hPc⟩
  · obtain ⟨hP, hD⟩ := fr_hd hP hD hk1 hPc (addr_snoc sv_addr)
    have hP : va_P G vwCl (((wMain T q a (va_up N 0 (N 0 + 1)) (vAdd N Z (xs ((6 * j) + 1)) (xs ((6 * j) + 2))) (svB sc b) (psh sc M N) (psh sc Y Z) (svC sc) tx L cu er le nb nc) ++ [(o, eL T (Int32.toInt64 (nI (N 0))))]) ++ ((wMod T r mm pp tx th sc L ac ea le2 v1 v2 v3 v4 v5) ++ [(d, eD T fd)])) H := hP
    have hD : va_D (lA s) (((wMain T q a (va_up N 0 (N 0 + 1)) (vAdd N Z (xs ((6 * j) + 1)) (xs ((6 * j) + 2))) (svB sc b) (psh sc M N) (psh sc Y Z) (svC sc) tx L cu er le nb nc) ++ [(o, eL T (Int32.toInt64 (nI (N 0))))]) ++ ((wMod T r mm pp tx th sc L ac ea le2 v1 v2 v3 v4 v5) ++ [(d, eD T fd)])) := hD
    refine W.eq (g2 := F0 m 197 ls [.int 0]) rfl ?_
    refine lv_istore (lv' := [(6, .int 0), (0, .ref b0), (1, .ref (q 0)), (2, .ref (r 0)), (3, .ref o), (4, .ref d), (5, .int (nI (6 * j)))]) hx hb dL_law_197 hl (by decide) rfl (fun ls hl => ?_)
    refine lv_aload_n hx hb dL_law_199 rfl (lv_at hl 3 rfl) ?_
    refine lv_aload_n hx hb dL_law_200 rfl (lv_at hl 1 rfl) ?_
    refine lv_iload hx hb dL_law_201 (lv_at hl 6 rfl) ?_
    refine lv_iconst (v := 1) hx hb dL_law_203 (by decide) ?_
    refine lv_iadd hx hb dL_law_204 ?_
    rw [show ((nI (6 * j)) + 1) = (nI ((6 * j) + 1)) from nI_add (6 * j) 1]
    refine sld K hS ((6 * j) + 1) rfl (by omega) dL_law_205 ?_
    refine lv_aload_n hx hb dL_law_206 rfl (lv_at hl 1 rfl) ?_
    refine lv_iload hx hb dL_law_207 (lv_at hl 6 rfl) ?_
    refine lv_iconst (v := 2) hx hb dL_law_209 (by decide) ?_
    refine lv_iadd hx hb dL_law_210 ?_
    rw [show ((nI (6 * j)) + 2) = (nI ((6 * j) + 2)) from nI_add (6 * j) 2]
    refine sld K hS ((6 * j) + 2) rfl (by omega) dL_law_211 ?_
    refine mu_V S hkx (mX6_addVersion l (T := T) (r := r) (N := N) (Z := Z) (mm := mm) (pp := pp) (xx := tx) (th := th) (sv := sc) (n1 := L) (ac := ac) (ea := ea) (le := le2) (v1 := v1) (v2 := v2) (v3 := v3) (v4 := v4) (v5 := v5) (x := (xs ((6 * j) + 1))) (z := (xs ((6 * j) + 2))) (hP := P_mid hP) (hD := (D_mid hD).weaken (fun _ _ _ _ => trivial)) (hwf := hT.1) (hr := hT.2.1) (hs4 := hT.2.2.2)) gL_law_X6_addVersion rfl idX6_addVersion ⟨Nat.le_of_ble_eq_true rfl, Nat.le_of_ble_eq_true rfl⟩ hP 101 rfl rfl rfl rfl hl.1 rfl (Nat.le_of_ble_eq_true rfl) dL_law_212 ⟨(by show cells + 3 ≤ 601024; omega), (by show slots + 18 ≤ 7293034; omega)⟩ hS (fr_in (D_mid hD) (fun q h => Nat.le_trans hS.1 h)) (fun v H locs hp9 hz1 hk1 hS => ?_)
    obtain ⟨z9, rfl, hp9⟩ := hp9
    obtain ⟨-, rfl, hPm⟩ := hp9.resolve_right (fun h => h.1 hF)
    obtain ⟨hP, hD⟩ := fr_mid hP hD hk1 hPm rfl
    have hP : va_P G vwCl (((wMain T q a (va_up N 0 (N 0 + 1)) (vAdd N Z (xs ((6 * j) + 1)) (xs ((6 * j) + 2))) (svB sc b) (psh sc M N) (psh sc Y Z) (svC sc) tx L cu er le nb nc) ++ [(o, eL T (Int32.toInt64 (nI (N 0))))]) ++ ((wMod T r (mAV mm (N 0) (xs ((6 * j) + 1)) (xs ((6 * j) + 2))) (svP sc pp mm) tx 0 (svC sc) L ac ea le2 v1 v2 v3 v4 v5) ++ [(d, eD T fd)])) H := hP
    have hD : va_D (lA s) (((wMain T q a (va_up N 0 (N 0 + 1)) (vAdd N Z (xs ((6 * j) + 1)) (xs ((6 * j) + 2))) (svB sc b) (psh sc M N) (psh sc Y Z) (svC sc) tx L cu er le nb nc) ++ [(o, eL T (Int32.toInt64 (nI (N 0))))]) ++ ((wMod T r (mAV mm (N 0) (xs ((6 * j) + 1)) (xs ((6 * j) + 2))) (svP sc pp mm) tx 0 (svC sc) L ac ea le2 v1 v2 v3 v4 v5) ++ [(d, eD T fd)])) := hD
    refine W.eq (g2 := F0 m 215 ls [.int (nI (N 0))]) rfl ?_
    refine lv_istore (lv' := [(7, .int (nI (N 0))), (6, .int 0), (0, .ref b0), (1, .ref (q 0)), (2, .ref (r 0)), (3, .ref o), (4, .ref d), (5, .int (nI (6 * j)))]) hx hb dL_law_215 hl (by decide) rfl (fun ls hl => ?_)
    refine lv_aload_n hx hb dL_law_217 rfl (lv_at hl 4 rfl) ?_
    refine ro_V S hkx (mX6_thrown l (T := T) (r := r) (N := N) (Z := Z) (mm := (mAV mm (N 0) (xs ((6 * j) + 1)) (xs ((6 * j) + 2)))) (pp := (svP sc pp mm)) (xx := tx) (th := 0) (sv := (svC sc)) (n1 := L) (ac := ac) (ea := ea) (le := le2) (v1 := v1) (v2 := v2) (v3 := v3) (v4 := v4) (v5 := v5) (hP := P_mid hP)) gL_law_X6_thrown rfl idX6_thrown ⟨Nat.le_of_ble_eq_true rfl, Nat.le_of_ble_eq_true rfl⟩ hP 101 rfl rfl rfl rfl hl.1 rfl (Nat.le_of_ble_eq_true rfl) dL_law_218 ⟨(by show cells + 3 ≤ 601024; omega), (by show slots + 18 ≤ 7293034; omega)⟩ (fun r9 hr9 => ?_)
    subst hr9
    refine lv_iload hx hb dL_law_221 (lv_at hl 1 rfl) ?_
    refine lv_icmp_eq (tgt := 228) hx hb dL_law_223 (by decide) (fun c_1 => ?_) (fun c_1 => ?_)
    · replace c_1 := cn_eq (a := 0) (b := 0) (by omega) (by omega) c_1
      refine lv_iload hx hb dL_law_228 (lv_at hl 1 rfl) ?_
      refine lv_if_ne (tgt := 245) hx hb dL_law_230 (by decide) (fun c_2 => ?_) (fun c_2 => ?_)
      · replace c_2 := cn_ne (a := 0) (b := 0) (by omega) (by omega) c_2
        exact absurd c_2 (by decide)
      · replace c_2 := cn_eq (a := 0) (b := 0) (by omega) (by omega) c_2
        refine lv_aload_n hx hb dL_law_233 rfl (lv_at hl 5 rfl) ?_
        refine lv_iconst (v := 0) hx hb dL_law_234 (by decide) ?_
        refine lld0 hx hb hkx hP 100 rfl dL_law_235 ?_
        refine lv_iload hx hb dL_law_236 (lv_at hl 0 rfl) ?_
        refine lv_i2l hx hb dL_law_238 rfl ?_
        refine W.lcmp hx hb dL_law_239 ?_
        rw [lg_self]
        refine lv_if_eq (tgt := 245) hx hb dL_law_240 (by decide) (fun c_3 => ?_) (fun c_3 => ?_)
        · replace c_3 := cn_eq (a := 0) (b := 0) (by omega) (by omega) c_3
          refine lv_goto (tgt := 2069) hx hb dL_law_245 (by decide) ?_
          refine W.widen (k := cells + 3) (n := slots + 18) (by omega) (by omega) ?_
          exact hnext _ _ _ ⟨a, (va_up N 0 (N 0 + 1)), (vAdd N Z (xs ((6 * j) + 1)) (xs ((6 * j) + 2))), (svB sc b), (psh sc M N), (psh sc Y Z), (svC sc), tx, L, cu, er, le, nb, nc, (mAV mm (N 0) (xs ((6 * j) + 1)) (xs ((6 * j) + 2))), (svP sc pp mm), 0, ac, ea, le2, v1, v2, v3, v4, v5, (Int32.toInt64 (nI (N 0))), fd, (t_addVersion hT hF), hX, hP, hD⟩ hS (lv_sub hl [2, 3, 4, 5, 6, 7] rfl)
        · replace c_3 := cn_ne (a := 0) (b := 0) (by omega) (by omega) c_3
          exact absurd c_3 (by decide)
    · replace c_1 := cn_ne (a := 0) (b := 0) (by omega) (by omega) c_1
      exact absurd c_1 (by decide)
  · obtain ⟨hP, hD⟩ := fr_hd hP hD hk1 hPc (List.Perm.refl _)
    have hc0 := (nz_A (le_sq (le_wi _ _ _) (le_sq (le_wi _ _ _) (le_po _))) hF (r_sq (r_wi _ _ _).1 (r_sq (r_wi _ _ _).1 (r_po _).1)))
    have hP : va_P G vwCl (((wMain T q a N Z b M Y sc tx L cu er le nb nc) ++ [(o, eL T fo)]) ++ ((wMod T r mm pp tx th sc L ac ea le2 v1 v2 v3 v4 v5) ++ [(d, eD T fd)])) H := hP
    have hD : va_D (lA s) (((wMain T q a N Z b M Y sc tx L cu er le nb nc) ++ [(o, eL T fo)]) ++ ((wMod T r mm pp tx th sc L ac ea le2 v1 v2 v3 v4 v5) ++ [(d, eD T fd)])) := hD
    refine W.eq (g2 := F0 m 197 ls [.int (cmA (sq (wiF (xs ((6 * j) + 1)) 0 998) (sq (wiF (xs ((6 * j) + 2)) ((xs ((6 * j) + 1)) + 1) 1000) (poF (bI (decide (N 0 < 8)))))))]) rfl ?_
    refine lv_istore (lv' := [(6, .int (cmA (sq (wiF (xs ((6 * j) + 1)) 0 998) (sq (wiF (xs ((6 * j) + 2)) ((xs ((6 * j) + 1)) + 1) 1000) (poF (bI (decide (N 0 < 8)))))))), (0, .ref b0), (1, .ref (q 0)), (2, .ref (r 0)), (3, .ref o), (4, .ref d), (5, .int (nI (6 * j)))]) hx hb dL_law_197 hl (by decide) rfl (fun ls hl => ?_)
    refine lv_aload_n hx hb dL_law_199 rfl (lv_at hl 3 rfl) ?_
    refine lv_aload_n hx hb dL_law_200 rfl (lv_at hl 1 rfl) ?_
    refine lv_iload hx hb dL_law_201 (lv_at hl 6 rfl) ?_
    refine lv_iconst (v := 1) hx hb dL_law_203 (by decide) ?_
    refine lv_iadd hx hb dL_law_204 ?_
    rw [show ((nI (6 * j)) + 1) = (nI ((6 * j) + 1)) from nI_add (6 * j) 1]
    refine sld K hS ((6 * j) + 1) rfl (by omega) dL_law_205 ?_
    refine lv_aload_n hx hb dL_law_206 rfl (lv_at hl 1 rfl) ?_
    refine lv_iload hx hb dL_law_207 (lv_at hl 6 rfl) ?_
    refine lv_iconst (v := 2) hx hb dL_law_209 (by decide) ?_
    refine lv_iadd hx hb dL_law_210 ?_
    rw [show ((nI (6 * j)) + 2) = (nI ((6 * j) + 2)) from nI_add (6 * j) 2]
    refine sld K hS ((6 * j) + 2) rfl (by omega) dL_law_211 ?_
    refine mu_V S hkx (mX6_addVersion l (T := T) (r := r) (N := N) (Z := Z) (mm := mm) (pp := pp) (xx := tx) (th := th) (sv := sc) (n1 := L) (ac := ac) (ea := ea) (le := le2) (v1 := v1) (v2 := v2) (v3 := v3) (v4 := v4) (v5 := v5) (x := (xs ((6 * j) + 1))) (z := (xs ((6 * j) + 2))) (hP := P_mid hP) (hD := (D_mid hD).weaken (fun _ _ _ _ => trivial)) (hwf := hT.1) (hr := hT.2.1) (hs4 := hT.2.2.2)) gL_law_X6_addVersion rfl idX6_addVersion ⟨Nat.le_of_ble_eq_true rfl, Nat.le_of_ble_eq_true rfl⟩ hP 101 rfl rfl rfl rfl hl.1 rfl (Nat.le_of_ble_eq_true rfl) dL_law_212 ⟨(by show cells + 3 ≤ 601024; omega), (by show slots + 18 ≤ 7293034; omega)⟩ hS (fr_in (D_mid hD) (fun q h => Nat.le_trans hS.1 h)) (fun v H locs hp9 hz1 hk1 hS => ?_)
    obtain ⟨z9, rfl, hp9⟩ := hp9
    have hPm := (hp9.resolve_left (fun h => hF h.1)).2
    obtain ⟨hP, hD⟩ := fr_mid hP hD hk1 hPm rfl
    have hP : va_P G vwCl (((wMain T q a N Z b M Y sc tx L cu er le nb nc) ++ [(o, eL T fo)]) ++ ((wMod T r mm pp tx (cmA (sq (wiF (xs ((6 * j) + 1)) 0 998) (sq (wiF (xs ((6 * j) + 2)) ((xs ((6 * j) + 1)) + 1) 1000) (poF (bI (decide (N 0 < 8))))))) sc L ac ea le2 v1 v2 v3 v4 v5) ++ [(d, eD T fd)])) H := hP
    have hD : va_D (lA s) (((wMain T q a N Z b M Y sc tx L cu er le nb nc) ++ [(o, eL T fo)]) ++ ((wMod T r mm pp tx (cmA (sq (wiF (xs ((6 * j) + 1)) 0 998) (sq (wiF (xs ((6 * j) + 2)) ((xs ((6 * j) + 1)) + 1) 1000) (poF (bI (decide (N 0 < 8))))))) sc L ac ea le2 v1 v2 v3 v4 v5) ++ [(d, eD T fd)])) := hD
    refine W.eq (g2 := F0 m 215 ls [.int z9]) rfl ?_
    refine lv_istore (lv' := [(7, .int z9), (6, .int (cmA (sq (wiF (xs ((6 * j) + 1)) 0 998) (sq (wiF (xs ((6 * j) + 2)) ((xs ((6 * j) + 1)) + 1) 1000) (poF (bI (decide (N 0 < 8)))))))), (0, .ref b0), (1, .ref (q 0)), (2, .ref (r 0)), (3, .ref o), (4, .ref d), (5, .int (nI (6 * j)))]) hx hb dL_law_215 hl (by decide) rfl (fun ls hl => ?_)
    refine lv_aload_n hx hb dL_law_217 rfl (lv_at hl 4 rfl) ?_
    refine ro_V S hkx (mX6_thrown l (T := T) (r := r) (N := N) (Z := Z) (mm := mm) (pp := pp) (xx := tx) (th := (cmA (sq (wiF (xs ((6 * j) + 1)) 0 998) (sq (wiF (xs ((6 * j) + 2)) ((xs ((6 * j) + 1)) + 1) 1000) (poF (bI (decide (N 0 < 8)))))))) (sv := sc) (n1 := L) (ac := ac) (ea := ea) (le := le2) (v1 := v1) (v2 := v2) (v3 := v3) (v4 := v4) (v5 := v5) (hP := P_mid hP)) gL_law_X6_thrown rfl idX6_thrown ⟨Nat.le_of_ble_eq_true rfl, Nat.le_of_ble_eq_true rfl⟩ hP 101 rfl rfl rfl rfl hl.1 rfl (Nat.le_of_ble_eq_true rfl) dL_law_218 ⟨(by show cells + 3 ≤ 601024; omega), (by show slots + 18 ≤ 7293034; omega)⟩ (fun r9 hr9 => ?_)
    subst hr9
    refine lv_iload hx hb dL_law_221 (lv_at hl 1 rfl) ?_
    refine lv_icmp_eq (tgt := 228) hx hb dL_law_223 (by decide) (fun c_4 => ?_) (fun c_4 => ?_)
    · skip
      refine lv_iload hx hb dL_law_228 (lv_at hl 1 rfl) ?_
      refine lv_if_ne (tgt := 245) hx hb dL_law_230 (by decide) (fun c_5 => ?_) (fun c_5 => ?_)
      · skip
        refine lv_goto (tgt := 2069) hx hb dL_law_245 (by decide) ?_
        refine W.widen (k := cells + 3) (n := slots + 18) (by omega) (by omega) ?_
        exact hnext _ _ _ ⟨a, N, Z, b, M, Y, sc, tx, L, cu, er, le, nb, nc, mm, pp, (cmA (sq (wiF (xs ((6 * j) + 1)) 0 998) (sq (wiF (xs ((6 * j) + 2)) ((xs ((6 * j) + 1)) + 1) 1000) (poF (bI (decide (N 0 < 8))))))), ac, ea, le2, v1, v2, v3, v4, v5, fo, fd, hT, hX, hP, hD⟩ hS (lv_sub hl [2, 3, 4, 5, 6, 7] rfl)
      · skip
        exact absurd c_5 hc0
    · skip
      exact absurd rfl c_4

set_option maxHeartbeats 4000000 in
set_option maxRecDepth 100000 in
theorem law_addFeature (l : Launch) (hl0 : l.stackTraces = false) {G : va_G} {T : Nat → ClassId} {sa kk vv : Nat → Nat} {p : Program} {e : Env} {s : State} {m : MethodId} {below : List Frame} {meth : Method} {c : Code} {Q : State → Prop} {b0 LL : Nat} {xs : Nat → Int32} {q r : Nat → Nat} {o d : Nat} {a N : Nat → Nat} {Z : Nat → Nat → Int32} {b M : Nat → Nat → Nat} {Y : Nat → Nat → Nat → Int32} {sc : Nat} {tx : Nat → Int32} {L cu : Nat} {er le : Int32} {nb : Nat → Int32} {nc : Nat} {mm pp : Nat → Int32} {th ac ea le2 v1 v2 v3 v4 v5 : Int32} {fo : Int64} {fd : UInt64} {H : Heap} {locs : List Loc} {cells slots j : Nat} {ls : Array Slot} (K : LK G T sa kk vv p s m c b0 LL xs) (hl : lv_has ls 9 [(0, .ref b0), (1, .ref (q 0)), (2, .ref (r 0)), (3, .ref o), (4, .ref d), (5, .int (nI (6 * j)))]) (hj : 6 * j + 5 < LL) (hcs : cells + 3 ≤ 601024) (hss : slots + 18 ≤ 7293034) (hS : va_S (lA s) s.heap H locs) (hT : tie N Z mm M Y pp sc) (hX : txo tx L) (hP : va_P G vwCl (wL T q a N Z b M Y sc tx L cu er le nb nc r mm pp th ac ea le2 v1 v2 v3 v4 v5 o d fo fd) H) (hD : va_D (lA s) (wL T q a N Z b M Y sc tx L cu er le nb nc r mm pp th ac ea le2 v1 v2 v3 v4 v5 o d fo fd)) (hnext : ∀ (H : Heap) (locs : List Loc) (ls : Array Slot), inv G T q r o d (lA s) H → va_S (lA s) s.heap H locs → lv_has ls 9 [(0, .ref b0), (1, .ref (q 0)), (2, .ref (r 0)), (3, .ref o), (4, .ref d), (5, .int (nI (6 * j)))] → W p l e room_1 s m ([.ref b0] : List Value).toArray below meth c H locs (cells + 3) (slots + 18) Q (F0 m 2069 ls [])) : W p l e room_1 s m ([.ref b0] : List Value).toArray below meth c H locs cells slots Q (F0 m 248 ls []) := by
  obtain ⟨S, hkx, -, hnc, -⟩ := id K
  have hx := S.1
  have hb := S.2.1
  have h9 := K.2.2.2.2.2.2.2
  have hX1 := hX.1
  have hP : va_P G vwCl (((wMain T q a N Z b M Y sc tx L cu er le nb nc) ++ [(o, eL T fo)]) ++ ((wMod T r mm pp tx th sc L ac ea le2 v1 v2 v3 v4 v5) ++ [(d, eD T fd)])) H := hP
  have hD : va_D (lA s) (((wMain T q a N Z b M Y sc tx L cu er le nb nc) ++ [(o, eL T fo)]) ++ ((wMod T r mm pp tx th sc L ac ea le2 v1 v2 v3 v4 v5) ++ [(d, eD T fd)])) := hD
  refine lv_aload_n hx hb dL_law_248 rfl (lv_at hl 1 rfl) ?_
  refine lv_aload_n hx hb dL_law_249 rfl (lv_at hl 0 rfl) ?_
  refine lv_iload hx hb dL_law_250 (lv_at hl 5 rfl) ?_
  refine lv_iconst (v := 1) hx hb dL_law_252 (by decide) ?_
  refine lv_iadd hx hb dL_law_253 ?_
  rw [show ((nI (6 * j)) + 1) = (nI ((6 * j) + 1)) from nI_add (6 * j) 1]
  refine sld K hS ((6 * j) + 1) rfl (by omega) dL_law_254 ?_
  refine lv_aload_n hx hb dL_law_255 rfl (lv_at hl 3 rfl) ?_
  refine lw_S S hkx (K.2.2.1.kept hS.2.1) hnc (mL_addFeature l hl0 (sa := sa) (A9 := lA s) (q := q) (a := a) (N := N) (Z := Z) (b := b) (M := M) (Y := Y) (sc := sc) (tx := tx) (L := L) (cu := cu) (er := er) (le := le) (nb := nb) (nc := nc) (x := (xs ((6 * j) + 1))) (o := o) (fo := fo) (hP := P_hd hP) (hD := (D_hd hD).weaken (fun _ _ _ _ => trivial)) (h9 := (fun q h => Nat.le_trans hS.1 h)) (hwf := hT.1) (hsc := hT.2.2.2)) gL_law_L_addFeature rfl idL_addFeature ⟨Nat.le_of_ble_eq_true rfl, Nat.le_of_ble_eq_true rfl⟩ rfl hl.1 rfl (Nat.le_of_ble_eq_true rfl) dL_law_256 ⟨(by show cells + 2 ≤ 601024; omega), (by show slots + 12 ≤ 7293034; omega)⟩ hS (fr_in (D_hd hD) (fun q h => Nat.le_trans hS.1 h)) (fun v H locs hp9 hz1 hk1 hS => ?_)
  rcases hp9 with ⟨hF, rfl, hPc⟩ | ⟨hF, rfl, hPc⟩
  · obtain ⟨hP, hD⟩ := fr_hd hP hD hk1 hPc (addr_snoc sv_addr)
    have hP : va_P G vwCl (((wMain T q a (va_up N 1 (N 1 + 1)) (va_up Z 4 (apF (Z 4) (xs ((6 * j) + 1)) (N 1) (N 0))) (svB sc b) (psh sc M N) (psh sc Y Z) (svC sc) tx L cu er le nb nc) ++ [(o, eL T (Int32.toInt64 (nI (N 1))))]) ++ ((wMod T r mm pp tx th sc L ac ea le2 v1 v2 v3 v4 v5) ++ [(d, eD T fd)])) H := hP
    have hD : va_D (lA s) (((wMain T q a (va_up N 1 (N 1 + 1)) (va_up Z 4 (apF (Z 4) (xs ((6 * j) + 1)) (N 1) (N 0))) (svB sc b) (psh sc M N) (psh sc Y Z) (svC sc) tx L cu er le nb nc) ++ [(o, eL T (Int32.toInt64 (nI (N 1))))]) ++ ((wMod T r mm pp tx th sc L ac ea le2 v1 v2 v3 v4 v5) ++ [(d, eD T fd)])) := hD
    refine W.eq (g2 := F0 m 259 ls [.int 0]) rfl ?_
    refine lv_istore (lv' := [(6, .int 0), (0, .ref b0), (1, .ref (q 0)), (2, .ref (r 0)), (3, .ref o), (4, .ref d), (5, .int (nI (6 * j)))]) hx hb dL_law_259 hl (by decide) rfl (fun ls hl => ?_)
    refine lv_aload_n hx hb dL_law_261 rfl (lv_at hl 3 rfl) ?_
    refine lv_aload_n hx hb dL_law_262 rfl (lv_at hl 1 rfl) ?_
    refine lv_iload hx hb dL_law_263 (lv_at hl 6 rfl) ?_
    refine lv_iconst (v := 1) hx hb dL_law_265 (by decide) ?_
    refine lv_iadd hx hb dL_law_266 ?_
    rw [show ((nI (6 * j)) + 1) = (nI ((6 * j) + 1)) from nI_add (6 * j) 1]
    refine sld K hS ((6 * j) + 1) rfl (by omega) dL_law_267 ?_
    refine mu_V S hkx (mX6_addFeature l (T := T) (r := r) (N := N) (Z := Z) (mm := mm) (pp := pp) (xx := tx) (th := th) (sv := sc) (n1 := L) (ac := ac) (ea := ea) (le := le2) (v1 := v1) (v2 := v2) (v3 := v3) (v4 := v4) (v5 := v5) (x := (xs ((6 * j) + 1))) (hP := P_mid hP) (hD := (D_mid hD).weaken (fun _ _ _ _ => trivial)) (hwf := hT.1) (hr := hT.2.1) (hs4 := hT.2.2.2)) gL_law_X6_addFeature rfl idX6_addFeature ⟨Nat.le_of_ble_eq_true rfl, Nat.le_of_ble_eq_true rfl⟩ hP 101 rfl rfl rfl rfl hl.1 rfl (Nat.le_of_ble_eq_true rfl) dL_law_268 ⟨(by show cells + 2 ≤ 601024; omega), (by show slots + 12 ≤ 7293034; omega)⟩ hS (fr_in (D_mid hD) (fun q h => Nat.le_trans hS.1 h)) (fun v H locs hp9 hz1 hk1 hS => ?_)
    obtain ⟨z9, rfl, hp9⟩ := hp9
    obtain ⟨-, rfl, hPm⟩ := hp9.resolve_right (fun h => h.1 hF)
    obtain ⟨hP, hD⟩ := fr_mid hP hD hk1 hPm rfl
    have hP : va_P G vwCl (((wMain T q a (va_up N 1 (N 1 + 1)) (va_up Z 4 (apF (Z 4) (xs ((6 * j) + 1)) (N 1) (N 0))) (svB sc b) (psh sc M N) (psh sc Y Z) (svC sc) tx L cu er le nb nc) ++ [(o, eL T (Int32.toInt64 (nI (N 1))))]) ++ ((wMod T r (mAF mm (N 1) (xs ((6 * j) + 1))) (svP sc pp mm) tx 0 (svC sc) L ac ea le2 v1 v2 v3 v4 v5) ++ [(d, eD T fd)])) H := hP
    have hD : va_D (lA s) (((wMain T q a (va_up N 1 (N 1 + 1)) (va_up Z 4 (apF (Z 4) (xs ((6 * j) + 1)) (N 1) (N 0))) (svB sc b) (psh sc M N) (psh sc Y Z) (svC sc) tx L cu er le nb nc) ++ [(o, eL T (Int32.toInt64 (nI (N 1))))]) ++ ((wMod T r (mAF mm (N 1) (xs ((6 * j) + 1))) (svP sc pp mm) tx 0 (svC sc) L ac ea le2 v1 v2 v3 v4 v5) ++ [(d, eD T fd)])) := hD
    refine W.eq (g2 := F0 m 271 ls [.int (nI (N 1))]) rfl ?_
    refine lv_istore (lv' := [(7, .int (nI (N 1))), (6, .int 0), (0, .ref b0), (1, .ref (q 0)), (2, .ref (r 0)), (3, .ref o), (4, .ref d), (5, .int (nI (6 * j)))]) hx hb dL_law_271 hl (by decide) rfl (fun ls hl => ?_)
    refine lv_aload_n hx hb dL_law_273 rfl (lv_at hl 4 rfl) ?_
    refine ro_V S hkx (mX6_thrown l (T := T) (r := r) (N := N) (Z := Z) (mm := (mAF mm (N 1) (xs ((6 * j) + 1)))) (pp := (svP sc pp mm)) (xx := tx) (th := 0) (sv := (svC sc)) (n1 := L) (ac := ac) (ea := ea) (le := le2) (v1 := v1) (v2 := v2) (v3 := v3) (v4 := v4) (v5 := v5) (hP := P_mid hP)) gL_law_X6_thrown rfl idX6_thrown ⟨Nat.le_of_ble_eq_true rfl, Nat.le_of_ble_eq_true rfl⟩ hP 101 rfl rfl rfl rfl hl.1 rfl (Nat.le_of_ble_eq_true rfl) dL_law_274 ⟨(by show cells + 2 ≤ 601024; omega), (by show slots + 12 ≤ 7293034; omega)⟩ (fun r9 hr9 => ?_)
    subst hr9
    refine lv_iload hx hb dL_law_277 (lv_at hl 1 rfl) ?_
    refine lv_icmp_eq (tgt := 284) hx hb dL_law_279 (by decide) (fun c_1 => ?_) (fun c_1 => ?_)
    · replace c_1 := cn_eq (a := 0) (b := 0) (by omega) (by omega) c_1
      refine lv_iload hx hb dL_law_284 (lv_at hl 1 rfl) ?_
      refine lv_if_ne (tgt := 301) hx hb dL_law_286 (by decide) (fun c_2 => ?_) (fun c_2 => ?_)
      · replace c_2 := cn_ne (a := 0) (b := 0) (by omega) (by omega) c_2
        exact absurd c_2 (by decide)
      · replace c_2 := cn_eq (a := 0) (b := 0) (by omega) (by omega) c_2
        refine lv_aload_n hx hb dL_law_289 rfl (lv_at hl 5 rfl) ?_
        refine lv_iconst (v := 0) hx hb dL_law_290 (by decide) ?_
        refine lld0 hx hb hkx hP 100 rfl dL_law_291 ?_
        refine lv_iload hx hb dL_law_292 (lv_at hl 0 rfl) ?_
        refine lv_i2l hx hb dL_law_294 rfl ?_
        refine W.lcmp hx hb dL_law_295 ?_
        rw [lg_self]
        refine lv_if_eq (tgt := 301) hx hb dL_law_296 (by decide) (fun c_3 => ?_) (fun c_3 => ?_)
        · replace c_3 := cn_eq (a := 0) (b := 0) (by omega) (by omega) c_3
          refine lv_goto (tgt := 2069) hx hb dL_law_301 (by decide) ?_
          refine W.widen (k := cells + 3) (n := slots + 18) (by omega) (by omega) ?_
          exact hnext _ _ _ ⟨a, (va_up N 1 (N 1 + 1)), (va_up Z 4 (apF (Z 4) (xs ((6 * j) + 1)) (N 1) (N 0))), (svB sc b), (psh sc M N), (psh sc Y Z), (svC sc), tx, L, cu, er, le, nb, nc, (mAF mm (N 1) (xs ((6 * j) + 1))), (svP sc pp mm), 0, ac, ea, le2, v1, v2, v3, v4, v5, (Int32.toInt64 (nI (N 1))), fd, (t_addFeature hT hF), hX, hP, hD⟩ hS (lv_sub hl [2, 3, 4, 5, 6, 7] rfl)
        · replace c_3 := cn_ne (a := 0) (b := 0) (by omega) (by omega) c_3
          exact absurd c_3 (by decide)
    · replace c_1 := cn_ne (a := 0) (b := 0) (by omega) (by omega) c_1
      exact absurd c_1 (by decide)
  · obtain ⟨hP, hD⟩ := fr_hd hP hD hk1 hPc (List.Perm.refl _)
    have hc0 := (nz_A (le_sq (le_wi _ _ _) (le_po _)) hF (r_sq (r_wi _ _ _).1 (r_po _).1))
    have hP : va_P G vwCl (((wMain T q a N Z b M Y sc tx L cu er le nb nc) ++ [(o, eL T fo)]) ++ ((wMod T r mm pp tx th sc L ac ea le2 v1 v2 v3 v4 v5) ++ [(d, eD T fd)])) H := hP
    have hD : va_D (lA s) (((wMain T q a N Z b M Y sc tx L cu er le nb nc) ++ [(o, eL T fo)]) ++ ((wMod T r mm pp tx th sc L ac ea le2 v1 v2 v3 v4 v5) ++ [(d, eD T fd)])) := hD
    refine W.eq (g2 := F0 m 259 ls [.int (cmA (sq (seF (xs ((6 * j) + 1)) (nI (N 0))) (poF (bI (decide (N 1 < 10))))))]) rfl ?_
    refine lv_istore (lv' := [(6, .int (cmA (sq (seF (xs ((6 * j) + 1)) (nI (N 0))) (poF (bI (decide (N 1 < 10))))))), (0, .ref b0), (1, .ref (q 0)), (2, .ref (r 0)), (3, .ref o), (4, .ref d), (5, .int (nI (6 * j)))]) hx hb dL_law_259 hl (by decide) rfl (fun ls hl => ?_)
    refine lv_aload_n hx hb dL_law_261 rfl (lv_at hl 3 rfl) ?_
    refine lv_aload_n hx hb dL_law_262 rfl (lv_at hl 1 rfl) ?_
    refine lv_iload hx hb dL_law_263 (lv_at hl 6 rfl) ?_
    refine lv_iconst (v := 1) hx hb dL_law_265 (by decide) ?_
    refine lv_iadd hx hb dL_law_266 ?_
    rw [show ((nI (6 * j)) + 1) = (nI ((6 * j) + 1)) from nI_add (6 * j) 1]
    refine sld K hS ((6 * j) + 1) rfl (by omega) dL_law_267 ?_
    refine mu_V S hkx (mX6_addFeature l (T := T) (r := r) (N := N) (Z := Z) (mm := mm) (pp := pp) (xx := tx) (th := th) (sv := sc) (n1 := L) (ac := ac) (ea := ea) (le := le2) (v1 := v1) (v2 := v2) (v3 := v3) (v4 := v4) (v5 := v5) (x := (xs ((6 * j) + 1))) (hP := P_mid hP) (hD := (D_mid hD).weaken (fun _ _ _ _ => trivial)) (hwf := hT.1) (hr := hT.2.1) (hs4 := hT.2.2.2)) gL_law_X6_addFeature rfl idX6_addFeature ⟨Nat.le_of_ble_eq_true rfl, Nat.le_of_ble_eq_true rfl⟩ hP 101 rfl rfl rfl rfl hl.1 rfl (Nat.le_of_ble_eq_true rfl) dL_law_268 ⟨(by show cells + 2 ≤ 601024; omega), (by show slots + 12 ≤ 7293034; omega)⟩ hS (fr_in (D_mid hD) (fun q h => Nat.le_trans hS.1 h)) (fun v H locs hp9 hz1 hk1 hS => ?_)
    obtain ⟨z9, rfl, hp9⟩ := hp9
    have hPm := (hp9.resolve_left (fun h => hF h.1)).2
    obtain ⟨hP, hD⟩ := fr_mid hP hD hk1 hPm rfl
    have hP : va_P G vwCl (((wMain T q a N Z b M Y sc tx L cu er le nb nc) ++ [(o, eL T fo)]) ++ ((wMod T r mm pp tx (cmA (sq (seF (xs ((6 * j) + 1)) (nI (N 0))) (poF (bI (decide (N 1 < 10)))))) sc L ac ea le2 v1 v2 v3 v4 v5) ++ [(d, eD T fd)])) H := hP
    have hD : va_D (lA s) (((wMain T q a N Z b M Y sc tx L cu er le nb nc) ++ [(o, eL T fo)]) ++ ((wMod T r mm pp tx (cmA (sq (seF (xs ((6 * j) + 1)) (nI (N 0))) (poF (bI (decide (N 1 < 10)))))) sc L ac ea le2 v1 v2 v3 v4 v5) ++ [(d, eD T fd)])) := hD
    refine W.eq (g2 := F0 m 271 ls [.int z9]) rfl ?_
    refine lv_istore (lv' := [(7, .int z9), (6, .int (cmA (sq (seF (xs ((6 * j) + 1)) (nI (N 0))) (poF (bI (decide (N 1 < 10))))))), (0, .ref b0), (1, .ref (q 0)), (2, .ref (r 0)), (3, .ref o), (4, .ref d), (5, .int (nI (6 * j)))]) hx hb dL_law_271 hl (by decide) rfl (fun ls hl => ?_)
    refine lv_aload_n hx hb dL_law_273 rfl (lv_at hl 4 rfl) ?_
    refine ro_V S hkx (mX6_thrown l (T := T) (r := r) (N := N) (Z := Z) (mm := mm) (pp := pp) (xx := tx) (th := (cmA (sq (seF (xs ((6 * j) + 1)) (nI (N 0))) (poF (bI (decide (N 1 < 10))))))) (sv := sc) (n1 := L) (ac := ac) (ea := ea) (le := le2) (v1 := v1) (v2 := v2) (v3 := v3) (v4 := v4) (v5 := v5) (hP := P_mid hP)) gL_law_X6_thrown rfl idX6_thrown ⟨Nat.le_of_ble_eq_true rfl, Nat.le_of_ble_eq_true rfl⟩ hP 101 rfl rfl rfl rfl hl.1 rfl (Nat.le_of_ble_eq_true rfl) dL_law_274 ⟨(by show cells + 2 ≤ 601024; omega), (by show slots + 12 ≤ 7293034; omega)⟩ (fun r9 hr9 => ?_)
    subst hr9
    refine lv_iload hx hb dL_law_277 (lv_at hl 1 rfl) ?_
    refine lv_icmp_eq (tgt := 284) hx hb dL_law_279 (by decide) (fun c_4 => ?_) (fun c_4 => ?_)
    · skip
      refine lv_iload hx hb dL_law_284 (lv_at hl 1 rfl) ?_
      refine lv_if_ne (tgt := 301) hx hb dL_law_286 (by decide) (fun c_5 => ?_) (fun c_5 => ?_)
      · skip
        refine lv_goto (tgt := 2069) hx hb dL_law_301 (by decide) ?_
        refine W.widen (k := cells + 3) (n := slots + 18) (by omega) (by omega) ?_
        exact hnext _ _ _ ⟨a, N, Z, b, M, Y, sc, tx, L, cu, er, le, nb, nc, mm, pp, (cmA (sq (seF (xs ((6 * j) + 1)) (nI (N 0))) (poF (bI (decide (N 1 < 10)))))), ac, ea, le2, v1, v2, v3, v4, v5, fo, fd, hT, hX, hP, hD⟩ hS (lv_sub hl [2, 3, 4, 5, 6, 7] rfl)
      · skip
        exact absurd c_5 hc0
    · skip
      exact absurd rfl c_4

set_option maxHeartbeats 4000000 in
set_option maxRecDepth 100000 in
theorem law_put (l : Launch) (hl0 : l.stackTraces = false) {G : va_G} {T : Nat → ClassId} {sa kk vv : Nat → Nat} {p : Program} {e : Env} {s : State} {m : MethodId} {below : List Frame} {meth : Method} {c : Code} {Q : State → Prop} {b0 LL : Nat} {xs : Nat → Int32} {q r : Nat → Nat} {o d : Nat} {a N : Nat → Nat} {Z : Nat → Nat → Int32} {b M : Nat → Nat → Nat} {Y : Nat → Nat → Nat → Int32} {sc : Nat} {tx : Nat → Int32} {L cu : Nat} {er le : Int32} {nb : Nat → Int32} {nc : Nat} {mm pp : Nat → Int32} {th ac ea le2 v1 v2 v3 v4 v5 : Int32} {fo : Int64} {fd : UInt64} {H : Heap} {locs : List Loc} {cells slots j : Nat} {ls : Array Slot} (K : LK G T sa kk vv p s m c b0 LL xs) (hl : lv_has ls 9 [(0, .ref b0), (1, .ref (q 0)), (2, .ref (r 0)), (3, .ref o), (4, .ref d), (5, .int (nI (6 * j)))]) (hj : 6 * j + 5 < LL) (hcs : cells + 3 ≤ 601024) (hss : slots + 18 ≤ 7293034) (hS : va_S (lA s) s.heap H locs) (hT : tie N Z mm M Y pp sc) (hX : txo tx L) (hP : va_P G vwCl (wL T q a N Z b M Y sc tx L cu er le nb nc r mm pp th ac ea le2 v1 v2 v3 v4 v5 o d fo fd) H) (hD : va_D (lA s) (wL T q a N Z b M Y sc tx L cu er le nb nc r mm pp th ac ea le2 v1 v2 v3 v4 v5 o d fo fd)) (hnext : ∀ (H : Heap) (locs : List Loc) (ls : Array Slot), inv G T q r o d (lA s) H → va_S (lA s) s.heap H locs → lv_has ls 9 [(0, .ref b0), (1, .ref (q 0)), (2, .ref (r 0)), (3, .ref o), (4, .ref d), (5, .int (nI (6 * j)))] → W p l e room_1 s m ([.ref b0] : List Value).toArray below meth c H locs (cells + 3) (slots + 18) Q (F0 m 2069 ls [])) : W p l e room_1 s m ([.ref b0] : List Value).toArray below meth c H locs cells slots Q (F0 m 304 ls []) := by
  obtain ⟨S, hkx, -, hnc, -⟩ := id K
  have hx := S.1
  have hb := S.2.1
  have h9 := K.2.2.2.2.2.2.2
  have hX1 := hX.1
  have hP : va_P G vwCl (((wMain T q a N Z b M Y sc tx L cu er le nb nc) ++ [(o, eL T fo)]) ++ ((wMod T r mm pp tx th sc L ac ea le2 v1 v2 v3 v4 v5) ++ [(d, eD T fd)])) H := hP
  have hD : va_D (lA s) (((wMain T q a N Z b M Y sc tx L cu er le nb nc) ++ [(o, eL T fo)]) ++ ((wMod T r mm pp tx th sc L ac ea le2 v1 v2 v3 v4 v5) ++ [(d, eD T fd)])) := hD
  refine lv_aload_n hx hb dL_law_304 rfl (lv_at hl 1 rfl) ?_
  refine lv_aload_n hx hb dL_law_305 rfl (lv_at hl 0 rfl) ?_
  refine lv_iload hx hb dL_law_306 (lv_at hl 5 rfl) ?_
  refine lv_iconst (v := 1) hx hb dL_law_308 (by decide) ?_
  refine lv_iadd hx hb dL_law_309 ?_
  rw [show ((nI (6 * j)) + 1) = (nI ((6 * j) + 1)) from nI_add (6 * j) 1]
  refine sld K hS ((6 * j) + 1) rfl (by omega) dL_law_310 ?_
  refine lv_aload_n hx hb dL_law_311 rfl (lv_at hl 0 rfl) ?_
  refine lv_iload hx hb dL_law_312 (lv_at hl 5 rfl) ?_
  refine lv_iconst (v := 2) hx hb dL_law_314 (by decide) ?_
  refine lv_iadd hx hb dL_law_315 ?_
  rw [show ((nI (6 * j)) + 2) = (nI ((6 * j) + 2)) from nI_add (6 * j) 2]
  refine sld K hS ((6 * j) + 2) rfl (by omega) dL_law_316 ?_
  refine lv_aload_n hx hb dL_law_317 rfl (lv_at hl 0 rfl) ?_
  refine lv_iload hx hb dL_law_318 (lv_at hl 5 rfl) ?_
  refine lv_iconst (v := 3) hx hb dL_law_320 (by decide) ?_
  refine lv_iadd hx hb dL_law_321 ?_
  rw [show ((nI (6 * j)) + 3) = (nI ((6 * j) + 3)) from nI_add (6 * j) 3]
  refine sld K hS ((6 * j) + 3) rfl (by omega) dL_law_322 ?_
  refine lv_if_eq (tgt := 330) hx hb dL_law_323 (by decide) (fun c_1 => ?_) (fun c_1 => ?_)
  · skip
    refine lv_iconst (v := 0) hx hb dL_law_330 (by decide) ?_
    refine lv_aload_n hx hb dL_law_331 rfl (lv_at hl 3 rfl) ?_
    refine lw_S S hkx (K.2.2.1.kept hS.2.1) hnc (mL_put l hl0 (sa := sa) (A9 := lA s) (q := q) (a := a) (N := N) (Z := Z) (b := b) (M := M) (Y := Y) (sc := sc) (tx := tx) (L := L) (cu := cu) (er := er) (le := le) (nb := nb) (nc := nc) (f := (xs ((6 * j) + 1))) (v := (xs ((6 * j) + 2))) (h := false) (o := o) (fo := fo) (hP := P_hd hP) (hD := (D_hd hD).weaken (fun _ _ _ _ => trivial)) (h9 := (fun q h => Nat.le_trans hS.1 h)) (hwf := hT.1) (hsc := hT.2.2.2)) gL_law_L_put rfl idL_put ⟨Nat.le_of_ble_eq_true rfl, Nat.le_of_ble_eq_true rfl⟩ rfl hl.1 rfl (Nat.le_of_ble_eq_true rfl) dL_law_332 ⟨(by show cells + 3 ≤ 601024; omega), (by show slots + 18 ≤ 7293034; omega)⟩ hS (fr_in (D_hd hD) (fun q h => Nat.le_trans hS.1 h)) (fun v H locs hp9 hz1 hk1 hS => ?_)
    rcases hp9 with ⟨hF, rfl, hPc⟩ | ⟨hF, rfl, hPc⟩
    · obtain ⟨hP, hD⟩ := fr_hd hP hD hk1 hPc (addr_snoc sv_addr)
      have hP : va_P G vwCl (((wMain T q a N (va_up Z 4 (upd (Z 4) (tn (xs ((6 * j) + 2))) (Z 4 (tn (xs ((6 * j) + 2))) ^^^ ((1 : Int32) <<< ((xs ((6 * j) + 1)) &&& 31))))) (svB sc b) (psh sc M N) (psh sc Y Z) (svC sc) tx L cu er le nb nc) ++ [(o, eL T (Int32.toInt64 (allW (va_up Z 4 (upd (Z 4) (tn (xs ((6 * j) + 2))) (Z 4 (tn (xs ((6 * j) + 2))) ^^^ ((1 : Int32) <<< ((xs ((6 * j) + 1)) &&& 31))))) (xs ((6 * j) + 1)) (N 0))))]) ++ ((wMod T r mm pp tx th sc L ac ea le2 v1 v2 v3 v4 v5) ++ [(d, eD T fd)])) H := hP
      have hD : va_D (lA s) (((wMain T q a N (va_up Z 4 (upd (Z 4) (tn (xs ((6 * j) + 2))) (Z 4 (tn (xs ((6 * j) + 2))) ^^^ ((1 : Int32) <<< ((xs ((6 * j) + 1)) &&& 31))))) (svB sc b) (psh sc M N) (psh sc Y Z) (svC sc) tx L cu er le nb nc) ++ [(o, eL T (Int32.toInt64 (allW (va_up Z 4 (upd (Z 4) (tn (xs ((6 * j) + 2))) (Z 4 (tn (xs ((6 * j) + 2))) ^^^ ((1 : Int32) <<< ((xs ((6 * j) + 1)) &&& 31))))) (xs ((6 * j) + 1)) (N 0))))]) ++ ((wMod T r mm pp tx th sc L ac ea le2 v1 v2 v3 v4 v5) ++ [(d, eD T fd)])) := hD
      refine W.eq (g2 := F0 m 335 ls [.int 0]) rfl ?_
      refine lv_istore (lv' := [(6, .int 0), (0, .ref b0), (1, .ref (q 0)), (2, .ref (r 0)), (3, .ref o), (4, .ref d), (5, .int (nI (6 * j)))]) hx hb dL_law_335 hl (by decide) rfl (fun ls hl => ?_)
      refine lv_aload_n hx hb dL_law_337 rfl (lv_at hl 3 rfl) ?_
      refine lv_aload_n hx hb dL_law_338 rfl (lv_at hl 1 rfl) ?_
      refine lv_iload hx hb dL_law_339 (lv_at hl 6 rfl) ?_
      refine lv_iconst (v := 1) hx hb dL_law_341 (by decide) ?_
      refine lv_iadd hx hb dL_law_342 ?_
      rw [show ((nI (6 * j)) + 1) = (nI ((6 * j) + 1)) from nI_add (6 * j) 1]
      refine sld K hS ((6 * j) + 1) rfl (by omega) dL_law_343 ?_
      refine lv_aload_n hx hb dL_law_344 rfl (lv_at hl 1 rfl) ?_
      refine lv_iload hx hb dL_law_345 (lv_at hl 6 rfl) ?_
      refine lv_iconst (v := 2) hx hb dL_law_347 (by decide) ?_
      refine lv_iadd hx hb dL_law_348 ?_
      rw [show ((nI (6 * j)) + 2) = (nI ((6 * j) + 2)) from nI_add (6 * j) 2]
      refine sld K hS ((6 * j) + 2) rfl (by omega) dL_law_349 ?_
      refine lv_aload_n hx hb dL_law_350 rfl (lv_at hl 1 rfl) ?_
      refine lv_iload hx hb dL_law_351 (lv_at hl 6 rfl) ?_
      refine lv_iconst (v := 3) hx hb dL_law_353 (by decide) ?_
      refine lv_iadd hx hb dL_law_354 ?_
      rw [show ((nI (6 * j)) + 3) = (nI ((6 * j) + 3)) from nI_add (6 * j) 3]
      refine sld K hS ((6 * j) + 3) rfl (by omega) dL_law_355 ?_
      refine lv_if_eq (tgt := 363) hx hb dL_law_356 (by decide) (fun c_2 => ?_) (fun c_2 => ?_)
      · skip
        refine lv_iconst (v := 0) hx hb dL_law_363 (by decide) ?_
        refine mu_V S hkx (mX6_put l (T := T) (r := r) (N := N) (Z := Z) (mm := mm) (pp := pp) (xx := tx) (th := th) (sv := sc) (n1 := L) (ac := ac) (ea := ea) (le := le2) (v1 := v1) (v2 := v2) (v3 := v3) (v4 := v4) (v5 := v5) (f := (xs ((6 * j) + 1))) (v := (xs ((6 * j) + 2))) (h := false) (hP := P_mid hP) (hD := (D_mid hD).weaken (fun _ _ _ _ => trivial)) (hwf := hT.1) (hr := hT.2.1) (hs4 := hT.2.2.2)) gL_law_X6_put rfl idX6_put ⟨Nat.le_of_ble_eq_true rfl, Nat.le_of_ble_eq_true rfl⟩ hP 101 rfl rfl rfl rfl hl.1 rfl (Nat.le_of_ble_eq_true rfl) dL_law_364 ⟨(by show cells + 3 ≤ 601024; omega), (by show slots + 18 ≤ 7293034; omega)⟩ hS (fr_in (D_mid hD) (fun q h => Nat.le_trans hS.1 h)) (fun v H locs hp9 hz1 hk1 hS => ?_)
        obtain ⟨z9, rfl, hp9⟩ := hp9
        obtain ⟨-, rfl, hPm⟩ := hp9.resolve_right (fun h => h.1 hF)
        obtain ⟨hP, hD⟩ := fr_mid hP hD hk1 hPm rfl
        have hP : va_P G vwCl (((wMain T q a N (va_up Z 4 (upd (Z 4) (tn (xs ((6 * j) + 2))) (Z 4 (tn (xs ((6 * j) + 2))) ^^^ ((1 : Int32) <<< ((xs ((6 * j) + 1)) &&& 31))))) (svB sc b) (psh sc M N) (psh sc Y Z) (svC sc) tx L cu er le nb nc) ++ [(o, eL T (Int32.toInt64 (allW (va_up Z 4 (upd (Z 4) (tn (xs ((6 * j) + 2))) (Z 4 (tn (xs ((6 * j) + 2))) ^^^ ((1 : Int32) <<< ((xs ((6 * j) + 1)) &&& 31))))) (xs ((6 * j) + 1)) (N 0))))]) ++ ((wMod T r (mPu mm (tn (xs ((6 * j) + 1))) (tn (xs ((6 * j) + 2))) false) (svP sc pp mm) tx 0 (svC sc) L ac ea le2 v1 v2 v3 v4 v5) ++ [(d, eD T fd)])) H := hP
        have hD : va_D (lA s) (((wMain T q a N (va_up Z 4 (upd (Z 4) (tn (xs ((6 * j) + 2))) (Z 4 (tn (xs ((6 * j) + 2))) ^^^ ((1 : Int32) <<< ((xs ((6 * j) + 1)) &&& 31))))) (svB sc b) (psh sc M N) (psh sc Y Z) (svC sc) tx L cu er le nb nc) ++ [(o, eL T (Int32.toInt64 (allW (va_up Z 4 (upd (Z 4) (tn (xs ((6 * j) + 2))) (Z 4 (tn (xs ((6 * j) + 2))) ^^^ ((1 : Int32) <<< ((xs ((6 * j) + 1)) &&& 31))))) (xs ((6 * j) + 1)) (N 0))))]) ++ ((wMod T r (mPu mm (tn (xs ((6 * j) + 1))) (tn (xs ((6 * j) + 2))) false) (svP sc pp mm) tx 0 (svC sc) L ac ea le2 v1 v2 v3 v4 v5) ++ [(d, eD T fd)])) := hD
        refine W.eq (g2 := F0 m 367 ls [.int (allW (va_up Z 4 (upd (Z 4) (tn (xs ((6 * j) + 2))) (Z 4 (tn (xs ((6 * j) + 2))) ^^^ ((1 : Int32) <<< ((xs ((6 * j) + 1)) &&& 31))))) (xs ((6 * j) + 1)) (N 0))]) rfl ?_
        refine lv_istore (lv' := [(7, .int (allW (va_up Z 4 (upd (Z 4) (tn (xs ((6 * j) + 2))) (Z 4 (tn (xs ((6 * j) + 2))) ^^^ ((1 : Int32) <<< ((xs ((6 * j) + 1)) &&& 31))))) (xs ((6 * j) + 1)) (N 0))), (6, .int 0), (0, .ref b0), (1, .ref (q 0)), (2, .ref (r 0)), (3, .ref o), (4, .ref d), (5, .int (nI (6 * j)))]) hx hb dL_law_367 hl (by decide) rfl (fun ls hl => ?_)
        refine lv_aload_n hx hb dL_law_369 rfl (lv_at hl 4 rfl) ?_
        refine ro_V S hkx (mX6_thrown l (T := T) (r := r) (N := N) (Z := Z) (mm := (mPu mm (tn (xs ((6 * j) + 1))) (tn (xs ((6 * j) + 2))) false)) (pp := (svP sc pp mm)) (xx := tx) (th := 0) (sv := (svC sc)) (n1 := L) (ac := ac) (ea := ea) (le := le2) (v1 := v1) (v2 := v2) (v3 := v3) (v4 := v4) (v5 := v5) (hP := P_mid hP)) gL_law_X6_thrown rfl idX6_thrown ⟨Nat.le_of_ble_eq_true rfl, Nat.le_of_ble_eq_true rfl⟩ hP 101 rfl rfl rfl rfl hl.1 rfl (Nat.le_of_ble_eq_true rfl) dL_law_370 ⟨(by show cells + 3 ≤ 601024; omega), (by show slots + 18 ≤ 7293034; omega)⟩ (fun r9 hr9 => ?_)
        subst hr9
        refine lv_iload hx hb dL_law_373 (lv_at hl 1 rfl) ?_
        refine lv_icmp_eq (tgt := 380) hx hb dL_law_375 (by decide) (fun c_3 => ?_) (fun c_3 => ?_)
        · replace c_3 := cn_eq (a := 0) (b := 0) (by omega) (by omega) c_3
          refine lv_iload hx hb dL_law_380 (lv_at hl 1 rfl) ?_
          refine lv_if_ne (tgt := 397) hx hb dL_law_382 (by decide) (fun c_4 => ?_) (fun c_4 => ?_)
          · replace c_4 := cn_ne (a := 0) (b := 0) (by omega) (by omega) c_4
            exact absurd c_4 (by decide)
          · replace c_4 := cn_eq (a := 0) (b := 0) (by omega) (by omega) c_4
            refine lv_aload_n hx hb dL_law_385 rfl (lv_at hl 5 rfl) ?_
            refine lv_iconst (v := 0) hx hb dL_law_386 (by decide) ?_
            refine lld0 hx hb hkx hP 100 rfl dL_law_387 ?_
            refine lv_iload hx hb dL_law_388 (lv_at hl 0 rfl) ?_
            refine lv_i2l hx hb dL_law_390 rfl ?_
            refine W.lcmp hx hb dL_law_391 ?_
            rw [lg_self]
            refine lv_if_eq (tgt := 397) hx hb dL_law_392 (by decide) (fun c_5 => ?_) (fun c_5 => ?_)
            · replace c_5 := cn_eq (a := 0) (b := 0) (by omega) (by omega) c_5
              refine lv_goto (tgt := 2069) hx hb dL_law_397 (by decide) ?_
              refine W.widen (k := cells + 3) (n := slots + 18) (by omega) (by omega) ?_
              exact hnext _ _ _ ⟨a, N, (va_up Z 4 (upd (Z 4) (tn (xs ((6 * j) + 2))) (Z 4 (tn (xs ((6 * j) + 2))) ^^^ ((1 : Int32) <<< ((xs ((6 * j) + 1)) &&& 31))))), (svB sc b), (psh sc M N), (psh sc Y Z), (svC sc), tx, L, cu, er, le, nb, nc, (mPu mm (tn (xs ((6 * j) + 1))) (tn (xs ((6 * j) + 2))) false), (svP sc pp mm), 0, ac, ea, le2, v1, v2, v3, v4, v5, (Int32.toInt64 (allW (va_up Z 4 (upd (Z 4) (tn (xs ((6 * j) + 2))) (Z 4 (tn (xs ((6 * j) + 2))) ^^^ ((1 : Int32) <<< ((xs ((6 * j) + 1)) &&& 31))))) (xs ((6 * j) + 1)) (N 0))), fd, (t_put hT hF), hX, hP, hD⟩ hS (lv_sub hl [2, 3, 4, 5, 6, 7] rfl)
            · replace c_5 := cn_ne (a := 0) (b := 0) (by omega) (by omega) c_5
              exact absurd c_5 (by decide)
        · replace c_3 := cn_ne (a := 0) (b := 0) (by omega) (by omega) c_3
          exact absurd c_3 (by decide)
      · skip
        exact absurd c_1 c_2
    · obtain ⟨hP, hD⟩ := fr_hd hP hD hk1 hPc (List.Perm.refl _)
      have hc0 := (nz_B (le_sq (le_th _ _) (le_sq (le_th _ _) (le_po _))) hF)
      have hP : va_P G vwCl (((wMain T q a N Z b M Y sc tx L cu er le nb nc) ++ [(o, eL T fo)]) ++ ((wMod T r mm pp tx th sc L ac ea le2 v1 v2 v3 v4 v5) ++ [(d, eD T fd)])) H := hP
      have hD : va_D (lA s) (((wMain T q a N Z b M Y sc tx L cu er le nb nc) ++ [(o, eL T fo)]) ++ ((wMod T r mm pp tx th sc L ac ea le2 v1 v2 v3 v4 v5) ++ [(d, eD T fd)])) := hD
      refine W.eq (g2 := F0 m 335 ls [.int (cmB (sq (thF (xs ((6 * j) + 1)) (nI (N 1))) (sq (thF (xs ((6 * j) + 2)) (nI (N 0))) (poF (bI (decide (¬ cnt1 (Z 4 (tn (xs ((6 * j) + 2)))) (xs ((6 * j) + 1)) = false)))))))]) rfl ?_
      refine lv_istore (lv' := [(6, .int (cmB (sq (thF (xs ((6 * j) + 1)) (nI (N 1))) (sq (thF (xs ((6 * j) + 2)) (nI (N 0))) (poF (bI (decide (¬ cnt1 (Z 4 (tn (xs ((6 * j) + 2)))) (xs ((6 * j) + 1)) = false)))))))), (0, .ref b0), (1, .ref (q 0)), (2, .ref (r 0)), (3, .ref o), (4, .ref d), (5, .int (nI (6 * j)))]) hx hb dL_law_335 hl (by decide) rfl (fun ls hl => ?_)
      refine lv_aload_n hx hb dL_law_337 rfl (lv_at hl 3 rfl) ?_
      refine lv_aload_n hx hb dL_law_338 rfl (lv_at hl 1 rfl) ?_
      refine lv_iload hx hb dL_law_339 (lv_at hl 6 rfl) ?_
      refine lv_iconst (v := 1) hx hb dL_law_341 (by decide) ?_
      refine lv_iadd hx hb dL_law_342 ?_
      rw [show ((nI (6 * j)) + 1) = (nI ((6 * j) + 1)) from nI_add (6 * j) 1]
      refine sld K hS ((6 * j) + 1) rfl (by omega) dL_law_343 ?_
      refine lv_aload_n hx hb dL_law_344 rfl (lv_at hl 1 rfl) ?_
      refine lv_iload hx hb dL_law_345 (lv_at hl 6 rfl) ?_
      refine lv_iconst (v := 2) hx hb dL_law_347 (by decide) ?_
      refine lv_iadd hx hb dL_law_348 ?_
      rw [show ((nI (6 * j)) + 2) = (nI ((6 * j) + 2)) from nI_add (6 * j) 2]
      refine sld K hS ((6 * j) + 2) rfl (by omega) dL_law_349 ?_
      refine lv_aload_n hx hb dL_law_350 rfl (lv_at hl 1 rfl) ?_
      refine lv_iload hx hb dL_law_351 (lv_at hl 6 rfl) ?_
      refine lv_iconst (v := 3) hx hb dL_law_353 (by decide) ?_
      refine lv_iadd hx hb dL_law_354 ?_
      rw [show ((nI (6 * j)) + 3) = (nI ((6 * j) + 3)) from nI_add (6 * j) 3]
      refine sld K hS ((6 * j) + 3) rfl (by omega) dL_law_355 ?_
      refine lv_if_eq (tgt := 363) hx hb dL_law_356 (by decide) (fun c_6 => ?_) (fun c_6 => ?_)
      · skip
        refine lv_iconst (v := 0) hx hb dL_law_363 (by decide) ?_
        refine mu_V S hkx (mX6_put l (T := T) (r := r) (N := N) (Z := Z) (mm := mm) (pp := pp) (xx := tx) (th := th) (sv := sc) (n1 := L) (ac := ac) (ea := ea) (le := le2) (v1 := v1) (v2 := v2) (v3 := v3) (v4 := v4) (v5 := v5) (f := (xs ((6 * j) + 1))) (v := (xs ((6 * j) + 2))) (h := false) (hP := P_mid hP) (hD := (D_mid hD).weaken (fun _ _ _ _ => trivial)) (hwf := hT.1) (hr := hT.2.1) (hs4 := hT.2.2.2)) gL_law_X6_put rfl idX6_put ⟨Nat.le_of_ble_eq_true rfl, Nat.le_of_ble_eq_true rfl⟩ hP 101 rfl rfl rfl rfl hl.1 rfl (Nat.le_of_ble_eq_true rfl) dL_law_364 ⟨(by show cells + 3 ≤ 601024; omega), (by show slots + 18 ≤ 7293034; omega)⟩ hS (fr_in (D_mid hD) (fun q h => Nat.le_trans hS.1 h)) (fun v H locs hp9 hz1 hk1 hS => ?_)
        obtain ⟨z9, rfl, hp9⟩ := hp9
        have hPm := (hp9.resolve_left (fun h => hF h.1)).2
        obtain ⟨hP, hD⟩ := fr_mid hP hD hk1 hPm rfl
        have hP : va_P G vwCl (((wMain T q a N Z b M Y sc tx L cu er le nb nc) ++ [(o, eL T fo)]) ++ ((wMod T r mm pp tx (cmB (sq (thF (xs ((6 * j) + 1)) (nI (N 1))) (sq (thF (xs ((6 * j) + 2)) (nI (N 0))) (poF (bI (decide (¬ cnt1 (Z 4 (tn (xs ((6 * j) + 2)))) (xs ((6 * j) + 1)) = false))))))) sc L ac ea le2 v1 v2 v3 v4 v5) ++ [(d, eD T fd)])) H := hP
        have hD : va_D (lA s) (((wMain T q a N Z b M Y sc tx L cu er le nb nc) ++ [(o, eL T fo)]) ++ ((wMod T r mm pp tx (cmB (sq (thF (xs ((6 * j) + 1)) (nI (N 1))) (sq (thF (xs ((6 * j) + 2)) (nI (N 0))) (poF (bI (decide (¬ cnt1 (Z 4 (tn (xs ((6 * j) + 2)))) (xs ((6 * j) + 1)) = false))))))) sc L ac ea le2 v1 v2 v3 v4 v5) ++ [(d, eD T fd)])) := hD
        refine W.eq (g2 := F0 m 367 ls [.int z9]) rfl ?_
        refine lv_istore (lv' := [(7, .int z9), (6, .int (cmB (sq (thF (xs ((6 * j) + 1)) (nI (N 1))) (sq (thF (xs ((6 * j) + 2)) (nI (N 0))) (poF (bI (decide (¬ cnt1 (Z 4 (tn (xs ((6 * j) + 2)))) (xs ((6 * j) + 1)) = false)))))))), (0, .ref b0), (1, .ref (q 0)), (2, .ref (r 0)), (3, .ref o), (4, .ref d), (5, .int (nI (6 * j)))]) hx hb dL_law_367 hl (by decide) rfl (fun ls hl => ?_)
        refine lv_aload_n hx hb dL_law_369 rfl (lv_at hl 4 rfl) ?_
        refine ro_V S hkx (mX6_thrown l (T := T) (r := r) (N := N) (Z := Z) (mm := mm) (pp := pp) (xx := tx) (th := (cmB (sq (thF (xs ((6 * j) + 1)) (nI (N 1))) (sq (thF (xs ((6 * j) + 2)) (nI (N 0))) (poF (bI (decide (¬ cnt1 (Z 4 (tn (xs ((6 * j) + 2)))) (xs ((6 * j) + 1)) = false)))))))) (sv := sc) (n1 := L) (ac := ac) (ea := ea) (le := le2) (v1 := v1) (v2 := v2) (v3 := v3) (v4 := v4) (v5 := v5) (hP := P_mid hP)) gL_law_X6_thrown rfl idX6_thrown ⟨Nat.le_of_ble_eq_true rfl, Nat.le_of_ble_eq_true rfl⟩ hP 101 rfl rfl rfl rfl hl.1 rfl (Nat.le_of_ble_eq_true rfl) dL_law_370 ⟨(by show cells + 3 ≤ 601024; omega), (by show slots + 18 ≤ 7293034; omega)⟩ (fun r9 hr9 => ?_)
        subst hr9
        refine lv_iload hx hb dL_law_373 (lv_at hl 1 rfl) ?_
        refine lv_icmp_eq (tgt := 380) hx hb dL_law_375 (by decide) (fun c_7 => ?_) (fun c_7 => ?_)
        · skip
          refine lv_iload hx hb dL_law_380 (lv_at hl 1 rfl) ?_
          refine lv_if_ne (tgt := 397) hx hb dL_law_382 (by decide) (fun c_8 => ?_) (fun c_8 => ?_)
          · skip
            refine lv_goto (tgt := 2069) hx hb dL_law_397 (by decide) ?_
            refine W.widen (k := cells + 3) (n := slots + 18) (by omega) (by omega) ?_
            exact hnext _ _ _ ⟨a, N, Z, b, M, Y, sc, tx, L, cu, er, le, nb, nc, mm, pp, (cmB (sq (thF (xs ((6 * j) + 1)) (nI (N 1))) (sq (thF (xs ((6 * j) + 2)) (nI (N 0))) (poF (bI (decide (¬ cnt1 (Z 4 (tn (xs ((6 * j) + 2)))) (xs ((6 * j) + 1)) = false))))))), ac, ea, le2, v1, v2, v3, v4, v5, fo, fd, hT, hX, hP, hD⟩ hS (lv_sub hl [2, 3, 4, 5, 6, 7] rfl)
          · skip
            exact absurd c_8 hc0
        · skip
          exact absurd rfl c_7
      · skip
        exact absurd c_1 c_6
  · skip
    refine lv_iconst (v := 1) hx hb dL_law_326 (by decide) ?_
    refine lv_goto (tgt := 331) hx hb dL_law_327 (by decide) ?_
    refine lv_aload_n hx hb dL_law_331 rfl (lv_at hl 3 rfl) ?_
    refine lw_S S hkx (K.2.2.1.kept hS.2.1) hnc (mL_put l hl0 (sa := sa) (A9 := lA s) (q := q) (a := a) (N := N) (Z := Z) (b := b) (M := M) (Y := Y) (sc := sc) (tx := tx) (L := L) (cu := cu) (er := er) (le := le) (nb := nb) (nc := nc) (f := (xs ((6 * j) + 1))) (v := (xs ((6 * j) + 2))) (h := true) (o := o) (fo := fo) (hP := P_hd hP) (hD := (D_hd hD).weaken (fun _ _ _ _ => trivial)) (h9 := (fun q h => Nat.le_trans hS.1 h)) (hwf := hT.1) (hsc := hT.2.2.2)) gL_law_L_put rfl idL_put ⟨Nat.le_of_ble_eq_true rfl, Nat.le_of_ble_eq_true rfl⟩ rfl hl.1 rfl (Nat.le_of_ble_eq_true rfl) dL_law_332 ⟨(by show cells + 3 ≤ 601024; omega), (by show slots + 18 ≤ 7293034; omega)⟩ hS (fr_in (D_hd hD) (fun q h => Nat.le_trans hS.1 h)) (fun v H locs hp9 hz1 hk1 hS => ?_)
    rcases hp9 with ⟨hF, rfl, hPc⟩ | ⟨hF, rfl, hPc⟩
    · obtain ⟨hP, hD⟩ := fr_hd hP hD hk1 hPc (addr_snoc sv_addr)
      have hP : va_P G vwCl (((wMain T q a N (va_up Z 4 (upd (Z 4) (tn (xs ((6 * j) + 2))) (Z 4 (tn (xs ((6 * j) + 2))) ^^^ ((1 : Int32) <<< ((xs ((6 * j) + 1)) &&& 31))))) (svB sc b) (psh sc M N) (psh sc Y Z) (svC sc) tx L cu er le nb nc) ++ [(o, eL T (Int32.toInt64 (allW (va_up Z 4 (upd (Z 4) (tn (xs ((6 * j) + 2))) (Z 4 (tn (xs ((6 * j) + 2))) ^^^ ((1 : Int32) <<< ((xs ((6 * j) + 1)) &&& 31))))) (xs ((6 * j) + 1)) (N 0))))]) ++ ((wMod T r mm pp tx th sc L ac ea le2 v1 v2 v3 v4 v5) ++ [(d, eD T fd)])) H := hP
      have hD : va_D (lA s) (((wMain T q a N (va_up Z 4 (upd (Z 4) (tn (xs ((6 * j) + 2))) (Z 4 (tn (xs ((6 * j) + 2))) ^^^ ((1 : Int32) <<< ((xs ((6 * j) + 1)) &&& 31))))) (svB sc b) (psh sc M N) (psh sc Y Z) (svC sc) tx L cu er le nb nc) ++ [(o, eL T (Int32.toInt64 (allW (va_up Z 4 (upd (Z 4) (tn (xs ((6 * j) + 2))) (Z 4 (tn (xs ((6 * j) + 2))) ^^^ ((1 : Int32) <<< ((xs ((6 * j) + 1)) &&& 31))))) (xs ((6 * j) + 1)) (N 0))))]) ++ ((wMod T r mm pp tx th sc L ac ea le2 v1 v2 v3 v4 v5) ++ [(d, eD T fd)])) := hD
      refine W.eq (g2 := F0 m 335 ls [.int 0]) rfl ?_
      refine lv_istore (lv' := [(6, .int 0), (0, .ref b0), (1, .ref (q 0)), (2, .ref (r 0)), (3, .ref o), (4, .ref d), (5, .int (nI (6 * j)))]) hx hb dL_law_335 hl (by decide) rfl (fun ls hl => ?_)
      refine lv_aload_n hx hb dL_law_337 rfl (lv_at hl 3 rfl) ?_
      refine lv_aload_n hx hb dL_law_338 rfl (lv_at hl 1 rfl) ?_
      refine lv_iload hx hb dL_law_339 (lv_at hl 6 rfl) ?_
      refine lv_iconst (v := 1) hx hb dL_law_341 (by decide) ?_
      refine lv_iadd hx hb dL_law_342 ?_
      rw [show ((nI (6 * j)) + 1) = (nI ((6 * j) + 1)) from nI_add (6 * j) 1]
      refine sld K hS ((6 * j) + 1) rfl (by omega) dL_law_343 ?_
      refine lv_aload_n hx hb dL_law_344 rfl (lv_at hl 1 rfl) ?_
      refine lv_iload hx hb dL_law_345 (lv_at hl 6 rfl) ?_
      refine lv_iconst (v := 2) hx hb dL_law_347 (by decide) ?_
      refine lv_iadd hx hb dL_law_348 ?_
      rw [show ((nI (6 * j)) + 2) = (nI ((6 * j) + 2)) from nI_add (6 * j) 2]
      refine sld K hS ((6 * j) + 2) rfl (by omega) dL_law_349 ?_
      refine lv_aload_n hx hb dL_law_350 rfl (lv_at hl 1 rfl) ?_
      refine lv_iload hx hb dL_law_351 (lv_at hl 6 rfl) ?_
      refine lv_iconst (v := 3) hx hb dL_law_353 (by decide) ?_
      refine lv_iadd hx hb dL_law_354 ?_
      rw [show ((nI (6 * j)) + 3) = (nI ((6 * j) + 3)) from nI_add (6 * j) 3]
      refine sld K hS ((6 * j) + 3) rfl (by omega) dL_law_355 ?_
      refine lv_if_eq (tgt := 363) hx hb dL_law_356 (by decide) (fun c_9 => ?_) (fun c_9 => ?_)
      · skip
        exact absurd c_9 c_1
      · skip
        refine lv_iconst (v := 1) hx hb dL_law_359 (by decide) ?_
        refine lv_goto (tgt := 364) hx hb dL_law_360 (by decide) ?_
        refine mu_V S hkx (mX6_put l (T := T) (r := r) (N := N) (Z := Z) (mm := mm) (pp := pp) (xx := tx) (th := th) (sv := sc) (n1 := L) (ac := ac) (ea := ea) (le := le2) (v1 := v1) (v2 := v2) (v3 := v3) (v4 := v4) (v5 := v5) (f := (xs ((6 * j) + 1))) (v := (xs ((6 * j) + 2))) (h := true) (hP := P_mid hP) (hD := (D_mid hD).weaken (fun _ _ _ _ => trivial)) (hwf := hT.1) (hr := hT.2.1) (hs4 := hT.2.2.2)) gL_law_X6_put rfl idX6_put ⟨Nat.le_of_ble_eq_true rfl, Nat.le_of_ble_eq_true rfl⟩ hP 101 rfl rfl rfl rfl hl.1 rfl (Nat.le_of_ble_eq_true rfl) dL_law_364 ⟨(by show cells + 3 ≤ 601024; omega), (by show slots + 18 ≤ 7293034; omega)⟩ hS (fr_in (D_mid hD) (fun q h => Nat.le_trans hS.1 h)) (fun v H locs hp9 hz1 hk1 hS => ?_)
        obtain ⟨z9, rfl, hp9⟩ := hp9
        obtain ⟨-, rfl, hPm⟩ := hp9.resolve_right (fun h => h.1 hF)
        obtain ⟨hP, hD⟩ := fr_mid hP hD hk1 hPm rfl
        have hP : va_P G vwCl (((wMain T q a N (va_up Z 4 (upd (Z 4) (tn (xs ((6 * j) + 2))) (Z 4 (tn (xs ((6 * j) + 2))) ^^^ ((1 : Int32) <<< ((xs ((6 * j) + 1)) &&& 31))))) (svB sc b) (psh sc M N) (psh sc Y Z) (svC sc) tx L cu er le nb nc) ++ [(o, eL T (Int32.toInt64 (allW (va_up Z 4 (upd (Z 4) (tn (xs ((6 * j) + 2))) (Z 4 (tn (xs ((6 * j) + 2))) ^^^ ((1 : Int32) <<< ((xs ((6 * j) + 1)) &&& 31))))) (xs ((6 * j) + 1)) (N 0))))]) ++ ((wMod T r (mPu mm (tn (xs ((6 * j) + 1))) (tn (xs ((6 * j) + 2))) true) (svP sc pp mm) tx 0 (svC sc) L ac ea le2 v1 v2 v3 v4 v5) ++ [(d, eD T fd)])) H := hP
        have hD : va_D (lA s) (((wMain T q a N (va_up Z 4 (upd (Z 4) (tn (xs ((6 * j) + 2))) (Z 4 (tn (xs ((6 * j) + 2))) ^^^ ((1 : Int32) <<< ((xs ((6 * j) + 1)) &&& 31))))) (svB sc b) (psh sc M N) (psh sc Y Z) (svC sc) tx L cu er le nb nc) ++ [(o, eL T (Int32.toInt64 (allW (va_up Z 4 (upd (Z 4) (tn (xs ((6 * j) + 2))) (Z 4 (tn (xs ((6 * j) + 2))) ^^^ ((1 : Int32) <<< ((xs ((6 * j) + 1)) &&& 31))))) (xs ((6 * j) + 1)) (N 0))))]) ++ ((wMod T r (mPu mm (tn (xs ((6 * j) + 1))) (tn (xs ((6 * j) + 2))) true) (svP sc pp mm) tx 0 (svC sc) L ac ea le2 v1 v2 v3 v4 v5) ++ [(d, eD T fd)])) := hD
        refine W.eq (g2 := F0 m 367 ls [.int (allW (va_up Z 4 (upd (Z 4) (tn (xs ((6 * j) + 2))) (Z 4 (tn (xs ((6 * j) + 2))) ^^^ ((1 : Int32) <<< ((xs ((6 * j) + 1)) &&& 31))))) (xs ((6 * j) + 1)) (N 0))]) rfl ?_
        refine lv_istore (lv' := [(7, .int (allW (va_up Z 4 (upd (Z 4) (tn (xs ((6 * j) + 2))) (Z 4 (tn (xs ((6 * j) + 2))) ^^^ ((1 : Int32) <<< ((xs ((6 * j) + 1)) &&& 31))))) (xs ((6 * j) + 1)) (N 0))), (6, .int 0), (0, .ref b0), (1, .ref (q 0)), (2, .ref (r 0)), (3, .ref o), (4, .ref d), (5, .int (nI (6 * j)))]) hx hb dL_law_367 hl (by decide) rfl (fun ls hl => ?_)
        refine lv_aload_n hx hb dL_law_369 rfl (lv_at hl 4 rfl) ?_
        refine ro_V S hkx (mX6_thrown l (T := T) (r := r) (N := N) (Z := Z) (mm := (mPu mm (tn (xs ((6 * j) + 1))) (tn (xs ((6 * j) + 2))) true)) (pp := (svP sc pp mm)) (xx := tx) (th := 0) (sv := (svC sc)) (n1 := L) (ac := ac) (ea := ea) (le := le2) (v1 := v1) (v2 := v2) (v3 := v3) (v4 := v4) (v5 := v5) (hP := P_mid hP)) gL_law_X6_thrown rfl idX6_thrown ⟨Nat.le_of_ble_eq_true rfl, Nat.le_of_ble_eq_true rfl⟩ hP 101 rfl rfl rfl rfl hl.1 rfl (Nat.le_of_ble_eq_true rfl) dL_law_370 ⟨(by show cells + 3 ≤ 601024; omega), (by show slots + 18 ≤ 7293034; omega)⟩ (fun r9 hr9 => ?_)
        subst hr9
        refine lv_iload hx hb dL_law_373 (lv_at hl 1 rfl) ?_
        refine lv_icmp_eq (tgt := 380) hx hb dL_law_375 (by decide) (fun c_10 => ?_) (fun c_10 => ?_)
        · replace c_10 := cn_eq (a := 0) (b := 0) (by omega) (by omega) c_10
          refine lv_iload hx hb dL_law_380 (lv_at hl 1 rfl) ?_
          refine lv_if_ne (tgt := 397) hx hb dL_law_382 (by decide) (fun c_11 => ?_) (fun c_11 => ?_)
          · replace c_11 := cn_ne (a := 0) (b := 0) (by omega) (by omega) c_11
            exact absurd c_11 (by decide)
          · replace c_11 := cn_eq (a := 0) (b := 0) (by omega) (by omega) c_11
            refine lv_aload_n hx hb dL_law_385 rfl (lv_at hl 5 rfl) ?_
            refine lv_iconst (v := 0) hx hb dL_law_386 (by decide) ?_
            refine lld0 hx hb hkx hP 100 rfl dL_law_387 ?_
            refine lv_iload hx hb dL_law_388 (lv_at hl 0 rfl) ?_
            refine lv_i2l hx hb dL_law_390 rfl ?_
            refine W.lcmp hx hb dL_law_391 ?_
            rw [lg_self]
            refine lv_if_eq (tgt := 397) hx hb dL_law_392 (by decide) (fun c_12 => ?_) (fun c_12 => ?_)
            · replace c_12 := cn_eq (a := 0) (b := 0) (by omega) (by omega) c_12
              refine lv_goto (tgt := 2069) hx hb dL_law_397 (by decide) ?_
              refine W.widen (k := cells + 3) (n := slots + 18) (by omega) (by omega) ?_
              exact hnext _ _ _ ⟨a, N, (va_up Z 4 (upd (Z 4) (tn (xs ((6 * j) + 2))) (Z 4 (tn (xs ((6 * j) + 2))) ^^^ ((1 : Int32) <<< ((xs ((6 * j) + 1)) &&& 31))))), (svB sc b), (psh sc M N), (psh sc Y Z), (svC sc), tx, L, cu, er, le, nb, nc, (mPu mm (tn (xs ((6 * j) + 1))) (tn (xs ((6 * j) + 2))) true), (svP sc pp mm), 0, ac, ea, le2, v1, v2, v3, v4, v5, (Int32.toInt64 (allW (va_up Z 4 (upd (Z 4) (tn (xs ((6 * j) + 2))) (Z 4 (tn (xs ((6 * j) + 2))) ^^^ ((1 : Int32) <<< ((xs ((6 * j) + 1)) &&& 31))))) (xs ((6 * j) + 1)) (N 0))), fd, (t_put hT hF), hX, hP, hD⟩ hS (lv_sub hl [2, 3, 4, 5, 6, 7] rfl)
            · replace c_12 := cn_ne (a := 0) (b := 0) (by omega) (by omega) c_12
              exact absurd c_12 (by decide)
        · replace c_10 := cn_ne (a := 0) (b := 0) (by omega) (by omega) c_10
          exact absurd c_10 (by decide)
    · obtain ⟨hP, hD⟩ := fr_hd hP hD hk1 hPc (List.Perm.refl _)
      have hc0 := (nz_B (le_sq (le_th _ _) (le_sq (le_th _ _) (le_po _))) hF)
      have hP : va_P G vwCl (((wMain T q a N Z b M Y sc tx L cu er le nb nc) ++ [(o, eL T fo)]) ++ ((wMod T r mm pp tx th sc L ac ea le2 v1 v2 v3 v4 v5) ++ [(d, eD T fd)])) H := hP
      have hD : va_D (lA s) (((wMain T q a N Z b M Y sc tx L cu er le nb nc) ++ [(o, eL T fo)]) ++ ((wMod T r mm pp tx th sc L ac ea le2 v1 v2 v3 v4 v5) ++ [(d, eD T fd)])) := hD
      refine W.eq (g2 := F0 m 335 ls [.int (cmB (sq (thF (xs ((6 * j) + 1)) (nI (N 1))) (sq (thF (xs ((6 * j) + 2)) (nI (N 0))) (poF (bI (decide (¬ cnt1 (Z 4 (tn (xs ((6 * j) + 2)))) (xs ((6 * j) + 1)) = true)))))))]) rfl ?_
      refine lv_istore (lv' := [(6, .int (cmB (sq (thF (xs ((6 * j) + 1)) (nI (N 1))) (sq (thF (xs ((6 * j) + 2)) (nI (N 0))) (poF (bI (decide (¬ cnt1 (Z 4 (tn (xs ((6 * j) + 2)))) (xs ((6 * j) + 1)) = true)))))))), (0, .ref b0), (1, .ref (q 0)), (2, .ref (r 0)), (3, .ref o), (4, .ref d), (5, .int (nI (6 * j)))]) hx hb dL_law_335 hl (by decide) rfl (fun ls hl => ?_)
      refine lv_aload_n hx hb dL_law_337 rfl (lv_at hl 3 rfl) ?_
      refine lv_aload_n hx hb dL_law_338 rfl (lv_at hl 1 rfl) ?_
      refine lv_iload hx hb dL_law_339 (lv_at hl 6 rfl) ?_
      refine lv_iconst (v := 1) hx hb dL_law_341 (by decide) ?_
      refine lv_iadd hx hb dL_law_342 ?_
      rw [show ((nI (6 * j)) + 1) = (nI ((6 * j) + 1)) from nI_add (6 * j) 1]
      refine sld K hS ((6 * j) + 1) rfl (by omega) dL_law_343 ?_
      refine lv_aload_n hx hb dL_law_344 rfl (lv_at hl 1 rfl) ?_
      refine lv_iload hx hb dL_law_345 (lv_at hl 6 rfl) ?_
      refine lv_iconst (v := 2) hx hb dL_law_347 (by decide) ?_
      refine lv_iadd hx hb dL_law_348 ?_
      rw [show ((nI (6 * j)) + 2) = (nI ((6 * j) + 2)) from nI_add (6 * j) 2]
      refine sld K hS ((6 * j) + 2) rfl (by omega) dL_law_349 ?_
      refine lv_aload_n hx hb dL_law_350 rfl (lv_at hl 1 rfl) ?_
      refine lv_iload hx hb dL_law_351 (lv_at hl 6 rfl) ?_
      refine lv_iconst (v := 3) hx hb dL_law_353 (by decide) ?_
      refine lv_iadd hx hb dL_law_354 ?_
      rw [show ((nI (6 * j)) + 3) = (nI ((6 * j) + 3)) from nI_add (6 * j) 3]
      refine sld K hS ((6 * j) + 3) rfl (by omega) dL_law_355 ?_
      refine lv_if_eq (tgt := 363) hx hb dL_law_356 (by decide) (fun c_13 => ?_) (fun c_13 => ?_)
      · skip
        exact absurd c_13 c_1
      · skip
        refine lv_iconst (v := 1) hx hb dL_law_359 (by decide) ?_
        refine lv_goto (tgt := 364) hx hb dL_law_360 (by decide) ?_
        refine mu_V S hkx (mX6_put l (T := T) (r := r) (N := N) (Z := Z) (mm := mm) (pp := pp) (xx := tx) (th := th) (sv := sc) (n1 := L) (ac := ac) (ea := ea) (le := le2) (v1 := v1) (v2 := v2) (v3 := v3) (v4 := v4) (v5 := v5) (f := (xs ((6 * j) + 1))) (v := (xs ((6 * j) + 2))) (h := true) (hP := P_mid hP) (hD := (D_mid hD).weaken (fun _ _ _ _ => trivial)) (hwf := hT.1) (hr := hT.2.1) (hs4 := hT.2.2.2)) gL_law_X6_put rfl idX6_put ⟨Nat.le_of_ble_eq_true rfl, Nat.le_of_ble_eq_true rfl⟩ hP 101 rfl rfl rfl rfl hl.1 rfl (Nat.le_of_ble_eq_true rfl) dL_law_364 ⟨(by show cells + 3 ≤ 601024; omega), (by show slots + 18 ≤ 7293034; omega)⟩ hS (fr_in (D_mid hD) (fun q h => Nat.le_trans hS.1 h)) (fun v H locs hp9 hz1 hk1 hS => ?_)
        obtain ⟨z9, rfl, hp9⟩ := hp9
        have hPm := (hp9.resolve_left (fun h => hF h.1)).2
        obtain ⟨hP, hD⟩ := fr_mid hP hD hk1 hPm rfl
        have hP : va_P G vwCl (((wMain T q a N Z b M Y sc tx L cu er le nb nc) ++ [(o, eL T fo)]) ++ ((wMod T r mm pp tx (cmB (sq (thF (xs ((6 * j) + 1)) (nI (N 1))) (sq (thF (xs ((6 * j) + 2)) (nI (N 0))) (poF (bI (decide (¬ cnt1 (Z 4 (tn (xs ((6 * j) + 2)))) (xs ((6 * j) + 1)) = true))))))) sc L ac ea le2 v1 v2 v3 v4 v5) ++ [(d, eD T fd)])) H := hP
        have hD : va_D (lA s) (((wMain T q a N Z b M Y sc tx L cu er le nb nc) ++ [(o, eL T fo)]) ++ ((wMod T r mm pp tx (cmB (sq (thF (xs ((6 * j) + 1)) (nI (N 1))) (sq (thF (xs ((6 * j) + 2)) (nI (N 0))) (poF (bI (decide (¬ cnt1 (Z 4 (tn (xs ((6 * j) + 2)))) (xs ((6 * j) + 1)) = true))))))) sc L ac ea le2 v1 v2 v3 v4 v5) ++ [(d, eD T fd)])) := hD
        refine W.eq (g2 := F0 m 367 ls [.int z9]) rfl ?_
        refine lv_istore (lv' := [(7, .int z9), (6, .int (cmB (sq (thF (xs ((6 * j) + 1)) (nI (N 1))) (sq (thF (xs ((6 * j) + 2)) (nI (N 0))) (poF (bI (decide (¬ cnt1 (Z 4 (tn (xs ((6 * j) + 2)))) (xs ((6 * j) + 1)) = true)))))))), (0, .ref b0), (1, .ref (q 0)), (2, .ref (r 0)), (3, .ref o), (4, .ref d), (5, .int (nI (6 * j)))]) hx hb dL_law_367 hl (by decide) rfl (fun ls hl => ?_)
        refine lv_aload_n hx hb dL_law_369 rfl (lv_at hl 4 rfl) ?_
        refine ro_V S hkx (mX6_thrown l (T := T) (r := r) (N := N) (Z := Z) (mm := mm) (pp := pp) (xx := tx) (th := (cmB (sq (thF (xs ((6 * j) + 1)) (nI (N 1))) (sq (thF (xs ((6 * j) + 2)) (nI (N 0))) (poF (bI (decide (¬ cnt1 (Z 4 (tn (xs ((6 * j) + 2)))) (xs ((6 * j) + 1)) = true)))))))) (sv := sc) (n1 := L) (ac := ac) (ea := ea) (le := le2) (v1 := v1) (v2 := v2) (v3 := v3) (v4 := v4) (v5 := v5) (hP := P_mid hP)) gL_law_X6_thrown rfl idX6_thrown ⟨Nat.le_of_ble_eq_true rfl, Nat.le_of_ble_eq_true rfl⟩ hP 101 rfl rfl rfl rfl hl.1 rfl (Nat.le_of_ble_eq_true rfl) dL_law_370 ⟨(by show cells + 3 ≤ 601024; omega), (by show slots + 18 ≤ 7293034; omega)⟩ (fun r9 hr9 => ?_)
        subst hr9
        refine lv_iload hx hb dL_law_373 (lv_at hl 1 rfl) ?_
        refine lv_icmp_eq (tgt := 380) hx hb dL_law_375 (by decide) (fun c_14 => ?_) (fun c_14 => ?_)
        · skip
          refine lv_iload hx hb dL_law_380 (lv_at hl 1 rfl) ?_
          refine lv_if_ne (tgt := 397) hx hb dL_law_382 (by decide) (fun c_15 => ?_) (fun c_15 => ?_)
          · skip
            refine lv_goto (tgt := 2069) hx hb dL_law_397 (by decide) ?_
            refine W.widen (k := cells + 3) (n := slots + 18) (by omega) (by omega) ?_
            exact hnext _ _ _ ⟨a, N, Z, b, M, Y, sc, tx, L, cu, er, le, nb, nc, mm, pp, (cmB (sq (thF (xs ((6 * j) + 1)) (nI (N 1))) (sq (thF (xs ((6 * j) + 2)) (nI (N 0))) (poF (bI (decide (¬ cnt1 (Z 4 (tn (xs ((6 * j) + 2)))) (xs ((6 * j) + 1)) = true))))))), ac, ea, le2, v1, v2, v3, v4, v5, fo, fd, hT, hX, hP, hD⟩ hS (lv_sub hl [2, 3, 4, 5, 6, 7] rfl)
          · skip
            exact absurd c_15 hc0
        · skip
          exact absurd rfl c_14

set_option maxHeartbeats 4000000 in
set_option maxRecDepth 100000 in
theorem law_addUser (l : Launch) (hl0 : l.stackTraces = false) {G : va_G} {T : Nat → ClassId} {sa kk vv : Nat → Nat} {p : Program} {e : Env} {s : State} {m : MethodId} {below : List Frame} {meth : Method} {c : Code} {Q : State → Prop} {b0 LL : Nat} {xs : Nat → Int32} {q r : Nat → Nat} {o d : Nat} {a N : Nat → Nat} {Z : Nat → Nat → Int32} {b M : Nat → Nat → Nat} {Y : Nat → Nat → Nat → Int32} {sc : Nat} {tx : Nat → Int32} {L cu : Nat} {er le : Int32} {nb : Nat → Int32} {nc : Nat} {mm pp : Nat → Int32} {th ac ea le2 v1 v2 v3 v4 v5 : Int32} {fo : Int64} {fd : UInt64} {H : Heap} {locs : List Loc} {cells slots j : Nat} {ls : Array Slot} (K : LK G T sa kk vv p s m c b0 LL xs) (hl : lv_has ls 9 [(0, .ref b0), (1, .ref (q 0)), (2, .ref (r 0)), (3, .ref o), (4, .ref d), (5, .int (nI (6 * j)))]) (hj : 6 * j + 5 < LL) (hcs : cells + 3 ≤ 601024) (hss : slots + 18 ≤ 7293034) (hS : va_S (lA s) s.heap H locs) (hT : tie N Z mm M Y pp sc) (hX : txo tx L) (hP : va_P G vwCl (wL T q a N Z b M Y sc tx L cu er le nb nc r mm pp th ac ea le2 v1 v2 v3 v4 v5 o d fo fd) H) (hD : va_D (lA s) (wL T q a N Z b M Y sc tx L cu er le nb nc r mm pp th ac ea le2 v1 v2 v3 v4 v5 o d fo fd)) (hnext : ∀ (H : Heap) (locs : List Loc) (ls : Array Slot), inv G T q r o d (lA s) H → va_S (lA s) s.heap H locs → lv_has ls 9 [(0, .ref b0), (1, .ref (q 0)), (2, .ref (r 0)), (3, .ref o), (4, .ref d), (5, .int (nI (6 * j)))] → W p l e room_1 s m ([.ref b0] : List Value).toArray below meth c H locs (cells + 3) (slots + 18) Q (F0 m 2069 ls [])) : W p l e room_1 s m ([.ref b0] : List Value).toArray below meth c H locs cells slots Q (F0 m 400 ls []) := by
  obtain ⟨S, hkx, -, hnc, -⟩ := id K
  have hx := S.1
  have hb := S.2.1
  have h9 := K.2.2.2.2.2.2.2
  have hX1 := hX.1
  have hP : va_P G vwCl (((wMain T q a N Z b M Y sc tx L cu er le nb nc) ++ [(o, eL T fo)]) ++ ((wMod T r mm pp tx th sc L ac ea le2 v1 v2 v3 v4 v5) ++ [(d, eD T fd)])) H := hP
  have hD : va_D (lA s) (((wMain T q a N Z b M Y sc tx L cu er le nb nc) ++ [(o, eL T fo)]) ++ ((wMod T r mm pp tx th sc L ac ea le2 v1 v2 v3 v4 v5) ++ [(d, eD T fd)])) := hD
  refine lv_aload_n hx hb dL_law_400 rfl (lv_at hl 1 rfl) ?_
  refine lv_aload_n hx hb dL_law_401 rfl (lv_at hl 0 rfl) ?_
  refine lv_iload hx hb dL_law_402 (lv_at hl 5 rfl) ?_
  refine lv_iconst (v := 1) hx hb dL_law_404 (by decide) ?_
  refine lv_iadd hx hb dL_law_405 ?_
  rw [show ((nI (6 * j)) + 1) = (nI ((6 * j) + 1)) from nI_add (6 * j) 1]
  refine sld K hS ((6 * j) + 1) rfl (by omega) dL_law_406 ?_
  refine lv_aload_n hx hb dL_law_407 rfl (lv_at hl 0 rfl) ?_
  refine lv_iload hx hb dL_law_408 (lv_at hl 5 rfl) ?_
  refine lv_iconst (v := 2) hx hb dL_law_410 (by decide) ?_
  refine lv_iadd hx hb dL_law_411 ?_
  rw [show ((nI (6 * j)) + 2) = (nI ((6 * j) + 2)) from nI_add (6 * j) 2]
  refine sld K hS ((6 * j) + 2) rfl (by omega) dL_law_412 ?_
  refine lv_aload_n hx hb dL_law_413 rfl (lv_at hl 3 rfl) ?_
  refine lw_S S hkx (K.2.2.1.kept hS.2.1) hnc (mL_addUser l hl0 (sa := sa) (A9 := lA s) (q := q) (a := a) (N := N) (Z := Z) (b := b) (M := M) (Y := Y) (sc := sc) (tx := tx) (L := L) (cu := cu) (er := er) (le := le) (nb := nb) (nc := nc) (v := (xs ((6 * j) + 1))) (x := (xs ((6 * j) + 2))) (o := o) (fo := fo) (hP := P_hd hP) (hD := (D_hd hD).weaken (fun _ _ _ _ => trivial)) (h9 := (fun q h => Nat.le_trans hS.1 h)) (hwf := hT.1) (hsc := hT.2.2.2)) gL_law_L_addUser rfl idL_addUser ⟨Nat.le_of_ble_eq_true rfl, Nat.le_of_ble_eq_true rfl⟩ rfl hl.1 rfl (Nat.le_of_ble_eq_true rfl) dL_law_414 ⟨(by show cells + 3 ≤ 601024; omega), (by show slots + 18 ≤ 7293034; omega)⟩ hS (fr_in (D_hd hD) (fun q h => Nat.le_trans hS.1 h)) (fun v H locs hp9 hz1 hk1 hS => ?_)
  rcases hp9 with ⟨hF, rfl, hPc⟩ | ⟨hF, rfl, hPc⟩
  · obtain ⟨hP, hD⟩ := fr_hd hP hD hk1 hPc (addr_snoc sv_addr)
    have hP : va_P G vwCl (((wMain T q a (va_up N 2 (N 2 + 1)) (uAdd N Z (xs ((6 * j) + 1)) (xs ((6 * j) + 2))) (svB sc b) (psh sc M N) (psh sc Y Z) (svC sc) tx L cu er le nb nc) ++ [(o, eL T (Int32.toInt64 (nI (N 2))))]) ++ ((wMod T r mm pp tx th sc L ac ea le2 v1 v2 v3 v4 v5) ++ [(d, eD T fd)])) H := hP
    have hD : va_D (lA s) (((wMain T q a (va_up N 2 (N 2 + 1)) (uAdd N Z (xs ((6 * j) + 1)) (xs ((6 * j) + 2))) (svB sc b) (psh sc M N) (psh sc Y Z) (svC sc) tx L cu er le nb nc) ++ [(o, eL T (Int32.toInt64 (nI (N 2))))]) ++ ((wMod T r mm pp tx th sc L ac ea le2 v1 v2 v3 v4 v5) ++ [(d, eD T fd)])) := hD
    refine W.eq (g2 := F0 m 417 ls [.int 0]) rfl ?_
    refine lv_istore (lv' := [(6, .int 0), (0, .ref b0), (1, .ref (q 0)), (2, .ref (r 0)), (3, .ref o), (4, .ref d), (5, .int (nI (6 * j)))]) hx hb dL_law_417 hl (by decide) rfl (fun ls hl => ?_)
    refine lv_aload_n hx hb dL_law_419 rfl (lv_at hl 3 rfl) ?_
    refine lv_aload_n hx hb dL_law_420 rfl (lv_at hl 1 rfl) ?_
    refine lv_iload hx hb dL_law_421 (lv_at hl 6 rfl) ?_
    refine lv_iconst (v := 1) hx hb dL_law_423 (by decide) ?_
    refine lv_iadd hx hb dL_law_424 ?_
    rw [show ((nI (6 * j)) + 1) = (nI ((6 * j) + 1)) from nI_add (6 * j) 1]
    refine sld K hS ((6 * j) + 1) rfl (by omega) dL_law_425 ?_
    refine lv_aload_n hx hb dL_law_426 rfl (lv_at hl 1 rfl) ?_
    refine lv_iload hx hb dL_law_427 (lv_at hl 6 rfl) ?_
    refine lv_iconst (v := 2) hx hb dL_law_429 (by decide) ?_
    refine lv_iadd hx hb dL_law_430 ?_
    rw [show ((nI (6 * j)) + 2) = (nI ((6 * j) + 2)) from nI_add (6 * j) 2]
    refine sld K hS ((6 * j) + 2) rfl (by omega) dL_law_431 ?_
    refine mu_V S hkx (mX6_addUser l (T := T) (r := r) (N := N) (Z := Z) (mm := mm) (pp := pp) (xx := tx) (th := th) (sv := sc) (n1 := L) (ac := ac) (ea := ea) (le := le2) (v1 := v1) (v2 := v2) (v3 := v3) (v4 := v4) (v5 := v5) (v := (xs ((6 * j) + 1))) (x := (xs ((6 * j) + 2))) (hP := P_mid hP) (hD := (D_mid hD).weaken (fun _ _ _ _ => trivial)) (hwf := hT.1) (hr := hT.2.1) (hs4 := hT.2.2.2)) gL_law_X6_addUser rfl idX6_addUser ⟨Nat.le_of_ble_eq_true rfl, Nat.le_of_ble_eq_true rfl⟩ hP 101 rfl rfl rfl rfl hl.1 rfl (Nat.le_of_ble_eq_true rfl) dL_law_432 ⟨(by show cells + 3 ≤ 601024; omega), (by show slots + 18 ≤ 7293034; omega)⟩ hS (fr_in (D_mid hD) (fun q h => Nat.le_trans hS.1 h)) (fun v H locs hp9 hz1 hk1 hS => ?_)
    obtain ⟨z9, rfl, hp9⟩ := hp9
    obtain ⟨-, rfl, hPm⟩ := hp9.resolve_right (fun h => h.1 hF)
    obtain ⟨hP, hD⟩ := fr_mid hP hD hk1 hPm rfl
    have hP : va_P G vwCl (((wMain T q a (va_up N 2 (N 2 + 1)) (uAdd N Z (xs ((6 * j) + 1)) (xs ((6 * j) + 2))) (svB sc b) (psh sc M N) (psh sc Y Z) (svC sc) tx L cu er le nb nc) ++ [(o, eL T (Int32.toInt64 (nI (N 2))))]) ++ ((wMod T r (mAU mm (N 2) (xs ((6 * j) + 1)) (xs ((6 * j) + 2))) (svP sc pp mm) tx 0 (svC sc) L ac ea le2 v1 v2 v3 v4 v5) ++ [(d, eD T fd)])) H := hP
    have hD : va_D (lA s) (((wMain T q a (va_up N 2 (N 2 + 1)) (uAdd N Z (xs ((6 * j) + 1)) (xs ((6 * j) + 2))) (svB sc b) (psh sc M N) (psh sc Y Z) (svC sc) tx L cu er le nb nc) ++ [(o, eL T (Int32.toInt64 (nI (N 2))))]) ++ ((wMod T r (mAU mm (N 2) (xs ((6 * j) + 1)) (xs ((6 * j) + 2))) (svP sc pp mm) tx 0 (svC sc) L ac ea le2 v1 v2 v3 v4 v5) ++ [(d, eD T fd)])) := hD
    refine W.eq (g2 := F0 m 435 ls [.int (nI (N 2))]) rfl ?_
    refine lv_istore (lv' := [(7, .int (nI (N 2))), (6, .int 0), (0, .ref b0), (1, .ref (q 0)), (2, .ref (r 0)), (3, .ref o), (4, .ref d), (5, .int (nI (6 * j)))]) hx hb dL_law_435 hl (by decide) rfl (fun ls hl => ?_)
    refine lv_aload_n hx hb dL_law_437 rfl (lv_at hl 4 rfl) ?_
    refine ro_V S hkx (mX6_thrown l (T := T) (r := r) (N := N) (Z := Z) (mm := (mAU mm (N 2) (xs ((6 * j) + 1)) (xs ((6 * j) + 2)))) (pp := (svP sc pp mm)) (xx := tx) (th := 0) (sv := (svC sc)) (n1 := L) (ac := ac) (ea := ea) (le := le2) (v1 := v1) (v2 := v2) (v3 := v3) (v4 := v4) (v5 := v5) (hP := P_mid hP)) gL_law_X6_thrown rfl idX6_thrown ⟨Nat.le_of_ble_eq_true rfl, Nat.le_of_ble_eq_true rfl⟩ hP 101 rfl rfl rfl rfl hl.1 rfl (Nat.le_of_ble_eq_true rfl) dL_law_438 ⟨(by show cells + 3 ≤ 601024; omega), (by show slots + 18 ≤ 7293034; omega)⟩ (fun r9 hr9 => ?_)
    subst hr9
    refine lv_iload hx hb dL_law_441 (lv_at hl 1 rfl) ?_
    refine lv_icmp_eq (tgt := 448) hx hb dL_law_443 (by decide) (fun c_1 => ?_) (fun c_1 => ?_)
    · replace c_1 := cn_eq (a := 0) (b := 0) (by omega) (by omega) c_1
      refine lv_iload hx hb dL_law_448 (lv_at hl 1 rfl) ?_
      refine lv_if_ne (tgt := 465) hx hb dL_law_450 (by decide) (fun c_2 => ?_) (fun c_2 => ?_)
      · replace c_2 := cn_ne (a := 0) (b := 0) (by omega) (by omega) c_2
        exact absurd c_2 (by decide)
      · replace c_2 := cn_eq (a := 0) (b := 0) (by omega) (by omega) c_2
        refine lv_aload_n hx hb dL_law_453 rfl (lv_at hl 5 rfl) ?_
        refine lv_iconst (v := 0) hx hb dL_law_454 (by decide) ?_
        refine lld0 hx hb hkx hP 100 rfl dL_law_455 ?_
        refine lv_iload hx hb dL_law_456 (lv_at hl 0 rfl) ?_
        refine lv_i2l hx hb dL_law_458 rfl ?_
        refine W.lcmp hx hb dL_law_459 ?_
        rw [lg_self]
        refine lv_if_eq (tgt := 465) hx hb dL_law_460 (by decide) (fun c_3 => ?_) (fun c_3 => ?_)
        · replace c_3 := cn_eq (a := 0) (b := 0) (by omega) (by omega) c_3
          refine lv_goto (tgt := 2069) hx hb dL_law_465 (by decide) ?_
          refine W.widen (k := cells + 3) (n := slots + 18) (by omega) (by omega) ?_
          exact hnext _ _ _ ⟨a, (va_up N 2 (N 2 + 1)), (uAdd N Z (xs ((6 * j) + 1)) (xs ((6 * j) + 2))), (svB sc b), (psh sc M N), (psh sc Y Z), (svC sc), tx, L, cu, er, le, nb, nc, (mAU mm (N 2) (xs ((6 * j) + 1)) (xs ((6 * j) + 2))), (svP sc pp mm), 0, ac, ea, le2, v1, v2, v3, v4, v5, (Int32.toInt64 (nI (N 2))), fd, (t_addUser hT hF), hX, hP, hD⟩ hS (lv_sub hl [2, 3, 4, 5, 6, 7] rfl)
        · replace c_3 := cn_ne (a := 0) (b := 0) (by omega) (by omega) c_3
          exact absurd c_3 (by decide)
    · replace c_1 := cn_ne (a := 0) (b := 0) (by omega) (by omega) c_1
      exact absurd c_1 (by decide)
  · obtain ⟨hP, hD⟩ := fr_hd hP hD hk1 hPc (List.Perm.refl _)
    have hc0 := (nz_I (le_sq (le_th _ _) (le_sq (le_wi _ _ _) (le_po _))) hF)
    have hP : va_P G vwCl (((wMain T q a N Z b M Y sc tx L cu er le nb nc) ++ [(o, eL T fo)]) ++ ((wMod T r mm pp tx th sc L ac ea le2 v1 v2 v3 v4 v5) ++ [(d, eD T fd)])) H := hP
    have hD : va_D (lA s) (((wMain T q a N Z b M Y sc tx L cu er le nb nc) ++ [(o, eL T fo)]) ++ ((wMod T r mm pp tx th sc L ac ea le2 v1 v2 v3 v4 v5) ++ [(d, eD T fd)])) := hD
    refine W.eq (g2 := F0 m 417 ls [.int (cmI (sq (thF (xs ((6 * j) + 1)) (nI (N 0))) (sq (seF (xs ((6 * j) + 2)) (nI (N 1))) (poF (bI (decide (N 2 < 10)))))))]) rfl ?_
    refine lv_istore (lv' := [(6, .int (cmI (sq (thF (xs ((6 * j) + 1)) (nI (N 0))) (sq (seF (xs ((6 * j) + 2)) (nI (N 1))) (poF (bI (decide (N 2 < 10)))))))), (0, .ref b0), (1, .ref (q 0)), (2, .ref (r 0)), (3, .ref o), (4, .ref d), (5, .int (nI (6 * j)))]) hx hb dL_law_417 hl (by decide) rfl (fun ls hl => ?_)
    refine lv_aload_n hx hb dL_law_419 rfl (lv_at hl 3 rfl) ?_
    refine lv_aload_n hx hb dL_law_420 rfl (lv_at hl 1 rfl) ?_
    refine lv_iload hx hb dL_law_421 (lv_at hl 6 rfl) ?_
    refine lv_iconst (v := 1) hx hb dL_law_423 (by decide) ?_
    refine lv_iadd hx hb dL_law_424 ?_
    rw [show ((nI (6 * j)) + 1) = (nI ((6 * j) + 1)) from nI_add (6 * j) 1]
    refine sld K hS ((6 * j) + 1) rfl (by omega) dL_law_425 ?_
    refine lv_aload_n hx hb dL_law_426 rfl (lv_at hl 1 rfl) ?_
    refine lv_iload hx hb dL_law_427 (lv_at hl 6 rfl) ?_
    refine lv_iconst (v := 2) hx hb dL_law_429 (by decide) ?_
    refine lv_iadd hx hb dL_law_430 ?_
    rw [show ((nI (6 * j)) + 2) = (nI ((6 * j) + 2)) from nI_add (6 * j) 2]
    refine sld K hS ((6 * j) + 2) rfl (by omega) dL_law_431 ?_
    refine mu_V S hkx (mX6_addUser l (T := T) (r := r) (N := N) (Z := Z) (mm := mm) (pp := pp) (xx := tx) (th := th) (sv := sc) (n1 := L) (ac := ac) (ea := ea) (le := le2) (v1 := v1) (v2 := v2) (v3 := v3) (v4 := v4) (v5 := v5) (v := (xs ((6 * j) + 1))) (x := (xs ((6 * j) + 2))) (hP := P_mid hP) (hD := (D_mid hD).weaken (fun _ _ _ _ => trivial)) (hwf := hT.1) (hr := hT.2.1) (hs4 := hT.2.2.2)) gL_law_X6_addUser rfl idX6_addUser ⟨Nat.le_of_ble_eq_true rfl, Nat.le_of_ble_eq_true rfl⟩ hP 101 rfl rfl rfl rfl hl.1 rfl (Nat.le_of_ble_eq_true rfl) dL_law_432 ⟨(by show cells + 3 ≤ 601024; omega), (by show slots + 18 ≤ 7293034; omega)⟩ hS (fr_in (D_mid hD) (fun q h => Nat.le_trans hS.1 h)) (fun v H locs hp9 hz1 hk1 hS => ?_)
    obtain ⟨z9, rfl, hp9⟩ := hp9
    have hPm := (hp9.resolve_left (fun h => hF h.1)).2
    obtain ⟨hP, hD⟩ := fr_mid hP hD hk1 hPm rfl
    have hP : va_P G vwCl (((wMain T q a N Z b M Y sc tx L cu er le nb nc) ++ [(o, eL T fo)]) ++ ((wMod T r mm pp tx (cmI (sq (thF (xs ((6 * j) + 1)) (nI (N 0))) (sq (seF (xs ((6 * j) + 2)) (nI (N 1))) (poF (bI (decide (N 2 < 10))))))) sc L ac ea le2 v1 v2 v3 v4 v5) ++ [(d, eD T fd)])) H := hP
    have hD : va_D (lA s) (((wMain T q a N Z b M Y sc tx L cu er le nb nc) ++ [(o, eL T fo)]) ++ ((wMod T r mm pp tx (cmI (sq (thF (xs ((6 * j) + 1)) (nI (N 0))) (sq (seF (xs ((6 * j) + 2)) (nI (N 1))) (poF (bI (decide (N 2 < 10))))))) sc L ac ea le2 v1 v2 v3 v4 v5) ++ [(d, eD T fd)])) := hD
    refine W.eq (g2 := F0 m 435 ls [.int z9]) rfl ?_
    refine lv_istore (lv' := [(7, .int z9), (6, .int (cmI (sq (thF (xs ((6 * j) + 1)) (nI (N 0))) (sq (seF (xs ((6 * j) + 2)) (nI (N 1))) (poF (bI (decide (N 2 < 10)))))))), (0, .ref b0), (1, .ref (q 0)), (2, .ref (r 0)), (3, .ref o), (4, .ref d), (5, .int (nI (6 * j)))]) hx hb dL_law_435 hl (by decide) rfl (fun ls hl => ?_)
    refine lv_aload_n hx hb dL_law_437 rfl (lv_at hl 4 rfl) ?_
    refine ro_V S hkx (mX6_thrown l (T := T) (r := r) (N := N) (Z := Z) (mm := mm) (pp := pp) (xx := tx) (th := (cmI (sq (thF (xs ((6 * j) + 1)) (nI (N 0))) (sq (seF (xs ((6 * j) + 2)) (nI (N 1))) (poF (bI (decide (N 2 < 10)))))))) (sv := sc) (n1 := L) (ac := ac) (ea := ea) (le := le2) (v1 := v1) (v2 := v2) (v3 := v3) (v4 := v4) (v5 := v5) (hP := P_mid hP)) gL_law_X6_thrown rfl idX6_thrown ⟨Nat.le_of_ble_eq_true rfl, Nat.le_of_ble_eq_true rfl⟩ hP 101 rfl rfl rfl rfl hl.1 rfl (Nat.le_of_ble_eq_true rfl) dL_law_438 ⟨(by show cells + 3 ≤ 601024; omega), (by show slots + 18 ≤ 7293034; omega)⟩ (fun r9 hr9 => ?_)
    subst hr9
    refine lv_iload hx hb dL_law_441 (lv_at hl 1 rfl) ?_
    refine lv_icmp_eq (tgt := 448) hx hb dL_law_443 (by decide) (fun c_4 => ?_) (fun c_4 => ?_)
    · skip
      refine lv_iload hx hb dL_law_448 (lv_at hl 1 rfl) ?_
      refine lv_if_ne (tgt := 465) hx hb dL_law_450 (by decide) (fun c_5 => ?_) (fun c_5 => ?_)
      · skip
        refine lv_goto (tgt := 2069) hx hb dL_law_465 (by decide) ?_
        refine W.widen (k := cells + 3) (n := slots + 18) (by omega) (by omega) ?_
        exact hnext _ _ _ ⟨a, N, Z, b, M, Y, sc, tx, L, cu, er, le, nb, nc, mm, pp, (cmI (sq (thF (xs ((6 * j) + 1)) (nI (N 0))) (sq (seF (xs ((6 * j) + 2)) (nI (N 1))) (poF (bI (decide (N 2 < 10))))))), ac, ea, le2, v1, v2, v3, v4, v5, fo, fd, hT, hX, hP, hD⟩ hS (lv_sub hl [2, 3, 4, 5, 6, 7] rfl)
      · skip
        exact absurd c_5 hc0
    · skip
      exact absurd rfl c_4

set_option maxHeartbeats 4000000 in
set_option maxRecDepth 100000 in
theorem law_pledge (l : Launch) (hl0 : l.stackTraces = false) {G : va_G} {T : Nat → ClassId} {sa kk vv : Nat → Nat} {p : Program} {e : Env} {s : State} {m : MethodId} {below : List Frame} {meth : Method} {c : Code} {Q : State → Prop} {b0 LL : Nat} {xs : Nat → Int32} {q r : Nat → Nat} {o d : Nat} {a N : Nat → Nat} {Z : Nat → Nat → Int32} {b M : Nat → Nat → Nat} {Y : Nat → Nat → Nat → Int32} {sc : Nat} {tx : Nat → Int32} {L cu : Nat} {er le : Int32} {nb : Nat → Int32} {nc : Nat} {mm pp : Nat → Int32} {th ac ea le2 v1 v2 v3 v4 v5 : Int32} {fo : Int64} {fd : UInt64} {H : Heap} {locs : List Loc} {cells slots j : Nat} {ls : Array Slot} (K : LK G T sa kk vv p s m c b0 LL xs) (hl : lv_has ls 9 [(0, .ref b0), (1, .ref (q 0)), (2, .ref (r 0)), (3, .ref o), (4, .ref d), (5, .int (nI (6 * j)))]) (hj : 6 * j + 5 < LL) (hcs : cells + 3 ≤ 601024) (hss : slots + 18 ≤ 7293034) (hS : va_S (lA s) s.heap H locs) (hT : tie N Z mm M Y pp sc) (hX : txo tx L) (hP : va_P G vwCl (wL T q a N Z b M Y sc tx L cu er le nb nc r mm pp th ac ea le2 v1 v2 v3 v4 v5 o d fo fd) H) (hD : va_D (lA s) (wL T q a N Z b M Y sc tx L cu er le nb nc r mm pp th ac ea le2 v1 v2 v3 v4 v5 o d fo fd)) (hnext : ∀ (H : Heap) (locs : List Loc) (ls : Array Slot), inv G T q r o d (lA s) H → va_S (lA s) s.heap H locs → lv_has ls 9 [(0, .ref b0), (1, .ref (q 0)), (2, .ref (r 0)), (3, .ref o), (4, .ref d), (5, .int (nI (6 * j)))] → W p l e room_1 s m ([.ref b0] : List Value).toArray below meth c H locs (cells + 3) (slots + 18) Q (F0 m 2069 ls [])) : W p l e room_1 s m ([.ref b0] : List Value).toArray below meth c H locs cells slots Q (F0 m 468 ls []) := by
  obtain ⟨S, hkx, -, hnc, -⟩ := id K
  have hx := S.1
  have hb := S.2.1
  have h9 := K.2.2.2.2.2.2.2
  have hX1 := hX.1
  have hP : va_P G vwCl (((wMain T q a N Z b M Y sc tx L cu er le nb nc) ++ [(o, eL T fo)]) ++ ((wMod T r mm pp tx th sc L ac ea le2 v1 v2 v3 v4 v5) ++ [(d, eD T fd)])) H := hP
  have hD : va_D (lA s) (((wMain T q a N Z b M Y sc tx L cu er le nb nc) ++ [(o, eL T fo)]) ++ ((wMod T r mm pp tx th sc L ac ea le2 v1 v2 v3 v4 v5) ++ [(d, eD T fd)])) := hD
  refine lv_aload_n hx hb dL_law_468 rfl (lv_at hl 1 rfl) ?_
  refine lv_aload_n hx hb dL_law_469 rfl (lv_at hl 0 rfl) ?_
  refine lv_iload hx hb dL_law_470 (lv_at hl 5 rfl) ?_
  refine lv_iconst (v := 1) hx hb dL_law_472 (by decide) ?_
  refine lv_iadd hx hb dL_law_473 ?_
  rw [show ((nI (6 * j)) + 1) = (nI ((6 * j) + 1)) from nI_add (6 * j) 1]
  refine sld K hS ((6 * j) + 1) rfl (by omega) dL_law_474 ?_
  refine lv_aload_n hx hb dL_law_475 rfl (lv_at hl 0 rfl) ?_
  refine lv_iload hx hb dL_law_476 (lv_at hl 5 rfl) ?_
  refine lv_iconst (v := 2) hx hb dL_law_478 (by decide) ?_
  refine lv_iadd hx hb dL_law_479 ?_
  rw [show ((nI (6 * j)) + 2) = (nI ((6 * j) + 2)) from nI_add (6 * j) 2]
  refine sld K hS ((6 * j) + 2) rfl (by omega) dL_law_480 ?_
  refine lv_aload_n hx hb dL_law_481 rfl (lv_at hl 0 rfl) ?_
  refine lv_iload hx hb dL_law_482 (lv_at hl 5 rfl) ?_
  refine lv_iconst (v := 3) hx hb dL_law_484 (by decide) ?_
  refine lv_iadd hx hb dL_law_485 ?_
  rw [show ((nI (6 * j)) + 3) = (nI ((6 * j) + 3)) from nI_add (6 * j) 3]
  refine sld K hS ((6 * j) + 3) rfl (by omega) dL_law_486 ?_
  refine lv_aload_n hx hb dL_law_487 rfl (lv_at hl 3 rfl) ?_
  refine lw_S S hkx (K.2.2.1.kept hS.2.1) hnc (mL_pledge l hl0 (sa := sa) (A9 := lA s) (q := q) (a := a) (N := N) (Z := Z) (b := b) (M := M) (Y := Y) (sc := sc) (tx := tx) (L := L) (cu := cu) (er := er) (le := le) (nb := nb) (nc := nc) (u := (xs ((6 * j) + 1))) (v := (xs ((6 * j) + 2))) (d := (xs ((6 * j) + 3))) (o := o) (fo := fo) (hP := P_hd hP) (hD := (D_hd hD).weaken (fun _ _ _ _ => trivial)) (h9 := (fun q h => Nat.le_trans hS.1 h)) (hwf := hT.1) (hsc := hT.2.2.2)) gL_law_L_pledge rfl idL_pledge ⟨Nat.le_of_ble_eq_true rfl, Nat.le_of_ble_eq_true rfl⟩ rfl hl.1 rfl (Nat.le_of_ble_eq_true rfl) dL_law_488 ⟨(by show cells + 1 ≤ 601024; omega), (by show slots + 6 ≤ 7293034; omega)⟩ hS (fr_in (D_hd hD) (fun q h => Nat.le_trans hS.1 h)) (fun v H locs hp9 hz1 hk1 hS => ?_)
  rcases hp9 with ⟨hF, rfl, hPc⟩ | ⟨hF, rfl, hPc⟩
  · obtain ⟨hP, hD⟩ := fr_hd hP hD hk1 hPc (addr_snoc sv_addr)
    have hP : va_P G vwCl (((wMain T q a N (uPl Z (tn (xs ((6 * j) + 1))) (xs ((6 * j) + 2)) (xs ((6 * j) + 3))) (svB sc b) (psh sc M N) (psh sc Y Z) (svC sc) tx L cu er le nb nc) ++ [(o, eL T (Int32.toInt64 (Z 8 (tn (xs ((6 * j) + 1))))))]) ++ ((wMod T r mm pp tx th sc L ac ea le2 v1 v2 v3 v4 v5) ++ [(d, eD T fd)])) H := hP
    have hD : va_D (lA s) (((wMain T q a N (uPl Z (tn (xs ((6 * j) + 1))) (xs ((6 * j) + 2)) (xs ((6 * j) + 3))) (svB sc b) (psh sc M N) (psh sc Y Z) (svC sc) tx L cu er le nb nc) ++ [(o, eL T (Int32.toInt64 (Z 8 (tn (xs ((6 * j) + 1))))))]) ++ ((wMod T r mm pp tx th sc L ac ea le2 v1 v2 v3 v4 v5) ++ [(d, eD T fd)])) := hD
    refine W.eq (g2 := F0 m 491 ls [.int 0]) rfl ?_
    refine lv_istore (lv' := [(6, .int 0), (0, .ref b0), (1, .ref (q 0)), (2, .ref (r 0)), (3, .ref o), (4, .ref d), (5, .int (nI (6 * j)))]) hx hb dL_law_491 hl (by decide) rfl (fun ls hl => ?_)
    refine lv_aload_n hx hb dL_law_493 rfl (lv_at hl 3 rfl) ?_
    refine lv_aload_n hx hb dL_law_494 rfl (lv_at hl 1 rfl) ?_
    refine lv_iload hx hb dL_law_495 (lv_at hl 6 rfl) ?_
    refine lv_iconst (v := 1) hx hb dL_law_497 (by decide) ?_
    refine lv_iadd hx hb dL_law_498 ?_
    rw [show ((nI (6 * j)) + 1) = (nI ((6 * j) + 1)) from nI_add (6 * j) 1]
    refine sld K hS ((6 * j) + 1) rfl (by omega) dL_law_499 ?_
    refine lv_aload_n hx hb dL_law_500 rfl (lv_at hl 1 rfl) ?_
    refine lv_iload hx hb dL_law_501 (lv_at hl 6 rfl) ?_
    refine lv_iconst (v := 2) hx hb dL_law_503 (by decide) ?_
    refine lv_iadd hx hb dL_law_504 ?_
    rw [show ((nI (6 * j)) + 2) = (nI ((6 * j) + 2)) from nI_add (6 * j) 2]
    refine sld K hS ((6 * j) + 2) rfl (by omega) dL_law_505 ?_
    refine lv_aload_n hx hb dL_law_506 rfl (lv_at hl 1 rfl) ?_
    refine lv_iload hx hb dL_law_507 (lv_at hl 6 rfl) ?_
    refine lv_iconst (v := 3) hx hb dL_law_509 (by decide) ?_
    refine lv_iadd hx hb dL_law_510 ?_
    rw [show ((nI (6 * j)) + 3) = (nI ((6 * j) + 3)) from nI_add (6 * j) 3]
    refine sld K hS ((6 * j) + 3) rfl (by omega) dL_law_511 ?_
    refine mu_V S hkx (mX6_pledge l (T := T) (r := r) (N := N) (Z := Z) (mm := mm) (pp := pp) (xx := tx) (th := th) (sv := sc) (n1 := L) (ac := ac) (ea := ea) (le := le2) (v1 := v1) (v2 := v2) (v3 := v3) (v4 := v4) (v5 := v5) (u := (xs ((6 * j) + 1))) (v := (xs ((6 * j) + 2))) (d := (xs ((6 * j) + 3))) (hP := P_mid hP) (hD := (D_mid hD).weaken (fun _ _ _ _ => trivial)) (hwf := hT.1) (hr := hT.2.1) (hs4 := hT.2.2.2)) gL_law_X6_pledge rfl idX6_pledge ⟨Nat.le_of_ble_eq_true rfl, Nat.le_of_ble_eq_true rfl⟩ hP 101 rfl rfl rfl rfl hl.1 rfl (Nat.le_of_ble_eq_true rfl) dL_law_512 ⟨(by show cells + 1 ≤ 601024; omega), (by show slots + 6 ≤ 7293034; omega)⟩ hS (fr_in (D_mid hD) (fun q h => Nat.le_trans hS.1 h)) (fun v H locs hp9 hz1 hk1 hS => ?_)
    obtain ⟨z9, rfl, hp9⟩ := hp9
    obtain ⟨-, rfl, hPm⟩ := hp9.resolve_right (fun h => h.1 hF)
    obtain ⟨hP, hD⟩ := fr_mid hP hD hk1 hPm rfl
    have hP : va_P G vwCl (((wMain T q a N (uPl Z (tn (xs ((6 * j) + 1))) (xs ((6 * j) + 2)) (xs ((6 * j) + 3))) (svB sc b) (psh sc M N) (psh sc Y Z) (svC sc) tx L cu er le nb nc) ++ [(o, eL T (Int32.toInt64 (Z 8 (tn (xs ((6 * j) + 1))))))]) ++ ((wMod T r (mPl mm (tn (xs ((6 * j) + 1))) (xs ((6 * j) + 2)) (xs ((6 * j) + 3))) (svP sc pp mm) tx 0 (svC sc) L ac ea le2 v1 v2 v3 v4 v5) ++ [(d, eD T fd)])) H := hP
    have hD : va_D (lA s) (((wMain T q a N (uPl Z (tn (xs ((6 * j) + 1))) (xs ((6 * j) + 2)) (xs ((6 * j) + 3))) (svB sc b) (psh sc M N) (psh sc Y Z) (svC sc) tx L cu er le nb nc) ++ [(o, eL T (Int32.toInt64 (Z 8 (tn (xs ((6 * j) + 1))))))]) ++ ((wMod T r (mPl mm (tn (xs ((6 * j) + 1))) (xs ((6 * j) + 2)) (xs ((6 * j) + 3))) (svP sc pp mm) tx 0 (svC sc) L ac ea le2 v1 v2 v3 v4 v5) ++ [(d, eD T fd)])) := hD
    refine W.eq (g2 := F0 m 515 ls [.int (Z 8 (tn (xs ((6 * j) + 1))))]) rfl ?_
    refine lv_istore (lv' := [(7, .int (Z 8 (tn (xs ((6 * j) + 1))))), (6, .int 0), (0, .ref b0), (1, .ref (q 0)), (2, .ref (r 0)), (3, .ref o), (4, .ref d), (5, .int (nI (6 * j)))]) hx hb dL_law_515 hl (by decide) rfl (fun ls hl => ?_)
    refine lv_aload_n hx hb dL_law_517 rfl (lv_at hl 4 rfl) ?_
    refine ro_V S hkx (mX6_thrown l (T := T) (r := r) (N := N) (Z := Z) (mm := (mPl mm (tn (xs ((6 * j) + 1))) (xs ((6 * j) + 2)) (xs ((6 * j) + 3)))) (pp := (svP sc pp mm)) (xx := tx) (th := 0) (sv := (svC sc)) (n1 := L) (ac := ac) (ea := ea) (le := le2) (v1 := v1) (v2 := v2) (v3 := v3) (v4 := v4) (v5 := v5) (hP := P_mid hP)) gL_law_X6_thrown rfl idX6_thrown ⟨Nat.le_of_ble_eq_true rfl, Nat.le_of_ble_eq_true rfl⟩ hP 101 rfl rfl rfl rfl hl.1 rfl (Nat.le_of_ble_eq_true rfl) dL_law_518 ⟨(by show cells + 1 ≤ 601024; omega), (by show slots + 6 ≤ 7293034; omega)⟩ (fun r9 hr9 => ?_)
    subst hr9
    refine lv_iload hx hb dL_law_521 (lv_at hl 1 rfl) ?_
    refine lv_icmp_eq (tgt := 528) hx hb dL_law_523 (by decide) (fun c_1 => ?_) (fun c_1 => ?_)
    · replace c_1 := cn_eq (a := 0) (b := 0) (by omega) (by omega) c_1
      refine lv_iload hx hb dL_law_528 (lv_at hl 1 rfl) ?_
      refine lv_if_ne (tgt := 545) hx hb dL_law_530 (by decide) (fun c_2 => ?_) (fun c_2 => ?_)
      · replace c_2 := cn_ne (a := 0) (b := 0) (by omega) (by omega) c_2
        exact absurd c_2 (by decide)
      · replace c_2 := cn_eq (a := 0) (b := 0) (by omega) (by omega) c_2
        refine lv_aload_n hx hb dL_law_533 rfl (lv_at hl 5 rfl) ?_
        refine lv_iconst (v := 0) hx hb dL_law_534 (by decide) ?_
        refine lld0 hx hb hkx hP 100 rfl dL_law_535 ?_
        refine lv_iload hx hb dL_law_536 (lv_at hl 0 rfl) ?_
        refine lv_i2l hx hb dL_law_538 rfl ?_
        refine W.lcmp hx hb dL_law_539 ?_
        rw [lg_self]
        refine lv_if_eq (tgt := 545) hx hb dL_law_540 (by decide) (fun c_3 => ?_) (fun c_3 => ?_)
        · replace c_3 := cn_eq (a := 0) (b := 0) (by omega) (by omega) c_3
          refine lv_goto (tgt := 2069) hx hb dL_law_545 (by decide) ?_
          refine W.widen (k := cells + 3) (n := slots + 18) (by omega) (by omega) ?_
          exact hnext _ _ _ ⟨a, N, (uPl Z (tn (xs ((6 * j) + 1))) (xs ((6 * j) + 2)) (xs ((6 * j) + 3))), (svB sc b), (psh sc M N), (psh sc Y Z), (svC sc), tx, L, cu, er, le, nb, nc, (mPl mm (tn (xs ((6 * j) + 1))) (xs ((6 * j) + 2)) (xs ((6 * j) + 3))), (svP sc pp mm), 0, ac, ea, le2, v1, v2, v3, v4, v5, (Int32.toInt64 (Z 8 (tn (xs ((6 * j) + 1))))), fd, (t_pledge hT hF), hX, hP, hD⟩ hS (lv_sub hl [2, 3, 4, 5, 6, 7] rfl)
        · replace c_3 := cn_ne (a := 0) (b := 0) (by omega) (by omega) c_3
          exact absurd c_3 (by decide)
    · replace c_1 := cn_ne (a := 0) (b := 0) (by omega) (by omega) c_1
      exact absurd c_1 (by decide)
  · obtain ⟨hP, hD⟩ := fr_hd hP hD hk1 hPc (List.Perm.refl _)
    have hc0 := (nz_I (le_rf _) hF)
    have hP : va_P G vwCl (((wMain T q a N Z b M Y sc tx L cu er le nb nc) ++ [(o, eL T fo)]) ++ ((wMod T r mm pp tx th sc L ac ea le2 v1 v2 v3 v4 v5) ++ [(d, eD T fd)])) H := hP
    have hD : va_D (lA s) (((wMain T q a N Z b M Y sc tx L cu er le nb nc) ++ [(o, eL T fo)]) ++ ((wMod T r mm pp tx th sc L ac ea le2 v1 v2 v3 v4 v5) ++ [(d, eD T fd)])) := hD
    refine W.eq (g2 := F0 m 491 ls [.int (cmI (rfF (plF N (xs ((6 * j) + 1)) (xs ((6 * j) + 2)) (xs ((6 * j) + 3)))))]) rfl ?_
    refine lv_istore (lv' := [(6, .int (cmI (rfF (plF N (xs ((6 * j) + 1)) (xs ((6 * j) + 2)) (xs ((6 * j) + 3)))))), (0, .ref b0), (1, .ref (q 0)), (2, .ref (r 0)), (3, .ref o), (4, .ref d), (5, .int (nI (6 * j)))]) hx hb dL_law_491 hl (by decide) rfl (fun ls hl => ?_)
    refine lv_aload_n hx hb dL_law_493 rfl (lv_at hl 3 rfl) ?_
    refine lv_aload_n hx hb dL_law_494 rfl (lv_at hl 1 rfl) ?_
    refine lv_iload hx hb dL_law_495 (lv_at hl 6 rfl) ?_
    refine lv_iconst (v := 1) hx hb dL_law_497 (by decide) ?_
    refine lv_iadd hx hb dL_law_498 ?_
    rw [show ((nI (6 * j)) + 1) = (nI ((6 * j) + 1)) from nI_add (6 * j) 1]
    refine sld K hS ((6 * j) + 1) rfl (by omega) dL_law_499 ?_
    refine lv_aload_n hx hb dL_law_500 rfl (lv_at hl 1 rfl) ?_
    refine lv_iload hx hb dL_law_501 (lv_at hl 6 rfl) ?_
    refine lv_iconst (v := 2) hx hb dL_law_503 (by decide) ?_
    refine lv_iadd hx hb dL_law_504 ?_
    rw [show ((nI (6 * j)) + 2) = (nI ((6 * j) + 2)) from nI_add (6 * j) 2]
    refine sld K hS ((6 * j) + 2) rfl (by omega) dL_law_505 ?_
    refine lv_aload_n hx hb dL_law_506 rfl (lv_at hl 1 rfl) ?_
    refine lv_iload hx hb dL_law_507 (lv_at hl 6 rfl) ?_
    refine lv_iconst (v := 3) hx hb dL_law_509 (by decide) ?_
    refine lv_iadd hx hb dL_law_510 ?_
    rw [show ((nI (6 * j)) + 3) = (nI ((6 * j) + 3)) from nI_add (6 * j) 3]
    refine sld K hS ((6 * j) + 3) rfl (by omega) dL_law_511 ?_
    refine mu_V S hkx (mX6_pledge l (T := T) (r := r) (N := N) (Z := Z) (mm := mm) (pp := pp) (xx := tx) (th := th) (sv := sc) (n1 := L) (ac := ac) (ea := ea) (le := le2) (v1 := v1) (v2 := v2) (v3 := v3) (v4 := v4) (v5 := v5) (u := (xs ((6 * j) + 1))) (v := (xs ((6 * j) + 2))) (d := (xs ((6 * j) + 3))) (hP := P_mid hP) (hD := (D_mid hD).weaken (fun _ _ _ _ => trivial)) (hwf := hT.1) (hr := hT.2.1) (hs4 := hT.2.2.2)) gL_law_X6_pledge rfl idX6_pledge ⟨Nat.le_of_ble_eq_true rfl, Nat.le_of_ble_eq_true rfl⟩ hP 101 rfl rfl rfl rfl hl.1 rfl (Nat.le_of_ble_eq_true rfl) dL_law_512 ⟨(by show cells + 1 ≤ 601024; omega), (by show slots + 6 ≤ 7293034; omega)⟩ hS (fr_in (D_mid hD) (fun q h => Nat.le_trans hS.1 h)) (fun v H locs hp9 hz1 hk1 hS => ?_)
    obtain ⟨z9, rfl, hp9⟩ := hp9
    have hPm := (hp9.resolve_left (fun h => hF h.1)).2
    obtain ⟨hP, hD⟩ := fr_mid hP hD hk1 hPm rfl
    have hP : va_P G vwCl (((wMain T q a N Z b M Y sc tx L cu er le nb nc) ++ [(o, eL T fo)]) ++ ((wMod T r mm pp tx (cmI (rfF (plF N (xs ((6 * j) + 1)) (xs ((6 * j) + 2)) (xs ((6 * j) + 3))))) sc L ac ea le2 v1 v2 v3 v4 v5) ++ [(d, eD T fd)])) H := hP
    have hD : va_D (lA s) (((wMain T q a N Z b M Y sc tx L cu er le nb nc) ++ [(o, eL T fo)]) ++ ((wMod T r mm pp tx (cmI (rfF (plF N (xs ((6 * j) + 1)) (xs ((6 * j) + 2)) (xs ((6 * j) + 3))))) sc L ac ea le2 v1 v2 v3 v4 v5) ++ [(d, eD T fd)])) := hD
    refine W.eq (g2 := F0 m 515 ls [.int z9]) rfl ?_
    refine lv_istore (lv' := [(7, .int z9), (6, .int (cmI (rfF (plF N (xs ((6 * j) + 1)) (xs ((6 * j) + 2)) (xs ((6 * j) + 3)))))), (0, .ref b0), (1, .ref (q 0)), (2, .ref (r 0)), (3, .ref o), (4, .ref d), (5, .int (nI (6 * j)))]) hx hb dL_law_515 hl (by decide) rfl (fun ls hl => ?_)
    refine lv_aload_n hx hb dL_law_517 rfl (lv_at hl 4 rfl) ?_
    refine ro_V S hkx (mX6_thrown l (T := T) (r := r) (N := N) (Z := Z) (mm := mm) (pp := pp) (xx := tx) (th := (cmI (rfF (plF N (xs ((6 * j) + 1)) (xs ((6 * j) + 2)) (xs ((6 * j) + 3)))))) (sv := sc) (n1 := L) (ac := ac) (ea := ea) (le := le2) (v1 := v1) (v2 := v2) (v3 := v3) (v4 := v4) (v5 := v5) (hP := P_mid hP)) gL_law_X6_thrown rfl idX6_thrown ⟨Nat.le_of_ble_eq_true rfl, Nat.le_of_ble_eq_true rfl⟩ hP 101 rfl rfl rfl rfl hl.1 rfl (Nat.le_of_ble_eq_true rfl) dL_law_518 ⟨(by show cells + 1 ≤ 601024; omega), (by show slots + 6 ≤ 7293034; omega)⟩ (fun r9 hr9 => ?_)
    subst hr9
    refine lv_iload hx hb dL_law_521 (lv_at hl 1 rfl) ?_
    refine lv_icmp_eq (tgt := 528) hx hb dL_law_523 (by decide) (fun c_4 => ?_) (fun c_4 => ?_)
    · skip
      refine lv_iload hx hb dL_law_528 (lv_at hl 1 rfl) ?_
      refine lv_if_ne (tgt := 545) hx hb dL_law_530 (by decide) (fun c_5 => ?_) (fun c_5 => ?_)
      · skip
        refine lv_goto (tgt := 2069) hx hb dL_law_545 (by decide) ?_
        refine W.widen (k := cells + 3) (n := slots + 18) (by omega) (by omega) ?_
        exact hnext _ _ _ ⟨a, N, Z, b, M, Y, sc, tx, L, cu, er, le, nb, nc, mm, pp, (cmI (rfF (plF N (xs ((6 * j) + 1)) (xs ((6 * j) + 2)) (xs ((6 * j) + 3))))), ac, ea, le2, v1, v2, v3, v4, v5, fo, fd, hT, hX, hP, hD⟩ hS (lv_sub hl [2, 3, 4, 5, 6, 7] rfl)
      · skip
        exact absurd c_5 hc0
    · skip
      exact absurd rfl c_4

set_option maxHeartbeats 4000000 in
set_option maxRecDepth 100000 in
theorem law_takeBack (l : Launch) (hl0 : l.stackTraces = false) {G : va_G} {T : Nat → ClassId} {sa kk vv : Nat → Nat} {p : Program} {e : Env} {s : State} {m : MethodId} {below : List Frame} {meth : Method} {c : Code} {Q : State → Prop} {b0 LL : Nat} {xs : Nat → Int32} {q r : Nat → Nat} {o d : Nat} {a N : Nat → Nat} {Z : Nat → Nat → Int32} {b M : Nat → Nat → Nat} {Y : Nat → Nat → Nat → Int32} {sc : Nat} {tx : Nat → Int32} {L cu : Nat} {er le : Int32} {nb : Nat → Int32} {nc : Nat} {mm pp : Nat → Int32} {th ac ea le2 v1 v2 v3 v4 v5 : Int32} {fo : Int64} {fd : UInt64} {H : Heap} {locs : List Loc} {cells slots j : Nat} {ls : Array Slot} (K : LK G T sa kk vv p s m c b0 LL xs) (hl : lv_has ls 9 [(0, .ref b0), (1, .ref (q 0)), (2, .ref (r 0)), (3, .ref o), (4, .ref d), (5, .int (nI (6 * j)))]) (hj : 6 * j + 5 < LL) (hcs : cells + 3 ≤ 601024) (hss : slots + 18 ≤ 7293034) (hS : va_S (lA s) s.heap H locs) (hT : tie N Z mm M Y pp sc) (hX : txo tx L) (hP : va_P G vwCl (wL T q a N Z b M Y sc tx L cu er le nb nc r mm pp th ac ea le2 v1 v2 v3 v4 v5 o d fo fd) H) (hD : va_D (lA s) (wL T q a N Z b M Y sc tx L cu er le nb nc r mm pp th ac ea le2 v1 v2 v3 v4 v5 o d fo fd)) (hnext : ∀ (H : Heap) (locs : List Loc) (ls : Array Slot), inv G T q r o d (lA s) H → va_S (lA s) s.heap H locs → lv_has ls 9 [(0, .ref b0), (1, .ref (q 0)), (2, .ref (r 0)), (3, .ref o), (4, .ref d), (5, .int (nI (6 * j)))] → W p l e room_1 s m ([.ref b0] : List Value).toArray below meth c H locs (cells + 3) (slots + 18) Q (F0 m 2069 ls [])) : W p l e room_1 s m ([.ref b0] : List Value).toArray below meth c H locs cells slots Q (F0 m 548 ls []) := by
  obtain ⟨S, hkx, -, hnc, -⟩ := id K
  have hx := S.1
  have hb := S.2.1
  have h9 := K.2.2.2.2.2.2.2
  have hX1 := hX.1
  have hP : va_P G vwCl (((wMain T q a N Z b M Y sc tx L cu er le nb nc) ++ [(o, eL T fo)]) ++ ((wMod T r mm pp tx th sc L ac ea le2 v1 v2 v3 v4 v5) ++ [(d, eD T fd)])) H := hP
  have hD : va_D (lA s) (((wMain T q a N Z b M Y sc tx L cu er le nb nc) ++ [(o, eL T fo)]) ++ ((wMod T r mm pp tx th sc L ac ea le2 v1 v2 v3 v4 v5) ++ [(d, eD T fd)])) := hD
  refine lv_aload_n hx hb dL_law_548 rfl (lv_at hl 1 rfl) ?_
  refine lv_aload_n hx hb dL_law_549 rfl (lv_at hl 0 rfl) ?_
  refine lv_iload hx hb dL_law_550 (lv_at hl 5 rfl) ?_
  refine lv_iconst (v := 1) hx hb dL_law_552 (by decide) ?_
  refine lv_iadd hx hb dL_law_553 ?_
  rw [show ((nI (6 * j)) + 1) = (nI ((6 * j) + 1)) from nI_add (6 * j) 1]
  refine sld K hS ((6 * j) + 1) rfl (by omega) dL_law_554 ?_
  refine lv_aload_n hx hb dL_law_555 rfl (lv_at hl 3 rfl) ?_
  refine lw_S S hkx (K.2.2.1.kept hS.2.1) hnc (mL_takeBack l hl0 (sa := sa) (A9 := lA s) (q := q) (a := a) (N := N) (Z := Z) (b := b) (M := M) (Y := Y) (sc := sc) (tx := tx) (L := L) (cu := cu) (er := er) (le := le) (nb := nb) (nc := nc) (u := (xs ((6 * j) + 1))) (o := o) (fo := fo) (hP := P_hd hP) (hD := (D_hd hD).weaken (fun _ _ _ _ => trivial)) (h9 := (fun q h => Nat.le_trans hS.1 h)) (hwf := hT.1) (hsc := hT.2.2.2)) gL_law_L_takeBack rfl idL_takeBack ⟨Nat.le_of_ble_eq_true rfl, Nat.le_of_ble_eq_true rfl⟩ rfl hl.1 rfl (Nat.le_of_ble_eq_true rfl) dL_law_556 ⟨(by show cells + 2 ≤ 601024; omega), (by show slots + 12 ≤ 7293034; omega)⟩ hS (fr_in (D_hd hD) (fun q h => Nat.le_trans hS.1 h)) (fun v H locs hp9 hz1 hk1 hS => ?_)
  rcases hp9 with ⟨hF, rfl, hPc⟩ | ⟨hF, rfl, hPc⟩
  · obtain ⟨hP, hD⟩ := fr_hd hP hD hk1 hPc (addr_snoc sv_addr)
    have hP : va_P G vwCl (((wMain T q a N (uPl Z (tn (xs ((6 * j) + 1))) (-1) (-1)) (svB sc b) (psh sc M N) (psh sc Y Z) (svC sc) tx L cu er le nb nc) ++ [(o, eL T (Int32.toInt64 (Z 8 (tn (xs ((6 * j) + 1))))))]) ++ ((wMod T r mm pp tx th sc L ac ea le2 v1 v2 v3 v4 v5) ++ [(d, eD T fd)])) H := hP
    have hD : va_D (lA s) (((wMain T q a N (uPl Z (tn (xs ((6 * j) + 1))) (-1) (-1)) (svB sc b) (psh sc M N) (psh sc Y Z) (svC sc) tx L cu er le nb nc) ++ [(o, eL T (Int32.toInt64 (Z 8 (tn (xs ((6 * j) + 1))))))]) ++ ((wMod T r mm pp tx th sc L ac ea le2 v1 v2 v3 v4 v5) ++ [(d, eD T fd)])) := hD
    refine W.eq (g2 := F0 m 559 ls [.int 0]) rfl ?_
    refine lv_istore (lv' := [(6, .int 0), (0, .ref b0), (1, .ref (q 0)), (2, .ref (r 0)), (3, .ref o), (4, .ref d), (5, .int (nI (6 * j)))]) hx hb dL_law_559 hl (by decide) rfl (fun ls hl => ?_)
    refine lv_aload_n hx hb dL_law_561 rfl (lv_at hl 3 rfl) ?_
    refine lv_aload_n hx hb dL_law_562 rfl (lv_at hl 1 rfl) ?_
    refine lv_iload hx hb dL_law_563 (lv_at hl 6 rfl) ?_
    refine lv_iconst (v := 1) hx hb dL_law_565 (by decide) ?_
    refine lv_iadd hx hb dL_law_566 ?_
    rw [show ((nI (6 * j)) + 1) = (nI ((6 * j) + 1)) from nI_add (6 * j) 1]
    refine sld K hS ((6 * j) + 1) rfl (by omega) dL_law_567 ?_
    refine mu_V S hkx (mX6_takeBack l (T := T) (r := r) (N := N) (Z := Z) (mm := mm) (pp := pp) (xx := tx) (th := th) (sv := sc) (n1 := L) (ac := ac) (ea := ea) (le := le2) (v1 := v1) (v2 := v2) (v3 := v3) (v4 := v4) (v5 := v5) (u := (xs ((6 * j) + 1))) (hP := P_mid hP) (hD := (D_mid hD).weaken (fun _ _ _ _ => trivial)) (hwf := hT.1) (hr := hT.2.1) (hs4 := hT.2.2.2)) gL_law_X6_takeBack rfl idX6_takeBack ⟨Nat.le_of_ble_eq_true rfl, Nat.le_of_ble_eq_true rfl⟩ hP 101 rfl rfl rfl rfl hl.1 rfl (Nat.le_of_ble_eq_true rfl) dL_law_568 ⟨(by show cells + 2 ≤ 601024; omega), (by show slots + 12 ≤ 7293034; omega)⟩ hS (fr_in (D_mid hD) (fun q h => Nat.le_trans hS.1 h)) (fun v H locs hp9 hz1 hk1 hS => ?_)
    obtain ⟨z9, rfl, hp9⟩ := hp9
    obtain ⟨-, rfl, hPm⟩ := hp9.resolve_right (fun h => h.1 hF)
    obtain ⟨hP, hD⟩ := fr_mid hP hD hk1 hPm rfl
    have hP : va_P G vwCl (((wMain T q a N (uPl Z (tn (xs ((6 * j) + 1))) (-1) (-1)) (svB sc b) (psh sc M N) (psh sc Y Z) (svC sc) tx L cu er le nb nc) ++ [(o, eL T (Int32.toInt64 (Z 8 (tn (xs ((6 * j) + 1))))))]) ++ ((wMod T r (mPl mm (tn (xs ((6 * j) + 1))) (-1) (-1)) (svP sc pp mm) tx 0 (svC sc) L ac ea le2 v1 v2 v3 v4 v5) ++ [(d, eD T fd)])) H := hP
    have hD : va_D (lA s) (((wMain T q a N (uPl Z (tn (xs ((6 * j) + 1))) (-1) (-1)) (svB sc b) (psh sc M N) (psh sc Y Z) (svC sc) tx L cu er le nb nc) ++ [(o, eL T (Int32.toInt64 (Z 8 (tn (xs ((6 * j) + 1))))))]) ++ ((wMod T r (mPl mm (tn (xs ((6 * j) + 1))) (-1) (-1)) (svP sc pp mm) tx 0 (svC sc) L ac ea le2 v1 v2 v3 v4 v5) ++ [(d, eD T fd)])) := hD
    refine W.eq (g2 := F0 m 571 ls [.int (Z 8 (tn (xs ((6 * j) + 1))))]) rfl ?_
    refine lv_istore (lv' := [(7, .int (Z 8 (tn (xs ((6 * j) + 1))))), (6, .int 0), (0, .ref b0), (1, .ref (q 0)), (2, .ref (r 0)), (3, .ref o), (4, .ref d), (5, .int (nI (6 * j)))]) hx hb dL_law_571 hl (by decide) rfl (fun ls hl => ?_)
    refine lv_aload_n hx hb dL_law_573 rfl (lv_at hl 4 rfl) ?_
    refine ro_V S hkx (mX6_thrown l (T := T) (r := r) (N := N) (Z := Z) (mm := (mPl mm (tn (xs ((6 * j) + 1))) (-1) (-1))) (pp := (svP sc pp mm)) (xx := tx) (th := 0) (sv := (svC sc)) (n1 := L) (ac := ac) (ea := ea) (le := le2) (v1 := v1) (v2 := v2) (v3 := v3) (v4 := v4) (v5 := v5) (hP := P_mid hP)) gL_law_X6_thrown rfl idX6_thrown ⟨Nat.le_of_ble_eq_true rfl, Nat.le_of_ble_eq_true rfl⟩ hP 101 rfl rfl rfl rfl hl.1 rfl (Nat.le_of_ble_eq_true rfl) dL_law_574 ⟨(by show cells + 2 ≤ 601024; omega), (by show slots + 12 ≤ 7293034; omega)⟩ (fun r9 hr9 => ?_)
    subst hr9
    refine lv_iload hx hb dL_law_577 (lv_at hl 1 rfl) ?_
    refine lv_icmp_eq (tgt := 584) hx hb dL_law_579 (by decide) (fun c_1 => ?_) (fun c_1 => ?_)
    · replace c_1 := cn_eq (a := 0) (b := 0) (by omega) (by omega) c_1
      refine lv_iload hx hb dL_law_584 (lv_at hl 1 rfl) ?_
      refine lv_if_ne (tgt := 601) hx hb dL_law_586 (by decide) (fun c_2 => ?_) (fun c_2 => ?_)
      · replace c_2 := cn_ne (a := 0) (b := 0) (by omega) (by omega) c_2
        exact absurd c_2 (by decide)
      · replace c_2 := cn_eq (a := 0) (b := 0) (by omega) (by omega) c_2
        refine lv_aload_n hx hb dL_law_589 rfl (lv_at hl 5 rfl) ?_
        refine lv_iconst (v := 0) hx hb dL_law_590 (by decide) ?_
        refine lld0 hx hb hkx hP 100 rfl dL_law_591 ?_
        refine lv_iload hx hb dL_law_592 (lv_at hl 0 rfl) ?_
        refine lv_i2l hx hb dL_law_594 rfl ?_
        refine W.lcmp hx hb dL_law_595 ?_
        rw [lg_self]
        refine lv_if_eq (tgt := 601) hx hb dL_law_596 (by decide) (fun c_3 => ?_) (fun c_3 => ?_)
        · replace c_3 := cn_eq (a := 0) (b := 0) (by omega) (by omega) c_3
          refine lv_goto (tgt := 2069) hx hb dL_law_601 (by decide) ?_
          refine W.widen (k := cells + 3) (n := slots + 18) (by omega) (by omega) ?_
          exact hnext _ _ _ ⟨a, N, (uPl Z (tn (xs ((6 * j) + 1))) (-1) (-1)), (svB sc b), (psh sc M N), (psh sc Y Z), (svC sc), tx, L, cu, er, le, nb, nc, (mPl mm (tn (xs ((6 * j) + 1))) (-1) (-1)), (svP sc pp mm), 0, ac, ea, le2, v1, v2, v3, v4, v5, (Int32.toInt64 (Z 8 (tn (xs ((6 * j) + 1))))), fd, (t_takeBack hT hF), hX, hP, hD⟩ hS (lv_sub hl [2, 3, 4, 5, 6, 7] rfl)
        · replace c_3 := cn_ne (a := 0) (b := 0) (by omega) (by omega) c_3
          exact absurd c_3 (by decide)
    · replace c_1 := cn_ne (a := 0) (b := 0) (by omega) (by omega) c_1
      exact absurd c_1 (by decide)
  · obtain ⟨hP, hD⟩ := fr_hd hP hD hk1 hPc (List.Perm.refl _)
    have hc0 := (nz_B (le_sq (le_th _ _) (le_po _)) hF)
    have hP : va_P G vwCl (((wMain T q a N Z b M Y sc tx L cu er le nb nc) ++ [(o, eL T fo)]) ++ ((wMod T r mm pp tx th sc L ac ea le2 v1 v2 v3 v4 v5) ++ [(d, eD T fd)])) H := hP
    have hD : va_D (lA s) (((wMain T q a N Z b M Y sc tx L cu er le nb nc) ++ [(o, eL T fo)]) ++ ((wMod T r mm pp tx th sc L ac ea le2 v1 v2 v3 v4 v5) ++ [(d, eD T fd)])) := hD
    refine W.eq (g2 := F0 m 559 ls [.int (cmB (sq (thF (xs ((6 * j) + 1)) (nI (N 2))) (poF (bI (pled Z (tn (xs ((6 * j) + 1))))))))]) rfl ?_
    refine lv_istore (lv' := [(6, .int (cmB (sq (thF (xs ((6 * j) + 1)) (nI (N 2))) (poF (bI (pled Z (tn (xs ((6 * j) + 1))))))))), (0, .ref b0), (1, .ref (q 0)), (2, .ref (r 0)), (3, .ref o), (4, .ref d), (5, .int (nI (6 * j)))]) hx hb dL_law_559 hl (by decide) rfl (fun ls hl => ?_)
    refine lv_aload_n hx hb dL_law_561 rfl (lv_at hl 3 rfl) ?_
    refine lv_aload_n hx hb dL_law_562 rfl (lv_at hl 1 rfl) ?_
    refine lv_iload hx hb dL_law_563 (lv_at hl 6 rfl) ?_
    refine lv_iconst (v := 1) hx hb dL_law_565 (by decide) ?_
    refine lv_iadd hx hb dL_law_566 ?_
    rw [show ((nI (6 * j)) + 1) = (nI ((6 * j) + 1)) from nI_add (6 * j) 1]
    refine sld K hS ((6 * j) + 1) rfl (by omega) dL_law_567 ?_
    refine mu_V S hkx (mX6_takeBack l (T := T) (r := r) (N := N) (Z := Z) (mm := mm) (pp := pp) (xx := tx) (th := th) (sv := sc) (n1 := L) (ac := ac) (ea := ea) (le := le2) (v1 := v1) (v2 := v2) (v3 := v3) (v4 := v4) (v5 := v5) (u := (xs ((6 * j) + 1))) (hP := P_mid hP) (hD := (D_mid hD).weaken (fun _ _ _ _ => trivial)) (hwf := hT.1) (hr := hT.2.1) (hs4 := hT.2.2.2)) gL_law_X6_takeBack rfl idX6_takeBack ⟨Nat.le_of_ble_eq_true rfl, Nat.le_of_ble_eq_true rfl⟩ hP 101 rfl rfl rfl rfl hl.1 rfl (Nat.le_of_ble_eq_true rfl) dL_law_568 ⟨(by show cells + 2 ≤ 601024; omega), (by show slots + 12 ≤ 7293034; omega)⟩ hS (fr_in (D_mid hD) (fun q h => Nat.le_trans hS.1 h)) (fun v H locs hp9 hz1 hk1 hS => ?_)
    obtain ⟨z9, rfl, hp9⟩ := hp9
    have hPm := (hp9.resolve_left (fun h => hF h.1)).2
    obtain ⟨hP, hD⟩ := fr_mid hP hD hk1 hPm rfl
    have hP : va_P G vwCl (((wMain T q a N Z b M Y sc tx L cu er le nb nc) ++ [(o, eL T fo)]) ++ ((wMod T r mm pp tx (cmB (sq (thF (xs ((6 * j) + 1)) (nI (N 2))) (poF (bI (pled Z (tn (xs ((6 * j) + 1)))))))) sc L ac ea le2 v1 v2 v3 v4 v5) ++ [(d, eD T fd)])) H := hP
    have hD : va_D (lA s) (((wMain T q a N Z b M Y sc tx L cu er le nb nc) ++ [(o, eL T fo)]) ++ ((wMod T r mm pp tx (cmB (sq (thF (xs ((6 * j) + 1)) (nI (N 2))) (poF (bI (pled Z (tn (xs ((6 * j) + 1)))))))) sc L ac ea le2 v1 v2 v3 v4 v5) ++ [(d, eD T fd)])) := hD
    refine W.eq (g2 := F0 m 571 ls [.int z9]) rfl ?_
    refine lv_istore (lv' := [(7, .int z9), (6, .int (cmB (sq (thF (xs ((6 * j) + 1)) (nI (N 2))) (poF (bI (pled Z (tn (xs ((6 * j) + 1))))))))), (0, .ref b0), (1, .ref (q 0)), (2, .ref (r 0)), (3, .ref o), (4, .ref d), (5, .int (nI (6 * j)))]) hx hb dL_law_571 hl (by decide) rfl (fun ls hl => ?_)
    refine lv_aload_n hx hb dL_law_573 rfl (lv_at hl 4 rfl) ?_
    refine ro_V S hkx (mX6_thrown l (T := T) (r := r) (N := N) (Z := Z) (mm := mm) (pp := pp) (xx := tx) (th := (cmB (sq (thF (xs ((6 * j) + 1)) (nI (N 2))) (poF (bI (pled Z (tn (xs ((6 * j) + 1))))))))) (sv := sc) (n1 := L) (ac := ac) (ea := ea) (le := le2) (v1 := v1) (v2 := v2) (v3 := v3) (v4 := v4) (v5 := v5) (hP := P_mid hP)) gL_law_X6_thrown rfl idX6_thrown ⟨Nat.le_of_ble_eq_true rfl, Nat.le_of_ble_eq_true rfl⟩ hP 101 rfl rfl rfl rfl hl.1 rfl (Nat.le_of_ble_eq_true rfl) dL_law_574 ⟨(by show cells + 2 ≤ 601024; omega), (by show slots + 12 ≤ 7293034; omega)⟩ (fun r9 hr9 => ?_)
    subst hr9
    refine lv_iload hx hb dL_law_577 (lv_at hl 1 rfl) ?_
    refine lv_icmp_eq (tgt := 584) hx hb dL_law_579 (by decide) (fun c_4 => ?_) (fun c_4 => ?_)
    · skip
      refine lv_iload hx hb dL_law_584 (lv_at hl 1 rfl) ?_
      refine lv_if_ne (tgt := 601) hx hb dL_law_586 (by decide) (fun c_5 => ?_) (fun c_5 => ?_)
      · skip
        refine lv_goto (tgt := 2069) hx hb dL_law_601 (by decide) ?_
        refine W.widen (k := cells + 3) (n := slots + 18) (by omega) (by omega) ?_
        exact hnext _ _ _ ⟨a, N, Z, b, M, Y, sc, tx, L, cu, er, le, nb, nc, mm, pp, (cmB (sq (thF (xs ((6 * j) + 1)) (nI (N 2))) (poF (bI (pled Z (tn (xs ((6 * j) + 1)))))))), ac, ea, le2, v1, v2, v3, v4, v5, fo, fd, hT, hX, hP, hD⟩ hS (lv_sub hl [2, 3, 4, 5, 6, 7] rfl)
      · skip
        exact absurd c_5 hc0
    · skip
      exact absurd rfl c_4

set_option maxHeartbeats 4000000 in
set_option maxRecDepth 100000 in
theorem law_slip (l : Launch) (hl0 : l.stackTraces = false) {G : va_G} {T : Nat → ClassId} {sa kk vv : Nat → Nat} {p : Program} {e : Env} {s : State} {m : MethodId} {below : List Frame} {meth : Method} {c : Code} {Q : State → Prop} {b0 LL : Nat} {xs : Nat → Int32} {q r : Nat → Nat} {o d : Nat} {a N : Nat → Nat} {Z : Nat → Nat → Int32} {b M : Nat → Nat → Nat} {Y : Nat → Nat → Nat → Int32} {sc : Nat} {tx : Nat → Int32} {L cu : Nat} {er le : Int32} {nb : Nat → Int32} {nc : Nat} {mm pp : Nat → Int32} {th ac ea le2 v1 v2 v3 v4 v5 : Int32} {fo : Int64} {fd : UInt64} {H : Heap} {locs : List Loc} {cells slots j : Nat} {ls : Array Slot} (K : LK G T sa kk vv p s m c b0 LL xs) (hl : lv_has ls 9 [(0, .ref b0), (1, .ref (q 0)), (2, .ref (r 0)), (3, .ref o), (4, .ref d), (5, .int (nI (6 * j)))]) (hj : 6 * j + 5 < LL) (hcs : cells + 3 ≤ 601024) (hss : slots + 18 ≤ 7293034) (hS : va_S (lA s) s.heap H locs) (hT : tie N Z mm M Y pp sc) (hX : txo tx L) (hP : va_P G vwCl (wL T q a N Z b M Y sc tx L cu er le nb nc r mm pp th ac ea le2 v1 v2 v3 v4 v5 o d fo fd) H) (hD : va_D (lA s) (wL T q a N Z b M Y sc tx L cu er le nb nc r mm pp th ac ea le2 v1 v2 v3 v4 v5 o d fo fd)) (hnext : ∀ (H : Heap) (locs : List Loc) (ls : Array Slot), inv G T q r o d (lA s) H → va_S (lA s) s.heap H locs → lv_has ls 9 [(0, .ref b0), (1, .ref (q 0)), (2, .ref (r 0)), (3, .ref o), (4, .ref d), (5, .int (nI (6 * j)))] → W p l e room_1 s m ([.ref b0] : List Value).toArray below meth c H locs (cells + 3) (slots + 18) Q (F0 m 2069 ls [])) : W p l e room_1 s m ([.ref b0] : List Value).toArray below meth c H locs cells slots Q (F0 m 604 ls []) := by
  obtain ⟨S, hkx, -, hnc, -⟩ := id K
  have hx := S.1
  have hb := S.2.1
  have h9 := K.2.2.2.2.2.2.2
  have hX1 := hX.1
  have hP : va_P G vwCl (((wMain T q a N Z b M Y sc tx L cu er le nb nc) ++ [(o, eL T fo)]) ++ ((wMod T r mm pp tx th sc L ac ea le2 v1 v2 v3 v4 v5) ++ [(d, eD T fd)])) H := hP
  have hD : va_D (lA s) (((wMain T q a N Z b M Y sc tx L cu er le nb nc) ++ [(o, eL T fo)]) ++ ((wMod T r mm pp tx th sc L ac ea le2 v1 v2 v3 v4 v5) ++ [(d, eD T fd)])) := hD
  refine lv_aload_n hx hb dL_law_604 rfl (lv_at hl 1 rfl) ?_
  refine lv_aload_n hx hb dL_law_605 rfl (lv_at hl 0 rfl) ?_
  refine lv_iload hx hb dL_law_606 (lv_at hl 5 rfl) ?_
  refine lv_iconst (v := 1) hx hb dL_law_608 (by decide) ?_
  refine lv_iadd hx hb dL_law_609 ?_
  rw [show ((nI (6 * j)) + 1) = (nI ((6 * j) + 1)) from nI_add (6 * j) 1]
  refine sld K hS ((6 * j) + 1) rfl (by omega) dL_law_610 ?_
  refine lv_aload_n hx hb dL_law_611 rfl (lv_at hl 0 rfl) ?_
  refine lv_iload hx hb dL_law_612 (lv_at hl 5 rfl) ?_
  refine lv_iconst (v := 2) hx hb dL_law_614 (by decide) ?_
  refine lv_iadd hx hb dL_law_615 ?_
  rw [show ((nI (6 * j)) + 2) = (nI ((6 * j) + 2)) from nI_add (6 * j) 2]
  refine sld K hS ((6 * j) + 2) rfl (by omega) dL_law_616 ?_
  refine lv_aload_n hx hb dL_law_617 rfl (lv_at hl 3 rfl) ?_
  refine lw_S S hkx (K.2.2.1.kept hS.2.1) hnc (mL_slip l hl0 (sa := sa) (A9 := lA s) (q := q) (a := a) (N := N) (Z := Z) (b := b) (M := M) (Y := Y) (sc := sc) (tx := tx) (L := L) (cu := cu) (er := er) (le := le) (nb := nb) (nc := nc) (u := (xs ((6 * j) + 1))) (t := (xs ((6 * j) + 2))) (o := o) (fo := fo) (hP := P_hd hP) (hD := (D_hd hD).weaken (fun _ _ _ _ => trivial)) (h9 := (fun q h => Nat.le_trans hS.1 h)) (hwf := hT.1) (hsc := hT.2.2.2)) gL_law_L_slip rfl idL_slip ⟨Nat.le_of_ble_eq_true rfl, Nat.le_of_ble_eq_true rfl⟩ rfl hl.1 rfl (Nat.le_of_ble_eq_true rfl) dL_law_618 ⟨(by show cells + 1 ≤ 601024; omega), (by show slots + 6 ≤ 7293034; omega)⟩ hS (fr_in (D_hd hD) (fun q h => Nat.le_trans hS.1 h)) (fun v H locs hp9 hz1 hk1 hS => ?_)
  rcases hp9 with ⟨hF, rfl, hPc⟩ | ⟨hF, rfl, hPc⟩
  · obtain ⟨hP, hD⟩ := fr_hd hP hD hk1 hPc (addr_snoc sv_addr)
    have hP : va_P G vwCl (((wMain T q a N (uSl Z (tn (xs ((6 * j) + 1))) (xs ((6 * j) + 2))) (svB sc b) (psh sc M N) (psh sc Y Z) (svC sc) tx L cu er le nb nc) ++ [(o, eL T (Int32.toInt64 (uSl Z (tn (xs ((6 * j) + 1))) (xs ((6 * j) + 2)) 8 (tn (xs ((6 * j) + 1))))))]) ++ ((wMod T r mm pp tx th sc L ac ea le2 v1 v2 v3 v4 v5) ++ [(d, eD T fd)])) H := hP
    have hD : va_D (lA s) (((wMain T q a N (uSl Z (tn (xs ((6 * j) + 1))) (xs ((6 * j) + 2))) (svB sc b) (psh sc M N) (psh sc Y Z) (svC sc) tx L cu er le nb nc) ++ [(o, eL T (Int32.toInt64 (uSl Z (tn (xs ((6 * j) + 1))) (xs ((6 * j) + 2)) 8 (tn (xs ((6 * j) + 1))))))]) ++ ((wMod T r mm pp tx th sc L ac ea le2 v1 v2 v3 v4 v5) ++ [(d, eD T fd)])) := hD
    refine W.eq (g2 := F0 m 621 ls [.int 0]) rfl ?_
    refine lv_istore (lv' := [(6, .int 0), (0, .ref b0), (1, .ref (q 0)), (2, .ref (r 0)), (3, .ref o), (4, .ref d), (5, .int (nI (6 * j)))]) hx hb dL_law_621 hl (by decide) rfl (fun ls hl => ?_)
    refine lv_aload_n hx hb dL_law_623 rfl (lv_at hl 3 rfl) ?_
    refine lv_aload_n hx hb dL_law_624 rfl (lv_at hl 1 rfl) ?_
    refine lv_iload hx hb dL_law_625 (lv_at hl 6 rfl) ?_
    refine lv_iconst (v := 1) hx hb dL_law_627 (by decide) ?_
    refine lv_iadd hx hb dL_law_628 ?_
    rw [show ((nI (6 * j)) + 1) = (nI ((6 * j) + 1)) from nI_add (6 * j) 1]
    refine sld K hS ((6 * j) + 1) rfl (by omega) dL_law_629 ?_
    refine lv_aload_n hx hb dL_law_630 rfl (lv_at hl 1 rfl) ?_
    refine lv_iload hx hb dL_law_631 (lv_at hl 6 rfl) ?_
    refine lv_iconst (v := 2) hx hb dL_law_633 (by decide) ?_
    refine lv_iadd hx hb dL_law_634 ?_
    rw [show ((nI (6 * j)) + 2) = (nI ((6 * j) + 2)) from nI_add (6 * j) 2]
    refine sld K hS ((6 * j) + 2) rfl (by omega) dL_law_635 ?_
    refine mu_V S hkx (mX6_slip l (T := T) (r := r) (N := N) (Z := Z) (mm := mm) (pp := pp) (xx := tx) (th := th) (sv := sc) (n1 := L) (ac := ac) (ea := ea) (le := le2) (v1 := v1) (v2 := v2) (v3 := v3) (v4 := v4) (v5 := v5) (u := (xs ((6 * j) + 1))) (t := (xs ((6 * j) + 2))) (hP := P_mid hP) (hD := (D_mid hD).weaken (fun _ _ _ _ => trivial)) (hwf := hT.1) (hr := hT.2.1) (hs4 := hT.2.2.2)) gL_law_X6_slip rfl idX6_slip ⟨Nat.le_of_ble_eq_true rfl, Nat.le_of_ble_eq_true rfl⟩ hP 101 rfl rfl rfl rfl hl.1 rfl (Nat.le_of_ble_eq_true rfl) dL_law_636 ⟨(by show cells + 1 ≤ 601024; omega), (by show slots + 6 ≤ 7293034; omega)⟩ hS (fr_in (D_mid hD) (fun q h => Nat.le_trans hS.1 h)) (fun v H locs hp9 hz1 hk1 hS => ?_)
    obtain ⟨z9, rfl, hp9⟩ := hp9
    obtain ⟨-, rfl, hPm⟩ := hp9.resolve_right (fun h => h.1 hF)
    obtain ⟨hP, hD⟩ := fr_mid hP hD hk1 hPm rfl
    have hP : va_P G vwCl (((wMain T q a N (uSl Z (tn (xs ((6 * j) + 1))) (xs ((6 * j) + 2))) (svB sc b) (psh sc M N) (psh sc Y Z) (svC sc) tx L cu er le nb nc) ++ [(o, eL T (Int32.toInt64 (uSl Z (tn (xs ((6 * j) + 1))) (xs ((6 * j) + 2)) 8 (tn (xs ((6 * j) + 1))))))]) ++ ((wMod T r (mSl mm (tn (xs ((6 * j) + 1))) (xs ((6 * j) + 2))) (svP sc pp mm) tx 0 (svC sc) L ac ea le2 v1 v2 v3 v4 v5) ++ [(d, eD T fd)])) H := hP
    have hD : va_D (lA s) (((wMain T q a N (uSl Z (tn (xs ((6 * j) + 1))) (xs ((6 * j) + 2))) (svB sc b) (psh sc M N) (psh sc Y Z) (svC sc) tx L cu er le nb nc) ++ [(o, eL T (Int32.toInt64 (uSl Z (tn (xs ((6 * j) + 1))) (xs ((6 * j) + 2)) 8 (tn (xs ((6 * j) + 1))))))]) ++ ((wMod T r (mSl mm (tn (xs ((6 * j) + 1))) (xs ((6 * j) + 2))) (svP sc pp mm) tx 0 (svC sc) L ac ea le2 v1 v2 v3 v4 v5) ++ [(d, eD T fd)])) := hD
    refine W.eq (g2 := F0 m 639 ls [.int (uSl Z (tn (xs ((6 * j) + 1))) (xs ((6 * j) + 2)) 8 (tn (xs ((6 * j) + 1))))]) rfl ?_
    refine lv_istore (lv' := [(7, .int (uSl Z (tn (xs ((6 * j) + 1))) (xs ((6 * j) + 2)) 8 (tn (xs ((6 * j) + 1))))), (6, .int 0), (0, .ref b0), (1, .ref (q 0)), (2, .ref (r 0)), (3, .ref o), (4, .ref d), (5, .int (nI (6 * j)))]) hx hb dL_law_639 hl (by decide) rfl (fun ls hl => ?_)
    refine lv_aload_n hx hb dL_law_641 rfl (lv_at hl 4 rfl) ?_
    refine ro_V S hkx (mX6_thrown l (T := T) (r := r) (N := N) (Z := Z) (mm := (mSl mm (tn (xs ((6 * j) + 1))) (xs ((6 * j) + 2)))) (pp := (svP sc pp mm)) (xx := tx) (th := 0) (sv := (svC sc)) (n1 := L) (ac := ac) (ea := ea) (le := le2) (v1 := v1) (v2 := v2) (v3 := v3) (v4 := v4) (v5 := v5) (hP := P_mid hP)) gL_law_X6_thrown rfl idX6_thrown ⟨Nat.le_of_ble_eq_true rfl, Nat.le_of_ble_eq_true rfl⟩ hP 101 rfl rfl rfl rfl hl.1 rfl (Nat.le_of_ble_eq_true rfl) dL_law_642 ⟨(by show cells + 1 ≤ 601024; omega), (by show slots + 6 ≤ 7293034; omega)⟩ (fun r9 hr9 => ?_)
    subst hr9
    refine lv_iload hx hb dL_law_645 (lv_at hl 1 rfl) ?_
    refine lv_icmp_eq (tgt := 652) hx hb dL_law_647 (by decide) (fun c_1 => ?_) (fun c_1 => ?_)
    · replace c_1 := cn_eq (a := 0) (b := 0) (by omega) (by omega) c_1
      refine lv_iload hx hb dL_law_652 (lv_at hl 1 rfl) ?_
      refine lv_if_ne (tgt := 669) hx hb dL_law_654 (by decide) (fun c_2 => ?_) (fun c_2 => ?_)
      · replace c_2 := cn_ne (a := 0) (b := 0) (by omega) (by omega) c_2
        exact absurd c_2 (by decide)
      · replace c_2 := cn_eq (a := 0) (b := 0) (by omega) (by omega) c_2
        refine lv_aload_n hx hb dL_law_657 rfl (lv_at hl 5 rfl) ?_
        refine lv_iconst (v := 0) hx hb dL_law_658 (by decide) ?_
        refine lld0 hx hb hkx hP 100 rfl dL_law_659 ?_
        refine lv_iload hx hb dL_law_660 (lv_at hl 0 rfl) ?_
        refine lv_i2l hx hb dL_law_662 rfl ?_
        refine W.lcmp hx hb dL_law_663 ?_
        rw [lg_self]
        refine lv_if_eq (tgt := 669) hx hb dL_law_664 (by decide) (fun c_3 => ?_) (fun c_3 => ?_)
        · replace c_3 := cn_eq (a := 0) (b := 0) (by omega) (by omega) c_3
          refine lv_goto (tgt := 2069) hx hb dL_law_669 (by decide) ?_
          refine W.widen (k := cells + 3) (n := slots + 18) (by omega) (by omega) ?_
          exact hnext _ _ _ ⟨a, N, (uSl Z (tn (xs ((6 * j) + 1))) (xs ((6 * j) + 2))), (svB sc b), (psh sc M N), (psh sc Y Z), (svC sc), tx, L, cu, er, le, nb, nc, (mSl mm (tn (xs ((6 * j) + 1))) (xs ((6 * j) + 2))), (svP sc pp mm), 0, ac, ea, le2, v1, v2, v3, v4, v5, (Int32.toInt64 (uSl Z (tn (xs ((6 * j) + 1))) (xs ((6 * j) + 2)) 8 (tn (xs ((6 * j) + 1))))), fd, (t_slip hT hF), hX, hP, hD⟩ hS (lv_sub hl [2, 3, 4, 5, 6, 7] rfl)
        · replace c_3 := cn_ne (a := 0) (b := 0) (by omega) (by omega) c_3
          exact absurd c_3 (by decide)
    · replace c_1 := cn_ne (a := 0) (b := 0) (by omega) (by omega) c_1
      exact absurd c_1 (by decide)
  · obtain ⟨hP, hD⟩ := fr_hd hP hD hk1 hPc (List.Perm.refl _)
    have hc0 := (nz_I (le_rf _) hF)
    have hP : va_P G vwCl (((wMain T q a N Z b M Y sc tx L cu er le nb nc) ++ [(o, eL T fo)]) ++ ((wMod T r mm pp tx th sc L ac ea le2 v1 v2 v3 v4 v5) ++ [(d, eD T fd)])) H := hP
    have hD : va_D (lA s) (((wMain T q a N Z b M Y sc tx L cu er le nb nc) ++ [(o, eL T fo)]) ++ ((wMod T r mm pp tx th sc L ac ea le2 v1 v2 v3 v4 v5) ++ [(d, eD T fd)])) := hD
    refine W.eq (g2 := F0 m 621 ls [.int (cmI (rfF (slF N Z (xs ((6 * j) + 1)) (xs ((6 * j) + 2)))))]) rfl ?_
    refine lv_istore (lv' := [(6, .int (cmI (rfF (slF N Z (xs ((6 * j) + 1)) (xs ((6 * j) + 2)))))), (0, .ref b0), (1, .ref (q 0)), (2, .ref (r 0)), (3, .ref o), (4, .ref d), (5, .int (nI (6 * j)))]) hx hb dL_law_621 hl (by decide) rfl (fun ls hl => ?_)
    refine lv_aload_n hx hb dL_law_623 rfl (lv_at hl 3 rfl) ?_
    refine lv_aload_n hx hb dL_law_624 rfl (lv_at hl 1 rfl) ?_
    refine lv_iload hx hb dL_law_625 (lv_at hl 6 rfl) ?_
    refine lv_iconst (v := 1) hx hb dL_law_627 (by decide) ?_
    refine lv_iadd hx hb dL_law_628 ?_
    rw [show ((nI (6 * j)) + 1) = (nI ((6 * j) + 1)) from nI_add (6 * j) 1]
    refine sld K hS ((6 * j) + 1) rfl (by omega) dL_law_629 ?_
    refine lv_aload_n hx hb dL_law_630 rfl (lv_at hl 1 rfl) ?_
    refine lv_iload hx hb dL_law_631 (lv_at hl 6 rfl) ?_
    refine lv_iconst (v := 2) hx hb dL_law_633 (by decide) ?_
    refine lv_iadd hx hb dL_law_634 ?_
    rw [show ((nI (6 * j)) + 2) = (nI ((6 * j) + 2)) from nI_add (6 * j) 2]
    refine sld K hS ((6 * j) + 2) rfl (by omega) dL_law_635 ?_
    refine mu_V S hkx (mX6_slip l (T := T) (r := r) (N := N) (Z := Z) (mm := mm) (pp := pp) (xx := tx) (th := th) (sv := sc) (n1 := L) (ac := ac) (ea := ea) (le := le2) (v1 := v1) (v2 := v2) (v3 := v3) (v4 := v4) (v5 := v5) (u := (xs ((6 * j) + 1))) (t := (xs ((6 * j) + 2))) (hP := P_mid hP) (hD := (D_mid hD).weaken (fun _ _ _ _ => trivial)) (hwf := hT.1) (hr := hT.2.1) (hs4 := hT.2.2.2)) gL_law_X6_slip rfl idX6_slip ⟨Nat.le_of_ble_eq_true rfl, Nat.le_of_ble_eq_true rfl⟩ hP 101 rfl rfl rfl rfl hl.1 rfl (Nat.le_of_ble_eq_true rfl) dL_law_636 ⟨(by show cells + 1 ≤ 601024; omega), (by show slots + 6 ≤ 7293034; omega)⟩ hS (fr_in (D_mid hD) (fun q h => Nat.le_trans hS.1 h)) (fun v H locs hp9 hz1 hk1 hS => ?_)
    obtain ⟨z9, rfl, hp9⟩ := hp9
    have hPm := (hp9.resolve_left (fun h => hF h.1)).2
    obtain ⟨hP, hD⟩ := fr_mid hP hD hk1 hPm rfl
    have hP : va_P G vwCl (((wMain T q a N Z b M Y sc tx L cu er le nb nc) ++ [(o, eL T fo)]) ++ ((wMod T r mm pp tx (cmI (rfF (slF N Z (xs ((6 * j) + 1)) (xs ((6 * j) + 2))))) sc L ac ea le2 v1 v2 v3 v4 v5) ++ [(d, eD T fd)])) H := hP
    have hD : va_D (lA s) (((wMain T q a N Z b M Y sc tx L cu er le nb nc) ++ [(o, eL T fo)]) ++ ((wMod T r mm pp tx (cmI (rfF (slF N Z (xs ((6 * j) + 1)) (xs ((6 * j) + 2))))) sc L ac ea le2 v1 v2 v3 v4 v5) ++ [(d, eD T fd)])) := hD
    refine W.eq (g2 := F0 m 639 ls [.int z9]) rfl ?_
    refine lv_istore (lv' := [(7, .int z9), (6, .int (cmI (rfF (slF N Z (xs ((6 * j) + 1)) (xs ((6 * j) + 2)))))), (0, .ref b0), (1, .ref (q 0)), (2, .ref (r 0)), (3, .ref o), (4, .ref d), (5, .int (nI (6 * j)))]) hx hb dL_law_639 hl (by decide) rfl (fun ls hl => ?_)
    refine lv_aload_n hx hb dL_law_641 rfl (lv_at hl 4 rfl) ?_
    refine ro_V S hkx (mX6_thrown l (T := T) (r := r) (N := N) (Z := Z) (mm := mm) (pp := pp) (xx := tx) (th := (cmI (rfF (slF N Z (xs ((6 * j) + 1)) (xs ((6 * j) + 2)))))) (sv := sc) (n1 := L) (ac := ac) (ea := ea) (le := le2) (v1 := v1) (v2 := v2) (v3 := v3) (v4 := v4) (v5 := v5) (hP := P_mid hP)) gL_law_X6_thrown rfl idX6_thrown ⟨Nat.le_of_ble_eq_true rfl, Nat.le_of_ble_eq_true rfl⟩ hP 101 rfl rfl rfl rfl hl.1 rfl (Nat.le_of_ble_eq_true rfl) dL_law_642 ⟨(by show cells + 1 ≤ 601024; omega), (by show slots + 6 ≤ 7293034; omega)⟩ (fun r9 hr9 => ?_)
    subst hr9
    refine lv_iload hx hb dL_law_645 (lv_at hl 1 rfl) ?_
    refine lv_icmp_eq (tgt := 652) hx hb dL_law_647 (by decide) (fun c_4 => ?_) (fun c_4 => ?_)
    · skip
      refine lv_iload hx hb dL_law_652 (lv_at hl 1 rfl) ?_
      refine lv_if_ne (tgt := 669) hx hb dL_law_654 (by decide) (fun c_5 => ?_) (fun c_5 => ?_)
      · skip
        refine lv_goto (tgt := 2069) hx hb dL_law_669 (by decide) ?_
        refine W.widen (k := cells + 3) (n := slots + 18) (by omega) (by omega) ?_
        exact hnext _ _ _ ⟨a, N, Z, b, M, Y, sc, tx, L, cu, er, le, nb, nc, mm, pp, (cmI (rfF (slF N Z (xs ((6 * j) + 1)) (xs ((6 * j) + 2))))), ac, ea, le2, v1, v2, v3, v4, v5, fo, fd, hT, hX, hP, hD⟩ hS (lv_sub hl [2, 3, 4, 5, 6, 7] rfl)
      · skip
        exact absurd c_5 hc0
    · skip
      exact absurd rfl c_4

set_option maxHeartbeats 4000000 in
set_option maxRecDepth 100000 in
theorem law_extend (l : Launch) (hl0 : l.stackTraces = false) {G : va_G} {T : Nat → ClassId} {sa kk vv : Nat → Nat} {p : Program} {e : Env} {s : State} {m : MethodId} {below : List Frame} {meth : Method} {c : Code} {Q : State → Prop} {b0 LL : Nat} {xs : Nat → Int32} {q r : Nat → Nat} {o d : Nat} {a N : Nat → Nat} {Z : Nat → Nat → Int32} {b M : Nat → Nat → Nat} {Y : Nat → Nat → Nat → Int32} {sc : Nat} {tx : Nat → Int32} {L cu : Nat} {er le : Int32} {nb : Nat → Int32} {nc : Nat} {mm pp : Nat → Int32} {th ac ea le2 v1 v2 v3 v4 v5 : Int32} {fo : Int64} {fd : UInt64} {H : Heap} {locs : List Loc} {cells slots j : Nat} {ls : Array Slot} (K : LK G T sa kk vv p s m c b0 LL xs) (hl : lv_has ls 9 [(0, .ref b0), (1, .ref (q 0)), (2, .ref (r 0)), (3, .ref o), (4, .ref d), (5, .int (nI (6 * j)))]) (hj : 6 * j + 5 < LL) (hcs : cells + 3 ≤ 601024) (hss : slots + 18 ≤ 7293034) (hS : va_S (lA s) s.heap H locs) (hT : tie N Z mm M Y pp sc) (hX : txo tx L) (hP : va_P G vwCl (wL T q a N Z b M Y sc tx L cu er le nb nc r mm pp th ac ea le2 v1 v2 v3 v4 v5 o d fo fd) H) (hD : va_D (lA s) (wL T q a N Z b M Y sc tx L cu er le nb nc r mm pp th ac ea le2 v1 v2 v3 v4 v5 o d fo fd)) (hnext : ∀ (H : Heap) (locs : List Loc) (ls : Array Slot), inv G T q r o d (lA s) H → va_S (lA s) s.heap H locs → lv_has ls 9 [(0, .ref b0), (1, .ref (q 0)), (2, .ref (r 0)), (3, .ref o), (4, .ref d), (5, .int (nI (6 * j)))] → W p l e room_1 s m ([.ref b0] : List Value).toArray below meth c H locs (cells + 3) (slots + 18) Q (F0 m 2069 ls [])) : W p l e room_1 s m ([.ref b0] : List Value).toArray below meth c H locs cells slots Q (F0 m 672 ls []) := by
  obtain ⟨S, hkx, -, hnc, -⟩ := id K
  have hx := S.1
  have hb := S.2.1
  have h9 := K.2.2.2.2.2.2.2
  have hX1 := hX.1
  have hP : va_P G vwCl (((wMain T q a N Z b M Y sc tx L cu er le nb nc) ++ [(o, eL T fo)]) ++ ((wMod T r mm pp tx th sc L ac ea le2 v1 v2 v3 v4 v5) ++ [(d, eD T fd)])) H := hP
  have hD : va_D (lA s) (((wMain T q a N Z b M Y sc tx L cu er le nb nc) ++ [(o, eL T fo)]) ++ ((wMod T r mm pp tx th sc L ac ea le2 v1 v2 v3 v4 v5) ++ [(d, eD T fd)])) := hD
  refine lv_aload_n hx hb dL_law_672 rfl (lv_at hl 1 rfl) ?_
  refine lv_aload_n hx hb dL_law_673 rfl (lv_at hl 0 rfl) ?_
  refine lv_iload hx hb dL_law_674 (lv_at hl 5 rfl) ?_
  refine lv_iconst (v := 1) hx hb dL_law_676 (by decide) ?_
  refine lv_iadd hx hb dL_law_677 ?_
  rw [show ((nI (6 * j)) + 1) = (nI ((6 * j) + 1)) from nI_add (6 * j) 1]
  refine sld K hS ((6 * j) + 1) rfl (by omega) dL_law_678 ?_
  refine lv_aload_n hx hb dL_law_679 rfl (lv_at hl 0 rfl) ?_
  refine lv_iload hx hb dL_law_680 (lv_at hl 5 rfl) ?_
  refine lv_iconst (v := 2) hx hb dL_law_682 (by decide) ?_
  refine lv_iadd hx hb dL_law_683 ?_
  rw [show ((nI (6 * j)) + 2) = (nI ((6 * j) + 2)) from nI_add (6 * j) 2]
  refine sld K hS ((6 * j) + 2) rfl (by omega) dL_law_684 ?_
  refine lv_aload_n hx hb dL_law_685 rfl (lv_at hl 3 rfl) ?_
  refine lw_S S hkx (K.2.2.1.kept hS.2.1) hnc (mL_extend l hl0 (sa := sa) (A9 := lA s) (q := q) (a := a) (N := N) (Z := Z) (b := b) (M := M) (Y := Y) (sc := sc) (tx := tx) (L := L) (cu := cu) (er := er) (le := le) (nb := nb) (nc := nc) (v := (xs ((6 * j) + 1))) (t := (xs ((6 * j) + 2))) (o := o) (fo := fo) (hP := P_hd hP) (hD := (D_hd hD).weaken (fun _ _ _ _ => trivial)) (h9 := (fun q h => Nat.le_trans hS.1 h)) (hwf := hT.1) (hsc := hT.2.2.2)) gL_law_L_extend rfl idL_extend ⟨Nat.le_of_ble_eq_true rfl, Nat.le_of_ble_eq_true rfl⟩ rfl hl.1 rfl (Nat.le_of_ble_eq_true rfl) dL_law_686 ⟨(by show cells + 1 ≤ 601024; omega), (by show slots + 6 ≤ 7293034; omega)⟩ hS (fr_in (D_hd hD) (fun q h => Nat.le_trans hS.1 h)) (fun v H locs hp9 hz1 hk1 hS => ?_)
  rcases hp9 with ⟨hF, rfl, hPc⟩ | ⟨hF, rfl, hPc⟩
  · obtain ⟨hP, hD⟩ := fr_hd hP hD hk1 hPc (addr_snoc sv_addr)
    have hP : va_P G vwCl (((wMain T q a N (vExt Z (tn (xs ((6 * j) + 1))) (xs ((6 * j) + 2))) (svB sc b) (psh sc M N) (psh sc Y Z) (svC sc) tx L cu er le nb nc) ++ [(o, eL T (Int32.toInt64 (vExt Z (tn (xs ((6 * j) + 1))) (xs ((6 * j) + 2)) 2 (tn (xs ((6 * j) + 1))))))]) ++ ((wMod T r mm pp tx th sc L ac ea le2 v1 v2 v3 v4 v5) ++ [(d, eD T fd)])) H := hP
    have hD : va_D (lA s) (((wMain T q a N (vExt Z (tn (xs ((6 * j) + 1))) (xs ((6 * j) + 2))) (svB sc b) (psh sc M N) (psh sc Y Z) (svC sc) tx L cu er le nb nc) ++ [(o, eL T (Int32.toInt64 (vExt Z (tn (xs ((6 * j) + 1))) (xs ((6 * j) + 2)) 2 (tn (xs ((6 * j) + 1))))))]) ++ ((wMod T r mm pp tx th sc L ac ea le2 v1 v2 v3 v4 v5) ++ [(d, eD T fd)])) := hD
    refine W.eq (g2 := F0 m 689 ls [.int 0]) rfl ?_
    refine lv_istore (lv' := [(6, .int 0), (0, .ref b0), (1, .ref (q 0)), (2, .ref (r 0)), (3, .ref o), (4, .ref d), (5, .int (nI (6 * j)))]) hx hb dL_law_689 hl (by decide) rfl (fun ls hl => ?_)
    refine lv_aload_n hx hb dL_law_691 rfl (lv_at hl 3 rfl) ?_
    refine lv_aload_n hx hb dL_law_692 rfl (lv_at hl 1 rfl) ?_
    refine lv_iload hx hb dL_law_693 (lv_at hl 6 rfl) ?_
    refine lv_iconst (v := 1) hx hb dL_law_695 (by decide) ?_
    refine lv_iadd hx hb dL_law_696 ?_
    rw [show ((nI (6 * j)) + 1) = (nI ((6 * j) + 1)) from nI_add (6 * j) 1]
    refine sld K hS ((6 * j) + 1) rfl (by omega) dL_law_697 ?_
    refine lv_aload_n hx hb dL_law_698 rfl (lv_at hl 1 rfl) ?_
    refine lv_iload hx hb dL_law_699 (lv_at hl 6 rfl) ?_
    refine lv_iconst (v := 2) hx hb dL_law_701 (by decide) ?_
    refine lv_iadd hx hb dL_law_702 ?_
    rw [show ((nI (6 * j)) + 2) = (nI ((6 * j) + 2)) from nI_add (6 * j) 2]
    refine sld K hS ((6 * j) + 2) rfl (by omega) dL_law_703 ?_
    refine mu_V S hkx (mX6_extend l (T := T) (r := r) (N := N) (Z := Z) (mm := mm) (pp := pp) (xx := tx) (th := th) (sv := sc) (n1 := L) (ac := ac) (ea := ea) (le := le2) (v1 := v1) (v2 := v2) (v3 := v3) (v4 := v4) (v5 := v5) (v := (xs ((6 * j) + 1))) (t := (xs ((6 * j) + 2))) (hP := P_mid hP) (hD := (D_mid hD).weaken (fun _ _ _ _ => trivial)) (hwf := hT.1) (hr := hT.2.1) (hs4 := hT.2.2.2)) gL_law_X6_extend rfl idX6_extend ⟨Nat.le_of_ble_eq_true rfl, Nat.le_of_ble_eq_true rfl⟩ hP 101 rfl rfl rfl rfl hl.1 rfl (Nat.le_of_ble_eq_true rfl) dL_law_704 ⟨(by show cells + 1 ≤ 601024; omega), (by show slots + 6 ≤ 7293034; omega)⟩ hS (fr_in (D_mid hD) (fun q h => Nat.le_trans hS.1 h)) (fun v H locs hp9 hz1 hk1 hS => ?_)
    obtain ⟨z9, rfl, hp9⟩ := hp9
    obtain ⟨-, rfl, hPm⟩ := hp9.resolve_right (fun h => h.1 hF)
    obtain ⟨hP, hD⟩ := fr_mid hP hD hk1 hPm rfl
    have hP : va_P G vwCl (((wMain T q a N (vExt Z (tn (xs ((6 * j) + 1))) (xs ((6 * j) + 2))) (svB sc b) (psh sc M N) (psh sc Y Z) (svC sc) tx L cu er le nb nc) ++ [(o, eL T (Int32.toInt64 (vExt Z (tn (xs ((6 * j) + 1))) (xs ((6 * j) + 2)) 2 (tn (xs ((6 * j) + 1))))))]) ++ ((wMod T r (mEx mm (tn (xs ((6 * j) + 1))) (xs ((6 * j) + 2))) (svP sc pp mm) tx 0 (svC sc) L ac ea le2 v1 v2 v3 v4 v5) ++ [(d, eD T fd)])) H := hP
    have hD : va_D (lA s) (((wMain T q a N (vExt Z (tn (xs ((6 * j) + 1))) (xs ((6 * j) + 2))) (svB sc b) (psh sc M N) (psh sc Y Z) (svC sc) tx L cu er le nb nc) ++ [(o, eL T (Int32.toInt64 (vExt Z (tn (xs ((6 * j) + 1))) (xs ((6 * j) + 2)) 2 (tn (xs ((6 * j) + 1))))))]) ++ ((wMod T r (mEx mm (tn (xs ((6 * j) + 1))) (xs ((6 * j) + 2))) (svP sc pp mm) tx 0 (svC sc) L ac ea le2 v1 v2 v3 v4 v5) ++ [(d, eD T fd)])) := hD
    refine W.eq (g2 := F0 m 707 ls [.int (vExt Z (tn (xs ((6 * j) + 1))) (xs ((6 * j) + 2)) 2 (tn (xs ((6 * j) + 1))))]) rfl ?_
    refine lv_istore (lv' := [(7, .int (vExt Z (tn (xs ((6 * j) + 1))) (xs ((6 * j) + 2)) 2 (tn (xs ((6 * j) + 1))))), (6, .int 0), (0, .ref b0), (1, .ref (q 0)), (2, .ref (r 0)), (3, .ref o), (4, .ref d), (5, .int (nI (6 * j)))]) hx hb dL_law_707 hl (by decide) rfl (fun ls hl => ?_)
    refine lv_aload_n hx hb dL_law_709 rfl (lv_at hl 4 rfl) ?_
    refine ro_V S hkx (mX6_thrown l (T := T) (r := r) (N := N) (Z := Z) (mm := (mEx mm (tn (xs ((6 * j) + 1))) (xs ((6 * j) + 2)))) (pp := (svP sc pp mm)) (xx := tx) (th := 0) (sv := (svC sc)) (n1 := L) (ac := ac) (ea := ea) (le := le2) (v1 := v1) (v2 := v2) (v3 := v3) (v4 := v4) (v5 := v5) (hP := P_mid hP)) gL_law_X6_thrown rfl idX6_thrown ⟨Nat.le_of_ble_eq_true rfl, Nat.le_of_ble_eq_true rfl⟩ hP 101 rfl rfl rfl rfl hl.1 rfl (Nat.le_of_ble_eq_true rfl) dL_law_710 ⟨(by show cells + 1 ≤ 601024; omega), (by show slots + 6 ≤ 7293034; omega)⟩ (fun r9 hr9 => ?_)
    subst hr9
    refine lv_iload hx hb dL_law_713 (lv_at hl 1 rfl) ?_
    refine lv_icmp_eq (tgt := 720) hx hb dL_law_715 (by decide) (fun c_1 => ?_) (fun c_1 => ?_)
    · replace c_1 := cn_eq (a := 0) (b := 0) (by omega) (by omega) c_1
      refine lv_iload hx hb dL_law_720 (lv_at hl 1 rfl) ?_
      refine lv_if_ne (tgt := 737) hx hb dL_law_722 (by decide) (fun c_2 => ?_) (fun c_2 => ?_)
      · replace c_2 := cn_ne (a := 0) (b := 0) (by omega) (by omega) c_2
        exact absurd c_2 (by decide)
      · replace c_2 := cn_eq (a := 0) (b := 0) (by omega) (by omega) c_2
        refine lv_aload_n hx hb dL_law_725 rfl (lv_at hl 5 rfl) ?_
        refine lv_iconst (v := 0) hx hb dL_law_726 (by decide) ?_
        refine lld0 hx hb hkx hP 100 rfl dL_law_727 ?_
        refine lv_iload hx hb dL_law_728 (lv_at hl 0 rfl) ?_
        refine lv_i2l hx hb dL_law_730 rfl ?_
        refine W.lcmp hx hb dL_law_731 ?_
        rw [lg_self]
        refine lv_if_eq (tgt := 737) hx hb dL_law_732 (by decide) (fun c_3 => ?_) (fun c_3 => ?_)
        · replace c_3 := cn_eq (a := 0) (b := 0) (by omega) (by omega) c_3
          refine lv_goto (tgt := 2069) hx hb dL_law_737 (by decide) ?_
          refine W.widen (k := cells + 3) (n := slots + 18) (by omega) (by omega) ?_
          exact hnext _ _ _ ⟨a, N, (vExt Z (tn (xs ((6 * j) + 1))) (xs ((6 * j) + 2))), (svB sc b), (psh sc M N), (psh sc Y Z), (svC sc), tx, L, cu, er, le, nb, nc, (mEx mm (tn (xs ((6 * j) + 1))) (xs ((6 * j) + 2))), (svP sc pp mm), 0, ac, ea, le2, v1, v2, v3, v4, v5, (Int32.toInt64 (vExt Z (tn (xs ((6 * j) + 1))) (xs ((6 * j) + 2)) 2 (tn (xs ((6 * j) + 1))))), fd, (t_extend hT hF), hX, hP, hD⟩ hS (lv_sub hl [2, 3, 4, 5, 6, 7] rfl)
        · replace c_3 := cn_ne (a := 0) (b := 0) (by omega) (by omega) c_3
          exact absurd c_3 (by decide)
    · replace c_1 := cn_ne (a := 0) (b := 0) (by omega) (by omega) c_1
      exact absurd c_1 (by decide)
  · obtain ⟨hP, hD⟩ := fr_hd hP hD hk1 hPc (List.Perm.refl _)
    have hc0 := (nz_I (le_rf _) hF)
    have hP : va_P G vwCl (((wMain T q a N Z b M Y sc tx L cu er le nb nc) ++ [(o, eL T fo)]) ++ ((wMod T r mm pp tx th sc L ac ea le2 v1 v2 v3 v4 v5) ++ [(d, eD T fd)])) H := hP
    have hD : va_D (lA s) (((wMain T q a N Z b M Y sc tx L cu er le nb nc) ++ [(o, eL T fo)]) ++ ((wMod T r mm pp tx th sc L ac ea le2 v1 v2 v3 v4 v5) ++ [(d, eD T fd)])) := hD
    refine W.eq (g2 := F0 m 689 ls [.int (cmI (rfF (exF N Z (xs ((6 * j) + 1)) (xs ((6 * j) + 2)))))]) rfl ?_
    refine lv_istore (lv' := [(6, .int (cmI (rfF (exF N Z (xs ((6 * j) + 1)) (xs ((6 * j) + 2)))))), (0, .ref b0), (1, .ref (q 0)), (2, .ref (r 0)), (3, .ref o), (4, .ref d), (5, .int (nI (6 * j)))]) hx hb dL_law_689 hl (by decide) rfl (fun ls hl => ?_)
    refine lv_aload_n hx hb dL_law_691 rfl (lv_at hl 3 rfl) ?_
    refine lv_aload_n hx hb dL_law_692 rfl (lv_at hl 1 rfl) ?_
    refine lv_iload hx hb dL_law_693 (lv_at hl 6 rfl) ?_
    refine lv_iconst (v := 1) hx hb dL_law_695 (by decide) ?_
    refine lv_iadd hx hb dL_law_696 ?_
    rw [show ((nI (6 * j)) + 1) = (nI ((6 * j) + 1)) from nI_add (6 * j) 1]
    refine sld K hS ((6 * j) + 1) rfl (by omega) dL_law_697 ?_
    refine lv_aload_n hx hb dL_law_698 rfl (lv_at hl 1 rfl) ?_
    refine lv_iload hx hb dL_law_699 (lv_at hl 6 rfl) ?_
    refine lv_iconst (v := 2) hx hb dL_law_701 (by decide) ?_
    refine lv_iadd hx hb dL_law_702 ?_
    rw [show ((nI (6 * j)) + 2) = (nI ((6 * j) + 2)) from nI_add (6 * j) 2]
    refine sld K hS ((6 * j) + 2) rfl (by omega) dL_law_703 ?_
    refine mu_V S hkx (mX6_extend l (T := T) (r := r) (N := N) (Z := Z) (mm := mm) (pp := pp) (xx := tx) (th := th) (sv := sc) (n1 := L) (ac := ac) (ea := ea) (le := le2) (v1 := v1) (v2 := v2) (v3 := v3) (v4 := v4) (v5 := v5) (v := (xs ((6 * j) + 1))) (t := (xs ((6 * j) + 2))) (hP := P_mid hP) (hD := (D_mid hD).weaken (fun _ _ _ _ => trivial)) (hwf := hT.1) (hr := hT.2.1) (hs4 := hT.2.2.2)) gL_law_X6_extend rfl idX6_extend ⟨Nat.le_of_ble_eq_true rfl, Nat.le_of_ble_eq_true rfl⟩ hP 101 rfl rfl rfl rfl hl.1 rfl (Nat.le_of_ble_eq_true rfl) dL_law_704 ⟨(by show cells + 1 ≤ 601024; omega), (by show slots + 6 ≤ 7293034; omega)⟩ hS (fr_in (D_mid hD) (fun q h => Nat.le_trans hS.1 h)) (fun v H locs hp9 hz1 hk1 hS => ?_)
    obtain ⟨z9, rfl, hp9⟩ := hp9
    have hPm := (hp9.resolve_left (fun h => hF h.1)).2
    obtain ⟨hP, hD⟩ := fr_mid hP hD hk1 hPm rfl
    have hP : va_P G vwCl (((wMain T q a N Z b M Y sc tx L cu er le nb nc) ++ [(o, eL T fo)]) ++ ((wMod T r mm pp tx (cmI (rfF (exF N Z (xs ((6 * j) + 1)) (xs ((6 * j) + 2))))) sc L ac ea le2 v1 v2 v3 v4 v5) ++ [(d, eD T fd)])) H := hP
    have hD : va_D (lA s) (((wMain T q a N Z b M Y sc tx L cu er le nb nc) ++ [(o, eL T fo)]) ++ ((wMod T r mm pp tx (cmI (rfF (exF N Z (xs ((6 * j) + 1)) (xs ((6 * j) + 2))))) sc L ac ea le2 v1 v2 v3 v4 v5) ++ [(d, eD T fd)])) := hD
    refine W.eq (g2 := F0 m 707 ls [.int z9]) rfl ?_
    refine lv_istore (lv' := [(7, .int z9), (6, .int (cmI (rfF (exF N Z (xs ((6 * j) + 1)) (xs ((6 * j) + 2)))))), (0, .ref b0), (1, .ref (q 0)), (2, .ref (r 0)), (3, .ref o), (4, .ref d), (5, .int (nI (6 * j)))]) hx hb dL_law_707 hl (by decide) rfl (fun ls hl => ?_)
    refine lv_aload_n hx hb dL_law_709 rfl (lv_at hl 4 rfl) ?_
    refine ro_V S hkx (mX6_thrown l (T := T) (r := r) (N := N) (Z := Z) (mm := mm) (pp := pp) (xx := tx) (th := (cmI (rfF (exF N Z (xs ((6 * j) + 1)) (xs ((6 * j) + 2)))))) (sv := sc) (n1 := L) (ac := ac) (ea := ea) (le := le2) (v1 := v1) (v2 := v2) (v3 := v3) (v4 := v4) (v5 := v5) (hP := P_mid hP)) gL_law_X6_thrown rfl idX6_thrown ⟨Nat.le_of_ble_eq_true rfl, Nat.le_of_ble_eq_true rfl⟩ hP 101 rfl rfl rfl rfl hl.1 rfl (Nat.le_of_ble_eq_true rfl) dL_law_710 ⟨(by show cells + 1 ≤ 601024; omega), (by show slots + 6 ≤ 7293034; omega)⟩ (fun r9 hr9 => ?_)
    subst hr9
    refine lv_iload hx hb dL_law_713 (lv_at hl 1 rfl) ?_
    refine lv_icmp_eq (tgt := 720) hx hb dL_law_715 (by decide) (fun c_4 => ?_) (fun c_4 => ?_)
    · skip
      refine lv_iload hx hb dL_law_720 (lv_at hl 1 rfl) ?_
      refine lv_if_ne (tgt := 737) hx hb dL_law_722 (by decide) (fun c_5 => ?_) (fun c_5 => ?_)
      · skip
        refine lv_goto (tgt := 2069) hx hb dL_law_737 (by decide) ?_
        refine W.widen (k := cells + 3) (n := slots + 18) (by omega) (by omega) ?_
        exact hnext _ _ _ ⟨a, N, Z, b, M, Y, sc, tx, L, cu, er, le, nb, nc, mm, pp, (cmI (rfF (exF N Z (xs ((6 * j) + 1)) (xs ((6 * j) + 2))))), ac, ea, le2, v1, v2, v3, v4, v5, fo, fd, hT, hX, hP, hD⟩ hS (lv_sub hl [2, 3, 4, 5, 6, 7] rfl)
      · skip
        exact absurd c_5 hc0
    · skip
      exact absurd rfl c_4

set_option maxHeartbeats 4000000 in
set_option maxRecDepth 100000 in
theorem law_addShim (l : Launch) (hl0 : l.stackTraces = false) {G : va_G} {T : Nat → ClassId} {sa kk vv : Nat → Nat} {p : Program} {e : Env} {s : State} {m : MethodId} {below : List Frame} {meth : Method} {c : Code} {Q : State → Prop} {b0 LL : Nat} {xs : Nat → Int32} {q r : Nat → Nat} {o d : Nat} {a N : Nat → Nat} {Z : Nat → Nat → Int32} {b M : Nat → Nat → Nat} {Y : Nat → Nat → Nat → Int32} {sc : Nat} {tx : Nat → Int32} {L cu : Nat} {er le : Int32} {nb : Nat → Int32} {nc : Nat} {mm pp : Nat → Int32} {th ac ea le2 v1 v2 v3 v4 v5 : Int32} {fo : Int64} {fd : UInt64} {H : Heap} {locs : List Loc} {cells slots j : Nat} {ls : Array Slot} (K : LK G T sa kk vv p s m c b0 LL xs) (hl : lv_has ls 9 [(0, .ref b0), (1, .ref (q 0)), (2, .ref (r 0)), (3, .ref o), (4, .ref d), (5, .int (nI (6 * j)))]) (hj : 6 * j + 5 < LL) (hcs : cells + 3 ≤ 601024) (hss : slots + 18 ≤ 7293034) (hS : va_S (lA s) s.heap H locs) (hT : tie N Z mm M Y pp sc) (hX : txo tx L) (hP : va_P G vwCl (wL T q a N Z b M Y sc tx L cu er le nb nc r mm pp th ac ea le2 v1 v2 v3 v4 v5 o d fo fd) H) (hD : va_D (lA s) (wL T q a N Z b M Y sc tx L cu er le nb nc r mm pp th ac ea le2 v1 v2 v3 v4 v5 o d fo fd)) (hnext : ∀ (H : Heap) (locs : List Loc) (ls : Array Slot), inv G T q r o d (lA s) H → va_S (lA s) s.heap H locs → lv_has ls 9 [(0, .ref b0), (1, .ref (q 0)), (2, .ref (r 0)), (3, .ref o), (4, .ref d), (5, .int (nI (6 * j)))] → W p l e room_1 s m ([.ref b0] : List Value).toArray below meth c H locs (cells + 3) (slots + 18) Q (F0 m 2069 ls [])) : W p l e room_1 s m ([.ref b0] : List Value).toArray below meth c H locs cells slots Q (F0 m 740 ls []) := by
  obtain ⟨S, hkx, -, hnc, -⟩ := id K
  have hx := S.1
  have hb := S.2.1
  have h9 := K.2.2.2.2.2.2.2
  have hX1 := hX.1
  have hP : va_P G vwCl (((wMain T q a N Z b M Y sc tx L cu er le nb nc) ++ [(o, eL T fo)]) ++ ((wMod T r mm pp tx th sc L ac ea le2 v1 v2 v3 v4 v5) ++ [(d, eD T fd)])) H := hP
  have hD : va_D (lA s) (((wMain T q a N Z b M Y sc tx L cu er le nb nc) ++ [(o, eL T fo)]) ++ ((wMod T r mm pp tx th sc L ac ea le2 v1 v2 v3 v4 v5) ++ [(d, eD T fd)])) := hD
  refine lv_aload_n hx hb dL_law_740 rfl (lv_at hl 1 rfl) ?_
  refine lv_aload_n hx hb dL_law_741 rfl (lv_at hl 0 rfl) ?_
  refine lv_iload hx hb dL_law_742 (lv_at hl 5 rfl) ?_
  refine lv_iconst (v := 1) hx hb dL_law_744 (by decide) ?_
  refine lv_iadd hx hb dL_law_745 ?_
  rw [show ((nI (6 * j)) + 1) = (nI ((6 * j) + 1)) from nI_add (6 * j) 1]
  refine sld K hS ((6 * j) + 1) rfl (by omega) dL_law_746 ?_
  refine lv_aload_n hx hb dL_law_747 rfl (lv_at hl 0 rfl) ?_
  refine lv_iload hx hb dL_law_748 (lv_at hl 5 rfl) ?_
  refine lv_iconst (v := 2) hx hb dL_law_750 (by decide) ?_
  refine lv_iadd hx hb dL_law_751 ?_
  rw [show ((nI (6 * j)) + 2) = (nI ((6 * j) + 2)) from nI_add (6 * j) 2]
  refine sld K hS ((6 * j) + 2) rfl (by omega) dL_law_752 ?_
  refine lv_aload_n hx hb dL_law_753 rfl (lv_at hl 0 rfl) ?_
  refine lv_iload hx hb dL_law_754 (lv_at hl 5 rfl) ?_
  refine lv_iconst (v := 3) hx hb dL_law_756 (by decide) ?_
  refine lv_iadd hx hb dL_law_757 ?_
  rw [show ((nI (6 * j)) + 3) = (nI ((6 * j) + 3)) from nI_add (6 * j) 3]
  refine sld K hS ((6 * j) + 3) rfl (by omega) dL_law_758 ?_
  refine lv_aload_n hx hb dL_law_759 rfl (lv_at hl 0 rfl) ?_
  refine lv_iload hx hb dL_law_760 (lv_at hl 5 rfl) ?_
  refine lv_iconst (v := 4) hx hb dL_law_762 (by decide) ?_
  refine lv_iadd hx hb dL_law_763 ?_
  rw [show ((nI (6 * j)) + 4) = (nI ((6 * j) + 4)) from nI_add (6 * j) 4]
  refine sld K hS ((6 * j) + 4) rfl (by omega) dL_law_764 ?_
  refine lv_aload_n hx hb dL_law_765 rfl (lv_at hl 0 rfl) ?_
  refine lv_iload hx hb dL_law_766 (lv_at hl 5 rfl) ?_
  refine lv_iconst (v := 5) hx hb dL_law_768 (by decide) ?_
  refine lv_iadd hx hb dL_law_769 ?_
  rw [show ((nI (6 * j)) + 5) = (nI ((6 * j) + 5)) from nI_add (6 * j) 5]
  refine sld K hS ((6 * j) + 5) rfl (by omega) dL_law_770 ?_
  refine lv_aload_n hx hb dL_law_771 rfl (lv_at hl 3 rfl) ?_
  refine lw_S S hkx (K.2.2.1.kept hS.2.1) hnc (mL_addShim l hl0 (sa := sa) (A9 := lA s) (q := q) (a := a) (N := N) (Z := Z) (b := b) (M := M) (Y := Y) (sc := sc) (tx := tx) (L := L) (cu := cu) (er := er) (le := le) (nb := nb) (nc := nc) (f := (xs ((6 * j) + 1))) (v := (xs ((6 * j) + 2))) (x := (xs ((6 * j) + 3))) (z := (xs ((6 * j) + 4))) (y := (xs ((6 * j) + 5))) (o := o) (fo := fo) (hP := P_hd hP) (hD := (D_hd hD).weaken (fun _ _ _ _ => trivial)) (h9 := (fun q h => Nat.le_trans hS.1 h)) (hwf := hT.1) (hsc := hT.2.2.2)) gL_law_L_addShim rfl idL_addShim ⟨Nat.le_of_ble_eq_true rfl, Nat.le_of_ble_eq_true rfl⟩ rfl hl.1 rfl (Nat.le_of_ble_eq_true rfl) dL_law_772 ⟨(by show cells + 1 ≤ 601024; omega), (by show slots + 6 ≤ 7293034; omega)⟩ hS (fr_in (D_hd hD) (fun q h => Nat.le_trans hS.1 h)) (fun v H locs hp9 hz1 hk1 hS => ?_)
  rcases hp9 with ⟨hF, rfl, hPc⟩ | ⟨hF, rfl, hPc⟩
  · obtain ⟨hP, hD⟩ := fr_hd hP hD hk1 hPc (addr_snoc sv_addr)
    have hP : va_P G vwCl (((wMain T q a (va_up N 3 (N 3 + 1)) (sAdd N Z (xs ((6 * j) + 1)) (xs ((6 * j) + 2)) (xs ((6 * j) + 3)) (xs ((6 * j) + 4)) (xs ((6 * j) + 5))) (svB sc b) (psh sc M N) (psh sc Y Z) (svC sc) tx L cu er le nb nc) ++ [(o, eL T (Int32.toInt64 (nI (N 3))))]) ++ ((wMod T r mm pp tx th sc L ac ea le2 v1 v2 v3 v4 v5) ++ [(d, eD T fd)])) H := hP
    have hD : va_D (lA s) (((wMain T q a (va_up N 3 (N 3 + 1)) (sAdd N Z (xs ((6 * j) + 1)) (xs ((6 * j) + 2)) (xs ((6 * j) + 3)) (xs ((6 * j) + 4)) (xs ((6 * j) + 5))) (svB sc b) (psh sc M N) (psh sc Y Z) (svC sc) tx L cu er le nb nc) ++ [(o, eL T (Int32.toInt64 (nI (N 3))))]) ++ ((wMod T r mm pp tx th sc L ac ea le2 v1 v2 v3 v4 v5) ++ [(d, eD T fd)])) := hD
    refine W.eq (g2 := F0 m 775 ls [.int 0]) rfl ?_
    refine lv_istore (lv' := [(6, .int 0), (0, .ref b0), (1, .ref (q 0)), (2, .ref (r 0)), (3, .ref o), (4, .ref d), (5, .int (nI (6 * j)))]) hx hb dL_law_775 hl (by decide) rfl (fun ls hl => ?_)
    refine lv_aload_n hx hb dL_law_777 rfl (lv_at hl 3 rfl) ?_
    refine lv_aload_n hx hb dL_law_778 rfl (lv_at hl 1 rfl) ?_
    refine lv_iload hx hb dL_law_779 (lv_at hl 6 rfl) ?_
    refine lv_iconst (v := 1) hx hb dL_law_781 (by decide) ?_
    refine lv_iadd hx hb dL_law_782 ?_
    rw [show ((nI (6 * j)) + 1) = (nI ((6 * j) + 1)) from nI_add (6 * j) 1]
    refine sld K hS ((6 * j) + 1) rfl (by omega) dL_law_783 ?_
    refine lv_aload_n hx hb dL_law_784 rfl (lv_at hl 1 rfl) ?_
    refine lv_iload hx hb dL_law_785 (lv_at hl 6 rfl) ?_
    refine lv_iconst (v := 2) hx hb dL_law_787 (by decide) ?_
    refine lv_iadd hx hb dL_law_788 ?_
    rw [show ((nI (6 * j)) + 2) = (nI ((6 * j) + 2)) from nI_add (6 * j) 2]
    refine sld K hS ((6 * j) + 2) rfl (by omega) dL_law_789 ?_
    refine lv_aload_n hx hb dL_law_790 rfl (lv_at hl 1 rfl) ?_
    refine lv_iload hx hb dL_law_791 (lv_at hl 6 rfl) ?_
    refine lv_iconst (v := 3) hx hb dL_law_793 (by decide) ?_
    refine lv_iadd hx hb dL_law_794 ?_
    rw [show ((nI (6 * j)) + 3) = (nI ((6 * j) + 3)) from nI_add (6 * j) 3]
    refine sld K hS ((6 * j) + 3) rfl (by omega) dL_law_795 ?_
    refine lv_aload_n hx hb dL_law_796 rfl (lv_at hl 1 rfl) ?_
    refine lv_iload hx hb dL_law_797 (lv_at hl 6 rfl) ?_
    refine lv_iconst (v := 4) hx hb dL_law_799 (by decide) ?_
    refine lv_iadd hx hb dL_law_800 ?_
    rw [show ((nI (6 * j)) + 4) = (nI ((6 * j) + 4)) from nI_add (6 * j) 4]
    refine sld K hS ((6 * j) + 4) rfl (by omega) dL_law_801 ?_
    refine lv_aload_n hx hb dL_law_802 rfl (lv_at hl 1 rfl) ?_
    refine lv_iload hx hb dL_law_803 (lv_at hl 6 rfl) ?_
    refine lv_iconst (v := 5) hx hb dL_law_805 (by decide) ?_
    refine lv_iadd hx hb dL_law_806 ?_
    rw [show ((nI (6 * j)) + 5) = (nI ((6 * j) + 5)) from nI_add (6 * j) 5]
    refine sld K hS ((6 * j) + 5) rfl (by omega) dL_law_807 ?_
    refine mu_V S hkx (mX6_addShim l (T := T) (r := r) (N := N) (Z := Z) (mm := mm) (pp := pp) (xx := tx) (th := th) (sv := sc) (n1 := L) (ac := ac) (ea := ea) (le := le2) (v1 := v1) (v2 := v2) (v3 := v3) (v4 := v4) (v5 := v5) (f := (xs ((6 * j) + 1))) (v := (xs ((6 * j) + 2))) (x := (xs ((6 * j) + 3))) (z := (xs ((6 * j) + 4))) (y := (xs ((6 * j) + 5))) (hP := P_mid hP) (hD := (D_mid hD).weaken (fun _ _ _ _ => trivial)) (hwf := hT.1) (hr := hT.2.1) (hs4 := hT.2.2.2)) gL_law_X6_addShim rfl idX6_addShim ⟨Nat.le_of_ble_eq_true rfl, Nat.le_of_ble_eq_true rfl⟩ hP 101 rfl rfl rfl rfl hl.1 rfl (Nat.le_of_ble_eq_true rfl) dL_law_808 ⟨(by show cells + 1 ≤ 601024; omega), (by show slots + 6 ≤ 7293034; omega)⟩ hS (fr_in (D_mid hD) (fun q h => Nat.le_trans hS.1 h)) (fun v H locs hp9 hz1 hk1 hS => ?_)
    obtain ⟨z9, rfl, hp9⟩ := hp9
    obtain ⟨-, rfl, hPm⟩ := hp9.resolve_right (fun h => h.1 hF)
    obtain ⟨hP, hD⟩ := fr_mid hP hD hk1 hPm rfl
    have hP : va_P G vwCl (((wMain T q a (va_up N 3 (N 3 + 1)) (sAdd N Z (xs ((6 * j) + 1)) (xs ((6 * j) + 2)) (xs ((6 * j) + 3)) (xs ((6 * j) + 4)) (xs ((6 * j) + 5))) (svB sc b) (psh sc M N) (psh sc Y Z) (svC sc) tx L cu er le nb nc) ++ [(o, eL T (Int32.toInt64 (nI (N 3))))]) ++ ((wMod T r (mSh mm (N 3) (xs ((6 * j) + 1)) (xs ((6 * j) + 2)) (xs ((6 * j) + 3)) (xs ((6 * j) + 4)) (xs ((6 * j) + 5))) (svP sc pp mm) tx 0 (svC sc) L ac ea le2 v1 v2 v3 v4 v5) ++ [(d, eD T fd)])) H := hP
    have hD : va_D (lA s) (((wMain T q a (va_up N 3 (N 3 + 1)) (sAdd N Z (xs ((6 * j) + 1)) (xs ((6 * j) + 2)) (xs ((6 * j) + 3)) (xs ((6 * j) + 4)) (xs ((6 * j) + 5))) (svB sc b) (psh sc M N) (psh sc Y Z) (svC sc) tx L cu er le nb nc) ++ [(o, eL T (Int32.toInt64 (nI (N 3))))]) ++ ((wMod T r (mSh mm (N 3) (xs ((6 * j) + 1)) (xs ((6 * j) + 2)) (xs ((6 * j) + 3)) (xs ((6 * j) + 4)) (xs ((6 * j) + 5))) (svP sc pp mm) tx 0 (svC sc) L ac ea le2 v1 v2 v3 v4 v5) ++ [(d, eD T fd)])) := hD
    refine W.eq (g2 := F0 m 811 ls [.int (nI (N 3))]) rfl ?_
    refine lv_istore (lv' := [(7, .int (nI (N 3))), (6, .int 0), (0, .ref b0), (1, .ref (q 0)), (2, .ref (r 0)), (3, .ref o), (4, .ref d), (5, .int (nI (6 * j)))]) hx hb dL_law_811 hl (by decide) rfl (fun ls hl => ?_)
    refine lv_aload_n hx hb dL_law_813 rfl (lv_at hl 4 rfl) ?_
    refine ro_V S hkx (mX6_thrown l (T := T) (r := r) (N := N) (Z := Z) (mm := (mSh mm (N 3) (xs ((6 * j) + 1)) (xs ((6 * j) + 2)) (xs ((6 * j) + 3)) (xs ((6 * j) + 4)) (xs ((6 * j) + 5)))) (pp := (svP sc pp mm)) (xx := tx) (th := 0) (sv := (svC sc)) (n1 := L) (ac := ac) (ea := ea) (le := le2) (v1 := v1) (v2 := v2) (v3 := v3) (v4 := v4) (v5 := v5) (hP := P_mid hP)) gL_law_X6_thrown rfl idX6_thrown ⟨Nat.le_of_ble_eq_true rfl, Nat.le_of_ble_eq_true rfl⟩ hP 101 rfl rfl rfl rfl hl.1 rfl (Nat.le_of_ble_eq_true rfl) dL_law_814 ⟨(by show cells + 1 ≤ 601024; omega), (by show slots + 6 ≤ 7293034; omega)⟩ (fun r9 hr9 => ?_)
    subst hr9
    refine lv_iload hx hb dL_law_817 (lv_at hl 1 rfl) ?_
    refine lv_icmp_eq (tgt := 824) hx hb dL_law_819 (by decide) (fun c_1 => ?_) (fun c_1 => ?_)
    · replace c_1 := cn_eq (a := 0) (b := 0) (by omega) (by omega) c_1
      refine lv_iload hx hb dL_law_824 (lv_at hl 1 rfl) ?_
      refine lv_if_ne (tgt := 841) hx hb dL_law_826 (by decide) (fun c_2 => ?_) (fun c_2 => ?_)
      · replace c_2 := cn_ne (a := 0) (b := 0) (by omega) (by omega) c_2
        exact absurd c_2 (by decide)
      · replace c_2 := cn_eq (a := 0) (b := 0) (by omega) (by omega) c_2
        refine lv_aload_n hx hb dL_law_829 rfl (lv_at hl 5 rfl) ?_
        refine lv_iconst (v := 0) hx hb dL_law_830 (by decide) ?_
        refine lld0 hx hb hkx hP 100 rfl dL_law_831 ?_
        refine lv_iload hx hb dL_law_832 (lv_at hl 0 rfl) ?_
        refine lv_i2l hx hb dL_law_834 rfl ?_
        refine W.lcmp hx hb dL_law_835 ?_
        rw [lg_self]
        refine lv_if_eq (tgt := 841) hx hb dL_law_836 (by decide) (fun c_3 => ?_) (fun c_3 => ?_)
        · replace c_3 := cn_eq (a := 0) (b := 0) (by omega) (by omega) c_3
          refine lv_goto (tgt := 2069) hx hb dL_law_841 (by decide) ?_
          refine W.widen (k := cells + 3) (n := slots + 18) (by omega) (by omega) ?_
          exact hnext _ _ _ ⟨a, (va_up N 3 (N 3 + 1)), (sAdd N Z (xs ((6 * j) + 1)) (xs ((6 * j) + 2)) (xs ((6 * j) + 3)) (xs ((6 * j) + 4)) (xs ((6 * j) + 5))), (svB sc b), (psh sc M N), (psh sc Y Z), (svC sc), tx, L, cu, er, le, nb, nc, (mSh mm (N 3) (xs ((6 * j) + 1)) (xs ((6 * j) + 2)) (xs ((6 * j) + 3)) (xs ((6 * j) + 4)) (xs ((6 * j) + 5))), (svP sc pp mm), 0, ac, ea, le2, v1, v2, v3, v4, v5, (Int32.toInt64 (nI (N 3))), fd, (t_addShim hT hF), hX, hP, hD⟩ hS (lv_sub hl [2, 3, 4, 5, 6, 7] rfl)
        · replace c_3 := cn_ne (a := 0) (b := 0) (by omega) (by omega) c_3
          exact absurd c_3 (by decide)
    · replace c_1 := cn_ne (a := 0) (b := 0) (by omega) (by omega) c_1
      exact absurd c_1 (by decide)
  · obtain ⟨hP, hD⟩ := fr_hd hP hD hk1 hPc (List.Perm.refl _)
    have hc0 := (nz_I (le_rf _) hF)
    have hP : va_P G vwCl (((wMain T q a N Z b M Y sc tx L cu er le nb nc) ++ [(o, eL T fo)]) ++ ((wMod T r mm pp tx th sc L ac ea le2 v1 v2 v3 v4 v5) ++ [(d, eD T fd)])) H := hP
    have hD : va_D (lA s) (((wMain T q a N Z b M Y sc tx L cu er le nb nc) ++ [(o, eL T fo)]) ++ ((wMod T r mm pp tx th sc L ac ea le2 v1 v2 v3 v4 v5) ++ [(d, eD T fd)])) := hD
    refine W.eq (g2 := F0 m 775 ls [.int (cmI (rfF (shF N (xs ((6 * j) + 1)) (xs ((6 * j) + 2)) (xs ((6 * j) + 3)) (xs ((6 * j) + 4)) (xs ((6 * j) + 5)))))]) rfl ?_
    refine lv_istore (lv' := [(6, .int (cmI (rfF (shF N (xs ((6 * j) + 1)) (xs ((6 * j) + 2)) (xs ((6 * j) + 3)) (xs ((6 * j) + 4)) (xs ((6 * j) + 5)))))), (0, .ref b0), (1, .ref (q 0)), (2, .ref (r 0)), (3, .ref o), (4, .ref d), (5, .int (nI (6 * j)))]) hx hb dL_law_775 hl (by decide) rfl (fun ls hl => ?_)
    refine lv_aload_n hx hb dL_law_777 rfl (lv_at hl 3 rfl) ?_
    refine lv_aload_n hx hb dL_law_778 rfl (lv_at hl 1 rfl) ?_
    refine lv_iload hx hb dL_law_779 (lv_at hl 6 rfl) ?_
    refine lv_iconst (v := 1) hx hb dL_law_781 (by decide) ?_
    refine lv_iadd hx hb dL_law_782 ?_
    rw [show ((nI (6 * j)) + 1) = (nI ((6 * j) + 1)) from nI_add (6 * j) 1]
    refine sld K hS ((6 * j) + 1) rfl (by omega) dL_law_783 ?_
    refine lv_aload_n hx hb dL_law_784 rfl (lv_at hl 1 rfl) ?_
    refine lv_iload hx hb dL_law_785 (lv_at hl 6 rfl) ?_
    refine lv_iconst (v := 2) hx hb dL_law_787 (by decide) ?_
    refine lv_iadd hx hb dL_law_788 ?_
    rw [show ((nI (6 * j)) + 2) = (nI ((6 * j) + 2)) from nI_add (6 * j) 2]
    refine sld K hS ((6 * j) + 2) rfl (by omega) dL_law_789 ?_
    refine lv_aload_n hx hb dL_law_790 rfl (lv_at hl 1 rfl) ?_
    refine lv_iload hx hb dL_law_791 (lv_at hl 6 rfl) ?_
    refine lv_iconst (v := 3) hx hb dL_law_793 (by decide) ?_
    refine lv_iadd hx hb dL_law_794 ?_
    rw [show ((nI (6 * j)) + 3) = (nI ((6 * j) + 3)) from nI_add (6 * j) 3]
    refine sld K hS ((6 * j) + 3) rfl (by omega) dL_law_795 ?_
    refine lv_aload_n hx hb dL_law_796 rfl (lv_at hl 1 rfl) ?_
    refine lv_iload hx hb dL_law_797 (lv_at hl 6 rfl) ?_
    refine lv_iconst (v := 4) hx hb dL_law_799 (by decide) ?_
    refine lv_iadd hx hb dL_law_800 ?_
    rw [show ((nI (6 * j)) + 4) = (nI ((6 * j) + 4)) from nI_add (6 * j) 4]
    refine sld K hS ((6 * j) + 4) rfl (by omega) dL_law_801 ?_
    refine lv_aload_n hx hb dL_law_802 rfl (lv_at hl 1 rfl) ?_
    refine lv_iload hx hb dL_law_803 (lv_at hl 6 rfl) ?_
    refine lv_iconst (v := 5) hx hb dL_law_805 (by decide) ?_
    refine lv_iadd hx hb dL_law_806 ?_
    rw [show ((nI (6 * j)) + 5) = (nI ((6 * j) + 5)) from nI_add (6 * j) 5]
    refine sld K hS ((6 * j) + 5) rfl (by omega) dL_law_807 ?_
    refine mu_V S hkx (mX6_addShim l (T := T) (r := r) (N := N) (Z := Z) (mm := mm) (pp := pp) (xx := tx) (th := th) (sv := sc) (n1 := L) (ac := ac) (ea := ea) (le := le2) (v1 := v1) (v2 := v2) (v3 := v3) (v4 := v4) (v5 := v5) (f := (xs ((6 * j) + 1))) (v := (xs ((6 * j) + 2))) (x := (xs ((6 * j) + 3))) (z := (xs ((6 * j) + 4))) (y := (xs ((6 * j) + 5))) (hP := P_mid hP) (hD := (D_mid hD).weaken (fun _ _ _ _ => trivial)) (hwf := hT.1) (hr := hT.2.1) (hs4 := hT.2.2.2)) gL_law_X6_addShim rfl idX6_addShim ⟨Nat.le_of_ble_eq_true rfl, Nat.le_of_ble_eq_true rfl⟩ hP 101 rfl rfl rfl rfl hl.1 rfl (Nat.le_of_ble_eq_true rfl) dL_law_808 ⟨(by show cells + 1 ≤ 601024; omega), (by show slots + 6 ≤ 7293034; omega)⟩ hS (fr_in (D_mid hD) (fun q h => Nat.le_trans hS.1 h)) (fun v H locs hp9 hz1 hk1 hS => ?_)
    obtain ⟨z9, rfl, hp9⟩ := hp9
    have hPm := (hp9.resolve_left (fun h => hF h.1)).2
    obtain ⟨hP, hD⟩ := fr_mid hP hD hk1 hPm rfl
    have hP : va_P G vwCl (((wMain T q a N Z b M Y sc tx L cu er le nb nc) ++ [(o, eL T fo)]) ++ ((wMod T r mm pp tx (cmI (rfF (shF N (xs ((6 * j) + 1)) (xs ((6 * j) + 2)) (xs ((6 * j) + 3)) (xs ((6 * j) + 4)) (xs ((6 * j) + 5))))) sc L ac ea le2 v1 v2 v3 v4 v5) ++ [(d, eD T fd)])) H := hP
    have hD : va_D (lA s) (((wMain T q a N Z b M Y sc tx L cu er le nb nc) ++ [(o, eL T fo)]) ++ ((wMod T r mm pp tx (cmI (rfF (shF N (xs ((6 * j) + 1)) (xs ((6 * j) + 2)) (xs ((6 * j) + 3)) (xs ((6 * j) + 4)) (xs ((6 * j) + 5))))) sc L ac ea le2 v1 v2 v3 v4 v5) ++ [(d, eD T fd)])) := hD
    refine W.eq (g2 := F0 m 811 ls [.int z9]) rfl ?_
    refine lv_istore (lv' := [(7, .int z9), (6, .int (cmI (rfF (shF N (xs ((6 * j) + 1)) (xs ((6 * j) + 2)) (xs ((6 * j) + 3)) (xs ((6 * j) + 4)) (xs ((6 * j) + 5)))))), (0, .ref b0), (1, .ref (q 0)), (2, .ref (r 0)), (3, .ref o), (4, .ref d), (5, .int (nI (6 * j)))]) hx hb dL_law_811 hl (by decide) rfl (fun ls hl => ?_)
    refine lv_aload_n hx hb dL_law_813 rfl (lv_at hl 4 rfl) ?_
    refine ro_V S hkx (mX6_thrown l (T := T) (r := r) (N := N) (Z := Z) (mm := mm) (pp := pp) (xx := tx) (th := (cmI (rfF (shF N (xs ((6 * j) + 1)) (xs ((6 * j) + 2)) (xs ((6 * j) + 3)) (xs ((6 * j) + 4)) (xs ((6 * j) + 5)))))) (sv := sc) (n1 := L) (ac := ac) (ea := ea) (le := le2) (v1 := v1) (v2 := v2) (v3 := v3) (v4 := v4) (v5 := v5) (hP := P_mid hP)) gL_law_X6_thrown rfl idX6_thrown ⟨Nat.le_of_ble_eq_true rfl, Nat.le_of_ble_eq_true rfl⟩ hP 101 rfl rfl rfl rfl hl.1 rfl (Nat.le_of_ble_eq_true rfl) dL_law_814 ⟨(by show cells + 1 ≤ 601024; omega), (by show slots + 6 ≤ 7293034; omega)⟩ (fun r9 hr9 => ?_)
    subst hr9
    refine lv_iload hx hb dL_law_817 (lv_at hl 1 rfl) ?_
    refine lv_icmp_eq (tgt := 824) hx hb dL_law_819 (by decide) (fun c_4 => ?_) (fun c_4 => ?_)
    · skip
      refine lv_iload hx hb dL_law_824 (lv_at hl 1 rfl) ?_
      refine lv_if_ne (tgt := 841) hx hb dL_law_826 (by decide) (fun c_5 => ?_) (fun c_5 => ?_)
      · skip
        refine lv_goto (tgt := 2069) hx hb dL_law_841 (by decide) ?_
        refine W.widen (k := cells + 3) (n := slots + 18) (by omega) (by omega) ?_
        exact hnext _ _ _ ⟨a, N, Z, b, M, Y, sc, tx, L, cu, er, le, nb, nc, mm, pp, (cmI (rfF (shF N (xs ((6 * j) + 1)) (xs ((6 * j) + 2)) (xs ((6 * j) + 3)) (xs ((6 * j) + 4)) (xs ((6 * j) + 5))))), ac, ea, le2, v1, v2, v3, v4, v5, fo, fd, hT, hX, hP, hD⟩ hS (lv_sub hl [2, 3, 4, 5, 6, 7] rfl)
      · skip
        exact absurd c_5 hc0
    · skip
      exact absurd rfl c_4

set_option maxHeartbeats 4000000 in
set_option maxRecDepth 100000 in
theorem law_dropShim (l : Launch) (hl0 : l.stackTraces = false) {G : va_G} {T : Nat → ClassId} {sa kk vv : Nat → Nat} {p : Program} {e : Env} {s : State} {m : MethodId} {below : List Frame} {meth : Method} {c : Code} {Q : State → Prop} {b0 LL : Nat} {xs : Nat → Int32} {q r : Nat → Nat} {o d : Nat} {a N : Nat → Nat} {Z : Nat → Nat → Int32} {b M : Nat → Nat → Nat} {Y : Nat → Nat → Nat → Int32} {sc : Nat} {tx : Nat → Int32} {L cu : Nat} {er le : Int32} {nb : Nat → Int32} {nc : Nat} {mm pp : Nat → Int32} {th ac ea le2 v1 v2 v3 v4 v5 : Int32} {fo : Int64} {fd : UInt64} {H : Heap} {locs : List Loc} {cells slots j : Nat} {ls : Array Slot} (K : LK G T sa kk vv p s m c b0 LL xs) (hl : lv_has ls 9 [(0, .ref b0), (1, .ref (q 0)), (2, .ref (r 0)), (3, .ref o), (4, .ref d), (5, .int (nI (6 * j)))]) (hj : 6 * j + 5 < LL) (hcs : cells + 3 ≤ 601024) (hss : slots + 18 ≤ 7293034) (hS : va_S (lA s) s.heap H locs) (hT : tie N Z mm M Y pp sc) (hX : txo tx L) (hP : va_P G vwCl (wL T q a N Z b M Y sc tx L cu er le nb nc r mm pp th ac ea le2 v1 v2 v3 v4 v5 o d fo fd) H) (hD : va_D (lA s) (wL T q a N Z b M Y sc tx L cu er le nb nc r mm pp th ac ea le2 v1 v2 v3 v4 v5 o d fo fd)) (hnext : ∀ (H : Heap) (locs : List Loc) (ls : Array Slot), inv G T q r o d (lA s) H → va_S (lA s) s.heap H locs → lv_has ls 9 [(0, .ref b0), (1, .ref (q 0)), (2, .ref (r 0)), (3, .ref o), (4, .ref d), (5, .int (nI (6 * j)))] → W p l e room_1 s m ([.ref b0] : List Value).toArray below meth c H locs (cells + 3) (slots + 18) Q (F0 m 2069 ls [])) : W p l e room_1 s m ([.ref b0] : List Value).toArray below meth c H locs cells slots Q (F0 m 844 ls []) := by
  obtain ⟨S, hkx, -, hnc, -⟩ := id K
  have hx := S.1
  have hb := S.2.1
  have h9 := K.2.2.2.2.2.2.2
  have hX1 := hX.1
  have hP : va_P G vwCl (((wMain T q a N Z b M Y sc tx L cu er le nb nc) ++ [(o, eL T fo)]) ++ ((wMod T r mm pp tx th sc L ac ea le2 v1 v2 v3 v4 v5) ++ [(d, eD T fd)])) H := hP
  have hD : va_D (lA s) (((wMain T q a N Z b M Y sc tx L cu er le nb nc) ++ [(o, eL T fo)]) ++ ((wMod T r mm pp tx th sc L ac ea le2 v1 v2 v3 v4 v5) ++ [(d, eD T fd)])) := hD
  refine lv_aload_n hx hb dL_law_844 rfl (lv_at hl 1 rfl) ?_
  refine lv_aload_n hx hb dL_law_845 rfl (lv_at hl 0 rfl) ?_
  refine lv_iload hx hb dL_law_846 (lv_at hl 5 rfl) ?_
  refine lv_iconst (v := 1) hx hb dL_law_848 (by decide) ?_
  refine lv_iadd hx hb dL_law_849 ?_
  rw [show ((nI (6 * j)) + 1) = (nI ((6 * j) + 1)) from nI_add (6 * j) 1]
  refine sld K hS ((6 * j) + 1) rfl (by omega) dL_law_850 ?_
  refine lv_aload_n hx hb dL_law_851 rfl (lv_at hl 3 rfl) ?_
  refine lw_S S hkx (K.2.2.1.kept hS.2.1) hnc (mL_dropShim l hl0 (sa := sa) (A9 := lA s) (q := q) (a := a) (N := N) (Z := Z) (b := b) (M := M) (Y := Y) (sc := sc) (tx := tx) (L := L) (cu := cu) (er := er) (le := le) (nb := nb) (nc := nc) (t := (xs ((6 * j) + 1))) (o := o) (fo := fo) (hP := P_hd hP) (hD := (D_hd hD).weaken (fun _ _ _ _ => trivial)) (h9 := (fun q h => Nat.le_trans hS.1 h)) (hwf := hT.1) (hsc := hT.2.2.2)) gL_law_L_dropShim rfl idL_dropShim ⟨Nat.le_of_ble_eq_true rfl, Nat.le_of_ble_eq_true rfl⟩ rfl hl.1 rfl (Nat.le_of_ble_eq_true rfl) dL_law_852 ⟨(by show cells + 1 ≤ 601024; omega), (by show slots + 6 ≤ 7293034; omega)⟩ hS (fr_in (D_hd hD) (fun q h => Nat.le_trans hS.1 h)) (fun v H locs hp9 hz1 hk1 hS => ?_)
  rcases hp9 with ⟨hF, rfl, hPc⟩ | ⟨hF, rfl, hPc⟩
  · obtain ⟨hP, hD⟩ := fr_hd hP hD hk1 hPc (addr_snoc sv_addr)
    have hP : va_P G vwCl (((wMain T q a (va_up N 3 (N 3 - 1)) (sDel Z (tn (xs ((6 * j) + 1))) (N 3 - 1)) (svB sc b) (psh sc M N) (psh sc Y Z) (svC sc) tx L cu er le nb nc) ++ [(o, eL T (Int32.toInt64 (nI (N 3 - 1))))]) ++ ((wMod T r mm pp tx th sc L ac ea le2 v1 v2 v3 v4 v5) ++ [(d, eD T fd)])) H := hP
    have hD : va_D (lA s) (((wMain T q a (va_up N 3 (N 3 - 1)) (sDel Z (tn (xs ((6 * j) + 1))) (N 3 - 1)) (svB sc b) (psh sc M N) (psh sc Y Z) (svC sc) tx L cu er le nb nc) ++ [(o, eL T (Int32.toInt64 (nI (N 3 - 1))))]) ++ ((wMod T r mm pp tx th sc L ac ea le2 v1 v2 v3 v4 v5) ++ [(d, eD T fd)])) := hD
    refine W.eq (g2 := F0 m 855 ls [.int 0]) rfl ?_
    refine lv_istore (lv' := [(6, .int 0), (0, .ref b0), (1, .ref (q 0)), (2, .ref (r 0)), (3, .ref o), (4, .ref d), (5, .int (nI (6 * j)))]) hx hb dL_law_855 hl (by decide) rfl (fun ls hl => ?_)
    refine lv_aload_n hx hb dL_law_857 rfl (lv_at hl 3 rfl) ?_
    refine lv_aload_n hx hb dL_law_858 rfl (lv_at hl 1 rfl) ?_
    refine lv_iload hx hb dL_law_859 (lv_at hl 6 rfl) ?_
    refine lv_iconst (v := 1) hx hb dL_law_861 (by decide) ?_
    refine lv_iadd hx hb dL_law_862 ?_
    rw [show ((nI (6 * j)) + 1) = (nI ((6 * j) + 1)) from nI_add (6 * j) 1]
    refine sld K hS ((6 * j) + 1) rfl (by omega) dL_law_863 ?_
    refine mu_V S hkx (mX6_dropShim l (T := T) (r := r) (N := N) (Z := Z) (mm := mm) (pp := pp) (xx := tx) (th := th) (sv := sc) (n1 := L) (ac := ac) (ea := ea) (le := le2) (v1 := v1) (v2 := v2) (v3 := v3) (v4 := v4) (v5 := v5) (t := (xs ((6 * j) + 1))) (hP := P_mid hP) (hD := (D_mid hD).weaken (fun _ _ _ _ => trivial)) (hwf := hT.1) (hr := hT.2.1) (hs4 := hT.2.2.2)) gL_law_X6_dropShim rfl idX6_dropShim ⟨Nat.le_of_ble_eq_true rfl, Nat.le_of_ble_eq_true rfl⟩ hP 101 rfl rfl rfl rfl hl.1 rfl (Nat.le_of_ble_eq_true rfl) dL_law_864 ⟨(by show cells + 1 ≤ 601024; omega), (by show slots + 6 ≤ 7293034; omega)⟩ hS (fr_in (D_mid hD) (fun q h => Nat.le_trans hS.1 h)) (fun v H locs hp9 hz1 hk1 hS => ?_)
    obtain ⟨z9, rfl, hp9⟩ := hp9
    obtain ⟨-, rfl, hPm⟩ := hp9.resolve_right (fun h => h.1 hF)
    obtain ⟨hP, hD⟩ := fr_mid hP hD hk1 hPm rfl
    have hP : va_P G vwCl (((wMain T q a (va_up N 3 (N 3 - 1)) (sDel Z (tn (xs ((6 * j) + 1))) (N 3 - 1)) (svB sc b) (psh sc M N) (psh sc Y Z) (svC sc) tx L cu er le nb nc) ++ [(o, eL T (Int32.toInt64 (nI (N 3 - 1))))]) ++ ((wMod T r (mDr mm (N 3) (tn (xs ((6 * j) + 1)))) (svP sc pp mm) tx 0 (svC sc) L ac ea le2 v1 v2 v3 v4 v5) ++ [(d, eD T fd)])) H := hP
    have hD : va_D (lA s) (((wMain T q a (va_up N 3 (N 3 - 1)) (sDel Z (tn (xs ((6 * j) + 1))) (N 3 - 1)) (svB sc b) (psh sc M N) (psh sc Y Z) (svC sc) tx L cu er le nb nc) ++ [(o, eL T (Int32.toInt64 (nI (N 3 - 1))))]) ++ ((wMod T r (mDr mm (N 3) (tn (xs ((6 * j) + 1)))) (svP sc pp mm) tx 0 (svC sc) L ac ea le2 v1 v2 v3 v4 v5) ++ [(d, eD T fd)])) := hD
    refine W.eq (g2 := F0 m 867 ls [.int (nI (N 3 - 1))]) rfl ?_
    refine lv_istore (lv' := [(7, .int (nI (N 3 - 1))), (6, .int 0), (0, .ref b0), (1, .ref (q 0)), (2, .ref (r 0)), (3, .ref o), (4, .ref d), (5, .int (nI (6 * j)))]) hx hb dL_law_867 hl (by decide) rfl (fun ls hl => ?_)
    refine lv_aload_n hx hb dL_law_869 rfl (lv_at hl 4 rfl) ?_
    refine ro_V S hkx (mX6_thrown l (T := T) (r := r) (N := N) (Z := Z) (mm := (mDr mm (N 3) (tn (xs ((6 * j) + 1))))) (pp := (svP sc pp mm)) (xx := tx) (th := 0) (sv := (svC sc)) (n1 := L) (ac := ac) (ea := ea) (le := le2) (v1 := v1) (v2 := v2) (v3 := v3) (v4 := v4) (v5 := v5) (hP := P_mid hP)) gL_law_X6_thrown rfl idX6_thrown ⟨Nat.le_of_ble_eq_true rfl, Nat.le_of_ble_eq_true rfl⟩ hP 101 rfl rfl rfl rfl hl.1 rfl (Nat.le_of_ble_eq_true rfl) dL_law_870 ⟨(by show cells + 1 ≤ 601024; omega), (by show slots + 6 ≤ 7293034; omega)⟩ (fun r9 hr9 => ?_)
    subst hr9
    refine lv_iload hx hb dL_law_873 (lv_at hl 1 rfl) ?_
    refine lv_icmp_eq (tgt := 880) hx hb dL_law_875 (by decide) (fun c_1 => ?_) (fun c_1 => ?_)
    · replace c_1 := cn_eq (a := 0) (b := 0) (by omega) (by omega) c_1
      refine lv_iload hx hb dL_law_880 (lv_at hl 1 rfl) ?_
      refine lv_if_ne (tgt := 897) hx hb dL_law_882 (by decide) (fun c_2 => ?_) (fun c_2 => ?_)
      · replace c_2 := cn_ne (a := 0) (b := 0) (by omega) (by omega) c_2
        exact absurd c_2 (by decide)
      · replace c_2 := cn_eq (a := 0) (b := 0) (by omega) (by omega) c_2
        refine lv_aload_n hx hb dL_law_885 rfl (lv_at hl 5 rfl) ?_
        refine lv_iconst (v := 0) hx hb dL_law_886 (by decide) ?_
        refine lld0 hx hb hkx hP 100 rfl dL_law_887 ?_
        refine lv_iload hx hb dL_law_888 (lv_at hl 0 rfl) ?_
        refine lv_i2l hx hb dL_law_890 rfl ?_
        refine W.lcmp hx hb dL_law_891 ?_
        rw [lg_self]
        refine lv_if_eq (tgt := 897) hx hb dL_law_892 (by decide) (fun c_3 => ?_) (fun c_3 => ?_)
        · replace c_3 := cn_eq (a := 0) (b := 0) (by omega) (by omega) c_3
          refine lv_goto (tgt := 2069) hx hb dL_law_897 (by decide) ?_
          refine W.widen (k := cells + 3) (n := slots + 18) (by omega) (by omega) ?_
          exact hnext _ _ _ ⟨a, (va_up N 3 (N 3 - 1)), (sDel Z (tn (xs ((6 * j) + 1))) (N 3 - 1)), (svB sc b), (psh sc M N), (psh sc Y Z), (svC sc), tx, L, cu, er, le, nb, nc, (mDr mm (N 3) (tn (xs ((6 * j) + 1)))), (svP sc pp mm), 0, ac, ea, le2, v1, v2, v3, v4, v5, (Int32.toInt64 (nI (N 3 - 1))), fd, (t_dropShim hT hF), hX, hP, hD⟩ hS (lv_sub hl [2, 3, 4, 5, 6, 7] rfl)
        · replace c_3 := cn_ne (a := 0) (b := 0) (by omega) (by omega) c_3
          exact absurd c_3 (by decide)
    · replace c_1 := cn_ne (a := 0) (b := 0) (by omega) (by omega) c_1
      exact absurd c_1 (by decide)
  · obtain ⟨hP, hD⟩ := fr_hd hP hD hk1 hPc (List.Perm.refl _)
    have hc0 := (nz_I (le_rf _) hF)
    have hP : va_P G vwCl (((wMain T q a N Z b M Y sc tx L cu er le nb nc) ++ [(o, eL T fo)]) ++ ((wMod T r mm pp tx th sc L ac ea le2 v1 v2 v3 v4 v5) ++ [(d, eD T fd)])) H := hP
    have hD : va_D (lA s) (((wMain T q a N Z b M Y sc tx L cu er le nb nc) ++ [(o, eL T fo)]) ++ ((wMod T r mm pp tx th sc L ac ea le2 v1 v2 v3 v4 v5) ++ [(d, eD T fd)])) := hD
    refine W.eq (g2 := F0 m 855 ls [.int (cmI (rfF (drF N (xs ((6 * j) + 1)))))]) rfl ?_
    refine lv_istore (lv' := [(6, .int (cmI (rfF (drF N (xs ((6 * j) + 1)))))), (0, .ref b0), (1, .ref (q 0)), (2, .ref (r 0)), (3, .ref o), (4, .ref d), (5, .int (nI (6 * j)))]) hx hb dL_law_855 hl (by decide) rfl (fun ls hl => ?_)
    refine lv_aload_n hx hb dL_law_857 rfl (lv_at hl 3 rfl) ?_
    refine lv_aload_n hx hb dL_law_858 rfl (lv_at hl 1 rfl) ?_
    refine lv_iload hx hb dL_law_859 (lv_at hl 6 rfl) ?_
    refine lv_iconst (v := 1) hx hb dL_law_861 (by decide) ?_
    refine lv_iadd hx hb dL_law_862 ?_
    rw [show ((nI (6 * j)) + 1) = (nI ((6 * j) + 1)) from nI_add (6 * j) 1]
    refine sld K hS ((6 * j) + 1) rfl (by omega) dL_law_863 ?_
    refine mu_V S hkx (mX6_dropShim l (T := T) (r := r) (N := N) (Z := Z) (mm := mm) (pp := pp) (xx := tx) (th := th) (sv := sc) (n1 := L) (ac := ac) (ea := ea) (le := le2) (v1 := v1) (v2 := v2) (v3 := v3) (v4 := v4) (v5 := v5) (t := (xs ((6 * j) + 1))) (hP := P_mid hP) (hD := (D_mid hD).weaken (fun _ _ _ _ => trivial)) (hwf := hT.1) (hr := hT.2.1) (hs4 := hT.2.2.2)) gL_law_X6_dropShim rfl idX6_dropShim ⟨Nat.le_of_ble_eq_true rfl, Nat.le_of_ble_eq_true rfl⟩ hP 101 rfl rfl rfl rfl hl.1 rfl (Nat.le_of_ble_eq_true rfl) dL_law_864 ⟨(by show cells + 1 ≤ 601024; omega), (by show slots + 6 ≤ 7293034; omega)⟩ hS (fr_in (D_mid hD) (fun q h => Nat.le_trans hS.1 h)) (fun v H locs hp9 hz1 hk1 hS => ?_)
    obtain ⟨z9, rfl, hp9⟩ := hp9
    have hPm := (hp9.resolve_left (fun h => hF h.1)).2
    obtain ⟨hP, hD⟩ := fr_mid hP hD hk1 hPm rfl
    have hP : va_P G vwCl (((wMain T q a N Z b M Y sc tx L cu er le nb nc) ++ [(o, eL T fo)]) ++ ((wMod T r mm pp tx (cmI (rfF (drF N (xs ((6 * j) + 1))))) sc L ac ea le2 v1 v2 v3 v4 v5) ++ [(d, eD T fd)])) H := hP
    have hD : va_D (lA s) (((wMain T q a N Z b M Y sc tx L cu er le nb nc) ++ [(o, eL T fo)]) ++ ((wMod T r mm pp tx (cmI (rfF (drF N (xs ((6 * j) + 1))))) sc L ac ea le2 v1 v2 v3 v4 v5) ++ [(d, eD T fd)])) := hD
    refine W.eq (g2 := F0 m 867 ls [.int z9]) rfl ?_
    refine lv_istore (lv' := [(7, .int z9), (6, .int (cmI (rfF (drF N (xs ((6 * j) + 1)))))), (0, .ref b0), (1, .ref (q 0)), (2, .ref (r 0)), (3, .ref o), (4, .ref d), (5, .int (nI (6 * j)))]) hx hb dL_law_867 hl (by decide) rfl (fun ls hl => ?_)
    refine lv_aload_n hx hb dL_law_869 rfl (lv_at hl 4 rfl) ?_
    refine ro_V S hkx (mX6_thrown l (T := T) (r := r) (N := N) (Z := Z) (mm := mm) (pp := pp) (xx := tx) (th := (cmI (rfF (drF N (xs ((6 * j) + 1)))))) (sv := sc) (n1 := L) (ac := ac) (ea := ea) (le := le2) (v1 := v1) (v2 := v2) (v3 := v3) (v4 := v4) (v5 := v5) (hP := P_mid hP)) gL_law_X6_thrown rfl idX6_thrown ⟨Nat.le_of_ble_eq_true rfl, Nat.le_of_ble_eq_true rfl⟩ hP 101 rfl rfl rfl rfl hl.1 rfl (Nat.le_of_ble_eq_true rfl) dL_law_870 ⟨(by show cells + 1 ≤ 601024; omega), (by show slots + 6 ≤ 7293034; omega)⟩ (fun r9 hr9 => ?_)
    subst hr9
    refine lv_iload hx hb dL_law_873 (lv_at hl 1 rfl) ?_
    refine lv_icmp_eq (tgt := 880) hx hb dL_law_875 (by decide) (fun c_4 => ?_) (fun c_4 => ?_)
    · skip
      refine lv_iload hx hb dL_law_880 (lv_at hl 1 rfl) ?_
      refine lv_if_ne (tgt := 897) hx hb dL_law_882 (by decide) (fun c_5 => ?_) (fun c_5 => ?_)
      · skip
        refine lv_goto (tgt := 2069) hx hb dL_law_897 (by decide) ?_
        refine W.widen (k := cells + 3) (n := slots + 18) (by omega) (by omega) ?_
        exact hnext _ _ _ ⟨a, N, Z, b, M, Y, sc, tx, L, cu, er, le, nb, nc, mm, pp, (cmI (rfF (drF N (xs ((6 * j) + 1))))), ac, ea, le2, v1, v2, v3, v4, v5, fo, fd, hT, hX, hP, hD⟩ hS (lv_sub hl [2, 3, 4, 5, 6, 7] rfl)
      · skip
        exact absurd c_5 hc0
    · skip
      exact absurd rfl c_4
