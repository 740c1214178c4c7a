theorem idX1_syntaxError : yX1_syntaxError.cls = RX1 ∧ yX1_syntaxError.cls ≠ "java/lang/invoke/MethodHandle" ∧ yX1_syntaxError.cls ≠ "java/lang/invoke/VarHandle" ∧ (parseMethodDescriptor yX1_syntaxError.desc).map (fun d => d.parameters.length) = some 0 := by decide +kernel

set_option maxHeartbeats 4000000 in
set_option maxRecDepth 100000 in
theorem mX1_syntaxError (l : Launch) {G : va_G} {T : Nat → ClassId} {kk vv : Nat → Nat} {A9 : Nat → Prop} {H0 : Heap} {q : Nat → Nat} {a : Nat → Nat} {N : Nat → Nat} {Z : Nat → Nat → Int32} {b : Nat → Nat → Nat} {M : Nat → Nat → Nat} {Y : Nat → Nat → Nat → Int32} {sc : Nat} {tx : Nat → Int32} {L : Nat} {cu : Nat} {er : Int32} {le : Int32} {nb : Nat → Int32} {nc : Nat} (hP : va_P G vwCl (wMain T q a N Z b M Y sc tx L cu er le nb nc) H0) (hD : va_D (fun _ => True) (wMain T q a N Z b M Y sc tx L cu er le nb nc)) (h9 : ∀ q9, va_A (wMain T q a N Z b M Y sc tx L cu er le nb nc) H0.size q9 → A9 q9) (hL : L ≤ 100) (htx : ∀ i, i < L → ¬ tx i = -1) : mus l yX1_syntaxError wsX1_syntaxError 5 107 [.ref (q 2)] G T kk vv A9 H0 (wMain T q a N Z b M Y sc tx L cu er le nb nc) (syO G T q a N Z b M Y sc tx L) := by
  refine mus_ofi (cc := cX1_syntaxError) (maxL := 2) (ret := .int) (own := RX1) (by decide +kernel) rfl rfl (Nat.le_of_ble_eq_true rfl) hD h9 ?_
  intro p e s m below meth c Q ls A S hkx hst0 hl hD hS hA hret
  obtain ⟨hx, hb, hml, hown, hts⟩ := id S
  have hl : lv_has ls 2 [(0, .ref (q 2))] := hl
  have k19 := hts (.fieldLink RX1 19 "SunsetDates$Orders" "cursor" "I") (by decide +kernel)
  have iX1 : ∀ w ∈ wsX10, w ∈ wsX1_syntaxError := by decide +kernel
  have k15 := hts (.fieldLink RX1 15 "SunsetDates$Orders" "length" "I") (by decide +kernel)
  have k22 := hts (.fieldLink RX1 22 "SunsetDates$Orders" "error" "I") (by decide +kernel)
  refine lv_aload_n hx hb dX1_syntaxError_0 rfl (lv_at hl 0 rfl) ?_
  refine mu_V S hkx (mX1_rewind l (hP := hP) (hD := hD.weaken (fun _ _ _ _ => trivial)) (q := q) (a := a) (N := N) (Z := Z) (b := b) (M := M) (Y := Y) (sc := sc) (tx := tx) (L := L) (cu := cu) (er := er) (le := le) (nb := nb) (nc := nc)) gX1_syntaxError_X1_rewind rfl idX1_rewind ⟨Nat.le_of_ble_eq_true rfl, Nat.le_of_ble_eq_true rfl⟩ hP 2 rfl rfl rfl rfl hl.1 rfl (Nat.le_of_ble_eq_true rfl) dX1_syntaxError_1 ⟨Nat.le_of_ble_eq_true rfl, Nat.le_of_ble_eq_true rfl⟩ hS (fr_in hD (fun q h => hA q (Nat.le_trans hS.1 h))) (fun v H locs hp9 hz1 hk1 hS => ?_)
  obtain ⟨rfl, hP⟩ := hp9
  have hP : va_P G vwCl (wMain T q a N Z b M Y sc tx L 0 er le nb nc) H := hP
  have hD : va_D A (wMain T q a N Z b M Y sc tx L 0 er le nb nc) := D_perm hD (List.Perm.refl _)
  refine W.eq (g2 := F0 m 4 ls []) rfl ?_
  refine lv_iconst (v := 0) hx hb dX1_syntaxError_4 (by decide) ?_
  refine lv_istore_n (lv' := [(1, .int 0), (0, .ref (q 2))]) hx hb dX1_syntaxError_5 rfl hl (by decide) rfl (fun ls hl => ?_)
  have L6 : ∀ (fuel : Nat) (o pz f : Nat) (e2 l2 : Int32) (nb2 : Nat → Int32) (nc2 : Nat), f < fuel → pz ≤ L → o ≤ pz → 101 ≤ f + pz → chk tx L 101 0 = chk tx L f pz → ∀ (H : Heap) (locs : List Loc), va_P G vwCl (wMain T q a N Z b M Y sc tx L pz e2 l2 nb2 nc2) H → va_D A (wMain T q a N Z b M Y sc tx L pz e2 l2 nb2 nc2) → va_S A H0 H locs → ∀ ls : Array Slot, lv_has ls 2 [(0, .ref (q 2)), (1, .int (nI o))] → W p l e (rmo 5 107) s m ([.ref (q 2)] : List Value).toArray below meth c H locs 0 0 Q (F0 m 6 ls []) := by
    intro fuel
    induction fuel with
    | zero => intro o pz f e2 l2 nb2 nc2 hm; exact absurd hm (Nat.not_lt_zero _)
    | succ fuel ih6 =>
      intro o pz f e2 l2 nb2 nc2 hm6 hq ho hf hck H locs hP hD hS ls hl
      obtain ⟨f9, rfl⟩ : ∃ f9, f = f9 + 1 := ⟨f - 1, by omega⟩
      refine lv_iload_n hx hb dX1_syntaxError_6 rfl (lv_at hl 1 rfl) ?_
      refine lv_bipush (v := 100) hx hb dX1_syntaxError_7 (by decide) ?_
      refine lv_icmp_ge (tgt := 41) hx hb dX1_syntaxError_9 (by decide) (fun c_1 => ?_) (fun c_1 => ?_)
      · replace c_1 := cn_le (a := 100) (b := o) (by omega) (by omega) c_1
        refine lv_iconst (v := (-1)) hx hb dX1_syntaxError_41 (by decide) ?_
        exact hret _ _ _ _ _ (show syO G T q a N Z b M Y sc tx L (some (Value.int (-1))) H from Or.inr ⟨by rw [hck]; exact chk_no (by omega) _, rfl, _, _, _, _, _, hP⟩) rfl hS dX1_syntaxError_42
      · replace c_1 := cn_nle (a := 100) (b := o) (by omega) (by omega) c_1
        refine lv_aload_n hx hb dX1_syntaxError_12 rfl (lv_at hl 0 rfl) ?_
        refine va_get (D := G) (ci := 1) (C := RX1) (T := TX1) (N := 7) hx hb hts iX1 hown hkx.1 hP 2 rfl rfl 2 (by decide) k19 (fun _ h9 => h9) rfl dX1_syntaxError_13 ?_
        refine lv_aload_n hx hb dX1_syntaxError_16 rfl (lv_at hl 0 rfl) ?_
        refine va_get (D := G) (ci := 1) (C := RX1) (T := TX1) (N := 7) hx hb hts iX1 hown hkx.1 hP 2 rfl rfl 1 (by decide) k15 (fun _ h9 => h9) rfl dX1_syntaxError_17 ?_
        refine lv_icmp_ge (tgt := 41) hx hb dX1_syntaxError_20 (by decide) (fun c_2 => ?_) (fun c_2 => ?_)
        · replace c_2 := cn_le (a := L) (b := pz) (by omega) (by omega) c_2
          refine lv_iconst (v := (-1)) hx hb dX1_syntaxError_41 (by decide) ?_
          exact hret _ _ _ _ _ (show syO G T q a N Z b M Y sc tx L (some (Value.int (-1))) H from Or.inr ⟨by rw [hck]; exact chk_no (by omega) _, rfl, _, _, _, _, _, hP⟩) rfl hS dX1_syntaxError_42
        · replace c_2 := cn_nle (a := L) (b := pz) (by omega) (by omega) c_2
          refine lv_aload_n hx hb dX1_syntaxError_23 rfl (lv_at hl 0 rfl) ?_
          have hst := hst0.kept hS.2.1
          refine mus_V S hkx hst (mX1_readOrder l (A9 := A) (hP := hP) (hD := hD.weaken (fun _ _ _ _ => trivial)) (h9 := (fr_in hD (fun q h => hA q (Nat.le_trans hS.1 h)))) (q := q) (a := a) (N := N) (Z := Z) (b := b) (M := M) (Y := Y) (sc := sc) (tx := tx) (L := L) (cu := pz) (er := e2) (le := l2) (nb := nb2) (nc := nc2) (hL := hL) (hcu := (by omega))) gX1_syntaxError_X1_readOrder rfl idX1_readOrder ⟨Nat.le_of_ble_eq_true rfl, Nat.le_of_ble_eq_true rfl⟩ hP 2 rfl rfl rfl rfl hl.1 rfl (Nat.le_of_ble_eq_true rfl) dX1_syntaxError_24 ⟨Nat.le_of_ble_eq_true rfl, Nat.le_of_ble_eq_true rfl⟩ hS (fr_in hD (fun q h => hA q (Nat.le_trans hS.1 h))) (fun v H locs hp9 hz1 hk1 hS => ?_)
          rcases hp9 with ⟨hnl, rfl, hP⟩ | ⟨hlp, p9, a9, hp1, rfl, cu2, nb9, nc9, hP⟩ | ⟨hlp, p9, ns, hp1, rfl, nb9, nc9, hnm9, hP⟩
          · exact absurd (show pz < L by omega) hnl
          · have hwo := prs1_wf (p := pz) htx hlp
            rw [hp1] at hwo
            have hwq : p9 ≤ L := hwo.1
            have hP : va_P G vwCl (wMain T q a N Z b M Y sc tx L cu2 (nI p9) (tx pz) nb9 nc9) H := hP
            have hD : va_D A (wMain T q a N Z b M Y sc tx L cu2 (nI p9) (tx pz) nb9 nc9) := D_perm hD (List.Perm.refl _)
            refine W.eq (g2 := F0 m 27 ls [.int 0]) rfl ?_
            refine lv_if_ne (tgt := 35) hx hb dX1_syntaxError_27 (by decide) (fun c_3 => ?_) (fun c_3 => ?_)
            · replace c_3 := cn_ne (a := 0) (b := 0) (by omega) (by omega) c_3
              exact absurd c_3 (by decide)
            · replace c_3 := cn_eq (a := 0) (b := 0) (by omega) (by omega) c_3
              refine lv_aload_n hx hb dX1_syntaxError_30 rfl (lv_at hl 0 rfl) ?_
              refine va_get (D := G) (ci := 1) (C := RX1) (T := TX1) (N := 7) hx hb hts iX1 hown hkx.1 hP 2 rfl rfl 3 (by decide) k22 (fun _ h9 => h9) rfl dX1_syntaxError_31 ?_
              exact hret _ _ _ _ _ (show syO G T q a N Z b M Y sc tx L (some (Value.int (nI p9))) H from Or.inl ⟨p9, hck.trans (chk_er (f := f9) hlp hp1), hwq, rfl, _, _, _, _, _, hP⟩) rfl hS dX1_syntaxError_34
          · have hwo := prs1_wf (p := pz) htx hlp
            rw [hp1] at hwo
            have hwq : p9 ≤ L := hwo
            have hfw := prs1_fwd hlp hp1
            have hP : va_P G vwCl (wMain T q a N Z b M Y sc tx L p9 e2 (tx pz) nb9 nc9) H := hP
            have hD : va_D A (wMain T q a N Z b M Y sc tx L p9 e2 (tx pz) nb9 nc9) := D_perm hD (List.Perm.refl _)
            refine W.eq (g2 := F0 m 27 ls [.int 1]) rfl ?_
            refine lv_if_ne (tgt := 35) hx hb dX1_syntaxError_27 (by decide) (fun c_4 => ?_) (fun c_4 => ?_)
            · replace c_4 := cn_ne (a := 1) (b := 0) (by omega) (by omega) c_4
              refine lv_iinc (v := (nI (o + 1))) (lv' := [(1, .int (nI (o + 1))), (0, .ref (q 2))]) hx hb dX1_syntaxError_35 hl (k := 1) rfl (nI_inc o) (by decide) rfl (fun ls hl => ?_)
              refine lv_goto (tgt := 6) hx hb dX1_syntaxError_38 (by decide) ?_
              exact ih6 (o + 1) p9 f9 e2 (tx pz) nb9 nc9 (by omega) (by omega) (by omega) (by omega) (by exact hck.trans (chk_ok hlp hp1)) _ _ hP hD hS _ (lv_sub hl [1, 0] rfl)
            · replace c_4 := cn_eq (a := 1) (b := 0) (by omega) (by omega) c_4
              exact absurd c_4 (by decide)
  exact L6 _ 0 0 101 er le nb nc (Nat.lt_succ_self _) (by omega) (by omega) (by omega) (by rfl) _ _ hP hD hS _ (lv_sub hl [1, 0] rfl)

theorem idX5_carryOut : yX5_carryOut.cls = RX5 ∧ yX5_carryOut.cls ≠ "java/lang/invoke/MethodHandle" ∧ yX5_carryOut.cls ≠ "java/lang/invoke/VarHandle" ∧ (parseMethodDescriptor yX5_carryOut.desc).map (fun d => d.parameters.length) = some 0 := by decide +kernel

set_option maxHeartbeats 4000000 in
set_option maxRecDepth 100000 in
theorem mX5_carryOut (l : Launch) {G : va_G} {T : Nat → ClassId} {kk vv : Nat → Nat} {A9 : Nat → Prop} {H0 : Heap} {q : Nat → Nat} {a : Nat → Nat} {N : Nat → Nat} {Z : Nat → Nat → Int32} {b : Nat → Nat → Nat} {M : Nat → Nat → Nat} {Y : Nat → Nat → Nat → Int32} {sc : Nat} {tx : Nat → Int32} {L : Nat} {cu : Nat} {er : Int32} {le : Int32} {nb : Nat → Int32} {nc : Nat} (hP : va_P G vwCl (wMain T q a N Z b M Y sc tx L cu er le nb nc) H0) (hD : va_D (fun _ => True) (wMain T q a N Z b M Y sc tx L cu er le nb nc)) (h9 : ∀ q9, va_A (wMain T q a N Z b M Y sc tx L cu er le nb nc) H0.size q9 → A9 q9) (hwf : wf N Z) (hsc : sc ≤ 4) (hL : L ≤ 100) (htx : ∀ i, i < L → ¬ tx i = -1) : mus l yX5_carryOut wsX5_carryOut 6 128 [.ref (q 0)] G T kk vv A9 H0 (wMain T q a N Z b M Y sc tx L cu er le nb nc) (coO G T q a N Z b M Y sc tx L) := by
  refine mus_ofi (cc := cX5_carryOut) (maxL := 3) (ret := .int) (own := RX5) (by decide +kernel) rfl rfl (Nat.le_of_ble_eq_true rfl) hD h9 ?_
  intro p e s m below meth c Q ls A S hkx hst0 hl hD hS hA hret
  obtain ⟨hx, hb, hml, hown, hts⟩ := id S
  have hl : lv_has ls 3 [(0, .ref (q 0))] := hl
  have k27 := hts (.fieldLink RX5 27 "SunsetDates" "orders" "LSunsetDates$Orders;") (by decide +kernel)
  have iX5 : ∀ w ∈ wsX50, w ∈ wsX5_carryOut := by decide +kernel
  refine lv_aload_n hx hb dX5_carryOut_0 rfl (lv_at hl 0 rfl) ?_
  refine va_get (D := G) (ci := 5) (C := RX5) (T := TX5) (N := 4) hx hb hts iX5 hown hkx.1 hP 0 rfl rfl 3 (by decide) k27 (fun _ h9 => h9) rfl dX5_carryOut_1 ?_
  have hst := hst0.kept hS.2.1
  refine mus_V S hkx hst (mX1_syntaxError l (A9 := A) (hP := hP) (hD := hD.weaken (fun _ _ _ _ => trivial)) (h9 := (fr_in hD (fun q h => hA q (Nat.le_trans hS.1 h)))) (q := q) (a := a) (N := N) (Z := Z) (b := b) (M := M) (Y := Y) (sc := sc) (tx := tx) (L := L) (cu := cu) (er := er) (le := le) (nb := nb) (nc := nc) (hL := hL) (htx := htx)) gX5_carryOut_X1_syntaxError rfl idX1_syntaxError ⟨Nat.le_of_ble_eq_true rfl, Nat.le_of_ble_eq_true rfl⟩ hP 2 rfl rfl rfl rfl hl.1 rfl (Nat.le_of_ble_eq_true rfl) dX5_carryOut_4 ⟨Nat.le_of_ble_eq_true rfl, Nat.le_of_ble_eq_true rfl⟩ hS (fr_in hD (fun q h => hA q (Nat.le_trans hS.1 h))) (fun v H locs hp9 hz1 hk1 hS => ?_)
  rcases hp9 with ⟨p9, hce, hwq, rfl, cu2, e2, l2, nb2, nc2, hP⟩ | ⟨hcn, rfl, cu2, e2, l2, nb2, nc2, hP⟩
  · skip
    have hP : va_P G vwCl (wMain T q a N Z b M Y sc tx L cu2 e2 l2 nb2 nc2) H := hP
    have hD : va_D A (wMain T q a N Z b M Y sc tx L cu2 e2 l2 nb2 nc2) := D_perm hD (List.Perm.refl _)
    refine W.eq (g2 := F0 m 7 ls [.int (nI p9)]) rfl ?_
    refine lv_istore_n (lv' := [(1, .int (nI p9)), (0, .ref (q 0))]) hx hb dX5_carryOut_7 rfl hl (by decide) rfl (fun ls hl => ?_)
    refine lv_iload_n hx hb dX5_carryOut_8 rfl (lv_at hl 0 rfl) ?_
    refine lv_iconst (v := (-1)) hx hb dX5_carryOut_9 (by decide) ?_
    refine lv_icmp_eq (tgt := 18) hx hb dX5_carryOut_10 (by decide) (fun c_1 => ?_) (fun c_1 => ?_)
    · skip
      exact absurd c_1 (nIm1 (by omega))
    · skip
      refine lv_bipush (v := (-10)) hx hb dX5_carryOut_13 (by decide) ?_
      refine lv_iload_n hx hb dX5_carryOut_15 rfl (lv_at hl 0 rfl) ?_
      refine lv_isub hx hb dX5_carryOut_16 ?_
      exact hret _ _ _ _ _ (show coO G T q a N Z b M Y sc tx L (some (Value.int ((-10) - (nI p9)))) H from Or.inl ⟨p9, hce, rfl, _, _, _, _, _, hP⟩) rfl hS dX5_carryOut_17
  · skip
    have hP : va_P G vwCl (wMain T q a N Z b M Y sc tx L cu2 e2 l2 nb2 nc2) H := hP
    have hD : va_D A (wMain T q a N Z b M Y sc tx L cu2 e2 l2 nb2 nc2) := D_perm hD (List.Perm.refl _)
    refine W.eq (g2 := F0 m 7 ls [.int (-1)]) rfl ?_
    refine lv_istore_n (lv' := [(1, .int (-1)), (0, .ref (q 0))]) hx hb dX5_carryOut_7 rfl hl (by decide) rfl (fun ls hl => ?_)
    refine lv_iload_n hx hb dX5_carryOut_8 rfl (lv_at hl 0 rfl) ?_
    refine lv_iconst (v := (-1)) hx hb dX5_carryOut_9 (by decide) ?_
    refine lv_icmp_eq (tgt := 18) hx hb dX5_carryOut_10 (by decide) (fun c_2 => ?_) (fun c_2 => ?_)
    · skip
      refine lv_aload_n hx hb dX5_carryOut_18 rfl (lv_at hl 1 rfl) ?_
      refine mu_V S hkx (mX5_saveState l (hP := hP) (hD := hD.weaken (fun _ _ _ _ => trivial)) (q := q) (a := a) (N := N) (Z := Z) (b := b) (M := M) (Y := Y) (sc := sc) (tx := tx) (L := L) (cu := cu2) (er := e2) (le := l2) (nb := nb2) (nc := nc2) (hsc := (by omega))) gX5_carryOut_X5_saveState rfl idX5_saveState ⟨Nat.le_of_ble_eq_true rfl, Nat.le_of_ble_eq_true rfl⟩ hP 0 rfl rfl rfl rfl hl.1 rfl (Nat.le_of_ble_eq_true rfl) dX5_carryOut_19 ⟨Nat.le_of_ble_eq_true rfl, Nat.le_of_ble_eq_true rfl⟩ hS (fr_in hD (fun q h => hA q (Nat.le_trans hS.1 h))) (fun v H locs hp9 hz1 hk1 hS => ?_)
      obtain ⟨rfl, hP⟩ := hp9
      have hP : va_P G vwCl (wMain T q a N Z (svB sc b) (psh sc M N) (psh sc Y Z) (svC sc) tx L cu2 e2 l2 nb2 nc2) H := hP
      have hD : va_D A (wMain T q a N Z (svB sc b) (psh sc M N) (psh sc Y Z) (svC sc) tx L cu2 e2 l2 nb2 nc2) := D_perm hD sv_addr
      refine W.eq (g2 := F0 m 22 ls []) rfl ?_
      refine lv_aload_n hx hb dX5_carryOut_22 rfl (lv_at hl 1 rfl) ?_
      refine va_get (D := G) (ci := 5) (C := RX5) (T := TX5) (N := 4) hx hb hts iX5 hown hkx.1 hP 0 rfl rfl 3 (by decide) k27 (fun _ h9 => h9) rfl dX5_carryOut_23 ?_
      refine mu_V S hkx (mX1_rewind l (hP := hP) (hD := hD.weaken (fun _ _ _ _ => trivial)) (q := q) (a := a) (N := N) (Z := Z) (b := (svB sc b)) (M := (psh sc M N)) (Y := (psh sc Y Z)) (sc := (svC sc)) (tx := tx) (L := L) (cu := cu2) (er := e2) (le := l2) (nb := nb2) (nc := nc2)) gX5_carryOut_X1_rewind rfl idX1_rewind ⟨Nat.le_of_ble_eq_true rfl, Nat.le_of_ble_eq_true rfl⟩ hP 2 rfl rfl rfl rfl hl.1 rfl (Nat.le_of_ble_eq_true rfl) dX5_carryOut_26 ⟨Nat.le_of_ble_eq_true rfl, Nat.le_of_ble_eq_true rfl⟩ hS (fr_in hD (fun q h => hA q (Nat.le_trans hS.1 h))) (fun v H locs hp9 hz1 hk1 hS => ?_)
      obtain ⟨rfl, hP⟩ := hp9
      have hP : va_P G vwCl (wMain T q a N Z (svB sc b) (psh sc M N) (psh sc Y Z) (svC sc) tx L 0 e2 l2 nb2 nc2) H := hP
      have hD : va_D A (wMain T q a N Z (svB sc b) (psh sc M N) (psh sc Y Z) (svC sc) tx L 0 e2 l2 nb2 nc2) := D_perm hD (List.Perm.refl _)
      refine W.eq (g2 := F0 m 29 ls []) rfl ?_
      refine lv_iconst (v := 0) hx hb dX5_carryOut_29 (by decide) ?_
      refine lv_istore_n (lv' := [(2, .int 0), (1, .int (-1)), (0, .ref (q 0))]) hx hb dX5_carryOut_30 rfl hl (by decide) rfl (fun ls hl => ?_)
      have L31 : ∀ (fuel : Nat) (y f2 n : Nat) (N9 : Nat → Nat) (Z9 : Nat → Nat → Int32) (e2 l2 : Int32) (nb2 : Nat → Int32) (nc2 : Nat), f2 < fuel → y ≤ L → 101 ≤ f2 + y → chk tx L f2 y = none → wf N9 Z9 → cry tx L 101 0 N Z 0 = cry tx L f2 y N9 Z9 n → n ≤ y → ∀ (H : Heap) (locs : List Loc), va_P G vwCl (wMain T q a N9 Z9 (svB sc b) (psh sc M N) (psh sc Y Z) (svC sc) tx L y e2 l2 nb2 nc2) H → va_D A (wMain T q a N9 Z9 (svB sc b) (psh sc M N) (psh sc Y Z) (svC sc) tx L y e2 l2 nb2 nc2) → va_S A H0 H locs → ∀ ls : Array Slot, lv_has ls 3 [(0, .ref (q 0)), (2, .int (nI n))] → W p l e (rmo 6 128) s m ([.ref (q 0)] : List Value).toArray below meth c H locs 0 0 Q (F0 m 31 ls []) := by
        intro fuel
        induction fuel with
        | zero => intro y f2 n N9 Z9 e2 l2 nb2 nc2 hm; exact absurd hm (Nat.not_lt_zero _)
        | succ fuel ih31 =>
          intro y f2 n N9 Z9 e2 l2 nb2 nc2 hm31 hy hf2 hck2 hwf hcy hnn H locs hP hD hS ls hl
          obtain ⟨f3, rfl⟩ : ∃ f3, f2 = f3 + 1 := ⟨f2 - 1, by omega⟩
          have hb2 := hwf.1
          refine lv_iload_n hx hb dX5_carryOut_31 rfl (lv_at hl 1 rfl) ?_
          refine lv_bipush (v := 100) hx hb dX5_carryOut_32 (by decide) ?_
          refine lv_icmp_ge (tgt := 60) hx hb dX5_carryOut_34 (by decide) (fun c_3 => ?_) (fun c_3 => ?_)
          · replace c_3 := cn_le (a := 100) (b := n) (by omega) (by omega) c_3
            refine lv_iload_n hx hb dX5_carryOut_60 rfl (lv_at hl 1 rfl) ?_
            have hce : cry tx L 101 0 N Z 0 = (n, N9, Z9) := hcy.trans (cry_no (by omega) _)
            exact hret _ _ _ _ _ (show coO G T q a N Z b M Y sc tx L (some (Value.int (nI n))) H from Or.inr ⟨hcn, by rw [hce], _, _, _, _, _, by rw [hce]; exact hP⟩) rfl hS dX5_carryOut_61
          · replace c_3 := cn_nle (a := 100) (b := n) (by omega) (by omega) c_3
            refine lv_aload_n hx hb dX5_carryOut_37 rfl (lv_at hl 0 rfl) ?_
            refine va_get (D := G) (ci := 5) (C := RX5) (T := TX5) (N := 4) hx hb hts iX5 hown hkx.1 hP 0 rfl rfl 3 (by decide) k27 (fun _ h9 => h9) rfl dX5_carryOut_38 ?_
            have hst := hst0.kept hS.2.1
            refine mus_V S hkx hst (mX1_readOrder l (A9 := A) (hP := hP) (hD := hD.weaken (fun _ _ _ _ => trivial)) (h9 := (fr_in hD (fun q h => hA q (Nat.le_trans hS.1 h)))) (q := q) (a := a) (N := N9) (Z := Z9) (b := (svB sc b)) (M := (psh sc M N)) (Y := (psh sc Y Z)) (sc := (svC sc)) (tx := tx) (L := L) (cu := y) (er := e2) (le := l2) (nb := nb2) (nc := nc2) (hL := hL) (hcu := (by omega))) gX5_carryOut_X1_readOrder rfl idX1_readOrder ⟨Nat.le_of_ble_eq_true rfl, Nat.le_of_ble_eq_true rfl⟩ hP 2 rfl rfl rfl rfl hl.1 rfl (Nat.le_of_ble_eq_true rfl) dX5_carryOut_41 ⟨Nat.le_of_ble_eq_true rfl, Nat.le_of_ble_eq_true rfl⟩ hS (fr_in hD (fun q h => hA q (Nat.le_trans hS.1 h))) (fun v H locs hp9 hz1 hk1 hS => ?_)
            rcases hp9 with ⟨hnl, rfl, hP⟩ | ⟨hlp, p9, a9, hp1, rfl, cu2, nb9, nc9, hP⟩ | ⟨hlp, p9, ns, hp1, rfl, nb9, nc9, hnm9, hP⟩
            · skip
              have hP : va_P G vwCl (wMain T q a N9 Z9 (svB sc b) (psh sc M N) (psh sc Y Z) (svC sc) tx L y e2 l2 nb2 nc2) H := hP
              have hD : va_D A (wMain T q a N9 Z9 (svB sc b) (psh sc M N) (psh sc Y Z) (svC sc) tx L y e2 l2 nb2 nc2) := D_perm hD (List.Perm.refl _)
              refine W.eq (g2 := F0 m 44 ls [.int 0]) rfl ?_
              refine lv_if_eq (tgt := 60) hx hb dX5_carryOut_44 (by decide) (fun c_4 => ?_) (fun c_4 => ?_)
              · replace c_4 := cn_eq (a := 0) (b := 0) (by omega) (by omega) c_4
                refine lv_iload_n hx hb dX5_carryOut_60 rfl (lv_at hl 1 rfl) ?_
                have hce : cry tx L 101 0 N Z 0 = (n, N9, Z9) := hcy.trans (cry_no (by omega) _)
                exact hret _ _ _ _ _ (show coO G T q a N Z b M Y sc tx L (some (Value.int (nI n))) H from Or.inr ⟨hcn, by rw [hce], _, _, _, _, _, by rw [hce]; exact hP⟩) rfl hS dX5_carryOut_61
              · replace c_4 := cn_ne (a := 0) (b := 0) (by omega) (by omega) c_4
                exact absurd c_4 (by decide)
            · exact nomatch (hck2.symm.trans (chk_er (f := f3) hlp hp1))
            · have hwo := prs1_wf (p := y) htx hlp
              rw [hp1] at hwo
              have hwq : p9 ≤ L := hwo
              have hfw := prs1_fwd hlp hp1
              have hP : va_P G vwCl (wMain T q a N9 Z9 (svB sc b) (psh sc M N) (psh sc Y Z) (svC sc) tx L p9 e2 (tx y) nb9 nc9) H := hP
              have hD : va_D A (wMain T q a N9 Z9 (svB sc b) (psh sc M N) (psh sc Y Z) (svC sc) tx L p9 e2 (tx y) nb9 nc9) := D_perm hD (List.Perm.refl _)
              refine W.eq (g2 := F0 m 44 ls [.int 1]) rfl ?_
              refine lv_if_eq (tgt := 60) hx hb dX5_carryOut_44 (by decide) (fun c_5 => ?_) (fun c_5 => ?_)
              · replace c_5 := cn_eq (a := 1) (b := 0) (by omega) (by omega) c_5
                exact absurd c_5 (by decide)
              · replace c_5 := cn_ne (a := 1) (b := 0) (by omega) (by omega) c_5
                refine lv_aload_n hx hb dX5_carryOut_47 rfl (lv_at hl 0 rfl) ?_
                refine mu_V S hkx (mX5_carryOutOrder l (hP := hP) (hD := hD.weaken (fun _ _ _ _ => trivial)) (q := q) (a := a) (N := N9) (Z := Z9) (b := (svB sc b)) (M := (psh sc M N)) (Y := (psh sc Y Z)) (sc := (svC sc)) (tx := tx) (L := L) (cu := p9) (er := e2) (le := (tx y)) (nb := nb9) (nc := nc9) (hwf := hwf) (hle := prs1_let hp1)) gX5_carryOut_X5_carryOutOrder rfl idX5_carryOutOrder ⟨Nat.le_of_ble_eq_true rfl, Nat.le_of_ble_eq_true rfl⟩ hP 0 rfl rfl rfl rfl hl.1 rfl (Nat.le_of_ble_eq_true rfl) dX5_carryOut_48 ⟨Nat.le_of_ble_eq_true rfl, Nat.le_of_ble_eq_true rfl⟩ hS (fr_in hD (fun q h => hA q (Nat.le_trans hS.1 h))) (fun v H locs hp9 hz1 hk1 hS => ?_)
                rcases hp9 with ⟨ho9, rfl, hP⟩ | ⟨ho9, rfl, hP⟩
                · skip
                  have hP : va_P G vwCl (wMain T q a N9 Z9 (svB sc b) (psh sc M N) (psh sc Y Z) (svC sc) tx L p9 e2 (tx y) nb9 nc9) H := hP
                  have hD : va_D A (wMain T q a N9 Z9 (svB sc b) (psh sc M N) (psh sc Y Z) (svC sc) tx L p9 e2 (tx y) nb9 nc9) := D_perm hD (List.Perm.refl _)
                  refine W.eq (g2 := F0 m 51 ls [.int 0]) rfl ?_
                  refine lv_if_eq (tgt := 60) hx hb dX5_carryOut_51 (by decide) (fun c_6 => ?_) (fun c_6 => ?_)
                  · replace c_6 := cn_eq (a := 0) (b := 0) (by omega) (by omega) c_6
                    refine lv_iload_n hx hb dX5_carryOut_60 rfl (lv_at hl 1 rfl) ?_
                    have hce : cry tx L 101 0 N Z 0 = (n, N9, Z9) := hcy.trans (cry_st (f := f3) hlp hp1 hnm9 ho9)
                    exact hret _ _ _ _ _ (show coO G T q a N Z b M Y sc tx L (some (Value.int (nI n))) H from Or.inr ⟨hcn, by rw [hce], _, _, _, _, _, by rw [hce]; exact hP⟩) rfl hS dX5_carryOut_61
                  · replace c_6 := cn_ne (a := 0) (b := 0) (by omega) (by omega) c_6
                    exact absurd c_6 (by decide)
                · skip
                  have hP : va_P G vwCl (wMain T q a (apN N9 (tx y)) (apZ N9 Z9 (tx y) (nb9 0) (nb9 1) (nb9 2) (nb9 3) (nb9 4)) (svB sc b) (psh sc M N) (psh sc Y Z) (svC sc) tx L p9 e2 (tx y) nb9 nc9) H := hP
                  have hD : va_D A (wMain T q a (apN N9 (tx y)) (apZ N9 Z9 (tx y) (nb9 0) (nb9 1) (nb9 2) (nb9 3) (nb9 4)) (svB sc b) (psh sc M N) (psh sc Y Z) (svC sc) tx L p9 e2 (tx y) nb9 nc9) := D_perm hD (List.Perm.refl _)
                  refine W.eq (g2 := F0 m 51 ls [.int 1]) rfl ?_
                  refine lv_if_eq (tgt := 60) hx hb dX5_carryOut_51 (by decide) (fun c_7 => ?_) (fun c_7 => ?_)
                  · replace c_7 := cn_eq (a := 1) (b := 0) (by omega) (by omega) c_7
                    exact absurd c_7 (by decide)
                  · replace c_7 := cn_ne (a := 1) (b := 0) (by omega) (by omega) c_7
                    refine lv_iinc (v := (nI (n + 1))) (lv' := [(2, .int (nI (n + 1))), (0, .ref (q 0))]) hx hb dX5_carryOut_54 hl (k := 1) rfl (nI_inc n) (by decide) rfl (fun ls hl => ?_)
                    refine lv_goto (tgt := 31) hx hb dX5_carryOut_57 (by decide) ?_
                    exact ih31 p9 f3 (n + 1) (apN N9 (tx y)) (apZ N9 Z9 (tx y) (nb9 0) (nb9 1) (nb9 2) (nb9 3) (nb9 4)) e2 (tx y) nb9 nc9 (by omega) (by omega) (by omega) (by exact (chk_ok hlp hp1).symm.trans hck2) (by exact ap_wf hwf ho9) (by exact hcy.trans (cry_ok hlp hp1 hnm9 ho9)) (by omega) _ _ hP hD hS _ (lv_sub hl [1, 0] rfl)
      exact L31 _ 0 101 0 N Z e2 l2 nb2 nc2 (Nat.lt_succ_self _) (by omega) (by omega) (by exact hcn) (by exact hwf) (by rfl) (by omega) _ _ hP hD hS _ (lv_sub hl [2, 0] rfl)
    · skip
      exact absurd rfl c_2
