theorem idL_isMove : yL_isMove.cls = RL ∧ yL_isMove.cls ≠ "java/lang/invoke/MethodHandle" ∧ yL_isMove.cls ≠ "java/lang/invoke/VarHandle" ∧ (parseMethodDescriptor yL_isMove.desc).map (fun d => d.parameters.length) = some 4 := by decide +kernel
set_option maxHeartbeats 4000000 in
set_option maxRecDepth 100000 in
theorem nL_isMove (l : Launch) (hl0 : l.stackTraces = false) {G : va_G} {T : Nat → ClassId} {sa : Nat → Nat} {A9 : Nat → Prop} {H0 : Heap} {q : Nat → Nat} {a : Nat → Nat} {N : Nat → Nat} {Z : Nat → Nat → Int32} {b : Nat → Nat → Nat} {M : Nat → Nat → Nat} {Y : Nat → Nat → Nat → Int32} {sc : Nat} {tx : Nat → Int32} {L : Nat} {cu : Nat} {er : Int32} {le : Int32} {nb : Nat → Int32} {nc : Nat} {u : Nat} {t : Nat} {f : Nat} (h9 : ∀ z9 : Nat, va_A (wMain T q a N Z b M Y sc tx L cu er le nb nc) H0.size z9 → A9 z9) (hP : va_P G vwCl (wMain T q a N Z b M Y sc tx L cu er le nb nc) H0) (hD : va_D (fun _ => True) (wMain T q a N Z b M Y sc tx L cu er le nb nc)) (hwf : wf N Z) (hsc : sc ≤ 4) (hu : u < N 2) (ht : t < N 0) (hf : f ≤ 999) : wn l yL_isMove wsL_isMove 10 168 6 [.ref (q 0), .int (nI u), .int (nI t), .int (nI f)] G T sa A9 H0 (wMain T q a N Z b M Y sc tx L cu er le nb nc) (fun v9 H9 => v9 = some (.int 1) ∧ wst G T q a N Z b tx L cu er le nb nc H9) := by
  refine wn_of (cc := cL_isMove) (maxL := 8) (ret := .boolean) (own := RL) (by decide +kernel) rfl rfl (Nat.le_of_ble_eq_true rfl) h9 hD ?_
  have hb2 := hwf.1
  intro p e s m below meth c Q ls A S hkx hth0 hl hD hS hA hret
  obtain ⟨hx, hb, hml, hown, hts⟩ := id S
  have hl : lv_has ls 8 [(0, .ref (q 0)), (1, .int (nI u)), (2, .int (nI t)), (3, .int (nI f))] := hl
  have hth := hth0
  have hD0 := hD
  refine lv_aload_n hx hb dL_isMove_0 rfl (lv_at hl 0 rfl) ?_
  refine lv_iload_n hx hb dL_isMove_1 rfl (lv_at hl 1 rfl) ?_
  refine lv_iload_n hx hb dL_isMove_2 rfl (lv_at hl 2 rfl) ?_
  refine lv_iload_n hx hb dL_isMove_3 rfl (lv_at hl 3 rfl) ?_
  refine rn_V S hkx hth (nX5_latestMove l hl0 (sa := sa) (h9 := (fun q h => hA q (Nat.le_trans hS.1 h))) (hP := hP) (hwf := hwf) (hu := (by omega)) (hv := (by omega)) (hd := (by omega)) (u := u) (v := t) (d := f)) gL_isMove_X5_latestMove rfl idX5_latestMove ⟨Nat.le_of_ble_eq_true rfl, Nat.le_of_ble_eq_true rfl⟩ hP 0 rfl rfl rfl rfl hl.1 rfl (Nat.le_of_ble_eq_true rfl) dL_isMove_4 ⟨Nat.le_of_ble_eq_true rfl, Nat.le_of_ble_eq_true rfl⟩ (fun v9 hv9 => ?_)
  subst hv9
  refine W.eq (g2 := F0 m 7 ls [.int (ltP N Z u t f)]) rfl ?_
  by_cases hz : ltP N Z u t f = -1
  · skip
    refine W.eq (g2 := F0 m 7 ls [.int (-1)]) (congrArg (fun z9 => F0 m 7 ls (.int z9 :: [])) (hz)) ?_
    obtain ⟨i, hi, hi9⟩ := mv_none hwf hu ht hf hz
    refine lv_istore (lv' := [(4, .int (-1)), (0, .ref (q 0)), (1, .int (nI u)), (2, .int (nI t)), (3, .int (nI f))]) hx hb dL_isMove_7 hl (by decide) rfl (fun ls hl => ?_)
    refine lv_aload_n hx hb dL_isMove_9 rfl (lv_at hl 1 rfl) ?_
    refine lv_iload_n hx hb dL_isMove_10 rfl (lv_at hl 2 rfl) ?_
    refine lv_iload_n hx hb dL_isMove_11 rfl (lv_at hl 3 rfl) ?_
    refine lv_iload hx hb dL_isMove_12 (lv_at hl 0 rfl) ?_
    refine lv_if_ge (tgt := 21) hx hb dL_isMove_14 (by decide) (fun c_1 => ?_) (fun c_1 => ?_)
    · exact absurd c_1 (by decide)
    · have c_1n := Int32.not_le.mp c_1
      refine lv_iload_n hx hb dL_isMove_17 rfl (lv_at hl 4 rfl) ?_
      refine lv_goto (tgt := 23) hx hb dL_isMove_18 (by decide) ?_
      refine wn_V S hkx hth (nX5_pledge l hl0 (sa := sa) (A9 := A) (h9 := (fun q h => hA q (Nat.le_trans hS.1 h))) (hP := hP) (hD := hD.weaken (fun _ _ _ _ => trivial)) (hwf := hwf) (hsc := (by omega)) (hu := (by omega)) (hv := (by omega)) (hd := (by omega)) (u := u) (v := t) (d := f)) gL_isMove_X5_pledge rfl idX5_pledge ⟨Nat.le_of_ble_eq_true rfl, Nat.le_of_ble_eq_true rfl⟩ hP 0 rfl rfl rfl rfl hl.1 rfl (Nat.le_of_ble_eq_true rfl) dL_isMove_23 ⟨Nat.le_of_ble_eq_true rfl, Nat.le_of_ble_eq_true rfl⟩ hS (fr_in hD (fun q h => hA q (Nat.le_trans hS.1 h))) (fun v9 H locs hp9 hz1 hk1 hS => ?_)
      obtain ⟨rfl, hP⟩ := hp9
      have hP : va_P G vwCl (wMain T q a N (uPl Z u (nI t) (nI f)) (svB sc b) (psh sc M N) (psh sc Y Z) (svC sc) tx L cu er le nb nc) H := hP
      have hD : va_D A (wMain T q a N (uPl Z u (nI t) (nI f)) (svB sc b) (psh sc M N) (psh sc Y Z) (svC sc) tx L cu er le nb nc) := D_perm hD sv_addr
      have hth := hth0.kept hS.2.1
      refine W.eq (g2 := F0 m 26 ls [.int (Z 8 u)]) rfl ?_
      have hwg1 : wf N (uPl Z u (nI t) (nI f)) := wf_pl hwf (Or.inr ⟨_, ht, rfl, by rw [nI_toInt (by omega)]; omega⟩)
      have hsv1 := svC_bd (sc := sc) (by omega)
      refine lv_istore (lv' := [(5, .int (Z 8 u)), (4, .int (-1)), (0, .ref (q 0)), (1, .int (nI u)), (2, .int (nI t)), (3, .int (nI f))]) hx hb dL_isMove_26 hl (by decide) rfl (fun ls hl => ?_)
      refine lv_aload_n hx hb dL_isMove_28 rfl (lv_at hl 2 rfl) ?_
      refine lv_iload_n hx hb dL_isMove_29 rfl (lv_at hl 3 rfl) ?_
      refine lv_iload_n hx hb dL_isMove_30 rfl (lv_at hl 5 rfl) ?_
      refine rn_V S hkx hth (nX5_firstStranded l hl0 (sa := sa) (h9 := (fun q h => hA q (Nat.le_trans hS.1 h))) (hP := hP) (hwf := hwg1) (hu := (by omega)) (hd := (by omega)) (u := u) (d := f)) gL_isMove_X5_firstStranded rfl idX5_firstStranded ⟨Nat.le_of_ble_eq_true rfl, Nat.le_of_ble_eq_true rfl⟩ hP 0 rfl rfl rfl rfl hl.1 rfl (Nat.le_of_ble_eq_true rfl) dL_isMove_31 ⟨Nat.le_of_ble_eq_true rfl, Nat.le_of_ble_eq_true rfl⟩ (fun v9 hv9 => ?_)
      subst hv9
      refine W.eq (g2 := F0 m 34 ls [.int (fstD (uuB N (uPl Z u (nI t) (nI f)) u) f (1000 - f))]) rfl ?_
      refine W.eq (g2 := F0 m 34 ls [.int (nI i)]) (congrArg (fun z9 => F0 m 34 ls (.int z9 :: [])) (hi)) ?_
      refine lv_iconst (v := (-1)) hx hb dL_isMove_34 (by decide) ?_
      refine lv_icmp_ne (tgt := 42) hx hb dL_isMove_35 (by decide) (fun c_2 => ?_) (fun c_2 => ?_)
      · skip
        refine lv_iconst (v := 0) hx hb dL_isMove_42 (by decide) ?_
        refine lv_iload hx hb dL_isMove_43 (lv_at hl 1 rfl) ?_
        refine lv_if_lt (tgt := 52) hx hb dL_isMove_45 (by decide) (fun c_3 => ?_) (fun c_3 => ?_)
        · have c_3n := Int32.not_le.mpr c_3
          refine lv_iconst (v := 0) hx hb dL_isMove_52 (by decide) ?_
          refine lv_icmp_ne (tgt := 60) hx hb dL_isMove_53 (by decide) (fun c_4 => ?_) (fun c_4 => ?_)
          · exact absurd c_4 (by decide)
          · replace c_4 := cn_eq (a := 0) (b := 0) (by omega) (by omega) c_4
            refine lv_iconst (v := 1) hx hb dL_isMove_56 (by decide) ?_
            refine lv_goto (tgt := 61) hx hb dL_isMove_57 (by decide) ?_
            refine lv_istore (lv' := [(6, .int 1), (5, .int (Z 8 u)), (4, .int (-1)), (0, .ref (q 0)), (1, .int (nI u)), (2, .int (nI t)), (3, .int (nI f))]) hx hb dL_isMove_61 hl (by decide) rfl (fun ls hl => ?_)
            refine lv_aload_n hx hb dL_isMove_63 rfl (lv_at hl 3 rfl) ?_
            refine wn_V S hkx hth (nX5_undo l hl0 (sa := sa) (A9 := A) (h9 := (fun q h => hA q (Nat.le_trans hS.1 h))) (hP := hP) (hD := hD.weaken (fun _ _ _ _ => trivial)) (hwf := hwg1) (hsc := (by omega)) (h0 := (by omega)) ) gL_isMove_X5_undo rfl idX5_undo ⟨Nat.le_of_ble_eq_true rfl, Nat.le_of_ble_eq_true rfl⟩ hP 0 rfl rfl rfl rfl hl.1 rfl (Nat.le_of_ble_eq_true rfl) dL_isMove_64 ⟨Nat.le_of_ble_eq_true rfl, Nat.le_of_ble_eq_true rfl⟩ hS (fr_in hD (fun q h => hA q (Nat.le_trans hS.1 h))) (fun v9 H locs hp9 hz1 hk1 hS => ?_)
            obtain ⟨rfl, hP⟩ := hp9
            have hP : va_P G vwCl (wMain T q a ((psh sc M N) ((svC sc) - 1)) ((psh sc Y Z) ((svC sc) - 1)) (svB sc b) (psh sc M N) (psh sc Y Z) ((svC sc) - 1) tx L cu er le nb nc) H := hP
            have hD : va_D A (wMain T q a ((psh sc M N) ((svC sc) - 1)) ((psh sc Y Z) ((svC sc) - 1)) (svB sc b) (psh sc M N) (psh sc Y Z) ((svC sc) - 1) tx L cu er le nb nc) := D_perm hD (List.Perm.refl _)
            have hth := hth0.kept hS.2.1
            refine W.eq (g2 := F0 m 67 ls [.int (nI ((svC sc) - 1))]) rfl ?_
            obtain ⟨b2, M2, Y2, sc2, hsc2, hpm2, hP⟩ := un_st (show sc ≤ 4 by omega) (List.Perm.refl _) hP
            have hD : va_D A (wMain T q a N Z b2 M2 Y2 sc2 tx L cu er le nb nc) := D_perm hD0 hpm2
            refine lv_istore (lv' := [(7, .int (nI ((svC sc) - 1))), (6, .int 1), (5, .int (Z 8 u)), (4, .int (-1)), (0, .ref (q 0)), (1, .int (nI u)), (2, .int (nI t)), (3, .int (nI f))]) hx hb dL_isMove_67 hl (by decide) rfl (fun ls hl => ?_)
            refine lv_iload hx hb dL_isMove_69 (lv_at hl 3 rfl) ?_
            refine lv_if_lt (tgt := 121) hx hb dL_isMove_71 (by decide) (fun c_5 => ?_) (fun c_5 => ?_)
            · have c_5n := Int32.not_le.mpr c_5
              refine lv_iload hx hb dL_isMove_121 (lv_at hl 1 rfl) ?_
              refine lv_if_eq (tgt := 147) hx hb dL_isMove_123 (by decide) (fun c_6 => ?_) (fun c_6 => ?_)
              · exact absurd c_6 (by decide)
              · replace c_6 := cn_ne (a := 1) (b := 0) (by omega) (by omega) c_6
                refine lv_iload hx hb dL_isMove_126 (lv_at hl 3 rfl) ?_
                refine lv_iconst (v := (-1)) hx hb dL_isMove_128 (by decide) ?_
                refine lv_icmp_eq (tgt := 138) hx hb dL_isMove_129 (by decide) (fun c_7 => ?_) (fun c_7 => ?_)
                · skip
                  refine lv_iload hx hb dL_isMove_138 (lv_at hl 0 rfl) ?_
                  refine lv_if_lt (tgt := 147) hx hb dL_isMove_140 (by decide) (fun c_8 => ?_) (fun c_8 => ?_)
                  · replace c_8 := cn_lt (a := ((svC sc) - 1)) (b := 0) (by omega) (by omega) c_8
                    exfalso; omega
                  · replace c_8 := cn_nlt (a := ((svC sc) - 1)) (b := 0) (by omega) (by omega) c_8
                    refine lv_iconst (v := 1) hx hb dL_isMove_143 (by decide) ?_
                    refine lv_goto (tgt := 148) hx hb dL_isMove_144 (by decide) ?_
                    exact hret _ H _ _ _ _ _ (show some (Value.int 1) = some (Value.int 1) ∧ wst G T q a N Z b tx L cu er le nb nc H from ⟨rfl, wst_of hsc2 hpm2 hP⟩) rfl hS (Nat.le_of_ble_eq_true rfl) (Nat.le_of_ble_eq_true rfl) dL_isMove_148
                · exact absurd c_7 (by decide)
            · exact absurd c_5 (by decide)
        · exact absurd c_3 (by decide)
      · exact absurd c_2 (nIm1 (by omega))
  · skip
    obtain ⟨e, he, he1, he2, he3, he4⟩ := mv_some hwf hu ht hf hz
    refine W.eq (g2 := F0 m 7 ls [.int (nI e)]) (congrArg (fun z9 => F0 m 7 ls (.int z9 :: [])) (he)) ?_
    refine lv_istore (lv' := [(4, .int (nI e)), (0, .ref (q 0)), (1, .int (nI u)), (2, .int (nI t)), (3, .int (nI f))]) hx hb dL_isMove_7 hl (by decide) rfl (fun ls hl => ?_)
    refine lv_aload_n hx hb dL_isMove_9 rfl (lv_at hl 1 rfl) ?_
    refine lv_iload_n hx hb dL_isMove_10 rfl (lv_at hl 2 rfl) ?_
    refine lv_iload_n hx hb dL_isMove_11 rfl (lv_at hl 3 rfl) ?_
    refine lv_iload hx hb dL_isMove_12 (lv_at hl 0 rfl) ?_
    refine lv_if_ge (tgt := 21) hx hb dL_isMove_14 (by decide) (fun c_9 => ?_) (fun c_9 => ?_)
    · replace c_9 := cn_le (a := 0) (b := e) (by omega) (by omega) c_9
      refine lv_iload hx hb dL_isMove_21 (lv_at hl 0 rfl) ?_
      refine wn_V S hkx hth (nX5_pledge l hl0 (sa := sa) (A9 := A) (h9 := (fun q h => hA q (Nat.le_trans hS.1 h))) (hP := hP) (hD := hD.weaken (fun _ _ _ _ => trivial)) (hwf := hwf) (hsc := (by omega)) (hu := (by omega)) (hv := (by omega)) (hd := (by omega)) (u := u) (v := t) (d := e)) gL_isMove_X5_pledge rfl idX5_pledge ⟨Nat.le_of_ble_eq_true rfl, Nat.le_of_ble_eq_true rfl⟩ hP 0 rfl rfl rfl rfl hl.1 rfl (Nat.le_of_ble_eq_true rfl) dL_isMove_23 ⟨Nat.le_of_ble_eq_true rfl, Nat.le_of_ble_eq_true rfl⟩ hS (fr_in hD (fun q h => hA q (Nat.le_trans hS.1 h))) (fun v9 H locs hp9 hz1 hk1 hS => ?_)
      obtain ⟨rfl, hP⟩ := hp9
      have hP : va_P G vwCl (wMain T q a N (uPl Z u (nI t) (nI e)) (svB sc b) (psh sc M N) (psh sc Y Z) (svC sc) tx L cu er le nb nc) H := hP
      have hD : va_D A (wMain T q a N (uPl Z u (nI t) (nI e)) (svB sc b) (psh sc M N) (psh sc Y Z) (svC sc) tx L cu er le nb nc) := D_perm hD sv_addr
      have hth := hth0.kept hS.2.1
      refine W.eq (g2 := F0 m 26 ls [.int (Z 8 u)]) rfl ?_
      have hwg1 : wf N (uPl Z u (nI t) (nI e)) := wf_pl hwf (Or.inr ⟨_, ht, rfl, by rw [nI_toInt (by omega)]; omega⟩)
      have hsv1 := svC_bd (sc := sc) (by omega)
      refine lv_istore (lv' := [(5, .int (Z 8 u)), (4, .int (nI e)), (0, .ref (q 0)), (1, .int (nI u)), (2, .int (nI t)), (3, .int (nI f))]) hx hb dL_isMove_26 hl (by decide) rfl (fun ls hl => ?_)
      refine lv_aload_n hx hb dL_isMove_28 rfl (lv_at hl 2 rfl) ?_
      refine lv_iload_n hx hb dL_isMove_29 rfl (lv_at hl 3 rfl) ?_
      refine lv_iload_n hx hb dL_isMove_30 rfl (lv_at hl 5 rfl) ?_
      refine rn_V S hkx hth (nX5_firstStranded l hl0 (sa := sa) (h9 := (fun q h => hA q (Nat.le_trans hS.1 h))) (hP := hP) (hwf := hwg1) (hu := (by omega)) (hd := (by omega)) (u := u) (d := f)) gL_isMove_X5_firstStranded rfl idX5_firstStranded ⟨Nat.le_of_ble_eq_true rfl, Nat.le_of_ble_eq_true rfl⟩ hP 0 rfl rfl rfl rfl hl.1 rfl (Nat.le_of_ble_eq_true rfl) dL_isMove_31 ⟨Nat.le_of_ble_eq_true rfl, Nat.le_of_ble_eq_true rfl⟩ (fun v9 hv9 => ?_)
      subst hv9
      refine W.eq (g2 := F0 m 34 ls [.int (fstD (uuB N (uPl Z u (nI t) (nI e)) u) f (1000 - f))]) rfl ?_
      refine W.eq (g2 := F0 m 34 ls [.int (-1)]) (congrArg (fun z9 => F0 m 34 ls (.int z9 :: [])) (he3)) ?_
      refine lv_iconst (v := (-1)) hx hb dL_isMove_34 (by decide) ?_
      refine lv_icmp_ne (tgt := 42) hx hb dL_isMove_35 (by decide) (fun c_10 => ?_) (fun c_10 => ?_)
      · exact absurd c_10 (by decide)
      · skip
        refine lv_iconst (v := 1) hx hb dL_isMove_38 (by decide) ?_
        refine lv_goto (tgt := 43) hx hb dL_isMove_39 (by decide) ?_
        refine lv_iload hx hb dL_isMove_43 (lv_at hl 1 rfl) ?_
        refine lv_if_lt (tgt := 52) hx hb dL_isMove_45 (by decide) (fun c_11 => ?_) (fun c_11 => ?_)
        · replace c_11 := cn_lt (a := e) (b := 0) (by omega) (by omega) c_11
          exfalso; omega
        · replace c_11 := cn_nlt (a := e) (b := 0) (by omega) (by omega) c_11
          refine lv_iconst (v := 1) hx hb dL_isMove_48 (by decide) ?_
          refine lv_goto (tgt := 53) hx hb dL_isMove_49 (by decide) ?_
          refine lv_icmp_ne (tgt := 60) hx hb dL_isMove_53 (by decide) (fun c_12 => ?_) (fun c_12 => ?_)
          · exact absurd c_12 (by decide)
          · replace c_12 := cn_eq (a := 1) (b := 1) (by omega) (by omega) c_12
            refine lv_iconst (v := 1) hx hb dL_isMove_56 (by decide) ?_
            refine lv_goto (tgt := 61) hx hb dL_isMove_57 (by decide) ?_
            refine lv_istore (lv' := [(6, .int 1), (5, .int (Z 8 u)), (4, .int (nI e)), (0, .ref (q 0)), (1, .int (nI u)), (2, .int (nI t)), (3, .int (nI f))]) hx hb dL_isMove_61 hl (by decide) rfl (fun ls hl => ?_)
            refine lv_aload_n hx hb dL_isMove_63 rfl (lv_at hl 3 rfl) ?_
            refine wn_V S hkx hth (nX5_undo l hl0 (sa := sa) (A9 := A) (h9 := (fun q h => hA q (Nat.le_trans hS.1 h))) (hP := hP) (hD := hD.weaken (fun _ _ _ _ => trivial)) (hwf := hwg1) (hsc := (by omega)) (h0 := (by omega)) ) gL_isMove_X5_undo rfl idX5_undo ⟨Nat.le_of_ble_eq_true rfl, Nat.le_of_ble_eq_true rfl⟩ hP 0 rfl rfl rfl rfl hl.1 rfl (Nat.le_of_ble_eq_true rfl) dL_isMove_64 ⟨Nat.le_of_ble_eq_true rfl, Nat.le_of_ble_eq_true rfl⟩ hS (fr_in hD (fun q h => hA q (Nat.le_trans hS.1 h))) (fun v9 H locs hp9 hz1 hk1 hS => ?_)
            obtain ⟨rfl, hP⟩ := hp9
            have hP : va_P G vwCl (wMain T q a ((psh sc M N) ((svC sc) - 1)) ((psh sc Y Z) ((svC sc) - 1)) (svB sc b) (psh sc M N) (psh sc Y Z) ((svC sc) - 1) tx L cu er le nb nc) H := hP
            have hD : va_D A (wMain T q a ((psh sc M N) ((svC sc) - 1)) ((psh sc Y Z) ((svC sc) - 1)) (svB sc b) (psh sc M N) (psh sc Y Z) ((svC sc) - 1) tx L cu er le nb nc) := D_perm hD (List.Perm.refl _)
            have hth := hth0.kept hS.2.1
            refine W.eq (g2 := F0 m 67 ls [.int (nI ((svC sc) - 1))]) rfl ?_
            obtain ⟨b2, M2, Y2, sc2, hsc2, hpm2, hP⟩ := un_st (show sc ≤ 4 by omega) (List.Perm.refl _) hP
            have hD : va_D A (wMain T q a N Z b2 M2 Y2 sc2 tx L cu er le nb nc) := D_perm hD0 hpm2
            refine lv_istore (lv' := [(7, .int (nI ((svC sc) - 1))), (6, .int 1), (5, .int (Z 8 u)), (4, .int (nI e)), (0, .ref (q 0)), (1, .int (nI u)), (2, .int (nI t)), (3, .int (nI f))]) hx hb dL_isMove_67 hl (by decide) rfl (fun ls hl => ?_)
            refine lv_iload hx hb dL_isMove_69 (lv_at hl 3 rfl) ?_
            refine lv_if_lt (tgt := 121) hx hb dL_isMove_71 (by decide) (fun c_13 => ?_) (fun c_13 => ?_)
            · replace c_13 := cn_lt (a := e) (b := 0) (by omega) (by omega) c_13
              exfalso; omega
            · replace c_13 := cn_nlt (a := e) (b := 0) (by omega) (by omega) c_13
              refine lv_iload hx hb dL_isMove_74 (lv_at hl 3 rfl) ?_
              refine lv_sipush (v := 999) hx hb dL_isMove_76 (by decide) ?_
              refine lv_icmp_ge (tgt := 121) hx hb dL_isMove_79 (by decide) (fun c_14 => ?_) (fun c_14 => ?_)
              · replace c_14 := cn_le (a := 999) (b := e) (by omega) (by omega) c_14
                refine lv_iload hx hb dL_isMove_121 (lv_at hl 1 rfl) ?_
                refine lv_if_eq (tgt := 147) hx hb dL_isMove_123 (by decide) (fun c_15 => ?_) (fun c_15 => ?_)
                · exact absurd c_15 (by decide)
                · replace c_15 := cn_ne (a := 1) (b := 0) (by omega) (by omega) c_15
                  refine lv_iload hx hb dL_isMove_126 (lv_at hl 3 rfl) ?_
                  refine lv_iconst (v := (-1)) hx hb dL_isMove_128 (by decide) ?_
                  refine lv_icmp_eq (tgt := 138) hx hb dL_isMove_129 (by decide) (fun c_16 => ?_) (fun c_16 => ?_)
                  · exact absurd c_16 (nIm1 (by omega))
                  · skip
                    refine lv_iload hx hb dL_isMove_132 (lv_at hl 3 rfl) ?_
                    refine lv_iload_n hx hb dL_isMove_134 rfl (lv_at hl 7 rfl) ?_
                    refine lv_icmp_lt (tgt := 147) hx hb dL_isMove_135 (by decide) (fun c_17 => ?_) (fun c_17 => ?_)
                    · exfalso; replace c_17 := cn_lt (a := e) (b := f) (by omega) (by omega) c_17; omega
                    · replace c_17 := cn_nlt (a := e) (b := f) (by omega) (by omega) c_17
                      refine lv_iload hx hb dL_isMove_138 (lv_at hl 0 rfl) ?_
                      refine lv_if_lt (tgt := 147) hx hb dL_isMove_140 (by decide) (fun c_18 => ?_) (fun c_18 => ?_)
                      · replace c_18 := cn_lt (a := ((svC sc) - 1)) (b := 0) (by omega) (by omega) c_18
                        exfalso; omega
                      · replace c_18 := cn_nlt (a := ((svC sc) - 1)) (b := 0) (by omega) (by omega) c_18
                        refine lv_iconst (v := 1) hx hb dL_isMove_143 (by decide) ?_
                        refine lv_goto (tgt := 148) hx hb dL_isMove_144 (by decide) ?_
                        exact hret _ H _ _ _ _ _ (show some (Value.int 1) = some (Value.int 1) ∧ wst G T q a N Z b tx L cu er le nb nc H from ⟨rfl, wst_of hsc2 hpm2 hP⟩) rfl hS (Nat.le_of_ble_eq_true rfl) (Nat.le_of_ble_eq_true rfl) dL_isMove_148
              · replace c_14 := cn_nle (a := 999) (b := e) (by omega) (by omega) c_14
                refine lv_aload_n hx hb dL_isMove_82 rfl (lv_at hl 4 rfl) ?_
                refine lv_iload_n hx hb dL_isMove_83 rfl (lv_at hl 5 rfl) ?_
                refine lv_iload_n hx hb dL_isMove_84 rfl (lv_at hl 6 rfl) ?_
                refine lv_iload hx hb dL_isMove_85 (lv_at hl 3 rfl) ?_
                refine lv_iconst (v := 1) hx hb dL_isMove_87 (by decide) ?_
                refine lv_iadd hx hb dL_isMove_88 ?_
                refine W.eq (g2 := F0 m 89 ls [.int (nI (e + 1)), .int (nI t), .int (nI u), .ref (q 0)]) (congrArg (fun z9 => F0 m 89 ls (.int z9 :: [.int (nI t), .int (nI u), .ref (q 0)])) (nI_add _ 1)) ?_
                refine wn_V S hkx hth (nX5_pledge l hl0 (sa := sa) (A9 := A) (h9 := (fun q h => hA q (Nat.le_trans hS.1 h))) (hP := hP) (hD := hD.weaken (fun _ _ _ _ => trivial)) (hwf := hwf) (hsc := (by omega)) (hu := (by omega)) (hv := (by omega)) (hd := (by omega)) (u := u) (v := t) (d := (e + 1))) gL_isMove_X5_pledge rfl idX5_pledge ⟨Nat.le_of_ble_eq_true rfl, Nat.le_of_ble_eq_true rfl⟩ hP 0 rfl rfl rfl rfl hl.1 rfl (Nat.le_of_ble_eq_true rfl) dL_isMove_89 ⟨Nat.le_of_ble_eq_true rfl, Nat.le_of_ble_eq_true rfl⟩ hS (fr_in hD (fun q h => hA q (Nat.le_trans hS.1 h))) (fun v9 H locs hp9 hz1 hk1 hS => ?_)
                obtain ⟨rfl, hP⟩ := hp9
                have hP : va_P G vwCl (wMain T q a N (uPl Z u (nI t) (nI (e + 1))) (svB sc2 b2) (psh sc2 M2 N) (psh sc2 Y2 Z) (svC sc2) tx L cu er le nb nc) H := hP
                have hD : va_D A (wMain T q a N (uPl Z u (nI t) (nI (e + 1))) (svB sc2 b2) (psh sc2 M2 N) (psh sc2 Y2 Z) (svC sc2) tx L cu er le nb nc) := D_perm hD sv_addr
                have hth := hth0.kept hS.2.1
                refine W.eq (g2 := F0 m 92 ls [.int (Z 8 u)]) rfl ?_
                have hwg3 : wf N (uPl Z u (nI t) (nI (e + 1))) := wf_pl hwf (Or.inr ⟨_, ht, rfl, by rw [nI_toInt (by omega)]; omega⟩)
                have hsv3 := svC_bd (sc := sc2) (by omega)
                refine lv_istore (lv' := [(5, .int (Z 8 u)), (7, .int (nI ((svC sc) - 1))), (6, .int 1), (4, .int (nI e)), (0, .ref (q 0)), (1, .int (nI u)), (2, .int (nI t)), (3, .int (nI f))]) hx hb dL_isMove_92 hl (by decide) rfl (fun ls hl => ?_)
                refine lv_iload hx hb dL_isMove_94 (lv_at hl 2 rfl) ?_
                refine lv_if_eq (tgt := 112) hx hb dL_isMove_96 (by decide) (fun c_19 => ?_) (fun c_19 => ?_)
                · exact absurd c_19 (by decide)
                · replace c_19 := cn_ne (a := 1) (b := 0) (by omega) (by omega) c_19
                  refine lv_aload_n hx hb dL_isMove_99 rfl (lv_at hl 4 rfl) ?_
                  refine lv_iload_n hx hb dL_isMove_100 rfl (lv_at hl 5 rfl) ?_
                  refine lv_iload_n hx hb dL_isMove_101 rfl (lv_at hl 7 rfl) ?_
                  refine rn_V S hkx hth (nX5_firstStranded l hl0 (sa := sa) (h9 := (fun q h => hA q (Nat.le_trans hS.1 h))) (hP := hP) (hwf := hwg3) (hu := (by omega)) (hd := (by omega)) (u := u) (d := f)) gL_isMove_X5_firstStranded rfl idX5_firstStranded ⟨Nat.le_of_ble_eq_true rfl, Nat.le_of_ble_eq_true rfl⟩ hP 0 rfl rfl rfl rfl hl.1 rfl (Nat.le_of_ble_eq_true rfl) dL_isMove_102 ⟨Nat.le_of_ble_eq_true rfl, Nat.le_of_ble_eq_true rfl⟩ (fun v9 hv9 => ?_)
                  subst hv9
                  refine W.eq (g2 := F0 m 105 ls [.int (fstD (uuB N (uPl Z u (nI t) (nI (e + 1))) u) f (1000 - f))]) rfl ?_
                  obtain ⟨i, hi, hi9⟩ := he4 (by omega)
                  refine W.eq (g2 := F0 m 105 ls [.int (nI i)]) (congrArg (fun z9 => F0 m 105 ls (.int z9 :: [])) (hi)) ?_
                  refine lv_if_lt (tgt := 112) hx hb dL_isMove_105 (by decide) (fun c_20 => ?_) (fun c_20 => ?_)
                  · replace c_20 := cn_lt (a := i) (b := 0) (by omega) (by omega) c_20
                    exfalso; omega
                  · replace c_20 := cn_nlt (a := i) (b := 0) (by omega) (by omega) c_20
                    refine lv_iconst (v := 1) hx hb dL_isMove_108 (by decide) ?_
                    refine lv_goto (tgt := 113) hx hb dL_isMove_109 (by decide) ?_
                    refine lv_istore (lv' := [(6, .int 1), (5, .int (Z 8 u)), (7, .int (nI ((svC sc) - 1))), (4, .int (nI e)), (0, .ref (q 0)), (1, .int (nI u)), (2, .int (nI t)), (3, .int (nI f))]) hx hb dL_isMove_113 hl (by decide) rfl (fun ls hl => ?_)
                    refine lv_aload_n hx hb dL_isMove_115 rfl (lv_at hl 4 rfl) ?_
                    refine wn_V S hkx hth (nX5_undo l hl0 (sa := sa) (A9 := A) (h9 := (fun q h => hA q (Nat.le_trans hS.1 h))) (hP := hP) (hD := hD.weaken (fun _ _ _ _ => trivial)) (hwf := hwg3) (hsc := (by omega)) (h0 := (by omega)) ) gL_isMove_X5_undo rfl idX5_undo ⟨Nat.le_of_ble_eq_true rfl, Nat.le_of_ble_eq_true rfl⟩ hP 0 rfl rfl rfl rfl hl.1 rfl (Nat.le_of_ble_eq_true rfl) dL_isMove_116 ⟨Nat.le_of_ble_eq_true rfl, Nat.le_of_ble_eq_true rfl⟩ hS (fr_in hD (fun q h => hA q (Nat.le_trans hS.1 h))) (fun v9 H locs hp9 hz1 hk1 hS => ?_)
                    obtain ⟨rfl, hP⟩ := hp9
                    have hP : va_P G vwCl (wMain T q a ((psh sc2 M2 N) ((svC sc2) - 1)) ((psh sc2 Y2 Z) ((svC sc2) - 1)) (svB sc2 b2) (psh sc2 M2 N) (psh sc2 Y2 Z) ((svC sc2) - 1) tx L cu er le nb nc) H := hP
                    have hD : va_D A (wMain T q a ((psh sc2 M2 N) ((svC sc2) - 1)) ((psh sc2 Y2 Z) ((svC sc2) - 1)) (svB sc2 b2) (psh sc2 M2 N) (psh sc2 Y2 Z) ((svC sc2) - 1) tx L cu er le nb nc) := D_perm hD (List.Perm.refl _)
                    have hth := hth0.kept hS.2.1
                    refine W.eq (g2 := F0 m 119 ls [.int (nI ((svC sc2) - 1))]) rfl ?_
                    obtain ⟨b4, M4, Y4, sc4, hsc4, hpm4, hP⟩ := un_st (show sc2 ≤ 4 by omega) hpm2 hP
                    have hD : va_D A (wMain T q a N Z b4 M4 Y4 sc4 tx L cu er le nb nc) := D_perm hD0 hpm4
                    refine lv_istore (lv' := [(7, .int (nI ((svC sc2) - 1))), (6, .int 1), (5, .int (Z 8 u)), (4, .int (nI e)), (0, .ref (q 0)), (1, .int (nI u)), (2, .int (nI t)), (3, .int (nI f))]) hx hb dL_isMove_119 hl (by decide) rfl (fun ls hl => ?_)
                    refine lv_iload hx hb dL_isMove_121 (lv_at hl 1 rfl) ?_
                    refine lv_if_eq (tgt := 147) hx hb dL_isMove_123 (by decide) (fun c_21 => ?_) (fun c_21 => ?_)
                    · exact absurd c_21 (by decide)
                    · replace c_21 := cn_ne (a := 1) (b := 0) (by omega) (by omega) c_21
                      refine lv_iload hx hb dL_isMove_126 (lv_at hl 3 rfl) ?_
                      refine lv_iconst (v := (-1)) hx hb dL_isMove_128 (by decide) ?_
                      refine lv_icmp_eq (tgt := 138) hx hb dL_isMove_129 (by decide) (fun c_22 => ?_) (fun c_22 => ?_)
                      · exact absurd c_22 (nIm1 (by omega))
                      · skip
                        refine lv_iload hx hb dL_isMove_132 (lv_at hl 3 rfl) ?_
                        refine lv_iload_n hx hb dL_isMove_134 rfl (lv_at hl 7 rfl) ?_
                        refine lv_icmp_lt (tgt := 147) hx hb dL_isMove_135 (by decide) (fun c_23 => ?_) (fun c_23 => ?_)
                        · exfalso; replace c_23 := cn_lt (a := e) (b := f) (by omega) (by omega) c_23; omega
                        · replace c_23 := cn_nlt (a := e) (b := f) (by omega) (by omega) c_23
                          refine lv_iload hx hb dL_isMove_138 (lv_at hl 0 rfl) ?_
                          refine lv_if_lt (tgt := 147) hx hb dL_isMove_140 (by decide) (fun c_24 => ?_) (fun c_24 => ?_)
                          · replace c_24 := cn_lt (a := ((svC sc2) - 1)) (b := 0) (by omega) (by omega) c_24
                            exfalso; omega
                          · replace c_24 := cn_nlt (a := ((svC sc2) - 1)) (b := 0) (by omega) (by omega) c_24
                            refine lv_iconst (v := 1) hx hb dL_isMove_143 (by decide) ?_
                            refine lv_goto (tgt := 148) hx hb dL_isMove_144 (by decide) ?_
                            exact hret _ H _ _ _ _ _ (show some (Value.int 1) = some (Value.int 1) ∧ wst G T q a N Z b tx L cu er le nb nc H from ⟨rfl, wst_of hsc4 hpm4 hP⟩) rfl hS (Nat.le_of_ble_eq_true rfl) (Nat.le_of_ble_eq_true rfl) dL_isMove_148
    · replace c_9 := cn_nle (a := 0) (b := e) (by omega) (by omega) c_9
      exfalso; omega
