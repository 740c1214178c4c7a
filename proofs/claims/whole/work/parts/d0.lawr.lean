theorem idL_addVersion : yL_addVersion.cls ≠ "java/lang/invoke/MethodHandle" ∧ yL_addVersion.cls ≠ "java/lang/invoke/VarHandle" ∧ (parseMethodDescriptor yL_addVersion.desc).map (fun d => d.parameters.length) = some 4 := by decide +kernel

set_option maxHeartbeats 4000000 in
set_option maxRecDepth 100000 in
theorem mL_addVersion (l : Launch) (hl0 : l.stackTraces = false) {G : va_G} {T : Nat → ClassId} {sa : Nat → Nat} {A9 : Nat → Prop} {H0 : Heap} {q : Nat → Nat} {a : Nat → Nat} {N : Nat → Nat} {Z : Nat → Nat → Int32} {b : Nat → Nat → Nat} {M : Nat → Nat → Nat} {Y : Nat → Nat → Nat → Int32} {sc : Nat} {tx : Nat → Int32} {L : Nat} {cu : Nat} {er : Int32} {le : Int32} {nb : Nat → Int32} {nc : Nat} {x : Int32} {z : Int32} {o : Nat} {fo : Int64} (hP : va_P G vwCl ((wMain T q a N Z b M Y sc tx L cu er le nb nc) ++ [(o, eL T fo)]) H0) (hD : va_D (fun _ => True) ((wMain T q a N Z b M Y sc tx L cu er le nb nc) ++ [(o, eL T fo)])) (h9 : ∀ q, H0.size ≤ q → A9 q) (hwf : wf N Z) (hsc : sc ≤ 4) : lwr l yL_addVersion wsL_addVersion 8 144 3 [.ref (q 0), .int x, .int z, .ref o] G T sa A9 H0 ((wMain T q a N Z b M Y sc tx L cu er le nb nc) ++ [(o, eL T fo)]) (wrP G (sq (wiF x 0 998) (sq (wiF z (x + 1) 1000) (poF (bI (decide (N 0 < 8)))))) (cmA (sq (wiF x 0 998) (sq (wiF z (x + 1) 1000) (poF (bI (decide (N 0 < 8))))))) ((wMain T q a (va_up N 0 (N 0 + 1)) (vAdd N Z x z) (svB sc b) (psh sc M N) (psh sc Y Z) (svC sc) tx L cu er le nb nc) ++ [(o, eL T (Int32.toInt64 (nI (N 0))))]) ((wMain T q a N Z b M Y sc tx L cu er le nb nc) ++ [(o, eL T fo)])) := by
  refine lwr_of (cc := cL_addVersion) (maxL := 5) (hh := [(0, 10, 13, 13), (0, 10, 17, 15)]) (own := RL) (by decide +kernel) rfl rfl (Nat.le_of_ble_eq_true rfl) h9 hD ?_
  intro p e s m below meth c Q ls A S hkx hth hnc htab hl hD hS hA hret
  obtain ⟨hx, hb, hml, hown, hts⟩ := id S
  have hl : lv_has ls 5 [(0, .ref (q 0)), (1, .int x), (2, .int z), (3, .ref o)] := hl
  have kC13 := hts (.classLink RL 13 eA) (by decide +kernel)
  have kC15 := hts (.classLink RL 15 eS) (by decide +kernel)
  refine lv_aload_n hx hb dL_addVersion_0 rfl (lv_at hl 3 rfl) ?_
  refine lv_iconst (v := 0) hx hb dL_addVersion_1 (by decide) ?_
  refine lv_aload_n hx hb dL_addVersion_2 rfl (lv_at hl 0 rfl) ?_
  refine lv_iload_n hx hb dL_addVersion_3 rfl (lv_at hl 1 rfl) ?_
  refine lv_iload_n hx hb dL_addVersion_4 rfl (lv_at hl 2 rfl) ?_
  refine tx_V S hkx hth (mX5_addVersion l hl0 (sa := sa) (q := q) (a := a) (N := N) (Z := Z) (b := b) (M := M) (Y := Y) (sc := sc) (tx := tx) (L := L) (cu := cu) (er := er) (le := le) (nb := nb) (nc := nc) (x := x) (z := z) (hP := P_hd hP) (hD := (D_hd hD).weaken (fun _ _ _ _ => trivial)) (h9 := fun _ h => h) (hwf := hwf) (hsc := hsc)) gL_addVersion_X5_addVersion rfl idX5_addVersion ⟨Nat.le_of_ble_eq_true rfl, Nat.le_of_ble_eq_true rfl⟩ hP 0 rfl rfl rfl rfl hl.1 rfl (Nat.le_of_ble_eq_true rfl) dL_addVersion_5 ⟨Nat.le_of_ble_eq_true rfl, Nat.le_of_ble_eq_true rfl⟩ hS (fr_in (D_hd hD) hA) (fun E ce q9 H locs hpx hq9 hv9 hc9 hz9 hk9 hS => ?_) (fun v H locs hp9 hz1 hk1 hS => ?_)
  · have hP : va_P G vwCl ((wMain T q a N Z b M Y sc tx L cu er le nb nc) ++ [(o, eL T fo)]) H := P_old hP hk9
    rcases hpx with ⟨hf9, rfl⟩ | ⟨hf9, rfl⟩ | ⟨hf9, rfl⟩
    · exact absurd hf9 (r_sq (r_wi _ _ _).1 (r_sq (r_wi _ _ _).1 (r_po _).1))
    · refine vx_catch hown [] ⟨0, 10, 13, 13⟩ [⟨0, 10, 17, 15⟩] htab (fun z hz => by cases hz) (by decide) (by decide) kC13 (va_Nw.use rfl hth.1.2.2.2.2.1) hq9 hv9 hc9 ?_
      refine W.eq (g2 := F0 m 13 ls [.ref q9]) rfl ?_
      refine lv_astore (lv' := [(4, .ref q9), (0, .ref (q 0)), (1, .int x), (2, .int z), (3, .ref o)]) hx hb dL_addVersion_13 hl (by decide) rfl (fun ls hl => ?_)
      refine lv_iconst (v := 1) hx hb dL_addVersion_15 (by decide) ?_
      exact hret _ _ _ _ _ _ _ (show wrP G (sq (wiF x 0 998) (sq (wiF z (x + 1) 1000) (poF (bI (decide (N 0 < 8)))))) (cmA (sq (wiF x 0 998) (sq (wiF z (x + 1) 1000) (poF (bI (decide (N 0 < 8))))))) ((wMain T q a (va_up N 0 (N 0 + 1)) (vAdd N Z x z) (svB sc b) (psh sc M N) (psh sc Y Z) (svC sc) tx L cu er le nb nc) ++ [(o, eL T (Int32.toInt64 (nI (N 0))))]) ((wMain T q a N Z b M Y sc tx L cu er le nb nc) ++ [(o, eL T fo)]) (some (Value.int 1)) H from Or.inr ⟨by rw [hf9]; decide, by rw [hf9]; rfl, hP⟩) hS (Nat.le_of_ble_eq_true rfl) (Nat.le_of_ble_eq_true rfl) dL_addVersion_16
    · refine vx_catch hown [⟨0, 10, 13, 13⟩] ⟨0, 10, 17, 15⟩ [] htab (fun z hz => by
        rcases List.mem_singleton.mp hz with rfl
        exact Or.inr ⟨by decide, eA, kC13, hnc.1⟩) (by decide) (by decide) kC15 (va_Nw.use rfl hth.1.2.2.2.2.2) hq9 hv9 hc9 ?_
      refine W.eq (g2 := F0 m 17 ls [.ref q9]) rfl ?_
      refine lv_astore (lv' := [(4, .ref q9), (0, .ref (q 0)), (1, .int x), (2, .int z), (3, .ref o)]) hx hb dL_addVersion_17 hl (by decide) rfl (fun ls hl => ?_)
      refine lv_iconst (v := 2) hx hb dL_addVersion_19 (by decide) ?_
      exact hret _ _ _ _ _ _ _ (show wrP G (sq (wiF x 0 998) (sq (wiF z (x + 1) 1000) (poF (bI (decide (N 0 < 8)))))) (cmA (sq (wiF x 0 998) (sq (wiF z (x + 1) 1000) (poF (bI (decide (N 0 < 8))))))) ((wMain T q a (va_up N 0 (N 0 + 1)) (vAdd N Z x z) (svB sc b) (psh sc M N) (psh sc Y Z) (svC sc) tx L cu er le nb nc) ++ [(o, eL T (Int32.toInt64 (nI (N 0))))]) ((wMain T q a N Z b M Y sc tx L cu er le nb nc) ++ [(o, eL T fo)]) (some (Value.int 2)) H from Or.inr ⟨by rw [hf9]; decide, by rw [hf9]; rfl, hP⟩) hS (Nat.le_of_ble_eq_true rfl) (Nat.le_of_ble_eq_true rfl) dL_addVersion_20
  · obtain ⟨hF0, rfl, hPc⟩ := hp9
    obtain ⟨hP, hD⟩ := fr_hd hP hD hk1 hPc sv_addr
    have hP : va_P G vwCl ((wMain T q a (va_up N 0 (N 0 + 1)) (vAdd N Z x z) (svB sc b) (psh sc M N) (psh sc Y Z) (svC sc) tx L cu er le nb nc) ++ [(o, eL T fo)]) H := hP
    have hD : va_D A ((wMain T q a (va_up N 0 (N 0 + 1)) (vAdd N Z x z) (svB sc b) (psh sc M N) (psh sc Y Z) (svC sc) tx L cu er le nb nc) ++ [(o, eL T fo)]) := hD
    refine W.eq (g2 := F0 m 8 ls [.int (nI (N 0)), .int 0, .ref o]) rfl ?_
    refine lv_i2l hx hb dL_addVersion_8 rfl ?_
    refine lst0 hx hb hkx hP hD hS 100 rfl dL_addVersion_9 (fun H locs hP hD hS => ?_)
    have hP : va_P G vwCl ((wMain T q a (va_up N 0 (N 0 + 1)) (vAdd N Z x z) (svB sc b) (psh sc M N) (psh sc Y Z) (svC sc) tx L cu er le nb nc) ++ [(o, eL T (Int32.toInt64 (nI (N 0))))]) H := hP
    have hD : va_D A ((wMain T q a (va_up N 0 (N 0 + 1)) (vAdd N Z x z) (svB sc b) (psh sc M N) (psh sc Y Z) (svC sc) tx L cu er le nb nc) ++ [(o, eL T (Int32.toInt64 (nI (N 0))))]) := hD
    refine lv_goto (tgt := 21) hx hb dL_addVersion_10 (by decide) ?_
    refine lv_iconst (v := 0) hx hb dL_addVersion_21 (by decide) ?_
    exact hret _ _ _ _ _ _ _ (show wrP G (sq (wiF x 0 998) (sq (wiF z (x + 1) 1000) (poF (bI (decide (N 0 < 8)))))) (cmA (sq (wiF x 0 998) (sq (wiF z (x + 1) 1000) (poF (bI (decide (N 0 < 8))))))) ((wMain T q a (va_up N 0 (N 0 + 1)) (vAdd N Z x z) (svB sc b) (psh sc M N) (psh sc Y Z) (svC sc) tx L cu er le nb nc) ++ [(o, eL T (Int32.toInt64 (nI (N 0))))]) ((wMain T q a N Z b M Y sc tx L cu er le nb nc) ++ [(o, eL T fo)]) (some (Value.int 0)) H from Or.inl ⟨hF0, rfl, hP⟩) hS (Nat.le_of_ble_eq_true rfl) (Nat.le_of_ble_eq_true rfl) dL_addVersion_22

theorem idL_addFeature : yL_addFeature.cls ≠ "java/lang/invoke/MethodHandle" ∧ yL_addFeature.cls ≠ "java/lang/invoke/VarHandle" ∧ (parseMethodDescriptor yL_addFeature.desc).map (fun d => d.parameters.length) = some 3 := by decide +kernel

set_option maxHeartbeats 4000000 in
set_option maxRecDepth 100000 in
theorem mL_addFeature (l : Launch) (hl0 : l.stackTraces = false) {G : va_G} {T : Nat → ClassId} {sa : Nat → Nat} {A9 : Nat → Prop} {H0 : Heap} {q : Nat → Nat} {a : Nat → Nat} {N : Nat → Nat} {Z : Nat → Nat → Int32} {b : Nat → Nat → Nat} {M : Nat → Nat → Nat} {Y : Nat → Nat → Nat → Int32} {sc : Nat} {tx : Nat → Int32} {L : Nat} {cu : Nat} {er : Int32} {le : Int32} {nb : Nat → Int32} {nc : Nat} {x : Int32} {o : Nat} {fo : Int64} (hP : va_P G vwCl ((wMain T q a N Z b M Y sc tx L cu er le nb nc) ++ [(o, eL T fo)]) H0) (hD : va_D (fun _ => True) ((wMain T q a N Z b M Y sc tx L cu er le nb nc) ++ [(o, eL T fo)])) (h9 : ∀ q, H0.size ≤ q → A9 q) (hwf : wf N Z) (hsc : sc ≤ 4) : lwr l yL_addFeature wsL_addFeature 9 146 2 [.ref (q 0), .int x, .ref o] G T sa A9 H0 ((wMain T q a N Z b M Y sc tx L cu er le nb nc) ++ [(o, eL T fo)]) (wrP G (sq (seF x (nI (N 0))) (poF (bI (decide (N 1 < 10))))) (cmA (sq (seF x (nI (N 0))) (poF (bI (decide (N 1 < 10)))))) ((wMain T q a (va_up N 1 (N 1 + 1)) (va_up Z 4 (apF (Z 4) x (N 1) (N 0))) (svB sc b) (psh sc M N) (psh sc Y Z) (svC sc) tx L cu er le nb nc) ++ [(o, eL T (Int32.toInt64 (nI (N 1))))]) ((wMain T q a N Z b M Y sc tx L cu er le nb nc) ++ [(o, eL T fo)])) := by
  refine lwr_of (cc := cL_addFeature) (maxL := 4) (hh := [(0, 9, 12, 13), (0, 9, 15, 15)]) (own := RL) (by decide +kernel) rfl rfl (Nat.le_of_ble_eq_true rfl) h9 hD ?_
  intro p e s m below meth c Q ls A S hkx hth hnc htab hl hD hS hA hret
  obtain ⟨hx, hb, hml, hown, hts⟩ := id S
  have hl : lv_has ls 4 [(0, .ref (q 0)), (1, .int x), (2, .ref o)] := hl
  have kC13 := hts (.classLink RL 13 eA) (by decide +kernel)
  have kC15 := hts (.classLink RL 15 eS) (by decide +kernel)
  refine lv_aload_n hx hb dL_addFeature_0 rfl (lv_at hl 2 rfl) ?_
  refine lv_iconst (v := 0) hx hb dL_addFeature_1 (by decide) ?_
  refine lv_aload_n hx hb dL_addFeature_2 rfl (lv_at hl 0 rfl) ?_
  refine lv_iload_n hx hb dL_addFeature_3 rfl (lv_at hl 1 rfl) ?_
  refine tx_V S hkx hth (mX5_addFeature l hl0 (sa := sa) (q := q) (a := a) (N := N) (Z := Z) (b := b) (M := M) (Y := Y) (sc := sc) (tx := tx) (L := L) (cu := cu) (er := er) (le := le) (nb := nb) (nc := nc) (x := x) (hP := P_hd hP) (hD := (D_hd hD).weaken (fun _ _ _ _ => trivial)) (h9 := fun _ h => h) (hwf := hwf) (hsc := hsc)) gL_addFeature_X5_addFeature rfl idX5_addFeature ⟨Nat.le_of_ble_eq_true rfl, Nat.le_of_ble_eq_true rfl⟩ hP 0 rfl rfl rfl rfl hl.1 rfl (Nat.le_of_ble_eq_true rfl) dL_addFeature_4 ⟨Nat.le_of_ble_eq_true rfl, Nat.le_of_ble_eq_true rfl⟩ hS (fr_in (D_hd hD) hA) (fun E ce q9 H locs hpx hq9 hv9 hc9 hz9 hk9 hS => ?_) (fun v H locs hp9 hz1 hk1 hS => ?_)
  · have hP : va_P G vwCl ((wMain T q a N Z b M Y sc tx L cu er le nb nc) ++ [(o, eL T fo)]) H := P_old hP hk9
    rcases hpx with ⟨hf9, rfl⟩ | ⟨hf9, rfl⟩ | ⟨hf9, rfl⟩
    · exact absurd hf9 (r_sq (r_wi _ _ _).1 (r_po _).1)
    · refine vx_catch hown [] ⟨0, 9, 12, 13⟩ [⟨0, 9, 15, 15⟩] htab (fun z hz => by cases hz) (by decide) (by decide) kC13 (va_Nw.use rfl hth.1.2.2.2.2.1) hq9 hv9 hc9 ?_
      refine W.eq (g2 := F0 m 12 ls [.ref q9]) rfl ?_
      refine lv_astore_n (lv' := [(3, .ref q9), (0, .ref (q 0)), (1, .int x), (2, .ref o)]) hx hb dL_addFeature_12 rfl hl (by decide) rfl (fun ls hl => ?_)
      refine lv_iconst (v := 1) hx hb dL_addFeature_13 (by decide) ?_
      exact hret _ _ _ _ _ _ _ (show wrP G (sq (seF x (nI (N 0))) (poF (bI (decide (N 1 < 10))))) (cmA (sq (seF x (nI (N 0))) (poF (bI (decide (N 1 < 10)))))) ((wMain T q a (va_up N 1 (N 1 + 1)) (va_up Z 4 (apF (Z 4) x (N 1) (N 0))) (svB sc b) (psh sc M N) (psh sc Y Z) (svC sc) tx L cu er le nb nc) ++ [(o, eL T (Int32.toInt64 (nI (N 1))))]) ((wMain T q a N Z b M Y sc tx L cu er le nb nc) ++ [(o, eL T fo)]) (some (Value.int 1)) H from Or.inr ⟨by rw [hf9]; decide, by rw [hf9]; rfl, hP⟩) hS (Nat.le_of_ble_eq_true rfl) (Nat.le_of_ble_eq_true rfl) dL_addFeature_14
    · refine vx_catch hown [⟨0, 9, 12, 13⟩] ⟨0, 9, 15, 15⟩ [] htab (fun z hz => by
        rcases List.mem_singleton.mp hz with rfl
        exact Or.inr ⟨by decide, eA, kC13, hnc.1⟩) (by decide) (by decide) kC15 (va_Nw.use rfl hth.1.2.2.2.2.2) hq9 hv9 hc9 ?_
      refine W.eq (g2 := F0 m 15 ls [.ref q9]) rfl ?_
      refine lv_astore_n (lv' := [(3, .ref q9), (0, .ref (q 0)), (1, .int x), (2, .ref o)]) hx hb dL_addFeature_15 rfl hl (by decide) rfl (fun ls hl => ?_)
      refine lv_iconst (v := 2) hx hb dL_addFeature_16 (by decide) ?_
      exact hret _ _ _ _ _ _ _ (show wrP G (sq (seF x (nI (N 0))) (poF (bI (decide (N 1 < 10))))) (cmA (sq (seF x (nI (N 0))) (poF (bI (decide (N 1 < 10)))))) ((wMain T q a (va_up N 1 (N 1 + 1)) (va_up Z 4 (apF (Z 4) x (N 1) (N 0))) (svB sc b) (psh sc M N) (psh sc Y Z) (svC sc) tx L cu er le nb nc) ++ [(o, eL T (Int32.toInt64 (nI (N 1))))]) ((wMain T q a N Z b M Y sc tx L cu er le nb nc) ++ [(o, eL T fo)]) (some (Value.int 2)) H from Or.inr ⟨by rw [hf9]; decide, by rw [hf9]; rfl, hP⟩) hS (Nat.le_of_ble_eq_true rfl) (Nat.le_of_ble_eq_true rfl) dL_addFeature_17
  · obtain ⟨hF0, rfl, hPc⟩ := hp9
    obtain ⟨hP, hD⟩ := fr_hd hP hD hk1 hPc sv_addr
    have hP : va_P G vwCl ((wMain T q a (va_up N 1 (N 1 + 1)) (va_up Z 4 (apF (Z 4) x (N 1) (N 0))) (svB sc b) (psh sc M N) (psh sc Y Z) (svC sc) tx L cu er le nb nc) ++ [(o, eL T fo)]) H := hP
    have hD : va_D A ((wMain T q a (va_up N 1 (N 1 + 1)) (va_up Z 4 (apF (Z 4) x (N 1) (N 0))) (svB sc b) (psh sc M N) (psh sc Y Z) (svC sc) tx L cu er le nb nc) ++ [(o, eL T fo)]) := hD
    refine W.eq (g2 := F0 m 7 ls [.int (nI (N 1)), .int 0, .ref o]) rfl ?_
    refine lv_i2l hx hb dL_addFeature_7 rfl ?_
    refine lst0 hx hb hkx hP hD hS 100 rfl dL_addFeature_8 (fun H locs hP hD hS => ?_)
    have hP : va_P G vwCl ((wMain T q a (va_up N 1 (N 1 + 1)) (va_up Z 4 (apF (Z 4) x (N 1) (N 0))) (svB sc b) (psh sc M N) (psh sc Y Z) (svC sc) tx L cu er le nb nc) ++ [(o, eL T (Int32.toInt64 (nI (N 1))))]) H := hP
    have hD : va_D A ((wMain T q a (va_up N 1 (N 1 + 1)) (va_up Z 4 (apF (Z 4) x (N 1) (N 0))) (svB sc b) (psh sc M N) (psh sc Y Z) (svC sc) tx L cu er le nb nc) ++ [(o, eL T (Int32.toInt64 (nI (N 1))))]) := hD
    refine lv_goto (tgt := 18) hx hb dL_addFeature_9 (by decide) ?_
    refine lv_iconst (v := 0) hx hb dL_addFeature_18 (by decide) ?_
    exact hret _ _ _ _ _ _ _ (show wrP G (sq (seF x (nI (N 0))) (poF (bI (decide (N 1 < 10))))) (cmA (sq (seF x (nI (N 0))) (poF (bI (decide (N 1 < 10)))))) ((wMain T q a (va_up N 1 (N 1 + 1)) (va_up Z 4 (apF (Z 4) x (N 1) (N 0))) (svB sc b) (psh sc M N) (psh sc Y Z) (svC sc) tx L cu er le nb nc) ++ [(o, eL T (Int32.toInt64 (nI (N 1))))]) ((wMain T q a N Z b M Y sc tx L cu er le nb nc) ++ [(o, eL T fo)]) (some (Value.int 0)) H from Or.inl ⟨hF0, rfl, hP⟩) hS (Nat.le_of_ble_eq_true rfl) (Nat.le_of_ble_eq_true rfl) dL_addFeature_19

theorem idL_put : yL_put.cls ≠ "java/lang/invoke/MethodHandle" ∧ yL_put.cls ≠ "java/lang/invoke/VarHandle" ∧ (parseMethodDescriptor yL_put.desc).map (fun d => d.parameters.length) = some 5 := by decide +kernel

set_option maxHeartbeats 4000000 in
set_option maxRecDepth 100000 in
theorem mL_put (l : Launch) (hl0 : l.stackTraces = false) {G : va_G} {T : Nat → ClassId} {sa : Nat → Nat} {A9 : Nat → Prop} {H0 : Heap} {q : Nat → Nat} {a : Nat → Nat} {N : Nat → Nat} {Z : Nat → Nat → Int32} {b : Nat → Nat → Nat} {M : Nat → Nat → Nat} {Y : Nat → Nat → Nat → Int32} {sc : Nat} {tx : Nat → Int32} {L : Nat} {cu : Nat} {er : Int32} {le : Int32} {nb : Nat → Int32} {nc : Nat} {f : Int32} {v : Int32} {h : Bool} {o : Nat} {fo : Int64} (hP : va_P G vwCl ((wMain T q a N Z b M Y sc tx L cu er le nb nc) ++ [(o, eL T fo)]) H0) (hD : va_D (fun _ => True) ((wMain T q a N Z b M Y sc tx L cu er le nb nc) ++ [(o, eL T fo)])) (h9 : ∀ q, H0.size ≤ q → A9 q) (hwf : wf N Z) (hsc : sc ≤ 4) : lwr l yL_put wsL_put 8 145 3 [.ref (q 0), .int f, .int v, .int (bI h), .ref o] G T sa A9 H0 ((wMain T q a N Z b M Y sc tx L cu er le nb nc) ++ [(o, eL T fo)]) (wrP G (sq (thF f (nI (N 1))) (sq (thF v (nI (N 0))) (poF (bI (decide (¬ cnt1 (Z 4 (tn v)) f = h)))))) (cmB (sq (thF f (nI (N 1))) (sq (thF v (nI (N 0))) (poF (bI (decide (¬ cnt1 (Z 4 (tn v)) f = h))))))) ((wMain T q a N (va_up Z 4 (upd (Z 4) (tn v) (Z 4 (tn v) ^^^ ((1 : Int32) <<< (f &&& 31))))) (svB sc b) (psh sc M N) (psh sc Y Z) (svC sc) tx L cu er le nb nc) ++ [(o, eL T (Int32.toInt64 (allW (va_up Z 4 (upd (Z 4) (tn v) (Z 4 (tn v) ^^^ ((1 : Int32) <<< (f &&& 31))))) f (N 0))))]) ((wMain T q a N Z b M Y sc tx L cu er le nb nc) ++ [(o, eL T fo)])) := by
  refine lwr_of (cc := cL_put) (maxL := 6) (hh := [(0, 12, 15, 25), (0, 12, 19, 15)]) (own := RL) (by decide +kernel) rfl rfl (Nat.le_of_ble_eq_true rfl) h9 hD ?_
  intro p e s m below meth c Q ls A S hkx hth hnc htab hl hD hS hA hret
  obtain ⟨hx, hb, hml, hown, hts⟩ := id S
  have hl : lv_has ls 6 [(0, .ref (q 0)), (1, .int f), (2, .int v), (3, .int (bI h)), (4, .ref o)] := hl
  have kC25 := hts (.classLink RL 25 eI) (by decide +kernel)
  have kC15 := hts (.classLink RL 15 eS) (by decide +kernel)
  refine lv_aload hx hb dL_put_0 (lv_at hl 4 rfl) ?_
  refine lv_iconst (v := 0) hx hb dL_put_2 (by decide) ?_
  refine lv_aload_n hx hb dL_put_3 rfl (lv_at hl 0 rfl) ?_
  refine lv_iload_n hx hb dL_put_4 rfl (lv_at hl 1 rfl) ?_
  refine lv_iload_n hx hb dL_put_5 rfl (lv_at hl 2 rfl) ?_
  refine lv_iload_n hx hb dL_put_6 rfl (lv_at hl 3 rfl) ?_
  refine tx_V S hkx hth (mX5_put l hl0 (sa := sa) (q := q) (a := a) (N := N) (Z := Z) (b := b) (M := M) (Y := Y) (sc := sc) (tx := tx) (L := L) (cu := cu) (er := er) (le := le) (nb := nb) (nc := nc) (f := f) (v := v) (h := h) (hP := P_hd hP) (hD := (D_hd hD).weaken (fun _ _ _ _ => trivial)) (h9 := fun _ h => h) (hwf := hwf) (hsc := hsc)) gL_put_X5_put rfl idX5_put ⟨Nat.le_of_ble_eq_true rfl, Nat.le_of_ble_eq_true rfl⟩ hP 0 rfl rfl rfl rfl hl.1 rfl (Nat.le_of_ble_eq_true rfl) dL_put_7 ⟨Nat.le_of_ble_eq_true rfl, Nat.le_of_ble_eq_true rfl⟩ hS (fr_in (D_hd hD) hA) (fun E ce q9 H locs hpx hq9 hv9 hc9 hz9 hk9 hS => ?_) (fun v H locs hp9 hz1 hk1 hS => ?_)
  · have hP : va_P G vwCl ((wMain T q a N Z b M Y sc tx L cu er le nb nc) ++ [(o, eL T fo)]) H := P_old hP hk9
    rcases hpx with ⟨hf9, rfl⟩ | ⟨hf9, rfl⟩ | ⟨hf9, rfl⟩
    · refine vx_catch hown [] ⟨0, 12, 15, 25⟩ [⟨0, 12, 19, 15⟩] htab (fun z hz => by cases hz) (by decide) (by decide) kC25 (va_Nw.use rfl hth.1.2.2.2.1) hq9 hv9 hc9 ?_
      refine W.eq (g2 := F0 m 15 ls [.ref q9]) rfl ?_
      refine lv_astore (lv' := [(5, .ref q9), (0, .ref (q 0)), (1, .int f), (2, .int v), (3, .int (bI h)), (4, .ref o)]) hx hb dL_put_15 hl (by decide) rfl (fun ls hl => ?_)
      refine lv_iconst (v := 1) hx hb dL_put_17 (by decide) ?_
      exact hret _ _ _ _ _ _ _ (show wrP G (sq (thF f (nI (N 1))) (sq (thF v (nI (N 0))) (poF (bI (decide (¬ cnt1 (Z 4 (tn v)) f = h)))))) (cmB (sq (thF f (nI (N 1))) (sq (thF v (nI (N 0))) (poF (bI (decide (¬ cnt1 (Z 4 (tn v)) f = h))))))) ((wMain T q a N (va_up Z 4 (upd (Z 4) (tn v) (Z 4 (tn v) ^^^ ((1 : Int32) <<< (f &&& 31))))) (svB sc b) (psh sc M N) (psh sc Y Z) (svC sc) tx L cu er le nb nc) ++ [(o, eL T (Int32.toInt64 (allW (va_up Z 4 (upd (Z 4) (tn v) (Z 4 (tn v) ^^^ ((1 : Int32) <<< (f &&& 31))))) f (N 0))))]) ((wMain T q a N Z b M Y sc tx L cu er le nb nc) ++ [(o, eL T fo)]) (some (Value.int 1)) H from Or.inr ⟨by rw [hf9]; decide, by rw [hf9]; rfl, hP⟩) hS (Nat.le_of_ble_eq_true rfl) (Nat.le_of_ble_eq_true rfl) dL_put_18
    · exact absurd hf9 (r_sq (r_th _ _).1 (r_sq (r_th _ _).1 (r_po _).2))
    · refine vx_catch hown [⟨0, 12, 15, 25⟩] ⟨0, 12, 19, 15⟩ [] htab (fun z hz => by
        rcases List.mem_singleton.mp hz with rfl
        exact Or.inr ⟨by decide, eI, kC25, hnc.2.2.2.2.2⟩) (by decide) (by decide) kC15 (va_Nw.use rfl hth.1.2.2.2.2.2) hq9 hv9 hc9 ?_
      refine W.eq (g2 := F0 m 19 ls [.ref q9]) rfl ?_
      refine lv_astore (lv' := [(5, .ref q9), (0, .ref (q 0)), (1, .int f), (2, .int v), (3, .int (bI h)), (4, .ref o)]) hx hb dL_put_19 hl (by decide) rfl (fun ls hl => ?_)
      refine lv_iconst (v := 2) hx hb dL_put_21 (by decide) ?_
      exact hret _ _ _ _ _ _ _ (show wrP G (sq (thF f (nI (N 1))) (sq (thF v (nI (N 0))) (poF (bI (decide (¬ cnt1 (Z 4 (tn v)) f = h)))))) (cmB (sq (thF f (nI (N 1))) (sq (thF v (nI (N 0))) (poF (bI (decide (¬ cnt1 (Z 4 (tn v)) f = h))))))) ((wMain T q a N (va_up Z 4 (upd (Z 4) (tn v) (Z 4 (tn v) ^^^ ((1 : Int32) <<< (f &&& 31))))) (svB sc b) (psh sc M N) (psh sc Y Z) (svC sc) tx L cu er le nb nc) ++ [(o, eL T (Int32.toInt64 (allW (va_up Z 4 (upd (Z 4) (tn v) (Z 4 (tn v) ^^^ ((1 : Int32) <<< (f &&& 31))))) f (N 0))))]) ((wMain T q a N Z b M Y sc tx L cu er le nb nc) ++ [(o, eL T fo)]) (some (Value.int 2)) H from Or.inr ⟨by rw [hf9]; decide, by rw [hf9]; rfl, hP⟩) hS (Nat.le_of_ble_eq_true rfl) (Nat.le_of_ble_eq_true rfl) dL_put_22
  · obtain ⟨hF0, rfl, hPc⟩ := hp9
    obtain ⟨hP, hD⟩ := fr_hd hP hD hk1 hPc sv_addr
    have hP : va_P G vwCl ((wMain T q a N (va_up Z 4 (upd (Z 4) (tn v) (Z 4 (tn v) ^^^ ((1 : Int32) <<< (f &&& 31))))) (svB sc b) (psh sc M N) (psh sc Y Z) (svC sc) tx L cu er le nb nc) ++ [(o, eL T fo)]) H := hP
    have hD : va_D A ((wMain T q a N (va_up Z 4 (upd (Z 4) (tn v) (Z 4 (tn v) ^^^ ((1 : Int32) <<< (f &&& 31))))) (svB sc b) (psh sc M N) (psh sc Y Z) (svC sc) tx L cu er le nb nc) ++ [(o, eL T fo)]) := hD
    refine W.eq (g2 := F0 m 10 ls [.int (allW (va_up Z 4 (upd (Z 4) (tn v) (Z 4 (tn v) ^^^ ((1 : Int32) <<< (f &&& 31))))) f (N 0)), .int 0, .ref o]) rfl ?_
    refine lv_i2l hx hb dL_put_10 rfl ?_
    refine lst0 hx hb hkx hP hD hS 100 rfl dL_put_11 (fun H locs hP hD hS => ?_)
    have hP : va_P G vwCl ((wMain T q a N (va_up Z 4 (upd (Z 4) (tn v) (Z 4 (tn v) ^^^ ((1 : Int32) <<< (f &&& 31))))) (svB sc b) (psh sc M N) (psh sc Y Z) (svC sc) tx L cu er le nb nc) ++ [(o, eL T (Int32.toInt64 (allW (va_up Z 4 (upd (Z 4) (tn v) (Z 4 (tn v) ^^^ ((1 : Int32) <<< (f &&& 31))))) f (N 0))))]) H := hP
    have hD : va_D A ((wMain T q a N (va_up Z 4 (upd (Z 4) (tn v) (Z 4 (tn v) ^^^ ((1 : Int32) <<< (f &&& 31))))) (svB sc b) (psh sc M N) (psh sc Y Z) (svC sc) tx L cu er le nb nc) ++ [(o, eL T (Int32.toInt64 (allW (va_up Z 4 (upd (Z 4) (tn v) (Z 4 (tn v) ^^^ ((1 : Int32) <<< (f &&& 31))))) f (N 0))))]) := hD
    refine lv_goto (tgt := 23) hx hb dL_put_12 (by decide) ?_
    refine lv_iconst (v := 0) hx hb dL_put_23 (by decide) ?_
    exact hret _ _ _ _ _ _ _ (show wrP G (sq (thF f (nI (N 1))) (sq (thF v (nI (N 0))) (poF (bI (decide (¬ cnt1 (Z 4 (tn v)) f = h)))))) (cmB (sq (thF f (nI (N 1))) (sq (thF v (nI (N 0))) (poF (bI (decide (¬ cnt1 (Z 4 (tn v)) f = h))))))) ((wMain T q a N (va_up Z 4 (upd (Z 4) (tn v) (Z 4 (tn v) ^^^ ((1 : Int32) <<< (f &&& 31))))) (svB sc b) (psh sc M N) (psh sc Y Z) (svC sc) tx L cu er le nb nc) ++ [(o, eL T (Int32.toInt64 (allW (va_up Z 4 (upd (Z 4) (tn v) (Z 4 (tn v) ^^^ ((1 : Int32) <<< (f &&& 31))))) f (N 0))))]) ((wMain T q a N Z b M Y sc tx L cu er le nb nc) ++ [(o, eL T fo)]) (some (Value.int 0)) H from Or.inl ⟨hF0, rfl, hP⟩) hS (Nat.le_of_ble_eq_true rfl) (Nat.le_of_ble_eq_true rfl) dL_put_24

theorem idL_addUser : yL_addUser.cls ≠ "java/lang/invoke/MethodHandle" ∧ yL_addUser.cls ≠ "java/lang/invoke/VarHandle" ∧ (parseMethodDescriptor yL_addUser.desc).map (fun d => d.parameters.length) = some 4 := by decide +kernel

set_option maxHeartbeats 4000000 in
set_option maxRecDepth 100000 in
theorem mL_addUser (l : Launch) (hl0 : l.stackTraces = false) {G : va_G} {T : Nat → ClassId} {sa : Nat → Nat} {A9 : Nat → Prop} {H0 : Heap} {q : Nat → Nat} {a : Nat → Nat} {N : Nat → Nat} {Z : Nat → Nat → Int32} {b : Nat → Nat → Nat} {M : Nat → Nat → Nat} {Y : Nat → Nat → Nat → Int32} {sc : Nat} {tx : Nat → Int32} {L : Nat} {cu : Nat} {er : Int32} {le : Int32} {nb : Nat → Int32} {nc : Nat} {v : Int32} {x : Int32} {o : Nat} {fo : Int64} (hP : va_P G vwCl ((wMain T q a N Z b M Y sc tx L cu er le nb nc) ++ [(o, eL T fo)]) H0) (hD : va_D (fun _ => True) ((wMain T q a N Z b M Y sc tx L cu er le nb nc) ++ [(o, eL T fo)])) (h9 : ∀ q, H0.size ≤ q → A9 q) (hwf : wf N Z) (hsc : sc ≤ 4) : lwr l yL_addUser wsL_addUser 9 147 3 [.ref (q 0), .int v, .int x, .ref o] G T sa A9 H0 ((wMain T q a N Z b M Y sc tx L cu er le nb nc) ++ [(o, eL T fo)]) (wrP G (sq (thF v (nI (N 0))) (sq (seF x (nI (N 1))) (poF (bI (decide (N 2 < 10)))))) (cmI (sq (thF v (nI (N 0))) (sq (seF x (nI (N 1))) (poF (bI (decide (N 2 < 10))))))) ((wMain T q a (va_up N 2 (N 2 + 1)) (uAdd N Z v x) (svB sc b) (psh sc M N) (psh sc Y Z) (svC sc) tx L cu er le nb nc) ++ [(o, eL T (Int32.toInt64 (nI (N 2))))]) ((wMain T q a N Z b M Y sc tx L cu er le nb nc) ++ [(o, eL T fo)])) := by
  refine lwr_of (cc := cL_addUser) (maxL := 5) (hh := [(0, 10, 13, 25), (0, 10, 17, 13), (0, 10, 21, 15)]) (own := RL) (by decide +kernel) rfl rfl (Nat.le_of_ble_eq_true rfl) h9 hD ?_
  intro p e s m below meth c Q ls A S hkx hth hnc htab hl hD hS hA hret
  obtain ⟨hx, hb, hml, hown, hts⟩ := id S
  have hl : lv_has ls 5 [(0, .ref (q 0)), (1, .int v), (2, .int x), (3, .ref o)] := hl
  have kC25 := hts (.classLink RL 25 eI) (by decide +kernel)
  have kC13 := hts (.classLink RL 13 eA) (by decide +kernel)
  have kC15 := hts (.classLink RL 15 eS) (by decide +kernel)
  refine lv_aload_n hx hb dL_addUser_0 rfl (lv_at hl 3 rfl) ?_
  refine lv_iconst (v := 0) hx hb dL_addUser_1 (by decide) ?_
  refine lv_aload_n hx hb dL_addUser_2 rfl (lv_at hl 0 rfl) ?_
  refine lv_iload_n hx hb dL_addUser_3 rfl (lv_at hl 1 rfl) ?_
  refine lv_iload_n hx hb dL_addUser_4 rfl (lv_at hl 2 rfl) ?_
  refine tx_V S hkx hth (mX5_addUser l hl0 (sa := sa) (q := q) (a := a) (N := N) (Z := Z) (b := b) (M := M) (Y := Y) (sc := sc) (tx := tx) (L := L) (cu := cu) (er := er) (le := le) (nb := nb) (nc := nc) (v := v) (x := x) (hP := P_hd hP) (hD := (D_hd hD).weaken (fun _ _ _ _ => trivial)) (h9 := fun _ h => h) (hwf := hwf) (hsc := hsc)) gL_addUser_X5_addUser rfl idX5_addUser ⟨Nat.le_of_ble_eq_true rfl, Nat.le_of_ble_eq_true rfl⟩ hP 0 rfl rfl rfl rfl hl.1 rfl (Nat.le_of_ble_eq_true rfl) dL_addUser_5 ⟨Nat.le_of_ble_eq_true rfl, Nat.le_of_ble_eq_true rfl⟩ hS (fr_in (D_hd hD) hA) (fun E ce q9 H locs hpx hq9 hv9 hc9 hz9 hk9 hS => ?_) (fun v H locs hp9 hz1 hk1 hS => ?_)
  · have hP : va_P G vwCl ((wMain T q a N Z b M Y sc tx L cu er le nb nc) ++ [(o, eL T fo)]) H := P_old hP hk9
    rcases hpx with ⟨hf9, rfl⟩ | ⟨hf9, rfl⟩ | ⟨hf9, rfl⟩
    · refine vx_catch hown [] ⟨0, 10, 13, 25⟩ [⟨0, 10, 17, 13⟩, ⟨0, 10, 21, 15⟩] htab (fun z hz => by cases hz) (by decide) (by decide) kC25 (va_Nw.use rfl hth.1.2.2.2.1) hq9 hv9 hc9 ?_
      refine W.eq (g2 := F0 m 13 ls [.ref q9]) rfl ?_
      refine lv_astore (lv' := [(4, .ref q9), (0, .ref (q 0)), (1, .int v), (2, .int x), (3, .ref o)]) hx hb dL_addUser_13 hl (by decide) rfl (fun ls hl => ?_)
      refine lv_iconst (v := 1) hx hb dL_addUser_15 (by decide) ?_
      exact hret _ _ _ _ _ _ _ (show wrP G (sq (thF v (nI (N 0))) (sq (seF x (nI (N 1))) (poF (bI (decide (N 2 < 10)))))) (cmI (sq (thF v (nI (N 0))) (sq (seF x (nI (N 1))) (poF (bI (decide (N 2 < 10))))))) ((wMain T q a (va_up N 2 (N 2 + 1)) (uAdd N Z v x) (svB sc b) (psh sc M N) (psh sc Y Z) (svC sc) tx L cu er le nb nc) ++ [(o, eL T (Int32.toInt64 (nI (N 2))))]) ((wMain T q a N Z b M Y sc tx L cu er le nb nc) ++ [(o, eL T fo)]) (some (Value.int 1)) H from Or.inr ⟨by rw [hf9]; decide, by rw [hf9]; rfl, hP⟩) hS (Nat.le_of_ble_eq_true rfl) (Nat.le_of_ble_eq_true rfl) dL_addUser_16
    · refine vx_catch hown [⟨0, 10, 13, 25⟩] ⟨0, 10, 17, 13⟩ [⟨0, 10, 21, 15⟩] htab (fun z hz => by
        rcases List.mem_singleton.mp hz with rfl
        exact Or.inr ⟨by decide, eI, kC25, hnc.2.2.2.2.1⟩) (by decide) (by decide) kC13 (va_Nw.use rfl hth.1.2.2.2.2.1) hq9 hv9 hc9 ?_
      refine W.eq (g2 := F0 m 17 ls [.ref q9]) rfl ?_
      refine lv_astore (lv' := [(4, .ref q9), (0, .ref (q 0)), (1, .int v), (2, .int x), (3, .ref o)]) hx hb dL_addUser_17 hl (by decide) rfl (fun ls hl => ?_)
      refine lv_iconst (v := 2) hx hb dL_addUser_19 (by decide) ?_
      exact hret _ _ _ _ _ _ _ (show wrP G (sq (thF v (nI (N 0))) (sq (seF x (nI (N 1))) (poF (bI (decide (N 2 < 10)))))) (cmI (sq (thF v (nI (N 0))) (sq (seF x (nI (N 1))) (poF (bI (decide (N 2 < 10))))))) ((wMain T q a (va_up N 2 (N 2 + 1)) (uAdd N Z v x) (svB sc b) (psh sc M N) (psh sc Y Z) (svC sc) tx L cu er le nb nc) ++ [(o, eL T (Int32.toInt64 (nI (N 2))))]) ((wMain T q a N Z b M Y sc tx L cu er le nb nc) ++ [(o, eL T fo)]) (some (Value.int 2)) H from Or.inr ⟨by rw [hf9]; decide, by rw [hf9]; rfl, hP⟩) hS (Nat.le_of_ble_eq_true rfl) (Nat.le_of_ble_eq_true rfl) dL_addUser_20
    · refine vx_catch hown [⟨0, 10, 13, 25⟩, ⟨0, 10, 17, 13⟩] ⟨0, 10, 21, 15⟩ [] htab (fun z hz => by
        rcases List.mem_cons.mp hz with rfl | hz2
        · exact Or.inr ⟨by decide, eI, kC25, hnc.2.2.2.2.2⟩
        · rcases List.mem_singleton.mp hz2 with rfl
          exact Or.inr ⟨by decide, eA, kC13, hnc.1⟩) (by decide) (by decide) kC15 (va_Nw.use rfl hth.1.2.2.2.2.2) hq9 hv9 hc9 ?_
      refine W.eq (g2 := F0 m 21 ls [.ref q9]) rfl ?_
      refine lv_astore (lv' := [(4, .ref q9), (0, .ref (q 0)), (1, .int v), (2, .int x), (3, .ref o)]) hx hb dL_addUser_21 hl (by decide) rfl (fun ls hl => ?_)
      refine lv_iconst (v := 3) hx hb dL_addUser_23 (by decide) ?_
      exact hret _ _ _ _ _ _ _ (show wrP G (sq (thF v (nI (N 0))) (sq (seF x (nI (N 1))) (poF (bI (decide (N 2 < 10)))))) (cmI (sq (thF v (nI (N 0))) (sq (seF x (nI (N 1))) (poF (bI (decide (N 2 < 10))))))) ((wMain T q a (va_up N 2 (N 2 + 1)) (uAdd N Z v x) (svB sc b) (psh sc M N) (psh sc Y Z) (svC sc) tx L cu er le nb nc) ++ [(o, eL T (Int32.toInt64 (nI (N 2))))]) ((wMain T q a N Z b M Y sc tx L cu er le nb nc) ++ [(o, eL T fo)]) (some (Value.int 3)) H from Or.inr ⟨by rw [hf9]; decide, by rw [hf9]; rfl, hP⟩) hS (Nat.le_of_ble_eq_true rfl) (Nat.le_of_ble_eq_true rfl) dL_addUser_24
  · obtain ⟨hF0, rfl, hPc⟩ := hp9
    obtain ⟨hP, hD⟩ := fr_hd hP hD hk1 hPc sv_addr
    have hP : va_P G vwCl ((wMain T q a (va_up N 2 (N 2 + 1)) (uAdd N Z v x) (svB sc b) (psh sc M N) (psh sc Y Z) (svC sc) tx L cu er le nb nc) ++ [(o, eL T fo)]) H := hP
    have hD : va_D A ((wMain T q a (va_up N 2 (N 2 + 1)) (uAdd N Z v x) (svB sc b) (psh sc M N) (psh sc Y Z) (svC sc) tx L cu er le nb nc) ++ [(o, eL T fo)]) := hD
    refine W.eq (g2 := F0 m 8 ls [.int (nI (N 2)), .int 0, .ref o]) rfl ?_
    refine lv_i2l hx hb dL_addUser_8 rfl ?_
    refine lst0 hx hb hkx hP hD hS 100 rfl dL_addUser_9 (fun H locs hP hD hS => ?_)
    have hP : va_P G vwCl ((wMain T q a (va_up N 2 (N 2 + 1)) (uAdd N Z v x) (svB sc b) (psh sc M N) (psh sc Y Z) (svC sc) tx L cu er le nb nc) ++ [(o, eL T (Int32.toInt64 (nI (N 2))))]) H := hP
    have hD : va_D A ((wMain T q a (va_up N 2 (N 2 + 1)) (uAdd N Z v x) (svB sc b) (psh sc M N) (psh sc Y Z) (svC sc) tx L cu er le nb nc) ++ [(o, eL T (Int32.toInt64 (nI (N 2))))]) := hD
    refine lv_goto (tgt := 25) hx hb dL_addUser_10 (by decide) ?_
    refine lv_iconst (v := 0) hx hb dL_addUser_25 (by decide) ?_
    exact hret _ _ _ _ _ _ _ (show wrP G (sq (thF v (nI (N 0))) (sq (seF x (nI (N 1))) (poF (bI (decide (N 2 < 10)))))) (cmI (sq (thF v (nI (N 0))) (sq (seF x (nI (N 1))) (poF (bI (decide (N 2 < 10))))))) ((wMain T q a (va_up N 2 (N 2 + 1)) (uAdd N Z v x) (svB sc b) (psh sc M N) (psh sc Y Z) (svC sc) tx L cu er le nb nc) ++ [(o, eL T (Int32.toInt64 (nI (N 2))))]) ((wMain T q a N Z b M Y sc tx L cu er le nb nc) ++ [(o, eL T fo)]) (some (Value.int 0)) H from Or.inl ⟨hF0, rfl, hP⟩) hS (Nat.le_of_ble_eq_true rfl) (Nat.le_of_ble_eq_true rfl) dL_addUser_26

theorem idL_pledge : yL_pledge.cls ≠ "java/lang/invoke/MethodHandle" ∧ yL_pledge.cls ≠ "java/lang/invoke/VarHandle" ∧ (parseMethodDescriptor yL_pledge.desc).map (fun d => d.parameters.length) = some 5 := by decide +kernel

set_option maxHeartbeats 4000000 in
set_option maxRecDepth 100000 in
theorem mL_pledge (l : Launch) (hl0 : l.stackTraces = false) {G : va_G} {T : Nat → ClassId} {sa : Nat → Nat} {A9 : Nat → Prop} {H0 : Heap} {q : Nat → Nat} {a : Nat → Nat} {N : Nat → Nat} {Z : Nat → Nat → Int32} {b : Nat → Nat → Nat} {M : Nat → Nat → Nat} {Y : Nat → Nat → Nat → Int32} {sc : Nat} {tx : Nat → Int32} {L : Nat} {cu : Nat} {er : Int32} {le : Int32} {nb : Nat → Int32} {nc : Nat} {u : Int32} {v : Int32} {d : Int32} {o : Nat} {fo : Int64} (hP : va_P G vwCl ((wMain T q a N Z b M Y sc tx L cu er le nb nc) ++ [(o, eL T fo)]) H0) (hD : va_D (fun _ => True) ((wMain T q a N Z b M Y sc tx L cu er le nb nc) ++ [(o, eL T fo)])) (h9 : ∀ q, H0.size ≤ q → A9 q) (hwf : wf N Z) (hsc : sc ≤ 4) : lwr l yL_pledge wsL_pledge 8 146 1 [.ref (q 0), .int u, .int v, .int d, .ref o] G T sa A9 H0 ((wMain T q a N Z b M Y sc tx L cu er le nb nc) ++ [(o, eL T fo)]) (wrP G (rfF (plF N u v d)) (cmI (rfF (plF N u v d))) ((wMain T q a N (uPl Z (tn u) v d) (svB sc b) (psh sc M N) (psh sc Y Z) (svC sc) tx L cu er le nb nc) ++ [(o, eL T (Int32.toInt64 (Z 8 (tn u))))]) ((wMain T q a N Z b M Y sc tx L cu er le nb nc) ++ [(o, eL T fo)])) := by
  refine lwr_of (cc := cL_pledge) (maxL := 6) (hh := [(0, 12, 15, 25), (0, 12, 19, 13)]) (own := RL) (by decide +kernel) rfl rfl (Nat.le_of_ble_eq_true rfl) h9 hD ?_
  intro p e s m below meth c Q ls A S hkx hth hnc htab hl hD hS hA hret
  obtain ⟨hx, hb, hml, hown, hts⟩ := id S
  have hl : lv_has ls 6 [(0, .ref (q 0)), (1, .int u), (2, .int v), (3, .int d), (4, .ref o)] := hl
  have kC25 := hts (.classLink RL 25 eI) (by decide +kernel)
  have kC13 := hts (.classLink RL 13 eA) (by decide +kernel)
  refine lv_aload hx hb dL_pledge_0 (lv_at hl 4 rfl) ?_
  refine lv_iconst (v := 0) hx hb dL_pledge_2 (by decide) ?_
  refine lv_aload_n hx hb dL_pledge_3 rfl (lv_at hl 0 rfl) ?_
  refine lv_iload_n hx hb dL_pledge_4 rfl (lv_at hl 1 rfl) ?_
  refine lv_iload_n hx hb dL_pledge_5 rfl (lv_at hl 2 rfl) ?_
  refine lv_iload_n hx hb dL_pledge_6 rfl (lv_at hl 3 rfl) ?_
  refine tx_V S hkx hth (mX5_pledge l hl0 (sa := sa) (q := q) (a := a) (N := N) (Z := Z) (b := b) (M := M) (Y := Y) (sc := sc) (tx := tx) (L := L) (cu := cu) (er := er) (le := le) (nb := nb) (nc := nc) (u := u) (v := v) (d := d) (hP := P_hd hP) (hD := (D_hd hD).weaken (fun _ _ _ _ => trivial)) (h9 := fun _ h => h) (hwf := hwf) (hsc := hsc)) gL_pledge_X5_pledge rfl idX5_pledge ⟨Nat.le_of_ble_eq_true rfl, Nat.le_of_ble_eq_true rfl⟩ hP 0 rfl rfl rfl rfl hl.1 rfl (Nat.le_of_ble_eq_true rfl) dL_pledge_7 ⟨Nat.le_of_ble_eq_true rfl, Nat.le_of_ble_eq_true rfl⟩ hS (fr_in (D_hd hD) hA) (fun E ce q9 H locs hpx hq9 hv9 hc9 hz9 hk9 hS => ?_) (fun v H locs hp9 hz1 hk1 hS => ?_)
  · have hP : va_P G vwCl ((wMain T q a N Z b M Y sc tx L cu er le nb nc) ++ [(o, eL T fo)]) H := P_old hP hk9
    rcases hpx with ⟨hf9, rfl⟩ | ⟨hf9, rfl⟩ | ⟨hf9, rfl⟩
    · refine vx_catch hown [] ⟨0, 12, 15, 25⟩ [⟨0, 12, 19, 13⟩] htab (fun z hz => by cases hz) (by decide) (by decide) kC25 (va_Nw.use rfl hth.1.2.2.2.1) hq9 hv9 hc9 ?_
      refine W.eq (g2 := F0 m 15 ls [.ref q9]) rfl ?_
      refine lv_astore (lv' := [(5, .ref q9), (0, .ref (q 0)), (1, .int u), (2, .int v), (3, .int d), (4, .ref o)]) hx hb dL_pledge_15 hl (by decide) rfl (fun ls hl => ?_)
      refine lv_iconst (v := 1) hx hb dL_pledge_17 (by decide) ?_
      exact hret _ _ _ _ _ _ _ (show wrP G (rfF (plF N u v d)) (cmI (rfF (plF N u v d))) ((wMain T q a N (uPl Z (tn u) v d) (svB sc b) (psh sc M N) (psh sc Y Z) (svC sc) tx L cu er le nb nc) ++ [(o, eL T (Int32.toInt64 (Z 8 (tn u))))]) ((wMain T q a N Z b M Y sc tx L cu er le nb nc) ++ [(o, eL T fo)]) (some (Value.int 1)) H from Or.inr ⟨by rw [hf9]; decide, by rw [hf9]; rfl, hP⟩) hS (Nat.le_of_ble_eq_true rfl) (Nat.le_of_ble_eq_true rfl) dL_pledge_18
    · refine vx_catch hown [⟨0, 12, 15, 25⟩] ⟨0, 12, 19, 13⟩ [] htab (fun z hz => by
        rcases List.mem_singleton.mp hz with rfl
        exact Or.inr ⟨by decide, eI, kC25, hnc.2.2.2.2.1⟩) (by decide) (by decide) kC13 (va_Nw.use rfl hth.1.2.2.2.2.1) hq9 hv9 hc9 ?_
      refine W.eq (g2 := F0 m 19 ls [.ref q9]) rfl ?_
      refine lv_astore (lv' := [(5, .ref q9), (0, .ref (q 0)), (1, .int u), (2, .int v), (3, .int d), (4, .ref o)]) hx hb dL_pledge_19 hl (by decide) rfl (fun ls hl => ?_)
      refine lv_iconst (v := 2) hx hb dL_pledge_21 (by decide) ?_
      exact hret _ _ _ _ _ _ _ (show wrP G (rfF (plF N u v d)) (cmI (rfF (plF N u v d))) ((wMain T q a N (uPl Z (tn u) v d) (svB sc b) (psh sc M N) (psh sc Y Z) (svC sc) tx L cu er le nb nc) ++ [(o, eL T (Int32.toInt64 (Z 8 (tn u))))]) ((wMain T q a N Z b M Y sc tx L cu er le nb nc) ++ [(o, eL T fo)]) (some (Value.int 2)) H from Or.inr ⟨by rw [hf9]; decide, by rw [hf9]; rfl, hP⟩) hS (Nat.le_of_ble_eq_true rfl) (Nat.le_of_ble_eq_true rfl) dL_pledge_22
    · exact absurd hf9 (r_pl _ _ _ _)
  · obtain ⟨hF0, rfl, hPc⟩ := hp9
    obtain ⟨hP, hD⟩ := fr_hd hP hD hk1 hPc sv_addr
    have hP : va_P G vwCl ((wMain T q a N (uPl Z (tn u) v d) (svB sc b) (psh sc M N) (psh sc Y Z) (svC sc) tx L cu er le nb nc) ++ [(o, eL T fo)]) H := hP
    have hD : va_D A ((wMain T q a N (uPl Z (tn u) v d) (svB sc b) (psh sc M N) (psh sc Y Z) (svC sc) tx L cu er le nb nc) ++ [(o, eL T fo)]) := hD
    refine W.eq (g2 := F0 m 10 ls [.int (Z 8 (tn u)), .int 0, .ref o]) rfl ?_
    refine lv_i2l hx hb dL_pledge_10 rfl ?_
    refine lst0 hx hb hkx hP hD hS 100 rfl dL_pledge_11 (fun H locs hP hD hS => ?_)
    have hP : va_P G vwCl ((wMain T q a N (uPl Z (tn u) v d) (svB sc b) (psh sc M N) (psh sc Y Z) (svC sc) tx L cu er le nb nc) ++ [(o, eL T (Int32.toInt64 (Z 8 (tn u))))]) H := hP
    have hD : va_D A ((wMain T q a N (uPl Z (tn u) v d) (svB sc b) (psh sc M N) (psh sc Y Z) (svC sc) tx L cu er le nb nc) ++ [(o, eL T (Int32.toInt64 (Z 8 (tn u))))]) := hD
    refine lv_goto (tgt := 23) hx hb dL_pledge_12 (by decide) ?_
    refine lv_iconst (v := 0) hx hb dL_pledge_23 (by decide) ?_
    exact hret _ _ _ _ _ _ _ (show wrP G (rfF (plF N u v d)) (cmI (rfF (plF N u v d))) ((wMain T q a N (uPl Z (tn u) v d) (svB sc b) (psh sc M N) (psh sc Y Z) (svC sc) tx L cu er le nb nc) ++ [(o, eL T (Int32.toInt64 (Z 8 (tn u))))]) ((wMain T q a N Z b M Y sc tx L cu er le nb nc) ++ [(o, eL T fo)]) (some (Value.int 0)) H from Or.inl ⟨hF0, rfl, hP⟩) hS (Nat.le_of_ble_eq_true rfl) (Nat.le_of_ble_eq_true rfl) dL_pledge_24

theorem idL_takeBack : yL_takeBack.cls ≠ "java/lang/invoke/MethodHandle" ∧ yL_takeBack.cls ≠ "java/lang/invoke/VarHandle" ∧ (parseMethodDescriptor yL_takeBack.desc).map (fun d => d.parameters.length) = some 3 := by decide +kernel

set_option maxHeartbeats 4000000 in
set_option maxRecDepth 100000 in
theorem mL_takeBack (l : Launch) (hl0 : l.stackTraces = false) {G : va_G} {T : Nat → ClassId} {sa : Nat → Nat} {A9 : Nat → Prop} {H0 : Heap} {q : Nat → Nat} {a : Nat → Nat} {N : Nat → Nat} {Z : Nat → Nat → Int32} {b : Nat → Nat → Nat} {M : Nat → Nat → Nat} {Y : Nat → Nat → Nat → Int32} {sc : Nat} {tx : Nat → Int32} {L : Nat} {cu : Nat} {er : Int32} {le : Int32} {nb : Nat → Int32} {nc : Nat} {u : Int32} {o : Nat} {fo : Int64} (hP : va_P G vwCl ((wMain T q a N Z b M Y sc tx L cu er le nb nc) ++ [(o, eL T fo)]) H0) (hD : va_D (fun _ => True) ((wMain T q a N Z b M Y sc tx L cu er le nb nc) ++ [(o, eL T fo)])) (h9 : ∀ q, H0.size ≤ q → A9 q) (hwf : wf N Z) (hsc : sc ≤ 4) : lwr l yL_takeBack wsL_takeBack 8 144 2 [.ref (q 0), .int u, .ref o] G T sa A9 H0 ((wMain T q a N Z b M Y sc tx L cu er le nb nc) ++ [(o, eL T fo)]) (wrP G (sq (thF u (nI (N 2))) (poF (bI (pled Z (tn u))))) (cmB (sq (thF u (nI (N 2))) (poF (bI (pled Z (tn u)))))) ((wMain T q a N (uPl Z (tn u) (-1) (-1)) (svB sc b) (psh sc M N) (psh sc Y Z) (svC sc) tx L cu er le nb nc) ++ [(o, eL T (Int32.toInt64 (Z 8 (tn u))))]) ((wMain T q a N Z b M Y sc tx L cu er le nb nc) ++ [(o, eL T fo)])) := by
  refine lwr_of (cc := cL_takeBack) (maxL := 4) (hh := [(0, 9, 12, 25), (0, 9, 15, 15)]) (own := RL) (by decide +kernel) rfl rfl (Nat.le_of_ble_eq_true rfl) h9 hD ?_
  intro p e s m below meth c Q ls A S hkx hth hnc htab hl hD hS hA hret
  obtain ⟨hx, hb, hml, hown, hts⟩ := id S
  have hl : lv_has ls 4 [(0, .ref (q 0)), (1, .int u), (2, .ref o)] := hl
  have kC25 := hts (.classLink RL 25 eI) (by decide +kernel)
  have kC15 := hts (.classLink RL 15 eS) (by decide +kernel)
  refine lv_aload_n hx hb dL_takeBack_0 rfl (lv_at hl 2 rfl) ?_
  refine lv_iconst (v := 0) hx hb dL_takeBack_1 (by decide) ?_
  refine lv_aload_n hx hb dL_takeBack_2 rfl (lv_at hl 0 rfl) ?_
  refine lv_iload_n hx hb dL_takeBack_3 rfl (lv_at hl 1 rfl) ?_
  refine tx_V S hkx hth (mX5_takeBack l hl0 (sa := sa) (q := q) (a := a) (N := N) (Z := Z) (b := b) (M := M) (Y := Y) (sc := sc) (tx := tx) (L := L) (cu := cu) (er := er) (le := le) (nb := nb) (nc := nc) (u := u) (hP := P_hd hP) (hD := (D_hd hD).weaken (fun _ _ _ _ => trivial)) (h9 := fun _ h => h) (hwf := hwf) (hsc := hsc)) gL_takeBack_X5_takeBack rfl idX5_takeBack ⟨Nat.le_of_ble_eq_true rfl, Nat.le_of_ble_eq_true rfl⟩ hP 0 rfl rfl rfl rfl hl.1 rfl (Nat.le_of_ble_eq_true rfl) dL_takeBack_4 ⟨Nat.le_of_ble_eq_true rfl, Nat.le_of_ble_eq_true rfl⟩ hS (fr_in (D_hd hD) hA) (fun E ce q9 H locs hpx hq9 hv9 hc9 hz9 hk9 hS => ?_) (fun v H locs hp9 hz1 hk1 hS => ?_)
  · have hP : va_P G vwCl ((wMain T q a N Z b M Y sc tx L cu er le nb nc) ++ [(o, eL T fo)]) H := P_old hP hk9
    rcases hpx with ⟨hf9, rfl⟩ | ⟨hf9, rfl⟩ | ⟨hf9, rfl⟩
    · refine vx_catch hown [] ⟨0, 9, 12, 25⟩ [⟨0, 9, 15, 15⟩] htab (fun z hz => by cases hz) (by decide) (by decide) kC25 (va_Nw.use rfl hth.1.2.2.2.1) hq9 hv9 hc9 ?_
      refine W.eq (g2 := F0 m 12 ls [.ref q9]) rfl ?_
      refine lv_astore_n (lv' := [(3, .ref q9), (0, .ref (q 0)), (1, .int u), (2, .ref o)]) hx hb dL_takeBack_12 rfl hl (by decide) rfl (fun ls hl => ?_)
      refine lv_iconst (v := 1) hx hb dL_takeBack_13 (by decide) ?_
      exact hret _ _ _ _ _ _ _ (show wrP G (sq (thF u (nI (N 2))) (poF (bI (pled Z (tn u))))) (cmB (sq (thF u (nI (N 2))) (poF (bI (pled Z (tn u)))))) ((wMain T q a N (uPl Z (tn u) (-1) (-1)) (svB sc b) (psh sc M N) (psh sc Y Z) (svC sc) tx L cu er le nb nc) ++ [(o, eL T (Int32.toInt64 (Z 8 (tn u))))]) ((wMain T q a N Z b M Y sc tx L cu er le nb nc) ++ [(o, eL T fo)]) (some (Value.int 1)) H from Or.inr ⟨by rw [hf9]; decide, by rw [hf9]; rfl, hP⟩) hS (Nat.le_of_ble_eq_true rfl) (Nat.le_of_ble_eq_true rfl) dL_takeBack_14
    · exact absurd hf9 (r_sq (r_th _ _).1 (r_po _).2)
    · refine vx_catch hown [⟨0, 9, 12, 25⟩] ⟨0, 9, 15, 15⟩ [] htab (fun z hz => by
        rcases List.mem_singleton.mp hz with rfl
        exact Or.inr ⟨by decide, eI, kC25, hnc.2.2.2.2.2⟩) (by decide) (by decide) kC15 (va_Nw.use rfl hth.1.2.2.2.2.2) hq9 hv9 hc9 ?_
      refine W.eq (g2 := F0 m 15 ls [.ref q9]) rfl ?_
      refine lv_astore_n (lv' := [(3, .ref q9), (0, .ref (q 0)), (1, .int u), (2, .ref o)]) hx hb dL_takeBack_15 rfl hl (by decide) rfl (fun ls hl => ?_)
      refine lv_iconst (v := 2) hx hb dL_takeBack_16 (by decide) ?_
      exact hret _ _ _ _ _ _ _ (show wrP G (sq (thF u (nI (N 2))) (poF (bI (pled Z (tn u))))) (cmB (sq (thF u (nI (N 2))) (poF (bI (pled Z (tn u)))))) ((wMain T q a N (uPl Z (tn u) (-1) (-1)) (svB sc b) (psh sc M N) (psh sc Y Z) (svC sc) tx L cu er le nb nc) ++ [(o, eL T (Int32.toInt64 (Z 8 (tn u))))]) ((wMain T q a N Z b M Y sc tx L cu er le nb nc) ++ [(o, eL T fo)]) (some (Value.int 2)) H from Or.inr ⟨by rw [hf9]; decide, by rw [hf9]; rfl, hP⟩) hS (Nat.le_of_ble_eq_true rfl) (Nat.le_of_ble_eq_true rfl) dL_takeBack_17
  · obtain ⟨hF0, rfl, hPc⟩ := hp9
    obtain ⟨hP, hD⟩ := fr_hd hP hD hk1 hPc sv_addr
    have hP : va_P G vwCl ((wMain T q a N (uPl Z (tn u) (-1) (-1)) (svB sc b) (psh sc M N) (psh sc Y Z) (svC sc) tx L cu er le nb nc) ++ [(o, eL T fo)]) H := hP
    have hD : va_D A ((wMain T q a N (uPl Z (tn u) (-1) (-1)) (svB sc b) (psh sc M N) (psh sc Y Z) (svC sc) tx L cu er le nb nc) ++ [(o, eL T fo)]) := hD
    refine W.eq (g2 := F0 m 7 ls [.int (Z 8 (tn u)), .int 0, .ref o]) rfl ?_
    refine lv_i2l hx hb dL_takeBack_7 rfl ?_
    refine lst0 hx hb hkx hP hD hS 100 rfl dL_takeBack_8 (fun H locs hP hD hS => ?_)
    have hP : va_P G vwCl ((wMain T q a N (uPl Z (tn u) (-1) (-1)) (svB sc b) (psh sc M N) (psh sc Y Z) (svC sc) tx L cu er le nb nc) ++ [(o, eL T (Int32.toInt64 (Z 8 (tn u))))]) H := hP
    have hD : va_D A ((wMain T q a N (uPl Z (tn u) (-1) (-1)) (svB sc b) (psh sc M N) (psh sc Y Z) (svC sc) tx L cu er le nb nc) ++ [(o, eL T (Int32.toInt64 (Z 8 (tn u))))]) := hD
    refine lv_goto (tgt := 18) hx hb dL_takeBack_9 (by decide) ?_
    refine lv_iconst (v := 0) hx hb dL_takeBack_18 (by decide) ?_
    exact hret _ _ _ _ _ _ _ (show wrP G (sq (thF u (nI (N 2))) (poF (bI (pled Z (tn u))))) (cmB (sq (thF u (nI (N 2))) (poF (bI (pled Z (tn u)))))) ((wMain T q a N (uPl Z (tn u) (-1) (-1)) (svB sc b) (psh sc M N) (psh sc Y Z) (svC sc) tx L cu er le nb nc) ++ [(o, eL T (Int32.toInt64 (Z 8 (tn u))))]) ((wMain T q a N Z b M Y sc tx L cu er le nb nc) ++ [(o, eL T fo)]) (some (Value.int 0)) H from Or.inl ⟨hF0, rfl, hP⟩) hS (Nat.le_of_ble_eq_true rfl) (Nat.le_of_ble_eq_true rfl) dL_takeBack_19

theorem idL_slip : yL_slip.cls ≠ "java/lang/invoke/MethodHandle" ∧ yL_slip.cls ≠ "java/lang/invoke/VarHandle" ∧ (parseMethodDescriptor yL_slip.desc).map (fun d => d.parameters.length) = some 4 := by decide +kernel

set_option maxHeartbeats 4000000 in
set_option maxRecDepth 100000 in
theorem mL_slip (l : Launch) (hl0 : l.stackTraces = false) {G : va_G} {T : Nat → ClassId} {sa : Nat → Nat} {A9 : Nat → Prop} {H0 : Heap} {q : Nat → Nat} {a : Nat → Nat} {N : Nat → Nat} {Z : Nat → Nat → Int32} {b : Nat → Nat → Nat} {M : Nat → Nat → Nat} {Y : Nat → Nat → Nat → Int32} {sc : Nat} {tx : Nat → Int32} {L : Nat} {cu : Nat} {er : Int32} {le : Int32} {nb : Nat → Int32} {nc : Nat} {u : Int32} {t : Int32} {o : Nat} {fo : Int64} (hP : va_P G vwCl ((wMain T q a N Z b M Y sc tx L cu er le nb nc) ++ [(o, eL T fo)]) H0) (hD : va_D (fun _ => True) ((wMain T q a N Z b M Y sc tx L cu er le nb nc) ++ [(o, eL T fo)])) (h9 : ∀ q, H0.size ≤ q → A9 q) (hwf : wf N Z) (hsc : sc ≤ 4) : lwr l yL_slip wsL_slip 8 144 1 [.ref (q 0), .int u, .int t, .ref o] G T sa A9 H0 ((wMain T q a N Z b M Y sc tx L cu er le nb nc) ++ [(o, eL T fo)]) (wrP G (rfF (slF N Z u t)) (cmI (rfF (slF N Z u t))) ((wMain T q a N (uSl Z (tn u) t) (svB sc b) (psh sc M N) (psh sc Y Z) (svC sc) tx L cu er le nb nc) ++ [(o, eL T (Int32.toInt64 (uSl Z (tn u) t 8 (tn u))))]) ((wMain T q a N Z b M Y sc tx L cu er le nb nc) ++ [(o, eL T fo)])) := by
  refine lwr_of (cc := cL_slip) (maxL := 5) (hh := [(0, 10, 13, 25), (0, 10, 17, 13), (0, 10, 21, 15)]) (own := RL) (by decide +kernel) rfl rfl (Nat.le_of_ble_eq_true rfl) h9 hD ?_
  intro p e s m below meth c Q ls A S hkx hth hnc htab hl hD hS hA hret
  obtain ⟨hx, hb, hml, hown, hts⟩ := id S
  have hl : lv_has ls 5 [(0, .ref (q 0)), (1, .int u), (2, .int t), (3, .ref o)] := hl
  have kC25 := hts (.classLink RL 25 eI) (by decide +kernel)
  have kC13 := hts (.classLink RL 13 eA) (by decide +kernel)
  have kC15 := hts (.classLink RL 15 eS) (by decide +kernel)
  refine lv_aload_n hx hb dL_slip_0 rfl (lv_at hl 3 rfl) ?_
  refine lv_iconst (v := 0) hx hb dL_slip_1 (by decide) ?_
  refine lv_aload_n hx hb dL_slip_2 rfl (lv_at hl 0 rfl) ?_
  refine lv_iload_n hx hb dL_slip_3 rfl (lv_at hl 1 rfl) ?_
  refine lv_iload_n hx hb dL_slip_4 rfl (lv_at hl 2 rfl) ?_
  refine tx_V S hkx hth (mX5_slip l hl0 (sa := sa) (q := q) (a := a) (N := N) (Z := Z) (b := b) (M := M) (Y := Y) (sc := sc) (tx := tx) (L := L) (cu := cu) (er := er) (le := le) (nb := nb) (nc := nc) (u := u) (t := t) (hP := P_hd hP) (hD := (D_hd hD).weaken (fun _ _ _ _ => trivial)) (h9 := fun _ h => h) (hwf := hwf) (hsc := hsc)) gL_slip_X5_slip rfl idX5_slip ⟨Nat.le_of_ble_eq_true rfl, Nat.le_of_ble_eq_true rfl⟩ hP 0 rfl rfl rfl rfl hl.1 rfl (Nat.le_of_ble_eq_true rfl) dL_slip_5 ⟨Nat.le_of_ble_eq_true rfl, Nat.le_of_ble_eq_true rfl⟩ hS (fr_in (D_hd hD) hA) (fun E ce q9 H locs hpx hq9 hv9 hc9 hz9 hk9 hS => ?_) (fun v H locs hp9 hz1 hk1 hS => ?_)
  · have hP : va_P G vwCl ((wMain T q a N Z b M Y sc tx L cu er le nb nc) ++ [(o, eL T fo)]) H := P_old hP hk9
    rcases hpx with ⟨hf9, rfl⟩ | ⟨hf9, rfl⟩ | ⟨hf9, rfl⟩
    · refine vx_catch hown [] ⟨0, 10, 13, 25⟩ [⟨0, 10, 17, 13⟩, ⟨0, 10, 21, 15⟩] htab (fun z hz => by cases hz) (by decide) (by decide) kC25 (va_Nw.use rfl hth.1.2.2.2.1) hq9 hv9 hc9 ?_
      refine W.eq (g2 := F0 m 13 ls [.ref q9]) rfl ?_
      refine lv_astore (lv' := [(4, .ref q9), (0, .ref (q 0)), (1, .int u), (2, .int t), (3, .ref o)]) hx hb dL_slip_13 hl (by decide) rfl (fun ls hl => ?_)
      refine lv_iconst (v := 1) hx hb dL_slip_15 (by decide) ?_
      exact hret _ _ _ _ _ _ _ (show wrP G (rfF (slF N Z u t)) (cmI (rfF (slF N Z u t))) ((wMain T q a N (uSl Z (tn u) t) (svB sc b) (psh sc M N) (psh sc Y Z) (svC sc) tx L cu er le nb nc) ++ [(o, eL T (Int32.toInt64 (uSl Z (tn u) t 8 (tn u))))]) ((wMain T q a N Z b M Y sc tx L cu er le nb nc) ++ [(o, eL T fo)]) (some (Value.int 1)) H from Or.inr ⟨by rw [hf9]; decide, by rw [hf9]; rfl, hP⟩) hS (Nat.le_of_ble_eq_true rfl) (Nat.le_of_ble_eq_true rfl) dL_slip_16
    · refine vx_catch hown [⟨0, 10, 13, 25⟩] ⟨0, 10, 17, 13⟩ [⟨0, 10, 21, 15⟩] htab (fun z hz => by
        rcases List.mem_singleton.mp hz with rfl
        exact Or.inr ⟨by decide, eI, kC25, hnc.2.2.2.2.1⟩) (by decide) (by decide) kC13 (va_Nw.use rfl hth.1.2.2.2.2.1) hq9 hv9 hc9 ?_
      refine W.eq (g2 := F0 m 17 ls [.ref q9]) rfl ?_
      refine lv_astore (lv' := [(4, .ref q9), (0, .ref (q 0)), (1, .int u), (2, .int t), (3, .ref o)]) hx hb dL_slip_17 hl (by decide) rfl (fun ls hl => ?_)
      refine lv_iconst (v := 2) hx hb dL_slip_19 (by decide) ?_
      exact hret _ _ _ _ _ _ _ (show wrP G (rfF (slF N Z u t)) (cmI (rfF (slF N Z u t))) ((wMain T q a N (uSl Z (tn u) t) (svB sc b) (psh sc M N) (psh sc Y Z) (svC sc) tx L cu er le nb nc) ++ [(o, eL T (Int32.toInt64 (uSl Z (tn u) t 8 (tn u))))]) ((wMain T q a N Z b M Y sc tx L cu er le nb nc) ++ [(o, eL T fo)]) (some (Value.int 2)) H from Or.inr ⟨by rw [hf9]; decide, by rw [hf9]; rfl, hP⟩) hS (Nat.le_of_ble_eq_true rfl) (Nat.le_of_ble_eq_true rfl) dL_slip_20
    · refine vx_catch hown [⟨0, 10, 13, 25⟩, ⟨0, 10, 17, 13⟩] ⟨0, 10, 21, 15⟩ [] htab (fun z hz => by
        rcases List.mem_cons.mp hz with rfl | hz2
        · exact Or.inr ⟨by decide, eI, kC25, hnc.2.2.2.2.2⟩
        · rcases List.mem_singleton.mp hz2 with rfl
          exact Or.inr ⟨by decide, eA, kC13, hnc.1⟩) (by decide) (by decide) kC15 (va_Nw.use rfl hth.1.2.2.2.2.2) hq9 hv9 hc9 ?_
      refine W.eq (g2 := F0 m 21 ls [.ref q9]) rfl ?_
      refine lv_astore (lv' := [(4, .ref q9), (0, .ref (q 0)), (1, .int u), (2, .int t), (3, .ref o)]) hx hb dL_slip_21 hl (by decide) rfl (fun ls hl => ?_)
      refine lv_iconst (v := 3) hx hb dL_slip_23 (by decide) ?_
      exact hret _ _ _ _ _ _ _ (show wrP G (rfF (slF N Z u t)) (cmI (rfF (slF N Z u t))) ((wMain T q a N (uSl Z (tn u) t) (svB sc b) (psh sc M N) (psh sc Y Z) (svC sc) tx L cu er le nb nc) ++ [(o, eL T (Int32.toInt64 (uSl Z (tn u) t 8 (tn u))))]) ((wMain T q a N Z b M Y sc tx L cu er le nb nc) ++ [(o, eL T fo)]) (some (Value.int 3)) H from Or.inr ⟨by rw [hf9]; decide, by rw [hf9]; rfl, hP⟩) hS (Nat.le_of_ble_eq_true rfl) (Nat.le_of_ble_eq_true rfl) dL_slip_24
  · obtain ⟨hF0, rfl, hPc⟩ := hp9
    obtain ⟨hP, hD⟩ := fr_hd hP hD hk1 hPc sv_addr
    have hP : va_P G vwCl ((wMain T q a N (uSl Z (tn u) t) (svB sc b) (psh sc M N) (psh sc Y Z) (svC sc) tx L cu er le nb nc) ++ [(o, eL T fo)]) H := hP
    have hD : va_D A ((wMain T q a N (uSl Z (tn u) t) (svB sc b) (psh sc M N) (psh sc Y Z) (svC sc) tx L cu er le nb nc) ++ [(o, eL T fo)]) := hD
    refine W.eq (g2 := F0 m 8 ls [.int (uSl Z (tn u) t 8 (tn u)), .int 0, .ref o]) rfl ?_
    refine lv_i2l hx hb dL_slip_8 rfl ?_
    refine lst0 hx hb hkx hP hD hS 100 rfl dL_slip_9 (fun H locs hP hD hS => ?_)
    have hP : va_P G vwCl ((wMain T q a N (uSl Z (tn u) t) (svB sc b) (psh sc M N) (psh sc Y Z) (svC sc) tx L cu er le nb nc) ++ [(o, eL T (Int32.toInt64 (uSl Z (tn u) t 8 (tn u))))]) H := hP
    have hD : va_D A ((wMain T q a N (uSl Z (tn u) t) (svB sc b) (psh sc M N) (psh sc Y Z) (svC sc) tx L cu er le nb nc) ++ [(o, eL T (Int32.toInt64 (uSl Z (tn u) t 8 (tn u))))]) := hD
    refine lv_goto (tgt := 25) hx hb dL_slip_10 (by decide) ?_
    refine lv_iconst (v := 0) hx hb dL_slip_25 (by decide) ?_
    exact hret _ _ _ _ _ _ _ (show wrP G (rfF (slF N Z u t)) (cmI (rfF (slF N Z u t))) ((wMain T q a N (uSl Z (tn u) t) (svB sc b) (psh sc M N) (psh sc Y Z) (svC sc) tx L cu er le nb nc) ++ [(o, eL T (Int32.toInt64 (uSl Z (tn u) t 8 (tn u))))]) ((wMain T q a N Z b M Y sc tx L cu er le nb nc) ++ [(o, eL T fo)]) (some (Value.int 0)) H from Or.inl ⟨hF0, rfl, hP⟩) hS (Nat.le_of_ble_eq_true rfl) (Nat.le_of_ble_eq_true rfl) dL_slip_26

theorem idL_extend : yL_extend.cls ≠ "java/lang/invoke/MethodHandle" ∧ yL_extend.cls ≠ "java/lang/invoke/VarHandle" ∧ (parseMethodDescriptor yL_extend.desc).map (fun d => d.parameters.length) = some 4 := by decide +kernel

set_option maxHeartbeats 4000000 in
set_option maxRecDepth 100000 in
theorem mL_extend (l : Launch) (hl0 : l.stackTraces = false) {G : va_G} {T : Nat → ClassId} {sa : Nat → Nat} {A9 : Nat → Prop} {H0 : Heap} {q : Nat → Nat} {a : Nat → Nat} {N : Nat → Nat} {Z : Nat → Nat → Int32} {b : Nat → Nat → Nat} {M : Nat → Nat → Nat} {Y : Nat → Nat → Nat → Int32} {sc : Nat} {tx : Nat → Int32} {L : Nat} {cu : Nat} {er : Int32} {le : Int32} {nb : Nat → Int32} {nc : Nat} {v : Int32} {t : Int32} {o : Nat} {fo : Int64} (hP : va_P G vwCl ((wMain T q a N Z b M Y sc tx L cu er le nb nc) ++ [(o, eL T fo)]) H0) (hD : va_D (fun _ => True) ((wMain T q a N Z b M Y sc tx L cu er le nb nc) ++ [(o, eL T fo)])) (h9 : ∀ q, H0.size ≤ q → A9 q) (hwf : wf N Z) (hsc : sc ≤ 4) : lwr l yL_extend wsL_extend 8 144 1 [.ref (q 0), .int v, .int t, .ref o] G T sa A9 H0 ((wMain T q a N Z b M Y sc tx L cu er le nb nc) ++ [(o, eL T fo)]) (wrP G (rfF (exF N Z v t)) (cmI (rfF (exF N Z v t))) ((wMain T q a N (vExt Z (tn v) t) (svB sc b) (psh sc M N) (psh sc Y Z) (svC sc) tx L cu er le nb nc) ++ [(o, eL T (Int32.toInt64 (vExt Z (tn v) t 2 (tn v))))]) ((wMain T q a N Z b M Y sc tx L cu er le nb nc) ++ [(o, eL T fo)])) := by
  refine lwr_of (cc := cL_extend) (maxL := 5) (hh := [(0, 10, 13, 25), (0, 10, 17, 13), (0, 10, 21, 15)]) (own := RL) (by decide +kernel) rfl rfl (Nat.le_of_ble_eq_true rfl) h9 hD ?_
  intro p e s m below meth c Q ls A S hkx hth hnc htab hl hD hS hA hret
  obtain ⟨hx, hb, hml, hown, hts⟩ := id S
  have hl : lv_has ls 5 [(0, .ref (q 0)), (1, .int v), (2, .int t), (3, .ref o)] := hl
  have kC25 := hts (.classLink RL 25 eI) (by decide +kernel)
  have kC13 := hts (.classLink RL 13 eA) (by decide +kernel)
  have kC15 := hts (.classLink RL 15 eS) (by decide +kernel)
  refine lv_aload_n hx hb dL_extend_0 rfl (lv_at hl 3 rfl) ?_
  refine lv_iconst (v := 0) hx hb dL_extend_1 (by decide) ?_
  refine lv_aload_n hx hb dL_extend_2 rfl (lv_at hl 0 rfl) ?_
  refine lv_iload_n hx hb dL_extend_3 rfl (lv_at hl 1 rfl) ?_
  refine lv_iload_n hx hb dL_extend_4 rfl (lv_at hl 2 rfl) ?_
  refine tx_V S hkx hth (mX5_extend l hl0 (sa := sa) (q := q) (a := a) (N := N) (Z := Z) (b := b) (M := M) (Y := Y) (sc := sc) (tx := tx) (L := L) (cu := cu) (er := er) (le := le) (nb := nb) (nc := nc) (v := v) (t := t) (hP := P_hd hP) (hD := (D_hd hD).weaken (fun _ _ _ _ => trivial)) (h9 := fun _ h => h) (hwf := hwf) (hsc := hsc)) gL_extend_X5_extend rfl idX5_extend ⟨Nat.le_of_ble_eq_true rfl, Nat.le_of_ble_eq_true rfl⟩ hP 0 rfl rfl rfl rfl hl.1 rfl (Nat.le_of_ble_eq_true rfl) dL_extend_5 ⟨Nat.le_of_ble_eq_true rfl, Nat.le_of_ble_eq_true rfl⟩ hS (fr_in (D_hd hD) hA) (fun E ce q9 H locs hpx hq9 hv9 hc9 hz9 hk9 hS => ?_) (fun v H locs hp9 hz1 hk1 hS => ?_)
  · have hP : va_P G vwCl ((wMain T q a N Z b M Y sc tx L cu er le nb nc) ++ [(o, eL T fo)]) H := P_old hP hk9
    rcases hpx with ⟨hf9, rfl⟩ | ⟨hf9, rfl⟩ | ⟨hf9, rfl⟩
    · refine vx_catch hown [] ⟨0, 10, 13, 25⟩ [⟨0, 10, 17, 13⟩, ⟨0, 10, 21, 15⟩] htab (fun z hz => by cases hz) (by decide) (by decide) kC25 (va_Nw.use rfl hth.1.2.2.2.1) hq9 hv9 hc9 ?_
      refine W.eq (g2 := F0 m 13 ls [.ref q9]) rfl ?_
      refine lv_astore (lv' := [(4, .ref q9), (0, .ref (q 0)), (1, .int v), (2, .int t), (3, .ref o)]) hx hb dL_extend_13 hl (by decide) rfl (fun ls hl => ?_)
      refine lv_iconst (v := 1) hx hb dL_extend_15 (by decide) ?_
      exact hret _ _ _ _ _ _ _ (show wrP G (rfF (exF N Z v t)) (cmI (rfF (exF N Z v t))) ((wMain T q a N (vExt Z (tn v) t) (svB sc b) (psh sc M N) (psh sc Y Z) (svC sc) tx L cu er le nb nc) ++ [(o, eL T (Int32.toInt64 (vExt Z (tn v) t 2 (tn v))))]) ((wMain T q a N Z b M Y sc tx L cu er le nb nc) ++ [(o, eL T fo)]) (some (Value.int 1)) H from Or.inr ⟨by rw [hf9]; decide, by rw [hf9]; rfl, hP⟩) hS (Nat.le_of_ble_eq_true rfl) (Nat.le_of_ble_eq_true rfl) dL_extend_16
    · refine vx_catch hown [⟨0, 10, 13, 25⟩] ⟨0, 10, 17, 13⟩ [⟨0, 10, 21, 15⟩] htab (fun z hz => by
        rcases List.mem_singleton.mp hz with rfl
        exact Or.inr ⟨by decide, eI, kC25, hnc.2.2.2.2.1⟩) (by decide) (by decide) kC13 (va_Nw.use rfl hth.1.2.2.2.2.1) hq9 hv9 hc9 ?_
      refine W.eq (g2 := F0 m 17 ls [.ref q9]) rfl ?_
      refine lv_astore (lv' := [(4, .ref q9), (0, .ref (q 0)), (1, .int v), (2, .int t), (3, .ref o)]) hx hb dL_extend_17 hl (by decide) rfl (fun ls hl => ?_)
      refine lv_iconst (v := 2) hx hb dL_extend_19 (by decide) ?_
      exact hret _ _ _ _ _ _ _ (show wrP G (rfF (exF N Z v t)) (cmI (rfF (exF N Z v t))) ((wMain T q a N (vExt Z (tn v) t) (svB sc b) (psh sc M N) (psh sc Y Z) (svC sc) tx L cu er le nb nc) ++ [(o, eL T (Int32.toInt64 (vExt Z (tn v) t 2 (tn v))))]) ((wMain T q a N Z b M Y sc tx L cu er le nb nc) ++ [(o, eL T fo)]) (some (Value.int 2)) H from Or.inr ⟨by rw [hf9]; decide, by rw [hf9]; rfl, hP⟩) hS (Nat.le_of_ble_eq_true rfl) (Nat.le_of_ble_eq_true rfl) dL_extend_20
    · refine vx_catch hown [⟨0, 10, 13, 25⟩, ⟨0, 10, 17, 13⟩] ⟨0, 10, 21, 15⟩ [] htab (fun z hz => by
        rcases List.mem_cons.mp hz with rfl | hz2
        · exact Or.inr ⟨by decide, eI, kC25, hnc.2.2.2.2.2⟩
        · rcases List.mem_singleton.mp hz2 with rfl
          exact Or.inr ⟨by decide, eA, kC13, hnc.1⟩) (by decide) (by decide) kC15 (va_Nw.use rfl hth.1.2.2.2.2.2) hq9 hv9 hc9 ?_
      refine W.eq (g2 := F0 m 21 ls [.ref q9]) rfl ?_
      refine lv_astore (lv' := [(4, .ref q9), (0, .ref (q 0)), (1, .int v), (2, .int t), (3, .ref o)]) hx hb dL_extend_21 hl (by decide) rfl (fun ls hl => ?_)
      refine lv_iconst (v := 3) hx hb dL_extend_23 (by decide) ?_
      exact hret _ _ _ _ _ _ _ (show wrP G (rfF (exF N Z v t)) (cmI (rfF (exF N Z v t))) ((wMain T q a N (vExt Z (tn v) t) (svB sc b) (psh sc M N) (psh sc Y Z) (svC sc) tx L cu er le nb nc) ++ [(o, eL T (Int32.toInt64 (vExt Z (tn v) t 2 (tn v))))]) ((wMain T q a N Z b M Y sc tx L cu er le nb nc) ++ [(o, eL T fo)]) (some (Value.int 3)) H from Or.inr ⟨by rw [hf9]; decide, by rw [hf9]; rfl, hP⟩) hS (Nat.le_of_ble_eq_true rfl) (Nat.le_of_ble_eq_true rfl) dL_extend_24
  · obtain ⟨hF0, rfl, hPc⟩ := hp9
    obtain ⟨hP, hD⟩ := fr_hd hP hD hk1 hPc sv_addr
    have hP : va_P G vwCl ((wMain T q a N (vExt Z (tn v) t) (svB sc b) (psh sc M N) (psh sc Y Z) (svC sc) tx L cu er le nb nc) ++ [(o, eL T fo)]) H := hP
    have hD : va_D A ((wMain T q a N (vExt Z (tn v) t) (svB sc b) (psh sc M N) (psh sc Y Z) (svC sc) tx L cu er le nb nc) ++ [(o, eL T fo)]) := hD
    refine W.eq (g2 := F0 m 8 ls [.int (vExt Z (tn v) t 2 (tn v)), .int 0, .ref o]) rfl ?_
    refine lv_i2l hx hb dL_extend_8 rfl ?_
    refine lst0 hx hb hkx hP hD hS 100 rfl dL_extend_9 (fun H locs hP hD hS => ?_)
    have hP : va_P G vwCl ((wMain T q a N (vExt Z (tn v) t) (svB sc b) (psh sc M N) (psh sc Y Z) (svC sc) tx L cu er le nb nc) ++ [(o, eL T (Int32.toInt64 (vExt Z (tn v) t 2 (tn v))))]) H := hP
    have hD : va_D A ((wMain T q a N (vExt Z (tn v) t) (svB sc b) (psh sc M N) (psh sc Y Z) (svC sc) tx L cu er le nb nc) ++ [(o, eL T (Int32.toInt64 (vExt Z (tn v) t 2 (tn v))))]) := hD
    refine lv_goto (tgt := 25) hx hb dL_extend_10 (by decide) ?_
    refine lv_iconst (v := 0) hx hb dL_extend_25 (by decide) ?_
    exact hret _ _ _ _ _ _ _ (show wrP G (rfF (exF N Z v t)) (cmI (rfF (exF N Z v t))) ((wMain T q a N (vExt Z (tn v) t) (svB sc b) (psh sc M N) (psh sc Y Z) (svC sc) tx L cu er le nb nc) ++ [(o, eL T (Int32.toInt64 (vExt Z (tn v) t 2 (tn v))))]) ((wMain T q a N Z b M Y sc tx L cu er le nb nc) ++ [(o, eL T fo)]) (some (Value.int 0)) H from Or.inl ⟨hF0, rfl, hP⟩) hS (Nat.le_of_ble_eq_true rfl) (Nat.le_of_ble_eq_true rfl) dL_extend_26

theorem idL_addShim : yL_addShim.cls ≠ "java/lang/invoke/MethodHandle" ∧ yL_addShim.cls ≠ "java/lang/invoke/VarHandle" ∧ (parseMethodDescriptor yL_addShim.desc).map (fun d => d.parameters.length) = some 7 := by decide +kernel

set_option maxHeartbeats 4000000 in
set_option maxRecDepth 100000 in
theorem mL_addShim (l : Launch) (hl0 : l.stackTraces = false) {G : va_G} {T : Nat → ClassId} {sa : Nat → Nat} {A9 : Nat → Prop} {H0 : Heap} {q : Nat → Nat} {a : Nat → Nat} {N : Nat → Nat} {Z : Nat → Nat → Int32} {b : Nat → Nat → Nat} {M : Nat → Nat → Nat} {Y : Nat → Nat → Nat → Int32} {sc : Nat} {tx : Nat → Int32} {L : Nat} {cu : Nat} {er : Int32} {le : Int32} {nb : Nat → Int32} {nc : Nat} {f : Int32} {v : Int32} {x : Int32} {z : Int32} {y : Int32} {o : Nat} {fo : Int64} (hP : va_P G vwCl ((wMain T q a N Z b M Y sc tx L cu er le nb nc) ++ [(o, eL T fo)]) H0) (hD : va_D (fun _ => True) ((wMain T q a N Z b M Y sc tx L cu er le nb nc) ++ [(o, eL T fo)])) (h9 : ∀ q, H0.size ≤ q → A9 q) (hwf : wf N Z) (hsc : sc ≤ 4) : lwr l yL_addShim wsL_addShim 8 147 1 [.ref (q 0), .int f, .int v, .int x, .int z, .int y, .ref o] G T sa A9 H0 ((wMain T q a N Z b M Y sc tx L cu er le nb nc) ++ [(o, eL T fo)]) (wrP G (rfF (shF N f v x z y)) (cmI (rfF (shF N f v x z y))) ((wMain T q a (va_up N 3 (N 3 + 1)) (sAdd N Z f v x z y) (svB sc b) (psh sc M N) (psh sc Y Z) (svC sc) tx L cu er le nb nc) ++ [(o, eL T (Int32.toInt64 (nI (N 3))))]) ((wMain T q a N Z b M Y sc tx L cu er le nb nc) ++ [(o, eL T fo)])) := by
  refine lwr_of (cc := cL_addShim) (maxL := 8) (hh := [(0, 16, 19, 25), (0, 16, 23, 13), (0, 16, 27, 15)]) (own := RL) (by decide +kernel) rfl rfl (Nat.le_of_ble_eq_true rfl) h9 hD ?_
  intro p e s m below meth c Q ls A S hkx hth hnc htab hl hD hS hA hret
  obtain ⟨hx, hb, hml, hown, hts⟩ := id S
  have hl : lv_has ls 8 [(0, .ref (q 0)), (1, .int f), (2, .int v), (3, .int x), (4, .int z), (5, .int y), (6, .ref o)] := hl
  have kC25 := hts (.classLink RL 25 eI) (by decide +kernel)
  have kC13 := hts (.classLink RL 13 eA) (by decide +kernel)
  have kC15 := hts (.classLink RL 15 eS) (by decide +kernel)
  refine lv_aload hx hb dL_addShim_0 (lv_at hl 6 rfl) ?_
  refine lv_iconst (v := 0) hx hb dL_addShim_2 (by decide) ?_
  refine lv_aload_n hx hb dL_addShim_3 rfl (lv_at hl 0 rfl) ?_
  refine lv_iload_n hx hb dL_addShim_4 rfl (lv_at hl 1 rfl) ?_
  refine lv_iload_n hx hb dL_addShim_5 rfl (lv_at hl 2 rfl) ?_
  refine lv_iload_n hx hb dL_addShim_6 rfl (lv_at hl 3 rfl) ?_
  refine lv_iload hx hb dL_addShim_7 (lv_at hl 4 rfl) ?_
  refine lv_iload hx hb dL_addShim_9 (lv_at hl 5 rfl) ?_
  refine tx_V S hkx hth (mX5_addShim l hl0 (sa := sa) (q := q) (a := a) (N := N) (Z := Z) (b := b) (M := M) (Y := Y) (sc := sc) (tx := tx) (L := L) (cu := cu) (er := er) (le := le) (nb := nb) (nc := nc) (f := f) (v := v) (x := x) (z := z) (y := y) (hP := P_hd hP) (hD := (D_hd hD).weaken (fun _ _ _ _ => trivial)) (h9 := fun _ h => h) (hwf := hwf) (hsc := hsc)) gL_addShim_X5_addShim rfl idX5_addShim ⟨Nat.le_of_ble_eq_true rfl, Nat.le_of_ble_eq_true rfl⟩ hP 0 rfl rfl rfl rfl hl.1 rfl (Nat.le_of_ble_eq_true rfl) dL_addShim_11 ⟨Nat.le_of_ble_eq_true rfl, Nat.le_of_ble_eq_true rfl⟩ hS (fr_in (D_hd hD) hA) (fun E ce q9 H locs hpx hq9 hv9 hc9 hz9 hk9 hS => ?_) (fun v H locs hp9 hz1 hk1 hS => ?_)
  · have hP : va_P G vwCl ((wMain T q a N Z b M Y sc tx L cu er le nb nc) ++ [(o, eL T fo)]) H := P_old hP hk9
    rcases hpx with ⟨hf9, rfl⟩ | ⟨hf9, rfl⟩ | ⟨hf9, rfl⟩
    · refine vx_catch hown [] ⟨0, 16, 19, 25⟩ [⟨0, 16, 23, 13⟩, ⟨0, 16, 27, 15⟩] htab (fun z hz => by cases hz) (by decide) (by decide) kC25 (va_Nw.use rfl hth.1.2.2.2.1) hq9 hv9 hc9 ?_
      refine W.eq (g2 := F0 m 19 ls [.ref q9]) rfl ?_
      refine lv_astore (lv' := [(7, .ref q9), (0, .ref (q 0)), (1, .int f), (2, .int v), (3, .int x), (4, .int z), (5, .int y), (6, .ref o)]) hx hb dL_addShim_19 hl (by decide) rfl (fun ls hl => ?_)
      refine lv_iconst (v := 1) hx hb dL_addShim_21 (by decide) ?_
      exact hret _ _ _ _ _ _ _ (show wrP G (rfF (shF N f v x z y)) (cmI (rfF (shF N f v x z y))) ((wMain T q a (va_up N 3 (N 3 + 1)) (sAdd N Z f v x z y) (svB sc b) (psh sc M N) (psh sc Y Z) (svC sc) tx L cu er le nb nc) ++ [(o, eL T (Int32.toInt64 (nI (N 3))))]) ((wMain T q a N Z b M Y sc tx L cu er le nb nc) ++ [(o, eL T fo)]) (some (Value.int 1)) H from Or.inr ⟨by rw [hf9]; decide, by rw [hf9]; rfl, hP⟩) hS (Nat.le_of_ble_eq_true rfl) (Nat.le_of_ble_eq_true rfl) dL_addShim_22
    · refine vx_catch hown [⟨0, 16, 19, 25⟩] ⟨0, 16, 23, 13⟩ [⟨0, 16, 27, 15⟩] htab (fun z hz => by
        rcases List.mem_singleton.mp hz with rfl
        exact Or.inr ⟨by decide, eI, kC25, hnc.2.2.2.2.1⟩) (by decide) (by decide) kC13 (va_Nw.use rfl hth.1.2.2.2.2.1) hq9 hv9 hc9 ?_
      refine W.eq (g2 := F0 m 23 ls [.ref q9]) rfl ?_
      refine lv_astore (lv' := [(7, .ref q9), (0, .ref (q 0)), (1, .int f), (2, .int v), (3, .int x), (4, .int z), (5, .int y), (6, .ref o)]) hx hb dL_addShim_23 hl (by decide) rfl (fun ls hl => ?_)
      refine lv_iconst (v := 2) hx hb dL_addShim_25 (by decide) ?_
      exact hret _ _ _ _ _ _ _ (show wrP G (rfF (shF N f v x z y)) (cmI (rfF (shF N f v x z y))) ((wMain T q a (va_up N 3 (N 3 + 1)) (sAdd N Z f v x z y) (svB sc b) (psh sc M N) (psh sc Y Z) (svC sc) tx L cu er le nb nc) ++ [(o, eL T (Int32.toInt64 (nI (N 3))))]) ((wMain T q a N Z b M Y sc tx L cu er le nb nc) ++ [(o, eL T fo)]) (some (Value.int 2)) H from Or.inr ⟨by rw [hf9]; decide, by rw [hf9]; rfl, hP⟩) hS (Nat.le_of_ble_eq_true rfl) (Nat.le_of_ble_eq_true rfl) dL_addShim_26
    · refine vx_catch hown [⟨0, 16, 19, 25⟩, ⟨0, 16, 23, 13⟩] ⟨0, 16, 27, 15⟩ [] htab (fun z hz => by
        rcases List.mem_cons.mp hz with rfl | hz2
        · exact Or.inr ⟨by decide, eI, kC25, hnc.2.2.2.2.2⟩
        · rcases List.mem_singleton.mp hz2 with rfl
          exact Or.inr ⟨by decide, eA, kC13, hnc.1⟩) (by decide) (by decide) kC15 (va_Nw.use rfl hth.1.2.2.2.2.2) hq9 hv9 hc9 ?_
      refine W.eq (g2 := F0 m 27 ls [.ref q9]) rfl ?_
      refine lv_astore (lv' := [(7, .ref q9), (0, .ref (q 0)), (1, .int f), (2, .int v), (3, .int x), (4, .int z), (5, .int y), (6, .ref o)]) hx hb dL_addShim_27 hl (by decide) rfl (fun ls hl => ?_)
      refine lv_iconst (v := 3) hx hb dL_addShim_29 (by decide) ?_
      exact hret _ _ _ _ _ _ _ (show wrP G (rfF (shF N f v x z y)) (cmI (rfF (shF N f v x z y))) ((wMain T q a (va_up N 3 (N 3 + 1)) (sAdd N Z f v x z y) (svB sc b) (psh sc M N) (psh sc Y Z) (svC sc) tx L cu er le nb nc) ++ [(o, eL T (Int32.toInt64 (nI (N 3))))]) ((wMain T q a N Z b M Y sc tx L cu er le nb nc) ++ [(o, eL T fo)]) (some (Value.int 3)) H from Or.inr ⟨by rw [hf9]; decide, by rw [hf9]; rfl, hP⟩) hS (Nat.le_of_ble_eq_true rfl) (Nat.le_of_ble_eq_true rfl) dL_addShim_30
  · obtain ⟨hF0, rfl, hPc⟩ := hp9
    obtain ⟨hP, hD⟩ := fr_hd hP hD hk1 hPc sv_addr
    have hP : va_P G vwCl ((wMain T q a (va_up N 3 (N 3 + 1)) (sAdd N Z f v x z y) (svB sc b) (psh sc M N) (psh sc Y Z) (svC sc) tx L cu er le nb nc) ++ [(o, eL T fo)]) H := hP
    have hD : va_D A ((wMain T q a (va_up N 3 (N 3 + 1)) (sAdd N Z f v x z y) (svB sc b) (psh sc M N) (psh sc Y Z) (svC sc) tx L cu er le nb nc) ++ [(o, eL T fo)]) := hD
    refine W.eq (g2 := F0 m 14 ls [.int (nI (N 3)), .int 0, .ref o]) rfl ?_
    refine lv_i2l hx hb dL_addShim_14 rfl ?_
    refine lst0 hx hb hkx hP hD hS 100 rfl dL_addShim_15 (fun H locs hP hD hS => ?_)
    have hP : va_P G vwCl ((wMain T q a (va_up N 3 (N 3 + 1)) (sAdd N Z f v x z y) (svB sc b) (psh sc M N) (psh sc Y Z) (svC sc) tx L cu er le nb nc) ++ [(o, eL T (Int32.toInt64 (nI (N 3))))]) H := hP
    have hD : va_D A ((wMain T q a (va_up N 3 (N 3 + 1)) (sAdd N Z f v x z y) (svB sc b) (psh sc M N) (psh sc Y Z) (svC sc) tx L cu er le nb nc) ++ [(o, eL T (Int32.toInt64 (nI (N 3))))]) := hD
    refine lv_goto (tgt := 31) hx hb dL_addShim_16 (by decide) ?_
    refine lv_iconst (v := 0) hx hb dL_addShim_31 (by decide) ?_
    exact hret _ _ _ _ _ _ _ (show wrP G (rfF (shF N f v x z y)) (cmI (rfF (shF N f v x z y))) ((wMain T q a (va_up N 3 (N 3 + 1)) (sAdd N Z f v x z y) (svB sc b) (psh sc M N) (psh sc Y Z) (svC sc) tx L cu er le nb nc) ++ [(o, eL T (Int32.toInt64 (nI (N 3))))]) ((wMain T q a N Z b M Y sc tx L cu er le nb nc) ++ [(o, eL T fo)]) (some (Value.int 0)) H from Or.inl ⟨hF0, rfl, hP⟩) hS (Nat.le_of_ble_eq_true rfl) (Nat.le_of_ble_eq_true rfl) dL_addShim_32

theorem idL_dropShim : yL_dropShim.cls ≠ "java/lang/invoke/MethodHandle" ∧ yL_dropShim.cls ≠ "java/lang/invoke/VarHandle" ∧ (parseMethodDescriptor yL_dropShim.desc).map (fun d => d.parameters.length) = some 3 := by decide +kernel

set_option maxHeartbeats 4000000 in
set_option maxRecDepth 100000 in
theorem mL_dropShim (l : Launch) (hl0 : l.stackTraces = false) {G : va_G} {T : Nat → ClassId} {sa : Nat → Nat} {A9 : Nat → Prop} {H0 : Heap} {q : Nat → Nat} {a : Nat → Nat} {N : Nat → Nat} {Z : Nat → Nat → Int32} {b : Nat → Nat → Nat} {M : Nat → Nat → Nat} {Y : Nat → Nat → Nat → Int32} {sc : Nat} {tx : Nat → Int32} {L : Nat} {cu : Nat} {er : Int32} {le : Int32} {nb : Nat → Int32} {nc : Nat} {t : Int32} {o : Nat} {fo : Int64} (hP : va_P G vwCl ((wMain T q a N Z b M Y sc tx L cu er le nb nc) ++ [(o, eL T fo)]) H0) (hD : va_D (fun _ => True) ((wMain T q a N Z b M Y sc tx L cu er le nb nc) ++ [(o, eL T fo)])) (h9 : ∀ q, H0.size ≤ q → A9 q) (hwf : wf N Z) (hsc : sc ≤ 4) : lwr l yL_dropShim wsL_dropShim 8 143 1 [.ref (q 0), .int t, .ref o] G T sa A9 H0 ((wMain T q a N Z b M Y sc tx L cu er le nb nc) ++ [(o, eL T fo)]) (wrP G (rfF (drF N t)) (cmI (rfF (drF N t))) ((wMain T q a (va_up N 3 (N 3 - 1)) (sDel Z (tn t) (N 3 - 1)) (svB sc b) (psh sc M N) (psh sc Y Z) (svC sc) tx L cu er le nb nc) ++ [(o, eL T (Int32.toInt64 (nI (N 3 - 1))))]) ((wMain T q a N Z b M Y sc tx L cu er le nb nc) ++ [(o, eL T fo)])) := by
  refine lwr_of (cc := cL_dropShim) (maxL := 4) (hh := [(0, 9, 12, 25)]) (own := RL) (by decide +kernel) rfl rfl (Nat.le_of_ble_eq_true rfl) h9 hD ?_
  intro p e s m below meth c Q ls A S hkx hth hnc htab hl hD hS hA hret
  obtain ⟨hx, hb, hml, hown, hts⟩ := id S
  have hl : lv_has ls 4 [(0, .ref (q 0)), (1, .int t), (2, .ref o)] := hl
  have kC25 := hts (.classLink RL 25 eI) (by decide +kernel)
  refine lv_aload_n hx hb dL_dropShim_0 rfl (lv_at hl 2 rfl) ?_
  refine lv_iconst (v := 0) hx hb dL_dropShim_1 (by decide) ?_
  refine lv_aload_n hx hb dL_dropShim_2 rfl (lv_at hl 0 rfl) ?_
  refine lv_iload_n hx hb dL_dropShim_3 rfl (lv_at hl 1 rfl) ?_
  refine tx_V S hkx hth (mX5_dropShim l hl0 (sa := sa) (q := q) (a := a) (N := N) (Z := Z) (b := b) (M := M) (Y := Y) (sc := sc) (tx := tx) (L := L) (cu := cu) (er := er) (le := le) (nb := nb) (nc := nc) (t := t) (hP := P_hd hP) (hD := (D_hd hD).weaken (fun _ _ _ _ => trivial)) (h9 := fun _ h => h) (hwf := hwf) (hsc := hsc)) gL_dropShim_X5_dropShim rfl idX5_dropShim ⟨Nat.le_of_ble_eq_true rfl, Nat.le_of_ble_eq_true rfl⟩ hP 0 rfl rfl rfl rfl hl.1 rfl (Nat.le_of_ble_eq_true rfl) dL_dropShim_4 ⟨Nat.le_of_ble_eq_true rfl, Nat.le_of_ble_eq_true rfl⟩ hS (fr_in (D_hd hD) hA) (fun E ce q9 H locs hpx hq9 hv9 hc9 hz9 hk9 hS => ?_) (fun v H locs hp9 hz1 hk1 hS => ?_)
  · have hP : va_P G vwCl ((wMain T q a N Z b M Y sc tx L cu er le nb nc) ++ [(o, eL T fo)]) H := P_old hP hk9
    rcases hpx with ⟨hf9, rfl⟩ | ⟨hf9, rfl⟩ | ⟨hf9, rfl⟩
    · refine vx_catch hown [] ⟨0, 9, 12, 25⟩ [] htab (fun z hz => by cases hz) (by decide) (by decide) kC25 (va_Nw.use rfl hth.1.2.2.2.1) hq9 hv9 hc9 ?_
      refine W.eq (g2 := F0 m 12 ls [.ref q9]) rfl ?_
      refine lv_astore_n (lv' := [(3, .ref q9), (0, .ref (q 0)), (1, .int t), (2, .ref o)]) hx hb dL_dropShim_12 rfl hl (by decide) rfl (fun ls hl => ?_)
      refine lv_iconst (v := 1) hx hb dL_dropShim_13 (by decide) ?_
      exact hret _ _ _ _ _ _ _ (show wrP G (rfF (drF N t)) (cmI (rfF (drF N t))) ((wMain T q a (va_up N 3 (N 3 - 1)) (sDel Z (tn t) (N 3 - 1)) (svB sc b) (psh sc M N) (psh sc Y Z) (svC sc) tx L cu er le nb nc) ++ [(o, eL T (Int32.toInt64 (nI (N 3 - 1))))]) ((wMain T q a N Z b M Y sc tx L cu er le nb nc) ++ [(o, eL T fo)]) (some (Value.int 1)) H from Or.inr ⟨by rw [hf9]; decide, by rw [hf9]; rfl, hP⟩) hS (Nat.le_of_ble_eq_true rfl) (Nat.le_of_ble_eq_true rfl) dL_dropShim_14
    · exact absurd hf9 (r_dr2 _ _)
    · exact absurd hf9 (r_dr3 _ _)
  · obtain ⟨hF0, rfl, hPc⟩ := hp9
    obtain ⟨hP, hD⟩ := fr_hd hP hD hk1 hPc sv_addr
    have hP : va_P G vwCl ((wMain T q a (va_up N 3 (N 3 - 1)) (sDel Z (tn t) (N 3 - 1)) (svB sc b) (psh sc M N) (psh sc Y Z) (svC sc) tx L cu er le nb nc) ++ [(o, eL T fo)]) H := hP
    have hD : va_D A ((wMain T q a (va_up N 3 (N 3 - 1)) (sDel Z (tn t) (N 3 - 1)) (svB sc b) (psh sc M N) (psh sc Y Z) (svC sc) tx L cu er le nb nc) ++ [(o, eL T fo)]) := hD
    refine W.eq (g2 := F0 m 7 ls [.int (nI (N 3 - 1)), .int 0, .ref o]) rfl ?_
    refine lv_i2l hx hb dL_dropShim_7 rfl ?_
    refine lst0 hx hb hkx hP hD hS 100 rfl dL_dropShim_8 (fun H locs hP hD hS => ?_)
    have hP : va_P G vwCl ((wMain T q a (va_up N 3 (N 3 - 1)) (sDel Z (tn t) (N 3 - 1)) (svB sc b) (psh sc M N) (psh sc Y Z) (svC sc) tx L cu er le nb nc) ++ [(o, eL T (Int32.toInt64 (nI (N 3 - 1))))]) H := hP
    have hD : va_D A ((wMain T q a (va_up N 3 (N 3 - 1)) (sDel Z (tn t) (N 3 - 1)) (svB sc b) (psh sc M N) (psh sc Y Z) (svC sc) tx L cu er le nb nc) ++ [(o, eL T (Int32.toInt64 (nI (N 3 - 1))))]) := hD
    refine lv_goto (tgt := 15) hx hb dL_dropShim_9 (by decide) ?_
    refine lv_iconst (v := 0) hx hb dL_dropShim_15 (by decide) ?_
    exact hret _ _ _ _ _ _ _ (show wrP G (rfF (drF N t)) (cmI (rfF (drF N t))) ((wMain T q a (va_up N 3 (N 3 - 1)) (sDel Z (tn t) (N 3 - 1)) (svB sc b) (psh sc M N) (psh sc Y Z) (svC sc) tx L cu er le nb nc) ++ [(o, eL T (Int32.toInt64 (nI (N 3 - 1))))]) ((wMain T q a N Z b M Y sc tx L cu er le nb nc) ++ [(o, eL T fo)]) (some (Value.int 0)) H from Or.inl ⟨hF0, rfl, hP⟩) hS (Nat.le_of_ble_eq_true rfl) (Nat.le_of_ble_eq_true rfl) dL_dropShim_16

theorem idL_version : yL_version.cls ≠ "java/lang/invoke/MethodHandle" ∧ yL_version.cls ≠ "java/lang/invoke/VarHandle" ∧ (parseMethodDescriptor yL_version.desc).map (fun d => d.parameters.length) = some 4 := by decide +kernel

set_option maxHeartbeats 4000000 in
set_option maxRecDepth 100000 in
theorem mL_version (l : Launch) (hl0 : l.stackTraces = false) {G : va_G} {T : Nat → ClassId} {sa : Nat → Nat} {A9 : Nat → Prop} {H0 : Heap} {q : Nat → Nat} {a : Nat → Nat} {N : Nat → Nat} {Z : Nat → Nat → Int32} {b : Nat → Nat → Nat} {M : Nat → Nat → Nat} {Y : Nat → Nat → Nat → Int32} {sc : Nat} {tx : Nat → Int32} {L : Nat} {cu : Nat} {er : Int32} {le : Int32} {nb : Nat → Int32} {nc : Nat} {v : Int32} {w : Int32} {o : Nat} {fo : Int64} (hP : va_P G vwCl ((wMain T q a N Z b M Y sc tx L cu er le nb nc) ++ [(o, eL T fo)]) H0) (hD : va_D (fun _ => True) ((wMain T q a N Z b M Y sc tx L cu er le nb nc) ++ [(o, eL T fo)])) (h9 : ∀ q, H0.size ≤ q → A9 q) (hwf : wf N Z) : lwr l yL_version wsL_version 8 126 2 [.ref (q 0), .int v, .int w, .ref o] G T sa A9 H0 ((wMain T q a N Z b M Y sc tx L cu er le nb nc) ++ [(o, eL T fo)]) (wrP G (sq (thF v (nI (N 0))) (wiF w 0 4)) (cmI (sq (thF v (nI (N 0))) (wiF w 0 4))) ((wMain T q a N Z b M Y sc tx L cu er le nb nc) ++ [(o, eL T (Int32.toInt64 (ofV N Z (tn v) (tn w))))]) ((wMain T q a N Z b M Y sc tx L cu er le nb nc) ++ [(o, eL T fo)])) := by
  refine lwr_of (cc := cL_version) (maxL := 5) (hh := [(0, 10, 13, 25), (0, 10, 17, 13)]) (own := RL) (by decide +kernel) rfl rfl (Nat.le_of_ble_eq_true rfl) h9 hD ?_
  intro p e s m below meth c Q ls A S hkx hth hnc htab hl hD hS hA hret
  obtain ⟨hx, hb, hml, hown, hts⟩ := id S
  have hl : lv_has ls 5 [(0, .ref (q 0)), (1, .int v), (2, .int w), (3, .ref o)] := hl
  have kC25 := hts (.classLink RL 25 eI) (by decide +kernel)
  have kC13 := hts (.classLink RL 13 eA) (by decide +kernel)
  refine lv_aload_n hx hb dL_version_0 rfl (lv_at hl 3 rfl) ?_
  refine lv_iconst (v := 0) hx hb dL_version_1 (by decide) ?_
  refine lv_aload_n hx hb dL_version_2 rfl (lv_at hl 0 rfl) ?_
  refine lv_iload_n hx hb dL_version_3 rfl (lv_at hl 1 rfl) ?_
  refine lv_iload_n hx hb dL_version_4 rfl (lv_at hl 2 rfl) ?_
  refine rx_V S hkx hth (mX5_version l hl0 (sa := sa) (q := q) (a := a) (N := N) (Z := Z) (b := b) (M := M) (Y := Y) (sc := sc) (tx := tx) (L := L) (cu := cu) (er := er) (le := le) (nb := nb) (nc := nc) (v := v) (w := w) (hP := P_hd hP) (h9 := fun _ h => h) (hwf := hwf)) gL_version_X5_version rfl idX5_version ⟨Nat.le_of_ble_eq_true rfl, Nat.le_of_ble_eq_true rfl⟩ hP 0 rfl rfl rfl rfl hl.1 rfl (Nat.le_of_ble_eq_true rfl) dL_version_5 ⟨Nat.le_of_ble_eq_true rfl, Nat.le_of_ble_eq_true rfl⟩ (fun E ce q9 H hpx hq9 hv9 hc9 hz9 hk9 => ?_) (fun v hp9 => ?_)
  · have hP : va_P G vwCl ((wMain T q a N Z b M Y sc tx L cu er le nb nc) ++ [(o, eL T fo)]) H := P_old hP hk9
    have hS : va_S A H0 H [] := ⟨hz9, fun q h _ => hk9 q h, fun z hz => by cases hz⟩
    rcases hpx with ⟨hf9, rfl⟩ | ⟨hf9, rfl⟩ | ⟨hf9, rfl⟩
    · refine vx_catch hown [] ⟨0, 10, 13, 25⟩ [⟨0, 10, 17, 13⟩] htab (fun z hz => by cases hz) (by decide) (by decide) kC25 (va_Nw.use rfl hth.1.2.2.2.1) hq9 hv9 hc9 ?_
      refine W.eq (g2 := F0 m 13 ls [.ref q9]) rfl ?_
      refine lv_astore (lv' := [(4, .ref q9), (0, .ref (q 0)), (1, .int v), (2, .int w), (3, .ref o)]) hx hb dL_version_13 hl (by decide) rfl (fun ls hl => ?_)
      refine lv_iconst (v := 1) hx hb dL_version_15 (by decide) ?_
      exact hret _ _ _ _ _ _ _ (show wrP G (sq (thF v (nI (N 0))) (wiF w 0 4)) (cmI (sq (thF v (nI (N 0))) (wiF w 0 4))) ((wMain T q a N Z b M Y sc tx L cu er le nb nc) ++ [(o, eL T (Int32.toInt64 (ofV N Z (tn v) (tn w))))]) ((wMain T q a N Z b M Y sc tx L cu er le nb nc) ++ [(o, eL T fo)]) (some (Value.int 1)) H from Or.inr ⟨by rw [hf9]; decide, by rw [hf9]; rfl, hP⟩) hS (Nat.le_of_ble_eq_true rfl) (Nat.le_of_ble_eq_true rfl) dL_version_16
    · refine vx_catch hown [⟨0, 10, 13, 25⟩] ⟨0, 10, 17, 13⟩ [] htab (fun z hz => by
        rcases List.mem_singleton.mp hz with rfl
        exact Or.inr ⟨by decide, eI, kC25, hnc.2.2.2.2.1⟩) (by decide) (by decide) kC13 (va_Nw.use rfl hth.1.2.2.2.2.1) hq9 hv9 hc9 ?_
      refine W.eq (g2 := F0 m 17 ls [.ref q9]) rfl ?_
      refine lv_astore (lv' := [(4, .ref q9), (0, .ref (q 0)), (1, .int v), (2, .int w), (3, .ref o)]) hx hb dL_version_17 hl (by decide) rfl (fun ls hl => ?_)
      refine lv_iconst (v := 2) hx hb dL_version_19 (by decide) ?_
      exact hret _ _ _ _ _ _ _ (show wrP G (sq (thF v (nI (N 0))) (wiF w 0 4)) (cmI (sq (thF v (nI (N 0))) (wiF w 0 4))) ((wMain T q a N Z b M Y sc tx L cu er le nb nc) ++ [(o, eL T (Int32.toInt64 (ofV N Z (tn v) (tn w))))]) ((wMain T q a N Z b M Y sc tx L cu er le nb nc) ++ [(o, eL T fo)]) (some (Value.int 2)) H from Or.inr ⟨by rw [hf9]; decide, by rw [hf9]; rfl, hP⟩) hS (Nat.le_of_ble_eq_true rfl) (Nat.le_of_ble_eq_true rfl) dL_version_20
    · exact absurd hf9 (r_sq (r_th _ _).2 (r_wi _ _ _).2)
  · obtain ⟨hF0, rfl⟩ := hp9
    refine W.eq (g2 := F0 m 8 ls [.int (ofV N Z (tn v) (tn w)), .int 0, .ref o]) rfl ?_
    refine lv_i2l hx hb dL_version_8 rfl ?_
    refine lst0 hx hb hkx hP hD hS 100 rfl dL_version_9 (fun H locs hP hD hS => ?_)
    have hP : va_P G vwCl ((wMain T q a N Z b M Y sc tx L cu er le nb nc) ++ [(o, eL T (Int32.toInt64 (ofV N Z (tn v) (tn w))))]) H := hP
    have hD : va_D A ((wMain T q a N Z b M Y sc tx L cu er le nb nc) ++ [(o, eL T (Int32.toInt64 (ofV N Z (tn v) (tn w))))]) := hD
    refine lv_goto (tgt := 21) hx hb dL_version_10 (by decide) ?_
    refine lv_iconst (v := 0) hx hb dL_version_21 (by decide) ?_
    exact hret _ _ _ _ _ _ _ (show wrP G (sq (thF v (nI (N 0))) (wiF w 0 4)) (cmI (sq (thF v (nI (N 0))) (wiF w 0 4))) ((wMain T q a N Z b M Y sc tx L cu er le nb nc) ++ [(o, eL T (Int32.toInt64 (ofV N Z (tn v) (tn w))))]) ((wMain T q a N Z b M Y sc tx L cu er le nb nc) ++ [(o, eL T fo)]) (some (Value.int 0)) H from Or.inl ⟨hF0, rfl, hP⟩) hS (Nat.le_of_ble_eq_true rfl) (Nat.le_of_ble_eq_true rfl) dL_version_22

theorem idL_user : yL_user.cls ≠ "java/lang/invoke/MethodHandle" ∧ yL_user.cls ≠ "java/lang/invoke/VarHandle" ∧ (parseMethodDescriptor yL_user.desc).map (fun d => d.parameters.length) = some 4 := by decide +kernel

set_option maxHeartbeats 4000000 in
set_option maxRecDepth 100000 in
theorem mL_user (l : Launch) (hl0 : l.stackTraces = false) {G : va_G} {T : Nat → ClassId} {sa : Nat → Nat} {A9 : Nat → Prop} {H0 : Heap} {q : Nat → Nat} {a : Nat → Nat} {N : Nat → Nat} {Z : Nat → Nat → Int32} {b : Nat → Nat → Nat} {M : Nat → Nat → Nat} {Y : Nat → Nat → Nat → Int32} {sc : Nat} {tx : Nat → Int32} {L : Nat} {cu : Nat} {er : Int32} {le : Int32} {nb : Nat → Int32} {nc : Nat} {u : Int32} {w : Int32} {o : Nat} {fo : Int64} (hP : va_P G vwCl ((wMain T q a N Z b M Y sc tx L cu er le nb nc) ++ [(o, eL T fo)]) H0) (hD : va_D (fun _ => True) ((wMain T q a N Z b M Y sc tx L cu er le nb nc) ++ [(o, eL T fo)])) (h9 : ∀ q, H0.size ≤ q → A9 q) (hwf : wf N Z) : lwr l yL_user wsL_user 8 126 2 [.ref (q 0), .int u, .int w, .ref o] G T sa A9 H0 ((wMain T q a N Z b M Y sc tx L cu er le nb nc) ++ [(o, eL T fo)]) (wrP G (sq (thF u (nI (N 2))) (wiF w 0 5)) (cmI (sq (thF u (nI (N 2))) (wiF w 0 5))) ((wMain T q a N Z b M Y sc tx L cu er le nb nc) ++ [(o, eL T (Int32.toInt64 (Z (5 + tn w) (tn u))))]) ((wMain T q a N Z b M Y sc tx L cu er le nb nc) ++ [(o, eL T fo)])) := by
  refine lwr_of (cc := cL_user) (maxL := 5) (hh := [(0, 10, 13, 25), (0, 10, 17, 13)]) (own := RL) (by decide +kernel) rfl rfl (Nat.le_of_ble_eq_true rfl) h9 hD ?_
  intro p e s m below meth c Q ls A S hkx hth hnc htab hl hD hS hA hret
  obtain ⟨hx, hb, hml, hown, hts⟩ := id S
  have hl : lv_has ls 5 [(0, .ref (q 0)), (1, .int u), (2, .int w), (3, .ref o)] := hl
  have kC25 := hts (.classLink RL 25 eI) (by decide +kernel)
  have kC13 := hts (.classLink RL 13 eA) (by decide +kernel)
  refine lv_aload_n hx hb dL_user_0 rfl (lv_at hl 3 rfl) ?_
  refine lv_iconst (v := 0) hx hb dL_user_1 (by decide) ?_
  refine lv_aload_n hx hb dL_user_2 rfl (lv_at hl 0 rfl) ?_
  refine lv_iload_n hx hb dL_user_3 rfl (lv_at hl 1 rfl) ?_
  refine lv_iload_n hx hb dL_user_4 rfl (lv_at hl 2 rfl) ?_
  refine rx_V S hkx hth (mX5_user l hl0 (sa := sa) (q := q) (a := a) (N := N) (Z := Z) (b := b) (M := M) (Y := Y) (sc := sc) (tx := tx) (L := L) (cu := cu) (er := er) (le := le) (nb := nb) (nc := nc) (u := u) (w := w) (hP := P_hd hP) (h9 := fun _ h => h) (hwf := hwf)) gL_user_X5_user rfl idX5_user ⟨Nat.le_of_ble_eq_true rfl, Nat.le_of_ble_eq_true rfl⟩ hP 0 rfl rfl rfl rfl hl.1 rfl (Nat.le_of_ble_eq_true rfl) dL_user_5 ⟨Nat.le_of_ble_eq_true rfl, Nat.le_of_ble_eq_true rfl⟩ (fun E ce q9 H hpx hq9 hv9 hc9 hz9 hk9 => ?_) (fun v hp9 => ?_)
  · have hP : va_P G vwCl ((wMain T q a N Z b M Y sc tx L cu er le nb nc) ++ [(o, eL T fo)]) H := P_old hP hk9
    have hS : va_S A H0 H [] := ⟨hz9, fun q h _ => hk9 q h, fun z hz => by cases hz⟩
    rcases hpx with ⟨hf9, rfl⟩ | ⟨hf9, rfl⟩ | ⟨hf9, rfl⟩
    · refine vx_catch hown [] ⟨0, 10, 13, 25⟩ [⟨0, 10, 17, 13⟩] htab (fun z hz => by cases hz) (by decide) (by decide) kC25 (va_Nw.use rfl hth.1.2.2.2.1) hq9 hv9 hc9 ?_
      refine W.eq (g2 := F0 m 13 ls [.ref q9]) rfl ?_
      refine lv_astore (lv' := [(4, .ref q9), (0, .ref (q 0)), (1, .int u), (2, .int w), (3, .ref o)]) hx hb dL_user_13 hl (by decide) rfl (fun ls hl => ?_)
      refine lv_iconst (v := 1) hx hb dL_user_15 (by decide) ?_
      exact hret _ _ _ _ _ _ _ (show wrP G (sq (thF u (nI (N 2))) (wiF w 0 5)) (cmI (sq (thF u (nI (N 2))) (wiF w 0 5))) ((wMain T q a N Z b M Y sc tx L cu er le nb nc) ++ [(o, eL T (Int32.toInt64 (Z (5 + tn w) (tn u))))]) ((wMain T q a N Z b M Y sc tx L cu er le nb nc) ++ [(o, eL T fo)]) (some (Value.int 1)) H from Or.inr ⟨by rw [hf9]; decide, by rw [hf9]; rfl, hP⟩) hS (Nat.le_of_ble_eq_true rfl) (Nat.le_of_ble_eq_true rfl) dL_user_16
    · refine vx_catch hown [⟨0, 10, 13, 25⟩] ⟨0, 10, 17, 13⟩ [] htab (fun z hz => by
        rcases List.mem_singleton.mp hz with rfl
        exact Or.inr ⟨by decide, eI, kC25, hnc.2.2.2.2.1⟩) (by decide) (by decide) kC13 (va_Nw.use rfl hth.1.2.2.2.2.1) hq9 hv9 hc9 ?_
      refine W.eq (g2 := F0 m 17 ls [.ref q9]) rfl ?_
      refine lv_astore (lv' := [(4, .ref q9), (0, .ref (q 0)), (1, .int u), (2, .int w), (3, .ref o)]) hx hb dL_user_17 hl (by decide) rfl (fun ls hl => ?_)
      refine lv_iconst (v := 2) hx hb dL_user_19 (by decide) ?_
      exact hret _ _ _ _ _ _ _ (show wrP G (sq (thF u (nI (N 2))) (wiF w 0 5)) (cmI (sq (thF u (nI (N 2))) (wiF w 0 5))) ((wMain T q a N Z b M Y sc tx L cu er le nb nc) ++ [(o, eL T (Int32.toInt64 (Z (5 + tn w) (tn u))))]) ((wMain T q a N Z b M Y sc tx L cu er le nb nc) ++ [(o, eL T fo)]) (some (Value.int 2)) H from Or.inr ⟨by rw [hf9]; decide, by rw [hf9]; rfl, hP⟩) hS (Nat.le_of_ble_eq_true rfl) (Nat.le_of_ble_eq_true rfl) dL_user_20
    · exact absurd hf9 (r_sq (r_th _ _).2 (r_wi _ _ _).2)
  · obtain ⟨hF0, rfl⟩ := hp9
    refine W.eq (g2 := F0 m 8 ls [.int (Z (5 + tn w) (tn u)), .int 0, .ref o]) rfl ?_
    refine lv_i2l hx hb dL_user_8 rfl ?_
    refine lst0 hx hb hkx hP hD hS 100 rfl dL_user_9 (fun H locs hP hD hS => ?_)
    have hP : va_P G vwCl ((wMain T q a N Z b M Y sc tx L cu er le nb nc) ++ [(o, eL T (Int32.toInt64 (Z (5 + tn w) (tn u))))]) H := hP
    have hD : va_D A ((wMain T q a N Z b M Y sc tx L cu er le nb nc) ++ [(o, eL T (Int32.toInt64 (Z (5 + tn w) (tn u))))]) := hD
    refine lv_goto (tgt := 21) hx hb dL_user_10 (by decide) ?_
    refine lv_iconst (v := 0) hx hb dL_user_21 (by decide) ?_
    exact hret _ _ _ _ _ _ _ (show wrP G (sq (thF u (nI (N 2))) (wiF w 0 5)) (cmI (sq (thF u (nI (N 2))) (wiF w 0 5))) ((wMain T q a N Z b M Y sc tx L cu er le nb nc) ++ [(o, eL T (Int32.toInt64 (Z (5 + tn w) (tn u))))]) ((wMain T q a N Z b M Y sc tx L cu er le nb nc) ++ [(o, eL T fo)]) (some (Value.int 0)) H from Or.inl ⟨hF0, rfl, hP⟩) hS (Nat.le_of_ble_eq_true rfl) (Nat.le_of_ble_eq_true rfl) dL_user_22

theorem idL_shim : yL_shim.cls ≠ "java/lang/invoke/MethodHandle" ∧ yL_shim.cls ≠ "java/lang/invoke/VarHandle" ∧ (parseMethodDescriptor yL_shim.desc).map (fun d => d.parameters.length) = some 4 := by decide +kernel

set_option maxHeartbeats 4000000 in
set_option maxRecDepth 100000 in
theorem mL_shim (l : Launch) (hl0 : l.stackTraces = false) {G : va_G} {T : Nat → ClassId} {sa : Nat → Nat} {A9 : Nat → Prop} {H0 : Heap} {q : Nat → Nat} {a : Nat → Nat} {N : Nat → Nat} {Z : Nat → Nat → Int32} {b : Nat → Nat → Nat} {M : Nat → Nat → Nat} {Y : Nat → Nat → Nat → Int32} {sc : Nat} {tx : Nat → Int32} {L : Nat} {cu : Nat} {er : Int32} {le : Int32} {nb : Nat → Int32} {nc : Nat} {t : Int32} {w : Int32} {o : Nat} {fo : Int64} (hP : va_P G vwCl ((wMain T q a N Z b M Y sc tx L cu er le nb nc) ++ [(o, eL T fo)]) H0) (hD : va_D (fun _ => True) ((wMain T q a N Z b M Y sc tx L cu er le nb nc) ++ [(o, eL T fo)])) (h9 : ∀ q, H0.size ≤ q → A9 q) (hwf : wf N Z) : lwr l yL_shim wsL_shim 8 126 2 [.ref (q 0), .int t, .int w, .ref o] G T sa A9 H0 ((wMain T q a N Z b M Y sc tx L cu er le nb nc) ++ [(o, eL T fo)]) (wrP G (sq (thF t (nI (N 3))) (wiF w 0 4)) (cmI (sq (thF t (nI (N 3))) (wiF w 0 4))) ((wMain T q a N Z b M Y sc tx L cu er le nb nc) ++ [(o, eL T (Int32.toInt64 (Z (11 + tn w) (tn t))))]) ((wMain T q a N Z b M Y sc tx L cu er le nb nc) ++ [(o, eL T fo)])) := by
  refine lwr_of (cc := cL_shim) (maxL := 5) (hh := [(0, 10, 13, 25), (0, 10, 17, 13)]) (own := RL) (by decide +kernel) rfl rfl (Nat.le_of_ble_eq_true rfl) h9 hD ?_
  intro p e s m below meth c Q ls A S hkx hth hnc htab hl hD hS hA hret
  obtain ⟨hx, hb, hml, hown, hts⟩ := id S
  have hl : lv_has ls 5 [(0, .ref (q 0)), (1, .int t), (2, .int w), (3, .ref o)] := hl
  have kC25 := hts (.classLink RL 25 eI) (by decide +kernel)
  have kC13 := hts (.classLink RL 13 eA) (by decide +kernel)
  refine lv_aload_n hx hb dL_shim_0 rfl (lv_at hl 3 rfl) ?_
  refine lv_iconst (v := 0) hx hb dL_shim_1 (by decide) ?_
  refine lv_aload_n hx hb dL_shim_2 rfl (lv_at hl 0 rfl) ?_
  refine lv_iload_n hx hb dL_shim_3 rfl (lv_at hl 1 rfl) ?_
  refine lv_iload_n hx hb dL_shim_4 rfl (lv_at hl 2 rfl) ?_
  refine rx_V S hkx hth (mX5_shim l hl0 (sa := sa) (q := q) (a := a) (N := N) (Z := Z) (b := b) (M := M) (Y := Y) (sc := sc) (tx := tx) (L := L) (cu := cu) (er := er) (le := le) (nb := nb) (nc := nc) (t := t) (w := w) (hP := P_hd hP) (h9 := fun _ h => h) (hwf := hwf)) gL_shim_X5_shim rfl idX5_shim ⟨Nat.le_of_ble_eq_true rfl, Nat.le_of_ble_eq_true rfl⟩ hP 0 rfl rfl rfl rfl hl.1 rfl (Nat.le_of_ble_eq_true rfl) dL_shim_5 ⟨Nat.le_of_ble_eq_true rfl, Nat.le_of_ble_eq_true rfl⟩ (fun E ce q9 H hpx hq9 hv9 hc9 hz9 hk9 => ?_) (fun v hp9 => ?_)
  · have hP : va_P G vwCl ((wMain T q a N Z b M Y sc tx L cu er le nb nc) ++ [(o, eL T fo)]) H := P_old hP hk9
    have hS : va_S A H0 H [] := ⟨hz9, fun q h _ => hk9 q h, fun z hz => by cases hz⟩
    rcases hpx with ⟨hf9, rfl⟩ | ⟨hf9, rfl⟩ | ⟨hf9, rfl⟩
    · refine vx_catch hown [] ⟨0, 10, 13, 25⟩ [⟨0, 10, 17, 13⟩] htab (fun z hz => by cases hz) (by decide) (by decide) kC25 (va_Nw.use rfl hth.1.2.2.2.1) hq9 hv9 hc9 ?_
      refine W.eq (g2 := F0 m 13 ls [.ref q9]) rfl ?_
      refine lv_astore (lv' := [(4, .ref q9), (0, .ref (q 0)), (1, .int t), (2, .int w), (3, .ref o)]) hx hb dL_shim_13 hl (by decide) rfl (fun ls hl => ?_)
      refine lv_iconst (v := 1) hx hb dL_shim_15 (by decide) ?_
      exact hret _ _ _ _ _ _ _ (show wrP G (sq (thF t (nI (N 3))) (wiF w 0 4)) (cmI (sq (thF t (nI (N 3))) (wiF w 0 4))) ((wMain T q a N Z b M Y sc tx L cu er le nb nc) ++ [(o, eL T (Int32.toInt64 (Z (11 + tn w) (tn t))))]) ((wMain T q a N Z b M Y sc tx L cu er le nb nc) ++ [(o, eL T fo)]) (some (Value.int 1)) H from Or.inr ⟨by rw [hf9]; decide, by rw [hf9]; rfl, hP⟩) hS (Nat.le_of_ble_eq_true rfl) (Nat.le_of_ble_eq_true rfl) dL_shim_16
    · refine vx_catch hown [⟨0, 10, 13, 25⟩] ⟨0, 10, 17, 13⟩ [] htab (fun z hz => by
        rcases List.mem_singleton.mp hz with rfl
        exact Or.inr ⟨by decide, eI, kC25, hnc.2.2.2.2.1⟩) (by decide) (by decide) kC13 (va_Nw.use rfl hth.1.2.2.2.2.1) hq9 hv9 hc9 ?_
      refine W.eq (g2 := F0 m 17 ls [.ref q9]) rfl ?_
      refine lv_astore (lv' := [(4, .ref q9), (0, .ref (q 0)), (1, .int t), (2, .int w), (3, .ref o)]) hx hb dL_shim_17 hl (by decide) rfl (fun ls hl => ?_)
      refine lv_iconst (v := 2) hx hb dL_shim_19 (by decide) ?_
      exact hret _ _ _ _ _ _ _ (show wrP G (sq (thF t (nI (N 3))) (wiF w 0 4)) (cmI (sq (thF t (nI (N 3))) (wiF w 0 4))) ((wMain T q a N Z b M Y sc tx L cu er le nb nc) ++ [(o, eL T (Int32.toInt64 (Z (11 + tn w) (tn t))))]) ((wMain T q a N Z b M Y sc tx L cu er le nb nc) ++ [(o, eL T fo)]) (some (Value.int 2)) H from Or.inr ⟨by rw [hf9]; decide, by rw [hf9]; rfl, hP⟩) hS (Nat.le_of_ble_eq_true rfl) (Nat.le_of_ble_eq_true rfl) dL_shim_20
    · exact absurd hf9 (r_sq (r_th _ _).2 (r_wi _ _ _).2)
  · obtain ⟨hF0, rfl⟩ := hp9
    refine W.eq (g2 := F0 m 8 ls [.int (Z (11 + tn w) (tn t)), .int 0, .ref o]) rfl ?_
    refine lv_i2l hx hb dL_shim_8 rfl ?_
    refine lst0 hx hb hkx hP hD hS 100 rfl dL_shim_9 (fun H locs hP hD hS => ?_)
    have hP : va_P G vwCl ((wMain T q a N Z b M Y sc tx L cu er le nb nc) ++ [(o, eL T (Int32.toInt64 (Z (11 + tn w) (tn t))))]) H := hP
    have hD : va_D A ((wMain T q a N Z b M Y sc tx L cu er le nb nc) ++ [(o, eL T (Int32.toInt64 (Z (11 + tn w) (tn t))))]) := hD
    refine lv_goto (tgt := 21) hx hb dL_shim_10 (by decide) ?_
    refine lv_iconst (v := 0) hx hb dL_shim_21 (by decide) ?_
    exact hret _ _ _ _ _ _ _ (show wrP G (sq (thF t (nI (N 3))) (wiF w 0 4)) (cmI (sq (thF t (nI (N 3))) (wiF w 0 4))) ((wMain T q a N Z b M Y sc tx L cu er le nb nc) ++ [(o, eL T (Int32.toInt64 (Z (11 + tn w) (tn t))))]) ((wMain T q a N Z b M Y sc tx L cu er le nb nc) ++ [(o, eL T fo)]) (some (Value.int 0)) H from Or.inl ⟨hF0, rfl, hP⟩) hS (Nat.le_of_ble_eq_true rfl) (Nat.le_of_ble_eq_true rfl) dL_shim_22

theorem idL_versionOn : yL_versionOn.cls ≠ "java/lang/invoke/MethodHandle" ∧ yL_versionOn.cls ≠ "java/lang/invoke/VarHandle" ∧ (parseMethodDescriptor yL_versionOn.desc).map (fun d => d.parameters.length) = some 4 := by decide +kernel

set_option maxHeartbeats 4000000 in
set_option maxRecDepth 100000 in
theorem mL_versionOn (l : Launch) (hl0 : l.stackTraces = false) {G : va_G} {T : Nat → ClassId} {sa : Nat → Nat} {A9 : Nat → Prop} {H0 : Heap} {q : Nat → Nat} {a : Nat → Nat} {N : Nat → Nat} {Z : Nat → Nat → Int32} {b : Nat → Nat → Nat} {M : Nat → Nat → Nat} {Y : Nat → Nat → Nat → Int32} {sc : Nat} {tx : Nat → Int32} {L : Nat} {cu : Nat} {er : Int32} {le : Int32} {nb : Nat → Int32} {nc : Nat} {u : Int32} {d : Int32} {o : Nat} {fo : Int64} (hP : va_P G vwCl ((wMain T q a N Z b M Y sc tx L cu er le nb nc) ++ [(o, eL T fo)]) H0) (hD : va_D (fun _ => True) ((wMain T q a N Z b M Y sc tx L cu er le nb nc) ++ [(o, eL T fo)])) (h9 : ∀ q, H0.size ≤ q → A9 q) (hwf : wf N Z) : lwr l yL_versionOn wsL_versionOn 10 168 2 [.ref (q 0), .int u, .int d, .ref o] G T sa A9 H0 ((wMain T q a N Z b M Y sc tx L cu er le nb nc) ++ [(o, eL T fo)]) (wrP G (sq (thF u (nI (N 2))) (dyF d)) (cmI (sq (thF u (nI (N 2))) (dyF d))) ((wMain T q a N Z b M Y sc tx L cu er le nb nc) ++ [(o, eL T (Int32.toInt64 (nI (onN Z (tn u) d))))]) ((wMain T q a N Z b M Y sc tx L cu er le nb nc) ++ [(o, eL T fo)])) := by
  refine lwr_of (cc := cL_versionOn) (maxL := 5) (hh := [(0, 10, 13, 25), (0, 10, 17, 13)]) (own := RL) (by decide +kernel) rfl rfl (Nat.le_of_ble_eq_true rfl) h9 hD ?_
  intro p e s m below meth c Q ls A S hkx hth hnc htab hl hD hS hA hret
  obtain ⟨hx, hb, hml, hown, hts⟩ := id S
  have hl : lv_has ls 5 [(0, .ref (q 0)), (1, .int u), (2, .int d), (3, .ref o)] := hl
  have kC25 := hts (.classLink RL 25 eI) (by decide +kernel)
  have kC13 := hts (.classLink RL 13 eA) (by decide +kernel)
  refine lv_aload_n hx hb dL_versionOn_0 rfl (lv_at hl 3 rfl) ?_
  refine lv_iconst (v := 0) hx hb dL_versionOn_1 (by decide) ?_
  refine lv_aload_n hx hb dL_versionOn_2 rfl (lv_at hl 0 rfl) ?_
  refine lv_iload_n hx hb dL_versionOn_3 rfl (lv_at hl 1 rfl) ?_
  refine lv_iload_n hx hb dL_versionOn_4 rfl (lv_at hl 2 rfl) ?_
  refine rx_V S hkx hth (mX5_versionOn l hl0 (sa := sa) (q := q) (a := a) (N := N) (Z := Z) (b := b) (M := M) (Y := Y) (sc := sc) (tx := tx) (L := L) (cu := cu) (er := er) (le := le) (nb := nb) (nc := nc) (u := u) (d := d) (hP := P_hd hP) (h9 := fun _ h => h) (hwf := hwf)) gL_versionOn_X5_versionOn rfl idX5_versionOn ⟨Nat.le_of_ble_eq_true rfl, Nat.le_of_ble_eq_true rfl⟩ hP 0 rfl rfl rfl rfl hl.1 rfl (Nat.le_of_ble_eq_true rfl) dL_versionOn_5 ⟨Nat.le_of_ble_eq_true rfl, Nat.le_of_ble_eq_true rfl⟩ (fun E ce q9 H hpx hq9 hv9 hc9 hz9 hk9 => ?_) (fun v hp9 => ?_)
  · have hP : va_P G vwCl ((wMain T q a N Z b M Y sc tx L cu er le nb nc) ++ [(o, eL T fo)]) H := P_old hP hk9
    have hS : va_S A H0 H [] := ⟨hz9, fun q h _ => hk9 q h, fun z hz => by cases hz⟩
    rcases hpx with ⟨hf9, rfl⟩ | ⟨hf9, rfl⟩ | ⟨hf9, rfl⟩
    · refine vx_catch hown [] ⟨0, 10, 13, 25⟩ [⟨0, 10, 17, 13⟩] htab (fun z hz => by cases hz) (by decide) (by decide) kC25 (va_Nw.use rfl hth.1.2.2.2.1) hq9 hv9 hc9 ?_
      refine W.eq (g2 := F0 m 13 ls [.ref q9]) rfl ?_
      refine lv_astore (lv' := [(4, .ref q9), (0, .ref (q 0)), (1, .int u), (2, .int d), (3, .ref o)]) hx hb dL_versionOn_13 hl (by decide) rfl (fun ls hl => ?_)
      refine lv_iconst (v := 1) hx hb dL_versionOn_15 (by decide) ?_
      exact hret _ _ _ _ _ _ _ (show wrP G (sq (thF u (nI (N 2))) (dyF d)) (cmI (sq (thF u (nI (N 2))) (dyF d))) ((wMain T q a N Z b M Y sc tx L cu er le nb nc) ++ [(o, eL T (Int32.toInt64 (nI (onN Z (tn u) d))))]) ((wMain T q a N Z b M Y sc tx L cu er le nb nc) ++ [(o, eL T fo)]) (some (Value.int 1)) H from Or.inr ⟨by rw [hf9]; decide, by rw [hf9]; rfl, hP⟩) hS (Nat.le_of_ble_eq_true rfl) (Nat.le_of_ble_eq_true rfl) dL_versionOn_16
    · refine vx_catch hown [⟨0, 10, 13, 25⟩] ⟨0, 10, 17, 13⟩ [] htab (fun z hz => by
        rcases List.mem_singleton.mp hz with rfl
        exact Or.inr ⟨by decide, eI, kC25, hnc.2.2.2.2.1⟩) (by decide) (by decide) kC13 (va_Nw.use rfl hth.1.2.2.2.2.1) hq9 hv9 hc9 ?_
      refine W.eq (g2 := F0 m 17 ls [.ref q9]) rfl ?_
      refine lv_astore (lv' := [(4, .ref q9), (0, .ref (q 0)), (1, .int u), (2, .int d), (3, .ref o)]) hx hb dL_versionOn_17 hl (by decide) rfl (fun ls hl => ?_)
      refine lv_iconst (v := 2) hx hb dL_versionOn_19 (by decide) ?_
      exact hret _ _ _ _ _ _ _ (show wrP G (sq (thF u (nI (N 2))) (dyF d)) (cmI (sq (thF u (nI (N 2))) (dyF d))) ((wMain T q a N Z b M Y sc tx L cu er le nb nc) ++ [(o, eL T (Int32.toInt64 (nI (onN Z (tn u) d))))]) ((wMain T q a N Z b M Y sc tx L cu er le nb nc) ++ [(o, eL T fo)]) (some (Value.int 2)) H from Or.inr ⟨by rw [hf9]; decide, by rw [hf9]; rfl, hP⟩) hS (Nat.le_of_ble_eq_true rfl) (Nat.le_of_ble_eq_true rfl) dL_versionOn_20
    · exact absurd hf9 (r_sq (r_th _ _).2 (r_wi _ _ _).2)
  · obtain ⟨hF0, rfl⟩ := hp9
    refine W.eq (g2 := F0 m 8 ls [.int (nI (onN Z (tn u) d)), .int 0, .ref o]) rfl ?_
    refine lv_i2l hx hb dL_versionOn_8 rfl ?_
    refine lst0 hx hb hkx hP hD hS 100 rfl dL_versionOn_9 (fun H locs hP hD hS => ?_)
    have hP : va_P G vwCl ((wMain T q a N Z b M Y sc tx L cu er le nb nc) ++ [(o, eL T (Int32.toInt64 (nI (onN Z (tn u) d))))]) H := hP
    have hD : va_D A ((wMain T q a N Z b M Y sc tx L cu er le nb nc) ++ [(o, eL T (Int32.toInt64 (nI (onN Z (tn u) d))))]) := hD
    refine lv_goto (tgt := 21) hx hb dL_versionOn_10 (by decide) ?_
    refine lv_iconst (v := 0) hx hb dL_versionOn_21 (by decide) ?_
    exact hret _ _ _ _ _ _ _ (show wrP G (sq (thF u (nI (N 2))) (dyF d)) (cmI (sq (thF u (nI (N 2))) (dyF d))) ((wMain T q a N Z b M Y sc tx L cu er le nb nc) ++ [(o, eL T (Int32.toInt64 (nI (onN Z (tn u) d))))]) ((wMain T q a N Z b M Y sc tx L cu er le nb nc) ++ [(o, eL T fo)]) (some (Value.int 0)) H from Or.inl ⟨hF0, rfl, hP⟩) hS (Nat.le_of_ble_eq_true rfl) (Nat.le_of_ble_eq_true rfl) dL_versionOn_22

theorem idL_served : yL_served.cls ≠ "java/lang/invoke/MethodHandle" ∧ yL_served.cls ≠ "java/lang/invoke/VarHandle" ∧ (parseMethodDescriptor yL_served.desc).map (fun d => d.parameters.length) = some 5 := by decide +kernel

set_option maxHeartbeats 4000000 in
set_option maxRecDepth 100000 in
theorem mL_served (l : Launch) (hl0 : l.stackTraces = false) {G : va_G} {T : Nat → ClassId} {sa : Nat → Nat} {A9 : Nat → Prop} {H0 : Heap} {q : Nat → Nat} {a : Nat → Nat} {N : Nat → Nat} {Z : Nat → Nat → Int32} {b : Nat → Nat → Nat} {M : Nat → Nat → Nat} {Y : Nat → Nat → Nat → Int32} {sc : Nat} {tx : Nat → Int32} {L : Nat} {cu : Nat} {er : Int32} {le : Int32} {nb : Nat → Int32} {nc : Nat} {u : Int32} {f : Int32} {d : Int32} {o : Nat} {fo : Int64} (hP : va_P G vwCl ((wMain T q a N Z b M Y sc tx L cu er le nb nc) ++ [(o, eL T fo)]) H0) (hD : va_D (fun _ => True) ((wMain T q a N Z b M Y sc tx L cu er le nb nc) ++ [(o, eL T fo)])) (h9 : ∀ q, H0.size ≤ q → A9 q) (hwf : wf N Z) : lwr l yL_served wsL_served 9 147 3 [.ref (q 0), .int u, .int f, .int d, .ref o] G T sa A9 H0 ((wMain T q a N Z b M Y sc tx L cu er le nb nc) ++ [(o, eL T fo)]) (wrP G (sq (thF u (nI (N 2))) (sq (thF f (nI (N 1))) (dyF d))) (cmI (sq (thF u (nI (N 2))) (sq (thF f (nI (N 1))) (dyF d)))) ((wMain T q a N Z b M Y sc tx L cu er le nb nc) ++ [(o, eL T (Int32.toInt64 (hsv N Z (tn u) f d)))]) ((wMain T q a N Z b M Y sc tx L cu er le nb nc) ++ [(o, eL T fo)])) := by
  refine lwr_of (cc := cL_served) (maxL := 6) (hh := [(0, 12, 15, 25), (0, 12, 19, 13)]) (own := RL) (by decide +kernel) rfl rfl (Nat.le_of_ble_eq_true rfl) h9 hD ?_
  intro p e s m below meth c Q ls A S hkx hth hnc htab hl hD hS hA hret
  obtain ⟨hx, hb, hml, hown, hts⟩ := id S
  have hl : lv_has ls 6 [(0, .ref (q 0)), (1, .int u), (2, .int f), (3, .int d), (4, .ref o)] := hl
  have kC25 := hts (.classLink RL 25 eI) (by decide +kernel)
  have kC13 := hts (.classLink RL 13 eA) (by decide +kernel)
  refine lv_aload hx hb dL_served_0 (lv_at hl 4 rfl) ?_
  refine lv_iconst (v := 0) hx hb dL_served_2 (by decide) ?_
  refine lv_aload_n hx hb dL_served_3 rfl (lv_at hl 0 rfl) ?_
  refine lv_iload_n hx hb dL_served_4 rfl (lv_at hl 1 rfl) ?_
  refine lv_iload_n hx hb dL_served_5 rfl (lv_at hl 2 rfl) ?_
  refine lv_iload_n hx hb dL_served_6 rfl (lv_at hl 3 rfl) ?_
  refine rx_V S hkx hth (mX5_served l hl0 (sa := sa) (q := q) (a := a) (N := N) (Z := Z) (b := b) (M := M) (Y := Y) (sc := sc) (tx := tx) (L := L) (cu := cu) (er := er) (le := le) (nb := nb) (nc := nc) (u := u) (f := f) (d := d) (hP := P_hd hP) (h9 := fun _ h => h) (hwf := hwf)) gL_served_X5_served rfl idX5_served ⟨Nat.le_of_ble_eq_true rfl, Nat.le_of_ble_eq_true rfl⟩ hP 0 rfl rfl rfl rfl hl.1 rfl (Nat.le_of_ble_eq_true rfl) dL_served_7 ⟨Nat.le_of_ble_eq_true rfl, Nat.le_of_ble_eq_true rfl⟩ (fun E ce q9 H hpx hq9 hv9 hc9 hz9 hk9 => ?_) (fun v hp9 => ?_)
  · have hP : va_P G vwCl ((wMain T q a N Z b M Y sc tx L cu er le nb nc) ++ [(o, eL T fo)]) H := P_old hP hk9
    have hS : va_S A H0 H [] := ⟨hz9, fun q h _ => hk9 q h, fun z hz => by cases hz⟩
    rcases hpx with ⟨hf9, rfl⟩ | ⟨hf9, rfl⟩ | ⟨hf9, rfl⟩
    · refine vx_catch hown [] ⟨0, 12, 15, 25⟩ [⟨0, 12, 19, 13⟩] htab (fun z hz => by cases hz) (by decide) (by decide) kC25 (va_Nw.use rfl hth.1.2.2.2.1) hq9 hv9 hc9 ?_
      refine W.eq (g2 := F0 m 15 ls [.ref q9]) rfl ?_
      refine lv_astore (lv' := [(5, .ref q9), (0, .ref (q 0)), (1, .int u), (2, .int f), (3, .int d), (4, .ref o)]) hx hb dL_served_15 hl (by decide) rfl (fun ls hl => ?_)
      refine lv_iconst (v := 1) hx hb dL_served_17 (by decide) ?_
      exact hret _ _ _ _ _ _ _ (show wrP G (sq (thF u (nI (N 2))) (sq (thF f (nI (N 1))) (dyF d))) (cmI (sq (thF u (nI (N 2))) (sq (thF f (nI (N 1))) (dyF d)))) ((wMain T q a N Z b M Y sc tx L cu er le nb nc) ++ [(o, eL T (Int32.toInt64 (hsv N Z (tn u) f d)))]) ((wMain T q a N Z b M Y sc tx L cu er le nb nc) ++ [(o, eL T fo)]) (some (Value.int 1)) H from Or.inr ⟨by rw [hf9]; decide, by rw [hf9]; rfl, hP⟩) hS (Nat.le_of_ble_eq_true rfl) (Nat.le_of_ble_eq_true rfl) dL_served_18
    · refine vx_catch hown [⟨0, 12, 15, 25⟩] ⟨0, 12, 19, 13⟩ [] htab (fun z hz => by
        rcases List.mem_singleton.mp hz with rfl
        exact Or.inr ⟨by decide, eI, kC25, hnc.2.2.2.2.1⟩) (by decide) (by decide) kC13 (va_Nw.use rfl hth.1.2.2.2.2.1) hq9 hv9 hc9 ?_
      refine W.eq (g2 := F0 m 19 ls [.ref q9]) rfl ?_
      refine lv_astore (lv' := [(5, .ref q9), (0, .ref (q 0)), (1, .int u), (2, .int f), (3, .int d), (4, .ref o)]) hx hb dL_served_19 hl (by decide) rfl (fun ls hl => ?_)
      refine lv_iconst (v := 2) hx hb dL_served_21 (by decide) ?_
      exact hret _ _ _ _ _ _ _ (show wrP G (sq (thF u (nI (N 2))) (sq (thF f (nI (N 1))) (dyF d))) (cmI (sq (thF u (nI (N 2))) (sq (thF f (nI (N 1))) (dyF d)))) ((wMain T q a N Z b M Y sc tx L cu er le nb nc) ++ [(o, eL T (Int32.toInt64 (hsv N Z (tn u) f d)))]) ((wMain T q a N Z b M Y sc tx L cu er le nb nc) ++ [(o, eL T fo)]) (some (Value.int 2)) H from Or.inr ⟨by rw [hf9]; decide, by rw [hf9]; rfl, hP⟩) hS (Nat.le_of_ble_eq_true rfl) (Nat.le_of_ble_eq_true rfl) dL_served_22
    · exact absurd hf9 (r_sq (r_th _ _).2 (r_sq (r_th _ _).2 (r_wi _ _ _).2))
  · obtain ⟨hF0, rfl⟩ := hp9
    refine W.eq (g2 := F0 m 10 ls [.int (hsv N Z (tn u) f d), .int 0, .ref o]) rfl ?_
    refine lv_i2l hx hb dL_served_10 rfl ?_
    refine lst0 hx hb hkx hP hD hS 100 rfl dL_served_11 (fun H locs hP hD hS => ?_)
    have hP : va_P G vwCl ((wMain T q a N Z b M Y sc tx L cu er le nb nc) ++ [(o, eL T (Int32.toInt64 (hsv N Z (tn u) f d)))]) H := hP
    have hD : va_D A ((wMain T q a N Z b M Y sc tx L cu er le nb nc) ++ [(o, eL T (Int32.toInt64 (hsv N Z (tn u) f d)))]) := hD
    refine lv_goto (tgt := 23) hx hb dL_served_12 (by decide) ?_
    refine lv_iconst (v := 0) hx hb dL_served_23 (by decide) ?_
    exact hret _ _ _ _ _ _ _ (show wrP G (sq (thF u (nI (N 2))) (sq (thF f (nI (N 1))) (dyF d))) (cmI (sq (thF u (nI (N 2))) (sq (thF f (nI (N 1))) (dyF d)))) ((wMain T q a N Z b M Y sc tx L cu er le nb nc) ++ [(o, eL T (Int32.toInt64 (hsv N Z (tn u) f d)))]) ((wMain T q a N Z b M Y sc tx L cu er le nb nc) ++ [(o, eL T fo)]) (some (Value.int 0)) H from Or.inl ⟨hF0, rfl, hP⟩) hS (Nat.le_of_ble_eq_true rfl) (Nat.le_of_ble_eq_true rfl) dL_served_24

theorem idL_missing : yL_missing.cls ≠ "java/lang/invoke/MethodHandle" ∧ yL_missing.cls ≠ "java/lang/invoke/VarHandle" ∧ (parseMethodDescriptor yL_missing.desc).map (fun d => d.parameters.length) = some 4 := by decide +kernel

set_option maxHeartbeats 4000000 in
set_option maxRecDepth 100000 in
theorem mL_missing (l : Launch) (hl0 : l.stackTraces = false) {G : va_G} {T : Nat → ClassId} {sa : Nat → Nat} {A9 : Nat → Prop} {H0 : Heap} {q : Nat → Nat} {a : Nat → Nat} {N : Nat → Nat} {Z : Nat → Nat → Int32} {b : Nat → Nat → Nat} {M : Nat → Nat → Nat} {Y : Nat → Nat → Nat → Int32} {sc : Nat} {tx : Nat → Int32} {L : Nat} {cu : Nat} {er : Int32} {le : Int32} {nb : Nat → Int32} {nc : Nat} {u : Int32} {d : Int32} {o : Nat} {fo : Int64} (hP : va_P G vwCl ((wMain T q a N Z b M Y sc tx L cu er le nb nc) ++ [(o, eL T fo)]) H0) (hD : va_D (fun _ => True) ((wMain T q a N Z b M Y sc tx L cu er le nb nc) ++ [(o, eL T fo)])) (h9 : ∀ q, H0.size ≤ q → A9 q) (hwf : wf N Z) : lwr l yL_missing wsL_missing 10 168 2 [.ref (q 0), .int u, .int d, .ref o] G T sa A9 H0 ((wMain T q a N Z b M Y sc tx L cu er le nb nc) ++ [(o, eL T fo)]) (wrP G (sq (thF u (nI (N 2))) (dyF d)) (cmI (sq (thF u (nI (N 2))) (dyF d))) ((wMain T q a N Z b M Y sc tx L cu er le nb nc) ++ [(o, eL T (Int32.toInt64 (unU N Z (tn u) d)))]) ((wMain T q a N Z b M Y sc tx L cu er le nb nc) ++ [(o, eL T fo)])) := by
  refine lwr_of (cc := cL_missing) (maxL := 5) (hh := [(0, 10, 13, 25), (0, 10, 17, 13)]) (own := RL) (by decide +kernel) rfl rfl (Nat.le_of_ble_eq_true rfl) h9 hD ?_
  intro p e s m below meth c Q ls A S hkx hth hnc htab hl hD hS hA hret
  obtain ⟨hx, hb, hml, hown, hts⟩ := id S
  have hl : lv_has ls 5 [(0, .ref (q 0)), (1, .int u), (2, .int d), (3, .ref o)] := hl
  have kC25 := hts (.classLink RL 25 eI) (by decide +kernel)
  have kC13 := hts (.classLink RL 13 eA) (by decide +kernel)
  refine lv_aload_n hx hb dL_missing_0 rfl (lv_at hl 3 rfl) ?_
  refine lv_iconst (v := 0) hx hb dL_missing_1 (by decide) ?_
  refine lv_aload_n hx hb dL_missing_2 rfl (lv_at hl 0 rfl) ?_
  refine lv_iload_n hx hb dL_missing_3 rfl (lv_at hl 1 rfl) ?_
  refine lv_iload_n hx hb dL_missing_4 rfl (lv_at hl 2 rfl) ?_
  refine rx_V S hkx hth (mX5_missing l hl0 (sa := sa) (q := q) (a := a) (N := N) (Z := Z) (b := b) (M := M) (Y := Y) (sc := sc) (tx := tx) (L := L) (cu := cu) (er := er) (le := le) (nb := nb) (nc := nc) (u := u) (d := d) (hP := P_hd hP) (h9 := fun _ h => h) (hwf := hwf)) gL_missing_X5_missing rfl idX5_missing ⟨Nat.le_of_ble_eq_true rfl, Nat.le_of_ble_eq_true rfl⟩ hP 0 rfl rfl rfl rfl hl.1 rfl (Nat.le_of_ble_eq_true rfl) dL_missing_5 ⟨Nat.le_of_ble_eq_true rfl, Nat.le_of_ble_eq_true rfl⟩ (fun E ce q9 H hpx hq9 hv9 hc9 hz9 hk9 => ?_) (fun v hp9 => ?_)
  · have hP : va_P G vwCl ((wMain T q a N Z b M Y sc tx L cu er le nb nc) ++ [(o, eL T fo)]) H := P_old hP hk9
    have hS : va_S A H0 H [] := ⟨hz9, fun q h _ => hk9 q h, fun z hz => by cases hz⟩
    rcases hpx with ⟨hf9, rfl⟩ | ⟨hf9, rfl⟩ | ⟨hf9, rfl⟩
    · refine vx_catch hown [] ⟨0, 10, 13, 25⟩ [⟨0, 10, 17, 13⟩] htab (fun z hz => by cases hz) (by decide) (by decide) kC25 (va_Nw.use rfl hth.1.2.2.2.1) hq9 hv9 hc9 ?_
      refine W.eq (g2 := F0 m 13 ls [.ref q9]) rfl ?_
      refine lv_astore (lv' := [(4, .ref q9), (0, .ref (q 0)), (1, .int u), (2, .int d), (3, .ref o)]) hx hb dL_missing_13 hl (by decide) rfl (fun ls hl => ?_)
      refine lv_iconst (v := 1) hx hb dL_missing_15 (by decide) ?_
      exact hret _ _ _ _ _ _ _ (show wrP G (sq (thF u (nI (N 2))) (dyF d)) (cmI (sq (thF u (nI (N 2))) (dyF d))) ((wMain T q a N Z b M Y sc tx L cu er le nb nc) ++ [(o, eL T (Int32.toInt64 (unU N Z (tn u) d)))]) ((wMain T q a N Z b M Y sc tx L cu er le nb nc) ++ [(o, eL T fo)]) (some (Value.int 1)) H from Or.inr ⟨by rw [hf9]; decide, by rw [hf9]; rfl, hP⟩) hS (Nat.le_of_ble_eq_true rfl) (Nat.le_of_ble_eq_true rfl) dL_missing_16
    · refine vx_catch hown [⟨0, 10, 13, 25⟩] ⟨0, 10, 17, 13⟩ [] htab (fun z hz => by
        rcases List.mem_singleton.mp hz with rfl
        exact Or.inr ⟨by decide, eI, kC25, hnc.2.2.2.2.1⟩) (by decide) (by decide) kC13 (va_Nw.use rfl hth.1.2.2.2.2.1) hq9 hv9 hc9 ?_
      refine W.eq (g2 := F0 m 17 ls [.ref q9]) rfl ?_
      refine lv_astore (lv' := [(4, .ref q9), (0, .ref (q 0)), (1, .int u), (2, .int d), (3, .ref o)]) hx hb dL_missing_17 hl (by decide) rfl (fun ls hl => ?_)
      refine lv_iconst (v := 2) hx hb dL_missing_19 (by decide) ?_
      exact hret _ _ _ _ _ _ _ (show wrP G (sq (thF u (nI (N 2))) (dyF d)) (cmI (sq (thF u (nI (N 2))) (dyF d))) ((wMain T q a N Z b M Y sc tx L cu er le nb nc) ++ [(o, eL T (Int32.toInt64 (unU N Z (tn u) d)))]) ((wMain T q a N Z b M Y sc tx L cu er le nb nc) ++ [(o, eL T fo)]) (some (Value.int 2)) H from Or.inr ⟨by rw [hf9]; decide, by rw [hf9]; rfl, hP⟩) hS (Nat.le_of_ble_eq_true rfl) (Nat.le_of_ble_eq_true rfl) dL_missing_20
    · exact absurd hf9 (r_sq (r_th _ _).2 (r_wi _ _ _).2)
  · obtain ⟨hF0, rfl⟩ := hp9
    refine W.eq (g2 := F0 m 8 ls [.int (unU N Z (tn u) d), .int 0, .ref o]) rfl ?_
    refine lv_i2l hx hb dL_missing_8 rfl ?_
    refine lst0 hx hb hkx hP hD hS 100 rfl dL_missing_9 (fun H locs hP hD hS => ?_)
    have hP : va_P G vwCl ((wMain T q a N Z b M Y sc tx L cu er le nb nc) ++ [(o, eL T (Int32.toInt64 (unU N Z (tn u) d)))]) H := hP
    have hD : va_D A ((wMain T q a N Z b M Y sc tx L cu er le nb nc) ++ [(o, eL T (Int32.toInt64 (unU N Z (tn u) d)))]) := hD
    refine lv_goto (tgt := 21) hx hb dL_missing_10 (by decide) ?_
    refine lv_iconst (v := 0) hx hb dL_missing_21 (by decide) ?_
    exact hret _ _ _ _ _ _ _ (show wrP G (sq (thF u (nI (N 2))) (dyF d)) (cmI (sq (thF u (nI (N 2))) (dyF d))) ((wMain T q a N Z b M Y sc tx L cu er le nb nc) ++ [(o, eL T (Int32.toInt64 (unU N Z (tn u) d)))]) ((wMain T q a N Z b M Y sc tx L cu er le nb nc) ++ [(o, eL T fo)]) (some (Value.int 0)) H from Or.inl ⟨hF0, rfl, hP⟩) hS (Nat.le_of_ble_eq_true rfl) (Nat.le_of_ble_eq_true rfl) dL_missing_22

theorem idL_stranded : yL_stranded.cls ≠ "java/lang/invoke/MethodHandle" ∧ yL_stranded.cls ≠ "java/lang/invoke/VarHandle" ∧ (parseMethodDescriptor yL_stranded.desc).map (fun d => d.parameters.length) = some 3 := by decide +kernel

set_option maxHeartbeats 4000000 in
set_option maxRecDepth 100000 in
theorem mL_stranded (l : Launch) (hl0 : l.stackTraces = false) {G : va_G} {T : Nat → ClassId} {sa : Nat → Nat} {A9 : Nat → Prop} {H0 : Heap} {q : Nat → Nat} {a : Nat → Nat} {N : Nat → Nat} {Z : Nat → Nat → Int32} {b : Nat → Nat → Nat} {M : Nat → Nat → Nat} {Y : Nat → Nat → Nat → Int32} {sc : Nat} {tx : Nat → Int32} {L : Nat} {cu : Nat} {er : Int32} {le : Int32} {nb : Nat → Int32} {nc : Nat} {d : Int32} {o : Nat} {fo : Int64} (hP : va_P G vwCl ((wMain T q a N Z b M Y sc tx L cu er le nb nc) ++ [(o, eL T fo)]) H0) (hD : va_D (fun _ => True) ((wMain T q a N Z b M Y sc tx L cu er le nb nc) ++ [(o, eL T fo)])) (h9 : ∀ q, H0.size ≤ q → A9 q) (hwf : wf N Z) : lwr l yL_stranded wsL_stranded 9 145 1 [.ref (q 0), .int d, .ref o] G T sa A9 H0 ((wMain T q a N Z b M Y sc tx L cu er le nb nc) ++ [(o, eL T fo)]) (wrP G (dyF d) (cmA (dyF d)) ((wMain T q a N Z b M Y sc tx L cu er le nb nc) ++ [(o, eL T (Int32.toInt64 (stU N Z d (N 2))))]) ((wMain T q a N Z b M Y sc tx L cu er le nb nc) ++ [(o, eL T fo)])) := by
  refine lwr_of (cc := cL_stranded) (maxL := 4) (hh := [(0, 9, 12, 13)]) (own := RL) (by decide +kernel) rfl rfl (Nat.le_of_ble_eq_true rfl) h9 hD ?_
  intro p e s m below meth c Q ls A S hkx hth hnc htab hl hD hS hA hret
  obtain ⟨hx, hb, hml, hown, hts⟩ := id S
  have hl : lv_has ls 4 [(0, .ref (q 0)), (1, .int d), (2, .ref o)] := hl
  have kC13 := hts (.classLink RL 13 eA) (by decide +kernel)
  refine lv_aload_n hx hb dL_stranded_0 rfl (lv_at hl 2 rfl) ?_
  refine lv_iconst (v := 0) hx hb dL_stranded_1 (by decide) ?_
  refine lv_aload_n hx hb dL_stranded_2 rfl (lv_at hl 0 rfl) ?_
  refine lv_iload_n hx hb dL_stranded_3 rfl (lv_at hl 1 rfl) ?_
  refine rx_V S hkx hth (mX5_stranded l hl0 (sa := sa) (q := q) (a := a) (N := N) (Z := Z) (b := b) (M := M) (Y := Y) (sc := sc) (tx := tx) (L := L) (cu := cu) (er := er) (le := le) (nb := nb) (nc := nc) (d := d) (hP := P_hd hP) (h9 := fun _ h => h) (hwf := hwf)) gL_stranded_X5_stranded rfl idX5_stranded ⟨Nat.le_of_ble_eq_true rfl, Nat.le_of_ble_eq_true rfl⟩ hP 0 rfl rfl rfl rfl hl.1 rfl (Nat.le_of_ble_eq_true rfl) dL_stranded_4 ⟨Nat.le_of_ble_eq_true rfl, Nat.le_of_ble_eq_true rfl⟩ (fun E ce q9 H hpx hq9 hv9 hc9 hz9 hk9 => ?_) (fun v hp9 => ?_)
  · have hP : va_P G vwCl ((wMain T q a N Z b M Y sc tx L cu er le nb nc) ++ [(o, eL T fo)]) H := P_old hP hk9
    have hS : va_S A H0 H [] := ⟨hz9, fun q h _ => hk9 q h, fun z hz => by cases hz⟩
    rcases hpx with ⟨hf9, rfl⟩ | ⟨hf9, rfl⟩ | ⟨hf9, rfl⟩
    · exact absurd hf9 (r_wi _ _ _).1
    · refine vx_catch hown [] ⟨0, 9, 12, 13⟩ [] htab (fun z hz => by cases hz) (by decide) (by decide) kC13 (va_Nw.use rfl hth.1.2.2.2.2.1) hq9 hv9 hc9 ?_
      refine W.eq (g2 := F0 m 12 ls [.ref q9]) rfl ?_
      refine lv_astore_n (lv' := [(3, .ref q9), (0, .ref (q 0)), (1, .int d), (2, .ref o)]) hx hb dL_stranded_12 rfl hl (by decide) rfl (fun ls hl => ?_)
      refine lv_iconst (v := 1) hx hb dL_stranded_13 (by decide) ?_
      exact hret _ _ _ _ _ _ _ (show wrP G (dyF d) (cmA (dyF d)) ((wMain T q a N Z b M Y sc tx L cu er le nb nc) ++ [(o, eL T (Int32.toInt64 (stU N Z d (N 2))))]) ((wMain T q a N Z b M Y sc tx L cu er le nb nc) ++ [(o, eL T fo)]) (some (Value.int 1)) H from Or.inr ⟨by rw [hf9]; decide, by rw [hf9]; rfl, hP⟩) hS (Nat.le_of_ble_eq_true rfl) (Nat.le_of_ble_eq_true rfl) dL_stranded_14
    · exact absurd hf9 (r_wi _ _ _).2
  · obtain ⟨hF0, rfl⟩ := hp9
    refine W.eq (g2 := F0 m 7 ls [.int (stU N Z d (N 2)), .int 0, .ref o]) rfl ?_
    refine lv_i2l hx hb dL_stranded_7 rfl ?_
    refine lst0 hx hb hkx hP hD hS 100 rfl dL_stranded_8 (fun H locs hP hD hS => ?_)
    have hP : va_P G vwCl ((wMain T q a N Z b M Y sc tx L cu er le nb nc) ++ [(o, eL T (Int32.toInt64 (stU N Z d (N 2))))]) H := hP
    have hD : va_D A ((wMain T q a N Z b M Y sc tx L cu er le nb nc) ++ [(o, eL T (Int32.toInt64 (stU N Z d (N 2))))]) := hD
    refine lv_goto (tgt := 15) hx hb dL_stranded_9 (by decide) ?_
    refine lv_iconst (v := 0) hx hb dL_stranded_15 (by decide) ?_
    exact hret _ _ _ _ _ _ _ (show wrP G (dyF d) (cmA (dyF d)) ((wMain T q a N Z b M Y sc tx L cu er le nb nc) ++ [(o, eL T (Int32.toInt64 (stU N Z d (N 2))))]) ((wMain T q a N Z b M Y sc tx L cu er le nb nc) ++ [(o, eL T fo)]) (some (Value.int 0)) H from Or.inl ⟨hF0, rfl, hP⟩) hS (Nat.le_of_ble_eq_true rfl) (Nat.le_of_ble_eq_true rfl) dL_stranded_16

theorem idL_costs : yL_costs.cls ≠ "java/lang/invoke/MethodHandle" ∧ yL_costs.cls ≠ "java/lang/invoke/VarHandle" ∧ (parseMethodDescriptor yL_costs.desc).map (fun d => d.parameters.length) = some 4 := by decide +kernel

set_option maxHeartbeats 4000000 in
set_option maxRecDepth 100000 in
theorem mL_costs (l : Launch) (hl0 : l.stackTraces = false) {G : va_G} {T : Nat → ClassId} {sa : Nat → Nat} {A9 : Nat → Prop} {H0 : Heap} {q : Nat → Nat} {a : Nat → Nat} {N : Nat → Nat} {Z : Nat → Nat → Int32} {b : Nat → Nat → Nat} {M : Nat → Nat → Nat} {Y : Nat → Nat → Nat → Int32} {sc : Nat} {tx : Nat → Int32} {L : Nat} {cu : Nat} {er : Int32} {le : Int32} {nb : Nat → Int32} {nc : Nat} {f : Int32} {w : Int32} {o : Nat} {fo : Int64} (hP : va_P G vwCl ((wMain T q a N Z b M Y sc tx L cu er le nb nc) ++ [(o, eL T fo)]) H0) (hD : va_D (fun _ => True) ((wMain T q a N Z b M Y sc tx L cu er le nb nc) ++ [(o, eL T fo)])) (h9 : ∀ q, H0.size ≤ q → A9 q) (hwf : wf N Z) : lwr l yL_costs wsL_costs 10 167 2 [.ref (q 0), .int f, .int w, .ref o] G T sa A9 H0 ((wMain T q a N Z b M Y sc tx L cu er le nb nc) ++ [(o, eL T fo)]) (wrP G (sq (dyF f) (wiF w f 999)) (cmA (sq (dyF f) (wiF w f 999))) ((wMain T q a N Z b M Y sc tx L cu er le nb nc) ++ [(o, eL T (Int32.toInt64 (smD (cAlD N Z) (tn f) (tn w + 1 - tn f))))]) ((wMain T q a N Z b M Y sc tx L cu er le nb nc) ++ [(o, eL T fo)])) := by
  refine lwr_of (cc := cL_costs) (maxL := 5) (hh := [(0, 10, 13, 13)]) (own := RL) (by decide +kernel) rfl rfl (Nat.le_of_ble_eq_true rfl) h9 hD ?_
  intro p e s m below meth c Q ls A S hkx hth hnc htab hl hD hS hA hret
  obtain ⟨hx, hb, hml, hown, hts⟩ := id S
  have hl : lv_has ls 5 [(0, .ref (q 0)), (1, .int f), (2, .int w), (3, .ref o)] := hl
  have kC13 := hts (.classLink RL 13 eA) (by decide +kernel)
  refine lv_aload_n hx hb dL_costs_0 rfl (lv_at hl 3 rfl) ?_
  refine lv_iconst (v := 0) hx hb dL_costs_1 (by decide) ?_
  refine lv_aload_n hx hb dL_costs_2 rfl (lv_at hl 0 rfl) ?_
  refine lv_iload_n hx hb dL_costs_3 rfl (lv_at hl 1 rfl) ?_
  refine lv_iload_n hx hb dL_costs_4 rfl (lv_at hl 2 rfl) ?_
  refine rx_V S hkx hth (mX5_costs l hl0 (sa := sa) (q := q) (a := a) (N := N) (Z := Z) (b := b) (M := M) (Y := Y) (sc := sc) (tx := tx) (L := L) (cu := cu) (er := er) (le := le) (nb := nb) (nc := nc) (f := f) (w := w) (hP := P_hd hP) (h9 := fun _ h => h) (hwf := hwf)) gL_costs_X5_costs rfl idX5_costs ⟨Nat.le_of_ble_eq_true rfl, Nat.le_of_ble_eq_true rfl⟩ hP 0 rfl rfl rfl rfl hl.1 rfl (Nat.le_of_ble_eq_true rfl) dL_costs_5 ⟨Nat.le_of_ble_eq_true rfl, Nat.le_of_ble_eq_true rfl⟩ (fun E ce q9 H hpx hq9 hv9 hc9 hz9 hk9 => ?_) (fun v hp9 => ?_)
  · have hP : va_P G vwCl ((wMain T q a N Z b M Y sc tx L cu er le nb nc) ++ [(o, eL T fo)]) H := P_old hP hk9
    have hS : va_S A H0 H [] := ⟨hz9, fun q h _ => hk9 q h, fun z hz => by cases hz⟩
    rcases hpx with ⟨hf9, rfl⟩ | ⟨hf9, rfl⟩ | ⟨hf9, rfl⟩
    · exact absurd hf9 (r_sq (r_wi _ _ _).1 (r_wi _ _ _).1)
    · refine vx_catch hown [] ⟨0, 10, 13, 13⟩ [] htab (fun z hz => by cases hz) (by decide) (by decide) kC13 (va_Nw.use rfl hth.1.2.2.2.2.1) hq9 hv9 hc9 ?_
      refine W.eq (g2 := F0 m 13 ls [.ref q9]) rfl ?_
      refine lv_astore (lv' := [(4, .ref q9), (0, .ref (q 0)), (1, .int f), (2, .int w), (3, .ref o)]) hx hb dL_costs_13 hl (by decide) rfl (fun ls hl => ?_)
      refine lv_iconst (v := 1) hx hb dL_costs_15 (by decide) ?_
      exact hret _ _ _ _ _ _ _ (show wrP G (sq (dyF f) (wiF w f 999)) (cmA (sq (dyF f) (wiF w f 999))) ((wMain T q a N Z b M Y sc tx L cu er le nb nc) ++ [(o, eL T (Int32.toInt64 (smD (cAlD N Z) (tn f) (tn w + 1 - tn f))))]) ((wMain T q a N Z b M Y sc tx L cu er le nb nc) ++ [(o, eL T fo)]) (some (Value.int 1)) H from Or.inr ⟨by rw [hf9]; decide, by rw [hf9]; rfl, hP⟩) hS (Nat.le_of_ble_eq_true rfl) (Nat.le_of_ble_eq_true rfl) dL_costs_16
    · exact absurd hf9 (r_sq (r_wi _ _ _).2 (r_wi _ _ _).2)
  · obtain ⟨hF0, rfl⟩ := hp9
    refine W.eq (g2 := F0 m 8 ls [.int (smD (cAlD N Z) (tn f) (tn w + 1 - tn f)), .int 0, .ref o]) rfl ?_
    refine lv_i2l hx hb dL_costs_8 rfl ?_
    refine lst0 hx hb hkx hP hD hS 100 rfl dL_costs_9 (fun H locs hP hD hS => ?_)
    have hP : va_P G vwCl ((wMain T q a N Z b M Y sc tx L cu er le nb nc) ++ [(o, eL T (Int32.toInt64 (smD (cAlD N Z) (tn f) (tn w + 1 - tn f))))]) H := hP
    have hD : va_D A ((wMain T q a N Z b M Y sc tx L cu er le nb nc) ++ [(o, eL T (Int32.toInt64 (smD (cAlD N Z) (tn f) (tn w + 1 - tn f))))]) := hD
    refine lv_goto (tgt := 17) hx hb dL_costs_10 (by decide) ?_
    refine lv_iconst (v := 0) hx hb dL_costs_17 (by decide) ?_
    exact hret _ _ _ _ _ _ _ (show wrP G (sq (dyF f) (wiF w f 999)) (cmA (sq (dyF f) (wiF w f 999))) ((wMain T q a N Z b M Y sc tx L cu er le nb nc) ++ [(o, eL T (Int32.toInt64 (smD (cAlD N Z) (tn f) (tn w + 1 - tn f))))]) ((wMain T q a N Z b M Y sc tx L cu er le nb nc) ++ [(o, eL T fo)]) (some (Value.int 0)) H from Or.inl ⟨hF0, rfl, hP⟩) hS (Nat.le_of_ble_eq_true rfl) (Nat.le_of_ble_eq_true rfl) dL_costs_18

theorem idL_value : yL_value.cls ≠ "java/lang/invoke/MethodHandle" ∧ yL_value.cls ≠ "java/lang/invoke/VarHandle" ∧ (parseMethodDescriptor yL_value.desc).map (fun d => d.parameters.length) = some 3 := by decide +kernel

set_option maxHeartbeats 4000000 in
set_option maxRecDepth 100000 in
theorem mL_value (l : Launch) (hl0 : l.stackTraces = false) {G : va_G} {T : Nat → ClassId} {sa : Nat → Nat} {A9 : Nat → Prop} {H0 : Heap} {q : Nat → Nat} {a : Nat → Nat} {N : Nat → Nat} {Z : Nat → Nat → Int32} {b : Nat → Nat → Nat} {M : Nat → Nat → Nat} {Y : Nat → Nat → Nat → Int32} {sc : Nat} {tx : Nat → Int32} {L : Nat} {cu : Nat} {er : Int32} {le : Int32} {nb : Nat → Int32} {nc : Nat} {w : Int32} {o : Nat} {fo : Int64} (hP : va_P G vwCl ((wMain T q a N Z b M Y sc tx L cu er le nb nc) ++ [(o, eL T fo)]) H0) (hD : va_D (fun _ => True) ((wMain T q a N Z b M Y sc tx L cu er le nb nc) ++ [(o, eL T fo)])) (h9 : ∀ q, H0.size ≤ q → A9 q) (hwf : wf N Z) : lwr l yL_value wsL_value 8 180 1 [.ref (q 0), .int w, .ref o] G T sa A9 H0 ((wMain T q a N Z b M Y sc tx L cu er le nb nc) ++ [(o, eL T fo)]) (wrP G (wiF w 0 7) (cmA (wiF w 0 7)) ((wMain T q a N Z b M Y sc tx L cu er le nb nc) ++ [(o, eL T (Int32.toInt64 (nmb N Z (tn w))))]) ((wMain T q a N Z b M Y sc tx L cu er le nb nc) ++ [(o, eL T fo)])) := by
  refine lwr_of (cc := cL_value) (maxL := 4) (hh := [(0, 9, 12, 13)]) (own := RL) (by decide +kernel) rfl rfl (Nat.le_of_ble_eq_true rfl) h9 hD ?_
  intro p e s m below meth c Q ls A S hkx hth hnc htab hl hD hS hA hret
  obtain ⟨hx, hb, hml, hown, hts⟩ := id S
  have hl : lv_has ls 4 [(0, .ref (q 0)), (1, .int w), (2, .ref o)] := hl
  have kC13 := hts (.classLink RL 13 eA) (by decide +kernel)
  refine lv_aload_n hx hb dL_value_0 rfl (lv_at hl 2 rfl) ?_
  refine lv_iconst (v := 0) hx hb dL_value_1 (by decide) ?_
  refine lv_aload_n hx hb dL_value_2 rfl (lv_at hl 0 rfl) ?_
  refine lv_iload_n hx hb dL_value_3 rfl (lv_at hl 1 rfl) ?_
  refine rx_V S hkx hth (mX5_value l hl0 (sa := sa) (q := q) (a := a) (N := N) (Z := Z) (b := b) (M := M) (Y := Y) (sc := sc) (tx := tx) (L := L) (cu := cu) (er := er) (le := le) (nb := nb) (nc := nc) (w := w) (hP := P_hd hP) (h9 := fun _ h => h) (hwf := hwf)) gL_value_X5_value rfl idX5_value ⟨Nat.le_of_ble_eq_true rfl, Nat.le_of_ble_eq_true rfl⟩ hP 0 rfl rfl rfl rfl hl.1 rfl (Nat.le_of_ble_eq_true rfl) dL_value_4 ⟨Nat.le_of_ble_eq_true rfl, Nat.le_of_ble_eq_true rfl⟩ (fun E ce q9 H hpx hq9 hv9 hc9 hz9 hk9 => ?_) (fun v hp9 => ?_)
  · have hP : va_P G vwCl ((wMain T q a N Z b M Y sc tx L cu er le nb nc) ++ [(o, eL T fo)]) H := P_old hP hk9
    have hS : va_S A H0 H [] := ⟨hz9, fun q h _ => hk9 q h, fun z hz => by cases hz⟩
    rcases hpx with ⟨hf9, rfl⟩ | ⟨hf9, rfl⟩ | ⟨hf9, rfl⟩
    · exact absurd hf9 (r_wi _ _ _).1
    · refine vx_catch hown [] ⟨0, 9, 12, 13⟩ [] htab (fun z hz => by cases hz) (by decide) (by decide) kC13 (va_Nw.use rfl hth.1.2.2.2.2.1) hq9 hv9 hc9 ?_
      refine W.eq (g2 := F0 m 12 ls [.ref q9]) rfl ?_
      refine lv_astore_n (lv' := [(3, .ref q9), (0, .ref (q 0)), (1, .int w), (2, .ref o)]) hx hb dL_value_12 rfl hl (by decide) rfl (fun ls hl => ?_)
      refine lv_iconst (v := 1) hx hb dL_value_13 (by decide) ?_
      exact hret _ _ _ _ _ _ _ (show wrP G (wiF w 0 7) (cmA (wiF w 0 7)) ((wMain T q a N Z b M Y sc tx L cu er le nb nc) ++ [(o, eL T (Int32.toInt64 (nmb N Z (tn w))))]) ((wMain T q a N Z b M Y sc tx L cu er le nb nc) ++ [(o, eL T fo)]) (some (Value.int 1)) H from Or.inr ⟨by rw [hf9]; decide, by rw [hf9]; rfl, hP⟩) hS (Nat.le_of_ble_eq_true rfl) (Nat.le_of_ble_eq_true rfl) dL_value_14
    · exact absurd hf9 (r_wi _ _ _).2
  · obtain ⟨hF0, rfl⟩ := hp9
    refine W.eq (g2 := F0 m 7 ls [.int (nmb N Z (tn w)), .int 0, .ref o]) rfl ?_
    refine lv_i2l hx hb dL_value_7 rfl ?_
    refine lst0 hx hb hkx hP hD hS 100 rfl dL_value_8 (fun H locs hP hD hS => ?_)
    have hP : va_P G vwCl ((wMain T q a N Z b M Y sc tx L cu er le nb nc) ++ [(o, eL T (Int32.toInt64 (nmb N Z (tn w))))]) H := hP
    have hD : va_D A ((wMain T q a N Z b M Y sc tx L cu er le nb nc) ++ [(o, eL T (Int32.toInt64 (nmb N Z (tn w))))]) := hD
    refine lv_goto (tgt := 15) hx hb dL_value_9 (by decide) ?_
    refine lv_iconst (v := 0) hx hb dL_value_15 (by decide) ?_
    exact hret _ _ _ _ _ _ _ (show wrP G (wiF w 0 7) (cmA (wiF w 0 7)) ((wMain T q a N Z b M Y sc tx L cu er le nb nc) ++ [(o, eL T (Int32.toInt64 (nmb N Z (tn w))))]) ((wMain T q a N Z b M Y sc tx L cu er le nb nc) ++ [(o, eL T fo)]) (some (Value.int 0)) H from Or.inl ⟨hF0, rfl, hP⟩) hS (Nat.le_of_ble_eq_true rfl) (Nat.le_of_ble_eq_true rfl) dL_value_16

theorem idL_firstStranded : yL_firstStranded.cls ≠ "java/lang/invoke/MethodHandle" ∧ yL_firstStranded.cls ≠ "java/lang/invoke/VarHandle" ∧ (parseMethodDescriptor yL_firstStranded.desc).map (fun d => d.parameters.length) = some 4 := by decide +kernel

set_option maxHeartbeats 4000000 in
set_option maxRecDepth 100000 in
theorem mL_firstStranded (l : Launch) (hl0 : l.stackTraces = false) {G : va_G} {T : Nat → ClassId} {sa : Nat → Nat} {A9 : Nat → Prop} {H0 : Heap} {q : Nat → Nat} {a : Nat → Nat} {N : Nat → Nat} {Z : Nat → Nat → Int32} {b : Nat → Nat → Nat} {M : Nat → Nat → Nat} {Y : Nat → Nat → Nat → Int32} {sc : Nat} {tx : Nat → Int32} {L : Nat} {cu : Nat} {er : Int32} {le : Int32} {nb : Nat → Int32} {nc : Nat} {u : Int32} {d : Int32} {o : Nat} {fo : Int64} (hP : va_P G vwCl ((wMain T q a N Z b M Y sc tx L cu er le nb nc) ++ [(o, eL T fo)]) H0) (hD : va_D (fun _ => True) ((wMain T q a N Z b M Y sc tx L cu er le nb nc) ++ [(o, eL T fo)])) (h9 : ∀ q, H0.size ≤ q → A9 q) (hwf : wf N Z) : lwr l yL_firstStranded wsL_firstStranded 10 168 2 [.ref (q 0), .int u, .int d, .ref o] G T sa A9 H0 ((wMain T q a N Z b M Y sc tx L cu er le nb nc) ++ [(o, eL T fo)]) (wrP G (sq (thF u (nI (N 2))) (dyF d)) (cmI (sq (thF u (nI (N 2))) (dyF d))) ((wMain T q a N Z b M Y sc tx L cu er le nb nc) ++ [(o, eL T (Int32.toInt64 (fstD (uuB N Z (tn u)) (tn d) (1000 - tn d))))]) ((wMain T q a N Z b M Y sc tx L cu er le nb nc) ++ [(o, eL T fo)])) := by
  refine lwr_of (cc := cL_firstStranded) (maxL := 5) (hh := [(0, 10, 13, 25), (0, 10, 17, 13)]) (own := RL) (by decide +kernel) rfl rfl (Nat.le_of_ble_eq_true rfl) h9 hD ?_
  intro p e s m below meth c Q ls A S hkx hth hnc htab hl hD hS hA hret
  obtain ⟨hx, hb, hml, hown, hts⟩ := id S
  have hl : lv_has ls 5 [(0, .ref (q 0)), (1, .int u), (2, .int d), (3, .ref o)] := hl
  have kC25 := hts (.classLink RL 25 eI) (by decide +kernel)
  have kC13 := hts (.classLink RL 13 eA) (by decide +kernel)
  refine lv_aload_n hx hb dL_firstStranded_0 rfl (lv_at hl 3 rfl) ?_
  refine lv_iconst (v := 0) hx hb dL_firstStranded_1 (by decide) ?_
  refine lv_aload_n hx hb dL_firstStranded_2 rfl (lv_at hl 0 rfl) ?_
  refine lv_iload_n hx hb dL_firstStranded_3 rfl (lv_at hl 1 rfl) ?_
  refine lv_iload_n hx hb dL_firstStranded_4 rfl (lv_at hl 2 rfl) ?_
  refine rx_V S hkx hth (mX5_firstStranded l hl0 (sa := sa) (q := q) (a := a) (N := N) (Z := Z) (b := b) (M := M) (Y := Y) (sc := sc) (tx := tx) (L := L) (cu := cu) (er := er) (le := le) (nb := nb) (nc := nc) (u := u) (d := d) (hP := P_hd hP) (h9 := fun _ h => h) (hwf := hwf)) gL_firstStranded_X5_firstStranded rfl idX5_firstStranded ⟨Nat.le_of_ble_eq_true rfl, Nat.le_of_ble_eq_true rfl⟩ hP 0 rfl rfl rfl rfl hl.1 rfl (Nat.le_of_ble_eq_true rfl) dL_firstStranded_5 ⟨Nat.le_of_ble_eq_true rfl, Nat.le_of_ble_eq_true rfl⟩ (fun E ce q9 H hpx hq9 hv9 hc9 hz9 hk9 => ?_) (fun v hp9 => ?_)
  · have hP : va_P G vwCl ((wMain T q a N Z b M Y sc tx L cu er le nb nc) ++ [(o, eL T fo)]) H := P_old hP hk9
    have hS : va_S A H0 H [] := ⟨hz9, fun q h _ => hk9 q h, fun z hz => by cases hz⟩
    rcases hpx with ⟨hf9, rfl⟩ | ⟨hf9, rfl⟩ | ⟨hf9, rfl⟩
    · refine vx_catch hown [] ⟨0, 10, 13, 25⟩ [⟨0, 10, 17, 13⟩] htab (fun z hz => by cases hz) (by decide) (by decide) kC25 (va_Nw.use rfl hth.1.2.2.2.1) hq9 hv9 hc9 ?_
      refine W.eq (g2 := F0 m 13 ls [.ref q9]) rfl ?_
      refine lv_astore (lv' := [(4, .ref q9), (0, .ref (q 0)), (1, .int u), (2, .int d), (3, .ref o)]) hx hb dL_firstStranded_13 hl (by decide) rfl (fun ls hl => ?_)
      refine lv_iconst (v := 1) hx hb dL_firstStranded_15 (by decide) ?_
      exact hret _ _ _ _ _ _ _ (show wrP G (sq (thF u (nI (N 2))) (dyF d)) (cmI (sq (thF u (nI (N 2))) (dyF d))) ((wMain T q a N Z b M Y sc tx L cu er le nb nc) ++ [(o, eL T (Int32.toInt64 (fstD (uuB N Z (tn u)) (tn d) (1000 - tn d))))]) ((wMain T q a N Z b M Y sc tx L cu er le nb nc) ++ [(o, eL T fo)]) (some (Value.int 1)) H from Or.inr ⟨by rw [hf9]; decide, by rw [hf9]; rfl, hP⟩) hS (Nat.le_of_ble_eq_true rfl) (Nat.le_of_ble_eq_true rfl) dL_firstStranded_16
    · refine vx_catch hown [⟨0, 10, 13, 25⟩] ⟨0, 10, 17, 13⟩ [] htab (fun z hz => by
        rcases List.mem_singleton.mp hz with rfl
        exact Or.inr ⟨by decide, eI, kC25, hnc.2.2.2.2.1⟩) (by decide) (by decide) kC13 (va_Nw.use rfl hth.1.2.2.2.2.1) hq9 hv9 hc9 ?_
      refine W.eq (g2 := F0 m 17 ls [.ref q9]) rfl ?_
      refine lv_astore (lv' := [(4, .ref q9), (0, .ref (q 0)), (1, .int u), (2, .int d), (3, .ref o)]) hx hb dL_firstStranded_17 hl (by decide) rfl (fun ls hl => ?_)
      refine lv_iconst (v := 2) hx hb dL_firstStranded_19 (by decide) ?_
      exact hret _ _ _ _ _ _ _ (show wrP G (sq (thF u (nI (N 2))) (dyF d)) (cmI (sq (thF u (nI (N 2))) (dyF d))) ((wMain T q a N Z b M Y sc tx L cu er le nb nc) ++ [(o, eL T (Int32.toInt64 (fstD (uuB N Z (tn u)) (tn d) (1000 - tn d))))]) ((wMain T q a N Z b M Y sc tx L cu er le nb nc) ++ [(o, eL T fo)]) (some (Value.int 2)) H from Or.inr ⟨by rw [hf9]; decide, by rw [hf9]; rfl, hP⟩) hS (Nat.le_of_ble_eq_true rfl) (Nat.le_of_ble_eq_true rfl) dL_firstStranded_20
    · exact absurd hf9 (r_sq (r_th _ _).2 (r_wi _ _ _).2)
  · obtain ⟨hF0, rfl⟩ := hp9
    refine W.eq (g2 := F0 m 8 ls [.int (fstD (uuB N Z (tn u)) (tn d) (1000 - tn d)), .int 0, .ref o]) rfl ?_
    refine lv_i2l hx hb dL_firstStranded_8 rfl ?_
    refine lst0 hx hb hkx hP hD hS 100 rfl dL_firstStranded_9 (fun H locs hP hD hS => ?_)
    have hP : va_P G vwCl ((wMain T q a N Z b M Y sc tx L cu er le nb nc) ++ [(o, eL T (Int32.toInt64 (fstD (uuB N Z (tn u)) (tn d) (1000 - tn d))))]) H := hP
    have hD : va_D A ((wMain T q a N Z b M Y sc tx L cu er le nb nc) ++ [(o, eL T (Int32.toInt64 (fstD (uuB N Z (tn u)) (tn d) (1000 - tn d))))]) := hD
    refine lv_goto (tgt := 21) hx hb dL_firstStranded_10 (by decide) ?_
    refine lv_iconst (v := 0) hx hb dL_firstStranded_21 (by decide) ?_
    exact hret _ _ _ _ _ _ _ (show wrP G (sq (thF u (nI (N 2))) (dyF d)) (cmI (sq (thF u (nI (N 2))) (dyF d))) ((wMain T q a N Z b M Y sc tx L cu er le nb nc) ++ [(o, eL T (Int32.toInt64 (fstD (uuB N Z (tn u)) (tn d) (1000 - tn d))))]) ((wMain T q a N Z b M Y sc tx L cu er le nb nc) ++ [(o, eL T fo)]) (some (Value.int 0)) H from Or.inl ⟨hF0, rfl, hP⟩) hS (Nat.le_of_ble_eq_true rfl) (Nat.le_of_ble_eq_true rfl) dL_firstStranded_22

theorem idL_latestMove : yL_latestMove.cls ≠ "java/lang/invoke/MethodHandle" ∧ yL_latestMove.cls ≠ "java/lang/invoke/VarHandle" ∧ (parseMethodDescriptor yL_latestMove.desc).map (fun d => d.parameters.length) = some 5 := by decide +kernel

set_option maxHeartbeats 4000000 in
set_option maxRecDepth 100000 in
theorem mL_latestMove (l : Launch) (hl0 : l.stackTraces = false) {G : va_G} {T : Nat → ClassId} {sa : Nat → Nat} {A9 : Nat → Prop} {H0 : Heap} {q : Nat → Nat} {a : Nat → Nat} {N : Nat → Nat} {Z : Nat → Nat → Int32} {b : Nat → Nat → Nat} {M : Nat → Nat → Nat} {Y : Nat → Nat → Nat → Int32} {sc : Nat} {tx : Nat → Int32} {L : Nat} {cu : Nat} {er : Int32} {le : Int32} {nb : Nat → Int32} {nc : Nat} {u : Int32} {v : Int32} {d : Int32} {o : Nat} {fo : Int64} (hP : va_P G vwCl ((wMain T q a N Z b M Y sc tx L cu er le nb nc) ++ [(o, eL T fo)]) H0) (hD : va_D (fun _ => True) ((wMain T q a N Z b M Y sc tx L cu er le nb nc) ++ [(o, eL T fo)])) (h9 : ∀ q, H0.size ≤ q → A9 q) (hwf : wf N Z) : lwr l yL_latestMove wsL_latestMove 9 147 3 [.ref (q 0), .int u, .int v, .int d, .ref o] G T sa A9 H0 ((wMain T q a N Z b M Y sc tx L cu er le nb nc) ++ [(o, eL T fo)]) (wrP G (sq (thF u (nI (N 2))) (sq (thF v (nI (N 0))) (dyF d))) (cmI (sq (thF u (nI (N 2))) (sq (thF v (nI (N 0))) (dyF d)))) ((wMain T q a N Z b M Y sc tx L cu er le nb nc) ++ [(o, eL T (Int32.toInt64 (ltP N Z (tn u) (tn v) (tn d))))]) ((wMain T q a N Z b M Y sc tx L cu er le nb nc) ++ [(o, eL T fo)])) := by
  refine lwr_of (cc := cL_latestMove) (maxL := 6) (hh := [(0, 12, 15, 25), (0, 12, 19, 13)]) (own := RL) (by decide +kernel) rfl rfl (Nat.le_of_ble_eq_true rfl) h9 hD ?_
  intro p e s m below meth c Q ls A S hkx hth hnc htab hl hD hS hA hret
  obtain ⟨hx, hb, hml, hown, hts⟩ := id S
  have hl : lv_has ls 6 [(0, .ref (q 0)), (1, .int u), (2, .int v), (3, .int d), (4, .ref o)] := hl
  have kC25 := hts (.classLink RL 25 eI) (by decide +kernel)
  have kC13 := hts (.classLink RL 13 eA) (by decide +kernel)
  refine lv_aload hx hb dL_latestMove_0 (lv_at hl 4 rfl) ?_
  refine lv_iconst (v := 0) hx hb dL_latestMove_2 (by decide) ?_
  refine lv_aload_n hx hb dL_latestMove_3 rfl (lv_at hl 0 rfl) ?_
  refine lv_iload_n hx hb dL_latestMove_4 rfl (lv_at hl 1 rfl) ?_
  refine lv_iload_n hx hb dL_latestMove_5 rfl (lv_at hl 2 rfl) ?_
  refine lv_iload_n hx hb dL_latestMove_6 rfl (lv_at hl 3 rfl) ?_
  refine rx_V S hkx hth (mX5_latestMove l hl0 (sa := sa) (q := q) (a := a) (N := N) (Z := Z) (b := b) (M := M) (Y := Y) (sc := sc) (tx := tx) (L := L) (cu := cu) (er := er) (le := le) (nb := nb) (nc := nc) (u := u) (v := v) (d := d) (hP := P_hd hP) (h9 := fun _ h => h) (hwf := hwf)) gL_latestMove_X5_latestMove rfl idX5_latestMove ⟨Nat.le_of_ble_eq_true rfl, Nat.le_of_ble_eq_true rfl⟩ hP 0 rfl rfl rfl rfl hl.1 rfl (Nat.le_of_ble_eq_true rfl) dL_latestMove_7 ⟨Nat.le_of_ble_eq_true rfl, Nat.le_of_ble_eq_true rfl⟩ (fun E ce q9 H hpx hq9 hv9 hc9 hz9 hk9 => ?_) (fun v hp9 => ?_)
  · have hP : va_P G vwCl ((wMain T q a N Z b M Y sc tx L cu er le nb nc) ++ [(o, eL T fo)]) H := P_old hP hk9
    have hS : va_S A H0 H [] := ⟨hz9, fun q h _ => hk9 q h, fun z hz => by cases hz⟩
    rcases hpx with ⟨hf9, rfl⟩ | ⟨hf9, rfl⟩ | ⟨hf9, rfl⟩
    · refine vx_catch hown [] ⟨0, 12, 15, 25⟩ [⟨0, 12, 19, 13⟩] htab (fun z hz => by cases hz) (by decide) (by decide) kC25 (va_Nw.use rfl hth.1.2.2.2.1) hq9 hv9 hc9 ?_
      refine W.eq (g2 := F0 m 15 ls [.ref q9]) rfl ?_
      refine lv_astore (lv' := [(5, .ref q9), (0, .ref (q 0)), (1, .int u), (2, .int v), (3, .int d), (4, .ref o)]) hx hb dL_latestMove_15 hl (by decide) rfl (fun ls hl => ?_)
      refine lv_iconst (v := 1) hx hb dL_latestMove_17 (by decide) ?_
      exact hret _ _ _ _ _ _ _ (show wrP G (sq (thF u (nI (N 2))) (sq (thF v (nI (N 0))) (dyF d))) (cmI (sq (thF u (nI (N 2))) (sq (thF v (nI (N 0))) (dyF d)))) ((wMain T q a N Z b M Y sc tx L cu er le nb nc) ++ [(o, eL T (Int32.toInt64 (ltP N Z (tn u) (tn v) (tn d))))]) ((wMain T q a N Z b M Y sc tx L cu er le nb nc) ++ [(o, eL T fo)]) (some (Value.int 1)) H from Or.inr ⟨by rw [hf9]; decide, by rw [hf9]; rfl, hP⟩) hS (Nat.le_of_ble_eq_true rfl) (Nat.le_of_ble_eq_true rfl) dL_latestMove_18
    · refine vx_catch hown [⟨0, 12, 15, 25⟩] ⟨0, 12, 19, 13⟩ [] htab (fun z hz => by
        rcases List.mem_singleton.mp hz with rfl
        exact Or.inr ⟨by decide, eI, kC25, hnc.2.2.2.2.1⟩) (by decide) (by decide) kC13 (va_Nw.use rfl hth.1.2.2.2.2.1) hq9 hv9 hc9 ?_
      refine W.eq (g2 := F0 m 19 ls [.ref q9]) rfl ?_
      refine lv_astore (lv' := [(5, .ref q9), (0, .ref (q 0)), (1, .int u), (2, .int v), (3, .int d), (4, .ref o)]) hx hb dL_latestMove_19 hl (by decide) rfl (fun ls hl => ?_)
      refine lv_iconst (v := 2) hx hb dL_latestMove_21 (by decide) ?_
      exact hret _ _ _ _ _ _ _ (show wrP G (sq (thF u (nI (N 2))) (sq (thF v (nI (N 0))) (dyF d))) (cmI (sq (thF u (nI (N 2))) (sq (thF v (nI (N 0))) (dyF d)))) ((wMain T q a N Z b M Y sc tx L cu er le nb nc) ++ [(o, eL T (Int32.toInt64 (ltP N Z (tn u) (tn v) (tn d))))]) ((wMain T q a N Z b M Y sc tx L cu er le nb nc) ++ [(o, eL T fo)]) (some (Value.int 2)) H from Or.inr ⟨by rw [hf9]; decide, by rw [hf9]; rfl, hP⟩) hS (Nat.le_of_ble_eq_true rfl) (Nat.le_of_ble_eq_true rfl) dL_latestMove_22
    · exact absurd hf9 (r_sq (r_th _ _).2 (r_sq (r_th _ _).2 (r_wi _ _ _).2))
  · obtain ⟨hF0, rfl⟩ := hp9
    refine W.eq (g2 := F0 m 10 ls [.int (ltP N Z (tn u) (tn v) (tn d)), .int 0, .ref o]) rfl ?_
    refine lv_i2l hx hb dL_latestMove_10 rfl ?_
    refine lst0 hx hb hkx hP hD hS 100 rfl dL_latestMove_11 (fun H locs hP hD hS => ?_)
    have hP : va_P G vwCl ((wMain T q a N Z b M Y sc tx L cu er le nb nc) ++ [(o, eL T (Int32.toInt64 (ltP N Z (tn u) (tn v) (tn d))))]) H := hP
    have hD : va_D A ((wMain T q a N Z b M Y sc tx L cu er le nb nc) ++ [(o, eL T (Int32.toInt64 (ltP N Z (tn u) (tn v) (tn d))))]) := hD
    refine lv_goto (tgt := 23) hx hb dL_latestMove_12 (by decide) ?_
    refine lv_iconst (v := 0) hx hb dL_latestMove_23 (by decide) ?_
    exact hret _ _ _ _ _ _ _ (show wrP G (sq (thF u (nI (N 2))) (sq (thF v (nI (N 0))) (dyF d))) (cmI (sq (thF u (nI (N 2))) (sq (thF v (nI (N 0))) (dyF d)))) ((wMain T q a N Z b M Y sc tx L cu er le nb nc) ++ [(o, eL T (Int32.toInt64 (ltP N Z (tn u) (tn v) (tn d))))]) ((wMain T q a N Z b M Y sc tx L cu er le nb nc) ++ [(o, eL T fo)]) (some (Value.int 0)) H from Or.inl ⟨hF0, rfl, hP⟩) hS (Nat.le_of_ble_eq_true rfl) (Nat.le_of_ble_eq_true rfl) dL_latestMove_24

theorem idL_bestVersion : yL_bestVersion.cls ≠ "java/lang/invoke/MethodHandle" ∧ yL_bestVersion.cls ≠ "java/lang/invoke/VarHandle" ∧ (parseMethodDescriptor yL_bestVersion.desc).map (fun d => d.parameters.length) = some 4 := by decide +kernel

set_option maxHeartbeats 4000000 in
set_option maxRecDepth 100000 in
theorem mL_bestVersion (l : Launch) (hl0 : l.stackTraces = false) {G : va_G} {T : Nat → ClassId} {sa : Nat → Nat} {A9 : Nat → Prop} {H0 : Heap} {q : Nat → Nat} {a : Nat → Nat} {N : Nat → Nat} {Z : Nat → Nat → Int32} {b : Nat → Nat → Nat} {M : Nat → Nat → Nat} {Y : Nat → Nat → Nat → Int32} {sc : Nat} {tx : Nat → Int32} {L : Nat} {cu : Nat} {er : Int32} {le : Int32} {nb : Nat → Int32} {nc : Nat} {u : Int32} {d : Int32} {o : Nat} {fo : Int64} (hP : va_P G vwCl ((wMain T q a N Z b M Y sc tx L cu er le nb nc) ++ [(o, eL T fo)]) H0) (hD : va_D (fun _ => True) ((wMain T q a N Z b M Y sc tx L cu er le nb nc) ++ [(o, eL T fo)])) (h9 : ∀ q, H0.size ≤ q → A9 q) (hwf : wf N Z) : lwr l yL_bestVersion wsL_bestVersion 10 168 2 [.ref (q 0), .int u, .int d, .ref o] G T sa A9 H0 ((wMain T q a N Z b M Y sc tx L cu er le nb nc) ++ [(o, eL T fo)]) (wrP G (sq (thF u (nI (N 2))) (dyF d)) (cmI (sq (thF u (nI (N 2))) (dyF d))) ((wMain T q a N Z b M Y sc tx L cu er le nb nc) ++ [(o, eL T (Int32.toInt64 ((vsm N Z (Z 6 (tn u)) d (N 0)).1)))]) ((wMain T q a N Z b M Y sc tx L cu er le nb nc) ++ [(o, eL T fo)])) := by
  refine lwr_of (cc := cL_bestVersion) (maxL := 5) (hh := [(0, 10, 13, 25), (0, 10, 17, 13)]) (own := RL) (by decide +kernel) rfl rfl (Nat.le_of_ble_eq_true rfl) h9 hD ?_
  intro p e s m below meth c Q ls A S hkx hth hnc htab hl hD hS hA hret
  obtain ⟨hx, hb, hml, hown, hts⟩ := id S
  have hl : lv_has ls 5 [(0, .ref (q 0)), (1, .int u), (2, .int d), (3, .ref o)] := hl
  have kC25 := hts (.classLink RL 25 eI) (by decide +kernel)
  have kC13 := hts (.classLink RL 13 eA) (by decide +kernel)
  refine lv_aload_n hx hb dL_bestVersion_0 rfl (lv_at hl 3 rfl) ?_
  refine lv_iconst (v := 0) hx hb dL_bestVersion_1 (by decide) ?_
  refine lv_aload_n hx hb dL_bestVersion_2 rfl (lv_at hl 0 rfl) ?_
  refine lv_iload_n hx hb dL_bestVersion_3 rfl (lv_at hl 1 rfl) ?_
  refine lv_iload_n hx hb dL_bestVersion_4 rfl (lv_at hl 2 rfl) ?_
  refine rx_V S hkx hth (mX5_bestVersion l hl0 (sa := sa) (q := q) (a := a) (N := N) (Z := Z) (b := b) (M := M) (Y := Y) (sc := sc) (tx := tx) (L := L) (cu := cu) (er := er) (le := le) (nb := nb) (nc := nc) (u := u) (d := d) (hP := P_hd hP) (h9 := fun _ h => h) (hwf := hwf)) gL_bestVersion_X5_bestVersion rfl idX5_bestVersion ⟨Nat.le_of_ble_eq_true rfl, Nat.le_of_ble_eq_true rfl⟩ hP 0 rfl rfl rfl rfl hl.1 rfl (Nat.le_of_ble_eq_true rfl) dL_bestVersion_5 ⟨Nat.le_of_ble_eq_true rfl, Nat.le_of_ble_eq_true rfl⟩ (fun E ce q9 H hpx hq9 hv9 hc9 hz9 hk9 => ?_) (fun v hp9 => ?_)
  · have hP : va_P G vwCl ((wMain T q a N Z b M Y sc tx L cu er le nb nc) ++ [(o, eL T fo)]) H := P_old hP hk9
    have hS : va_S A H0 H [] := ⟨hz9, fun q h _ => hk9 q h, fun z hz => by cases hz⟩
    rcases hpx with ⟨hf9, rfl⟩ | ⟨hf9, rfl⟩ | ⟨hf9, rfl⟩
    · refine vx_catch hown [] ⟨0, 10, 13, 25⟩ [⟨0, 10, 17, 13⟩] htab (fun z hz => by cases hz) (by decide) (by decide) kC25 (va_Nw.use rfl hth.1.2.2.2.1) hq9 hv9 hc9 ?_
      refine W.eq (g2 := F0 m 13 ls [.ref q9]) rfl ?_
      refine lv_astore (lv' := [(4, .ref q9), (0, .ref (q 0)), (1, .int u), (2, .int d), (3, .ref o)]) hx hb dL_bestVersion_13 hl (by decide) rfl (fun ls hl => ?_)
      refine lv_iconst (v := 1) hx hb dL_bestVersion_15 (by decide) ?_
      exact hret _ _ _ _ _ _ _ (show wrP G (sq (thF u (nI (N 2))) (dyF d)) (cmI (sq (thF u (nI (N 2))) (dyF d))) ((wMain T q a N Z b M Y sc tx L cu er le nb nc) ++ [(o, eL T (Int32.toInt64 ((vsm N Z (Z 6 (tn u)) d (N 0)).1)))]) ((wMain T q a N Z b M Y sc tx L cu er le nb nc) ++ [(o, eL T fo)]) (some (Value.int 1)) H from Or.inr ⟨by rw [hf9]; decide, by rw [hf9]; rfl, hP⟩) hS (Nat.le_of_ble_eq_true rfl) (Nat.le_of_ble_eq_true rfl) dL_bestVersion_16
    · refine vx_catch hown [⟨0, 10, 13, 25⟩] ⟨0, 10, 17, 13⟩ [] htab (fun z hz => by
        rcases List.mem_singleton.mp hz with rfl
        exact Or.inr ⟨by decide, eI, kC25, hnc.2.2.2.2.1⟩) (by decide) (by decide) kC13 (va_Nw.use rfl hth.1.2.2.2.2.1) hq9 hv9 hc9 ?_
      refine W.eq (g2 := F0 m 17 ls [.ref q9]) rfl ?_
      refine lv_astore (lv' := [(4, .ref q9), (0, .ref (q 0)), (1, .int u), (2, .int d), (3, .ref o)]) hx hb dL_bestVersion_17 hl (by decide) rfl (fun ls hl => ?_)
      refine lv_iconst (v := 2) hx hb dL_bestVersion_19 (by decide) ?_
      exact hret _ _ _ _ _ _ _ (show wrP G (sq (thF u (nI (N 2))) (dyF d)) (cmI (sq (thF u (nI (N 2))) (dyF d))) ((wMain T q a N Z b M Y sc tx L cu er le nb nc) ++ [(o, eL T (Int32.toInt64 ((vsm N Z (Z 6 (tn u)) d (N 0)).1)))]) ((wMain T q a N Z b M Y sc tx L cu er le nb nc) ++ [(o, eL T fo)]) (some (Value.int 2)) H from Or.inr ⟨by rw [hf9]; decide, by rw [hf9]; rfl, hP⟩) hS (Nat.le_of_ble_eq_true rfl) (Nat.le_of_ble_eq_true rfl) dL_bestVersion_20
    · exact absurd hf9 (r_sq (r_th _ _).2 (r_wi _ _ _).2)
  · obtain ⟨hF0, rfl⟩ := hp9
    refine W.eq (g2 := F0 m 8 ls [.int ((vsm N Z (Z 6 (tn u)) d (N 0)).1), .int 0, .ref o]) rfl ?_
    refine lv_i2l hx hb dL_bestVersion_8 rfl ?_
    refine lst0 hx hb hkx hP hD hS 100 rfl dL_bestVersion_9 (fun H locs hP hD hS => ?_)
    have hP : va_P G vwCl ((wMain T q a N Z b M Y sc tx L cu er le nb nc) ++ [(o, eL T (Int32.toInt64 ((vsm N Z (Z 6 (tn u)) d (N 0)).1)))]) H := hP
    have hD : va_D A ((wMain T q a N Z b M Y sc tx L cu er le nb nc) ++ [(o, eL T (Int32.toInt64 ((vsm N Z (Z 6 (tn u)) d (N 0)).1)))]) := hD
    refine lv_goto (tgt := 21) hx hb dL_bestVersion_10 (by decide) ?_
    refine lv_iconst (v := 0) hx hb dL_bestVersion_21 (by decide) ?_
    exact hret _ _ _ _ _ _ _ (show wrP G (sq (thF u (nI (N 2))) (dyF d)) (cmI (sq (thF u (nI (N 2))) (dyF d))) ((wMain T q a N Z b M Y sc tx L cu er le nb nc) ++ [(o, eL T (Int32.toInt64 ((vsm N Z (Z 6 (tn u)) d (N 0)).1)))]) ((wMain T q a N Z b M Y sc tx L cu er le nb nc) ++ [(o, eL T fo)]) (some (Value.int 0)) H from Or.inl ⟨hF0, rfl, hP⟩) hS (Nat.le_of_ble_eq_true rfl) (Nat.le_of_ble_eq_true rfl) dL_bestVersion_22

theorem idL_cheapest : yL_cheapest.cls ≠ "java/lang/invoke/MethodHandle" ∧ yL_cheapest.cls ≠ "java/lang/invoke/VarHandle" ∧ (parseMethodDescriptor yL_cheapest.desc).map (fun d => d.parameters.length) = some 5 := by decide +kernel

set_option maxHeartbeats 4000000 in
set_option maxRecDepth 100000 in
theorem mL_cheapest (l : Launch) (hl0 : l.stackTraces = false) {G : va_G} {T : Nat → ClassId} {sa : Nat → Nat} {A9 : Nat → Prop} {H0 : Heap} {q : Nat → Nat} {a : Nat → Nat} {N : Nat → Nat} {Z : Nat → Nat → Int32} {b : Nat → Nat → Nat} {M : Nat → Nat → Nat} {Y : Nat → Nat → Nat → Int32} {sc : Nat} {tx : Nat → Int32} {L : Nat} {cu : Nat} {er : Int32} {le : Int32} {nb : Nat → Int32} {nc : Nat} {u : Int32} {f : Int32} {w : Int32} {o : Nat} {fo : Int64} (hP : va_P G vwCl ((wMain T q a N Z b M Y sc tx L cu er le nb nc) ++ [(o, eL T fo)]) H0) (hD : va_D (fun _ => True) ((wMain T q a N Z b M Y sc tx L cu er le nb nc) ++ [(o, eL T fo)])) (h9 : ∀ q, H0.size ≤ q → A9 q) (hwf : wf N Z) : lwr l yL_cheapest wsL_cheapest 10 168 3 [.ref (q 0), .int u, .int f, .int w, .ref o] G T sa A9 H0 ((wMain T q a N Z b M Y sc tx L cu er le nb nc) ++ [(o, eL T fo)]) (wrP G (sq (thF u (nI (N 2))) (sq (dyF f) (wiF w f 999))) (cmI (sq (thF u (nI (N 2))) (sq (dyF f) (wiF w f 999)))) ((wMain T q a N Z b M Y sc tx L cu er le nb nc) ++ [(o, eL T (Int32.toInt64 ((vcl N Z (Z 6 (tn u)) (tn f) (tn w) (N 0)).1)))]) ((wMain T q a N Z b M Y sc tx L cu er le nb nc) ++ [(o, eL T fo)])) := by
  refine lwr_of (cc := cL_cheapest) (maxL := 6) (hh := [(0, 12, 15, 25), (0, 12, 19, 13)]) (own := RL) (by decide +kernel) rfl rfl (Nat.le_of_ble_eq_true rfl) h9 hD ?_
  intro p e s m below meth c Q ls A S hkx hth hnc htab hl hD hS hA hret
  obtain ⟨hx, hb, hml, hown, hts⟩ := id S
  have hl : lv_has ls 6 [(0, .ref (q 0)), (1, .int u), (2, .int f), (3, .int w), (4, .ref o)] := hl
  have kC25 := hts (.classLink RL 25 eI) (by decide +kernel)
  have kC13 := hts (.classLink RL 13 eA) (by decide +kernel)
  refine lv_aload hx hb dL_cheapest_0 (lv_at hl 4 rfl) ?_
  refine lv_iconst (v := 0) hx hb dL_cheapest_2 (by decide) ?_
  refine lv_aload_n hx hb dL_cheapest_3 rfl (lv_at hl 0 rfl) ?_
  refine lv_iload_n hx hb dL_cheapest_4 rfl (lv_at hl 1 rfl) ?_
  refine lv_iload_n hx hb dL_cheapest_5 rfl (lv_at hl 2 rfl) ?_
  refine lv_iload_n hx hb dL_cheapest_6 rfl (lv_at hl 3 rfl) ?_
  refine rx_V S hkx hth (mX5_cheapest l hl0 (sa := sa) (q := q) (a := a) (N := N) (Z := Z) (b := b) (M := M) (Y := Y) (sc := sc) (tx := tx) (L := L) (cu := cu) (er := er) (le := le) (nb := nb) (nc := nc) (u := u) (f := f) (w := w) (hP := P_hd hP) (h9 := fun _ h => h) (hwf := hwf)) gL_cheapest_X5_cheapest rfl idX5_cheapest ⟨Nat.le_of_ble_eq_true rfl, Nat.le_of_ble_eq_true rfl⟩ hP 0 rfl rfl rfl rfl hl.1 rfl (Nat.le_of_ble_eq_true rfl) dL_cheapest_7 ⟨Nat.le_of_ble_eq_true rfl, Nat.le_of_ble_eq_true rfl⟩ (fun E ce q9 H hpx hq9 hv9 hc9 hz9 hk9 => ?_) (fun v hp9 => ?_)
  · have hP : va_P G vwCl ((wMain T q a N Z b M Y sc tx L cu er le nb nc) ++ [(o, eL T fo)]) H := P_old hP hk9
    have hS : va_S A H0 H [] := ⟨hz9, fun q h _ => hk9 q h, fun z hz => by cases hz⟩
    rcases hpx with ⟨hf9, rfl⟩ | ⟨hf9, rfl⟩ | ⟨hf9, rfl⟩
    · refine vx_catch hown [] ⟨0, 12, 15, 25⟩ [⟨0, 12, 19, 13⟩] htab (fun z hz => by cases hz) (by decide) (by decide) kC25 (va_Nw.use rfl hth.1.2.2.2.1) hq9 hv9 hc9 ?_
      refine W.eq (g2 := F0 m 15 ls [.ref q9]) rfl ?_
      refine lv_astore (lv' := [(5, .ref q9), (0, .ref (q 0)), (1, .int u), (2, .int f), (3, .int w), (4, .ref o)]) hx hb dL_cheapest_15 hl (by decide) rfl (fun ls hl => ?_)
      refine lv_iconst (v := 1) hx hb dL_cheapest_17 (by decide) ?_
      exact hret _ _ _ _ _ _ _ (show wrP G (sq (thF u (nI (N 2))) (sq (dyF f) (wiF w f 999))) (cmI (sq (thF u (nI (N 2))) (sq (dyF f) (wiF w f 999)))) ((wMain T q a N Z b M Y sc tx L cu er le nb nc) ++ [(o, eL T (Int32.toInt64 ((vcl N Z (Z 6 (tn u)) (tn f) (tn w) (N 0)).1)))]) ((wMain T q a N Z b M Y sc tx L cu er le nb nc) ++ [(o, eL T fo)]) (some (Value.int 1)) H from Or.inr ⟨by rw [hf9]; decide, by rw [hf9]; rfl, hP⟩) hS (Nat.le_of_ble_eq_true rfl) (Nat.le_of_ble_eq_true rfl) dL_cheapest_18
    · refine vx_catch hown [⟨0, 12, 15, 25⟩] ⟨0, 12, 19, 13⟩ [] htab (fun z hz => by
        rcases List.mem_singleton.mp hz with rfl
        exact Or.inr ⟨by decide, eI, kC25, hnc.2.2.2.2.1⟩) (by decide) (by decide) kC13 (va_Nw.use rfl hth.1.2.2.2.2.1) hq9 hv9 hc9 ?_
      refine W.eq (g2 := F0 m 19 ls [.ref q9]) rfl ?_
      refine lv_astore (lv' := [(5, .ref q9), (0, .ref (q 0)), (1, .int u), (2, .int f), (3, .int w), (4, .ref o)]) hx hb dL_cheapest_19 hl (by decide) rfl (fun ls hl => ?_)
      refine lv_iconst (v := 2) hx hb dL_cheapest_21 (by decide) ?_
      exact hret _ _ _ _ _ _ _ (show wrP G (sq (thF u (nI (N 2))) (sq (dyF f) (wiF w f 999))) (cmI (sq (thF u (nI (N 2))) (sq (dyF f) (wiF w f 999)))) ((wMain T q a N Z b M Y sc tx L cu er le nb nc) ++ [(o, eL T (Int32.toInt64 ((vcl N Z (Z 6 (tn u)) (tn f) (tn w) (N 0)).1)))]) ((wMain T q a N Z b M Y sc tx L cu er le nb nc) ++ [(o, eL T fo)]) (some (Value.int 2)) H from Or.inr ⟨by rw [hf9]; decide, by rw [hf9]; rfl, hP⟩) hS (Nat.le_of_ble_eq_true rfl) (Nat.le_of_ble_eq_true rfl) dL_cheapest_22
    · exact absurd hf9 (r_sq (r_th _ _).2 (r_sq (r_wi _ _ _).2 (r_wi _ _ _).2))
  · obtain ⟨hF0, rfl⟩ := hp9
    refine W.eq (g2 := F0 m 10 ls [.int ((vcl N Z (Z 6 (tn u)) (tn f) (tn w) (N 0)).1), .int 0, .ref o]) rfl ?_
    refine lv_i2l hx hb dL_cheapest_10 rfl ?_
    refine lst0 hx hb hkx hP hD hS 100 rfl dL_cheapest_11 (fun H locs hP hD hS => ?_)
    have hP : va_P G vwCl ((wMain T q a N Z b M Y sc tx L cu er le nb nc) ++ [(o, eL T (Int32.toInt64 ((vcl N Z (Z 6 (tn u)) (tn f) (tn w) (N 0)).1)))]) H := hP
    have hD : va_D A ((wMain T q a N Z b M Y sc tx L cu er le nb nc) ++ [(o, eL T (Int32.toInt64 ((vcl N Z (Z 6 (tn u)) (tn f) (tn w) (N 0)).1)))]) := hD
    refine lv_goto (tgt := 23) hx hb dL_cheapest_12 (by decide) ?_
    refine lv_iconst (v := 0) hx hb dL_cheapest_23 (by decide) ?_
    exact hret _ _ _ _ _ _ _ (show wrP G (sq (thF u (nI (N 2))) (sq (dyF f) (wiF w f 999))) (cmI (sq (thF u (nI (N 2))) (sq (dyF f) (wiF w f 999)))) ((wMain T q a N Z b M Y sc tx L cu er le nb nc) ++ [(o, eL T (Int32.toInt64 ((vcl N Z (Z 6 (tn u)) (tn f) (tn w) (N 0)).1)))]) ((wMain T q a N Z b M Y sc tx L cu er le nb nc) ++ [(o, eL T fo)]) (some (Value.int 0)) H from Or.inl ⟨hF0, rfl, hP⟩) hS (Nat.le_of_ble_eq_true rfl) (Nat.le_of_ble_eq_true rfl) dL_cheapest_24

theorem idL_shimsNeeded : yL_shimsNeeded.cls ≠ "java/lang/invoke/MethodHandle" ∧ yL_shimsNeeded.cls ≠ "java/lang/invoke/VarHandle" ∧ (parseMethodDescriptor yL_shimsNeeded.desc).map (fun d => d.parameters.length) = some 3 := by decide +kernel

set_option maxHeartbeats 4000000 in
set_option maxRecDepth 100000 in
theorem mL_shimsNeeded (l : Launch) (hl0 : l.stackTraces = false) {G : va_G} {T : Nat → ClassId} {sa : Nat → Nat} {A9 : Nat → Prop} {H0 : Heap} {q : Nat → Nat} {a : Nat → Nat} {N : Nat → Nat} {Z : Nat → Nat → Int32} {b : Nat → Nat → Nat} {M : Nat → Nat → Nat} {Y : Nat → Nat → Nat → Int32} {sc : Nat} {tx : Nat → Int32} {L : Nat} {cu : Nat} {er : Int32} {le : Int32} {nb : Nat → Int32} {nc : Nat} {d : Int32} {o : Nat} {fo : Int64} (hP : va_P G vwCl ((wMain T q a N Z b M Y sc tx L cu er le nb nc) ++ [(o, eL T fo)]) H0) (hD : va_D (fun _ => True) ((wMain T q a N Z b M Y sc tx L cu er le nb nc) ++ [(o, eL T fo)])) (h9 : ∀ q, H0.size ≤ q → A9 q) (hwf : wf N Z) : lwr l yL_shimsNeeded wsL_shimsNeeded 9 160 1 [.ref (q 0), .int d, .ref o] G T sa A9 H0 ((wMain T q a N Z b M Y sc tx L cu er le nb nc) ++ [(o, eL T fo)]) (wrP G (dyF d) (cmA (dyF d)) ((wMain T q a N Z b M Y sc tx L cu er le nb nc) ++ [(o, eL T (Int32.toInt64 (prs N Z d (N 0))))]) ((wMain T q a N Z b M Y sc tx L cu er le nb nc) ++ [(o, eL T fo)])) := by
  refine lwr_of (cc := cL_shimsNeeded) (maxL := 4) (hh := [(0, 9, 12, 13)]) (own := RL) (by decide +kernel) rfl rfl (Nat.le_of_ble_eq_true rfl) h9 hD ?_
  intro p e s m below meth c Q ls A S hkx hth hnc htab hl hD hS hA hret
  obtain ⟨hx, hb, hml, hown, hts⟩ := id S
  have hl : lv_has ls 4 [(0, .ref (q 0)), (1, .int d), (2, .ref o)] := hl
  have kC13 := hts (.classLink RL 13 eA) (by decide +kernel)
  refine lv_aload_n hx hb dL_shimsNeeded_0 rfl (lv_at hl 2 rfl) ?_
  refine lv_iconst (v := 0) hx hb dL_shimsNeeded_1 (by decide) ?_
  refine lv_aload_n hx hb dL_shimsNeeded_2 rfl (lv_at hl 0 rfl) ?_
  refine lv_iload_n hx hb dL_shimsNeeded_3 rfl (lv_at hl 1 rfl) ?_
  refine rx_V S hkx hth (mX5_shimsNeeded l hl0 (sa := sa) (q := q) (a := a) (N := N) (Z := Z) (b := b) (M := M) (Y := Y) (sc := sc) (tx := tx) (L := L) (cu := cu) (er := er) (le := le) (nb := nb) (nc := nc) (d := d) (hP := P_hd hP) (h9 := fun _ h => h) (hwf := hwf)) gL_shimsNeeded_X5_shimsNeeded rfl idX5_shimsNeeded ⟨Nat.le_of_ble_eq_true rfl, Nat.le_of_ble_eq_true rfl⟩ hP 0 rfl rfl rfl rfl hl.1 rfl (Nat.le_of_ble_eq_true rfl) dL_shimsNeeded_4 ⟨Nat.le_of_ble_eq_true rfl, Nat.le_of_ble_eq_true rfl⟩ (fun E ce q9 H hpx hq9 hv9 hc9 hz9 hk9 => ?_) (fun v hp9 => ?_)
  · have hP : va_P G vwCl ((wMain T q a N Z b M Y sc tx L cu er le nb nc) ++ [(o, eL T fo)]) H := P_old hP hk9
    have hS : va_S A H0 H [] := ⟨hz9, fun q h _ => hk9 q h, fun z hz => by cases hz⟩
    rcases hpx with ⟨hf9, rfl⟩ | ⟨hf9, rfl⟩ | ⟨hf9, rfl⟩
    · exact absurd hf9 (r_wi _ _ _).1
    · refine vx_catch hown [] ⟨0, 9, 12, 13⟩ [] htab (fun z hz => by cases hz) (by decide) (by decide) kC13 (va_Nw.use rfl hth.1.2.2.2.2.1) hq9 hv9 hc9 ?_
      refine W.eq (g2 := F0 m 12 ls [.ref q9]) rfl ?_
      refine lv_astore_n (lv' := [(3, .ref q9), (0, .ref (q 0)), (1, .int d), (2, .ref o)]) hx hb dL_shimsNeeded_12 rfl hl (by decide) rfl (fun ls hl => ?_)
      refine lv_iconst (v := 1) hx hb dL_shimsNeeded_13 (by decide) ?_
      exact hret _ _ _ _ _ _ _ (show wrP G (dyF d) (cmA (dyF d)) ((wMain T q a N Z b M Y sc tx L cu er le nb nc) ++ [(o, eL T (Int32.toInt64 (prs N Z d (N 0))))]) ((wMain T q a N Z b M Y sc tx L cu er le nb nc) ++ [(o, eL T fo)]) (some (Value.int 1)) H from Or.inr ⟨by rw [hf9]; decide, by rw [hf9]; rfl, hP⟩) hS (Nat.le_of_ble_eq_true rfl) (Nat.le_of_ble_eq_true rfl) dL_shimsNeeded_14
    · exact absurd hf9 (r_wi _ _ _).2
  · obtain ⟨hF0, rfl⟩ := hp9
    refine W.eq (g2 := F0 m 7 ls [.int (prs N Z d (N 0)), .int 0, .ref o]) rfl ?_
    refine lv_i2l hx hb dL_shimsNeeded_7 rfl ?_
    refine lst0 hx hb hkx hP hD hS 100 rfl dL_shimsNeeded_8 (fun H locs hP hD hS => ?_)
    have hP : va_P G vwCl ((wMain T q a N Z b M Y sc tx L cu er le nb nc) ++ [(o, eL T (Int32.toInt64 (prs N Z d (N 0))))]) H := hP
    have hD : va_D A ((wMain T q a N Z b M Y sc tx L cu er le nb nc) ++ [(o, eL T (Int32.toInt64 (prs N Z d (N 0))))]) := hD
    refine lv_goto (tgt := 15) hx hb dL_shimsNeeded_9 (by decide) ?_
    refine lv_iconst (v := 0) hx hb dL_shimsNeeded_15 (by decide) ?_
    exact hret _ _ _ _ _ _ _ (show wrP G (dyF d) (cmA (dyF d)) ((wMain T q a N Z b M Y sc tx L cu er le nb nc) ++ [(o, eL T (Int32.toInt64 (prs N Z d (N 0))))]) ((wMain T q a N Z b M Y sc tx L cu er le nb nc) ++ [(o, eL T fo)]) (some (Value.int 0)) H from Or.inl ⟨hF0, rfl, hP⟩) hS (Nat.le_of_ble_eq_true rfl) (Nat.le_of_ble_eq_true rfl) dL_shimsNeeded_16

theorem idL_share : yL_share.cls ≠ "java/lang/invoke/MethodHandle" ∧ yL_share.cls ≠ "java/lang/invoke/VarHandle" ∧ (parseMethodDescriptor yL_share.desc).map (fun d => d.parameters.length) = some 3 := by decide +kernel

set_option maxHeartbeats 4000000 in
set_option maxRecDepth 100000 in
theorem mL_share (l : Launch) (hl0 : l.stackTraces = false) {G : va_G} {T : Nat → ClassId} {sa : Nat → Nat} {A9 : Nat → Prop} {H0 : Heap} {q : Nat → Nat} {a : Nat → Nat} {N : Nat → Nat} {Z : Nat → Nat → Int32} {b : Nat → Nat → Nat} {M : Nat → Nat → Nat} {Y : Nat → Nat → Nat → Int32} {sc : Nat} {tx : Nat → Int32} {L : Nat} {cu : Nat} {er : Int32} {le : Int32} {nb : Nat → Int32} {nc : Nat} {d : Int32} {o : Nat} {fo : UInt64} (hP : va_P G vwCl ((wMain T q a N Z b M Y sc tx L cu er le nb nc) ++ [(o, eD T fo)]) H0) (hD : va_D (fun _ => True) ((wMain T q a N Z b M Y sc tx L cu er le nb nc) ++ [(o, eD T fo)])) (h9 : ∀ q, H0.size ≤ q → A9 q) (hwf : wf N Z) : lwr l yL_share wsL_share 9 146 1 [.ref (q 0), .int d, .ref o] G T sa A9 H0 ((wMain T q a N Z b M Y sc tx L cu er le nb nc) ++ [(o, eD T fo)]) (wrP G (dyF d) (cmA (dyF d)) ((wMain T q a N Z b M Y sc tx L cu er le nb nc) ++ [(o, eD T (shr N Z d))]) ((wMain T q a N Z b M Y sc tx L cu er le nb nc) ++ [(o, eD T fo)])) := by
  refine lwr_of (cc := cL_share) (maxL := 4) (hh := [(0, 8, 11, 13)]) (own := RL) (by decide +kernel) rfl rfl (Nat.le_of_ble_eq_true rfl) h9 hD ?_
  intro p e s m below meth c Q ls A S hkx hth hnc htab hl hD hS hA hret
  obtain ⟨hx, hb, hml, hown, hts⟩ := id S
  have hl : lv_has ls 4 [(0, .ref (q 0)), (1, .int d), (2, .ref o)] := hl
  have kC13 := hts (.classLink RL 13 eA) (by decide +kernel)
  refine lv_aload_n hx hb dL_share_0 rfl (lv_at hl 2 rfl) ?_
  refine lv_iconst (v := 0) hx hb dL_share_1 (by decide) ?_
  refine lv_aload_n hx hb dL_share_2 rfl (lv_at hl 0 rfl) ?_
  refine lv_iload_n hx hb dL_share_3 rfl (lv_at hl 1 rfl) ?_
  refine rx_V S hkx hth (mX5_share l hl0 (sa := sa) (q := q) (a := a) (N := N) (Z := Z) (b := b) (M := M) (Y := Y) (sc := sc) (tx := tx) (L := L) (cu := cu) (er := er) (le := le) (nb := nb) (nc := nc) (d := d) (hP := P_hd hP) (h9 := fun _ h => h) (hwf := hwf)) gL_share_X5_share rfl idX5_share ⟨Nat.le_of_ble_eq_true rfl, Nat.le_of_ble_eq_true rfl⟩ hP 0 rfl rfl rfl rfl hl.1 rfl (Nat.le_of_ble_eq_true rfl) dL_share_4 ⟨Nat.le_of_ble_eq_true rfl, Nat.le_of_ble_eq_true rfl⟩ (fun E ce q9 H hpx hq9 hv9 hc9 hz9 hk9 => ?_) (fun v hp9 => ?_)
  · have hP : va_P G vwCl ((wMain T q a N Z b M Y sc tx L cu er le nb nc) ++ [(o, eD T fo)]) H := P_old hP hk9
    have hS : va_S A H0 H [] := ⟨hz9, fun q h _ => hk9 q h, fun z hz => by cases hz⟩
    rcases hpx with ⟨hf9, rfl⟩ | ⟨hf9, rfl⟩ | ⟨hf9, rfl⟩
    · exact absurd hf9 (r_wi _ _ _).1
    · refine vx_catch hown [] ⟨0, 8, 11, 13⟩ [] htab (fun z hz => by cases hz) (by decide) (by decide) kC13 (va_Nw.use rfl hth.1.2.2.2.2.1) hq9 hv9 hc9 ?_
      refine W.eq (g2 := F0 m 11 ls [.ref q9]) rfl ?_
      refine lv_astore_n (lv' := [(3, .ref q9), (0, .ref (q 0)), (1, .int d), (2, .ref o)]) hx hb dL_share_11 rfl hl (by decide) rfl (fun ls hl => ?_)
      refine lv_iconst (v := 1) hx hb dL_share_12 (by decide) ?_
      exact hret _ _ _ _ _ _ _ (show wrP G (dyF d) (cmA (dyF d)) ((wMain T q a N Z b M Y sc tx L cu er le nb nc) ++ [(o, eD T (shr N Z d))]) ((wMain T q a N Z b M Y sc tx L cu er le nb nc) ++ [(o, eD T fo)]) (some (Value.int 1)) H from Or.inr ⟨by rw [hf9]; decide, by rw [hf9]; rfl, hP⟩) hS (Nat.le_of_ble_eq_true rfl) (Nat.le_of_ble_eq_true rfl) dL_share_13
    · exact absurd hf9 (r_wi _ _ _).2
  · obtain ⟨hF0, rfl⟩ := hp9
    refine W.eq (g2 := F0 m 7 ls [.double (shr N Z d), .int 0, .ref o]) rfl ?_
    refine dst0 hx hb hkx hP hD hS 100 rfl dL_share_7 (fun H locs hP hD hS => ?_)
    have hP : va_P G vwCl ((wMain T q a N Z b M Y sc tx L cu er le nb nc) ++ [(o, eD T (shr N Z d))]) H := hP
    have hD : va_D A ((wMain T q a N Z b M Y sc tx L cu er le nb nc) ++ [(o, eD T (shr N Z d))]) := hD
    refine lv_goto (tgt := 14) hx hb dL_share_8 (by decide) ?_
    refine lv_iconst (v := 0) hx hb dL_share_14 (by decide) ?_
    exact hret _ _ _ _ _ _ _ (show wrP G (dyF d) (cmA (dyF d)) ((wMain T q a N Z b M Y sc tx L cu er le nb nc) ++ [(o, eD T (shr N Z d))]) ((wMain T q a N Z b M Y sc tx L cu er le nb nc) ++ [(o, eD T fo)]) (some (Value.int 0)) H from Or.inl ⟨hF0, rfl, hP⟩) hS (Nat.le_of_ble_eq_true rfl) (Nat.le_of_ble_eq_true rfl) dL_share_15

theorem idL_append : yL_append.cls ≠ "java/lang/invoke/MethodHandle" ∧ yL_append.cls ≠ "java/lang/invoke/VarHandle" ∧ (parseMethodDescriptor yL_append.desc).map (fun d => d.parameters.length) = some 3 := by decide +kernel

set_option maxHeartbeats 4000000 in
set_option maxRecDepth 100000 in
theorem mL_append (l : Launch) (hl0 : l.stackTraces = false) {G : va_G} {T : Nat → ClassId} {sa : Nat → Nat} {A9 : Nat → Prop} {H0 : Heap} {q : Nat → Nat} {a : Nat → Nat} {N : Nat → Nat} {Z : Nat → Nat → Int32} {b : Nat → Nat → Nat} {M : Nat → Nat → Nat} {Y : Nat → Nat → Nat → Int32} {sc : Nat} {tx : Nat → Int32} {L : Nat} {cu : Nat} {er : Int32} {le : Int32} {nb : Nat → Int32} {nc : Nat} {x : Int32} {o : Nat} {fo : Int64} (hP : va_P G vwCl ((wMain T q a N Z b M Y sc tx L cu er le nb nc) ++ [(o, eL T fo)]) H0) (hD : va_D (fun _ => True) ((wMain T q a N Z b M Y sc tx L cu er le nb nc) ++ [(o, eL T fo)])) (h9 : ∀ q, H0.size ≤ q → A9 q) (hwf : wf N Z) (hsc : sc ≤ 4) (hL : L ≤ 100) : lwr l yL_append wsL_append 8 125 2 [.ref (q 0), .int x, .ref o] G T sa A9 H0 ((wMain T q a N Z b M Y sc tx L cu er le nb nc) ++ [(o, eL T fo)]) (wrP G (sq (wiF x 0 127) (poF (bI (decide (L < 100))))) (cmA (sq (wiF x 0 127) (poF (bI (decide (L < 100)))))) ((wMain T q a N Z b M Y sc (upd tx L x) (L + 1) cu er le nb nc) ++ [(o, eL T (Int32.toInt64 (nI (L + 1))))]) ((wMain T q a N Z b M Y sc tx L cu er le nb nc) ++ [(o, eL T fo)])) := by
  refine lwr_of (cc := cL_append) (maxL := 4) (hh := [(0, 9, 12, 13), (0, 9, 15, 15)]) (own := RL) (by decide +kernel) rfl rfl (Nat.le_of_ble_eq_true rfl) h9 hD ?_
  intro p e s m below meth c Q ls A S hkx hth hnc htab hl hD hS hA hret
  obtain ⟨hx, hb, hml, hown, hts⟩ := id S
  have hl : lv_has ls 4 [(0, .ref (q 0)), (1, .int x), (2, .ref o)] := hl
  have kC13 := hts (.classLink RL 13 eA) (by decide +kernel)
  have kC15 := hts (.classLink RL 15 eS) (by decide +kernel)
  refine lv_aload_n hx hb dL_append_0 rfl (lv_at hl 2 rfl) ?_
  refine lv_iconst (v := 0) hx hb dL_append_1 (by decide) ?_
  refine lv_aload_n hx hb dL_append_2 rfl (lv_at hl 0 rfl) ?_
  refine lv_iload_n hx hb dL_append_3 rfl (lv_at hl 1 rfl) ?_
  refine tx_V S hkx hth (mX5_append l hl0 (sa := sa) (q := q) (a := a) (N := N) (Z := Z) (b := b) (M := M) (Y := Y) (sc := sc) (tx := tx) (L := L) (cu := cu) (er := er) (le := le) (nb := nb) (nc := nc) (x := x) (hP := P_hd hP) (hD := (D_hd hD).weaken (fun _ _ _ _ => trivial)) (h9 := fun _ h => h) (hwf := hwf) (hsc := hsc) (hL := hL)) gL_append_X5_append rfl idX5_append ⟨Nat.le_of_ble_eq_true rfl, Nat.le_of_ble_eq_true rfl⟩ hP 0 rfl rfl rfl rfl hl.1 rfl (Nat.le_of_ble_eq_true rfl) dL_append_4 ⟨Nat.le_of_ble_eq_true rfl, Nat.le_of_ble_eq_true rfl⟩ hS (fr_in (D_hd hD) hA) (fun E ce q9 H locs hpx hq9 hv9 hc9 hz9 hk9 hS => ?_) (fun v H locs hp9 hz1 hk1 hS => ?_)
  · have hP : va_P G vwCl ((wMain T q a N Z b M Y sc tx L cu er le nb nc) ++ [(o, eL T fo)]) H := P_old hP hk9
    rcases hpx with ⟨hf9, rfl⟩ | ⟨hf9, rfl⟩ | ⟨hf9, rfl⟩
    · exact absurd hf9 (r_sq (r_wi _ _ _).1 (r_po _).1)
    · refine vx_catch hown [] ⟨0, 9, 12, 13⟩ [⟨0, 9, 15, 15⟩] htab (fun z hz => by cases hz) (by decide) (by decide) kC13 (va_Nw.use rfl hth.1.2.2.2.2.1) hq9 hv9 hc9 ?_
      refine W.eq (g2 := F0 m 12 ls [.ref q9]) rfl ?_
      refine lv_astore_n (lv' := [(3, .ref q9), (0, .ref (q 0)), (1, .int x), (2, .ref o)]) hx hb dL_append_12 rfl hl (by decide) rfl (fun ls hl => ?_)
      refine lv_iconst (v := 1) hx hb dL_append_13 (by decide) ?_
      exact hret _ _ _ _ _ _ _ (show wrP G (sq (wiF x 0 127) (poF (bI (decide (L < 100))))) (cmA (sq (wiF x 0 127) (poF (bI (decide (L < 100)))))) ((wMain T q a N Z b M Y sc (upd tx L x) (L + 1) cu er le nb nc) ++ [(o, eL T (Int32.toInt64 (nI (L + 1))))]) ((wMain T q a N Z b M Y sc tx L cu er le nb nc) ++ [(o, eL T fo)]) (some (Value.int 1)) H from Or.inr ⟨by rw [hf9]; decide, by rw [hf9]; rfl, hP⟩) hS (Nat.le_of_ble_eq_true rfl) (Nat.le_of_ble_eq_true rfl) dL_append_14
    · refine vx_catch hown [⟨0, 9, 12, 13⟩] ⟨0, 9, 15, 15⟩ [] htab (fun z hz => by
        rcases List.mem_singleton.mp hz with rfl
        exact Or.inr ⟨by decide, eA, kC13, hnc.1⟩) (by decide) (by decide) kC15 (va_Nw.use rfl hth.1.2.2.2.2.2) hq9 hv9 hc9 ?_
      refine W.eq (g2 := F0 m 15 ls [.ref q9]) rfl ?_
      refine lv_astore_n (lv' := [(3, .ref q9), (0, .ref (q 0)), (1, .int x), (2, .ref o)]) hx hb dL_append_15 rfl hl (by decide) rfl (fun ls hl => ?_)
      refine lv_iconst (v := 2) hx hb dL_append_16 (by decide) ?_
      exact hret _ _ _ _ _ _ _ (show wrP G (sq (wiF x 0 127) (poF (bI (decide (L < 100))))) (cmA (sq (wiF x 0 127) (poF (bI (decide (L < 100)))))) ((wMain T q a N Z b M Y sc (upd tx L x) (L + 1) cu er le nb nc) ++ [(o, eL T (Int32.toInt64 (nI (L + 1))))]) ((wMain T q a N Z b M Y sc tx L cu er le nb nc) ++ [(o, eL T fo)]) (some (Value.int 2)) H from Or.inr ⟨by rw [hf9]; decide, by rw [hf9]; rfl, hP⟩) hS (Nat.le_of_ble_eq_true rfl) (Nat.le_of_ble_eq_true rfl) dL_append_17
  · obtain ⟨hF0, rfl, hPc⟩ := hp9
    obtain ⟨hP, hD⟩ := fr_hd hP hD hk1 hPc (List.Perm.refl _)
    have hP : va_P G vwCl ((wMain T q a N Z b M Y sc (upd tx L x) (L + 1) cu er le nb nc) ++ [(o, eL T fo)]) H := hP
    have hD : va_D A ((wMain T q a N Z b M Y sc (upd tx L x) (L + 1) cu er le nb nc) ++ [(o, eL T fo)]) := hD
    refine W.eq (g2 := F0 m 7 ls [.int (nI (L + 1)), .int 0, .ref o]) rfl ?_
    refine lv_i2l hx hb dL_append_7 rfl ?_
    refine lst0 hx hb hkx hP hD hS 100 rfl dL_append_8 (fun H locs hP hD hS => ?_)
    have hP : va_P G vwCl ((wMain T q a N Z b M Y sc (upd tx L x) (L + 1) cu er le nb nc) ++ [(o, eL T (Int32.toInt64 (nI (L + 1))))]) H := hP
    have hD : va_D A ((wMain T q a N Z b M Y sc (upd tx L x) (L + 1) cu er le nb nc) ++ [(o, eL T (Int32.toInt64 (nI (L + 1))))]) := hD
    refine lv_goto (tgt := 18) hx hb dL_append_9 (by decide) ?_
    refine lv_iconst (v := 0) hx hb dL_append_18 (by decide) ?_
    exact hret _ _ _ _ _ _ _ (show wrP G (sq (wiF x 0 127) (poF (bI (decide (L < 100))))) (cmA (sq (wiF x 0 127) (poF (bI (decide (L < 100)))))) ((wMain T q a N Z b M Y sc (upd tx L x) (L + 1) cu er le nb nc) ++ [(o, eL T (Int32.toInt64 (nI (L + 1))))]) ((wMain T q a N Z b M Y sc tx L cu er le nb nc) ++ [(o, eL T fo)]) (some (Value.int 0)) H from Or.inl ⟨hF0, rfl, hP⟩) hS (Nat.le_of_ble_eq_true rfl) (Nat.le_of_ble_eq_true rfl) dL_append_19

theorem idL_undo : yL_undo.cls ≠ "java/lang/invoke/MethodHandle" ∧ yL_undo.cls ≠ "java/lang/invoke/VarHandle" ∧ (parseMethodDescriptor yL_undo.desc).map (fun d => d.parameters.length) = some 2 := by decide +kernel

set_option maxHeartbeats 4000000 in
set_option maxRecDepth 100000 in
theorem mL_undo (l : Launch) (hl0 : l.stackTraces = false) {G : va_G} {T : Nat → ClassId} {sa : Nat → Nat} {A9 : Nat → Prop} {H0 : Heap} {q : Nat → Nat} {a : Nat → Nat} {N : Nat → Nat} {Z : Nat → Nat → Int32} {b : Nat → Nat → Nat} {M : Nat → Nat → Nat} {Y : Nat → Nat → Nat → Int32} {sc : Nat} {tx : Nat → Int32} {L : Nat} {cu : Nat} {er : Int32} {le : Int32} {nb : Nat → Int32} {nc : Nat} {o : Nat} {fo : Int64} (hP : va_P G vwCl ((wMain T q a N Z b M Y sc tx L cu er le nb nc) ++ [(o, eL T fo)]) H0) (hD : va_D (fun _ => True) ((wMain T q a N Z b M Y sc tx L cu er le nb nc) ++ [(o, eL T fo)])) (h9 : ∀ q, H0.size ≤ q → A9 q) (hwf : wf N Z) (hsc : sc ≤ 4) : lwr l yL_undo wsL_undo 8 122 1 [.ref (q 0), .ref o] G T sa A9 H0 ((wMain T q a N Z b M Y sc tx L cu er le nb nc) ++ [(o, eL T fo)]) (wrP G (poF (bI (decide (0 < sc)))) (cmS (poF (bI (decide (0 < sc))))) ((wMain T q a (M (sc - 1)) (Y (sc - 1)) b M Y (sc - 1) tx L cu er le nb nc) ++ [(o, eL T (Int32.toInt64 (nI (sc - 1))))]) ((wMain T q a N Z b M Y sc tx L cu er le nb nc) ++ [(o, eL T fo)])) := by
  refine lwr_of (cc := cL_undo) (maxL := 3) (hh := [(0, 8, 11, 15)]) (own := RL) (by decide +kernel) rfl rfl (Nat.le_of_ble_eq_true rfl) h9 hD ?_
  intro p e s m below meth c Q ls A S hkx hth hnc htab hl hD hS hA hret
  obtain ⟨hx, hb, hml, hown, hts⟩ := id S
  have hl : lv_has ls 3 [(0, .ref (q 0)), (1, .ref o)] := hl
  have kC15 := hts (.classLink RL 15 eS) (by decide +kernel)
  refine lv_aload_n hx hb dL_undo_0 rfl (lv_at hl 1 rfl) ?_
  refine lv_iconst (v := 0) hx hb dL_undo_1 (by decide) ?_
  refine lv_aload_n hx hb dL_undo_2 rfl (lv_at hl 0 rfl) ?_
  refine tx_V S hkx hth (mX5_undo l hl0 (sa := sa) (q := q) (a := a) (N := N) (Z := Z) (b := b) (M := M) (Y := Y) (sc := sc) (tx := tx) (L := L) (cu := cu) (er := er) (le := le) (nb := nb) (nc := nc) (hP := P_hd hP) (hD := (D_hd hD).weaken (fun _ _ _ _ => trivial)) (h9 := fun _ h => h) (hwf := hwf) (hsc := hsc)) gL_undo_X5_undo rfl idX5_undo ⟨Nat.le_of_ble_eq_true rfl, Nat.le_of_ble_eq_true rfl⟩ hP 0 rfl rfl rfl rfl hl.1 rfl (Nat.le_of_ble_eq_true rfl) dL_undo_3 ⟨Nat.le_of_ble_eq_true rfl, Nat.le_of_ble_eq_true rfl⟩ hS (fr_in (D_hd hD) hA) (fun E ce q9 H locs hpx hq9 hv9 hc9 hz9 hk9 hS => ?_) (fun v H locs hp9 hz1 hk1 hS => ?_)
  · have hP : va_P G vwCl ((wMain T q a N Z b M Y sc tx L cu er le nb nc) ++ [(o, eL T fo)]) H := P_old hP hk9
    rcases hpx with ⟨hf9, rfl⟩ | ⟨hf9, rfl⟩ | ⟨hf9, rfl⟩
    · exact absurd hf9 (r_po _).1
    · exact absurd hf9 (r_po _).2
    · refine vx_catch hown [] ⟨0, 8, 11, 15⟩ [] htab (fun z hz => by cases hz) (by decide) (by decide) kC15 (va_Nw.use rfl hth.1.2.2.2.2.2) hq9 hv9 hc9 ?_
      refine W.eq (g2 := F0 m 11 ls [.ref q9]) rfl ?_
      refine lv_astore_n (lv' := [(2, .ref q9), (0, .ref (q 0)), (1, .ref o)]) hx hb dL_undo_11 rfl hl (by decide) rfl (fun ls hl => ?_)
      refine lv_iconst (v := 1) hx hb dL_undo_12 (by decide) ?_
      exact hret _ _ _ _ _ _ _ (show wrP G (poF (bI (decide (0 < sc)))) (cmS (poF (bI (decide (0 < sc))))) ((wMain T q a (M (sc - 1)) (Y (sc - 1)) b M Y (sc - 1) tx L cu er le nb nc) ++ [(o, eL T (Int32.toInt64 (nI (sc - 1))))]) ((wMain T q a N Z b M Y sc tx L cu er le nb nc) ++ [(o, eL T fo)]) (some (Value.int 1)) H from Or.inr ⟨by rw [hf9]; decide, by rw [hf9]; rfl, hP⟩) hS (Nat.le_of_ble_eq_true rfl) (Nat.le_of_ble_eq_true rfl) dL_undo_13
  · obtain ⟨hF0, rfl, hPc⟩ := hp9
    obtain ⟨hP, hD⟩ := fr_hd hP hD hk1 hPc (List.Perm.refl _)
    have hP : va_P G vwCl ((wMain T q a (M (sc - 1)) (Y (sc - 1)) b M Y (sc - 1) tx L cu er le nb nc) ++ [(o, eL T fo)]) H := hP
    have hD : va_D A ((wMain T q a (M (sc - 1)) (Y (sc - 1)) b M Y (sc - 1) tx L cu er le nb nc) ++ [(o, eL T fo)]) := hD
    refine W.eq (g2 := F0 m 6 ls [.int (nI (sc - 1)), .int 0, .ref o]) rfl ?_
    refine lv_i2l hx hb dL_undo_6 rfl ?_
    refine lst0 hx hb hkx hP hD hS 100 rfl dL_undo_7 (fun H locs hP hD hS => ?_)
    have hP : va_P G vwCl ((wMain T q a (M (sc - 1)) (Y (sc - 1)) b M Y (sc - 1) tx L cu er le nb nc) ++ [(o, eL T (Int32.toInt64 (nI (sc - 1))))]) H := hP
    have hD : va_D A ((wMain T q a (M (sc - 1)) (Y (sc - 1)) b M Y (sc - 1) tx L cu er le nb nc) ++ [(o, eL T (Int32.toInt64 (nI (sc - 1))))]) := hD
    refine lv_goto (tgt := 14) hx hb dL_undo_8 (by decide) ?_
    refine lv_iconst (v := 0) hx hb dL_undo_14 (by decide) ?_
    exact hret _ _ _ _ _ _ _ (show wrP G (poF (bI (decide (0 < sc)))) (cmS (poF (bI (decide (0 < sc))))) ((wMain T q a (M (sc - 1)) (Y (sc - 1)) b M Y (sc - 1) tx L cu er le nb nc) ++ [(o, eL T (Int32.toInt64 (nI (sc - 1))))]) ((wMain T q a N Z b M Y sc tx L cu er le nb nc) ++ [(o, eL T fo)]) (some (Value.int 0)) H from Or.inl ⟨hF0, rfl, hP⟩) hS (Nat.le_of_ble_eq_true rfl) (Nat.le_of_ble_eq_true rfl) dL_undo_15
