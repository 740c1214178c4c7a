theorem idX1_readOrder : yX1_readOrder.cls = RX1 ∧ yX1_readOrder.cls ≠ "java/lang/invoke/MethodHandle" ∧ yX1_readOrder.cls ≠ "java/lang/invoke/VarHandle" ∧ (parseMethodDescriptor yX1_readOrder.desc).map (fun d => d.parameters.length) = some 0 := by decide +kernel

set_option maxHeartbeats 4000000 in
set_option maxRecDepth 100000 in
theorem mX1_readOrder (l : Launch) {G : va_G} {T : Nat → ClassId} {kk vv : Nat → Nat} {A9 : Nat → Prop} {H0 : Heap} {q : Nat → Nat} {a : Nat → Nat} {N : Nat → Nat} {Z : Nat → Nat → Int32} {b : Nat → Nat → Nat} {M : Nat → Nat → Nat} {Y : Nat → Nat → Nat → Int32} {sc : Nat} {tx : Nat → Int32} {L : Nat} {cu : Nat} {er : Int32} {le : Int32} {nb : Nat → Int32} {nc : Nat} (hP : va_P G vwCl (wMain T q a N Z b M Y sc tx L cu er le nb nc) H0) (hD : va_D (fun _ => True) (wMain T q a N Z b M Y sc tx L cu er le nb nc)) (h9 : ∀ q9, va_A (wMain T q a N Z b M Y sc tx L cu er le nb nc) H0.size q9 → A9 q9) (hL : L ≤ 100) (hcu : cu ≤ L) : mus l yX1_readOrder wsX1_readOrder 4 85 [.ref (q 2)] G T kk vv A9 H0 (wMain T q a N Z b M Y sc tx L cu er le nb nc) (roO G T q a N Z b M Y sc tx L cu er le nb nc) := by
  refine mus_ofi (cc := cX1_readOrder) (maxL := 3) (ret := .boolean) (own := RX1) (by decide +kernel) rfl rfl (Nat.le_of_ble_eq_true rfl) hD h9 ?_
  intro p e s m below meth c Q ls A S hkx hst0 hl hD hS hA hret
  obtain ⟨hx, hb, hml, hown, hts⟩ := id S
  have hl : lv_has ls 3 [(0, .ref (q 2))] := hl
  have k19 := hts (.fieldLink RX1 19 "SunsetDates$Orders" "cursor" "I") (by decide +kernel)
  have iX1 : ∀ w ∈ wsX10, w ∈ wsX1_readOrder := by decide +kernel
  have k15 := hts (.fieldLink RX1 15 "SunsetDates$Orders" "length" "I") (by decide +kernel)
  have k9 := hts (.fieldLink RX1 9 "SunsetDates$Orders" "text" "[B") (by decide +kernel)
  have k25 := hts (.fieldLink RX1 25 "SunsetDates$Orders" "letter" "I") (by decide +kernel)
  have k32 := hts (.fieldLink RX1 32 "SunsetDates$Orders" "numberCount" "I") (by decide +kernel)
  refine lv_aload_n hx hb dX1_readOrder_0 rfl (lv_at hl 0 rfl) ?_
  refine va_get (D := G) (ci := 1) (C := RX1) (T := TX1) (N := 7) hx hb hts iX1 hown hkx.1 hP 2 rfl rfl 2 (by decide) k19 (fun _ h9 => h9) rfl dX1_readOrder_1 ?_
  refine lv_aload_n hx hb dX1_readOrder_4 rfl (lv_at hl 0 rfl) ?_
  refine va_get (D := G) (ci := 1) (C := RX1) (T := TX1) (N := 7) hx hb hts iX1 hown hkx.1 hP 2 rfl rfl 1 (by decide) k15 (fun _ h9 => h9) rfl dX1_readOrder_5 ?_
  refine lv_icmp_lt (tgt := 13) hx hb dX1_readOrder_8 (by decide) (fun c_1 => ?_) (fun c_1 => ?_)
  · replace c_1 := cn_lt (a := cu) (b := L) (by omega) (by omega) c_1
    have hlt : cu < L := by omega
    refine lv_aload_n hx hb dX1_readOrder_13 rfl (lv_at hl 0 rfl) ?_
    refine lv_aload_n hx hb dX1_readOrder_14 rfl (lv_at hl 0 rfl) ?_
    refine va_get (D := G) (ci := 1) (C := RX1) (T := TX1) (N := 7) hx hb hts iX1 hown hkx.1 hP 2 rfl rfl 0 (by decide) k9 (fun _ h9 => h9) rfl dX1_readOrder_15 ?_
    refine lv_aload_n hx hb dX1_readOrder_18 rfl (lv_at hl 0 rfl) ?_
    refine va_get (D := G) (ci := 1) (C := RX1) (T := TX1) (N := 7) hx hb hts iX1 hown hkx.1 hP 2 rfl rfl 2 (by decide) k19 (fun _ h9 => h9) rfl dX1_readOrder_19 ?_
    refine ba hx hb hkx hP 3 rfl cu rfl (by omega) (by decide) dX1_readOrder_22 ?_
    refine va_put (D := G) (ci := 1) (v := .int (tx cu)) (ty := .int) (C := RX1) (T := TX1) (N := 7) hx hb hts iX1 tyX1 tyX1_ok nmX1 hown hkx.1 hP hD hS 2 rfl rfl 4 (by decide) k25 (fun _ h9 => h9) rfl (by decide +kernel) rfl rfl (Nat.le_of_ble_eq_true rfl) dX1_readOrder_23 (fun H locs hP hD hS => ?_)
    have hP : va_P G vwCl (wMain T q a N Z b M Y sc tx L cu er (tx cu) nb nc) H := hP
    have hD : va_D A (wMain T q a N Z b M Y sc tx L cu er (tx cu) nb nc) := hD
    refine lv_aload_n hx hb dX1_readOrder_26 rfl (lv_at hl 0 rfl) ?_
    refine va_get (D := G) (ci := 1) (C := RX1) (T := TX1) (N := 7) hx hb hts iX1 hown hkx.1 hP 2 rfl rfl 4 (by decide) k25 (fun _ h9 => h9) rfl dX1_readOrder_27 ?_
    by_cases e_112 : tx cu = 112
    · have hpo : pSg tx L (tx cu) (pok cu []) = pok (cu + 1) [] := if_pos (if_pos hlt)
      have hst := hst0.kept hS.2.1
      refine rg_S S sts_stb hst (mX1_partsOf l (le := (tx cu))) gX1_readOrder_X1_partsOf rfl idX1_partsOf.2 ⟨Nat.le_of_ble_eq_true rfl, Nat.le_of_ble_eq_true rfl⟩ rfl hl.1 rfl (Nat.le_of_ble_eq_true rfl) dX1_readOrder_30 ⟨Nat.le_refl _, Nat.le_refl _⟩ (fun r9 hr9 => ?_)
      subst hr9
      rw [show pix (tx cu) = 0 by rw [e_112]; rfl]
      refine W.eq (g2 := F0 m 33 ls [.ref (kk 0)]) rfl ?_
      refine lv_astore_n (lv' := [(1, .ref (kk 0)), (0, .ref (q 2))]) hx hb dX1_readOrder_33 rfl hl (by decide) rfl (fun ls hl => ?_)
      refine lv_aload_n hx hb dX1_readOrder_34 rfl (lv_at hl 0 rfl) ?_
      have hst := hst0.kept hS.2.1
      have hsg := sts_g hst 0 (by decide)
      refine rg_V S sgs_stb hsg (mJ0_isEmpty l (by decide)) gX1_readOrder_J0_isEmpty_aae02 rfl idJ0_isEmpty ⟨Nat.le_of_ble_eq_true rfl, Nat.le_of_ble_eq_true rfl⟩ (sgs_rc hsg) rfl hl.1 rfl (Nat.le_of_ble_eq_true rfl) dX1_readOrder_35 ⟨Nat.le_refl _, Nat.le_refl _⟩ (fun r9 hr9 => ?_)
      subst hr9
      refine W.eq (g2 := F0 m 38 ls [.int 0]) rfl ?_
      refine lv_if_eq (tgt := 50) hx hb dX1_readOrder_38 (by decide) (fun c_2 => ?_) (fun c_2 => ?_)
      · replace c_2 := cn_eq (a := 0) (b := 0) (by omega) (by omega) c_2
        refine lv_aload_n hx hb dX1_readOrder_50 rfl (lv_at hl 1 rfl) ?_
        refine lv_dup hx hb dX1_readOrder_51 rfl ?_
        refine va_get (D := G) (ci := 1) (C := RX1) (T := TX1) (N := 7) hx hb hts iX1 hown hkx.1 hP 2 rfl rfl 2 (by decide) k19 (fun _ h9 => h9) rfl dX1_readOrder_52 ?_
        refine lv_iconst (v := 1) hx hb dX1_readOrder_55 (by decide) ?_
        refine lv_iadd hx hb dX1_readOrder_56 ?_
        rw [show ((nI cu) + 1) = (nI (cu + 1)) from nI_add cu 1]
        refine va_put (D := G) (ci := 1) (v := .int (nI (cu + 1))) (ty := .int) (C := RX1) (T := TX1) (N := 7) hx hb hts iX1 tyX1 tyX1_ok nmX1 hown hkx.1 hP hD hS 2 rfl rfl 2 (by decide) k19 (fun _ h9 => h9) rfl (by decide +kernel) rfl rfl (Nat.le_of_ble_eq_true rfl) dX1_readOrder_57 (fun H locs hP hD hS => ?_)
        have hP : va_P G vwCl (wMain T q a N Z b M Y sc tx L (cu + 1) er (tx cu) nb nc) H := hP
        have hD : va_D A (wMain T q a N Z b M Y sc tx L (cu + 1) er (tx cu) nb nc) := hD
        refine lv_aload_n hx hb dX1_readOrder_60 rfl (lv_at hl 1 rfl) ?_
        refine lv_iconst (v := 0) hx hb dX1_readOrder_61 (by decide) ?_
        refine va_put (D := G) (ci := 1) (v := .int 0) (ty := .int) (C := RX1) (T := TX1) (N := 7) hx hb hts iX1 tyX1 tyX1_ok nmX1 hown hkx.1 hP hD hS 2 rfl rfl 6 (by decide) k32 (fun _ h9 => h9) rfl (by decide +kernel) rfl rfl (Nat.le_of_ble_eq_true rfl) dX1_readOrder_62 (fun H locs hP hD hS => ?_)
        have hP : va_P G vwCl (wMain T q a N Z b M Y sc tx L (cu + 1) er (tx cu) nb 0) H := hP
        have hD : va_D A (wMain T q a N Z b M Y sc tx L (cu + 1) er (tx cu) nb 0) := hD
        refine lv_iconst (v := 0) hx hb dX1_readOrder_65 (by decide) ?_
        refine lv_istore_n (lv' := [(2, .int 0), (1, .ref (kk 0)), (0, .ref (q 2))]) hx hb dX1_readOrder_66 rfl hl (by decide) rfl (fun ls hl => ?_)
        refine lv_iload_n hx hb dX1_readOrder_67 rfl (lv_at hl 0 rfl) ?_
        refine lv_aload_n hx hb dX1_readOrder_68 rfl (lv_at hl 1 rfl) ?_
        have hst := hst0.kept hS.2.1
        have hsg := sts_g hst 0 (by decide)
        refine rg_V S sgs_stb hsg (mJ0_length l) gX1_readOrder_J0_length_8abf5 rfl idJ0_length ⟨Nat.le_of_ble_eq_true rfl, Nat.le_of_ble_eq_true rfl⟩ (sgs_rc hsg) rfl hl.1 rfl (Nat.le_of_ble_eq_true rfl) dX1_readOrder_69 ⟨Nat.le_refl _, Nat.le_refl _⟩ (fun r9 hr9 => ?_)
        subst hr9
        refine W.eq (g2 := F0 m 72 ls [.int (nI 5), .int 0]) rfl ?_
        refine lv_icmp_ge (tgt := 95) hx hb dX1_readOrder_72 (by decide) (fun c_3 => ?_) (fun c_3 => ?_)
        · replace c_3 := cn_le (a := 5) (b := 0) (by omega) (by omega) c_3
          exact absurd c_3 (by decide)
        · replace c_3 := cn_nle (a := 5) (b := 0) (by omega) (by omega) c_3
          refine lv_aload_n hx hb dX1_readOrder_75 rfl (lv_at hl 2 rfl) ?_
          refine lv_aload_n hx hb dX1_readOrder_76 rfl (lv_at hl 1 rfl) ?_
          refine lv_iload_n hx hb dX1_readOrder_77 rfl (lv_at hl 0 rfl) ?_
          have hst := hst0.kept hS.2.1
          have hsg := sts_g hst 0 (by decide)
          refine rg_V S sgs_stb hsg (mJ0_charAt l (i := 0) (ch := 110) (by decide) (by decide) rfl (by decide) (by decide) rfl) gX1_readOrder_J0_charAt_5068e rfl idJ0_charAt ⟨Nat.le_of_ble_eq_true rfl, Nat.le_of_ble_eq_true rfl⟩ (sgs_rc hsg) rfl hl.1 rfl (Nat.le_of_ble_eq_true rfl) dX1_readOrder_78 ⟨Nat.le_refl _, Nat.le_refl _⟩ (fun r9 hr9 => ?_)
          subst hr9
          refine W.eq (g2 := F0 m 81 ls [.int 110, .ref (q 2)]) rfl ?_
          refine mu_V S hkx (mX1_readPart_n l (hP := hP) (hD := hD.weaken (fun _ _ _ _ => trivial)) (q := q) (a := a) (N := N) (Z := Z) (b := b) (M := M) (Y := Y) (sc := sc) (tx := tx) (L := L) (cu := (cu + 1)) (er := er) (le := (tx cu)) (nb := nb) (nc := 0) (hL := (by omega)) (hcu := (by omega)) (hnc := (by omega))) gX1_readOrder_X1_readPart rfl idX1_readPart ⟨Nat.le_of_ble_eq_true rfl, Nat.le_of_ble_eq_true rfl⟩ hP 2 rfl rfl rfl rfl hl.1 rfl (Nat.le_of_ble_eq_true rfl) dX1_readOrder_81 ⟨Nat.le_of_ble_eq_true rfl, Nat.le_of_ble_eq_true rfl⟩ hS (fr_in hD (fun q h => hA q (Nat.le_trans hS.1 h))) (fun v H locs hp9 hz1 hk1 hS => ?_)
          obtain ⟨rfl, hP⟩ := hp9
          have hP : va_P G vwCl (wMain T q a N Z b M Y sc tx L (if isW (chr tx L (cu + 1)) 48 57 = true then (cu + 1) + 1 else (cu + 1)) (if isW (chr tx L (cu + 1)) 48 57 = true then er else (nI (cu + 1))) (tx cu) (if isW (chr tx L (cu + 1)) 48 57 = true then upd nb 0 (tx (cu + 1) - 48) else nb) (if isW (chr tx L (cu + 1)) 48 57 = true then 0 + 1 else 0)) H := hP
          have hD : va_D A (wMain T q a N Z b M Y sc tx L (if isW (chr tx L (cu + 1)) 48 57 = true then (cu + 1) + 1 else (cu + 1)) (if isW (chr tx L (cu + 1)) 48 57 = true then er else (nI (cu + 1))) (tx cu) (if isW (chr tx L (cu + 1)) 48 57 = true then upd nb 0 (tx (cu + 1) - 48) else nb) (if isW (chr tx L (cu + 1)) 48 57 = true then 0 + 1 else 0)) := D_perm hD (List.Perm.refl _)
          refine W.eq (g2 := F0 m 84 ls [.int (bI (isW (chr tx L (cu + 1)) 48 57))]) rfl ?_
          refine lv_if_ne (tgt := 89) hx hb dX1_readOrder_84 (by decide) (fun c_4 => ?_) (fun c_4 => ?_)
          · replace c_4 := bI_n0 c_4
            have hq9 := c_4
            simp only [if_pos hq9] at hP hD
            have hlt9 := chr_w hq9
            have hP : va_P G vwCl (wMain T q a N Z b M Y sc tx L (cu + 2) er (tx cu) (upd nb 0 (tx (cu + 1) - 48)) 1) H := hP
            have hD : va_D A (wMain T q a N Z b M Y sc tx L (cu + 2) er (tx cu) (upd nb 0 (tx (cu + 1) - 48)) 1) := hD
            have hpo : (pDg tx L 9 (pSg tx L (tx cu) (pok cu []))) = pok (cu + 2) ([] ++ [(tx (cu + 1) - 48)]) := by rw [hpo]; exact if_pos (by rw [isG9]; exact hq9)
            refine lv_iinc (v := (nI 1)) (lv' := [(2, .int (nI 1)), (1, .ref (kk 0)), (0, .ref (q 2))]) hx hb dX1_readOrder_89 hl (k := 0) rfl (nI_inc 0) (by decide) rfl (fun ls hl => ?_)
            refine lv_goto (tgt := 67) hx hb dX1_readOrder_92 (by decide) ?_
            refine lv_iload_n hx hb dX1_readOrder_67 rfl (lv_at hl 0 rfl) ?_
            refine lv_aload_n hx hb dX1_readOrder_68 rfl (lv_at hl 1 rfl) ?_
            have hst := hst0.kept hS.2.1
            have hsg := sts_g hst 0 (by decide)
            refine rg_V S sgs_stb hsg (mJ0_length l) gX1_readOrder_J0_length_8abf5 rfl idJ0_length ⟨Nat.le_of_ble_eq_true rfl, Nat.le_of_ble_eq_true rfl⟩ (sgs_rc hsg) rfl hl.1 rfl (Nat.le_of_ble_eq_true rfl) dX1_readOrder_69 ⟨Nat.le_refl _, Nat.le_refl _⟩ (fun r9 hr9 => ?_)
            subst hr9
            refine W.eq (g2 := F0 m 72 ls [.int (nI 5), .int (nI 1)]) rfl ?_
            refine lv_icmp_ge (tgt := 95) hx hb dX1_readOrder_72 (by decide) (fun c_5 => ?_) (fun c_5 => ?_)
            · replace c_5 := cn_le (a := 5) (b := 1) (by omega) (by omega) c_5
              exact absurd c_5 (by decide)
            · replace c_5 := cn_nle (a := 5) (b := 1) (by omega) (by omega) c_5
              refine lv_aload_n hx hb dX1_readOrder_75 rfl (lv_at hl 2 rfl) ?_
              refine lv_aload_n hx hb dX1_readOrder_76 rfl (lv_at hl 1 rfl) ?_
              refine lv_iload_n hx hb dX1_readOrder_77 rfl (lv_at hl 0 rfl) ?_
              have hst := hst0.kept hS.2.1
              have hsg := sts_g hst 0 (by decide)
              refine rg_V S sgs_stb hsg (mJ0_charAt l (i := 1) (ch := 118) (by decide) (by decide) rfl (by decide) (by decide) rfl) gX1_readOrder_J0_charAt_5068e rfl idJ0_charAt ⟨Nat.le_of_ble_eq_true rfl, Nat.le_of_ble_eq_true rfl⟩ (sgs_rc hsg) rfl hl.1 rfl (Nat.le_of_ble_eq_true rfl) dX1_readOrder_78 ⟨Nat.le_refl _, Nat.le_refl _⟩ (fun r9 hr9 => ?_)
              subst hr9
              refine W.eq (g2 := F0 m 81 ls [.int 118, .ref (q 2)]) rfl ?_
              refine mu_V S hkx (mX1_readPart_v l (hP := hP) (hD := hD.weaken (fun _ _ _ _ => trivial)) (q := q) (a := a) (N := N) (Z := Z) (b := b) (M := M) (Y := Y) (sc := sc) (tx := tx) (L := L) (cu := (cu + 2)) (er := er) (le := (tx cu)) (nb := (upd nb 0 (tx (cu + 1) - 48))) (nc := 1) (hL := (by omega)) (hcu := (by omega)) (hnc := (by omega))) gX1_readOrder_X1_readPart rfl idX1_readPart ⟨Nat.le_of_ble_eq_true rfl, Nat.le_of_ble_eq_true rfl⟩ hP 2 rfl rfl rfl rfl hl.1 rfl (Nat.le_of_ble_eq_true rfl) dX1_readOrder_81 ⟨Nat.le_of_ble_eq_true rfl, Nat.le_of_ble_eq_true rfl⟩ hS (fr_in hD (fun q h => hA q (Nat.le_trans hS.1 h))) (fun v H locs hp9 hz1 hk1 hS => ?_)
              obtain ⟨rfl, hP⟩ := hp9
              have hP : va_P G vwCl (wMain T q a N Z b M Y sc tx L (if isW (chr tx L (cu + 2)) 48 55 = true then (cu + 2) + 1 else (cu + 2)) (if isW (chr tx L (cu + 2)) 48 55 = true then er else (nI (cu + 2))) (tx cu) (if isW (chr tx L (cu + 2)) 48 55 = true then upd (upd nb 0 (tx (cu + 1) - 48)) 1 (tx (cu + 2) - 48) else (upd nb 0 (tx (cu + 1) - 48))) (if isW (chr tx L (cu + 2)) 48 55 = true then 1 + 1 else 1)) H := hP
              have hD : va_D A (wMain T q a N Z b M Y sc tx L (if isW (chr tx L (cu + 2)) 48 55 = true then (cu + 2) + 1 else (cu + 2)) (if isW (chr tx L (cu + 2)) 48 55 = true then er else (nI (cu + 2))) (tx cu) (if isW (chr tx L (cu + 2)) 48 55 = true then upd (upd nb 0 (tx (cu + 1) - 48)) 1 (tx (cu + 2) - 48) else (upd nb 0 (tx (cu + 1) - 48))) (if isW (chr tx L (cu + 2)) 48 55 = true then 1 + 1 else 1)) := D_perm hD (List.Perm.refl _)
              refine W.eq (g2 := F0 m 84 ls [.int (bI (isW (chr tx L (cu + 2)) 48 55))]) rfl ?_
              refine lv_if_ne (tgt := 89) hx hb dX1_readOrder_84 (by decide) (fun c_6 => ?_) (fun c_6 => ?_)
              · replace c_6 := bI_n0 c_6
                have hq9 := c_6
                simp only [if_pos hq9] at hP hD
                have hlt9 := chr_w hq9
                have hP : va_P G vwCl (wMain T q a N Z b M Y sc tx L (cu + 3) er (tx cu) (upd (upd nb 0 (tx (cu + 1) - 48)) 1 (tx (cu + 2) - 48)) 2) H := hP
                have hD : va_D A (wMain T q a N Z b M Y sc tx L (cu + 3) er (tx cu) (upd (upd nb 0 (tx (cu + 1) - 48)) 1 (tx (cu + 2) - 48)) 2) := hD
                have hpo : (pDg tx L 7 (pDg tx L 9 (pSg tx L (tx cu) (pok cu [])))) = pok (cu + 3) (([] ++ [(tx (cu + 1) - 48)]) ++ [(tx (cu + 2) - 48)]) := by rw [hpo]; exact if_pos (by rw [isG7]; exact hq9)
                refine lv_iinc (v := (nI 2)) (lv' := [(2, .int (nI 2)), (1, .ref (kk 0)), (0, .ref (q 2))]) hx hb dX1_readOrder_89 hl (k := 0) rfl (nI_inc 1) (by decide) rfl (fun ls hl => ?_)
                refine lv_goto (tgt := 67) hx hb dX1_readOrder_92 (by decide) ?_
                refine lv_iload_n hx hb dX1_readOrder_67 rfl (lv_at hl 0 rfl) ?_
                refine lv_aload_n hx hb dX1_readOrder_68 rfl (lv_at hl 1 rfl) ?_
                have hst := hst0.kept hS.2.1
                have hsg := sts_g hst 0 (by decide)
                refine rg_V S sgs_stb hsg (mJ0_length l) gX1_readOrder_J0_length_8abf5 rfl idJ0_length ⟨Nat.le_of_ble_eq_true rfl, Nat.le_of_ble_eq_true rfl⟩ (sgs_rc hsg) rfl hl.1 rfl (Nat.le_of_ble_eq_true rfl) dX1_readOrder_69 ⟨Nat.le_refl _, Nat.le_refl _⟩ (fun r9 hr9 => ?_)
                subst hr9
                refine W.eq (g2 := F0 m 72 ls [.int (nI 5), .int (nI 2)]) rfl ?_
                refine lv_icmp_ge (tgt := 95) hx hb dX1_readOrder_72 (by decide) (fun c_7 => ?_) (fun c_7 => ?_)
                · replace c_7 := cn_le (a := 5) (b := 2) (by omega) (by omega) c_7
                  exact absurd c_7 (by decide)
                · replace c_7 := cn_nle (a := 5) (b := 2) (by omega) (by omega) c_7
                  refine lv_aload_n hx hb dX1_readOrder_75 rfl (lv_at hl 2 rfl) ?_
                  refine lv_aload_n hx hb dX1_readOrder_76 rfl (lv_at hl 1 rfl) ?_
                  refine lv_iload_n hx hb dX1_readOrder_77 rfl (lv_at hl 0 rfl) ?_
                  have hst := hst0.kept hS.2.1
                  have hsg := sts_g hst 0 (by decide)
                  refine rg_V S sgs_stb hsg (mJ0_charAt l (i := 2) (ch := 64) (by decide) (by decide) rfl (by decide) (by decide) rfl) gX1_readOrder_J0_charAt_5068e rfl idJ0_charAt ⟨Nat.le_of_ble_eq_true rfl, Nat.le_of_ble_eq_true rfl⟩ (sgs_rc hsg) rfl hl.1 rfl (Nat.le_of_ble_eq_true rfl) dX1_readOrder_78 ⟨Nat.le_refl _, Nat.le_refl _⟩ (fun r9 hr9 => ?_)
                  subst hr9
                  refine W.eq (g2 := F0 m 81 ls [.int 64, .ref (q 2)]) rfl ?_
                  refine mu_V S hkx (mX1_readPart_s64 l (hP := hP) (hD := hD.weaken (fun _ _ _ _ => trivial)) (q := q) (a := a) (N := N) (Z := Z) (b := b) (M := M) (Y := Y) (sc := sc) (tx := tx) (L := L) (cu := (cu + 3)) (er := er) (le := (tx cu)) (nb := (upd (upd nb 0 (tx (cu + 1) - 48)) 1 (tx (cu + 2) - 48))) (nc := 2) (hL := (by omega)) (hcu := (by omega))) gX1_readOrder_X1_readPart rfl idX1_readPart ⟨Nat.le_of_ble_eq_true rfl, Nat.le_of_ble_eq_true rfl⟩ hP 2 rfl rfl rfl rfl hl.1 rfl (Nat.le_of_ble_eq_true rfl) dX1_readOrder_81 ⟨Nat.le_of_ble_eq_true rfl, Nat.le_of_ble_eq_true rfl⟩ hS (fr_in hD (fun q h => hA q (Nat.le_trans hS.1 h))) (fun v H locs hp9 hz1 hk1 hS => ?_)
                  obtain ⟨rfl, hP⟩ := hp9
                  have hP : va_P G vwCl (wMain T q a N Z b M Y sc tx L (if chr tx L (cu + 3) = 64 then (cu + 3) + 1 else (cu + 3)) (if chr tx L (cu + 3) = 64 then er else (nI (cu + 3))) (tx cu) (upd (upd nb 0 (tx (cu + 1) - 48)) 1 (tx (cu + 2) - 48)) 2) H := hP
                  have hD : va_D A (wMain T q a N Z b M Y sc tx L (if chr tx L (cu + 3) = 64 then (cu + 3) + 1 else (cu + 3)) (if chr tx L (cu + 3) = 64 then er else (nI (cu + 3))) (tx cu) (upd (upd nb 0 (tx (cu + 1) - 48)) 1 (tx (cu + 2) - 48)) 2) := D_perm hD (List.Perm.refl _)
                  refine W.eq (g2 := F0 m 84 ls [.int (bI (decide (chr tx L (cu + 3) = 64)))]) rfl ?_
                  refine lv_if_ne (tgt := 89) hx hb dX1_readOrder_84 (by decide) (fun c_8 => ?_) (fun c_8 => ?_)
                  · replace c_8 := bI_n0 c_8
                    have hq9 : chr tx L (cu + 3) = 64 := of_decide_eq_true c_8
                    simp only [if_pos hq9] at hP hD
                    have hlt9 := chr_s (by decide) hq9
                    have hP : va_P G vwCl (wMain T q a N Z b M Y sc tx L (cu + 4) er (tx cu) (upd (upd nb 0 (tx (cu + 1) - 48)) 1 (tx (cu + 2) - 48)) 2) H := hP
                    have hD : va_D A (wMain T q a N Z b M Y sc tx L (cu + 4) er (tx cu) (upd (upd nb 0 (tx (cu + 1) - 48)) 1 (tx (cu + 2) - 48)) 2) := hD
                    have hpo : (pSg tx L 64 (pDg tx L 7 (pDg tx L 9 (pSg tx L (tx cu) (pok cu []))))) = pok (cu + 4) (([] ++ [(tx (cu + 1) - 48)]) ++ [(tx (cu + 2) - 48)]) := by rw [hpo]; exact if_pos hq9
                    refine lv_iinc (v := (nI 3)) (lv' := [(2, .int (nI 3)), (1, .ref (kk 0)), (0, .ref (q 2))]) hx hb dX1_readOrder_89 hl (k := 0) rfl (nI_inc 2) (by decide) rfl (fun ls hl => ?_)
                    refine lv_goto (tgt := 67) hx hb dX1_readOrder_92 (by decide) ?_
                    refine lv_iload_n hx hb dX1_readOrder_67 rfl (lv_at hl 0 rfl) ?_
                    refine lv_aload_n hx hb dX1_readOrder_68 rfl (lv_at hl 1 rfl) ?_
                    have hst := hst0.kept hS.2.1
                    have hsg := sts_g hst 0 (by decide)
                    refine rg_V S sgs_stb hsg (mJ0_length l) gX1_readOrder_J0_length_8abf5 rfl idJ0_length ⟨Nat.le_of_ble_eq_true rfl, Nat.le_of_ble_eq_true rfl⟩ (sgs_rc hsg) rfl hl.1 rfl (Nat.le_of_ble_eq_true rfl) dX1_readOrder_69 ⟨Nat.le_refl _, Nat.le_refl _⟩ (fun r9 hr9 => ?_)
                    subst hr9
                    refine W.eq (g2 := F0 m 72 ls [.int (nI 5), .int (nI 3)]) rfl ?_
                    refine lv_icmp_ge (tgt := 95) hx hb dX1_readOrder_72 (by decide) (fun c_9 => ?_) (fun c_9 => ?_)
                    · replace c_9 := cn_le (a := 5) (b := 3) (by omega) (by omega) c_9
                      exact absurd c_9 (by decide)
                    · replace c_9 := cn_nle (a := 5) (b := 3) (by omega) (by omega) c_9
                      refine lv_aload_n hx hb dX1_readOrder_75 rfl (lv_at hl 2 rfl) ?_
                      refine lv_aload_n hx hb dX1_readOrder_76 rfl (lv_at hl 1 rfl) ?_
                      refine lv_iload_n hx hb dX1_readOrder_77 rfl (lv_at hl 0 rfl) ?_
                      have hst := hst0.kept hS.2.1
                      have hsg := sts_g hst 0 (by decide)
                      refine rg_V S sgs_stb hsg (mJ0_charAt l (i := 3) (ch := 100) (by decide) (by decide) rfl (by decide) (by decide) rfl) gX1_readOrder_J0_charAt_5068e rfl idJ0_charAt ⟨Nat.le_of_ble_eq_true rfl, Nat.le_of_ble_eq_true rfl⟩ (sgs_rc hsg) rfl hl.1 rfl (Nat.le_of_ble_eq_true rfl) dX1_readOrder_78 ⟨Nat.le_refl _, Nat.le_refl _⟩ (fun r9 hr9 => ?_)
                      subst hr9
                      refine W.eq (g2 := F0 m 81 ls [.int 100, .ref (q 2)]) rfl ?_
                      refine mu_V S hkx (mX1_readPart_d l (hP := hP) (hD := hD.weaken (fun _ _ _ _ => trivial)) (q := q) (a := a) (N := N) (Z := Z) (b := b) (M := M) (Y := Y) (sc := sc) (tx := tx) (L := L) (cu := (cu + 4)) (er := er) (le := (tx cu)) (nb := (upd (upd nb 0 (tx (cu + 1) - 48)) 1 (tx (cu + 2) - 48))) (nc := 2) (hL := (by omega)) (hcu := (by omega)) (hnc := (by omega))) gX1_readOrder_X1_readPart rfl idX1_readPart ⟨Nat.le_of_ble_eq_true rfl, Nat.le_of_ble_eq_true rfl⟩ hP 2 rfl rfl rfl rfl hl.1 rfl (Nat.le_of_ble_eq_true rfl) dX1_readOrder_81 ⟨Nat.le_of_ble_eq_true rfl, Nat.le_of_ble_eq_true rfl⟩ hS (fr_in hD (fun q h => hA q (Nat.le_trans hS.1 h))) (fun v H locs hp9 hz1 hk1 hS => ?_)
                      obtain ⟨rfl, hP⟩ := hp9
                      have hP : va_P G vwCl (wMain T q a N Z b M Y sc tx L ((cu + 4) + ru tx L 3 (cu + 4)) (if numB tx L 3 0 (cu + 4) = true then er else (nI (numE tx L 3 (cu + 4)))) (tx cu) (if numB tx L 3 0 (cu + 4) = true then upd (upd (upd nb 0 (tx (cu + 1) - 48)) 1 (tx (cu + 2) - 48)) 2 (vn tx (cu + 4) (ru tx L 3 (cu + 4))) else (upd (upd nb 0 (tx (cu + 1) - 48)) 1 (tx (cu + 2) - 48))) (if numB tx L 3 0 (cu + 4) = true then 2 + 1 else 2)) H := hP
                      have hD : va_D A (wMain T q a N Z b M Y sc tx L ((cu + 4) + ru tx L 3 (cu + 4)) (if numB tx L 3 0 (cu + 4) = true then er else (nI (numE tx L 3 (cu + 4)))) (tx cu) (if numB tx L 3 0 (cu + 4) = true then upd (upd (upd nb 0 (tx (cu + 1) - 48)) 1 (tx (cu + 2) - 48)) 2 (vn tx (cu + 4) (ru tx L 3 (cu + 4))) else (upd (upd nb 0 (tx (cu + 1) - 48)) 1 (tx (cu + 2) - 48))) (if numB tx L 3 0 (cu + 4) = true then 2 + 1 else 2)) := D_perm hD (List.Perm.refl _)
                      refine W.eq (g2 := F0 m 84 ls [.int (bI (numB tx L 3 0 (cu + 4)))]) rfl ?_
                      refine lv_if_ne (tgt := 89) hx hb dX1_readOrder_84 (by decide) (fun c_10 => ?_) (fun c_10 => ?_)
                      · replace c_10 := bI_n0 c_10
                        have hq9 := c_10
                        simp only [if_pos hq9] at hP hD
                        have hru9 := ru_le (tx := tx) (L := L) 3 (cu + 4) (by omega)
                        have hP : va_P G vwCl (wMain T q a N Z b M Y sc tx L ((cu + 4) + ru tx L 3 (cu + 4)) er (tx cu) (upd (upd (upd nb 0 (tx (cu + 1) - 48)) 1 (tx (cu + 2) - 48)) 2 (vn tx (cu + 4) (ru tx L 3 (cu + 4)))) 3) H := hP
                        have hD : va_D A (wMain T q a N Z b M Y sc tx L ((cu + 4) + ru tx L 3 (cu + 4)) er (tx cu) (upd (upd (upd nb 0 (tx (cu + 1) - 48)) 1 (tx (cu + 2) - 48)) 2 (vn tx (cu + 4) (ru tx L 3 (cu + 4)))) 3) := hD
                        have hpo : (pNm tx L 3 0 (pSg tx L 64 (pDg tx L 7 (pDg tx L 9 (pSg tx L (tx cu) (pok cu [])))))) = pok ((cu + 4) + ru tx L 3 (cu + 4)) ((([] ++ [(tx (cu + 1) - 48)]) ++ [(tx (cu + 2) - 48)]) ++ [(vn tx (cu + 4) (ru tx L 3 (cu + 4)))]) := by rw [hpo]; exact nm_t hq9
                        refine lv_iinc (v := (nI 4)) (lv' := [(2, .int (nI 4)), (1, .ref (kk 0)), (0, .ref (q 2))]) hx hb dX1_readOrder_89 hl (k := 0) rfl (nI_inc 3) (by decide) rfl (fun ls hl => ?_)
                        refine lv_goto (tgt := 67) hx hb dX1_readOrder_92 (by decide) ?_
                        refine lv_iload_n hx hb dX1_readOrder_67 rfl (lv_at hl 0 rfl) ?_
                        refine lv_aload_n hx hb dX1_readOrder_68 rfl (lv_at hl 1 rfl) ?_
                        have hst := hst0.kept hS.2.1
                        have hsg := sts_g hst 0 (by decide)
                        refine rg_V S sgs_stb hsg (mJ0_length l) gX1_readOrder_J0_length_8abf5 rfl idJ0_length ⟨Nat.le_of_ble_eq_true rfl, Nat.le_of_ble_eq_true rfl⟩ (sgs_rc hsg) rfl hl.1 rfl (Nat.le_of_ble_eq_true rfl) dX1_readOrder_69 ⟨Nat.le_refl _, Nat.le_refl _⟩ (fun r9 hr9 => ?_)
                        subst hr9
                        refine W.eq (g2 := F0 m 72 ls [.int (nI 5), .int (nI 4)]) rfl ?_
                        refine lv_icmp_ge (tgt := 95) hx hb dX1_readOrder_72 (by decide) (fun c_11 => ?_) (fun c_11 => ?_)
                        · replace c_11 := cn_le (a := 5) (b := 4) (by omega) (by omega) c_11
                          exact absurd c_11 (by decide)
                        · replace c_11 := cn_nle (a := 5) (b := 4) (by omega) (by omega) c_11
                          refine lv_aload_n hx hb dX1_readOrder_75 rfl (lv_at hl 2 rfl) ?_
                          refine lv_aload_n hx hb dX1_readOrder_76 rfl (lv_at hl 1 rfl) ?_
                          refine lv_iload_n hx hb dX1_readOrder_77 rfl (lv_at hl 0 rfl) ?_
                          have hst := hst0.kept hS.2.1
                          have hsg := sts_g hst 0 (by decide)
                          refine rg_V S sgs_stb hsg (mJ0_charAt l (i := 4) (ch := 59) (by decide) (by decide) rfl (by decide) (by decide) rfl) gX1_readOrder_J0_charAt_5068e rfl idJ0_charAt ⟨Nat.le_of_ble_eq_true rfl, Nat.le_of_ble_eq_true rfl⟩ (sgs_rc hsg) rfl hl.1 rfl (Nat.le_of_ble_eq_true rfl) dX1_readOrder_78 ⟨Nat.le_refl _, Nat.le_refl _⟩ (fun r9 hr9 => ?_)
                          subst hr9
                          refine W.eq (g2 := F0 m 81 ls [.int 59, .ref (q 2)]) rfl ?_
                          refine mu_V S hkx (mX1_readPart_s59 l (hP := hP) (hD := hD.weaken (fun _ _ _ _ => trivial)) (q := q) (a := a) (N := N) (Z := Z) (b := b) (M := M) (Y := Y) (sc := sc) (tx := tx) (L := L) (cu := ((cu + 4) + ru tx L 3 (cu + 4))) (er := er) (le := (tx cu)) (nb := (upd (upd (upd nb 0 (tx (cu + 1) - 48)) 1 (tx (cu + 2) - 48)) 2 (vn tx (cu + 4) (ru tx L 3 (cu + 4))))) (nc := 3) (hL := (by omega)) (hcu := (by omega))) gX1_readOrder_X1_readPart rfl idX1_readPart ⟨Nat.le_of_ble_eq_true rfl, Nat.le_of_ble_eq_true rfl⟩ hP 2 rfl rfl rfl rfl hl.1 rfl (Nat.le_of_ble_eq_true rfl) dX1_readOrder_81 ⟨Nat.le_of_ble_eq_true rfl, Nat.le_of_ble_eq_true rfl⟩ hS (fr_in hD (fun q h => hA q (Nat.le_trans hS.1 h))) (fun v H locs hp9 hz1 hk1 hS => ?_)
                          obtain ⟨rfl, hP⟩ := hp9
                          have hP : va_P G vwCl (wMain T q a N Z b M Y sc tx L (if chr tx L ((cu + 4) + ru tx L 3 (cu + 4)) = 59 then ((cu + 4) + ru tx L 3 (cu + 4)) + 1 else ((cu + 4) + ru tx L 3 (cu + 4))) (if chr tx L ((cu + 4) + ru tx L 3 (cu + 4)) = 59 then er else (nI ((cu + 4) + ru tx L 3 (cu + 4)))) (tx cu) (upd (upd (upd nb 0 (tx (cu + 1) - 48)) 1 (tx (cu + 2) - 48)) 2 (vn tx (cu + 4) (ru tx L 3 (cu + 4)))) 3) H := hP
                          have hD : va_D A (wMain T q a N Z b M Y sc tx L (if chr tx L ((cu + 4) + ru tx L 3 (cu + 4)) = 59 then ((cu + 4) + ru tx L 3 (cu + 4)) + 1 else ((cu + 4) + ru tx L 3 (cu + 4))) (if chr tx L ((cu + 4) + ru tx L 3 (cu + 4)) = 59 then er else (nI ((cu + 4) + ru tx L 3 (cu + 4)))) (tx cu) (upd (upd (upd nb 0 (tx (cu + 1) - 48)) 1 (tx (cu + 2) - 48)) 2 (vn tx (cu + 4) (ru tx L 3 (cu + 4)))) 3) := D_perm hD (List.Perm.refl _)
                          refine W.eq (g2 := F0 m 84 ls [.int (bI (decide (chr tx L ((cu + 4) + ru tx L 3 (cu + 4)) = 59)))]) rfl ?_
                          refine lv_if_ne (tgt := 89) hx hb dX1_readOrder_84 (by decide) (fun c_12 => ?_) (fun c_12 => ?_)
                          · replace c_12 := bI_n0 c_12
                            have hq9 : chr tx L ((cu + 4) + ru tx L 3 (cu + 4)) = 59 := of_decide_eq_true c_12
                            simp only [if_pos hq9] at hP hD
                            have hlt9 := chr_s (by decide) hq9
                            have hP : va_P G vwCl (wMain T q a N Z b M Y sc tx L (((cu + 4) + ru tx L 3 (cu + 4)) + 1) er (tx cu) (upd (upd (upd nb 0 (tx (cu + 1) - 48)) 1 (tx (cu + 2) - 48)) 2 (vn tx (cu + 4) (ru tx L 3 (cu + 4)))) 3) H := hP
                            have hD : va_D A (wMain T q a N Z b M Y sc tx L (((cu + 4) + ru tx L 3 (cu + 4)) + 1) er (tx cu) (upd (upd (upd nb 0 (tx (cu + 1) - 48)) 1 (tx (cu + 2) - 48)) 2 (vn tx (cu + 4) (ru tx L 3 (cu + 4)))) 3) := hD
                            have hpo : (pSg tx L 59 (pNm tx L 3 0 (pSg tx L 64 (pDg tx L 7 (pDg tx L 9 (pSg tx L (tx cu) (pok cu []))))))) = pok (((cu + 4) + ru tx L 3 (cu + 4)) + 1) ((([] ++ [(tx (cu + 1) - 48)]) ++ [(tx (cu + 2) - 48)]) ++ [(vn tx (cu + 4) (ru tx L 3 (cu + 4)))]) := by rw [hpo]; exact if_pos hq9
                            refine lv_iinc (v := (nI 5)) (lv' := [(2, .int (nI 5)), (1, .ref (kk 0)), (0, .ref (q 2))]) hx hb dX1_readOrder_89 hl (k := 0) rfl (nI_inc 4) (by decide) rfl (fun ls hl => ?_)
                            refine lv_goto (tgt := 67) hx hb dX1_readOrder_92 (by decide) ?_
                            refine lv_iload_n hx hb dX1_readOrder_67 rfl (lv_at hl 0 rfl) ?_
                            refine lv_aload_n hx hb dX1_readOrder_68 rfl (lv_at hl 1 rfl) ?_
                            have hst := hst0.kept hS.2.1
                            have hsg := sts_g hst 0 (by decide)
                            refine rg_V S sgs_stb hsg (mJ0_length l) gX1_readOrder_J0_length_8abf5 rfl idJ0_length ⟨Nat.le_of_ble_eq_true rfl, Nat.le_of_ble_eq_true rfl⟩ (sgs_rc hsg) rfl hl.1 rfl (Nat.le_of_ble_eq_true rfl) dX1_readOrder_69 ⟨Nat.le_refl _, Nat.le_refl _⟩ (fun r9 hr9 => ?_)
                            subst hr9
                            refine W.eq (g2 := F0 m 72 ls [.int (nI 5), .int (nI 5)]) rfl ?_
                            refine lv_icmp_ge (tgt := 95) hx hb dX1_readOrder_72 (by decide) (fun c_13 => ?_) (fun c_13 => ?_)
                            · replace c_13 := cn_le (a := 5) (b := 5) (by omega) (by omega) c_13
                              refine lv_iconst (v := 1) hx hb dX1_readOrder_95 (by decide) ?_
                              exact hret _ _ _ _ _ (show roO G T q a N Z b M Y sc tx L cu er le nb nc (some (Value.int 1)) H from Or.inr (Or.inr ⟨hlt, (((cu + 4) + ru tx L 3 (cu + 4)) + 1), ((([] ++ [(tx (cu + 1) - 48)]) ++ [(tx (cu + 2) - 48)]) ++ [(vn tx (cu + 4) (ru tx L 3 (cu + 4)))]), by unfold prs1; rw [if_pos e_112]; exact hpo, rfl, (upd (upd (upd nb 0 (tx (cu + 1) - 48)) 1 (tx (cu + 2) - 48)) 2 (vn tx (cu + 4) (ru tx L 3 (cu + 4)))), _, nms_of (Or.inl ⟨e_112, rfl⟩), hP⟩)) rfl hS dX1_readOrder_96
                            · replace c_13 := cn_nle (a := 5) (b := 5) (by omega) (by omega) c_13
                              exact absurd c_13 (by decide)
                          · replace c_12 := bI_e0 c_12
                            have hq9 : ¬ chr tx L ((cu + 4) + ru tx L 3 (cu + 4)) = 59 := of_decide_eq_false c_12
                            simp only [if_neg hq9] at hP hD
                            have hP : va_P G vwCl (wMain T q a N Z b M Y sc tx L ((cu + 4) + ru tx L 3 (cu + 4)) (nI ((cu + 4) + ru tx L 3 (cu + 4))) (tx cu) (upd (upd (upd nb 0 (tx (cu + 1) - 48)) 1 (tx (cu + 2) - 48)) 2 (vn tx (cu + 4) (ru tx L 3 (cu + 4)))) 3) H := hP
                            have hD : va_D A (wMain T q a N Z b M Y sc tx L ((cu + 4) + ru tx L 3 (cu + 4)) (nI ((cu + 4) + ru tx L 3 (cu + 4))) (tx cu) (upd (upd (upd nb 0 (tx (cu + 1) - 48)) 1 (tx (cu + 2) - 48)) 2 (vn tx (cu + 4) (ru tx L 3 (cu + 4)))) 3) := hD
                            have hpe : (pSg tx L 59 (pNm tx L 3 0 (pSg tx L 64 (pDg tx L 7 (pDg tx L 9 (pSg tx L (tx cu) (pok cu []))))))) = per ((cu + 4) + ru tx L 3 (cu + 4)) ((cu + 4) + ru tx L 3 (cu + 4)) := by rw [hpo]; exact if_neg hq9
                            refine lv_iconst (v := 0) hx hb dX1_readOrder_87 (by decide) ?_
                            exact hret _ _ _ _ _ (show roO G T q a N Z b M Y sc tx L cu er le nb nc (some (Value.int 0)) H from Or.inr (Or.inl ⟨hlt, ((cu + 4) + ru tx L 3 (cu + 4)), ((cu + 4) + ru tx L 3 (cu + 4)), by unfold prs1; rw [if_pos e_112]; exact (show (pSg tx L 59 (pNm tx L 3 0 (pSg tx L 64 (pDg tx L 7 (pDg tx L 9 (pSg tx L (tx cu) (pok cu []))))))) = per ((cu + 4) + ru tx L 3 (cu + 4)) ((cu + 4) + ru tx L 3 (cu + 4)) from by first | exact hpe | (rw [hpe]; rfl)), rfl, _, _, _, hP⟩)) rfl hS dX1_readOrder_88
                      · replace c_10 := bI_e0 c_10
                        have hq9 := Bool.eq_false_iff.mp c_10
                        simp only [if_neg hq9] at hP hD
                        have hP : va_P G vwCl (wMain T q a N Z b M Y sc tx L ((cu + 4) + ru tx L 3 (cu + 4)) (nI (numE tx L 3 (cu + 4))) (tx cu) (upd (upd nb 0 (tx (cu + 1) - 48)) 1 (tx (cu + 2) - 48)) 2) H := hP
                        have hD : va_D A (wMain T q a N Z b M Y sc tx L ((cu + 4) + ru tx L 3 (cu + 4)) (nI (numE tx L 3 (cu + 4))) (tx cu) (upd (upd nb 0 (tx (cu + 1) - 48)) 1 (tx (cu + 2) - 48)) 2) := hD
                        have hpe : ∃ a9, (pSg tx L 59 (pNm tx L 3 0 (pSg tx L 64 (pDg tx L 7 (pDg tx L 9 (pSg tx L (tx cu) (pok cu []))))))) = per (numE tx L 3 (cu + 4)) a9 := by rw [hpo]; exact nm_f (by decide) (by decide) c_10
                        obtain ⟨a9, hpe⟩ := hpe
                        refine lv_iconst (v := 0) hx hb dX1_readOrder_87 (by decide) ?_
                        exact hret _ _ _ _ _ (show roO G T q a N Z b M Y sc tx L cu er le nb nc (some (Value.int 0)) H from Or.inr (Or.inl ⟨hlt, (numE tx L 3 (cu + 4)), a9, by unfold prs1; rw [if_pos e_112]; exact (show (pSg tx L 59 (pNm tx L 3 0 (pSg tx L 64 (pDg tx L 7 (pDg tx L 9 (pSg tx L (tx cu) (pok cu []))))))) = per (numE tx L 3 (cu + 4)) a9 from by first | exact hpe | (rw [hpe]; rfl)), rfl, _, _, _, hP⟩)) rfl hS dX1_readOrder_88
                  · replace c_8 := bI_e0 c_8
                    have hq9 : ¬ chr tx L (cu + 3) = 64 := of_decide_eq_false c_8
                    simp only [if_neg hq9] at hP hD
                    have hP : va_P G vwCl (wMain T q a N Z b M Y sc tx L (cu + 3) (nI (cu + 3)) (tx cu) (upd (upd nb 0 (tx (cu + 1) - 48)) 1 (tx (cu + 2) - 48)) 2) H := hP
                    have hD : va_D A (wMain T q a N Z b M Y sc tx L (cu + 3) (nI (cu + 3)) (tx cu) (upd (upd nb 0 (tx (cu + 1) - 48)) 1 (tx (cu + 2) - 48)) 2) := hD
                    have hpe : (pSg tx L 64 (pDg tx L 7 (pDg tx L 9 (pSg tx L (tx cu) (pok cu []))))) = per (cu + 3) (cu + 3) := by rw [hpo]; exact if_neg hq9
                    refine lv_iconst (v := 0) hx hb dX1_readOrder_87 (by decide) ?_
                    exact hret _ _ _ _ _ (show roO G T q a N Z b M Y sc tx L cu er le nb nc (some (Value.int 0)) H from Or.inr (Or.inl ⟨hlt, (cu + 3), (cu + 3), by unfold prs1; rw [if_pos e_112]; exact (show (pSg tx L 59 (pNm tx L 3 0 (pSg tx L 64 (pDg tx L 7 (pDg tx L 9 (pSg tx L (tx cu) (pok cu []))))))) = per (cu + 3) (cu + 3) from by first | exact hpe | (rw [hpe]; rfl)), rfl, _, _, _, hP⟩)) rfl hS dX1_readOrder_88
              · replace c_6 := bI_e0 c_6
                have hq9 := Bool.eq_false_iff.mp c_6
                simp only [if_neg hq9] at hP hD
                have hP : va_P G vwCl (wMain T q a N Z b M Y sc tx L (cu + 2) (nI (cu + 2)) (tx cu) (upd nb 0 (tx (cu + 1) - 48)) 1) H := hP
                have hD : va_D A (wMain T q a N Z b M Y sc tx L (cu + 2) (nI (cu + 2)) (tx cu) (upd nb 0 (tx (cu + 1) - 48)) 1) := hD
                have hpe : (pDg tx L 7 (pDg tx L 9 (pSg tx L (tx cu) (pok cu [])))) = per (cu + 2) (cu + 2) := by rw [hpo]; exact if_neg (by rw [isG7]; exact hq9)
                refine lv_iconst (v := 0) hx hb dX1_readOrder_87 (by decide) ?_
                exact hret _ _ _ _ _ (show roO G T q a N Z b M Y sc tx L cu er le nb nc (some (Value.int 0)) H from Or.inr (Or.inl ⟨hlt, (cu + 2), (cu + 2), by unfold prs1; rw [if_pos e_112]; exact (show (pSg tx L 59 (pNm tx L 3 0 (pSg tx L 64 (pDg tx L 7 (pDg tx L 9 (pSg tx L (tx cu) (pok cu []))))))) = per (cu + 2) (cu + 2) from by first | exact hpe | (rw [hpe]; rfl)), rfl, _, _, _, hP⟩)) rfl hS dX1_readOrder_88
          · replace c_4 := bI_e0 c_4
            have hq9 := Bool.eq_false_iff.mp c_4
            simp only [if_neg hq9] at hP hD
            have hP : va_P G vwCl (wMain T q a N Z b M Y sc tx L (cu + 1) (nI (cu + 1)) (tx cu) nb 0) H := hP
            have hD : va_D A (wMain T q a N Z b M Y sc tx L (cu + 1) (nI (cu + 1)) (tx cu) nb 0) := hD
            have hpe : (pDg tx L 9 (pSg tx L (tx cu) (pok cu []))) = per (cu + 1) (cu + 1) := by rw [hpo]; exact if_neg (by rw [isG9]; exact hq9)
            refine lv_iconst (v := 0) hx hb dX1_readOrder_87 (by decide) ?_
            exact hret _ _ _ _ _ (show roO G T q a N Z b M Y sc tx L cu er le nb nc (some (Value.int 0)) H from Or.inr (Or.inl ⟨hlt, (cu + 1), (cu + 1), by unfold prs1; rw [if_pos e_112]; exact (show (pSg tx L 59 (pNm tx L 3 0 (pSg tx L 64 (pDg tx L 7 (pDg tx L 9 (pSg tx L (tx cu) (pok cu []))))))) = per (cu + 1) (cu + 1) from by first | exact hpe | (rw [hpe]; rfl)), rfl, _, _, _, hP⟩)) rfl hS dX1_readOrder_88
      · replace c_2 := cn_ne (a := 0) (b := 0) (by omega) (by omega) c_2
        exact absurd c_2 (by decide)
    by_cases e_108 : tx cu = 108
    · have hpo : pSg tx L (tx cu) (pok cu []) = pok (cu + 1) [] := if_pos (if_pos hlt)
      have hst := hst0.kept hS.2.1
      refine rg_S S sts_stb hst (mX1_partsOf l (le := (tx cu))) gX1_readOrder_X1_partsOf rfl idX1_partsOf.2 ⟨Nat.le_of_ble_eq_true rfl, Nat.le_of_ble_eq_true rfl⟩ rfl hl.1 rfl (Nat.le_of_ble_eq_true rfl) dX1_readOrder_30 ⟨Nat.le_refl _, Nat.le_refl _⟩ (fun r9 hr9 => ?_)
      subst hr9
      rw [show pix (tx cu) = 1 by rw [e_108]; rfl]
      refine W.eq (g2 := F0 m 33 ls [.ref (kk 1)]) rfl ?_
      refine lv_astore_n (lv' := [(1, .ref (kk 1)), (0, .ref (q 2))]) hx hb dX1_readOrder_33 rfl hl (by decide) rfl (fun ls hl => ?_)
      refine lv_aload_n hx hb dX1_readOrder_34 rfl (lv_at hl 0 rfl) ?_
      have hst := hst0.kept hS.2.1
      have hsg := sts_g hst 1 (by decide)
      refine rg_V S sgs_stb hsg (mJ0_isEmpty l (by decide)) gX1_readOrder_J0_isEmpty_aae02 rfl idJ0_isEmpty ⟨Nat.le_of_ble_eq_true rfl, Nat.le_of_ble_eq_true rfl⟩ (sgs_rc hsg) rfl hl.1 rfl (Nat.le_of_ble_eq_true rfl) dX1_readOrder_35 ⟨Nat.le_refl _, Nat.le_refl _⟩ (fun r9 hr9 => ?_)
      subst hr9
      refine W.eq (g2 := F0 m 38 ls [.int 0]) rfl ?_
      refine lv_if_eq (tgt := 50) hx hb dX1_readOrder_38 (by decide) (fun c_14 => ?_) (fun c_14 => ?_)
      · replace c_14 := cn_eq (a := 0) (b := 0) (by omega) (by omega) c_14
        refine lv_aload_n hx hb dX1_readOrder_50 rfl (lv_at hl 1 rfl) ?_
        refine lv_dup hx hb dX1_readOrder_51 rfl ?_
        refine va_get (D := G) (ci := 1) (C := RX1) (T := TX1) (N := 7) hx hb hts iX1 hown hkx.1 hP 2 rfl rfl 2 (by decide) k19 (fun _ h9 => h9) rfl dX1_readOrder_52 ?_
        refine lv_iconst (v := 1) hx hb dX1_readOrder_55 (by decide) ?_
        refine lv_iadd hx hb dX1_readOrder_56 ?_
        rw [show ((nI cu) + 1) = (nI (cu + 1)) from nI_add cu 1]
        refine va_put (D := G) (ci := 1) (v := .int (nI (cu + 1))) (ty := .int) (C := RX1) (T := TX1) (N := 7) hx hb hts iX1 tyX1 tyX1_ok nmX1 hown hkx.1 hP hD hS 2 rfl rfl 2 (by decide) k19 (fun _ h9 => h9) rfl (by decide +kernel) rfl rfl (Nat.le_of_ble_eq_true rfl) dX1_readOrder_57 (fun H locs hP hD hS => ?_)
        have hP : va_P G vwCl (wMain T q a N Z b M Y sc tx L (cu + 1) er (tx cu) nb nc) H := hP
        have hD : va_D A (wMain T q a N Z b M Y sc tx L (cu + 1) er (tx cu) nb nc) := hD
        refine lv_aload_n hx hb dX1_readOrder_60 rfl (lv_at hl 1 rfl) ?_
        refine lv_iconst (v := 0) hx hb dX1_readOrder_61 (by decide) ?_
        refine va_put (D := G) (ci := 1) (v := .int 0) (ty := .int) (C := RX1) (T := TX1) (N := 7) hx hb hts iX1 tyX1 tyX1_ok nmX1 hown hkx.1 hP hD hS 2 rfl rfl 6 (by decide) k32 (fun _ h9 => h9) rfl (by decide +kernel) rfl rfl (Nat.le_of_ble_eq_true rfl) dX1_readOrder_62 (fun H locs hP hD hS => ?_)
        have hP : va_P G vwCl (wMain T q a N Z b M Y sc tx L (cu + 1) er (tx cu) nb 0) H := hP
        have hD : va_D A (wMain T q a N Z b M Y sc tx L (cu + 1) er (tx cu) nb 0) := hD
        refine lv_iconst (v := 0) hx hb dX1_readOrder_65 (by decide) ?_
        refine lv_istore_n (lv' := [(2, .int 0), (1, .ref (kk 1)), (0, .ref (q 2))]) hx hb dX1_readOrder_66 rfl hl (by decide) rfl (fun ls hl => ?_)
        refine lv_iload_n hx hb dX1_readOrder_67 rfl (lv_at hl 0 rfl) ?_
        refine lv_aload_n hx hb dX1_readOrder_68 rfl (lv_at hl 1 rfl) ?_
        have hst := hst0.kept hS.2.1
        have hsg := sts_g hst 1 (by decide)
        refine rg_V S sgs_stb hsg (mJ0_length l) gX1_readOrder_J0_length_8abf5 rfl idJ0_length ⟨Nat.le_of_ble_eq_true rfl, Nat.le_of_ble_eq_true rfl⟩ (sgs_rc hsg) rfl hl.1 rfl (Nat.le_of_ble_eq_true rfl) dX1_readOrder_69 ⟨Nat.le_refl _, Nat.le_refl _⟩ (fun r9 hr9 => ?_)
        subst hr9
        refine W.eq (g2 := F0 m 72 ls [.int (nI 4), .int 0]) rfl ?_
        refine lv_icmp_ge (tgt := 95) hx hb dX1_readOrder_72 (by decide) (fun c_15 => ?_) (fun c_15 => ?_)
        · replace c_15 := cn_le (a := 4) (b := 0) (by omega) (by omega) c_15
          exact absurd c_15 (by decide)
        · replace c_15 := cn_nle (a := 4) (b := 0) (by omega) (by omega) c_15
          refine lv_aload_n hx hb dX1_readOrder_75 rfl (lv_at hl 2 rfl) ?_
          refine lv_aload_n hx hb dX1_readOrder_76 rfl (lv_at hl 1 rfl) ?_
          refine lv_iload_n hx hb dX1_readOrder_77 rfl (lv_at hl 0 rfl) ?_
          have hst := hst0.kept hS.2.1
          have hsg := sts_g hst 1 (by decide)
          refine rg_V S sgs_stb hsg (mJ0_charAt l (i := 0) (ch := 110) (by decide) (by decide) rfl (by decide) (by decide) rfl) gX1_readOrder_J0_charAt_5068e rfl idJ0_charAt ⟨Nat.le_of_ble_eq_true rfl, Nat.le_of_ble_eq_true rfl⟩ (sgs_rc hsg) rfl hl.1 rfl (Nat.le_of_ble_eq_true rfl) dX1_readOrder_78 ⟨Nat.le_refl _, Nat.le_refl _⟩ (fun r9 hr9 => ?_)
          subst hr9
          refine W.eq (g2 := F0 m 81 ls [.int 110, .ref (q 2)]) rfl ?_
          refine mu_V S hkx (mX1_readPart_n l (hP := hP) (hD := hD.weaken (fun _ _ _ _ => trivial)) (q := q) (a := a) (N := N) (Z := Z) (b := b) (M := M) (Y := Y) (sc := sc) (tx := tx) (L := L) (cu := (cu + 1)) (er := er) (le := (tx cu)) (nb := nb) (nc := 0) (hL := (by omega)) (hcu := (by omega)) (hnc := (by omega))) gX1_readOrder_X1_readPart rfl idX1_readPart ⟨Nat.le_of_ble_eq_true rfl, Nat.le_of_ble_eq_true rfl⟩ hP 2 rfl rfl rfl rfl hl.1 rfl (Nat.le_of_ble_eq_true rfl) dX1_readOrder_81 ⟨Nat.le_of_ble_eq_true rfl, Nat.le_of_ble_eq_true rfl⟩ hS (fr_in hD (fun q h => hA q (Nat.le_trans hS.1 h))) (fun v H locs hp9 hz1 hk1 hS => ?_)
          obtain ⟨rfl, hP⟩ := hp9
          have hP : va_P G vwCl (wMain T q a N Z b M Y sc tx L (if isW (chr tx L (cu + 1)) 48 57 = true then (cu + 1) + 1 else (cu + 1)) (if isW (chr tx L (cu + 1)) 48 57 = true then er else (nI (cu + 1))) (tx cu) (if isW (chr tx L (cu + 1)) 48 57 = true then upd nb 0 (tx (cu + 1) - 48) else nb) (if isW (chr tx L (cu + 1)) 48 57 = true then 0 + 1 else 0)) H := hP
          have hD : va_D A (wMain T q a N Z b M Y sc tx L (if isW (chr tx L (cu + 1)) 48 57 = true then (cu + 1) + 1 else (cu + 1)) (if isW (chr tx L (cu + 1)) 48 57 = true then er else (nI (cu + 1))) (tx cu) (if isW (chr tx L (cu + 1)) 48 57 = true then upd nb 0 (tx (cu + 1) - 48) else nb) (if isW (chr tx L (cu + 1)) 48 57 = true then 0 + 1 else 0)) := D_perm hD (List.Perm.refl _)
          refine W.eq (g2 := F0 m 84 ls [.int (bI (isW (chr tx L (cu + 1)) 48 57))]) rfl ?_
          refine lv_if_ne (tgt := 89) hx hb dX1_readOrder_84 (by decide) (fun c_16 => ?_) (fun c_16 => ?_)
          · replace c_16 := bI_n0 c_16
            have hq9 := c_16
            simp only [if_pos hq9] at hP hD
            have hlt9 := chr_w hq9
            have hP : va_P G vwCl (wMain T q a N Z b M Y sc tx L (cu + 2) er (tx cu) (upd nb 0 (tx (cu + 1) - 48)) 1) H := hP
            have hD : va_D A (wMain T q a N Z b M Y sc tx L (cu + 2) er (tx cu) (upd nb 0 (tx (cu + 1) - 48)) 1) := hD
            have hpo : (pDg tx L 9 (pSg tx L (tx cu) (pok cu []))) = pok (cu + 2) ([] ++ [(tx (cu + 1) - 48)]) := by rw [hpo]; exact if_pos (by rw [isG9]; exact hq9)
            refine lv_iinc (v := (nI 1)) (lv' := [(2, .int (nI 1)), (1, .ref (kk 1)), (0, .ref (q 2))]) hx hb dX1_readOrder_89 hl (k := 0) rfl (nI_inc 0) (by decide) rfl (fun ls hl => ?_)
            refine lv_goto (tgt := 67) hx hb dX1_readOrder_92 (by decide) ?_
            refine lv_iload_n hx hb dX1_readOrder_67 rfl (lv_at hl 0 rfl) ?_
            refine lv_aload_n hx hb dX1_readOrder_68 rfl (lv_at hl 1 rfl) ?_
            have hst := hst0.kept hS.2.1
            have hsg := sts_g hst 1 (by decide)
            refine rg_V S sgs_stb hsg (mJ0_length l) gX1_readOrder_J0_length_8abf5 rfl idJ0_length ⟨Nat.le_of_ble_eq_true rfl, Nat.le_of_ble_eq_true rfl⟩ (sgs_rc hsg) rfl hl.1 rfl (Nat.le_of_ble_eq_true rfl) dX1_readOrder_69 ⟨Nat.le_refl _, Nat.le_refl _⟩ (fun r9 hr9 => ?_)
            subst hr9
            refine W.eq (g2 := F0 m 72 ls [.int (nI 4), .int (nI 1)]) rfl ?_
            refine lv_icmp_ge (tgt := 95) hx hb dX1_readOrder_72 (by decide) (fun c_17 => ?_) (fun c_17 => ?_)
            · replace c_17 := cn_le (a := 4) (b := 1) (by omega) (by omega) c_17
              exact absurd c_17 (by decide)
            · replace c_17 := cn_nle (a := 4) (b := 1) (by omega) (by omega) c_17
              refine lv_aload_n hx hb dX1_readOrder_75 rfl (lv_at hl 2 rfl) ?_
              refine lv_aload_n hx hb dX1_readOrder_76 rfl (lv_at hl 1 rfl) ?_
              refine lv_iload_n hx hb dX1_readOrder_77 rfl (lv_at hl 0 rfl) ?_
              have hst := hst0.kept hS.2.1
              have hsg := sts_g hst 1 (by decide)
              refine rg_V S sgs_stb hsg (mJ0_charAt l (i := 1) (ch := 43) (by decide) (by decide) rfl (by decide) (by decide) rfl) gX1_readOrder_J0_charAt_5068e rfl idJ0_charAt ⟨Nat.le_of_ble_eq_true rfl, Nat.le_of_ble_eq_true rfl⟩ (sgs_rc hsg) rfl hl.1 rfl (Nat.le_of_ble_eq_true rfl) dX1_readOrder_78 ⟨Nat.le_refl _, Nat.le_refl _⟩ (fun r9 hr9 => ?_)
              subst hr9
              refine W.eq (g2 := F0 m 81 ls [.int 43, .ref (q 2)]) rfl ?_
              refine mu_V S hkx (mX1_readPart_s43 l (hP := hP) (hD := hD.weaken (fun _ _ _ _ => trivial)) (q := q) (a := a) (N := N) (Z := Z) (b := b) (M := M) (Y := Y) (sc := sc) (tx := tx) (L := L) (cu := (cu + 2)) (er := er) (le := (tx cu)) (nb := (upd nb 0 (tx (cu + 1) - 48))) (nc := 1) (hL := (by omega)) (hcu := (by omega))) gX1_readOrder_X1_readPart rfl idX1_readPart ⟨Nat.le_of_ble_eq_true rfl, Nat.le_of_ble_eq_true rfl⟩ hP 2 rfl rfl rfl rfl hl.1 rfl (Nat.le_of_ble_eq_true rfl) dX1_readOrder_81 ⟨Nat.le_of_ble_eq_true rfl, Nat.le_of_ble_eq_true rfl⟩ hS (fr_in hD (fun q h => hA q (Nat.le_trans hS.1 h))) (fun v H locs hp9 hz1 hk1 hS => ?_)
              obtain ⟨rfl, hP⟩ := hp9
              have hP : va_P G vwCl (wMain T q a N Z b M Y sc tx L (if chr tx L (cu + 2) = 43 then (cu + 2) + 1 else (cu + 2)) (if chr tx L (cu + 2) = 43 then er else (nI (cu + 2))) (tx cu) (upd nb 0 (tx (cu + 1) - 48)) 1) H := hP
              have hD : va_D A (wMain T q a N Z b M Y sc tx L (if chr tx L (cu + 2) = 43 then (cu + 2) + 1 else (cu + 2)) (if chr tx L (cu + 2) = 43 then er else (nI (cu + 2))) (tx cu) (upd nb 0 (tx (cu + 1) - 48)) 1) := D_perm hD (List.Perm.refl _)
              refine W.eq (g2 := F0 m 84 ls [.int (bI (decide (chr tx L (cu + 2) = 43)))]) rfl ?_
              refine lv_if_ne (tgt := 89) hx hb dX1_readOrder_84 (by decide) (fun c_18 => ?_) (fun c_18 => ?_)
              · replace c_18 := bI_n0 c_18
                have hq9 : chr tx L (cu + 2) = 43 := of_decide_eq_true c_18
                simp only [if_pos hq9] at hP hD
                have hlt9 := chr_s (by decide) hq9
                have hP : va_P G vwCl (wMain T q a N Z b M Y sc tx L (cu + 3) er (tx cu) (upd nb 0 (tx (cu + 1) - 48)) 1) H := hP
                have hD : va_D A (wMain T q a N Z b M Y sc tx L (cu + 3) er (tx cu) (upd nb 0 (tx (cu + 1) - 48)) 1) := hD
                have hpo : (pSg tx L 43 (pDg tx L 9 (pSg tx L (tx cu) (pok cu [])))) = pok (cu + 3) ([] ++ [(tx (cu + 1) - 48)]) := by rw [hpo]; exact if_pos hq9
                refine lv_iinc (v := (nI 2)) (lv' := [(2, .int (nI 2)), (1, .ref (kk 1)), (0, .ref (q 2))]) hx hb dX1_readOrder_89 hl (k := 0) rfl (nI_inc 1) (by decide) rfl (fun ls hl => ?_)
                refine lv_goto (tgt := 67) hx hb dX1_readOrder_92 (by decide) ?_
                refine lv_iload_n hx hb dX1_readOrder_67 rfl (lv_at hl 0 rfl) ?_
                refine lv_aload_n hx hb dX1_readOrder_68 rfl (lv_at hl 1 rfl) ?_
                have hst := hst0.kept hS.2.1
                have hsg := sts_g hst 1 (by decide)
                refine rg_V S sgs_stb hsg (mJ0_length l) gX1_readOrder_J0_length_8abf5 rfl idJ0_length ⟨Nat.le_of_ble_eq_true rfl, Nat.le_of_ble_eq_true rfl⟩ (sgs_rc hsg) rfl hl.1 rfl (Nat.le_of_ble_eq_true rfl) dX1_readOrder_69 ⟨Nat.le_refl _, Nat.le_refl _⟩ (fun r9 hr9 => ?_)
                subst hr9
                refine W.eq (g2 := F0 m 72 ls [.int (nI 4), .int (nI 2)]) rfl ?_
                refine lv_icmp_ge (tgt := 95) hx hb dX1_readOrder_72 (by decide) (fun c_19 => ?_) (fun c_19 => ?_)
                · replace c_19 := cn_le (a := 4) (b := 2) (by omega) (by omega) c_19
                  exact absurd c_19 (by decide)
                · replace c_19 := cn_nle (a := 4) (b := 2) (by omega) (by omega) c_19
                  refine lv_aload_n hx hb dX1_readOrder_75 rfl (lv_at hl 2 rfl) ?_
                  refine lv_aload_n hx hb dX1_readOrder_76 rfl (lv_at hl 1 rfl) ?_
                  refine lv_iload_n hx hb dX1_readOrder_77 rfl (lv_at hl 0 rfl) ?_
                  have hst := hst0.kept hS.2.1
                  have hsg := sts_g hst 1 (by decide)
                  refine rg_V S sgs_stb hsg (mJ0_charAt l (i := 2) (ch := 109) (by decide) (by decide) rfl (by decide) (by decide) rfl) gX1_readOrder_J0_charAt_5068e rfl idJ0_charAt ⟨Nat.le_of_ble_eq_true rfl, Nat.le_of_ble_eq_true rfl⟩ (sgs_rc hsg) rfl hl.1 rfl (Nat.le_of_ble_eq_true rfl) dX1_readOrder_78 ⟨Nat.le_refl _, Nat.le_refl _⟩ (fun r9 hr9 => ?_)
                  subst hr9
                  refine W.eq (g2 := F0 m 81 ls [.int 109, .ref (q 2)]) rfl ?_
                  refine mu_V S hkx (mX1_readPart_m l (hP := hP) (hD := hD.weaken (fun _ _ _ _ => trivial)) (q := q) (a := a) (N := N) (Z := Z) (b := b) (M := M) (Y := Y) (sc := sc) (tx := tx) (L := L) (cu := (cu + 3)) (er := er) (le := (tx cu)) (nb := (upd nb 0 (tx (cu + 1) - 48))) (nc := 1) (hL := (by omega)) (hcu := (by omega)) (hnc := (by omega))) gX1_readOrder_X1_readPart rfl idX1_readPart ⟨Nat.le_of_ble_eq_true rfl, Nat.le_of_ble_eq_true rfl⟩ hP 2 rfl rfl rfl rfl hl.1 rfl (Nat.le_of_ble_eq_true rfl) dX1_readOrder_81 ⟨Nat.le_of_ble_eq_true rfl, Nat.le_of_ble_eq_true rfl⟩ hS (fr_in hD (fun q h => hA q (Nat.le_trans hS.1 h))) (fun v H locs hp9 hz1 hk1 hS => ?_)
                  obtain ⟨rfl, hP⟩ := hp9
                  have hP : va_P G vwCl (wMain T q a N Z b M Y sc tx L ((cu + 3) + ru tx L 2 (cu + 3)) (if numB tx L 2 1 (cu + 3) = true then er else (nI (numE tx L 2 (cu + 3)))) (tx cu) (if numB tx L 2 1 (cu + 3) = true then upd (upd nb 0 (tx (cu + 1) - 48)) 1 (vn tx (cu + 3) (ru tx L 2 (cu + 3))) else (upd nb 0 (tx (cu + 1) - 48))) (if numB tx L 2 1 (cu + 3) = true then 1 + 1 else 1)) H := hP
                  have hD : va_D A (wMain T q a N Z b M Y sc tx L ((cu + 3) + ru tx L 2 (cu + 3)) (if numB tx L 2 1 (cu + 3) = true then er else (nI (numE tx L 2 (cu + 3)))) (tx cu) (if numB tx L 2 1 (cu + 3) = true then upd (upd nb 0 (tx (cu + 1) - 48)) 1 (vn tx (cu + 3) (ru tx L 2 (cu + 3))) else (upd nb 0 (tx (cu + 1) - 48))) (if numB tx L 2 1 (cu + 3) = true then 1 + 1 else 1)) := D_perm hD (List.Perm.refl _)
                  refine W.eq (g2 := F0 m 84 ls [.int (bI (numB tx L 2 1 (cu + 3)))]) rfl ?_
                  refine lv_if_ne (tgt := 89) hx hb dX1_readOrder_84 (by decide) (fun c_20 => ?_) (fun c_20 => ?_)
                  · replace c_20 := bI_n0 c_20
                    have hq9 := c_20
                    simp only [if_pos hq9] at hP hD
                    have hru9 := ru_le (tx := tx) (L := L) 2 (cu + 3) (by omega)
                    have hP : va_P G vwCl (wMain T q a N Z b M Y sc tx L ((cu + 3) + ru tx L 2 (cu + 3)) er (tx cu) (upd (upd nb 0 (tx (cu + 1) - 48)) 1 (vn tx (cu + 3) (ru tx L 2 (cu + 3)))) 2) H := hP
                    have hD : va_D A (wMain T q a N Z b M Y sc tx L ((cu + 3) + ru tx L 2 (cu + 3)) er (tx cu) (upd (upd nb 0 (tx (cu + 1) - 48)) 1 (vn tx (cu + 3) (ru tx L 2 (cu + 3)))) 2) := hD
                    have hpo : (pNm tx L 2 1 (pSg tx L 43 (pDg tx L 9 (pSg tx L (tx cu) (pok cu []))))) = pok ((cu + 3) + ru tx L 2 (cu + 3)) (([] ++ [(tx (cu + 1) - 48)]) ++ [(vn tx (cu + 3) (ru tx L 2 (cu + 3)))]) := by rw [hpo]; exact nm_t hq9
                    refine lv_iinc (v := (nI 3)) (lv' := [(2, .int (nI 3)), (1, .ref (kk 1)), (0, .ref (q 2))]) hx hb dX1_readOrder_89 hl (k := 0) rfl (nI_inc 2) (by decide) rfl (fun ls hl => ?_)
                    refine lv_goto (tgt := 67) hx hb dX1_readOrder_92 (by decide) ?_
                    refine lv_iload_n hx hb dX1_readOrder_67 rfl (lv_at hl 0 rfl) ?_
                    refine lv_aload_n hx hb dX1_readOrder_68 rfl (lv_at hl 1 rfl) ?_
                    have hst := hst0.kept hS.2.1
                    have hsg := sts_g hst 1 (by decide)
                    refine rg_V S sgs_stb hsg (mJ0_length l) gX1_readOrder_J0_length_8abf5 rfl idJ0_length ⟨Nat.le_of_ble_eq_true rfl, Nat.le_of_ble_eq_true rfl⟩ (sgs_rc hsg) rfl hl.1 rfl (Nat.le_of_ble_eq_true rfl) dX1_readOrder_69 ⟨Nat.le_refl _, Nat.le_refl _⟩ (fun r9 hr9 => ?_)
                    subst hr9
                    refine W.eq (g2 := F0 m 72 ls [.int (nI 4), .int (nI 3)]) rfl ?_
                    refine lv_icmp_ge (tgt := 95) hx hb dX1_readOrder_72 (by decide) (fun c_21 => ?_) (fun c_21 => ?_)
                    · replace c_21 := cn_le (a := 4) (b := 3) (by omega) (by omega) c_21
                      exact absurd c_21 (by decide)
                    · replace c_21 := cn_nle (a := 4) (b := 3) (by omega) (by omega) c_21
                      refine lv_aload_n hx hb dX1_readOrder_75 rfl (lv_at hl 2 rfl) ?_
                      refine lv_aload_n hx hb dX1_readOrder_76 rfl (lv_at hl 1 rfl) ?_
                      refine lv_iload_n hx hb dX1_readOrder_77 rfl (lv_at hl 0 rfl) ?_
                      have hst := hst0.kept hS.2.1
                      have hsg := sts_g hst 1 (by decide)
                      refine rg_V S sgs_stb hsg (mJ0_charAt l (i := 3) (ch := 59) (by decide) (by decide) rfl (by decide) (by decide) rfl) gX1_readOrder_J0_charAt_5068e rfl idJ0_charAt ⟨Nat.le_of_ble_eq_true rfl, Nat.le_of_ble_eq_true rfl⟩ (sgs_rc hsg) rfl hl.1 rfl (Nat.le_of_ble_eq_true rfl) dX1_readOrder_78 ⟨Nat.le_refl _, Nat.le_refl _⟩ (fun r9 hr9 => ?_)
                      subst hr9
                      refine W.eq (g2 := F0 m 81 ls [.int 59, .ref (q 2)]) rfl ?_
                      refine mu_V S hkx (mX1_readPart_s59 l (hP := hP) (hD := hD.weaken (fun _ _ _ _ => trivial)) (q := q) (a := a) (N := N) (Z := Z) (b := b) (M := M) (Y := Y) (sc := sc) (tx := tx) (L := L) (cu := ((cu + 3) + ru tx L 2 (cu + 3))) (er := er) (le := (tx cu)) (nb := (upd (upd nb 0 (tx (cu + 1) - 48)) 1 (vn tx (cu + 3) (ru tx L 2 (cu + 3))))) (nc := 2) (hL := (by omega)) (hcu := (by omega))) gX1_readOrder_X1_readPart rfl idX1_readPart ⟨Nat.le_of_ble_eq_true rfl, Nat.le_of_ble_eq_true rfl⟩ hP 2 rfl rfl rfl rfl hl.1 rfl (Nat.le_of_ble_eq_true rfl) dX1_readOrder_81 ⟨Nat.le_of_ble_eq_true rfl, Nat.le_of_ble_eq_true rfl⟩ hS (fr_in hD (fun q h => hA q (Nat.le_trans hS.1 h))) (fun v H locs hp9 hz1 hk1 hS => ?_)
                      obtain ⟨rfl, hP⟩ := hp9
                      have hP : va_P G vwCl (wMain T q a N Z b M Y sc tx L (if chr tx L ((cu + 3) + ru tx L 2 (cu + 3)) = 59 then ((cu + 3) + ru tx L 2 (cu + 3)) + 1 else ((cu + 3) + ru tx L 2 (cu + 3))) (if chr tx L ((cu + 3) + ru tx L 2 (cu + 3)) = 59 then er else (nI ((cu + 3) + ru tx L 2 (cu + 3)))) (tx cu) (upd (upd nb 0 (tx (cu + 1) - 48)) 1 (vn tx (cu + 3) (ru tx L 2 (cu + 3)))) 2) H := hP
                      have hD : va_D A (wMain T q a N Z b M Y sc tx L (if chr tx L ((cu + 3) + ru tx L 2 (cu + 3)) = 59 then ((cu + 3) + ru tx L 2 (cu + 3)) + 1 else ((cu + 3) + ru tx L 2 (cu + 3))) (if chr tx L ((cu + 3) + ru tx L 2 (cu + 3)) = 59 then er else (nI ((cu + 3) + ru tx L 2 (cu + 3)))) (tx cu) (upd (upd nb 0 (tx (cu + 1) - 48)) 1 (vn tx (cu + 3) (ru tx L 2 (cu + 3)))) 2) := D_perm hD (List.Perm.refl _)
                      refine W.eq (g2 := F0 m 84 ls [.int (bI (decide (chr tx L ((cu + 3) + ru tx L 2 (cu + 3)) = 59)))]) rfl ?_
                      refine lv_if_ne (tgt := 89) hx hb dX1_readOrder_84 (by decide) (fun c_22 => ?_) (fun c_22 => ?_)
                      · replace c_22 := bI_n0 c_22
                        have hq9 : chr tx L ((cu + 3) + ru tx L 2 (cu + 3)) = 59 := of_decide_eq_true c_22
                        simp only [if_pos hq9] at hP hD
                        have hlt9 := chr_s (by decide) hq9
                        have hP : va_P G vwCl (wMain T q a N Z b M Y sc tx L (((cu + 3) + ru tx L 2 (cu + 3)) + 1) er (tx cu) (upd (upd nb 0 (tx (cu + 1) - 48)) 1 (vn tx (cu + 3) (ru tx L 2 (cu + 3)))) 2) H := hP
                        have hD : va_D A (wMain T q a N Z b M Y sc tx L (((cu + 3) + ru tx L 2 (cu + 3)) + 1) er (tx cu) (upd (upd nb 0 (tx (cu + 1) - 48)) 1 (vn tx (cu + 3) (ru tx L 2 (cu + 3)))) 2) := hD
                        have hpo : (pSg tx L 59 (pNm tx L 2 1 (pSg tx L 43 (pDg tx L 9 (pSg tx L (tx cu) (pok cu [])))))) = pok (((cu + 3) + ru tx L 2 (cu + 3)) + 1) (([] ++ [(tx (cu + 1) - 48)]) ++ [(vn tx (cu + 3) (ru tx L 2 (cu + 3)))]) := by rw [hpo]; exact if_pos hq9
                        refine lv_iinc (v := (nI 4)) (lv' := [(2, .int (nI 4)), (1, .ref (kk 1)), (0, .ref (q 2))]) hx hb dX1_readOrder_89 hl (k := 0) rfl (nI_inc 3) (by decide) rfl (fun ls hl => ?_)
                        refine lv_goto (tgt := 67) hx hb dX1_readOrder_92 (by decide) ?_
                        refine lv_iload_n hx hb dX1_readOrder_67 rfl (lv_at hl 0 rfl) ?_
                        refine lv_aload_n hx hb dX1_readOrder_68 rfl (lv_at hl 1 rfl) ?_
                        have hst := hst0.kept hS.2.1
                        have hsg := sts_g hst 1 (by decide)
                        refine rg_V S sgs_stb hsg (mJ0_length l) gX1_readOrder_J0_length_8abf5 rfl idJ0_length ⟨Nat.le_of_ble_eq_true rfl, Nat.le_of_ble_eq_true rfl⟩ (sgs_rc hsg) rfl hl.1 rfl (Nat.le_of_ble_eq_true rfl) dX1_readOrder_69 ⟨Nat.le_refl _, Nat.le_refl _⟩ (fun r9 hr9 => ?_)
                        subst hr9
                        refine W.eq (g2 := F0 m 72 ls [.int (nI 4), .int (nI 4)]) rfl ?_
                        refine lv_icmp_ge (tgt := 95) hx hb dX1_readOrder_72 (by decide) (fun c_23 => ?_) (fun c_23 => ?_)
                        · replace c_23 := cn_le (a := 4) (b := 4) (by omega) (by omega) c_23
                          refine lv_iconst (v := 1) hx hb dX1_readOrder_95 (by decide) ?_
                          exact hret _ _ _ _ _ (show roO G T q a N Z b M Y sc tx L cu er le nb nc (some (Value.int 1)) H from Or.inr (Or.inr ⟨hlt, (((cu + 3) + ru tx L 2 (cu + 3)) + 1), (([] ++ [(tx (cu + 1) - 48)]) ++ [(vn tx (cu + 3) (ru tx L 2 (cu + 3)))]), by unfold prs1; rw [if_neg e_112, if_pos e_108]; exact hpo, rfl, (upd (upd nb 0 (tx (cu + 1) - 48)) 1 (vn tx (cu + 3) (ru tx L 2 (cu + 3)))), _, nms_of (Or.inr (Or.inl ⟨e_108, rfl⟩)), hP⟩)) rfl hS dX1_readOrder_96
                        · replace c_23 := cn_nle (a := 4) (b := 4) (by omega) (by omega) c_23
                          exact absurd c_23 (by decide)
                      · replace c_22 := bI_e0 c_22
                        have hq9 : ¬ chr tx L ((cu + 3) + ru tx L 2 (cu + 3)) = 59 := of_decide_eq_false c_22
                        simp only [if_neg hq9] at hP hD
                        have hP : va_P G vwCl (wMain T q a N Z b M Y sc tx L ((cu + 3) + ru tx L 2 (cu + 3)) (nI ((cu + 3) + ru tx L 2 (cu + 3))) (tx cu) (upd (upd nb 0 (tx (cu + 1) - 48)) 1 (vn tx (cu + 3) (ru tx L 2 (cu + 3)))) 2) H := hP
                        have hD : va_D A (wMain T q a N Z b M Y sc tx L ((cu + 3) + ru tx L 2 (cu + 3)) (nI ((cu + 3) + ru tx L 2 (cu + 3))) (tx cu) (upd (upd nb 0 (tx (cu + 1) - 48)) 1 (vn tx (cu + 3) (ru tx L 2 (cu + 3)))) 2) := hD
                        have hpe : (pSg tx L 59 (pNm tx L 2 1 (pSg tx L 43 (pDg tx L 9 (pSg tx L (tx cu) (pok cu [])))))) = per ((cu + 3) + ru tx L 2 (cu + 3)) ((cu + 3) + ru tx L 2 (cu + 3)) := by rw [hpo]; exact if_neg hq9
                        refine lv_iconst (v := 0) hx hb dX1_readOrder_87 (by decide) ?_
                        exact hret _ _ _ _ _ (show roO G T q a N Z b M Y sc tx L cu er le nb nc (some (Value.int 0)) H from Or.inr (Or.inl ⟨hlt, ((cu + 3) + ru tx L 2 (cu + 3)), ((cu + 3) + ru tx L 2 (cu + 3)), by unfold prs1; rw [if_neg e_112, if_pos e_108]; exact (show (pSg tx L 59 (pNm tx L 2 1 (pSg tx L 43 (pDg tx L 9 (pSg tx L (tx cu) (pok cu [])))))) = per ((cu + 3) + ru tx L 2 (cu + 3)) ((cu + 3) + ru tx L 2 (cu + 3)) from by first | exact hpe | (rw [hpe]; rfl)), rfl, _, _, _, hP⟩)) rfl hS dX1_readOrder_88
                  · replace c_20 := bI_e0 c_20
                    have hq9 := Bool.eq_false_iff.mp c_20
                    simp only [if_neg hq9] at hP hD
                    have hP : va_P G vwCl (wMain T q a N Z b M Y sc tx L ((cu + 3) + ru tx L 2 (cu + 3)) (nI (numE tx L 2 (cu + 3))) (tx cu) (upd nb 0 (tx (cu + 1) - 48)) 1) H := hP
                    have hD : va_D A (wMain T q a N Z b M Y sc tx L ((cu + 3) + ru tx L 2 (cu + 3)) (nI (numE tx L 2 (cu + 3))) (tx cu) (upd nb 0 (tx (cu + 1) - 48)) 1) := hD
                    have hpe : ∃ a9, (pSg tx L 59 (pNm tx L 2 1 (pSg tx L 43 (pDg tx L 9 (pSg tx L (tx cu) (pok cu [])))))) = per (numE tx L 2 (cu + 3)) a9 := by rw [hpo]; exact nm_f (by decide) (by decide) c_20
                    obtain ⟨a9, hpe⟩ := hpe
                    refine lv_iconst (v := 0) hx hb dX1_readOrder_87 (by decide) ?_
                    exact hret _ _ _ _ _ (show roO G T q a N Z b M Y sc tx L cu er le nb nc (some (Value.int 0)) H from Or.inr (Or.inl ⟨hlt, (numE tx L 2 (cu + 3)), a9, by unfold prs1; rw [if_neg e_112, if_pos e_108]; exact (show (pSg tx L 59 (pNm tx L 2 1 (pSg tx L 43 (pDg tx L 9 (pSg tx L (tx cu) (pok cu [])))))) = per (numE tx L 2 (cu + 3)) a9 from by first | exact hpe | (rw [hpe]; rfl)), rfl, _, _, _, hP⟩)) rfl hS dX1_readOrder_88
              · replace c_18 := bI_e0 c_18
                have hq9 : ¬ chr tx L (cu + 2) = 43 := of_decide_eq_false c_18
                simp only [if_neg hq9] at hP hD
                have hP : va_P G vwCl (wMain T q a N Z b M Y sc tx L (cu + 2) (nI (cu + 2)) (tx cu) (upd nb 0 (tx (cu + 1) - 48)) 1) H := hP
                have hD : va_D A (wMain T q a N Z b M Y sc tx L (cu + 2) (nI (cu + 2)) (tx cu) (upd nb 0 (tx (cu + 1) - 48)) 1) := hD
                have hpe : (pSg tx L 43 (pDg tx L 9 (pSg tx L (tx cu) (pok cu [])))) = per (cu + 2) (cu + 2) := by rw [hpo]; exact if_neg hq9
                refine lv_iconst (v := 0) hx hb dX1_readOrder_87 (by decide) ?_
                exact hret _ _ _ _ _ (show roO G T q a N Z b M Y sc tx L cu er le nb nc (some (Value.int 0)) H from Or.inr (Or.inl ⟨hlt, (cu + 2), (cu + 2), by unfold prs1; rw [if_neg e_112, if_pos e_108]; exact (show (pSg tx L 59 (pNm tx L 2 1 (pSg tx L 43 (pDg tx L 9 (pSg tx L (tx cu) (pok cu [])))))) = per (cu + 2) (cu + 2) from by first | exact hpe | (rw [hpe]; rfl)), rfl, _, _, _, hP⟩)) rfl hS dX1_readOrder_88
          · replace c_16 := bI_e0 c_16
            have hq9 := Bool.eq_false_iff.mp c_16
            simp only [if_neg hq9] at hP hD
            have hP : va_P G vwCl (wMain T q a N Z b M Y sc tx L (cu + 1) (nI (cu + 1)) (tx cu) nb 0) H := hP
            have hD : va_D A (wMain T q a N Z b M Y sc tx L (cu + 1) (nI (cu + 1)) (tx cu) nb 0) := hD
            have hpe : (pDg tx L 9 (pSg tx L (tx cu) (pok cu []))) = per (cu + 1) (cu + 1) := by rw [hpo]; exact if_neg (by rw [isG9]; exact hq9)
            refine lv_iconst (v := 0) hx hb dX1_readOrder_87 (by decide) ?_
            exact hret _ _ _ _ _ (show roO G T q a N Z b M Y sc tx L cu er le nb nc (some (Value.int 0)) H from Or.inr (Or.inl ⟨hlt, (cu + 1), (cu + 1), by unfold prs1; rw [if_neg e_112, if_pos e_108]; exact (show (pSg tx L 59 (pNm tx L 2 1 (pSg tx L 43 (pDg tx L 9 (pSg tx L (tx cu) (pok cu [])))))) = per (cu + 1) (cu + 1) from by first | exact hpe | (rw [hpe]; rfl)), rfl, _, _, _, hP⟩)) rfl hS dX1_readOrder_88
      · replace c_14 := cn_ne (a := 0) (b := 0) (by omega) (by omega) c_14
        exact absurd c_14 (by decide)
    by_cases e_101 : tx cu = 101
    · have hpo : pSg tx L (tx cu) (pok cu []) = pok (cu + 1) [] := if_pos (if_pos hlt)
      have hst := hst0.kept hS.2.1
      refine rg_S S sts_stb hst (mX1_partsOf l (le := (tx cu))) gX1_readOrder_X1_partsOf rfl idX1_partsOf.2 ⟨Nat.le_of_ble_eq_true rfl, Nat.le_of_ble_eq_true rfl⟩ rfl hl.1 rfl (Nat.le_of_ble_eq_true rfl) dX1_readOrder_30 ⟨Nat.le_refl _, Nat.le_refl _⟩ (fun r9 hr9 => ?_)
      subst hr9
      rw [show pix (tx cu) = 2 by rw [e_101]; rfl]
      refine W.eq (g2 := F0 m 33 ls [.ref (kk 2)]) rfl ?_
      refine lv_astore_n (lv' := [(1, .ref (kk 2)), (0, .ref (q 2))]) hx hb dX1_readOrder_33 rfl hl (by decide) rfl (fun ls hl => ?_)
      refine lv_aload_n hx hb dX1_readOrder_34 rfl (lv_at hl 0 rfl) ?_
      have hst := hst0.kept hS.2.1
      have hsg := sts_g hst 2 (by decide)
      refine rg_V S sgs_stb hsg (mJ0_isEmpty l (by decide)) gX1_readOrder_J0_isEmpty_aae02 rfl idJ0_isEmpty ⟨Nat.le_of_ble_eq_true rfl, Nat.le_of_ble_eq_true rfl⟩ (sgs_rc hsg) rfl hl.1 rfl (Nat.le_of_ble_eq_true rfl) dX1_readOrder_35 ⟨Nat.le_refl _, Nat.le_refl _⟩ (fun r9 hr9 => ?_)
      subst hr9
      refine W.eq (g2 := F0 m 38 ls [.int 0]) rfl ?_
      refine lv_if_eq (tgt := 50) hx hb dX1_readOrder_38 (by decide) (fun c_24 => ?_) (fun c_24 => ?_)
      · replace c_24 := cn_eq (a := 0) (b := 0) (by omega) (by omega) c_24
        refine lv_aload_n hx hb dX1_readOrder_50 rfl (lv_at hl 1 rfl) ?_
        refine lv_dup hx hb dX1_readOrder_51 rfl ?_
        refine va_get (D := G) (ci := 1) (C := RX1) (T := TX1) (N := 7) hx hb hts iX1 hown hkx.1 hP 2 rfl rfl 2 (by decide) k19 (fun _ h9 => h9) rfl dX1_readOrder_52 ?_
        refine lv_iconst (v := 1) hx hb dX1_readOrder_55 (by decide) ?_
        refine lv_iadd hx hb dX1_readOrder_56 ?_
        rw [show ((nI cu) + 1) = (nI (cu + 1)) from nI_add cu 1]
        refine va_put (D := G) (ci := 1) (v := .int (nI (cu + 1))) (ty := .int) (C := RX1) (T := TX1) (N := 7) hx hb hts iX1 tyX1 tyX1_ok nmX1 hown hkx.1 hP hD hS 2 rfl rfl 2 (by decide) k19 (fun _ h9 => h9) rfl (by decide +kernel) rfl rfl (Nat.le_of_ble_eq_true rfl) dX1_readOrder_57 (fun H locs hP hD hS => ?_)
        have hP : va_P G vwCl (wMain T q a N Z b M Y sc tx L (cu + 1) er (tx cu) nb nc) H := hP
        have hD : va_D A (wMain T q a N Z b M Y sc tx L (cu + 1) er (tx cu) nb nc) := hD
        refine lv_aload_n hx hb dX1_readOrder_60 rfl (lv_at hl 1 rfl) ?_
        refine lv_iconst (v := 0) hx hb dX1_readOrder_61 (by decide) ?_
        refine va_put (D := G) (ci := 1) (v := .int 0) (ty := .int) (C := RX1) (T := TX1) (N := 7) hx hb hts iX1 tyX1 tyX1_ok nmX1 hown hkx.1 hP hD hS 2 rfl rfl 6 (by decide) k32 (fun _ h9 => h9) rfl (by decide +kernel) rfl rfl (Nat.le_of_ble_eq_true rfl) dX1_readOrder_62 (fun H locs hP hD hS => ?_)
        have hP : va_P G vwCl (wMain T q a N Z b M Y sc tx L (cu + 1) er (tx cu) nb 0) H := hP
        have hD : va_D A (wMain T q a N Z b M Y sc tx L (cu + 1) er (tx cu) nb 0) := hD
        refine lv_iconst (v := 0) hx hb dX1_readOrder_65 (by decide) ?_
        refine lv_istore_n (lv' := [(2, .int 0), (1, .ref (kk 2)), (0, .ref (q 2))]) hx hb dX1_readOrder_66 rfl hl (by decide) rfl (fun ls hl => ?_)
        refine lv_iload_n hx hb dX1_readOrder_67 rfl (lv_at hl 0 rfl) ?_
        refine lv_aload_n hx hb dX1_readOrder_68 rfl (lv_at hl 1 rfl) ?_
        have hst := hst0.kept hS.2.1
        have hsg := sts_g hst 2 (by decide)
        refine rg_V S sgs_stb hsg (mJ0_length l) gX1_readOrder_J0_length_8abf5 rfl idJ0_length ⟨Nat.le_of_ble_eq_true rfl, Nat.le_of_ble_eq_true rfl⟩ (sgs_rc hsg) rfl hl.1 rfl (Nat.le_of_ble_eq_true rfl) dX1_readOrder_69 ⟨Nat.le_refl _, Nat.le_refl _⟩ (fun r9 hr9 => ?_)
        subst hr9
        refine W.eq (g2 := F0 m 72 ls [.int (nI 4), .int 0]) rfl ?_
        refine lv_icmp_ge (tgt := 95) hx hb dX1_readOrder_72 (by decide) (fun c_25 => ?_) (fun c_25 => ?_)
        · replace c_25 := cn_le (a := 4) (b := 0) (by omega) (by omega) c_25
          exact absurd c_25 (by decide)
        · replace c_25 := cn_nle (a := 4) (b := 0) (by omega) (by omega) c_25
          refine lv_aload_n hx hb dX1_readOrder_75 rfl (lv_at hl 2 rfl) ?_
          refine lv_aload_n hx hb dX1_readOrder_76 rfl (lv_at hl 1 rfl) ?_
          refine lv_iload_n hx hb dX1_readOrder_77 rfl (lv_at hl 0 rfl) ?_
          have hst := hst0.kept hS.2.1
          have hsg := sts_g hst 2 (by decide)
          refine rg_V S sgs_stb hsg (mJ0_charAt l (i := 0) (ch := 118) (by decide) (by decide) rfl (by decide) (by decide) rfl) gX1_readOrder_J0_charAt_5068e rfl idJ0_charAt ⟨Nat.le_of_ble_eq_true rfl, Nat.le_of_ble_eq_true rfl⟩ (sgs_rc hsg) rfl hl.1 rfl (Nat.le_of_ble_eq_true rfl) dX1_readOrder_78 ⟨Nat.le_refl _, Nat.le_refl _⟩ (fun r9 hr9 => ?_)
          subst hr9
          refine W.eq (g2 := F0 m 81 ls [.int 118, .ref (q 2)]) rfl ?_
          refine mu_V S hkx (mX1_readPart_v l (hP := hP) (hD := hD.weaken (fun _ _ _ _ => trivial)) (q := q) (a := a) (N := N) (Z := Z) (b := b) (M := M) (Y := Y) (sc := sc) (tx := tx) (L := L) (cu := (cu + 1)) (er := er) (le := (tx cu)) (nb := nb) (nc := 0) (hL := (by omega)) (hcu := (by omega)) (hnc := (by omega))) gX1_readOrder_X1_readPart rfl idX1_readPart ⟨Nat.le_of_ble_eq_true rfl, Nat.le_of_ble_eq_true rfl⟩ hP 2 rfl rfl rfl rfl hl.1 rfl (Nat.le_of_ble_eq_true rfl) dX1_readOrder_81 ⟨Nat.le_of_ble_eq_true rfl, Nat.le_of_ble_eq_true rfl⟩ hS (fr_in hD (fun q h => hA q (Nat.le_trans hS.1 h))) (fun v H locs hp9 hz1 hk1 hS => ?_)
          obtain ⟨rfl, hP⟩ := hp9
          have hP : va_P G vwCl (wMain T q a N Z b M Y sc tx L (if isW (chr tx L (cu + 1)) 48 55 = true then (cu + 1) + 1 else (cu + 1)) (if isW (chr tx L (cu + 1)) 48 55 = true then er else (nI (cu + 1))) (tx cu) (if isW (chr tx L (cu + 1)) 48 55 = true then upd nb 0 (tx (cu + 1) - 48) else nb) (if isW (chr tx L (cu + 1)) 48 55 = true then 0 + 1 else 0)) H := hP
          have hD : va_D A (wMain T q a N Z b M Y sc tx L (if isW (chr tx L (cu + 1)) 48 55 = true then (cu + 1) + 1 else (cu + 1)) (if isW (chr tx L (cu + 1)) 48 55 = true then er else (nI (cu + 1))) (tx cu) (if isW (chr tx L (cu + 1)) 48 55 = true then upd nb 0 (tx (cu + 1) - 48) else nb) (if isW (chr tx L (cu + 1)) 48 55 = true then 0 + 1 else 0)) := D_perm hD (List.Perm.refl _)
          refine W.eq (g2 := F0 m 84 ls [.int (bI (isW (chr tx L (cu + 1)) 48 55))]) rfl ?_
          refine lv_if_ne (tgt := 89) hx hb dX1_readOrder_84 (by decide) (fun c_26 => ?_) (fun c_26 => ?_)
          · replace c_26 := bI_n0 c_26
            have hq9 := c_26
            simp only [if_pos hq9] at hP hD
            have hlt9 := chr_w hq9
            have hP : va_P G vwCl (wMain T q a N Z b M Y sc tx L (cu + 2) er (tx cu) (upd nb 0 (tx (cu + 1) - 48)) 1) H := hP
            have hD : va_D A (wMain T q a N Z b M Y sc tx L (cu + 2) er (tx cu) (upd nb 0 (tx (cu + 1) - 48)) 1) := hD
            have hpo : (pDg tx L 7 (pSg tx L (tx cu) (pok cu []))) = pok (cu + 2) ([] ++ [(tx (cu + 1) - 48)]) := by rw [hpo]; exact if_pos (by rw [isG7]; exact hq9)
            refine lv_iinc (v := (nI 1)) (lv' := [(2, .int (nI 1)), (1, .ref (kk 2)), (0, .ref (q 2))]) hx hb dX1_readOrder_89 hl (k := 0) rfl (nI_inc 0) (by decide) rfl (fun ls hl => ?_)
            refine lv_goto (tgt := 67) hx hb dX1_readOrder_92 (by decide) ?_
            refine lv_iload_n hx hb dX1_readOrder_67 rfl (lv_at hl 0 rfl) ?_
            refine lv_aload_n hx hb dX1_readOrder_68 rfl (lv_at hl 1 rfl) ?_
            have hst := hst0.kept hS.2.1
            have hsg := sts_g hst 2 (by decide)
            refine rg_V S sgs_stb hsg (mJ0_length l) gX1_readOrder_J0_length_8abf5 rfl idJ0_length ⟨Nat.le_of_ble_eq_true rfl, Nat.le_of_ble_eq_true rfl⟩ (sgs_rc hsg) rfl hl.1 rfl (Nat.le_of_ble_eq_true rfl) dX1_readOrder_69 ⟨Nat.le_refl _, Nat.le_refl _⟩ (fun r9 hr9 => ?_)
            subst hr9
            refine W.eq (g2 := F0 m 72 ls [.int (nI 4), .int (nI 1)]) rfl ?_
            refine lv_icmp_ge (tgt := 95) hx hb dX1_readOrder_72 (by decide) (fun c_27 => ?_) (fun c_27 => ?_)
            · replace c_27 := cn_le (a := 4) (b := 1) (by omega) (by omega) c_27
              exact absurd c_27 (by decide)
            · replace c_27 := cn_nle (a := 4) (b := 1) (by omega) (by omega) c_27
              refine lv_aload_n hx hb dX1_readOrder_75 rfl (lv_at hl 2 rfl) ?_
              refine lv_aload_n hx hb dX1_readOrder_76 rfl (lv_at hl 1 rfl) ?_
              refine lv_iload_n hx hb dX1_readOrder_77 rfl (lv_at hl 0 rfl) ?_
              have hst := hst0.kept hS.2.1
              have hsg := sts_g hst 2 (by decide)
              refine rg_V S sgs_stb hsg (mJ0_charAt l (i := 1) (ch := 43) (by decide) (by decide) rfl (by decide) (by decide) rfl) gX1_readOrder_J0_charAt_5068e rfl idJ0_charAt ⟨Nat.le_of_ble_eq_true rfl, Nat.le_of_ble_eq_true rfl⟩ (sgs_rc hsg) rfl hl.1 rfl (Nat.le_of_ble_eq_true rfl) dX1_readOrder_78 ⟨Nat.le_refl _, Nat.le_refl _⟩ (fun r9 hr9 => ?_)
              subst hr9
              refine W.eq (g2 := F0 m 81 ls [.int 43, .ref (q 2)]) rfl ?_
              refine mu_V S hkx (mX1_readPart_s43 l (hP := hP) (hD := hD.weaken (fun _ _ _ _ => trivial)) (q := q) (a := a) (N := N) (Z := Z) (b := b) (M := M) (Y := Y) (sc := sc) (tx := tx) (L := L) (cu := (cu + 2)) (er := er) (le := (tx cu)) (nb := (upd nb 0 (tx (cu + 1) - 48))) (nc := 1) (hL := (by omega)) (hcu := (by omega))) gX1_readOrder_X1_readPart rfl idX1_readPart ⟨Nat.le_of_ble_eq_true rfl, Nat.le_of_ble_eq_true rfl⟩ hP 2 rfl rfl rfl rfl hl.1 rfl (Nat.le_of_ble_eq_true rfl) dX1_readOrder_81 ⟨Nat.le_of_ble_eq_true rfl, Nat.le_of_ble_eq_true rfl⟩ hS (fr_in hD (fun q h => hA q (Nat.le_trans hS.1 h))) (fun v H locs hp9 hz1 hk1 hS => ?_)
              obtain ⟨rfl, hP⟩ := hp9
              have hP : va_P G vwCl (wMain T q a N Z b M Y sc tx L (if chr tx L (cu + 2) = 43 then (cu + 2) + 1 else (cu + 2)) (if chr tx L (cu + 2) = 43 then er else (nI (cu + 2))) (tx cu) (upd nb 0 (tx (cu + 1) - 48)) 1) H := hP
              have hD : va_D A (wMain T q a N Z b M Y sc tx L (if chr tx L (cu + 2) = 43 then (cu + 2) + 1 else (cu + 2)) (if chr tx L (cu + 2) = 43 then er else (nI (cu + 2))) (tx cu) (upd nb 0 (tx (cu + 1) - 48)) 1) := D_perm hD (List.Perm.refl _)
              refine W.eq (g2 := F0 m 84 ls [.int (bI (decide (chr tx L (cu + 2) = 43)))]) rfl ?_
              refine lv_if_ne (tgt := 89) hx hb dX1_readOrder_84 (by decide) (fun c_28 => ?_) (fun c_28 => ?_)
              · replace c_28 := bI_n0 c_28
                have hq9 : chr tx L (cu + 2) = 43 := of_decide_eq_true c_28
                simp only [if_pos hq9] at hP hD
                have hlt9 := chr_s (by decide) hq9
                have hP : va_P G vwCl (wMain T q a N Z b M Y sc tx L (cu + 3) er (tx cu) (upd nb 0 (tx (cu + 1) - 48)) 1) H := hP
                have hD : va_D A (wMain T q a N Z b M Y sc tx L (cu + 3) er (tx cu) (upd nb 0 (tx (cu + 1) - 48)) 1) := hD
                have hpo : (pSg tx L 43 (pDg tx L 7 (pSg tx L (tx cu) (pok cu [])))) = pok (cu + 3) ([] ++ [(tx (cu + 1) - 48)]) := by rw [hpo]; exact if_pos hq9
                refine lv_iinc (v := (nI 2)) (lv' := [(2, .int (nI 2)), (1, .ref (kk 2)), (0, .ref (q 2))]) hx hb dX1_readOrder_89 hl (k := 0) rfl (nI_inc 1) (by decide) rfl (fun ls hl => ?_)
                refine lv_goto (tgt := 67) hx hb dX1_readOrder_92 (by decide) ?_
                refine lv_iload_n hx hb dX1_readOrder_67 rfl (lv_at hl 0 rfl) ?_
                refine lv_aload_n hx hb dX1_readOrder_68 rfl (lv_at hl 1 rfl) ?_
                have hst := hst0.kept hS.2.1
                have hsg := sts_g hst 2 (by decide)
                refine rg_V S sgs_stb hsg (mJ0_length l) gX1_readOrder_J0_length_8abf5 rfl idJ0_length ⟨Nat.le_of_ble_eq_true rfl, Nat.le_of_ble_eq_true rfl⟩ (sgs_rc hsg) rfl hl.1 rfl (Nat.le_of_ble_eq_true rfl) dX1_readOrder_69 ⟨Nat.le_refl _, Nat.le_refl _⟩ (fun r9 hr9 => ?_)
                subst hr9
                refine W.eq (g2 := F0 m 72 ls [.int (nI 4), .int (nI 2)]) rfl ?_
                refine lv_icmp_ge (tgt := 95) hx hb dX1_readOrder_72 (by decide) (fun c_29 => ?_) (fun c_29 => ?_)
                · replace c_29 := cn_le (a := 4) (b := 2) (by omega) (by omega) c_29
                  exact absurd c_29 (by decide)
                · replace c_29 := cn_nle (a := 4) (b := 2) (by omega) (by omega) c_29
                  refine lv_aload_n hx hb dX1_readOrder_75 rfl (lv_at hl 2 rfl) ?_
                  refine lv_aload_n hx hb dX1_readOrder_76 rfl (lv_at hl 1 rfl) ?_
                  refine lv_iload_n hx hb dX1_readOrder_77 rfl (lv_at hl 0 rfl) ?_
                  have hst := hst0.kept hS.2.1
                  have hsg := sts_g hst 2 (by decide)
                  refine rg_V S sgs_stb hsg (mJ0_charAt l (i := 2) (ch := 109) (by decide) (by decide) rfl (by decide) (by decide) rfl) gX1_readOrder_J0_charAt_5068e rfl idJ0_charAt ⟨Nat.le_of_ble_eq_true rfl, Nat.le_of_ble_eq_true rfl⟩ (sgs_rc hsg) rfl hl.1 rfl (Nat.le_of_ble_eq_true rfl) dX1_readOrder_78 ⟨Nat.le_refl _, Nat.le_refl _⟩ (fun r9 hr9 => ?_)
                  subst hr9
                  refine W.eq (g2 := F0 m 81 ls [.int 109, .ref (q 2)]) rfl ?_
                  refine mu_V S hkx (mX1_readPart_m l (hP := hP) (hD := hD.weaken (fun _ _ _ _ => trivial)) (q := q) (a := a) (N := N) (Z := Z) (b := b) (M := M) (Y := Y) (sc := sc) (tx := tx) (L := L) (cu := (cu + 3)) (er := er) (le := (tx cu)) (nb := (upd nb 0 (tx (cu + 1) - 48))) (nc := 1) (hL := (by omega)) (hcu := (by omega)) (hnc := (by omega))) gX1_readOrder_X1_readPart rfl idX1_readPart ⟨Nat.le_of_ble_eq_true rfl, Nat.le_of_ble_eq_true rfl⟩ hP 2 rfl rfl rfl rfl hl.1 rfl (Nat.le_of_ble_eq_true rfl) dX1_readOrder_81 ⟨Nat.le_of_ble_eq_true rfl, Nat.le_of_ble_eq_true rfl⟩ hS (fr_in hD (fun q h => hA q (Nat.le_trans hS.1 h))) (fun v H locs hp9 hz1 hk1 hS => ?_)
                  obtain ⟨rfl, hP⟩ := hp9
                  have hP : va_P G vwCl (wMain T q a N Z b M Y sc tx L ((cu + 3) + ru tx L 2 (cu + 3)) (if numB tx L 2 1 (cu + 3) = true then er else (nI (numE tx L 2 (cu + 3)))) (tx cu) (if numB tx L 2 1 (cu + 3) = true then upd (upd nb 0 (tx (cu + 1) - 48)) 1 (vn tx (cu + 3) (ru tx L 2 (cu + 3))) else (upd nb 0 (tx (cu + 1) - 48))) (if numB tx L 2 1 (cu + 3) = true then 1 + 1 else 1)) H := hP
                  have hD : va_D A (wMain T q a N Z b M Y sc tx L ((cu + 3) + ru tx L 2 (cu + 3)) (if numB tx L 2 1 (cu + 3) = true then er else (nI (numE tx L 2 (cu + 3)))) (tx cu) (if numB tx L 2 1 (cu + 3) = true then upd (upd nb 0 (tx (cu + 1) - 48)) 1 (vn tx (cu + 3) (ru tx L 2 (cu + 3))) else (upd nb 0 (tx (cu + 1) - 48))) (if numB tx L 2 1 (cu + 3) = true then 1 + 1 else 1)) := D_perm hD (List.Perm.refl _)
                  refine W.eq (g2 := F0 m 84 ls [.int (bI (numB tx L 2 1 (cu + 3)))]) rfl ?_
                  refine lv_if_ne (tgt := 89) hx hb dX1_readOrder_84 (by decide) (fun c_30 => ?_) (fun c_30 => ?_)
                  · replace c_30 := bI_n0 c_30
                    have hq9 := c_30
                    simp only [if_pos hq9] at hP hD
                    have hru9 := ru_le (tx := tx) (L := L) 2 (cu + 3) (by omega)
                    have hP : va_P G vwCl (wMain T q a N Z b M Y sc tx L ((cu + 3) + ru tx L 2 (cu + 3)) er (tx cu) (upd (upd nb 0 (tx (cu + 1) - 48)) 1 (vn tx (cu + 3) (ru tx L 2 (cu + 3)))) 2) H := hP
                    have hD : va_D A (wMain T q a N Z b M Y sc tx L ((cu + 3) + ru tx L 2 (cu + 3)) er (tx cu) (upd (upd nb 0 (tx (cu + 1) - 48)) 1 (vn tx (cu + 3) (ru tx L 2 (cu + 3)))) 2) := hD
                    have hpo : (pNm tx L 2 1 (pSg tx L 43 (pDg tx L 7 (pSg tx L (tx cu) (pok cu []))))) = pok ((cu + 3) + ru tx L 2 (cu + 3)) (([] ++ [(tx (cu + 1) - 48)]) ++ [(vn tx (cu + 3) (ru tx L 2 (cu + 3)))]) := by rw [hpo]; exact nm_t hq9
                    refine lv_iinc (v := (nI 3)) (lv' := [(2, .int (nI 3)), (1, .ref (kk 2)), (0, .ref (q 2))]) hx hb dX1_readOrder_89 hl (k := 0) rfl (nI_inc 2) (by decide) rfl (fun ls hl => ?_)
                    refine lv_goto (tgt := 67) hx hb dX1_readOrder_92 (by decide) ?_
                    refine lv_iload_n hx hb dX1_readOrder_67 rfl (lv_at hl 0 rfl) ?_
                    refine lv_aload_n hx hb dX1_readOrder_68 rfl (lv_at hl 1 rfl) ?_
                    have hst := hst0.kept hS.2.1
                    have hsg := sts_g hst 2 (by decide)
                    refine rg_V S sgs_stb hsg (mJ0_length l) gX1_readOrder_J0_length_8abf5 rfl idJ0_length ⟨Nat.le_of_ble_eq_true rfl, Nat.le_of_ble_eq_true rfl⟩ (sgs_rc hsg) rfl hl.1 rfl (Nat.le_of_ble_eq_true rfl) dX1_readOrder_69 ⟨Nat.le_refl _, Nat.le_refl _⟩ (fun r9 hr9 => ?_)
                    subst hr9
                    refine W.eq (g2 := F0 m 72 ls [.int (nI 4), .int (nI 3)]) rfl ?_
                    refine lv_icmp_ge (tgt := 95) hx hb dX1_readOrder_72 (by decide) (fun c_31 => ?_) (fun c_31 => ?_)
                    · replace c_31 := cn_le (a := 4) (b := 3) (by omega) (by omega) c_31
                      exact absurd c_31 (by decide)
                    · replace c_31 := cn_nle (a := 4) (b := 3) (by omega) (by omega) c_31
                      refine lv_aload_n hx hb dX1_readOrder_75 rfl (lv_at hl 2 rfl) ?_
                      refine lv_aload_n hx hb dX1_readOrder_76 rfl (lv_at hl 1 rfl) ?_
                      refine lv_iload_n hx hb dX1_readOrder_77 rfl (lv_at hl 0 rfl) ?_
                      have hst := hst0.kept hS.2.1
                      have hsg := sts_g hst 2 (by decide)
                      refine rg_V S sgs_stb hsg (mJ0_charAt l (i := 3) (ch := 59) (by decide) (by decide) rfl (by decide) (by decide) rfl) gX1_readOrder_J0_charAt_5068e rfl idJ0_charAt ⟨Nat.le_of_ble_eq_true rfl, Nat.le_of_ble_eq_true rfl⟩ (sgs_rc hsg) rfl hl.1 rfl (Nat.le_of_ble_eq_true rfl) dX1_readOrder_78 ⟨Nat.le_refl _, Nat.le_refl _⟩ (fun r9 hr9 => ?_)
                      subst hr9
                      refine W.eq (g2 := F0 m 81 ls [.int 59, .ref (q 2)]) rfl ?_
                      refine mu_V S hkx (mX1_readPart_s59 l (hP := hP) (hD := hD.weaken (fun _ _ _ _ => trivial)) (q := q) (a := a) (N := N) (Z := Z) (b := b) (M := M) (Y := Y) (sc := sc) (tx := tx) (L := L) (cu := ((cu + 3) + ru tx L 2 (cu + 3))) (er := er) (le := (tx cu)) (nb := (upd (upd nb 0 (tx (cu + 1) - 48)) 1 (vn tx (cu + 3) (ru tx L 2 (cu + 3))))) (nc := 2) (hL := (by omega)) (hcu := (by omega))) gX1_readOrder_X1_readPart rfl idX1_readPart ⟨Nat.le_of_ble_eq_true rfl, Nat.le_of_ble_eq_true rfl⟩ hP 2 rfl rfl rfl rfl hl.1 rfl (Nat.le_of_ble_eq_true rfl) dX1_readOrder_81 ⟨Nat.le_of_ble_eq_true rfl, Nat.le_of_ble_eq_true rfl⟩ hS (fr_in hD (fun q h => hA q (Nat.le_trans hS.1 h))) (fun v H locs hp9 hz1 hk1 hS => ?_)
                      obtain ⟨rfl, hP⟩ := hp9
                      have hP : va_P G vwCl (wMain T q a N Z b M Y sc tx L (if chr tx L ((cu + 3) + ru tx L 2 (cu + 3)) = 59 then ((cu + 3) + ru tx L 2 (cu + 3)) + 1 else ((cu + 3) + ru tx L 2 (cu + 3))) (if chr tx L ((cu + 3) + ru tx L 2 (cu + 3)) = 59 then er else (nI ((cu + 3) + ru tx L 2 (cu + 3)))) (tx cu) (upd (upd nb 0 (tx (cu + 1) - 48)) 1 (vn tx (cu + 3) (ru tx L 2 (cu + 3)))) 2) H := hP
                      have hD : va_D A (wMain T q a N Z b M Y sc tx L (if chr tx L ((cu + 3) + ru tx L 2 (cu + 3)) = 59 then ((cu + 3) + ru tx L 2 (cu + 3)) + 1 else ((cu + 3) + ru tx L 2 (cu + 3))) (if chr tx L ((cu + 3) + ru tx L 2 (cu + 3)) = 59 then er else (nI ((cu + 3) + ru tx L 2 (cu + 3)))) (tx cu) (upd (upd nb 0 (tx (cu + 1) - 48)) 1 (vn tx (cu + 3) (ru tx L 2 (cu + 3)))) 2) := D_perm hD (List.Perm.refl _)
                      refine W.eq (g2 := F0 m 84 ls [.int (bI (decide (chr tx L ((cu + 3) + ru tx L 2 (cu + 3)) = 59)))]) rfl ?_
                      refine lv_if_ne (tgt := 89) hx hb dX1_readOrder_84 (by decide) (fun c_32 => ?_) (fun c_32 => ?_)
                      · replace c_32 := bI_n0 c_32
                        have hq9 : chr tx L ((cu + 3) + ru tx L 2 (cu + 3)) = 59 := of_decide_eq_true c_32
                        simp only [if_pos hq9] at hP hD
                        have hlt9 := chr_s (by decide) hq9
                        have hP : va_P G vwCl (wMain T q a N Z b M Y sc tx L (((cu + 3) + ru tx L 2 (cu + 3)) + 1) er (tx cu) (upd (upd nb 0 (tx (cu + 1) - 48)) 1 (vn tx (cu + 3) (ru tx L 2 (cu + 3)))) 2) H := hP
                        have hD : va_D A (wMain T q a N Z b M Y sc tx L (((cu + 3) + ru tx L 2 (cu + 3)) + 1) er (tx cu) (upd (upd nb 0 (tx (cu + 1) - 48)) 1 (vn tx (cu + 3) (ru tx L 2 (cu + 3)))) 2) := hD
                        have hpo : (pSg tx L 59 (pNm tx L 2 1 (pSg tx L 43 (pDg tx L 7 (pSg tx L (tx cu) (pok cu [])))))) = pok (((cu + 3) + ru tx L 2 (cu + 3)) + 1) (([] ++ [(tx (cu + 1) - 48)]) ++ [(vn tx (cu + 3) (ru tx L 2 (cu + 3)))]) := by rw [hpo]; exact if_pos hq9
                        refine lv_iinc (v := (nI 4)) (lv' := [(2, .int (nI 4)), (1, .ref (kk 2)), (0, .ref (q 2))]) hx hb dX1_readOrder_89 hl (k := 0) rfl (nI_inc 3) (by decide) rfl (fun ls hl => ?_)
                        refine lv_goto (tgt := 67) hx hb dX1_readOrder_92 (by decide) ?_
                        refine lv_iload_n hx hb dX1_readOrder_67 rfl (lv_at hl 0 rfl) ?_
                        refine lv_aload_n hx hb dX1_readOrder_68 rfl (lv_at hl 1 rfl) ?_
                        have hst := hst0.kept hS.2.1
                        have hsg := sts_g hst 2 (by decide)
                        refine rg_V S sgs_stb hsg (mJ0_length l) gX1_readOrder_J0_length_8abf5 rfl idJ0_length ⟨Nat.le_of_ble_eq_true rfl, Nat.le_of_ble_eq_true rfl⟩ (sgs_rc hsg) rfl hl.1 rfl (Nat.le_of_ble_eq_true rfl) dX1_readOrder_69 ⟨Nat.le_refl _, Nat.le_refl _⟩ (fun r9 hr9 => ?_)
                        subst hr9
                        refine W.eq (g2 := F0 m 72 ls [.int (nI 4), .int (nI 4)]) rfl ?_
                        refine lv_icmp_ge (tgt := 95) hx hb dX1_readOrder_72 (by decide) (fun c_33 => ?_) (fun c_33 => ?_)
                        · replace c_33 := cn_le (a := 4) (b := 4) (by omega) (by omega) c_33
                          refine lv_iconst (v := 1) hx hb dX1_readOrder_95 (by decide) ?_
                          exact hret _ _ _ _ _ (show roO G T q a N Z b M Y sc tx L cu er le nb nc (some (Value.int 1)) H from Or.inr (Or.inr ⟨hlt, (((cu + 3) + ru tx L 2 (cu + 3)) + 1), (([] ++ [(tx (cu + 1) - 48)]) ++ [(vn tx (cu + 3) (ru tx L 2 (cu + 3)))]), by unfold prs1; rw [if_neg e_112, if_neg e_108, if_pos e_101]; exact hpo, rfl, (upd (upd nb 0 (tx (cu + 1) - 48)) 1 (vn tx (cu + 3) (ru tx L 2 (cu + 3)))), _, nms_of (Or.inr (Or.inr (Or.inl ⟨e_101, rfl⟩))), hP⟩)) rfl hS dX1_readOrder_96
                        · replace c_33 := cn_nle (a := 4) (b := 4) (by omega) (by omega) c_33
                          exact absurd c_33 (by decide)
                      · replace c_32 := bI_e0 c_32
                        have hq9 : ¬ chr tx L ((cu + 3) + ru tx L 2 (cu + 3)) = 59 := of_decide_eq_false c_32
                        simp only [if_neg hq9] at hP hD
                        have hP : va_P G vwCl (wMain T q a N Z b M Y sc tx L ((cu + 3) + ru tx L 2 (cu + 3)) (nI ((cu + 3) + ru tx L 2 (cu + 3))) (tx cu) (upd (upd nb 0 (tx (cu + 1) - 48)) 1 (vn tx (cu + 3) (ru tx L 2 (cu + 3)))) 2) H := hP
                        have hD : va_D A (wMain T q a N Z b M Y sc tx L ((cu + 3) + ru tx L 2 (cu + 3)) (nI ((cu + 3) + ru tx L 2 (cu + 3))) (tx cu) (upd (upd nb 0 (tx (cu + 1) - 48)) 1 (vn tx (cu + 3) (ru tx L 2 (cu + 3)))) 2) := hD
                        have hpe : (pSg tx L 59 (pNm tx L 2 1 (pSg tx L 43 (pDg tx L 7 (pSg tx L (tx cu) (pok cu [])))))) = per ((cu + 3) + ru tx L 2 (cu + 3)) ((cu + 3) + ru tx L 2 (cu + 3)) := by rw [hpo]; exact if_neg hq9
                        refine lv_iconst (v := 0) hx hb dX1_readOrder_87 (by decide) ?_
                        exact hret _ _ _ _ _ (show roO G T q a N Z b M Y sc tx L cu er le nb nc (some (Value.int 0)) H from Or.inr (Or.inl ⟨hlt, ((cu + 3) + ru tx L 2 (cu + 3)), ((cu + 3) + ru tx L 2 (cu + 3)), by unfold prs1; rw [if_neg e_112, if_neg e_108, if_pos e_101]; exact (show (pSg tx L 59 (pNm tx L 2 1 (pSg tx L 43 (pDg tx L 7 (pSg tx L (tx cu) (pok cu [])))))) = per ((cu + 3) + ru tx L 2 (cu + 3)) ((cu + 3) + ru tx L 2 (cu + 3)) from by first | exact hpe | (rw [hpe]; rfl)), rfl, _, _, _, hP⟩)) rfl hS dX1_readOrder_88
                  · replace c_30 := bI_e0 c_30
                    have hq9 := Bool.eq_false_iff.mp c_30
                    simp only [if_neg hq9] at hP hD
                    have hP : va_P G vwCl (wMain T q a N Z b M Y sc tx L ((cu + 3) + ru tx L 2 (cu + 3)) (nI (numE tx L 2 (cu + 3))) (tx cu) (upd nb 0 (tx (cu + 1) - 48)) 1) H := hP
                    have hD : va_D A (wMain T q a N Z b M Y sc tx L ((cu + 3) + ru tx L 2 (cu + 3)) (nI (numE tx L 2 (cu + 3))) (tx cu) (upd nb 0 (tx (cu + 1) - 48)) 1) := hD
                    have hpe : ∃ a9, (pSg tx L 59 (pNm tx L 2 1 (pSg tx L 43 (pDg tx L 7 (pSg tx L (tx cu) (pok cu [])))))) = per (numE tx L 2 (cu + 3)) a9 := by rw [hpo]; exact nm_f (by decide) (by decide) c_30
                    obtain ⟨a9, hpe⟩ := hpe
                    refine lv_iconst (v := 0) hx hb dX1_readOrder_87 (by decide) ?_
                    exact hret _ _ _ _ _ (show roO G T q a N Z b M Y sc tx L cu er le nb nc (some (Value.int 0)) H from Or.inr (Or.inl ⟨hlt, (numE tx L 2 (cu + 3)), a9, by unfold prs1; rw [if_neg e_112, if_neg e_108, if_pos e_101]; exact (show (pSg tx L 59 (pNm tx L 2 1 (pSg tx L 43 (pDg tx L 7 (pSg tx L (tx cu) (pok cu [])))))) = per (numE tx L 2 (cu + 3)) a9 from by first | exact hpe | (rw [hpe]; rfl)), rfl, _, _, _, hP⟩)) rfl hS dX1_readOrder_88
              · replace c_28 := bI_e0 c_28
                have hq9 : ¬ chr tx L (cu + 2) = 43 := of_decide_eq_false c_28
                simp only [if_neg hq9] at hP hD
                have hP : va_P G vwCl (wMain T q a N Z b M Y sc tx L (cu + 2) (nI (cu + 2)) (tx cu) (upd nb 0 (tx (cu + 1) - 48)) 1) H := hP
                have hD : va_D A (wMain T q a N Z b M Y sc tx L (cu + 2) (nI (cu + 2)) (tx cu) (upd nb 0 (tx (cu + 1) - 48)) 1) := hD
                have hpe : (pSg tx L 43 (pDg tx L 7 (pSg tx L (tx cu) (pok cu [])))) = per (cu + 2) (cu + 2) := by rw [hpo]; exact if_neg hq9
                refine lv_iconst (v := 0) hx hb dX1_readOrder_87 (by decide) ?_
                exact hret _ _ _ _ _ (show roO G T q a N Z b M Y sc tx L cu er le nb nc (some (Value.int 0)) H from Or.inr (Or.inl ⟨hlt, (cu + 2), (cu + 2), by unfold prs1; rw [if_neg e_112, if_neg e_108, if_pos e_101]; exact (show (pSg tx L 59 (pNm tx L 2 1 (pSg tx L 43 (pDg tx L 7 (pSg tx L (tx cu) (pok cu [])))))) = per (cu + 2) (cu + 2) from by first | exact hpe | (rw [hpe]; rfl)), rfl, _, _, _, hP⟩)) rfl hS dX1_readOrder_88
          · replace c_26 := bI_e0 c_26
            have hq9 := Bool.eq_false_iff.mp c_26
            simp only [if_neg hq9] at hP hD
            have hP : va_P G vwCl (wMain T q a N Z b M Y sc tx L (cu + 1) (nI (cu + 1)) (tx cu) nb 0) H := hP
            have hD : va_D A (wMain T q a N Z b M Y sc tx L (cu + 1) (nI (cu + 1)) (tx cu) nb 0) := hD
            have hpe : (pDg tx L 7 (pSg tx L (tx cu) (pok cu []))) = per (cu + 1) (cu + 1) := by rw [hpo]; exact if_neg (by rw [isG7]; exact hq9)
            refine lv_iconst (v := 0) hx hb dX1_readOrder_87 (by decide) ?_
            exact hret _ _ _ _ _ (show roO G T q a N Z b M Y sc tx L cu er le nb nc (some (Value.int 0)) H from Or.inr (Or.inl ⟨hlt, (cu + 1), (cu + 1), by unfold prs1; rw [if_neg e_112, if_neg e_108, if_pos e_101]; exact (show (pSg tx L 59 (pNm tx L 2 1 (pSg tx L 43 (pDg tx L 7 (pSg tx L (tx cu) (pok cu [])))))) = per (cu + 1) (cu + 1) from by first | exact hpe | (rw [hpe]; rfl)), rfl, _, _, _, hP⟩)) rfl hS dX1_readOrder_88
      · replace c_24 := cn_ne (a := 0) (b := 0) (by omega) (by omega) c_24
        exact absurd c_24 (by decide)
    by_cases e_115 : tx cu = 115
    · have hpo : pSg tx L (tx cu) (pok cu []) = pok (cu + 1) [] := if_pos (if_pos hlt)
      have hst := hst0.kept hS.2.1
      refine rg_S S sts_stb hst (mX1_partsOf l (le := (tx cu))) gX1_readOrder_X1_partsOf rfl idX1_partsOf.2 ⟨Nat.le_of_ble_eq_true rfl, Nat.le_of_ble_eq_true rfl⟩ rfl hl.1 rfl (Nat.le_of_ble_eq_true rfl) dX1_readOrder_30 ⟨Nat.le_refl _, Nat.le_refl _⟩ (fun r9 hr9 => ?_)
      subst hr9
      rw [show pix (tx cu) = 3 by rw [e_115]; rfl]
      refine W.eq (g2 := F0 m 33 ls [.ref (kk 3)]) rfl ?_
      refine lv_astore_n (lv' := [(1, .ref (kk 3)), (0, .ref (q 2))]) hx hb dX1_readOrder_33 rfl hl (by decide) rfl (fun ls hl => ?_)
      refine lv_aload_n hx hb dX1_readOrder_34 rfl (lv_at hl 0 rfl) ?_
      have hst := hst0.kept hS.2.1
      have hsg := sts_g hst 3 (by decide)
      refine rg_V S sgs_stb hsg (mJ0_isEmpty l (by decide)) gX1_readOrder_J0_isEmpty_aae02 rfl idJ0_isEmpty ⟨Nat.le_of_ble_eq_true rfl, Nat.le_of_ble_eq_true rfl⟩ (sgs_rc hsg) rfl hl.1 rfl (Nat.le_of_ble_eq_true rfl) dX1_readOrder_35 ⟨Nat.le_refl _, Nat.le_refl _⟩ (fun r9 hr9 => ?_)
      subst hr9
      refine W.eq (g2 := F0 m 38 ls [.int 0]) rfl ?_
      refine lv_if_eq (tgt := 50) hx hb dX1_readOrder_38 (by decide) (fun c_34 => ?_) (fun c_34 => ?_)
      · replace c_34 := cn_eq (a := 0) (b := 0) (by omega) (by omega) c_34
        refine lv_aload_n hx hb dX1_readOrder_50 rfl (lv_at hl 1 rfl) ?_
        refine lv_dup hx hb dX1_readOrder_51 rfl ?_
        refine va_get (D := G) (ci := 1) (C := RX1) (T := TX1) (N := 7) hx hb hts iX1 hown hkx.1 hP 2 rfl rfl 2 (by decide) k19 (fun _ h9 => h9) rfl dX1_readOrder_52 ?_
        refine lv_iconst (v := 1) hx hb dX1_readOrder_55 (by decide) ?_
        refine lv_iadd hx hb dX1_readOrder_56 ?_
        rw [show ((nI cu) + 1) = (nI (cu + 1)) from nI_add cu 1]
        refine va_put (D := G) (ci := 1) (v := .int (nI (cu + 1))) (ty := .int) (C := RX1) (T := TX1) (N := 7) hx hb hts iX1 tyX1 tyX1_ok nmX1 hown hkx.1 hP hD hS 2 rfl rfl 2 (by decide) k19 (fun _ h9 => h9) rfl (by decide +kernel) rfl rfl (Nat.le_of_ble_eq_true rfl) dX1_readOrder_57 (fun H locs hP hD hS => ?_)
        have hP : va_P G vwCl (wMain T q a N Z b M Y sc tx L (cu + 1) er (tx cu) nb nc) H := hP
        have hD : va_D A (wMain T q a N Z b M Y sc tx L (cu + 1) er (tx cu) nb nc) := hD
        refine lv_aload_n hx hb dX1_readOrder_60 rfl (lv_at hl 1 rfl) ?_
        refine lv_iconst (v := 0) hx hb dX1_readOrder_61 (by decide) ?_
        refine va_put (D := G) (ci := 1) (v := .int 0) (ty := .int) (C := RX1) (T := TX1) (N := 7) hx hb hts iX1 tyX1 tyX1_ok nmX1 hown hkx.1 hP hD hS 2 rfl rfl 6 (by decide) k32 (fun _ h9 => h9) rfl (by decide +kernel) rfl rfl (Nat.le_of_ble_eq_true rfl) dX1_readOrder_62 (fun H locs hP hD hS => ?_)
        have hP : va_P G vwCl (wMain T q a N Z b M Y sc tx L (cu + 1) er (tx cu) nb 0) H := hP
        have hD : va_D A (wMain T q a N Z b M Y sc tx L (cu + 1) er (tx cu) nb 0) := hD
        refine lv_iconst (v := 0) hx hb dX1_readOrder_65 (by decide) ?_
        refine lv_istore_n (lv' := [(2, .int 0), (1, .ref (kk 3)), (0, .ref (q 2))]) hx hb dX1_readOrder_66 rfl hl (by decide) rfl (fun ls hl => ?_)
        refine lv_iload_n hx hb dX1_readOrder_67 rfl (lv_at hl 0 rfl) ?_
        refine lv_aload_n hx hb dX1_readOrder_68 rfl (lv_at hl 1 rfl) ?_
        have hst := hst0.kept hS.2.1
        have hsg := sts_g hst 3 (by decide)
        refine rg_V S sgs_stb hsg (mJ0_length l) gX1_readOrder_J0_length_8abf5 rfl idJ0_length ⟨Nat.le_of_ble_eq_true rfl, Nat.le_of_ble_eq_true rfl⟩ (sgs_rc hsg) rfl hl.1 rfl (Nat.le_of_ble_eq_true rfl) dX1_readOrder_69 ⟨Nat.le_refl _, Nat.le_refl _⟩ (fun r9 hr9 => ?_)
        subst hr9
        refine W.eq (g2 := F0 m 72 ls [.int (nI 9), .int 0]) rfl ?_
        refine lv_icmp_ge (tgt := 95) hx hb dX1_readOrder_72 (by decide) (fun c_35 => ?_) (fun c_35 => ?_)
        · replace c_35 := cn_le (a := 9) (b := 0) (by omega) (by omega) c_35
          exact absurd c_35 (by decide)
        · replace c_35 := cn_nle (a := 9) (b := 0) (by omega) (by omega) c_35
          refine lv_aload_n hx hb dX1_readOrder_75 rfl (lv_at hl 2 rfl) ?_
          refine lv_aload_n hx hb dX1_readOrder_76 rfl (lv_at hl 1 rfl) ?_
          refine lv_iload_n hx hb dX1_readOrder_77 rfl (lv_at hl 0 rfl) ?_
          have hst := hst0.kept hS.2.1
          have hsg := sts_g hst 3 (by decide)
          refine rg_V S sgs_stb hsg (mJ0_charAt l (i := 0) (ch := 110) (by decide) (by decide) rfl (by decide) (by decide) rfl) gX1_readOrder_J0_charAt_5068e rfl idJ0_charAt ⟨Nat.le_of_ble_eq_true rfl, Nat.le_of_ble_eq_true rfl⟩ (sgs_rc hsg) rfl hl.1 rfl (Nat.le_of_ble_eq_true rfl) dX1_readOrder_78 ⟨Nat.le_refl _, Nat.le_refl _⟩ (fun r9 hr9 => ?_)
          subst hr9
          refine W.eq (g2 := F0 m 81 ls [.int 110, .ref (q 2)]) rfl ?_
          refine mu_V S hkx (mX1_readPart_n l (hP := hP) (hD := hD.weaken (fun _ _ _ _ => trivial)) (q := q) (a := a) (N := N) (Z := Z) (b := b) (M := M) (Y := Y) (sc := sc) (tx := tx) (L := L) (cu := (cu + 1)) (er := er) (le := (tx cu)) (nb := nb) (nc := 0) (hL := (by omega)) (hcu := (by omega)) (hnc := (by omega))) gX1_readOrder_X1_readPart rfl idX1_readPart ⟨Nat.le_of_ble_eq_true rfl, Nat.le_of_ble_eq_true rfl⟩ hP 2 rfl rfl rfl rfl hl.1 rfl (Nat.le_of_ble_eq_true rfl) dX1_readOrder_81 ⟨Nat.le_of_ble_eq_true rfl, Nat.le_of_ble_eq_true rfl⟩ hS (fr_in hD (fun q h => hA q (Nat.le_trans hS.1 h))) (fun v H locs hp9 hz1 hk1 hS => ?_)
          obtain ⟨rfl, hP⟩ := hp9
          have hP : va_P G vwCl (wMain T q a N Z b M Y sc tx L (if isW (chr tx L (cu + 1)) 48 57 = true then (cu + 1) + 1 else (cu + 1)) (if isW (chr tx L (cu + 1)) 48 57 = true then er else (nI (cu + 1))) (tx cu) (if isW (chr tx L (cu + 1)) 48 57 = true then upd nb 0 (tx (cu + 1) - 48) else nb) (if isW (chr tx L (cu + 1)) 48 57 = true then 0 + 1 else 0)) H := hP
          have hD : va_D A (wMain T q a N Z b M Y sc tx L (if isW (chr tx L (cu + 1)) 48 57 = true then (cu + 1) + 1 else (cu + 1)) (if isW (chr tx L (cu + 1)) 48 57 = true then er else (nI (cu + 1))) (tx cu) (if isW (chr tx L (cu + 1)) 48 57 = true then upd nb 0 (tx (cu + 1) - 48) else nb) (if isW (chr tx L (cu + 1)) 48 57 = true then 0 + 1 else 0)) := D_perm hD (List.Perm.refl _)
          refine W.eq (g2 := F0 m 84 ls [.int (bI (isW (chr tx L (cu + 1)) 48 57))]) rfl ?_
          refine lv_if_ne (tgt := 89) hx hb dX1_readOrder_84 (by decide) (fun c_36 => ?_) (fun c_36 => ?_)
          · replace c_36 := bI_n0 c_36
            have hq9 := c_36
            simp only [if_pos hq9] at hP hD
            have hlt9 := chr_w hq9
            have hP : va_P G vwCl (wMain T q a N Z b M Y sc tx L (cu + 2) er (tx cu) (upd nb 0 (tx (cu + 1) - 48)) 1) H := hP
            have hD : va_D A (wMain T q a N Z b M Y sc tx L (cu + 2) er (tx cu) (upd nb 0 (tx (cu + 1) - 48)) 1) := hD
            have hpo : (pDg tx L 9 (pSg tx L (tx cu) (pok cu []))) = pok (cu + 2) ([] ++ [(tx (cu + 1) - 48)]) := by rw [hpo]; exact if_pos (by rw [isG9]; exact hq9)
            refine lv_iinc (v := (nI 1)) (lv' := [(2, .int (nI 1)), (1, .ref (kk 3)), (0, .ref (q 2))]) hx hb dX1_readOrder_89 hl (k := 0) rfl (nI_inc 0) (by decide) rfl (fun ls hl => ?_)
            refine lv_goto (tgt := 67) hx hb dX1_readOrder_92 (by decide) ?_
            refine lv_iload_n hx hb dX1_readOrder_67 rfl (lv_at hl 0 rfl) ?_
            refine lv_aload_n hx hb dX1_readOrder_68 rfl (lv_at hl 1 rfl) ?_
            have hst := hst0.kept hS.2.1
            have hsg := sts_g hst 3 (by decide)
            refine rg_V S sgs_stb hsg (mJ0_length l) gX1_readOrder_J0_length_8abf5 rfl idJ0_length ⟨Nat.le_of_ble_eq_true rfl, Nat.le_of_ble_eq_true rfl⟩ (sgs_rc hsg) rfl hl.1 rfl (Nat.le_of_ble_eq_true rfl) dX1_readOrder_69 ⟨Nat.le_refl _, Nat.le_refl _⟩ (fun r9 hr9 => ?_)
            subst hr9
            refine W.eq (g2 := F0 m 72 ls [.int (nI 9), .int (nI 1)]) rfl ?_
            refine lv_icmp_ge (tgt := 95) hx hb dX1_readOrder_72 (by decide) (fun c_37 => ?_) (fun c_37 => ?_)
            · replace c_37 := cn_le (a := 9) (b := 1) (by omega) (by omega) c_37
              exact absurd c_37 (by decide)
            · replace c_37 := cn_nle (a := 9) (b := 1) (by omega) (by omega) c_37
              refine lv_aload_n hx hb dX1_readOrder_75 rfl (lv_at hl 2 rfl) ?_
              refine lv_aload_n hx hb dX1_readOrder_76 rfl (lv_at hl 1 rfl) ?_
              refine lv_iload_n hx hb dX1_readOrder_77 rfl (lv_at hl 0 rfl) ?_
              have hst := hst0.kept hS.2.1
              have hsg := sts_g hst 3 (by decide)
              refine rg_V S sgs_stb hsg (mJ0_charAt l (i := 1) (ch := 118) (by decide) (by decide) rfl (by decide) (by decide) rfl) gX1_readOrder_J0_charAt_5068e rfl idJ0_charAt ⟨Nat.le_of_ble_eq_true rfl, Nat.le_of_ble_eq_true rfl⟩ (sgs_rc hsg) rfl hl.1 rfl (Nat.le_of_ble_eq_true rfl) dX1_readOrder_78 ⟨Nat.le_refl _, Nat.le_refl _⟩ (fun r9 hr9 => ?_)
              subst hr9
              refine W.eq (g2 := F0 m 81 ls [.int 118, .ref (q 2)]) rfl ?_
              refine mu_V S hkx (mX1_readPart_v l (hP := hP) (hD := hD.weaken (fun _ _ _ _ => trivial)) (q := q) (a := a) (N := N) (Z := Z) (b := b) (M := M) (Y := Y) (sc := sc) (tx := tx) (L := L) (cu := (cu + 2)) (er := er) (le := (tx cu)) (nb := (upd nb 0 (tx (cu + 1) - 48))) (nc := 1) (hL := (by omega)) (hcu := (by omega)) (hnc := (by omega))) gX1_readOrder_X1_readPart rfl idX1_readPart ⟨Nat.le_of_ble_eq_true rfl, Nat.le_of_ble_eq_true rfl⟩ hP 2 rfl rfl rfl rfl hl.1 rfl (Nat.le_of_ble_eq_true rfl) dX1_readOrder_81 ⟨Nat.le_of_ble_eq_true rfl, Nat.le_of_ble_eq_true rfl⟩ hS (fr_in hD (fun q h => hA q (Nat.le_trans hS.1 h))) (fun v H locs hp9 hz1 hk1 hS => ?_)
              obtain ⟨rfl, hP⟩ := hp9
              have hP : va_P G vwCl (wMain T q a N Z b M Y sc tx L (if isW (chr tx L (cu + 2)) 48 55 = true then (cu + 2) + 1 else (cu + 2)) (if isW (chr tx L (cu + 2)) 48 55 = true then er else (nI (cu + 2))) (tx cu) (if isW (chr tx L (cu + 2)) 48 55 = true then upd (upd nb 0 (tx (cu + 1) - 48)) 1 (tx (cu + 2) - 48) else (upd nb 0 (tx (cu + 1) - 48))) (if isW (chr tx L (cu + 2)) 48 55 = true then 1 + 1 else 1)) H := hP
              have hD : va_D A (wMain T q a N Z b M Y sc tx L (if isW (chr tx L (cu + 2)) 48 55 = true then (cu + 2) + 1 else (cu + 2)) (if isW (chr tx L (cu + 2)) 48 55 = true then er else (nI (cu + 2))) (tx cu) (if isW (chr tx L (cu + 2)) 48 55 = true then upd (upd nb 0 (tx (cu + 1) - 48)) 1 (tx (cu + 2) - 48) else (upd nb 0 (tx (cu + 1) - 48))) (if isW (chr tx L (cu + 2)) 48 55 = true then 1 + 1 else 1)) := D_perm hD (List.Perm.refl _)
              refine W.eq (g2 := F0 m 84 ls [.int (bI (isW (chr tx L (cu + 2)) 48 55))]) rfl ?_
              refine lv_if_ne (tgt := 89) hx hb dX1_readOrder_84 (by decide) (fun c_38 => ?_) (fun c_38 => ?_)
              · replace c_38 := bI_n0 c_38
                have hq9 := c_38
                simp only [if_pos hq9] at hP hD
                have hlt9 := chr_w hq9
                have hP : va_P G vwCl (wMain T q a N Z b M Y sc tx L (cu + 3) er (tx cu) (upd (upd nb 0 (tx (cu + 1) - 48)) 1 (tx (cu + 2) - 48)) 2) H := hP
                have hD : va_D A (wMain T q a N Z b M Y sc tx L (cu + 3) er (tx cu) (upd (upd nb 0 (tx (cu + 1) - 48)) 1 (tx (cu + 2) - 48)) 2) := hD
                have hpo : (pDg tx L 7 (pDg tx L 9 (pSg tx L (tx cu) (pok cu [])))) = pok (cu + 3) (([] ++ [(tx (cu + 1) - 48)]) ++ [(tx (cu + 2) - 48)]) := by rw [hpo]; exact if_pos (by rw [isG7]; exact hq9)
                refine lv_iinc (v := (nI 2)) (lv' := [(2, .int (nI 2)), (1, .ref (kk 3)), (0, .ref (q 2))]) hx hb dX1_readOrder_89 hl (k := 0) rfl (nI_inc 1) (by decide) rfl (fun ls hl => ?_)
                refine lv_goto (tgt := 67) hx hb dX1_readOrder_92 (by decide) ?_
                refine lv_iload_n hx hb dX1_readOrder_67 rfl (lv_at hl 0 rfl) ?_
                refine lv_aload_n hx hb dX1_readOrder_68 rfl (lv_at hl 1 rfl) ?_
                have hst := hst0.kept hS.2.1
                have hsg := sts_g hst 3 (by decide)
                refine rg_V S sgs_stb hsg (mJ0_length l) gX1_readOrder_J0_length_8abf5 rfl idJ0_length ⟨Nat.le_of_ble_eq_true rfl, Nat.le_of_ble_eq_true rfl⟩ (sgs_rc hsg) rfl hl.1 rfl (Nat.le_of_ble_eq_true rfl) dX1_readOrder_69 ⟨Nat.le_refl _, Nat.le_refl _⟩ (fun r9 hr9 => ?_)
                subst hr9
                refine W.eq (g2 := F0 m 72 ls [.int (nI 9), .int (nI 2)]) rfl ?_
                refine lv_icmp_ge (tgt := 95) hx hb dX1_readOrder_72 (by decide) (fun c_39 => ?_) (fun c_39 => ?_)
                · replace c_39 := cn_le (a := 9) (b := 2) (by omega) (by omega) c_39
                  exact absurd c_39 (by decide)
                · replace c_39 := cn_nle (a := 9) (b := 2) (by omega) (by omega) c_39
                  refine lv_aload_n hx hb dX1_readOrder_75 rfl (lv_at hl 2 rfl) ?_
                  refine lv_aload_n hx hb dX1_readOrder_76 rfl (lv_at hl 1 rfl) ?_
                  refine lv_iload_n hx hb dX1_readOrder_77 rfl (lv_at hl 0 rfl) ?_
                  have hst := hst0.kept hS.2.1
                  have hsg := sts_g hst 3 (by decide)
                  refine rg_V S sgs_stb hsg (mJ0_charAt l (i := 2) (ch := 58) (by decide) (by decide) rfl (by decide) (by decide) rfl) gX1_readOrder_J0_charAt_5068e rfl idJ0_charAt ⟨Nat.le_of_ble_eq_true rfl, Nat.le_of_ble_eq_true rfl⟩ (sgs_rc hsg) rfl hl.1 rfl (Nat.le_of_ble_eq_true rfl) dX1_readOrder_78 ⟨Nat.le_refl _, Nat.le_refl _⟩ (fun r9 hr9 => ?_)
                  subst hr9
                  refine W.eq (g2 := F0 m 81 ls [.int 58, .ref (q 2)]) rfl ?_
                  refine mu_V S hkx (mX1_readPart_s58 l (hP := hP) (hD := hD.weaken (fun _ _ _ _ => trivial)) (q := q) (a := a) (N := N) (Z := Z) (b := b) (M := M) (Y := Y) (sc := sc) (tx := tx) (L := L) (cu := (cu + 3)) (er := er) (le := (tx cu)) (nb := (upd (upd nb 0 (tx (cu + 1) - 48)) 1 (tx (cu + 2) - 48))) (nc := 2) (hL := (by omega)) (hcu := (by omega))) gX1_readOrder_X1_readPart rfl idX1_readPart ⟨Nat.le_of_ble_eq_true rfl, Nat.le_of_ble_eq_true rfl⟩ hP 2 rfl rfl rfl rfl hl.1 rfl (Nat.le_of_ble_eq_true rfl) dX1_readOrder_81 ⟨Nat.le_of_ble_eq_true rfl, Nat.le_of_ble_eq_true rfl⟩ hS (fr_in hD (fun q h => hA q (Nat.le_trans hS.1 h))) (fun v H locs hp9 hz1 hk1 hS => ?_)
                  obtain ⟨rfl, hP⟩ := hp9
                  have hP : va_P G vwCl (wMain T q a N Z b M Y sc tx L (if chr tx L (cu + 3) = 58 then (cu + 3) + 1 else (cu + 3)) (if chr tx L (cu + 3) = 58 then er else (nI (cu + 3))) (tx cu) (upd (upd nb 0 (tx (cu + 1) - 48)) 1 (tx (cu + 2) - 48)) 2) H := hP
                  have hD : va_D A (wMain T q a N Z b M Y sc tx L (if chr tx L (cu + 3) = 58 then (cu + 3) + 1 else (cu + 3)) (if chr tx L (cu + 3) = 58 then er else (nI (cu + 3))) (tx cu) (upd (upd nb 0 (tx (cu + 1) - 48)) 1 (tx (cu + 2) - 48)) 2) := D_perm hD (List.Perm.refl _)
                  refine W.eq (g2 := F0 m 84 ls [.int (bI (decide (chr tx L (cu + 3) = 58)))]) rfl ?_
                  refine lv_if_ne (tgt := 89) hx hb dX1_readOrder_84 (by decide) (fun c_40 => ?_) (fun c_40 => ?_)
                  · replace c_40 := bI_n0 c_40
                    have hq9 : chr tx L (cu + 3) = 58 := of_decide_eq_true c_40
                    simp only [if_pos hq9] at hP hD
                    have hlt9 := chr_s (by decide) hq9
                    have hP : va_P G vwCl (wMain T q a N Z b M Y sc tx L (cu + 4) er (tx cu) (upd (upd nb 0 (tx (cu + 1) - 48)) 1 (tx (cu + 2) - 48)) 2) H := hP
                    have hD : va_D A (wMain T q a N Z b M Y sc tx L (cu + 4) er (tx cu) (upd (upd nb 0 (tx (cu + 1) - 48)) 1 (tx (cu + 2) - 48)) 2) := hD
                    have hpo : (pSg tx L 58 (pDg tx L 7 (pDg tx L 9 (pSg tx L (tx cu) (pok cu []))))) = pok (cu + 4) (([] ++ [(tx (cu + 1) - 48)]) ++ [(tx (cu + 2) - 48)]) := by rw [hpo]; exact if_pos hq9
                    refine lv_iinc (v := (nI 3)) (lv' := [(2, .int (nI 3)), (1, .ref (kk 3)), (0, .ref (q 2))]) hx hb dX1_readOrder_89 hl (k := 0) rfl (nI_inc 2) (by decide) rfl (fun ls hl => ?_)
                    refine lv_goto (tgt := 67) hx hb dX1_readOrder_92 (by decide) ?_
                    refine lv_iload_n hx hb dX1_readOrder_67 rfl (lv_at hl 0 rfl) ?_
                    refine lv_aload_n hx hb dX1_readOrder_68 rfl (lv_at hl 1 rfl) ?_
                    have hst := hst0.kept hS.2.1
                    have hsg := sts_g hst 3 (by decide)
                    refine rg_V S sgs_stb hsg (mJ0_length l) gX1_readOrder_J0_length_8abf5 rfl idJ0_length ⟨Nat.le_of_ble_eq_true rfl, Nat.le_of_ble_eq_true rfl⟩ (sgs_rc hsg) rfl hl.1 rfl (Nat.le_of_ble_eq_true rfl) dX1_readOrder_69 ⟨Nat.le_refl _, Nat.le_refl _⟩ (fun r9 hr9 => ?_)
                    subst hr9
                    refine W.eq (g2 := F0 m 72 ls [.int (nI 9), .int (nI 3)]) rfl ?_
                    refine lv_icmp_ge (tgt := 95) hx hb dX1_readOrder_72 (by decide) (fun c_41 => ?_) (fun c_41 => ?_)
                    · replace c_41 := cn_le (a := 9) (b := 3) (by omega) (by omega) c_41
                      exact absurd c_41 (by decide)
                    · replace c_41 := cn_nle (a := 9) (b := 3) (by omega) (by omega) c_41
                      refine lv_aload_n hx hb dX1_readOrder_75 rfl (lv_at hl 2 rfl) ?_
                      refine lv_aload_n hx hb dX1_readOrder_76 rfl (lv_at hl 1 rfl) ?_
                      refine lv_iload_n hx hb dX1_readOrder_77 rfl (lv_at hl 0 rfl) ?_
                      have hst := hst0.kept hS.2.1
                      have hsg := sts_g hst 3 (by decide)
                      refine rg_V S sgs_stb hsg (mJ0_charAt l (i := 3) (ch := 100) (by decide) (by decide) rfl (by decide) (by decide) rfl) gX1_readOrder_J0_charAt_5068e rfl idJ0_charAt ⟨Nat.le_of_ble_eq_true rfl, Nat.le_of_ble_eq_true rfl⟩ (sgs_rc hsg) rfl hl.1 rfl (Nat.le_of_ble_eq_true rfl) dX1_readOrder_78 ⟨Nat.le_refl _, Nat.le_refl _⟩ (fun r9 hr9 => ?_)
                      subst hr9
                      refine W.eq (g2 := F0 m 81 ls [.int 100, .ref (q 2)]) rfl ?_
                      refine mu_V S hkx (mX1_readPart_d l (hP := hP) (hD := hD.weaken (fun _ _ _ _ => trivial)) (q := q) (a := a) (N := N) (Z := Z) (b := b) (M := M) (Y := Y) (sc := sc) (tx := tx) (L := L) (cu := (cu + 4)) (er := er) (le := (tx cu)) (nb := (upd (upd nb 0 (tx (cu + 1) - 48)) 1 (tx (cu + 2) - 48))) (nc := 2) (hL := (by omega)) (hcu := (by omega)) (hnc := (by omega))) gX1_readOrder_X1_readPart rfl idX1_readPart ⟨Nat.le_of_ble_eq_true rfl, Nat.le_of_ble_eq_true rfl⟩ hP 2 rfl rfl rfl rfl hl.1 rfl (Nat.le_of_ble_eq_true rfl) dX1_readOrder_81 ⟨Nat.le_of_ble_eq_true rfl, Nat.le_of_ble_eq_true rfl⟩ hS (fr_in hD (fun q h => hA q (Nat.le_trans hS.1 h))) (fun v H locs hp9 hz1 hk1 hS => ?_)
                      obtain ⟨rfl, hP⟩ := hp9
                      have hP : va_P G vwCl (wMain T q a N Z b M Y sc tx L ((cu + 4) + ru tx L 3 (cu + 4)) (if numB tx L 3 0 (cu + 4) = true then er else (nI (numE tx L 3 (cu + 4)))) (tx cu) (if numB tx L 3 0 (cu + 4) = true then upd (upd (upd nb 0 (tx (cu + 1) - 48)) 1 (tx (cu + 2) - 48)) 2 (vn tx (cu + 4) (ru tx L 3 (cu + 4))) else (upd (upd nb 0 (tx (cu + 1) - 48)) 1 (tx (cu + 2) - 48))) (if numB tx L 3 0 (cu + 4) = true then 2 + 1 else 2)) H := hP
                      have hD : va_D A (wMain T q a N Z b M Y sc tx L ((cu + 4) + ru tx L 3 (cu + 4)) (if numB tx L 3 0 (cu + 4) = true then er else (nI (numE tx L 3 (cu + 4)))) (tx cu) (if numB tx L 3 0 (cu + 4) = true then upd (upd (upd nb 0 (tx (cu + 1) - 48)) 1 (tx (cu + 2) - 48)) 2 (vn tx (cu + 4) (ru tx L 3 (cu + 4))) else (upd (upd nb 0 (tx (cu + 1) - 48)) 1 (tx (cu + 2) - 48))) (if numB tx L 3 0 (cu + 4) = true then 2 + 1 else 2)) := D_perm hD (List.Perm.refl _)
                      refine W.eq (g2 := F0 m 84 ls [.int (bI (numB tx L 3 0 (cu + 4)))]) rfl ?_
                      refine lv_if_ne (tgt := 89) hx hb dX1_readOrder_84 (by decide) (fun c_42 => ?_) (fun c_42 => ?_)
                      · replace c_42 := bI_n0 c_42
                        have hq9 := c_42
                        simp only [if_pos hq9] at hP hD
                        have hru9 := ru_le (tx := tx) (L := L) 3 (cu + 4) (by omega)
                        have hP : va_P G vwCl (wMain T q a N Z b M Y sc tx L ((cu + 4) + ru tx L 3 (cu + 4)) er (tx cu) (upd (upd (upd nb 0 (tx (cu + 1) - 48)) 1 (tx (cu + 2) - 48)) 2 (vn tx (cu + 4) (ru tx L 3 (cu + 4)))) 3) H := hP
                        have hD : va_D A (wMain T q a N Z b M Y sc tx L ((cu + 4) + ru tx L 3 (cu + 4)) er (tx cu) (upd (upd (upd nb 0 (tx (cu + 1) - 48)) 1 (tx (cu + 2) - 48)) 2 (vn tx (cu + 4) (ru tx L 3 (cu + 4)))) 3) := hD
                        have hpo : (pNm tx L 3 0 (pSg tx L 58 (pDg tx L 7 (pDg tx L 9 (pSg tx L (tx cu) (pok cu [])))))) = pok ((cu + 4) + ru tx L 3 (cu + 4)) ((([] ++ [(tx (cu + 1) - 48)]) ++ [(tx (cu + 2) - 48)]) ++ [(vn tx (cu + 4) (ru tx L 3 (cu + 4)))]) := by rw [hpo]; exact nm_t hq9
                        refine lv_iinc (v := (nI 4)) (lv' := [(2, .int (nI 4)), (1, .ref (kk 3)), (0, .ref (q 2))]) hx hb dX1_readOrder_89 hl (k := 0) rfl (nI_inc 3) (by decide) rfl (fun ls hl => ?_)
                        refine lv_goto (tgt := 67) hx hb dX1_readOrder_92 (by decide) ?_
                        refine lv_iload_n hx hb dX1_readOrder_67 rfl (lv_at hl 0 rfl) ?_
                        refine lv_aload_n hx hb dX1_readOrder_68 rfl (lv_at hl 1 rfl) ?_
                        have hst := hst0.kept hS.2.1
                        have hsg := sts_g hst 3 (by decide)
                        refine rg_V S sgs_stb hsg (mJ0_length l) gX1_readOrder_J0_length_8abf5 rfl idJ0_length ⟨Nat.le_of_ble_eq_true rfl, Nat.le_of_ble_eq_true rfl⟩ (sgs_rc hsg) rfl hl.1 rfl (Nat.le_of_ble_eq_true rfl) dX1_readOrder_69 ⟨Nat.le_refl _, Nat.le_refl _⟩ (fun r9 hr9 => ?_)
                        subst hr9
                        refine W.eq (g2 := F0 m 72 ls [.int (nI 9), .int (nI 4)]) rfl ?_
                        refine lv_icmp_ge (tgt := 95) hx hb dX1_readOrder_72 (by decide) (fun c_43 => ?_) (fun c_43 => ?_)
                        · replace c_43 := cn_le (a := 9) (b := 4) (by omega) (by omega) c_43
                          exact absurd c_43 (by decide)
                        · replace c_43 := cn_nle (a := 9) (b := 4) (by omega) (by omega) c_43
                          refine lv_aload_n hx hb dX1_readOrder_75 rfl (lv_at hl 2 rfl) ?_
                          refine lv_aload_n hx hb dX1_readOrder_76 rfl (lv_at hl 1 rfl) ?_
                          refine lv_iload_n hx hb dX1_readOrder_77 rfl (lv_at hl 0 rfl) ?_
                          have hst := hst0.kept hS.2.1
                          have hsg := sts_g hst 3 (by decide)
                          refine rg_V S sgs_stb hsg (mJ0_charAt l (i := 4) (ch := 45) (by decide) (by decide) rfl (by decide) (by decide) rfl) gX1_readOrder_J0_charAt_5068e rfl idJ0_charAt ⟨Nat.le_of_ble_eq_true rfl, Nat.le_of_ble_eq_true rfl⟩ (sgs_rc hsg) rfl hl.1 rfl (Nat.le_of_ble_eq_true rfl) dX1_readOrder_78 ⟨Nat.le_refl _, Nat.le_refl _⟩ (fun r9 hr9 => ?_)
                          subst hr9
                          refine W.eq (g2 := F0 m 81 ls [.int 45, .ref (q 2)]) rfl ?_
                          refine mu_V S hkx (mX1_readPart_s45 l (hP := hP) (hD := hD.weaken (fun _ _ _ _ => trivial)) (q := q) (a := a) (N := N) (Z := Z) (b := b) (M := M) (Y := Y) (sc := sc) (tx := tx) (L := L) (cu := ((cu + 4) + ru tx L 3 (cu + 4))) (er := er) (le := (tx cu)) (nb := (upd (upd (upd nb 0 (tx (cu + 1) - 48)) 1 (tx (cu + 2) - 48)) 2 (vn tx (cu + 4) (ru tx L 3 (cu + 4))))) (nc := 3) (hL := (by omega)) (hcu := (by omega))) gX1_readOrder_X1_readPart rfl idX1_readPart ⟨Nat.le_of_ble_eq_true rfl, Nat.le_of_ble_eq_true rfl⟩ hP 2 rfl rfl rfl rfl hl.1 rfl (Nat.le_of_ble_eq_true rfl) dX1_readOrder_81 ⟨Nat.le_of_ble_eq_true rfl, Nat.le_of_ble_eq_true rfl⟩ hS (fr_in hD (fun q h => hA q (Nat.le_trans hS.1 h))) (fun v H locs hp9 hz1 hk1 hS => ?_)
                          obtain ⟨rfl, hP⟩ := hp9
                          have hP : va_P G vwCl (wMain T q a N Z b M Y sc tx L (if chr tx L ((cu + 4) + ru tx L 3 (cu + 4)) = 45 then ((cu + 4) + ru tx L 3 (cu + 4)) + 1 else ((cu + 4) + ru tx L 3 (cu + 4))) (if chr tx L ((cu + 4) + ru tx L 3 (cu + 4)) = 45 then er else (nI ((cu + 4) + ru tx L 3 (cu + 4)))) (tx cu) (upd (upd (upd nb 0 (tx (cu + 1) - 48)) 1 (tx (cu + 2) - 48)) 2 (vn tx (cu + 4) (ru tx L 3 (cu + 4)))) 3) H := hP
                          have hD : va_D A (wMain T q a N Z b M Y sc tx L (if chr tx L ((cu + 4) + ru tx L 3 (cu + 4)) = 45 then ((cu + 4) + ru tx L 3 (cu + 4)) + 1 else ((cu + 4) + ru tx L 3 (cu + 4))) (if chr tx L ((cu + 4) + ru tx L 3 (cu + 4)) = 45 then er else (nI ((cu + 4) + ru tx L 3 (cu + 4)))) (tx cu) (upd (upd (upd nb 0 (tx (cu + 1) - 48)) 1 (tx (cu + 2) - 48)) 2 (vn tx (cu + 4) (ru tx L 3 (cu + 4)))) 3) := D_perm hD (List.Perm.refl _)
                          refine W.eq (g2 := F0 m 84 ls [.int (bI (decide (chr tx L ((cu + 4) + ru tx L 3 (cu + 4)) = 45)))]) rfl ?_
                          refine lv_if_ne (tgt := 89) hx hb dX1_readOrder_84 (by decide) (fun c_44 => ?_) (fun c_44 => ?_)
                          · replace c_44 := bI_n0 c_44
                            have hq9 : chr tx L ((cu + 4) + ru tx L 3 (cu + 4)) = 45 := of_decide_eq_true c_44
                            simp only [if_pos hq9] at hP hD
                            have hlt9 := chr_s (by decide) hq9
                            have hP : va_P G vwCl (wMain T q a N Z b M Y sc tx L (((cu + 4) + ru tx L 3 (cu + 4)) + 1) er (tx cu) (upd (upd (upd nb 0 (tx (cu + 1) - 48)) 1 (tx (cu + 2) - 48)) 2 (vn tx (cu + 4) (ru tx L 3 (cu + 4)))) 3) H := hP
                            have hD : va_D A (wMain T q a N Z b M Y sc tx L (((cu + 4) + ru tx L 3 (cu + 4)) + 1) er (tx cu) (upd (upd (upd nb 0 (tx (cu + 1) - 48)) 1 (tx (cu + 2) - 48)) 2 (vn tx (cu + 4) (ru tx L 3 (cu + 4)))) 3) := hD
                            have hpo : (pSg tx L 45 (pNm tx L 3 0 (pSg tx L 58 (pDg tx L 7 (pDg tx L 9 (pSg tx L (tx cu) (pok cu []))))))) = pok (((cu + 4) + ru tx L 3 (cu + 4)) + 1) ((([] ++ [(tx (cu + 1) - 48)]) ++ [(tx (cu + 2) - 48)]) ++ [(vn tx (cu + 4) (ru tx L 3 (cu + 4)))]) := by rw [hpo]; exact if_pos hq9
                            refine lv_iinc (v := (nI 5)) (lv' := [(2, .int (nI 5)), (1, .ref (kk 3)), (0, .ref (q 2))]) hx hb dX1_readOrder_89 hl (k := 0) rfl (nI_inc 4) (by decide) rfl (fun ls hl => ?_)
                            refine lv_goto (tgt := 67) hx hb dX1_readOrder_92 (by decide) ?_
                            refine lv_iload_n hx hb dX1_readOrder_67 rfl (lv_at hl 0 rfl) ?_
                            refine lv_aload_n hx hb dX1_readOrder_68 rfl (lv_at hl 1 rfl) ?_
                            have hst := hst0.kept hS.2.1
                            have hsg := sts_g hst 3 (by decide)
                            refine rg_V S sgs_stb hsg (mJ0_length l) gX1_readOrder_J0_length_8abf5 rfl idJ0_length ⟨Nat.le_of_ble_eq_true rfl, Nat.le_of_ble_eq_true rfl⟩ (sgs_rc hsg) rfl hl.1 rfl (Nat.le_of_ble_eq_true rfl) dX1_readOrder_69 ⟨Nat.le_refl _, Nat.le_refl _⟩ (fun r9 hr9 => ?_)
                            subst hr9
                            refine W.eq (g2 := F0 m 72 ls [.int (nI 9), .int (nI 5)]) rfl ?_
                            refine lv_icmp_ge (tgt := 95) hx hb dX1_readOrder_72 (by decide) (fun c_45 => ?_) (fun c_45 => ?_)
                            · replace c_45 := cn_le (a := 9) (b := 5) (by omega) (by omega) c_45
                              exact absurd c_45 (by decide)
                            · replace c_45 := cn_nle (a := 9) (b := 5) (by omega) (by omega) c_45
                              refine lv_aload_n hx hb dX1_readOrder_75 rfl (lv_at hl 2 rfl) ?_
                              refine lv_aload_n hx hb dX1_readOrder_76 rfl (lv_at hl 1 rfl) ?_
                              refine lv_iload_n hx hb dX1_readOrder_77 rfl (lv_at hl 0 rfl) ?_
                              have hst := hst0.kept hS.2.1
                              have hsg := sts_g hst 3 (by decide)
                              refine rg_V S sgs_stb hsg (mJ0_charAt l (i := 5) (ch := 100) (by decide) (by decide) rfl (by decide) (by decide) rfl) gX1_readOrder_J0_charAt_5068e rfl idJ0_charAt ⟨Nat.le_of_ble_eq_true rfl, Nat.le_of_ble_eq_true rfl⟩ (sgs_rc hsg) rfl hl.1 rfl (Nat.le_of_ble_eq_true rfl) dX1_readOrder_78 ⟨Nat.le_refl _, Nat.le_refl _⟩ (fun r9 hr9 => ?_)
                              subst hr9
                              refine W.eq (g2 := F0 m 81 ls [.int 100, .ref (q 2)]) rfl ?_
                              refine mu_V S hkx (mX1_readPart_d l (hP := hP) (hD := hD.weaken (fun _ _ _ _ => trivial)) (q := q) (a := a) (N := N) (Z := Z) (b := b) (M := M) (Y := Y) (sc := sc) (tx := tx) (L := L) (cu := (((cu + 4) + ru tx L 3 (cu + 4)) + 1)) (er := er) (le := (tx cu)) (nb := (upd (upd (upd nb 0 (tx (cu + 1) - 48)) 1 (tx (cu + 2) - 48)) 2 (vn tx (cu + 4) (ru tx L 3 (cu + 4))))) (nc := 3) (hL := (by omega)) (hcu := (by omega)) (hnc := (by omega))) gX1_readOrder_X1_readPart rfl idX1_readPart ⟨Nat.le_of_ble_eq_true rfl, Nat.le_of_ble_eq_true rfl⟩ hP 2 rfl rfl rfl rfl hl.1 rfl (Nat.le_of_ble_eq_true rfl) dX1_readOrder_81 ⟨Nat.le_of_ble_eq_true rfl, Nat.le_of_ble_eq_true rfl⟩ hS (fr_in hD (fun q h => hA q (Nat.le_trans hS.1 h))) (fun v H locs hp9 hz1 hk1 hS => ?_)
                              obtain ⟨rfl, hP⟩ := hp9
                              have hP : va_P G vwCl (wMain T q a N Z b M Y sc tx L ((((cu + 4) + ru tx L 3 (cu + 4)) + 1) + ru tx L 3 (((cu + 4) + ru tx L 3 (cu + 4)) + 1)) (if numB tx L 3 0 (((cu + 4) + ru tx L 3 (cu + 4)) + 1) = true then er else (nI (numE tx L 3 (((cu + 4) + ru tx L 3 (cu + 4)) + 1)))) (tx cu) (if numB tx L 3 0 (((cu + 4) + ru tx L 3 (cu + 4)) + 1) = true then upd (upd (upd (upd nb 0 (tx (cu + 1) - 48)) 1 (tx (cu + 2) - 48)) 2 (vn tx (cu + 4) (ru tx L 3 (cu + 4)))) 3 (vn tx (((cu + 4) + ru tx L 3 (cu + 4)) + 1) (ru tx L 3 (((cu + 4) + ru tx L 3 (cu + 4)) + 1))) else (upd (upd (upd nb 0 (tx (cu + 1) - 48)) 1 (tx (cu + 2) - 48)) 2 (vn tx (cu + 4) (ru tx L 3 (cu + 4))))) (if numB tx L 3 0 (((cu + 4) + ru tx L 3 (cu + 4)) + 1) = true then 3 + 1 else 3)) H := hP
                              have hD : va_D A (wMain T q a N Z b M Y sc tx L ((((cu + 4) + ru tx L 3 (cu + 4)) + 1) + ru tx L 3 (((cu + 4) + ru tx L 3 (cu + 4)) + 1)) (if numB tx L 3 0 (((cu + 4) + ru tx L 3 (cu + 4)) + 1) = true then er else (nI (numE tx L 3 (((cu + 4) + ru tx L 3 (cu + 4)) + 1)))) (tx cu) (if numB tx L 3 0 (((cu + 4) + ru tx L 3 (cu + 4)) + 1) = true then upd (upd (upd (upd nb 0 (tx (cu + 1) - 48)) 1 (tx (cu + 2) - 48)) 2 (vn tx (cu + 4) (ru tx L 3 (cu + 4)))) 3 (vn tx (((cu + 4) + ru tx L 3 (cu + 4)) + 1) (ru tx L 3 (((cu + 4) + ru tx L 3 (cu + 4)) + 1))) else (upd (upd (upd nb 0 (tx (cu + 1) - 48)) 1 (tx (cu + 2) - 48)) 2 (vn tx (cu + 4) (ru tx L 3 (cu + 4))))) (if numB tx L 3 0 (((cu + 4) + ru tx L 3 (cu + 4)) + 1) = true then 3 + 1 else 3)) := D_perm hD (List.Perm.refl _)
                              refine W.eq (g2 := F0 m 84 ls [.int (bI (numB tx L 3 0 (((cu + 4) + ru tx L 3 (cu + 4)) + 1)))]) rfl ?_
                              refine lv_if_ne (tgt := 89) hx hb dX1_readOrder_84 (by decide) (fun c_46 => ?_) (fun c_46 => ?_)
                              · replace c_46 := bI_n0 c_46
                                have hq9 := c_46
                                simp only [if_pos hq9] at hP hD
                                have hru9 := ru_le (tx := tx) (L := L) 3 (((cu + 4) + ru tx L 3 (cu + 4)) + 1) (by omega)
                                have hP : va_P G vwCl (wMain T q a N Z b M Y sc tx L ((((cu + 4) + ru tx L 3 (cu + 4)) + 1) + ru tx L 3 (((cu + 4) + ru tx L 3 (cu + 4)) + 1)) er (tx cu) (upd (upd (upd (upd nb 0 (tx (cu + 1) - 48)) 1 (tx (cu + 2) - 48)) 2 (vn tx (cu + 4) (ru tx L 3 (cu + 4)))) 3 (vn tx (((cu + 4) + ru tx L 3 (cu + 4)) + 1) (ru tx L 3 (((cu + 4) + ru tx L 3 (cu + 4)) + 1)))) 4) H := hP
                                have hD : va_D A (wMain T q a N Z b M Y sc tx L ((((cu + 4) + ru tx L 3 (cu + 4)) + 1) + ru tx L 3 (((cu + 4) + ru tx L 3 (cu + 4)) + 1)) er (tx cu) (upd (upd (upd (upd nb 0 (tx (cu + 1) - 48)) 1 (tx (cu + 2) - 48)) 2 (vn tx (cu + 4) (ru tx L 3 (cu + 4)))) 3 (vn tx (((cu + 4) + ru tx L 3 (cu + 4)) + 1) (ru tx L 3 (((cu + 4) + ru tx L 3 (cu + 4)) + 1)))) 4) := hD
                                have hpo : (pNm tx L 3 0 (pSg tx L 45 (pNm tx L 3 0 (pSg tx L 58 (pDg tx L 7 (pDg tx L 9 (pSg tx L (tx cu) (pok cu [])))))))) = pok ((((cu + 4) + ru tx L 3 (cu + 4)) + 1) + ru tx L 3 (((cu + 4) + ru tx L 3 (cu + 4)) + 1)) (((([] ++ [(tx (cu + 1) - 48)]) ++ [(tx (cu + 2) - 48)]) ++ [(vn tx (cu + 4) (ru tx L 3 (cu + 4)))]) ++ [(vn tx (((cu + 4) + ru tx L 3 (cu + 4)) + 1) (ru tx L 3 (((cu + 4) + ru tx L 3 (cu + 4)) + 1)))]) := by rw [hpo]; exact nm_t hq9
                                refine lv_iinc (v := (nI 6)) (lv' := [(2, .int (nI 6)), (1, .ref (kk 3)), (0, .ref (q 2))]) hx hb dX1_readOrder_89 hl (k := 0) rfl (nI_inc 5) (by decide) rfl (fun ls hl => ?_)
                                refine lv_goto (tgt := 67) hx hb dX1_readOrder_92 (by decide) ?_
                                refine lv_iload_n hx hb dX1_readOrder_67 rfl (lv_at hl 0 rfl) ?_
                                refine lv_aload_n hx hb dX1_readOrder_68 rfl (lv_at hl 1 rfl) ?_
                                have hst := hst0.kept hS.2.1
                                have hsg := sts_g hst 3 (by decide)
                                refine rg_V S sgs_stb hsg (mJ0_length l) gX1_readOrder_J0_length_8abf5 rfl idJ0_length ⟨Nat.le_of_ble_eq_true rfl, Nat.le_of_ble_eq_true rfl⟩ (sgs_rc hsg) rfl hl.1 rfl (Nat.le_of_ble_eq_true rfl) dX1_readOrder_69 ⟨Nat.le_refl _, Nat.le_refl _⟩ (fun r9 hr9 => ?_)
                                subst hr9
                                refine W.eq (g2 := F0 m 72 ls [.int (nI 9), .int (nI 6)]) rfl ?_
                                refine lv_icmp_ge (tgt := 95) hx hb dX1_readOrder_72 (by decide) (fun c_47 => ?_) (fun c_47 => ?_)
                                · replace c_47 := cn_le (a := 9) (b := 6) (by omega) (by omega) c_47
                                  exact absurd c_47 (by decide)
                                · replace c_47 := cn_nle (a := 9) (b := 6) (by omega) (by omega) c_47
                                  refine lv_aload_n hx hb dX1_readOrder_75 rfl (lv_at hl 2 rfl) ?_
                                  refine lv_aload_n hx hb dX1_readOrder_76 rfl (lv_at hl 1 rfl) ?_
                                  refine lv_iload_n hx hb dX1_readOrder_77 rfl (lv_at hl 0 rfl) ?_
                                  have hst := hst0.kept hS.2.1
                                  have hsg := sts_g hst 3 (by decide)
                                  refine rg_V S sgs_stb hsg (mJ0_charAt l (i := 6) (ch := 44) (by decide) (by decide) rfl (by decide) (by decide) rfl) gX1_readOrder_J0_charAt_5068e rfl idJ0_charAt ⟨Nat.le_of_ble_eq_true rfl, Nat.le_of_ble_eq_true rfl⟩ (sgs_rc hsg) rfl hl.1 rfl (Nat.le_of_ble_eq_true rfl) dX1_readOrder_78 ⟨Nat.le_refl _, Nat.le_refl _⟩ (fun r9 hr9 => ?_)
                                  subst hr9
                                  refine W.eq (g2 := F0 m 81 ls [.int 44, .ref (q 2)]) rfl ?_
                                  refine mu_V S hkx (mX1_readPart_s44 l (hP := hP) (hD := hD.weaken (fun _ _ _ _ => trivial)) (q := q) (a := a) (N := N) (Z := Z) (b := b) (M := M) (Y := Y) (sc := sc) (tx := tx) (L := L) (cu := ((((cu + 4) + ru tx L 3 (cu + 4)) + 1) + ru tx L 3 (((cu + 4) + ru tx L 3 (cu + 4)) + 1))) (er := er) (le := (tx cu)) (nb := (upd (upd (upd (upd nb 0 (tx (cu + 1) - 48)) 1 (tx (cu + 2) - 48)) 2 (vn tx (cu + 4) (ru tx L 3 (cu + 4)))) 3 (vn tx (((cu + 4) + ru tx L 3 (cu + 4)) + 1) (ru tx L 3 (((cu + 4) + ru tx L 3 (cu + 4)) + 1))))) (nc := 4) (hL := (by omega)) (hcu := (by omega))) gX1_readOrder_X1_readPart rfl idX1_readPart ⟨Nat.le_of_ble_eq_true rfl, Nat.le_of_ble_eq_true rfl⟩ hP 2 rfl rfl rfl rfl hl.1 rfl (Nat.le_of_ble_eq_true rfl) dX1_readOrder_81 ⟨Nat.le_of_ble_eq_true rfl, Nat.le_of_ble_eq_true rfl⟩ hS (fr_in hD (fun q h => hA q (Nat.le_trans hS.1 h))) (fun v H locs hp9 hz1 hk1 hS => ?_)
                                  obtain ⟨rfl, hP⟩ := hp9
                                  have hP : va_P G vwCl (wMain T q a N Z b M Y sc tx L (if chr tx L ((((cu + 4) + ru tx L 3 (cu + 4)) + 1) + ru tx L 3 (((cu + 4) + ru tx L 3 (cu + 4)) + 1)) = 44 then ((((cu + 4) + ru tx L 3 (cu + 4)) + 1) + ru tx L 3 (((cu + 4) + ru tx L 3 (cu + 4)) + 1)) + 1 else ((((cu + 4) + ru tx L 3 (cu + 4)) + 1) + ru tx L 3 (((cu + 4) + ru tx L 3 (cu + 4)) + 1))) (if chr tx L ((((cu + 4) + ru tx L 3 (cu + 4)) + 1) + ru tx L 3 (((cu + 4) + ru tx L 3 (cu + 4)) + 1)) = 44 then er else (nI ((((cu + 4) + ru tx L 3 (cu + 4)) + 1) + ru tx L 3 (((cu + 4) + ru tx L 3 (cu + 4)) + 1)))) (tx cu) (upd (upd (upd (upd nb 0 (tx (cu + 1) - 48)) 1 (tx (cu + 2) - 48)) 2 (vn tx (cu + 4) (ru tx L 3 (cu + 4)))) 3 (vn tx (((cu + 4) + ru tx L 3 (cu + 4)) + 1) (ru tx L 3 (((cu + 4) + ru tx L 3 (cu + 4)) + 1)))) 4) H := hP
                                  have hD : va_D A (wMain T q a N Z b M Y sc tx L (if chr tx L ((((cu + 4) + ru tx L 3 (cu + 4)) + 1) + ru tx L 3 (((cu + 4) + ru tx L 3 (cu + 4)) + 1)) = 44 then ((((cu + 4) + ru tx L 3 (cu + 4)) + 1) + ru tx L 3 (((cu + 4) + ru tx L 3 (cu + 4)) + 1)) + 1 else ((((cu + 4) + ru tx L 3 (cu + 4)) + 1) + ru tx L 3 (((cu + 4) + ru tx L 3 (cu + 4)) + 1))) (if chr tx L ((((cu + 4) + ru tx L 3 (cu + 4)) + 1) + ru tx L 3 (((cu + 4) + ru tx L 3 (cu + 4)) + 1)) = 44 then er else (nI ((((cu + 4) + ru tx L 3 (cu + 4)) + 1) + ru tx L 3 (((cu + 4) + ru tx L 3 (cu + 4)) + 1)))) (tx cu) (upd (upd (upd (upd nb 0 (tx (cu + 1) - 48)) 1 (tx (cu + 2) - 48)) 2 (vn tx (cu + 4) (ru tx L 3 (cu + 4)))) 3 (vn tx (((cu + 4) + ru tx L 3 (cu + 4)) + 1) (ru tx L 3 (((cu + 4) + ru tx L 3 (cu + 4)) + 1)))) 4) := D_perm hD (List.Perm.refl _)
                                  refine W.eq (g2 := F0 m 84 ls [.int (bI (decide (chr tx L ((((cu + 4) + ru tx L 3 (cu + 4)) + 1) + ru tx L 3 (((cu + 4) + ru tx L 3 (cu + 4)) + 1)) = 44)))]) rfl ?_
                                  refine lv_if_ne (tgt := 89) hx hb dX1_readOrder_84 (by decide) (fun c_48 => ?_) (fun c_48 => ?_)
                                  · replace c_48 := bI_n0 c_48
                                    have hq9 : chr tx L ((((cu + 4) + ru tx L 3 (cu + 4)) + 1) + ru tx L 3 (((cu + 4) + ru tx L 3 (cu + 4)) + 1)) = 44 := of_decide_eq_true c_48
                                    simp only [if_pos hq9] at hP hD
                                    have hlt9 := chr_s (by decide) hq9
                                    have hP : va_P G vwCl (wMain T q a N Z b M Y sc tx L (((((cu + 4) + ru tx L 3 (cu + 4)) + 1) + ru tx L 3 (((cu + 4) + ru tx L 3 (cu + 4)) + 1)) + 1) er (tx cu) (upd (upd (upd (upd nb 0 (tx (cu + 1) - 48)) 1 (tx (cu + 2) - 48)) 2 (vn tx (cu + 4) (ru tx L 3 (cu + 4)))) 3 (vn tx (((cu + 4) + ru tx L 3 (cu + 4)) + 1) (ru tx L 3 (((cu + 4) + ru tx L 3 (cu + 4)) + 1)))) 4) H := hP
                                    have hD : va_D A (wMain T q a N Z b M Y sc tx L (((((cu + 4) + ru tx L 3 (cu + 4)) + 1) + ru tx L 3 (((cu + 4) + ru tx L 3 (cu + 4)) + 1)) + 1) er (tx cu) (upd (upd (upd (upd nb 0 (tx (cu + 1) - 48)) 1 (tx (cu + 2) - 48)) 2 (vn tx (cu + 4) (ru tx L 3 (cu + 4)))) 3 (vn tx (((cu + 4) + ru tx L 3 (cu + 4)) + 1) (ru tx L 3 (((cu + 4) + ru tx L 3 (cu + 4)) + 1)))) 4) := hD
                                    have hpo : (pSg tx L 44 (pNm tx L 3 0 (pSg tx L 45 (pNm tx L 3 0 (pSg tx L 58 (pDg tx L 7 (pDg tx L 9 (pSg tx L (tx cu) (pok cu []))))))))) = pok (((((cu + 4) + ru tx L 3 (cu + 4)) + 1) + ru tx L 3 (((cu + 4) + ru tx L 3 (cu + 4)) + 1)) + 1) (((([] ++ [(tx (cu + 1) - 48)]) ++ [(tx (cu + 2) - 48)]) ++ [(vn tx (cu + 4) (ru tx L 3 (cu + 4)))]) ++ [(vn tx (((cu + 4) + ru tx L 3 (cu + 4)) + 1) (ru tx L 3 (((cu + 4) + ru tx L 3 (cu + 4)) + 1)))]) := by rw [hpo]; exact if_pos hq9
                                    refine lv_iinc (v := (nI 7)) (lv' := [(2, .int (nI 7)), (1, .ref (kk 3)), (0, .ref (q 2))]) hx hb dX1_readOrder_89 hl (k := 0) rfl (nI_inc 6) (by decide) rfl (fun ls hl => ?_)
                                    refine lv_goto (tgt := 67) hx hb dX1_readOrder_92 (by decide) ?_
                                    refine lv_iload_n hx hb dX1_readOrder_67 rfl (lv_at hl 0 rfl) ?_
                                    refine lv_aload_n hx hb dX1_readOrder_68 rfl (lv_at hl 1 rfl) ?_
                                    have hst := hst0.kept hS.2.1
                                    have hsg := sts_g hst 3 (by decide)
                                    refine rg_V S sgs_stb hsg (mJ0_length l) gX1_readOrder_J0_length_8abf5 rfl idJ0_length ⟨Nat.le_of_ble_eq_true rfl, Nat.le_of_ble_eq_true rfl⟩ (sgs_rc hsg) rfl hl.1 rfl (Nat.le_of_ble_eq_true rfl) dX1_readOrder_69 ⟨Nat.le_refl _, Nat.le_refl _⟩ (fun r9 hr9 => ?_)
                                    subst hr9
                                    refine W.eq (g2 := F0 m 72 ls [.int (nI 9), .int (nI 7)]) rfl ?_
                                    refine lv_icmp_ge (tgt := 95) hx hb dX1_readOrder_72 (by decide) (fun c_49 => ?_) (fun c_49 => ?_)
                                    · replace c_49 := cn_le (a := 9) (b := 7) (by omega) (by omega) c_49
                                      exact absurd c_49 (by decide)
                                    · replace c_49 := cn_nle (a := 9) (b := 7) (by omega) (by omega) c_49
                                      refine lv_aload_n hx hb dX1_readOrder_75 rfl (lv_at hl 2 rfl) ?_
                                      refine lv_aload_n hx hb dX1_readOrder_76 rfl (lv_at hl 1 rfl) ?_
                                      refine lv_iload_n hx hb dX1_readOrder_77 rfl (lv_at hl 0 rfl) ?_
                                      have hst := hst0.kept hS.2.1
                                      have hsg := sts_g hst 3 (by decide)
                                      refine rg_V S sgs_stb hsg (mJ0_charAt l (i := 7) (ch := 109) (by decide) (by decide) rfl (by decide) (by decide) rfl) gX1_readOrder_J0_charAt_5068e rfl idJ0_charAt ⟨Nat.le_of_ble_eq_true rfl, Nat.le_of_ble_eq_true rfl⟩ (sgs_rc hsg) rfl hl.1 rfl (Nat.le_of_ble_eq_true rfl) dX1_readOrder_78 ⟨Nat.le_refl _, Nat.le_refl _⟩ (fun r9 hr9 => ?_)
                                      subst hr9
                                      refine W.eq (g2 := F0 m 81 ls [.int 109, .ref (q 2)]) rfl ?_
                                      refine mu_V S hkx (mX1_readPart_m l (hP := hP) (hD := hD.weaken (fun _ _ _ _ => trivial)) (q := q) (a := a) (N := N) (Z := Z) (b := b) (M := M) (Y := Y) (sc := sc) (tx := tx) (L := L) (cu := (((((cu + 4) + ru tx L 3 (cu + 4)) + 1) + ru tx L 3 (((cu + 4) + ru tx L 3 (cu + 4)) + 1)) + 1)) (er := er) (le := (tx cu)) (nb := (upd (upd (upd (upd nb 0 (tx (cu + 1) - 48)) 1 (tx (cu + 2) - 48)) 2 (vn tx (cu + 4) (ru tx L 3 (cu + 4)))) 3 (vn tx (((cu + 4) + ru tx L 3 (cu + 4)) + 1) (ru tx L 3 (((cu + 4) + ru tx L 3 (cu + 4)) + 1))))) (nc := 4) (hL := (by omega)) (hcu := (by omega)) (hnc := (by omega))) gX1_readOrder_X1_readPart rfl idX1_readPart ⟨Nat.le_of_ble_eq_true rfl, Nat.le_of_ble_eq_true rfl⟩ hP 2 rfl rfl rfl rfl hl.1 rfl (Nat.le_of_ble_eq_true rfl) dX1_readOrder_81 ⟨Nat.le_of_ble_eq_true rfl, Nat.le_of_ble_eq_true rfl⟩ hS (fr_in hD (fun q h => hA q (Nat.le_trans hS.1 h))) (fun v H locs hp9 hz1 hk1 hS => ?_)
                                      obtain ⟨rfl, hP⟩ := hp9
                                      have hP : va_P G vwCl (wMain T q a N Z b M Y sc tx L ((((((cu + 4) + ru tx L 3 (cu + 4)) + 1) + ru tx L 3 (((cu + 4) + ru tx L 3 (cu + 4)) + 1)) + 1) + ru tx L 2 (((((cu + 4) + ru tx L 3 (cu + 4)) + 1) + ru tx L 3 (((cu + 4) + ru tx L 3 (cu + 4)) + 1)) + 1)) (if numB tx L 2 1 (((((cu + 4) + ru tx L 3 (cu + 4)) + 1) + ru tx L 3 (((cu + 4) + ru tx L 3 (cu + 4)) + 1)) + 1) = true then er else (nI (numE tx L 2 (((((cu + 4) + ru tx L 3 (cu + 4)) + 1) + ru tx L 3 (((cu + 4) + ru tx L 3 (cu + 4)) + 1)) + 1)))) (tx cu) (if numB tx L 2 1 (((((cu + 4) + ru tx L 3 (cu + 4)) + 1) + ru tx L 3 (((cu + 4) + ru tx L 3 (cu + 4)) + 1)) + 1) = true then upd (upd (upd (upd (upd nb 0 (tx (cu + 1) - 48)) 1 (tx (cu + 2) - 48)) 2 (vn tx (cu + 4) (ru tx L 3 (cu + 4)))) 3 (vn tx (((cu + 4) + ru tx L 3 (cu + 4)) + 1) (ru tx L 3 (((cu + 4) + ru tx L 3 (cu + 4)) + 1)))) 4 (vn tx (((((cu + 4) + ru tx L 3 (cu + 4)) + 1) + ru tx L 3 (((cu + 4) + ru tx L 3 (cu + 4)) + 1)) + 1) (ru tx L 2 (((((cu + 4) + ru tx L 3 (cu + 4)) + 1) + ru tx L 3 (((cu + 4) + ru tx L 3 (cu + 4)) + 1)) + 1))) else (upd (upd (upd (upd nb 0 (tx (cu + 1) - 48)) 1 (tx (cu + 2) - 48)) 2 (vn tx (cu + 4) (ru tx L 3 (cu + 4)))) 3 (vn tx (((cu + 4) + ru tx L 3 (cu + 4)) + 1) (ru tx L 3 (((cu + 4) + ru tx L 3 (cu + 4)) + 1))))) (if numB tx L 2 1 (((((cu + 4) + ru tx L 3 (cu + 4)) + 1) + ru tx L 3 (((cu + 4) + ru tx L 3 (cu + 4)) + 1)) + 1) = true then 4 + 1 else 4)) H := hP
                                      have hD : va_D A (wMain T q a N Z b M Y sc tx L ((((((cu + 4) + ru tx L 3 (cu + 4)) + 1) + ru tx L 3 (((cu + 4) + ru tx L 3 (cu + 4)) + 1)) + 1) + ru tx L 2 (((((cu + 4) + ru tx L 3 (cu + 4)) + 1) + ru tx L 3 (((cu + 4) + ru tx L 3 (cu + 4)) + 1)) + 1)) (if numB tx L 2 1 (((((cu + 4) + ru tx L 3 (cu + 4)) + 1) + ru tx L 3 (((cu + 4) + ru tx L 3 (cu + 4)) + 1)) + 1) = true then er else (nI (numE tx L 2 (((((cu + 4) + ru tx L 3 (cu + 4)) + 1) + ru tx L 3 (((cu + 4) + ru tx L 3 (cu + 4)) + 1)) + 1)))) (tx cu) (if numB tx L 2 1 (((((cu + 4) + ru tx L 3 (cu + 4)) + 1) + ru tx L 3 (((cu + 4) + ru tx L 3 (cu + 4)) + 1)) + 1) = true then upd (upd (upd (upd (upd nb 0 (tx (cu + 1) - 48)) 1 (tx (cu + 2) - 48)) 2 (vn tx (cu + 4) (ru tx L 3 (cu + 4)))) 3 (vn tx (((cu + 4) + ru tx L 3 (cu + 4)) + 1) (ru tx L 3 (((cu + 4) + ru tx L 3 (cu + 4)) + 1)))) 4 (vn tx (((((cu + 4) + ru tx L 3 (cu + 4)) + 1) + ru tx L 3 (((cu + 4) + ru tx L 3 (cu + 4)) + 1)) + 1) (ru tx L 2 (((((cu + 4) + ru tx L 3 (cu + 4)) + 1) + ru tx L 3 (((cu + 4) + ru tx L 3 (cu + 4)) + 1)) + 1))) else (upd (upd (upd (upd nb 0 (tx (cu + 1) - 48)) 1 (tx (cu + 2) - 48)) 2 (vn tx (cu + 4) (ru tx L 3 (cu + 4)))) 3 (vn tx (((cu + 4) + ru tx L 3 (cu + 4)) + 1) (ru tx L 3 (((cu + 4) + ru tx L 3 (cu + 4)) + 1))))) (if numB tx L 2 1 (((((cu + 4) + ru tx L 3 (cu + 4)) + 1) + ru tx L 3 (((cu + 4) + ru tx L 3 (cu + 4)) + 1)) + 1) = true then 4 + 1 else 4)) := D_perm hD (List.Perm.refl _)
                                      refine W.eq (g2 := F0 m 84 ls [.int (bI (numB tx L 2 1 (((((cu + 4) + ru tx L 3 (cu + 4)) + 1) + ru tx L 3 (((cu + 4) + ru tx L 3 (cu + 4)) + 1)) + 1)))]) rfl ?_
                                      refine lv_if_ne (tgt := 89) hx hb dX1_readOrder_84 (by decide) (fun c_50 => ?_) (fun c_50 => ?_)
                                      · replace c_50 := bI_n0 c_50
                                        have hq9 := c_50
                                        simp only [if_pos hq9] at hP hD
                                        have hru9 := ru_le (tx := tx) (L := L) 2 (((((cu + 4) + ru tx L 3 (cu + 4)) + 1) + ru tx L 3 (((cu + 4) + ru tx L 3 (cu + 4)) + 1)) + 1) (by omega)
                                        have hP : va_P G vwCl (wMain T q a N Z b M Y sc tx L ((((((cu + 4) + ru tx L 3 (cu + 4)) + 1) + ru tx L 3 (((cu + 4) + ru tx L 3 (cu + 4)) + 1)) + 1) + ru tx L 2 (((((cu + 4) + ru tx L 3 (cu + 4)) + 1) + ru tx L 3 (((cu + 4) + ru tx L 3 (cu + 4)) + 1)) + 1)) er (tx cu) (upd (upd (upd (upd (upd nb 0 (tx (cu + 1) - 48)) 1 (tx (cu + 2) - 48)) 2 (vn tx (cu + 4) (ru tx L 3 (cu + 4)))) 3 (vn tx (((cu + 4) + ru tx L 3 (cu + 4)) + 1) (ru tx L 3 (((cu + 4) + ru tx L 3 (cu + 4)) + 1)))) 4 (vn tx (((((cu + 4) + ru tx L 3 (cu + 4)) + 1) + ru tx L 3 (((cu + 4) + ru tx L 3 (cu + 4)) + 1)) + 1) (ru tx L 2 (((((cu + 4) + ru tx L 3 (cu + 4)) + 1) + ru tx L 3 (((cu + 4) + ru tx L 3 (cu + 4)) + 1)) + 1)))) 5) H := hP
                                        have hD : va_D A (wMain T q a N Z b M Y sc tx L ((((((cu + 4) + ru tx L 3 (cu + 4)) + 1) + ru tx L 3 (((cu + 4) + ru tx L 3 (cu + 4)) + 1)) + 1) + ru tx L 2 (((((cu + 4) + ru tx L 3 (cu + 4)) + 1) + ru tx L 3 (((cu + 4) + ru tx L 3 (cu + 4)) + 1)) + 1)) er (tx cu) (upd (upd (upd (upd (upd nb 0 (tx (cu + 1) - 48)) 1 (tx (cu + 2) - 48)) 2 (vn tx (cu + 4) (ru tx L 3 (cu + 4)))) 3 (vn tx (((cu + 4) + ru tx L 3 (cu + 4)) + 1) (ru tx L 3 (((cu + 4) + ru tx L 3 (cu + 4)) + 1)))) 4 (vn tx (((((cu + 4) + ru tx L 3 (cu + 4)) + 1) + ru tx L 3 (((cu + 4) + ru tx L 3 (cu + 4)) + 1)) + 1) (ru tx L 2 (((((cu + 4) + ru tx L 3 (cu + 4)) + 1) + ru tx L 3 (((cu + 4) + ru tx L 3 (cu + 4)) + 1)) + 1)))) 5) := hD
                                        have hpo : (pNm tx L 2 1 (pSg tx L 44 (pNm tx L 3 0 (pSg tx L 45 (pNm tx L 3 0 (pSg tx L 58 (pDg tx L 7 (pDg tx L 9 (pSg tx L (tx cu) (pok cu [])))))))))) = pok ((((((cu + 4) + ru tx L 3 (cu + 4)) + 1) + ru tx L 3 (((cu + 4) + ru tx L 3 (cu + 4)) + 1)) + 1) + ru tx L 2 (((((cu + 4) + ru tx L 3 (cu + 4)) + 1) + ru tx L 3 (((cu + 4) + ru tx L 3 (cu + 4)) + 1)) + 1)) ((((([] ++ [(tx (cu + 1) - 48)]) ++ [(tx (cu + 2) - 48)]) ++ [(vn tx (cu + 4) (ru tx L 3 (cu + 4)))]) ++ [(vn tx (((cu + 4) + ru tx L 3 (cu + 4)) + 1) (ru tx L 3 (((cu + 4) + ru tx L 3 (cu + 4)) + 1)))]) ++ [(vn tx (((((cu + 4) + ru tx L 3 (cu + 4)) + 1) + ru tx L 3 (((cu + 4) + ru tx L 3 (cu + 4)) + 1)) + 1) (ru tx L 2 (((((cu + 4) + ru tx L 3 (cu + 4)) + 1) + ru tx L 3 (((cu + 4) + ru tx L 3 (cu + 4)) + 1)) + 1)))]) := by rw [hpo]; exact nm_t hq9
                                        refine lv_iinc (v := (nI 8)) (lv' := [(2, .int (nI 8)), (1, .ref (kk 3)), (0, .ref (q 2))]) hx hb dX1_readOrder_89 hl (k := 0) rfl (nI_inc 7) (by decide) rfl (fun ls hl => ?_)
                                        refine lv_goto (tgt := 67) hx hb dX1_readOrder_92 (by decide) ?_
                                        refine lv_iload_n hx hb dX1_readOrder_67 rfl (lv_at hl 0 rfl) ?_
                                        refine lv_aload_n hx hb dX1_readOrder_68 rfl (lv_at hl 1 rfl) ?_
                                        have hst := hst0.kept hS.2.1
                                        have hsg := sts_g hst 3 (by decide)
                                        refine rg_V S sgs_stb hsg (mJ0_length l) gX1_readOrder_J0_length_8abf5 rfl idJ0_length ⟨Nat.le_of_ble_eq_true rfl, Nat.le_of_ble_eq_true rfl⟩ (sgs_rc hsg) rfl hl.1 rfl (Nat.le_of_ble_eq_true rfl) dX1_readOrder_69 ⟨Nat.le_refl _, Nat.le_refl _⟩ (fun r9 hr9 => ?_)
                                        subst hr9
                                        refine W.eq (g2 := F0 m 72 ls [.int (nI 9), .int (nI 8)]) rfl ?_
                                        refine lv_icmp_ge (tgt := 95) hx hb dX1_readOrder_72 (by decide) (fun c_51 => ?_) (fun c_51 => ?_)
                                        · replace c_51 := cn_le (a := 9) (b := 8) (by omega) (by omega) c_51
                                          exact absurd c_51 (by decide)
                                        · replace c_51 := cn_nle (a := 9) (b := 8) (by omega) (by omega) c_51
                                          refine lv_aload_n hx hb dX1_readOrder_75 rfl (lv_at hl 2 rfl) ?_
                                          refine lv_aload_n hx hb dX1_readOrder_76 rfl (lv_at hl 1 rfl) ?_
                                          refine lv_iload_n hx hb dX1_readOrder_77 rfl (lv_at hl 0 rfl) ?_
                                          have hst := hst0.kept hS.2.1
                                          have hsg := sts_g hst 3 (by decide)
                                          refine rg_V S sgs_stb hsg (mJ0_charAt l (i := 8) (ch := 59) (by decide) (by decide) rfl (by decide) (by decide) rfl) gX1_readOrder_J0_charAt_5068e rfl idJ0_charAt ⟨Nat.le_of_ble_eq_true rfl, Nat.le_of_ble_eq_true rfl⟩ (sgs_rc hsg) rfl hl.1 rfl (Nat.le_of_ble_eq_true rfl) dX1_readOrder_78 ⟨Nat.le_refl _, Nat.le_refl _⟩ (fun r9 hr9 => ?_)
                                          subst hr9
                                          refine W.eq (g2 := F0 m 81 ls [.int 59, .ref (q 2)]) rfl ?_
                                          refine mu_V S hkx (mX1_readPart_s59 l (hP := hP) (hD := hD.weaken (fun _ _ _ _ => trivial)) (q := q) (a := a) (N := N) (Z := Z) (b := b) (M := M) (Y := Y) (sc := sc) (tx := tx) (L := L) (cu := ((((((cu + 4) + ru tx L 3 (cu + 4)) + 1) + ru tx L 3 (((cu + 4) + ru tx L 3 (cu + 4)) + 1)) + 1) + ru tx L 2 (((((cu + 4) + ru tx L 3 (cu + 4)) + 1) + ru tx L 3 (((cu + 4) + ru tx L 3 (cu + 4)) + 1)) + 1))) (er := er) (le := (tx cu)) (nb := (upd (upd (upd (upd (upd nb 0 (tx (cu + 1) - 48)) 1 (tx (cu + 2) - 48)) 2 (vn tx (cu + 4) (ru tx L 3 (cu + 4)))) 3 (vn tx (((cu + 4) + ru tx L 3 (cu + 4)) + 1) (ru tx L 3 (((cu + 4) + ru tx L 3 (cu + 4)) + 1)))) 4 (vn tx (((((cu + 4) + ru tx L 3 (cu + 4)) + 1) + ru tx L 3 (((cu + 4) + ru tx L 3 (cu + 4)) + 1)) + 1) (ru tx L 2 (((((cu + 4) + ru tx L 3 (cu + 4)) + 1) + ru tx L 3 (((cu + 4) + ru tx L 3 (cu + 4)) + 1)) + 1))))) (nc := 5) (hL := (by omega)) (hcu := (by omega))) gX1_readOrder_X1_readPart rfl idX1_readPart ⟨Nat.le_of_ble_eq_true rfl, Nat.le_of_ble_eq_true rfl⟩ hP 2 rfl rfl rfl rfl hl.1 rfl (Nat.le_of_ble_eq_true rfl) dX1_readOrder_81 ⟨Nat.le_of_ble_eq_true rfl, Nat.le_of_ble_eq_true rfl⟩ hS (fr_in hD (fun q h => hA q (Nat.le_trans hS.1 h))) (fun v H locs hp9 hz1 hk1 hS => ?_)
                                          obtain ⟨rfl, hP⟩ := hp9
                                          have hP : va_P G vwCl (wMain T q a N Z b M Y sc tx L (if chr tx L ((((((cu + 4) + ru tx L 3 (cu + 4)) + 1) + ru tx L 3 (((cu + 4) + ru tx L 3 (cu + 4)) + 1)) + 1) + ru tx L 2 (((((cu + 4) + ru tx L 3 (cu + 4)) + 1) + ru tx L 3 (((cu + 4) + ru tx L 3 (cu + 4)) + 1)) + 1)) = 59 then ((((((cu + 4) + ru tx L 3 (cu + 4)) + 1) + ru tx L 3 (((cu + 4) + ru tx L 3 (cu + 4)) + 1)) + 1) + ru tx L 2 (((((cu + 4) + ru tx L 3 (cu + 4)) + 1) + ru tx L 3 (((cu + 4) + ru tx L 3 (cu + 4)) + 1)) + 1)) + 1 else ((((((cu + 4) + ru tx L 3 (cu + 4)) + 1) + ru tx L 3 (((cu + 4) + ru tx L 3 (cu + 4)) + 1)) + 1) + ru tx L 2 (((((cu + 4) + ru tx L 3 (cu + 4)) + 1) + ru tx L 3 (((cu + 4) + ru tx L 3 (cu + 4)) + 1)) + 1))) (if chr tx L ((((((cu + 4) + ru tx L 3 (cu + 4)) + 1) + ru tx L 3 (((cu + 4) + ru tx L 3 (cu + 4)) + 1)) + 1) + ru tx L 2 (((((cu + 4) + ru tx L 3 (cu + 4)) + 1) + ru tx L 3 (((cu + 4) + ru tx L 3 (cu + 4)) + 1)) + 1)) = 59 then er else (nI ((((((cu + 4) + ru tx L 3 (cu + 4)) + 1) + ru tx L 3 (((cu + 4) + ru tx L 3 (cu + 4)) + 1)) + 1) + ru tx L 2 (((((cu + 4) + ru tx L 3 (cu + 4)) + 1) + ru tx L 3 (((cu + 4) + ru tx L 3 (cu + 4)) + 1)) + 1)))) (tx cu) (upd (upd (upd (upd (upd nb 0 (tx (cu + 1) - 48)) 1 (tx (cu + 2) - 48)) 2 (vn tx (cu + 4) (ru tx L 3 (cu + 4)))) 3 (vn tx (((cu + 4) + ru tx L 3 (cu + 4)) + 1) (ru tx L 3 (((cu + 4) + ru tx L 3 (cu + 4)) + 1)))) 4 (vn tx (((((cu + 4) + ru tx L 3 (cu + 4)) + 1) + ru tx L 3 (((cu + 4) + ru tx L 3 (cu + 4)) + 1)) + 1) (ru tx L 2 (((((cu + 4) + ru tx L 3 (cu + 4)) + 1) + ru tx L 3 (((cu + 4) + ru tx L 3 (cu + 4)) + 1)) + 1)))) 5) H := hP
                                          have hD : va_D A (wMain T q a N Z b M Y sc tx L (if chr tx L ((((((cu + 4) + ru tx L 3 (cu + 4)) + 1) + ru tx L 3 (((cu + 4) + ru tx L 3 (cu + 4)) + 1)) + 1) + ru tx L 2 (((((cu + 4) + ru tx L 3 (cu + 4)) + 1) + ru tx L 3 (((cu + 4) + ru tx L 3 (cu + 4)) + 1)) + 1)) = 59 then ((((((cu + 4) + ru tx L 3 (cu + 4)) + 1) + ru tx L 3 (((cu + 4) + ru tx L 3 (cu + 4)) + 1)) + 1) + ru tx L 2 (((((cu + 4) + ru tx L 3 (cu + 4)) + 1) + ru tx L 3 (((cu + 4) + ru tx L 3 (cu + 4)) + 1)) + 1)) + 1 else ((((((cu + 4) + ru tx L 3 (cu + 4)) + 1) + ru tx L 3 (((cu + 4) + ru tx L 3 (cu + 4)) + 1)) + 1) + ru tx L 2 (((((cu + 4) + ru tx L 3 (cu + 4)) + 1) + ru tx L 3 (((cu + 4) + ru tx L 3 (cu + 4)) + 1)) + 1))) (if chr tx L ((((((cu + 4) + ru tx L 3 (cu + 4)) + 1) + ru tx L 3 (((cu + 4) + ru tx L 3 (cu + 4)) + 1)) + 1) + ru tx L 2 (((((cu + 4) + ru tx L 3 (cu + 4)) + 1) + ru tx L 3 (((cu + 4) + ru tx L 3 (cu + 4)) + 1)) + 1)) = 59 then er else (nI ((((((cu + 4) + ru tx L 3 (cu + 4)) + 1) + ru tx L 3 (((cu + 4) + ru tx L 3 (cu + 4)) + 1)) + 1) + ru tx L 2 (((((cu + 4) + ru tx L 3 (cu + 4)) + 1) + ru tx L 3 (((cu + 4) + ru tx L 3 (cu + 4)) + 1)) + 1)))) (tx cu) (upd (upd (upd (upd (upd nb 0 (tx (cu + 1) - 48)) 1 (tx (cu + 2) - 48)) 2 (vn tx (cu + 4) (ru tx L 3 (cu + 4)))) 3 (vn tx (((cu + 4) + ru tx L 3 (cu + 4)) + 1) (ru tx L 3 (((cu + 4) + ru tx L 3 (cu + 4)) + 1)))) 4 (vn tx (((((cu + 4) + ru tx L 3 (cu + 4)) + 1) + ru tx L 3 (((cu + 4) + ru tx L 3 (cu + 4)) + 1)) + 1) (ru tx L 2 (((((cu + 4) + ru tx L 3 (cu + 4)) + 1) + ru tx L 3 (((cu + 4) + ru tx L 3 (cu + 4)) + 1)) + 1)))) 5) := D_perm hD (List.Perm.refl _)
                                          refine W.eq (g2 := F0 m 84 ls [.int (bI (decide (chr tx L ((((((cu + 4) + ru tx L 3 (cu + 4)) + 1) + ru tx L 3 (((cu + 4) + ru tx L 3 (cu + 4)) + 1)) + 1) + ru tx L 2 (((((cu + 4) + ru tx L 3 (cu + 4)) + 1) + ru tx L 3 (((cu + 4) + ru tx L 3 (cu + 4)) + 1)) + 1)) = 59)))]) rfl ?_
                                          refine lv_if_ne (tgt := 89) hx hb dX1_readOrder_84 (by decide) (fun c_52 => ?_) (fun c_52 => ?_)
                                          · replace c_52 := bI_n0 c_52
                                            have hq9 : chr tx L ((((((cu + 4) + ru tx L 3 (cu + 4)) + 1) + ru tx L 3 (((cu + 4) + ru tx L 3 (cu + 4)) + 1)) + 1) + ru tx L 2 (((((cu + 4) + ru tx L 3 (cu + 4)) + 1) + ru tx L 3 (((cu + 4) + ru tx L 3 (cu + 4)) + 1)) + 1)) = 59 := of_decide_eq_true c_52
                                            simp only [if_pos hq9] at hP hD
                                            have hlt9 := chr_s (by decide) hq9
                                            have hP : va_P G vwCl (wMain T q a N Z b M Y sc tx L (((((((cu + 4) + ru tx L 3 (cu + 4)) + 1) + ru tx L 3 (((cu + 4) + ru tx L 3 (cu + 4)) + 1)) + 1) + ru tx L 2 (((((cu + 4) + ru tx L 3 (cu + 4)) + 1) + ru tx L 3 (((cu + 4) + ru tx L 3 (cu + 4)) + 1)) + 1)) + 1) er (tx cu) (upd (upd (upd (upd (upd nb 0 (tx (cu + 1) - 48)) 1 (tx (cu + 2) - 48)) 2 (vn tx (cu + 4) (ru tx L 3 (cu + 4)))) 3 (vn tx (((cu + 4) + ru tx L 3 (cu + 4)) + 1) (ru tx L 3 (((cu + 4) + ru tx L 3 (cu + 4)) + 1)))) 4 (vn tx (((((cu + 4) + ru tx L 3 (cu + 4)) + 1) + ru tx L 3 (((cu + 4) + ru tx L 3 (cu + 4)) + 1)) + 1) (ru tx L 2 (((((cu + 4) + ru tx L 3 (cu + 4)) + 1) + ru tx L 3 (((cu + 4) + ru tx L 3 (cu + 4)) + 1)) + 1)))) 5) H := hP
                                            have hD : va_D A (wMain T q a N Z b M Y sc tx L (((((((cu + 4) + ru tx L 3 (cu + 4)) + 1) + ru tx L 3 (((cu + 4) + ru tx L 3 (cu + 4)) + 1)) + 1) + ru tx L 2 (((((cu + 4) + ru tx L 3 (cu + 4)) + 1) + ru tx L 3 (((cu + 4) + ru tx L 3 (cu + 4)) + 1)) + 1)) + 1) er (tx cu) (upd (upd (upd (upd (upd nb 0 (tx (cu + 1) - 48)) 1 (tx (cu + 2) - 48)) 2 (vn tx (cu + 4) (ru tx L 3 (cu + 4)))) 3 (vn tx (((cu + 4) + ru tx L 3 (cu + 4)) + 1) (ru tx L 3 (((cu + 4) + ru tx L 3 (cu + 4)) + 1)))) 4 (vn tx (((((cu + 4) + ru tx L 3 (cu + 4)) + 1) + ru tx L 3 (((cu + 4) + ru tx L 3 (cu + 4)) + 1)) + 1) (ru tx L 2 (((((cu + 4) + ru tx L 3 (cu + 4)) + 1) + ru tx L 3 (((cu + 4) + ru tx L 3 (cu + 4)) + 1)) + 1)))) 5) := hD
                                            have hpo : (pSg tx L 59 (pNm tx L 2 1 (pSg tx L 44 (pNm tx L 3 0 (pSg tx L 45 (pNm tx L 3 0 (pSg tx L 58 (pDg tx L 7 (pDg tx L 9 (pSg tx L (tx cu) (pok cu []))))))))))) = pok (((((((cu + 4) + ru tx L 3 (cu + 4)) + 1) + ru tx L 3 (((cu + 4) + ru tx L 3 (cu + 4)) + 1)) + 1) + ru tx L 2 (((((cu + 4) + ru tx L 3 (cu + 4)) + 1) + ru tx L 3 (((cu + 4) + ru tx L 3 (cu + 4)) + 1)) + 1)) + 1) ((((([] ++ [(tx (cu + 1) - 48)]) ++ [(tx (cu + 2) - 48)]) ++ [(vn tx (cu + 4) (ru tx L 3 (cu + 4)))]) ++ [(vn tx (((cu + 4) + ru tx L 3 (cu + 4)) + 1) (ru tx L 3 (((cu + 4) + ru tx L 3 (cu + 4)) + 1)))]) ++ [(vn tx (((((cu + 4) + ru tx L 3 (cu + 4)) + 1) + ru tx L 3 (((cu + 4) + ru tx L 3 (cu + 4)) + 1)) + 1) (ru tx L 2 (((((cu + 4) + ru tx L 3 (cu + 4)) + 1) + ru tx L 3 (((cu + 4) + ru tx L 3 (cu + 4)) + 1)) + 1)))]) := by rw [hpo]; exact if_pos hq9
                                            refine lv_iinc (v := (nI 9)) (lv' := [(2, .int (nI 9)), (1, .ref (kk 3)), (0, .ref (q 2))]) hx hb dX1_readOrder_89 hl (k := 0) rfl (nI_inc 8) (by decide) rfl (fun ls hl => ?_)
                                            refine lv_goto (tgt := 67) hx hb dX1_readOrder_92 (by decide) ?_
                                            refine lv_iload_n hx hb dX1_readOrder_67 rfl (lv_at hl 0 rfl) ?_
                                            refine lv_aload_n hx hb dX1_readOrder_68 rfl (lv_at hl 1 rfl) ?_
                                            have hst := hst0.kept hS.2.1
                                            have hsg := sts_g hst 3 (by decide)
                                            refine rg_V S sgs_stb hsg (mJ0_length l) gX1_readOrder_J0_length_8abf5 rfl idJ0_length ⟨Nat.le_of_ble_eq_true rfl, Nat.le_of_ble_eq_true rfl⟩ (sgs_rc hsg) rfl hl.1 rfl (Nat.le_of_ble_eq_true rfl) dX1_readOrder_69 ⟨Nat.le_refl _, Nat.le_refl _⟩ (fun r9 hr9 => ?_)
                                            subst hr9
                                            refine W.eq (g2 := F0 m 72 ls [.int (nI 9), .int (nI 9)]) rfl ?_
                                            refine lv_icmp_ge (tgt := 95) hx hb dX1_readOrder_72 (by decide) (fun c_53 => ?_) (fun c_53 => ?_)
                                            · replace c_53 := cn_le (a := 9) (b := 9) (by omega) (by omega) c_53
                                              refine lv_iconst (v := 1) hx hb dX1_readOrder_95 (by decide) ?_
                                              exact hret _ _ _ _ _ (show roO G T q a N Z b M Y sc tx L cu er le nb nc (some (Value.int 1)) H from Or.inr (Or.inr ⟨hlt, (((((((cu + 4) + ru tx L 3 (cu + 4)) + 1) + ru tx L 3 (((cu + 4) + ru tx L 3 (cu + 4)) + 1)) + 1) + ru tx L 2 (((((cu + 4) + ru tx L 3 (cu + 4)) + 1) + ru tx L 3 (((cu + 4) + ru tx L 3 (cu + 4)) + 1)) + 1)) + 1), ((((([] ++ [(tx (cu + 1) - 48)]) ++ [(tx (cu + 2) - 48)]) ++ [(vn tx (cu + 4) (ru tx L 3 (cu + 4)))]) ++ [(vn tx (((cu + 4) + ru tx L 3 (cu + 4)) + 1) (ru tx L 3 (((cu + 4) + ru tx L 3 (cu + 4)) + 1)))]) ++ [(vn tx (((((cu + 4) + ru tx L 3 (cu + 4)) + 1) + ru tx L 3 (((cu + 4) + ru tx L 3 (cu + 4)) + 1)) + 1) (ru tx L 2 (((((cu + 4) + ru tx L 3 (cu + 4)) + 1) + ru tx L 3 (((cu + 4) + ru tx L 3 (cu + 4)) + 1)) + 1)))]), by unfold prs1; rw [if_neg e_112, if_neg e_108, if_neg e_101, if_pos e_115]; exact hpo, rfl, (upd (upd (upd (upd (upd nb 0 (tx (cu + 1) - 48)) 1 (tx (cu + 2) - 48)) 2 (vn tx (cu + 4) (ru tx L 3 (cu + 4)))) 3 (vn tx (((cu + 4) + ru tx L 3 (cu + 4)) + 1) (ru tx L 3 (((cu + 4) + ru tx L 3 (cu + 4)) + 1)))) 4 (vn tx (((((cu + 4) + ru tx L 3 (cu + 4)) + 1) + ru tx L 3 (((cu + 4) + ru tx L 3 (cu + 4)) + 1)) + 1) (ru tx L 2 (((((cu + 4) + ru tx L 3 (cu + 4)) + 1) + ru tx L 3 (((cu + 4) + ru tx L 3 (cu + 4)) + 1)) + 1)))), _, nms_of (Or.inr (Or.inr (Or.inr (Or.inl ⟨e_115, rfl⟩)))), hP⟩)) rfl hS dX1_readOrder_96
                                            · replace c_53 := cn_nle (a := 9) (b := 9) (by omega) (by omega) c_53
                                              exact absurd c_53 (by decide)
                                          · replace c_52 := bI_e0 c_52
                                            have hq9 : ¬ chr tx L ((((((cu + 4) + ru tx L 3 (cu + 4)) + 1) + ru tx L 3 (((cu + 4) + ru tx L 3 (cu + 4)) + 1)) + 1) + ru tx L 2 (((((cu + 4) + ru tx L 3 (cu + 4)) + 1) + ru tx L 3 (((cu + 4) + ru tx L 3 (cu + 4)) + 1)) + 1)) = 59 := of_decide_eq_false c_52
                                            simp only [if_neg hq9] at hP hD
                                            have hP : va_P G vwCl (wMain T q a N Z b M Y sc tx L ((((((cu + 4) + ru tx L 3 (cu + 4)) + 1) + ru tx L 3 (((cu + 4) + ru tx L 3 (cu + 4)) + 1)) + 1) + ru tx L 2 (((((cu + 4) + ru tx L 3 (cu + 4)) + 1) + ru tx L 3 (((cu + 4) + ru tx L 3 (cu + 4)) + 1)) + 1)) (nI ((((((cu + 4) + ru tx L 3 (cu + 4)) + 1) + ru tx L 3 (((cu + 4) + ru tx L 3 (cu + 4)) + 1)) + 1) + ru tx L 2 (((((cu + 4) + ru tx L 3 (cu + 4)) + 1) + ru tx L 3 (((cu + 4) + ru tx L 3 (cu + 4)) + 1)) + 1))) (tx cu) (upd (upd (upd (upd (upd nb 0 (tx (cu + 1) - 48)) 1 (tx (cu + 2) - 48)) 2 (vn tx (cu + 4) (ru tx L 3 (cu + 4)))) 3 (vn tx (((cu + 4) + ru tx L 3 (cu + 4)) + 1) (ru tx L 3 (((cu + 4) + ru tx L 3 (cu + 4)) + 1)))) 4 (vn tx (((((cu + 4) + ru tx L 3 (cu + 4)) + 1) + ru tx L 3 (((cu + 4) + ru tx L 3 (cu + 4)) + 1)) + 1) (ru tx L 2 (((((cu + 4) + ru tx L 3 (cu + 4)) + 1) + ru tx L 3 (((cu + 4) + ru tx L 3 (cu + 4)) + 1)) + 1)))) 5) H := hP
                                            have hD : va_D A (wMain T q a N Z b M Y sc tx L ((((((cu + 4) + ru tx L 3 (cu + 4)) + 1) + ru tx L 3 (((cu + 4) + ru tx L 3 (cu + 4)) + 1)) + 1) + ru tx L 2 (((((cu + 4) + ru tx L 3 (cu + 4)) + 1) + ru tx L 3 (((cu + 4) + ru tx L 3 (cu + 4)) + 1)) + 1)) (nI ((((((cu + 4) + ru tx L 3 (cu + 4)) + 1) + ru tx L 3 (((cu + 4) + ru tx L 3 (cu + 4)) + 1)) + 1) + ru tx L 2 (((((cu + 4) + ru tx L 3 (cu + 4)) + 1) + ru tx L 3 (((cu + 4) + ru tx L 3 (cu + 4)) + 1)) + 1))) (tx cu) (upd (upd (upd (upd (upd nb 0 (tx (cu + 1) - 48)) 1 (tx (cu + 2) - 48)) 2 (vn tx (cu + 4) (ru tx L 3 (cu + 4)))) 3 (vn tx (((cu + 4) + ru tx L 3 (cu + 4)) + 1) (ru tx L 3 (((cu + 4) + ru tx L 3 (cu + 4)) + 1)))) 4 (vn tx (((((cu + 4) + ru tx L 3 (cu + 4)) + 1) + ru tx L 3 (((cu + 4) + ru tx L 3 (cu + 4)) + 1)) + 1) (ru tx L 2 (((((cu + 4) + ru tx L 3 (cu + 4)) + 1) + ru tx L 3 (((cu + 4) + ru tx L 3 (cu + 4)) + 1)) + 1)))) 5) := hD
                                            have hpe : (pSg tx L 59 (pNm tx L 2 1 (pSg tx L 44 (pNm tx L 3 0 (pSg tx L 45 (pNm tx L 3 0 (pSg tx L 58 (pDg tx L 7 (pDg tx L 9 (pSg tx L (tx cu) (pok cu []))))))))))) = per ((((((cu + 4) + ru tx L 3 (cu + 4)) + 1) + ru tx L 3 (((cu + 4) + ru tx L 3 (cu + 4)) + 1)) + 1) + ru tx L 2 (((((cu + 4) + ru tx L 3 (cu + 4)) + 1) + ru tx L 3 (((cu + 4) + ru tx L 3 (cu + 4)) + 1)) + 1)) ((((((cu + 4) + ru tx L 3 (cu + 4)) + 1) + ru tx L 3 (((cu + 4) + ru tx L 3 (cu + 4)) + 1)) + 1) + ru tx L 2 (((((cu + 4) + ru tx L 3 (cu + 4)) + 1) + ru tx L 3 (((cu + 4) + ru tx L 3 (cu + 4)) + 1)) + 1)) := by rw [hpo]; exact if_neg hq9
                                            refine lv_iconst (v := 0) hx hb dX1_readOrder_87 (by decide) ?_
                                            exact hret _ _ _ _ _ (show roO G T q a N Z b M Y sc tx L cu er le nb nc (some (Value.int 0)) H from Or.inr (Or.inl ⟨hlt, ((((((cu + 4) + ru tx L 3 (cu + 4)) + 1) + ru tx L 3 (((cu + 4) + ru tx L 3 (cu + 4)) + 1)) + 1) + ru tx L 2 (((((cu + 4) + ru tx L 3 (cu + 4)) + 1) + ru tx L 3 (((cu + 4) + ru tx L 3 (cu + 4)) + 1)) + 1)), ((((((cu + 4) + ru tx L 3 (cu + 4)) + 1) + ru tx L 3 (((cu + 4) + ru tx L 3 (cu + 4)) + 1)) + 1) + ru tx L 2 (((((cu + 4) + ru tx L 3 (cu + 4)) + 1) + ru tx L 3 (((cu + 4) + ru tx L 3 (cu + 4)) + 1)) + 1)), by unfold prs1; rw [if_neg e_112, if_neg e_108, if_neg e_101, if_pos e_115]; exact (show (pSg tx L 59 (pNm tx L 2 1 (pSg tx L 44 (pNm tx L 3 0 (pSg tx L 45 (pNm tx L 3 0 (pSg tx L 58 (pDg tx L 7 (pDg tx L 9 (pSg tx L (tx cu) (pok cu []))))))))))) = per ((((((cu + 4) + ru tx L 3 (cu + 4)) + 1) + ru tx L 3 (((cu + 4) + ru tx L 3 (cu + 4)) + 1)) + 1) + ru tx L 2 (((((cu + 4) + ru tx L 3 (cu + 4)) + 1) + ru tx L 3 (((cu + 4) + ru tx L 3 (cu + 4)) + 1)) + 1)) ((((((cu + 4) + ru tx L 3 (cu + 4)) + 1) + ru tx L 3 (((cu + 4) + ru tx L 3 (cu + 4)) + 1)) + 1) + ru tx L 2 (((((cu + 4) + ru tx L 3 (cu + 4)) + 1) + ru tx L 3 (((cu + 4) + ru tx L 3 (cu + 4)) + 1)) + 1)) from by first | exact hpe | (rw [hpe]; rfl)), rfl, _, _, _, hP⟩)) rfl hS dX1_readOrder_88
                                      · replace c_50 := bI_e0 c_50
                                        have hq9 := Bool.eq_false_iff.mp c_50
                                        simp only [if_neg hq9] at hP hD
                                        have hP : va_P G vwCl (wMain T q a N Z b M Y sc tx L ((((((cu + 4) + ru tx L 3 (cu + 4)) + 1) + ru tx L 3 (((cu + 4) + ru tx L 3 (cu + 4)) + 1)) + 1) + ru tx L 2 (((((cu + 4) + ru tx L 3 (cu + 4)) + 1) + ru tx L 3 (((cu + 4) + ru tx L 3 (cu + 4)) + 1)) + 1)) (nI (numE tx L 2 (((((cu + 4) + ru tx L 3 (cu + 4)) + 1) + ru tx L 3 (((cu + 4) + ru tx L 3 (cu + 4)) + 1)) + 1))) (tx cu) (upd (upd (upd (upd nb 0 (tx (cu + 1) - 48)) 1 (tx (cu + 2) - 48)) 2 (vn tx (cu + 4) (ru tx L 3 (cu + 4)))) 3 (vn tx (((cu + 4) + ru tx L 3 (cu + 4)) + 1) (ru tx L 3 (((cu + 4) + ru tx L 3 (cu + 4)) + 1)))) 4) H := hP
                                        have hD : va_D A (wMain T q a N Z b M Y sc tx L ((((((cu + 4) + ru tx L 3 (cu + 4)) + 1) + ru tx L 3 (((cu + 4) + ru tx L 3 (cu + 4)) + 1)) + 1) + ru tx L 2 (((((cu + 4) + ru tx L 3 (cu + 4)) + 1) + ru tx L 3 (((cu + 4) + ru tx L 3 (cu + 4)) + 1)) + 1)) (nI (numE tx L 2 (((((cu + 4) + ru tx L 3 (cu + 4)) + 1) + ru tx L 3 (((cu + 4) + ru tx L 3 (cu + 4)) + 1)) + 1))) (tx cu) (upd (upd (upd (upd nb 0 (tx (cu + 1) - 48)) 1 (tx (cu + 2) - 48)) 2 (vn tx (cu + 4) (ru tx L 3 (cu + 4)))) 3 (vn tx (((cu + 4) + ru tx L 3 (cu + 4)) + 1) (ru tx L 3 (((cu + 4) + ru tx L 3 (cu + 4)) + 1)))) 4) := hD
                                        have hpe : ∃ a9, (pSg tx L 59 (pNm tx L 2 1 (pSg tx L 44 (pNm tx L 3 0 (pSg tx L 45 (pNm tx L 3 0 (pSg tx L 58 (pDg tx L 7 (pDg tx L 9 (pSg tx L (tx cu) (pok cu []))))))))))) = per (numE tx L 2 (((((cu + 4) + ru tx L 3 (cu + 4)) + 1) + ru tx L 3 (((cu + 4) + ru tx L 3 (cu + 4)) + 1)) + 1)) a9 := by rw [hpo]; exact nm_f (by decide) (by decide) c_50
                                        obtain ⟨a9, hpe⟩ := hpe
                                        refine lv_iconst (v := 0) hx hb dX1_readOrder_87 (by decide) ?_
                                        exact hret _ _ _ _ _ (show roO G T q a N Z b M Y sc tx L cu er le nb nc (some (Value.int 0)) H from Or.inr (Or.inl ⟨hlt, (numE tx L 2 (((((cu + 4) + ru tx L 3 (cu + 4)) + 1) + ru tx L 3 (((cu + 4) + ru tx L 3 (cu + 4)) + 1)) + 1)), a9, by unfold prs1; rw [if_neg e_112, if_neg e_108, if_neg e_101, if_pos e_115]; exact (show (pSg tx L 59 (pNm tx L 2 1 (pSg tx L 44 (pNm tx L 3 0 (pSg tx L 45 (pNm tx L 3 0 (pSg tx L 58 (pDg tx L 7 (pDg tx L 9 (pSg tx L (tx cu) (pok cu []))))))))))) = per (numE tx L 2 (((((cu + 4) + ru tx L 3 (cu + 4)) + 1) + ru tx L 3 (((cu + 4) + ru tx L 3 (cu + 4)) + 1)) + 1)) a9 from by first | exact hpe | (rw [hpe]; rfl)), rfl, _, _, _, hP⟩)) rfl hS dX1_readOrder_88
                                  · replace c_48 := bI_e0 c_48
                                    have hq9 : ¬ chr tx L ((((cu + 4) + ru tx L 3 (cu + 4)) + 1) + ru tx L 3 (((cu + 4) + ru tx L 3 (cu + 4)) + 1)) = 44 := of_decide_eq_false c_48
                                    simp only [if_neg hq9] at hP hD
                                    have hP : va_P G vwCl (wMain T q a N Z b M Y sc tx L ((((cu + 4) + ru tx L 3 (cu + 4)) + 1) + ru tx L 3 (((cu + 4) + ru tx L 3 (cu + 4)) + 1)) (nI ((((cu + 4) + ru tx L 3 (cu + 4)) + 1) + ru tx L 3 (((cu + 4) + ru tx L 3 (cu + 4)) + 1))) (tx cu) (upd (upd (upd (upd nb 0 (tx (cu + 1) - 48)) 1 (tx (cu + 2) - 48)) 2 (vn tx (cu + 4) (ru tx L 3 (cu + 4)))) 3 (vn tx (((cu + 4) + ru tx L 3 (cu + 4)) + 1) (ru tx L 3 (((cu + 4) + ru tx L 3 (cu + 4)) + 1)))) 4) H := hP
                                    have hD : va_D A (wMain T q a N Z b M Y sc tx L ((((cu + 4) + ru tx L 3 (cu + 4)) + 1) + ru tx L 3 (((cu + 4) + ru tx L 3 (cu + 4)) + 1)) (nI ((((cu + 4) + ru tx L 3 (cu + 4)) + 1) + ru tx L 3 (((cu + 4) + ru tx L 3 (cu + 4)) + 1))) (tx cu) (upd (upd (upd (upd nb 0 (tx (cu + 1) - 48)) 1 (tx (cu + 2) - 48)) 2 (vn tx (cu + 4) (ru tx L 3 (cu + 4)))) 3 (vn tx (((cu + 4) + ru tx L 3 (cu + 4)) + 1) (ru tx L 3 (((cu + 4) + ru tx L 3 (cu + 4)) + 1)))) 4) := hD
                                    have hpe : (pSg tx L 44 (pNm tx L 3 0 (pSg tx L 45 (pNm tx L 3 0 (pSg tx L 58 (pDg tx L 7 (pDg tx L 9 (pSg tx L (tx cu) (pok cu []))))))))) = per ((((cu + 4) + ru tx L 3 (cu + 4)) + 1) + ru tx L 3 (((cu + 4) + ru tx L 3 (cu + 4)) + 1)) ((((cu + 4) + ru tx L 3 (cu + 4)) + 1) + ru tx L 3 (((cu + 4) + ru tx L 3 (cu + 4)) + 1)) := by rw [hpo]; exact if_neg hq9
                                    refine lv_iconst (v := 0) hx hb dX1_readOrder_87 (by decide) ?_
                                    exact hret _ _ _ _ _ (show roO G T q a N Z b M Y sc tx L cu er le nb nc (some (Value.int 0)) H from Or.inr (Or.inl ⟨hlt, ((((cu + 4) + ru tx L 3 (cu + 4)) + 1) + ru tx L 3 (((cu + 4) + ru tx L 3 (cu + 4)) + 1)), ((((cu + 4) + ru tx L 3 (cu + 4)) + 1) + ru tx L 3 (((cu + 4) + ru tx L 3 (cu + 4)) + 1)), by unfold prs1; rw [if_neg e_112, if_neg e_108, if_neg e_101, if_pos e_115]; exact (show (pSg tx L 59 (pNm tx L 2 1 (pSg tx L 44 (pNm tx L 3 0 (pSg tx L 45 (pNm tx L 3 0 (pSg tx L 58 (pDg tx L 7 (pDg tx L 9 (pSg tx L (tx cu) (pok cu []))))))))))) = per ((((cu + 4) + ru tx L 3 (cu + 4)) + 1) + ru tx L 3 (((cu + 4) + ru tx L 3 (cu + 4)) + 1)) ((((cu + 4) + ru tx L 3 (cu + 4)) + 1) + ru tx L 3 (((cu + 4) + ru tx L 3 (cu + 4)) + 1)) from by first | exact hpe | (rw [hpe]; rfl)), rfl, _, _, _, hP⟩)) rfl hS dX1_readOrder_88
                              · replace c_46 := bI_e0 c_46
                                have hq9 := Bool.eq_false_iff.mp c_46
                                simp only [if_neg hq9] at hP hD
                                have hP : va_P G vwCl (wMain T q a N Z b M Y sc tx L ((((cu + 4) + ru tx L 3 (cu + 4)) + 1) + ru tx L 3 (((cu + 4) + ru tx L 3 (cu + 4)) + 1)) (nI (numE tx L 3 (((cu + 4) + ru tx L 3 (cu + 4)) + 1))) (tx cu) (upd (upd (upd nb 0 (tx (cu + 1) - 48)) 1 (tx (cu + 2) - 48)) 2 (vn tx (cu + 4) (ru tx L 3 (cu + 4)))) 3) H := hP
                                have hD : va_D A (wMain T q a N Z b M Y sc tx L ((((cu + 4) + ru tx L 3 (cu + 4)) + 1) + ru tx L 3 (((cu + 4) + ru tx L 3 (cu + 4)) + 1)) (nI (numE tx L 3 (((cu + 4) + ru tx L 3 (cu + 4)) + 1))) (tx cu) (upd (upd (upd nb 0 (tx (cu + 1) - 48)) 1 (tx (cu + 2) - 48)) 2 (vn tx (cu + 4) (ru tx L 3 (cu + 4)))) 3) := hD
                                have hpe : ∃ a9, (pSg tx L 44 (pNm tx L 3 0 (pSg tx L 45 (pNm tx L 3 0 (pSg tx L 58 (pDg tx L 7 (pDg tx L 9 (pSg tx L (tx cu) (pok cu []))))))))) = per (numE tx L 3 (((cu + 4) + ru tx L 3 (cu + 4)) + 1)) a9 := by rw [hpo]; exact nm_f (by decide) (by decide) c_46
                                obtain ⟨a9, hpe⟩ := hpe
                                refine lv_iconst (v := 0) hx hb dX1_readOrder_87 (by decide) ?_
                                exact hret _ _ _ _ _ (show roO G T q a N Z b M Y sc tx L cu er le nb nc (some (Value.int 0)) H from Or.inr (Or.inl ⟨hlt, (numE tx L 3 (((cu + 4) + ru tx L 3 (cu + 4)) + 1)), a9, by unfold prs1; rw [if_neg e_112, if_neg e_108, if_neg e_101, if_pos e_115]; exact (show (pSg tx L 59 (pNm tx L 2 1 (pSg tx L 44 (pNm tx L 3 0 (pSg tx L 45 (pNm tx L 3 0 (pSg tx L 58 (pDg tx L 7 (pDg tx L 9 (pSg tx L (tx cu) (pok cu []))))))))))) = per (numE tx L 3 (((cu + 4) + ru tx L 3 (cu + 4)) + 1)) a9 from by first | exact hpe | (rw [hpe]; rfl)), rfl, _, _, _, hP⟩)) rfl hS dX1_readOrder_88
                          · replace c_44 := bI_e0 c_44
                            have hq9 : ¬ chr tx L ((cu + 4) + ru tx L 3 (cu + 4)) = 45 := of_decide_eq_false c_44
                            simp only [if_neg hq9] at hP hD
                            have hP : va_P G vwCl (wMain T q a N Z b M Y sc tx L ((cu + 4) + ru tx L 3 (cu + 4)) (nI ((cu + 4) + ru tx L 3 (cu + 4))) (tx cu) (upd (upd (upd nb 0 (tx (cu + 1) - 48)) 1 (tx (cu + 2) - 48)) 2 (vn tx (cu + 4) (ru tx L 3 (cu + 4)))) 3) H := hP
                            have hD : va_D A (wMain T q a N Z b M Y sc tx L ((cu + 4) + ru tx L 3 (cu + 4)) (nI ((cu + 4) + ru tx L 3 (cu + 4))) (tx cu) (upd (upd (upd nb 0 (tx (cu + 1) - 48)) 1 (tx (cu + 2) - 48)) 2 (vn tx (cu + 4) (ru tx L 3 (cu + 4)))) 3) := hD
                            have hpe : (pSg tx L 45 (pNm tx L 3 0 (pSg tx L 58 (pDg tx L 7 (pDg tx L 9 (pSg tx L (tx cu) (pok cu []))))))) = per ((cu + 4) + ru tx L 3 (cu + 4)) ((cu + 4) + ru tx L 3 (cu + 4)) := by rw [hpo]; exact if_neg hq9
                            refine lv_iconst (v := 0) hx hb dX1_readOrder_87 (by decide) ?_
                            exact hret _ _ _ _ _ (show roO G T q a N Z b M Y sc tx L cu er le nb nc (some (Value.int 0)) H from Or.inr (Or.inl ⟨hlt, ((cu + 4) + ru tx L 3 (cu + 4)), ((cu + 4) + ru tx L 3 (cu + 4)), by unfold prs1; rw [if_neg e_112, if_neg e_108, if_neg e_101, if_pos e_115]; exact (show (pSg tx L 59 (pNm tx L 2 1 (pSg tx L 44 (pNm tx L 3 0 (pSg tx L 45 (pNm tx L 3 0 (pSg tx L 58 (pDg tx L 7 (pDg tx L 9 (pSg tx L (tx cu) (pok cu []))))))))))) = per ((cu + 4) + ru tx L 3 (cu + 4)) ((cu + 4) + ru tx L 3 (cu + 4)) from by first | exact hpe | (rw [hpe]; rfl)), rfl, _, _, _, hP⟩)) rfl hS dX1_readOrder_88
                      · replace c_42 := bI_e0 c_42
                        have hq9 := Bool.eq_false_iff.mp c_42
                        simp only [if_neg hq9] at hP hD
                        have hP : va_P G vwCl (wMain T q a N Z b M Y sc tx L ((cu + 4) + ru tx L 3 (cu + 4)) (nI (numE tx L 3 (cu + 4))) (tx cu) (upd (upd nb 0 (tx (cu + 1) - 48)) 1 (tx (cu + 2) - 48)) 2) H := hP
                        have hD : va_D A (wMain T q a N Z b M Y sc tx L ((cu + 4) + ru tx L 3 (cu + 4)) (nI (numE tx L 3 (cu + 4))) (tx cu) (upd (upd nb 0 (tx (cu + 1) - 48)) 1 (tx (cu + 2) - 48)) 2) := hD
                        have hpe : ∃ a9, (pSg tx L 45 (pNm tx L 3 0 (pSg tx L 58 (pDg tx L 7 (pDg tx L 9 (pSg tx L (tx cu) (pok cu []))))))) = per (numE tx L 3 (cu + 4)) a9 := by rw [hpo]; exact nm_f (by decide) (by decide) c_42
                        obtain ⟨a9, hpe⟩ := hpe
                        refine lv_iconst (v := 0) hx hb dX1_readOrder_87 (by decide) ?_
                        exact hret _ _ _ _ _ (show roO G T q a N Z b M Y sc tx L cu er le nb nc (some (Value.int 0)) H from Or.inr (Or.inl ⟨hlt, (numE tx L 3 (cu + 4)), a9, by unfold prs1; rw [if_neg e_112, if_neg e_108, if_neg e_101, if_pos e_115]; exact (show (pSg tx L 59 (pNm tx L 2 1 (pSg tx L 44 (pNm tx L 3 0 (pSg tx L 45 (pNm tx L 3 0 (pSg tx L 58 (pDg tx L 7 (pDg tx L 9 (pSg tx L (tx cu) (pok cu []))))))))))) = per (numE tx L 3 (cu + 4)) a9 from by first | exact hpe | (rw [hpe]; rfl)), rfl, _, _, _, hP⟩)) rfl hS dX1_readOrder_88
                  · replace c_40 := bI_e0 c_40
                    have hq9 : ¬ chr tx L (cu + 3) = 58 := of_decide_eq_false c_40
                    simp only [if_neg hq9] at hP hD
                    have hP : va_P G vwCl (wMain T q a N Z b M Y sc tx L (cu + 3) (nI (cu + 3)) (tx cu) (upd (upd nb 0 (tx (cu + 1) - 48)) 1 (tx (cu + 2) - 48)) 2) H := hP
                    have hD : va_D A (wMain T q a N Z b M Y sc tx L (cu + 3) (nI (cu + 3)) (tx cu) (upd (upd nb 0 (tx (cu + 1) - 48)) 1 (tx (cu + 2) - 48)) 2) := hD
                    have hpe : (pSg tx L 58 (pDg tx L 7 (pDg tx L 9 (pSg tx L (tx cu) (pok cu []))))) = per (cu + 3) (cu + 3) := by rw [hpo]; exact if_neg hq9
                    refine lv_iconst (v := 0) hx hb dX1_readOrder_87 (by decide) ?_
                    exact hret _ _ _ _ _ (show roO G T q a N Z b M Y sc tx L cu er le nb nc (some (Value.int 0)) H from Or.inr (Or.inl ⟨hlt, (cu + 3), (cu + 3), by unfold prs1; rw [if_neg e_112, if_neg e_108, if_neg e_101, if_pos e_115]; exact (show (pSg tx L 59 (pNm tx L 2 1 (pSg tx L 44 (pNm tx L 3 0 (pSg tx L 45 (pNm tx L 3 0 (pSg tx L 58 (pDg tx L 7 (pDg tx L 9 (pSg tx L (tx cu) (pok cu []))))))))))) = per (cu + 3) (cu + 3) from by first | exact hpe | (rw [hpe]; rfl)), rfl, _, _, _, hP⟩)) rfl hS dX1_readOrder_88
              · replace c_38 := bI_e0 c_38
                have hq9 := Bool.eq_false_iff.mp c_38
                simp only [if_neg hq9] at hP hD
                have hP : va_P G vwCl (wMain T q a N Z b M Y sc tx L (cu + 2) (nI (cu + 2)) (tx cu) (upd nb 0 (tx (cu + 1) - 48)) 1) H := hP
                have hD : va_D A (wMain T q a N Z b M Y sc tx L (cu + 2) (nI (cu + 2)) (tx cu) (upd nb 0 (tx (cu + 1) - 48)) 1) := hD
                have hpe : (pDg tx L 7 (pDg tx L 9 (pSg tx L (tx cu) (pok cu [])))) = per (cu + 2) (cu + 2) := by rw [hpo]; exact if_neg (by rw [isG7]; exact hq9)
                refine lv_iconst (v := 0) hx hb dX1_readOrder_87 (by decide) ?_
                exact hret _ _ _ _ _ (show roO G T q a N Z b M Y sc tx L cu er le nb nc (some (Value.int 0)) H from Or.inr (Or.inl ⟨hlt, (cu + 2), (cu + 2), by unfold prs1; rw [if_neg e_112, if_neg e_108, if_neg e_101, if_pos e_115]; exact (show (pSg tx L 59 (pNm tx L 2 1 (pSg tx L 44 (pNm tx L 3 0 (pSg tx L 45 (pNm tx L 3 0 (pSg tx L 58 (pDg tx L 7 (pDg tx L 9 (pSg tx L (tx cu) (pok cu []))))))))))) = per (cu + 2) (cu + 2) from by first | exact hpe | (rw [hpe]; rfl)), rfl, _, _, _, hP⟩)) rfl hS dX1_readOrder_88
          · replace c_36 := bI_e0 c_36
            have hq9 := Bool.eq_false_iff.mp c_36
            simp only [if_neg hq9] at hP hD
            have hP : va_P G vwCl (wMain T q a N Z b M Y sc tx L (cu + 1) (nI (cu + 1)) (tx cu) nb 0) H := hP
            have hD : va_D A (wMain T q a N Z b M Y sc tx L (cu + 1) (nI (cu + 1)) (tx cu) nb 0) := hD
            have hpe : (pDg tx L 9 (pSg tx L (tx cu) (pok cu []))) = per (cu + 1) (cu + 1) := by rw [hpo]; exact if_neg (by rw [isG9]; exact hq9)
            refine lv_iconst (v := 0) hx hb dX1_readOrder_87 (by decide) ?_
            exact hret _ _ _ _ _ (show roO G T q a N Z b M Y sc tx L cu er le nb nc (some (Value.int 0)) H from Or.inr (Or.inl ⟨hlt, (cu + 1), (cu + 1), by unfold prs1; rw [if_neg e_112, if_neg e_108, if_neg e_101, if_pos e_115]; exact (show (pSg tx L 59 (pNm tx L 2 1 (pSg tx L 44 (pNm tx L 3 0 (pSg tx L 45 (pNm tx L 3 0 (pSg tx L 58 (pDg tx L 7 (pDg tx L 9 (pSg tx L (tx cu) (pok cu []))))))))))) = per (cu + 1) (cu + 1) from by first | exact hpe | (rw [hpe]; rfl)), rfl, _, _, _, hP⟩)) rfl hS dX1_readOrder_88
      · replace c_34 := cn_ne (a := 0) (b := 0) (by omega) (by omega) c_34
        exact absurd c_34 (by decide)
    by_cases e_100 : tx cu = 100
    · have hpo : pSg tx L (tx cu) (pok cu []) = pok (cu + 1) [] := if_pos (if_pos hlt)
      have hst := hst0.kept hS.2.1
      refine rg_S S sts_stb hst (mX1_partsOf l (le := (tx cu))) gX1_readOrder_X1_partsOf rfl idX1_partsOf.2 ⟨Nat.le_of_ble_eq_true rfl, Nat.le_of_ble_eq_true rfl⟩ rfl hl.1 rfl (Nat.le_of_ble_eq_true rfl) dX1_readOrder_30 ⟨Nat.le_refl _, Nat.le_refl _⟩ (fun r9 hr9 => ?_)
      subst hr9
      rw [show pix (tx cu) = 4 by rw [e_100]; rfl]
      refine W.eq (g2 := F0 m 33 ls [.ref (kk 4)]) rfl ?_
      refine lv_astore_n (lv' := [(1, .ref (kk 4)), (0, .ref (q 2))]) hx hb dX1_readOrder_33 rfl hl (by decide) rfl (fun ls hl => ?_)
      refine lv_aload_n hx hb dX1_readOrder_34 rfl (lv_at hl 0 rfl) ?_
      have hst := hst0.kept hS.2.1
      have hsg := sts_g hst 4 (by decide)
      refine rg_V S sgs_stb hsg (mJ0_isEmpty l (by decide)) gX1_readOrder_J0_isEmpty_aae02 rfl idJ0_isEmpty ⟨Nat.le_of_ble_eq_true rfl, Nat.le_of_ble_eq_true rfl⟩ (sgs_rc hsg) rfl hl.1 rfl (Nat.le_of_ble_eq_true rfl) dX1_readOrder_35 ⟨Nat.le_refl _, Nat.le_refl _⟩ (fun r9 hr9 => ?_)
      subst hr9
      refine W.eq (g2 := F0 m 38 ls [.int 0]) rfl ?_
      refine lv_if_eq (tgt := 50) hx hb dX1_readOrder_38 (by decide) (fun c_54 => ?_) (fun c_54 => ?_)
      · replace c_54 := cn_eq (a := 0) (b := 0) (by omega) (by omega) c_54
        refine lv_aload_n hx hb dX1_readOrder_50 rfl (lv_at hl 1 rfl) ?_
        refine lv_dup hx hb dX1_readOrder_51 rfl ?_
        refine va_get (D := G) (ci := 1) (C := RX1) (T := TX1) (N := 7) hx hb hts iX1 hown hkx.1 hP 2 rfl rfl 2 (by decide) k19 (fun _ h9 => h9) rfl dX1_readOrder_52 ?_
        refine lv_iconst (v := 1) hx hb dX1_readOrder_55 (by decide) ?_
        refine lv_iadd hx hb dX1_readOrder_56 ?_
        rw [show ((nI cu) + 1) = (nI (cu + 1)) from nI_add cu 1]
        refine va_put (D := G) (ci := 1) (v := .int (nI (cu + 1))) (ty := .int) (C := RX1) (T := TX1) (N := 7) hx hb hts iX1 tyX1 tyX1_ok nmX1 hown hkx.1 hP hD hS 2 rfl rfl 2 (by decide) k19 (fun _ h9 => h9) rfl (by decide +kernel) rfl rfl (Nat.le_of_ble_eq_true rfl) dX1_readOrder_57 (fun H locs hP hD hS => ?_)
        have hP : va_P G vwCl (wMain T q a N Z b M Y sc tx L (cu + 1) er (tx cu) nb nc) H := hP
        have hD : va_D A (wMain T q a N Z b M Y sc tx L (cu + 1) er (tx cu) nb nc) := hD
        refine lv_aload_n hx hb dX1_readOrder_60 rfl (lv_at hl 1 rfl) ?_
        refine lv_iconst (v := 0) hx hb dX1_readOrder_61 (by decide) ?_
        refine va_put (D := G) (ci := 1) (v := .int 0) (ty := .int) (C := RX1) (T := TX1) (N := 7) hx hb hts iX1 tyX1 tyX1_ok nmX1 hown hkx.1 hP hD hS 2 rfl rfl 6 (by decide) k32 (fun _ h9 => h9) rfl (by decide +kernel) rfl rfl (Nat.le_of_ble_eq_true rfl) dX1_readOrder_62 (fun H locs hP hD hS => ?_)
        have hP : va_P G vwCl (wMain T q a N Z b M Y sc tx L (cu + 1) er (tx cu) nb 0) H := hP
        have hD : va_D A (wMain T q a N Z b M Y sc tx L (cu + 1) er (tx cu) nb 0) := hD
        refine lv_iconst (v := 0) hx hb dX1_readOrder_65 (by decide) ?_
        refine lv_istore_n (lv' := [(2, .int 0), (1, .ref (kk 4)), (0, .ref (q 2))]) hx hb dX1_readOrder_66 rfl hl (by decide) rfl (fun ls hl => ?_)
        refine lv_iload_n hx hb dX1_readOrder_67 rfl (lv_at hl 0 rfl) ?_
        refine lv_aload_n hx hb dX1_readOrder_68 rfl (lv_at hl 1 rfl) ?_
        have hst := hst0.kept hS.2.1
        have hsg := sts_g hst 4 (by decide)
        refine rg_V S sgs_stb hsg (mJ0_length l) gX1_readOrder_J0_length_8abf5 rfl idJ0_length ⟨Nat.le_of_ble_eq_true rfl, Nat.le_of_ble_eq_true rfl⟩ (sgs_rc hsg) rfl hl.1 rfl (Nat.le_of_ble_eq_true rfl) dX1_readOrder_69 ⟨Nat.le_refl _, Nat.le_refl _⟩ (fun r9 hr9 => ?_)
        subst hr9
        refine W.eq (g2 := F0 m 72 ls [.int (nI 2), .int 0]) rfl ?_
        refine lv_icmp_ge (tgt := 95) hx hb dX1_readOrder_72 (by decide) (fun c_55 => ?_) (fun c_55 => ?_)
        · replace c_55 := cn_le (a := 2) (b := 0) (by omega) (by omega) c_55
          exact absurd c_55 (by decide)
        · replace c_55 := cn_nle (a := 2) (b := 0) (by omega) (by omega) c_55
          refine lv_aload_n hx hb dX1_readOrder_75 rfl (lv_at hl 2 rfl) ?_
          refine lv_aload_n hx hb dX1_readOrder_76 rfl (lv_at hl 1 rfl) ?_
          refine lv_iload_n hx hb dX1_readOrder_77 rfl (lv_at hl 0 rfl) ?_
          have hst := hst0.kept hS.2.1
          have hsg := sts_g hst 4 (by decide)
          refine rg_V S sgs_stb hsg (mJ0_charAt l (i := 0) (ch := 122) (by decide) (by decide) rfl (by decide) (by decide) rfl) gX1_readOrder_J0_charAt_5068e rfl idJ0_charAt ⟨Nat.le_of_ble_eq_true rfl, Nat.le_of_ble_eq_true rfl⟩ (sgs_rc hsg) rfl hl.1 rfl (Nat.le_of_ble_eq_true rfl) dX1_readOrder_78 ⟨Nat.le_refl _, Nat.le_refl _⟩ (fun r9 hr9 => ?_)
          subst hr9
          refine W.eq (g2 := F0 m 81 ls [.int 122, .ref (q 2)]) rfl ?_
          refine mu_V S hkx (mX1_readPart_z l (hP := hP) (hD := hD.weaken (fun _ _ _ _ => trivial)) (q := q) (a := a) (N := N) (Z := Z) (b := b) (M := M) (Y := Y) (sc := sc) (tx := tx) (L := L) (cu := (cu + 1)) (er := er) (le := (tx cu)) (nb := nb) (nc := 0) (hL := (by omega)) (hcu := (by omega)) (hnc := (by omega))) gX1_readOrder_X1_readPart rfl idX1_readPart ⟨Nat.le_of_ble_eq_true rfl, Nat.le_of_ble_eq_true rfl⟩ hP 2 rfl rfl rfl rfl hl.1 rfl (Nat.le_of_ble_eq_true rfl) dX1_readOrder_81 ⟨Nat.le_of_ble_eq_true rfl, Nat.le_of_ble_eq_true rfl⟩ hS (fr_in hD (fun q h => hA q (Nat.le_trans hS.1 h))) (fun v H locs hp9 hz1 hk1 hS => ?_)
          obtain ⟨rfl, hP⟩ := hp9
          have hP : va_P G vwCl (wMain T q a N Z b M Y sc tx L ((cu + 1) + ru tx L 2 (cu + 1)) (if numB tx L 2 0 (cu + 1) = true then er else (nI (numE tx L 2 (cu + 1)))) (tx cu) (if numB tx L 2 0 (cu + 1) = true then upd nb 0 (vn tx (cu + 1) (ru tx L 2 (cu + 1))) else nb) (if numB tx L 2 0 (cu + 1) = true then 0 + 1 else 0)) H := hP
          have hD : va_D A (wMain T q a N Z b M Y sc tx L ((cu + 1) + ru tx L 2 (cu + 1)) (if numB tx L 2 0 (cu + 1) = true then er else (nI (numE tx L 2 (cu + 1)))) (tx cu) (if numB tx L 2 0 (cu + 1) = true then upd nb 0 (vn tx (cu + 1) (ru tx L 2 (cu + 1))) else nb) (if numB tx L 2 0 (cu + 1) = true then 0 + 1 else 0)) := D_perm hD (List.Perm.refl _)
          refine W.eq (g2 := F0 m 84 ls [.int (bI (numB tx L 2 0 (cu + 1)))]) rfl ?_
          refine lv_if_ne (tgt := 89) hx hb dX1_readOrder_84 (by decide) (fun c_56 => ?_) (fun c_56 => ?_)
          · replace c_56 := bI_n0 c_56
            have hq9 := c_56
            simp only [if_pos hq9] at hP hD
            have hru9 := ru_le (tx := tx) (L := L) 2 (cu + 1) (by omega)
            have hP : va_P G vwCl (wMain T q a N Z b M Y sc tx L ((cu + 1) + ru tx L 2 (cu + 1)) er (tx cu) (upd nb 0 (vn tx (cu + 1) (ru tx L 2 (cu + 1)))) 1) H := hP
            have hD : va_D A (wMain T q a N Z b M Y sc tx L ((cu + 1) + ru tx L 2 (cu + 1)) er (tx cu) (upd nb 0 (vn tx (cu + 1) (ru tx L 2 (cu + 1)))) 1) := hD
            have hpo : (pNm tx L 2 0 (pSg tx L (tx cu) (pok cu []))) = pok ((cu + 1) + ru tx L 2 (cu + 1)) ([] ++ [(vn tx (cu + 1) (ru tx L 2 (cu + 1)))]) := by rw [hpo]; exact nm_t hq9
            refine lv_iinc (v := (nI 1)) (lv' := [(2, .int (nI 1)), (1, .ref (kk 4)), (0, .ref (q 2))]) hx hb dX1_readOrder_89 hl (k := 0) rfl (nI_inc 0) (by decide) rfl (fun ls hl => ?_)
            refine lv_goto (tgt := 67) hx hb dX1_readOrder_92 (by decide) ?_
            refine lv_iload_n hx hb dX1_readOrder_67 rfl (lv_at hl 0 rfl) ?_
            refine lv_aload_n hx hb dX1_readOrder_68 rfl (lv_at hl 1 rfl) ?_
            have hst := hst0.kept hS.2.1
            have hsg := sts_g hst 4 (by decide)
            refine rg_V S sgs_stb hsg (mJ0_length l) gX1_readOrder_J0_length_8abf5 rfl idJ0_length ⟨Nat.le_of_ble_eq_true rfl, Nat.le_of_ble_eq_true rfl⟩ (sgs_rc hsg) rfl hl.1 rfl (Nat.le_of_ble_eq_true rfl) dX1_readOrder_69 ⟨Nat.le_refl _, Nat.le_refl _⟩ (fun r9 hr9 => ?_)
            subst hr9
            refine W.eq (g2 := F0 m 72 ls [.int (nI 2), .int (nI 1)]) rfl ?_
            refine lv_icmp_ge (tgt := 95) hx hb dX1_readOrder_72 (by decide) (fun c_57 => ?_) (fun c_57 => ?_)
            · replace c_57 := cn_le (a := 2) (b := 1) (by omega) (by omega) c_57
              exact absurd c_57 (by decide)
            · replace c_57 := cn_nle (a := 2) (b := 1) (by omega) (by omega) c_57
              refine lv_aload_n hx hb dX1_readOrder_75 rfl (lv_at hl 2 rfl) ?_
              refine lv_aload_n hx hb dX1_readOrder_76 rfl (lv_at hl 1 rfl) ?_
              refine lv_iload_n hx hb dX1_readOrder_77 rfl (lv_at hl 0 rfl) ?_
              have hst := hst0.kept hS.2.1
              have hsg := sts_g hst 4 (by decide)
              refine rg_V S sgs_stb hsg (mJ0_charAt l (i := 1) (ch := 59) (by decide) (by decide) rfl (by decide) (by decide) rfl) gX1_readOrder_J0_charAt_5068e rfl idJ0_charAt ⟨Nat.le_of_ble_eq_true rfl, Nat.le_of_ble_eq_true rfl⟩ (sgs_rc hsg) rfl hl.1 rfl (Nat.le_of_ble_eq_true rfl) dX1_readOrder_78 ⟨Nat.le_refl _, Nat.le_refl _⟩ (fun r9 hr9 => ?_)
              subst hr9
              refine W.eq (g2 := F0 m 81 ls [.int 59, .ref (q 2)]) rfl ?_
              refine mu_V S hkx (mX1_readPart_s59 l (hP := hP) (hD := hD.weaken (fun _ _ _ _ => trivial)) (q := q) (a := a) (N := N) (Z := Z) (b := b) (M := M) (Y := Y) (sc := sc) (tx := tx) (L := L) (cu := ((cu + 1) + ru tx L 2 (cu + 1))) (er := er) (le := (tx cu)) (nb := (upd nb 0 (vn tx (cu + 1) (ru tx L 2 (cu + 1))))) (nc := 1) (hL := (by omega)) (hcu := (by omega))) gX1_readOrder_X1_readPart rfl idX1_readPart ⟨Nat.le_of_ble_eq_true rfl, Nat.le_of_ble_eq_true rfl⟩ hP 2 rfl rfl rfl rfl hl.1 rfl (Nat.le_of_ble_eq_true rfl) dX1_readOrder_81 ⟨Nat.le_of_ble_eq_true rfl, Nat.le_of_ble_eq_true rfl⟩ hS (fr_in hD (fun q h => hA q (Nat.le_trans hS.1 h))) (fun v H locs hp9 hz1 hk1 hS => ?_)
              obtain ⟨rfl, hP⟩ := hp9
              have hP : va_P G vwCl (wMain T q a N Z b M Y sc tx L (if chr tx L ((cu + 1) + ru tx L 2 (cu + 1)) = 59 then ((cu + 1) + ru tx L 2 (cu + 1)) + 1 else ((cu + 1) + ru tx L 2 (cu + 1))) (if chr tx L ((cu + 1) + ru tx L 2 (cu + 1)) = 59 then er else (nI ((cu + 1) + ru tx L 2 (cu + 1)))) (tx cu) (upd nb 0 (vn tx (cu + 1) (ru tx L 2 (cu + 1)))) 1) H := hP
              have hD : va_D A (wMain T q a N Z b M Y sc tx L (if chr tx L ((cu + 1) + ru tx L 2 (cu + 1)) = 59 then ((cu + 1) + ru tx L 2 (cu + 1)) + 1 else ((cu + 1) + ru tx L 2 (cu + 1))) (if chr tx L ((cu + 1) + ru tx L 2 (cu + 1)) = 59 then er else (nI ((cu + 1) + ru tx L 2 (cu + 1)))) (tx cu) (upd nb 0 (vn tx (cu + 1) (ru tx L 2 (cu + 1)))) 1) := D_perm hD (List.Perm.refl _)
              refine W.eq (g2 := F0 m 84 ls [.int (bI (decide (chr tx L ((cu + 1) + ru tx L 2 (cu + 1)) = 59)))]) rfl ?_
              refine lv_if_ne (tgt := 89) hx hb dX1_readOrder_84 (by decide) (fun c_58 => ?_) (fun c_58 => ?_)
              · replace c_58 := bI_n0 c_58
                have hq9 : chr tx L ((cu + 1) + ru tx L 2 (cu + 1)) = 59 := of_decide_eq_true c_58
                simp only [if_pos hq9] at hP hD
                have hlt9 := chr_s (by decide) hq9
                have hP : va_P G vwCl (wMain T q a N Z b M Y sc tx L (((cu + 1) + ru tx L 2 (cu + 1)) + 1) er (tx cu) (upd nb 0 (vn tx (cu + 1) (ru tx L 2 (cu + 1)))) 1) H := hP
                have hD : va_D A (wMain T q a N Z b M Y sc tx L (((cu + 1) + ru tx L 2 (cu + 1)) + 1) er (tx cu) (upd nb 0 (vn tx (cu + 1) (ru tx L 2 (cu + 1)))) 1) := hD
                have hpo : (pSg tx L 59 (pNm tx L 2 0 (pSg tx L (tx cu) (pok cu [])))) = pok (((cu + 1) + ru tx L 2 (cu + 1)) + 1) ([] ++ [(vn tx (cu + 1) (ru tx L 2 (cu + 1)))]) := by rw [hpo]; exact if_pos hq9
                refine lv_iinc (v := (nI 2)) (lv' := [(2, .int (nI 2)), (1, .ref (kk 4)), (0, .ref (q 2))]) hx hb dX1_readOrder_89 hl (k := 0) rfl (nI_inc 1) (by decide) rfl (fun ls hl => ?_)
                refine lv_goto (tgt := 67) hx hb dX1_readOrder_92 (by decide) ?_
                refine lv_iload_n hx hb dX1_readOrder_67 rfl (lv_at hl 0 rfl) ?_
                refine lv_aload_n hx hb dX1_readOrder_68 rfl (lv_at hl 1 rfl) ?_
                have hst := hst0.kept hS.2.1
                have hsg := sts_g hst 4 (by decide)
                refine rg_V S sgs_stb hsg (mJ0_length l) gX1_readOrder_J0_length_8abf5 rfl idJ0_length ⟨Nat.le_of_ble_eq_true rfl, Nat.le_of_ble_eq_true rfl⟩ (sgs_rc hsg) rfl hl.1 rfl (Nat.le_of_ble_eq_true rfl) dX1_readOrder_69 ⟨Nat.le_refl _, Nat.le_refl _⟩ (fun r9 hr9 => ?_)
                subst hr9
                refine W.eq (g2 := F0 m 72 ls [.int (nI 2), .int (nI 2)]) rfl ?_
                refine lv_icmp_ge (tgt := 95) hx hb dX1_readOrder_72 (by decide) (fun c_59 => ?_) (fun c_59 => ?_)
                · replace c_59 := cn_le (a := 2) (b := 2) (by omega) (by omega) c_59
                  refine lv_iconst (v := 1) hx hb dX1_readOrder_95 (by decide) ?_
                  exact hret _ _ _ _ _ (show roO G T q a N Z b M Y sc tx L cu er le nb nc (some (Value.int 1)) H from Or.inr (Or.inr ⟨hlt, (((cu + 1) + ru tx L 2 (cu + 1)) + 1), ([] ++ [(vn tx (cu + 1) (ru tx L 2 (cu + 1)))]), by unfold prs1; rw [if_neg e_112, if_neg e_108, if_neg e_101, if_neg e_115, if_pos e_100]; exact hpo, rfl, (upd nb 0 (vn tx (cu + 1) (ru tx L 2 (cu + 1)))), _, nms_of (Or.inr (Or.inr (Or.inr (Or.inr ⟨e_100, rfl⟩)))), hP⟩)) rfl hS dX1_readOrder_96
                · replace c_59 := cn_nle (a := 2) (b := 2) (by omega) (by omega) c_59
                  exact absurd c_59 (by decide)
              · replace c_58 := bI_e0 c_58
                have hq9 : ¬ chr tx L ((cu + 1) + ru tx L 2 (cu + 1)) = 59 := of_decide_eq_false c_58
                simp only [if_neg hq9] at hP hD
                have hP : va_P G vwCl (wMain T q a N Z b M Y sc tx L ((cu + 1) + ru tx L 2 (cu + 1)) (nI ((cu + 1) + ru tx L 2 (cu + 1))) (tx cu) (upd nb 0 (vn tx (cu + 1) (ru tx L 2 (cu + 1)))) 1) H := hP
                have hD : va_D A (wMain T q a N Z b M Y sc tx L ((cu + 1) + ru tx L 2 (cu + 1)) (nI ((cu + 1) + ru tx L 2 (cu + 1))) (tx cu) (upd nb 0 (vn tx (cu + 1) (ru tx L 2 (cu + 1)))) 1) := hD
                have hpe : (pSg tx L 59 (pNm tx L 2 0 (pSg tx L (tx cu) (pok cu [])))) = per ((cu + 1) + ru tx L 2 (cu + 1)) ((cu + 1) + ru tx L 2 (cu + 1)) := by rw [hpo]; exact if_neg hq9
                refine lv_iconst (v := 0) hx hb dX1_readOrder_87 (by decide) ?_
                exact hret _ _ _ _ _ (show roO G T q a N Z b M Y sc tx L cu er le nb nc (some (Value.int 0)) H from Or.inr (Or.inl ⟨hlt, ((cu + 1) + ru tx L 2 (cu + 1)), ((cu + 1) + ru tx L 2 (cu + 1)), by unfold prs1; rw [if_neg e_112, if_neg e_108, if_neg e_101, if_neg e_115, if_pos e_100]; exact (show (pSg tx L 59 (pNm tx L 2 0 (pSg tx L (tx cu) (pok cu [])))) = per ((cu + 1) + ru tx L 2 (cu + 1)) ((cu + 1) + ru tx L 2 (cu + 1)) from by first | exact hpe | (rw [hpe]; rfl)), rfl, _, _, _, hP⟩)) rfl hS dX1_readOrder_88
          · replace c_56 := bI_e0 c_56
            have hq9 := Bool.eq_false_iff.mp c_56
            simp only [if_neg hq9] at hP hD
            have hP : va_P G vwCl (wMain T q a N Z b M Y sc tx L ((cu + 1) + ru tx L 2 (cu + 1)) (nI (numE tx L 2 (cu + 1))) (tx cu) nb 0) H := hP
            have hD : va_D A (wMain T q a N Z b M Y sc tx L ((cu + 1) + ru tx L 2 (cu + 1)) (nI (numE tx L 2 (cu + 1))) (tx cu) nb 0) := hD
            have hpe : ∃ a9, (pSg tx L 59 (pNm tx L 2 0 (pSg tx L (tx cu) (pok cu [])))) = per (numE tx L 2 (cu + 1)) a9 := by rw [hpo]; exact nm_f (by decide) (by decide) c_56
            obtain ⟨a9, hpe⟩ := hpe
            refine lv_iconst (v := 0) hx hb dX1_readOrder_87 (by decide) ?_
            exact hret _ _ _ _ _ (show roO G T q a N Z b M Y sc tx L cu er le nb nc (some (Value.int 0)) H from Or.inr (Or.inl ⟨hlt, (numE tx L 2 (cu + 1)), a9, by unfold prs1; rw [if_neg e_112, if_neg e_108, if_neg e_101, if_neg e_115, if_pos e_100]; exact (show (pSg tx L 59 (pNm tx L 2 0 (pSg tx L (tx cu) (pok cu [])))) = per (numE tx L 2 (cu + 1)) a9 from by first | exact hpe | (rw [hpe]; rfl)), rfl, _, _, _, hP⟩)) rfl hS dX1_readOrder_88
      · replace c_54 := cn_ne (a := 0) (b := 0) (by omega) (by omega) c_54
        exact absurd c_54 (by decide)
    have hst := hst0.kept hS.2.1
    refine rg_S S sts_stb hst (mX1_partsOf l (le := (tx cu))) gX1_readOrder_X1_partsOf rfl idX1_partsOf.2 ⟨Nat.le_of_ble_eq_true rfl, Nat.le_of_ble_eq_true rfl⟩ rfl hl.1 rfl (Nat.le_of_ble_eq_true rfl) dX1_readOrder_30 ⟨Nat.le_refl _, Nat.le_refl _⟩ (fun r9 hr9 => ?_)
    subst hr9
    rw [show pix (tx cu) = 5 by unfold pix; rw [if_neg e_112, if_neg e_108, if_neg e_101, if_neg e_115, if_neg e_100]]
    refine W.eq (g2 := F0 m 33 ls [.ref (kk 5)]) rfl ?_
    refine lv_astore_n (lv' := [(1, .ref (kk 5)), (0, .ref (q 2))]) hx hb dX1_readOrder_33 rfl hl (by decide) rfl (fun ls hl => ?_)
    refine lv_aload_n hx hb dX1_readOrder_34 rfl (lv_at hl 0 rfl) ?_
    have hst := hst0.kept hS.2.1
    have hsg := sts_g hst 5 (by decide)
    refine rg_V S sgs_stb hsg (mJ0_isEmpty l (by decide)) gX1_readOrder_J0_isEmpty_aae02 rfl idJ0_isEmpty ⟨Nat.le_of_ble_eq_true rfl, Nat.le_of_ble_eq_true rfl⟩ (sgs_rc hsg) rfl hl.1 rfl (Nat.le_of_ble_eq_true rfl) dX1_readOrder_35 ⟨Nat.le_refl _, Nat.le_refl _⟩ (fun r9 hr9 => ?_)
    subst hr9
    refine W.eq (g2 := F0 m 38 ls [.int 1]) rfl ?_
    refine lv_if_eq (tgt := 50) hx hb dX1_readOrder_38 (by decide) (fun c_60 => ?_) (fun c_60 => ?_)
    · replace c_60 := cn_eq (a := 1) (b := 0) (by omega) (by omega) c_60
      exact absurd c_60 (by decide)
    · replace c_60 := cn_ne (a := 1) (b := 0) (by omega) (by omega) c_60
      refine lv_aload_n hx hb dX1_readOrder_41 rfl (lv_at hl 1 rfl) ?_
      refine lv_aload_n hx hb dX1_readOrder_42 rfl (lv_at hl 1 rfl) ?_
      refine va_get (D := G) (ci := 1) (C := RX1) (T := TX1) (N := 7) hx hb hts iX1 hown hkx.1 hP 2 rfl rfl 2 (by decide) k19 (fun _ h9 => h9) rfl dX1_readOrder_43 ?_
      refine mu_V S hkx (mX1_fail l (hP := hP) (hD := hD.weaken (fun _ _ _ _ => trivial)) (q := q) (a := a) (N := N) (Z := Z) (b := b) (M := M) (Y := Y) (sc := sc) (tx := tx) (L := L) (cu := cu) (er := er) (le := (tx cu)) (nb := nb) (nc := nc) (k := cu)) gX1_readOrder_X1_fail rfl idX1_fail ⟨Nat.le_of_ble_eq_true rfl, Nat.le_of_ble_eq_true rfl⟩ hP 2 rfl rfl rfl rfl hl.1 rfl (Nat.le_of_ble_eq_true rfl) dX1_readOrder_46 ⟨Nat.le_of_ble_eq_true rfl, Nat.le_of_ble_eq_true rfl⟩ hS (fr_in hD (fun q h => hA q (Nat.le_trans hS.1 h))) (fun v H locs hp9 hz1 hk1 hS => ?_)
      obtain ⟨rfl, hP⟩ := hp9
      have hP : va_P G vwCl (wMain T q a N Z b M Y sc tx L cu (nI cu) (tx cu) nb nc) H := hP
      have hD : va_D A (wMain T q a N Z b M Y sc tx L cu (nI cu) (tx cu) nb nc) := D_perm hD (List.Perm.refl _)
      refine W.eq (g2 := F0 m 49 ls [.int 0]) rfl ?_
      exact hret _ _ _ _ _ (show roO G T q a N Z b M Y sc tx L cu er le nb nc (some (Value.int 0)) H from Or.inr (Or.inl ⟨hlt, cu, cu, by unfold prs1; rw [if_neg e_112, if_neg e_108, if_neg e_101, if_neg e_115, if_neg e_100], rfl, _, _, _, hP⟩)) rfl hS dX1_readOrder_49
  · replace c_1 := cn_nlt (a := cu) (b := L) (by omega) (by omega) c_1
    refine lv_iconst (v := 0) hx hb dX1_readOrder_11 (by decide) ?_
    exact hret _ _ _ _ _ (show roO G T q a N Z b M Y sc tx L cu er le nb nc (some (Value.int 0)) H0 from Or.inl ⟨by omega, rfl, hP⟩) rfl hS dX1_readOrder_12
