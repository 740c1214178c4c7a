theorem idX6_number : yX6_number.cls = RX6 ∧ yX6_number.cls ≠ "java/lang/invoke/MethodHandle" ∧ yX6_number.cls ≠ "java/lang/invoke/VarHandle" ∧ (parseMethodDescriptor yX6_number.desc).map (fun d => d.parameters.length) = some 2 := by decide +kernel

set_option maxHeartbeats 4000000 in
set_option maxRecDepth 100000 in
theorem mX6_number_ok1 (l : Launch) {G : va_G} {T : Nat → ClassId} {H0 : Heap} {r : Nat → Nat} {mm : Nat → Int32} {pp : Nat → Int32} {xx : Nat → Int32} {th : Int32} {sv : Nat} {n1 : Nat} {le : Int32} {v1 : Int32} {v2 : Int32} {v3 : Int32} {v4 : Int32} {v5 : Int32} {pz : Nat} {ns : List Int32} {kz : Nat} {lo : Int32} (hP : va_P G vwCl (wMod T r mm pp xx th sv n1 (nI (acO (pok pz ns))) (eaO (pok pz ns)) le v1 v2 v3 v4 v5) H0) (hD : va_D (fun _ => True) (wMod T r mm pp xx th sv n1 (nI (acO (pok pz ns))) (eaO (pok pz ns)) le v1 v2 v3 v4 v5)) (hn1 : n1 ≤ 100) (hq : pz ≤ n1) (hg : isG xx n1 pz 9 = true) (hk1 : 1 ≤ kz) (hk3 : kz ≤ 3) : mu l yX6_number wsX6_number 2 44 [.ref (r 0), .int (nI kz), .int lo] G T H0 (wMod T r mm pp xx th sv n1 (nI (acO (pok pz ns))) (eaO (pok pz ns)) le v1 v2 v3 v4 v5) (fun v9 H9 => v9 = some (.int (nmv xx n1 kz (pok pz ns))) ∧ va_P G vwCl (wMod T r mm pp xx th sv n1 (nI (acO (pNm xx n1 kz lo (pok pz ns)))) (eaO (pNm xx n1 kz lo (pok pz ns))) le v1 v2 v3 v4 v5) H9) := by
  refine mu_ofi (cc := cX6_number) (maxL := 6) (ret := .int) (own := RX6) (by decide +kernel) rfl rfl (Nat.le_of_ble_eq_true rfl) hD ?_
  intro p e s m below meth c Q ls A S hkx hl hD hS hA hret
  obtain ⟨hx, hb, hml, hown, hts⟩ := id S
  have hl : lv_has ls 6 [(0, .ref (r 0)), (1, .int (nI kz)), (2, .int lo)] := hl
  have k151 := hts (.fieldLink RX6 151 "SunsetDatesModel" "at0" "I") (by decide +kernel)
  have iX6 : ∀ w ∈ wsX60, w ∈ wsX6_number := by decide +kernel
  have k154 := hts (.fieldLink RX6 154 "SunsetDatesModel" "errorAt" "I") (by decide +kernel)
  have k16 := hts (.fieldLink RX6 16 "SunsetDatesModel" "text" "[I") (by decide +kernel)
  refine lv_aload_n hx hb dX6_number_0 rfl (lv_at hl 0 rfl) ?_
  refine va_get (D := G) (ci := 6) (C := RX6) (T := TX6) (N := 14) hx hb hts iX6 hown hkx.1 hP 0 rfl rfl 6 (by decide) k151 (fun _ h9 => h9) rfl dX6_number_1 ?_
  refine lv_istore_n (lv' := [(3, .int (nI (acO (pok pz ns)))), (0, .ref (r 0)), (1, .int (nI kz)), (2, .int lo)]) hx hb dX6_number_4 rfl hl (by decide) rfl (fun ls hl => ?_)
  have hl : lv_has ls 6 [(3, .int (nI pz)), (0, .ref (r 0)), (1, .int (nI kz)), (2, .int lo)] := hl
  refine lv_aload_n hx hb dX6_number_5 rfl (lv_at hl 1 rfl) ?_
  refine lv_bipush (v := 9) hx hb dX6_number_6 (by decide) ?_
  refine mu_V S hkx (mX6_digit l (hP := hP) (hD := hD.weaken (fun _ _ _ _ => trivial)) (mm := mm) (pp := pp) (xx := xx) (th := th) (sv := sv) (n1 := n1) (le := le) (v1 := v1) (v2 := v2) (v3 := v3) (v4 := v4) (v5 := v5) (po := (pok pz ns)) (g := 9) (hn1 := hn1) (ho := (show wfo n1 (pok pz ns) from (by show pz ≤ n1; omega))) (hnp := True.intro)) gX6_number_X6_digit rfl idX6_digit ⟨Nat.le_of_ble_eq_true rfl, Nat.le_of_ble_eq_true rfl⟩ hP 0 rfl rfl rfl rfl hl.1 rfl (Nat.le_of_ble_eq_true rfl) dX6_number_8 ⟨Nat.le_refl _, Nat.le_refl _⟩ hS (fr_in hD (fun q h => hA q (Nat.le_trans hS.1 h))) (fun v H locs hp9 hz1 hk1 hS => ?_)
  obtain ⟨rfl, hP⟩ := hp9
  have hP : va_P G vwCl (wMod T r mm pp xx th sv n1 (nI (acO (pDg xx n1 9 (pok pz ns)))) (eaO (pDg xx n1 9 (pok pz ns))) le v1 v2 v3 v4 v5) H := hP
  have hD : va_D A (wMod T r mm pp xx th sv n1 (nI (acO (pDg xx n1 9 (pok pz ns)))) (eaO (pDg xx n1 9 (pok pz ns))) le v1 v2 v3 v4 v5) := fr_all hD rfl
  refine W.eq (g2 := F0 m 11 ls [.int (dgv xx n1 9 (pok pz ns))]) rfl ?_
  rw [show pDg xx n1 9 (pok pz ns) = pok (pz + 1) (ns ++ [xx pz - 48]) from if_pos hg] at hP hD
  rw [show dgv xx n1 9 (pok pz ns) = vn xx pz 1 from (if_pos hg).trans (vn_1 xx pz)]
  have hP : va_P G vwCl (wMod T r mm pp xx th sv n1 (nI (pz + 1)) (-1) le v1 v2 v3 v4 v5) H := hP
  have hD : va_D A (wMod T r mm pp xx th sv n1 (nI (pz + 1)) (-1) le v1 v2 v3 v4 v5) := hD
  refine lv_istore (lv' := [(4, .int (vn xx pz 1)), (3, .int (nI pz)), (0, .ref (r 0)), (1, .int (nI kz)), (2, .int lo)]) hx hb dX6_number_11 hl (by decide) rfl (fun ls hl => ?_)
  refine lv_iconst (v := 1) hx hb dX6_number_13 (by decide) ?_
  refine lv_istore (lv' := [(5, .int 1), (4, .int (vn xx pz 1)), (3, .int (nI pz)), (0, .ref (r 0)), (1, .int (nI kz)), (2, .int lo)]) hx hb dX6_number_14 hl (by decide) rfl (fun ls hl => ?_)
  have L16 : ∀ (fuel : Nat) (j : Nat), kz - j < fuel → 1 ≤ j → j ≤ kz → pz + j ≤ n1 → (∀ i, i < j → isG xx n1 (pz + i) 9 = true) → ∀ (H : Heap) (locs : List Loc), va_P G vwCl (wMod T r mm pp xx th sv n1 (nI (pz + j)) (-1) le v1 v2 v3 v4 v5) H → va_D A (wMod T r mm pp xx th sv n1 (nI (pz + j)) (-1) le v1 v2 v3 v4 v5) → va_S A H0 H locs → ∀ ls : Array Slot, lv_has ls 6 [(0, .ref (r 0)), (1, .int (nI kz)), (2, .int lo), (3, .int (nI pz)), (4, .int (vn xx pz j)), (5, .int (nI j))] → W p l e (rmo 2 44) s m ([.ref (r 0), .int (nI kz), .int lo] : List Value).toArray below meth c H locs 0 0 Q (F0 m 16 ls []) := by
    intro fuel
    induction fuel with
    | zero => intro j hm; exact absurd hm (Nat.not_lt_zero _)
    | succ fuel ih16 =>
      intro j hm16 hj1 hjk hjn hall H locs hP hD hS ls hl
      refine lv_iload hx hb dX6_number_16 (lv_at hl 5 rfl) ?_
      refine lv_iload_n hx hb dX6_number_18 rfl (lv_at hl 1 rfl) ?_
      refine lv_icmp_ge (tgt := 80) hx hb dX6_number_19 (by decide) (fun c_1 => ?_) (fun c_1 => ?_)
      · replace c_1 := cn_le (a := kz) (b := j) (by omega) (by omega) c_1
        have hru := ru_end (tx := xx) (L := n1) (p := pz) (k := kz) hjk hall (by first | exact Or.inl (by omega) | exact Or.inr (by rw [isG9]; assumption))
        refine lv_aload_n hx hb dX6_number_80 rfl (lv_at hl 0 rfl) ?_
        refine va_get (D := G) (ci := 6) (C := RX6) (T := TX6) (N := 14) hx hb hts iX6 hown hkx.1 hP 0 rfl rfl 7 (by decide) k154 (fun _ h9 => h9) rfl dX6_number_81 ?_
        refine lv_iconst (v := (-1)) hx hb dX6_number_84 (by decide) ?_
        refine lv_icmp_ne (tgt := 113) hx hb dX6_number_85 (by decide) (fun c_2 => ?_) (fun c_2 => ?_)
        · skip
          exact absurd c_2 (by decide)
        · skip
          refine lv_iload hx hb dX6_number_88 (lv_at hl 4 rfl) ?_
          refine lv_iload_n hx hb dX6_number_90 rfl (lv_at hl 2 rfl) ?_
          refine lv_icmp_ge (tgt := 113) hx hb dX6_number_91 (by decide) (fun c_3 => ?_) (fun c_3 => ?_)
          · have c_3n := Int32.not_lt.mpr c_3
            refine lv_iload hx hb dX6_number_113 (lv_at hl 4 rfl) ?_
            exact hret _ _ _ _ _ (show some (Value.int (vn xx pz j)) = some (Value.int (nmv xx n1 kz (pok pz ns))) ∧ va_P G vwCl (wMod T r mm pp xx th sv n1 (nI (acO (pNm xx n1 kz lo (pok pz ns)))) (eaO (pNm xx n1 kz lo (pok pz ns))) le v1 v2 v3 v4 v5) H from ⟨by refine congrArg (fun z => some (Value.int z)) (?_ : _ = _); show vn xx pz j = vn xx pz (ru xx n1 kz pz); rw [hru], (by have h9 := nm_ab (ns := ns) (lo := lo) hru hj1 (by first | exact Or.inl (by assumption) | exact Or.inr (by rw [isG9]; assumption)); rw [h9.1, h9.2]; exact hP)⟩) rfl hS dX6_number_115
          · have c_3n := Int32.not_le.mp c_3
            refine lv_aload_n hx hb dX6_number_94 rfl (lv_at hl 0 rfl) ?_
            refine ro_V S hkx (mX6_here l (hP := hP) (hn1 := (by omega)) (hq := (by omega))) gX6_number_X6_here rfl idX6_here ⟨Nat.le_of_ble_eq_true rfl, Nat.le_of_ble_eq_true rfl⟩ hP 0 rfl rfl rfl rfl hl.1 rfl (Nat.le_of_ble_eq_true rfl) dX6_number_95 ⟨Nat.le_of_ble_eq_true rfl, Nat.le_of_ble_eq_true rfl⟩ (fun r_4 hr_4 => ?_)
            subst hr_4
            refine lv_bipush (v := 48) hx hb dX6_number_98 (by decide) ?_
            refine lv_bipush (v := 57) hx hb dX6_number_100 (by decide) ?_
            refine ro_S S hkx (mX6_in l (v := (chr xx n1 (pz + j))) (x := 48) (z := 57)) gX6_number_X6_in rfl idX6_in.2 ⟨Nat.le_of_ble_eq_true rfl, Nat.le_of_ble_eq_true rfl⟩ rfl hl.1 rfl (Nat.le_of_ble_eq_true rfl) dX6_number_102 ⟨Nat.le_of_ble_eq_true rfl, Nat.le_of_ble_eq_true rfl⟩ (fun r_5 hr_5 => ?_)
            subst hr_5
            refine lv_if_ne (tgt := 113) hx hb dX6_number_105 (by decide) (fun c_6 => ?_) (fun c_6 => ?_)
            · replace c_6 := bI_n0 c_6
              refine lv_iload hx hb dX6_number_113 (lv_at hl 4 rfl) ?_
              exact hret _ _ _ _ _ (show some (Value.int (vn xx pz j)) = some (Value.int (nmv xx n1 kz (pok pz ns))) ∧ va_P G vwCl (wMod T r mm pp xx th sv n1 (nI (acO (pNm xx n1 kz lo (pok pz ns)))) (eaO (pNm xx n1 kz lo (pok pz ns))) le v1 v2 v3 v4 v5) H from ⟨by refine congrArg (fun z => some (Value.int z)) (?_ : _ = _); show vn xx pz j = vn xx pz (ru xx n1 kz pz); rw [hru], (by have h9 := nm_ab (ns := ns) (lo := lo) hru hj1 (by first | exact Or.inl (by assumption) | exact Or.inr (by rw [isG9]; assumption)); rw [h9.1, h9.2]; exact hP)⟩) rfl hS dX6_number_115
            · replace c_6 := bI_e0 c_6
              refine lv_aload_n hx hb dX6_number_108 rfl (lv_at hl 0 rfl) ?_
              refine lv_iload_n hx hb dX6_number_109 rfl (lv_at hl 3 rfl) ?_
              refine va_put (D := G) (ci := 6) (v := .int (nI pz)) (ty := .int) (C := RX6) (T := TX6) (N := 14) hx hb hts iX6 tyX6 tyX6_ok nmX6 hown hkx.1 hP hD hS 0 rfl rfl 7 (by decide) k154 (fun _ h9 => h9) rfl (by decide +kernel) rfl rfl (Nat.le_of_ble_eq_true rfl) dX6_number_110 (fun H locs hP hD hS => ?_)
              have hP : va_P G vwCl (wMod T r mm pp xx th sv n1 (nI (pz + j)) (nI pz) le v1 v2 v3 v4 v5) H := hP
              have hD : va_D A (wMod T r mm pp xx th sv n1 (nI (pz + j)) (nI pz) le v1 v2 v3 v4 v5) := hD
              refine lv_iload hx hb dX6_number_113 (lv_at hl 4 rfl) ?_
              exact hret _ _ _ _ _ (show some (Value.int (vn xx pz j)) = some (Value.int (nmv xx n1 kz (pok pz ns))) ∧ va_P G vwCl (wMod T r mm pp xx th sv n1 (nI (acO (pNm xx n1 kz lo (pok pz ns)))) (eaO (pNm xx n1 kz lo (pok pz ns))) le v1 v2 v3 v4 v5) H from ⟨by refine congrArg (fun z => some (Value.int z)) (?_ : _ = _); show vn xx pz j = vn xx pz (ru xx n1 kz pz); rw [hru], (by rw [nm_c (ns := ns) hru hj1 (by assumption) (by rw [isG9]; assumption)]; exact hP)⟩) rfl hS dX6_number_115
      · replace c_1 := cn_nle (a := kz) (b := j) (by omega) (by omega) c_1
        refine lv_aload_n hx hb dX6_number_22 rfl (lv_at hl 0 rfl) ?_
        refine va_get (D := G) (ci := 6) (C := RX6) (T := TX6) (N := 14) hx hb hts iX6 hown hkx.1 hP 0 rfl rfl 7 (by decide) k154 (fun _ h9 => h9) rfl dX6_number_23 ?_
        refine lv_iconst (v := (-1)) hx hb dX6_number_26 (by decide) ?_
        refine lv_icmp_ne (tgt := 80) hx hb dX6_number_27 (by decide) (fun c_7 => ?_) (fun c_7 => ?_)
        · skip
          exact absurd c_7 (by decide)
        · skip
          refine lv_aload_n hx hb dX6_number_30 rfl (lv_at hl 0 rfl) ?_
          refine ro_V S hkx (mX6_here l (hP := hP) (hn1 := (by omega)) (hq := (by omega))) gX6_number_X6_here rfl idX6_here ⟨Nat.le_of_ble_eq_true rfl, Nat.le_of_ble_eq_true rfl⟩ hP 0 rfl rfl rfl rfl hl.1 rfl (Nat.le_of_ble_eq_true rfl) dX6_number_31 ⟨Nat.le_of_ble_eq_true rfl, Nat.le_of_ble_eq_true rfl⟩ (fun r_8 hr_8 => ?_)
          subst hr_8
          refine lv_bipush (v := 48) hx hb dX6_number_34 (by decide) ?_
          refine lv_bipush (v := 57) hx hb dX6_number_36 (by decide) ?_
          refine ro_S S hkx (mX6_in l (v := (chr xx n1 (pz + j))) (x := 48) (z := 57)) gX6_number_X6_in rfl idX6_in.2 ⟨Nat.le_of_ble_eq_true rfl, Nat.le_of_ble_eq_true rfl⟩ rfl hl.1 rfl (Nat.le_of_ble_eq_true rfl) dX6_number_38 ⟨Nat.le_of_ble_eq_true rfl, Nat.le_of_ble_eq_true rfl⟩ (fun r_9 hr_9 => ?_)
          subst hr_9
          refine lv_if_eq (tgt := 80) hx hb dX6_number_41 (by decide) (fun c_10 => ?_) (fun c_10 => ?_)
          · replace c_10 := bI_e0 c_10
            have hru := ru_end (tx := xx) (L := n1) (p := pz) (k := kz) hjk hall (by first | exact Or.inl (by omega) | exact Or.inr (by rw [isG9]; assumption))
            refine lv_aload_n hx hb dX6_number_80 rfl (lv_at hl 0 rfl) ?_
            refine va_get (D := G) (ci := 6) (C := RX6) (T := TX6) (N := 14) hx hb hts iX6 hown hkx.1 hP 0 rfl rfl 7 (by decide) k154 (fun _ h9 => h9) rfl dX6_number_81 ?_
            refine lv_iconst (v := (-1)) hx hb dX6_number_84 (by decide) ?_
            refine lv_icmp_ne (tgt := 113) hx hb dX6_number_85 (by decide) (fun c_11 => ?_) (fun c_11 => ?_)
            · skip
              exact absurd c_11 (by decide)
            · skip
              refine lv_iload hx hb dX6_number_88 (lv_at hl 4 rfl) ?_
              refine lv_iload_n hx hb dX6_number_90 rfl (lv_at hl 2 rfl) ?_
              refine lv_icmp_ge (tgt := 113) hx hb dX6_number_91 (by decide) (fun c_12 => ?_) (fun c_12 => ?_)
              · have c_12n := Int32.not_lt.mpr c_12
                refine lv_iload hx hb dX6_number_113 (lv_at hl 4 rfl) ?_
                exact hret _ _ _ _ _ (show some (Value.int (vn xx pz j)) = some (Value.int (nmv xx n1 kz (pok pz ns))) ∧ va_P G vwCl (wMod T r mm pp xx th sv n1 (nI (acO (pNm xx n1 kz lo (pok pz ns)))) (eaO (pNm xx n1 kz lo (pok pz ns))) le v1 v2 v3 v4 v5) H from ⟨by refine congrArg (fun z => some (Value.int z)) (?_ : _ = _); show vn xx pz j = vn xx pz (ru xx n1 kz pz); rw [hru], (by have h9 := nm_ab (ns := ns) (lo := lo) hru hj1 (by first | exact Or.inl (by assumption) | exact Or.inr (by rw [isG9]; assumption)); rw [h9.1, h9.2]; exact hP)⟩) rfl hS dX6_number_115
              · have c_12n := Int32.not_le.mp c_12
                refine lv_aload_n hx hb dX6_number_94 rfl (lv_at hl 0 rfl) ?_
                refine ro_V S hkx (mX6_here l (hP := hP) (hn1 := (by omega)) (hq := (by omega))) gX6_number_X6_here rfl idX6_here ⟨Nat.le_of_ble_eq_true rfl, Nat.le_of_ble_eq_true rfl⟩ hP 0 rfl rfl rfl rfl hl.1 rfl (Nat.le_of_ble_eq_true rfl) dX6_number_95 ⟨Nat.le_of_ble_eq_true rfl, Nat.le_of_ble_eq_true rfl⟩ (fun r_13 hr_13 => ?_)
                subst hr_13
                refine lv_bipush (v := 48) hx hb dX6_number_98 (by decide) ?_
                refine lv_bipush (v := 57) hx hb dX6_number_100 (by decide) ?_
                refine ro_S S hkx (mX6_in l (v := (chr xx n1 (pz + j))) (x := 48) (z := 57)) gX6_number_X6_in rfl idX6_in.2 ⟨Nat.le_of_ble_eq_true rfl, Nat.le_of_ble_eq_true rfl⟩ rfl hl.1 rfl (Nat.le_of_ble_eq_true rfl) dX6_number_102 ⟨Nat.le_of_ble_eq_true rfl, Nat.le_of_ble_eq_true rfl⟩ (fun r_14 hr_14 => ?_)
                subst hr_14
                refine lv_if_ne (tgt := 113) hx hb dX6_number_105 (by decide) (fun c_15 => ?_) (fun c_15 => ?_)
                · replace c_15 := bI_n0 c_15
                  refine lv_iload hx hb dX6_number_113 (lv_at hl 4 rfl) ?_
                  exact hret _ _ _ _ _ (show some (Value.int (vn xx pz j)) = some (Value.int (nmv xx n1 kz (pok pz ns))) ∧ va_P G vwCl (wMod T r mm pp xx th sv n1 (nI (acO (pNm xx n1 kz lo (pok pz ns)))) (eaO (pNm xx n1 kz lo (pok pz ns))) le v1 v2 v3 v4 v5) H from ⟨by refine congrArg (fun z => some (Value.int z)) (?_ : _ = _); show vn xx pz j = vn xx pz (ru xx n1 kz pz); rw [hru], (by have h9 := nm_ab (ns := ns) (lo := lo) hru hj1 (by first | exact Or.inl (by assumption) | exact Or.inr (by rw [isG9]; assumption)); rw [h9.1, h9.2]; exact hP)⟩) rfl hS dX6_number_115
                · replace c_15 := bI_e0 c_15
                  refine lv_aload_n hx hb dX6_number_108 rfl (lv_at hl 0 rfl) ?_
                  refine lv_iload_n hx hb dX6_number_109 rfl (lv_at hl 3 rfl) ?_
                  refine va_put (D := G) (ci := 6) (v := .int (nI pz)) (ty := .int) (C := RX6) (T := TX6) (N := 14) hx hb hts iX6 tyX6 tyX6_ok nmX6 hown hkx.1 hP hD hS 0 rfl rfl 7 (by decide) k154 (fun _ h9 => h9) rfl (by decide +kernel) rfl rfl (Nat.le_of_ble_eq_true rfl) dX6_number_110 (fun H locs hP hD hS => ?_)
                  have hP : va_P G vwCl (wMod T r mm pp xx th sv n1 (nI (pz + j)) (nI pz) le v1 v2 v3 v4 v5) H := hP
                  have hD : va_D A (wMod T r mm pp xx th sv n1 (nI (pz + j)) (nI pz) le v1 v2 v3 v4 v5) := hD
                  refine lv_iload hx hb dX6_number_113 (lv_at hl 4 rfl) ?_
                  exact hret _ _ _ _ _ (show some (Value.int (vn xx pz j)) = some (Value.int (nmv xx n1 kz (pok pz ns))) ∧ va_P G vwCl (wMod T r mm pp xx th sv n1 (nI (acO (pNm xx n1 kz lo (pok pz ns)))) (eaO (pNm xx n1 kz lo (pok pz ns))) le v1 v2 v3 v4 v5) H from ⟨by refine congrArg (fun z => some (Value.int z)) (?_ : _ = _); show vn xx pz j = vn xx pz (ru xx n1 kz pz); rw [hru], (by rw [nm_c (ns := ns) hru hj1 (by assumption) (by rw [isG9]; assumption)]; exact hP)⟩) rfl hS dX6_number_115
          · replace c_10 := bI_n0 c_10
            have hgj : isG xx n1 (pz + j) 9 = true := by rw [isG9]; assumption
            have hlt := chr_lt hgj
            refine lv_bipush (v := 10) hx hb dX6_number_44 (by decide) ?_
            refine lv_iload hx hb dX6_number_46 (lv_at hl 4 rfl) ?_
            refine lv_imul hx hb dX6_number_48 ?_
            refine lv_aload_n hx hb dX6_number_49 rfl (lv_at hl 0 rfl) ?_
            refine va_get (D := G) (ci := 6) (C := RX6) (T := TX6) (N := 14) hx hb hts iX6 hown hkx.1 hP 0 rfl rfl 4 (by decide) k16 (fun _ h9 => h9) rfl dX6_number_50 ?_
            refine lv_aload_n hx hb dX6_number_53 rfl (lv_at hl 0 rfl) ?_
            refine va_get (D := G) (ci := 6) (C := RX6) (T := TX6) (N := 14) hx hb hts iX6 hown hkx.1 hP 0 rfl rfl 6 (by decide) k151 (fun _ h9 => h9) rfl dX6_number_54 ?_
            refine ia hx hb hkx hP 3 rfl (pz + j) rfl (by omega) (by decide) dX6_number_57 ?_
            refine lv_iadd hx hb dX6_number_58 ?_
            refine lv_bipush (v := 48) hx hb dX6_number_59 (by decide) ?_
            refine lv_isub hx hb dX6_number_61 ?_
            refine W.eq (g2 := F0 m 62 ls [.int (vn xx pz (j + 1))]) rfl ?_
            refine lv_istore (lv' := [(4, .int (vn xx pz (j + 1))), (0, .ref (r 0)), (1, .int (nI kz)), (2, .int lo), (3, .int (nI pz)), (5, .int (nI j))]) hx hb dX6_number_62 hl (by decide) rfl (fun ls hl => ?_)
            refine lv_aload_n hx hb dX6_number_64 rfl (lv_at hl 1 rfl) ?_
            refine lv_dup hx hb dX6_number_65 rfl ?_
            refine va_get (D := G) (ci := 6) (C := RX6) (T := TX6) (N := 14) hx hb hts iX6 hown hkx.1 hP 0 rfl rfl 6 (by decide) k151 (fun _ h9 => h9) rfl dX6_number_66 ?_
            refine lv_iconst (v := 1) hx hb dX6_number_69 (by decide) ?_
            refine lv_iadd hx hb dX6_number_70 ?_
            rw [show ((nI (pz + j)) + 1) = (nI ((pz + j) + 1)) from nI_add (pz + j) 1]
            refine va_put (D := G) (ci := 6) (v := .int (nI ((pz + j) + 1))) (ty := .int) (C := RX6) (T := TX6) (N := 14) hx hb hts iX6 tyX6 tyX6_ok nmX6 hown hkx.1 hP hD hS 0 rfl rfl 6 (by decide) k151 (fun _ h9 => h9) rfl (by decide +kernel) rfl rfl (Nat.le_of_ble_eq_true rfl) dX6_number_71 (fun H locs hP hD hS => ?_)
            have hP : va_P G vwCl (wMod T r mm pp xx th sv n1 (nI ((pz + j) + 1)) (-1) le v1 v2 v3 v4 v5) H := hP
            have hD : va_D A (wMod T r mm pp xx th sv n1 (nI ((pz + j) + 1)) (-1) le v1 v2 v3 v4 v5) := hD
            have hP : va_P G vwCl (wMod T r mm pp xx th sv n1 (nI (pz + (j + 1))) (-1) le v1 v2 v3 v4 v5) H := hP
            have hD : va_D A (wMod T r mm pp xx th sv n1 (nI (pz + (j + 1))) (-1) le v1 v2 v3 v4 v5) := hD
            refine lv_iinc (v := (nI (j + 1))) (lv' := [(5, .int (nI (j + 1))), (4, .int (vn xx pz (j + 1))), (0, .ref (r 0)), (1, .int (nI kz)), (2, .int lo), (3, .int (nI pz))]) hx hb dX6_number_74 hl (k := 5) rfl (nI_inc j) (by decide) rfl (fun ls hl => ?_)
            refine lv_goto (tgt := 16) hx hb dX6_number_77 (by decide) ?_
            exact ih16 (j + 1) (by omega) (by omega) (by omega) (by omega) (by intro i hi; rcases Nat.lt_or_ge i j with h9 | h9; exact hall i h9; obtain rfl : i = j := (by omega); exact hgj) _ _ hP hD hS _ (lv_sub hl [2, 3, 4, 5, 1, 0] rfl)
  exact L16 _ 1 (Nat.lt_succ_self _) (by omega) (by omega) (by have := chr_lt hg; omega) (by intro i hi; obtain rfl : i = 0 := (by omega); exact hg) _ _ hP hD hS _ (lv_sub hl [3, 4, 5, 2, 1, 0] rfl)

set_option maxHeartbeats 4000000 in
set_option maxRecDepth 100000 in
theorem mX6_number_ok0 (l : Launch) {G : va_G} {T : Nat → ClassId} {H0 : Heap} {r : Nat → Nat} {mm : Nat → Int32} {pp : Nat → Int32} {xx : Nat → Int32} {th : Int32} {sv : Nat} {n1 : Nat} {le : Int32} {v1 : Int32} {v2 : Int32} {v3 : Int32} {v4 : Int32} {v5 : Int32} {pz : Nat} {ns : List Int32} {kz : Nat} {lo : Int32} (hP : va_P G vwCl (wMod T r mm pp xx th sv n1 (nI (acO (pok pz ns))) (eaO (pok pz ns)) le v1 v2 v3 v4 v5) H0) (hD : va_D (fun _ => True) (wMod T r mm pp xx th sv n1 (nI (acO (pok pz ns))) (eaO (pok pz ns)) le v1 v2 v3 v4 v5)) (hn1 : n1 ≤ 100) (hq : pz ≤ n1) (hg : isG xx n1 pz 9 = false) (hk1 : 1 ≤ kz) (hk3 : kz ≤ 3) : mu l yX6_number wsX6_number 2 44 [.ref (r 0), .int (nI kz), .int lo] G T H0 (wMod T r mm pp xx th sv n1 (nI (acO (pok pz ns))) (eaO (pok pz ns)) le v1 v2 v3 v4 v5) (fun v9 H9 => v9 = some (.int (nmv xx n1 kz (pok pz ns))) ∧ va_P G vwCl (wMod T r mm pp xx th sv n1 (nI (acO (pNm xx n1 kz lo (pok pz ns)))) (eaO (pNm xx n1 kz lo (pok pz ns))) le v1 v2 v3 v4 v5) H9) := by
  refine mu_ofi (cc := cX6_number) (maxL := 6) (ret := .int) (own := RX6) (by decide +kernel) rfl rfl (Nat.le_of_ble_eq_true rfl) hD ?_
  intro p e s m below meth c Q ls A S hkx hl hD hS hA hret
  obtain ⟨hx, hb, hml, hown, hts⟩ := id S
  have hl : lv_has ls 6 [(0, .ref (r 0)), (1, .int (nI kz)), (2, .int lo)] := hl
  have k151 := hts (.fieldLink RX6 151 "SunsetDatesModel" "at0" "I") (by decide +kernel)
  have iX6 : ∀ w ∈ wsX60, w ∈ wsX6_number := by decide +kernel
  have k154 := hts (.fieldLink RX6 154 "SunsetDatesModel" "errorAt" "I") (by decide +kernel)
  refine lv_aload_n hx hb dX6_number_0 rfl (lv_at hl 0 rfl) ?_
  refine va_get (D := G) (ci := 6) (C := RX6) (T := TX6) (N := 14) hx hb hts iX6 hown hkx.1 hP 0 rfl rfl 6 (by decide) k151 (fun _ h9 => h9) rfl dX6_number_1 ?_
  refine lv_istore_n (lv' := [(3, .int (nI (acO (pok pz ns)))), (0, .ref (r 0)), (1, .int (nI kz)), (2, .int lo)]) hx hb dX6_number_4 rfl hl (by decide) rfl (fun ls hl => ?_)
  have hl : lv_has ls 6 [(3, .int (nI pz)), (0, .ref (r 0)), (1, .int (nI kz)), (2, .int lo)] := hl
  refine lv_aload_n hx hb dX6_number_5 rfl (lv_at hl 1 rfl) ?_
  refine lv_bipush (v := 9) hx hb dX6_number_6 (by decide) ?_
  refine mu_V S hkx (mX6_digit l (hP := hP) (hD := hD.weaken (fun _ _ _ _ => trivial)) (mm := mm) (pp := pp) (xx := xx) (th := th) (sv := sv) (n1 := n1) (le := le) (v1 := v1) (v2 := v2) (v3 := v3) (v4 := v4) (v5 := v5) (po := (pok pz ns)) (g := 9) (hn1 := hn1) (ho := (show wfo n1 (pok pz ns) from (by show pz ≤ n1; omega))) (hnp := True.intro)) gX6_number_X6_digit rfl idX6_digit ⟨Nat.le_of_ble_eq_true rfl, Nat.le_of_ble_eq_true rfl⟩ hP 0 rfl rfl rfl rfl hl.1 rfl (Nat.le_of_ble_eq_true rfl) dX6_number_8 ⟨Nat.le_refl _, Nat.le_refl _⟩ hS (fr_in hD (fun q h => hA q (Nat.le_trans hS.1 h))) (fun v H locs hp9 hz1 hk1 hS => ?_)
  obtain ⟨rfl, hP⟩ := hp9
  have hP : va_P G vwCl (wMod T r mm pp xx th sv n1 (nI (acO (pDg xx n1 9 (pok pz ns)))) (eaO (pDg xx n1 9 (pok pz ns))) le v1 v2 v3 v4 v5) H := hP
  have hD : va_D A (wMod T r mm pp xx th sv n1 (nI (acO (pDg xx n1 9 (pok pz ns)))) (eaO (pDg xx n1 9 (pok pz ns))) le v1 v2 v3 v4 v5) := fr_all hD rfl
  refine W.eq (g2 := F0 m 11 ls [.int (dgv xx n1 9 (pok pz ns))]) rfl ?_
  rw [show pDg xx n1 9 (pok pz ns) = per pz pz from if_neg (Bool.eq_false_iff.mp hg)] at hP hD
  rw [show dgv xx n1 9 (pok pz ns) = 0 from if_neg (Bool.eq_false_iff.mp hg)]
  have hP : va_P G vwCl (wMod T r mm pp xx th sv n1 (nI pz) (nI pz) le v1 v2 v3 v4 v5) H := hP
  have hD : va_D A (wMod T r mm pp xx th sv n1 (nI pz) (nI pz) le v1 v2 v3 v4 v5) := hD
  refine lv_istore (lv' := [(4, .int 0), (3, .int (nI pz)), (0, .ref (r 0)), (1, .int (nI kz)), (2, .int lo)]) hx hb dX6_number_11 hl (by decide) rfl (fun ls hl => ?_)
  refine lv_iconst (v := 1) hx hb dX6_number_13 (by decide) ?_
  refine lv_istore (lv' := [(5, .int 1), (4, .int 0), (3, .int (nI pz)), (0, .ref (r 0)), (1, .int (nI kz)), (2, .int lo)]) hx hb dX6_number_14 hl (by decide) rfl (fun ls hl => ?_)
  refine lv_iload hx hb dX6_number_16 (lv_at hl 0 rfl) ?_
  refine lv_iload_n hx hb dX6_number_18 rfl (lv_at hl 4 rfl) ?_
  refine lv_icmp_ge (tgt := 80) hx hb dX6_number_19 (by decide) (fun c_1 => ?_) (fun c_1 => ?_)
  · replace c_1 := cn_le (a := kz) (b := 1) (by omega) (by omega) c_1
    refine lv_aload_n hx hb dX6_number_80 rfl (lv_at hl 3 rfl) ?_
    refine va_get (D := G) (ci := 6) (C := RX6) (T := TX6) (N := 14) hx hb hts iX6 hown hkx.1 hP 0 rfl rfl 7 (by decide) k154 (fun _ h9 => h9) rfl dX6_number_81 ?_
    refine lv_iconst (v := (-1)) hx hb dX6_number_84 (by decide) ?_
    refine lv_icmp_ne (tgt := 113) hx hb dX6_number_85 (by decide) (fun c_2 => ?_) (fun c_2 => ?_)
    · skip
      refine lv_iload hx hb dX6_number_113 (lv_at hl 1 rfl) ?_
      exact hret _ _ _ _ _ (show some (Value.int 0) = some (Value.int (nmv xx n1 kz (pok pz ns))) ∧ va_P G vwCl (wMod T r mm pp xx th sv n1 (nI (acO (pNm xx n1 kz lo (pok pz ns)))) (eaO (pNm xx n1 kz lo (pok pz ns))) le v1 v2 v3 v4 v5) H from ⟨by refine congrArg (fun z => some (Value.int z)) (?_ : _ = _); show 0 = vn xx pz (ru xx n1 kz pz); rw [ru_0 hg]; rfl, (by rw [nm_0 (ns := ns) (lo := lo) (ru_0 (k := kz) hg)]; exact hP)⟩) rfl hS dX6_number_115
    · skip
      exact absurd c_2 (nIm1 (by omega))
  · replace c_1 := cn_nle (a := kz) (b := 1) (by omega) (by omega) c_1
    refine lv_aload_n hx hb dX6_number_22 rfl (lv_at hl 3 rfl) ?_
    refine va_get (D := G) (ci := 6) (C := RX6) (T := TX6) (N := 14) hx hb hts iX6 hown hkx.1 hP 0 rfl rfl 7 (by decide) k154 (fun _ h9 => h9) rfl dX6_number_23 ?_
    refine lv_iconst (v := (-1)) hx hb dX6_number_26 (by decide) ?_
    refine lv_icmp_ne (tgt := 80) hx hb dX6_number_27 (by decide) (fun c_3 => ?_) (fun c_3 => ?_)
    · skip
      refine lv_aload_n hx hb dX6_number_80 rfl (lv_at hl 3 rfl) ?_
      refine va_get (D := G) (ci := 6) (C := RX6) (T := TX6) (N := 14) hx hb hts iX6 hown hkx.1 hP 0 rfl rfl 7 (by decide) k154 (fun _ h9 => h9) rfl dX6_number_81 ?_
      refine lv_iconst (v := (-1)) hx hb dX6_number_84 (by decide) ?_
      refine lv_icmp_ne (tgt := 113) hx hb dX6_number_85 (by decide) (fun c_4 => ?_) (fun c_4 => ?_)
      · skip
        refine lv_iload hx hb dX6_number_113 (lv_at hl 1 rfl) ?_
        exact hret _ _ _ _ _ (show some (Value.int 0) = some (Value.int (nmv xx n1 kz (pok pz ns))) ∧ va_P G vwCl (wMod T r mm pp xx th sv n1 (nI (acO (pNm xx n1 kz lo (pok pz ns)))) (eaO (pNm xx n1 kz lo (pok pz ns))) le v1 v2 v3 v4 v5) H from ⟨by refine congrArg (fun z => some (Value.int z)) (?_ : _ = _); show 0 = vn xx pz (ru xx n1 kz pz); rw [ru_0 hg]; rfl, (by rw [nm_0 (ns := ns) (lo := lo) (ru_0 (k := kz) hg)]; exact hP)⟩) rfl hS dX6_number_115
      · skip
        exact absurd c_4 (nIm1 (by omega))
    · skip
      exact absurd c_3 (nIm1 (by omega))

set_option maxHeartbeats 4000000 in
set_option maxRecDepth 100000 in
theorem mX6_number_er (l : Launch) {G : va_G} {T : Nat → ClassId} {H0 : Heap} {r : Nat → Nat} {mm : Nat → Int32} {pp : Nat → Int32} {xx : Nat → Int32} {th : Int32} {sv : Nat} {n1 : Nat} {le : Int32} {v1 : Int32} {v2 : Int32} {v3 : Int32} {v4 : Int32} {v5 : Int32} {qz : Nat} {az : Nat} {kz : Nat} {lo : Int32} (hP : va_P G vwCl (wMod T r mm pp xx th sv n1 (nI (acO (per qz az))) (eaO (per qz az)) le v1 v2 v3 v4 v5) H0) (hD : va_D (fun _ => True) (wMod T r mm pp xx th sv n1 (nI (acO (per qz az))) (eaO (per qz az)) le v1 v2 v3 v4 v5)) (hn1 : n1 ≤ 100) (hq : qz ≤ n1) (ha : az ≤ n1) (hk1 : 1 ≤ kz) (hk3 : kz ≤ 3) : mu l yX6_number wsX6_number 2 44 [.ref (r 0), .int (nI kz), .int lo] G T H0 (wMod T r mm pp xx th sv n1 (nI (acO (per qz az))) (eaO (per qz az)) le v1 v2 v3 v4 v5) (fun v9 H9 => v9 = some (.int (nmv xx n1 kz (per qz az))) ∧ va_P G vwCl (wMod T r mm pp xx th sv n1 (nI (acO (pNm xx n1 kz lo (per qz az)))) (eaO (pNm xx n1 kz lo (per qz az))) le v1 v2 v3 v4 v5) H9) := by
  refine mu_ofi (cc := cX6_number) (maxL := 6) (ret := .int) (own := RX6) (by decide +kernel) rfl rfl (Nat.le_of_ble_eq_true rfl) hD ?_
  intro p e s m below meth c Q ls A S hkx hl hD hS hA hret
  obtain ⟨hx, hb, hml, hown, hts⟩ := id S
  have hl : lv_has ls 6 [(0, .ref (r 0)), (1, .int (nI kz)), (2, .int lo)] := hl
  have k151 := hts (.fieldLink RX6 151 "SunsetDatesModel" "at0" "I") (by decide +kernel)
  have iX6 : ∀ w ∈ wsX60, w ∈ wsX6_number := by decide +kernel
  have k154 := hts (.fieldLink RX6 154 "SunsetDatesModel" "errorAt" "I") (by decide +kernel)
  refine lv_aload_n hx hb dX6_number_0 rfl (lv_at hl 0 rfl) ?_
  refine va_get (D := G) (ci := 6) (C := RX6) (T := TX6) (N := 14) hx hb hts iX6 hown hkx.1 hP 0 rfl rfl 6 (by decide) k151 (fun _ h9 => h9) rfl dX6_number_1 ?_
  refine lv_istore_n (lv' := [(3, .int (nI (acO (per qz az)))), (0, .ref (r 0)), (1, .int (nI kz)), (2, .int lo)]) hx hb dX6_number_4 rfl hl (by decide) rfl (fun ls hl => ?_)
  refine lv_aload_n hx hb dX6_number_5 rfl (lv_at hl 1 rfl) ?_
  refine lv_bipush (v := 9) hx hb dX6_number_6 (by decide) ?_
  refine mu_V S hkx (mX6_digit l (hP := hP) (hD := hD.weaken (fun _ _ _ _ => trivial)) (mm := mm) (pp := pp) (xx := xx) (th := th) (sv := sv) (n1 := n1) (le := le) (v1 := v1) (v2 := v2) (v3 := v3) (v4 := v4) (v5 := v5) (po := (per qz az)) (g := 9) (hn1 := hn1) (ho := (show wfo n1 (per qz az) from ⟨(by omega), (by omega)⟩)) (hnp := True.intro)) gX6_number_X6_digit rfl idX6_digit ⟨Nat.le_of_ble_eq_true rfl, Nat.le_of_ble_eq_true rfl⟩ hP 0 rfl rfl rfl rfl hl.1 rfl (Nat.le_of_ble_eq_true rfl) dX6_number_8 ⟨Nat.le_refl _, Nat.le_refl _⟩ hS (fr_in hD (fun q h => hA q (Nat.le_trans hS.1 h))) (fun v H locs hp9 hz1 hk1 hS => ?_)
  obtain ⟨rfl, hP⟩ := hp9
  have hP : va_P G vwCl (wMod T r mm pp xx th sv n1 (nI (acO (pDg xx n1 9 (per qz az)))) (eaO (pDg xx n1 9 (per qz az))) le v1 v2 v3 v4 v5) H := hP
  have hD : va_D A (wMod T r mm pp xx th sv n1 (nI (acO (pDg xx n1 9 (per qz az)))) (eaO (pDg xx n1 9 (per qz az))) le v1 v2 v3 v4 v5) := fr_all hD rfl
  refine W.eq (g2 := F0 m 11 ls [.int (dgv xx n1 9 (per qz az))]) rfl ?_
  have hP : va_P G vwCl (wMod T r mm pp xx th sv n1 (nI az) (nI qz) le v1 v2 v3 v4 v5) H := hP
  have hD : va_D A (wMod T r mm pp xx th sv n1 (nI az) (nI qz) le v1 v2 v3 v4 v5) := hD
  refine W.eq (g2 := F0 m 11 ls [.int 0]) rfl ?_
  refine lv_istore (lv' := [(4, .int 0), (3, .int (nI (acO (per qz az)))), (0, .ref (r 0)), (1, .int (nI kz)), (2, .int lo)]) hx hb dX6_number_11 hl (by decide) rfl (fun ls hl => ?_)
  refine lv_iconst (v := 1) hx hb dX6_number_13 (by decide) ?_
  refine lv_istore (lv' := [(5, .int 1), (4, .int 0), (3, .int (nI (acO (per qz az)))), (0, .ref (r 0)), (1, .int (nI kz)), (2, .int lo)]) hx hb dX6_number_14 hl (by decide) rfl (fun ls hl => ?_)
  refine lv_iload hx hb dX6_number_16 (lv_at hl 0 rfl) ?_
  refine lv_iload_n hx hb dX6_number_18 rfl (lv_at hl 4 rfl) ?_
  refine lv_icmp_ge (tgt := 80) hx hb dX6_number_19 (by decide) (fun c_1 => ?_) (fun c_1 => ?_)
  · replace c_1 := cn_le (a := kz) (b := 1) (by omega) (by omega) c_1
    refine lv_aload_n hx hb dX6_number_80 rfl (lv_at hl 3 rfl) ?_
    refine va_get (D := G) (ci := 6) (C := RX6) (T := TX6) (N := 14) hx hb hts iX6 hown hkx.1 hP 0 rfl rfl 7 (by decide) k154 (fun _ h9 => h9) rfl dX6_number_81 ?_
    refine lv_iconst (v := (-1)) hx hb dX6_number_84 (by decide) ?_
    refine lv_icmp_ne (tgt := 113) hx hb dX6_number_85 (by decide) (fun c_2 => ?_) (fun c_2 => ?_)
    · skip
      refine lv_iload hx hb dX6_number_113 (lv_at hl 1 rfl) ?_
      exact hret _ _ _ _ _ (show some (Value.int 0) = some (Value.int (nmv xx n1 kz (per qz az))) ∧ va_P G vwCl (wMod T r mm pp xx th sv n1 (nI (acO (pNm xx n1 kz lo (per qz az)))) (eaO (pNm xx n1 kz lo (per qz az))) le v1 v2 v3 v4 v5) H from ⟨rfl, hP⟩) rfl hS dX6_number_115
    · skip
      exact absurd c_2 (nIm1 (by omega))
  · replace c_1 := cn_nle (a := kz) (b := 1) (by omega) (by omega) c_1
    refine lv_aload_n hx hb dX6_number_22 rfl (lv_at hl 3 rfl) ?_
    refine va_get (D := G) (ci := 6) (C := RX6) (T := TX6) (N := 14) hx hb hts iX6 hown hkx.1 hP 0 rfl rfl 7 (by decide) k154 (fun _ h9 => h9) rfl dX6_number_23 ?_
    refine lv_iconst (v := (-1)) hx hb dX6_number_26 (by decide) ?_
    refine lv_icmp_ne (tgt := 80) hx hb dX6_number_27 (by decide) (fun c_3 => ?_) (fun c_3 => ?_)
    · skip
      refine lv_aload_n hx hb dX6_number_80 rfl (lv_at hl 3 rfl) ?_
      refine va_get (D := G) (ci := 6) (C := RX6) (T := TX6) (N := 14) hx hb hts iX6 hown hkx.1 hP 0 rfl rfl 7 (by decide) k154 (fun _ h9 => h9) rfl dX6_number_81 ?_
      refine lv_iconst (v := (-1)) hx hb dX6_number_84 (by decide) ?_
      refine lv_icmp_ne (tgt := 113) hx hb dX6_number_85 (by decide) (fun c_4 => ?_) (fun c_4 => ?_)
      · skip
        refine lv_iload hx hb dX6_number_113 (lv_at hl 1 rfl) ?_
        exact hret _ _ _ _ _ (show some (Value.int 0) = some (Value.int (nmv xx n1 kz (per qz az))) ∧ va_P G vwCl (wMod T r mm pp xx th sv n1 (nI (acO (pNm xx n1 kz lo (per qz az)))) (eaO (pNm xx n1 kz lo (per qz az))) le v1 v2 v3 v4 v5) H from ⟨rfl, hP⟩) rfl hS dX6_number_115
      · skip
        exact absurd c_4 (nIm1 (by omega))
    · skip
      exact absurd c_3 (nIm1 (by omega))

theorem mX6_number (l : Launch) {G : va_G} {T : Nat → ClassId} {H0 : Heap} {r : Nat → Nat} {mm : Nat → Int32} {pp : Nat → Int32} {xx : Nat → Int32} {th : Int32} {sv : Nat} {n1 : Nat} {le : Int32} {v1 : Int32} {v2 : Int32} {v3 : Int32} {v4 : Int32} {v5 : Int32} {po : PO} {kz : Nat} {lo : Int32} (hP : va_P G vwCl (wMod T r mm pp xx th sv n1 (nI (acO po)) (eaO po) le v1 v2 v3 v4 v5) H0) (hD : va_D (fun _ => True) (wMod T r mm pp xx th sv n1 (nI (acO po)) (eaO po) le v1 v2 v3 v4 v5)) (hn1 : n1 ≤ 100) (ho : wfo n1 po) (hnp : npe po) (hk1 : 1 ≤ kz) (hk3 : kz ≤ 3) : mu l yX6_number wsX6_number 2 44 [.ref (r 0), .int (nI kz), .int lo] G T H0 (wMod T r mm pp xx th sv n1 (nI (acO po)) (eaO po) le v1 v2 v3 v4 v5) (fun v9 H9 => v9 = some (.int (nmv xx n1 kz po)) ∧ va_P G vwCl (wMod T r mm pp xx th sv n1 (nI (acO (pNm xx n1 kz lo po))) (eaO (pNm xx n1 kz lo po)) le v1 v2 v3 v4 v5) H9) := by
  rcases po with ⟨p, ns⟩ | ⟨q, a⟩ | q
  · by_cases hg : isG xx n1 p 9 = true
    · exact mX6_number_ok1 l hP hD hn1 (show p ≤ n1 from ho) hg hk1 hk3
    · exact mX6_number_ok0 l hP hD hn1 (show p ≤ n1 from ho) (Bool.eq_false_iff.mpr hg) hk1 hk3
  · exact mX6_number_er l hP hD hn1 ho.1 ho.2 hk1 hk3
  · exact absurd hnp id
