theorem idX6_readOrder : yX6_readOrder.cls = RX6 ∧ yX6_readOrder.cls ≠ "java/lang/invoke/MethodHandle" ∧ yX6_readOrder.cls ≠ "java/lang/invoke/VarHandle" ∧ (parseMethodDescriptor yX6_readOrder.desc).map (fun d => d.parameters.length) = some 0 := by decide +kernel

set_option maxHeartbeats 4000000 in
set_option maxRecDepth 100000 in
theorem mX6_readOrder (l : Launch) {G : va_G} {T : Nat → ClassId} {H0 : Heap} {r : Nat → Nat} {mm : Nat → Int32} {pp : Nat → Int32} {xx : Nat → Int32} {th : Int32} {sv : Nat} {n1 : Nat} {le : Int32} {v1 : Int32} {v2 : Int32} {v3 : Int32} {v4 : Int32} {v5 : Int32} {pz : Nat} (hP : va_P G vwCl (wMod T r mm pp xx th sv n1 (nI (acO (pok pz []))) (eaO (pok pz [])) le v1 v2 v3 v4 v5) H0) (hD : va_D (fun _ => True) (wMod T r mm pp xx th sv n1 (nI (acO (pok pz []))) (eaO (pok pz [])) le v1 v2 v3 v4 v5)) (hn1 : n1 ≤ 100) (hp : pz < n1) (htx : ∀ i, i < n1 → ¬ xx i = -1) : mu l yX6_readOrder wsX6_readOrder 3 69 [.ref (r 0)] G T H0 (wMod T r mm pp xx th sv n1 (nI (acO (pok pz []))) (eaO (pok pz [])) le v1 v2 v3 v4 v5) (rdP G T r mm pp xx th sv n1 pz) := by
  refine mu_ofv (cc := cX6_readOrder) (maxL := 1) (own := RX6) (by decide +kernel) rfl rfl (Nat.le_of_ble_eq_true rfl) hD ?_
  intro p e s m below meth c Q ls A S hkx hl hD hS hA hret
  obtain ⟨hx, hb, hml, hown, hts⟩ := id S
  have hl : lv_has ls 1 [(0, .ref (r 0))] := hl
  have k163 := hts (.fieldLink RX6 163 "SunsetDatesModel" "letter" "I") (by decide +kernel)
  have iX6 : ∀ w ∈ wsX60, w ∈ wsX6_readOrder := by decide +kernel
  have k170 := hts (.fieldLink RX6 170 "SunsetDatesModel" "one" "I") (by decide +kernel)
  have k173 := hts (.fieldLink RX6 173 "SunsetDatesModel" "two" "I") (by decide +kernel)
  have k179 := hts (.fieldLink RX6 179 "SunsetDatesModel" "three" "I") (by decide +kernel)
  have k182 := hts (.fieldLink RX6 182 "SunsetDatesModel" "four" "I") (by decide +kernel)
  have k185 := hts (.fieldLink RX6 185 "SunsetDatesModel" "five" "I") (by decide +kernel)
  have k151 := hts (.fieldLink RX6 151 "SunsetDatesModel" "at0" "I") (by decide +kernel)
  have k154 := hts (.fieldLink RX6 154 "SunsetDatesModel" "errorAt" "I") (by decide +kernel)
  have hP : va_P G vwCl (wMod T r mm pp xx th sv n1 (nI pz) (-1) le v1 v2 v3 v4 v5) H0 := hP
  have hD : va_D A (wMod T r mm pp xx th sv n1 (nI pz) (-1) le v1 v2 v3 v4 v5) := hD
  refine lv_aload_n hx hb dX6_readOrder_0 rfl (lv_at hl 0 rfl) ?_
  refine lv_aload_n hx hb dX6_readOrder_1 rfl (lv_at hl 0 rfl) ?_
  refine ro_V S hkx (mX6_here l (hP := hP) (hn1 := (by omega)) (hq := (by omega))) gX6_readOrder_X6_here rfl idX6_here ⟨Nat.le_of_ble_eq_true rfl, Nat.le_of_ble_eq_true rfl⟩ hP 0 rfl rfl rfl rfl hl.1 rfl (Nat.le_of_ble_eq_true rfl) dX6_readOrder_2 ⟨Nat.le_of_ble_eq_true rfl, Nat.le_of_ble_eq_true rfl⟩ (fun r_1 hr_1 => ?_)
  subst hr_1
  rw [show chr xx n1 pz = xx pz from if_pos hp]
  refine va_put (D := G) (ci := 6) (v := .int (xx pz)) (ty := .int) (C := RX6) (T := TX6) (N := 14) hx hb hts iX6 tyX6 tyX6_ok nmX6 hown hkx.1 hP hD hS 0 rfl rfl 8 (by decide) k163 (fun _ h9 => h9) rfl (by decide +kernel) rfl rfl (Nat.le_of_ble_eq_true rfl) dX6_readOrder_5 (fun H locs hP hD hS => ?_)
  have hP : va_P G vwCl (wMod T r mm pp xx th sv n1 (nI pz) (-1) (xx pz) v1 v2 v3 v4 v5) H := hP
  have hD : va_D A (wMod T r mm pp xx th sv n1 (nI pz) (-1) (xx pz) v1 v2 v3 v4 v5) := hD
  refine lv_aload_n hx hb dX6_readOrder_8 rfl (lv_at hl 0 rfl) ?_
  refine va_get (D := G) (ci := 6) (C := RX6) (T := TX6) (N := 14) hx hb hts iX6 hown hkx.1 hP 0 rfl rfl 8 (by decide) k163 (fun _ h9 => h9) rfl dX6_readOrder_9 ?_
  refine lv_bipush (v := 112) hx hb dX6_readOrder_12 (by decide) ?_
  refine lv_icmp_eq (tgt := 61) hx hb dX6_readOrder_14 (by decide) (fun c_2 => ?_) (fun c_2 => ?_)
  · skip
    have hP : va_P G vwCl (wMod T r mm pp xx th sv n1 (nI (acO (pok pz []))) (eaO (pok pz [])) (xx pz) v1 v2 v3 v4 v5) H := hP
    have hD : va_D A (wMod T r mm pp xx th sv n1 (nI (acO (pok pz []))) (eaO (pok pz [])) (xx pz) v1 v2 v3 v4 v5) := hD
    refine lv_aload_n hx hb dX6_readOrder_61 rfl (lv_at hl 0 rfl) ?_
    refine lv_aload_n hx hb dX6_readOrder_62 rfl (lv_at hl 0 rfl) ?_
    refine va_get (D := G) (ci := 6) (C := RX6) (T := TX6) (N := 14) hx hb hts iX6 hown hkx.1 hP 0 rfl rfl 8 (by decide) k163 (fun _ h9 => h9) rfl dX6_readOrder_63 ?_
    refine mu_V S hkx (mX6_sign l (hP := hP) (hD := hD.weaken (fun _ _ _ _ => trivial)) (mm := mm) (pp := pp) (xx := xx) (th := th) (sv := sv) (n1 := n1) (le := (xx pz)) (v1 := v1) (v2 := v2) (v3 := v3) (v4 := v4) (v5 := v5) (po := (pok pz [])) (sz := (xx pz)) (hn1 := hn1) (ho := (show wfo n1 (pok pz []) from (by show pz ≤ n1; omega))) (hs := (htx pz hp))) gX6_readOrder_X6_sign rfl idX6_sign ⟨Nat.le_of_ble_eq_true rfl, Nat.le_of_ble_eq_true rfl⟩ hP 0 rfl rfl rfl rfl hl.1 rfl (Nat.le_of_ble_eq_true rfl) dX6_readOrder_66 ⟨Nat.le_refl _, Nat.le_refl _⟩ hS (fr_in hD (fun q h => hA q (Nat.le_trans hS.1 h))) (fun v H locs hp9 hz1 hk1 hS => ?_)
    obtain ⟨rfl, hP⟩ := hp9
    have hP : va_P G vwCl (wMod T r mm pp xx th sv n1 (nI (acO (pSg xx n1 (xx pz) (pok pz [])))) (eaO (pSg xx n1 (xx pz) (pok pz []))) (xx pz) v1 v2 v3 v4 v5) H := hP
    have hD : va_D A (wMod T r mm pp xx th sv n1 (nI (acO (pSg xx n1 (xx pz) (pok pz [])))) (eaO (pSg xx n1 (xx pz) (pok pz []))) (xx pz) v1 v2 v3 v4 v5) := fr_all hD rfl
    refine W.eq (g2 := F0 m 69 ls []) rfl ?_
    refine lv_aload_n hx hb dX6_readOrder_69 rfl (lv_at hl 0 rfl) ?_
    refine va_get (D := G) (ci := 6) (C := RX6) (T := TX6) (N := 14) hx hb hts iX6 hown hkx.1 hP 0 rfl rfl 8 (by decide) k163 (fun _ h9 => h9) rfl dX6_readOrder_70 ?_
    refine lv_bipush (v := 112) hx hb dX6_readOrder_73 (by decide) ?_
    refine lv_icmp_ne (tgt := 117) hx hb dX6_readOrder_75 (by decide) (fun c_3 => ?_) (fun c_3 => ?_)
    · skip
      exact absurd c_2 c_3
    · skip
      refine lv_aload_n hx hb dX6_readOrder_78 rfl (lv_at hl 0 rfl) ?_
      refine lv_aload_n hx hb dX6_readOrder_79 rfl (lv_at hl 0 rfl) ?_
      refine lv_bipush (v := 9) hx hb dX6_readOrder_80 (by decide) ?_
      refine mu_V S hkx (mX6_digit l (hP := hP) (hD := hD.weaken (fun _ _ _ _ => trivial)) (mm := mm) (pp := pp) (xx := xx) (th := th) (sv := sv) (n1 := n1) (le := (xx pz)) (v1 := v1) (v2 := v2) (v3 := v3) (v4 := v4) (v5 := v5) (po := (pSg xx n1 (xx pz) (pok pz []))) (g := 9) (hn1 := hn1) (ho := (wfo_sg (htx pz hp) (show wfo n1 (pok pz []) from (by show pz ≤ n1; omega)))) (hnp := (npe_sg _ _ _ _))) gX6_readOrder_X6_digit rfl idX6_digit ⟨Nat.le_of_ble_eq_true rfl, Nat.le_of_ble_eq_true rfl⟩ hP 0 rfl rfl rfl rfl hl.1 rfl (Nat.le_of_ble_eq_true rfl) dX6_readOrder_82 ⟨Nat.le_refl _, Nat.le_refl _⟩ hS (fr_in hD (fun q h => hA q (Nat.le_trans hS.1 h))) (fun v H locs hp9 hz1 hk1 hS => ?_)
      obtain ⟨rfl, hP⟩ := hp9
      have hP : va_P G vwCl (wMod T r mm pp xx th sv n1 (nI (acO (pDg xx n1 9 (pSg xx n1 (xx pz) (pok pz []))))) (eaO (pDg xx n1 9 (pSg xx n1 (xx pz) (pok pz [])))) (xx pz) v1 v2 v3 v4 v5) H := hP
      have hD : va_D A (wMod T r mm pp xx th sv n1 (nI (acO (pDg xx n1 9 (pSg xx n1 (xx pz) (pok pz []))))) (eaO (pDg xx n1 9 (pSg xx n1 (xx pz) (pok pz [])))) (xx pz) v1 v2 v3 v4 v5) := fr_all hD rfl
      refine W.eq (g2 := F0 m 85 ls [.int (dgv xx n1 9 (pSg xx n1 (xx pz) (pok pz []))), .ref (r 0)]) rfl ?_
      refine va_put (D := G) (ci := 6) (v := .int (dgv xx n1 9 (pSg xx n1 (xx pz) (pok pz [])))) (ty := .int) (C := RX6) (T := TX6) (N := 14) hx hb hts iX6 tyX6 tyX6_ok nmX6 hown hkx.1 hP hD hS 0 rfl rfl 9 (by decide) k170 (fun _ h9 => h9) rfl (by decide +kernel) rfl rfl (Nat.le_of_ble_eq_true rfl) dX6_readOrder_85 (fun H locs hP hD hS => ?_)
      have hP : va_P G vwCl (wMod T r mm pp xx th sv n1 (nI (acO (pDg xx n1 9 (pSg xx n1 (xx pz) (pok pz []))))) (eaO (pDg xx n1 9 (pSg xx n1 (xx pz) (pok pz [])))) (xx pz) (dgv xx n1 9 (pSg xx n1 (xx pz) (pok pz []))) v2 v3 v4 v5) H := hP
      have hD : va_D A (wMod T r mm pp xx th sv n1 (nI (acO (pDg xx n1 9 (pSg xx n1 (xx pz) (pok pz []))))) (eaO (pDg xx n1 9 (pSg xx n1 (xx pz) (pok pz [])))) (xx pz) (dgv xx n1 9 (pSg xx n1 (xx pz) (pok pz []))) v2 v3 v4 v5) := hD
      refine lv_aload_n hx hb dX6_readOrder_88 rfl (lv_at hl 0 rfl) ?_
      refine lv_aload_n hx hb dX6_readOrder_89 rfl (lv_at hl 0 rfl) ?_
      refine lv_bipush (v := 7) hx hb dX6_readOrder_90 (by decide) ?_
      refine mu_V S hkx (mX6_digit l (hP := hP) (hD := hD.weaken (fun _ _ _ _ => trivial)) (mm := mm) (pp := pp) (xx := xx) (th := th) (sv := sv) (n1 := n1) (le := (xx pz)) (v1 := (dgv xx n1 9 (pSg xx n1 (xx pz) (pok pz [])))) (v2 := v2) (v3 := v3) (v4 := v4) (v5 := v5) (po := (pDg xx n1 9 (pSg xx n1 (xx pz) (pok pz [])))) (g := 7) (hn1 := hn1) (ho := (wfo_dg (wfo_sg (htx pz hp) (show wfo n1 (pok pz []) from (by show pz ≤ n1; omega))))) (hnp := (npe_dg _ _ _ _))) gX6_readOrder_X6_digit rfl idX6_digit ⟨Nat.le_of_ble_eq_true rfl, Nat.le_of_ble_eq_true rfl⟩ hP 0 rfl rfl rfl rfl hl.1 rfl (Nat.le_of_ble_eq_true rfl) dX6_readOrder_92 ⟨Nat.le_refl _, Nat.le_refl _⟩ hS (fr_in hD (fun q h => hA q (Nat.le_trans hS.1 h))) (fun v H locs hp9 hz1 hk1 hS => ?_)
      obtain ⟨rfl, hP⟩ := hp9
      have hP : va_P G vwCl (wMod T r mm pp xx th sv n1 (nI (acO (pDg xx n1 7 (pDg xx n1 9 (pSg xx n1 (xx pz) (pok pz [])))))) (eaO (pDg xx n1 7 (pDg xx n1 9 (pSg xx n1 (xx pz) (pok pz []))))) (xx pz) (dgv xx n1 9 (pSg xx n1 (xx pz) (pok pz []))) v2 v3 v4 v5) H := hP
      have hD : va_D A (wMod T r mm pp xx th sv n1 (nI (acO (pDg xx n1 7 (pDg xx n1 9 (pSg xx n1 (xx pz) (pok pz [])))))) (eaO (pDg xx n1 7 (pDg xx n1 9 (pSg xx n1 (xx pz) (pok pz []))))) (xx pz) (dgv xx n1 9 (pSg xx n1 (xx pz) (pok pz []))) v2 v3 v4 v5) := fr_all hD rfl
      refine W.eq (g2 := F0 m 95 ls [.int (dgv xx n1 7 (pDg xx n1 9 (pSg xx n1 (xx pz) (pok pz [])))), .ref (r 0)]) rfl ?_
      refine va_put (D := G) (ci := 6) (v := .int (dgv xx n1 7 (pDg xx n1 9 (pSg xx n1 (xx pz) (pok pz []))))) (ty := .int) (C := RX6) (T := TX6) (N := 14) hx hb hts iX6 tyX6 tyX6_ok nmX6 hown hkx.1 hP hD hS 0 rfl rfl 10 (by decide) k173 (fun _ h9 => h9) rfl (by decide +kernel) rfl rfl (Nat.le_of_ble_eq_true rfl) dX6_readOrder_95 (fun H locs hP hD hS => ?_)
      have hP : va_P G vwCl (wMod T r mm pp xx th sv n1 (nI (acO (pDg xx n1 7 (pDg xx n1 9 (pSg xx n1 (xx pz) (pok pz [])))))) (eaO (pDg xx n1 7 (pDg xx n1 9 (pSg xx n1 (xx pz) (pok pz []))))) (xx pz) (dgv xx n1 9 (pSg xx n1 (xx pz) (pok pz []))) (dgv xx n1 7 (pDg xx n1 9 (pSg xx n1 (xx pz) (pok pz [])))) v3 v4 v5) H := hP
      have hD : va_D A (wMod T r mm pp xx th sv n1 (nI (acO (pDg xx n1 7 (pDg xx n1 9 (pSg xx n1 (xx pz) (pok pz [])))))) (eaO (pDg xx n1 7 (pDg xx n1 9 (pSg xx n1 (xx pz) (pok pz []))))) (xx pz) (dgv xx n1 9 (pSg xx n1 (xx pz) (pok pz []))) (dgv xx n1 7 (pDg xx n1 9 (pSg xx n1 (xx pz) (pok pz [])))) v3 v4 v5) := hD
      refine lv_aload_n hx hb dX6_readOrder_98 rfl (lv_at hl 0 rfl) ?_
      refine lv_bipush (v := 64) hx hb dX6_readOrder_99 (by decide) ?_
      refine mu_V S hkx (mX6_sign l (hP := hP) (hD := hD.weaken (fun _ _ _ _ => trivial)) (mm := mm) (pp := pp) (xx := xx) (th := th) (sv := sv) (n1 := n1) (le := (xx pz)) (v1 := (dgv xx n1 9 (pSg xx n1 (xx pz) (pok pz [])))) (v2 := (dgv xx n1 7 (pDg xx n1 9 (pSg xx n1 (xx pz) (pok pz []))))) (v3 := v3) (v4 := v4) (v5 := v5) (po := (pDg xx n1 7 (pDg xx n1 9 (pSg xx n1 (xx pz) (pok pz []))))) (sz := 64) (hn1 := hn1) (ho := (wfo_dg (wfo_dg (wfo_sg (htx pz hp) (show wfo n1 (pok pz []) from (by show pz ≤ n1; omega)))))) (hs := (by decide))) gX6_readOrder_X6_sign rfl idX6_sign ⟨Nat.le_of_ble_eq_true rfl, Nat.le_of_ble_eq_true rfl⟩ hP 0 rfl rfl rfl rfl hl.1 rfl (Nat.le_of_ble_eq_true rfl) dX6_readOrder_101 ⟨Nat.le_refl _, Nat.le_refl _⟩ hS (fr_in hD (fun q h => hA q (Nat.le_trans hS.1 h))) (fun v H locs hp9 hz1 hk1 hS => ?_)
      obtain ⟨rfl, hP⟩ := hp9
      have hP : va_P G vwCl (wMod T r mm pp xx th sv n1 (nI (acO (pSg xx n1 64 (pDg xx n1 7 (pDg xx n1 9 (pSg xx n1 (xx pz) (pok pz []))))))) (eaO (pSg xx n1 64 (pDg xx n1 7 (pDg xx n1 9 (pSg xx n1 (xx pz) (pok pz [])))))) (xx pz) (dgv xx n1 9 (pSg xx n1 (xx pz) (pok pz []))) (dgv xx n1 7 (pDg xx n1 9 (pSg xx n1 (xx pz) (pok pz [])))) v3 v4 v5) H := hP
      have hD : va_D A (wMod T r mm pp xx th sv n1 (nI (acO (pSg xx n1 64 (pDg xx n1 7 (pDg xx n1 9 (pSg xx n1 (xx pz) (pok pz []))))))) (eaO (pSg xx n1 64 (pDg xx n1 7 (pDg xx n1 9 (pSg xx n1 (xx pz) (pok pz [])))))) (xx pz) (dgv xx n1 9 (pSg xx n1 (xx pz) (pok pz []))) (dgv xx n1 7 (pDg xx n1 9 (pSg xx n1 (xx pz) (pok pz [])))) v3 v4 v5) := fr_all hD rfl
      refine W.eq (g2 := F0 m 104 ls []) rfl ?_
      refine lv_aload_n hx hb dX6_readOrder_104 rfl (lv_at hl 0 rfl) ?_
      refine lv_aload_n hx hb dX6_readOrder_105 rfl (lv_at hl 0 rfl) ?_
      refine lv_iconst (v := 3) hx hb dX6_readOrder_106 (by decide) ?_
      refine lv_iconst (v := 0) hx hb dX6_readOrder_107 (by decide) ?_
      refine mu_V S hkx (mX6_number l (hP := hP) (hD := hD.weaken (fun _ _ _ _ => trivial)) (mm := mm) (pp := pp) (xx := xx) (th := th) (sv := sv) (n1 := n1) (le := (xx pz)) (v1 := (dgv xx n1 9 (pSg xx n1 (xx pz) (pok pz [])))) (v2 := (dgv xx n1 7 (pDg xx n1 9 (pSg xx n1 (xx pz) (pok pz []))))) (v3 := v3) (v4 := v4) (v5 := v5) (po := (pSg xx n1 64 (pDg xx n1 7 (pDg xx n1 9 (pSg xx n1 (xx pz) (pok pz [])))))) (kz := 3) (lo := 0) (hn1 := hn1) (ho := (wfo_sg (by decide) (wfo_dg (wfo_dg (wfo_sg (htx pz hp) (show wfo n1 (pok pz []) from (by show pz ≤ n1; omega))))))) (hnp := (npe_sg _ _ _ _)) (hk1 := (by omega)) (hk3 := (by omega))) gX6_readOrder_X6_number rfl idX6_number ⟨Nat.le_of_ble_eq_true rfl, Nat.le_of_ble_eq_true rfl⟩ hP 0 rfl rfl rfl rfl hl.1 rfl (Nat.le_of_ble_eq_true rfl) dX6_readOrder_108 ⟨Nat.le_refl _, Nat.le_refl _⟩ hS (fr_in hD (fun q h => hA q (Nat.le_trans hS.1 h))) (fun v H locs hp9 hz1 hk1 hS => ?_)
      obtain ⟨rfl, hP⟩ := hp9
      have hP : va_P G vwCl (wMod T r mm pp xx th sv n1 (nI (acO (pNm xx n1 3 0 (pSg xx n1 64 (pDg xx n1 7 (pDg xx n1 9 (pSg xx n1 (xx pz) (pok pz [])))))))) (eaO (pNm xx n1 3 0 (pSg xx n1 64 (pDg xx n1 7 (pDg xx n1 9 (pSg xx n1 (xx pz) (pok pz []))))))) (xx pz) (dgv xx n1 9 (pSg xx n1 (xx pz) (pok pz []))) (dgv xx n1 7 (pDg xx n1 9 (pSg xx n1 (xx pz) (pok pz [])))) v3 v4 v5) H := hP
      have hD : va_D A (wMod T r mm pp xx th sv n1 (nI (acO (pNm xx n1 3 0 (pSg xx n1 64 (pDg xx n1 7 (pDg xx n1 9 (pSg xx n1 (xx pz) (pok pz [])))))))) (eaO (pNm xx n1 3 0 (pSg xx n1 64 (pDg xx n1 7 (pDg xx n1 9 (pSg xx n1 (xx pz) (pok pz []))))))) (xx pz) (dgv xx n1 9 (pSg xx n1 (xx pz) (pok pz []))) (dgv xx n1 7 (pDg xx n1 9 (pSg xx n1 (xx pz) (pok pz [])))) v3 v4 v5) := fr_all hD rfl
      refine W.eq (g2 := F0 m 111 ls [.int (nmv xx n1 3 (pSg xx n1 64 (pDg xx n1 7 (pDg xx n1 9 (pSg xx n1 (xx pz) (pok pz [])))))), .ref (r 0)]) rfl ?_
      refine va_put (D := G) (ci := 6) (v := .int (nmv xx n1 3 (pSg xx n1 64 (pDg xx n1 7 (pDg xx n1 9 (pSg xx n1 (xx pz) (pok pz []))))))) (ty := .int) (C := RX6) (T := TX6) (N := 14) hx hb hts iX6 tyX6 tyX6_ok nmX6 hown hkx.1 hP hD hS 0 rfl rfl 11 (by decide) k179 (fun _ h9 => h9) rfl (by decide +kernel) rfl rfl (Nat.le_of_ble_eq_true rfl) dX6_readOrder_111 (fun H locs hP hD hS => ?_)
      have hP : va_P G vwCl (wMod T r mm pp xx th sv n1 (nI (acO (pNm xx n1 3 0 (pSg xx n1 64 (pDg xx n1 7 (pDg xx n1 9 (pSg xx n1 (xx pz) (pok pz [])))))))) (eaO (pNm xx n1 3 0 (pSg xx n1 64 (pDg xx n1 7 (pDg xx n1 9 (pSg xx n1 (xx pz) (pok pz []))))))) (xx pz) (dgv xx n1 9 (pSg xx n1 (xx pz) (pok pz []))) (dgv xx n1 7 (pDg xx n1 9 (pSg xx n1 (xx pz) (pok pz [])))) (nmv xx n1 3 (pSg xx n1 64 (pDg xx n1 7 (pDg xx n1 9 (pSg xx n1 (xx pz) (pok pz [])))))) v4 v5) H := hP
      have hD : va_D A (wMod T r mm pp xx th sv n1 (nI (acO (pNm xx n1 3 0 (pSg xx n1 64 (pDg xx n1 7 (pDg xx n1 9 (pSg xx n1 (xx pz) (pok pz [])))))))) (eaO (pNm xx n1 3 0 (pSg xx n1 64 (pDg xx n1 7 (pDg xx n1 9 (pSg xx n1 (xx pz) (pok pz []))))))) (xx pz) (dgv xx n1 9 (pSg xx n1 (xx pz) (pok pz []))) (dgv xx n1 7 (pDg xx n1 9 (pSg xx n1 (xx pz) (pok pz [])))) (nmv xx n1 3 (pSg xx n1 64 (pDg xx n1 7 (pDg xx n1 9 (pSg xx n1 (xx pz) (pok pz [])))))) v4 v5) := hD
      refine lv_goto (tgt := 277) hx hb dX6_readOrder_114 (by decide) ?_
      refine lv_aload_n hx hb dX6_readOrder_277 rfl (lv_at hl 0 rfl) ?_
      refine lv_bipush (v := 59) hx hb dX6_readOrder_278 (by decide) ?_
      refine mu_V S hkx (mX6_sign l (hP := hP) (hD := hD.weaken (fun _ _ _ _ => trivial)) (mm := mm) (pp := pp) (xx := xx) (th := th) (sv := sv) (n1 := n1) (le := (xx pz)) (v1 := (dgv xx n1 9 (pSg xx n1 (xx pz) (pok pz [])))) (v2 := (dgv xx n1 7 (pDg xx n1 9 (pSg xx n1 (xx pz) (pok pz []))))) (v3 := (nmv xx n1 3 (pSg xx n1 64 (pDg xx n1 7 (pDg xx n1 9 (pSg xx n1 (xx pz) (pok pz []))))))) (v4 := v4) (v5 := v5) (po := (pNm xx n1 3 0 (pSg xx n1 64 (pDg xx n1 7 (pDg xx n1 9 (pSg xx n1 (xx pz) (pok pz []))))))) (sz := 59) (hn1 := hn1) (ho := (wfo_nm (wfo_sg (by decide) (wfo_dg (wfo_dg (wfo_sg (htx pz hp) (show wfo n1 (pok pz []) from (by show pz ≤ n1; omega)))))))) (hs := (by decide))) gX6_readOrder_X6_sign rfl idX6_sign ⟨Nat.le_of_ble_eq_true rfl, Nat.le_of_ble_eq_true rfl⟩ hP 0 rfl rfl rfl rfl hl.1 rfl (Nat.le_of_ble_eq_true rfl) dX6_readOrder_280 ⟨Nat.le_refl _, Nat.le_refl _⟩ hS (fr_in hD (fun q h => hA q (Nat.le_trans hS.1 h))) (fun v H locs hp9 hz1 hk1 hS => ?_)
      obtain ⟨rfl, hP⟩ := hp9
      have hP : va_P G vwCl (wMod T r mm pp xx th sv n1 (nI (acO (pSg xx n1 59 (pNm xx n1 3 0 (pSg xx n1 64 (pDg xx n1 7 (pDg xx n1 9 (pSg xx n1 (xx pz) (pok pz []))))))))) (eaO (pSg xx n1 59 (pNm xx n1 3 0 (pSg xx n1 64 (pDg xx n1 7 (pDg xx n1 9 (pSg xx n1 (xx pz) (pok pz [])))))))) (xx pz) (dgv xx n1 9 (pSg xx n1 (xx pz) (pok pz []))) (dgv xx n1 7 (pDg xx n1 9 (pSg xx n1 (xx pz) (pok pz [])))) (nmv xx n1 3 (pSg xx n1 64 (pDg xx n1 7 (pDg xx n1 9 (pSg xx n1 (xx pz) (pok pz [])))))) v4 v5) H := hP
      have hD : va_D A (wMod T r mm pp xx th sv n1 (nI (acO (pSg xx n1 59 (pNm xx n1 3 0 (pSg xx n1 64 (pDg xx n1 7 (pDg xx n1 9 (pSg xx n1 (xx pz) (pok pz []))))))))) (eaO (pSg xx n1 59 (pNm xx n1 3 0 (pSg xx n1 64 (pDg xx n1 7 (pDg xx n1 9 (pSg xx n1 (xx pz) (pok pz [])))))))) (xx pz) (dgv xx n1 9 (pSg xx n1 (xx pz) (pok pz []))) (dgv xx n1 7 (pDg xx n1 9 (pSg xx n1 (xx pz) (pok pz [])))) (nmv xx n1 3 (pSg xx n1 64 (pDg xx n1 7 (pDg xx n1 9 (pSg xx n1 (xx pz) (pok pz [])))))) v4 v5) := fr_all hD rfl
      refine W.eq (g2 := F0 m 283 ls []) rfl ?_
      have e9 : prs1 xx n1 pz = (pSg xx n1 59 (pNm xx n1 3 0 (pSg xx n1 64 (pDg xx n1 7 (pDg xx n1 9 (pSg xx n1 (xx pz) (pok pz []))))))) := by unfold prs1; rw [if_pos c_2]
      exact hret _ _ _ _ (show rdP G T r mm pp xx th sv n1 pz none H from ⟨rfl, (dgv xx n1 9 (pSg xx n1 (xx pz) (pok pz []))), (dgv xx n1 7 (pDg xx n1 9 (pSg xx n1 (xx pz) (pok pz [])))), (nmv xx n1 3 (pSg xx n1 64 (pDg xx n1 7 (pDg xx n1 9 (pSg xx n1 (xx pz) (pok pz [])))))), v4, v5, fun q9 ns9 h9 => nms_of (Or.inl ⟨c_2, nms_p (e9.symm.trans h9)⟩), by rw [e9]; exact hP⟩) hS dX6_readOrder_283
  · skip
    refine lv_aload_n hx hb dX6_readOrder_17 rfl (lv_at hl 0 rfl) ?_
    refine va_get (D := G) (ci := 6) (C := RX6) (T := TX6) (N := 14) hx hb hts iX6 hown hkx.1 hP 0 rfl rfl 8 (by decide) k163 (fun _ h9 => h9) rfl dX6_readOrder_18 ?_
    refine lv_bipush (v := 108) hx hb dX6_readOrder_21 (by decide) ?_
    refine lv_icmp_eq (tgt := 61) hx hb dX6_readOrder_23 (by decide) (fun c_4 => ?_) (fun c_4 => ?_)
    · skip
      have hP : va_P G vwCl (wMod T r mm pp xx th sv n1 (nI (acO (pok pz []))) (eaO (pok pz [])) (xx pz) v1 v2 v3 v4 v5) H := hP
      have hD : va_D A (wMod T r mm pp xx th sv n1 (nI (acO (pok pz []))) (eaO (pok pz [])) (xx pz) v1 v2 v3 v4 v5) := hD
      refine lv_aload_n hx hb dX6_readOrder_61 rfl (lv_at hl 0 rfl) ?_
      refine lv_aload_n hx hb dX6_readOrder_62 rfl (lv_at hl 0 rfl) ?_
      refine va_get (D := G) (ci := 6) (C := RX6) (T := TX6) (N := 14) hx hb hts iX6 hown hkx.1 hP 0 rfl rfl 8 (by decide) k163 (fun _ h9 => h9) rfl dX6_readOrder_63 ?_
      refine mu_V S hkx (mX6_sign l (hP := hP) (hD := hD.weaken (fun _ _ _ _ => trivial)) (mm := mm) (pp := pp) (xx := xx) (th := th) (sv := sv) (n1 := n1) (le := (xx pz)) (v1 := v1) (v2 := v2) (v3 := v3) (v4 := v4) (v5 := v5) (po := (pok pz [])) (sz := (xx pz)) (hn1 := hn1) (ho := (show wfo n1 (pok pz []) from (by show pz ≤ n1; omega))) (hs := (htx pz hp))) gX6_readOrder_X6_sign rfl idX6_sign ⟨Nat.le_of_ble_eq_true rfl, Nat.le_of_ble_eq_true rfl⟩ hP 0 rfl rfl rfl rfl hl.1 rfl (Nat.le_of_ble_eq_true rfl) dX6_readOrder_66 ⟨Nat.le_refl _, Nat.le_refl _⟩ hS (fr_in hD (fun q h => hA q (Nat.le_trans hS.1 h))) (fun v H locs hp9 hz1 hk1 hS => ?_)
      obtain ⟨rfl, hP⟩ := hp9
      have hP : va_P G vwCl (wMod T r mm pp xx th sv n1 (nI (acO (pSg xx n1 (xx pz) (pok pz [])))) (eaO (pSg xx n1 (xx pz) (pok pz []))) (xx pz) v1 v2 v3 v4 v5) H := hP
      have hD : va_D A (wMod T r mm pp xx th sv n1 (nI (acO (pSg xx n1 (xx pz) (pok pz [])))) (eaO (pSg xx n1 (xx pz) (pok pz []))) (xx pz) v1 v2 v3 v4 v5) := fr_all hD rfl
      refine W.eq (g2 := F0 m 69 ls []) rfl ?_
      refine lv_aload_n hx hb dX6_readOrder_69 rfl (lv_at hl 0 rfl) ?_
      refine va_get (D := G) (ci := 6) (C := RX6) (T := TX6) (N := 14) hx hb hts iX6 hown hkx.1 hP 0 rfl rfl 8 (by decide) k163 (fun _ h9 => h9) rfl dX6_readOrder_70 ?_
      refine lv_bipush (v := 112) hx hb dX6_readOrder_73 (by decide) ?_
      refine lv_icmp_ne (tgt := 117) hx hb dX6_readOrder_75 (by decide) (fun c_5 => ?_) (fun c_5 => ?_)
      · skip
        refine lv_aload_n hx hb dX6_readOrder_117 rfl (lv_at hl 0 rfl) ?_
        refine va_get (D := G) (ci := 6) (C := RX6) (T := TX6) (N := 14) hx hb hts iX6 hown hkx.1 hP 0 rfl rfl 8 (by decide) k163 (fun _ h9 => h9) rfl dX6_readOrder_118 ?_
        refine lv_bipush (v := 108) hx hb dX6_readOrder_121 (by decide) ?_
        refine lv_icmp_eq (tgt := 135) hx hb dX6_readOrder_123 (by decide) (fun c_6 => ?_) (fun c_6 => ?_)
        · skip
          refine lv_aload_n hx hb dX6_readOrder_135 rfl (lv_at hl 0 rfl) ?_
          refine lv_aload_n hx hb dX6_readOrder_136 rfl (lv_at hl 0 rfl) ?_
          refine lv_aload_n hx hb dX6_readOrder_137 rfl (lv_at hl 0 rfl) ?_
          refine va_get (D := G) (ci := 6) (C := RX6) (T := TX6) (N := 14) hx hb hts iX6 hown hkx.1 hP 0 rfl rfl 8 (by decide) k163 (fun _ h9 => h9) rfl dX6_readOrder_138 ?_
          refine lv_bipush (v := 108) hx hb dX6_readOrder_141 (by decide) ?_
          refine lv_icmp_ne (tgt := 151) hx hb dX6_readOrder_143 (by decide) (fun c_7 => ?_) (fun c_7 => ?_)
          · skip
            exact absurd c_4 c_7
          · skip
            refine lv_bipush (v := 9) hx hb dX6_readOrder_146 (by decide) ?_
            refine lv_goto (tgt := 153) hx hb dX6_readOrder_148 (by decide) ?_
            refine mu_V S hkx (mX6_digit l (hP := hP) (hD := hD.weaken (fun _ _ _ _ => trivial)) (mm := mm) (pp := pp) (xx := xx) (th := th) (sv := sv) (n1 := n1) (le := (xx pz)) (v1 := v1) (v2 := v2) (v3 := v3) (v4 := v4) (v5 := v5) (po := (pSg xx n1 (xx pz) (pok pz []))) (g := 9) (hn1 := hn1) (ho := (wfo_sg (htx pz hp) (show wfo n1 (pok pz []) from (by show pz ≤ n1; omega)))) (hnp := (npe_sg _ _ _ _))) gX6_readOrder_X6_digit rfl idX6_digit ⟨Nat.le_of_ble_eq_true rfl, Nat.le_of_ble_eq_true rfl⟩ hP 0 rfl rfl rfl rfl hl.1 rfl (Nat.le_of_ble_eq_true rfl) dX6_readOrder_153 ⟨Nat.le_refl _, Nat.le_refl _⟩ hS (fr_in hD (fun q h => hA q (Nat.le_trans hS.1 h))) (fun v H locs hp9 hz1 hk1 hS => ?_)
            obtain ⟨rfl, hP⟩ := hp9
            have hP : va_P G vwCl (wMod T r mm pp xx th sv n1 (nI (acO (pDg xx n1 9 (pSg xx n1 (xx pz) (pok pz []))))) (eaO (pDg xx n1 9 (pSg xx n1 (xx pz) (pok pz [])))) (xx pz) v1 v2 v3 v4 v5) H := hP
            have hD : va_D A (wMod T r mm pp xx th sv n1 (nI (acO (pDg xx n1 9 (pSg xx n1 (xx pz) (pok pz []))))) (eaO (pDg xx n1 9 (pSg xx n1 (xx pz) (pok pz [])))) (xx pz) v1 v2 v3 v4 v5) := fr_all hD rfl
            refine W.eq (g2 := F0 m 156 ls [.int (dgv xx n1 9 (pSg xx n1 (xx pz) (pok pz []))), .ref (r 0)]) rfl ?_
            refine va_put (D := G) (ci := 6) (v := .int (dgv xx n1 9 (pSg xx n1 (xx pz) (pok pz [])))) (ty := .int) (C := RX6) (T := TX6) (N := 14) hx hb hts iX6 tyX6 tyX6_ok nmX6 hown hkx.1 hP hD hS 0 rfl rfl 9 (by decide) k170 (fun _ h9 => h9) rfl (by decide +kernel) rfl rfl (Nat.le_of_ble_eq_true rfl) dX6_readOrder_156 (fun H locs hP hD hS => ?_)
            have hP : va_P G vwCl (wMod T r mm pp xx th sv n1 (nI (acO (pDg xx n1 9 (pSg xx n1 (xx pz) (pok pz []))))) (eaO (pDg xx n1 9 (pSg xx n1 (xx pz) (pok pz [])))) (xx pz) (dgv xx n1 9 (pSg xx n1 (xx pz) (pok pz []))) v2 v3 v4 v5) H := hP
            have hD : va_D A (wMod T r mm pp xx th sv n1 (nI (acO (pDg xx n1 9 (pSg xx n1 (xx pz) (pok pz []))))) (eaO (pDg xx n1 9 (pSg xx n1 (xx pz) (pok pz [])))) (xx pz) (dgv xx n1 9 (pSg xx n1 (xx pz) (pok pz []))) v2 v3 v4 v5) := hD
            refine lv_aload_n hx hb dX6_readOrder_159 rfl (lv_at hl 0 rfl) ?_
            refine lv_bipush (v := 43) hx hb dX6_readOrder_160 (by decide) ?_
            refine mu_V S hkx (mX6_sign l (hP := hP) (hD := hD.weaken (fun _ _ _ _ => trivial)) (mm := mm) (pp := pp) (xx := xx) (th := th) (sv := sv) (n1 := n1) (le := (xx pz)) (v1 := (dgv xx n1 9 (pSg xx n1 (xx pz) (pok pz [])))) (v2 := v2) (v3 := v3) (v4 := v4) (v5 := v5) (po := (pDg xx n1 9 (pSg xx n1 (xx pz) (pok pz [])))) (sz := 43) (hn1 := hn1) (ho := (wfo_dg (wfo_sg (htx pz hp) (show wfo n1 (pok pz []) from (by show pz ≤ n1; omega))))) (hs := (by decide))) gX6_readOrder_X6_sign rfl idX6_sign ⟨Nat.le_of_ble_eq_true rfl, Nat.le_of_ble_eq_true rfl⟩ hP 0 rfl rfl rfl rfl hl.1 rfl (Nat.le_of_ble_eq_true rfl) dX6_readOrder_162 ⟨Nat.le_refl _, Nat.le_refl _⟩ hS (fr_in hD (fun q h => hA q (Nat.le_trans hS.1 h))) (fun v H locs hp9 hz1 hk1 hS => ?_)
            obtain ⟨rfl, hP⟩ := hp9
            have hP : va_P G vwCl (wMod T r mm pp xx th sv n1 (nI (acO (pSg xx n1 43 (pDg xx n1 9 (pSg xx n1 (xx pz) (pok pz [])))))) (eaO (pSg xx n1 43 (pDg xx n1 9 (pSg xx n1 (xx pz) (pok pz []))))) (xx pz) (dgv xx n1 9 (pSg xx n1 (xx pz) (pok pz []))) v2 v3 v4 v5) H := hP
            have hD : va_D A (wMod T r mm pp xx th sv n1 (nI (acO (pSg xx n1 43 (pDg xx n1 9 (pSg xx n1 (xx pz) (pok pz [])))))) (eaO (pSg xx n1 43 (pDg xx n1 9 (pSg xx n1 (xx pz) (pok pz []))))) (xx pz) (dgv xx n1 9 (pSg xx n1 (xx pz) (pok pz []))) v2 v3 v4 v5) := fr_all hD rfl
            refine W.eq (g2 := F0 m 165 ls []) rfl ?_
            refine lv_aload_n hx hb dX6_readOrder_165 rfl (lv_at hl 0 rfl) ?_
            refine lv_aload_n hx hb dX6_readOrder_166 rfl (lv_at hl 0 rfl) ?_
            refine lv_iconst (v := 2) hx hb dX6_readOrder_167 (by decide) ?_
            refine lv_iconst (v := 1) hx hb dX6_readOrder_168 (by decide) ?_
            refine mu_V S hkx (mX6_number l (hP := hP) (hD := hD.weaken (fun _ _ _ _ => trivial)) (mm := mm) (pp := pp) (xx := xx) (th := th) (sv := sv) (n1 := n1) (le := (xx pz)) (v1 := (dgv xx n1 9 (pSg xx n1 (xx pz) (pok pz [])))) (v2 := v2) (v3 := v3) (v4 := v4) (v5 := v5) (po := (pSg xx n1 43 (pDg xx n1 9 (pSg xx n1 (xx pz) (pok pz []))))) (kz := 2) (lo := 1) (hn1 := hn1) (ho := (wfo_sg (by decide) (wfo_dg (wfo_sg (htx pz hp) (show wfo n1 (pok pz []) from (by show pz ≤ n1; omega)))))) (hnp := (npe_sg _ _ _ _)) (hk1 := (by omega)) (hk3 := (by omega))) gX6_readOrder_X6_number rfl idX6_number ⟨Nat.le_of_ble_eq_true rfl, Nat.le_of_ble_eq_true rfl⟩ hP 0 rfl rfl rfl rfl hl.1 rfl (Nat.le_of_ble_eq_true rfl) dX6_readOrder_169 ⟨Nat.le_refl _, Nat.le_refl _⟩ hS (fr_in hD (fun q h => hA q (Nat.le_trans hS.1 h))) (fun v H locs hp9 hz1 hk1 hS => ?_)
            obtain ⟨rfl, hP⟩ := hp9
            have hP : va_P G vwCl (wMod T r mm pp xx th sv n1 (nI (acO (pNm xx n1 2 1 (pSg xx n1 43 (pDg xx n1 9 (pSg xx n1 (xx pz) (pok pz []))))))) (eaO (pNm xx n1 2 1 (pSg xx n1 43 (pDg xx n1 9 (pSg xx n1 (xx pz) (pok pz [])))))) (xx pz) (dgv xx n1 9 (pSg xx n1 (xx pz) (pok pz []))) v2 v3 v4 v5) H := hP
            have hD : va_D A (wMod T r mm pp xx th sv n1 (nI (acO (pNm xx n1 2 1 (pSg xx n1 43 (pDg xx n1 9 (pSg xx n1 (xx pz) (pok pz []))))))) (eaO (pNm xx n1 2 1 (pSg xx n1 43 (pDg xx n1 9 (pSg xx n1 (xx pz) (pok pz [])))))) (xx pz) (dgv xx n1 9 (pSg xx n1 (xx pz) (pok pz []))) v2 v3 v4 v5) := fr_all hD rfl
            refine W.eq (g2 := F0 m 172 ls [.int (nmv xx n1 2 (pSg xx n1 43 (pDg xx n1 9 (pSg xx n1 (xx pz) (pok pz []))))), .ref (r 0)]) rfl ?_
            refine va_put (D := G) (ci := 6) (v := .int (nmv xx n1 2 (pSg xx n1 43 (pDg xx n1 9 (pSg xx n1 (xx pz) (pok pz [])))))) (ty := .int) (C := RX6) (T := TX6) (N := 14) hx hb hts iX6 tyX6 tyX6_ok nmX6 hown hkx.1 hP hD hS 0 rfl rfl 10 (by decide) k173 (fun _ h9 => h9) rfl (by decide +kernel) rfl rfl (Nat.le_of_ble_eq_true rfl) dX6_readOrder_172 (fun H locs hP hD hS => ?_)
            have hP : va_P G vwCl (wMod T r mm pp xx th sv n1 (nI (acO (pNm xx n1 2 1 (pSg xx n1 43 (pDg xx n1 9 (pSg xx n1 (xx pz) (pok pz []))))))) (eaO (pNm xx n1 2 1 (pSg xx n1 43 (pDg xx n1 9 (pSg xx n1 (xx pz) (pok pz [])))))) (xx pz) (dgv xx n1 9 (pSg xx n1 (xx pz) (pok pz []))) (nmv xx n1 2 (pSg xx n1 43 (pDg xx n1 9 (pSg xx n1 (xx pz) (pok pz []))))) v3 v4 v5) H := hP
            have hD : va_D A (wMod T r mm pp xx th sv n1 (nI (acO (pNm xx n1 2 1 (pSg xx n1 43 (pDg xx n1 9 (pSg xx n1 (xx pz) (pok pz []))))))) (eaO (pNm xx n1 2 1 (pSg xx n1 43 (pDg xx n1 9 (pSg xx n1 (xx pz) (pok pz [])))))) (xx pz) (dgv xx n1 9 (pSg xx n1 (xx pz) (pok pz []))) (nmv xx n1 2 (pSg xx n1 43 (pDg xx n1 9 (pSg xx n1 (xx pz) (pok pz []))))) v3 v4 v5) := hD
            refine lv_goto (tgt := 277) hx hb dX6_readOrder_175 (by decide) ?_
            refine lv_aload_n hx hb dX6_readOrder_277 rfl (lv_at hl 0 rfl) ?_
            refine lv_bipush (v := 59) hx hb dX6_readOrder_278 (by decide) ?_
            refine mu_V S hkx (mX6_sign l (hP := hP) (hD := hD.weaken (fun _ _ _ _ => trivial)) (mm := mm) (pp := pp) (xx := xx) (th := th) (sv := sv) (n1 := n1) (le := (xx pz)) (v1 := (dgv xx n1 9 (pSg xx n1 (xx pz) (pok pz [])))) (v2 := (nmv xx n1 2 (pSg xx n1 43 (pDg xx n1 9 (pSg xx n1 (xx pz) (pok pz [])))))) (v3 := v3) (v4 := v4) (v5 := v5) (po := (pNm xx n1 2 1 (pSg xx n1 43 (pDg xx n1 9 (pSg xx n1 (xx pz) (pok pz [])))))) (sz := 59) (hn1 := hn1) (ho := (wfo_nm (wfo_sg (by decide) (wfo_dg (wfo_sg (htx pz hp) (show wfo n1 (pok pz []) from (by show pz ≤ n1; omega))))))) (hs := (by decide))) gX6_readOrder_X6_sign rfl idX6_sign ⟨Nat.le_of_ble_eq_true rfl, Nat.le_of_ble_eq_true rfl⟩ hP 0 rfl rfl rfl rfl hl.1 rfl (Nat.le_of_ble_eq_true rfl) dX6_readOrder_280 ⟨Nat.le_refl _, Nat.le_refl _⟩ hS (fr_in hD (fun q h => hA q (Nat.le_trans hS.1 h))) (fun v H locs hp9 hz1 hk1 hS => ?_)
            obtain ⟨rfl, hP⟩ := hp9
            have hP : va_P G vwCl (wMod T r mm pp xx th sv n1 (nI (acO (pSg xx n1 59 (pNm xx n1 2 1 (pSg xx n1 43 (pDg xx n1 9 (pSg xx n1 (xx pz) (pok pz [])))))))) (eaO (pSg xx n1 59 (pNm xx n1 2 1 (pSg xx n1 43 (pDg xx n1 9 (pSg xx n1 (xx pz) (pok pz []))))))) (xx pz) (dgv xx n1 9 (pSg xx n1 (xx pz) (pok pz []))) (nmv xx n1 2 (pSg xx n1 43 (pDg xx n1 9 (pSg xx n1 (xx pz) (pok pz []))))) v3 v4 v5) H := hP
            have hD : va_D A (wMod T r mm pp xx th sv n1 (nI (acO (pSg xx n1 59 (pNm xx n1 2 1 (pSg xx n1 43 (pDg xx n1 9 (pSg xx n1 (xx pz) (pok pz [])))))))) (eaO (pSg xx n1 59 (pNm xx n1 2 1 (pSg xx n1 43 (pDg xx n1 9 (pSg xx n1 (xx pz) (pok pz []))))))) (xx pz) (dgv xx n1 9 (pSg xx n1 (xx pz) (pok pz []))) (nmv xx n1 2 (pSg xx n1 43 (pDg xx n1 9 (pSg xx n1 (xx pz) (pok pz []))))) v3 v4 v5) := fr_all hD rfl
            refine W.eq (g2 := F0 m 283 ls []) rfl ?_
            have e9 : prs1 xx n1 pz = (pSg xx n1 59 (pNm xx n1 2 1 (pSg xx n1 43 (pDg xx n1 9 (pSg xx n1 (xx pz) (pok pz [])))))) := by unfold prs1; rw [if_neg (show ¬ xx pz = 112 by rw [c_4]; decide), if_pos c_4]
            exact hret _ _ _ _ (show rdP G T r mm pp xx th sv n1 pz none H from ⟨rfl, (dgv xx n1 9 (pSg xx n1 (xx pz) (pok pz []))), (nmv xx n1 2 (pSg xx n1 43 (pDg xx n1 9 (pSg xx n1 (xx pz) (pok pz []))))), v3, v4, v5, fun q9 ns9 h9 => nms_of (Or.inr (Or.inl ⟨c_4, nms_le (e9.symm.trans h9)⟩)), by rw [e9]; exact hP⟩) hS dX6_readOrder_283
        · skip
          exact absurd c_4 c_6
      · skip
        exact absurd (c_5.symm.trans c_4) (by decide)
    · skip
      refine lv_aload_n hx hb dX6_readOrder_26 rfl (lv_at hl 0 rfl) ?_
      refine va_get (D := G) (ci := 6) (C := RX6) (T := TX6) (N := 14) hx hb hts iX6 hown hkx.1 hP 0 rfl rfl 8 (by decide) k163 (fun _ h9 => h9) rfl dX6_readOrder_27 ?_
      refine lv_bipush (v := 101) hx hb dX6_readOrder_30 (by decide) ?_
      refine lv_icmp_eq (tgt := 61) hx hb dX6_readOrder_32 (by decide) (fun c_8 => ?_) (fun c_8 => ?_)
      · skip
        have hP : va_P G vwCl (wMod T r mm pp xx th sv n1 (nI (acO (pok pz []))) (eaO (pok pz [])) (xx pz) v1 v2 v3 v4 v5) H := hP
        have hD : va_D A (wMod T r mm pp xx th sv n1 (nI (acO (pok pz []))) (eaO (pok pz [])) (xx pz) v1 v2 v3 v4 v5) := hD
        refine lv_aload_n hx hb dX6_readOrder_61 rfl (lv_at hl 0 rfl) ?_
        refine lv_aload_n hx hb dX6_readOrder_62 rfl (lv_at hl 0 rfl) ?_
        refine va_get (D := G) (ci := 6) (C := RX6) (T := TX6) (N := 14) hx hb hts iX6 hown hkx.1 hP 0 rfl rfl 8 (by decide) k163 (fun _ h9 => h9) rfl dX6_readOrder_63 ?_
        refine mu_V S hkx (mX6_sign l (hP := hP) (hD := hD.weaken (fun _ _ _ _ => trivial)) (mm := mm) (pp := pp) (xx := xx) (th := th) (sv := sv) (n1 := n1) (le := (xx pz)) (v1 := v1) (v2 := v2) (v3 := v3) (v4 := v4) (v5 := v5) (po := (pok pz [])) (sz := (xx pz)) (hn1 := hn1) (ho := (show wfo n1 (pok pz []) from (by show pz ≤ n1; omega))) (hs := (htx pz hp))) gX6_readOrder_X6_sign rfl idX6_sign ⟨Nat.le_of_ble_eq_true rfl, Nat.le_of_ble_eq_true rfl⟩ hP 0 rfl rfl rfl rfl hl.1 rfl (Nat.le_of_ble_eq_true rfl) dX6_readOrder_66 ⟨Nat.le_refl _, Nat.le_refl _⟩ hS (fr_in hD (fun q h => hA q (Nat.le_trans hS.1 h))) (fun v H locs hp9 hz1 hk1 hS => ?_)
        obtain ⟨rfl, hP⟩ := hp9
        have hP : va_P G vwCl (wMod T r mm pp xx th sv n1 (nI (acO (pSg xx n1 (xx pz) (pok pz [])))) (eaO (pSg xx n1 (xx pz) (pok pz []))) (xx pz) v1 v2 v3 v4 v5) H := hP
        have hD : va_D A (wMod T r mm pp xx th sv n1 (nI (acO (pSg xx n1 (xx pz) (pok pz [])))) (eaO (pSg xx n1 (xx pz) (pok pz []))) (xx pz) v1 v2 v3 v4 v5) := fr_all hD rfl
        refine W.eq (g2 := F0 m 69 ls []) rfl ?_
        refine lv_aload_n hx hb dX6_readOrder_69 rfl (lv_at hl 0 rfl) ?_
        refine va_get (D := G) (ci := 6) (C := RX6) (T := TX6) (N := 14) hx hb hts iX6 hown hkx.1 hP 0 rfl rfl 8 (by decide) k163 (fun _ h9 => h9) rfl dX6_readOrder_70 ?_
        refine lv_bipush (v := 112) hx hb dX6_readOrder_73 (by decide) ?_
        refine lv_icmp_ne (tgt := 117) hx hb dX6_readOrder_75 (by decide) (fun c_9 => ?_) (fun c_9 => ?_)
        · skip
          refine lv_aload_n hx hb dX6_readOrder_117 rfl (lv_at hl 0 rfl) ?_
          refine va_get (D := G) (ci := 6) (C := RX6) (T := TX6) (N := 14) hx hb hts iX6 hown hkx.1 hP 0 rfl rfl 8 (by decide) k163 (fun _ h9 => h9) rfl dX6_readOrder_118 ?_
          refine lv_bipush (v := 108) hx hb dX6_readOrder_121 (by decide) ?_
          refine lv_icmp_eq (tgt := 135) hx hb dX6_readOrder_123 (by decide) (fun c_10 => ?_) (fun c_10 => ?_)
          · skip
            exact absurd (c_10.symm.trans c_8) (by decide)
          · skip
            refine lv_aload_n hx hb dX6_readOrder_126 rfl (lv_at hl 0 rfl) ?_
            refine va_get (D := G) (ci := 6) (C := RX6) (T := TX6) (N := 14) hx hb hts iX6 hown hkx.1 hP 0 rfl rfl 8 (by decide) k163 (fun _ h9 => h9) rfl dX6_readOrder_127 ?_
            refine lv_bipush (v := 101) hx hb dX6_readOrder_130 (by decide) ?_
            refine lv_icmp_ne (tgt := 178) hx hb dX6_readOrder_132 (by decide) (fun c_11 => ?_) (fun c_11 => ?_)
            · skip
              exact absurd c_8 c_11
            · skip
              refine lv_aload_n hx hb dX6_readOrder_135 rfl (lv_at hl 0 rfl) ?_
              refine lv_aload_n hx hb dX6_readOrder_136 rfl (lv_at hl 0 rfl) ?_
              refine lv_aload_n hx hb dX6_readOrder_137 rfl (lv_at hl 0 rfl) ?_
              refine va_get (D := G) (ci := 6) (C := RX6) (T := TX6) (N := 14) hx hb hts iX6 hown hkx.1 hP 0 rfl rfl 8 (by decide) k163 (fun _ h9 => h9) rfl dX6_readOrder_138 ?_
              refine lv_bipush (v := 108) hx hb dX6_readOrder_141 (by decide) ?_
              refine lv_icmp_ne (tgt := 151) hx hb dX6_readOrder_143 (by decide) (fun c_12 => ?_) (fun c_12 => ?_)
              · skip
                refine lv_bipush (v := 7) hx hb dX6_readOrder_151 (by decide) ?_
                refine mu_V S hkx (mX6_digit l (hP := hP) (hD := hD.weaken (fun _ _ _ _ => trivial)) (mm := mm) (pp := pp) (xx := xx) (th := th) (sv := sv) (n1 := n1) (le := (xx pz)) (v1 := v1) (v2 := v2) (v3 := v3) (v4 := v4) (v5 := v5) (po := (pSg xx n1 (xx pz) (pok pz []))) (g := 7) (hn1 := hn1) (ho := (wfo_sg (htx pz hp) (show wfo n1 (pok pz []) from (by show pz ≤ n1; omega)))) (hnp := (npe_sg _ _ _ _))) gX6_readOrder_X6_digit rfl idX6_digit ⟨Nat.le_of_ble_eq_true rfl, Nat.le_of_ble_eq_true rfl⟩ hP 0 rfl rfl rfl rfl hl.1 rfl (Nat.le_of_ble_eq_true rfl) dX6_readOrder_153 ⟨Nat.le_refl _, Nat.le_refl _⟩ hS (fr_in hD (fun q h => hA q (Nat.le_trans hS.1 h))) (fun v H locs hp9 hz1 hk1 hS => ?_)
                obtain ⟨rfl, hP⟩ := hp9
                have hP : va_P G vwCl (wMod T r mm pp xx th sv n1 (nI (acO (pDg xx n1 7 (pSg xx n1 (xx pz) (pok pz []))))) (eaO (pDg xx n1 7 (pSg xx n1 (xx pz) (pok pz [])))) (xx pz) v1 v2 v3 v4 v5) H := hP
                have hD : va_D A (wMod T r mm pp xx th sv n1 (nI (acO (pDg xx n1 7 (pSg xx n1 (xx pz) (pok pz []))))) (eaO (pDg xx n1 7 (pSg xx n1 (xx pz) (pok pz [])))) (xx pz) v1 v2 v3 v4 v5) := fr_all hD rfl
                refine W.eq (g2 := F0 m 156 ls [.int (dgv xx n1 7 (pSg xx n1 (xx pz) (pok pz []))), .ref (r 0)]) rfl ?_
                refine va_put (D := G) (ci := 6) (v := .int (dgv xx n1 7 (pSg xx n1 (xx pz) (pok pz [])))) (ty := .int) (C := RX6) (T := TX6) (N := 14) hx hb hts iX6 tyX6 tyX6_ok nmX6 hown hkx.1 hP hD hS 0 rfl rfl 9 (by decide) k170 (fun _ h9 => h9) rfl (by decide +kernel) rfl rfl (Nat.le_of_ble_eq_true rfl) dX6_readOrder_156 (fun H locs hP hD hS => ?_)
                have hP : va_P G vwCl (wMod T r mm pp xx th sv n1 (nI (acO (pDg xx n1 7 (pSg xx n1 (xx pz) (pok pz []))))) (eaO (pDg xx n1 7 (pSg xx n1 (xx pz) (pok pz [])))) (xx pz) (dgv xx n1 7 (pSg xx n1 (xx pz) (pok pz []))) v2 v3 v4 v5) H := hP
                have hD : va_D A (wMod T r mm pp xx th sv n1 (nI (acO (pDg xx n1 7 (pSg xx n1 (xx pz) (pok pz []))))) (eaO (pDg xx n1 7 (pSg xx n1 (xx pz) (pok pz [])))) (xx pz) (dgv xx n1 7 (pSg xx n1 (xx pz) (pok pz []))) v2 v3 v4 v5) := hD
                refine lv_aload_n hx hb dX6_readOrder_159 rfl (lv_at hl 0 rfl) ?_
                refine lv_bipush (v := 43) hx hb dX6_readOrder_160 (by decide) ?_
                refine mu_V S hkx (mX6_sign l (hP := hP) (hD := hD.weaken (fun _ _ _ _ => trivial)) (mm := mm) (pp := pp) (xx := xx) (th := th) (sv := sv) (n1 := n1) (le := (xx pz)) (v1 := (dgv xx n1 7 (pSg xx n1 (xx pz) (pok pz [])))) (v2 := v2) (v3 := v3) (v4 := v4) (v5 := v5) (po := (pDg xx n1 7 (pSg xx n1 (xx pz) (pok pz [])))) (sz := 43) (hn1 := hn1) (ho := (wfo_dg (wfo_sg (htx pz hp) (show wfo n1 (pok pz []) from (by show pz ≤ n1; omega))))) (hs := (by decide))) gX6_readOrder_X6_sign rfl idX6_sign ⟨Nat.le_of_ble_eq_true rfl, Nat.le_of_ble_eq_true rfl⟩ hP 0 rfl rfl rfl rfl hl.1 rfl (Nat.le_of_ble_eq_true rfl) dX6_readOrder_162 ⟨Nat.le_refl _, Nat.le_refl _⟩ hS (fr_in hD (fun q h => hA q (Nat.le_trans hS.1 h))) (fun v H locs hp9 hz1 hk1 hS => ?_)
                obtain ⟨rfl, hP⟩ := hp9
                have hP : va_P G vwCl (wMod T r mm pp xx th sv n1 (nI (acO (pSg xx n1 43 (pDg xx n1 7 (pSg xx n1 (xx pz) (pok pz [])))))) (eaO (pSg xx n1 43 (pDg xx n1 7 (pSg xx n1 (xx pz) (pok pz []))))) (xx pz) (dgv xx n1 7 (pSg xx n1 (xx pz) (pok pz []))) v2 v3 v4 v5) H := hP
                have hD : va_D A (wMod T r mm pp xx th sv n1 (nI (acO (pSg xx n1 43 (pDg xx n1 7 (pSg xx n1 (xx pz) (pok pz [])))))) (eaO (pSg xx n1 43 (pDg xx n1 7 (pSg xx n1 (xx pz) (pok pz []))))) (xx pz) (dgv xx n1 7 (pSg xx n1 (xx pz) (pok pz []))) v2 v3 v4 v5) := fr_all hD rfl
                refine W.eq (g2 := F0 m 165 ls []) rfl ?_
                refine lv_aload_n hx hb dX6_readOrder_165 rfl (lv_at hl 0 rfl) ?_
                refine lv_aload_n hx hb dX6_readOrder_166 rfl (lv_at hl 0 rfl) ?_
                refine lv_iconst (v := 2) hx hb dX6_readOrder_167 (by decide) ?_
                refine lv_iconst (v := 1) hx hb dX6_readOrder_168 (by decide) ?_
                refine mu_V S hkx (mX6_number l (hP := hP) (hD := hD.weaken (fun _ _ _ _ => trivial)) (mm := mm) (pp := pp) (xx := xx) (th := th) (sv := sv) (n1 := n1) (le := (xx pz)) (v1 := (dgv xx n1 7 (pSg xx n1 (xx pz) (pok pz [])))) (v2 := v2) (v3 := v3) (v4 := v4) (v5 := v5) (po := (pSg xx n1 43 (pDg xx n1 7 (pSg xx n1 (xx pz) (pok pz []))))) (kz := 2) (lo := 1) (hn1 := hn1) (ho := (wfo_sg (by decide) (wfo_dg (wfo_sg (htx pz hp) (show wfo n1 (pok pz []) from (by show pz ≤ n1; omega)))))) (hnp := (npe_sg _ _ _ _)) (hk1 := (by omega)) (hk3 := (by omega))) gX6_readOrder_X6_number rfl idX6_number ⟨Nat.le_of_ble_eq_true rfl, Nat.le_of_ble_eq_true rfl⟩ hP 0 rfl rfl rfl rfl hl.1 rfl (Nat.le_of_ble_eq_true rfl) dX6_readOrder_169 ⟨Nat.le_refl _, Nat.le_refl _⟩ hS (fr_in hD (fun q h => hA q (Nat.le_trans hS.1 h))) (fun v H locs hp9 hz1 hk1 hS => ?_)
                obtain ⟨rfl, hP⟩ := hp9
                have hP : va_P G vwCl (wMod T r mm pp xx th sv n1 (nI (acO (pNm xx n1 2 1 (pSg xx n1 43 (pDg xx n1 7 (pSg xx n1 (xx pz) (pok pz []))))))) (eaO (pNm xx n1 2 1 (pSg xx n1 43 (pDg xx n1 7 (pSg xx n1 (xx pz) (pok pz [])))))) (xx pz) (dgv xx n1 7 (pSg xx n1 (xx pz) (pok pz []))) v2 v3 v4 v5) H := hP
                have hD : va_D A (wMod T r mm pp xx th sv n1 (nI (acO (pNm xx n1 2 1 (pSg xx n1 43 (pDg xx n1 7 (pSg xx n1 (xx pz) (pok pz []))))))) (eaO (pNm xx n1 2 1 (pSg xx n1 43 (pDg xx n1 7 (pSg xx n1 (xx pz) (pok pz [])))))) (xx pz) (dgv xx n1 7 (pSg xx n1 (xx pz) (pok pz []))) v2 v3 v4 v5) := fr_all hD rfl
                refine W.eq (g2 := F0 m 172 ls [.int (nmv xx n1 2 (pSg xx n1 43 (pDg xx n1 7 (pSg xx n1 (xx pz) (pok pz []))))), .ref (r 0)]) rfl ?_
                refine va_put (D := G) (ci := 6) (v := .int (nmv xx n1 2 (pSg xx n1 43 (pDg xx n1 7 (pSg xx n1 (xx pz) (pok pz [])))))) (ty := .int) (C := RX6) (T := TX6) (N := 14) hx hb hts iX6 tyX6 tyX6_ok nmX6 hown hkx.1 hP hD hS 0 rfl rfl 10 (by decide) k173 (fun _ h9 => h9) rfl (by decide +kernel) rfl rfl (Nat.le_of_ble_eq_true rfl) dX6_readOrder_172 (fun H locs hP hD hS => ?_)
                have hP : va_P G vwCl (wMod T r mm pp xx th sv n1 (nI (acO (pNm xx n1 2 1 (pSg xx n1 43 (pDg xx n1 7 (pSg xx n1 (xx pz) (pok pz []))))))) (eaO (pNm xx n1 2 1 (pSg xx n1 43 (pDg xx n1 7 (pSg xx n1 (xx pz) (pok pz [])))))) (xx pz) (dgv xx n1 7 (pSg xx n1 (xx pz) (pok pz []))) (nmv xx n1 2 (pSg xx n1 43 (pDg xx n1 7 (pSg xx n1 (xx pz) (pok pz []))))) v3 v4 v5) H := hP
                have hD : va_D A (wMod T r mm pp xx th sv n1 (nI (acO (pNm xx n1 2 1 (pSg xx n1 43 (pDg xx n1 7 (pSg xx n1 (xx pz) (pok pz []))))))) (eaO (pNm xx n1 2 1 (pSg xx n1 43 (pDg xx n1 7 (pSg xx n1 (xx pz) (pok pz [])))))) (xx pz) (dgv xx n1 7 (pSg xx n1 (xx pz) (pok pz []))) (nmv xx n1 2 (pSg xx n1 43 (pDg xx n1 7 (pSg xx n1 (xx pz) (pok pz []))))) v3 v4 v5) := hD
                refine lv_goto (tgt := 277) hx hb dX6_readOrder_175 (by decide) ?_
                refine lv_aload_n hx hb dX6_readOrder_277 rfl (lv_at hl 0 rfl) ?_
                refine lv_bipush (v := 59) hx hb dX6_readOrder_278 (by decide) ?_
                refine mu_V S hkx (mX6_sign l (hP := hP) (hD := hD.weaken (fun _ _ _ _ => trivial)) (mm := mm) (pp := pp) (xx := xx) (th := th) (sv := sv) (n1 := n1) (le := (xx pz)) (v1 := (dgv xx n1 7 (pSg xx n1 (xx pz) (pok pz [])))) (v2 := (nmv xx n1 2 (pSg xx n1 43 (pDg xx n1 7 (pSg xx n1 (xx pz) (pok pz [])))))) (v3 := v3) (v4 := v4) (v5 := v5) (po := (pNm xx n1 2 1 (pSg xx n1 43 (pDg xx n1 7 (pSg xx n1 (xx pz) (pok pz [])))))) (sz := 59) (hn1 := hn1) (ho := (wfo_nm (wfo_sg (by decide) (wfo_dg (wfo_sg (htx pz hp) (show wfo n1 (pok pz []) from (by show pz ≤ n1; omega))))))) (hs := (by decide))) gX6_readOrder_X6_sign rfl idX6_sign ⟨Nat.le_of_ble_eq_true rfl, Nat.le_of_ble_eq_true rfl⟩ hP 0 rfl rfl rfl rfl hl.1 rfl (Nat.le_of_ble_eq_true rfl) dX6_readOrder_280 ⟨Nat.le_refl _, Nat.le_refl _⟩ hS (fr_in hD (fun q h => hA q (Nat.le_trans hS.1 h))) (fun v H locs hp9 hz1 hk1 hS => ?_)
                obtain ⟨rfl, hP⟩ := hp9
                have hP : va_P G vwCl (wMod T r mm pp xx th sv n1 (nI (acO (pSg xx n1 59 (pNm xx n1 2 1 (pSg xx n1 43 (pDg xx n1 7 (pSg xx n1 (xx pz) (pok pz [])))))))) (eaO (pSg xx n1 59 (pNm xx n1 2 1 (pSg xx n1 43 (pDg xx n1 7 (pSg xx n1 (xx pz) (pok pz []))))))) (xx pz) (dgv xx n1 7 (pSg xx n1 (xx pz) (pok pz []))) (nmv xx n1 2 (pSg xx n1 43 (pDg xx n1 7 (pSg xx n1 (xx pz) (pok pz []))))) v3 v4 v5) H := hP
                have hD : va_D A (wMod T r mm pp xx th sv n1 (nI (acO (pSg xx n1 59 (pNm xx n1 2 1 (pSg xx n1 43 (pDg xx n1 7 (pSg xx n1 (xx pz) (pok pz [])))))))) (eaO (pSg xx n1 59 (pNm xx n1 2 1 (pSg xx n1 43 (pDg xx n1 7 (pSg xx n1 (xx pz) (pok pz []))))))) (xx pz) (dgv xx n1 7 (pSg xx n1 (xx pz) (pok pz []))) (nmv xx n1 2 (pSg xx n1 43 (pDg xx n1 7 (pSg xx n1 (xx pz) (pok pz []))))) v3 v4 v5) := fr_all hD rfl
                refine W.eq (g2 := F0 m 283 ls []) rfl ?_
                have e9 : prs1 xx n1 pz = (pSg xx n1 59 (pNm xx n1 2 1 (pSg xx n1 43 (pDg xx n1 7 (pSg xx n1 (xx pz) (pok pz [])))))) := by unfold prs1; rw [if_neg (show ¬ xx pz = 112 by rw [c_8]; decide), if_neg (show ¬ xx pz = 108 by rw [c_8]; decide), if_pos c_8]
                exact hret _ _ _ _ (show rdP G T r mm pp xx th sv n1 pz none H from ⟨rfl, (dgv xx n1 7 (pSg xx n1 (xx pz) (pok pz []))), (nmv xx n1 2 (pSg xx n1 43 (pDg xx n1 7 (pSg xx n1 (xx pz) (pok pz []))))), v3, v4, v5, fun q9 ns9 h9 => nms_of (Or.inr (Or.inr (Or.inl ⟨c_8, nms_le (e9.symm.trans h9)⟩))), by rw [e9]; exact hP⟩) hS dX6_readOrder_283
              · skip
                exact absurd (c_12.symm.trans c_8) (by decide)
        · skip
          exact absurd (c_9.symm.trans c_8) (by decide)
      · skip
        refine lv_aload_n hx hb dX6_readOrder_35 rfl (lv_at hl 0 rfl) ?_
        refine va_get (D := G) (ci := 6) (C := RX6) (T := TX6) (N := 14) hx hb hts iX6 hown hkx.1 hP 0 rfl rfl 8 (by decide) k163 (fun _ h9 => h9) rfl dX6_readOrder_36 ?_
        refine lv_bipush (v := 115) hx hb dX6_readOrder_39 (by decide) ?_
        refine lv_icmp_eq (tgt := 61) hx hb dX6_readOrder_41 (by decide) (fun c_13 => ?_) (fun c_13 => ?_)
        · skip
          have hP : va_P G vwCl (wMod T r mm pp xx th sv n1 (nI (acO (pok pz []))) (eaO (pok pz [])) (xx pz) v1 v2 v3 v4 v5) H := hP
          have hD : va_D A (wMod T r mm pp xx th sv n1 (nI (acO (pok pz []))) (eaO (pok pz [])) (xx pz) v1 v2 v3 v4 v5) := hD
          refine lv_aload_n hx hb dX6_readOrder_61 rfl (lv_at hl 0 rfl) ?_
          refine lv_aload_n hx hb dX6_readOrder_62 rfl (lv_at hl 0 rfl) ?_
          refine va_get (D := G) (ci := 6) (C := RX6) (T := TX6) (N := 14) hx hb hts iX6 hown hkx.1 hP 0 rfl rfl 8 (by decide) k163 (fun _ h9 => h9) rfl dX6_readOrder_63 ?_
          refine mu_V S hkx (mX6_sign l (hP := hP) (hD := hD.weaken (fun _ _ _ _ => trivial)) (mm := mm) (pp := pp) (xx := xx) (th := th) (sv := sv) (n1 := n1) (le := (xx pz)) (v1 := v1) (v2 := v2) (v3 := v3) (v4 := v4) (v5 := v5) (po := (pok pz [])) (sz := (xx pz)) (hn1 := hn1) (ho := (show wfo n1 (pok pz []) from (by show pz ≤ n1; omega))) (hs := (htx pz hp))) gX6_readOrder_X6_sign rfl idX6_sign ⟨Nat.le_of_ble_eq_true rfl, Nat.le_of_ble_eq_true rfl⟩ hP 0 rfl rfl rfl rfl hl.1 rfl (Nat.le_of_ble_eq_true rfl) dX6_readOrder_66 ⟨Nat.le_refl _, Nat.le_refl _⟩ hS (fr_in hD (fun q h => hA q (Nat.le_trans hS.1 h))) (fun v H locs hp9 hz1 hk1 hS => ?_)
          obtain ⟨rfl, hP⟩ := hp9
          have hP : va_P G vwCl (wMod T r mm pp xx th sv n1 (nI (acO (pSg xx n1 (xx pz) (pok pz [])))) (eaO (pSg xx n1 (xx pz) (pok pz []))) (xx pz) v1 v2 v3 v4 v5) H := hP
          have hD : va_D A (wMod T r mm pp xx th sv n1 (nI (acO (pSg xx n1 (xx pz) (pok pz [])))) (eaO (pSg xx n1 (xx pz) (pok pz []))) (xx pz) v1 v2 v3 v4 v5) := fr_all hD rfl
          refine W.eq (g2 := F0 m 69 ls []) rfl ?_
          refine lv_aload_n hx hb dX6_readOrder_69 rfl (lv_at hl 0 rfl) ?_
          refine va_get (D := G) (ci := 6) (C := RX6) (T := TX6) (N := 14) hx hb hts iX6 hown hkx.1 hP 0 rfl rfl 8 (by decide) k163 (fun _ h9 => h9) rfl dX6_readOrder_70 ?_
          refine lv_bipush (v := 112) hx hb dX6_readOrder_73 (by decide) ?_
          refine lv_icmp_ne (tgt := 117) hx hb dX6_readOrder_75 (by decide) (fun c_14 => ?_) (fun c_14 => ?_)
          · skip
            refine lv_aload_n hx hb dX6_readOrder_117 rfl (lv_at hl 0 rfl) ?_
            refine va_get (D := G) (ci := 6) (C := RX6) (T := TX6) (N := 14) hx hb hts iX6 hown hkx.1 hP 0 rfl rfl 8 (by decide) k163 (fun _ h9 => h9) rfl dX6_readOrder_118 ?_
            refine lv_bipush (v := 108) hx hb dX6_readOrder_121 (by decide) ?_
            refine lv_icmp_eq (tgt := 135) hx hb dX6_readOrder_123 (by decide) (fun c_15 => ?_) (fun c_15 => ?_)
            · skip
              exact absurd (c_15.symm.trans c_13) (by decide)
            · skip
              refine lv_aload_n hx hb dX6_readOrder_126 rfl (lv_at hl 0 rfl) ?_
              refine va_get (D := G) (ci := 6) (C := RX6) (T := TX6) (N := 14) hx hb hts iX6 hown hkx.1 hP 0 rfl rfl 8 (by decide) k163 (fun _ h9 => h9) rfl dX6_readOrder_127 ?_
              refine lv_bipush (v := 101) hx hb dX6_readOrder_130 (by decide) ?_
              refine lv_icmp_ne (tgt := 178) hx hb dX6_readOrder_132 (by decide) (fun c_16 => ?_) (fun c_16 => ?_)
              · skip
                refine lv_aload_n hx hb dX6_readOrder_178 rfl (lv_at hl 0 rfl) ?_
                refine va_get (D := G) (ci := 6) (C := RX6) (T := TX6) (N := 14) hx hb hts iX6 hown hkx.1 hP 0 rfl rfl 8 (by decide) k163 (fun _ h9 => h9) rfl dX6_readOrder_179 ?_
                refine lv_bipush (v := 115) hx hb dX6_readOrder_182 (by decide) ?_
                refine lv_icmp_ne (tgt := 258) hx hb dX6_readOrder_184 (by decide) (fun c_17 => ?_) (fun c_17 => ?_)
                · skip
                  exact absurd c_13 c_17
                · skip
                  refine lv_aload_n hx hb dX6_readOrder_187 rfl (lv_at hl 0 rfl) ?_
                  refine lv_aload_n hx hb dX6_readOrder_188 rfl (lv_at hl 0 rfl) ?_
                  refine lv_bipush (v := 9) hx hb dX6_readOrder_189 (by decide) ?_
                  refine mu_V S hkx (mX6_digit l (hP := hP) (hD := hD.weaken (fun _ _ _ _ => trivial)) (mm := mm) (pp := pp) (xx := xx) (th := th) (sv := sv) (n1 := n1) (le := (xx pz)) (v1 := v1) (v2 := v2) (v3 := v3) (v4 := v4) (v5 := v5) (po := (pSg xx n1 (xx pz) (pok pz []))) (g := 9) (hn1 := hn1) (ho := (wfo_sg (htx pz hp) (show wfo n1 (pok pz []) from (by show pz ≤ n1; omega)))) (hnp := (npe_sg _ _ _ _))) gX6_readOrder_X6_digit rfl idX6_digit ⟨Nat.le_of_ble_eq_true rfl, Nat.le_of_ble_eq_true rfl⟩ hP 0 rfl rfl rfl rfl hl.1 rfl (Nat.le_of_ble_eq_true rfl) dX6_readOrder_191 ⟨Nat.le_refl _, Nat.le_refl _⟩ hS (fr_in hD (fun q h => hA q (Nat.le_trans hS.1 h))) (fun v H locs hp9 hz1 hk1 hS => ?_)
                  obtain ⟨rfl, hP⟩ := hp9
                  have hP : va_P G vwCl (wMod T r mm pp xx th sv n1 (nI (acO (pDg xx n1 9 (pSg xx n1 (xx pz) (pok pz []))))) (eaO (pDg xx n1 9 (pSg xx n1 (xx pz) (pok pz [])))) (xx pz) v1 v2 v3 v4 v5) H := hP
                  have hD : va_D A (wMod T r mm pp xx th sv n1 (nI (acO (pDg xx n1 9 (pSg xx n1 (xx pz) (pok pz []))))) (eaO (pDg xx n1 9 (pSg xx n1 (xx pz) (pok pz [])))) (xx pz) v1 v2 v3 v4 v5) := fr_all hD rfl
                  refine W.eq (g2 := F0 m 194 ls [.int (dgv xx n1 9 (pSg xx n1 (xx pz) (pok pz []))), .ref (r 0)]) rfl ?_
                  refine va_put (D := G) (ci := 6) (v := .int (dgv xx n1 9 (pSg xx n1 (xx pz) (pok pz [])))) (ty := .int) (C := RX6) (T := TX6) (N := 14) hx hb hts iX6 tyX6 tyX6_ok nmX6 hown hkx.1 hP hD hS 0 rfl rfl 9 (by decide) k170 (fun _ h9 => h9) rfl (by decide +kernel) rfl rfl (Nat.le_of_ble_eq_true rfl) dX6_readOrder_194 (fun H locs hP hD hS => ?_)
                  have hP : va_P G vwCl (wMod T r mm pp xx th sv n1 (nI (acO (pDg xx n1 9 (pSg xx n1 (xx pz) (pok pz []))))) (eaO (pDg xx n1 9 (pSg xx n1 (xx pz) (pok pz [])))) (xx pz) (dgv xx n1 9 (pSg xx n1 (xx pz) (pok pz []))) v2 v3 v4 v5) H := hP
                  have hD : va_D A (wMod T r mm pp xx th sv n1 (nI (acO (pDg xx n1 9 (pSg xx n1 (xx pz) (pok pz []))))) (eaO (pDg xx n1 9 (pSg xx n1 (xx pz) (pok pz [])))) (xx pz) (dgv xx n1 9 (pSg xx n1 (xx pz) (pok pz []))) v2 v3 v4 v5) := hD
                  refine lv_aload_n hx hb dX6_readOrder_197 rfl (lv_at hl 0 rfl) ?_
                  refine lv_aload_n hx hb dX6_readOrder_198 rfl (lv_at hl 0 rfl) ?_
                  refine lv_bipush (v := 7) hx hb dX6_readOrder_199 (by decide) ?_
                  refine mu_V S hkx (mX6_digit l (hP := hP) (hD := hD.weaken (fun _ _ _ _ => trivial)) (mm := mm) (pp := pp) (xx := xx) (th := th) (sv := sv) (n1 := n1) (le := (xx pz)) (v1 := (dgv xx n1 9 (pSg xx n1 (xx pz) (pok pz [])))) (v2 := v2) (v3 := v3) (v4 := v4) (v5 := v5) (po := (pDg xx n1 9 (pSg xx n1 (xx pz) (pok pz [])))) (g := 7) (hn1 := hn1) (ho := (wfo_dg (wfo_sg (htx pz hp) (show wfo n1 (pok pz []) from (by show pz ≤ n1; omega))))) (hnp := (npe_dg _ _ _ _))) gX6_readOrder_X6_digit rfl idX6_digit ⟨Nat.le_of_ble_eq_true rfl, Nat.le_of_ble_eq_true rfl⟩ hP 0 rfl rfl rfl rfl hl.1 rfl (Nat.le_of_ble_eq_true rfl) dX6_readOrder_201 ⟨Nat.le_refl _, Nat.le_refl _⟩ hS (fr_in hD (fun q h => hA q (Nat.le_trans hS.1 h))) (fun v H locs hp9 hz1 hk1 hS => ?_)
                  obtain ⟨rfl, hP⟩ := hp9
                  have hP : va_P G vwCl (wMod T r mm pp xx th sv n1 (nI (acO (pDg xx n1 7 (pDg xx n1 9 (pSg xx n1 (xx pz) (pok pz [])))))) (eaO (pDg xx n1 7 (pDg xx n1 9 (pSg xx n1 (xx pz) (pok pz []))))) (xx pz) (dgv xx n1 9 (pSg xx n1 (xx pz) (pok pz []))) v2 v3 v4 v5) H := hP
                  have hD : va_D A (wMod T r mm pp xx th sv n1 (nI (acO (pDg xx n1 7 (pDg xx n1 9 (pSg xx n1 (xx pz) (pok pz [])))))) (eaO (pDg xx n1 7 (pDg xx n1 9 (pSg xx n1 (xx pz) (pok pz []))))) (xx pz) (dgv xx n1 9 (pSg xx n1 (xx pz) (pok pz []))) v2 v3 v4 v5) := fr_all hD rfl
                  refine W.eq (g2 := F0 m 204 ls [.int (dgv xx n1 7 (pDg xx n1 9 (pSg xx n1 (xx pz) (pok pz [])))), .ref (r 0)]) rfl ?_
                  refine va_put (D := G) (ci := 6) (v := .int (dgv xx n1 7 (pDg xx n1 9 (pSg xx n1 (xx pz) (pok pz []))))) (ty := .int) (C := RX6) (T := TX6) (N := 14) hx hb hts iX6 tyX6 tyX6_ok nmX6 hown hkx.1 hP hD hS 0 rfl rfl 10 (by decide) k173 (fun _ h9 => h9) rfl (by decide +kernel) rfl rfl (Nat.le_of_ble_eq_true rfl) dX6_readOrder_204 (fun H locs hP hD hS => ?_)
                  have hP : va_P G vwCl (wMod T r mm pp xx th sv n1 (nI (acO (pDg xx n1 7 (pDg xx n1 9 (pSg xx n1 (xx pz) (pok pz [])))))) (eaO (pDg xx n1 7 (pDg xx n1 9 (pSg xx n1 (xx pz) (pok pz []))))) (xx pz) (dgv xx n1 9 (pSg xx n1 (xx pz) (pok pz []))) (dgv xx n1 7 (pDg xx n1 9 (pSg xx n1 (xx pz) (pok pz [])))) v3 v4 v5) H := hP
                  have hD : va_D A (wMod T r mm pp xx th sv n1 (nI (acO (pDg xx n1 7 (pDg xx n1 9 (pSg xx n1 (xx pz) (pok pz [])))))) (eaO (pDg xx n1 7 (pDg xx n1 9 (pSg xx n1 (xx pz) (pok pz []))))) (xx pz) (dgv xx n1 9 (pSg xx n1 (xx pz) (pok pz []))) (dgv xx n1 7 (pDg xx n1 9 (pSg xx n1 (xx pz) (pok pz [])))) v3 v4 v5) := hD
                  refine lv_aload_n hx hb dX6_readOrder_207 rfl (lv_at hl 0 rfl) ?_
                  refine lv_bipush (v := 58) hx hb dX6_readOrder_208 (by decide) ?_
                  refine mu_V S hkx (mX6_sign l (hP := hP) (hD := hD.weaken (fun _ _ _ _ => trivial)) (mm := mm) (pp := pp) (xx := xx) (th := th) (sv := sv) (n1 := n1) (le := (xx pz)) (v1 := (dgv xx n1 9 (pSg xx n1 (xx pz) (pok pz [])))) (v2 := (dgv xx n1 7 (pDg xx n1 9 (pSg xx n1 (xx pz) (pok pz []))))) (v3 := v3) (v4 := v4) (v5 := v5) (po := (pDg xx n1 7 (pDg xx n1 9 (pSg xx n1 (xx pz) (pok pz []))))) (sz := 58) (hn1 := hn1) (ho := (wfo_dg (wfo_dg (wfo_sg (htx pz hp) (show wfo n1 (pok pz []) from (by show pz ≤ n1; omega)))))) (hs := (by decide))) gX6_readOrder_X6_sign rfl idX6_sign ⟨Nat.le_of_ble_eq_true rfl, Nat.le_of_ble_eq_true rfl⟩ hP 0 rfl rfl rfl rfl hl.1 rfl (Nat.le_of_ble_eq_true rfl) dX6_readOrder_210 ⟨Nat.le_refl _, Nat.le_refl _⟩ hS (fr_in hD (fun q h => hA q (Nat.le_trans hS.1 h))) (fun v H locs hp9 hz1 hk1 hS => ?_)
                  obtain ⟨rfl, hP⟩ := hp9
                  have hP : va_P G vwCl (wMod T r mm pp xx th sv n1 (nI (acO (pSg xx n1 58 (pDg xx n1 7 (pDg xx n1 9 (pSg xx n1 (xx pz) (pok pz []))))))) (eaO (pSg xx n1 58 (pDg xx n1 7 (pDg xx n1 9 (pSg xx n1 (xx pz) (pok pz [])))))) (xx pz) (dgv xx n1 9 (pSg xx n1 (xx pz) (pok pz []))) (dgv xx n1 7 (pDg xx n1 9 (pSg xx n1 (xx pz) (pok pz [])))) v3 v4 v5) H := hP
                  have hD : va_D A (wMod T r mm pp xx th sv n1 (nI (acO (pSg xx n1 58 (pDg xx n1 7 (pDg xx n1 9 (pSg xx n1 (xx pz) (pok pz []))))))) (eaO (pSg xx n1 58 (pDg xx n1 7 (pDg xx n1 9 (pSg xx n1 (xx pz) (pok pz [])))))) (xx pz) (dgv xx n1 9 (pSg xx n1 (xx pz) (pok pz []))) (dgv xx n1 7 (pDg xx n1 9 (pSg xx n1 (xx pz) (pok pz [])))) v3 v4 v5) := fr_all hD rfl
                  refine W.eq (g2 := F0 m 213 ls []) rfl ?_
                  refine lv_aload_n hx hb dX6_readOrder_213 rfl (lv_at hl 0 rfl) ?_
                  refine lv_aload_n hx hb dX6_readOrder_214 rfl (lv_at hl 0 rfl) ?_
                  refine lv_iconst (v := 3) hx hb dX6_readOrder_215 (by decide) ?_
                  refine lv_iconst (v := 0) hx hb dX6_readOrder_216 (by decide) ?_
                  refine mu_V S hkx (mX6_number l (hP := hP) (hD := hD.weaken (fun _ _ _ _ => trivial)) (mm := mm) (pp := pp) (xx := xx) (th := th) (sv := sv) (n1 := n1) (le := (xx pz)) (v1 := (dgv xx n1 9 (pSg xx n1 (xx pz) (pok pz [])))) (v2 := (dgv xx n1 7 (pDg xx n1 9 (pSg xx n1 (xx pz) (pok pz []))))) (v3 := v3) (v4 := v4) (v5 := v5) (po := (pSg xx n1 58 (pDg xx n1 7 (pDg xx n1 9 (pSg xx n1 (xx pz) (pok pz [])))))) (kz := 3) (lo := 0) (hn1 := hn1) (ho := (wfo_sg (by decide) (wfo_dg (wfo_dg (wfo_sg (htx pz hp) (show wfo n1 (pok pz []) from (by show pz ≤ n1; omega))))))) (hnp := (npe_sg _ _ _ _)) (hk1 := (by omega)) (hk3 := (by omega))) gX6_readOrder_X6_number rfl idX6_number ⟨Nat.le_of_ble_eq_true rfl, Nat.le_of_ble_eq_true rfl⟩ hP 0 rfl rfl rfl rfl hl.1 rfl (Nat.le_of_ble_eq_true rfl) dX6_readOrder_217 ⟨Nat.le_refl _, Nat.le_refl _⟩ hS (fr_in hD (fun q h => hA q (Nat.le_trans hS.1 h))) (fun v H locs hp9 hz1 hk1 hS => ?_)
                  obtain ⟨rfl, hP⟩ := hp9
                  have hP : va_P G vwCl (wMod T r mm pp xx th sv n1 (nI (acO (pNm xx n1 3 0 (pSg xx n1 58 (pDg xx n1 7 (pDg xx n1 9 (pSg xx n1 (xx pz) (pok pz [])))))))) (eaO (pNm xx n1 3 0 (pSg xx n1 58 (pDg xx n1 7 (pDg xx n1 9 (pSg xx n1 (xx pz) (pok pz []))))))) (xx pz) (dgv xx n1 9 (pSg xx n1 (xx pz) (pok pz []))) (dgv xx n1 7 (pDg xx n1 9 (pSg xx n1 (xx pz) (pok pz [])))) v3 v4 v5) H := hP
                  have hD : va_D A (wMod T r mm pp xx th sv n1 (nI (acO (pNm xx n1 3 0 (pSg xx n1 58 (pDg xx n1 7 (pDg xx n1 9 (pSg xx n1 (xx pz) (pok pz [])))))))) (eaO (pNm xx n1 3 0 (pSg xx n1 58 (pDg xx n1 7 (pDg xx n1 9 (pSg xx n1 (xx pz) (pok pz []))))))) (xx pz) (dgv xx n1 9 (pSg xx n1 (xx pz) (pok pz []))) (dgv xx n1 7 (pDg xx n1 9 (pSg xx n1 (xx pz) (pok pz [])))) v3 v4 v5) := fr_all hD rfl
                  refine W.eq (g2 := F0 m 220 ls [.int (nmv xx n1 3 (pSg xx n1 58 (pDg xx n1 7 (pDg xx n1 9 (pSg xx n1 (xx pz) (pok pz [])))))), .ref (r 0)]) rfl ?_
                  refine va_put (D := G) (ci := 6) (v := .int (nmv xx n1 3 (pSg xx n1 58 (pDg xx n1 7 (pDg xx n1 9 (pSg xx n1 (xx pz) (pok pz []))))))) (ty := .int) (C := RX6) (T := TX6) (N := 14) hx hb hts iX6 tyX6 tyX6_ok nmX6 hown hkx.1 hP hD hS 0 rfl rfl 11 (by decide) k179 (fun _ h9 => h9) rfl (by decide +kernel) rfl rfl (Nat.le_of_ble_eq_true rfl) dX6_readOrder_220 (fun H locs hP hD hS => ?_)
                  have hP : va_P G vwCl (wMod T r mm pp xx th sv n1 (nI (acO (pNm xx n1 3 0 (pSg xx n1 58 (pDg xx n1 7 (pDg xx n1 9 (pSg xx n1 (xx pz) (pok pz [])))))))) (eaO (pNm xx n1 3 0 (pSg xx n1 58 (pDg xx n1 7 (pDg xx n1 9 (pSg xx n1 (xx pz) (pok pz []))))))) (xx pz) (dgv xx n1 9 (pSg xx n1 (xx pz) (pok pz []))) (dgv xx n1 7 (pDg xx n1 9 (pSg xx n1 (xx pz) (pok pz [])))) (nmv xx n1 3 (pSg xx n1 58 (pDg xx n1 7 (pDg xx n1 9 (pSg xx n1 (xx pz) (pok pz [])))))) v4 v5) H := hP
                  have hD : va_D A (wMod T r mm pp xx th sv n1 (nI (acO (pNm xx n1 3 0 (pSg xx n1 58 (pDg xx n1 7 (pDg xx n1 9 (pSg xx n1 (xx pz) (pok pz [])))))))) (eaO (pNm xx n1 3 0 (pSg xx n1 58 (pDg xx n1 7 (pDg xx n1 9 (pSg xx n1 (xx pz) (pok pz []))))))) (xx pz) (dgv xx n1 9 (pSg xx n1 (xx pz) (pok pz []))) (dgv xx n1 7 (pDg xx n1 9 (pSg xx n1 (xx pz) (pok pz [])))) (nmv xx n1 3 (pSg xx n1 58 (pDg xx n1 7 (pDg xx n1 9 (pSg xx n1 (xx pz) (pok pz [])))))) v4 v5) := hD
                  refine lv_aload_n hx hb dX6_readOrder_223 rfl (lv_at hl 0 rfl) ?_
                  refine lv_bipush (v := 45) hx hb dX6_readOrder_224 (by decide) ?_
                  refine mu_V S hkx (mX6_sign l (hP := hP) (hD := hD.weaken (fun _ _ _ _ => trivial)) (mm := mm) (pp := pp) (xx := xx) (th := th) (sv := sv) (n1 := n1) (le := (xx pz)) (v1 := (dgv xx n1 9 (pSg xx n1 (xx pz) (pok pz [])))) (v2 := (dgv xx n1 7 (pDg xx n1 9 (pSg xx n1 (xx pz) (pok pz []))))) (v3 := (nmv xx n1 3 (pSg xx n1 58 (pDg xx n1 7 (pDg xx n1 9 (pSg xx n1 (xx pz) (pok pz []))))))) (v4 := v4) (v5 := v5) (po := (pNm xx n1 3 0 (pSg xx n1 58 (pDg xx n1 7 (pDg xx n1 9 (pSg xx n1 (xx pz) (pok pz []))))))) (sz := 45) (hn1 := hn1) (ho := (wfo_nm (wfo_sg (by decide) (wfo_dg (wfo_dg (wfo_sg (htx pz hp) (show wfo n1 (pok pz []) from (by show pz ≤ n1; omega)))))))) (hs := (by decide))) gX6_readOrder_X6_sign rfl idX6_sign ⟨Nat.le_of_ble_eq_true rfl, Nat.le_of_ble_eq_true rfl⟩ hP 0 rfl rfl rfl rfl hl.1 rfl (Nat.le_of_ble_eq_true rfl) dX6_readOrder_226 ⟨Nat.le_refl _, Nat.le_refl _⟩ hS (fr_in hD (fun q h => hA q (Nat.le_trans hS.1 h))) (fun v H locs hp9 hz1 hk1 hS => ?_)
                  obtain ⟨rfl, hP⟩ := hp9
                  have hP : va_P G vwCl (wMod T r mm pp xx th sv n1 (nI (acO (pSg xx n1 45 (pNm xx n1 3 0 (pSg xx n1 58 (pDg xx n1 7 (pDg xx n1 9 (pSg xx n1 (xx pz) (pok pz []))))))))) (eaO (pSg xx n1 45 (pNm xx n1 3 0 (pSg xx n1 58 (pDg xx n1 7 (pDg xx n1 9 (pSg xx n1 (xx pz) (pok pz [])))))))) (xx pz) (dgv xx n1 9 (pSg xx n1 (xx pz) (pok pz []))) (dgv xx n1 7 (pDg xx n1 9 (pSg xx n1 (xx pz) (pok pz [])))) (nmv xx n1 3 (pSg xx n1 58 (pDg xx n1 7 (pDg xx n1 9 (pSg xx n1 (xx pz) (pok pz [])))))) v4 v5) H := hP
                  have hD : va_D A (wMod T r mm pp xx th sv n1 (nI (acO (pSg xx n1 45 (pNm xx n1 3 0 (pSg xx n1 58 (pDg xx n1 7 (pDg xx n1 9 (pSg xx n1 (xx pz) (pok pz []))))))))) (eaO (pSg xx n1 45 (pNm xx n1 3 0 (pSg xx n1 58 (pDg xx n1 7 (pDg xx n1 9 (pSg xx n1 (xx pz) (pok pz [])))))))) (xx pz) (dgv xx n1 9 (pSg xx n1 (xx pz) (pok pz []))) (dgv xx n1 7 (pDg xx n1 9 (pSg xx n1 (xx pz) (pok pz [])))) (nmv xx n1 3 (pSg xx n1 58 (pDg xx n1 7 (pDg xx n1 9 (pSg xx n1 (xx pz) (pok pz [])))))) v4 v5) := fr_all hD rfl
                  refine W.eq (g2 := F0 m 229 ls []) rfl ?_
                  refine lv_aload_n hx hb dX6_readOrder_229 rfl (lv_at hl 0 rfl) ?_
                  refine lv_aload_n hx hb dX6_readOrder_230 rfl (lv_at hl 0 rfl) ?_
                  refine lv_iconst (v := 3) hx hb dX6_readOrder_231 (by decide) ?_
                  refine lv_iconst (v := 0) hx hb dX6_readOrder_232 (by decide) ?_
                  refine mu_V S hkx (mX6_number l (hP := hP) (hD := hD.weaken (fun _ _ _ _ => trivial)) (mm := mm) (pp := pp) (xx := xx) (th := th) (sv := sv) (n1 := n1) (le := (xx pz)) (v1 := (dgv xx n1 9 (pSg xx n1 (xx pz) (pok pz [])))) (v2 := (dgv xx n1 7 (pDg xx n1 9 (pSg xx n1 (xx pz) (pok pz []))))) (v3 := (nmv xx n1 3 (pSg xx n1 58 (pDg xx n1 7 (pDg xx n1 9 (pSg xx n1 (xx pz) (pok pz []))))))) (v4 := v4) (v5 := v5) (po := (pSg xx n1 45 (pNm xx n1 3 0 (pSg xx n1 58 (pDg xx n1 7 (pDg xx n1 9 (pSg xx n1 (xx pz) (pok pz [])))))))) (kz := 3) (lo := 0) (hn1 := hn1) (ho := (wfo_sg (by decide) (wfo_nm (wfo_sg (by decide) (wfo_dg (wfo_dg (wfo_sg (htx pz hp) (show wfo n1 (pok pz []) from (by show pz ≤ n1; omega))))))))) (hnp := (npe_sg _ _ _ _)) (hk1 := (by omega)) (hk3 := (by omega))) gX6_readOrder_X6_number rfl idX6_number ⟨Nat.le_of_ble_eq_true rfl, Nat.le_of_ble_eq_true rfl⟩ hP 0 rfl rfl rfl rfl hl.1 rfl (Nat.le_of_ble_eq_true rfl) dX6_readOrder_233 ⟨Nat.le_refl _, Nat.le_refl _⟩ hS (fr_in hD (fun q h => hA q (Nat.le_trans hS.1 h))) (fun v H locs hp9 hz1 hk1 hS => ?_)
                  obtain ⟨rfl, hP⟩ := hp9
                  have hP : va_P G vwCl (wMod T r mm pp xx th sv n1 (nI (acO (pNm xx n1 3 0 (pSg xx n1 45 (pNm xx n1 3 0 (pSg xx n1 58 (pDg xx n1 7 (pDg xx n1 9 (pSg xx n1 (xx pz) (pok pz [])))))))))) (eaO (pNm xx n1 3 0 (pSg xx n1 45 (pNm xx n1 3 0 (pSg xx n1 58 (pDg xx n1 7 (pDg xx n1 9 (pSg xx n1 (xx pz) (pok pz []))))))))) (xx pz) (dgv xx n1 9 (pSg xx n1 (xx pz) (pok pz []))) (dgv xx n1 7 (pDg xx n1 9 (pSg xx n1 (xx pz) (pok pz [])))) (nmv xx n1 3 (pSg xx n1 58 (pDg xx n1 7 (pDg xx n1 9 (pSg xx n1 (xx pz) (pok pz [])))))) v4 v5) H := hP
                  have hD : va_D A (wMod T r mm pp xx th sv n1 (nI (acO (pNm xx n1 3 0 (pSg xx n1 45 (pNm xx n1 3 0 (pSg xx n1 58 (pDg xx n1 7 (pDg xx n1 9 (pSg xx n1 (xx pz) (pok pz [])))))))))) (eaO (pNm xx n1 3 0 (pSg xx n1 45 (pNm xx n1 3 0 (pSg xx n1 58 (pDg xx n1 7 (pDg xx n1 9 (pSg xx n1 (xx pz) (pok pz []))))))))) (xx pz) (dgv xx n1 9 (pSg xx n1 (xx pz) (pok pz []))) (dgv xx n1 7 (pDg xx n1 9 (pSg xx n1 (xx pz) (pok pz [])))) (nmv xx n1 3 (pSg xx n1 58 (pDg xx n1 7 (pDg xx n1 9 (pSg xx n1 (xx pz) (pok pz [])))))) v4 v5) := fr_all hD rfl
                  refine W.eq (g2 := F0 m 236 ls [.int (nmv xx n1 3 (pSg xx n1 45 (pNm xx n1 3 0 (pSg xx n1 58 (pDg xx n1 7 (pDg xx n1 9 (pSg xx n1 (xx pz) (pok pz [])))))))), .ref (r 0)]) rfl ?_
                  refine va_put (D := G) (ci := 6) (v := .int (nmv xx n1 3 (pSg xx n1 45 (pNm xx n1 3 0 (pSg xx n1 58 (pDg xx n1 7 (pDg xx n1 9 (pSg xx n1 (xx pz) (pok pz []))))))))) (ty := .int) (C := RX6) (T := TX6) (N := 14) hx hb hts iX6 tyX6 tyX6_ok nmX6 hown hkx.1 hP hD hS 0 rfl rfl 12 (by decide) k182 (fun _ h9 => h9) rfl (by decide +kernel) rfl rfl (Nat.le_of_ble_eq_true rfl) dX6_readOrder_236 (fun H locs hP hD hS => ?_)
                  have hP : va_P G vwCl (wMod T r mm pp xx th sv n1 (nI (acO (pNm xx n1 3 0 (pSg xx n1 45 (pNm xx n1 3 0 (pSg xx n1 58 (pDg xx n1 7 (pDg xx n1 9 (pSg xx n1 (xx pz) (pok pz [])))))))))) (eaO (pNm xx n1 3 0 (pSg xx n1 45 (pNm xx n1 3 0 (pSg xx n1 58 (pDg xx n1 7 (pDg xx n1 9 (pSg xx n1 (xx pz) (pok pz []))))))))) (xx pz) (dgv xx n1 9 (pSg xx n1 (xx pz) (pok pz []))) (dgv xx n1 7 (pDg xx n1 9 (pSg xx n1 (xx pz) (pok pz [])))) (nmv xx n1 3 (pSg xx n1 58 (pDg xx n1 7 (pDg xx n1 9 (pSg xx n1 (xx pz) (pok pz [])))))) (nmv xx n1 3 (pSg xx n1 45 (pNm xx n1 3 0 (pSg xx n1 58 (pDg xx n1 7 (pDg xx n1 9 (pSg xx n1 (xx pz) (pok pz [])))))))) v5) H := hP
                  have hD : va_D A (wMod T r mm pp xx th sv n1 (nI (acO (pNm xx n1 3 0 (pSg xx n1 45 (pNm xx n1 3 0 (pSg xx n1 58 (pDg xx n1 7 (pDg xx n1 9 (pSg xx n1 (xx pz) (pok pz [])))))))))) (eaO (pNm xx n1 3 0 (pSg xx n1 45 (pNm xx n1 3 0 (pSg xx n1 58 (pDg xx n1 7 (pDg xx n1 9 (pSg xx n1 (xx pz) (pok pz []))))))))) (xx pz) (dgv xx n1 9 (pSg xx n1 (xx pz) (pok pz []))) (dgv xx n1 7 (pDg xx n1 9 (pSg xx n1 (xx pz) (pok pz [])))) (nmv xx n1 3 (pSg xx n1 58 (pDg xx n1 7 (pDg xx n1 9 (pSg xx n1 (xx pz) (pok pz [])))))) (nmv xx n1 3 (pSg xx n1 45 (pNm xx n1 3 0 (pSg xx n1 58 (pDg xx n1 7 (pDg xx n1 9 (pSg xx n1 (xx pz) (pok pz [])))))))) v5) := hD
                  refine lv_aload_n hx hb dX6_readOrder_239 rfl (lv_at hl 0 rfl) ?_
                  refine lv_bipush (v := 44) hx hb dX6_readOrder_240 (by decide) ?_
                  refine mu_V S hkx (mX6_sign l (hP := hP) (hD := hD.weaken (fun _ _ _ _ => trivial)) (mm := mm) (pp := pp) (xx := xx) (th := th) (sv := sv) (n1 := n1) (le := (xx pz)) (v1 := (dgv xx n1 9 (pSg xx n1 (xx pz) (pok pz [])))) (v2 := (dgv xx n1 7 (pDg xx n1 9 (pSg xx n1 (xx pz) (pok pz []))))) (v3 := (nmv xx n1 3 (pSg xx n1 58 (pDg xx n1 7 (pDg xx n1 9 (pSg xx n1 (xx pz) (pok pz []))))))) (v4 := (nmv xx n1 3 (pSg xx n1 45 (pNm xx n1 3 0 (pSg xx n1 58 (pDg xx n1 7 (pDg xx n1 9 (pSg xx n1 (xx pz) (pok pz []))))))))) (v5 := v5) (po := (pNm xx n1 3 0 (pSg xx n1 45 (pNm xx n1 3 0 (pSg xx n1 58 (pDg xx n1 7 (pDg xx n1 9 (pSg xx n1 (xx pz) (pok pz []))))))))) (sz := 44) (hn1 := hn1) (ho := (wfo_nm (wfo_sg (by decide) (wfo_nm (wfo_sg (by decide) (wfo_dg (wfo_dg (wfo_sg (htx pz hp) (show wfo n1 (pok pz []) from (by show pz ≤ n1; omega)))))))))) (hs := (by decide))) gX6_readOrder_X6_sign rfl idX6_sign ⟨Nat.le_of_ble_eq_true rfl, Nat.le_of_ble_eq_true rfl⟩ hP 0 rfl rfl rfl rfl hl.1 rfl (Nat.le_of_ble_eq_true rfl) dX6_readOrder_242 ⟨Nat.le_refl _, Nat.le_refl _⟩ hS (fr_in hD (fun q h => hA q (Nat.le_trans hS.1 h))) (fun v H locs hp9 hz1 hk1 hS => ?_)
                  obtain ⟨rfl, hP⟩ := hp9
                  have hP : va_P G vwCl (wMod T r mm pp xx th sv n1 (nI (acO (pSg xx n1 44 (pNm xx n1 3 0 (pSg xx n1 45 (pNm xx n1 3 0 (pSg xx n1 58 (pDg xx n1 7 (pDg xx n1 9 (pSg xx n1 (xx pz) (pok pz []))))))))))) (eaO (pSg xx n1 44 (pNm xx n1 3 0 (pSg xx n1 45 (pNm xx n1 3 0 (pSg xx n1 58 (pDg xx n1 7 (pDg xx n1 9 (pSg xx n1 (xx pz) (pok pz [])))))))))) (xx pz) (dgv xx n1 9 (pSg xx n1 (xx pz) (pok pz []))) (dgv xx n1 7 (pDg xx n1 9 (pSg xx n1 (xx pz) (pok pz [])))) (nmv xx n1 3 (pSg xx n1 58 (pDg xx n1 7 (pDg xx n1 9 (pSg xx n1 (xx pz) (pok pz [])))))) (nmv xx n1 3 (pSg xx n1 45 (pNm xx n1 3 0 (pSg xx n1 58 (pDg xx n1 7 (pDg xx n1 9 (pSg xx n1 (xx pz) (pok pz [])))))))) v5) H := hP
                  have hD : va_D A (wMod T r mm pp xx th sv n1 (nI (acO (pSg xx n1 44 (pNm xx n1 3 0 (pSg xx n1 45 (pNm xx n1 3 0 (pSg xx n1 58 (pDg xx n1 7 (pDg xx n1 9 (pSg xx n1 (xx pz) (pok pz []))))))))))) (eaO (pSg xx n1 44 (pNm xx n1 3 0 (pSg xx n1 45 (pNm xx n1 3 0 (pSg xx n1 58 (pDg xx n1 7 (pDg xx n1 9 (pSg xx n1 (xx pz) (pok pz [])))))))))) (xx pz) (dgv xx n1 9 (pSg xx n1 (xx pz) (pok pz []))) (dgv xx n1 7 (pDg xx n1 9 (pSg xx n1 (xx pz) (pok pz [])))) (nmv xx n1 3 (pSg xx n1 58 (pDg xx n1 7 (pDg xx n1 9 (pSg xx n1 (xx pz) (pok pz [])))))) (nmv xx n1 3 (pSg xx n1 45 (pNm xx n1 3 0 (pSg xx n1 58 (pDg xx n1 7 (pDg xx n1 9 (pSg xx n1 (xx pz) (pok pz [])))))))) v5) := fr_all hD rfl
                  refine W.eq (g2 := F0 m 245 ls []) rfl ?_
                  refine lv_aload_n hx hb dX6_readOrder_245 rfl (lv_at hl 0 rfl) ?_
                  refine lv_aload_n hx hb dX6_readOrder_246 rfl (lv_at hl 0 rfl) ?_
                  refine lv_iconst (v := 2) hx hb dX6_readOrder_247 (by decide) ?_
                  refine lv_iconst (v := 1) hx hb dX6_readOrder_248 (by decide) ?_
                  refine mu_V S hkx (mX6_number l (hP := hP) (hD := hD.weaken (fun _ _ _ _ => trivial)) (mm := mm) (pp := pp) (xx := xx) (th := th) (sv := sv) (n1 := n1) (le := (xx pz)) (v1 := (dgv xx n1 9 (pSg xx n1 (xx pz) (pok pz [])))) (v2 := (dgv xx n1 7 (pDg xx n1 9 (pSg xx n1 (xx pz) (pok pz []))))) (v3 := (nmv xx n1 3 (pSg xx n1 58 (pDg xx n1 7 (pDg xx n1 9 (pSg xx n1 (xx pz) (pok pz []))))))) (v4 := (nmv xx n1 3 (pSg xx n1 45 (pNm xx n1 3 0 (pSg xx n1 58 (pDg xx n1 7 (pDg xx n1 9 (pSg xx n1 (xx pz) (pok pz []))))))))) (v5 := v5) (po := (pSg xx n1 44 (pNm xx n1 3 0 (pSg xx n1 45 (pNm xx n1 3 0 (pSg xx n1 58 (pDg xx n1 7 (pDg xx n1 9 (pSg xx n1 (xx pz) (pok pz [])))))))))) (kz := 2) (lo := 1) (hn1 := hn1) (ho := (wfo_sg (by decide) (wfo_nm (wfo_sg (by decide) (wfo_nm (wfo_sg (by decide) (wfo_dg (wfo_dg (wfo_sg (htx pz hp) (show wfo n1 (pok pz []) from (by show pz ≤ n1; omega))))))))))) (hnp := (npe_sg _ _ _ _)) (hk1 := (by omega)) (hk3 := (by omega))) gX6_readOrder_X6_number rfl idX6_number ⟨Nat.le_of_ble_eq_true rfl, Nat.le_of_ble_eq_true rfl⟩ hP 0 rfl rfl rfl rfl hl.1 rfl (Nat.le_of_ble_eq_true rfl) dX6_readOrder_249 ⟨Nat.le_refl _, Nat.le_refl _⟩ hS (fr_in hD (fun q h => hA q (Nat.le_trans hS.1 h))) (fun v H locs hp9 hz1 hk1 hS => ?_)
                  obtain ⟨rfl, hP⟩ := hp9
                  have hP : va_P G vwCl (wMod T r mm pp xx th sv n1 (nI (acO (pNm xx n1 2 1 (pSg xx n1 44 (pNm xx n1 3 0 (pSg xx n1 45 (pNm xx n1 3 0 (pSg xx n1 58 (pDg xx n1 7 (pDg xx n1 9 (pSg xx n1 (xx pz) (pok pz [])))))))))))) (eaO (pNm xx n1 2 1 (pSg xx n1 44 (pNm xx n1 3 0 (pSg xx n1 45 (pNm xx n1 3 0 (pSg xx n1 58 (pDg xx n1 7 (pDg xx n1 9 (pSg xx n1 (xx pz) (pok pz []))))))))))) (xx pz) (dgv xx n1 9 (pSg xx n1 (xx pz) (pok pz []))) (dgv xx n1 7 (pDg xx n1 9 (pSg xx n1 (xx pz) (pok pz [])))) (nmv xx n1 3 (pSg xx n1 58 (pDg xx n1 7 (pDg xx n1 9 (pSg xx n1 (xx pz) (pok pz [])))))) (nmv xx n1 3 (pSg xx n1 45 (pNm xx n1 3 0 (pSg xx n1 58 (pDg xx n1 7 (pDg xx n1 9 (pSg xx n1 (xx pz) (pok pz [])))))))) v5) H := hP
                  have hD : va_D A (wMod T r mm pp xx th sv n1 (nI (acO (pNm xx n1 2 1 (pSg xx n1 44 (pNm xx n1 3 0 (pSg xx n1 45 (pNm xx n1 3 0 (pSg xx n1 58 (pDg xx n1 7 (pDg xx n1 9 (pSg xx n1 (xx pz) (pok pz [])))))))))))) (eaO (pNm xx n1 2 1 (pSg xx n1 44 (pNm xx n1 3 0 (pSg xx n1 45 (pNm xx n1 3 0 (pSg xx n1 58 (pDg xx n1 7 (pDg xx n1 9 (pSg xx n1 (xx pz) (pok pz []))))))))))) (xx pz) (dgv xx n1 9 (pSg xx n1 (xx pz) (pok pz []))) (dgv xx n1 7 (pDg xx n1 9 (pSg xx n1 (xx pz) (pok pz [])))) (nmv xx n1 3 (pSg xx n1 58 (pDg xx n1 7 (pDg xx n1 9 (pSg xx n1 (xx pz) (pok pz [])))))) (nmv xx n1 3 (pSg xx n1 45 (pNm xx n1 3 0 (pSg xx n1 58 (pDg xx n1 7 (pDg xx n1 9 (pSg xx n1 (xx pz) (pok pz [])))))))) v5) := fr_all hD rfl
                  refine W.eq (g2 := F0 m 252 ls [.int (nmv xx n1 2 (pSg xx n1 44 (pNm xx n1 3 0 (pSg xx n1 45 (pNm xx n1 3 0 (pSg xx n1 58 (pDg xx n1 7 (pDg xx n1 9 (pSg xx n1 (xx pz) (pok pz [])))))))))), .ref (r 0)]) rfl ?_
                  refine va_put (D := G) (ci := 6) (v := .int (nmv xx n1 2 (pSg xx n1 44 (pNm xx n1 3 0 (pSg xx n1 45 (pNm xx n1 3 0 (pSg xx n1 58 (pDg xx n1 7 (pDg xx n1 9 (pSg xx n1 (xx pz) (pok pz []))))))))))) (ty := .int) (C := RX6) (T := TX6) (N := 14) hx hb hts iX6 tyX6 tyX6_ok nmX6 hown hkx.1 hP hD hS 0 rfl rfl 13 (by decide) k185 (fun _ h9 => h9) rfl (by decide +kernel) rfl rfl (Nat.le_of_ble_eq_true rfl) dX6_readOrder_252 (fun H locs hP hD hS => ?_)
                  have hP : va_P G vwCl (wMod T r mm pp xx th sv n1 (nI (acO (pNm xx n1 2 1 (pSg xx n1 44 (pNm xx n1 3 0 (pSg xx n1 45 (pNm xx n1 3 0 (pSg xx n1 58 (pDg xx n1 7 (pDg xx n1 9 (pSg xx n1 (xx pz) (pok pz [])))))))))))) (eaO (pNm xx n1 2 1 (pSg xx n1 44 (pNm xx n1 3 0 (pSg xx n1 45 (pNm xx n1 3 0 (pSg xx n1 58 (pDg xx n1 7 (pDg xx n1 9 (pSg xx n1 (xx pz) (pok pz []))))))))))) (xx pz) (dgv xx n1 9 (pSg xx n1 (xx pz) (pok pz []))) (dgv xx n1 7 (pDg xx n1 9 (pSg xx n1 (xx pz) (pok pz [])))) (nmv xx n1 3 (pSg xx n1 58 (pDg xx n1 7 (pDg xx n1 9 (pSg xx n1 (xx pz) (pok pz [])))))) (nmv xx n1 3 (pSg xx n1 45 (pNm xx n1 3 0 (pSg xx n1 58 (pDg xx n1 7 (pDg xx n1 9 (pSg xx n1 (xx pz) (pok pz [])))))))) (nmv xx n1 2 (pSg xx n1 44 (pNm xx n1 3 0 (pSg xx n1 45 (pNm xx n1 3 0 (pSg xx n1 58 (pDg xx n1 7 (pDg xx n1 9 (pSg xx n1 (xx pz) (pok pz []))))))))))) H := hP
                  have hD : va_D A (wMod T r mm pp xx th sv n1 (nI (acO (pNm xx n1 2 1 (pSg xx n1 44 (pNm xx n1 3 0 (pSg xx n1 45 (pNm xx n1 3 0 (pSg xx n1 58 (pDg xx n1 7 (pDg xx n1 9 (pSg xx n1 (xx pz) (pok pz [])))))))))))) (eaO (pNm xx n1 2 1 (pSg xx n1 44 (pNm xx n1 3 0 (pSg xx n1 45 (pNm xx n1 3 0 (pSg xx n1 58 (pDg xx n1 7 (pDg xx n1 9 (pSg xx n1 (xx pz) (pok pz []))))))))))) (xx pz) (dgv xx n1 9 (pSg xx n1 (xx pz) (pok pz []))) (dgv xx n1 7 (pDg xx n1 9 (pSg xx n1 (xx pz) (pok pz [])))) (nmv xx n1 3 (pSg xx n1 58 (pDg xx n1 7 (pDg xx n1 9 (pSg xx n1 (xx pz) (pok pz [])))))) (nmv xx n1 3 (pSg xx n1 45 (pNm xx n1 3 0 (pSg xx n1 58 (pDg xx n1 7 (pDg xx n1 9 (pSg xx n1 (xx pz) (pok pz [])))))))) (nmv xx n1 2 (pSg xx n1 44 (pNm xx n1 3 0 (pSg xx n1 45 (pNm xx n1 3 0 (pSg xx n1 58 (pDg xx n1 7 (pDg xx n1 9 (pSg xx n1 (xx pz) (pok pz []))))))))))) := hD
                  refine lv_goto (tgt := 277) hx hb dX6_readOrder_255 (by decide) ?_
                  refine lv_aload_n hx hb dX6_readOrder_277 rfl (lv_at hl 0 rfl) ?_
                  refine lv_bipush (v := 59) hx hb dX6_readOrder_278 (by decide) ?_
                  refine mu_V S hkx (mX6_sign l (hP := hP) (hD := hD.weaken (fun _ _ _ _ => trivial)) (mm := mm) (pp := pp) (xx := xx) (th := th) (sv := sv) (n1 := n1) (le := (xx pz)) (v1 := (dgv xx n1 9 (pSg xx n1 (xx pz) (pok pz [])))) (v2 := (dgv xx n1 7 (pDg xx n1 9 (pSg xx n1 (xx pz) (pok pz []))))) (v3 := (nmv xx n1 3 (pSg xx n1 58 (pDg xx n1 7 (pDg xx n1 9 (pSg xx n1 (xx pz) (pok pz []))))))) (v4 := (nmv xx n1 3 (pSg xx n1 45 (pNm xx n1 3 0 (pSg xx n1 58 (pDg xx n1 7 (pDg xx n1 9 (pSg xx n1 (xx pz) (pok pz []))))))))) (v5 := (nmv xx n1 2 (pSg xx n1 44 (pNm xx n1 3 0 (pSg xx n1 45 (pNm xx n1 3 0 (pSg xx n1 58 (pDg xx n1 7 (pDg xx n1 9 (pSg xx n1 (xx pz) (pok pz []))))))))))) (po := (pNm xx n1 2 1 (pSg xx n1 44 (pNm xx n1 3 0 (pSg xx n1 45 (pNm xx n1 3 0 (pSg xx n1 58 (pDg xx n1 7 (pDg xx n1 9 (pSg xx n1 (xx pz) (pok pz []))))))))))) (sz := 59) (hn1 := hn1) (ho := (wfo_nm (wfo_sg (by decide) (wfo_nm (wfo_sg (by decide) (wfo_nm (wfo_sg (by decide) (wfo_dg (wfo_dg (wfo_sg (htx pz hp) (show wfo n1 (pok pz []) from (by show pz ≤ n1; omega)))))))))))) (hs := (by decide))) gX6_readOrder_X6_sign rfl idX6_sign ⟨Nat.le_of_ble_eq_true rfl, Nat.le_of_ble_eq_true rfl⟩ hP 0 rfl rfl rfl rfl hl.1 rfl (Nat.le_of_ble_eq_true rfl) dX6_readOrder_280 ⟨Nat.le_refl _, Nat.le_refl _⟩ hS (fr_in hD (fun q h => hA q (Nat.le_trans hS.1 h))) (fun v H locs hp9 hz1 hk1 hS => ?_)
                  obtain ⟨rfl, hP⟩ := hp9
                  have hP : va_P G vwCl (wMod T r mm pp xx th sv n1 (nI (acO (pSg xx n1 59 (pNm xx n1 2 1 (pSg xx n1 44 (pNm xx n1 3 0 (pSg xx n1 45 (pNm xx n1 3 0 (pSg xx n1 58 (pDg xx n1 7 (pDg xx n1 9 (pSg xx n1 (xx pz) (pok pz []))))))))))))) (eaO (pSg xx n1 59 (pNm xx n1 2 1 (pSg xx n1 44 (pNm xx n1 3 0 (pSg xx n1 45 (pNm xx n1 3 0 (pSg xx n1 58 (pDg xx n1 7 (pDg xx n1 9 (pSg xx n1 (xx pz) (pok pz [])))))))))))) (xx pz) (dgv xx n1 9 (pSg xx n1 (xx pz) (pok pz []))) (dgv xx n1 7 (pDg xx n1 9 (pSg xx n1 (xx pz) (pok pz [])))) (nmv xx n1 3 (pSg xx n1 58 (pDg xx n1 7 (pDg xx n1 9 (pSg xx n1 (xx pz) (pok pz [])))))) (nmv xx n1 3 (pSg xx n1 45 (pNm xx n1 3 0 (pSg xx n1 58 (pDg xx n1 7 (pDg xx n1 9 (pSg xx n1 (xx pz) (pok pz [])))))))) (nmv xx n1 2 (pSg xx n1 44 (pNm xx n1 3 0 (pSg xx n1 45 (pNm xx n1 3 0 (pSg xx n1 58 (pDg xx n1 7 (pDg xx n1 9 (pSg xx n1 (xx pz) (pok pz []))))))))))) H := hP
                  have hD : va_D A (wMod T r mm pp xx th sv n1 (nI (acO (pSg xx n1 59 (pNm xx n1 2 1 (pSg xx n1 44 (pNm xx n1 3 0 (pSg xx n1 45 (pNm xx n1 3 0 (pSg xx n1 58 (pDg xx n1 7 (pDg xx n1 9 (pSg xx n1 (xx pz) (pok pz []))))))))))))) (eaO (pSg xx n1 59 (pNm xx n1 2 1 (pSg xx n1 44 (pNm xx n1 3 0 (pSg xx n1 45 (pNm xx n1 3 0 (pSg xx n1 58 (pDg xx n1 7 (pDg xx n1 9 (pSg xx n1 (xx pz) (pok pz [])))))))))))) (xx pz) (dgv xx n1 9 (pSg xx n1 (xx pz) (pok pz []))) (dgv xx n1 7 (pDg xx n1 9 (pSg xx n1 (xx pz) (pok pz [])))) (nmv xx n1 3 (pSg xx n1 58 (pDg xx n1 7 (pDg xx n1 9 (pSg xx n1 (xx pz) (pok pz [])))))) (nmv xx n1 3 (pSg xx n1 45 (pNm xx n1 3 0 (pSg xx n1 58 (pDg xx n1 7 (pDg xx n1 9 (pSg xx n1 (xx pz) (pok pz [])))))))) (nmv xx n1 2 (pSg xx n1 44 (pNm xx n1 3 0 (pSg xx n1 45 (pNm xx n1 3 0 (pSg xx n1 58 (pDg xx n1 7 (pDg xx n1 9 (pSg xx n1 (xx pz) (pok pz []))))))))))) := fr_all hD rfl
                  refine W.eq (g2 := F0 m 283 ls []) rfl ?_
                  have e9 : prs1 xx n1 pz = (pSg xx n1 59 (pNm xx n1 2 1 (pSg xx n1 44 (pNm xx n1 3 0 (pSg xx n1 45 (pNm xx n1 3 0 (pSg xx n1 58 (pDg xx n1 7 (pDg xx n1 9 (pSg xx n1 (xx pz) (pok pz []))))))))))) := by unfold prs1; rw [if_neg (show ¬ xx pz = 112 by rw [c_13]; decide), if_neg (show ¬ xx pz = 108 by rw [c_13]; decide), if_neg (show ¬ xx pz = 101 by rw [c_13]; decide), if_pos c_13]
                  exact hret _ _ _ _ (show rdP G T r mm pp xx th sv n1 pz none H from ⟨rfl, (dgv xx n1 9 (pSg xx n1 (xx pz) (pok pz []))), (dgv xx n1 7 (pDg xx n1 9 (pSg xx n1 (xx pz) (pok pz [])))), (nmv xx n1 3 (pSg xx n1 58 (pDg xx n1 7 (pDg xx n1 9 (pSg xx n1 (xx pz) (pok pz [])))))), (nmv xx n1 3 (pSg xx n1 45 (pNm xx n1 3 0 (pSg xx n1 58 (pDg xx n1 7 (pDg xx n1 9 (pSg xx n1 (xx pz) (pok pz [])))))))), (nmv xx n1 2 (pSg xx n1 44 (pNm xx n1 3 0 (pSg xx n1 45 (pNm xx n1 3 0 (pSg xx n1 58 (pDg xx n1 7 (pDg xx n1 9 (pSg xx n1 (xx pz) (pok pz [])))))))))), fun q9 ns9 h9 => nms_of (Or.inr (Or.inr (Or.inr (Or.inl ⟨c_13, nms_s (e9.symm.trans h9)⟩)))), by rw [e9]; exact hP⟩) hS dX6_readOrder_283
              · skip
                exact absurd (c_16.symm.trans c_13) (by decide)
          · skip
            exact absurd (c_14.symm.trans c_13) (by decide)
        · skip
          refine lv_aload_n hx hb dX6_readOrder_44 rfl (lv_at hl 0 rfl) ?_
          refine va_get (D := G) (ci := 6) (C := RX6) (T := TX6) (N := 14) hx hb hts iX6 hown hkx.1 hP 0 rfl rfl 8 (by decide) k163 (fun _ h9 => h9) rfl dX6_readOrder_45 ?_
          refine lv_bipush (v := 100) hx hb dX6_readOrder_48 (by decide) ?_
          refine lv_icmp_eq (tgt := 61) hx hb dX6_readOrder_50 (by decide) (fun c_18 => ?_) (fun c_18 => ?_)
          · skip
            have hP : va_P G vwCl (wMod T r mm pp xx th sv n1 (nI (acO (pok pz []))) (eaO (pok pz [])) (xx pz) v1 v2 v3 v4 v5) H := hP
            have hD : va_D A (wMod T r mm pp xx th sv n1 (nI (acO (pok pz []))) (eaO (pok pz [])) (xx pz) v1 v2 v3 v4 v5) := hD
            refine lv_aload_n hx hb dX6_readOrder_61 rfl (lv_at hl 0 rfl) ?_
            refine lv_aload_n hx hb dX6_readOrder_62 rfl (lv_at hl 0 rfl) ?_
            refine va_get (D := G) (ci := 6) (C := RX6) (T := TX6) (N := 14) hx hb hts iX6 hown hkx.1 hP 0 rfl rfl 8 (by decide) k163 (fun _ h9 => h9) rfl dX6_readOrder_63 ?_
            refine mu_V S hkx (mX6_sign l (hP := hP) (hD := hD.weaken (fun _ _ _ _ => trivial)) (mm := mm) (pp := pp) (xx := xx) (th := th) (sv := sv) (n1 := n1) (le := (xx pz)) (v1 := v1) (v2 := v2) (v3 := v3) (v4 := v4) (v5 := v5) (po := (pok pz [])) (sz := (xx pz)) (hn1 := hn1) (ho := (show wfo n1 (pok pz []) from (by show pz ≤ n1; omega))) (hs := (htx pz hp))) gX6_readOrder_X6_sign rfl idX6_sign ⟨Nat.le_of_ble_eq_true rfl, Nat.le_of_ble_eq_true rfl⟩ hP 0 rfl rfl rfl rfl hl.1 rfl (Nat.le_of_ble_eq_true rfl) dX6_readOrder_66 ⟨Nat.le_refl _, Nat.le_refl _⟩ hS (fr_in hD (fun q h => hA q (Nat.le_trans hS.1 h))) (fun v H locs hp9 hz1 hk1 hS => ?_)
            obtain ⟨rfl, hP⟩ := hp9
            have hP : va_P G vwCl (wMod T r mm pp xx th sv n1 (nI (acO (pSg xx n1 (xx pz) (pok pz [])))) (eaO (pSg xx n1 (xx pz) (pok pz []))) (xx pz) v1 v2 v3 v4 v5) H := hP
            have hD : va_D A (wMod T r mm pp xx th sv n1 (nI (acO (pSg xx n1 (xx pz) (pok pz [])))) (eaO (pSg xx n1 (xx pz) (pok pz []))) (xx pz) v1 v2 v3 v4 v5) := fr_all hD rfl
            refine W.eq (g2 := F0 m 69 ls []) rfl ?_
            refine lv_aload_n hx hb dX6_readOrder_69 rfl (lv_at hl 0 rfl) ?_
            refine va_get (D := G) (ci := 6) (C := RX6) (T := TX6) (N := 14) hx hb hts iX6 hown hkx.1 hP 0 rfl rfl 8 (by decide) k163 (fun _ h9 => h9) rfl dX6_readOrder_70 ?_
            refine lv_bipush (v := 112) hx hb dX6_readOrder_73 (by decide) ?_
            refine lv_icmp_ne (tgt := 117) hx hb dX6_readOrder_75 (by decide) (fun c_19 => ?_) (fun c_19 => ?_)
            · skip
              refine lv_aload_n hx hb dX6_readOrder_117 rfl (lv_at hl 0 rfl) ?_
              refine va_get (D := G) (ci := 6) (C := RX6) (T := TX6) (N := 14) hx hb hts iX6 hown hkx.1 hP 0 rfl rfl 8 (by decide) k163 (fun _ h9 => h9) rfl dX6_readOrder_118 ?_
              refine lv_bipush (v := 108) hx hb dX6_readOrder_121 (by decide) ?_
              refine lv_icmp_eq (tgt := 135) hx hb dX6_readOrder_123 (by decide) (fun c_20 => ?_) (fun c_20 => ?_)
              · skip
                exact absurd (c_20.symm.trans c_18) (by decide)
              · skip
                refine lv_aload_n hx hb dX6_readOrder_126 rfl (lv_at hl 0 rfl) ?_
                refine va_get (D := G) (ci := 6) (C := RX6) (T := TX6) (N := 14) hx hb hts iX6 hown hkx.1 hP 0 rfl rfl 8 (by decide) k163 (fun _ h9 => h9) rfl dX6_readOrder_127 ?_
                refine lv_bipush (v := 101) hx hb dX6_readOrder_130 (by decide) ?_
                refine lv_icmp_ne (tgt := 178) hx hb dX6_readOrder_132 (by decide) (fun c_21 => ?_) (fun c_21 => ?_)
                · skip
                  refine lv_aload_n hx hb dX6_readOrder_178 rfl (lv_at hl 0 rfl) ?_
                  refine va_get (D := G) (ci := 6) (C := RX6) (T := TX6) (N := 14) hx hb hts iX6 hown hkx.1 hP 0 rfl rfl 8 (by decide) k163 (fun _ h9 => h9) rfl dX6_readOrder_179 ?_
                  refine lv_bipush (v := 115) hx hb dX6_readOrder_182 (by decide) ?_
                  refine lv_icmp_ne (tgt := 258) hx hb dX6_readOrder_184 (by decide) (fun c_22 => ?_) (fun c_22 => ?_)
                  · skip
                    refine lv_aload_n hx hb dX6_readOrder_258 rfl (lv_at hl 0 rfl) ?_
                    refine va_get (D := G) (ci := 6) (C := RX6) (T := TX6) (N := 14) hx hb hts iX6 hown hkx.1 hP 0 rfl rfl 8 (by decide) k163 (fun _ h9 => h9) rfl dX6_readOrder_259 ?_
                    refine lv_bipush (v := 100) hx hb dX6_readOrder_262 (by decide) ?_
                    refine lv_icmp_ne (tgt := 277) hx hb dX6_readOrder_264 (by decide) (fun c_23 => ?_) (fun c_23 => ?_)
                    · skip
                      exact absurd c_18 c_23
                    · skip
                      refine lv_aload_n hx hb dX6_readOrder_267 rfl (lv_at hl 0 rfl) ?_
                      refine lv_aload_n hx hb dX6_readOrder_268 rfl (lv_at hl 0 rfl) ?_
                      refine lv_iconst (v := 2) hx hb dX6_readOrder_269 (by decide) ?_
                      refine lv_iconst (v := 0) hx hb dX6_readOrder_270 (by decide) ?_
                      refine mu_V S hkx (mX6_number l (hP := hP) (hD := hD.weaken (fun _ _ _ _ => trivial)) (mm := mm) (pp := pp) (xx := xx) (th := th) (sv := sv) (n1 := n1) (le := (xx pz)) (v1 := v1) (v2 := v2) (v3 := v3) (v4 := v4) (v5 := v5) (po := (pSg xx n1 (xx pz) (pok pz []))) (kz := 2) (lo := 0) (hn1 := hn1) (ho := (wfo_sg (htx pz hp) (show wfo n1 (pok pz []) from (by show pz ≤ n1; omega)))) (hnp := (npe_sg _ _ _ _)) (hk1 := (by omega)) (hk3 := (by omega))) gX6_readOrder_X6_number rfl idX6_number ⟨Nat.le_of_ble_eq_true rfl, Nat.le_of_ble_eq_true rfl⟩ hP 0 rfl rfl rfl rfl hl.1 rfl (Nat.le_of_ble_eq_true rfl) dX6_readOrder_271 ⟨Nat.le_refl _, Nat.le_refl _⟩ hS (fr_in hD (fun q h => hA q (Nat.le_trans hS.1 h))) (fun v H locs hp9 hz1 hk1 hS => ?_)
                      obtain ⟨rfl, hP⟩ := hp9
                      have hP : va_P G vwCl (wMod T r mm pp xx th sv n1 (nI (acO (pNm xx n1 2 0 (pSg xx n1 (xx pz) (pok pz []))))) (eaO (pNm xx n1 2 0 (pSg xx n1 (xx pz) (pok pz [])))) (xx pz) v1 v2 v3 v4 v5) H := hP
                      have hD : va_D A (wMod T r mm pp xx th sv n1 (nI (acO (pNm xx n1 2 0 (pSg xx n1 (xx pz) (pok pz []))))) (eaO (pNm xx n1 2 0 (pSg xx n1 (xx pz) (pok pz [])))) (xx pz) v1 v2 v3 v4 v5) := fr_all hD rfl
                      refine W.eq (g2 := F0 m 274 ls [.int (nmv xx n1 2 (pSg xx n1 (xx pz) (pok pz []))), .ref (r 0)]) rfl ?_
                      refine va_put (D := G) (ci := 6) (v := .int (nmv xx n1 2 (pSg xx n1 (xx pz) (pok pz [])))) (ty := .int) (C := RX6) (T := TX6) (N := 14) hx hb hts iX6 tyX6 tyX6_ok nmX6 hown hkx.1 hP hD hS 0 rfl rfl 9 (by decide) k170 (fun _ h9 => h9) rfl (by decide +kernel) rfl rfl (Nat.le_of_ble_eq_true rfl) dX6_readOrder_274 (fun H locs hP hD hS => ?_)
                      have hP : va_P G vwCl (wMod T r mm pp xx th sv n1 (nI (acO (pNm xx n1 2 0 (pSg xx n1 (xx pz) (pok pz []))))) (eaO (pNm xx n1 2 0 (pSg xx n1 (xx pz) (pok pz [])))) (xx pz) (nmv xx n1 2 (pSg xx n1 (xx pz) (pok pz []))) v2 v3 v4 v5) H := hP
                      have hD : va_D A (wMod T r mm pp xx th sv n1 (nI (acO (pNm xx n1 2 0 (pSg xx n1 (xx pz) (pok pz []))))) (eaO (pNm xx n1 2 0 (pSg xx n1 (xx pz) (pok pz [])))) (xx pz) (nmv xx n1 2 (pSg xx n1 (xx pz) (pok pz []))) v2 v3 v4 v5) := hD
                      refine lv_aload_n hx hb dX6_readOrder_277 rfl (lv_at hl 0 rfl) ?_
                      refine lv_bipush (v := 59) hx hb dX6_readOrder_278 (by decide) ?_
                      refine mu_V S hkx (mX6_sign l (hP := hP) (hD := hD.weaken (fun _ _ _ _ => trivial)) (mm := mm) (pp := pp) (xx := xx) (th := th) (sv := sv) (n1 := n1) (le := (xx pz)) (v1 := (nmv xx n1 2 (pSg xx n1 (xx pz) (pok pz [])))) (v2 := v2) (v3 := v3) (v4 := v4) (v5 := v5) (po := (pNm xx n1 2 0 (pSg xx n1 (xx pz) (pok pz [])))) (sz := 59) (hn1 := hn1) (ho := (wfo_nm (wfo_sg (htx pz hp) (show wfo n1 (pok pz []) from (by show pz ≤ n1; omega))))) (hs := (by decide))) gX6_readOrder_X6_sign rfl idX6_sign ⟨Nat.le_of_ble_eq_true rfl, Nat.le_of_ble_eq_true rfl⟩ hP 0 rfl rfl rfl rfl hl.1 rfl (Nat.le_of_ble_eq_true rfl) dX6_readOrder_280 ⟨Nat.le_refl _, Nat.le_refl _⟩ hS (fr_in hD (fun q h => hA q (Nat.le_trans hS.1 h))) (fun v H locs hp9 hz1 hk1 hS => ?_)
                      obtain ⟨rfl, hP⟩ := hp9
                      have hP : va_P G vwCl (wMod T r mm pp xx th sv n1 (nI (acO (pSg xx n1 59 (pNm xx n1 2 0 (pSg xx n1 (xx pz) (pok pz [])))))) (eaO (pSg xx n1 59 (pNm xx n1 2 0 (pSg xx n1 (xx pz) (pok pz []))))) (xx pz) (nmv xx n1 2 (pSg xx n1 (xx pz) (pok pz []))) v2 v3 v4 v5) H := hP
                      have hD : va_D A (wMod T r mm pp xx th sv n1 (nI (acO (pSg xx n1 59 (pNm xx n1 2 0 (pSg xx n1 (xx pz) (pok pz [])))))) (eaO (pSg xx n1 59 (pNm xx n1 2 0 (pSg xx n1 (xx pz) (pok pz []))))) (xx pz) (nmv xx n1 2 (pSg xx n1 (xx pz) (pok pz []))) v2 v3 v4 v5) := fr_all hD rfl
                      refine W.eq (g2 := F0 m 283 ls []) rfl ?_
                      have e9 : prs1 xx n1 pz = (pSg xx n1 59 (pNm xx n1 2 0 (pSg xx n1 (xx pz) (pok pz [])))) := by unfold prs1; rw [if_neg (show ¬ xx pz = 112 by rw [c_18]; decide), if_neg (show ¬ xx pz = 108 by rw [c_18]; decide), if_neg (show ¬ xx pz = 101 by rw [c_18]; decide), if_neg (show ¬ xx pz = 115 by rw [c_18]; decide), if_pos c_18]
                      exact hret _ _ _ _ (show rdP G T r mm pp xx th sv n1 pz none H from ⟨rfl, (nmv xx n1 2 (pSg xx n1 (xx pz) (pok pz []))), v2, v3, v4, v5, fun q9 ns9 h9 => nms_of (Or.inr (Or.inr (Or.inr (Or.inr ⟨c_18, nms_d (e9.symm.trans h9)⟩)))), by rw [e9]; exact hP⟩) hS dX6_readOrder_283
                  · skip
                    exact absurd (c_22.symm.trans c_18) (by decide)
                · skip
                  exact absurd (c_21.symm.trans c_18) (by decide)
            · skip
              exact absurd (c_19.symm.trans c_18) (by decide)
          · skip
            refine lv_aload_n hx hb dX6_readOrder_53 rfl (lv_at hl 0 rfl) ?_
            refine lv_aload_n hx hb dX6_readOrder_54 rfl (lv_at hl 0 rfl) ?_
            refine va_get (D := G) (ci := 6) (C := RX6) (T := TX6) (N := 14) hx hb hts iX6 hown hkx.1 hP 0 rfl rfl 6 (by decide) k151 (fun _ h9 => h9) rfl dX6_readOrder_55 ?_
            refine va_put (D := G) (ci := 6) (v := .int (nI pz)) (ty := .int) (C := RX6) (T := TX6) (N := 14) hx hb hts iX6 tyX6 tyX6_ok nmX6 hown hkx.1 hP hD hS 0 rfl rfl 7 (by decide) k154 (fun _ h9 => h9) rfl (by decide +kernel) rfl rfl (Nat.le_of_ble_eq_true rfl) dX6_readOrder_58 (fun H locs hP hD hS => ?_)
            have hP : va_P G vwCl (wMod T r mm pp xx th sv n1 (nI pz) (nI pz) (xx pz) v1 v2 v3 v4 v5) H := hP
            have hD : va_D A (wMod T r mm pp xx th sv n1 (nI pz) (nI pz) (xx pz) v1 v2 v3 v4 v5) := hD
            have hP : va_P G vwCl (wMod T r mm pp xx th sv n1 (nI (acO (per pz pz))) (eaO (per pz pz)) (xx pz) v1 v2 v3 v4 v5) H := hP
            have hD : va_D A (wMod T r mm pp xx th sv n1 (nI (acO (per pz pz))) (eaO (per pz pz)) (xx pz) v1 v2 v3 v4 v5) := hD
            refine lv_aload_n hx hb dX6_readOrder_61 rfl (lv_at hl 0 rfl) ?_
            refine lv_aload_n hx hb dX6_readOrder_62 rfl (lv_at hl 0 rfl) ?_
            refine va_get (D := G) (ci := 6) (C := RX6) (T := TX6) (N := 14) hx hb hts iX6 hown hkx.1 hP 0 rfl rfl 8 (by decide) k163 (fun _ h9 => h9) rfl dX6_readOrder_63 ?_
            refine mu_V S hkx (mX6_sign l (hP := hP) (hD := hD.weaken (fun _ _ _ _ => trivial)) (mm := mm) (pp := pp) (xx := xx) (th := th) (sv := sv) (n1 := n1) (le := (xx pz)) (v1 := v1) (v2 := v2) (v3 := v3) (v4 := v4) (v5 := v5) (po := (per pz pz)) (sz := (xx pz)) (hn1 := hn1) (ho := (show wfo n1 (per pz pz) from ⟨(by omega), (by omega)⟩)) (hs := (htx pz hp))) gX6_readOrder_X6_sign rfl idX6_sign ⟨Nat.le_of_ble_eq_true rfl, Nat.le_of_ble_eq_true rfl⟩ hP 0 rfl rfl rfl rfl hl.1 rfl (Nat.le_of_ble_eq_true rfl) dX6_readOrder_66 ⟨Nat.le_refl _, Nat.le_refl _⟩ hS (fr_in hD (fun q h => hA q (Nat.le_trans hS.1 h))) (fun v H locs hp9 hz1 hk1 hS => ?_)
            obtain ⟨rfl, hP⟩ := hp9
            have hP : va_P G vwCl (wMod T r mm pp xx th sv n1 (nI (acO (pSg xx n1 (xx pz) (per pz pz)))) (eaO (pSg xx n1 (xx pz) (per pz pz))) (xx pz) v1 v2 v3 v4 v5) H := hP
            have hD : va_D A (wMod T r mm pp xx th sv n1 (nI (acO (pSg xx n1 (xx pz) (per pz pz)))) (eaO (pSg xx n1 (xx pz) (per pz pz))) (xx pz) v1 v2 v3 v4 v5) := fr_all hD rfl
            refine W.eq (g2 := F0 m 69 ls []) rfl ?_
            refine lv_aload_n hx hb dX6_readOrder_69 rfl (lv_at hl 0 rfl) ?_
            refine va_get (D := G) (ci := 6) (C := RX6) (T := TX6) (N := 14) hx hb hts iX6 hown hkx.1 hP 0 rfl rfl 8 (by decide) k163 (fun _ h9 => h9) rfl dX6_readOrder_70 ?_
            refine lv_bipush (v := 112) hx hb dX6_readOrder_73 (by decide) ?_
            refine lv_icmp_ne (tgt := 117) hx hb dX6_readOrder_75 (by decide) (fun c_24 => ?_) (fun c_24 => ?_)
            · skip
              refine lv_aload_n hx hb dX6_readOrder_117 rfl (lv_at hl 0 rfl) ?_
              refine va_get (D := G) (ci := 6) (C := RX6) (T := TX6) (N := 14) hx hb hts iX6 hown hkx.1 hP 0 rfl rfl 8 (by decide) k163 (fun _ h9 => h9) rfl dX6_readOrder_118 ?_
              refine lv_bipush (v := 108) hx hb dX6_readOrder_121 (by decide) ?_
              refine lv_icmp_eq (tgt := 135) hx hb dX6_readOrder_123 (by decide) (fun c_25 => ?_) (fun c_25 => ?_)
              · skip
                exact absurd c_25 c_4
              · skip
                refine lv_aload_n hx hb dX6_readOrder_126 rfl (lv_at hl 0 rfl) ?_
                refine va_get (D := G) (ci := 6) (C := RX6) (T := TX6) (N := 14) hx hb hts iX6 hown hkx.1 hP 0 rfl rfl 8 (by decide) k163 (fun _ h9 => h9) rfl dX6_readOrder_127 ?_
                refine lv_bipush (v := 101) hx hb dX6_readOrder_130 (by decide) ?_
                refine lv_icmp_ne (tgt := 178) hx hb dX6_readOrder_132 (by decide) (fun c_26 => ?_) (fun c_26 => ?_)
                · skip
                  refine lv_aload_n hx hb dX6_readOrder_178 rfl (lv_at hl 0 rfl) ?_
                  refine va_get (D := G) (ci := 6) (C := RX6) (T := TX6) (N := 14) hx hb hts iX6 hown hkx.1 hP 0 rfl rfl 8 (by decide) k163 (fun _ h9 => h9) rfl dX6_readOrder_179 ?_
                  refine lv_bipush (v := 115) hx hb dX6_readOrder_182 (by decide) ?_
                  refine lv_icmp_ne (tgt := 258) hx hb dX6_readOrder_184 (by decide) (fun c_27 => ?_) (fun c_27 => ?_)
                  · skip
                    refine lv_aload_n hx hb dX6_readOrder_258 rfl (lv_at hl 0 rfl) ?_
                    refine va_get (D := G) (ci := 6) (C := RX6) (T := TX6) (N := 14) hx hb hts iX6 hown hkx.1 hP 0 rfl rfl 8 (by decide) k163 (fun _ h9 => h9) rfl dX6_readOrder_259 ?_
                    refine lv_bipush (v := 100) hx hb dX6_readOrder_262 (by decide) ?_
                    refine lv_icmp_ne (tgt := 277) hx hb dX6_readOrder_264 (by decide) (fun c_28 => ?_) (fun c_28 => ?_)
                    · skip
                      refine lv_aload_n hx hb dX6_readOrder_277 rfl (lv_at hl 0 rfl) ?_
                      refine lv_bipush (v := 59) hx hb dX6_readOrder_278 (by decide) ?_
                      refine mu_V S hkx (mX6_sign l (hP := hP) (hD := hD.weaken (fun _ _ _ _ => trivial)) (mm := mm) (pp := pp) (xx := xx) (th := th) (sv := sv) (n1 := n1) (le := (xx pz)) (v1 := v1) (v2 := v2) (v3 := v3) (v4 := v4) (v5 := v5) (po := (pSg xx n1 (xx pz) (per pz pz))) (sz := 59) (hn1 := hn1) (ho := (wfo_sg (htx pz hp) (show wfo n1 (per pz pz) from ⟨(by omega), (by omega)⟩))) (hs := (by decide))) gX6_readOrder_X6_sign rfl idX6_sign ⟨Nat.le_of_ble_eq_true rfl, Nat.le_of_ble_eq_true rfl⟩ hP 0 rfl rfl rfl rfl hl.1 rfl (Nat.le_of_ble_eq_true rfl) dX6_readOrder_280 ⟨Nat.le_refl _, Nat.le_refl _⟩ hS (fr_in hD (fun q h => hA q (Nat.le_trans hS.1 h))) (fun v H locs hp9 hz1 hk1 hS => ?_)
                      obtain ⟨rfl, hP⟩ := hp9
                      have hP : va_P G vwCl (wMod T r mm pp xx th sv n1 (nI (acO (pSg xx n1 59 (pSg xx n1 (xx pz) (per pz pz))))) (eaO (pSg xx n1 59 (pSg xx n1 (xx pz) (per pz pz)))) (xx pz) v1 v2 v3 v4 v5) H := hP
                      have hD : va_D A (wMod T r mm pp xx th sv n1 (nI (acO (pSg xx n1 59 (pSg xx n1 (xx pz) (per pz pz))))) (eaO (pSg xx n1 59 (pSg xx n1 (xx pz) (per pz pz)))) (xx pz) v1 v2 v3 v4 v5) := fr_all hD rfl
                      refine W.eq (g2 := F0 m 283 ls []) rfl ?_
                      have e9 : prs1 xx n1 pz = per pz pz := by unfold prs1; rw [if_neg c_2, if_neg c_4, if_neg c_8, if_neg c_13, if_neg c_18]
                      exact hret _ _ _ _ (show rdP G T r mm pp xx th sv n1 pz none H from ⟨rfl, v1, v2, v3, v4, v5, fun q9 ns9 h9 => (by rw [e9] at h9; cases h9), by rw [e9]; exact hP⟩) hS dX6_readOrder_283
                    · skip
                      exact absurd c_28 c_18
                  · skip
                    exact absurd c_27 c_13
                · skip
                  exact absurd c_26 c_8
            · skip
              exact absurd c_24 c_2
