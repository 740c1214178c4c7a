/-- what the system has behind an order that it looked at -/
def cuP (G : va_G) (T : Nat → ClassId) (q a : Nat → Nat) (N : Nat → Nat) (Z : Nat → Nat → Int32) (b : Nat → Nat → Nat) (M : Nat → Nat → Nat) (Y : Nat → Nat → Nat → Int32) (sc : Nat) (tx : Nat → Int32) (L cu : Nat) (er le : Int32) (nb : Nat → Int32) (nc : Nat) : Option Value → Heap → Prop := fun v9 H9 =>
  (¬ orF N Z le (nb 0) (nb 1) (nb 2) (nb 3) (nb 4) = 0 ∧ v9 = some (.int 0) ∧ va_P G vwCl (wMain T q a N Z b M Y sc tx L cu er le nb nc) H9) ∨
  (orF N Z le (nb 0) (nb 1) (nb 2) (nb 3) (nb 4) = 0 ∧ v9 = some (.int 1) ∧ va_P G vwCl (wMain T q a (apN N le) (apZ N Z le (nb 0) (nb 1) (nb 2) (nb 3) (nb 4)) b M Y sc tx L cu er le nb nc) H9)

theorem idX5_carryOutOrder : yX5_carryOutOrder.cls = RX5 ∧ yX5_carryOutOrder.cls ≠ "java/lang/invoke/MethodHandle" ∧ yX5_carryOutOrder.cls ≠ "java/lang/invoke/VarHandle" ∧ (parseMethodDescriptor yX5_carryOutOrder.desc).map (fun d => d.parameters.length) = some 0 := by decide +kernel

set_option maxHeartbeats 4000000 in
set_option maxRecDepth 100000 in
theorem mX5_carryOutOrder (l : Launch) {G : va_G} {T : Nat → ClassId} {H0 : Heap} {q : Nat → Nat} {a : Nat → Nat} {N : Nat → Nat} {Z : Nat → Nat → Int32} {b : Nat → Nat → Nat} {M : Nat → Nat → Nat} {Y : Nat → Nat → Nat → Int32} {sc : Nat} {tx : Nat → Int32} {L : Nat} {cu : Nat} {er : Int32} {le : Int32} {nb : Nat → Int32} {nc : Nat} (hP : va_P G vwCl (wMain T q a N Z b M Y sc tx L cu er le nb nc) H0) (hD : va_D (fun _ => True) (wMain T q a N Z b M Y sc tx L cu er le nb nc)) (hwf : wf N Z) (hle : le = 112 ∨ le = 108 ∨ le = 101 ∨ le = 115 ∨ le = 100) : mu l yX5_carryOutOrder wsX5_carryOutOrder 2 47 [.ref (q 0)] G T H0 (wMain T q a N Z b M Y sc tx L cu er le nb nc) (cuP G T q a N Z b M Y sc tx L cu er le nb nc) := by
  refine mu_ofi (cc := cX5_carryOutOrder) (maxL := 2) (ret := .boolean) (own := RX5) (by decide +kernel) rfl rfl (Nat.le_of_ble_eq_true rfl) hD ?_
  intro p e s m below meth c Q ls A S hkx hl hD hS hA hret
  obtain ⟨hx, hb, hml, hown, hts⟩ := id S
  have hl : lv_has ls 2 [(0, .ref (q 0))] := hl
  have k27 := hts (.fieldLink RX5 27 "SunsetDates" "orders" "LSunsetDates$Orders;") (by decide +kernel)
  have iX5 : ∀ w ∈ wsX50, w ∈ wsX5_carryOutOrder := by decide +kernel
  have k257 := hts (.fieldLink RX5 257 "SunsetDates$Orders" "numbers" "[I") (by decide +kernel)
  have iX1 : ∀ w ∈ wsX10, w ∈ wsX5_carryOutOrder := by decide +kernel
  have k260 := hts (.fieldLink RX5 260 "SunsetDates$Orders" "letter" "I") (by decide +kernel)
  have k12 := hts (.fieldLink RX5 12 "SunsetDates" "now" "LSunsetDates$Calendar;") (by decide +kernel)
  have k125 := hts (.fieldLink RX5 125 "SunsetDates$Calendar" "shims" "LSunsetDates$Shims;") (by decide +kernel)
  have iX0 : ∀ w ∈ wsX00, w ∈ wsX5_carryOutOrder := by decide +kernel
  have k35 := hts (.fieldLink RX5 35 "SunsetDates$Calendar" "versions" "LSunsetDates$Versions;") (by decide +kernel)
  have k80 := hts (.fieldLink RX5 80 "SunsetDates$Calendar" "users" "LSunsetDates$Users;") (by decide +kernel)
  have hb2 := hwf.1
  refine lv_aload_n hx hb dX5_carryOutOrder_0 rfl (lv_at hl 0 rfl) ?_
  refine va_get (D := G) (ci := 5) (C := RX5) (T := TX5) (N := 4) hx hb hts iX5 hown hkx.1 hP 0 rfl rfl 3 (by decide) k27 (fun _ h9 => h9) rfl dX5_carryOutOrder_1 ?_
  refine va_get (D := G) (ci := 1) (C := RX1) (T := TX1) (N := 7) hx hb hts iX1 hown hkx.1 hP 2 rfl rfl 5 (by decide) k257 (fun _ h9 => h9) rfl dX5_carryOutOrder_4 ?_
  refine lv_astore_n (lv' := [(1, .ref (q 4)), (0, .ref (q 0))]) hx hb dX5_carryOutOrder_7 rfl hl (by decide) rfl (fun ls hl => ?_)
  refine lv_aload_n hx hb dX5_carryOutOrder_8 rfl (lv_at hl 1 rfl) ?_
  refine va_get (D := G) (ci := 5) (C := RX5) (T := TX5) (N := 4) hx hb hts iX5 hown hkx.1 hP 0 rfl rfl 3 (by decide) k27 (fun _ h9 => h9) rfl dX5_carryOutOrder_9 ?_
  refine va_get (D := G) (ci := 1) (C := RX1) (T := TX1) (N := 7) hx hb hts iX1 hown hkx.1 hP 2 rfl rfl 4 (by decide) k260 (fun _ h9 => h9) rfl dX5_carryOutOrder_12 ?_
  by_cases c_1 : le = 100
  · refine lv_lookup (off := 218) (tgt := 233) hx hb dX5_carryOutOrder_15 (by decide) (by rw [c_1]; decide) (by decide) ?_
    refine lv_aload_n hx hb dX5_carryOutOrder_233 rfl (lv_at hl 1 rfl) ?_
    refine va_get (D := G) (ci := 5) (C := RX5) (T := TX5) (N := 4) hx hb hts iX5 hown hkx.1 hP 0 rfl rfl 0 (by decide) k12 (fun _ h9 => h9) rfl dX5_carryOutOrder_234 ?_
    refine lv_aload_n hx hb dX5_carryOutOrder_237 rfl (lv_at hl 0 rfl) ?_
    refine lv_iconst (v := 0) hx hb dX5_carryOutOrder_238 (by decide) ?_
    refine ia hx hb hkx hP 4 rfl 0 rfl (by omega) (by decide) dX5_carryOutOrder_239 ?_
    refine ro_V S hkx (mX0_dropFault l (t := (nb 0)) (hP := P_mid hP)) gX5_carryOutOrder_X0_dropFault rfl idX0_dropFault ⟨Nat.le_of_ble_eq_true rfl, Nat.le_of_ble_eq_true rfl⟩ hP 5 rfl rfl rfl rfl hl.1 rfl (Nat.le_of_ble_eq_true rfl) dX5_carryOutOrder_240 ⟨Nat.le_of_ble_eq_true rfl, Nat.le_of_ble_eq_true rfl⟩ (fun r_2 hr_2 => ?_)
    subst hr_2
    refine lv_if_eq (tgt := 248) hx hb dX5_carryOutOrder_243 (by decide) (fun c_3 => ?_) (fun c_3 => ?_)
    · skip
      obtain ⟨k1, hy1, e1⟩ := dr_ok (N := N) (t := nb 0) (by rw [show drF N (nb 0) = 0 by assumption]; rfl) (by omega)
      refine lv_aload_n hx hb dX5_carryOutOrder_248 rfl (lv_at hl 1 rfl) ?_
      refine va_get (D := G) (ci := 5) (C := RX5) (T := TX5) (N := 4) hx hb hts iX5 hown hkx.1 hP 0 rfl rfl 0 (by decide) k12 (fun _ h9 => h9) rfl dX5_carryOutOrder_249 ?_
      refine va_get (D := G) (ci := 0) (C := RX0) (T := TX0) (N := 4) hx hb hts iX0 hown hkx.1 hP 5 rfl rfl 3 (by decide) k125 (fun _ h9 => h9) rfl dX5_carryOutOrder_252 ?_
      refine lv_aload_n hx hb dX5_carryOutOrder_255 rfl (lv_at hl 0 rfl) ?_
      refine lv_iconst (v := 0) hx hb dX5_carryOutOrder_256 (by decide) ?_
      refine ia hx hb hkx hP 4 rfl 0 rfl (by omega) (by decide) dX5_carryOutOrder_257 ?_
      rw [e1]
      refine mu_V S hkx (mX2_remove l (hP := P_mid hP) (hD := (D_mid hD).weaken (fun _ _ _ _ => trivial)) (a := a) (N := N) (Z := Z) (t := k1) (ht := (by omega)) (hs := (by omega))) gX5_carryOutOrder_X2_remove rfl idX2_remove ⟨Nat.le_of_ble_eq_true rfl, Nat.le_of_ble_eq_true rfl⟩ hP 18 rfl rfl rfl rfl hl.1 rfl (Nat.le_of_ble_eq_true rfl) dX5_carryOutOrder_258 ⟨Nat.le_of_ble_eq_true rfl, Nat.le_of_ble_eq_true rfl⟩ hS (fr_in (D_mid hD) (fun q h => hA q (Nat.le_trans hS.1 h))) (fun v H locs hp9 hz1 hk1 hS => ?_)
      obtain ⟨rfl, hPc⟩ := hp9
      obtain ⟨hP, hD⟩ := fr_mid hP hD hk1 hPc rfl
      have hP : va_P G vwCl (wMain T q a (va_up N 3 (N 3 - 1)) (sDel Z k1 (N 3 - 1)) b M Y sc tx L cu er le nb nc) H := hP
      have hD : va_D A (wMain T q a (va_up N 3 (N 3 - 1)) (sDel Z k1 (N 3 - 1)) b M Y sc tx L cu er le nb nc) := hD
      refine W.eq (g2 := F0 m 261 ls []) rfl ?_
      refine lv_iconst (v := 1) hx hb dX5_carryOutOrder_261 (by decide) ?_
      exact hret _ _ _ _ _ (show cuP G T q a N Z b M Y sc tx L cu er le nb nc (some (Value.int 1)) H from Or.inr ⟨by unfold orF; rw [if_neg (show ¬ le = 112 by rw [c_1]; decide), if_neg (show ¬ le = 108 by rw [c_1]; decide), if_neg (show ¬ le = 101 by rw [c_1]; decide), if_neg (show ¬ le = 115 by rw [c_1]; decide)]; assumption, rfl, by unfold apN apZ; rw [if_neg (show ¬ le = 112 by rw [c_1]; decide), if_neg (show ¬ le = 108 by rw [c_1]; decide), if_neg (show ¬ le = 101 by rw [c_1]; decide), if_neg (show ¬ le = 115 by rw [c_1]; decide)]; rw [if_neg (show ¬ le = 112 by rw [c_1]; decide), if_neg (show ¬ le = 108 by rw [c_1]; decide), if_neg (show ¬ le = 101 by rw [c_1]; decide), if_neg (show ¬ le = 115 by rw [c_1]; decide)]; rw [show tn (nb 0) = k1 by rw [e1]; exact nI_clamp (by omega)]; exact hP⟩) rfl hS dX5_carryOutOrder_262
    · skip
      refine lv_iconst (v := 0) hx hb dX5_carryOutOrder_246 (by decide) ?_
      exact hret _ _ _ _ _ (show cuP G T q a N Z b M Y sc tx L cu er le nb nc (some (Value.int 0)) H0 from Or.inl ⟨by unfold orF; rw [if_neg (show ¬ le = 112 by rw [c_1]; decide), if_neg (show ¬ le = 108 by rw [c_1]; decide), if_neg (show ¬ le = 101 by rw [c_1]; decide), if_neg (show ¬ le = 115 by rw [c_1]; decide)]; assumption, rfl, hP⟩) rfl hS dX5_carryOutOrder_247
  by_cases c_4 : le = 101
  · refine lv_lookup (off := 127) (tgt := 142) hx hb dX5_carryOutOrder_15 (by decide) (by rw [c_4]; decide) (by decide) ?_
    refine lv_aload_n hx hb dX5_carryOutOrder_142 rfl (lv_at hl 1 rfl) ?_
    refine va_get (D := G) (ci := 5) (C := RX5) (T := TX5) (N := 4) hx hb hts iX5 hown hkx.1 hP 0 rfl rfl 0 (by decide) k12 (fun _ h9 => h9) rfl dX5_carryOutOrder_143 ?_
    refine lv_aload_n hx hb dX5_carryOutOrder_146 rfl (lv_at hl 0 rfl) ?_
    refine lv_iconst (v := 0) hx hb dX5_carryOutOrder_147 (by decide) ?_
    refine ia hx hb hkx hP 4 rfl 0 rfl (by omega) (by decide) dX5_carryOutOrder_148 ?_
    refine lv_aload_n hx hb dX5_carryOutOrder_149 rfl (lv_at hl 0 rfl) ?_
    refine lv_iconst (v := 1) hx hb dX5_carryOutOrder_150 (by decide) ?_
    refine ia hx hb hkx hP 4 rfl 1 rfl (by omega) (by decide) dX5_carryOutOrder_151 ?_
    refine ro_V S hkx (mX0_extendFault l (v := (nb 0)) (t := (nb 1)) (hP := P_mid hP) (hs := (by omega))) gX5_carryOutOrder_X0_extendFault rfl idX0_extendFault ⟨Nat.le_of_ble_eq_true rfl, Nat.le_of_ble_eq_true rfl⟩ hP 5 rfl rfl rfl rfl hl.1 rfl (Nat.le_of_ble_eq_true rfl) dX5_carryOutOrder_152 ⟨Nat.le_of_ble_eq_true rfl, Nat.le_of_ble_eq_true rfl⟩ (fun r_5 hr_5 => ?_)
    subst hr_5
    refine lv_if_eq (tgt := 160) hx hb dX5_carryOutOrder_155 (by decide) (fun c_6 => ?_) (fun c_6 => ?_)
    · skip
      obtain ⟨k1, k2, hy1, hy2a, hy2, e1, e2, hy3⟩ := ex_ok (N := N) (Z := Z) (v := nb 0) (t := nb 1) (by rw [show exF N Z (nb 0) (nb 1) = 0 by assumption]; rfl) (by omega)
      refine lv_aload_n hx hb dX5_carryOutOrder_160 rfl (lv_at hl 1 rfl) ?_
      refine va_get (D := G) (ci := 5) (C := RX5) (T := TX5) (N := 4) hx hb hts iX5 hown hkx.1 hP 0 rfl rfl 0 (by decide) k12 (fun _ h9 => h9) rfl dX5_carryOutOrder_161 ?_
      refine va_get (D := G) (ci := 0) (C := RX0) (T := TX0) (N := 4) hx hb hts iX0 hown hkx.1 hP 5 rfl rfl 0 (by decide) k35 (fun _ h9 => h9) rfl dX5_carryOutOrder_164 ?_
      refine lv_aload_n hx hb dX5_carryOutOrder_167 rfl (lv_at hl 0 rfl) ?_
      refine lv_iconst (v := 0) hx hb dX5_carryOutOrder_168 (by decide) ?_
      refine ia hx hb hkx hP 4 rfl 0 rfl (by omega) (by decide) dX5_carryOutOrder_169 ?_
      rw [e1]
      refine lv_aload_n hx hb dX5_carryOutOrder_170 rfl (lv_at hl 0 rfl) ?_
      refine lv_iconst (v := 1) hx hb dX5_carryOutOrder_171 (by decide) ?_
      refine ia hx hb hkx hP 4 rfl 1 rfl (by omega) (by decide) dX5_carryOutOrder_172 ?_
      rw [e2]
      refine mu_V S hkx (mX4_moveEnd l (hP := P_mid hP) (hD := (D_mid hD).weaken (fun _ _ _ _ => trivial)) (a := a) (N := N) (Z := Z) (v := k1) (t := (nI k2)) (hv := (by omega))) gX5_carryOutOrder_X4_moveEnd rfl idX4_moveEnd ⟨Nat.le_of_ble_eq_true rfl, Nat.le_of_ble_eq_true rfl⟩ hP 6 rfl rfl rfl rfl hl.1 rfl (Nat.le_of_ble_eq_true rfl) dX5_carryOutOrder_173 ⟨Nat.le_of_ble_eq_true rfl, Nat.le_of_ble_eq_true rfl⟩ hS (fr_in (D_mid hD) (fun q h => hA q (Nat.le_trans hS.1 h))) (fun v H locs hp9 hz1 hk1 hS => ?_)
      obtain ⟨rfl, hPc⟩ := hp9
      obtain ⟨hP, hD⟩ := fr_mid hP hD hk1 hPc rfl
      have hP : va_P G vwCl (wMain T q a N (vExt Z k1 (nI k2)) b M Y sc tx L cu er le nb nc) H := hP
      have hD : va_D A (wMain T q a N (vExt Z k1 (nI k2)) b M Y sc tx L cu er le nb nc) := hD
      refine W.eq (g2 := F0 m 176 ls []) rfl ?_
      refine lv_iconst (v := 1) hx hb dX5_carryOutOrder_176 (by decide) ?_
      exact hret _ _ _ _ _ (show cuP G T q a N Z b M Y sc tx L cu er le nb nc (some (Value.int 1)) H from Or.inr ⟨by unfold orF; rw [if_neg (show ¬ le = 112 by rw [c_4]; decide), if_neg (show ¬ le = 108 by rw [c_4]; decide), if_pos c_4]; assumption, rfl, by unfold apN apZ; rw [if_neg (show ¬ le = 112 by rw [c_4]; decide), if_neg (show ¬ le = 108 by rw [c_4]; decide), if_pos c_4]; rw [if_neg (show ¬ le = 112 by rw [c_4]; decide), if_neg (show ¬ le = 108 by rw [c_4]; decide), if_pos c_4]; rw [show tn (nb 0) = k1 by rw [e1]; exact nI_clamp (by omega)]; rw [e2]; exact hP⟩) rfl hS dX5_carryOutOrder_177
    · skip
      refine lv_iconst (v := 0) hx hb dX5_carryOutOrder_158 (by decide) ?_
      exact hret _ _ _ _ _ (show cuP G T q a N Z b M Y sc tx L cu er le nb nc (some (Value.int 0)) H0 from Or.inl ⟨by unfold orF; rw [if_neg (show ¬ le = 112 by rw [c_4]; decide), if_neg (show ¬ le = 108 by rw [c_4]; decide), if_pos c_4]; assumption, rfl, hP⟩) rfl hS dX5_carryOutOrder_159
  by_cases c_7 : le = 108
  · refine lv_lookup (off := 91) (tgt := 106) hx hb dX5_carryOutOrder_15 (by decide) (by rw [c_7]; decide) (by decide) ?_
    refine lv_aload_n hx hb dX5_carryOutOrder_106 rfl (lv_at hl 1 rfl) ?_
    refine va_get (D := G) (ci := 5) (C := RX5) (T := TX5) (N := 4) hx hb hts iX5 hown hkx.1 hP 0 rfl rfl 0 (by decide) k12 (fun _ h9 => h9) rfl dX5_carryOutOrder_107 ?_
    refine lv_aload_n hx hb dX5_carryOutOrder_110 rfl (lv_at hl 0 rfl) ?_
    refine lv_iconst (v := 0) hx hb dX5_carryOutOrder_111 (by decide) ?_
    refine ia hx hb hkx hP 4 rfl 0 rfl (by omega) (by decide) dX5_carryOutOrder_112 ?_
    refine lv_aload_n hx hb dX5_carryOutOrder_113 rfl (lv_at hl 0 rfl) ?_
    refine lv_iconst (v := 1) hx hb dX5_carryOutOrder_114 (by decide) ?_
    refine ia hx hb hkx hP 4 rfl 1 rfl (by omega) (by decide) dX5_carryOutOrder_115 ?_
    refine ro_V S hkx (mX0_slipFault l (u := (nb 0)) (t := (nb 1)) (hP := P_mid hP) (hs := (by omega))) gX5_carryOutOrder_X0_slipFault rfl idX0_slipFault ⟨Nat.le_of_ble_eq_true rfl, Nat.le_of_ble_eq_true rfl⟩ hP 5 rfl rfl rfl rfl hl.1 rfl (Nat.le_of_ble_eq_true rfl) dX5_carryOutOrder_116 ⟨Nat.le_of_ble_eq_true rfl, Nat.le_of_ble_eq_true rfl⟩ (fun r_8 hr_8 => ?_)
    subst hr_8
    refine lv_if_eq (tgt := 124) hx hb dX5_carryOutOrder_119 (by decide) (fun c_9 => ?_) (fun c_9 => ?_)
    · skip
      obtain ⟨k1, k2, hy1, hy2a, hy2, e1, e2, hy3, hy4⟩ := sl_ok (N := N) (Z := Z) (u := nb 0) (t := nb 1) (by rw [show slF N Z (nb 0) (nb 1) = 0 by assumption]; rfl) (by omega)
      refine lv_aload_n hx hb dX5_carryOutOrder_124 rfl (lv_at hl 1 rfl) ?_
      refine va_get (D := G) (ci := 5) (C := RX5) (T := TX5) (N := 4) hx hb hts iX5 hown hkx.1 hP 0 rfl rfl 0 (by decide) k12 (fun _ h9 => h9) rfl dX5_carryOutOrder_125 ?_
      refine va_get (D := G) (ci := 0) (C := RX0) (T := TX0) (N := 4) hx hb hts iX0 hown hkx.1 hP 5 rfl rfl 2 (by decide) k80 (fun _ h9 => h9) rfl dX5_carryOutOrder_128 ?_
      refine lv_aload_n hx hb dX5_carryOutOrder_131 rfl (lv_at hl 0 rfl) ?_
      refine lv_iconst (v := 0) hx hb dX5_carryOutOrder_132 (by decide) ?_
      refine ia hx hb hkx hP 4 rfl 0 rfl (by omega) (by decide) dX5_carryOutOrder_133 ?_
      rw [e1]
      refine lv_aload_n hx hb dX5_carryOutOrder_134 rfl (lv_at hl 0 rfl) ?_
      refine lv_iconst (v := 1) hx hb dX5_carryOutOrder_135 (by decide) ?_
      refine ia hx hb hkx hP 4 rfl 1 rfl (by omega) (by decide) dX5_carryOutOrder_136 ?_
      rw [e2]
      refine mu_V S hkx (mX3_letSlip l (hP := P_mid hP) (hD := (D_mid hD).weaken (fun _ _ _ _ => trivial)) (a := a) (N := N) (Z := Z) (u := k1) (t := (nI k2)) (hu := (by omega))) gX5_carryOutOrder_X3_letSlip rfl idX3_letSlip ⟨Nat.le_of_ble_eq_true rfl, Nat.le_of_ble_eq_true rfl⟩ hP 11 rfl rfl rfl rfl hl.1 rfl (Nat.le_of_ble_eq_true rfl) dX5_carryOutOrder_137 ⟨Nat.le_of_ble_eq_true rfl, Nat.le_of_ble_eq_true rfl⟩ hS (fr_in (D_mid hD) (fun q h => hA q (Nat.le_trans hS.1 h))) (fun v H locs hp9 hz1 hk1 hS => ?_)
      obtain ⟨rfl, hPc⟩ := hp9
      obtain ⟨hP, hD⟩ := fr_mid hP hD hk1 hPc rfl
      have hP : va_P G vwCl (wMain T q a N (uSl Z k1 (nI k2)) b M Y sc tx L cu er le nb nc) H := hP
      have hD : va_D A (wMain T q a N (uSl Z k1 (nI k2)) b M Y sc tx L cu er le nb nc) := hD
      refine W.eq (g2 := F0 m 140 ls []) rfl ?_
      refine lv_iconst (v := 1) hx hb dX5_carryOutOrder_140 (by decide) ?_
      exact hret _ _ _ _ _ (show cuP G T q a N Z b M Y sc tx L cu er le nb nc (some (Value.int 1)) H from Or.inr ⟨by unfold orF; rw [if_neg (show ¬ le = 112 by rw [c_7]; decide), if_pos c_7]; assumption, rfl, by unfold apN apZ; rw [if_neg (show ¬ le = 112 by rw [c_7]; decide), if_pos c_7]; rw [if_neg (show ¬ le = 112 by rw [c_7]; decide), if_pos c_7]; rw [show tn (nb 0) = k1 by rw [e1]; exact nI_clamp (by omega)]; rw [e2]; exact hP⟩) rfl hS dX5_carryOutOrder_141
    · skip
      refine lv_iconst (v := 0) hx hb dX5_carryOutOrder_122 (by decide) ?_
      exact hret _ _ _ _ _ (show cuP G T q a N Z b M Y sc tx L cu er le nb nc (some (Value.int 0)) H0 from Or.inl ⟨by unfold orF; rw [if_neg (show ¬ le = 112 by rw [c_7]; decide), if_pos c_7]; assumption, rfl, hP⟩) rfl hS dX5_carryOutOrder_123
  by_cases c_10 : le = 112
  · refine lv_lookup (off := 49) (tgt := 64) hx hb dX5_carryOutOrder_15 (by decide) (by rw [c_10]; decide) (by decide) ?_
    refine lv_aload_n hx hb dX5_carryOutOrder_64 rfl (lv_at hl 1 rfl) ?_
    refine va_get (D := G) (ci := 5) (C := RX5) (T := TX5) (N := 4) hx hb hts iX5 hown hkx.1 hP 0 rfl rfl 0 (by decide) k12 (fun _ h9 => h9) rfl dX5_carryOutOrder_65 ?_
    refine lv_aload_n hx hb dX5_carryOutOrder_68 rfl (lv_at hl 0 rfl) ?_
    refine lv_iconst (v := 0) hx hb dX5_carryOutOrder_69 (by decide) ?_
    refine ia hx hb hkx hP 4 rfl 0 rfl (by omega) (by decide) dX5_carryOutOrder_70 ?_
    refine lv_aload_n hx hb dX5_carryOutOrder_71 rfl (lv_at hl 0 rfl) ?_
    refine lv_iconst (v := 1) hx hb dX5_carryOutOrder_72 (by decide) ?_
    refine ia hx hb hkx hP 4 rfl 1 rfl (by omega) (by decide) dX5_carryOutOrder_73 ?_
    refine lv_aload_n hx hb dX5_carryOutOrder_74 rfl (lv_at hl 0 rfl) ?_
    refine lv_iconst (v := 2) hx hb dX5_carryOutOrder_75 (by decide) ?_
    refine ia hx hb hkx hP 4 rfl 2 rfl (by omega) (by decide) dX5_carryOutOrder_76 ?_
    refine ro_V S hkx (mX0_pledgeFault l (u := (nb 0)) (v := (nb 1)) (d := (nb 2)) (hP := P_mid hP)) gX5_carryOutOrder_X0_pledgeFault rfl idX0_pledgeFault ⟨Nat.le_of_ble_eq_true rfl, Nat.le_of_ble_eq_true rfl⟩ hP 5 rfl rfl rfl rfl hl.1 rfl (Nat.le_of_ble_eq_true rfl) dX5_carryOutOrder_77 ⟨Nat.le_of_ble_eq_true rfl, Nat.le_of_ble_eq_true rfl⟩ (fun r_11 hr_11 => ?_)
    subst hr_11
    refine lv_if_eq (tgt := 85) hx hb dX5_carryOutOrder_80 (by decide) (fun c_12 => ?_) (fun c_12 => ?_)
    · skip
      obtain ⟨k1, k2, k3, hy1, hy2, hy3, e1, e2, e3⟩ := pl_ok (N := N) (u := nb 0) (v := nb 1) (d := nb 2) (by rw [show plF N (nb 0) (nb 1) (nb 2) = 0 by assumption]; rfl) (by omega) (by omega)
      refine lv_aload_n hx hb dX5_carryOutOrder_85 rfl (lv_at hl 1 rfl) ?_
      refine va_get (D := G) (ci := 5) (C := RX5) (T := TX5) (N := 4) hx hb hts iX5 hown hkx.1 hP 0 rfl rfl 0 (by decide) k12 (fun _ h9 => h9) rfl dX5_carryOutOrder_86 ?_
      refine va_get (D := G) (ci := 0) (C := RX0) (T := TX0) (N := 4) hx hb hts iX0 hown hkx.1 hP 5 rfl rfl 2 (by decide) k80 (fun _ h9 => h9) rfl dX5_carryOutOrder_89 ?_
      refine lv_aload_n hx hb dX5_carryOutOrder_92 rfl (lv_at hl 0 rfl) ?_
      refine lv_iconst (v := 0) hx hb dX5_carryOutOrder_93 (by decide) ?_
      refine ia hx hb hkx hP 4 rfl 0 rfl (by omega) (by decide) dX5_carryOutOrder_94 ?_
      rw [e1]
      refine lv_aload_n hx hb dX5_carryOutOrder_95 rfl (lv_at hl 0 rfl) ?_
      refine lv_iconst (v := 1) hx hb dX5_carryOutOrder_96 (by decide) ?_
      refine ia hx hb hkx hP 4 rfl 1 rfl (by omega) (by decide) dX5_carryOutOrder_97 ?_
      refine lv_aload_n hx hb dX5_carryOutOrder_98 rfl (lv_at hl 0 rfl) ?_
      refine lv_iconst (v := 2) hx hb dX5_carryOutOrder_99 (by decide) ?_
      refine ia hx hb hkx hP 4 rfl 2 rfl (by omega) (by decide) dX5_carryOutOrder_100 ?_
      refine mu_V S hkx (mX3_setPledge l (hP := P_mid hP) (hD := (D_mid hD).weaken (fun _ _ _ _ => trivial)) (a := a) (N := N) (Z := Z) (u := k1) (v := (nb 1)) (d := (nb 2)) (hu := (by omega))) gX5_carryOutOrder_X3_setPledge rfl idX3_setPledge ⟨Nat.le_of_ble_eq_true rfl, Nat.le_of_ble_eq_true rfl⟩ hP 11 rfl rfl rfl rfl hl.1 rfl (Nat.le_of_ble_eq_true rfl) dX5_carryOutOrder_101 ⟨Nat.le_of_ble_eq_true rfl, Nat.le_of_ble_eq_true rfl⟩ hS (fr_in (D_mid hD) (fun q h => hA q (Nat.le_trans hS.1 h))) (fun v H locs hp9 hz1 hk1 hS => ?_)
      obtain ⟨rfl, hPc⟩ := hp9
      obtain ⟨hP, hD⟩ := fr_mid hP hD hk1 hPc rfl
      have hP : va_P G vwCl (wMain T q a N (uPl Z k1 (nb 1) (nb 2)) b M Y sc tx L cu er le nb nc) H := hP
      have hD : va_D A (wMain T q a N (uPl Z k1 (nb 1) (nb 2)) b M Y sc tx L cu er le nb nc) := hD
      refine W.eq (g2 := F0 m 104 ls []) rfl ?_
      refine lv_iconst (v := 1) hx hb dX5_carryOutOrder_104 (by decide) ?_
      exact hret _ _ _ _ _ (show cuP G T q a N Z b M Y sc tx L cu er le nb nc (some (Value.int 1)) H from Or.inr ⟨by unfold orF; rw [if_pos c_10]; assumption, rfl, by unfold apN apZ; rw [if_pos c_10]; rw [if_pos c_10]; rw [show tn (nb 0) = k1 by rw [e1]; exact nI_clamp (by omega)]; exact hP⟩) rfl hS dX5_carryOutOrder_105
    · skip
      refine lv_iconst (v := 0) hx hb dX5_carryOutOrder_83 (by decide) ?_
      exact hret _ _ _ _ _ (show cuP G T q a N Z b M Y sc tx L cu er le nb nc (some (Value.int 0)) H0 from Or.inl ⟨by unfold orF; rw [if_pos c_10]; assumption, rfl, hP⟩) rfl hS dX5_carryOutOrder_84
  by_cases c_13 : le = 115
  · refine lv_lookup (off := 163) (tgt := 178) hx hb dX5_carryOutOrder_15 (by decide) (by rw [c_13]; decide) (by decide) ?_
    refine lv_aload_n hx hb dX5_carryOutOrder_178 rfl (lv_at hl 1 rfl) ?_
    refine va_get (D := G) (ci := 5) (C := RX5) (T := TX5) (N := 4) hx hb hts iX5 hown hkx.1 hP 0 rfl rfl 0 (by decide) k12 (fun _ h9 => h9) rfl dX5_carryOutOrder_179 ?_
    refine lv_aload_n hx hb dX5_carryOutOrder_182 rfl (lv_at hl 0 rfl) ?_
    refine lv_iconst (v := 0) hx hb dX5_carryOutOrder_183 (by decide) ?_
    refine ia hx hb hkx hP 4 rfl 0 rfl (by omega) (by decide) dX5_carryOutOrder_184 ?_
    refine lv_aload_n hx hb dX5_carryOutOrder_185 rfl (lv_at hl 0 rfl) ?_
    refine lv_iconst (v := 1) hx hb dX5_carryOutOrder_186 (by decide) ?_
    refine ia hx hb hkx hP 4 rfl 1 rfl (by omega) (by decide) dX5_carryOutOrder_187 ?_
    refine lv_aload_n hx hb dX5_carryOutOrder_188 rfl (lv_at hl 0 rfl) ?_
    refine lv_iconst (v := 2) hx hb dX5_carryOutOrder_189 (by decide) ?_
    refine ia hx hb hkx hP 4 rfl 2 rfl (by omega) (by decide) dX5_carryOutOrder_190 ?_
    refine lv_aload_n hx hb dX5_carryOutOrder_191 rfl (lv_at hl 0 rfl) ?_
    refine lv_iconst (v := 3) hx hb dX5_carryOutOrder_192 (by decide) ?_
    refine ia hx hb hkx hP 4 rfl 3 rfl (by omega) (by decide) dX5_carryOutOrder_193 ?_
    refine lv_aload_n hx hb dX5_carryOutOrder_194 rfl (lv_at hl 0 rfl) ?_
    refine lv_iconst (v := 4) hx hb dX5_carryOutOrder_195 (by decide) ?_
    refine ia hx hb hkx hP 4 rfl 4 rfl (by omega) (by decide) dX5_carryOutOrder_196 ?_
    refine ro_V S hkx (mX0_shimFault l (f := (nb 0)) (v := (nb 1)) (x := (nb 2)) (z := (nb 3)) (q := (nb 4)) (hP := P_mid hP) (hs := (by omega))) gX5_carryOutOrder_X0_shimFault rfl idX0_shimFault ⟨Nat.le_of_ble_eq_true rfl, Nat.le_of_ble_eq_true rfl⟩ hP 5 rfl rfl rfl rfl hl.1 rfl (Nat.le_of_ble_eq_true rfl) dX5_carryOutOrder_197 ⟨Nat.le_of_ble_eq_true rfl, Nat.le_of_ble_eq_true rfl⟩ (fun r_14 hr_14 => ?_)
    subst hr_14
    refine lv_if_eq (tgt := 205) hx hb dX5_carryOutOrder_200 (by decide) (fun c_15 => ?_) (fun c_15 => ?_)
    · skip
      obtain ⟨-, -, -, -, -, -, -, -, -, -, -, -, -, -, -, -, hy3⟩ := sh_ok (N := N) (f := nb 0) (v := nb 1) (x := nb 2) (z := nb 3) (y := nb 4) (by rw [show shF N (nb 0) (nb 1) (nb 2) (nb 3) (nb 4) = 0 by assumption]; rfl) (by omega) (by omega)
      refine lv_aload_n hx hb dX5_carryOutOrder_205 rfl (lv_at hl 1 rfl) ?_
      refine va_get (D := G) (ci := 5) (C := RX5) (T := TX5) (N := 4) hx hb hts iX5 hown hkx.1 hP 0 rfl rfl 0 (by decide) k12 (fun _ h9 => h9) rfl dX5_carryOutOrder_206 ?_
      refine va_get (D := G) (ci := 0) (C := RX0) (T := TX0) (N := 4) hx hb hts iX0 hown hkx.1 hP 5 rfl rfl 3 (by decide) k125 (fun _ h9 => h9) rfl dX5_carryOutOrder_209 ?_
      refine lv_aload_n hx hb dX5_carryOutOrder_212 rfl (lv_at hl 0 rfl) ?_
      refine lv_iconst (v := 0) hx hb dX5_carryOutOrder_213 (by decide) ?_
      refine ia hx hb hkx hP 4 rfl 0 rfl (by omega) (by decide) dX5_carryOutOrder_214 ?_
      refine lv_aload_n hx hb dX5_carryOutOrder_215 rfl (lv_at hl 0 rfl) ?_
      refine lv_iconst (v := 1) hx hb dX5_carryOutOrder_216 (by decide) ?_
      refine ia hx hb hkx hP 4 rfl 1 rfl (by omega) (by decide) dX5_carryOutOrder_217 ?_
      refine lv_aload_n hx hb dX5_carryOutOrder_218 rfl (lv_at hl 0 rfl) ?_
      refine lv_iconst (v := 2) hx hb dX5_carryOutOrder_219 (by decide) ?_
      refine ia hx hb hkx hP 4 rfl 2 rfl (by omega) (by decide) dX5_carryOutOrder_220 ?_
      refine lv_aload_n hx hb dX5_carryOutOrder_221 rfl (lv_at hl 0 rfl) ?_
      refine lv_iconst (v := 3) hx hb dX5_carryOutOrder_222 (by decide) ?_
      refine ia hx hb hkx hP 4 rfl 3 rfl (by omega) (by decide) dX5_carryOutOrder_223 ?_
      refine lv_aload_n hx hb dX5_carryOutOrder_224 rfl (lv_at hl 0 rfl) ?_
      refine lv_iconst (v := 4) hx hb dX5_carryOutOrder_225 (by decide) ?_
      refine ia hx hb hkx hP 4 rfl 4 rfl (by omega) (by decide) dX5_carryOutOrder_226 ?_
      refine mu_V S hkx (mX2_addRow l (hP := P_mid hP) (hD := (D_mid hD).weaken (fun _ _ _ _ => trivial)) (a := a) (N := N) (Z := Z) (f := (nb 0)) (v := (nb 1)) (x := (nb 2)) (z := (nb 3)) (q := (nb 4)) (hs := (by omega))) gX5_carryOutOrder_X2_addRow rfl idX2_addRow ⟨Nat.le_of_ble_eq_true rfl, Nat.le_of_ble_eq_true rfl⟩ hP 18 rfl rfl rfl rfl hl.1 rfl (Nat.le_of_ble_eq_true rfl) dX5_carryOutOrder_227 ⟨Nat.le_of_ble_eq_true rfl, Nat.le_of_ble_eq_true rfl⟩ hS (fr_in (D_mid hD) (fun q h => hA q (Nat.le_trans hS.1 h))) (fun v H locs hp9 hz1 hk1 hS => ?_)
      obtain ⟨rfl, hPc⟩ := hp9
      obtain ⟨hP, hD⟩ := fr_mid hP hD hk1 hPc rfl
      have hP : va_P G vwCl (wMain T q a (va_up N 3 (N 3 + 1)) (sAdd N Z (nb 0) (nb 1) (nb 2) (nb 3) (nb 4)) b M Y sc tx L cu er le nb nc) H := hP
      have hD : va_D A (wMain T q a (va_up N 3 (N 3 + 1)) (sAdd N Z (nb 0) (nb 1) (nb 2) (nb 3) (nb 4)) b M Y sc tx L cu er le nb nc) := hD
      refine W.eq (g2 := F0 m 230 ls [.int (nI (N 3))]) rfl ?_
      refine lv_pop hx hb dX5_carryOutOrder_230 rfl ?_
      refine lv_iconst (v := 1) hx hb dX5_carryOutOrder_231 (by decide) ?_
      exact hret _ _ _ _ _ (show cuP G T q a N Z b M Y sc tx L cu er le nb nc (some (Value.int 1)) H from Or.inr ⟨by unfold orF; rw [if_neg (show ¬ le = 112 by rw [c_13]; decide), if_neg (show ¬ le = 108 by rw [c_13]; decide), if_neg (show ¬ le = 101 by rw [c_13]; decide), if_pos c_13]; assumption, rfl, by unfold apN apZ; rw [if_neg (show ¬ le = 112 by rw [c_13]; decide), if_neg (show ¬ le = 108 by rw [c_13]; decide), if_neg (show ¬ le = 101 by rw [c_13]; decide), if_pos c_13]; rw [if_neg (show ¬ le = 112 by rw [c_13]; decide), if_neg (show ¬ le = 108 by rw [c_13]; decide), if_neg (show ¬ le = 101 by rw [c_13]; decide), if_pos c_13]; exact hP⟩) rfl hS dX5_carryOutOrder_232
    · skip
      refine lv_iconst (v := 0) hx hb dX5_carryOutOrder_203 (by decide) ?_
      exact hret _ _ _ _ _ (show cuP G T q a N Z b M Y sc tx L cu er le nb nc (some (Value.int 0)) H0 from Or.inl ⟨by unfold orF; rw [if_neg (show ¬ le = 112 by rw [c_13]; decide), if_neg (show ¬ le = 108 by rw [c_13]; decide), if_neg (show ¬ le = 101 by rw [c_13]; decide), if_pos c_13]; assumption, rfl, hP⟩) rfl hS dX5_carryOutOrder_204
  exact (by rcases hle with h | h | h | h | h <;> first | exact c_1 h | exact c_4 h | exact c_7 h | exact c_10 h | exact c_13 h : False).elim
