theorem idX5_share : yX5_share.cls = RX5 ∧ yX5_share.cls ≠ "java/lang/invoke/MethodHandle" ∧ yX5_share.cls ≠ "java/lang/invoke/VarHandle" ∧ (parseMethodDescriptor yX5_share.desc).map (fun d => d.parameters.length) = some 1 := by decide +kernel

set_option maxHeartbeats 4000000 in
set_option maxRecDepth 100000 in
theorem mX5_share (l : Launch) (hl0 : l.stackTraces = false) {G : va_G} {T : Nat → ClassId} {sa : Nat → Nat} {A9 : Nat → Prop} {H : Heap} {q : Nat → Nat} {a : Nat → Nat} {N : Nat → Nat} {Z : Nat → Nat → Int32} {b : Nat → Nat → Nat} {M : Nat → Nat → Nat} {Y : Nat → Nat → Nat → Int32} {sc : Nat} {tx : Nat → Int32} {L : Nat} {cu : Nat} {er : Int32} {le : Int32} {nb : Nat → Int32} {nc : Nat} {d : Int32} (h9 : ∀ q, H.size ≤ q → A9 q) (hP : va_P G vwCl (wMain T q a N Z b M Y sc tx L cu er le nb nc) H) (hwf : wf N Z) : rx l yX5_share wsX5_share 8 124 1 [.ref (q 0), .int d] G T sa A9 H (fun v9 => (dyF d) = 0 ∧ v9 = some (.double (shr N Z d))) (fcE (dyF d)) := by
  refine rx_of (cc := cX5_share) (maxL := 3) (ret := (some .double)) (own := RX5) (by decide +kernel) rfl rfl (Nat.le_of_ble_eq_true rfl) h9 ?_
  intro p e s m below meth c ls hH S hkx hth hnt hlk hl hri hrd hrv hout
  obtain ⟨hx, hb, hml, hown, hts⟩ := id S
  have hl : lv_has ls 3 [(0, .ref (q 0)), (1, .int d)] := hl
  have k12 := hts (.fieldLink RX5 12 "SunsetDates" "now" "LSunsetDates$Calendar;") (by decide +kernel)
  have iX5 : ∀ w ∈ wsX50, w ∈ wsX5_share := by decide +kernel
  have k80 := hts (.fieldLink RX5 80 "SunsetDates$Calendar" "users" "LSunsetDates$Users;") (by decide +kernel)
  have iX0 : ∀ w ∈ wsX00, w ∈ wsX5_share := by decide +kernel
  have hb2 := hwf.1
  refine lv_iload_n hx hb dX5_share_0 rfl (lv_at hl 1 rfl) ?_
  refine rx_S S hkx hth (mX5_requireDay l hl0 (sa := sa) (h9 := fun _ h => h) (d := d) ) gX5_share_X5_requireDay rfl idX5_requireDay.2 ⟨Nat.le_of_ble_eq_true rfl, Nat.le_of_ble_eq_true rfl⟩ rfl hl.1 rfl (Nat.le_of_ble_eq_true rfl) dX5_share_1 ⟨Nat.le_of_ble_eq_true rfl, Nat.le_of_ble_eq_true rfl⟩ (fun E ce q H1 hpx hq hv9 hc9 hz9 hk9 => hout E ce q _ _ _ _ _ _ hpx hq hv9 hc9 hz9 hk9 (Nat.le_of_ble_eq_true rfl) (Nat.le_of_ble_eq_true rfl)) (fun v hpost => ?_)
  obtain ⟨hF0, rfl⟩ := hpost
  refine W.eq (g2 := F0 m 4 ls []) rfl ?_
  refine lv_aload_n hx hb dX5_share_4 rfl (lv_at hl 0 rfl) ?_
  refine va_get (D := G) (ci := 5) (C := RX5) (T := TX5) (N := 4) hx hb hts iX5 hown hkx.1 hP 0 rfl rfl 0 (by decide) k12 (fun _ h9 => h9) rfl dX5_share_5 ?_
  refine va_get (D := G) (ci := 0) (C := RX0) (T := TX0) (N := 4) hx hb hts iX0 hown hkx.1 hP 5 rfl rfl 2 (by decide) k80 (fun _ h9 => h9) rfl dX5_share_8 ?_
  refine ro_V S hkx (mX3_useCount l (hP := P_mid hP) (hs := (by omega))) gX5_share_X3_useCount rfl idX3_useCount ⟨Nat.le_of_ble_eq_true rfl, Nat.le_of_ble_eq_true rfl⟩ hP 11 rfl rfl rfl rfl hl.1 rfl (Nat.le_of_ble_eq_true rfl) dX5_share_11 ⟨Nat.le_of_ble_eq_true rfl, Nat.le_of_ble_eq_true rfl⟩ (fun r_1 hr_1 => ?_)
  subst hr_1
  refine lv_istore_n (lv' := [(2, .int (usC Z (N 2))), (0, .ref (q 0)), (1, .int d)]) hx hb dX5_share_14 rfl hl (by decide) rfl (fun ls hl => ?_)
  refine lv_iload_n hx hb dX5_share_15 rfl (lv_at hl 0 rfl) ?_
  refine lv_if_ne (tgt := 21) hx hb dX5_share_16 (by decide) (fun c_2 => ?_) (fun c_2 => ?_)
  · skip
    refine lv_iload_n hx hb dX5_share_21 rfl (lv_at hl 0 rfl) ?_
    refine lv_aload_n hx hb dX5_share_22 rfl (lv_at hl 1 rfl) ?_
    refine va_get (D := G) (ci := 5) (C := RX5) (T := TX5) (N := 4) hx hb hts iX5 hown hkx.1 hP 0 rfl rfl 0 (by decide) k12 (fun _ h9 => h9) rfl dX5_share_23 ?_
    refine lv_iload_n hx hb dX5_share_26 rfl (lv_at hl 2 rfl) ?_
    refine ro_V S hkx (mX0_unservedCount l (d := d) (hP := P_mid hP) (hwf := hwf)) gX5_share_X0_unservedCount rfl idX0_unservedCount ⟨Nat.le_of_ble_eq_true rfl, Nat.le_of_ble_eq_true rfl⟩ hP 5 rfl rfl rfl rfl hl.1 rfl (Nat.le_of_ble_eq_true rfl) dX5_share_27 ⟨Nat.le_of_ble_eq_true rfl, Nat.le_of_ble_eq_true rfl⟩ (fun r_3 hr_3 => ?_)
    subst hr_3
    refine lv_isub hx hb dX5_share_30 ?_
    refine lv_i2d hx hb dX5_share_31 ?_
    refine lv_iload_n hx hb dX5_share_32 rfl (lv_at hl 0 rfl) ?_
    refine lv_i2d hx hb dX5_share_33 ?_
    refine lv_ddiv hx hb dX5_share_34 (vf_div (by assumption)) ?_
    exact hrd _ _ _ _ _ rfl (show (dyF d) = 0 ∧ some (Value.double (FP.ddiv (FP.i2d ((usC Z (N 2)) - (unC N Z d (N 2)))) (FP.i2d (usC Z (N 2))))) = some (Value.double (shr N Z d)) from ⟨hF0, by refine congrArg (fun z => some (Value.double z)) (?_ : _ = _); unfold shr; rw [if_neg (by assumption)]⟩) (Nat.le_of_ble_eq_true rfl) (Nat.le_of_ble_eq_true rfl) dX5_share_35
  · skip
    refine lv_dconst1 hx hb dX5_share_19 ?_
    exact hrd _ _ _ _ _ rfl (show (dyF d) = 0 ∧ some (Value.double FP.dconst1) = some (Value.double (shr N Z d)) from ⟨hF0, by refine congrArg (fun z => some (Value.double z)) (?_ : _ = _); unfold shr; rw [if_pos (by assumption)]⟩) (Nat.le_of_ble_eq_true rfl) (Nat.le_of_ble_eq_true rfl) dX5_share_20
