/-! the law's loop -/
theorem cs_e {g : Nat → Int32} {d w h : Nat} (e : h = w) : smD g d (w + 1 - d) = smD g d (h + 1 - d) + 0 := by rw [e, Int32.add_zero]
theorem cs_s {g : Nat → Int32} {d w h : Nat} (h1 : d ≤ h) (h2 : h < w) : smD g d (w + 1 - d) = smD g d (h + 1 - d) + smD g (h + 1) (w + 1 - (h + 1)) := by
  have e := smD_add g d (h + 1 - d) (w + 1 - (h + 1))
  rw [show h + 1 - d + (w + 1 - (h + 1)) = w + 1 - d by omega, show d + (h + 1 - d) = h + 1 by omega] at e
  exact e
/-- two systems with one calendar -/
def inv (G : va_G) (T : Nat → ClassId) (q q2 : Nat → Nat) (A : Nat → Prop) (H : Heap) : Prop :=
  ∃ (a : Nat → Nat) (N : Nat → Nat) (Z : Nat → Nat → Int32) (b : Nat → Nat → Nat) (M : Nat → Nat → Nat) (Y : Nat → Nat → Nat → Int32) (sc : Nat) (tx : Nat → Int32) (L : Nat) (cu : Nat) (er : Int32) (le : Int32) (nb : Nat → Int32) (nc : Nat) (a2 : Nat → Nat) (b2 : Nat → Nat → Nat) (M2 : Nat → Nat → Nat) (Y2 : Nat → Nat → Nat → Int32) (sc2 : Nat) (tx2 : Nat → Int32) (L2 : Nat) (cu2 : Nat) (er2 : Int32) (le2 : Int32) (nb2 : Nat → Int32) (nc2 : Nat), wf N Z ∧ sc ≤ 4 ∧ sc2 ≤ 4 ∧ va_P G vwCl ((wMain T q a N Z b M Y sc tx L cu er le nb nc) ++ (wMain T q2 a2 N Z b2 M2 Y2 sc2 tx2 L2 cu2 er2 le2 nb2 nc2)) H ∧ va_D A ((wMain T q a N Z b M Y sc tx L cu er le nb nc) ++ (wMain T q2 a2 N Z b2 M2 Y2 sc2 tx2 L2 cu2 er2 le2 nb2 nc2))

set_option maxHeartbeats 4000000 in
set_option maxRecDepth 100000 in
theorem law_loop (l : Launch) (hl0 : l.stackTraces = false) {G : va_G} {T : Nat → ClassId} {sa : Nat → Nat} {p : Program} {e : Env} {s : State} {m : MethodId} {below : List Frame} {meth : Method} {c : Code} {Q : State → Prop} {b0 LL : Nat} {xs : Nat → Int32} {q q2 : Nat → Nat} (K : LK G T sa p s m c b0 LL xs)
    (hend : ∀ (H : Heap) (locs : List Loc) (ls : Array Slot) (cells slots : Nat), va_S (lA s) s.heap H locs → cells ≤ 600086 → slots ≤ 7301442 → W p l e room_1 s m ([.ref b0] : List Value).toArray below meth c H locs cells slots Q (F0 m 278 ls [.int 1])) :
    ∀ (n t : Nat), 20 - t < n → t ≤ 20 → ∀ (H : Heap) (locs : List Loc) (ls : Array Slot), inv G T q q2 (lA s) H → va_S (lA s) s.heap H locs → lv_has ls 13 [(0, .ref b0), (1, .ref (q 0)), (2, .ref (q2 0)), (3, .int (nI t))] → W p l e room_1 s m ([.ref b0] : List Value).toArray below meth c H locs (300 + 40 * t) (3000 + 240 * t) Q (F0 m 18 ls []) := by
  obtain ⟨S, hkx, hth0, hX0, hbl, hLL⟩ := id K
  obtain ⟨hx, hb, hml, hown, hts⟩ := id S
  intro n
  induction n with
  | zero => intro t hm; exact absurd hm (Nat.not_lt_zero _)
  | succ n ih =>
    intro t hm ht20 H locs ls hI hS hl
    obtain ⟨a, N, Z, b, M, Y, sc, tx, L, cu, er, le, nb, nc, a2, b2, M2, Y2, sc2, tx2, L2, cu2, er2, le2, nb2, nc2, hwf, hsc, hsc2, hP, hD⟩ := hI
    have hth := hth0.kept hS.2.1
    have hb2 := hwf.1
    refine lv_iload_n hx hb dL_law_18 rfl (lv_at hl 3 rfl) ?_
    refine lv_bipush (v := 20) hx hb dL_law_19 (by decide) ?_
    refine lv_icmp_ge (tgt := 273) hx hb dL_law_21 (by decide) (fun c_1 => ?_) (fun c_1 => ?_)
    · replace c_1 := cn_le (a := 20) (b := t) (by omega) (by omega) c_1
      refine lv_aload_n hx hb dL_law_273 rfl (lv_at hl 1 rfl) ?_
      refine lv_aload_n hx hb dL_law_274 rfl (lv_at hl 2 rfl) ?_
      refine rn_S S hkx hth (nL_areAlike l hl0 (sa := sa) (h9 := (fun q h => Nat.le_trans hS.1 h)) (hP := (P_hd hP)) (hP2 := (P_tl hP)) (hwf := hwf)  ) gL_law_L_areAlike rfl idL_areAlike.2 ⟨Nat.le_of_ble_eq_true rfl, Nat.le_of_ble_eq_true rfl⟩ rfl hl.1 rfl (Nat.le_of_ble_eq_true rfl) dL_law_275 ⟨(show 300 + 40 * t + 2 ≤ 600086 by omega), (show 3000 + 240 * t + 12 ≤ 7301442 by omega)⟩ (fun v9 hv9 => ?_)
      subst hv9
      refine W.eq (g2 := F0 m 278 ls [.int 1]) rfl ?_
      exact hend H locs ls _ _ hS (show 300 + 40 * t ≤ 600086 by omega) (show 3000 + 240 * t ≤ 7301442 by omega)
    · replace c_1 := cn_nle (a := 20) (b := t) (by omega) (by omega) c_1
      refine lv_aload_n hx hb dL_law_24 rfl (lv_at hl 0 rfl) ?_
      refine lv_iconst (v := 2) hx hb dL_law_25 (by decide) ?_
      refine lv_iload_n hx hb dL_law_26 rfl (lv_at hl 3 rfl) ?_
      refine lv_imul hx hb dL_law_27 ?_
      refine W.eq (g2 := F0 m 28 ls [.int (nI (2 * t)), .ref b0]) (congrArg (fun z9 => F0 m 28 ls (.int z9 :: [.ref b0])) (pk_mul _ _)) ?_
      refine rg_S S stb_X (hX0.kept (hS.2.1 b0 hbl (Nat.not_le.mpr hbl))) (mL_cell l (LL := LL) (xs := xs) (k := (2 * t)) (Nat.lt_of_lt_of_le hbl hS.1) hLL (by omega)) gL_law_L_cell rfl idL_cell.2 ⟨Nat.le_of_ble_eq_true rfl, Nat.le_of_ble_eq_true rfl⟩ rfl hl.1 rfl (Nat.le_of_ble_eq_true rfl) dL_law_28 ⟨(show 300 + 40 * t ≤ 600086 by omega), (show 3000 + 240 * t ≤ 7301442 by omega)⟩ (fun v9 hv9 => ?_)
      subst hv9
      refine W.eq (g2 := F0 m 31 ls [.int (clN xs LL (2 * t))]) rfl ?_
      obtain ⟨xv, hxv⟩ : ∃ z, clN xs LL (2 * t) = z := ⟨_, rfl⟩
      refine W.eq (g2 := F0 m 31 ls [.int xv]) (congrArg (fun z9 => F0 m 31 ls (.int z9 :: [])) (hxv)) ?_
      refine lv_istore (lv' := [(4, .int xv), (0, .ref b0), (1, .ref (q 0)), (2, .ref (q2 0)), (3, .int (nI t))]) hx hb dL_law_31 hl (by decide) rfl (fun ls hl => ?_)
      refine lv_aload_n hx hb dL_law_33 rfl (lv_at hl 1 rfl) ?_
      refine lv_iconst (v := 2) hx hb dL_law_34 (by decide) ?_
      refine lv_iload_n hx hb dL_law_35 rfl (lv_at hl 4 rfl) ?_
      refine lv_imul hx hb dL_law_36 ?_
      refine W.eq (g2 := F0 m 37 ls [.int (nI (2 * t)), .ref b0]) (congrArg (fun z9 => F0 m 37 ls (.int z9 :: [.ref b0])) (pk_mul _ _)) ?_
      refine lv_iconst (v := 1) hx hb dL_law_37 (by decide) ?_
      refine lv_iadd hx hb dL_law_38 ?_
      refine W.eq (g2 := F0 m 39 ls [.int (nI ((2 * t) + 1)), .ref b0]) (congrArg (fun z9 => F0 m 39 ls (.int z9 :: [.ref b0])) (nI_add _ 1)) ?_
      refine rg_S S stb_X (hX0.kept (hS.2.1 b0 hbl (Nat.not_le.mpr hbl))) (mL_cell l (LL := LL) (xs := xs) (k := ((2 * t) + 1)) (Nat.lt_of_lt_of_le hbl hS.1) hLL (by omega)) gL_law_L_cell rfl idL_cell.2 ⟨Nat.le_of_ble_eq_true rfl, Nat.le_of_ble_eq_true rfl⟩ rfl hl.1 rfl (Nat.le_of_ble_eq_true rfl) dL_law_39 ⟨(show 300 + 40 * t ≤ 600086 by omega), (show 3000 + 240 * t ≤ 7301442 by omega)⟩ (fun v9 hv9 => ?_)
      subst hv9
      refine W.eq (g2 := F0 m 42 ls [.int (clN xs LL ((2 * t) + 1))]) rfl ?_
      obtain ⟨xw, hxw⟩ : ∃ z, clN xs LL ((2 * t) + 1) = z := ⟨_, rfl⟩
      refine W.eq (g2 := F0 m 42 ls [.int xw]) (congrArg (fun z9 => F0 m 42 ls (.int z9 :: [])) (hxw)) ?_
      refine lv_istore (lv' := [(5, .int xw), (4, .int xv), (0, .ref b0), (1, .ref (q 0)), (2, .ref (q2 0)), (3, .int (nI t))]) hx hb dL_law_42 hl (by decide) rfl (fun ls hl => ?_)
      refine lv_iload hx hb dL_law_44 (lv_at hl 0 rfl) ?_
      refine lv_iconst (v := 2) hx hb dL_law_46 (by decide) ?_
      refine lv_ishr hx hb dL_law_47 ?_
      refine lv_sipush (v := 1000) hx hb dL_law_48 (by decide) ?_
      refine ro_S S hkx (mL_low l (v := (xw >>> (2 &&& 31))) (k := 1000) (h0 := (by omega)) (hk := (by omega))) gL_law_L_low rfl idL_low.2 ⟨Nat.le_of_ble_eq_true rfl, Nat.le_of_ble_eq_true rfl⟩ rfl hl.1 rfl (Nat.le_of_ble_eq_true rfl) dL_law_51 ⟨(show 300 + 40 * t ≤ 600086 by omega), (show 3000 + 240 * t ≤ 7301442 by omega)⟩ (fun r9 hr9 => ?_)
      subst hr9
      refine W.eq (g2 := F0 m 54 ls [.int (nI (lowN (xw >>> (2 &&& 31)) 1000))]) rfl ?_
      obtain ⟨d, hd⟩ : ∃ z, (lowN (xw >>> (2 &&& 31)) 1000) = z := ⟨_, rfl⟩
      have hd9 : d < 1000 := hd ▸ lowN_lt _ (by decide)
      refine W.eq (g2 := F0 m 54 ls [.int (nI d)]) (congrArg (fun z9 => F0 m 54 ls (.int z9 :: [])) (congrArg nI hd)) ?_
      refine lv_istore (lv' := [(6, .int (nI d)), (5, .int xw), (4, .int xv), (0, .ref b0), (1, .ref (q 0)), (2, .ref (q2 0)), (3, .int (nI t))]) hx hb dL_law_54 hl (by decide) rfl (fun ls hl => ?_)
      obtain ⟨⟨r1, N1, Z1⟩, hch⟩ : ∃ z, chg N Z xv xw = z := ⟨_, rfl⟩
      have hwf1 : wf N1 Z1 := by have h := chg_wf hwf xv xw; rw [hch] at h; exact h
      have hb3 := hwf1.1
      refine lv_aload_n hx hb dL_law_56 rfl (lv_at hl 4 rfl) ?_
      refine lv_iload hx hb dL_law_57 (lv_at hl 2 rfl) ?_
      refine lv_iload hx hb dL_law_59 (lv_at hl 1 rfl) ?_
      refine wn_S S hkx hth (nL_change l hl0 (sa := sa) (A9 := lA s) (h9 := (fr_in (D_hd hD) (fun z h => Nat.le_trans hS.1 h))) (hP := P_hd hP) (hD := (D_hd hD).weaken (fun _ _ _ _ => trivial)) (hwf := hwf) (hsc := hsc) (v := xv) (w := xw) ) gL_law_L_change rfl idL_change.2 ⟨Nat.le_of_ble_eq_true rfl, Nat.le_of_ble_eq_true rfl⟩ rfl hl.1 rfl (Nat.le_of_ble_eq_true rfl) dL_law_61 ⟨(show 300 + 40 * t + 3 ≤ 600086 by omega), (show 3000 + 240 * t + 6 * 3 ≤ 7301442 by omega)⟩ hS (fr_in (D_hd hD) (fun z h => Nat.le_trans hS.1 h)) (fun v9 H locs hp9 hz1 hk1 hS => ?_)
      have hp9 : v9 = some (.int (chg N Z xv xw).1) ∧ wst G T q a (chg N Z xv xw).2.1 (chg N Z xv xw).2.2 b tx L cu er le nb nc H := hp9
      rw [hch] at hp9
      have hp9 : v9 = some (.int r1) ∧ wst G T q a N1 Z1 b tx L cu er le nb nc H := hp9
      obtain ⟨rfl, b11, M11, Y11, sc11, hsc11, hpm11, hPN⟩ := hp9
      obtain ⟨hP, hD⟩ := fr_hd hP hD hk1 hPN hpm11
      have hP : va_P G vwCl ((wMain T q a N1 Z1 b11 M11 Y11 sc11 tx L cu er le nb nc) ++ (wMain T q2 a2 N Z b2 M2 Y2 sc2 tx2 L2 cu2 er2 le2 nb2 nc2)) H := hP
      have hD : va_D (lA s) ((wMain T q a N1 Z1 b11 M11 Y11 sc11 tx L cu er le nb nc) ++ (wMain T q2 a2 N Z b2 M2 Y2 sc2 tx2 L2 cu2 er2 le2 nb2 nc2)) := hD
      have hth := hth0.kept hS.2.1
      refine W.eq (g2 := F0 m 64 ls [.int r1]) rfl ?_
      refine lv_aload_n hx hb dL_law_64 rfl (lv_at hl 5 rfl) ?_
      refine lv_iload hx hb dL_law_65 (lv_at hl 2 rfl) ?_
      refine lv_iload hx hb dL_law_67 (lv_at hl 1 rfl) ?_
      refine wn_S S hkx hth (nL_change l hl0 (sa := sa) (A9 := lA s) (h9 := (fr_in (D_tl hD) (fun z h => Nat.le_trans hS.1 h))) (hP := P_tl hP) (hD := (D_tl hD).weaken (fun _ _ _ _ => trivial)) (hwf := hwf) (hsc := hsc2) (v := xv) (w := xw) ) gL_law_L_change rfl idL_change.2 ⟨Nat.le_of_ble_eq_true rfl, Nat.le_of_ble_eq_true rfl⟩ rfl hl.1 rfl (Nat.le_of_ble_eq_true rfl) dL_law_69 ⟨(show 300 + 40 * t + 3 + 3 ≤ 600086 by omega), (show 3000 + 240 * t + 6 * 3 + 6 * 3 ≤ 7301442 by omega)⟩ hS (fr_in (D_tl hD) (fun z h => Nat.le_trans hS.1 h)) (fun v9 H locs hp9 hz1 hk1 hS => ?_)
      have hp9 : v9 = some (.int (chg N Z xv xw).1) ∧ wst G T q2 a2 (chg N Z xv xw).2.1 (chg N Z xv xw).2.2 b2 tx2 L2 cu2 er2 le2 nb2 nc2 H := hp9
      rw [hch] at hp9
      have hp9 : v9 = some (.int r1) ∧ wst G T q2 a2 N1 Z1 b2 tx2 L2 cu2 er2 le2 nb2 nc2 H := hp9
      obtain ⟨rfl, b12, M12, Y12, sc12, hsc12, hpm12, hPN⟩ := hp9
      obtain ⟨hP, hD⟩ := fr_tl hP hD hk1 hPN hpm12
      have hP : va_P G vwCl ((wMain T q a N1 Z1 b11 M11 Y11 sc11 tx L cu er le nb nc) ++ (wMain T q2 a2 N1 Z1 b12 M12 Y12 sc12 tx2 L2 cu2 er2 le2 nb2 nc2)) H := hP
      have hD : va_D (lA s) ((wMain T q a N1 Z1 b11 M11 Y11 sc11 tx L cu er le nb nc) ++ (wMain T q2 a2 N1 Z1 b12 M12 Y12 sc12 tx2 L2 cu2 er2 le2 nb2 nc2)) := hD
      have hth := hth0.kept hS.2.1
      refine W.eq (g2 := F0 m 72 ls [.int r1, .int r1]) rfl ?_
      refine lv_icmp_ne (tgt := 84) hx hb dL_law_72 (by decide) (fun c_2 => ?_) (fun c_2 => ?_)
      · exact absurd rfl c_2
      · skip
        refine lv_aload_n hx hb dL_law_75 rfl (lv_at hl 4 rfl) ?_
        refine lv_iload hx hb dL_law_76 (lv_at hl 0 rfl) ?_
        refine rn_S S hkx hth (nL_isDay l hl0 (sa := sa) (h9 := (fun q h => Nat.le_trans hS.1 h)) (hP := (P_hd hP)) (hwf := hwf1) (hd := (by omega)) (d := d)) gL_law_L_isDay rfl idL_isDay.2 ⟨Nat.le_of_ble_eq_true rfl, Nat.le_of_ble_eq_true rfl⟩ rfl hl.1 rfl (Nat.le_of_ble_eq_true rfl) dL_law_78 ⟨(show 300 + 40 * t + 3 + 3 + 3 ≤ 600086 by omega), (show 3000 + 240 * t + 6 * 3 + 6 * 3 + 18 ≤ 7301442 by omega)⟩ (fun v9 hv9 => ?_)
        subst hv9
        refine W.eq (g2 := F0 m 81 ls [.int 1]) rfl ?_
        refine lv_if_ne (tgt := 86) hx hb dL_law_81 (by decide) (fun c_3 => ?_) (fun c_3 => ?_)
        · replace c_3 := cn_ne (a := 1) (b := 0) (by omega) (by omega) c_3
          refine lv_aload_n hx hb dL_law_86 rfl (lv_at hl 4 rfl) ?_
          refine lv_iconst (v := 2) hx hb dL_law_87 (by decide) ?_
          refine rn_V S hkx hth (nX5_value l hl0 (sa := sa) (h9 := (fun q h => Nat.le_trans hS.1 h)) (hP := (P_hd hP)) (hwf := hwf1) (hw := (by omega)) (w := 2)) gL_law_X5_value rfl idX5_value ⟨Nat.le_of_ble_eq_true rfl, Nat.le_of_ble_eq_true rfl⟩ (P_hd hP) 0 rfl rfl rfl rfl hl.1 rfl (Nat.le_of_ble_eq_true rfl) dL_law_88 ⟨(show 300 + 40 * t + 3 + 3 + 1 ≤ 600086 by omega), (show 3000 + 240 * t + 6 * 3 + 6 * 3 + 6 ≤ 7301442 by omega)⟩ (fun v9 hv9 => ?_)
          subst hv9
          refine W.eq (g2 := F0 m 91 ls [.int (nI (N1 2))]) rfl ?_
          refine lv_istore (lv' := [(7, .int (nI (N1 2))), (6, .int (nI d)), (5, .int xw), (4, .int xv), (0, .ref b0), (1, .ref (q 0)), (2, .ref (q2 0)), (3, .int (nI t))]) hx hb dL_law_91 hl (by decide) rfl (fun ls hl => ?_)
          refine lv_iload hx hb dL_law_93 (lv_at hl 0 rfl) ?_
          refine lv_if_ne (tgt := 102) hx hb dL_law_95 (by decide) (fun c_4 => ?_) (fun c_4 => ?_)
          · replace c_4 := cn_ne (a := (N1 2)) (b := 0) (by omega) (by omega) c_4
            refine lv_iload hx hb dL_law_102 (lv_at hl 2 rfl) ?_
            refine lv_bipush (v := 7) hx hb dL_law_104 (by decide) ?_
            refine lv_ishr hx hb dL_law_106 ?_
            refine lv_iload hx hb dL_law_107 (lv_at hl 0 rfl) ?_
            refine ro_S S hkx (mL_low l (v := (xw >>> (7 &&& 31))) (k := (N1 2)) (h0 := (by omega)) (hk := (by omega))) gL_law_L_low rfl idL_low.2 ⟨Nat.le_of_ble_eq_true rfl, Nat.le_of_ble_eq_true rfl⟩ rfl hl.1 rfl (Nat.le_of_ble_eq_true rfl) dL_law_109 ⟨(show 300 + 40 * t + 3 + 3 ≤ 600086 by omega), (show 3000 + 240 * t + 6 * 3 + 6 * 3 ≤ 7301442 by omega)⟩ (fun r9 hr9 => ?_)
            subst hr9
            refine W.eq (g2 := F0 m 112 ls [.int (nI (lowN (xw >>> (7 &&& 31)) (N1 2)))]) rfl ?_
            obtain ⟨u, hu⟩ : ∃ z, (lowN (xw >>> (7 &&& 31)) (N1 2)) = z := ⟨_, rfl⟩
            have hu9 : u < N1 2 := hu ▸ lowN_lt _ (by omega)
            refine W.eq (g2 := F0 m 112 ls [.int (nI u)]) (congrArg (fun z9 => F0 m 112 ls (.int z9 :: [])) (congrArg nI hu)) ?_
            refine lv_istore (lv' := [(8, .int (nI u)), (7, .int (nI (N1 2))), (6, .int (nI d)), (5, .int xw), (4, .int xv), (0, .ref b0), (1, .ref (q 0)), (2, .ref (q2 0)), (3, .int (nI t))]) hx hb dL_law_112 hl (by decide) rfl (fun ls hl => ?_)
            refine lv_iload hx hb dL_law_114 (lv_at hl 1 rfl) ?_
            refine lv_if_ne (tgt := 123) hx hb dL_law_116 (by decide) (fun c_5 => ?_) (fun c_5 => ?_)
            · replace c_5 := cn_ne (a := (N1 2)) (b := 0) (by omega) (by omega) c_5
              refine lv_iload hx hb dL_law_123 (lv_at hl 4 rfl) ?_
              refine lv_bipush (v := 11) hx hb dL_law_125 (by decide) ?_
              refine lv_ishr hx hb dL_law_127 ?_
              refine lv_aload_n hx hb dL_law_128 rfl (lv_at hl 6 rfl) ?_
              refine lv_iconst (v := 0) hx hb dL_law_129 (by decide) ?_
              refine rn_V S hkx hth (nX5_value l hl0 (sa := sa) (h9 := (fun q h => Nat.le_trans hS.1 h)) (hP := (P_hd hP)) (hwf := hwf1) (hw := (by omega)) (w := 0)) gL_law_X5_value rfl idX5_value ⟨Nat.le_of_ble_eq_true rfl, Nat.le_of_ble_eq_true rfl⟩ (P_hd hP) 0 rfl rfl rfl rfl hl.1 rfl (Nat.le_of_ble_eq_true rfl) dL_law_130 ⟨(show 300 + 40 * t + 3 + 3 + 1 ≤ 600086 by omega), (show 3000 + 240 * t + 6 * 3 + 6 * 3 + 6 ≤ 7301442 by omega)⟩ (fun v9 hv9 => ?_)
              subst hv9
              refine W.eq (g2 := F0 m 133 ls [.int (nI (N1 0)), .int (xv >>> (11 &&& 31))]) rfl ?_
              refine ro_S S hkx (mL_low l (v := (xv >>> (11 &&& 31))) (k := (N1 0)) (h0 := (u_v hwf1 (by omega))) (hk := (by omega))) gL_law_L_low rfl idL_low.2 ⟨Nat.le_of_ble_eq_true rfl, Nat.le_of_ble_eq_true rfl⟩ rfl hl.1 rfl (Nat.le_of_ble_eq_true rfl) dL_law_133 ⟨(show 300 + 40 * t + 3 + 3 ≤ 600086 by omega), (show 3000 + 240 * t + 6 * 3 + 6 * 3 ≤ 7301442 by omega)⟩ (fun r9 hr9 => ?_)
              subst hr9
              refine W.eq (g2 := F0 m 136 ls [.int (nI (lowN (xv >>> (11 &&& 31)) (N1 0)))]) rfl ?_
              obtain ⟨y, hy⟩ : ∃ z, (lowN (xv >>> (11 &&& 31)) (N1 0)) = z := ⟨_, rfl⟩
              have hy9 : y < N1 0 := hy ▸ lowN_lt _ (u_v hwf1 (by omega))
              refine W.eq (g2 := F0 m 136 ls [.int (nI y)]) (congrArg (fun z9 => F0 m 136 ls (.int z9 :: [])) (congrArg nI hy)) ?_
              refine lv_istore (lv' := [(9, .int (nI y)), (8, .int (nI u)), (7, .int (nI (N1 2))), (6, .int (nI d)), (5, .int xw), (4, .int xv), (0, .ref b0), (1, .ref (q 0)), (2, .ref (q2 0)), (3, .int (nI t))]) hx hb dL_law_136 hl (by decide) rfl (fun ls hl => ?_)
              refine lv_iload hx hb dL_law_138 (lv_at hl 3 rfl) ?_
              refine lv_iload hx hb dL_law_140 (lv_at hl 5 rfl) ?_
              refine lv_iconst (v := 3) hx hb dL_law_142 (by decide) ?_
              refine lv_ishr hx hb dL_law_143 ?_
              refine lv_sipush (v := 1000) hx hb dL_law_144 (by decide) ?_
              refine lv_iload hx hb dL_law_147 (lv_at hl 3 rfl) ?_
              refine lv_isub hx hb dL_law_149 ?_
              refine W.eq (g2 := F0 m 150 ls [.int (nI (1000 - d)), .int (xv >>> (3 &&& 31)), .int (nI d)]) (congrArg (fun z9 => F0 m 150 ls (.int z9 :: [.int (xv >>> (3 &&& 31)), .int (nI d)])) (pk_sub (a := 1000) (b := d) (by omega))) ?_
              refine ro_S S hkx (mL_low l (v := (xv >>> (3 &&& 31))) (k := (1000 - d)) (h0 := (by omega)) (hk := (by omega))) gL_law_L_low rfl idL_low.2 ⟨Nat.le_of_ble_eq_true rfl, Nat.le_of_ble_eq_true rfl⟩ rfl hl.1 rfl (Nat.le_of_ble_eq_true rfl) dL_law_150 ⟨(show 300 + 40 * t + 3 + 3 ≤ 600086 by omega), (show 3000 + 240 * t + 6 * 3 + 6 * 3 ≤ 7301442 by omega)⟩ (fun r9 hr9 => ?_)
              subst hr9
              refine W.eq (g2 := F0 m 153 ls [.int (nI (lowN (xv >>> (3 &&& 31)) (1000 - d))), .int (nI d)]) rfl ?_
              refine lv_iadd hx hb dL_law_153 ?_
              refine W.eq (g2 := F0 m 154 ls [.int (nI (d + (lowN (xv >>> (3 &&& 31)) (1000 - d))))]) (congrArg (fun z9 => F0 m 154 ls (.int z9 :: [])) (nI_add _ _)) ?_
              obtain ⟨w, hw⟩ : ∃ z, (d + (lowN (xv >>> (3 &&& 31)) (1000 - d))) = z := ⟨_, rfl⟩
              have hw9 := lowN_lt (xv >>> (3 &&& 31)) (show 0 < 1000 - d by omega)
              have hw1 : d ≤ w ∧ w ≤ 999 := by omega
              refine W.eq (g2 := F0 m 154 ls [.int (nI w)]) (congrArg (fun z9 => F0 m 154 ls (.int z9 :: [])) (congrArg nI hw)) ?_
              refine lv_istore (lv' := [(10, .int (nI w)), (9, .int (nI y)), (8, .int (nI u)), (7, .int (nI (N1 2))), (6, .int (nI d)), (5, .int xw), (4, .int xv), (0, .ref b0), (1, .ref (q 0)), (2, .ref (q2 0)), (3, .int (nI t))]) hx hb dL_law_154 hl (by decide) rfl (fun ls hl => ?_)
              refine lv_iload hx hb dL_law_156 (lv_at hl 4 rfl) ?_
              refine lv_iload hx hb dL_law_158 (lv_at hl 6 rfl) ?_
              refine lv_bipush (v := 7) hx hb dL_law_160 (by decide) ?_
              refine lv_ishr hx hb dL_law_162 ?_
              refine lv_iload hx hb dL_law_163 (lv_at hl 0 rfl) ?_
              refine lv_iload hx hb dL_law_165 (lv_at hl 4 rfl) ?_
              refine lv_isub hx hb dL_law_167 ?_
              refine W.eq (g2 := F0 m 168 ls [.int (nI (w - d)), .int (xv >>> (7 &&& 31)), .int (nI d)]) (congrArg (fun z9 => F0 m 168 ls (.int z9 :: [.int (xv >>> (7 &&& 31)), .int (nI d)])) (pk_sub (a := w) (b := d) (by omega))) ?_
              refine lv_iconst (v := 1) hx hb dL_law_168 (by decide) ?_
              refine lv_iadd hx hb dL_law_169 ?_
              refine W.eq (g2 := F0 m 170 ls [.int (nI ((w - d) + 1)), .int (xv >>> (7 &&& 31)), .int (nI d)]) (congrArg (fun z9 => F0 m 170 ls (.int z9 :: [.int (xv >>> (7 &&& 31)), .int (nI d)])) (nI_add _ 1)) ?_
              refine ro_S S hkx (mL_low l (v := (xv >>> (7 &&& 31))) (k := ((w - d) + 1)) (h0 := (by omega)) (hk := (by omega))) gL_law_L_low rfl idL_low.2 ⟨Nat.le_of_ble_eq_true rfl, Nat.le_of_ble_eq_true rfl⟩ rfl hl.1 rfl (Nat.le_of_ble_eq_true rfl) dL_law_170 ⟨(show 300 + 40 * t + 3 + 3 ≤ 600086 by omega), (show 3000 + 240 * t + 6 * 3 + 6 * 3 ≤ 7301442 by omega)⟩ (fun r9 hr9 => ?_)
              subst hr9
              refine W.eq (g2 := F0 m 173 ls [.int (nI (lowN (xv >>> (7 &&& 31)) ((w - d) + 1))), .int (nI d)]) rfl ?_
              refine lv_iadd hx hb dL_law_173 ?_
              refine W.eq (g2 := F0 m 174 ls [.int (nI (d + (lowN (xv >>> (7 &&& 31)) ((w - d) + 1))))]) (congrArg (fun z9 => F0 m 174 ls (.int z9 :: [])) (nI_add _ _)) ?_
              obtain ⟨h, hh⟩ : ∃ z, (d + (lowN (xv >>> (7 &&& 31)) ((w - d) + 1))) = z := ⟨_, rfl⟩
              have hh9 := lowN_lt (xv >>> (7 &&& 31)) (show 0 < w - d + 1 by omega)
              have hh1 : d ≤ h ∧ h ≤ w := by omega
              refine W.eq (g2 := F0 m 174 ls [.int (nI h)]) (congrArg (fun z9 => F0 m 174 ls (.int z9 :: [])) (congrArg nI hh)) ?_
              refine lv_istore (lv' := [(11, .int (nI h)), (10, .int (nI w)), (9, .int (nI y)), (8, .int (nI u)), (7, .int (nI (N1 2))), (6, .int (nI d)), (5, .int xw), (4, .int xv), (0, .ref b0), (1, .ref (q 0)), (2, .ref (q2 0)), (3, .int (nI t))]) hx hb dL_law_174 hl (by decide) rfl (fun ls hl => ?_)
              refine lv_iload hx hb dL_law_176 (lv_at hl 0 rfl) ?_
              refine lv_iload hx hb dL_law_178 (lv_at hl 1 rfl) ?_
              refine lv_icmp_ge (tgt := 196) hx hb dL_law_180 (by decide) (fun c_6 => ?_) (fun c_6 => ?_)
              · replace c_6 := cn_le (a := w) (b := h) (by omega) (by omega) c_6
                refine lv_iconst (v := 0) hx hb dL_law_196 (by decide) ?_
                refine lv_istore (lv' := [(12, .int 0), (11, .int (nI h)), (10, .int (nI w)), (9, .int (nI y)), (8, .int (nI u)), (7, .int (nI (N1 2))), (6, .int (nI d)), (5, .int xw), (4, .int xv), (0, .ref b0), (1, .ref (q 0)), (2, .ref (q2 0)), (3, .int (nI t))]) hx hb dL_law_197 hl (by decide) rfl (fun ls hl => ?_)
                refine lv_aload_n hx hb dL_law_199 rfl (lv_at hl 10 rfl) ?_
                refine lv_iload hx hb dL_law_200 (lv_at hl 6 rfl) ?_
                refine lv_iload hx hb dL_law_202 (lv_at hl 2 rfl) ?_
                refine rn_V S hkx hth (nX5_costs l hl0 (sa := sa) (h9 := (fun q h => Nat.le_trans hS.1 h)) (hP := (P_hd hP)) (hwf := hwf1) (hf := (by omega)) (hw := (by omega)) (f := d) (w := w)) gL_law_X5_costs rfl idX5_costs ⟨Nat.le_of_ble_eq_true rfl, Nat.le_of_ble_eq_true rfl⟩ (P_hd hP) 0 rfl rfl rfl rfl hl.1 rfl (Nat.le_of_ble_eq_true rfl) dL_law_204 ⟨(show 300 + 40 * t + 3 + 3 + 2 ≤ 600086 by omega), (show 3000 + 240 * t + 6 * 3 + 6 * 3 + 12 ≤ 7301442 by omega)⟩ (fun v9 hv9 => ?_)
                subst hv9
                refine W.eq (g2 := F0 m 207 ls [.int (smD (cAlD N1 Z1) d (w + 1 - d))]) rfl ?_
                refine lv_aload_n hx hb dL_law_207 rfl (lv_at hl 10 rfl) ?_
                refine lv_iload hx hb dL_law_208 (lv_at hl 6 rfl) ?_
                refine lv_iload hx hb dL_law_210 (lv_at hl 1 rfl) ?_
                refine rn_V S hkx hth (nX5_costs l hl0 (sa := sa) (h9 := (fun q h => Nat.le_trans hS.1 h)) (hP := (P_hd hP)) (hwf := hwf1) (hf := (by omega)) (hw := (by omega)) (f := d) (w := h)) gL_law_X5_costs rfl idX5_costs ⟨Nat.le_of_ble_eq_true rfl, Nat.le_of_ble_eq_true rfl⟩ (P_hd hP) 0 rfl rfl rfl rfl hl.1 rfl (Nat.le_of_ble_eq_true rfl) dL_law_212 ⟨(show 300 + 40 * t + 3 + 3 + 2 ≤ 600086 by omega), (show 3000 + 240 * t + 6 * 3 + 6 * 3 + 12 ≤ 7301442 by omega)⟩ (fun v9 hv9 => ?_)
                subst hv9
                refine W.eq (g2 := F0 m 215 ls [.int (smD (cAlD N1 Z1) d (h + 1 - d)), .int (smD (cAlD N1 Z1) d (w + 1 - d))]) rfl ?_
                refine lv_iload hx hb dL_law_215 (lv_at hl 0 rfl) ?_
                refine lv_iadd hx hb dL_law_217 ?_
                refine lv_icmp_eq (tgt := 223) hx hb dL_law_218 (by decide) (fun c_7 => ?_) (fun c_7 => ?_)
                · skip
                  refine lv_iload hx hb dL_law_223 (lv_at hl 5 rfl) ?_
                  refine lv_if_le (tgt := 267) hx hb dL_law_225 (by decide) (fun c_8 => ?_) (fun c_8 => ?_)
                  · exfalso; replace c_8 := cn_le (a := N1 2) (b := 0) (by omega) (by omega) c_8; omega
                  · replace c_8 := cn_nle (a := (N1 2)) (b := 0) (by omega) (by omega) c_8
                    refine lv_aload_n hx hb dL_law_228 rfl (lv_at hl 10 rfl) ?_
                    refine lv_iload hx hb dL_law_229 (lv_at hl 4 rfl) ?_
                    refine lv_iload hx hb dL_law_231 (lv_at hl 6 rfl) ?_
                    refine rn_S S hkx hth (nL_isFirst l hl0 (sa := sa) (h9 := (fun q h => Nat.le_trans hS.1 h)) (hP := (P_hd hP)) (hwf := hwf1) (hu := (by omega)) (hf := (by omega)) (u := u) (f := d)) gL_law_L_isFirst rfl idL_isFirst.2 ⟨Nat.le_of_ble_eq_true rfl, Nat.le_of_ble_eq_true rfl⟩ rfl hl.1 rfl (Nat.le_of_ble_eq_true rfl) dL_law_233 ⟨(show 300 + 40 * t + 3 + 3 + 2 ≤ 600086 by omega), (show 3000 + 240 * t + 6 * 3 + 6 * 3 + 12 ≤ 7301442 by omega)⟩ (fun v9 hv9 => ?_)
                    subst hv9
                    refine W.eq (g2 := F0 m 236 ls [.int 1]) rfl ?_
                    refine lv_if_eq (tgt := 265) hx hb dL_law_236 (by decide) (fun c_9 => ?_) (fun c_9 => ?_)
                    · exact absurd c_9 (by decide)
                    · replace c_9 := cn_ne (a := 1) (b := 0) (by omega) (by omega) c_9
                      refine lv_aload_n hx hb dL_law_239 rfl (lv_at hl 10 rfl) ?_
                      refine lv_iload hx hb dL_law_240 (lv_at hl 4 rfl) ?_
                      refine lv_iload hx hb dL_law_242 (lv_at hl 3 rfl) ?_
                      refine lv_iload hx hb dL_law_244 (lv_at hl 6 rfl) ?_
                      refine wn_S S hkx hth (nL_isMove l hl0 (sa := sa) (A9 := lA s) (h9 := (fr_in (D_hd hD) (fun z h => Nat.le_trans hS.1 h))) (hP := P_hd hP) (hD := (D_hd hD).weaken (fun _ _ _ _ => trivial)) (hwf := hwf1) (hsc := hsc11) (u := u) (t := y) (f := d) (hu := (by omega)) (ht := hy9) (hf := (by omega))) gL_law_L_isMove rfl idL_isMove.2 ⟨Nat.le_of_ble_eq_true rfl, Nat.le_of_ble_eq_true rfl⟩ rfl hl.1 rfl (Nat.le_of_ble_eq_true rfl) dL_law_246 ⟨(show 300 + 40 * t + 3 + 3 + 6 ≤ 600086 by omega), (show 3000 + 240 * t + 6 * 3 + 6 * 3 + 6 * 6 ≤ 7301442 by omega)⟩ hS (fr_in (D_hd hD) (fun z h => Nat.le_trans hS.1 h)) (fun v9 H locs hp9 hz1 hk1 hS => ?_)
                      obtain ⟨rfl, b13, M13, Y13, sc13, hsc13, hpm13, hPN⟩ := hp9
                      obtain ⟨hP, hD⟩ := fr_hd hP hD hk1 hPN hpm13
                      have hP : va_P G vwCl ((wMain T q a N1 Z1 b13 M13 Y13 sc13 tx L cu er le nb nc) ++ (wMain T q2 a2 N1 Z1 b12 M12 Y12 sc12 tx2 L2 cu2 er2 le2 nb2 nc2)) H := hP
                      have hD : va_D (lA s) ((wMain T q a N1 Z1 b13 M13 Y13 sc13 tx L cu er le nb nc) ++ (wMain T q2 a2 N1 Z1 b12 M12 Y12 sc12 tx2 L2 cu2 er2 le2 nb2 nc2)) := hD
                      have hth := hth0.kept hS.2.1
                      refine W.eq (g2 := F0 m 249 ls [.int 1]) rfl ?_
                      refine lv_if_eq (tgt := 265) hx hb dL_law_249 (by decide) (fun c_10 => ?_) (fun c_10 => ?_)
                      · exact absurd c_10 (by decide)
                      · replace c_10 := cn_ne (a := 1) (b := 0) (by omega) (by omega) c_10
                        refine lv_aload_n hx hb dL_law_252 rfl (lv_at hl 10 rfl) ?_
                        refine lv_iload hx hb dL_law_253 (lv_at hl 4 rfl) ?_
                        refine lv_iload hx hb dL_law_255 (lv_at hl 6 rfl) ?_
                        refine lv_iload hx hb dL_law_257 (lv_at hl 2 rfl) ?_
                        refine wn_S S hkx hth (nL_isVersion l hl0 (sa := sa) (A9 := lA s) (h9 := (fr_in (D_hd hD) (fun z h => Nat.le_trans hS.1 h))) (hP := P_hd hP) (hD := (D_hd hD).weaken (fun _ _ _ _ => trivial)) (hwf := hwf1) (hsc := hsc13) (u := u) (f := d) (w := w) (hu := (by omega)) (hf := (by omega)) (hw := (by omega))) gL_law_L_isVersion rfl idL_isVersion.2 ⟨Nat.le_of_ble_eq_true rfl, Nat.le_of_ble_eq_true rfl⟩ rfl hl.1 rfl (Nat.le_of_ble_eq_true rfl) dL_law_259 ⟨(show 300 + 40 * t + 3 + 3 + 6 + 24 ≤ 600086 by omega), (show 3000 + 240 * t + 6 * 3 + 6 * 3 + 6 * 6 + 6 * 24 ≤ 7301442 by omega)⟩ hS (fr_in (D_hd hD) (fun z h => Nat.le_trans hS.1 h)) (fun v9 H locs hp9 hz1 hk1 hS => ?_)
                        obtain ⟨rfl, b14, M14, Y14, sc14, hsc14, hpm14, hPN⟩ := hp9
                        obtain ⟨hP, hD⟩ := fr_hd hP hD hk1 hPN hpm14
                        have hP : va_P G vwCl ((wMain T q a N1 Z1 b14 M14 Y14 sc14 tx L cu er le nb nc) ++ (wMain T q2 a2 N1 Z1 b12 M12 Y12 sc12 tx2 L2 cu2 er2 le2 nb2 nc2)) H := hP
                        have hD : va_D (lA s) ((wMain T q a N1 Z1 b14 M14 Y14 sc14 tx L cu er le nb nc) ++ (wMain T q2 a2 N1 Z1 b12 M12 Y12 sc12 tx2 L2 cu2 er2 le2 nb2 nc2)) := hD
                        have hth := hth0.kept hS.2.1
                        refine W.eq (g2 := F0 m 262 ls [.int 1]) rfl ?_
                        refine lv_if_ne (tgt := 267) hx hb dL_law_262 (by decide) (fun c_11 => ?_) (fun c_11 => ?_)
                        · replace c_11 := cn_ne (a := 1) (b := 0) (by omega) (by omega) c_11
                          refine lv_iinc (v := (nI (t + 1))) (lv' := [(3, .int (nI (t + 1))), (12, .int 0), (11, .int (nI h)), (10, .int (nI w)), (9, .int (nI y)), (8, .int (nI u)), (7, .int (nI (N1 2))), (6, .int (nI d)), (5, .int xw), (4, .int xv), (0, .ref b0), (1, .ref (q 0)), (2, .ref (q2 0))]) hx hb dL_law_267 hl (k := 12) rfl (nI_inc t) (by decide) rfl (fun ls hl => ?_)
                          refine lv_goto (tgt := 18) hx hb dL_law_270 (by decide) ?_
                          refine W.widen (k := 300 + 40 * (t + 1)) (n := 3000 + 240 * (t + 1)) (by omega) (by omega) ?_
                          exact ih (t + 1) (by omega) (by omega) H locs ls ⟨a, N1, Z1, b14, M14, Y14, sc14, tx, L, cu, er, le, nb, nc, a2, b12, M12, Y12, sc12, tx2, L2, cu2, er2, le2, nb2, nc2, hwf1, hsc14, hsc12, hP, hD⟩ hS (lv_sub hl [10, 11, 12, 0] rfl)
                        · exact absurd c_11 (by decide)
                · exact absurd (cs_e (by omega)) c_7
              · replace c_6 := cn_nle (a := w) (b := h) (by omega) (by omega) c_6
                refine lv_aload_n hx hb dL_law_183 rfl (lv_at hl 9 rfl) ?_
                refine lv_iload hx hb dL_law_184 (lv_at hl 0 rfl) ?_
                refine lv_iconst (v := 1) hx hb dL_law_186 (by decide) ?_
                refine lv_iadd hx hb dL_law_187 ?_
                refine W.eq (g2 := F0 m 188 ls [.int (nI (h + 1)), .ref (q 0)]) (congrArg (fun z9 => F0 m 188 ls (.int z9 :: [.ref (q 0)])) (nI_add _ 1)) ?_
                refine lv_iload hx hb dL_law_188 (lv_at hl 1 rfl) ?_
                refine rn_V S hkx hth (nX5_costs l hl0 (sa := sa) (h9 := (fun q h => Nat.le_trans hS.1 h)) (hP := (P_hd hP)) (hwf := hwf1) (hf := (by omega)) (hw := (by omega)) (f := (h + 1)) (w := w)) gL_law_X5_costs rfl idX5_costs ⟨Nat.le_of_ble_eq_true rfl, Nat.le_of_ble_eq_true rfl⟩ (P_hd hP) 0 rfl rfl rfl rfl hl.1 rfl (Nat.le_of_ble_eq_true rfl) dL_law_190 ⟨(show 300 + 40 * t + 3 + 3 + 2 ≤ 600086 by omega), (show 3000 + 240 * t + 6 * 3 + 6 * 3 + 12 ≤ 7301442 by omega)⟩ (fun v9 hv9 => ?_)
                subst hv9
                refine W.eq (g2 := F0 m 193 ls [.int (smD (cAlD N1 Z1) (h + 1) (w + 1 - (h + 1)))]) rfl ?_
                refine lv_goto (tgt := 197) hx hb dL_law_193 (by decide) ?_
                refine lv_istore (lv' := [(12, .int (smD (cAlD N1 Z1) (h + 1) (w + 1 - (h + 1)))), (11, .int (nI h)), (10, .int (nI w)), (9, .int (nI y)), (8, .int (nI u)), (7, .int (nI (N1 2))), (6, .int (nI d)), (5, .int xw), (4, .int xv), (0, .ref b0), (1, .ref (q 0)), (2, .ref (q2 0)), (3, .int (nI t))]) hx hb dL_law_197 hl (by decide) rfl (fun ls hl => ?_)
                refine lv_aload_n hx hb dL_law_199 rfl (lv_at hl 10 rfl) ?_
                refine lv_iload hx hb dL_law_200 (lv_at hl 6 rfl) ?_
                refine lv_iload hx hb dL_law_202 (lv_at hl 2 rfl) ?_
                refine rn_V S hkx hth (nX5_costs l hl0 (sa := sa) (h9 := (fun q h => Nat.le_trans hS.1 h)) (hP := (P_hd hP)) (hwf := hwf1) (hf := (by omega)) (hw := (by omega)) (f := d) (w := w)) gL_law_X5_costs rfl idX5_costs ⟨Nat.le_of_ble_eq_true rfl, Nat.le_of_ble_eq_true rfl⟩ (P_hd hP) 0 rfl rfl rfl rfl hl.1 rfl (Nat.le_of_ble_eq_true rfl) dL_law_204 ⟨(show 300 + 40 * t + 3 + 3 + 2 ≤ 600086 by omega), (show 3000 + 240 * t + 6 * 3 + 6 * 3 + 12 ≤ 7301442 by omega)⟩ (fun v9 hv9 => ?_)
                subst hv9
                refine W.eq (g2 := F0 m 207 ls [.int (smD (cAlD N1 Z1) d (w + 1 - d))]) rfl ?_
                refine lv_aload_n hx hb dL_law_207 rfl (lv_at hl 10 rfl) ?_
                refine lv_iload hx hb dL_law_208 (lv_at hl 6 rfl) ?_
                refine lv_iload hx hb dL_law_210 (lv_at hl 1 rfl) ?_
                refine rn_V S hkx hth (nX5_costs l hl0 (sa := sa) (h9 := (fun q h => Nat.le_trans hS.1 h)) (hP := (P_hd hP)) (hwf := hwf1) (hf := (by omega)) (hw := (by omega)) (f := d) (w := h)) gL_law_X5_costs rfl idX5_costs ⟨Nat.le_of_ble_eq_true rfl, Nat.le_of_ble_eq_true rfl⟩ (P_hd hP) 0 rfl rfl rfl rfl hl.1 rfl (Nat.le_of_ble_eq_true rfl) dL_law_212 ⟨(show 300 + 40 * t + 3 + 3 + 2 ≤ 600086 by omega), (show 3000 + 240 * t + 6 * 3 + 6 * 3 + 12 ≤ 7301442 by omega)⟩ (fun v9 hv9 => ?_)
                subst hv9
                refine W.eq (g2 := F0 m 215 ls [.int (smD (cAlD N1 Z1) d (h + 1 - d)), .int (smD (cAlD N1 Z1) d (w + 1 - d))]) rfl ?_
                refine lv_iload hx hb dL_law_215 (lv_at hl 0 rfl) ?_
                refine lv_iadd hx hb dL_law_217 ?_
                refine lv_icmp_eq (tgt := 223) hx hb dL_law_218 (by decide) (fun c_12 => ?_) (fun c_12 => ?_)
                · skip
                  refine lv_iload hx hb dL_law_223 (lv_at hl 5 rfl) ?_
                  refine lv_if_le (tgt := 267) hx hb dL_law_225 (by decide) (fun c_13 => ?_) (fun c_13 => ?_)
                  · exfalso; replace c_13 := cn_le (a := N1 2) (b := 0) (by omega) (by omega) c_13; omega
                  · replace c_13 := cn_nle (a := (N1 2)) (b := 0) (by omega) (by omega) c_13
                    refine lv_aload_n hx hb dL_law_228 rfl (lv_at hl 10 rfl) ?_
                    refine lv_iload hx hb dL_law_229 (lv_at hl 4 rfl) ?_
                    refine lv_iload hx hb dL_law_231 (lv_at hl 6 rfl) ?_
                    refine rn_S S hkx hth (nL_isFirst l hl0 (sa := sa) (h9 := (fun q h => Nat.le_trans hS.1 h)) (hP := (P_hd hP)) (hwf := hwf1) (hu := (by omega)) (hf := (by omega)) (u := u) (f := d)) gL_law_L_isFirst rfl idL_isFirst.2 ⟨Nat.le_of_ble_eq_true rfl, Nat.le_of_ble_eq_true rfl⟩ rfl hl.1 rfl (Nat.le_of_ble_eq_true rfl) dL_law_233 ⟨(show 300 + 40 * t + 3 + 3 + 2 ≤ 600086 by omega), (show 3000 + 240 * t + 6 * 3 + 6 * 3 + 12 ≤ 7301442 by omega)⟩ (fun v9 hv9 => ?_)
                    subst hv9
                    refine W.eq (g2 := F0 m 236 ls [.int 1]) rfl ?_
                    refine lv_if_eq (tgt := 265) hx hb dL_law_236 (by decide) (fun c_14 => ?_) (fun c_14 => ?_)
                    · exact absurd c_14 (by decide)
                    · replace c_14 := cn_ne (a := 1) (b := 0) (by omega) (by omega) c_14
                      refine lv_aload_n hx hb dL_law_239 rfl (lv_at hl 10 rfl) ?_
                      refine lv_iload hx hb dL_law_240 (lv_at hl 4 rfl) ?_
                      refine lv_iload hx hb dL_law_242 (lv_at hl 3 rfl) ?_
                      refine lv_iload hx hb dL_law_244 (lv_at hl 6 rfl) ?_
                      refine wn_S S hkx hth (nL_isMove l hl0 (sa := sa) (A9 := lA s) (h9 := (fr_in (D_hd hD) (fun z h => Nat.le_trans hS.1 h))) (hP := P_hd hP) (hD := (D_hd hD).weaken (fun _ _ _ _ => trivial)) (hwf := hwf1) (hsc := hsc11) (u := u) (t := y) (f := d) (hu := (by omega)) (ht := hy9) (hf := (by omega))) gL_law_L_isMove rfl idL_isMove.2 ⟨Nat.le_of_ble_eq_true rfl, Nat.le_of_ble_eq_true rfl⟩ rfl hl.1 rfl (Nat.le_of_ble_eq_true rfl) dL_law_246 ⟨(show 300 + 40 * t + 3 + 3 + 6 ≤ 600086 by omega), (show 3000 + 240 * t + 6 * 3 + 6 * 3 + 6 * 6 ≤ 7301442 by omega)⟩ hS (fr_in (D_hd hD) (fun z h => Nat.le_trans hS.1 h)) (fun v9 H locs hp9 hz1 hk1 hS => ?_)
                      obtain ⟨rfl, b13, M13, Y13, sc13, hsc13, hpm13, hPN⟩ := hp9
                      obtain ⟨hP, hD⟩ := fr_hd hP hD hk1 hPN hpm13
                      have hP : va_P G vwCl ((wMain T q a N1 Z1 b13 M13 Y13 sc13 tx L cu er le nb nc) ++ (wMain T q2 a2 N1 Z1 b12 M12 Y12 sc12 tx2 L2 cu2 er2 le2 nb2 nc2)) H := hP
                      have hD : va_D (lA s) ((wMain T q a N1 Z1 b13 M13 Y13 sc13 tx L cu er le nb nc) ++ (wMain T q2 a2 N1 Z1 b12 M12 Y12 sc12 tx2 L2 cu2 er2 le2 nb2 nc2)) := hD
                      have hth := hth0.kept hS.2.1
                      refine W.eq (g2 := F0 m 249 ls [.int 1]) rfl ?_
                      refine lv_if_eq (tgt := 265) hx hb dL_law_249 (by decide) (fun c_15 => ?_) (fun c_15 => ?_)
                      · exact absurd c_15 (by decide)
                      · replace c_15 := cn_ne (a := 1) (b := 0) (by omega) (by omega) c_15
                        refine lv_aload_n hx hb dL_law_252 rfl (lv_at hl 10 rfl) ?_
                        refine lv_iload hx hb dL_law_253 (lv_at hl 4 rfl) ?_
                        refine lv_iload hx hb dL_law_255 (lv_at hl 6 rfl) ?_
                        refine lv_iload hx hb dL_law_257 (lv_at hl 2 rfl) ?_
                        refine wn_S S hkx hth (nL_isVersion l hl0 (sa := sa) (A9 := lA s) (h9 := (fr_in (D_hd hD) (fun z h => Nat.le_trans hS.1 h))) (hP := P_hd hP) (hD := (D_hd hD).weaken (fun _ _ _ _ => trivial)) (hwf := hwf1) (hsc := hsc13) (u := u) (f := d) (w := w) (hu := (by omega)) (hf := (by omega)) (hw := (by omega))) gL_law_L_isVersion rfl idL_isVersion.2 ⟨Nat.le_of_ble_eq_true rfl, Nat.le_of_ble_eq_true rfl⟩ rfl hl.1 rfl (Nat.le_of_ble_eq_true rfl) dL_law_259 ⟨(show 300 + 40 * t + 3 + 3 + 6 + 24 ≤ 600086 by omega), (show 3000 + 240 * t + 6 * 3 + 6 * 3 + 6 * 6 + 6 * 24 ≤ 7301442 by omega)⟩ hS (fr_in (D_hd hD) (fun z h => Nat.le_trans hS.1 h)) (fun v9 H locs hp9 hz1 hk1 hS => ?_)
                        obtain ⟨rfl, b14, M14, Y14, sc14, hsc14, hpm14, hPN⟩ := hp9
                        obtain ⟨hP, hD⟩ := fr_hd hP hD hk1 hPN hpm14
                        have hP : va_P G vwCl ((wMain T q a N1 Z1 b14 M14 Y14 sc14 tx L cu er le nb nc) ++ (wMain T q2 a2 N1 Z1 b12 M12 Y12 sc12 tx2 L2 cu2 er2 le2 nb2 nc2)) H := hP
                        have hD : va_D (lA s) ((wMain T q a N1 Z1 b14 M14 Y14 sc14 tx L cu er le nb nc) ++ (wMain T q2 a2 N1 Z1 b12 M12 Y12 sc12 tx2 L2 cu2 er2 le2 nb2 nc2)) := hD
                        have hth := hth0.kept hS.2.1
                        refine W.eq (g2 := F0 m 262 ls [.int 1]) rfl ?_
                        refine lv_if_ne (tgt := 267) hx hb dL_law_262 (by decide) (fun c_16 => ?_) (fun c_16 => ?_)
                        · replace c_16 := cn_ne (a := 1) (b := 0) (by omega) (by omega) c_16
                          refine lv_iinc (v := (nI (t + 1))) (lv' := [(3, .int (nI (t + 1))), (12, .int (smD (cAlD N1 Z1) (h + 1) (w + 1 - (h + 1)))), (11, .int (nI h)), (10, .int (nI w)), (9, .int (nI y)), (8, .int (nI u)), (7, .int (nI (N1 2))), (6, .int (nI d)), (5, .int xw), (4, .int xv), (0, .ref b0), (1, .ref (q 0)), (2, .ref (q2 0))]) hx hb dL_law_267 hl (k := 12) rfl (nI_inc t) (by decide) rfl (fun ls hl => ?_)
                          refine lv_goto (tgt := 18) hx hb dL_law_270 (by decide) ?_
                          refine W.widen (k := 300 + 40 * (t + 1)) (n := 3000 + 240 * (t + 1)) (by omega) (by omega) ?_
                          exact ih (t + 1) (by omega) (by omega) H locs ls ⟨a, N1, Z1, b14, M14, Y14, sc14, tx, L, cu, er, le, nb, nc, a2, b12, M12, Y12, sc12, tx2, L2, cu2, er2, le2, nb2, nc2, hwf1, hsc14, hsc12, hP, hD⟩ hS (lv_sub hl [10, 11, 12, 0] rfl)
                        · exact absurd c_16 (by decide)
                · exact absurd (cs_s (by omega) (by omega)) c_12
            · exfalso; replace c_5 := cn_eq (a := N1 2) (b := 0) (by omega) (by omega) c_5; omega
          · replace c_4 := cn_eq (a := (N1 2)) (b := 0) (by omega) (by omega) c_4
            refine lv_iconst (v := 0) hx hb dL_law_98 (by decide) ?_
            refine lv_goto (tgt := 112) hx hb dL_law_99 (by decide) ?_
            refine lv_istore (lv' := [(8, .int 0), (7, .int (nI (N1 2))), (6, .int (nI d)), (5, .int xw), (4, .int xv), (0, .ref b0), (1, .ref (q 0)), (2, .ref (q2 0)), (3, .int (nI t))]) hx hb dL_law_112 hl (by decide) rfl (fun ls hl => ?_)
            refine lv_iload hx hb dL_law_114 (lv_at hl 1 rfl) ?_
            refine lv_if_ne (tgt := 123) hx hb dL_law_116 (by decide) (fun c_17 => ?_) (fun c_17 => ?_)
            · exact absurd (show nI (N1 2) = 0 by rw [show N1 2 = 0 by omega]; rfl) c_17
            · replace c_17 := cn_eq (a := (N1 2)) (b := 0) (by omega) (by omega) c_17
              refine lv_iconst (v := 0) hx hb dL_law_119 (by decide) ?_
              refine lv_goto (tgt := 136) hx hb dL_law_120 (by decide) ?_
              refine lv_istore (lv' := [(9, .int 0), (8, .int 0), (7, .int (nI (N1 2))), (6, .int (nI d)), (5, .int xw), (4, .int xv), (0, .ref b0), (1, .ref (q 0)), (2, .ref (q2 0)), (3, .int (nI t))]) hx hb dL_law_136 hl (by decide) rfl (fun ls hl => ?_)
              refine lv_iload hx hb dL_law_138 (lv_at hl 3 rfl) ?_
              refine lv_iload hx hb dL_law_140 (lv_at hl 5 rfl) ?_
              refine lv_iconst (v := 3) hx hb dL_law_142 (by decide) ?_
              refine lv_ishr hx hb dL_law_143 ?_
              refine lv_sipush (v := 1000) hx hb dL_law_144 (by decide) ?_
              refine lv_iload hx hb dL_law_147 (lv_at hl 3 rfl) ?_
              refine lv_isub hx hb dL_law_149 ?_
              refine W.eq (g2 := F0 m 150 ls [.int (nI (1000 - d)), .int (xv >>> (3 &&& 31)), .int (nI d)]) (congrArg (fun z9 => F0 m 150 ls (.int z9 :: [.int (xv >>> (3 &&& 31)), .int (nI d)])) (pk_sub (a := 1000) (b := d) (by omega))) ?_
              refine ro_S S hkx (mL_low l (v := (xv >>> (3 &&& 31))) (k := (1000 - d)) (h0 := (by omega)) (hk := (by omega))) gL_law_L_low rfl idL_low.2 ⟨Nat.le_of_ble_eq_true rfl, Nat.le_of_ble_eq_true rfl⟩ rfl hl.1 rfl (Nat.le_of_ble_eq_true rfl) dL_law_150 ⟨(show 300 + 40 * t + 3 + 3 ≤ 600086 by omega), (show 3000 + 240 * t + 6 * 3 + 6 * 3 ≤ 7301442 by omega)⟩ (fun r9 hr9 => ?_)
              subst hr9
              refine W.eq (g2 := F0 m 153 ls [.int (nI (lowN (xv >>> (3 &&& 31)) (1000 - d))), .int (nI d)]) rfl ?_
              refine lv_iadd hx hb dL_law_153 ?_
              refine W.eq (g2 := F0 m 154 ls [.int (nI (d + (lowN (xv >>> (3 &&& 31)) (1000 - d))))]) (congrArg (fun z9 => F0 m 154 ls (.int z9 :: [])) (nI_add _ _)) ?_
              obtain ⟨w, hw⟩ : ∃ z, (d + (lowN (xv >>> (3 &&& 31)) (1000 - d))) = z := ⟨_, rfl⟩
              have hw9 := lowN_lt (xv >>> (3 &&& 31)) (show 0 < 1000 - d by omega)
              have hw1 : d ≤ w ∧ w ≤ 999 := by omega
              refine W.eq (g2 := F0 m 154 ls [.int (nI w)]) (congrArg (fun z9 => F0 m 154 ls (.int z9 :: [])) (congrArg nI hw)) ?_
              refine lv_istore (lv' := [(10, .int (nI w)), (9, .int 0), (8, .int 0), (7, .int (nI (N1 2))), (6, .int (nI d)), (5, .int xw), (4, .int xv), (0, .ref b0), (1, .ref (q 0)), (2, .ref (q2 0)), (3, .int (nI t))]) hx hb dL_law_154 hl (by decide) rfl (fun ls hl => ?_)
              refine lv_iload hx hb dL_law_156 (lv_at hl 4 rfl) ?_
              refine lv_iload hx hb dL_law_158 (lv_at hl 6 rfl) ?_
              refine lv_bipush (v := 7) hx hb dL_law_160 (by decide) ?_
              refine lv_ishr hx hb dL_law_162 ?_
              refine lv_iload hx hb dL_law_163 (lv_at hl 0 rfl) ?_
              refine lv_iload hx hb dL_law_165 (lv_at hl 4 rfl) ?_
              refine lv_isub hx hb dL_law_167 ?_
              refine W.eq (g2 := F0 m 168 ls [.int (nI (w - d)), .int (xv >>> (7 &&& 31)), .int (nI d)]) (congrArg (fun z9 => F0 m 168 ls (.int z9 :: [.int (xv >>> (7 &&& 31)), .int (nI d)])) (pk_sub (a := w) (b := d) (by omega))) ?_
              refine lv_iconst (v := 1) hx hb dL_law_168 (by decide) ?_
              refine lv_iadd hx hb dL_law_169 ?_
              refine W.eq (g2 := F0 m 170 ls [.int (nI ((w - d) + 1)), .int (xv >>> (7 &&& 31)), .int (nI d)]) (congrArg (fun z9 => F0 m 170 ls (.int z9 :: [.int (xv >>> (7 &&& 31)), .int (nI d)])) (nI_add _ 1)) ?_
              refine ro_S S hkx (mL_low l (v := (xv >>> (7 &&& 31))) (k := ((w - d) + 1)) (h0 := (by omega)) (hk := (by omega))) gL_law_L_low rfl idL_low.2 ⟨Nat.le_of_ble_eq_true rfl, Nat.le_of_ble_eq_true rfl⟩ rfl hl.1 rfl (Nat.le_of_ble_eq_true rfl) dL_law_170 ⟨(show 300 + 40 * t + 3 + 3 ≤ 600086 by omega), (show 3000 + 240 * t + 6 * 3 + 6 * 3 ≤ 7301442 by omega)⟩ (fun r9 hr9 => ?_)
              subst hr9
              refine W.eq (g2 := F0 m 173 ls [.int (nI (lowN (xv >>> (7 &&& 31)) ((w - d) + 1))), .int (nI d)]) rfl ?_
              refine lv_iadd hx hb dL_law_173 ?_
              refine W.eq (g2 := F0 m 174 ls [.int (nI (d + (lowN (xv >>> (7 &&& 31)) ((w - d) + 1))))]) (congrArg (fun z9 => F0 m 174 ls (.int z9 :: [])) (nI_add _ _)) ?_
              obtain ⟨h, hh⟩ : ∃ z, (d + (lowN (xv >>> (7 &&& 31)) ((w - d) + 1))) = z := ⟨_, rfl⟩
              have hh9 := lowN_lt (xv >>> (7 &&& 31)) (show 0 < w - d + 1 by omega)
              have hh1 : d ≤ h ∧ h ≤ w := by omega
              refine W.eq (g2 := F0 m 174 ls [.int (nI h)]) (congrArg (fun z9 => F0 m 174 ls (.int z9 :: [])) (congrArg nI hh)) ?_
              refine lv_istore (lv' := [(11, .int (nI h)), (10, .int (nI w)), (9, .int 0), (8, .int 0), (7, .int (nI (N1 2))), (6, .int (nI d)), (5, .int xw), (4, .int xv), (0, .ref b0), (1, .ref (q 0)), (2, .ref (q2 0)), (3, .int (nI t))]) hx hb dL_law_174 hl (by decide) rfl (fun ls hl => ?_)
              refine lv_iload hx hb dL_law_176 (lv_at hl 0 rfl) ?_
              refine lv_iload hx hb dL_law_178 (lv_at hl 1 rfl) ?_
              refine lv_icmp_ge (tgt := 196) hx hb dL_law_180 (by decide) (fun c_18 => ?_) (fun c_18 => ?_)
              · replace c_18 := cn_le (a := w) (b := h) (by omega) (by omega) c_18
                refine lv_iconst (v := 0) hx hb dL_law_196 (by decide) ?_
                refine lv_istore (lv' := [(12, .int 0), (11, .int (nI h)), (10, .int (nI w)), (9, .int 0), (8, .int 0), (7, .int (nI (N1 2))), (6, .int (nI d)), (5, .int xw), (4, .int xv), (0, .ref b0), (1, .ref (q 0)), (2, .ref (q2 0)), (3, .int (nI t))]) hx hb dL_law_197 hl (by decide) rfl (fun ls hl => ?_)
                refine lv_aload_n hx hb dL_law_199 rfl (lv_at hl 10 rfl) ?_
                refine lv_iload hx hb dL_law_200 (lv_at hl 6 rfl) ?_
                refine lv_iload hx hb dL_law_202 (lv_at hl 2 rfl) ?_
                refine rn_V S hkx hth (nX5_costs l hl0 (sa := sa) (h9 := (fun q h => Nat.le_trans hS.1 h)) (hP := (P_hd hP)) (hwf := hwf1) (hf := (by omega)) (hw := (by omega)) (f := d) (w := w)) gL_law_X5_costs rfl idX5_costs ⟨Nat.le_of_ble_eq_true rfl, Nat.le_of_ble_eq_true rfl⟩ (P_hd hP) 0 rfl rfl rfl rfl hl.1 rfl (Nat.le_of_ble_eq_true rfl) dL_law_204 ⟨(show 300 + 40 * t + 3 + 3 + 2 ≤ 600086 by omega), (show 3000 + 240 * t + 6 * 3 + 6 * 3 + 12 ≤ 7301442 by omega)⟩ (fun v9 hv9 => ?_)
                subst hv9
                refine W.eq (g2 := F0 m 207 ls [.int (smD (cAlD N1 Z1) d (w + 1 - d))]) rfl ?_
                refine lv_aload_n hx hb dL_law_207 rfl (lv_at hl 10 rfl) ?_
                refine lv_iload hx hb dL_law_208 (lv_at hl 6 rfl) ?_
                refine lv_iload hx hb dL_law_210 (lv_at hl 1 rfl) ?_
                refine rn_V S hkx hth (nX5_costs l hl0 (sa := sa) (h9 := (fun q h => Nat.le_trans hS.1 h)) (hP := (P_hd hP)) (hwf := hwf1) (hf := (by omega)) (hw := (by omega)) (f := d) (w := h)) gL_law_X5_costs rfl idX5_costs ⟨Nat.le_of_ble_eq_true rfl, Nat.le_of_ble_eq_true rfl⟩ (P_hd hP) 0 rfl rfl rfl rfl hl.1 rfl (Nat.le_of_ble_eq_true rfl) dL_law_212 ⟨(show 300 + 40 * t + 3 + 3 + 2 ≤ 600086 by omega), (show 3000 + 240 * t + 6 * 3 + 6 * 3 + 12 ≤ 7301442 by omega)⟩ (fun v9 hv9 => ?_)
                subst hv9
                refine W.eq (g2 := F0 m 215 ls [.int (smD (cAlD N1 Z1) d (h + 1 - d)), .int (smD (cAlD N1 Z1) d (w + 1 - d))]) rfl ?_
                refine lv_iload hx hb dL_law_215 (lv_at hl 0 rfl) ?_
                refine lv_iadd hx hb dL_law_217 ?_
                refine lv_icmp_eq (tgt := 223) hx hb dL_law_218 (by decide) (fun c_19 => ?_) (fun c_19 => ?_)
                · skip
                  refine lv_iload hx hb dL_law_223 (lv_at hl 5 rfl) ?_
                  refine lv_if_le (tgt := 267) hx hb dL_law_225 (by decide) (fun c_20 => ?_) (fun c_20 => ?_)
                  · replace c_20 := cn_le (a := (N1 2)) (b := 0) (by omega) (by omega) c_20
                    refine lv_iinc (v := (nI (t + 1))) (lv' := [(3, .int (nI (t + 1))), (12, .int 0), (11, .int (nI h)), (10, .int (nI w)), (9, .int 0), (8, .int 0), (7, .int (nI (N1 2))), (6, .int (nI d)), (5, .int xw), (4, .int xv), (0, .ref b0), (1, .ref (q 0)), (2, .ref (q2 0))]) hx hb dL_law_267 hl (k := 12) rfl (nI_inc t) (by decide) rfl (fun ls hl => ?_)
                    refine lv_goto (tgt := 18) hx hb dL_law_270 (by decide) ?_
                    refine W.widen (k := 300 + 40 * (t + 1)) (n := 3000 + 240 * (t + 1)) (by omega) (by omega) ?_
                    exact ih (t + 1) (by omega) (by omega) H locs ls ⟨a, N1, Z1, b11, M11, Y11, sc11, tx, L, cu, er, le, nb, nc, a2, b12, M12, Y12, sc12, tx2, L2, cu2, er2, le2, nb2, nc2, hwf1, hsc11, hsc12, hP, hD⟩ hS (lv_sub hl [10, 11, 12, 0] rfl)
                  · exfalso; replace c_20 := cn_nle (a := N1 2) (b := 0) (by omega) (by omega) c_20; omega
                · exact absurd (cs_e (by omega)) c_19
              · replace c_18 := cn_nle (a := w) (b := h) (by omega) (by omega) c_18
                refine lv_aload_n hx hb dL_law_183 rfl (lv_at hl 9 rfl) ?_
                refine lv_iload hx hb dL_law_184 (lv_at hl 0 rfl) ?_
                refine lv_iconst (v := 1) hx hb dL_law_186 (by decide) ?_
                refine lv_iadd hx hb dL_law_187 ?_
                refine W.eq (g2 := F0 m 188 ls [.int (nI (h + 1)), .ref (q 0)]) (congrArg (fun z9 => F0 m 188 ls (.int z9 :: [.ref (q 0)])) (nI_add _ 1)) ?_
                refine lv_iload hx hb dL_law_188 (lv_at hl 1 rfl) ?_
                refine rn_V S hkx hth (nX5_costs l hl0 (sa := sa) (h9 := (fun q h => Nat.le_trans hS.1 h)) (hP := (P_hd hP)) (hwf := hwf1) (hf := (by omega)) (hw := (by omega)) (f := (h + 1)) (w := w)) gL_law_X5_costs rfl idX5_costs ⟨Nat.le_of_ble_eq_true rfl, Nat.le_of_ble_eq_true rfl⟩ (P_hd hP) 0 rfl rfl rfl rfl hl.1 rfl (Nat.le_of_ble_eq_true rfl) dL_law_190 ⟨(show 300 + 40 * t + 3 + 3 + 2 ≤ 600086 by omega), (show 3000 + 240 * t + 6 * 3 + 6 * 3 + 12 ≤ 7301442 by omega)⟩ (fun v9 hv9 => ?_)
                subst hv9
                refine W.eq (g2 := F0 m 193 ls [.int (smD (cAlD N1 Z1) (h + 1) (w + 1 - (h + 1)))]) rfl ?_
                refine lv_goto (tgt := 197) hx hb dL_law_193 (by decide) ?_
                refine lv_istore (lv' := [(12, .int (smD (cAlD N1 Z1) (h + 1) (w + 1 - (h + 1)))), (11, .int (nI h)), (10, .int (nI w)), (9, .int 0), (8, .int 0), (7, .int (nI (N1 2))), (6, .int (nI d)), (5, .int xw), (4, .int xv), (0, .ref b0), (1, .ref (q 0)), (2, .ref (q2 0)), (3, .int (nI t))]) hx hb dL_law_197 hl (by decide) rfl (fun ls hl => ?_)
                refine lv_aload_n hx hb dL_law_199 rfl (lv_at hl 10 rfl) ?_
                refine lv_iload hx hb dL_law_200 (lv_at hl 6 rfl) ?_
                refine lv_iload hx hb dL_law_202 (lv_at hl 2 rfl) ?_
                refine rn_V S hkx hth (nX5_costs l hl0 (sa := sa) (h9 := (fun q h => Nat.le_trans hS.1 h)) (hP := (P_hd hP)) (hwf := hwf1) (hf := (by omega)) (hw := (by omega)) (f := d) (w := w)) gL_law_X5_costs rfl idX5_costs ⟨Nat.le_of_ble_eq_true rfl, Nat.le_of_ble_eq_true rfl⟩ (P_hd hP) 0 rfl rfl rfl rfl hl.1 rfl (Nat.le_of_ble_eq_true rfl) dL_law_204 ⟨(show 300 + 40 * t + 3 + 3 + 2 ≤ 600086 by omega), (show 3000 + 240 * t + 6 * 3 + 6 * 3 + 12 ≤ 7301442 by omega)⟩ (fun v9 hv9 => ?_)
                subst hv9
                refine W.eq (g2 := F0 m 207 ls [.int (smD (cAlD N1 Z1) d (w + 1 - d))]) rfl ?_
                refine lv_aload_n hx hb dL_law_207 rfl (lv_at hl 10 rfl) ?_
                refine lv_iload hx hb dL_law_208 (lv_at hl 6 rfl) ?_
                refine lv_iload hx hb dL_law_210 (lv_at hl 1 rfl) ?_
                refine rn_V S hkx hth (nX5_costs l hl0 (sa := sa) (h9 := (fun q h => Nat.le_trans hS.1 h)) (hP := (P_hd hP)) (hwf := hwf1) (hf := (by omega)) (hw := (by omega)) (f := d) (w := h)) gL_law_X5_costs rfl idX5_costs ⟨Nat.le_of_ble_eq_true rfl, Nat.le_of_ble_eq_true rfl⟩ (P_hd hP) 0 rfl rfl rfl rfl hl.1 rfl (Nat.le_of_ble_eq_true rfl) dL_law_212 ⟨(show 300 + 40 * t + 3 + 3 + 2 ≤ 600086 by omega), (show 3000 + 240 * t + 6 * 3 + 6 * 3 + 12 ≤ 7301442 by omega)⟩ (fun v9 hv9 => ?_)
                subst hv9
                refine W.eq (g2 := F0 m 215 ls [.int (smD (cAlD N1 Z1) d (h + 1 - d)), .int (smD (cAlD N1 Z1) d (w + 1 - d))]) rfl ?_
                refine lv_iload hx hb dL_law_215 (lv_at hl 0 rfl) ?_
                refine lv_iadd hx hb dL_law_217 ?_
                refine lv_icmp_eq (tgt := 223) hx hb dL_law_218 (by decide) (fun c_21 => ?_) (fun c_21 => ?_)
                · skip
                  refine lv_iload hx hb dL_law_223 (lv_at hl 5 rfl) ?_
                  refine lv_if_le (tgt := 267) hx hb dL_law_225 (by decide) (fun c_22 => ?_) (fun c_22 => ?_)
                  · replace c_22 := cn_le (a := (N1 2)) (b := 0) (by omega) (by omega) c_22
                    refine lv_iinc (v := (nI (t + 1))) (lv' := [(3, .int (nI (t + 1))), (12, .int (smD (cAlD N1 Z1) (h + 1) (w + 1 - (h + 1)))), (11, .int (nI h)), (10, .int (nI w)), (9, .int 0), (8, .int 0), (7, .int (nI (N1 2))), (6, .int (nI d)), (5, .int xw), (4, .int xv), (0, .ref b0), (1, .ref (q 0)), (2, .ref (q2 0))]) hx hb dL_law_267 hl (k := 12) rfl (nI_inc t) (by decide) rfl (fun ls hl => ?_)
                    refine lv_goto (tgt := 18) hx hb dL_law_270 (by decide) ?_
                    refine W.widen (k := 300 + 40 * (t + 1)) (n := 3000 + 240 * (t + 1)) (by omega) (by omega) ?_
                    exact ih (t + 1) (by omega) (by omega) H locs ls ⟨a, N1, Z1, b11, M11, Y11, sc11, tx, L, cu, er, le, nb, nc, a2, b12, M12, Y12, sc12, tx2, L2, cu2, er2, le2, nb2, nc2, hwf1, hsc11, hsc12, hP, hD⟩ hS (lv_sub hl [10, 11, 12, 0] rfl)
                  · exfalso; replace c_22 := cn_nle (a := N1 2) (b := 0) (by omega) (by omega) c_22; omega
                · exact absurd (cs_s (by omega) (by omega)) c_21
        · exact absurd c_3 (by decide)
