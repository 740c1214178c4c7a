theorem idX5_requireThere : yX5_requireThere.cls = RX5 ∧ yX5_requireThere.cls ≠ "java/lang/invoke/MethodHandle" ∧ yX5_requireThere.cls ≠ "java/lang/invoke/VarHandle" ∧ (parseMethodDescriptor yX5_requireThere.desc).map (fun d => d.parameters.length) = some 2 := by decide +kernel

set_option maxHeartbeats 4000000 in
set_option maxRecDepth 100000 in
theorem mX5_requireThere (l : Launch) (hl0 : l.stackTraces = false) {G : va_G} {T : Nat → ClassId} {sa : Nat → Nat} {A9 : Nat → Prop} {H : Heap} {i : Int32} {n : Int32} (h9 : ∀ q, H.size ≤ q → A9 q)  : rx l yX5_requireThere wsX5_requireThere 6 82 1 [.int i, .int n] G T sa A9 H (fun v9 => (thF i n) = 0 ∧ v9 = none) (fcE (thF i n)) := by
  refine rx_of (cc := cX5_requireThere) (maxL := 2) (ret := none) (own := RX5) (by decide +kernel) rfl rfl (Nat.le_of_ble_eq_true rfl) h9 ?_
  intro p e s m below meth c ls hH S hkx hth hnt hlk hl hri hrd hrv hout
  obtain ⟨hx, hb, hml, hown, hts⟩ := id S
  have hl : lv_has ls 2 [(0, .int i), (1, .int n)] := hl
  have kNI := hts (.classLink RX5 233 eI) (by decide +kernel)
  have kIniI := hts (.initialized eI) (by decide +kernel)
  refine lv_iload_n hx hb dX5_requireThere_0 rfl (lv_at hl 0 rfl) ?_
  refine lv_iload_n hx hb dX5_requireThere_1 rfl (lv_at hl 1 rfl) ?_
  refine ro_S S hkx (mX5_isThere l (i := i) (n := n)) gX5_requireThere_X5_isThere rfl idX5_isThere.2 ⟨Nat.le_of_ble_eq_true rfl, Nat.le_of_ble_eq_true rfl⟩ rfl hl.1 rfl (Nat.le_of_ble_eq_true rfl) dX5_requireThere_2 ⟨Nat.le_of_ble_eq_true rfl, Nat.le_of_ble_eq_true rfl⟩ (fun r_1 hr_1 => ?_)
  subst hr_1
  refine lv_if_ne (tgt := 18) hx hb dX5_requireThere_5 (by decide) (fun c_2 => ?_) (fun c_2 => ?_)
  · replace c_2 := bI_n0 c_2
    exact hrv _ _ _ _ rfl (show (thF i n) = 0 ∧ (none : Option Value) = none from ⟨(by simp [thF, *]), rfl⟩) (Nat.le_of_ble_eq_true rfl) (Nat.le_of_ble_eq_true rfl) dX5_requireThere_18
  · replace c_2 := bI_e0 c_2
    exact vx_throwS (A := fun q => H.size ≤ q) hx hb hl0 hown thfI thfN kNI kIniI hth.2.2.2.1 (thr_at hth th2I hth.1.2.2.2.1 (fun w h => hts w (by first | exact List.mem_cons_of_mem _ (List.mem_append_right _ h) | exact List.mem_cons_of_mem _ (List.mem_append_left _ (List.mem_append_right _ h)) | exact List.mem_cons_of_mem _ (List.mem_append_left _ (List.mem_append_left _ (List.mem_append_right _ h)))))) thgI (by rw [hH]; exact hth.2.1) (by rw [hH]; exact hth.2.2.1) (by rw [hH]; exact va_S.rf) (hl.1.trans hml.symm) dX5_requireThere_8 dX5_requireThere_11 dX5_requireThere_12 dX5_requireThere_14 dX5_requireThere_17 (fun x hx => (hnt x hx).elim) (by decide) (by decide) (by decide) (by decide) hlk (fun t _ hz hk => ⟨Or.inl ⟨(by simp [thF, *]), rfl⟩, by rw [hH]; exact hz, by rw [hH]; exact hk⟩) (fun _ h => by cases h) (by decide) (by decide)

theorem idX5_requireWithin : yX5_requireWithin.cls = RX5 ∧ yX5_requireWithin.cls ≠ "java/lang/invoke/MethodHandle" ∧ yX5_requireWithin.cls ≠ "java/lang/invoke/VarHandle" ∧ (parseMethodDescriptor yX5_requireWithin.desc).map (fun d => d.parameters.length) = some 3 := by decide +kernel

set_option maxHeartbeats 4000000 in
set_option maxRecDepth 100000 in
theorem mX5_requireWithin (l : Launch) (hl0 : l.stackTraces = false) {G : va_G} {T : Nat → ClassId} {sa : Nat → Nat} {A9 : Nat → Prop} {H : Heap} {v : Int32} {x : Int32} {z : Int32} (h9 : ∀ q, H.size ≤ q → A9 q)  : rx l yX5_requireWithin wsX5_requireWithin 6 82 1 [.int v, .int x, .int z] G T sa A9 H (fun v9 => (wiF v x z) = 0 ∧ v9 = none) (fcE (wiF v x z)) := by
  refine rx_of (cc := cX5_requireWithin) (maxL := 3) (ret := none) (own := RX5) (by decide +kernel) rfl rfl (Nat.le_of_ble_eq_true rfl) h9 ?_
  intro p e s m below meth c ls hH S hkx hth hnt hlk hl hri hrd hrv hout
  obtain ⟨hx, hb, hml, hown, hts⟩ := id S
  have hl : lv_has ls 3 [(0, .int v), (1, .int x), (2, .int z)] := hl
  have kNA := hts (.classLink RX5 244 eA) (by decide +kernel)
  have kIniA := hts (.initialized eA) (by decide +kernel)
  refine lv_iload_n hx hb dX5_requireWithin_0 rfl (lv_at hl 0 rfl) ?_
  refine lv_iload_n hx hb dX5_requireWithin_1 rfl (lv_at hl 1 rfl) ?_
  refine lv_iload_n hx hb dX5_requireWithin_2 rfl (lv_at hl 2 rfl) ?_
  refine ro_S S hkx (mX5_isWithin l (v := v) (x := x) (z := z)) gX5_requireWithin_X5_isWithin rfl idX5_isWithin.2 ⟨Nat.le_of_ble_eq_true rfl, Nat.le_of_ble_eq_true rfl⟩ rfl hl.1 rfl (Nat.le_of_ble_eq_true rfl) dX5_requireWithin_3 ⟨Nat.le_of_ble_eq_true rfl, Nat.le_of_ble_eq_true rfl⟩ (fun r_1 hr_1 => ?_)
  subst hr_1
  refine lv_if_ne (tgt := 19) hx hb dX5_requireWithin_6 (by decide) (fun c_2 => ?_) (fun c_2 => ?_)
  · replace c_2 := bI_n0 c_2
    exact hrv _ _ _ _ rfl (show (wiF v x z) = 0 ∧ (none : Option Value) = none from ⟨(by simp [wiF, *]), rfl⟩) (Nat.le_of_ble_eq_true rfl) (Nat.le_of_ble_eq_true rfl) dX5_requireWithin_19
  · replace c_2 := bI_e0 c_2
    exact vx_throwS (A := fun q => H.size ≤ q) hx hb hl0 hown thfA thfN kNA kIniA hth.2.2.2.2.1 (thr_at hth th2A hth.1.2.2.2.2.1 (fun w h => hts w (by first | exact List.mem_cons_of_mem _ (List.mem_append_right _ h) | exact List.mem_cons_of_mem _ (List.mem_append_left _ (List.mem_append_right _ h)) | exact List.mem_cons_of_mem _ (List.mem_append_left _ (List.mem_append_left _ (List.mem_append_right _ h)))))) thgA (by rw [hH]; exact hth.2.1) (by rw [hH]; exact hth.2.2.1) (by rw [hH]; exact va_S.rf) (hl.1.trans hml.symm) dX5_requireWithin_9 dX5_requireWithin_12 dX5_requireWithin_13 dX5_requireWithin_15 dX5_requireWithin_18 (fun x hx => (hnt x hx).elim) (by decide) (by decide) (by decide) (by decide) hlk (fun t _ hz hk => ⟨Or.inr (Or.inl ⟨(by simp [wiF, *]), rfl⟩), by rw [hH]; exact hz, by rw [hH]; exact hk⟩) (fun _ h => by cases h) (by decide) (by decide)

theorem idX5_requirePossible : yX5_requirePossible.cls = RX5 ∧ yX5_requirePossible.cls ≠ "java/lang/invoke/MethodHandle" ∧ yX5_requirePossible.cls ≠ "java/lang/invoke/VarHandle" ∧ (parseMethodDescriptor yX5_requirePossible.desc).map (fun d => d.parameters.length) = some 1 := by decide +kernel

set_option maxHeartbeats 4000000 in
set_option maxRecDepth 100000 in
theorem mX5_requirePossible (l : Launch) (hl0 : l.stackTraces = false) {G : va_G} {T : Nat → ClassId} {sa : Nat → Nat} {A9 : Nat → Prop} {H : Heap} {z : Int32} (h9 : ∀ q, H.size ≤ q → A9 q)  : rx l yX5_requirePossible wsX5_requirePossible 6 82 1 [.int z] G T sa A9 H (fun v9 => (poF z) = 0 ∧ v9 = none) (fcE (poF z)) := by
  refine rx_of (cc := cX5_requirePossible) (maxL := 1) (ret := none) (own := RX5) (by decide +kernel) rfl rfl (Nat.le_of_ble_eq_true rfl) h9 ?_
  intro p e s m below meth c ls hH S hkx hth hnt hlk hl hri hrd hrv hout
  obtain ⟨hx, hb, hml, hown, hts⟩ := id S
  have hl : lv_has ls 1 [(0, .int z)] := hl
  have kNS := hts (.classLink RX5 249 eS) (by decide +kernel)
  have kIniS := hts (.initialized eS) (by decide +kernel)
  refine lv_iload_n hx hb dX5_requirePossible_0 rfl (lv_at hl 0 rfl) ?_
  refine lv_if_ne (tgt := 14) hx hb dX5_requirePossible_1 (by decide) (fun c_1 => ?_) (fun c_1 => ?_)
  · skip
    exact hrv _ _ _ _ rfl (show (poF z) = 0 ∧ (none : Option Value) = none from ⟨(by simp [poF, *]), rfl⟩) (Nat.le_of_ble_eq_true rfl) (Nat.le_of_ble_eq_true rfl) dX5_requirePossible_14
  · skip
    exact vx_throwS (A := fun q => H.size ≤ q) hx hb hl0 hown thfS thfN kNS kIniS hth.2.2.2.2.2 (thr_at hth th2S hth.1.2.2.2.2.2 (fun w h => hts w (by first | exact List.mem_cons_of_mem _ (List.mem_append_right _ h) | exact List.mem_cons_of_mem _ (List.mem_append_left _ (List.mem_append_right _ h)) | exact List.mem_cons_of_mem _ (List.mem_append_left _ (List.mem_append_left _ (List.mem_append_right _ h)))))) thgS (by rw [hH]; exact hth.2.1) (by rw [hH]; exact hth.2.2.1) (by rw [hH]; exact va_S.rf) (hl.1.trans hml.symm) dX5_requirePossible_4 dX5_requirePossible_7 dX5_requirePossible_8 dX5_requirePossible_10 dX5_requirePossible_13 (fun x hx => (hnt x hx).elim) (by decide) (by decide) (by decide) (by decide) hlk (fun t _ hz hk => ⟨Or.inr (Or.inr ⟨(by simp [poF, *]), rfl⟩), by rw [hH]; exact hz, by rw [hH]; exact hk⟩) (fun _ h => by cases h) (by decide) (by decide)

theorem idX5_refuse : yX5_refuse.cls = RX5 ∧ yX5_refuse.cls ≠ "java/lang/invoke/MethodHandle" ∧ yX5_refuse.cls ≠ "java/lang/invoke/VarHandle" ∧ (parseMethodDescriptor yX5_refuse.desc).map (fun d => d.parameters.length) = some 1 := by decide +kernel

set_option maxHeartbeats 4000000 in
set_option maxRecDepth 100000 in
theorem mX5_refuse (l : Launch) (hl0 : l.stackTraces = false) {G : va_G} {T : Nat → ClassId} {sa : Nat → Nat} {A9 : Nat → Prop} {H : Heap} {z : Int32} (h9 : ∀ q, H.size ≤ q → A9 q)  : rx l yX5_refuse wsX5_refuse 6 82 1 [.int z] G T sa A9 H (fun v9 => (rfF z) = 0 ∧ v9 = none) (fcE (rfF z)) := by
  refine rx_of (cc := cX5_refuse) (maxL := 1) (ret := none) (own := RX5) (by decide +kernel) rfl rfl (Nat.le_of_ble_eq_true rfl) h9 ?_
  intro p e s m below meth c ls hH S hkx hth hnt hlk hl hri hrd hrv hout
  obtain ⟨hx, hb, hml, hown, hts⟩ := id S
  have hl : lv_has ls 1 [(0, .int z)] := hl
  have kNS := hts (.classLink RX5 249 eS) (by decide +kernel)
  have kIniS := hts (.initialized eS) (by decide +kernel)
  have kNA := hts (.classLink RX5 244 eA) (by decide +kernel)
  have kIniA := hts (.initialized eA) (by decide +kernel)
  have kNI := hts (.classLink RX5 233 eI) (by decide +kernel)
  have kIniI := hts (.initialized eI) (by decide +kernel)
  refine lv_iload_n hx hb dX5_refuse_0 rfl (lv_at hl 0 rfl) ?_
  refine lv_iconst (v := 1) hx hb dX5_refuse_1 (by decide) ?_
  refine lv_icmp_ne (tgt := 15) hx hb dX5_refuse_2 (by decide) (fun c_1 => ?_) (fun c_1 => ?_)
  · skip
    refine lv_iload_n hx hb dX5_refuse_15 rfl (lv_at hl 0 rfl) ?_
    refine lv_iconst (v := 2) hx hb dX5_refuse_16 (by decide) ?_
    refine lv_icmp_ne (tgt := 30) hx hb dX5_refuse_17 (by decide) (fun c_2 => ?_) (fun c_2 => ?_)
    · skip
      refine lv_iload_n hx hb dX5_refuse_30 rfl (lv_at hl 0 rfl) ?_
      refine lv_iconst (v := 3) hx hb dX5_refuse_31 (by decide) ?_
      refine lv_icmp_ne (tgt := 45) hx hb dX5_refuse_32 (by decide) (fun c_3 => ?_) (fun c_3 => ?_)
      · skip
        exact hrv _ _ _ _ rfl (show (rfF z) = 0 ∧ (none : Option Value) = none from ⟨(by simp [rfF, *]), rfl⟩) (Nat.le_of_ble_eq_true rfl) (Nat.le_of_ble_eq_true rfl) dX5_refuse_45
      · skip
        exact vx_throwS (A := fun q => H.size ≤ q) hx hb hl0 hown thfS thfN kNS kIniS hth.2.2.2.2.2 (thr_at hth th2S hth.1.2.2.2.2.2 (fun w h => hts w (by first | exact List.mem_cons_of_mem _ (List.mem_append_right _ h) | exact List.mem_cons_of_mem _ (List.mem_append_left _ (List.mem_append_right _ h)) | exact List.mem_cons_of_mem _ (List.mem_append_left _ (List.mem_append_left _ (List.mem_append_right _ h)))))) thgS (by rw [hH]; exact hth.2.1) (by rw [hH]; exact hth.2.2.1) (by rw [hH]; exact va_S.rf) (hl.1.trans hml.symm) dX5_refuse_35 dX5_refuse_38 dX5_refuse_39 dX5_refuse_41 dX5_refuse_44 (fun x hx => (hnt x hx).elim) (by decide) (by decide) (by decide) (by decide) hlk (fun t _ hz hk => ⟨Or.inr (Or.inr ⟨(by simp [rfF, *]), rfl⟩), by rw [hH]; exact hz, by rw [hH]; exact hk⟩) (fun _ h => by cases h) (by decide) (by decide)
    · skip
      exact vx_throwS (A := fun q => H.size ≤ q) hx hb hl0 hown thfA thfN kNA kIniA hth.2.2.2.2.1 (thr_at hth th2A hth.1.2.2.2.2.1 (fun w h => hts w (by first | exact List.mem_cons_of_mem _ (List.mem_append_right _ h) | exact List.mem_cons_of_mem _ (List.mem_append_left _ (List.mem_append_right _ h)) | exact List.mem_cons_of_mem _ (List.mem_append_left _ (List.mem_append_left _ (List.mem_append_right _ h)))))) thgA (by rw [hH]; exact hth.2.1) (by rw [hH]; exact hth.2.2.1) (by rw [hH]; exact va_S.rf) (hl.1.trans hml.symm) dX5_refuse_20 dX5_refuse_23 dX5_refuse_24 dX5_refuse_26 dX5_refuse_29 (fun x hx => (hnt x hx).elim) (by decide) (by decide) (by decide) (by decide) hlk (fun t _ hz hk => ⟨Or.inr (Or.inl ⟨(by simp [rfF, *]), rfl⟩), by rw [hH]; exact hz, by rw [hH]; exact hk⟩) (fun _ h => by cases h) (by decide) (by decide)
  · skip
    exact vx_throwS (A := fun q => H.size ≤ q) hx hb hl0 hown thfI thfN kNI kIniI hth.2.2.2.1 (thr_at hth th2I hth.1.2.2.2.1 (fun w h => hts w (by first | exact List.mem_cons_of_mem _ (List.mem_append_right _ h) | exact List.mem_cons_of_mem _ (List.mem_append_left _ (List.mem_append_right _ h)) | exact List.mem_cons_of_mem _ (List.mem_append_left _ (List.mem_append_left _ (List.mem_append_right _ h)))))) thgI (by rw [hH]; exact hth.2.1) (by rw [hH]; exact hth.2.2.1) (by rw [hH]; exact va_S.rf) (hl.1.trans hml.symm) dX5_refuse_5 dX5_refuse_8 dX5_refuse_9 dX5_refuse_11 dX5_refuse_14 (fun x hx => (hnt x hx).elim) (by decide) (by decide) (by decide) (by decide) hlk (fun t _ hz hk => ⟨Or.inl ⟨(by simp [rfF, *]), rfl⟩, by rw [hH]; exact hz, by rw [hH]; exact hk⟩) (fun _ h => by cases h) (by decide) (by decide)

theorem idX5_requireSet : yX5_requireSet.cls = RX5 ∧ yX5_requireSet.cls ≠ "java/lang/invoke/MethodHandle" ∧ yX5_requireSet.cls ≠ "java/lang/invoke/VarHandle" ∧ (parseMethodDescriptor yX5_requireSet.desc).map (fun d => d.parameters.length) = some 2 := by decide +kernel

set_option maxHeartbeats 4000000 in
set_option maxRecDepth 100000 in
theorem mX5_requireSet (l : Launch) (hl0 : l.stackTraces = false) {G : va_G} {T : Nat → ClassId} {sa : Nat → Nat} {A9 : Nat → Prop} {H : Heap} {x : Int32} {n : Int32} (h9 : ∀ q, H.size ≤ q → A9 q)  : rx l yX5_requireSet wsX5_requireSet 7 104 1 [.int x, .int n] G T sa A9 H (fun v9 => (seF x n) = 0 ∧ v9 = none) (fcE (seF x n)) := by
  refine rx_of (cc := cX5_requireSet) (maxL := 2) (ret := none) (own := RX5) (by decide +kernel) rfl rfl (Nat.le_of_ble_eq_true rfl) h9 ?_
  intro p e s m below meth c ls hH S hkx hth hnt hlk hl hri hrd hrv hout
  obtain ⟨hx, hb, hml, hown, hts⟩ := id S
  have hl : lv_has ls 2 [(0, .int x), (1, .int n)] := hl
  refine lv_iload_n hx hb dX5_requireSet_0 rfl (lv_at hl 0 rfl) ?_
  refine lv_iconst (v := 0) hx hb dX5_requireSet_1 (by decide) ?_
  refine lv_iconst (v := 1) hx hb dX5_requireSet_2 (by decide) ?_
  refine lv_iload_n hx hb dX5_requireSet_3 rfl (lv_at hl 1 rfl) ?_
  refine lv_ishl hx hb dX5_requireSet_4 ?_
  refine lv_iconst (v := 1) hx hb dX5_requireSet_5 (by decide) ?_
  refine lv_isub hx hb dX5_requireSet_6 ?_
  refine rx_S S hkx hth (mX5_requireWithin l hl0 (sa := sa) (h9 := fun _ h => h) (v := x) (x := 0) (z := ((1 <<< (n &&& 31)) - 1)) ) gX5_requireSet_X5_requireWithin rfl idX5_requireWithin.2 ⟨Nat.le_of_ble_eq_true rfl, Nat.le_of_ble_eq_true rfl⟩ rfl hl.1 rfl (Nat.le_of_ble_eq_true rfl) dX5_requireSet_7 ⟨Nat.le_of_ble_eq_true rfl, Nat.le_of_ble_eq_true rfl⟩ (fun E ce q H1 hpx hq hv9 hc9 hz9 hk9 => hout E ce q _ _ _ _ _ _ (by first | exact hpx) hq hv9 hc9 hz9 hk9 (Nat.le_of_ble_eq_true rfl) (Nat.le_of_ble_eq_true rfl)) (fun v hpost => ?_)
  obtain ⟨hF0, rfl⟩ := hpost
  have hF0 : (seF x n) = 0 := by first | exact hF0
  refine W.eq (g2 := F0 m 10 ls []) rfl ?_
  exact hrv _ _ _ _ rfl (show (seF x n) = 0 ∧ (none : Option Value) = none from ⟨hF0, rfl⟩) (Nat.le_of_ble_eq_true rfl) (Nat.le_of_ble_eq_true rfl) dX5_requireSet_10

theorem idX5_requireDay : yX5_requireDay.cls = RX5 ∧ yX5_requireDay.cls ≠ "java/lang/invoke/MethodHandle" ∧ yX5_requireDay.cls ≠ "java/lang/invoke/VarHandle" ∧ (parseMethodDescriptor yX5_requireDay.desc).map (fun d => d.parameters.length) = some 1 := by decide +kernel

set_option maxHeartbeats 4000000 in
set_option maxRecDepth 100000 in
theorem mX5_requireDay (l : Launch) (hl0 : l.stackTraces = false) {G : va_G} {T : Nat → ClassId} {sa : Nat → Nat} {A9 : Nat → Prop} {H : Heap} {d : Int32} (h9 : ∀ q, H.size ≤ q → A9 q)  : rx l yX5_requireDay wsX5_requireDay 7 104 1 [.int d] G T sa A9 H (fun v9 => (dyF d) = 0 ∧ v9 = none) (fcE (dyF d)) := by
  refine rx_of (cc := cX5_requireDay) (maxL := 1) (ret := none) (own := RX5) (by decide +kernel) rfl rfl (Nat.le_of_ble_eq_true rfl) h9 ?_
  intro p e s m below meth c ls hH S hkx hth hnt hlk hl hri hrd hrv hout
  obtain ⟨hx, hb, hml, hown, hts⟩ := id S
  have hl : lv_has ls 1 [(0, .int d)] := hl
  refine lv_iload_n hx hb dX5_requireDay_0 rfl (lv_at hl 0 rfl) ?_
  refine lv_iconst (v := 0) hx hb dX5_requireDay_1 (by decide) ?_
  refine lv_sipush (v := 999) hx hb dX5_requireDay_2 (by decide) ?_
  refine rx_S S hkx hth (mX5_requireWithin l hl0 (sa := sa) (h9 := fun _ h => h) (v := d) (x := 0) (z := 999) ) gX5_requireDay_X5_requireWithin rfl idX5_requireWithin.2 ⟨Nat.le_of_ble_eq_true rfl, Nat.le_of_ble_eq_true rfl⟩ rfl hl.1 rfl (Nat.le_of_ble_eq_true rfl) dX5_requireDay_5 ⟨Nat.le_of_ble_eq_true rfl, Nat.le_of_ble_eq_true rfl⟩ (fun E ce q H1 hpx hq hv9 hc9 hz9 hk9 => hout E ce q _ _ _ _ _ _ (by first | exact hpx) hq hv9 hc9 hz9 hk9 (Nat.le_of_ble_eq_true rfl) (Nat.le_of_ble_eq_true rfl)) (fun v hpost => ?_)
  obtain ⟨hF0, rfl⟩ := hpost
  have hF0 : (dyF d) = 0 := by first | exact hF0
  refine W.eq (g2 := F0 m 8 ls []) rfl ?_
  exact hrv _ _ _ _ rfl (show (dyF d) = 0 ∧ (none : Option Value) = none from ⟨hF0, rfl⟩) (Nat.le_of_ble_eq_true rfl) (Nat.le_of_ble_eq_true rfl) dX5_requireDay_8

theorem idX5_requireDays : yX5_requireDays.cls = RX5 ∧ yX5_requireDays.cls ≠ "java/lang/invoke/MethodHandle" ∧ yX5_requireDays.cls ≠ "java/lang/invoke/VarHandle" ∧ (parseMethodDescriptor yX5_requireDays.desc).map (fun d => d.parameters.length) = some 2 := by decide +kernel

set_option maxHeartbeats 4000000 in
set_option maxRecDepth 100000 in
theorem mX5_requireDays (l : Launch) (hl0 : l.stackTraces = false) {G : va_G} {T : Nat → ClassId} {sa : Nat → Nat} {A9 : Nat → Prop} {H : Heap} {f : Int32} {w : Int32} (h9 : ∀ q, H.size ≤ q → A9 q)  : rx l yX5_requireDays wsX5_requireDays 8 124 2 [.int f, .int w] G T sa A9 H (fun v9 => (sq (dyF f) (wiF w f 999)) = 0 ∧ v9 = none) (fcE (sq (dyF f) (wiF w f 999))) := by
  refine rx_of (cc := cX5_requireDays) (maxL := 2) (ret := none) (own := RX5) (by decide +kernel) rfl rfl (Nat.le_of_ble_eq_true rfl) h9 ?_
  intro p e s m below meth c ls hH S hkx hth hnt hlk hl hri hrd hrv hout
  obtain ⟨hx, hb, hml, hown, hts⟩ := id S
  have hl : lv_has ls 2 [(0, .int f), (1, .int w)] := hl
  refine lv_iload_n hx hb dX5_requireDays_0 rfl (lv_at hl 0 rfl) ?_
  refine rx_S S hkx hth (mX5_requireDay l hl0 (sa := sa) (h9 := fun _ h => h) (d := f) ) gX5_requireDays_X5_requireDay rfl idX5_requireDay.2 ⟨Nat.le_of_ble_eq_true rfl, Nat.le_of_ble_eq_true rfl⟩ rfl hl.1 rfl (Nat.le_of_ble_eq_true rfl) dX5_requireDays_1 ⟨Nat.le_of_ble_eq_true rfl, Nat.le_of_ble_eq_true rfl⟩ (fun E ce q H1 hpx hq hv9 hc9 hz9 hk9 => hout E ce q _ _ _ _ _ _ (sq_l hpx) hq hv9 hc9 hz9 hk9 (Nat.le_of_ble_eq_true rfl) (Nat.le_of_ble_eq_true rfl)) (fun v hpost => ?_)
  obtain ⟨hF0, rfl⟩ := hpost
  refine W.eq (g2 := F0 m 4 ls []) rfl ?_
  refine lv_iload_n hx hb dX5_requireDays_4 rfl (lv_at hl 1 rfl) ?_
  refine lv_iload_n hx hb dX5_requireDays_5 rfl (lv_at hl 0 rfl) ?_
  refine lv_sipush (v := 999) hx hb dX5_requireDays_6 (by decide) ?_
  refine rx_S S hkx hth (mX5_requireWithin l hl0 (sa := sa) (h9 := fun _ h => h) (v := w) (x := f) (z := 999) ) gX5_requireDays_X5_requireWithin rfl idX5_requireWithin.2 ⟨Nat.le_of_ble_eq_true rfl, Nat.le_of_ble_eq_true rfl⟩ rfl hl.1 rfl (Nat.le_of_ble_eq_true rfl) dX5_requireDays_9 ⟨Nat.le_of_ble_eq_true rfl, Nat.le_of_ble_eq_true rfl⟩ (fun E ce q H1 hpx hq hv9 hc9 hz9 hk9 => hout E ce q _ _ _ _ _ _ (sq_r hF0 hpx) hq hv9 hc9 hz9 hk9 (Nat.le_of_ble_eq_true rfl) (Nat.le_of_ble_eq_true rfl)) (fun v hpost => ?_)
  obtain ⟨hF1, rfl⟩ := hpost
  refine W.eq (g2 := F0 m 12 ls []) rfl ?_
  exact hrv _ _ _ _ rfl (show (sq (dyF f) (wiF w f 999)) = 0 ∧ (none : Option Value) = none from ⟨(sq_0 hF0 hF1), rfl⟩) (Nat.le_of_ble_eq_true rfl) (Nat.le_of_ble_eq_true rfl) dX5_requireDays_12
