set_option maxHeartbeats 4000000 in
set_option maxRecDepth 100000 in
theorem wf_z : wf z0 zz := ⟨⟨by decide, by decide, by decide, by decide⟩, fun v h => absurd h (Nat.not_lt_zero v), fun v h => absurd h (Nat.not_lt_zero v), fun v h => absurd h (Nat.not_lt_zero v), fun v h => absurd h (Nat.not_lt_zero v), fun v h => absurd h (Nat.not_lt_zero v), fun v h => absurd h (Nat.not_lt_zero v)⟩
set_option maxHeartbeats 4000000 in
set_option maxRecDepth 100000 in
theorem whole_start {p : Program} {e : Env} {s : State} {m : MethodId} {below : List Frame} {meth : Method} {c : Code} (l : Launch) (hflags : l.flags = flags0) {b L : Nat} {xs : Nat → Int32} (hL : L ≤ 260) (C0 : lw_At p s m meth c b L xs) : W p l e room_1 s m #[Value.ref b] below meth c s.heap [] 0 0 (lw_Z below #[Value.ref b] s) (entryFrame m ([Value.ref b] : List Value).toArray 13) := by
  obtain ⟨hx, hb, hr, hml, hown, hts, hX, hbl, hlocks, hgv⟩ := id C0
  have hl0 : l.stackTraces = false := by unfold Launch.stackTraces; rw [hflags]; decide
  obtain ⟨G, T, sa, K, hao⟩ := start_K hL C0
  obtain ⟨S, hkx, -⟩ := id K
  have hA : ∀ q : Nat, s.heap.size ≤ q → lA s q := fun _ h => h
  have hS : va_S (lA s) s.heap s.heap [] := va_S.rf
  have hP : va_P G vwCl [] s.heap := fun k q h => by simp at h
  have hD : va_D (lA s) [] := ⟨fun i j p q h => by simp at h, fun k q h => by simp at h⟩
  have hl := lv_entry ([.ref b]) (n := 13) (Nat.le_of_ble_eq_true rfl)
  rw [lg_entry_eq]
  generalize (lg_sl ([.ref b]) ++ List.replicate (13 - (lg_sl ([.ref b])).length) Slot.unset).toArray = ls at hl ⊢
  have hl : lv_has ls 13 [(0, .ref b)] := hl
  refine va_new (ci := 5) (fs := [.null, .null, .int 0, .null]) (C := RX5) (T := TX5) (N := 4) hx hb hts inX5 tyX5 tyX5_ok hown (S.2.2.2.2 (.classLink RL 10 RX5) (by decide +kernel)) (hts _ st_ins_RX5) (hts _ st_ini_5) hkx.1 hP hD hS hA rfl (fun j hj => by rcases (show j = 0 ∨ j = 1 ∨ j = 2 ∨ j = 3 by omega) with rfl | rfl | rfl | rfl <;> rfl) (Nat.le_of_ble_eq_true rfl) (Nat.le_of_ble_eq_true rfl) dL_law_0 (fun n0 H hP hD hS => ?_)
  refine lv_dup hx hb dL_law_3 rfl ?_
  refine mk_I (X := []) S hkx (stb_AO _) hao (mX5_init l (h := n0) (hP := P_tl (X := []) hP) (hD := (D_tl (X := []) hD).weaken (fun _ _ _ _ => trivial))) gL_law_X5_init rfl (S.2.2.2.2 (.methodLink RL 108 yX5_init) (by decide +kernel)) (hts _ st_ini_5) (S.2.2.2.2 (.instanceMethod yX5_init) (by decide +kernel)) rfl idX5_init.2 ⟨Nat.le_of_ble_eq_true rfl, Nat.le_of_ble_eq_true rfl⟩ hl.1 rfl (Nat.le_of_ble_eq_true rfl) dL_law_4 ⟨Nat.le_of_ble_eq_true rfl, Nat.le_of_ble_eq_true rfl⟩ hP hD hS hA (fun w1 H locs hsh hP hD hS => ?_)
  obtain ⟨q, a, b9, rfl, rfl⟩ := hsh
  have hP : va_P G vwCl (wMain T q a z0 zz b9 (fun _ => z0) (fun _ => zz) 0 (fun _ => 0) 0 0 (-1) 0 (fun _ => 0) 0) H := hP
  have hD : va_D (lA s) (wMain T q a z0 zz b9 (fun _ => z0) (fun _ => zz) 0 (fun _ => 0) 0 0 (-1) 0 (fun _ => 0) 0) := hD
  refine W.eq (g2 := F0 m 7 ls [.ref (q 0)]) rfl ?_
  refine lv_astore_n (lv' := [(1, .ref (q 0)), (0, .ref b)]) hx hb dL_law_7 rfl hl (by decide) rfl (fun ls hl => ?_)
  refine va_new (ci := 5) (fs := [.null, .null, .int 0, .null]) (C := RX5) (T := TX5) (N := 4) hx hb hts inX5 tyX5 tyX5_ok hown (S.2.2.2.2 (.classLink RL 10 RX5) (by decide +kernel)) (hts _ st_ins_RX5) (hts _ st_ini_5) hkx.1 hP hD hS hA rfl (fun j hj => by rcases (show j = 0 ∨ j = 1 ∨ j = 2 ∨ j = 3 by omega) with rfl | rfl | rfl | rfl <;> rfl) (Nat.le_of_ble_eq_true rfl) (Nat.le_of_ble_eq_true rfl) dL_law_8 (fun n1 H hP hD hS => ?_)
  refine lv_dup hx hb dL_law_11 rfl ?_
  refine mk_I S hkx (stb_AO _) hao (mX5_init l (h := n1) (hP := P_tl hP) (hD := (D_tl hD).weaken (fun _ _ _ _ => trivial))) gL_law_X5_init rfl (S.2.2.2.2 (.methodLink RL 108 yX5_init) (by decide +kernel)) (hts _ st_ini_5) (S.2.2.2.2 (.instanceMethod yX5_init) (by decide +kernel)) rfl idX5_init.2 ⟨Nat.le_of_ble_eq_true rfl, Nat.le_of_ble_eq_true rfl⟩ hl.1 rfl (Nat.le_of_ble_eq_true rfl) dL_law_12 ⟨Nat.le_of_ble_eq_true rfl, Nat.le_of_ble_eq_true rfl⟩ hP hD hS hA (fun w1 H locs hsh hP hD hS => ?_)
  obtain ⟨q2, a2, b8, rfl, rfl⟩ := hsh
  refine W.eq (g2 := F0 m 15 ls [.ref (q2 0)]) rfl ?_
  refine lv_astore_n (lv' := [(2, .ref (q2 0)), (1, .ref (q 0)), (0, .ref b)]) hx hb dL_law_15 rfl hl (by decide) rfl (fun ls hl => ?_)
  refine lv_iconst (v := 0) hx hb dL_law_16 (by decide) ?_
  refine lv_istore_n (lv' := [(3, .int (nI 0)), (2, .ref (q2 0)), (1, .ref (q 0)), (0, .ref b)]) hx hb dL_law_17 rfl hl (by decide) rfl (fun ls hl => ?_)
  refine W.widen (k := 300 + 40 * 0) (n := 3000 + 240 * 0) (Nat.le_of_ble_eq_true rfl) (Nat.le_of_ble_eq_true rfl) ?_
  refine law_loop l hl0 K (q := q) (q2 := q2) (fun H locs ls cells slots hS h1 h2 => ?_) 21 0 (by omega) (by omega) H locs ls ⟨a, z0, zz, b9, fun _ => z0, fun _ => zz, 0, fun _ => 0, 0, 0, -1, 0, fun _ => 0, 0, a2, b8, fun _ => z0, fun _ => zz, 0, fun _ => 0, 0, 0, -1, 0, fun _ => 0, 0, wf_z, by decide, by decide, hP, hD⟩ hS (lv_sub hl [3, 2, 1, 0] rfl)
  refine va_forget (fun q hq => hS.2.2 q hq) ?_
  refine W.widen h1 h2 ?_
  refine W.base ?_
  exact lw_ret (Drawn.sameBut.refl s.drawn lw_cs) hx hb hr hlocks dL_law_278
