/-! the law's loop, and the law from its start -/
theorem cn_len {j LL : Nat} (hL : LL ≤ 3072) (hj : 6 * j ≤ LL) : nI LL - 6 < nI (6 * j) ↔ LL < 6 * j + 6 := by
  rcases Nat.lt_or_ge LL 6 with h | h
  · obtain rfl : j = 0 := by omega
    rcases (show LL = 0 ∨ LL = 1 ∨ LL = 2 ∨ LL = 3 ∨ LL = 4 ∨ LL = 5 by omega) with rfl | rfl | rfl | rfl | rfl | rfl <;> decide
  · rw [show (6 : Int32) = nI 6 from rfl, pk_sub (a := LL) (b := 6) (by omega), nI_ltI (by omega) (by omega)]
    omega
theorem b_31 : ∀ i, i < 32 → 5 ≤ i → bt 31 i = false := by decide +kernel
theorem and31 (x : Int32) : ∃ k, k < 32 ∧ x &&& 31 = nI k := by
  obtain ⟨k, hk, e⟩ := ofbits (x := x &&& 31) (n := 5) (fun i hi h32 => by rw [b_and, b_31 i h32 hi, Bool.and_false])
  exact ⟨k, hk, e⟩
theorem st_perm {M R o d : va_W} : (((M ++ R) ++ o) ++ d).Perm ((M ++ o) ++ (R ++ d)) := by
  rw [List.append_assoc, List.append_assoc, List.append_assoc]
  exact List.Perm.append_left M (List.perm_append_comm_assoc R o d)
theorem nwl {G : va_G} {T : Nat → ClassId} {p : Program} {l : Launch} {e : Env} {R : Room} {s : State} {m : MethodId} {args : Array Value} {below : List Frame} {meth : Method} {c : Code} {H : Heap} {locs : List Loc} {cells slots : Nat} {Q : State → Prop} {cc : ByteArray} {pc : Nat} {ls : Array Slot} {rest : List Value} {w : va_W} {A : Nat → Prop} {H0 : Heap} (hexec : p.tables.exec = Jvm.exec) (hb : c.code = cc) (harr : (Cond.arrayClass .long).before args s = true) (hk : kx G T s) (hP : va_P G vwCl w H) (hD : va_D A w) (hS : va_S A H0 H locs) (hA : ∀ q, H0.size ≤ q → A q)
    (hcells : cells + 1 ≤ R.cells) (hslots : slots + 1 ≤ R.slots) (hdg : decode cc pc = .ok (.newarray .long, 2))
    (kk : ∀ (q : Nat) (H1 : Heap), va_P G vwCl (w ++ [(q, eL T 0)]) H1 → va_D A (w ++ [(q, eL T 0)]) → va_S A H0 H1 locs → W p l e R s m args below meth c H1 locs (cells + 1) (slots + 1) Q (F0 m (pc + 2) ls (.ref q :: rest))) : W p l e R s m args below meth c H locs cells slots Q (F0 m pc ls (.int 1 :: rest)) := by
  refine va_newa (atype := .long) (ty := .long) (N' := 1) (a0 := (1, .inr (.inl (fun _ => 0)))) hexec hb harr rfl hk.1 hP hD hS hA (fun cA => rfl) (by decide) (by decide) (by decide) hcells hslots hdg (fun q cA H1 hK hP hD hS => ?_)
  have e := tk_3 hK
  subst e
  exact kk q H1 hP hD hS
theorem nwd {G : va_G} {T : Nat → ClassId} {p : Program} {l : Launch} {e : Env} {R : Room} {s : State} {m : MethodId} {args : Array Value} {below : List Frame} {meth : Method} {c : Code} {H : Heap} {locs : List Loc} {cells slots : Nat} {Q : State → Prop} {cc : ByteArray} {pc : Nat} {ls : Array Slot} {rest : List Value} {w : va_W} {A : Nat → Prop} {H0 : Heap} (hexec : p.tables.exec = Jvm.exec) (hb : c.code = cc) (harr : (Cond.arrayClass .double).before args s = true) (hk : kx G T s) (hP : va_P G vwCl w H) (hD : va_D A w) (hS : va_S A H0 H locs) (hA : ∀ q, H0.size ≤ q → A q)
    (hcells : cells + 1 ≤ R.cells) (hslots : slots + 1 ≤ R.slots) (hdg : decode cc pc = .ok (.newarray .double, 2))
    (kk : ∀ (q : Nat) (H1 : Heap), va_P G vwCl (w ++ [(q, eD T 0)]) H1 → va_D A (w ++ [(q, eD T 0)]) → va_S A H0 H1 locs → W p l e R s m args below meth c H1 locs (cells + 1) (slots + 1) Q (F0 m (pc + 2) ls (.ref q :: rest))) : W p l e R s m args below meth c H locs cells slots Q (F0 m pc ls (.int 1 :: rest)) := by
  refine va_newa (atype := .double) (ty := .double) (N' := 1) (a0 := (1, .inr (.inr (.inr (.inl (fun _ => 0)))))) hexec hb harr rfl hk.1 hP hD hS hA (fun cA => rfl) (by decide) (by decide) (by decide) hcells hslots hdg (fun q cA H1 hK hP hD hS => ?_)
  have e := tk_4 hK
  subst e
  exact kk q H1 hP hD hS
set_option maxHeartbeats 4000000 in
set_option maxRecDepth 100000 in
theorem law_loop (l : Launch) (hl0 : l.stackTraces = false) {G : va_G} {T : Nat → ClassId} {sa kk vv : Nat → Nat} {p : Program} {e : Env} {s : State} {m : MethodId} {below : List Frame} {meth : Method} {c : Code} {Q : State → Prop} {b0 LL : Nat} {xs : Nat → Int32} {q r : Nat → Nat} {o d : Nat} (K : LK G T sa kk vv p s m c b0 LL xs)
    (hend : ∀ (H : Heap) (locs : List Loc) (ls : Array Slot) (cells slots : Nat), va_S (lA s) s.heap H locs → cells ≤ 601024 → slots ≤ 7293034 → W p l e room_1 s m ([.ref b0] : List Value).toArray below meth c H locs cells slots Q (F0 m 2075 ls [])) :
    ∀ (n j : Nat), LL - 6 * j < n → 6 * j ≤ LL → ∀ (H : Heap) (locs : List Loc) (ls : Array Slot), inv G T q r o d (lA s) H → va_S (lA s) s.heap H locs → lv_has ls 9 [(0, .ref b0), (1, .ref (q 0)), (2, .ref (r 0)), (3, .ref o), (4, .ref d), (5, .int (nI (6 * j)))] → W p l e room_1 s m ([.ref b0] : List Value).toArray below meth c H locs (200 + 3 * j) (2000 + 18 * j) Q (F0 m 28 ls []) := by
  have hL := K.2.2.2.2.2.2.2
  have hX0 := K.2.2.2.2.2.1
  have hbl := K.2.2.2.2.2.2.1
  have hx := K.1.1
  have hb := K.1.2.1
  intro n
  induction n with
  | zero => intro j hm; exact absurd hm (Nat.not_lt_zero _)
  | succ n ih =>
    intro j hm hj H locs ls hI hS hl
    refine lv_iload hx hb dL_law_28 (lv_at hl 5 rfl) ?_
    refine lv_aload_n hx hb dL_law_30 rfl (lv_at hl 0 rfl) ?_
    refine va_slen hx hb hX0 hbl (show ¬ lA s b0 from Nat.not_le.mpr hbl) hS dL_law_31 ?_
    refine lv_bipush (v := 6) hx hb dL_law_32 (by decide) ?_
    refine lv_isub hx hb dL_law_34 ?_
    refine lv_icmp_gt (tgt := 2075) hx hb dL_law_35 (by decide) (fun c_1 => ?_) (fun c_1 => ?_)
    · exact hend H locs ls _ _ hS (by omega) (by omega)
    · have hj5 : 6 * j + 5 < LL := by
        have hn9 : ¬ LL < 6 * j + 6 := fun z => c_1 ((cn_len hL hj).mpr z)
        omega
      refine lv_aload_n hx hb dL_law_38 rfl (lv_at hl 0 rfl) ?_
      refine lv_iload hx hb dL_law_39 (lv_at hl 5 rfl) ?_
      refine sld K hS (6 * j) rfl (by omega) dL_law_41 ?_
      refine lv_bipush (v := 31) hx hb dL_law_42 (by decide) ?_
      refine lv_iand hx hb dL_law_44 ?_
      have hnext : ∀ (H : Heap) (locs : List Loc) (ls : Array Slot), inv G T q r o d (lA s) H → va_S (lA s) s.heap H locs → lv_has ls 9 [(0, .ref b0), (1, .ref (q 0)), (2, .ref (r 0)), (3, .ref o), (4, .ref d), (5, .int (nI (6 * j)))] → W p l e room_1 s m ([.ref b0] : List Value).toArray below meth c H locs ((200 + 3 * j) + 3) ((2000 + 18 * j) + 18) Q (F0 m 2069 ls []) := by
        intro H locs ls hI hS hl
        refine lv_iinc (v := nI (6 * (j + 1))) (lv' := [(5, .int (nI (6 * (j + 1)))), (0, .ref b0), (1, .ref (q 0)), (2, .ref (r 0)), (3, .ref o), (4, .ref d)]) hx hb dL_law_2069 hl (k := 5) rfl (show nI (6 * j) + Int32.ofInt 6 = nI (6 * (j + 1)) from nI_add (6 * j) 6) (by decide) rfl (fun ls hl => ?_)
        refine lv_goto (tgt := 28) hx hb dL_law_2072 (by decide) ?_
        refine W.widen (k := 200 + 3 * (j + 1)) (n := 2000 + 18 * (j + 1)) (by omega) (by omega) ?_
        exact ih (j + 1) (by omega) (by omega) H locs ls hI hS (lv_sub hl [1, 2, 3, 4, 5, 0] rfl)
      obtain ⟨a, N, Z, b, M, Y, sc, tx, L, cu, er, le, nb, nc, mm, pp, th, ac, ea, le2, v1, v2, v3, v4, v5, fo, fd, hT, hX, hP, hD⟩ := id hI
      obtain ⟨k, hk, ek⟩ := and31 (xs (6 * j))
      rw [ek]
      have hcs : 200 + 3 * j + 3 ≤ 601024 := by omega
      have hss : 2000 + 18 * j + 18 ≤ 7293034 := by omega
      rcases (show k = 0 ∨ k = 1 ∨ k = 2 ∨ k = 3 ∨ k = 4 ∨ k = 5 ∨ k = 6 ∨ k = 7 ∨ k = 8 ∨ k = 9 ∨ k = 10 ∨ k = 11 ∨ k = 12 ∨ k = 13 ∨ k = 14 ∨ k = 15 ∨ k = 16 ∨ k = 17 ∨ k = 18 ∨ k = 19 ∨ k = 20 ∨ k = 21 ∨ k = 22 ∨ k = 23 ∨ k = 24 ∨ k = 25 ∨ k = 26 ∨ k = 27 ∨ k = 28 ∨ k = 29 ∨ k = 30 ∨ k = 31 by omega) with rfl | rfl | rfl | rfl | rfl | rfl | rfl | rfl | rfl | rfl | rfl | rfl | rfl | rfl | rfl | rfl | rfl | rfl | rfl | rfl | rfl | rfl | rfl | rfl | rfl | rfl | rfl | rfl | rfl | rfl | rfl | rfl
      · refine lv_tableIn (off := 135) (tgt := 180) hx hb dL_law_45 (by decide) (by decide) rfl (by decide) ?_
        exact law_addVersion l hl0 K hl hj5 hcs hss hS hT hX hP hD hnext
      · refine lv_tableIn (off := 203) (tgt := 248) hx hb dL_law_45 (by decide) (by decide) rfl (by decide) ?_
        exact law_addFeature l hl0 K hl hj5 hcs hss hS hT hX hP hD hnext
      · refine lv_tableIn (off := 259) (tgt := 304) hx hb dL_law_45 (by decide) (by decide) rfl (by decide) ?_
        exact law_put l hl0 K hl hj5 hcs hss hS hT hX hP hD hnext
      · refine lv_tableIn (off := 355) (tgt := 400) hx hb dL_law_45 (by decide) (by decide) rfl (by decide) ?_
        exact law_addUser l hl0 K hl hj5 hcs hss hS hT hX hP hD hnext
      · refine lv_tableIn (off := 423) (tgt := 468) hx hb dL_law_45 (by decide) (by decide) rfl (by decide) ?_
        exact law_pledge l hl0 K hl hj5 hcs hss hS hT hX hP hD hnext
      · refine lv_tableIn (off := 503) (tgt := 548) hx hb dL_law_45 (by decide) (by decide) rfl (by decide) ?_
        exact law_takeBack l hl0 K hl hj5 hcs hss hS hT hX hP hD hnext
      · refine lv_tableIn (off := 559) (tgt := 604) hx hb dL_law_45 (by decide) (by decide) rfl (by decide) ?_
        exact law_slip l hl0 K hl hj5 hcs hss hS hT hX hP hD hnext
      · refine lv_tableIn (off := 627) (tgt := 672) hx hb dL_law_45 (by decide) (by decide) rfl (by decide) ?_
        exact law_extend l hl0 K hl hj5 hcs hss hS hT hX hP hD hnext
      · refine lv_tableIn (off := 695) (tgt := 740) hx hb dL_law_45 (by decide) (by decide) rfl (by decide) ?_
        exact law_addShim l hl0 K hl hj5 hcs hss hS hT hX hP hD hnext
      · refine lv_tableIn (off := 799) (tgt := 844) hx hb dL_law_45 (by decide) (by decide) rfl (by decide) ?_
        exact law_dropShim l hl0 K hl hj5 hcs hss hS hT hX hP hD hnext
      · refine lv_tableIn (off := 855) (tgt := 900) hx hb dL_law_45 (by decide) (by decide) rfl (by decide) ?_
        exact law_version l hl0 K hl hj5 hcs hss hS hT hX hP hD hnext
      · refine lv_tableIn (off := 923) (tgt := 968) hx hb dL_law_45 (by decide) (by decide) rfl (by decide) ?_
        exact law_user l hl0 K hl hj5 hcs hss hS hT hX hP hD hnext
      · refine lv_tableIn (off := 991) (tgt := 1036) hx hb dL_law_45 (by decide) (by decide) rfl (by decide) ?_
        exact law_shim l hl0 K hl hj5 hcs hss hS hT hX hP hD hnext
      · refine lv_tableIn (off := 1059) (tgt := 1104) hx hb dL_law_45 (by decide) (by decide) rfl (by decide) ?_
        exact law_versionOn l hl0 K hl hj5 hcs hss hS hT hX hP hD hnext
      · refine lv_tableIn (off := 1127) (tgt := 1172) hx hb dL_law_45 (by decide) (by decide) rfl (by decide) ?_
        exact law_served l hl0 K hl hj5 hcs hss hS hT hX hP hD hnext
      · refine lv_tableIn (off := 1207) (tgt := 1252) hx hb dL_law_45 (by decide) (by decide) rfl (by decide) ?_
        exact law_missing l hl0 K hl hj5 hcs hss hS hT hX hP hD hnext
      · refine lv_tableIn (off := 1275) (tgt := 1320) hx hb dL_law_45 (by decide) (by decide) rfl (by decide) ?_
        exact law_stranded l hl0 K hl hj5 hcs hss hS hT hX hP hD hnext
      · refine lv_tableIn (off := 1331) (tgt := 1376) hx hb dL_law_45 (by decide) (by decide) rfl (by decide) ?_
        exact law_costs l hl0 K hl hj5 hcs hss hS hT hX hP hD hnext
      · refine lv_tableIn (off := 1399) (tgt := 1444) hx hb dL_law_45 (by decide) (by decide) rfl (by decide) ?_
        exact law_value l hl0 K hl hj5 hcs hss hS hT hX hP hD hnext
      · refine lv_tableIn (off := 1455) (tgt := 1500) hx hb dL_law_45 (by decide) (by decide) rfl (by decide) ?_
        exact law_firstStranded l hl0 K hl hj5 hcs hss hS hT hX hP hD hnext
      · refine lv_tableIn (off := 1523) (tgt := 1568) hx hb dL_law_45 (by decide) (by decide) rfl (by decide) ?_
        exact law_latestMove l hl0 K hl hj5 hcs hss hS hT hX hP hD hnext
      · refine lv_tableIn (off := 1603) (tgt := 1648) hx hb dL_law_45 (by decide) (by decide) rfl (by decide) ?_
        exact law_bestVersion l hl0 K hl hj5 hcs hss hS hT hX hP hD hnext
      · refine lv_tableIn (off := 1671) (tgt := 1716) hx hb dL_law_45 (by decide) (by decide) rfl (by decide) ?_
        exact law_cheapest l hl0 K hl hj5 hcs hss hS hT hX hP hD hnext
      · refine lv_tableIn (off := 1751) (tgt := 1796) hx hb dL_law_45 (by decide) (by decide) rfl (by decide) ?_
        exact law_shimsNeeded l hl0 K hl hj5 hcs hss hS hT hX hP hD hnext
      · refine lv_tableIn (off := 1807) (tgt := 1852) hx hb dL_law_45 (by decide) (by decide) rfl (by decide) ?_
        exact law_share l hl0 K hl hj5 hcs hss hS hT hX hP hD hnext
      · refine lv_tableIn (off := 1884) (tgt := 1929) hx hb dL_law_45 (by decide) (by decide) rfl (by decide) ?_
        exact law_append l hl0 K hl hj5 hcs hss hS hT hX hP hD hnext
      · refine lv_tableIn (off := 1940) (tgt := 1985) hx hb dL_law_45 (by decide) (by decide) rfl (by decide) ?_
        exact law_clearText l hl0 K hl hj5 hcs hss hS hT hX hP hD hnext
      · refine lv_tableIn (off := 1953) (tgt := 1998) hx hb dL_law_45 (by decide) (by decide) rfl (by decide) ?_
        exact law_carryOut l hl0 K hl hj5 hcs hss hS hT hX hP hD hnext
      · refine lv_tableIn (off := 1966) (tgt := 2011) hx hb dL_law_45 (by decide) (by decide) rfl (by decide) ?_
        exact law_undo l hl0 K hl hj5 hcs hss hS hT hX hP hD hnext
      · refine lv_tableIn (off := 2010) (tgt := 2055) hx hb dL_law_45 (by decide) (by decide) rfl (by decide) ?_
        exact law_digest l hl0 K hl hj5 hcs hss hS hT hX hP hD hnext
      · refine lv_tableOut (tgt := 2069) hx hb dL_law_45 (Or.inr (by decide)) (by decide) ?_
        exact W.widen (by omega) (by omega) (hnext H locs ls hI hS hl)
      · refine lv_tableOut (tgt := 2069) hx hb dL_law_45 (Or.inr (by decide)) (by decide) ?_
        exact W.widen (by omega) (by omega) (hnext H locs ls hI hS hl)
