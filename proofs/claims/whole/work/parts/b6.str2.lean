/-! my kit, 9: writers that ask the String constants, too; what the reader of an order has behind it -/
section STR2
def sLen : List Nat := [5, 4, 4, 9, 2, 0]
def sByt : List (List Int32) := [[110, 118, 64, 100, 59], [110, 43, 109, 59], [118, 43, 109, 59], [110, 118, 58, 100, 45, 100, 44, 109, 59], [122, 59], []]
/-- the six String constants of the orders, at kk, their bytes at vv -/
def sts (kk vv : Nat → Nat) (A : Nat → Prop) (H : Heap) (U : State) : Prop :=
  vk_S 6 sLen sByt kk vv A U H ∧ (vk_R RX1 66 "nv@d;" (kk 0) U ∧ vk_R RX1 68 "n+m;" (kk 1) U ∧ vk_R RX1 70 "v+m;" (kk 2) U ∧ vk_R RX1 72 "nv:d-d,m;" (kk 3) U ∧ vk_R RX1 74 "z;" (kk 4) U ∧ vk_R RX1 76 "" (kk 5) U) ∧
  va_Z sJ "COMPACT_STRINGS" "Z" (.int 1) A U H ∧ va_Zq "jdk/internal/util/Preconditions" "SIOOBE_FORMATTER" "Ljava/util/function/BiFunction;" A U H
variable {l : Launch} {G : va_G} {T : Nat → ClassId} {H : Heap} {kk vv : Nat → Nat}
theorem sts.same {A : Nat → Prop} {u U : State} (h : U.vm = u.vm) (k : sts kk vv A H u) : sts kk vv A H U := by
  obtain ⟨k0, ⟨n1, n2, n3, n4, n5, n6⟩, k2, k3⟩ := k
  have ha : u.vm.Alike U.vm := by rw [h]; exact Vm.Alike.refl _
  exact ⟨vk_S.moved ha k0, ⟨n1.same h, n2.same h, n3.same h, n4.same h, n5.same h, n6.same h⟩, va_Z.moved ha k2, va_Zq.moved ha k3⟩
theorem sts.warm {A : Nat → Prop} {s U : State} (hW : s.WarmedH U.vm) (k : sts kk vv A H s) : sts kk vv A H U := by
  obtain ⟨k0, ⟨n1, n2, n3, n4, n5, n6⟩, k2, k3⟩ := k
  exact ⟨vk_S.moved hW.alike k0, ⟨n1.warm hW, n2.warm hW, n3.warm hW, n4.warm hW, n5.warm hW, n6.warm hW⟩, va_Z.moved hW.alike k2, va_Zq.moved hW.alike k3⟩
theorem sts.kept {A : Nat → Prop} {U : State} {H1 : Heap} (k : sts kk vv A H U) (hq : ∀ a : Nat, a < H.size → ¬ A a → H1[a]? = H[a]?) : sts kk vv A H1 U :=
  ⟨k.1.kept hq, k.2.1, k.2.2.1.kept hq, k.2.2.2.kept hq⟩
theorem sts.narrow {A B : Nat → Prop} {U : State} (k : sts kk vv A H U) (hAB : ∀ q, B q → A q) : sts kk vv B H U :=
  ⟨k.1.narrow hAB, k.2.1, k.2.2.1.narrow hAB, k.2.2.2.narrow hAB⟩
theorem sts_stb {A : Nat → Prop} : stb (sts kk vv A H) := ⟨fun _ _ e h => h.same e, fun _ _ hW h => h.warm hW⟩
theorem sts_g {A : Nat → Prop} {U : State} (h : sts kk vv A H U) (i : Nat) (hi : i < 6) : sgs (kk i) (vv i) (sLen.getD i 0) (fun j => (sByt.getD i []).getD j 0) A H U :=
  ⟨(h.1.1 i hi).1, (h.1.1 i hi).2.1, (h.1.1 i hi).2.2.1, (h.1.1 i hi).2.2.2, h.2.2.1, h.2.2.2⟩
def pix (le : Int32) : Nat := if le = 112 then 0 else if le = 108 then 1 else if le = 101 then 2 else if le = 115 then 3 else if le = 100 then 4 else 5
theorem idX1_partsOf : yX1_partsOf.cls = RX1 ∧ yX1_partsOf.cls ≠ "java/lang/invoke/MethodHandle" ∧ yX1_partsOf.cls ≠ "java/lang/invoke/VarHandle" ∧ (parseMethodDescriptor yX1_partsOf.desc).map (fun d => d.parameters.length) = some 1 := by decide +kernel
theorem mX1_partsOf (l : Launch) {A : Nat → Prop} {le : Int32} : rg l yX1_partsOf wsX1_partsOf 0 0 [.int le] H (sts kk vv A H) (fun r => r = some (.ref (kk (pix le)))) := by
  refine rg_of (cc := cX1_partsOf) (maxL := 1) (ret := some (.object "java/lang/String")) (own := RX1) (by decide +kernel) rfl rfl (Nat.le_of_ble_eq_true rfl) ?_
  intro p e s m below meth c Q ls hH S hp hl hri hra hrv
  obtain ⟨hx, hb, hml, hown, hts⟩ := id S
  have hl : lv_has ls 1 [(0, .int le)] := hl
  obtain ⟨-, ⟨n1, n2, n3, n4, n5, n6⟩, -⟩ := id hp
  refine lv_iload_n hx hb dX1_partsOf_0 rfl (lv_at hl 0 rfl) ?_
  by_cases c_1 : le = 100
  · refine lv_lookup (off := 63) (tgt := 64) hx hb dX1_partsOf_1 (by decide) (by rw [c_1]; decide) (by decide) ?_
    refine va_ldcS hx hb hown n5 dX1_partsOf_64 ?_
    exact hra _ _ _ _ rfl (by rw [c_1]; rfl) dX1_partsOf_66
  by_cases c_2 : le = 101
  · refine lv_lookup (off := 57) (tgt := 58) hx hb dX1_partsOf_1 (by decide) (by rw [c_2]; decide) (by decide) ?_
    refine va_ldcS hx hb hown n3 dX1_partsOf_58 ?_
    exact hra _ _ _ _ rfl (by rw [c_2]; rfl) dX1_partsOf_60
  by_cases c_3 : le = 108
  · refine lv_lookup (off := 54) (tgt := 55) hx hb dX1_partsOf_1 (by decide) (by rw [c_3]; decide) (by decide) ?_
    refine va_ldcS hx hb hown n2 dX1_partsOf_55 ?_
    exact hra _ _ _ _ rfl (by rw [c_3]; rfl) dX1_partsOf_57
  by_cases c_4 : le = 112
  · refine lv_lookup (off := 51) (tgt := 52) hx hb dX1_partsOf_1 (by decide) (by rw [c_4]; decide) (by decide) ?_
    refine va_ldcS hx hb hown n1 dX1_partsOf_52 ?_
    exact hra _ _ _ _ rfl (by rw [c_4]; rfl) dX1_partsOf_54
  by_cases c_5 : le = 115
  · refine lv_lookup (off := 60) (tgt := 61) hx hb dX1_partsOf_1 (by decide) (by rw [c_5]; decide) (by decide) ?_
    refine va_ldcS hx hb hown n4 dX1_partsOf_61 ?_
    exact hra _ _ _ _ rfl (by rw [c_5]; rfl) dX1_partsOf_63
  refine lv_lookup (off := 66) (tgt := 67) hx hb dX1_partsOf_1 (by decide) (by show Op.lookupswitch.offset [(100, 63), (101, 57), (108, 54), (112, 51), (115, 60)] 66 _ = 66; rw [lv_osw (k := 100) (a := 100) c_1 rfl, lv_osw (k := 101) (a := 101) c_2 rfl, lv_osw (k := 108) (a := 108) c_3 rfl, lv_osw (k := 112) (a := 112) c_4 rfl, lv_osw (k := 115) (a := 115) c_5 rfl]; rfl) (by decide) ?_
  refine va_ldcS hx hb hown n6 dX1_partsOf_67 ?_
  exact hra _ _ _ _ rfl (by unfold pix; rw [if_neg c_4, if_neg c_3, if_neg c_2, if_neg c_5, if_neg c_1]) dX1_partsOf_69
def at3 (G : va_G) (T : Nat → ClassId) (kk vv : Nat → Nat) (A : Nat → Prop) (H : Heap) : State → Prop := fun U => U.heap = H ∧ kx G T U ∧ sts kk vv A H U
theorem at3_blind {as : List Value} {A : Nat → Prop} : FrameBlind (va_Pc as (at3 G T kk vv A H)) := fun _ _ _ _ q => ⟨q.1, q.2.1, q.2.2.1.same rfl, q.2.2.2.same rfl⟩
/-- a method that writes into a world of its own, without new cells, and asks the String constants -/
abbrev mus (l : Launch) (y : MethodName) (ws : List Cond) (fr lc : Nat) (as : List Value) (G : va_G) (T : Nat → ClassId) (kk vv : Nat → Nat) (A : Nat → Prop) (H : Heap) (w : va_W) (Post : Option Value → Heap → Prop) : Prop :=
  Met l y ws (rmo fr lc) (va_Pc as (at3 G T kk vv A H)) (muQ H w Post) 0 0 (va_A w H.size)
theorem mus_ofi {y : MethodName} {ws ws' : List Cond} {fr lc : Nat} {as : List Value} {w : va_W} {A9 : Nat → Prop} {Post : Option Value → Heap → Prop} {cc : ByteArray} {maxL : Nat} {ret : FieldType} {own : String}
    (hy : plainName y.cls = true) (hw : ws = Cond.code y cc maxL (some ret) :: ws') (hown : y.cls = own) (hle : (lg_sl as).length ≤ maxL) (hD : va_D (fun _ => True) w) (h9 : ∀ q, va_A w H.size q → A9 q)
    (body : ∀ (p : Program) (e : Env) (s : State) (m : MethodId) (below : List Frame) (meth : Method) (c : Code) (Q : State → Prop) (ls : Array Slot) (A : Nat → Prop),
      CallFix p m c cc maxL s as.toArray ws own → kx G T s → sts kk vv A H s → lv_has ls maxL (lv_args 0 as) → va_D A w → va_S A H H [] → (∀ q, H.size ≤ q → A q) →
      (∀ (v : Int32) (H1 : Heap) (locs1 : List Loc) (pc : Nat) (ls : Array Slot), Post (some (.int v)) H1 → narrow ret (.int v) = .int v → va_S A H H1 locs1 → decode cc pc = .ok (.ireturn, 1) → W p l e (rmo fr lc) s m as.toArray below meth c H1 locs1 0 0 Q (F0 m pc ls [.int v])) →
      W p l e (rmo fr lc) s m as.toArray below meth c H [] 0 0 Q (F0 m 0 ls [])) : mus l y ws fr lc as G T kk vv A9 H w Post := by
  refine Met.ofW hy hw ?_
  intro p e s m args below meth c s₁ B hml hv
  obtain ⟨rfl, hH, hk, hst⟩ := hv
  subst hH
  have hts := atoms_spec (ws := ws) B.pre
  have ho : s.vm.findClass own = some m.cls := hown ▸ findClass_of_methodNamed B.named
  have hl := lv_entry as hle
  rw [lg_entry_eq]
  refine body p e s m below meth c _ _ (va_A w s.heap.size) ⟨B.exec, B.bytes, hml, ho, hts⟩ hk (hst.narrow h9) hl hD.self va_S.rf (fun q h => Or.inr h) ?_
  intro v H1 locs1 pc ls hp hn hS hd
  exact W.zret B.exec B.bytes B.returns hn (fun t ht _ => ⟨_, rfl, by rw [ht]; exact hp, hS.F ht⟩) hS.2.2 hd B.notSynchronized
section MUSC
variable {p : Program} {e : Env} {R : Room} {s : State} {m : MethodId} {args : Array Value} {below : List Frame} {meth : Method} {c : Code} {locs : List Loc} {cells slots : Nat} {Q : State → Prop}
variable {y : MethodName} {bytes cc : ByteArray} {maxL nL n index fr lc pc : Nat} {ret : Option FieldType} {ws ws' : List Cond} {Ts : List Cond} {own C : String} {b : Addr} {As rest st : List Value} {ls : Array Slot}
theorem mus_V {w wc : va_W} {Post : Option Value → Heap → Prop} {A0 A9 : Nat → Prop} {H0 : Heap} (S : CallFix p m c cc nL s args Ts own) (hk : kx G T s) (hst9 : sts kk vv A9 H s) (hM : mus l y ws fr lc (.ref b :: As) G T kk vv A9 H wc Post)
    (hT : GoodIn Ts (wsV own index C y ws)) (hw : ws = Cond.code y bytes maxL ret :: ws')
    (hd : y.cls = C ∧ y.cls ≠ "java/lang/invoke/MethodHandle" ∧ y.cls ≠ "java/lang/invoke/VarHandle" ∧ (parseMethodDescriptor y.desc).map (fun d => d.parameters.length) = some n) (hR : fr + 1 ≤ R.frames ∧ 8 + (maxL + 11) + lc ≤ R.locals)
    (hP : va_P G vwCl w H) (q0 : Nat) {ci : Nat} {fs : List Value} {q : vw_C} (hc : vwCl[ci]? = some q) (he : w[q0]? = some (b, .inr (ci, fs))) (hC : q.1 = C)
    (hn : As.length = n) (hl : ls.size = nL) (hst : st = As.reverse ++ .ref b :: rest) (hcat : (rest.map fun v => v.category).sum ≤ 8) (hdg : decode cc pc = .ok (.invokevirtual index, 3)) (hf : cells ≤ R.cells ∧ slots ≤ R.slots)
    (hS : va_S A0 H0 H locs) (hFc : ∀ q, va_A wc H.size q → A0 q)
    (kk : ∀ (v : Option Value) (H1 : Heap) (locs1 : List Loc), Post v H1 → H.size ≤ H1.size → (∀ q : Nat, q < H.size → ¬ va_A wc H.size q → H1[q]? = H[q]?) → va_S A0 H0 H1 locs1 → W p l e R s m args below meth c H1 locs1 cells slots Q (F0 m (pc + 3) ls (v.toList ++ rest))) : W p l e R s m args below meth c H locs cells slots Q (F0 m pc ls st) := by
  subst hst
  have h0 : 2 * (F0 m pc ls (As.reverse ++ .ref b :: rest)).monitorRoom = 0 := rfl
  have hr := va_runV (e := e) (below := below) (meth := meth) (H := H) (locs := locs) (cells := cells) (slots := slots) (rest := rest) (g := F0 m pc ls (As.reverse ++ .ref b :: rest)) S hM (cwV n S.2.2.2.2 hT hw rfl rfl hd hR) ⟨at3_blind, hC ▸ va_recv hk.1 hP hc he, fun U hU hW => ⟨rfl, hU, hk.warm hW, hst9.warm hW⟩⟩ rfl hn hl rfl (by omega) hdg hf
  intro Z hZ X
  obtain ⟨v, st₀, t, T', L, g0, X', hL, e1, -, ⟨v2, hv, hp, hz, hk2⟩, st⟩ := hr Z hZ X
  cases hv
  rw [g0] at hz hk2
  obtain ⟨t2, a1, b1⟩ := kk v T'.heap (locs ++ L) (by rw [e1]; exact hp) (by rw [e1]; exact hz) (fun q h1 h2 => by rw [e1]; exact hk2 q h1 h2)
    ⟨Nat.le_trans hS.1 (by rw [e1]; exact hz), fun q h1 h2 => by rw [e1, hk2 q (Nat.lt_of_lt_of_le h1 hS.1) (fun z => h2 (hFc q z))]; exact hS.2.1 q h1 h2, fun q hq => by
      rcases List.mem_append.mp hq with h | h
      · exact hS.2.2 q h
      · exact hFc _ (hL q h)⟩ T' rfl X'
  exact ⟨t2, st t2 a1, b1⟩
end MUSC
end STR2
/-- what the system has behind an order that it read: none is left; it cannot stand so; it was read -/
def roO (G : va_G) (T : Nat → ClassId) (q a : Nat → Nat) (N : Nat → Nat) (Z : Nat → Nat → Int32) (b : Nat → Nat → Nat) (M : Nat → Nat → Nat) (Y : Nat → Nat → Nat → Int32) (sc : Nat) (tx : Nat → Int32) (L cu : Nat) (er le : Int32) (nb : Nat → Int32) (nc : Nat) : Option Value → Heap → Prop := fun v9 H9 =>
  (¬ cu < L ∧ v9 = some (.int 0) ∧ va_P G vwCl (wMain T q a N Z b M Y sc tx L cu er le nb nc) H9) ∨
  (cu < L ∧ ∃ p9 a9 : Nat, prs1 tx L cu = per p9 a9 ∧ v9 = some (.int 0) ∧ ∃ (cu2 : Nat) (nb2 : Nat → Int32) (nc2 : Nat), va_P G vwCl (wMain T q a N Z b M Y sc tx L cu2 (nI p9) (tx cu) nb2 nc2) H9) ∨
  (cu < L ∧ ∃ (p9 : Nat) (ns : List Int32), prs1 tx L cu = pok p9 ns ∧ v9 = some (.int 1) ∧ ∃ (nb2 : Nat → Int32) (nc2 : Nat), nms (tx cu) ns (nb2 0) (nb2 1) (nb2 2) (nb2 3) (nb2 4) ∧ va_P G vwCl (wMain T q a N Z b M Y sc tx L p9 er (tx cu) nb2 nc2) H9)
