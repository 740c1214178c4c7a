/-! my kit: read-only contracts over a fixed heap; their calls; arrays at natural places -/
section SKIT
/-- the array classes that the worlds use -/
def tk (T : Nat → ClassId) : List (ClassId × FieldType) := [(T 0, .int), (T 1, .byte), (T 2, .object "SunsetDates$Calendar")]
/-- links to private members of nest mates -/
def nst (U : State) : Prop := va_Nw (.methodLinkNest RX0 49 yX5_contains RX5) U ∧ va_Nw (.methodLinkNest RX0 58 yX5_isThere RX5) U ∧ va_Nw (.methodLinkNest RX0 61 yX5_isWithin RX5) U ∧ va_Nw (.methodLinkNest RX4 34 yX5_contains RX5) U ∧ va_Nw (.methodLinkNest RX0 11 yX4_init RX5) U ∧ va_Nw (.methodLinkNest RX0 24 yX3_init RX5) U ∧ va_Nw (.methodLinkNest RX0 31 yX2_init RX5) U ∧ va_Nw (.methodLinkNest RX5 11 yX0_init RX5) U ∧ va_Nw (.methodLinkNest RX5 26 yX1_init RX5) U
def kx (G : va_G) (T : Nat → ClassId) (U : State) : Prop := va_K G vwCl (tk T) U ∧ nst U
theorem kx.same {G : va_G} {T : Nat → ClassId} {u U : State} (h : u.vm = U.vm) (k : kx G T u) : kx G T U := by
  obtain ⟨k0, n1, n2, n3, n4, n5, n6, n7, n8, n9⟩ := k
  exact ⟨va_K.moved (by rw [h]; exact Vm.Alike.refl _) k0, n1.same rfl h, n2.same rfl h, n3.same rfl h, n4.same rfl h, n5.same rfl h, n6.same rfl h, n7.same rfl h, n8.same rfl h, n9.same rfl h⟩
theorem kx.warm {G : va_G} {T : Nat → ClassId} {s U : State} (hW : s.WarmedH U.vm) (k : kx G T s) : kx G T U := by
  obtain ⟨k0, n1, n2, n3, n4, n5, n6, n7, n8, n9⟩ := k
  exact ⟨va_K.moved hW.alike k0, n1.warmM hW, n2.warmM hW, n3.warmM hW, n4.warmM hW, n5.warmM hW, n6.warmM hW, n7.warmM hW, n8.warmM hW, n9.warmM hW⟩
def at0 (G : va_G) (T : Nat → ClassId) (H : Heap) : State → Prop := fun U => U.heap = H ∧ kx G T U
theorem at0_blind {as : List Value} {G : va_G} {T : Nat → ClassId} {H : Heap} : FrameBlind (va_Pc as (at0 G T H)) := fun _ _ _ _ q => ⟨q.1, q.2.1, q.2.2.same rfl⟩
abbrev rmo (fr lc : Nat) : Room := { frames := fr, cells := 0, slots := 0, locals := lc }
/-- a method that only reads, on the heap H -/
abbrev ro (l : Launch) (y : MethodName) (ws : List Cond) (fr lc : Nat) (as : List Value) (G : va_G) (T : Nat → ClassId) (H : Heap) (post : Int32 → Prop) : Prop :=
  Met l y ws (rmo fr lc) (va_Pc as (at0 G T H)) (vp_Si post) 0 0 (fun _ => False)
variable {l : Launch} {G : va_G} {T : Nat → ClassId} {H : Heap}
theorem ro_of {y : MethodName} {ws ws' : List Cond} {fr lc : Nat} {as : List Value} {post : Int32 → Prop} {cc : ByteArray} {maxL : Nat} {ret : FieldType} {own : String}
    (hy : plainName y.cls = true) (hw : ws = Cond.code y cc maxL (some ret) :: ws') (hown : y.cls = own) (hle : (lg_sl as).length ≤ maxL)
    (hn : ∀ v : Int32, post v → narrow ret (.int v) = .int v)
    (body : ∀ (p : Program) (e : Env) (s : State) (m : MethodId) (below : List Frame) (meth : Method) (c : Code) (Q : State → Prop) (ls : Array Slot),
      CallFix p m c cc maxL s as.toArray ws own → kx G T s → lv_has ls maxL (lv_args 0 as) →
      (∀ (v : Int32) (pc : Nat) (ls : Array Slot), post v → decode cc pc = .ok (.ireturn, 1) → W p l e (rmo fr lc) s m as.toArray below meth c H [] 0 0 Q (F0 m pc ls [.int v])) →
      W p l e (rmo fr lc) s m as.toArray below meth c H [] 0 0 Q (F0 m 0 ls [])) : ro l y ws fr lc as G T H post := by
  refine Met.ofW hy hw ?_
  intro p e s m args below meth c s₁ B hml hv
  obtain ⟨rfl, hH, hk⟩ := hv
  subst hH
  have hts := atoms_spec (ws := ws) B.pre
  have ho : s.vm.findClass own = some m.cls := hown ▸ findClass_of_methodNamed B.named
  have hl := lv_entry as hle
  rw [lg_entry_eq]
  refine body p e s m below meth c _ _ ⟨B.exec, B.bytes, hml, ho, hts⟩ hk hl ?_
  intro v pc ls hp hd
  exact W.zret B.exec B.bytes B.returns (hn v hp) (fun t ht _ => ⟨v, rfl, hp, ht⟩) (fun _ h => by cases h) hd B.notSynchronized
section ROC
variable {p : Program} {e : Env} {R : Room} {s : State} {m : MethodId} {args : Array Value} {below : List Frame} {meth : Method} {c : Code} {locs : List Loc} {cells slots : Nat} {Q : State → Prop}
variable {y : MethodName} {bytes cc : ByteArray} {maxL nL n index fr lc pc : Nat} {ret : Option FieldType} {ws ws' : List Cond} {post : Int32 → Prop} {Ts : List Cond} {own C : String} {b : Addr} {As rest st : List Value} {ls : Array Slot}
theorem ro_V (S : CallFix p m c cc nL s args Ts own) (hk : kx G T s) (hM : ro l y ws fr lc (.ref b :: As) G T H post)
    (hT : GoodIn Ts (wsV own index C y ws)) (hw : ws = Cond.code y bytes maxL ret :: ws')
    (hd : y.cls = C ∧ y.cls ≠ "java/lang/invoke/MethodHandle" ∧ y.cls ≠ "java/lang/invoke/VarHandle" ∧ (parseMethodDescriptor y.desc).map (fun d => d.parameters.length) = some n) (hR : fr + 1 ≤ R.frames ∧ 8 + (maxL + 11) + lc ≤ R.locals)
    {w : va_W} (hP : va_P G vwCl w H) (q0 : Nat) {ci : Nat} {fs : List Value} {q : vw_C} (hc : vwCl[ci]? = some q) (he : w[q0]? = some (b, .inr (ci, fs))) (hC : q.1 = C)
    (hn : As.length = n) (hl : ls.size = nL) (hst : st = As.reverse ++ .ref b :: rest) (hcat : (rest.map fun v => v.category).sum ≤ 8) (hdg : decode cc pc = .ok (.invokevirtual index, 3)) (hf : cells ≤ R.cells ∧ slots ≤ R.slots)
    (kk : ∀ r : Int32, post r → W p l e R s m args below meth c H locs cells slots Q (F0 m (pc + 3) ls (.int r :: rest))) : W p l e R s m args below meth c H locs cells slots Q (F0 m pc ls st) := by
  subst hst
  refine vp_callSi (W.runV S hM (cwV n S.2.2.2.2 hT hw rfl rfl hd hR) ⟨at0_blind, hC ▸ va_recv hk.1 hP hc he, fun U hU hW => ⟨rfl, hU, hk.warm hW⟩⟩ rfl hn hl rfl ?_ hdg hf) kk
  have h0 : 2 * (F0 m pc ls (As.reverse ++ .ref b :: rest)).monitorRoom = 0 := rfl
  omega
theorem ro_S (S : CallFix p m c cc nL s args Ts own) (hk : kx G T s) (hM : ro l y ws fr lc As G T H post)
    (hT : GoodIn Ts (va_wsS own index y ws)) (hw : ws = Cond.code y bytes maxL ret :: ws')
    (hd : y.cls ≠ "java/lang/invoke/MethodHandle" ∧ y.cls ≠ "java/lang/invoke/VarHandle" ∧ (parseMethodDescriptor y.desc).map (fun d => d.parameters.length) = some n) (hR : fr + 1 ≤ R.frames ∧ 8 + (maxL + 11) + lc ≤ R.locals)
    (hn : As.length = n) (hl : ls.size = nL) (hst : st = As.reverse ++ rest) (hcat : (rest.map fun v => v.category).sum ≤ 8) (hdg : decode cc pc = .ok (.invokestatic index, 3)) (hf : cells ≤ R.cells ∧ slots ≤ R.slots)
    (kk : ∀ r : Int32, post r → W p l e R s m args below meth c H locs cells slots Q (F0 m (pc + 3) ls (.int r :: rest))) : W p l e R s m args below meth c H locs cells slots Q (F0 m pc ls st) := by
  subst hst
  refine vp_callSi (W.runS S hM (va_cwS n S.2.2.2.2 hT hw rfl rfl hd hR) ⟨at0_blind, fun U hU hW => ⟨rfl, hU, hk.warm hW⟩⟩ rfl hn hl rfl ?_ hdg hf) kk
  have h0 : 2 * (F0 m pc ls (As.reverse ++ rest)).monitorRoom = 0 := rfl
  omega
theorem ro_SN {host : String} (S : CallFix p m c cc nL s args Ts own) (hk : kx G T s) (hM : ro l y ws fr lc As G T H post)
    (hG : GoodIn Ts ws) (hw : ws = Cond.code y bytes maxL ret :: ws') (hnst : va_Nw (.methodLinkNest own index y host) s) (hini : (Cond.initialized y.cls).before args s = true) (hstat : (Cond.static y).before args s = true)
    (hd : y.cls ≠ "java/lang/invoke/MethodHandle" ∧ y.cls ≠ "java/lang/invoke/VarHandle" ∧ (parseMethodDescriptor y.desc).map (fun d => d.parameters.length) = some n) (hR : fr + 1 ≤ R.frames ∧ 8 + (maxL + 11) + lc ≤ R.locals)
    (hn : As.length = n) (hl : ls.size = nL) (hst : st = As.reverse ++ rest) (hcat : (rest.map fun v => v.category).sum ≤ 8) (hdg : decode cc pc = .ok (.invokestatic index, 3)) (hf : cells ≤ R.cells ∧ slots ≤ R.slots)
    (kk : ∀ r : Int32, post r → W p l e R s m args below meth c H locs cells slots Q (F0 m (pc + 3) ls (.int r :: rest))) : W p l e R s m args below meth c H locs cells slots Q (F0 m pc ls st) := by
  subst hst
  have h0 : 2 * (F0 m pc ls (As.reverse ++ rest)).monitorRoom = 0 := rfl
  have hr := va_runSN (e := e) (H := H) (locs := locs) (cells := cells) (slots := slots) (rest := rest) (g := F0 m pc ls (As.reverse ++ rest)) (below := below) (meth := meth) S hM ⟨va_cnB n S.2.2.2.2 hG hw rfl rfl hnst hini hd hR, hstat, trivial⟩ ⟨at0_blind, fun U hU hW => ⟨rfl, hU, hk.warm hW⟩⟩ rfl hn hl rfl (by omega) hdg hf
  intro Z hT X
  obtain ⟨v, st₀, t, T', L, h0, X', hL, e1, -, ⟨r, hv, hp, hh⟩, st⟩ := hr Z hT X
  cases hv
  obtain ⟨t2, a1, b1⟩ := kk r hp T' (by rw [e1, hh, h0]) (Stand.forget X' (fun q h => (hL q h).elim))
  exact ⟨t2, st t2 a1, b1⟩
end ROC
section ARR
variable {p : Program} {e : Env} {R : Room} {s : State} {m : MethodId} {args : Array Value} {below : List Frame} {meth : Method} {c : Code} {locs : List Loc} {cells slots : Nat} {Q : State → Prop}
variable {cc : ByteArray} {pc : Nat} {ls : Array Slot} {rest : List Value} {w : va_W} {a : Nat}
/-- an int of an array, at a natural place -/
theorem ia (hexec : p.tables.exec = Jvm.exec) (hb : c.code = cc) (hk : kx G T s) (hP : va_P G vwCl w H) (q0 : Nat) {n : Nat} {f : Nat → Int32} (ha : w[q0]? = some (a, .inl (T 0, n, .inl f))) (k : Nat) {i : Int32} (hi : i = nI k) (hkn : k < n) (hn : n < 2 ^ 31) (hdg : decode cc pc = .ok (.iaload, 1))
    (kk : W p l e R s m args below meth c H locs cells slots Q (F0 m (pc + 1) ls (.int (f k) :: rest))) : W p l e R s m args below meth c H locs cells slots Q (F0 m pc ls (.int i :: .ref a :: rest)) := by
  subst hi
  refine va_iald hexec hb hk.1 hP q0 0 ha rfl (vp_in_nI hkn hn) hdg ?_
  rw [nI_clamp (Nat.lt_trans hkn hn)]
  exact kk
end ARR
end SKIT
/-- a boolean as the machine has it -/
def bI (b : Bool) : Int32 := if b then 1 else 0
theorem bI_nar {v : Int32} {b : Bool} (h : v = bI b) : narrow .boolean (.int v) = .int v := by subst h; cases b <;> rfl
theorem bI_ne {b : Bool} : bI b = 0 ↔ b = false := by cases b <;> simp [bI]
theorem bI_t : bI true = 1 := rfl
theorem bI_f : bI false = 0 := rfl
theorem bI_e0 {b : Bool} (h : bI b = 0) : b = false := bI_ne.mp h
theorem bI_n0 {b : Bool} (h : ¬ bI b = 0) : b = true := by cases b <;> simp_all [bI]
theorem bI_nn0 {b : Bool} (h : ¬ ¬ bI b = 0) : b = false := bI_ne.mp (Classical.not_not.mp h)
theorem nI_inc (k : Nat) : nI k + Int32.ofInt 1 = nI (k + 1) := nI_1 k
theorem cn_eq {x y : Int32} {a b : Nat} (ha : a < 2 ^ 31) (hb : b < 2 ^ 31) (h : x = y) (hx : x = nI a := by rfl) (hy : y = nI b := by rfl) : a = b := by subst hx hy; exact (nI_eq ha hb).mp h
theorem cn_ne {x y : Int32} {a b : Nat} (ha : a < 2 ^ 31) (hb : b < 2 ^ 31) (h : ¬ x = y) (hx : x = nI a := by rfl) (hy : y = nI b := by rfl) : ¬ a = b := by subst hx hy; exact fun q => h (by rw [q])
theorem cn_nne {x y : Int32} {a b : Nat} (ha : a < 2 ^ 31) (hb : b < 2 ^ 31) (h : ¬ ¬ x = y) (hx : x = nI a := by rfl) (hy : y = nI b := by rfl) : a = b := cn_eq ha hb (Classical.not_not.mp h) hx hy
theorem cn_lt {x y : Int32} {a b : Nat} (ha : a < 2 ^ 31) (hb : b < 2 ^ 31) (h : x < y) (hx : x = nI a := by rfl) (hy : y = nI b := by rfl) : a < b := by subst hx hy; exact (nI_ltI ha hb).mp h
theorem cn_nlt {x y : Int32} {a b : Nat} (ha : a < 2 ^ 31) (hb : b < 2 ^ 31) (h : ¬ x < y) (hx : x = nI a := by rfl) (hy : y = nI b := by rfl) : b ≤ a := by subst hx hy; exact Nat.not_lt.mp fun q => h ((nI_ltI ha hb).mpr q)
theorem cn_le {x y : Int32} {a b : Nat} (ha : a < 2 ^ 31) (hb : b < 2 ^ 31) (h : x ≤ y) (hx : x = nI a := by rfl) (hy : y = nI b := by rfl) : a ≤ b := by subst hx hy; exact (nI_leI ha hb).mp h
theorem cn_nle {x y : Int32} {a b : Nat} (ha : a < 2 ^ 31) (hb : b < 2 ^ 31) (h : ¬ x ≤ y) (hx : x = nI a := by rfl) (hy : y = nI b := by rfl) : b < a := by subst hx hy; exact Nat.not_le.mp fun q => h ((nI_leI ha hb).mpr q)
theorem nmax {a b : Nat} (ha : a < 2 ^ 31) (hb : b < 2 ^ 31) : (if nI a < nI b then nI b else nI a) = nI (max a b) := by
  by_cases h : a < b
  · rw [if_pos ((nI_ltI ha hb).mpr h), Nat.max_eq_right (Nat.le_of_lt h)]
  · rw [if_neg (fun q => h ((nI_ltI ha hb).mp q)), Nat.max_eq_left (Nat.not_lt.mp h)]
theorem nmin {a b : Nat} (ha : a < 2 ^ 31) (hb : b < 2 ^ 31) : (if nI a < nI b then nI a else nI b) = nI (min a b) := by
  by_cases h : a < b
  · rw [if_pos ((nI_ltI ha hb).mpr h), Nat.min_eq_left (Nat.le_of_lt h)]
  · rw [if_neg (fun q => h ((nI_ltI ha hb).mp q)), Nat.min_eq_right (Nat.not_lt.mp h)]
/-- the cells of a calendar at the addresses a: N its counts (versions, features, users, shims), Z its rows -/
abbrev wCal (T : Nat → ClassId) (a N : Nat → Nat) (Z : Nat → Nat → Int32) : va_W := [
  (a 0, .inr (0, [.ref (a 1), .int (nI (N 1)), .ref (a 6), .ref (a 13)])),
  (a 1, .inr (4, [.int (nI (N 0)), .ref (a 2), .ref (a 3), .ref (a 4), .ref (a 5)])),
  (a 2, .inl (T 0, 8, .inl (Z 1))), (a 3, .inl (T 0, 8, .inl (Z 2))), (a 4, .inl (T 0, 8, .inl (Z 3))), (a 5, .inl (T 0, 8, .inl (Z 4))),
  (a 6, .inr (3, [.int (nI (N 2)), .ref (a 7), .ref (a 8), .ref (a 9), .ref (a 10), .ref (a 11), .ref (a 12)])),
  (a 7, .inl (T 0, 10, .inl (Z 5))), (a 8, .inl (T 0, 10, .inl (Z 6))), (a 9, .inl (T 0, 10, .inl (Z 7))), (a 10, .inl (T 0, 10, .inl (Z 8))), (a 11, .inl (T 0, 10, .inl (Z 9))), (a 12, .inl (T 0, 10, .inl (Z 10))),
  (a 13, .inr (2, [.int (nI (N 3)), .ref (a 14), .ref (a 15), .ref (a 16), .ref (a 17), .ref (a 18)])),
  (a 14, .inl (T 0, 12, .inl (Z 11))), (a 15, .inl (T 0, 12, .inl (Z 12))), (a 16, .inl (T 0, 12, .inl (Z 13))), (a 17, .inl (T 0, 12, .inl (Z 14))), (a 18, .inl (T 0, 12, .inl (Z 15)))]
theorem i3lt (a b : Int32) : a < b ↔ a.toInt < b.toInt := Int32.lt_iff_toInt_lt
theorem i3le (a b : Int32) : a ≤ b ↔ a.toInt ≤ b.toInt := Int32.le_iff_toInt_le
theorem i3eq (a b : Int32) : a = b ↔ a.toInt = b.toInt := ⟨fun h => by rw [h], fun h => Int32.toInt_inj.mp h⟩
theorem i3z : (0 : Int32).toInt = 0 := rfl
theorem bI_0 {b : Bool} (h : b = false) : (0 : Int32) = bI b := by subst h; rfl
theorem bI_1 {b : Bool} (h : b = true) : (1 : Int32) = bI b := by subst h; rfl
