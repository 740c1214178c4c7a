/-! my kit, 2: methods that write into a world of their own, without new cells -/
section SKIT2
variable {l : Launch} {G : va_G} {T : Nat → ClassId} {H : Heap}
def muQ (H : Heap) (w : va_W) (Post : Option Value → Heap → Prop) : Array Value → State → Outcome → State → Prop := fun _ st o t => ∃ v, o = .returned v ∧ Post v t.heap ∧ va_F (va_A w H.size) st t
abbrev mu (l : Launch) (y : MethodName) (ws : List Cond) (fr lc : Nat) (as : List Value) (G : va_G) (T : Nat → ClassId) (H : Heap) (w : va_W) (Post : Option Value → Heap → Prop) : Prop :=
  Met l y ws (rmo fr lc) (va_Pc as (at0 G T H)) (muQ H w Post) 0 0 (va_A w H.size)
theorem mu_ofi {y : MethodName} {ws ws' : List Cond} {fr lc : Nat} {as : List Value} {w : va_W} {Post : Option Value → Heap → Prop} {cc : ByteArray} {maxL : Nat} {ret : FieldType} {own : String}
    (hy : plainName y.cls = true) (hw : ws = Cond.code y cc maxL (some ret) :: ws') (hown : y.cls = own) (hle : (lg_sl as).length ≤ maxL) (hD : va_D (fun _ => True) w)
    (body : ∀ (p : Program) (e : Env) (s : State) (m : MethodId) (below : List Frame) (meth : Method) (c : Code) (Q : State → Prop) (ls : Array Slot) (A : Nat → Prop),
      CallFix p m c cc maxL s as.toArray ws own → kx G T s → lv_has ls maxL (lv_args 0 as) → va_D A w → va_S A H H [] → (∀ q, H.size ≤ q → A q) →
      (∀ (v : Int32) (H1 : Heap) (locs1 : List Loc) (pc : Nat) (ls : Array Slot), Post (some (.int v)) H1 → narrow ret (.int v) = .int v → va_S A H H1 locs1 → decode cc pc = .ok (.ireturn, 1) → W p l e (rmo fr lc) s m as.toArray below meth c H1 locs1 0 0 Q (F0 m pc ls [.int v])) →
      W p l e (rmo fr lc) s m as.toArray below meth c H [] 0 0 Q (F0 m 0 ls [])) : mu l y ws fr lc as G T H w Post := by
  refine Met.ofW hy hw ?_
  intro p e s m args below meth c s₁ B hml hv
  obtain ⟨rfl, hH, hk⟩ := hv
  subst hH
  have hts := atoms_spec (ws := ws) B.pre
  have ho : s.vm.findClass own = some m.cls := hown ▸ findClass_of_methodNamed B.named
  have hl := lv_entry as hle
  rw [lg_entry_eq]
  refine body p e s m below meth c _ _ (va_A w s.heap.size) ⟨B.exec, B.bytes, hml, ho, hts⟩ hk hl hD.self va_S.rf (fun q h => Or.inr h) ?_
  intro v H1 locs1 pc ls hp hn hS hd
  exact W.zret B.exec B.bytes B.returns hn (fun t ht _ => ⟨_, rfl, by rw [ht]; exact hp, hS.F ht⟩) hS.2.2 hd B.notSynchronized
theorem mu_ofv {y : MethodName} {ws ws' : List Cond} {fr lc : Nat} {as : List Value} {w : va_W} {Post : Option Value → Heap → Prop} {cc : ByteArray} {maxL : Nat} {own : String}
    (hy : plainName y.cls = true) (hw : ws = Cond.code y cc maxL none :: ws') (hown : y.cls = own) (hle : (lg_sl as).length ≤ maxL) (hD : va_D (fun _ => True) w)
    (body : ∀ (p : Program) (e : Env) (s : State) (m : MethodId) (below : List Frame) (meth : Method) (c : Code) (Q : State → Prop) (ls : Array Slot) (A : Nat → Prop),
      CallFix p m c cc maxL s as.toArray ws own → kx G T s → lv_has ls maxL (lv_args 0 as) → va_D A w → va_S A H H [] → (∀ q, H.size ≤ q → A q) →
      (∀ (H1 : Heap) (locs1 : List Loc) (pc : Nat) (ls : Array Slot), Post none H1 → va_S A H H1 locs1 → decode cc pc = .ok (.return_, 1) → W p l e (rmo fr lc) s m as.toArray below meth c H1 locs1 0 0 Q (F0 m pc ls [])) →
      W p l e (rmo fr lc) s m as.toArray below meth c H [] 0 0 Q (F0 m 0 ls [])) : mu l y ws fr lc as G T H w Post := by
  refine Met.ofW hy hw ?_
  intro p e s m args below meth c s₁ B hml hv
  obtain ⟨rfl, hH, hk⟩ := hv
  subst hH
  have hts := atoms_spec (ws := ws) B.pre
  have ho : s.vm.findClass own = some m.cls := hown ▸ findClass_of_methodNamed B.named
  have hl := lv_entry as hle
  rw [lg_entry_eq]
  refine body p e s m below meth c _ _ (va_A w s.heap.size) ⟨B.exec, B.bytes, hml, ho, hts⟩ hk hl hD.self va_S.rf (fun q h => Or.inr h) ?_
  intro H1 locs1 pc ls hp hS hd
  exact W.vret B.exec B.bytes B.returns (fun t ht _ => ⟨_, rfl, by rw [ht]; exact hp, hS.F ht⟩) hS.2.2 hd B.notSynchronized
section MUC
variable {p : Program} {e : Env} {R : Room} {s : State} {m : MethodId} {args : Array Value} {below : List Frame} {meth : Method} {c : Code} {locs : List Loc} {cells slots : Nat} {Q : State → Prop}
variable {y : MethodName} {bytes cc : ByteArray} {maxL nL n index fr lc pc : Nat} {ret : Option FieldType} {ws ws' : List Cond} {Ts : List Cond} {own C : String} {b : Addr} {As rest st : List Value} {ls : Array Slot}
theorem mu_V {w wc : va_W} {Post : Option Value → Heap → Prop} {A0 : Nat → Prop} {H0 : Heap} (S : CallFix p m c cc nL s args Ts own) (hk : kx G T s) (hM : mu l y ws fr lc (.ref b :: As) G T H wc Post)
    (hT : GoodIn Ts (wsV own index C y ws)) (hw : ws = Cond.code y bytes maxL ret :: ws')
    (hd : y.cls = C ∧ y.cls ≠ "java/lang/invoke/MethodHandle" ∧ y.cls ≠ "java/lang/invoke/VarHandle" ∧ (parseMethodDescriptor y.desc).map (fun d => d.parameters.length) = some n) (hR : fr + 1 ≤ R.frames ∧ 8 + (maxL + 11) + lc ≤ R.locals)
    (hP : va_P G vwCl w H) (q0 : Nat) {ci : Nat} {fs : List Value} {q : vw_C} (hc : vwCl[ci]? = some q) (he : w[q0]? = some (b, .inr (ci, fs))) (hC : q.1 = C)
    (hn : As.length = n) (hl : ls.size = nL) (hst : st = As.reverse ++ .ref b :: rest) (hcat : (rest.map fun v => v.category).sum ≤ 8) (hdg : decode cc pc = .ok (.invokevirtual index, 3)) (hf : cells ≤ R.cells ∧ slots ≤ R.slots)
    (hS : va_S A0 H0 H locs) (hFc : ∀ q, va_A wc H.size q → A0 q)
    (kk : ∀ (v : Option Value) (H1 : Heap) (locs1 : List Loc), Post v H1 → H.size ≤ H1.size → (∀ q : Nat, q < H.size → ¬ va_A wc H.size q → H1[q]? = H[q]?) → va_S A0 H0 H1 locs1 → W p l e R s m args below meth c H1 locs1 cells slots Q (F0 m (pc + 3) ls (v.toList ++ rest))) : W p l e R s m args below meth c H locs cells slots Q (F0 m pc ls st) := by
  subst hst
  have h0 : 2 * (F0 m pc ls (As.reverse ++ .ref b :: rest)).monitorRoom = 0 := rfl
  have hr := va_runV (e := e) (below := below) (meth := meth) (H := H) (locs := locs) (cells := cells) (slots := slots) (rest := rest) (g := F0 m pc ls (As.reverse ++ .ref b :: rest)) S hM (cwV n S.2.2.2.2 hT hw rfl rfl hd hR) ⟨at0_blind, hC ▸ va_recv hk.1 hP hc he, fun U hU hW => ⟨rfl, hU, hk.warm hW⟩⟩ rfl hn hl rfl (by omega) hdg hf
  intro Z hZ X
  obtain ⟨v, st₀, t, T', L, g0, X', hL, e1, -, ⟨v2, hv, hp, hz, hk2⟩, st⟩ := hr Z hZ X
  cases hv
  rw [g0] at hz hk2
  obtain ⟨t2, a1, b1⟩ := kk v T'.heap (locs ++ L) (by rw [e1]; exact hp) (by rw [e1]; exact hz) (fun q h1 h2 => by rw [e1]; exact hk2 q h1 h2)
    ⟨Nat.le_trans hS.1 (by rw [e1]; exact hz), fun q h1 h2 => by rw [e1, hk2 q (Nat.lt_of_lt_of_le h1 hS.1) (fun z => h2 (hFc q z))]; exact hS.2.1 q h1 h2, fun q hq => by
      rcases List.mem_append.mp hq with h | h
      · exact hS.2.2 q h
      · exact hFc _ (hL q h)⟩ T' rfl X'
  exact ⟨t2, st t2 a1, b1⟩
end MUC
/-- a part in the middle of a world is written: the rest stays -/
theorem fr_mid {A : Nat → Prop} {X w Y w' : va_W} {H H1 : Heap} (hP : va_P G vwCl (X ++ (w ++ Y)) H) (hD : va_D A (X ++ (w ++ Y))) (hk : ∀ q : Nat, q < H.size → ¬ va_A w H.size q → H1[q]? = H[q]?) (hP1 : va_P G vwCl w' H1) (ha : w'.map Prod.fst = w.map Prod.fst) :
    va_P G vwCl (X ++ (w' ++ Y)) H1 ∧ va_D A (X ++ (w' ++ Y)) := by
  have hlen : w'.length = w.length := by have := congrArg List.length ha; simpa using this
  have hfst : ∀ (i : Nat), (X ++ (w' ++ Y))[i]?.map Prod.fst = (X ++ (w ++ Y))[i]?.map Prod.fst := by
    intro i
    rw [← List.getElem?_map, ← List.getElem?_map, List.map_append, List.map_append, List.map_append, List.map_append, ha]
  have key : ∀ (i : Nat) (q : Nat × va_E), (X ++ (w' ++ Y))[i]? = some q → ∃ q0, (X ++ (w ++ Y))[i]? = some q0 ∧ q0.1 = q.1 := by
    intro i q hq
    have h := hfst i
    rw [hq] at h
    cases hx : (X ++ (w ++ Y))[i]? with
    | none => rw [hx] at h; cases h
    | some q0 => rw [hx] at h; exact ⟨q0, rfl, (Option.some.inj h).symm⟩
  have stay : ∀ (i : Nat) (q : Nat × va_E), (X ++ (w ++ Y))[i]? = some q → (i < X.length ∨ X.length + w.length ≤ i) → H1[q.1]? = H[q.1]? := by
    intro i q hq hi
    refine hk q.1 (hP i q hq).lt ?_
    rintro (⟨k, e, hke⟩ | h)
    · have h2 : (X ++ (w ++ Y))[X.length + k]? = some (q.1, e) := by
        have hkl : k < w.length := (List.getElem?_eq_some_iff.mp hke).1
        rw [List.getElem?_append_right (by omega), Nat.add_sub_cancel_left, List.getElem?_append_left hkl, hke]
      have hkl : k < w.length := (List.getElem?_eq_some_iff.mp hke).1
      have := hD.1 i (X.length + k) q (q.1, e) hq h2 rfl
      omega
    · have := (hP i q hq).lt; omega
  refine ⟨fun i q hq => ?_, ⟨fun i j x z hx hz hxz => ?_, fun i q hq => ?_⟩⟩
  · rcases Nat.lt_or_ge i X.length with h | h
    · have hq2 : (X ++ (w ++ Y))[i]? = some q := by rw [List.getElem?_append_left h] at hq ⊢; exact hq
      exact (hP i q hq2).kept (stay i q hq2 (Or.inl h))
    · rcases Nat.lt_or_ge i (X.length + w.length) with h2 | h2
      · rw [List.getElem?_append_right h, List.getElem?_append_left (by omega)] at hq
        exact hP1 _ q hq
      · have hq2 : (X ++ (w ++ Y))[i]? = some q := by
          rw [List.getElem?_append_right h, List.getElem?_append_right (by omega)] at hq ⊢
          rw [← hlen]; exact hq
        exact (hP i q hq2).kept (stay i q hq2 (Or.inr h2))
  · obtain ⟨x0, h1, h2⟩ := key i x hx
    obtain ⟨z0, h3, h4⟩ := key j z hz
    exact hD.1 i j x0 z0 h1 h3 (by rw [h2, h4]; exact hxz)
  · obtain ⟨q0, h1, h2⟩ := key i q hq
    rw [← h2]; exact hD.2 i q0 h1
theorem fr_all {A : Nat → Prop} {w w' : va_W} (hD : va_D A w) (ha : w'.map Prod.fst = w.map Prod.fst) : va_D A w' := by
  have key : ∀ (i : Nat) (q : Nat × va_E), w'[i]? = some q → ∃ q0, w[i]? = some q0 ∧ q0.1 = q.1 := by
    intro i q hq
    have h : w'[i]?.map Prod.fst = w[i]?.map Prod.fst := by rw [← List.getElem?_map, ← List.getElem?_map, ha]
    rw [hq] at h
    cases hx : w[i]? with
    | none => rw [hx] at h; cases h
    | some q0 => rw [hx] at h; exact ⟨q0, rfl, (Option.some.inj h).symm⟩
  refine ⟨fun i j x z hx hz hxz => ?_, fun i q hq => ?_⟩
  · obtain ⟨x0, h1, h2⟩ := key i x hx
    obtain ⟨z0, h3, h4⟩ := key j z hz
    exact hD.1 i j x0 z0 h1 h3 (by rw [h2, h4]; exact hxz)
  · obtain ⟨q0, h1, h2⟩ := key i q hq
    rw [← h2]; exact hD.2 i q0 h1
/-- the cells of a world, and the new ones, are among those that may be written -/
theorem fr_in {A : Nat → Prop} {w : va_W} {n : Nat} (hD : va_D A w) (hA : ∀ q, n ≤ q → A q) : ∀ q, va_A w n q → A q := by
  rintro q (⟨k, e, h⟩ | h)
  · exact hD.2 k _ h
  · exact hA q h
section ARW
variable {p : Program} {e : Env} {R : Room} {s : State} {m : MethodId} {args : Array Value} {below : List Frame} {meth : Method} {c : Code} {locs : List Loc} {cells slots : Nat} {Q : State → Prop}
variable {cc : ByteArray} {pc : Nat} {ls : Array Slot} {rest : List Value} {w : va_W} {a : Nat} {A : Nat → Prop} {H0 : Heap}
/-- an int into an array, at a natural place -/
theorem ist (hexec : p.tables.exec = Jvm.exec) (hb : c.code = cc) (hk : kx G T s) (hP : va_P G vwCl w H) (hD : va_D A w) (hS : va_S A H0 H locs) (q0 : Nat) {n : Nat} {f : Nat → Int32} (ha : w[q0]? = some (a, .inl (T 0, n, .inl f))) (k : Nat) {i x : Int32} (hi : i = nI k) (hkn : k < n) (hn : n < 2 ^ 31) (hdg : decode cc pc = .ok (.iastore, 1))
    (kk : ∀ (H1 : Heap) (locs1 : List Loc), va_P G vwCl (w.set q0 (a, .inl (T 0, n, .inl (upd f k x)))) H1 → va_D A (w.set q0 (a, .inl (T 0, n, .inl (upd f k x)))) → va_S A H0 H1 locs1 → W p l e R s m args below meth c H1 locs1 cells slots Q (F0 m (pc + 1) ls rest)) : W p l e R s m args below meth c H locs cells slots Q (F0 m pc ls (.int x :: .int i :: .ref a :: rest)) := by
  subst hi
  refine va_iast hexec hb hk.1 hP hD hS q0 0 ha rfl (vp_in_nI hkn hn) hdg ?_
  rw [nI_clamp (Nat.lt_trans hkn hn)]
  exact kk
end ARW
end SKIT2
section ACP
variable {l : Launch} {G : va_G} {T : Nat → ClassId} {H : Heap}
variable {p : Program} {e : Env} {R : Room} {s : State} {m : MethodId} {args : Array Value} {below : List Frame} {meth : Method} {c : Code} {locs : List Loc} {cells slots : Nat} {Q : State → Prop}
variable {cc : ByteArray} {pc : Nat} {ls : Array Slot} {rest : List Value} {w : va_W} {a b : Nat} {A : Nat → Prop} {H0 : Heap}
theorem row_cg {cA : ClassId} {n : Nat} {f g : Nat → Int32} (h : ∀ k, k < n → f k = g k) : vp_cell cA (n, .inl f) = vp_cell cA (n, .inl g) := by
  rw [vp_cell_i, vp_cell_i]
  unfold arrV
  congr 2
  funext j
  exact congrArg Value.int (h j.val j.isLt)
/-- a row may be told by another function that has the same numbers in it -/
theorem P_row {w : va_W} (hP : va_P G vwCl w H) (q : Nat) {cA : ClassId} {n : Nat} {f g : Nat → Int32} (hq : w[q]? = some (a, .inl (cA, n, .inl f))) (h : ∀ k, k < n → f k = g k) : va_P G vwCl (w.set q (a, .inl (cA, n, .inl g))) H := by
  have hl := (List.getElem?_eq_some_iff.mp hq).1
  intro k x hx
  by_cases hk : k = q
  · subst hk
    rw [List.getElem?_set_self hl] at hx
    cases hx
    have := hP k _ hq
    show H[a]? = some (vp_cell cA (n, .inl g))
    rw [← row_cg h]; exact this
  · rw [List.getElem?_set_ne (Ne.symm hk)] at hx
    exact hP k x hx
/-- System.arraycopy of a whole row of ints -/
theorem acp {own : String} {index : Nat} (hexec : p.tables.exec = Jvm.exec) (hb : c.code = cc) (hml : c.maxLocals = ls.size) (hown : s.vm.findClass own = some m.cls) (hlink : (Cond.methodLink own index arraycopyName).before args s = true) (hnat : (Cond.native arraycopyName).before args s = true) (hstat : (Cond.static arraycopyName).before args s = true) (hini : (Cond.initialized "java/lang/System").before args s = true)
    (hk : kx G T s) (hP : va_P G vwCl w H) (hD : va_D A w) (hS : va_S A H0 H locs) (q0 q1 : Nat) {n : Nat} {f g : Nat → Int32} (ha0 : w[q0]? = some (b, .inl (T 0, n, .inl f))) (ha1 : w[q1]? = some (a, .inl (T 0, n, .inl g))) {x : Int32} (hx : x = nI n) (hn : n < 2 ^ 31)
    (hframes : 1 ≤ R.frames) (hlocals : (rest.map fun v => v.category).sum + (nativeFrameWords "java/lang/System" "arraycopy" 5 + 11) ≤ R.locals) (hdg : decode cc pc = .ok (.invokestatic index, 3))
    (kk : ∀ (H1 : Heap) (locs1 : List Loc), va_P G vwCl (w.set q1 (a, .inl (T 0, n, .inl f))) H1 → va_D A (w.set q1 (a, .inl (T 0, n, .inl f))) → va_S A H0 H1 locs1 → W p l e R s m args below meth c H1 locs1 cells slots Q (F0 m (pc + 3) ls rest)) : W p l e R s m args below meth c H locs cells slots Q (F0 m pc ls (.int x :: .int 0 :: .ref a :: .int 0 :: .ref b :: rest)) := by
  subst hx
  have z0 : ¬ (0 : Int32) < 0 := by decide
  have c0 : (0 : Int32).toNatClampNeg = 0 := rfl
  have hln := nI_clamp hn
  refine va_copyi hexec hb hml hown hlink hnat hstat hini hk.1 hP hD hS q0 q1 0 0 ha0 ha1 rfl rfl rfl z0 z0 (nI_pos hn) (by rw [c0, hln]; omega) (by rw [c0, hln]; omega) (fun i _ => rfl) hframes hlocals hdg ?_
  intro H1 locs1 hP1 hD1 hS1
  have hl := (List.getElem?_eq_some_iff.mp ha1).1
  rw [c0, hln] at hP1 hD1
  have h2 := P_row hP1 q1 (g := f) (by rw [List.getElem?_set_self hl]) (fun k hk => by
    show va_cpy f g 0 0 n k = f k
    rw [pk_cpy_in (Nat.zero_le _) (by omega)]; congr 1; omega)
  rw [List.set_set] at h2
  exact kk H1 locs1 h2 (fr_all hD1 (by
    rw [List.map_set, List.map_set])) hS1
end ACP
