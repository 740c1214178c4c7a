/-! my kit, 7: doubles and longs -/
theorem vf_div {x y : Int32} (h : ¬ y = 0) : vf_n64 (FP.ddiv (FP.i2d x) (FP.i2d y)) := Fl.ddiv_out (Fl.i2d_fin x).noNaN (Fl.i2d_fin y) (Fl.i2d_nz h)
section SKIT7
variable {l : Launch} {G : va_G} {T : Nat → ClassId} {H : Heap}
theorem mu_ofd {y : MethodName} {ws ws' : List Cond} {fr lc : Nat} {as : List Value} {w : va_W} {Post : Option Value → Heap → Prop} {cc : ByteArray} {maxL : Nat} {own : String}
    (hy : plainName y.cls = true) (hw : ws = Cond.code y cc maxL (some .double) :: ws') (hown : y.cls = own) (hle : (lg_sl as).length ≤ maxL) (hD : va_D (fun _ => True) w)
    (body : ∀ (p : Program) (e : Env) (s : State) (m : MethodId) (below : List Frame) (meth : Method) (c : Code) (Q : State → Prop) (ls : Array Slot) (A : Nat → Prop),
      CallFix p m c cc maxL s as.toArray ws own → kx G T s → lv_has ls maxL (lv_args 0 as) → va_D A w → va_S A H H [] → (∀ q, H.size ≤ q → A q) →
      (∀ (v : UInt64) (H1 : Heap) (locs1 : List Loc) (pc : Nat) (ls : Array Slot), Post (some (.double v)) H1 → va_S A H H1 locs1 → decode cc pc = .ok (.dreturn, 1) → W p l e (rmo fr lc) s m as.toArray below meth c H1 locs1 0 0 Q (F0 m pc ls [.double v])) →
      W p l e (rmo fr lc) s m as.toArray below meth c H [] 0 0 Q (F0 m 0 ls [])) : mu l y ws fr lc as G T H w Post := by
  refine Met.ofW hy hw ?_
  intro p e s m args below meth c s₁ B hml hv
  obtain ⟨rfl, hH, hk⟩ := hv
  subst hH
  have hts := atoms_spec (ws := ws) B.pre
  have ho : s.vm.findClass own = some m.cls := hown ▸ findClass_of_methodNamed B.named
  have hl := lv_entry as hle
  rw [lg_entry_eq]
  refine body p e s m below meth c _ _ (va_A w s.heap.size) ⟨B.exec, B.bytes, hml, ho, hts⟩ hk hl hD.self va_S.rf (fun q h => Or.inr h) ?_
  intro v H1 locs1 pc ls hp hS hd
  exact W.dret B.exec B.bytes B.returns (fun t ht _ => ⟨_, rfl, by rw [ht]; exact hp, hS.F ht⟩) hS.2.2 hd B.notSynchronized
theorem mu_ofl {y : MethodName} {ws ws' : List Cond} {fr lc : Nat} {as : List Value} {w : va_W} {Post : Option Value → Heap → Prop} {cc : ByteArray} {maxL : Nat} {own : String}
    (hy : plainName y.cls = true) (hw : ws = Cond.code y cc maxL (some .long) :: ws') (hown : y.cls = own) (hle : (lg_sl as).length ≤ maxL) (hD : va_D (fun _ => True) w)
    (body : ∀ (p : Program) (e : Env) (s : State) (m : MethodId) (below : List Frame) (meth : Method) (c : Code) (Q : State → Prop) (ls : Array Slot) (A : Nat → Prop),
      CallFix p m c cc maxL s as.toArray ws own → kx G T s → lv_has ls maxL (lv_args 0 as) → va_D A w → va_S A H H [] → (∀ q, H.size ≤ q → A q) →
      (∀ (v : Int64) (H1 : Heap) (locs1 : List Loc) (pc : Nat) (ls : Array Slot), Post (some (.long v)) H1 → va_S A H H1 locs1 → decode cc pc = .ok (.lreturn, 1) → W p l e (rmo fr lc) s m as.toArray below meth c H1 locs1 0 0 Q (F0 m pc ls [.long v])) →
      W p l e (rmo fr lc) s m as.toArray below meth c H [] 0 0 Q (F0 m 0 ls [])) : mu l y ws fr lc as G T H w Post := by
  refine Met.ofW hy hw ?_
  intro p e s m args below meth c s₁ B hml hv
  obtain ⟨rfl, hH, hk⟩ := hv
  subst hH
  have hts := atoms_spec (ws := ws) B.pre
  have ho : s.vm.findClass own = some m.cls := hown ▸ findClass_of_methodNamed B.named
  have hl := lv_entry as hle
  rw [lg_entry_eq]
  refine body p e s m below meth c _ _ (va_A w s.heap.size) ⟨B.exec, B.bytes, hml, ho, hts⟩ hk hl hD.self va_S.rf (fun q h => Or.inr h) ?_
  intro v H1 locs1 pc ls hp hS hd
  exact W.lret B.exec B.bytes B.returns (fun t ht _ => ⟨_, rfl, by rw [ht]; exact hp, hS.F ht⟩) hS.2.2 hd B.notSynchronized
/-- a method that only reads and answers a long -/
abbrev rol (l : Launch) (y : MethodName) (ws : List Cond) (fr lc : Nat) (as : List Value) (G : va_G) (T : Nat → ClassId) (H : Heap) (post : Int64 → Prop) : Prop :=
  Met l y ws (rmo fr lc) (va_Pc as (at0 G T H)) (vp_Sl post) 0 0 (fun _ => False)
theorem rol_of {y : MethodName} {ws ws' : List Cond} {fr lc : Nat} {as : List Value} {post : Int64 → Prop} {cc : ByteArray} {maxL : Nat} {own : String}
    (hy : plainName y.cls = true) (hw : ws = Cond.code y cc maxL (some .long) :: ws') (hown : y.cls = own) (hle : (lg_sl as).length ≤ maxL)
    (body : ∀ (p : Program) (e : Env) (s : State) (m : MethodId) (below : List Frame) (meth : Method) (c : Code) (Q : State → Prop) (ls : Array Slot),
      CallFix p m c cc maxL s as.toArray ws own → kx G T s → lv_has ls maxL (lv_args 0 as) →
      (∀ (v : Int64) (pc : Nat) (ls : Array Slot), post v → decode cc pc = .ok (.lreturn, 1) → W p l e (rmo fr lc) s m as.toArray below meth c H [] 0 0 Q (F0 m pc ls [.long v])) →
      W p l e (rmo fr lc) s m as.toArray below meth c H [] 0 0 Q (F0 m 0 ls [])) : rol l y ws fr lc as G T H post := by
  refine Met.ofW hy hw ?_
  intro p e s m args below meth c s₁ B hml hv
  obtain ⟨rfl, hH, hk⟩ := hv
  subst hH
  have hts := atoms_spec (ws := ws) B.pre
  have ho : s.vm.findClass own = some m.cls := hown ▸ findClass_of_methodNamed B.named
  have hl := lv_entry as hle
  rw [lg_entry_eq]
  refine body p e s m below meth c _ _ ⟨B.exec, B.bytes, hml, ho, hts⟩ hk hl ?_
  intro v pc ls hp hd
  exact W.lret B.exec B.bytes B.returns (fun t ht _ => ⟨v, rfl, hp, ht⟩) (fun _ h => by cases h) hd B.notSynchronized
section ROLC
variable {p : Program} {e : Env} {R : Room} {s : State} {m : MethodId} {args : Array Value} {below : List Frame} {meth : Method} {c : Code} {locs : List Loc} {cells slots : Nat} {Q : State → Prop}
variable {y : MethodName} {bytes cc : ByteArray} {maxL nL n index fr lc pc : Nat} {ret : Option FieldType} {ws ws' : List Cond} {post : Int64 → Prop} {Ts : List Cond} {own C : String} {b : Addr} {As rest st : List Value} {ls : Array Slot}
theorem rol_S (S : CallFix p m c cc nL s args Ts own) (hk : kx G T s) (hM : rol l y ws fr lc As G T H post)
    (hT : GoodIn Ts (va_wsS own index y ws)) (hw : ws = Cond.code y bytes maxL ret :: ws')
    (hd : y.cls ≠ "java/lang/invoke/MethodHandle" ∧ y.cls ≠ "java/lang/invoke/VarHandle" ∧ (parseMethodDescriptor y.desc).map (fun d => d.parameters.length) = some n) (hR : fr + 1 ≤ R.frames ∧ 8 + (maxL + 11) + lc ≤ R.locals)
    (hn : As.length = n) (hl : ls.size = nL) (hst : st = As.reverse ++ rest) (hcat : (rest.map fun v => v.category).sum ≤ 8) (hdg : decode cc pc = .ok (.invokestatic index, 3)) (hf : cells ≤ R.cells ∧ slots ≤ R.slots)
    (kk : ∀ r : Int64, post r → W p l e R s m args below meth c H locs cells slots Q (F0 m (pc + 3) ls (.long r :: rest))) : W p l e R s m args below meth c H locs cells slots Q (F0 m pc ls st) := by
  subst hst
  refine vp_callSl (W.runS S hM (va_cwS n S.2.2.2.2 hT hw rfl rfl hd hR) ⟨at0_blind, fun U hU hW => ⟨rfl, hU, hk.warm hW⟩⟩ rfl hn hl rfl ?_ hdg hf) kk
  have h0 : 2 * (F0 m pc ls (As.reverse ++ rest)).monitorRoom = 0 := rfl
  omega
end ROLC
end SKIT7
def mPostD (G : va_G) (F : Nat) (rv : UInt64) (w0 wX : va_W) : Option Value → Heap → Prop := fun v9 H9 => ∃ z : UInt64, v9 = some (.double z) ∧ ((F = 0 ∧ z = rv ∧ va_P G vwCl w0 H9) ∨ (¬ F = 0 ∧ va_P G vwCl wX H9))
/-! the digest -/
def mx (h : Int64) (v : Int32) : Int64 := 31 * h + v.toInt64
def mxL (g : Nat → Int32) (h : Int64) : Nat → Int64
  | 0 => h
  | n + 1 => mx (mxL g h n) (g n)
def dg1 (N : Nat → Nat) (Z : Nat → Nat → Int32) (L : Nat) (k : Nat) : Int64 := mxL (nmb N Z) (mx 3733 (nI L)) k
def dg2 (N : Nat → Nat) (Z : Nat → Nat → Int32) (L : Nat) : Nat → Int64
  | 0 => dg1 N Z L 8
  | v + 1 => mxL (ofV N Z v) (dg2 N Z L v) 5
def dg3 (N : Nat → Nat) (Z : Nat → Nat → Int32) (L : Nat) : Nat → Int64
  | 0 => dg2 N Z L (N 0)
  | u + 1 => mx (mxL (fun w => Z (5 + w) u) (dg3 N Z L u) 6) (fstD (uuB N Z u) 0 (1000 - 0))
def dg4 (N : Nat → Nat) (Z : Nat → Nat → Int32) (L : Nat) : Nat → Int64
  | 0 => dg3 N Z L (N 2)
  | t + 1 => mxL (fun w => Z (11 + w) t) (dg4 N Z L t) 5
def dig (N : Nat → Nat) (Z : Nat → Nat → Int32) (L sc : Nat) : Int64 := mx (mx (dg4 N Z L (N 3)) (smD (cAlD N Z) 0 (999 + 1 - 0))) (nI sc)
