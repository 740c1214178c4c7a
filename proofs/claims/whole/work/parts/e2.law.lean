/-! the law: its world, what each round keeps, its own rows -/
section LAWK
variable {l : Launch} {G : va_G} {T : Nat → ClassId} {sa kk vv : Nat → Nat}
abbrev wL (T : Nat → ClassId) (q a : Nat → Nat) (N : Nat → Nat) (Z : Nat → Nat → Int32) (b : Nat → Nat → Nat) (M : Nat → Nat → Nat) (Y : Nat → Nat → Nat → Int32) (sc : Nat) (tx : Nat → Int32) (L : Nat) (cu : Nat) (er le : Int32) (nb : Nat → Int32) (nc : Nat)
    (r : Nat → Nat) (mm pp : Nat → Int32) (th ac ea le2 v1 v2 v3 v4 v5 : Int32) (o d : Nat) (fo : Int64) (fd : UInt64) : va_W :=
  (wMain T q a N Z b M Y sc tx L cu er le nb nc ++ [(o, eL T fo)]) ++ (wMod T r mm pp tx th sc L ac ea le2 v1 v2 v3 v4 v5 ++ [(d, eD T fd)])
/-- what a round of the law keeps -/
def inv (G : va_G) (T : Nat → ClassId) (q r : Nat → Nat) (o d : Nat) (A : Nat → Prop) (H : Heap) : Prop :=
  ∃ (a N : Nat → Nat) (Z : Nat → Nat → Int32) (b M : Nat → Nat → Nat) (Y : Nat → Nat → Nat → Int32) (sc : Nat) (tx : Nat → Int32) (L cu : Nat) (er le : Int32) (nb : Nat → Int32) (nc : Nat) (mm pp : Nat → Int32) (th ac ea le2 v1 v2 v3 v4 v5 : Int32) (fo : Int64) (fd : UInt64),
    tie N Z mm M Y pp sc ∧ txo tx L ∧ va_P G vwCl (wL T q a N Z b M Y sc tx L cu er le nb nc r mm pp th ac ea le2 v1 v2 v3 v4 v5 o d fo fd) H ∧ va_D A (wL T q a N Z b M Y sc tx L cu er le nb nc r mm pp th ac ea le2 v1 v2 v3 v4 v5 o d fo fd)
abbrev lA (s : State) : Nat → Prop := fun q => s.heap.size ≤ q
/-- what stands fast all along the law -/
def LK (G : va_G) (T : Nat → ClassId) (sa kk vv : Nat → Nat) (p : Program) (s : State) (m : MethodId) (c : Code) (b LL : Nat) (xs : Nat → Int32) : Prop :=
  CallFix p m c code 9 s ([.ref b] : List Value).toArray wsL_law RL ∧ kx G T s ∧ thr sa (lA s) s s.heap ∧ ncs s ∧ sts kk vv (lA s) s.heap s ∧ va_X b LL xs s s.heap ∧ b < s.heap.size ∧ LL ≤ 3072
section LROWS
variable {p : Program} {e : Env} {R : Room} {s : State} {m : MethodId} {below : List Frame} {meth : Method} {c : Code} {H : Heap} {locs : List Loc} {cells slots : Nat} {Q : State → Prop}
variable {pc : Nat} {ls : Array Slot} {rest : List Value} {b LL : Nat} {xs : Nat → Int32}
/-- a cell of the script -/
theorem sld (K : LK G T sa kk vv p s m c b LL xs) (hS : va_S (lA s) s.heap H locs) (k : Nat) {i : Int32} (hi : i = nI k) (hk : k < LL) (hdg : decode code pc = .ok (.iaload, 1))
    (kk9 : W p l e R s m ([.ref b] : List Value).toArray below meth c H locs cells slots Q (F0 m (pc + 1) ls (.int (xs k) :: rest))) : W p l e R s m ([.ref b] : List Value).toArray below meth c H locs cells slots Q (F0 m pc ls (.int i :: .ref b :: rest)) := by
  subst hi
  have h9 := K.2.2.2.2.2.2.2
  refine va_sld K.1.1 K.1.2.1 K.2.2.2.2.2.1 K.2.2.2.2.2.2.1 (show ¬ lA s b from Nat.not_le.mpr K.2.2.2.2.2.2.1) hS (vp_in_nI hk (by omega)) hdg ?_
  rw [nI_clamp (by omega)]
  exact kk9
end LROWS
theorem addr_snoc {w w' : va_W} {o : Nat} {e e' : va_E} (h : (w'.map Prod.fst).Perm (w.map Prod.fst)) : ((w' ++ [(o, e')]).map Prod.fst).Perm ((w ++ [(o, e)]).map Prod.fst) := by
  rw [List.map_append, List.map_append]; exact List.Perm.append_right _ h
theorem lg_self (x : Int64) : lg_cmp x x = 0 := by
  unfold lg_cmp
  rw [if_neg (Int64.lt_irrefl), if_pos rfl]
/-- the rows of out, the one in the place of the other -/
theorem sw_perm {M o R d : va_W} : ((M ++ o) ++ (R ++ d)).Perm ((M ++ d) ++ (R ++ o)) := by
  rw [List.append_assoc, List.append_assoc]
  refine List.Perm.append_left M ?_
  exact (List.perm_append_comm_assoc o R d).trans ((List.Perm.append_left R List.perm_append_comm).trans (List.perm_append_comm_assoc R d o))
theorem P_as {H : Heap} {w x y : va_W} (hP : va_P G vwCl ((w ++ x) ++ y) H) : va_P G vwCl (w ++ (x ++ y)) H := by rw [← List.append_assoc]; exact hP
theorem D_as {A : Nat → Prop} {w x y : va_W} (hD : va_D A ((w ++ x) ++ y)) : va_D A (w ++ (x ++ y)) := by rw [← List.append_assoc]; exact hD
theorem P_sa {H : Heap} {w x y : va_W} (hP : va_P G vwCl (w ++ (x ++ y)) H) : va_P G vwCl ((w ++ x) ++ y) H := by rw [List.append_assoc]; exact hP
theorem D_sa {A : Nat → Prop} {w x y : va_W} (hD : va_D A (w ++ (x ++ y))) : va_D A ((w ++ x) ++ y) := by rw [List.append_assoc]; exact hD
/-- a method that only reads and answers a long, called by its object -/
theorem rol_V {p : Program} {e : Env} {R : Room} {s : State} {m : MethodId} {args : Array Value} {below : List Frame} {meth : Method} {c : Code} {H : Heap} {locs : List Loc} {cells slots : Nat} {Q : State → Prop}
    {y : MethodName} {bytes cc : ByteArray} {maxL nL n index fr lc pc : Nat} {ret : Option FieldType} {ws ws' : List Cond} {post : Int64 → Prop} {Ts : List Cond} {own C : String} {b : Addr} {As rest st : List Value} {ls : Array Slot}
    (S : CallFix p m c cc nL s args Ts own) (hk : kx G T s) (hM : rol l y ws fr lc (.ref b :: As) G T H post)
    (hT : GoodIn Ts (wsV own index C y ws)) (hw : ws = Cond.code y bytes maxL ret :: ws')
    (hd : y.cls = C ∧ y.cls ≠ "java/lang/invoke/MethodHandle" ∧ y.cls ≠ "java/lang/invoke/VarHandle" ∧ (parseMethodDescriptor y.desc).map (fun d => d.parameters.length) = some n) (hR : fr + 1 ≤ R.frames ∧ 8 + (maxL + 11) + lc ≤ R.locals)
    {w : va_W} (hP : va_P G vwCl w H) (q0 : Nat) {ci : Nat} {fs : List Value} {q : vw_C} (hc : vwCl[ci]? = some q) (he : w[q0]? = some (b, .inr (ci, fs))) (hC : q.1 = C)
    (hn : As.length = n) (hl : ls.size = nL) (hst : st = As.reverse ++ .ref b :: rest) (hcat : (rest.map fun v => v.category).sum ≤ 8) (hdg : decode cc pc = .ok (.invokevirtual index, 3)) (hf : cells ≤ R.cells ∧ slots ≤ R.slots)
    (kk : ∀ r : Int64, post r → W p l e R s m args below meth c H locs cells slots Q (F0 m (pc + 3) ls (.long r :: rest))) : W p l e R s m args below meth c H locs cells slots Q (F0 m pc ls st) := by
  subst hst
  refine vp_callSl (W.runV S hM (cwV n S.2.2.2.2 hT hw rfl rfl hd hR) ⟨at0_blind, hC ▸ va_recv hk.1 hP hc he, fun U hU hW => ⟨rfl, hU, hk.warm hW⟩⟩ rfl hn hl rfl ?_ hdg hf) kk
  have h0 : 2 * (F0 m pc ls (As.reverse ++ .ref b :: rest)).monitorRoom = 0 := rfl
  omega
end LAWK
theorem le_th (i n : Int32) : thF i n ≤ 3 := by unfold thF; split <;> decide
theorem le_wi (v a b : Int32) : wiF v a b ≤ 3 := by unfold wiF; split <;> decide
theorem le_po (z : Int32) : poF z ≤ 3 := by unfold poF; split <;> decide
theorem le_rf (z : Int32) : rfF z ≤ 3 := by
  unfold rfF
  split
  · decide
  · split
    · decide
    · split <;> decide
theorem le_sq {a b : Nat} (ha : a ≤ 3) (hb : b ≤ 3) : sq a b ≤ 3 := by unfold sq; split <;> assumption
theorem nz_I {F : Nat} (h3 : F ≤ 3) (h0 : ¬ F = 0) : ¬ cmI F = 0 := by
  rcases (show F = 1 ∨ F = 2 ∨ F = 3 by omega) with rfl | rfl | rfl <;> decide
theorem nz_A {F : Nat} (h3 : F ≤ 3) (h0 : ¬ F = 0) (h1 : ¬ F = 1) : ¬ cmA F = 0 := by
  rcases (show F = 2 ∨ F = 3 by omega) with rfl | rfl <;> decide
theorem nz_B {F : Nat} (h3 : F ≤ 3) (h0 : ¬ F = 0) : ¬ cmB F = 0 := by
  rcases (show F = 1 ∨ F = 2 ∨ F = 3 by omega) with rfl | rfl | rfl <;> decide
theorem nz_S {F : Nat} (h3 : F ≤ 3) (h0 : ¬ F = 0) (h1 : ¬ F = 1) (h2 : ¬ F = 2) : ¬ cmS F = 0 := by
  obtain rfl : F = 3 := by omega
  decide
