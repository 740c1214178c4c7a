/-! the law's own numbers: saved states that don't matter; what a change does -/
/-- a system whose calendar is N, Z; what it has saved is left open (b0: where its cells are) -/
def wst (G : va_G) (T : Nat → ClassId) (q a : Nat → Nat) (N : Nat → Nat) (Z : Nat → Nat → Int32) (b0 : Nat → Nat → Nat) (tx : Nat → Int32) (L cu : Nat) (er le : Int32) (nb : Nat → Int32) (nc : Nat) (H : Heap) : Prop :=
  ∃ (b : Nat → Nat → Nat) (M : Nat → Nat → Nat) (Y : Nat → Nat → Nat → Int32) (sc : Nat), sc ≤ 4 ∧ ((wMain T q a N Z b M Y sc tx L cu er le nb nc).map Prod.fst).Perm ((wMain T q a N Z b0 M Y sc tx L cu er le nb nc).map Prod.fst) ∧ va_P G vwCl (wMain T q a N Z b M Y sc tx L cu er le nb nc) H
theorem psh_u {α : Type} {sc : Nat} (h : sc ≤ 4) (M : Nat → α) (x : α) : psh sc M x (svC sc - 1) = x := by
  unfold psh svC
  by_cases c : sc = 4
  · rw [if_pos c, if_pos c]; exact va_up_self _ _ _
  · rw [if_neg c, if_neg c]; exact va_up_self _ _ _
theorem svC_bd {sc : Nat} (h : sc ≤ 4) : 0 < svC sc ∧ svC sc ≤ 4 := by unfold svC; split <;> omega
section ST
variable {G : va_G} {T : Nat → ClassId} {q a : Nat → Nat} {N N1 : Nat → Nat} {Z Z1 : Nat → Nat → Int32} {b b0 : Nat → Nat → Nat} {M M0 : Nat → Nat → Nat} {Y Y0 : Nat → Nat → Nat → Int32} {sc sc0 : Nat} {tx : Nat → Int32} {L cu : Nat} {er le : Int32} {nb : Nat → Int32} {nc : Nat} {H : Heap}
/-- a call that was saved, and undone -/
theorem un_st (hsc : sc ≤ 4) (hpm : ((wMain T q a N Z b M Y sc tx L cu er le nb nc).map Prod.fst).Perm ((wMain T q a N Z b0 M0 Y0 sc0 tx L cu er le nb nc).map Prod.fst))
    (hP : va_P G vwCl (wMain T q a (psh sc M N (svC sc - 1)) (psh sc Y Z (svC sc - 1)) (svB sc b) (psh sc M N) (psh sc Y Z) (svC sc - 1) tx L cu er le nb nc) H) :
    ∃ (b : Nat → Nat → Nat) (M : Nat → Nat → Nat) (Y : Nat → Nat → Nat → Int32) (sc : Nat), sc ≤ 4 ∧ ((wMain T q a N Z b M Y sc tx L cu er le nb nc).map Prod.fst).Perm ((wMain T q a N Z b0 M0 Y0 sc0 tx L cu er le nb nc).map Prod.fst) ∧ va_P G vwCl (wMain T q a N Z b M Y sc tx L cu er le nb nc) H := by
  rw [psh_u hsc, psh_u hsc] at hP
  have h := svC_bd hsc
  exact ⟨svB sc b, psh sc M N, psh sc Y Z, svC sc - 1, by omega, sv_addr.trans hpm, hP⟩
theorem wst_of (hsc : sc ≤ 4) (hpm : ((wMain T q a N Z b M Y sc tx L cu er le nb nc).map Prod.fst).Perm ((wMain T q a N Z b0 M0 Y0 sc0 tx L cu er le nb nc).map Prod.fst)) (hP : va_P G vwCl (wMain T q a N Z b M Y sc tx L cu er le nb nc) H) : wst G T q a N Z b0 tx L cu er le nb nc H :=
  ⟨b, M, Y, sc, hsc, hpm, hP⟩
theorem wst_sv (hsc : sc ≤ 4) (hP : va_P G vwCl (wMain T q a N1 Z1 (svB sc b) (psh sc M N) (psh sc Y Z) (svC sc) tx L cu er le nb nc) H) : wst G T q a N1 Z1 b tx L cu er le nb nc H :=
  ⟨svB sc b, _, _, svC sc, (svC_bd hsc).2, sv_addr, hP⟩
theorem wst_id (hsc : sc ≤ 4) (hP : va_P G vwCl (wMain T q a N Z b M Y sc tx L cu er le nb nc) H) : wst G T q a N Z b tx L cu er le nb nc H := ⟨b, M, Y, sc, hsc, List.Perm.refl _, hP⟩
end ST
def chU (N : Nat → Nat) (v : Int32) : Nat := if N 2 = 0 then 0 else lowN (v >>> (5 &&& 31)) (N 2)
def chA (N : Nat → Nat) (v : Int32) : Nat := if N 0 = 0 then 0 else lowN (v >>> (9 &&& 31)) (N 0)
def chF (N : Nat → Nat) (v : Int32) : Nat := if N 1 = 0 then 0 else lowN (v >>> (13 &&& 31)) (N 1)
theorem chU_lt {N : Nat → Nat} {v : Int32} (h : 0 < N 2) : chU N v < N 2 := by unfold chU; rw [if_neg (by omega)]; exact lowN_lt _ h
theorem chA_lt {N : Nat → Nat} {v : Int32} (h : 0 < N 0) : chA N v < N 0 := by unfold chA; rw [if_neg (by omega)]; exact lowN_lt _ h
theorem chF_lt {N : Nat → Nat} {v : Int32} (h : 0 < N 1) : chF N v < N 1 := by unfold chF; rw [if_neg (by omega)]; exact lowN_lt _ h
abbrev chT : Type := Int32 × (Nat → Nat) × (Nat → Nat → Int32)
abbrev chP (Z : Nat → Nat → Int32) (f v : Nat) : Nat → Nat → Int32 := va_up Z 4 (upd (Z 4) v (Z 4 v ^^^ ((1 : Int32) <<< (nI f &&& 31))))
def ch0 (N : Nat → Nat) (Z : Nat → Nat → Int32) (w : Int32) : chT := if N 0 < 5 then (nI (N 0), va_up N 0 (N 0 + 1), vAdd N Z (nI (lowN w 200)) (nI (lowN w 200 + 1 + lowN (w >>> (8 &&& 31)) (1000 - lowN w 200)))) else (plC Z (N 2), N, Z)
def ch1 (N : Nat → Nat) (Z : Nat → Nat → Int32) (w : Int32) : chT := if 0 < N 0 ∧ N 1 < 6 then (nI (N 1), va_up N 1 (N 1 + 1), va_up Z 4 (apF (Z 4) (nI (lowN w (2 ^ N 0))) (N 1) (N 0))) else if N 0 = 0 then (nI (N 0), va_up N 0 (N 0 + 1), vAdd N Z (nI 0) (nI 700)) else (0, N, Z)
def ch2 (N : Nat → Nat) (Z : Nat → Nat → Int32) (v : Int32) : chT := if 0 < N 0 ∧ 0 < N 1 then (allW (chP Z (chF N v) (chA N v)) (nI (chF N v)) (N 0), N, chP Z (chF N v) (chA N v)) else (0, N, Z)
def ch3 (N : Nat → Nat) (Z : Nat → Nat → Int32) (v w : Int32) : chT := if 0 < N 0 ∧ N 2 < 5 then (nI (N 2), va_up N 2 (N 2 + 1), uAdd N Z (nI (chA N v)) (nI (lowN (w >>> (3 &&& 31)) (2 ^ N 1)))) else (0, N, Z)
def ch4 (N : Nat → Nat) (Z : Nat → Nat → Int32) (v w : Int32) : chT := if 0 < N 2 then (Z 8 (chU N v), N, uPl Z (chU N v) (nI (chA N v)) (nI (lowN w 1000))) else (0, N, Z)
def ch6 (N : Nat → Nat) (Z : Nat → Nat → Int32) (v : Int32) : chT := if 0 < N 2 ∧ 0 ≤ Z 7 (chU N v) then (Z 8 (chU N v), N, uPl Z (chU N v) (-1) (-1)) else (0, N, Z)
def ch7 (N : Nat → Nat) (Z : Nat → Nat → Int32) (v w : Int32) : chT := if 0 < N 2 ∧ 0 ≤ Z 7 (chU N v) ∧ Z 8 (chU N v) < 900 then (uSl Z (chU N v) (nI (1 + lowN w 99)) 8 (chU N v), N, uSl Z (chU N v) (nI (1 + lowN w 99))) else (0, N, Z)
def ch8 (N : Nat → Nat) (Z : Nat → Nat → Int32) (v w : Int32) : chT := if 0 < N 0 ∧ Z 2 (chA N v) < 900 then (vExt Z (chA N v) (nI (1 + lowN w 99)) 2 (chA N v), N, vExt Z (chA N v) (nI (1 + lowN w 99))) else (0, N, Z)
def ch9 (N : Nat → Nat) (Z : Nat → Nat → Int32) (v w : Int32) : chT := if 0 < N 0 ∧ 0 < N 1 ∧ N 3 < 6 then (nI (N 3), va_up N 3 (N 3 + 1), sAdd N Z (nI (chF N v)) (nI (chA N v)) (nI (lowN w 600)) (nI (lowN w 600 + lowN (w >>> (10 &&& 31)) (1000 - lowN w 600))) (nI (1 + lowN (w >>> (4 &&& 31)) 99))) else (0, N, Z)
def chB (N : Nat → Nat) (Z : Nat → Nat → Int32) (w : Int32) : chT := if 0 < N 3 then (nI (N 3 - 1), va_up N 3 (N 3 - 1), sDel Z (lowN w (N 3)) (N 3 - 1)) else (0, N, Z)
def chC (N : Nat → Nat) (Z : Nat → Nat → Int32) (v w : Int32) : Nat → chT
  | 0 => ch0 N Z w
  | 1 => ch1 N Z w
  | 2 => ch2 N Z v
  | 3 => ch3 N Z v w
  | 4 => ch4 N Z v w
  | 5 => ch4 N Z v w
  | 6 => ch6 N Z v
  | 7 => ch7 N Z v w
  | 8 => ch8 N Z v w
  | 9 => ch9 N Z v w
  | 10 => ch9 N Z v w
  | _ => chB N Z w
/-- what change(v, w) answers and makes of a calendar -/
def chg (N : Nat → Nat) (Z : Nat → Nat → Int32) (v w : Int32) : chT := chC N Z v w (lowN v 12)
theorem pow_nI {k n : Nat} (hn : n ≤ 10) (h : k < 2 ^ n) : 0 ≤ (nI k).toInt ∧ (nI k).toInt < 2 ^ n := rng_nI h (by omega)
theorem pl_u {N : Nat → Nat} {Z : Nat → Nat → Int32} (hw : wf N Z) {u : Nat} (hu : u < N 2) (h : 0 ≤ Z 7 u) : pled Z u = true ∧ 0 ≤ (Z 8 u).toInt ∧ (Z 8 u).toInt ≤ 999 := by
  rcases hw.2.2.2.1 u hu with ⟨e, -⟩ | ⟨k, hk, e, h1, h2⟩
  · rw [e] at h; exact absurd h (by decide)
  · have hb := hw.1
    exact ⟨by unfold pled; rw [e]; exact decide_eq_true (nIm1 (by omega)), h1, h2⟩
theorem z900 : (900 : Int32).toInt = 900 := rfl
theorem z999 : (999 : Int32).toInt = 999 := rfl
theorem z1000 : (1000 : Int32).toInt = 1000 := rfl
theorem sl_rng {N : Nat → Nat} {Z : Nat → Nat → Int32} (hw : wf N Z) {u t : Nat} (hu : u < N 2) (h : 0 ≤ Z 7 u) (h9 : Z 8 u < 900) (ht : t ≤ 99) : Z 8 u + nI t ≤ 999 := by
  obtain ⟨-, h1, h2⟩ := pl_u hw hu h
  rw [i3lt, z900] at h9
  rw [i3le, i3add h1 (by omega) (by omega), z999]
  omega
theorem ex_rng {N : Nat → Nat} {Z : Nat → Nat → Int32} (hw : wf N Z) {v t : Nat} (hv : v < N 0) (h9 : Z 2 v < 900) (ht : t ≤ 99) : Z 2 v + nI t ≤ 1000 := by
  obtain ⟨h1, h2, h3⟩ := hw.2.1 v hv
  rw [i3lt, z900] at h9
  rw [i3le, i3add (by omega) (by omega) (by omega), z1000]
  omega
theorem u_v {N : Nat → Nat} {Z : Nat → Nat → Int32} (hw : wf N Z) (h : 0 < N 2) : 0 < N 0 := by
  obtain ⟨k, hk, -⟩ := hw.2.2.1 0 h
  omega
theorem chC_wf {N : Nat → Nat} {Z : Nat → Nat → Int32} (hw : wf N Z) (v w : Int32) (k : Nat) : wf (chC N Z v w k).2.1 (chC N Z v w k).2.2 := by
  have hb := hw.1
  have hR := lowN_lt w (show 0 < 200 by decide)
  have hX := lowN_lt w (show 0 < 600 by decide)
  have hY := lowN_lt w (show 0 < 99 by decide)
  have hD := lowN_lt w (show 0 < 1000 by decide)
  have h0 : wf (ch0 N Z w).2.1 (ch0 N Z w).2.2 := by
    unfold ch0
    split
    · have hE := lowN_lt (w >>> (8 &&& 31)) (show 0 < 1000 - lowN w 200 by omega)
      refine wf_av hw (by omega) ?_
      rw [nI_toInt (by omega), nI_toInt (by omega)]; omega
    · exact hw
  have h1 : wf (ch1 N Z w).2.1 (ch1 N Z w).2.2 := by
    unfold ch1
    split
    · exact wf_af hw _ (by omega)
    · split
      · refine wf_av hw (by omega) ?_
        rw [nI_toInt (by omega), nI_toInt (by omega)]; omega
      · exact hw
  have h2 : wf (ch2 N Z v).2.1 (ch2 N Z v).2.2 := by
    unfold ch2
    split
    · rename_i c; exact wf_pu hw (chF_lt c.2)
    · exact hw
  have h3 : wf (ch3 N Z v w).2.1 (ch3 N Z v w).2.2 := by
    unfold ch3
    split
    · rename_i c
      exact wf_au hw (by omega) ⟨_, chA_lt c.1, rfl⟩ (pow_nI (by omega) (lowN_lt _ (Nat.pow_pos (by decide))))
    · exact hw
  have h4 : wf (ch4 N Z v w).2.1 (ch4 N Z v w).2.2 := by
    unfold ch4
    split
    · rename_i c
      refine wf_pl hw (Or.inr ⟨_, chA_lt (u_v hw c), rfl, ?_⟩)
      rw [nI_toInt (by omega)]; omega
    · exact hw
  have h6 : wf (ch6 N Z v).2.1 (ch6 N Z v).2.2 := by
    unfold ch6
    split
    · exact wf_pl hw (Or.inl ⟨rfl, rfl⟩)
    · exact hw
  have h7 : wf (ch7 N Z v w).2.1 (ch7 N Z v w).2.2 := by
    unfold ch7
    split
    · rename_i c
      have hu := chU_lt (v := v) c.1
      exact wf_sl hw hu (by omega) (pl_u hw hu c.2.1).1 (sl_rng hw hu c.2.1 c.2.2 (by omega))
    · exact hw
  have h8 : wf (ch8 N Z v w).2.1 (ch8 N Z v w).2.2 := by
    unfold ch8
    split
    · rename_i c
      exact wf_ex hw (by omega) (ex_rng hw (chA_lt c.1) c.2 (by omega))
    · exact hw
  have h9 : wf (ch9 N Z v w).2.1 (ch9 N Z v w).2.2 := by
    unfold ch9
    split
    · rename_i c
      have hW := lowN_lt (w >>> (10 &&& 31)) (show 0 < 1000 - lowN w 600 by omega)
      have hQ := lowN_lt (w >>> (4 &&& 31)) (show 0 < 99 by decide)
      refine wf_sh hw (by omega) ⟨⟨_, chF_lt c.2.1, rfl⟩, ⟨_, chA_lt c.1, rfl⟩, ?_⟩
      rw [nI_toInt (by omega), nI_toInt (by omega), nI_toInt (by omega)]; omega
    · exact hw
  have hB : wf (chB N Z w).2.1 (chB N Z w).2.2 := by
    unfold chB
    split
    · rename_i c; exact wf_dr hw (lowN_lt _ c)
    · exact hw
  match k with
  | 0 => exact h0
  | 1 => exact h1
  | 2 => exact h2
  | 3 => exact h3
  | 4 => exact h4
  | 5 => exact h4
  | 6 => exact h6
  | 7 => exact h7
  | 8 => exact h8
  | 9 => exact h9
  | 10 => exact h9
  | k + 11 => exact hB
theorem chg_wf {N : Nat → Nat} {Z : Nat → Nat → Int32} (hw : wf N Z) (v w : Int32) : wf (chg N Z v w).2.1 (chg N Z v w).2.2 := chC_wf hw v w _
