/-! addFeature and put: what holds, and the reference -/
theorem apF_at (g : Nat → Int32) (x : Int32) (f : Nat) : ∀ n v, apF g x f n v = if v < n ∧ cnt1 x (nI v) = true then g v ||| ((1 : Int32) <<< (nI f &&& 31)) else g v
  | 0, v => by rw [apF, if_neg (fun q => absurd q.1 (Nat.not_lt_zero v))]
  | n + 1, v => by
    have ih := apF_at g x f n
    rw [apF]
    by_cases q : v = n
    · subst q
      split
      · rename_i c; rw [pk_us, ih v, if_neg (fun q => absurd q.1 (Nat.lt_irrefl v)), if_pos ⟨Nat.lt_succ_self v, c⟩]
      · rename_i c; rw [ih v, if_neg (fun q => absurd q.1 (Nat.lt_irrefl v)), if_neg (fun q => c q.2)]
    · have e : (v < n ∧ cnt1 x (nI v) = true) = (v < n + 1 ∧ cnt1 x (nI v) = true) := propext ⟨fun h => ⟨by omega, h.2⟩, fun h => ⟨by omega, h.2⟩⟩
      split
      · rw [pk_un q, ih v]; simp only [e]
      · rw [ih v]; simp only [e]
theorem wf_af {N : Nat → Nat} {Z : Nat → Nat → Int32} (hw : wf N Z) (x : Int32) (h10 : N 1 < 10) : wf (va_up N 1 (N 1 + 1)) (va_up Z 4 (apF (Z 4) x (N 1) (N 0))) := by
  obtain ⟨h1, h2, h3, h4, h5, h6, h7⟩ := hw
  refine ⟨⟨h1.1, ?_, h1.2.2.1, h1.2.2.2⟩, h2, h3, h4, fun t ht => ?_, fun v hv => ?_, fun u hu => ?_⟩
  · show N 1 + 1 ≤ 10; omega
  · obtain ⟨⟨k, hk, e⟩, b⟩ := h5 t ht
    exact ⟨⟨k, Nat.lt_succ_of_lt hk, e⟩, b⟩
  · obtain ⟨a0, a1⟩ := h6 v hv
    show 0 ≤ (apF (Z 4) x (N 1) (N 0) v).toInt ∧ (apF (Z 4) x (N 1) (N 0) v).toInt < 2 ^ (N 1 + 1)
    refine rng_bits (by omega) (fun i hi h32 => ?_)
    have hz := bt_lt (n := N 1) (by omega) a0 a1 (show N 1 ≤ i by omega)
    rw [apF_at]
    split
    · rw [b_or, hz, b_bit (by omega) h32, decide_eq_false (by omega)]; rfl
    · exact hz
  · obtain ⟨a0, a1⟩ := h7 u hu
    show 0 ≤ (Z 6 u).toInt ∧ (Z 6 u).toInt < 2 ^ (N 1 + 1)
    exact rng_bits (by omega) (fun i hi h32 => bt_lt (n := N 1) (by omega) a0 a1 (show N 1 ≤ i by omega))
theorem wf_pu {N : Nat → Nat} {Z : Nat → Nat → Int32} (hw : wf N Z) {f v : Nat} (hf : f < N 1) : wf N (va_up Z 4 (upd (Z 4) v (Z 4 v ^^^ ((1 : Int32) <<< (nI f &&& 31))))) := by
  obtain ⟨h1, h2, h3, h4, h5, h6, h7⟩ := hw
  refine ⟨h1, h2, h3, h4, h5, fun k hk => ?_, h7⟩
  show 0 ≤ (upd (Z 4) v (Z 4 v ^^^ ((1 : Int32) <<< (nI f &&& 31))) k).toInt ∧ (upd (Z 4) v (Z 4 v ^^^ ((1 : Int32) <<< (nI f &&& 31))) k).toInt < 2 ^ N 1
  by_cases q : k = v
  · subst q
    rw [pk_us]
    obtain ⟨a0, a1⟩ := h6 k hk
    exact rng_bits (by omega) (fun i hi h32 => by rw [b_xor, bt_lt (n := N 1) (by omega) a0 a1 hi, b_bit (by omega) h32, decide_eq_false (by omega)]; rfl)
  · rw [pk_un q]; exact h6 k hk
theorem b_not {x : Int32} {i : Nat} (hi : i < 32) : bt (x ^^^ (-1)) i = !bt x i := by rw [b_xor, b_m1 i hi]; cases bt x i <;> rfl
