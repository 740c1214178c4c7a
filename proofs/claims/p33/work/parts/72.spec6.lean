/-! the reference's searches, as the system has them -/
theorem hsv_sv {N : Nat → Nat} {Z : Nat → Nat → Int32} (hw : wf N Z) (u : Nat) {f : Nat} (hf : f < N 1) (d : Int32) : hsv N Z u (nI f) d = if cnt1 (Z 6 u) (nI f) = true then sv4 N Z (onN Z u d) f d else 5 := by
  have hb := hw.1
  have e : (cnt1 (actS Z (nI (onN Z u d)) d (N 3)) (nI f) = true) ↔ 0 < lowP Z (nI f) (nI (onN Z u d)) d (N 3) := by
    rw [cnt_bt _ (show f < 32 by omega), i3lt]
    exact (actS_bt hw (nI (onN Z u d)) d (N 3) (Nat.le_refl _) f (by omega)).trans (lowP_pos hw (nI f) (nI (onN Z u d)) d (N 3) (Nat.le_refl _)).2.symm
  unfold hsv sv4
  simp only [e]
theorem sfD_gt (p : Nat → Bool) (f n : Nat) (h : p (f + n) = true) : ∀ m, n < m → f + n < sfD p f m
  | 0, hm => absurd hm (Nat.not_lt_zero n)
  | m + 1, hm => by
    rw [sfD]
    split
    · omega
    · rename_i q
      rcases Nat.lt_or_ge n m with g | g
      · exact sfD_gt p f n h m g
      · obtain rfl : n = m := by omega
        exact absurd h q
def ltE (p : Nat → Bool) (f : Nat) : Int32 := if fstD p f (1000 - f) = -1 then 999 else fstD p f (1000 - f)
theorem ltE_eq {p : Nat → Bool} {f k : Nat} (hk : k ≤ 999) (h1 : fstD p f (1000 - f) = fstD p k (1000 - k)) (h2 : k = 999 ∨ p k = true) : ltE p f = nI k := by
  unfold ltE
  rw [h1]
  by_cases q : p k = true
  · rw [fst_hit q (by omega), if_neg (nIm1 (by omega))]
  · obtain rfl : k = 999 := by rcases h2 with h | h; exact h; exact absurd h q
    rw [show 1000 - 999 = 0 + 1 from rfl, fstD, if_neg q, fstD, if_pos rfl]; rfl
theorem ltP_ok {N : Nat → Nat} {Z : Nat → Nat → Int32} {u v f k : Nat} (hk : k ≤ 999) (hE : ltE (unB N Z (Z 6 u) (fvN Z u)) f = nI k) (h3 : sfD (unB N Z (Z 6 u) v) f (1000 - f) ≤ k) : ltP N Z u v f = nI k := by
  unfold ltP
  unfold ltE at hE
  rw [hE, if_pos ((nI_leI (by omega) (by omega)).mpr h3)]
theorem ltP_no {N : Nat → Nat} {Z : Nat → Nat → Int32} {u v f k i : Nat} (hk : k ≤ 999) (hE : ltE (unB N Z (Z 6 u) (fvN Z u)) f = nI k) (hfi : f ≤ i) (hki : k ≤ i) (hi : i < 1000) (h : unB N Z (Z 6 u) v i = true) : ltP N Z u v f = -1 := by
  have h4 := sfD_gt (unB N Z (Z 6 u) v) f (i - f) (by rw [show f + (i - f) = i by omega]; exact h) (1000 - f) (by omega)
  have h5 := (sfD_le (unB N Z (Z 6 u) v) f (1000 - f)).2
  unfold ltP
  unfold ltE at hE
  rw [hE, if_neg (fun q => absurd ((nI_leI (by omega) (by omega)).mp q) (by omega))]
theorem i3m1 {x : Int32} (h0 : 1 ≤ x.toInt) (h1 : x.toInt ≤ 1000) : (x - 1).toInt = x.toInt - 1 := by
  obtain ⟨k, hk, rfl⟩ := nI_of (x := x) (by rw [i3lt]; have z0 : Int32.toInt 0 = 0 := rfl; omega)
  rw [nI_toInt hk] at h0 h1
  obtain ⟨j, rfl⟩ : ∃ j, k = j + 1 := ⟨k - 1, by omega⟩
  rw [nI_pred, nI_toInt (by omega), nI_toInt (by omega)]
  omega
theorem aliv_W {N : Nat → Nat} {Z : Nat → Nat → Int32} (hw : wf N Z) {v : Nat} (hv : v < N 0) (d : Int32) : isW d (Z 1 v) (Z 2 v - 1) = aliv Z v d := by
  obtain ⟨h1, h2, h3⟩ := hw.2.1 v hv
  unfold isW aliv
  congr 1
  refine decide_eq_decide.mpr ?_
  rw [i3le, i3lt, i3m1 (by omega) h3]
  omega
/-- does someone who is on version v then want feature f, and has it not -/
def ndB (N : Nat → Nat) (Z : Nat → Nat → Int32) (d : Int32) (v f : Nat) : Nat → Bool
  | 0 => false
  | u + 1 => ndB N Z d v f u || (cnt1 (Z 6 u) (nI f) && (decide (onN Z u d = v) && decide (sv4 N Z v f d = 4)))
def nps (N : Nat → Nat) (Z : Nat → Nat → Int32) (d : Int32) : Nat → Int32
  | 0 => 0
  | k + 1 => if ndB N Z d (k / N 1) (k % N 1) (N 2) = true then nps N Z d k + 1 else nps N Z d k
theorem uns_bt {N : Nat → Nat} {Z : Nat → Nat → Int32} (hw : wf N Z) (x : Int32) {v : Nat} (d : Int32) (ha : aliv Z v d = true) {f : Nat} (hf : f < N 1) : bt (uns N Z x v d) f = (bt x f && decide (sv4 N Z v f d = 4)) := by
  have hb := hw.1
  have c1 : ¬ d < Z 1 v := by
    simp only [aliv, Bool.and_eq_true, decide_eq_true_eq] at ha
    exact Int32.not_lt.mpr ha.1
  have c2 : ¬ Z 2 v ≤ d := by
    simp only [aliv, Bool.and_eq_true, decide_eq_true_eq] at ha
    exact Int32.not_le.mpr ha.2
  have hA := actS_bt hw (nI v) d (N 3) (Nat.le_refl _) f (by omega)
  have hl := lowP_pos hw (nI f) (nI v) d (N 3) (Nat.le_refl _)
  have z0 : Int32.toInt 0 = 0 := rfl
  unfold uns sv4
  rw [if_pos ha, if_neg c1, if_neg c2, b_and, b_xor, b_or, b_m1 f (by omega), ← cnt_bt (Z 4 v) (show f < 32 by omega)]
  cases c3 : cnt1 (Z 4 v) (nI f)
  · rw [if_neg (by decide)]
    by_cases c4 : 0 < lowP Z (nI f) (nI v) d (N 3)
    · rw [if_pos c4]
      have : bt (actS Z (nI v) d (N 3)) f = true := hA.mpr (hl.2.mp (by rw [i3lt] at c4; omega))
      rw [this, decide_eq_false (show ¬ (1 : Int32) = 4 by decide)]; rfl
    · rw [if_neg c4]
      have : bt (actS Z (nI v) d (N 3)) f = false := Bool.eq_false_iff.mpr (fun q => c4 (by rw [i3lt]; have := hl.2.mpr (hA.mp q); omega))
      rw [this, decide_eq_true rfl]; rfl
  · rw [if_pos rfl, decide_eq_false (show ¬ (0 : Int32) = 4 by decide)]
    cases bt x f <;> rfl
theorem lak_bt {N : Nat → Nat} {Z : Nat → Nat → Int32} (hw : wf N Z) {v : Nat} (d : Int32) (ha : aliv Z v d = true) {f : Nat} (hf : f < N 1) : ∀ n, bt (lak N Z v d n) f = ndB N Z d v f n
  | 0 => b_0 f
  | n + 1 => by
    have hb := hw.1
    rw [lak, ndB, ← lak_bt hw d ha hf n]
    by_cases q : onN Z n d = v
    · rw [if_pos q, b_or, decide_eq_true q, Bool.true_and, cnt_bt _ (show f < 32 by omega)]
      unfold unU
      rw [q, uns_bt hw _ d ha hf]
    · rw [if_neg q, decide_eq_false q, Bool.false_and, Bool.and_false, Bool.or_false]
theorem lak_big {N : Nat → Nat} {Z : Nat → Nat → Int32} (hw : wf N Z) (v : Nat) (d : Int32) {i : Nat} (hi : N 1 ≤ i) : ∀ n, n ≤ N 2 → bt (lak N Z v d n) i = false
  | 0, _ => b_0 i
  | n + 1, hn => by
    have hb := hw.1
    have ih := lak_big hw v d hi n (by omega)
    obtain ⟨h0, h1⟩ := hw.2.2.2.2.2.2 n (by omega)
    have hx := bt_lt (by omega) h0 h1 hi
    rw [lak]
    split
    · rw [b_or, ih, Bool.false_or]
      unfold unU uns
      split
      · rw [b_and, hx]; rfl
      · exact hx
    · exact ih
theorem bcM_st (x : Int32) {k : Nat} (hk : k < 32) : bcM x (k + 1) = if bt x k = true then bcM x k + 1 else bcM x k := by
  have h0 : bt (x >>> (nI k &&& 31)) 0 = bt x k := by rw [b_sshr k hk x (by omega), if_pos (by omega)]; rfl
  rw [bcM]
  rcases and1 (x >>> (nI k &&& 31)) with ⟨h1, h2⟩ | ⟨h1, h2⟩
  · rw [h1, ← h0, h2, if_neg (by decide), Int32.add_zero]
  · rw [h1, ← h0, h2, if_pos rfl]
theorem bcM_up (x : Int32) (n : Nat) (h : ∀ i, n ≤ i → bt x i = false) : ∀ k, n + k ≤ 32 → bcM x (n + k) = bcM x n
  | 0, _ => rfl
  | k + 1, hk => by rw [← Nat.add_assoc, bcM_st x (by omega), h _ (by omega), if_neg (by decide), bcM_up x n h k (by omega)]
theorem nps_prs {N : Nat → Nat} {Z : Nat → Nat → Int32} (hw : wf N Z) (d : Int32) : ∀ v, v ≤ N 0 → nps N Z d (v * N 1) = prs N Z d v
  | 0, _ => by rw [Nat.zero_mul]; rfl
  | v + 1, hv => by
    have hb := hw.1
    have ih := nps_prs hw d v (by omega)
    have key : ∀ j, j ≤ N 1 → nps N Z d (v * N 1 + j) = if aliv Z v d = true then prs N Z d v + bcM (lak N Z v d (N 2)) j else prs N Z d v := by
      intro j
      induction j with
      | zero =>
        intro _
        rw [Nat.add_zero, ih]
        split
        · rw [bcM, Int32.add_zero]
        · rfl
      | succ j ihj =>
        intro hj
        have e1 : (v * N 1 + j) / N 1 = v := by rw [Nat.mul_comm, Nat.mul_add_div (by omega), Nat.div_eq_of_lt (by omega), Nat.add_zero]
        have e2 : (v * N 1 + j) % N 1 = j := by rw [Nat.mul_comm, Nat.mul_add_mod, Nat.mod_eq_of_lt (by omega)]
        rw [← Nat.add_assoc, nps, e1, e2, ihj (by omega)]
        by_cases ha : aliv Z v d = true
        · rw [if_pos ha, if_pos ha, ← lak_bt hw d ha (by omega), bcM_st _ (show j < 32 by omega)]
          split
          · rw [Int32.add_assoc]
          · rfl
        · rw [if_neg ha, if_neg ha, if_neg]
          have : ∀ n, ndB N Z d v j n = false := by
            intro n
            induction n with
            | zero => rfl
            | succ n ihn =>
              rw [ndB, ihn, Bool.false_or]
              have : ¬ sv4 N Z v j d = 4 := by
                unfold sv4
                by_cases c1 : d < Z 1 v
                · rw [if_pos c1]; decide
                · rw [if_neg c1]
                  by_cases c2 : Z 2 v ≤ d
                  · rw [if_pos c2]; decide
                  · exact absurd (by simp only [aliv, Bool.and_eq_true, decide_eq_true_eq]; exact ⟨Int32.not_lt.mp c1, Int32.not_le.mp c2⟩) ha
              rw [decide_eq_false this, Bool.and_false, Bool.and_false]
          rw [this]; decide
    rw [Nat.succ_mul, key (N 1) (Nat.le_refl _), prs]
    split
    · have hbig := fun i (hi : N 1 ≤ i) => lak_big hw v d hi (N 2) (Nat.le_refl _)
      obtain ⟨k, hk, e⟩ := ofbits (x := lak N Z v d (N 2)) (n := N 1) (fun i hi _ => hbig i hi)
      have h10 := bcM_up _ (N 1) hbig (10 - N 1) (by omega)
      rw [show N 1 + (10 - N 1) = 10 by omega] at h10
      rw [← h10]
      congr 1
      rw [e]
      exact bcM_bc k (Nat.lt_of_lt_of_le hk (Nat.pow_le_pow_right (show 0 < 2 by decide) hb.2.1))
    · rfl
