def rel (N : Nat → Nat) (Z : Nat → Nat → Int32) (m : Nat → Int32) : Prop :=
  m 0 = nI (N 0) ∧ m 1 = nI (N 1) ∧ m 2 = nI (N 2) ∧ m 3 = nI (N 3) ∧
  (∀ v, v < N 0 → m (4 + 3 * v) = Z 1 v ∧ m (5 + 3 * v) = Z 2 v ∧ m (6 + 3 * v) = Z 3 v) ∧
  (∀ f, f < N 1 → m (28 + f) = allW Z (nI f) (N 0)) ∧
  (∀ u, u < N 2 → ∀ j, j < 6 → m (38 + 6 * u + j) = Z (5 + j) u) ∧
  (∀ t, t < N 3 → ∀ j, j < 5 → m (98 + 5 * t + j) = Z (11 + j) t)
def bt (x : Int32) (i : Nat) : Bool := x.toBitVec.getLsbD i
theorem b_ext {x y : Int32} (h : ∀ i, i < 32 → bt x i = bt y i) : x = y := Int32.toBitVec_inj.mp (BitVec.eq_of_getLsbD_eq (fun i hi => h i hi))
theorem b_or (x y : Int32) (i : Nat) : bt (x ||| y) i = (bt x i || bt y i) := by unfold bt; rw [Int32.toBitVec_or, BitVec.getLsbD_or]
theorem b_and (x y : Int32) (i : Nat) : bt (x &&& y) i = (bt x i && bt y i) := by unfold bt; rw [Int32.toBitVec_and, BitVec.getLsbD_and]
theorem b_xor (x y : Int32) (i : Nat) : bt (x ^^^ y) i = (bt x i ^^ bt y i) := by unfold bt; rw [Int32.toBitVec_xor, BitVec.getLsbD_xor]
theorem b_big {x : Int32} {i : Nat} (h : 32 ≤ i) : bt x i = false := BitVec.getLsbD_of_ge _ _ h
theorem b_m1 : ∀ i, i < 32 → bt (-1) i = true := by decide +kernel
theorem b_0 (i : Nat) : bt 0 i = false := BitVec.getLsbD_zero
theorem s_l : ∀ n, n < 32 → ((nI n &&& 31).toBitVec.smod 32).toNat = n := by decide +kernel
theorem b_shl (n : Nat) (hn : n < 32) (x : Int32) {i : Nat} (hi : i < 32) : bt (x <<< (nI n &&& 31)) i = (decide (n ≤ i) && bt x (i - n)) := by
  unfold bt
  rw [Int32.toBitVec_shiftLeft]
  show (x.toBitVec <<< ((nI n &&& 31).toBitVec.smod 32).toNat).getLsbD i = _
  rw [s_l n hn, BitVec.getLsbD_shiftLeft]
  rcases Nat.lt_or_ge i n with h | h
  · simp [h, Nat.not_le.mpr h]
  · simp [hi, h, Nat.not_lt.mpr h]
theorem b_sshr (n : Nat) (hn : n < 32) (x : Int32) {i : Nat} (hi : i < 32) : bt (x >>> (nI n &&& 31)) i = if n + i < 32 then bt x (n + i) else bt x 31 := by
  unfold bt
  rw [Int32.toBitVec_shiftRight]
  show (x.toBitVec.sshiftRight ((nI n &&& 31).toBitVec.smod 32).toNat).getLsbD i = _
  rw [s_l n hn, BitVec.getLsbD_sshiftRight, BitVec.msb_eq_getLsbD_last]
  simp [hi]
theorem b_1 : ∀ i, i < 32 → bt 1 i = decide (i = 0) := by decide +kernel
theorem b_bit {n : Nat} (hn : n < 32) {i : Nat} (hi : i < 32) : bt ((1 : Int32) <<< (nI n &&& 31)) i = decide (i = n) := by
  rw [b_shl n hn 1 hi, b_1 _ (by omega)]
  by_cases h : i = n
  · subst h; simp
  · rw [decide_eq_false h]
    by_cases h2 : n ≤ i
    · rw [decide_eq_false (show ¬ i - n = 0 by omega), Bool.and_false]
    · rw [decide_eq_false h2, Bool.false_and]
theorem and1 (x : Int32) : (x &&& 1 = 0 ∧ bt x 0 = false) ∨ (x &&& 1 = 1 ∧ bt x 0 = true) := by
  cases h : bt x 0
  · refine Or.inl ⟨b_ext fun i hi => ?_, rfl⟩
    rw [b_and, b_1 i hi, b_0]
    by_cases q : i = 0
    · subst q; rw [h]; rfl
    · rw [decide_eq_false q, Bool.and_false]
  · refine Or.inr ⟨b_ext fun i hi => ?_, rfl⟩
    rw [b_and, b_1 i hi]
    by_cases q : i = 0
    · subst q; rw [h]; rfl
    · rw [decide_eq_false q, Bool.and_false]
/-- contains, by bits -/
theorem cnt_bt (x : Int32) {k : Nat} (hk : k < 32) : cnt1 x (nI k) = bt x k := by
  have h0 : bt (x >>> (nI k &&& 31)) 0 = bt x k := by rw [b_sshr k hk x (by omega), if_pos (by omega)]; rfl
  unfold cnt1
  rcases and1 (x >>> (nI k &&& 31)) with ⟨h1, h2⟩ | ⟨h1, h2⟩
  · rw [h1, ← h0, h2]; rfl
  · rw [h1, ← h0, h2]; rfl
theorem allW_bt (Z : Nat → Nat → Int32) (f : Int32) : ∀ n, n ≤ 32 → ∀ i, i < 32 → bt (allW Z f n) i = (decide (i < n) && cnt1 (Z 4 i) f)
  | 0, _, i, _ => by rw [allW, b_0, decide_eq_false (Nat.not_lt_zero i), Bool.false_and]
  | n + 1, hn, i, hi => by
    rw [allW]
    by_cases h : i = n
    · subst h
      rw [decide_eq_true (show i < i + 1 by omega), Bool.true_and]
      split
      · rename_i q; rw [b_or, b_bit (by omega) hi, q, decide_eq_true rfl, Bool.or_true]
      · rename_i q; rw [allW_bt Z f i (by omega) i hi, decide_eq_false (Nat.lt_irrefl i), Bool.false_and, Bool.eq_false_iff.mpr q]
    · have e : decide (i < n + 1) = decide (i < n) := decide_eq_decide.mpr (by omega)
      rw [e]
      split
      · rw [b_or, b_bit (by omega) hi, allW_bt Z f n (by omega) i hi, decide_eq_false h, Bool.or_false]
      · exact allW_bt Z f n (by omega) i hi
theorem rel_has {N : Nat → Nat} {Z : Nat → Nat → Int32} {m : Nat → Int32} (hw : wf N Z) (hr : rel N Z m) {f v : Nat} (hf : f < N 1) (hv : v < N 0) : cnt1 (m (28 + f)) (nI v) = cnt1 (Z 4 v) (nI f) := by
  obtain ⟨⟨h0, h1, -⟩, -⟩ := hw
  obtain ⟨-, -, -, -, -, h, -⟩ := hr
  rw [h f hf, cnt_bt _ (show v < 32 by omega), allW_bt Z (nI f) (N 0) (by omega) v (by omega), decide_eq_true hv, Bool.true_and]
theorem isW_T {v : Int32} {n : Nat} (hn : n < 2 ^ 31) : isW v 0 (nI n - 1) = isT v (nI n) := by
  unfold isW isT
  congr 1
  refine decide_eq_decide.mpr ?_
  cases n with
  | zero =>
    rw [show nI 0 - 1 = (-1 : Int32) from rfl, i3le, i3lt]
    have h1 : Int32.toInt (-1) = -1 := rfl
    have h2 : (nI 0).toInt = 0 := rfl
    omega
  | succ n =>
    rw [nI_pred, i3le, i3lt, nI_toInt (by omega), nI_toInt hn]
    omega
/-- how a use is served by a version -/
def sv4 (N : Nat → Nat) (Z : Nat → Nat → Int32) (v f : Nat) (d : Int32) : Int32 := if d < Z 1 v then 2 else if Z 2 v ≤ d then 3 else if cnt1 (Z 4 v) (nI f) = true then 0 else if 0 < lowP Z (nI f) (nI v) d (N 3) then 1 else 4
def msU (N : Nat → Nat) (Z : Nat → Nat → Int32) (x : Int32) (v : Nat) (d : Int32) : Nat → Int32
  | 0 => 0
  | f + 1 => if cnt1 x (nI f) = true ∧ 1 < sv4 N Z v f d then msU N Z x v d f ||| ((1 : Int32) <<< (nI f &&& 31)) else msU N Z x v d f
def csM (N : Nat → Nat) (Z : Nat → Nat → Int32) (x : Int32) (v : Nat) (d : Int32) : Nat → Int32
  | 0 => 0
  | f + 1 => if cnt1 x (nI f) = true ∧ sv4 N Z v f d = 1 then csM N Z x v d f + lowP Z (nI f) (nI v) d (N 3) else csM N Z x v d f
def bcM (x : Int32) : Nat → Int32
  | 0 => 0
  | k + 1 => bcM x k + (x >>> (nI k &&& 31) &&& 1)
theorem bcM_bc : ∀ k, k < 1024 → bcM (nI k) 10 = bc (nI k) := by decide +kernel
theorem bit_lt {x : Int32} {n : Nat} (hn : n ≤ 30) (h0 : 0 ≤ x.toInt) (h1 : x.toInt < 2 ^ n) : ∃ k, k < 2 ^ n ∧ x = nI k := by
  obtain ⟨k, hk, rfl⟩ := nI_of (x := x) (by rw [i3lt]; have z0 : Int32.toInt 0 = 0 := rfl; omega)
  rw [nI_toInt hk] at h1
  exact ⟨k, by exact_mod_cast h1, rfl⟩
theorem bt_nI {k i : Nat} (hk : k < 2 ^ 32) : bt (nI k) i = k.testBit i := by
  unfold bt nI
  rw [show (Int32.ofNat k).toBitVec = BitVec.ofNat 32 k from rfl, BitVec.getLsbD_ofNat]
  by_cases h : i < 32
  · simp [h]
  · simp [h]
    exact (Nat.testBit_lt_two_pow (Nat.lt_of_lt_of_le hk (Nat.pow_le_pow_right (by decide) (by omega))) : k.testBit i = false)
/-- no bit of a set of n things lies behind n -/
theorem bt_lt {x : Int32} {n : Nat} (hn : n ≤ 30) (h0 : 0 ≤ x.toInt) (h1 : x.toInt < 2 ^ n) {i : Nat} (hi : n ≤ i) : bt x i = false := by
  obtain ⟨k, hk, rfl⟩ := bit_lt hn h0 h1
  rw [bt_nI (Nat.lt_of_lt_of_le hk (Nat.pow_le_pow_right (by decide) (by omega)))]
  exact Nat.testBit_lt_two_pow (Nat.lt_of_lt_of_le hk (Nat.pow_le_pow_right (by decide) hi))
/-- bits of what the shims serve -/
theorem actS_bt {N : Nat → Nat} {Z : Nat → Nat → Int32} (hw : wf N Z) (x d : Int32) : ∀ n, n ≤ N 3 → ∀ f, f < 32 → (bt (actS Z x d n) f = true ↔ ∃ t, t < n ∧ Z 11 t = nI f ∧ isAct Z t x d = true)
  | 0, _, f, _ => by rw [actS, b_0]; exact ⟨fun h => (nomatch h), fun ⟨t, h, _⟩ => absurd h (Nat.not_lt_zero t)⟩
  | n + 1, hn, f, hf => by
    have ih := actS_bt hw x d n (by omega) f hf
    obtain ⟨k, hk, e⟩ := (hw.2.2.2.2.1 n (by omega)).1
    have hk32 : k < 32 := by have := hw.1; omega
    rw [actS]
    split
    · rename_i q
      rw [b_or, Bool.or_eq_true, ih, e, b_bit hk32 hf, decide_eq_true_eq]
      constructor
      · rintro (⟨t, h1, h2, h3⟩ | h)
        · exact ⟨t, by omega, h2, h3⟩
        · exact ⟨n, by omega, by rw [e, h], q⟩
      · rintro ⟨t, h1, h2, h3⟩
        rcases Nat.lt_or_ge t n with g | g
        · exact Or.inl ⟨t, g, h2, h3⟩
        · obtain rfl : t = n := by omega
          exact Or.inr ((nI_eq (by omega) (by omega)).mp (h2.symm.trans e))
    · rename_i q
      rw [ih]
      constructor
      · rintro ⟨t, h1, h2, h3⟩; exact ⟨t, by omega, h2, h3⟩
      · rintro ⟨t, h1, h2, h3⟩
        rcases Nat.lt_or_ge t n with g | g
        · exact ⟨t, g, h2, h3⟩
        · obtain rfl : t = n := by omega
          exact absurd h3 q
/-- the lowest price is no price just where no shim serves -/
theorem lowP_pos {N : Nat → Nat} {Z : Nat → Nat → Int32} (hw : wf N Z) (f x d : Int32) : ∀ n, n ≤ N 3 → 0 ≤ (lowP Z f x d n).toInt ∧ (0 < (lowP Z f x d n).toInt ↔ ∃ t, t < n ∧ Z 11 t = f ∧ isAct Z t x d = true)
  | 0, _ => ⟨Int.le_refl _, ⟨fun h => absurd h (show ¬ (0 : Int) < 0 by decide), fun ⟨t, h, _⟩ => absurd h (Nat.not_lt_zero t)⟩⟩
  | n + 1, hn => by
    obtain ⟨h0, ih⟩ := lowP_pos hw f x d n (by omega)
    obtain ⟨-, -, -, -, -, -, p1, -⟩ := hw.2.2.2.2.1 n (by omega)
    have z0 : Int32.toInt 0 = 0 := rfl
    rw [lowP]
    split
    · rename_i q
      exact ⟨by omega, ⟨fun _ => ⟨n, by omega, q.1, q.2.1⟩, fun _ => by omega⟩⟩
    · rename_i q
      refine ⟨h0, ⟨fun h => ?_, ?_⟩⟩
      · obtain ⟨t, h1, h2, h3⟩ := ih.mp h; exact ⟨t, by omega, h2, h3⟩
      · rintro ⟨t, h1, h2, h3⟩
        rcases Nat.lt_or_ge t n with g | g
        · exact ih.mpr ⟨t, g, h2, h3⟩
        · obtain rfl : t = n := by omega
          rcases Int.lt_or_eq_of_le h0 with k | k
          · exact k
          · exact absurd ⟨h2, h3, Or.inl ((i3eq _ _).mpr (by rw [z0]; exact k.symm))⟩ q
/-- the reference's set of what is missing is the system's -/
theorem msU_uns {N : Nat → Nat} {Z : Nat → Nat → Int32} (hw : wf N Z) {x : Int32} (h0 : 0 ≤ x.toInt) (h1 : x.toInt < 2 ^ N 1) {v : Nat} (d : Int32) : msU N Z x v d (N 1) = uns N Z x v d := by
  have hb := hw.1
  have key : ∀ n, n ≤ N 1 → ∀ i, i < 32 → bt (msU N Z x v d n) i = (decide (i < n) && (bt x i && decide (1 < sv4 N Z v i d))) := by
    intro n
    induction n with
    | zero => intro _ i _; rw [msU, b_0, decide_eq_false (Nat.not_lt_zero i), Bool.false_and]
    | succ n ih =>
      intro hn i hi
      rw [msU]
      by_cases h : i = n
      · subst h
        rw [decide_eq_true (show i < i + 1 by omega), Bool.true_and]
        split
        · rename_i q
          rw [b_or, b_bit (by omega) hi, decide_eq_true rfl, Bool.or_true, ← cnt_bt x hi, q.1, decide_eq_true q.2]; rfl
        · rename_i q
          rw [ih (by omega) i hi, decide_eq_false (Nat.lt_irrefl i), Bool.false_and, ← cnt_bt x hi]
          cases g : cnt1 x (nI i)
          · rfl
          · rw [decide_eq_false (fun w => q ⟨g, w⟩)]; rfl
      · have e : decide (i < n + 1) = decide (i < n) := decide_eq_decide.mpr (by omega)
        rw [e]
        split
        · rw [b_or, b_bit (by omega) hi, ih (by omega) i hi, decide_eq_false h, Bool.or_false]
        · exact ih (by omega) i hi
  refine b_ext fun i hi => ?_
  rw [key (N 1) (Nat.le_refl _) i hi]
  by_cases hin : i < N 1
  · rw [decide_eq_true hin, Bool.true_and]
    unfold uns aliv
    have ha := actS_bt hw (nI v) d (N 3) (Nat.le_refl _) i hi
    have hl := lowP_pos hw (nI i) (nI v) d (N 3) (Nat.le_refl _)
    have z0 : Int32.toInt 0 = 0 := rfl
    have z1 : Int32.toInt 1 = 1 := rfl
    unfold sv4
    by_cases c1 : d < Z 1 v
    · rw [if_pos c1, if_neg (by simp only [Bool.and_eq_true, decide_eq_true_eq]; rintro ⟨q, -⟩; exact absurd q (Int32.not_le.mpr c1)), decide_eq_true (show (1 : Int32) < 2 by decide), Bool.and_true]
    · rw [if_neg c1]
      by_cases c2 : Z 2 v ≤ d
      · rw [if_pos c2, if_neg (by simp only [Bool.and_eq_true, decide_eq_true_eq]; rintro ⟨-, q⟩; exact absurd c2 (Int32.not_le.mpr q)), decide_eq_true (show (1 : Int32) < 3 by decide), Bool.and_true]
      · have ha2 : (decide (Z 1 v ≤ d) && decide (d < Z 2 v)) = true := by simp only [Bool.and_eq_true, decide_eq_true_eq]; exact ⟨Int32.not_lt.mp c1, Int32.not_le.mp c2⟩
        rw [if_neg c2, if_pos ha2, b_and, b_xor, b_or, b_m1 i hi, ← cnt_bt (Z 4 v) hi]
        cases c3 : cnt1 (Z 4 v) (nI i)
        · rw [if_neg (by decide)]
          by_cases c4 : 0 < lowP Z (nI i) (nI v) d (N 3)
          · rw [if_pos c4]
            have : bt (actS Z (nI v) d (N 3)) i = true := ha.mpr (hl.2.mp (by rw [i3lt] at c4; omega))
            rw [this, decide_eq_false (show ¬ (1 : Int32) < 1 by decide)]; rfl
          · rw [if_neg c4]
            have : bt (actS Z (nI v) d (N 3)) i = false := Bool.eq_false_iff.mpr (fun q => c4 (by rw [i3lt]; have := hl.2.mpr (ha.mp q); omega))
            rw [this, decide_eq_true (show (1 : Int32) < 4 by decide)]; rfl
        · rw [if_pos rfl, decide_eq_false (show ¬ (1 : Int32) < 0 by decide)]
          cases bt x i <;> rfl
  · rw [decide_eq_false hin, Bool.false_and]
    have hx := bt_lt (by omega) h0 h1 (show N 1 ≤ i by omega)
    unfold uns
    split
    · rw [b_and, hx]; rfl
    · exact hx.symm
theorem csM_cst {N : Nat → Nat} {Z : Nat → Nat → Int32} (hw : wf N Z) (x : Int32) {v : Nat} (d : Int32) : csM N Z x v d (N 1) = cst N Z x v d := by
  have hb := hw.1
  have hl := fun i => lowP_pos hw (nI i) (nI v) d (N 3) (Nat.le_refl _)
  have z0 : Int32.toInt 0 = 0 := rfl
  unfold cst aliv
  by_cases c1 : d < Z 1 v
  · rw [if_neg (by simp only [Bool.and_eq_true, decide_eq_true_eq]; rintro ⟨q, -⟩; exact absurd q (Int32.not_le.mpr c1))]
    have : ∀ n, csM N Z x v d n = 0 := by
      intro n
      induction n with
      | zero => rfl
      | succ n ih => rw [csM, if_neg (by unfold sv4; rw [if_pos c1]; rintro ⟨-, q⟩; exact absurd q (by decide)), ih]
    exact this _
  · by_cases c2 : Z 2 v ≤ d
    · rw [if_neg (by simp only [Bool.and_eq_true, decide_eq_true_eq]; rintro ⟨-, q⟩; exact absurd c2 (Int32.not_le.mpr q))]
      have : ∀ n, csM N Z x v d n = 0 := by
        intro n
        induction n with
        | zero => rfl
        | succ n ih => rw [csM, if_neg (by unfold sv4; rw [if_neg c1, if_pos c2]; rintro ⟨-, q⟩; exact absurd q (by decide)), ih]
      exact this _
    · rw [if_pos (by simp only [Bool.and_eq_true, decide_eq_true_eq]; exact ⟨Int32.not_lt.mp c1, Int32.not_le.mp c2⟩)]
      have : ∀ n, n ≤ N 1 → csM N Z x v d n = cfS N Z x v d n := by
        intro n
        induction n with
        | zero => intro _; rfl
        | succ n ih =>
          intro hn
          rw [csM, cfS, ih (by omega), cnt_bt _ (show n < 32 by omega), cnt_bt _ (show n < 32 by omega), b_and, b_xor, b_m1 n (by omega), ← cnt_bt (Z 4 v) (show n < 32 by omega)]
          unfold sv4
          rw [if_neg c1, if_neg c2]
          cases g1 : bt x n <;> cases g2 : cnt1 (Z 4 v) (nI n)
          · simp
          · simp
          · by_cases c4 : 0 < lowP Z (nI n) (nI v) d (N 3)
            · simp [c4]
            · have e : lowP Z (nI n) (nI v) d (N 3) = 0 := (i3eq _ _).mpr (by rw [i3lt] at c4; have := (hl n).1; omega)
              simp [e]
          · simp
      exact this _ (Nat.le_refl _)
theorem ofbits {x : Int32} {n : Nat} (h : ∀ i, n ≤ i → i < 32 → bt x i = false) : ∃ k, k < 2 ^ n ∧ x = nI k := by
  refine ⟨x.toBitVec.toNat, Nat.lt_pow_two_of_testBit _ (fun i hi => ?_), ?_⟩
  · rcases Nat.lt_or_ge i 32 with g | g
    · exact h i hi g
    · exact Nat.testBit_lt_two_pow (Nat.lt_of_lt_of_le x.toBitVec.isLt (Nat.pow_le_pow_right (by decide) g))
  · refine Int32.toBitVec_inj.mp ?_
    show _ = BitVec.ofNat 32 _
    rw [BitVec.ofNat_toNat, BitVec.setWidth_eq]
theorem uns_rng {N : Nat → Nat} {Z : Nat → Nat → Int32} {x : Int32} (hn : N 1 ≤ 10) (h0 : 0 ≤ x.toInt) (h1 : x.toInt < 2 ^ N 1) (v : Nat) (d : Int32) : ∃ k, k < 1024 ∧ uns N Z x v d = nI k := by
  obtain ⟨k, hk, e⟩ := ofbits (x := uns N Z x v d) (n := N 1) (fun i hi h32 => by
    have hx := bt_lt (by omega) h0 h1 hi
    unfold uns
    split
    · rw [b_and, hx]; rfl
    · exact hx)
  exact ⟨k, Nat.lt_of_lt_of_le hk (Nat.pow_le_pow_right (show 0 < 2 by decide) hn), e⟩
theorem bcM_Z {N : Nat → Nat} {Z : Nat → Nat → Int32} (hw : wf N Z) {u : Nat} (hu : u < N 2) : bcM (Z 6 u) 10 = bc (Z 6 u) := by
  have hb := hw.1
  obtain ⟨h0, h1⟩ := hw.2.2.2.2.2.2 u hu
  obtain ⟨k, hk, e⟩ := bit_lt (by omega) h0 h1
  rw [e]
  exact bcM_bc k (Nat.lt_of_lt_of_le hk (Nat.pow_le_pow_right (show 0 < 2 by decide) hb.2.1))
theorem bcM_uns {N : Nat → Nat} {Z : Nat → Nat → Int32} (hw : wf N Z) {u : Nat} (hu : u < N 2) (v : Nat) (d : Int32) : bcM (uns N Z (Z 6 u) v d) 10 = bc (uns N Z (Z 6 u) v d) := by
  obtain ⟨h0, h1⟩ := hw.2.2.2.2.2.2 u hu
  obtain ⟨k, hk, e⟩ := uns_rng (Z := Z) hw.1.2.1 h0 h1 v d
  rw [e]
  exact bcM_bc k hk
def foM (Z : Nat → Nat → Int32) (v : Nat) : Nat → Int32
  | 0 => 0
  | f + 1 => if cnt1 (Z 4 v) (nI f) = true then foM Z v f ||| ((1 : Int32) <<< (nI f &&& 31)) else foM Z v f
theorem foM_eq {N : Nat → Nat} {Z : Nat → Nat → Int32} (hw : wf N Z) {v : Nat} (hv : v < N 0) : foM Z v (N 1) = Z 4 v := by
  have hb := hw.1
  obtain ⟨h0, h1⟩ := hw.2.2.2.2.2.1 v hv
  have key : ∀ n, n ≤ N 1 → ∀ i, i < 32 → bt (foM Z v n) i = (decide (i < n) && bt (Z 4 v) i) := by
    intro n
    induction n with
    | zero => intro _ i _; rw [foM, b_0, decide_eq_false (Nat.not_lt_zero i), Bool.false_and]
    | succ n ih =>
      intro hn i hi
      rw [foM, cnt_bt _ (show n < 32 by omega)]
      by_cases h : i = n
      · subst h
        rw [decide_eq_true (show i < i + 1 by omega), Bool.true_and]
        split
        · rename_i q; rw [b_or, b_bit (by omega) hi, decide_eq_true rfl, Bool.or_true, q]
        · rename_i q; rw [ih (by omega) i hi, decide_eq_false (Nat.lt_irrefl i), Bool.false_and, Bool.eq_false_iff.mpr q]
      · rw [show decide (i < n + 1) = decide (i < n) from decide_eq_decide.mpr (by omega)]
        split
        · rw [b_or, b_bit (by omega) hi, ih (by omega) i hi, decide_eq_false h, Bool.or_false]
        · exact ih (by omega) i hi
  refine b_ext fun i hi => ?_
  rw [key (N 1) (Nat.le_refl _) i hi]
  by_cases hin : i < N 1
  · rw [decide_eq_true hin, Bool.true_and]
  · rw [decide_eq_false hin, Bool.false_and, bt_lt (by omega) h0 h1 (by omega)]
theorem isAct_W (Z : Nat → Nat → Int32) (k : Nat) (x d : Int32) : isAct Z k x d = (decide (Z 12 k = x) && isW d (Z 13 k) (Z 14 k)) := by unfold isAct isW; rw [Bool.and_assoc]
