/-! what the calendar's methods answer: N counts (0 versions, 1 features, 2 users, 3 shims), Z rows (1 release, 2 end, 3 extended, 4 features, 5 first, 6 uses, 7 pledgeVersion, 8 pledgeDay, 9 slips, 10 slipDays, 11 feature, 12 version, 13 first, 14 last, 15 price) -/
/-- contains(set, member) -/
def cnt1 (x k : Int32) : Bool := decide (¬ (x >>> (k &&& 31) &&& 1) = 0)
def isT (i n : Int32) : Bool := decide (0 ≤ i) && decide (i < n)
def isW (v a b : Int32) : Bool := decide (a ≤ v) && decide (v ≤ b)
/-- shim k is active for version x on day d -/
def isAct (Z : Nat → Nat → Int32) (k : Nat) (x d : Int32) : Bool := decide (Z 12 k = x) && decide (Z 13 k ≤ d) && decide (d ≤ Z 14 k)
def cntFor (Z : Nat → Nat → Int32) (x : Int32) : Nat → Int32
  | 0 => 0
  | k + 1 => if Z 12 k = x then cntFor Z x k + 1 else cntFor Z x k
def actS (Z : Nat → Nat → Int32) (x d : Int32) : Nat → Int32
  | 0 => 0
  | k + 1 => if isAct Z k x d = true then actS Z x d k ||| ((1 : Int32) <<< (Z 11 k &&& 31)) else actS Z x d k
def lowP (Z : Nat → Nat → Int32) (f x d : Int32) : Nat → Int32
  | 0 => 0
  | k + 1 => if Z 11 k = f ∧ isAct Z k x d = true ∧ (lowP Z f x d k = 0 ∨ Z 15 k < lowP Z f x d k) then Z 15 k else lowP Z f x d k
def aliv (Z : Nat → Nat → Int32) (v : Nat) (d : Int32) : Bool := decide (Z 1 v ≤ d) && decide (d < Z 2 v)
def allW (Z : Nat → Nat → Int32) (f : Int32) : Nat → Int32
  | 0 => 0
  | v + 1 => if cnt1 (Z 4 v) f = true then allW Z f v ||| ((1 : Int32) <<< (nI v &&& 31)) else allW Z f v
/-- has a pledge -/
def pled (Z : Nat → Nat → Int32) (u : Nat) : Bool := decide (¬ Z 7 u = -1)
def onI (Z : Nat → Nat → Int32) (u : Nat) (d : Int32) : Int32 := if pled Z u = true ∧ Z 8 u ≤ d then Z 7 u else Z 5 u
def onN (Z : Nat → Nat → Int32) (u : Nat) (d : Int32) : Nat := (onI Z u d).toNatClampNeg
/-- Integer.bitCount, as it is computed -/
def bc1 (x : Int32) : Int32 := x - ((Int32.toUInt32 x >>> (Int32.toUInt32 1 &&& Int32.toUInt32 31)).toInt32 &&& 1431655765)
def bc2 (x : Int32) : Int32 := (x &&& 858993459) + ((Int32.toUInt32 x >>> (Int32.toUInt32 2 &&& Int32.toUInt32 31)).toInt32 &&& 858993459)
def bc3 (x : Int32) : Int32 := (x + (Int32.toUInt32 x >>> (Int32.toUInt32 4 &&& Int32.toUInt32 31)).toInt32) &&& 252645135
def bc4 (x : Int32) : Int32 := x + (Int32.toUInt32 x >>> (Int32.toUInt32 8 &&& Int32.toUInt32 31)).toInt32
def bc5 (x : Int32) : Int32 := x + (Int32.toUInt32 x >>> (Int32.toUInt32 16 &&& Int32.toUInt32 31)).toInt32
def bc (x : Int32) : Int32 := bc5 (bc4 (bc3 (bc2 (bc1 x)))) &&& 63
def plC (Z : Nat → Nat → Int32) : Nat → Int32
  | 0 => 0
  | u + 1 => if pled Z u = true then plC Z u + 1 else plC Z u
def usC (Z : Nat → Nat → Int32) : Nat → Int32
  | 0 => 0
  | u + 1 => usC Z u + bc (Z 6 u)
def slC (Z : Nat → Nat → Int32) : Nat → Int32
  | 0 => 0
  | u + 1 => slC Z u + Z 9 u
/-- about(k, what) over the rows b.. -/
def abt (Z : Nat → Nat → Int32) (b n : Nat) (k : Nat) (w : Int32) : Int32 := Z (if 0 ≤ w ∧ w < nI n then b + w.toNatClampNeg else b + n) k
/-- a calendar as the methods keep it -/
def wf (N : Nat → Nat) (Z : Nat → Nat → Int32) : Prop :=
  (N 0 ≤ 8 ∧ N 1 ≤ 10 ∧ N 2 ≤ 10 ∧ N 3 ≤ 12) ∧
  (∀ v, v < N 0 → 0 ≤ (Z 1 v).toInt ∧ (Z 1 v).toInt < (Z 2 v).toInt ∧ (Z 2 v).toInt ≤ 1000) ∧
  (∀ u, u < N 2 → ∃ k, k < N 0 ∧ Z 5 u = nI k) ∧
  (∀ u, u < N 2 → (Z 7 u = -1 ∧ Z 8 u = -1) ∨ (∃ k, k < N 0 ∧ Z 7 u = nI k ∧ 0 ≤ (Z 8 u).toInt ∧ (Z 8 u).toInt ≤ 999)) ∧
  (∀ t, t < N 3 → (∃ k, k < N 1 ∧ Z 11 t = nI k) ∧ (∃ k, k < N 0 ∧ Z 12 t = nI k) ∧ 0 ≤ (Z 13 t).toInt ∧ (Z 13 t).toInt ≤ 999 ∧ 0 ≤ (Z 14 t).toInt ∧ (Z 14 t).toInt ≤ 999 ∧ 1 ≤ (Z 15 t).toInt ∧ (Z 15 t).toInt ≤ 99) ∧
  (∀ v, v < N 0 → 0 ≤ (Z 4 v).toInt ∧ (Z 4 v).toInt < 2 ^ N 1) ∧
  (∀ u, u < N 2 → 0 ≤ (Z 6 u).toInt ∧ (Z 6 u).toInt < 2 ^ N 1)
theorem nIm1 {k : Nat} (h : k < 2 ^ 31) : ¬ nI k = -1 := fun q => by
  have h1 := nI_toInt h
  rw [q] at h1
  have h2 : Int32.toInt (-1) = -1 := rfl
  omega
theorem on_spec {N : Nat → Nat} {Z : Nat → Nat → Int32} (hw : wf N Z) {u : Nat} (hu : u < N 2) (d : Int32) : onI Z u d = nI (onN Z u d) ∧ onN Z u d < N 0 := by
  obtain ⟨⟨h0, h1, h2, h3⟩, -, hf, hp, -⟩ := hw
  have key : ∃ k, k < N 0 ∧ onI Z u d = nI k := by
    unfold onI
    split
    · rename_i q
      rcases hp u hu with ⟨e, -⟩ | ⟨k, hk, e, -⟩
      · simp [pled, e] at q
      · exact ⟨k, hk, e⟩
    · exact hf u hu
  obtain ⟨k, hk, e⟩ := key
  have e2 : onN Z u d = k := by unfold onN; rw [e, nI_clamp (by omega)]
  rw [e2]
  exact ⟨e, hk⟩
