/-! what the calendar's methods answer: N counts (0 versions, 1 features, 2 users, 3 shims), Z rows (1 release, 2 end, 3 extended, 4 features, 5 first, 6 uses, 7 pledgeVersion, 8 pledgeDay, 9 slips, 10 slipDays, 11 feature, 12 version, 13 first, 14 last, 15 price) -/
/-- contains(set, member) -/
def cnt1 (x k : Int32) : Bool := decide (¬ (x >>> (k &&& 31) &&& 1) = 0)
/-- isThere -/
def isT (i n : Int32) : Bool := decide (0 ≤ i) && decide (i < n)
def isW (v a b : Int32) : Bool := decide (a ≤ v) && decide (v ≤ b)
/-- shim k is active for version x on day d -/
def isAct (Z : Nat → Nat → Int32) (k : Nat) (x d : Int32) : Bool := decide (Z 12 k = x) && decide (Z 13 k ≤ d) && decide (d ≤ Z 14 k)
def cntFor (Z : Nat → Nat → Int32) (x : Int32) : Nat → Int32
  | 0 => 0
  | k + 1 => if Z 12 k = x then cntFor Z x k + 1 else cntFor Z x k
def actS (Z : Nat → Nat → Int32) (x d : Int32) : Nat → Int32
  | 0 => 0
  | k + 1 => if isAct Z k x d = true then actS Z x d k ||| ((1 : Int32) <<< (Z 11 k &&& 31)) else actS Z x d k
def lowP (Z : Nat → Nat → Int32) (f x d : Int32) : Nat → Int32
  | 0 => 0
  | k + 1 => if Z 11 k = f ∧ isAct Z k x d = true ∧ (lowP Z f x d k = 0 ∨ Z 15 k < lowP Z f x d k) then Z 15 k else lowP Z f x d k
def aliv (Z : Nat → Nat → Int32) (v : Nat) (d : Int32) : Bool := decide (Z 1 v ≤ d) && decide (d < Z 2 v)
