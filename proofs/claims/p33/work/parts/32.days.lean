/-! days: between two changes every day is like the one before -/
def smDay (N : Nat → Nat) (Z : Nat → Nat → Int32) (j d : Int32) : Prop :=
  (∀ v, v < N 0 → (Z 1 v ≤ j ↔ Z 1 v ≤ d) ∧ (j < Z 2 v ↔ d < Z 2 v)) ∧ (∀ u, u < N 2 → (Z 8 u ≤ j ↔ Z 8 u ≤ d)) ∧ (∀ t, t < N 3 → (Z 13 t ≤ j ↔ Z 13 t ≤ d) ∧ (j ≤ Z 14 t ↔ d ≤ Z 14 t))
theorem ear_spec (n x d : Int32) (h : d.toInt < n.toInt) : d.toInt < (ear n x d).toInt ∧ (ear n x d).toInt ≤ n.toInt ∧ (d.toInt < x.toInt → (ear n x d).toInt ≤ x.toInt) := by
  unfold ear
  simp only [i3lt]
  split
  · rename_i q; omega
  · rename_i q; omega
theorem nx1_spec (Z : Nat → Nat → Int32) (d : Int32) (hd : d.toInt < 1000) : ∀ n, d.toInt < (nx1 Z d n).toInt ∧ (nx1 Z d n).toInt ≤ 1000 ∧ ∀ v, v < n → (d.toInt < (Z 1 v).toInt → (nx1 Z d n).toInt ≤ (Z 1 v).toInt) ∧ (d.toInt < (Z 2 v).toInt → (nx1 Z d n).toInt ≤ (Z 2 v).toInt)
  | 0 => ⟨hd, Int.le_refl _, fun v h => absurd h (Nat.not_lt_zero v)⟩
  | n + 1 => by
    obtain ⟨h1, h2, h3⟩ := nx1_spec Z d hd n
    obtain ⟨a1, a2, a3⟩ := ear_spec (nx1 Z d n) (Z 1 n) d h1
    obtain ⟨b1, b2, b3⟩ := ear_spec (ear (nx1 Z d n) (Z 1 n) d) (Z 2 n) d a1
    refine ⟨b1, by rw [nx1]; omega, fun v hv => ?_⟩
    rw [nx1]
    rcases Nat.lt_or_ge v n with q | q
    · have := h3 v q; exact ⟨fun z => by have := this.1 z; omega, fun z => by have := this.2 z; omega⟩
    · obtain rfl : v = n := by omega
      exact ⟨fun z => by have := a3 z; omega, fun z => by have := b3 z; omega⟩
theorem nx2_spec (Z : Nat → Nat → Int32) (d x : Int32) (hd : d.toInt < x.toInt) : ∀ n, d.toInt < (nx2 Z d x n).toInt ∧ (nx2 Z d x n).toInt ≤ x.toInt ∧ ∀ v, v < n → (d.toInt < (Z 8 v).toInt → (nx2 Z d x n).toInt ≤ (Z 8 v).toInt)
  | 0 => ⟨hd, Int.le_refl _, fun v h => absurd h (Nat.not_lt_zero v)⟩
  | n + 1 => by
    obtain ⟨h1, h2, h3⟩ := nx2_spec Z d x hd n
    obtain ⟨a1, a2, a3⟩ := ear_spec (nx2 Z d x n) (Z 8 n) d h1
    refine ⟨a1, by rw [nx2]; omega, fun v hv => ?_⟩
    rw [nx2]
    rcases Nat.lt_or_ge v n with q | q
    · have := h3 v q; exact fun z => by have := this z; omega
    · obtain rfl : v = n := by omega
      exact a3
theorem nx3_spec (Z : Nat → Nat → Int32) (d x : Int32) (hd : d.toInt < x.toInt) : ∀ n, d.toInt < (nx3 Z d x n).toInt ∧ (nx3 Z d x n).toInt ≤ x.toInt ∧ ∀ v, v < n → (d.toInt < (Z 13 v).toInt → (nx3 Z d x n).toInt ≤ (Z 13 v).toInt) ∧ (d.toInt < (Z 14 v + 1).toInt → (nx3 Z d x n).toInt ≤ (Z 14 v + 1).toInt)
  | 0 => ⟨hd, Int.le_refl _, fun v h => absurd h (Nat.not_lt_zero v)⟩
  | n + 1 => by
    obtain ⟨h1, h2, h3⟩ := nx3_spec Z d x hd n
    obtain ⟨a1, a2, a3⟩ := ear_spec (nx3 Z d x n) (Z 13 n) d h1
    obtain ⟨b1, b2, b3⟩ := ear_spec (ear (nx3 Z d x n) (Z 13 n) d) (Z 14 n + 1) d a1
    refine ⟨b1, by rw [nx3]; omega, fun v hv => ?_⟩
    rw [nx3]
    rcases Nat.lt_or_ge v n with q | q
    · have := h3 v q; exact ⟨fun z => by have := this.1 z; omega, fun z => by have := this.2 z; omega⟩
    · obtain rfl : v = n := by omega
      exact ⟨fun z => by have := a3 z; omega, fun z => by have := b3 z; omega⟩
theorem i3add1 {x : Int32} (h0 : 0 ≤ x.toInt) (h : x.toInt ≤ 1000) : (x + 1).toInt = x.toInt + 1 := by
  obtain ⟨k, hk, rfl⟩ := nI_of (x := x) (by rw [i3lt]; have z0 : Int32.toInt 0 = 0 := rfl; omega)
  rw [nI_1]
  rw [nI_toInt hk] at h ⊢
  rw [nI_toInt (by omega)]
  rfl
theorem nxt_spec {N : Nat → Nat} {Z : Nat → Nat → Int32} (hw : wf N Z) {d : Nat} (hd : d < 1000) : ∃ k, nxC N Z (nI d) = nI k ∧ d < k ∧ k ≤ 1000 ∧ ∀ j, d ≤ j → j < k → smDay N Z (nI j) (nI d) := by
  have hdi : (nI d).toInt = d := nI_toInt (by omega)
  obtain ⟨h1, h2, h3⟩ := nx1_spec Z (nI d) (by omega) (N 0)
  obtain ⟨g1, g2, g3⟩ := nx2_spec Z (nI d) _ h1 (N 2)
  obtain ⟨f1, f2, f3⟩ := nx3_spec Z (nI d) _ g1 (N 3)
  obtain ⟨k, hk, e⟩ := nI_of (x := nxC N Z (nI d)) (by rw [i3lt]; have z0 : Int32.toInt 0 = 0 := rfl; unfold nxC; omega)
  have hki : (nxC N Z (nI d)).toInt = k := by rw [e, nI_toInt hk]
  have hkk : d < k ∧ k ≤ 1000 := by unfold nxC at hki; omega
  refine ⟨k, e, hkk.1, hkk.2, fun j h1j h2j => ?_⟩
  have hji : (nI j).toInt = j := nI_toInt (by omega)
  unfold nxC at hki
  obtain ⟨-, -, -, -, hsh, -⟩ := hw
  refine ⟨fun v hv => ?_, fun u hu => ?_, fun t ht => ?_⟩
  · have := h3 v hv
    simp only [i3le, i3lt]
    omega
  · have := g3 u hu
    simp only [i3le]
    omega
  · have := f3 t ht
    obtain ⟨-, -, -, -, q1, q2, -⟩ := hsh t ht
    rw [i3add1 q1 (by omega)] at this
    simp only [i3le]
    omega
theorem aliv_cg {N : Nat → Nat} {Z : Nat → Nat → Int32} {j d : Int32} (h : smDay N Z j d) {v : Nat} (hv : v < N 0) : aliv Z v j = aliv Z v d := by
  unfold aliv
  rw [decide_eq_decide.mpr (h.1 v hv).1, decide_eq_decide.mpr (h.1 v hv).2]
theorem isAct_cg {N : Nat → Nat} {Z : Nat → Nat → Int32} {j d : Int32} (h : smDay N Z j d) {t : Nat} (ht : t < N 3) (x : Int32) : isAct Z t x j = isAct Z t x d := by
  unfold isAct
  rw [decide_eq_decide.mpr (h.2.2 t ht).1, decide_eq_decide.mpr (h.2.2 t ht).2]
theorem actS_cg {N : Nat → Nat} {Z : Nat → Nat → Int32} {j d : Int32} (h : smDay N Z j d) (x : Int32) : ∀ n, n ≤ N 3 → actS Z x j n = actS Z x d n
  | 0, _ => rfl
  | n + 1, hn => by rw [actS, actS, actS_cg h x n (by omega), isAct_cg h (by omega)]
theorem lowP_cg {N : Nat → Nat} {Z : Nat → Nat → Int32} {j d : Int32} (h : smDay N Z j d) (f x : Int32) : ∀ n, n ≤ N 3 → lowP Z f x j n = lowP Z f x d n
  | 0, _ => rfl
  | n + 1, hn => by rw [lowP, lowP, lowP_cg h f x n (by omega), isAct_cg h (by omega)]
theorem onN_cg {N : Nat → Nat} {Z : Nat → Nat → Int32} {j d : Int32} (h : smDay N Z j d) {u : Nat} (hu : u < N 2) : onN Z u j = onN Z u d := by
  unfold onN onI
  simp only [h.2.1 u hu]
theorem uns_cg {N : Nat → Nat} {Z : Nat → Nat → Int32} {j d : Int32} (h : smDay N Z j d) (x : Int32) {v : Nat} (hv : v < N 0) : uns N Z x v j = uns N Z x v d := by
  unfold uns
  rw [aliv_cg h hv, actS_cg h _ _ (Nat.le_refl _)]
theorem unU_cg {N : Nat → Nat} {Z : Nat → Nat → Int32} {j d : Int32} (hw : wf N Z) (h : smDay N Z j d) {u : Nat} (hu : u < N 2) : unU N Z u j = unU N Z u d := by
  unfold unU
  rw [onN_cg h hu, uns_cg h _ (on_spec hw hu d).2]
theorem stU_cg {N : Nat → Nat} {Z : Nat → Nat → Int32} {j d : Int32} (hw : wf N Z) (h : smDay N Z j d) : ∀ n, n ≤ N 2 → stU N Z j n = stU N Z d n
  | 0, _ => rfl
  | n + 1, hn => by rw [stU, stU, stU_cg hw h n (by omega), unU_cg hw h (by omega)]
theorem cfS_cg {N : Nat → Nat} {Z : Nat → Nat → Int32} {j d : Int32} (h : smDay N Z j d) (x : Int32) (v : Nat) : ∀ n, cfS N Z x v j n = cfS N Z x v d n
  | 0 => rfl
  | n + 1 => by rw [cfS, cfS, cfS_cg h x v n, lowP_cg h _ _ _ (Nat.le_refl _)]
theorem cst_cg {N : Nat → Nat} {Z : Nat → Nat → Int32} {j d : Int32} (h : smDay N Z j d) (x : Int32) {v : Nat} (hv : v < N 0) : cst N Z x v j = cst N Z x v d := by
  unfold cst
  rw [aliv_cg h hv, cfS_cg h]
theorem cAl_cg {N : Nat → Nat} {Z : Nat → Nat → Int32} {j d : Int32} (hw : wf N Z) (h : smDay N Z j d) : ∀ n, n ≤ N 2 → cAl N Z j n = cAl N Z d n
  | 0, _ => rfl
  | n + 1, hn => by rw [cAl, cAl, cAl_cg hw h n (by omega), onN_cg h (by omega), cst_cg h _ (on_spec hw (by omega) d).2]
/-- days below n of which p holds -/
def ctN (p : Nat → Bool) : Nat → Nat
  | 0 => 0
  | n + 1 => ctN p n + (if p n = true then 1 else 0)
theorem ctN_le (p : Nat → Bool) : ∀ n, ctN p n ≤ n
  | 0 => Nat.le_refl _
  | n + 1 => by have := ctN_le p n; rw [ctN]; split <;> omega
theorem ctN_run (p : Nat → Bool) (d : Nat) : ∀ m, (∀ j, d ≤ j → j < d + m → p j = p d) → ctN p (d + m) = ctN p d + (if p d = true then m else 0)
  | 0, _ => by simp
  | m + 1, h => by
    rw [← Nat.add_assoc, ctN, ctN_run p d m (fun j a b => h j a (by omega)), h (d + m) (by omega) (by omega)]
    split <;> omega
def smD (g : Nat → Int32) (f : Nat) : Nat → Int32
  | 0 => 0
  | n + 1 => smD g f n + g (f + n)
theorem smD_run (g : Nat → Int32) (f a : Nat) (x : Int32) : ∀ m, (∀ i, i < m → g (f + (a + i)) = x) → smD g f (a + m) = smD g f a + nI m * x
  | 0, _ => by rw [nI_0, Int32.zero_mul, Int32.add_zero]; rfl
  | m + 1, h => by
    rw [← Nat.add_assoc, smD, smD_run g f a x m (fun i q => h i (by omega)), h m (by omega), nI_succ, Int32.add_mul, Int32.one_mul, Int32.add_assoc]
def fstD (p : Nat → Bool) (k : Nat) : Nat → Int32
  | 0 => -1
  | n + 1 => if p k = true then nI k else fstD p (k + 1) n
theorem fstD_run (p : Nat → Bool) (z : Nat) : ∀ (m k : Nat), (∀ j, k ≤ j → j < k + m → p j = false) → fstD p k (z - k) = fstD p (k + m) (z - (k + m))
  | 0, k, _ => rfl
  | m + 1, k, h => by
    rcases Nat.lt_or_ge k z with q | q
    · obtain ⟨n, hn⟩ : ∃ n, z - k = n + 1 := ⟨z - k - 1, by omega⟩
      rw [hn, fstD, if_neg (by rw [h k (by omega) (by omega)]; decide)]
      have := fstD_run p z m (k + 1) (fun j a b => h j (by omega) (by omega))
      rw [show z - (k + 1) = n by omega] at this
      rw [this, show k + 1 + m = k + (m + 1) by omega]
    · rw [show z - k = 0 by omega, show z - (k + (m + 1)) = 0 by omega]; rfl
def sfD (p : Nat → Bool) (f : Nat) : Nat → Nat
  | 0 => f
  | n + 1 => if p (f + n) = true then f + n + 1 else sfD p f n
theorem sfD_run (p : Nat → Bool) (f a : Nat) (b : Bool) : ∀ m, 0 < m → (∀ i, i < m → p (f + (a + i)) = b) → sfD p f (a + m) = if b = true then f + (a + m) else sfD p f a
  | 0, h, _ => absurd h (Nat.lt_irrefl 0)
  | 1, _, h => by
    show (if p (f + a) = true then f + a + 1 else sfD p f a) = _
    rw [show p (f + a) = b from h 0 (by omega)]; rfl
  | m + 2, _, h => by
    show (if p (f + (a + (m + 1))) = true then f + (a + (m + 1)) + 1 else sfD p f (a + (m + 1))) = _
    rw [h (m + 1) (by omega), sfD_run p f a b (m + 1) (by omega) (fun i q => h i (by omega))]
    split <;> rfl
theorem sfD_le (p : Nat → Bool) (f : Nat) : ∀ n, f ≤ sfD p f n ∧ sfD p f n ≤ f + n
  | 0 => ⟨Nat.le_refl _, Nat.le_refl _⟩
  | n + 1 => by have := sfD_le p f n; rw [sfD]; split <;> omega
/-- the next change as a natural number -/
def nxN (N : Nat → Nat) (Z : Nat → Nat → Int32) (d : Nat) : Nat := (nxC N Z (nI d)).toNatClampNeg
theorem nxN_spec {N : Nat → Nat} {Z : Nat → Nat → Int32} (hw : wf N Z) {d : Nat} (hd : d < 1000) : nxC N Z (nI d) = nI (nxN N Z d) ∧ d < nxN N Z d ∧ nxN N Z d ≤ 1000 ∧ ∀ j, d ≤ j → j < nxN N Z d → smDay N Z (nI j) (nI d) := by
  obtain ⟨k, e, h1, h2, h3⟩ := nxt_spec hw hd
  have ek : nxN N Z d = k := by unfold nxN; rw [e, nI_clamp (by omega)]
  rw [ek]
  exact ⟨e, h1, h2, h3⟩
def stB (N : Nat → Nat) (Z : Nat → Nat → Int32) (j : Nat) : Bool := decide (¬ stU N Z (nI j) (N 2) = 0)
def uuB (N : Nat → Nat) (Z : Nat → Nat → Int32) (u j : Nat) : Bool := decide (¬ unU N Z u (nI j) = 0)
def unB (N : Nat → Nat) (Z : Nat → Nat → Int32) (x : Int32) (v j : Nat) : Bool := decide (¬ uns N Z x v (nI j) = 0)
def sdN (N : Nat → Nat) (Z : Nat → Nat → Int32) : Nat := ctN (stB N Z) 1000
def fvN (Z : Nat → Nat → Int32) (u : Nat) : Nat := (Z 5 u).toNatClampNeg
theorem fv_spec {N : Nat → Nat} {Z : Nat → Nat → Int32} (hw : wf N Z) {u : Nat} (hu : u < N 2) : Z 5 u = nI (fvN Z u) ∧ fvN Z u < N 0 := by
  have hb := hw.1
  obtain ⟨k, hk, e⟩ := hw.2.2.1 u hu
  have : fvN Z u = k := by unfold fvN; rw [e, nI_clamp (by omega)]
  rw [this]; exact ⟨e, hk⟩
def ltP (N : Nat → Nat) (Z : Nat → Nat → Int32) (u v f : Nat) : Int32 :=
  if nI (sfD (unB N Z (Z 6 u) v) f (1000 - f)) ≤ (if fstD (unB N Z (Z 6 u) (fvN Z u)) f (1000 - f) = -1 then 999 else fstD (unB N Z (Z 6 u) (fvN Z u)) f (1000 - f)) then (if fstD (unB N Z (Z 6 u) (fvN Z u)) f (1000 - f) = -1 then 999 else fstD (unB N Z (Z 6 u) (fvN Z u)) f (1000 - f)) else -1
def cAlD (N : Nat → Nat) (Z : Nat → Nat → Int32) (j : Nat) : Int32 := cAl N Z (nI j) (N 2)
def cstD (N : Nat → Nat) (Z : Nat → Nat → Int32) (x : Int32) (v j : Nat) : Int32 := cst N Z x v (nI j)
def vcl (N : Nat → Nat) (Z : Nat → Nat → Int32) (x : Int32) (f l : Nat) : Nat → Int32 × Int32
  | 0 => (-1, 0)
  | v + 1 => if fstD (unB N Z x v) f (l + 1 - f) = -1 ∧ ((vcl N Z x f l v).1 = -1 ∨ smD (cstD N Z x v) f (l + 1 - f) < (vcl N Z x f l v).2) then (nI v, smD (cstD N Z x v) f (l + 1 - f)) else vcl N Z x f l v
def nmb (N : Nat → Nat) (Z : Nat → Nat → Int32) : Nat → Int32
  | 0 => nI (N 0)
  | 1 => nI (N 1)
  | 2 => nI (N 2)
  | 3 => nI (N 3)
  | 4 => plC Z (N 2)
  | 5 => usC Z (N 2)
  | 6 => slC Z (N 2)
  | _ => nI (sdN N Z)
theorem st_step {N : Nat → Nat} {Z : Nat → Nat → Int32} (hw : wf N Z) {k q : Nat} (hkq : k ≤ q) (h : ∀ j, k ≤ j → j < q → smDay N Z (nI j) (nI k)) : ctN (stB N Z) q = ctN (stB N Z) k + (if stU N Z (nI k) (N 2) = 0 then 0 else q - k) := by
  have := ctN_run (stB N Z) k (q - k) (fun j a b => by unfold stB; rw [stU_cg hw (h j a (by omega)) _ (Nat.le_refl _)])
  rw [show k + (q - k) = q by omega] at this
  rw [this]
  by_cases z : stU N Z (nI k) (N 2) = 0 <;> simp [stB, z]
theorem cAl_step {N : Nat → Nat} {Z : Nat → Nat → Int32} (hw : wf N Z) {f k q : Nat} (hfk : f ≤ k) (hkq : k ≤ q) (h : ∀ j, k ≤ j → j < q → smDay N Z (nI j) (nI k)) : smD (cAlD N Z) f (k - f) + nI (q - k) * cAl N Z (nI k) (N 2) = smD (cAlD N Z) f (q - f) := by
  have := smD_run (cAlD N Z) f (k - f) (cAl N Z (nI k) (N 2)) (q - k) (fun i hi => by
    unfold cAlD; rw [show f + (k - f + i) = k + i by omega]; exact cAl_cg hw (h _ (by omega) (by omega)) _ (Nat.le_refl _))
  rw [← this, show k - f + (q - k) = q - f by omega]
theorem cst_step {N : Nat → Nat} {Z : Nat → Nat → Int32} (x : Int32) {v : Nat} (hv : v < N 0) {f k q : Nat} (hfk : f ≤ k) (hkq : k ≤ q) (h : ∀ j, k ≤ j → j < q → smDay N Z (nI j) (nI k)) : smD (cstD N Z x v) f (k - f) + nI (q - k) * cst N Z x v (nI k) = smD (cstD N Z x v) f (q - f) := by
  have := smD_run (cstD N Z x v) f (k - f) (cst N Z x v (nI k)) (q - k) (fun i hi => by
    unfold cstD; rw [show f + (k - f + i) = k + i by omega]; exact cst_cg (h _ (by omega) (by omega)) x hv)
  rw [← this, show k - f + (q - k) = q - f by omega]
theorem fst_hit {p : Nat → Bool} {k z : Nat} (hp : p k = true) (hk : k < z) : fstD p k (z - k) = nI k := by
  rw [show z - k = (z - k - 1) + 1 by omega, fstD, if_pos hp]
theorem fst_end {p : Nat → Bool} {k z : Nat} (hk : z ≤ k) : fstD p k (z - k) = -1 := by
  rw [show z - k = 0 by omega]; rfl
theorem fst_step {p : Nat → Bool} {k q z : Nat} (hkq : k ≤ q) (hp : p k = false) (h : ∀ j, k ≤ j → j < q → p j = p k) : fstD p k (z - k) = fstD p q (z - q) := by
  have := fstD_run p z (q - k) k (fun j a b => by rw [h j a (by omega), hp])
  rw [this, show k + (q - k) = q by omega]
theorem uuB_cg {N : Nat → Nat} {Z : Nat → Nat → Int32} (hw : wf N Z) {u j k : Nat} (hu : u < N 2) (h : smDay N Z (nI j) (nI k)) : uuB N Z u j = uuB N Z u k := by unfold uuB; rw [unU_cg hw h hu]
theorem unB_cg {N : Nat → Nat} {Z : Nat → Nat → Int32} (x : Int32) {v j k : Nat} (hv : v < N 0) (h : smDay N Z (nI j) (nI k)) : unB N Z x v j = unB N Z x v k := by unfold unB; rw [uns_cg h x hv]
theorem sf_step {p : Nat → Bool} {f k q : Nat} (hfk : f ≤ k) (hkq : k < q) (h : ∀ j, k ≤ j → j < q → p j = p k) : sfD p f (q - f) = if p k = true then q else sfD p f (k - f) := by
  have := sfD_run p f (k - f) (p k) (q - k) (by omega) (fun i hi => by rw [show f + (k - f + i) = k + i by omega]; exact h _ (by omega) (by omega))
  rw [show k - f + (q - k) = q - f by omega, show f + (q - f) = q by omega] at this
  exact this
