/-! the way from a device up to the source -/
def bSum (z : bSt) : Nat → Option Nat → Int
  | 0, _ => 0
  | _ + 1, none => 0
  | k + 1, some j => bZ z j + bSum z k (bU z j)
theorem bSum_none (z : bSt) (k : Nat) : bSum z k none = 0 := by cases k <;> rfl
theorem bSum_some {z : bSt} {k j : Nat} (h : j < k) : bSum z k (some j) = bZ z j + bSum z (k - 1) (bU z j) := by
  cases k with
  | zero => omega
  | succ k => rfl
theorem bSum_range {z : bSt} (hz : bOK z) : ∀ (k j : Nat), j < k → j < bN z → 1 ≤ bSum z k (some j) ∧ bSum z k (some j) ≤ 10000 * (k : Int) := by
  intro k
  induction k with
  | zero => intro j h; omega
  | succ k ih =>
    intro j h hj
    have hN := hz.1
    have f := hz.2.2.1 j (by omega)
    rw [bSum_some h, Nat.add_sub_cancel]
    cases hu : bU z j with
    | none => rw [bSum_none]; omega
    | some u =>
      have h1 := hz.2.2.2 j u hj hu
      have h2 := ih u (by omega) (by omega)
      omega
def bShort (z : bSt) (i : Nat) : Int := min 5000 (1000 * bV z / bSum z 9 (some i))
theorem bShort_range {z : bSt} (hz : bOK z) (i : Nat) (hi : i < bN z) : 0 ≤ bShort z i ∧ bShort z i ≤ 5000 := by
  have hN := hz.1
  have h1 := bSum_range hz 9 i (by omega) hi
  have h2 := hz.2.1
  have h3 := Int.ediv_nonneg (show 0 ≤ 1000 * bV z by omega) (show 0 ≤ bSum z 9 (some i) by omega)
  unfold bShort
  omega
/-- which one on the way has the least most time -/
def bQk (z : bSt) (I : Int) : Nat → Option Nat → Nat → Nat
  | 0, _, q => q
  | _ + 1, none, q => q
  | k + 1, some j, q => bQk z I k (bU z j) (if cWithin (bCh z j) true 0 (bCh z q) true I = true then j else q)
theorem bQk_none (z : bSt) (I : Int) (k q : Nat) : bQk z I k none q = q := by cases k <;> rfl
theorem bQk_some {z : bSt} {I : Int} {k j q : Nat} (h : j < k) : bQk z I k (some j) q = bQk z I (k - 1) (bU z j) (if cWithin (bCh z j) true 0 (bCh z q) true I = true then j else q) := by
  cases k with
  | zero => omega
  | succ k => rfl
theorem bQk_lt {z : bSt} (hz : bOK z) {I : Int} : ∀ (k : Nat) (o : Option Nat) (q : Nat), (∀ u, o = some u → u < bN z) → q < bN z → bQk z I k o q < bN z := by
  intro k
  induction k with
  | zero => intro o q _ hq; exact hq
  | succ k ih =>
    intro o q ho hq
    cases o with
    | none => exact hq
    | some j =>
      have hj := ho j rfl
      simp only [bQk]
      refine ih _ _ (fun u hu => by have := hz.2.2.2 j u hj hu; omega) ?_
      split
      · exact hj
      · exact hq
/-- the a-th on the way that opens -/
def bOp (z : bSt) (I : Int) (b : Nat) : Nat → Option Nat → Int → Int
  | 0, _, _ => -1
  | _ + 1, none, _ => -1
  | k + 1, some j, a => if cWithin (bCh z j) false 0 (bCh z b) true I = true then (if a = 0 then (j : Int) else bOp z I b k (bU z j) (a + (-1))) else bOp z I b k (bU z j) a
theorem bOp_none (z : bSt) (I : Int) (b k : Nat) (a : Int) : bOp z I b k none a = -1 := by cases k <;> rfl
theorem bOp_some {z : bSt} {I : Int} {b k j : Nat} {a : Int} (h : j < k) : bOp z I b k (some j) a = if cWithin (bCh z j) false 0 (bCh z b) true I = true then (if a = 0 then (j : Int) else bOp z I b (k - 1) (bU z j) (a + (-1))) else bOp z I b (k - 1) (bU z j) a := by
  cases k with
  | zero => omega
  | succ k => rfl
/-- option j of i goes with option k of u -/
def okb (z : bSt) (mg : Int) (i j u k : Nat) : Bool := decide (cFbs (cBrk (bSet z i j) (bSet z u k) mg) (cEnd (bSet z i j) (bSet z u k)) 13 1 = -1)
theorem cFit_no {p : Nat → Bool} {n j : Nat} (hj : j < n) (h : p j = false) : cFit p (n - j) j = cFit p (n - (j + 1)) (j + 1) := by
  rw [show n - j = (n - (j + 1)) + 1 by omega]
  simp [cFit, h]
theorem cFit_yes {p : Nat → Bool} {n j : Nat} (hj : j < n) (h : p j = true) : cFit p (n - j) j = (j : Int) := by
  rw [show n - j = (n - (j + 1)) + 1 by omega]
  simp [cFit, h]
theorem cFit_end {p : Nat → Bool} {n j : Nat} (hj : n ≤ j) : cFit p (n - j) j = -1 := by
  rw [show n - j = 0 by omega]
  rfl
theorem cFit_rng (p : Nat → Bool) (n : Nat) : -1 ≤ cFit p n 0 ∧ cFit p n 0 < n := by
  rcases cFit_spec p n 0 with ⟨h, -⟩ | ⟨i, -, h1, h2, -⟩
  · omega
  · omega
theorem cFit_congr {p q : Nat → Bool} : ∀ (k j : Nat), (∀ i, j ≤ i → i < j + k → p i = q i) → cFit p k j = cFit q k j := by
  intro k
  induction k with
  | zero => intro j _; rfl
  | succ k ih =>
    intro j h
    have h0 := h j (Nat.le_refl _) (by omega)
    have h1 := ih (j + 1) (fun i a b => h i (by omega) (by omega))
    simp only [cFit, h0, h1]
/-- a row of ruledOut behind a try: nothing new, or place k -/
theorem cRow_no {a : Bool} {q k : Nat} {F : Nat → Int} (h : F k ≠ -1) : (a || (decide (q < k) && decide (F q = -1))) = (a || (decide (q < k + 1) && decide (F q = -1))) := by
  by_cases hq : q = k
  · subst hq
    simp [h]
  · have e : decide (q < k + 1) = decide (q < k) := by
      by_cases h1 : q < k
      · rw [decide_eq_true h1, decide_eq_true (by omega)]
      · rw [decide_eq_false h1, decide_eq_false (by omega)]
    rw [e]
theorem cRow_yes {f : Nat → Nat → Bool} {a : Bool} {u q k : Nat} {F : Nat → Int} (h : F k = -1) (h1 : f u q = (a || (decide (q < k) && decide (F q = -1)))) : jUp f u (jUp (f u) k true) u q = (a || (decide (q < k + 1) && decide (F q = -1))) := by
  by_cases hq : q = k
  · subst hq
    rw [jUp2_s]
    simp [h]
  · rw [jUp2_n (Or.inr hq), h1]
    have e : decide (q < k + 1) = decide (q < k) := by
      by_cases h1 : q < k
      · rw [decide_eq_true h1, decide_eq_true (by omega)]
      · rw [decide_eq_false h1, decide_eq_false (by omega)]
    rw [e]
def okf (z : bSt) (mg : Int) (i j k : Nat) : Bool := match bU z i with
  | some u => okb z mg i j u k
  | none => true
theorem okf_some {z : bSt} {mg : Int} {i u : Nat} (h : bU z i = some u) (j k : Nat) : okf z mg i j k = okb z mg i j u k := by simp [okf, h]
section Rul
variable {n : Nat} {up : Nat → Option Nat} {op : Nat → Nat} {ok : Nat → Nat → Nat → Bool}
theorem cRul_s0 {m u k : Nat} (h : up (n - 1 - m) = none) : cRul n up op ok (m + 1) u k = cRul n up op ok m u k := by simp [cRul, h]
theorem cRul_s1 {m u v k : Nat} (h : up (n - 1 - m) = some u) (h2 : v ≠ u) : cRul n up op ok (m + 1) v k = cRul n up op ok m v k := by
  have h3 : ¬ u = v := fun q => h2 q.symm
  simp [cRul, h, h3]
theorem cRul_s2 {m u q : Nat} (h : up (n - 1 - m) = some u) : cRul n up op ok (m + 1) u q = (cRul n up op ok m u q || (decide (q < op u) && decide (cFit (fun j => !cRul n up op ok m (n - 1 - m) j && ok (n - 1 - m) j q) (op (n - 1 - m)) 0 = -1))) := by simp [cRul, h]
end Rul
/-- the state with the first i devices' options chosen anew -/
def zCs (z : bSt) (i : Nat) (pk : Nat → Nat) : bSt := (bN z, bV z, bU z, bK z, bP z, bL z, bM z, bO z, bS z, bD z, fun q => if q < i then pk q else bC z q, bZ z)
theorem zCs_0 (z : bSt) (pk : Nat → Nat) : zCs z 0 pk = z := by
  have e : (fun q => if q < 0 then pk q else bC z q) = bC z := by funext q; simp
  unfold zCs
  rw [e]
  rfl
theorem zCs_lt {z : bSt} {i q : Nat} {pk : Nat → Nat} (h : q < i) : bC (zCs z i pk) q = pk q := if_pos h
theorem zCs_step {z : bSt} {i q : Nat} {pk : Nat → Nat} (h : q ≠ i) : bC (zCs z (i + 1) pk) q = bC (zCs z i pk) q := by
  show (if q < i + 1 then pk q else bC z q) = if q < i then pk q else bC z q
  by_cases h1 : q < i
  · rw [if_pos h1, if_pos (by omega)]
  · rw [if_neg h1, if_neg (by omega)]
/-- what firstFor holds of a device that has been tried -/
def cHeld (z : bSt) (mg : Int) (ff : Nat → Nat → Int) (i : Nat) : Prop := (bU z i = none → ff i 0 = cF0 (bN z) (bU z) (bO z) (okf z mg) i) ∧ ∀ u, bU z i = some u → ∀ k, k < bO z u → ff i k = cFk (bN z) (bU z) (bO z) (okf z mg) i k
/-- one device more has been tried -/
theorem cTry0 {z : bSt} {mg : Int} {rl : Nat → Nat → Bool} {m : Nat} (hz : bOK z) (hm : m < bN z) (hr : ∀ i, i < bN z → ∀ k, k < 4 → rl i k = cRul (bN z) (bU z) (bO z) (okf z mg) m i k) :
    cFit (fun j => !rl (bN z - 1 - m) j) (bO z (bN z - 1 - m)) 0 = cF0 (bN z) (bU z) (bO z) (okf z mg) (bN z - 1 - m) := by
  have hN := hz.1
  have f := hz.2.2.1 (bN z - 1 - m) (by omega)
  unfold cF0 cAt
  rw [show bN z - 1 - (bN z - 1 - m) = m by omega]
  exact cFit_congr _ _ (fun j _ hj => by rw [hr _ (by omega) j (by omega)])
theorem cTry1 {z : bSt} {mg : Int} {rl : Nat → Nat → Bool} {m u k : Nat} (hz : bOK z) (hm : m < bN z) (hU : bU z (bN z - 1 - m) = some u) (hr : ∀ i, i < bN z → ∀ k, k < 4 → rl i k = cRul (bN z) (bU z) (bO z) (okf z mg) m i k) :
    cFit (fun j => !rl (bN z - 1 - m) j && okb z mg (bN z - 1 - m) j u k) (bO z (bN z - 1 - m)) 0 = cFk (bN z) (bU z) (bO z) (okf z mg) (bN z - 1 - m) k := by
  have hN := hz.1
  have f := hz.2.2.1 (bN z - 1 - m) (by omega)
  unfold cFk cAt
  rw [show bN z - 1 - (bN z - 1 - m) = m by omega]
  exact cFit_congr _ _ (fun j _ hj => by rw [hr _ (by omega) j (by omega), okf_some hU])
theorem cTry1r {z : bSt} {mg : Int} {rl r1 : Nat → Nat → Bool} {m u : Nat} (hz : bOK z) (hm : m < bN z) (hU : bU z (bN z - 1 - m) = some u) (hr : ∀ i, i < bN z → ∀ k, k < 4 → rl i k = cRul (bN z) (bU z) (bO z) (okf z mg) m i k)
    (h1 : ∀ i2, i2 ≠ u → r1 i2 = rl i2) (h2 : ∀ q, q < 4 → r1 u q = (rl u q || (decide (q < bO z u) && decide (cFit (fun j => !rl (bN z - 1 - m) j && okb z mg (bN z - 1 - m) j u q) (bO z (bN z - 1 - m)) 0 = -1)))) :
    ∀ i, i < bN z → ∀ k, k < 4 → r1 i k = cRul (bN z) (bU z) (bO z) (okf z mg) (m + 1) i k := by
  have hN := hz.1
  have f := hz.2.2.1 (bN z - 1 - m) (by omega)
  intro i hi k hk
  by_cases hiu : i = u
  · subst hiu
    rw [h2 k hk, hr i hi k hk, cRul_s2 hU]
    have e : cFit (fun j => !rl (bN z - 1 - m) j && okb z mg (bN z - 1 - m) j i k) (bO z (bN z - 1 - m)) 0 = cFit (fun j => !cRul (bN z) (bU z) (bO z) (okf z mg) m (bN z - 1 - m) j && okf z mg (bN z - 1 - m) j k) (bO z (bN z - 1 - m)) 0 :=
      cFit_congr _ _ (fun j _ hj => by rw [hr _ (by omega) j (by omega), okf_some hU])
    rw [e]
  · rw [h1 i hiu, hr i hi k hk, cRul_s1 hU hiu]
