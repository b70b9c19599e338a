/-! settling: options by tries from the last device to the first -/
section Settle
/-- a row of options that fits: n devices, their uppers, how many options, ok i j k: option j of i goes with option k of its upper -/
def vRow (n : Nat) (up : Nat → Option Nat) (op : Nat → Nat) (ok : Nat → Nat → Nat → Bool) (r : Nat → Nat) : Prop := ∀ i, i < n → r i < op i ∧ ∀ u, up i = some u → ok i (r i) (r u) = true
/-- r comes before q -/
def lexLt (n : Nat) (r q : Nat → Nat) : Prop := ∃ i, i < n ∧ (∀ j, j < i → r j = q j) ∧ r i < q i
/-- the first row that fits -/
def fRow (n : Nat) (up : Nat → Option Nat) (op : Nat → Nat) (ok : Nat → Nat → Nat → Bool) (r : Nat → Nat) : Prop := vRow n up op ok r ∧ ∀ q, vRow n up op ok q → (∀ i, i < n → r i = q i) ∨ lexLt n r q
theorem fRow_eq {n : Nat} {up : Nat → Option Nat} {op : Nat → Nat} {ok : Nat → Nat → Nat → Bool} {r q : Nat → Nat} (hr : fRow n up op ok r) (hq : fRow n up op ok q) : ∀ i, i < n → r i = q i := by
  rcases hr.2 q hq.1 with h | ⟨i, h1, h2, h3⟩
  · exact h
  · rcases hq.2 r hr.1 with h | ⟨j, k1, k2, k3⟩
    · exact fun i hi => (h i hi).symm
    · exfalso
      rcases Nat.lt_trichotomy i j with h | h | h
      · have := k2 i h; omega
      · subst h; omega
      · have := h2 j h; omega
/-- the first option from j on, among k, that p holds of; -1 if none -/
def cFit (p : Nat → Bool) : Nat → Nat → Int
  | 0, _ => -1
  | k + 1, j => if p j then (j : Int) else cFit p k (j + 1)
theorem cFit_spec (p : Nat → Bool) : ∀ (k j : Nat), (cFit p k j = -1 ∧ ∀ i, j ≤ i → i < j + k → p i = false) ∨ ∃ i, j ≤ i ∧ i < j + k ∧ cFit p k j = (i : Int) ∧ p i = true ∧ ∀ h, j ≤ h → h < i → p h = false := by
  intro k
  induction k with
  | zero => intro j; exact Or.inl ⟨rfl, fun i h1 h2 => by omega⟩
  | succ k ih =>
    intro j
    cases hp : p j with
    | true => exact Or.inr ⟨j, Nat.le_refl _, by omega, by simp [cFit, hp], hp, fun h h1 h2 => by omega⟩
    | false =>
      have e : cFit p (k + 1) j = cFit p k (j + 1) := by simp [cFit, hp]
      rw [e]
      rcases ih (j + 1) with ⟨h1, h2⟩ | ⟨i, h1, h2, h3, h4, h5⟩
      · refine Or.inl ⟨h1, fun i a1 a2 => ?_⟩
        by_cases hij : i = j
        · subst hij; exact hp
        · exact h2 i (by omega) (by omega)
      · refine Or.inr ⟨i, by omega, by omega, h3, h4, fun h a1 a2 => ?_⟩
        by_cases hhj : h = j
        · subst hhj; exact hp
        · exact h5 h (by omega) a2
variable (n : Nat) (up : Nat → Option Nat) (op : Nat → Nat) (ok : Nat → Nat → Nat → Bool)
/-- the options that are ruled out when m devices, the last ones, have been tried -/
def cRul : Nat → Nat → Nat → Bool
  | 0 => fun _ _ => false
  | m + 1 => fun u k => cRul m u k || (decide (up (n - 1 - m) = some u) && (decide (k < op u) && decide (cFit (fun j => !cRul m (n - 1 - m) j && ok (n - 1 - m) j k) (op (n - 1 - m)) 0 = -1)))
/-- what is ruled out when device i is tried -/
def cAt (i : Nat) : Nat → Bool := cRul n up op ok (n - 1 - i) i
def cF0 (i : Nat) : Int := cFit (fun j => !cAt n up op ok i j) (op i) 0
def cFk (i k : Nat) : Int := cFit (fun j => !cAt n up op ok i j && ok i j k) (op i) 0
theorem cRul_valid {r : Nat → Nat} (hup : ∀ i u, i < n → up i = some u → u < i) (hr : vRow n up op ok r) : ∀ m, m ≤ n → ∀ u, u < n → cRul n up op ok m u (r u) = false := by
  intro m
  induction m with
  | zero => intro _ u _; rfl
  | succ m ih =>
    intro hm u hu
    have h1 := ih (by omega) u hu
    simp only [cRul, h1, Bool.false_or]
    by_cases hc : up (n - 1 - m) = some u
    · have hv := hr (n - 1 - m) (by omega)
      have h2 := ih (by omega) (n - 1 - m) (by omega)
      rcases cFit_spec (fun j => !cRul n up op ok m (n - 1 - m) j && ok (n - 1 - m) j (r u)) (op (n - 1 - m)) 0 with ⟨a1, a2⟩ | ⟨i, a1, a2, a3, -⟩
      · have := a2 (r (n - 1 - m)) (Nat.zero_le _) (by omega)
        simp [h2, hv.2 u hc] at this
      · have : ¬ (i : Int) = -1 := by omega
        simp [a3, this]
    · simp [hc]
theorem cRul_grow (m d u k : Nat) : cRul n up op ok (m + d) u k = false → cRul n up op ok m u k = false := by
  induction d with
  | zero => exact id
  | succ d ih =>
    intro h
    apply ih
    rw [show m + (d + 1) = (m + d) + 1 by omega] at h
    simp only [cRul, Bool.or_eq_false_iff] at h
    exact h.1
/-- only those below a device rule its options out -/
theorem cRul_late (hup : ∀ i u, i < n → up i = some u → u < i) (u k : Nat) : ∀ d, (n - 1 - u) + d ≤ n → cRul n up op ok (n - 1 - u + d) u k = cRul n up op ok (n - 1 - u) u k := by
  intro d
  induction d with
  | zero => intro _; rfl
  | succ d ih =>
    intro hd
    have h1 := ih (by omega)
    rw [show n - 1 - u + (d + 1) = (n - 1 - u + d) + 1 by omega]
    simp only [cRul]
    have hne : ¬ up (n - 1 - (n - 1 - u + d)) = some u := fun h => by
      have := hup _ _ (by omega) h
      omega
    rw [h1]
    simp [hne]
/-- where an option isn't ruled out, each device below has one that goes with it -/
theorem cRul_child (hup : ∀ i u, i < n → up i = some u → u < i) {i u k : Nat} (hi : i < n) (hu : up i = some u) (hk : k < op u) (h : cAt n up op ok u k = false) : ∃ j, j < op i ∧ cFk n up op ok i k = (j : Int) ∧ cAt n up op ok i j = false ∧ ok i j k = true ∧ ∀ q, q < j → ¬ (cAt n up op ok i q = false ∧ ok i q k = true) := by
  have hlt := hup i u hi hu
  have e : n - 1 - u = (n - 1 - i + 1) + (i - u - 1) := by omega
  have h1 : cRul n up op ok (n - 1 - i + 1) u k = false := by
    unfold cAt at h
    rw [e] at h
    exact cRul_grow n up op ok _ _ u k h
  simp only [cRul, Bool.or_eq_false_iff] at h1
  have h2 := h1.2
  rw [show n - 1 - (n - 1 - i) = i by omega] at h2
  simp only [hu, hk, decide_true, Bool.true_and, decide_eq_false_iff_not] at h2
  rcases cFit_spec (fun j => !cAt n up op ok i j && ok i j k) (op i) 0 with ⟨a1, -⟩ | ⟨j, -, a2, a3, a4, a5⟩
  · exact absurd a1 h2
  · simp only [Bool.and_eq_true, Bool.not_eq_true'] at a4
    refine ⟨j, by omega, a3, a4.1, a4.2, fun q hq hh => ?_⟩
    have := a5 q (Nat.zero_le _) hq
    simp [hh.1, hh.2] at this
/-- each device's option by its upper one's -/
def cPick : Nat → Nat → Nat
  | 0, _ => 0
  | d + 1, i => match up i with
    | none => (cF0 n up op ok i).toNat
    | some u => (cFk n up op ok i (cPick d u)).toNat
theorem cPick_step (hup : ∀ i u, i < n → up i = some u → u < i) : ∀ (d e i : Nat), i < n → i < d → i < e → cPick n up op ok d i = cPick n up op ok e i := by
  intro d
  induction d with
  | zero => intro e i _ h; omega
  | succ d ih =>
    intro e i hi h1 h2
    cases e with
    | zero => omega
    | succ e =>
      simp only [cPick]
      cases hu : up i with
      | none => rfl
      | some u =>
        have := hup i u hi hu
        dsimp only
        rw [ih e u (by omega) (by omega) (by omega)]
/-- the whole: either some device below the source has no option left, and no row fits; or the picks are the first row that fits -/
theorem cPick_first (hup : ∀ i u, i < n → up i = some u → u < i) (hop : ∀ i, i < n → 0 < op i) :
    ((∃ i, i < n ∧ up i = none ∧ cF0 n up op ok i = -1) ∧ ∀ r, ¬ vRow n up op ok r) ∨
    ((∀ i, i < n → up i = none → cF0 n up op ok i ≠ -1) ∧ fRow n up op ok (cPick n up op ok (n + 1)) ∧ (∀ i, i < n → up i = none → cF0 n up op ok i = (cPick n up op ok (n + 1) i : Int)) ∧ ∀ i u, i < n → up i = some u → cFk n up op ok i (cPick n up op ok (n + 1) u) = (cPick n up op ok (n + 1) i : Int)) := by
  by_cases hE : ∃ i, i < n ∧ up i = none ∧ cF0 n up op ok i = -1
  · refine Or.inl ⟨hE, fun r hr => ?_⟩
    obtain ⟨i, hi, hu, h⟩ := hE
    have h1 := cRul_valid n up op ok hup hr (n - 1 - i) (by omega) i hi
    have h2 := (hr i hi).1
    rcases cFit_spec (fun j => !cAt n up op ok i j) (op i) 0 with ⟨-, a2⟩ | ⟨j, -, -, a3, -⟩
    · have := a2 (r i) (Nat.zero_le _) (by omega)
      simp [cAt, h1] at this
    · unfold cF0 at h; omega
  · have hR : ∀ i, i < n → up i = none → cF0 n up op ok i ≠ -1 := fun i h1 h2 h3 => hE ⟨i, h1, h2, h3⟩
    have step : ∀ i, i < n → cPick n up op ok (n + 1) i = match up i with | none => (cF0 n up op ok i).toNat | some u => (cFk n up op ok i (cPick n up op ok (n + 1) u)).toNat := by
      intro i hi
      cases hu : up i with
      | none => simp only [cPick, hu]
      | some u =>
        have := hup i u hi hu
        simp only [cPick, hu]
        rw [cPick_step n up op ok hup n (n + 1) u (by omega) (by omega) (by omega)]
        simp only [cPick]
    have inv : ∀ d i, i < d → i < n → cPick n up op ok (n + 1) i < op i ∧ cAt n up op ok i (cPick n up op ok (n + 1) i) = false := by
      intro d
      induction d with
      | zero => intro i h; omega
      | succ d ih =>
        intro i hd hi
        rw [step i hi]
        cases hu : up i with
        | none =>
          rcases cFit_spec (fun j => !cAt n up op ok i j) (op i) 0 with ⟨a1, -⟩ | ⟨j, -, a2, a3, a4, -⟩
          · exact absurd a1 (hR i hi hu)
          · have e : (cF0 n up op ok i).toNat = j := by rw [show cF0 n up op ok i = (j : Int) from a3]; rfl
            dsimp only
            rw [e]
            exact ⟨by omega, by simpa using a4⟩
        | some u =>
          have hlt := hup i u hi hu
          have h1 := ih u (by omega) (by omega)
          obtain ⟨j, b1, b2, b3, -, -⟩ := cRul_child n up op ok hup hi hu h1.1 h1.2
          dsimp only
          rw [b2]
          exact ⟨b1, b3⟩
    have root : ∀ i, i < n → up i = none → cF0 n up op ok i = (cPick n up op ok (n + 1) i : Int) ∧ ∀ q, q < cPick n up op ok (n + 1) i → cAt n up op ok i q = true := by
      intro i hi hu
      rcases cFit_spec (fun j => !cAt n up op ok i j) (op i) 0 with ⟨a1, -⟩ | ⟨j, -, a2, a3, a4, a5⟩
      · exact absurd a1 (hR i hi hu)
      · have e : cPick n up op ok (n + 1) i = j := by rw [step i hi, hu]; dsimp only; rw [show cF0 n up op ok i = (j : Int) from a3]; rfl
        rw [e]
        refine ⟨a3, fun q hq => ?_⟩
        have := a5 q (Nat.zero_le _) hq
        simpa using this
    have kid : ∀ i u, i < n → up i = some u → cFk n up op ok i (cPick n up op ok (n + 1) u) = (cPick n up op ok (n + 1) i : Int) ∧ ok i (cPick n up op ok (n + 1) i) (cPick n up op ok (n + 1) u) = true ∧ ∀ q, q < cPick n up op ok (n + 1) i → ¬ (cAt n up op ok i q = false ∧ ok i q (cPick n up op ok (n + 1) u) = true) := by
      intro i u hi hu
      have hlt := hup i u hi hu
      have h1 := inv (u + 1) u (by omega) (by omega)
      obtain ⟨j, b1, b2, b3, b4, b5⟩ := cRul_child n up op ok hup hi hu h1.1 h1.2
      have e : cPick n up op ok (n + 1) i = j := by rw [step i hi, hu]; dsimp only; rw [b2]; rfl
      rw [e]
      exact ⟨b2, b4, b5⟩
    refine Or.inr ⟨hR, ⟨fun i hi => ⟨(inv (i + 1) i (by omega) hi).1, fun u hu => (kid i u hi hu).2.1⟩, fun q hq => ?_⟩, fun i hi hu => (root i hi hu).1, fun i u hi hu => (kid i u hi hu).1⟩
    by_cases hall : ∀ i, i < n → cPick n up op ok (n + 1) i = q i
    · exact Or.inl hall
    · refine Or.inr ?_
      have hex : ∃ i, i < n ∧ cPick n up op ok (n + 1) i ≠ q i := by
        apply Classical.byContradiction
        intro hn
        exact hall (fun i hi => Classical.byContradiction (fun h => hn ⟨i, hi, h⟩))
      obtain ⟨i, ⟨hi, hne⟩, hmin⟩ := pk_least (fun i => i < n ∧ cPick n up op ok (n + 1) i ≠ q i) hex
      have hsame : ∀ j, j < i → cPick n up op ok (n + 1) j = q j := fun j hj => Classical.byContradiction (fun h => hmin j hj ⟨by omega, h⟩)
      refine ⟨i, hi, hsame, ?_⟩
      have hqf := cRul_valid n up op ok hup hq (n - 1 - i) (by omega) i hi
      rcases Nat.lt_or_ge (cPick n up op ok (n + 1) i) (q i) with h | h
      · exact h
      · exfalso
        have hlt : q i < cPick n up op ok (n + 1) i := by omega
        cases hu : up i with
        | none =>
          have := (root i hi hu).2 (q i) hlt
          unfold cAt at this
          rw [hqf] at this
          cases this
        | some u =>
          have hul := hup i u hi hu
          refine (kid i u hi hu).2.2 (q i) hlt ⟨hqf, ?_⟩
          rw [hsame u hul]
          exact (hq i hi).2 u hu
end Settle
