/-! the kinds of arrays, and a setting's cells: g 0 ints, g 1 booleans, g 2 devices, g 3 settings, g 4 longs -/
abbrev ty9 (g : Nat → ClassId) : List (ClassId × FieldType) := [(g 0, .int), (g 1, .boolean), (g 2, .object "BreakerOrders$Device"), (g 3, .object "BreakerOrders$Setting"), (g 4, .long)]
def sAt (D : va_G) (g : Nat → ClassId) (a : Nat) (S : jSet) (H : Heap) : Prop :=
  ∃ ac ap al am : Nat, va_at D vwCl (a, .inr (2, [.ref ac, .int (jI (sS S)), .int (jI (sD S))])) H ∧ va_at D vwCl (ac, .inr (0, [.ref ap, .ref al, .ref am, .int (jI (sN S : Int))])) H ∧
    va_at D vwCl (ap, .inl (g 0, 6, .inl (fun j => jI (sP S j)))) H ∧ va_at D vwCl (al, .inl (g 0, 6, .inl (fun j => jI (sT S false j)))) H ∧ va_at D vwCl (am, .inl (g 0, 6, .inl (fun j => jI (sT S true j)))) H
/-! the state of the class's object: (count, voltage, upper, points, place, least, most, options, scale, delay, chosen, impedance) -/
abbrev bSt : Type := Nat × Int × (Nat → Option Nat) × (Nat → Nat) × (Nat → Nat → Int) × (Nat → Nat → Int) × (Nat → Nat → Int) × (Nat → Nat) × (Nat → Nat → Int) × (Nat → Nat → Int) × (Nat → Nat) × (Nat → Int)
def bN (z : bSt) : Nat := z.1
def bV (z : bSt) : Int := z.2.1
def bU (z : bSt) : Nat → Option Nat := z.2.2.1
def bK (z : bSt) : Nat → Nat := z.2.2.2.1
def bP (z : bSt) : Nat → Nat → Int := z.2.2.2.2.1
def bL (z : bSt) : Nat → Nat → Int := z.2.2.2.2.2.1
def bM (z : bSt) : Nat → Nat → Int := z.2.2.2.2.2.2.1
def bO (z : bSt) : Nat → Nat := z.2.2.2.2.2.2.2.1
def bS (z : bSt) : Nat → Nat → Int := z.2.2.2.2.2.2.2.2.1
def bD (z : bSt) : Nat → Nat → Int := z.2.2.2.2.2.2.2.2.2.1
def bC (z : bSt) : Nat → Nat := z.2.2.2.2.2.2.2.2.2.2.1
def bZ (z : bSt) : Nat → Int := z.2.2.2.2.2.2.2.2.2.2.2
def bSet (z : bSt) (i j : Nat) : jSet := (bK z i, bP z i, bL z i, bM z i, bS z i j, bD z i j)
def bCh (z : bSt) (i : Nat) : jSet := bSet z i (bC z i)
/-- what every state keeps to -/
def bOK (z : bSt) : Prop := bN z ≤ 8 ∧ (0 ≤ bV z ∧ bV z ≤ 1000000) ∧ (∀ i, i < 8 → 1 ≤ bO z i ∧ bO z i ≤ 4 ∧ bC z i < bO z i ∧ 1 ≤ bZ z i ∧ bZ z i ≤ 10000 ∧ ∀ j, j < bO z i → sOK (bSet z i j)) ∧ (∀ i u, i < bN z → bU z i = some u → u < i)
/-- the object's cells: 0 itself, 1 its devices, 2 + 12 i a device; + 1 its curve, + 2, + 3, + 4 the curve's arrays, + 5 its settings, + 6 .. + 9 each, + 10 ruledOut, + 11 firstFor -/
def bDev (g : Nat → ClassId) (ad : Nat → Nat) (z : bSt) (rl : Nat → Nat → Bool) (ff : Nat → Nat → Int) (i : Nat) (r : Nat) : va_E := match r with
  | 0 => .inr (1, [.int (jI (i : Int)), .ref (ad (2 + 12 * i + 1)), .ref (ad (2 + 12 * i + 5)), .ref (ad (2 + 12 * i + 10)), .ref (ad (2 + 12 * i + 11)), va_rf ((bU z i).map (fun u => ad (2 + 12 * u))), .int (jI (bO z i : Int)), .int (jI (bC z i : Int)), .int (jI (bZ z i))])
  | 1 => .inr (0, [.ref (ad (2 + 12 * i + 2)), .ref (ad (2 + 12 * i + 3)), .ref (ad (2 + 12 * i + 4)), .int (jI (bK z i : Int))])
  | 2 => .inl (g 0, 6, .inl (fun k => jI (bP z i k)))
  | 3 => .inl (g 0, 6, .inl (fun k => jI (bL z i k)))
  | 4 => .inl (g 0, 6, .inl (fun k => jI (bM z i k)))
  | 5 => .inl (g 3, 4, .inr (.inr (.inr (.inr (fun j => some (ad (2 + 12 * i + 6 + j)))))))
  | 6 => .inr (2, [.ref (ad (2 + 12 * i + 1)), .int (jI (bS z i 0)), .int (jI (bD z i 0))])
  | 7 => .inr (2, [.ref (ad (2 + 12 * i + 1)), .int (jI (bS z i 1)), .int (jI (bD z i 1))])
  | 8 => .inr (2, [.ref (ad (2 + 12 * i + 1)), .int (jI (bS z i 2)), .int (jI (bD z i 2))])
  | 9 => .inr (2, [.ref (ad (2 + 12 * i + 1)), .int (jI (bS z i 3)), .int (jI (bD z i 3))])
  | 10 => .inl (g 1, 4, .inl (fun j => jI (bI (rl i j))))
  | _ => .inl (g 0, 4, .inl (fun j => jI (ff i j)))
def bCell (g : Nat → ClassId) (ad : Nat → Nat) (z : bSt) (rl : Nat → Nat → Bool) (ff : Nat → Nat → Int) (q : Nat) : va_E :=
  if q = 0 then .inr (3, [.ref (ad 1), .int (jI (bN z : Int)), .int (jI (bV z))])
  else if q = 1 then .inl (g 2, 8, .inr (.inr (.inr (.inr (fun j => some (ad (2 + 12 * j)))))))
  else bDev g ad z rl ff ((q - 2) / 12) ((q - 2) % 12)
def bW (D : va_G) (g : Nat → ClassId) (ad : Nat → Nat) (z : bSt) (rl : Nat → Nat → Bool) (ff : Nat → Nat → Int) (H : Heap) : Prop := ∀ q, q < 98 → va_at D vwCl (ad q, bCell g ad z rl ff q) H
def bInj (ad : Nat → Nat) : Prop := ∀ p q, p < 98 → q < 98 → ad p = ad q → p = q
theorem bCell_dev {g : Nat → ClassId} {ad : Nat → Nat} {z : bSt} {rl : Nat → Nat → Bool} {ff : Nat → Nat → Int} (i r : Nat) (hr : r < 12) : bCell g ad z rl ff (2 + 12 * i + r) = bDev g ad z rl ff i r := by
  unfold bCell
  rw [if_neg (by omega), if_neg (by omega), show (2 + 12 * i + r - 2) / 12 = i by omega, show (2 + 12 * i + r - 2) % 12 = r by omega]
theorem bW_at {D : va_G} {g : Nat → ClassId} {ad : Nat → Nat} {z : bSt} {rl : Nat → Nat → Bool} {ff : Nat → Nat → Int} {H : Heap} (h : bW D g ad z rl ff H) {i : Nat} (hi : i < 8) (r : Nat) (hr : r < 12) : va_at D vwCl (ad (2 + 12 * i + r), bDev g ad z rl ff i r) H := by
  have := h (2 + 12 * i + r) (by omega)
  rw [bCell_dev i r hr] at this
  exact this
theorem bW_sobj {D : va_G} {g : Nat → ClassId} {ad : Nat → Nat} {z : bSt} {rl : Nat → Nat → Bool} {ff : Nat → Nat → Int} {H : Heap} (h : bW D g ad z rl ff H) {i j : Nat} (hi : i < 8) (hj : j < 4) : va_at D vwCl (ad (2 + 12 * i + 6 + j), .inr (2, [.ref (ad (2 + 12 * i + 1)), .int (jI (bS z i j)), .int (jI (bD z i j))])) H := by
  have h6 := bW_at h hi (6 + j) (by omega)
  rw [show 2 + 12 * i + (6 + j) = 2 + 12 * i + 6 + j by omega] at h6
  rcases (show j = 0 ∨ j = 1 ∨ j = 2 ∨ j = 3 by omega) with rfl | rfl | rfl | rfl <;> exact h6
/-- a setting's cells out of the object's -/
theorem bW_set {D : va_G} {g : Nat → ClassId} {ad : Nat → Nat} {z : bSt} {rl : Nat → Nat → Bool} {ff : Nat → Nat → Int} {H : Heap} (h : bW D g ad z rl ff H) {i j : Nat} (hi : i < 8) (hj : j < 4) : sAt D g (ad (2 + 12 * i + 6 + j)) (bSet z i j) H := by
  exact ⟨ad (2 + 12 * i + 1), ad (2 + 12 * i + 2), ad (2 + 12 * i + 3), ad (2 + 12 * i + 4), bW_sobj h hi hj, bW_at h hi 1 (by omega), bW_at h hi 2 (by omega), bW_at h hi 3 (by omega), bW_at h hi 4 (by omega)⟩
/-- one cell is written -/
theorem bW_put {D : va_G} {g : Nat → ClassId} {ad : Nat → Nat} {z z' : bSt} {rl rl' : Nat → Nat → Bool} {ff ff' : Nat → Nat → Int} {H H1 : Heap} (hj : bInj ad) (h : bW D g ad z rl ff H) (q0 : Nat) (h0 : q0 < 98) (oq : ∀ q, q ≠ ad q0 → H1[q]? = H[q]?) (hn : va_at D vwCl (ad q0, bCell g ad z' rl' ff' q0) H1) (hs : ∀ q, q < 98 → q ≠ q0 → bCell g ad z' rl' ff' q = bCell g ad z rl ff q) : bW D g ad z' rl' ff' H1 := by
  intro q hq
  by_cases hqq : q = q0
  · subst hqq
    exact hn
  · rw [hs q hq hqq]
    exact (h q hq).kept (oq _ (fun e => hqq (hj q q0 hq h0 e)))
theorem bCell_same {g : Nat → ClassId} {ad : Nat → Nat} {z z' : bSt} {rl rl' : Nat → Nat → Bool} {ff ff' : Nat → Nat → Int} (i0 r0 : Nat) (hN : bN z' = bN z) (hV : bV z' = bV z) (h : ∀ i r, r < 12 → (i ≠ i0 ∨ r ≠ r0) → bDev g ad z' rl' ff' i r = bDev g ad z rl ff i r) : ∀ q, q < 98 → q ≠ 2 + 12 * i0 + r0 → bCell g ad z' rl' ff' q = bCell g ad z rl ff q := by
  intro q hq hne
  unfold bCell
  rw [hN, hV]
  by_cases h0 : q = 0
  · rw [if_pos h0, if_pos h0]
  · rw [if_neg h0, if_neg h0]
    by_cases h1 : q = 1
    · rw [if_pos h1, if_pos h1]
    · rw [if_neg h1, if_neg h1]
      exact h _ _ (by omega) (by omega)
