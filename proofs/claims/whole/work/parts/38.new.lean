/-! a new device's cells; a new object's addresses -/
def nPi (r : Nat) : Nat := if r ≤ 5 then r else if r ≤ 9 then r + 2 else r - 4
def dvC (g : Nat → ClassId) (b i r : Nat) : va_E := match r with
  | 0 => .inr (1, [.int (jI (i : Int)), .ref (b + 1), .ref (b + 5), .ref (b + 6), .ref (b + 7), .null, .int (jI 1), .int (jI 0), .int (jI 100)])
  | 1 => .inr (0, [.ref (b + 2), .ref (b + 3), .ref (b + 4), .int (jI 0)])
  | 2 => .inl (g 0, 6, .inl (fun _ => jI 0))
  | 3 => .inl (g 0, 6, .inl (fun _ => jI 0))
  | 4 => .inl (g 0, 6, .inl (fun _ => jI 0))
  | 5 => .inl (g 3, 4, .inr (.inr (.inr (.inr (fun j => some (b + 8 + j))))))
  | 6 => .inr (2, [.ref (b + 1), .int (jI 100), .int (jI 0)])
  | 7 => .inr (2, [.ref (b + 1), .int (jI 100), .int (jI 0)])
  | 8 => .inr (2, [.ref (b + 1), .int (jI 100), .int (jI 0)])
  | 9 => .inr (2, [.ref (b + 1), .int (jI 100), .int (jI 0)])
  | 10 => .inl (g 1, 4, .inl (fun _ => jI 0))
  | _ => .inl (g 0, 4, .inl (fun _ => jI 0))
def dvP (D : va_G) (g : Nat → ClassId) (b i : Nat) (H : Heap) : Prop := ∀ r, r < 12 → va_at D vwCl (b + nPi r, dvC g b i r) H
theorem dvP.kept {D : va_G} {g : Nat → ClassId} {b i : Nat} {H H1 : Heap} (h : dvP D g b i H) (hq : ∀ q : Nat, b ≤ q → q < b + 12 → H1[q]? = H[q]?) : dvP D g b i H1 := fun r hr => (h r hr).kept (hq _ (by omega) (by unfold nPi; split <;> (try split) <;> omega))
theorem dvP.obj {D : va_G} {g : Nat → ClassId} {b i : Nat} {H : Heap} (h : dvP D g b i H) : va_at D vwCl (b, .inr (1, [.int (jI (i : Int)), .ref (b + 1), .ref (b + 5), .ref (b + 6), .ref (b + 7), .null, .int (jI 1), .int (jI 0), .int (jI 100)])) H := h 0 (by omega)
theorem va_qcongr {D : va_G} {cl : List vw_C} {x n : Nat} {cA : ClassId} {f f' : Nat → Option Nat} {H : Heap} (hf : ∀ j, j < n → f j = f' j) (h : va_at D cl (x, .inl (cA, n, .inr (.inr (.inr (.inr f))))) H) : va_at D cl (x, .inl (cA, n, .inr (.inr (.inr (.inr f'))))) H := by
  have h : H[x]? = some (vp_cell cA (n, .inr (.inr (.inr (.inr f))))) := h
  show H[x]? = some (vp_cell cA (n, .inr (.inr (.inr (.inr f')))))
  rw [h, vp_cell_q, vp_cell_q]
  unfold arrV
  congr 2
  congr 1
  funext j
  dsimp only
  rw [hf j.val j.isLt]
def nAd (b h q : Nat) : Nat := if q = 0 then b else if q = 1 then h else h + 1 + 12 * ((q - 2) / 12) + nPi ((q - 2) % 12)
theorem nAd_dev (b h i r : Nat) (hr : r < 12) : nAd b h (2 + 12 * i + r) = h + 1 + 12 * i + nPi r := by
  unfold nAd
  rw [if_neg (by omega), if_neg (by omega), show (2 + 12 * i + r - 2) / 12 = i by omega, show (2 + 12 * i + r - 2) % 12 = r by omega]
theorem nPi_inj {r q : Nat} (hr : r < 12) (hq : q < 12) (h : nPi r = nPi q) : r = q := by
  unfold nPi at h
  split at h <;> split at h <;> (try split at h) <;> (try split at h) <;> omega
theorem nPi_lt {r : Nat} (hr : r < 12) : nPi r < 12 := by
  unfold nPi
  split <;> (try split) <;> omega
theorem nAd_inj {b h : Nat} (hb : b < h) : bInj (nAd b h) := by
  intro p q hp hq he
  unfold nAd at he
  have p1 := nPi_lt (r := (p - 2) % 12) (by omega)
  have q1 := nPi_lt (r := (q - 2) % 12) (by omega)
  by_cases p0 : p = 0
  · by_cases q0 : q = 0
    · omega
    · rw [if_pos p0, if_neg q0] at he
      by_cases q2 : q = 1
      · rw [if_pos q2] at he; omega
      · rw [if_neg q2] at he; omega
  · rw [if_neg p0] at he
    by_cases q0 : q = 0
    · rw [if_pos q0] at he
      by_cases p2 : p = 1
      · rw [if_pos p2] at he; omega
      · rw [if_neg p2] at he; omega
    · rw [if_neg q0] at he
      by_cases p2 : p = 1
      · rw [if_pos p2] at he
        by_cases q2 : q = 1
        · omega
        · rw [if_neg q2] at he; omega
      · rw [if_neg p2] at he
        by_cases q2 : q = 1
        · rw [if_pos q2] at he; omega
        · rw [if_neg q2] at he
          have hd : (p - 2) / 12 = (q - 2) / 12 := by omega
          have hm := nPi_inj (r := (p - 2) % 12) (q := (q - 2) % 12) (by omega) (by omega) (by omega)
          omega
theorem nAd_rng {b h q : Nat} (hq : q < 98) : nAd b h q = b ∨ (h ≤ nAd b h q ∧ nAd b h q < h + 97) := by
  unfold nAd
  have q1 := nPi_lt (r := (q - 2) % 12) (by omega)
  by_cases h0 : q = 0
  · rw [if_pos h0]; exact Or.inl rfl
  · rw [if_neg h0]
    by_cases h1 : q = 1
    · rw [if_pos h1]; exact Or.inr ⟨Nat.le_refl _, by omega⟩
    · rw [if_neg h1]; exact Or.inr ⟨by omega, by omega⟩
/-- a new object's state -/
def zI : bSt := (0, 0, fun _ => none, fun _ => 0, fun _ _ => 0, fun _ _ => 0, fun _ _ => 0, fun _ => 1, fun _ _ => 100, fun _ _ => 0, fun _ => 0, fun _ => 100)
theorem zI_ok : bOK zI := by
  refine ⟨show 0 ≤ 8 by omega, ⟨show (0 : Int) ≤ 0 by omega, show (0 : Int) ≤ 1000000 by omega⟩, fun i hi => ⟨Nat.le_refl 1, show 1 ≤ 4 by omega, show 0 < 1 by omega, show (1 : Int) ≤ 100 by omega, show (100 : Int) ≤ 10000 by omega, fun j hj => ?_⟩, fun i u hi => absurd hi (Nat.not_lt_zero _)⟩
  exact ⟨show 0 ≤ 6 by omega, fun q hq => absurd hq (Nat.not_lt_zero _), fun q b hq => absurd hq (Nat.not_lt_zero _), fun q hq => absurd hq (Nat.not_lt_zero _), ⟨show (10 : Int) ≤ 100 by omega, show (100 : Int) ≤ 1000 by omega⟩, ⟨show (0 : Int) ≤ 0 by omega, show (0 : Int) ≤ 10000 by omega⟩⟩
theorem zI_def : bDef zI := fun i _ _ => ⟨rfl, rfl, rfl, rfl, rfl, rfl⟩
theorem bW_new {D : va_G} {g : Nat → ClassId} {b h : Nat} {H : Heap} (h0 : va_at D vwCl (b, .inr (3, [.ref h, .int (jI 0), .int (jI 0)])) H) {f : Nat → Option Nat} (h1 : va_at D vwCl (h, .inl (g 2, 8, .inr (.inr (.inr (.inr f))))) H) (hf : ∀ j, j < 8 → f j = some (h + 1 + 12 * j)) (hd : ∀ i, i < 8 → dvP D g (h + 1 + 12 * i) i H) : bW D g (nAd b h) zI (fun _ _ => false) (fun _ _ => 0) H := by
  intro q hq
  by_cases q0 : q = 0
  · subst q0
    exact h0
  · by_cases q1 : q = 1
    · subst q1
      refine va_qcongr (f := f) (fun j hj => ?_) h1
      rw [hf j hj, show 2 + 12 * j = 2 + 12 * j + 0 from rfl, nAd_dev b h j 0 (by omega)]
      rfl
    · obtain ⟨i, r, hi, hr, rfl⟩ : ∃ i r, i < 8 ∧ r < 12 ∧ q = 2 + 12 * i + r := ⟨(q - 2) / 12, (q - 2) % 12, by omega, by omega, by omega⟩
      rw [bCell_dev i r hr]
      have hA : ∀ k, k < 12 → nAd b h (2 + 12 * i + k) = h + 1 + 12 * i + nPi k := fun k hk => nAd_dev b h i k hk
      have hv := hd i hi r hr
      rw [← hA r hr] at hv
      rcases (show r = 0 ∨ r = 1 ∨ r = 2 ∨ r = 3 ∨ r = 4 ∨ r = 5 ∨ r = 6 ∨ r = 7 ∨ r = 8 ∨ r = 9 ∨ r = 10 ∨ r = 11 by omega) with rfl | rfl | rfl | rfl | rfl | rfl | rfl | rfl | rfl | rfl | rfl | rfl
      · simp only [bDev, hA 1 (by omega), hA 5 (by omega), hA 10 (by omega), hA 11 (by omega)]
        exact hv
      · simp only [bDev, hA 2 (by omega), hA 3 (by omega), hA 4 (by omega)]
        exact hv
      · exact hv
      · exact hv
      · exact hv
      · refine va_qcongr (fun j hj => ?_) hv
        rw [show 2 + 12 * i + 6 + j = 2 + 12 * i + (6 + j) by omega, hA (6 + j) (by omega)]
        rcases (show j = 0 ∨ j = 1 ∨ j = 2 ∨ j = 3 by omega) with rfl | rfl | rfl | rfl <;> rfl
      · simp only [bDev, hA 1 (by omega)]
        exact hv
      · simp only [bDev, hA 1 (by omega)]
        exact hv
      · simp only [bDev, hA 1 (by omega)]
        exact hv
      · simp only [bDev, hA 1 (by omega)]
        exact hv
      · exact hv
      · exact hv
