theorem mU_at {α : Type} (A : Nat → Nat → α) (a k : Nat) (v : α) (b j : Nat) : jUp A a (jUp (A a) k v) b j = if b = a ∧ j = k then v else A b j := by
  by_cases h : b = a ∧ j = k
  · obtain ⟨rfl, rfl⟩ := h
    rw [if_pos ⟨rfl, rfl⟩, jUp2_s]
  · rw [if_neg h]
    exact jUp2_n (by omega)
theorem jUp_at {α : Type} (f : Nat → α) (k : Nat) (v : α) (j : Nat) : jUp f k v j = if j = k then v else f j := rfl
section MR
variable {z : bSt} {dv vo : Int} {AA : Nat → Nat → Int}
theorem mR_C {d o : Nat} (hR : mR z dv vo AA) : mR (zC z d o) dv vo (jUp AA 9 (jUp (AA 9) d (o : Int))) := by
  obtain ⟨h1, h2, h3⟩ := hR
  refine ⟨h1, h2, fun i hi => ?_⟩
  obtain ⟨e1, e2, e3, e6, e7, e9, e10⟩ := h3 i hi
  refine ⟨?_, ?_, fun k hk => ⟨?_, ?_, ?_⟩, ?_, fun j hj => ⟨?_, ?_⟩, ?_, ?_⟩
  · rw [mU_at, if_neg (by omega)]; exact e1
  · rw [mU_at, if_neg (by omega)]; exact e2
  · rw [mU_at, if_neg (by omega)]; exact (e3 k hk).1
  · rw [mU_at, if_neg (by omega)]; exact (e3 k hk).2.1
  · rw [mU_at, if_neg (by omega)]; exact (e3 k hk).2.2
  · rw [mU_at, if_neg (by omega)]; exact e6
  · rw [mU_at, if_neg (by omega)]; exact (e7 j hj).1
  · rw [mU_at, if_neg (by omega)]; exact (e7 j hj).2
  · show _ = ((jUp (bC z) d o i : Nat) : Int)
    rw [mU_at, jUp_at]
    by_cases h : i = d
    · rw [if_pos ⟨rfl, h⟩, if_pos h]
    · rw [if_neg (by omega), if_neg h]; exact e9
  · rw [mU_at, if_neg (by omega)]; exact e10
theorem mR_Z {d : Nat} {v : Int} (hR : mR z dv vo AA) : mR (zZ z d v) dv vo (jUp AA 10 (jUp (AA 10) d v)) := by
  obtain ⟨h1, h2, h3⟩ := hR
  refine ⟨h1, h2, fun i hi => ?_⟩
  obtain ⟨e1, e2, e3, e6, e7, e9, e10⟩ := h3 i hi
  refine ⟨?_, ?_, fun k hk => ⟨?_, ?_, ?_⟩, ?_, fun j hj => ⟨?_, ?_⟩, ?_, ?_⟩
  · rw [mU_at, if_neg (by omega)]; exact e1
  · rw [mU_at, if_neg (by omega)]; exact e2
  · rw [mU_at, if_neg (by omega)]; exact (e3 k hk).1
  · rw [mU_at, if_neg (by omega)]; exact (e3 k hk).2.1
  · rw [mU_at, if_neg (by omega)]; exact (e3 k hk).2.2
  · rw [mU_at, if_neg (by omega)]; exact e6
  · rw [mU_at, if_neg (by omega)]; exact (e7 j hj).1
  · rw [mU_at, if_neg (by omega)]; exact (e7 j hj).2
  · rw [mU_at, if_neg (by omega)]; exact e9
  · show _ = jUp (bZ z) d v i
    rw [mU_at, jUp_at]
    by_cases h : i = d
    · rw [if_pos ⟨rfl, h⟩, if_pos h]
    · rw [if_neg (by omega), if_neg h]; exact e10
theorem mR_V {v : Int} (hR : mR z dv vo AA) : mR (zV z v) dv v AA := ⟨hR.1, rfl, hR.2.2⟩
/-- an option more -/
theorem mR_O {d o : Nat} {sc de : Int} (hz : bOK z) (hR : mR z dv vo AA) (hd : d < bN z) (ho : bO z d = o) (ho4 : o < 4) {A1 A2 A3 : Nat → Nat → Int} (h1 : A1 = jUp AA 7 (jUp (AA 7) (4 * d + o) sc)) (h2 : A2 = jUp A1 8 (jUp (A1 8) (4 * d + o) de)) (h3 : A3 = jUp A2 6 (jUp (A2 6) d ((o : Int) + 1))) : mR (zO (zD (zS z d o sc) d o de) d (o + 1)) dv vo A3 := by
  obtain ⟨r1, r2, r3⟩ := hR
  have hN := hz.1
  have key : ∀ b j, A3 b j = if b = 6 ∧ j = d then (o : Int) + 1 else if b = 8 ∧ j = 4 * d + o then de else if b = 7 ∧ j = 4 * d + o then sc else AA b j := by
    intro b j
    rw [h3, mU_at, h2, mU_at, h1, mU_at]
  refine ⟨r1, r2, fun i hi => ?_⟩
  have hi : i < bN z := hi
  obtain ⟨e1, e2, e3, e6, e7, e9, e10⟩ := r3 i hi
  have f := hz.2.2.1 i (by omega)
  have hS : ∀ j, bS (zO (zD (zS z d o sc) d o de) d (o + 1)) i j = if i = d ∧ j = o then sc else bS z i j := fun j => mU_at (bS z) d o sc i j
  have hD : ∀ j, bD (zO (zD (zS z d o sc) d o de) d (o + 1)) i j = if i = d ∧ j = o then de else bD z i j := fun j => mU_at (bD z) d o de i j
  have hO : bO (zO (zD (zS z d o sc) d o de) d (o + 1)) i = if i = d then o + 1 else bO z i := rfl
  refine ⟨?_, ?_, fun k hk => ⟨?_, ?_, ?_⟩, ?_, fun j hj => ?_, ?_, ?_⟩
  · rw [key, if_neg (by omega), if_neg (by omega), if_neg (by omega)]; exact e1
  · rw [key, if_neg (by omega), if_neg (by omega), if_neg (by omega)]; exact e2
  · rw [key, if_neg (by omega), if_neg (by omega), if_neg (by omega)]; exact (e3 k hk).1
  · rw [key, if_neg (by omega), if_neg (by omega), if_neg (by omega)]; exact (e3 k hk).2.1
  · rw [key, if_neg (by omega), if_neg (by omega), if_neg (by omega)]; exact (e3 k hk).2.2
  · rw [key, hO]
    by_cases h : i = d
    · rw [if_pos ⟨rfl, h⟩, if_pos h]; rfl
    · rw [if_neg (by omega), if_neg (by omega), if_neg (by omega), if_neg h]; exact e6
  · rw [hO] at hj
    rw [hS, hD, key, key]
    by_cases h : i = d ∧ j = o
    · obtain ⟨rfl, rfl⟩ := h
      rw [if_neg (by omega), if_neg (by omega), if_pos ⟨rfl, rfl⟩, if_pos ⟨rfl, rfl⟩, if_neg (by omega), if_pos ⟨rfl, rfl⟩, if_pos ⟨rfl, rfl⟩]
      exact ⟨rfl, rfl⟩
    · have hj2 : j < bO z i := by
        by_cases hid : i = d
        · rw [if_pos hid] at hj; subst hid; omega
        · rw [if_neg hid] at hj; exact hj
      have hne : ¬ (4 * i + j = 4 * d + o) := by omega
      rw [if_neg (by omega), if_neg (by omega), if_neg (by omega), if_neg h, if_neg (by omega), if_neg (by omega), if_neg (by omega), if_neg h]
      exact e7 j hj2
  · rw [key, if_neg (by omega), if_neg (by omega), if_neg (by omega)]; exact e9
  · rw [key, if_neg (by omega), if_neg (by omega), if_neg (by omega)]; exact e10
/-- a point more -/
theorem mR_P {d k : Nat} {pl le mo : Int} (hz : bOK z) (hR : mR z dv vo AA) (hd : d < bN z) (hk : bK z d = k) (hk6 : k < 6) {A1 A2 A3 A4 : Nat → Nat → Int} (h1 : A1 = jUp AA 3 (jUp (AA 3) (6 * d + k) pl)) (h2 : A2 = jUp A1 4 (jUp (A1 4) (6 * d + k) le)) (h3 : A3 = jUp A2 5 (jUp (A2 5) (6 * d + k) mo)) (h4 : A4 = jUp A3 2 (jUp (A3 2) d ((k : Int) + 1))) : mR (zK (zM (zL (zP z d k pl) d k le) d k mo) d (k + 1)) dv vo A4 := by
  obtain ⟨r1, r2, r3⟩ := hR
  have hN := hz.1
  have key : ∀ b j, A4 b j = if b = 2 ∧ j = d then (k : Int) + 1 else if b = 5 ∧ j = 6 * d + k then mo else if b = 4 ∧ j = 6 * d + k then le else if b = 3 ∧ j = 6 * d + k then pl else AA b j := by
    intro b j
    rw [h4, mU_at, h3, mU_at, h2, mU_at, h1, mU_at]
  refine ⟨r1, r2, fun i hi => ?_⟩
  have hi : i < bN z := hi
  obtain ⟨e1, e2, e3, e6, e7, e9, e10⟩ := r3 i hi
  have f := (hz.2.2.1 i (by omega)).2.2.2.2.2 0 (by have := (hz.2.2.1 i (by omega)).1; omega)
  have f6 : bK z i ≤ 6 := f.1
  have hP : ∀ j, bP (zK (zM (zL (zP z d k pl) d k le) d k mo) d (k + 1)) i j = if i = d ∧ j = k then pl else bP z i j := fun j => mU_at (bP z) d k pl i j
  have hL : ∀ j, bL (zK (zM (zL (zP z d k pl) d k le) d k mo) d (k + 1)) i j = if i = d ∧ j = k then le else bL z i j := fun j => mU_at (bL z) d k le i j
  have hM : ∀ j, bM (zK (zM (zL (zP z d k pl) d k le) d k mo) d (k + 1)) i j = if i = d ∧ j = k then mo else bM z i j := fun j => mU_at (bM z) d k mo i j
  have hK : bK (zK (zM (zL (zP z d k pl) d k le) d k mo) d (k + 1)) i = if i = d then k + 1 else bK z i := rfl
  refine ⟨?_, ?_, fun j hj => ?_, ?_, fun j hj => ⟨?_, ?_⟩, ?_, ?_⟩
  · rw [key, if_neg (by omega), if_neg (by omega), if_neg (by omega), if_neg (by omega)]; exact e1
  · rw [key, hK]
    by_cases h : i = d
    · rw [if_pos ⟨rfl, h⟩, if_pos h]; rfl
    · rw [if_neg (by omega), if_neg (by omega), if_neg (by omega), if_neg (by omega), if_neg h]; exact e2
  · rw [hK] at hj
    rw [hP, hL, hM, key, key, key]
    by_cases h : i = d ∧ j = k
    · obtain ⟨rfl, rfl⟩ := h
      rw [if_neg (by omega), if_neg (by omega), if_neg (by omega), if_pos ⟨rfl, rfl⟩, if_pos ⟨rfl, rfl⟩, if_neg (by omega), if_neg (by omega), if_pos ⟨rfl, rfl⟩, if_pos ⟨rfl, rfl⟩, if_neg (by omega), if_pos ⟨rfl, rfl⟩, if_pos ⟨rfl, rfl⟩]
      exact ⟨rfl, rfl, rfl⟩
    · have hj2 : j < bK z i := by
        by_cases hid : i = d
        · rw [if_pos hid] at hj; subst hid; omega
        · rw [if_neg hid] at hj; exact hj
      have hne : ¬ (6 * i + j = 6 * d + k) := by omega
      rw [if_neg (by omega), if_neg (by omega), if_neg (by omega), if_neg (by omega), if_neg h, if_neg (by omega), if_neg (by omega), if_neg (by omega), if_neg (by omega), if_neg h, if_neg (by omega), if_neg (by omega), if_neg (by omega), if_neg (by omega), if_neg h]
      exact e3 j hj2
  · rw [key, if_neg (by omega), if_neg (by omega), if_neg (by omega), if_neg (by omega)]; exact e6
  · rw [key, if_neg (by omega), if_neg (by omega), if_neg (by omega), if_neg (by omega)]; exact (e7 j hj).1
  · rw [key, if_neg (by omega), if_neg (by omega), if_neg (by omega), if_neg (by omega)]; exact (e7 j hj).2
  · rw [key, if_neg (by omega), if_neg (by omega), if_neg (by omega), if_neg (by omega)]; exact e9
  · rw [key, if_neg (by omega), if_neg (by omega), if_neg (by omega), if_neg (by omega)]; exact e10
/-- a device that isn't there yet is as new -/
def bDef (z : bSt) : Prop := ∀ i, bN z ≤ i → i < 8 → bK z i = 0 ∧ bO z i = 1 ∧ bS z i 0 = 100 ∧ bD z i 0 = 0 ∧ bC z i = 0 ∧ bZ z i = 100
/-- a device more -/
theorem mR_D {n : Nat} {uo : Option Nat} (hz : bOK z) (hdf : bDef z) (hR : mR z dv vo AA) (hn : bN z = n) (hn8 : n < 8) {A1 A2 A3 A4 A5 A6 A7 : Nat → Nat → Int} (h1 : A1 = jUp AA 1 (jUp (AA 1) n (upI uo))) (h2 : A2 = jUp A1 2 (jUp (A1 2) n 0)) (h3 : A3 = jUp A2 6 (jUp (A2 6) n 1)) (h4 : A4 = jUp A3 7 (jUp (A3 7) (4 * n) 100)) (h5 : A5 = jUp A4 8 (jUp (A4 8) (4 * n) 0)) (h6 : A6 = jUp A5 9 (jUp (A5 9) n 0)) (h7 : A7 = jUp A6 10 (jUp (A6 10) n 100)) : mR (zN (zU z n uo) (n + 1)) ((n : Int) + 1) vo A7 := by
  obtain ⟨r1, r2, r3⟩ := hR
  have key : ∀ b j, A7 b j = if b = 10 ∧ j = n then 100 else if b = 9 ∧ j = n then 0 else if b = 8 ∧ j = 4 * n then 0 else if b = 7 ∧ j = 4 * n then 100 else if b = 6 ∧ j = n then 1 else if b = 2 ∧ j = n then 0 else if b = 1 ∧ j = n then upI uo else AA b j := by
    intro b j
    rw [h7, mU_at, h6, mU_at, h5, mU_at, h4, mU_at, h3, mU_at, h2, mU_at, h1, mU_at]
  refine ⟨rfl, r2, fun i hi => ?_⟩
  have hi : i < n + 1 := hi
  have hU : bU (zN (zU z n uo) (n + 1)) i = if i = n then uo else bU z i := rfl
  rw [hU]
  show _ ∧ A7 2 i = (bK z i : Int) ∧ (∀ k, k < bK z i → A7 3 (6 * i + k) = bP z i k ∧ A7 4 (6 * i + k) = bL z i k ∧ A7 5 (6 * i + k) = bM z i k) ∧ A7 6 i = (bO z i : Int) ∧ (∀ j, j < bO z i → A7 7 (4 * i + j) = bS z i j ∧ A7 8 (4 * i + j) = bD z i j) ∧ A7 9 i = (bC z i : Int) ∧ A7 10 i = bZ z i
  by_cases h : i = n
  · subst h
    obtain ⟨g1, g2, g3, g4, g5, g6⟩ := hdf i (by omega) hn8
    rw [g1, g2, g5, g6, if_pos rfl]
    refine ⟨by simp [key], by simp [key], fun k hk => by omega, by simp [key], fun j hj => ?_, by simp [key], by simp [key]⟩
    have : j = 0 := by omega
    subst this
    rw [g3, g4]
    exact ⟨by simp [key], by simp [key]⟩
  · obtain ⟨e1, e2, e3, e6, e7, e9, e10⟩ := r3 i (by omega)
    have f := hz.2.2.1 i (by omega)
    rw [if_neg h]
    refine ⟨by simp [key, h, e1], by simp [key, h, e2], fun k hk => by simp [key, e3 k hk], by simp [key, h, e6], fun j hj => ?_, by simp [key, h, e9], by simp [key, h, e10]⟩
    have hne : ¬ (4 * i + j = 4 * n) := by omega
    simp [key, hne, e7 j hj]
end MR
