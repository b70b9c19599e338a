/-! what every state keeps to is kept -/
section Keep
variable {z : bSt}
theorem bOK_V {v : Int} (hz : bOK z) (hv : 0 ≤ v ∧ v ≤ 1000000) : bOK (zV z v) := ⟨hz.1, hv, hz.2.2.1, hz.2.2.2⟩
theorem bOK_C {d o : Nat} (hz : bOK z) (ho : o < bO z d) : bOK (zC z d o) := by
  refine ⟨hz.1, hz.2.1, fun i hi => ?_, hz.2.2.2⟩
  obtain ⟨h1, h2, h3, h4, h5, h6⟩ := hz.2.2.1 i hi
  refine ⟨h1, h2, ?_, h4, h5, h6⟩
  show jUp (bC z) d o i < bO z i
  rw [jUp_at]
  by_cases h : i = d
  · rw [if_pos h, h]; exact ho
  · rw [if_neg h]; exact h3
theorem bOK_Z {d : Nat} {v : Int} (hz : bOK z) (hv : 1 ≤ v ∧ v ≤ 10000) : bOK (zZ z d v) := by
  refine ⟨hz.1, hz.2.1, fun i hi => ?_, hz.2.2.2⟩
  obtain ⟨h1, h2, h3, h4, h5, h6⟩ := hz.2.2.1 i hi
  have e : bZ (zZ z d v) i = if i = d then v else bZ z i := rfl
  refine ⟨h1, h2, h3, ?_, ?_, h6⟩ <;> rw [e]
  · by_cases h : i = d
    · rw [if_pos h]; exact hv.1
    · rw [if_neg h]; exact h4
  · by_cases h : i = d
    · rw [if_pos h]; exact hv.2
    · rw [if_neg h]; exact h5
theorem bOK_Cs {pk : Nat → Nat} (hz : bOK z) (hp : ∀ i, i < bN z → pk i < bO z i) : bOK (zCs z (bN z) pk) := by
  refine ⟨hz.1, hz.2.1, fun i hi => ?_, hz.2.2.2⟩
  obtain ⟨h1, h2, h3, h4, h5, h6⟩ := hz.2.2.1 i hi
  refine ⟨h1, h2, ?_, h4, h5, h6⟩
  show (if i < bN z then pk i else bC z i) < bO z i
  by_cases h : i < bN z
  · rw [if_pos h]; exact hp i h
  · rw [if_neg h]; exact h3
theorem bOK_D {n : Nat} {uo : Option Nat} (hz : bOK z) (hn : bN z = n) (hn8 : n < 8) (hu : ∀ u, uo = some u → u < n) : bOK (zN (zU z n uo) (n + 1)) := by
  refine ⟨show n + 1 ≤ 8 by omega, hz.2.1, hz.2.2.1, fun i u hi hU => ?_⟩
  have hi : i < n + 1 := hi
  have hU : jUp (bU z) n uo i = some u := hU
  rw [jUp_at] at hU
  by_cases h : i = n
  · rw [if_pos h] at hU
    have := hu u hU
    omega
  · rw [if_neg h] at hU
    exact hz.2.2.2 i u (by omega) hU
theorem bOK_O {d o : Nat} {sc de : Int} (hz : bOK z) (hd : d < 8) (ho : bO z d = o) (ho4 : o < 4) (hsc : 10 ≤ sc ∧ sc ≤ 1000) (hde : 0 ≤ de ∧ de ≤ 10000) : bOK (zO (zD (zS z d o sc) d o de) d (o + 1)) := by
  refine ⟨hz.1, hz.2.1, fun i hi => ?_, hz.2.2.2⟩
  obtain ⟨h1, h2, h3, h4, h5, h6⟩ := hz.2.2.1 i hi
  have eO : bO (zO (zD (zS z d o sc) d o de) d (o + 1)) i = if i = d then o + 1 else bO z i := rfl
  have eC : bC (zO (zD (zS z d o sc) d o de) d (o + 1)) i = bC z i := rfl
  have hO : 1 ≤ bO (zO (zD (zS z d o sc) d o de) d (o + 1)) i ∧ bO (zO (zD (zS z d o sc) d o de) d (o + 1)) i ≤ 4 ∧ bC z i < bO (zO (zD (zS z d o sc) d o de) d (o + 1)) i := by
    rw [eO]
    by_cases h : i = d
    · rw [if_pos h]; subst h; omega
    · rw [if_neg h]; exact ⟨h1, h2, h3⟩
  refine ⟨hO.1, hO.2.1, hO.2.2, h4, h5, fun j hj => ?_⟩
  have eS : bS (zO (zD (zS z d o sc) d o de) d (o + 1)) i j = if i = d ∧ j = o then sc else bS z i j := mU_at (bS z) d o sc i j
  have eD : bD (zO (zD (zS z d o sc) d o de) d (o + 1)) i j = if i = d ∧ j = o then de else bD z i j := mU_at (bD z) d o de i j
  show sOK (bK z i, bP z i, bL z i, bM z i, bS (zO (zD (zS z d o sc) d o de) d (o + 1)) i j, bD (zO (zD (zS z d o sc) d o de) d (o + 1)) i j)
  rw [eS, eD]
  by_cases h : i = d ∧ j = o
  · rw [if_pos h, if_pos h]
    have := h6 0 (by omega)
    exact ⟨this.1, this.2.1, this.2.2.1, this.2.2.2.1, hsc, hde⟩
  · rw [if_neg h, if_neg h]
    refine h6 j ?_
    rw [eO] at hj
    by_cases h2 : i = d
    · rw [if_pos h2] at hj; subst h2; omega
    · rw [if_neg h2] at hj; exact hj
theorem bOK_P {d k : Nat} {pl le mo : Int} (hz : bOK z) (hk : bK z d = k) (hk6 : k < 6) (hpl : 1 ≤ pl ∧ pl ≤ 5000) (hle : 0 ≤ le ∧ le ≤ mo) (hmo : mo ≤ 100000) (hlast : k = 0 ∨ (bP z d (k - 1) < pl ∧ 1 ≤ bP z d (k - 1))) : bOK (zK (zM (zL (zP z d k pl) d k le) d k mo) d (k + 1)) := by
  refine ⟨hz.1, hz.2.1, fun i hi => ?_, hz.2.2.2⟩
  obtain ⟨h1, h2, h3, h4, h5, h6⟩ := hz.2.2.1 i hi
  refine ⟨h1, h2, h3, h4, h5, fun j hj => ?_⟩
  have hs := h6 j hj
  by_cases h : i = d
  · subst h
    have eP : bP (zK (zM (zL (zP z i k pl) i k le) i k mo) i (k + 1)) i = jUp (bP z i) k pl := jUp_s _ _ _
    have eL : bL (zK (zM (zL (zP z i k pl) i k le) i k mo) i (k + 1)) i = jUp (bL z i) k le := jUp_s _ _ _
    have eM : bM (zK (zM (zL (zP z i k pl) i k le) i k mo) i (k + 1)) i = jUp (bM z i) k mo := jUp_s _ _ _
    have eK : bK (zK (zM (zL (zP z i k pl) i k le) i k mo) i (k + 1)) i = k + 1 := jUp_s _ _ _
    show sOK (bK (zK (zM (zL (zP z i k pl) i k le) i k mo) i (k + 1)) i, bP (zK (zM (zL (zP z i k pl) i k le) i k mo) i (k + 1)) i, bL (zK (zM (zL (zP z i k pl) i k le) i k mo) i (k + 1)) i, bM (zK (zM (zL (zP z i k pl) i k le) i k mo) i (k + 1)) i, bS z i j, bD z i j)
    rw [eP, eL, eM, eK]
    obtain ⟨s1, s2, s3, s4, s5, s6⟩ := hs
    have s2 : ∀ q, q < bK z i → 1 ≤ bP z i q ∧ bP z i q ≤ 5000 := s2
    have s3 : ∀ q b, q < bK z i → 0 ≤ sT (bSet z i j) b q ∧ sT (bSet z i j) b q ≤ 100000 := s3
    have s4 : ∀ q, q + 1 < bK z i → bP z i q < bP z i (q + 1) := s4
    rw [hk] at s2 s3 s4
    refine ⟨show k + 1 ≤ 6 by omega, fun q hq => ?_, fun q b hq => ?_, fun q hq => ?_, s5, s6⟩
    · have hq : q < k + 1 := hq
      show 1 ≤ jUp (bP z i) k pl q ∧ jUp (bP z i) k pl q ≤ 5000
      rw [jUp_at]
      by_cases hqk : q = k
      · rw [if_pos hqk]; exact hpl
      · rw [if_neg hqk]; exact s2 q (by omega)
    · have hq : q < k + 1 := hq
      cases b with
      | false =>
        show 0 ≤ jUp (bL z i) k le q ∧ jUp (bL z i) k le q ≤ 100000
        rw [jUp_at]
        by_cases hqk : q = k
        · rw [if_pos hqk]; omega
        · rw [if_neg hqk]; exact s3 q false (by omega)
      | true =>
        show 0 ≤ jUp (bM z i) k mo q ∧ jUp (bM z i) k mo q ≤ 100000
        rw [jUp_at]
        by_cases hqk : q = k
        · rw [if_pos hqk]; omega
        · rw [if_neg hqk]; exact s3 q true (by omega)
    · have hq : q + 1 < k + 1 := hq
      show jUp (bP z i) k pl q < jUp (bP z i) k pl (q + 1)
      rw [jUp_at, jUp_at, if_neg (by omega)]
      by_cases hqk : q + 1 = k
      · rw [if_pos hqk]
        rcases hlast with h0 | h0
        · omega
        · rw [show q = k - 1 by omega]; exact h0.1
      · rw [if_neg hqk]; exact s4 q (by omega)
  · have eP : bP (zK (zM (zL (zP z d k pl) d k le) d k mo) d (k + 1)) i = bP z i := jUp_n h
    have eL : bL (zK (zM (zL (zP z d k pl) d k le) d k mo) d (k + 1)) i = bL z i := jUp_n h
    have eM : bM (zK (zM (zL (zP z d k pl) d k le) d k mo) d (k + 1)) i = bM z i := jUp_n h
    have eK : bK (zK (zM (zL (zP z d k pl) d k le) d k mo) d (k + 1)) i = bK z i := jUp_n h
    show sOK (bK (zK (zM (zL (zP z d k pl) d k le) d k mo) d (k + 1)) i, bP (zK (zM (zL (zP z d k pl) d k le) d k mo) d (k + 1)) i, bL (zK (zM (zL (zP z d k pl) d k le) d k mo) d (k + 1)) i, bM (zK (zM (zL (zP z d k pl) d k le) d k mo) d (k + 1)) i, bS z i j, bD z i j)
    rw [eP, eL, eM, eK]
    exact hs
theorem bDef_V {v : Int} (h : bDef z) : bDef (zV z v) := h
theorem bDef_C {d o : Nat} (h : bDef z) (hd : d < bN z) : bDef (zC z d o) := fun i h1 h2 => by
  have h1 : bN z ≤ i := h1
  obtain ⟨a1, a2, a3, a4, a5, a6⟩ := h i h1 h2
  exact ⟨a1, a2, a3, a4, (jUp_n (by omega)).trans a5, a6⟩
theorem bDef_Z {d : Nat} {v : Int} (h : bDef z) (hd : d < bN z) : bDef (zZ z d v) := fun i h1 h2 => by
  have h1 : bN z ≤ i := h1
  obtain ⟨a1, a2, a3, a4, a5, a6⟩ := h i h1 h2
  exact ⟨a1, a2, a3, a4, a5, (jUp_n (by omega)).trans a6⟩
theorem bDef_Cs {pk : Nat → Nat} (h : bDef z) : bDef (zCs z (bN z) pk) := fun i h1 h2 => by
  have h1 : bN z ≤ i := h1
  obtain ⟨a1, a2, a3, a4, a5, a6⟩ := h i h1 h2
  refine ⟨a1, a2, a3, a4, ?_, a6⟩
  show (if i < bN z then pk i else bC z i) = 0
  rw [if_neg (by omega)]
  exact a5
theorem bDef_D {n : Nat} {uo : Option Nat} (h : bDef z) (hn : bN z = n) : bDef (zN (zU z n uo) (n + 1)) := fun i h1 h2 => by
  have h1 : n + 1 ≤ i := h1
  exact h i (by omega) h2
theorem bDef_O {d o : Nat} {sc de : Int} (h : bDef z) (hd : d < bN z) : bDef (zO (zD (zS z d o sc) d o de) d (o + 1)) := fun i h1 h2 => by
  have h1 : bN z ≤ i := h1
  obtain ⟨a1, a2, a3, a4, a5, a6⟩ := h i h1 h2
  exact ⟨a1, (jUp_n (by omega)).trans a2, (jUp2_n (Or.inl (by omega))).trans a3, (jUp2_n (Or.inl (by omega))).trans a4, a5, a6⟩
theorem bDef_P {d k : Nat} {pl le mo : Int} (h : bDef z) (hd : d < bN z) : bDef (zK (zM (zL (zP z d k pl) d k le) d k mo) d (k + 1)) := fun i h1 h2 => by
  have h1 : bN z ≤ i := h1
  obtain ⟨a1, a2, a3, a4, a5, a6⟩ := h i h1 h2
  exact ⟨(jUp_n (by omega)).trans a1, a2, a3, a4, a5, a6⟩
end Keep
