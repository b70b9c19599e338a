/-! the reference's search in depth -/
section Dfs
variable {n : Nat} {up : Nat → Option Nat} {op : Nat → Nat} {ok : Nat → Nat → Nat → Bool}
/-- e devices, the last of them being tried, are under way with options t; no row that fits comes before them -/
def dInv (n : Nat) (up : Nat → Option Nat) (op : Nat → Nat) (ok : Nat → Nat → Nat → Bool) (e : Nat) (t : Nat → Nat) : Prop :=
  e ≤ n + 1 ∧ (e = 0 → ∀ q, ¬ vRow n up op ok q) ∧ (∀ i, i + 1 < e → t i < op i ∧ ∀ u, up i = some u → ok i (t i) (t u) = true) ∧ (∀ i, i + 1 = e → i < n → t i ≤ op i) ∧ ∀ q, vRow n up op ok q → ∀ i, i < e → i < n → (∀ j, j < i → q j = t j) → t i ≤ q i
theorem dInv_start (t : Nat → Nat) (h : t 0 = 0) : dInv n up op ok 1 t :=
  ⟨by omega, fun h => by omega, fun i h => by omega, fun i h1 h2 => by rw [show i = 0 by omega, h]; omega, fun q hq i h1 h2 h3 => by rw [show i = 0 by omega, h]; omega⟩
theorem dInv_out {t : Nat → Nat} (hI : dInv n up op ok 1 t) (hn : 0 < n) (h : t 0 = op 0) : dInv n up op ok 0 t := by
  refine ⟨by omega, fun _ q hq => ?_, fun i h => by omega, fun i h => by omega, fun q hq i h => by omega⟩
  have h1 := hI.2.2.2.2 q hq 0 (by omega) hn (fun j hj => by omega)
  have h2 := (hq 0 hn).1
  omega
theorem dInv_back {t : Nat → Nat} {d : Nat} (hup : ∀ i u, i < n → up i = some u → u < i) (hI : dInv n up op ok (d + 2) t) (hn : d + 1 < n) (h : t (d + 1) = op (d + 1)) : dInv n up op ok (d + 1) (jUp t d (t d + 1)) := by
  obtain ⟨-, -, h3, h4, h5⟩ := hI
  refine ⟨by omega, fun h => by omega, fun i hi => ?_, fun i hi hn2 => ?_, fun q hq i hi hn2 hj => ?_⟩
  · obtain ⟨a1, a2⟩ := h3 i (by omega)
    rw [jUp_n (by omega)]
    refine ⟨a1, fun u hu => ?_⟩
    have := hup i u (by omega) hu
    rw [jUp_n (by omega)]
    exact a2 u hu
  · have : i = d := by omega
    subst this
    rw [jUp_s]
    have := (h3 i (by omega)).1
    omega
  · by_cases hid : i = d
    · subst hid
      rw [jUp_s]
      have hj2 : ∀ j, j < i → q j = t j := fun j hjl => by rw [hj j hjl, jUp_n (by omega)]
      have b1 := h5 q hq i (by omega) hn2 hj2
      by_cases he : t i = q i
      · exfalso
        have b2 := h5 q hq (i + 1) (by omega) hn (fun j hjl => by
          by_cases hji : j = i
          · rw [hji, he]
          · exact hj2 j (by omega))
        have b3 := (hq (i + 1) hn).1
        omega
      · omega
    · rw [jUp_n hid]
      exact h5 q hq i (by omega) hn2 (fun j hjl => by rw [hj j hjl, jUp_n (by omega)])
theorem dInv_fwd {t t' : Nat → Nat} {d : Nat} (hup : ∀ i u, i < n → up i = some u → u < i) (hI : dInv n up op ok (d + 1) t) (hn : d < n) (h1 : t d < op d) (h2 : ∀ u, up d = some u → ok d (t d) (t u) = true) (he : ∀ i, i ≤ d → t' i = t i) (h0 : d + 1 < n → t' (d + 1) = 0) : dInv n up op ok (d + 2) t' := by
  obtain ⟨-, -, h3, h4, h5⟩ := hI
  refine ⟨by omega, fun h => by omega, fun i hi => ?_, fun i hi hn2 => ?_, fun q hq i hi hn2 hj => ?_⟩
  · rw [he i (by omega)]
    by_cases hid : i = d
    · subst hid
      refine ⟨h1, fun u hu => ?_⟩
      have := hup i u hn hu
      rw [he u (by omega)]
      exact h2 u hu
    · obtain ⟨a1, a2⟩ := h3 i (by omega)
      refine ⟨a1, fun u hu => ?_⟩
      have := hup i u (by omega) hu
      rw [he u (by omega)]
      exact a2 u hu
  · have : i = d + 1 := by omega
    subst this
    rw [h0 hn2]
    omega
  · by_cases hid : i = d + 1
    · subst hid
      rw [h0 hn2]
      omega
    · rw [he i (by omega)]
      exact h5 q hq i (by omega) hn2 (fun j hjl => by rw [hj j hjl, he j (by omega)])
theorem dInv_next {t : Nat → Nat} {d : Nat} (hup : ∀ i u, i < n → up i = some u → u < i) (hI : dInv n up op ok (d + 1) t) (hn : d < n) (h1 : t d < op d) (h2 : ∃ u, up d = some u ∧ ok d (t d) (t u) = false) : dInv n up op ok (d + 1) (jUp t d (t d + 1)) := by
  obtain ⟨-, -, h3, h4, h5⟩ := hI
  refine ⟨by omega, fun h => by omega, fun i hi => ?_, fun i hi hn2 => ?_, fun q hq i hi hn2 hj => ?_⟩
  · obtain ⟨a1, a2⟩ := h3 i (by omega)
    rw [jUp_n (by omega)]
    refine ⟨a1, fun u hu => ?_⟩
    have := hup i u (by omega) hu
    rw [jUp_n (by omega)]
    exact a2 u hu
  · have : i = d := by omega
    subst this
    rw [jUp_s]
    omega
  · by_cases hid : i = d
    · subst hid
      rw [jUp_s]
      have hj2 : ∀ j, j < i → q j = t j := fun j hjl => by rw [hj j hjl, jUp_n (by omega)]
      have b1 := h5 q hq i (by omega) hn2 hj2
      by_cases he : t i = q i
      · exfalso
        obtain ⟨u, hu, hf⟩ := h2
        have b3 := (hq i hn).2 u hu
        rw [hj2 u (hup i u hn hu), ← he, hf] at b3
        cases b3
      · omega
    · rw [jUp_n hid]
      exact h5 q hq i (by omega) hn2 (fun j hjl => by rw [hj j hjl, jUp_n (by omega)])
theorem dInv_end {t : Nat → Nat} (hI : dInv n up op ok (n + 1) t) : fRow n up op ok t := by
  obtain ⟨-, -, h3, -, h5⟩ := hI
  refine ⟨fun i hi => h3 i (by omega), fun q hq => ?_⟩
  by_cases hall : ∀ i, i < n → t i = q i
  · exact Or.inl hall
  · refine Or.inr ?_
    have hex : ∃ i, i < n ∧ t i ≠ q i := by
      apply Classical.byContradiction
      intro hn
      exact hall (fun i hi => Classical.byContradiction (fun h => hn ⟨i, hi, h⟩))
    obtain ⟨i, ⟨hi, hne⟩, hmin⟩ := pk_least (fun i => i < n ∧ t i ≠ q i) hex
    have hsame : ∀ j, j < i → t j = q j := fun j hj => Classical.byContradiction (fun h => hmin j hj ⟨by omega, h⟩)
    have := h5 q hq i (by omega) hi (fun j hj => (hsame j hj).symm)
    exact ⟨i, hi, hsame, by omega⟩
/-! the search ends -/
def dPw (k : Nat) : Nat := 6 ^ (9 - k)
theorem dPw_s {k : Nat} (h : k < 9) : dPw k = 6 * dPw (k + 1) := by
  unfold dPw
  rw [show 9 - k = (9 - (k + 1)) + 1 by omega, Nat.pow_succ]
  omega
theorem dPw_p (k : Nat) : 0 < dPw k := Nat.pow_pos (by decide)
def dVl (t : Nat → Nat) : Nat → Nat
  | 0 => 0
  | k + 1 => dVl t k + t k * dPw k
theorem dVl_congr {t r : Nat → Nat} : ∀ k, (∀ i, i < k → t i = r i) → dVl t k = dVl r k
  | 0, _ => rfl
  | k + 1, h => by
    show dVl t k + t k * dPw k = dVl r k + r k * dPw k
    rw [dVl_congr k (fun i hi => h i (by omega)), h k (by omega)]
theorem dVl_le {t : Nat → Nat} : ∀ k, k ≤ 9 → (∀ i, i < k → t i ≤ 4) → dVl t k + 5 * dPw k ≤ 5 * dPw 0 := by
  intro k
  induction k with
  | zero => intro _ _; show 0 + 5 * dPw 0 ≤ 5 * dPw 0; omega
  | succ k ih =>
    intro hk ht
    have h1 := ih (by omega) (fun i hi => ht i (by omega))
    have h2 : t k * dPw k ≤ 4 * dPw k := Nat.mul_le_mul_right _ (ht k (by omega))
    have h3 := dPw_s (k := k) (by omega)
    show dVl t k + t k * dPw k + 5 * dPw (k + 1) ≤ 5 * dPw 0
    omega
def dMu (n e : Nat) (t : Nat → Nat) : Nat := if e = 0 then 0 else 5 * dPw 0 + 20 - (dVl t (min e n) + e)
theorem dInv_4 {t : Nat → Nat} {e : Nat} (hI : dInv n up op ok e t) (hop : ∀ i, i < n → op i ≤ 4) : ∀ i, i < min e n → t i ≤ 4 := by
  intro i hi
  have h4 := hop i (by omega)
  by_cases h : i + 1 = e
  · have := hI.2.2.2.1 i h (by omega)
    omega
  · have := (hI.2.2.1 i (by omega)).1
    omega
theorem dMu_out {t t' : Nat → Nat} {e : Nat} (hn8 : n ≤ 8) (hI : dInv n up op ok (e + 1) t) (hop : ∀ i, i < n → op i ≤ 4) : dMu n 0 t' < dMu n (e + 1) t := by
  have h1 := dVl_le (min (e + 1) n) (by omega) (dInv_4 hI hop)
  have h2 := hI.1
  unfold dMu
  rw [if_pos rfl, if_neg (by omega)]
  omega
theorem dMu_lt {t t' : Nat → Nat} {e e' : Nat} (hn8 : n ≤ 8) (hI : dInv n up op ok e' t') (hop : ∀ i, i < n → op i ≤ 4) (h0 : e ≠ 0) (h0' : e' ≠ 0) (h : dVl t (min e n) + e < dVl t' (min e' n) + e') : dMu n e' t' < dMu n e t := by
  have h1 := dVl_le (min e' n) (by omega) (dInv_4 hI hop)
  have h2 := hI.1
  unfold dMu
  rw [if_neg h0, if_neg h0']
  omega
theorem dMu_back {t : Nat → Nat} {d : Nat} (hn8 : n ≤ 8) (hI : dInv n up op ok (d + 1) (jUp t d (t d + 1))) (hop : ∀ i, i < n → op i ≤ 4) (hn : d + 1 < n) (h4 : t (d + 1) ≤ 4) : dMu n (d + 1) (jUp t d (t d + 1)) < dMu n (d + 2) t := by
  refine dMu_lt hn8 hI hop (by omega) (by omega) ?_
  rw [show min (d + 2) n = d + 2 by omega, show min (d + 1) n = d + 1 by omega]
  show dVl t d + t d * dPw d + t (d + 1) * dPw (d + 1) + (d + 2) < dVl (jUp t d (t d + 1)) d + jUp t d (t d + 1) d * dPw d + (d + 1)
  rw [jUp_s, dVl_congr (t := jUp t d (t d + 1)) (r := t) d (fun i hi => jUp_n (by omega)), Nat.add_mul]
  have h1 := dPw_s (k := d) (by omega)
  have h2 : t (d + 1) * dPw (d + 1) ≤ 4 * dPw (d + 1) := Nat.mul_le_mul_right _ h4
  have h3 := dPw_p (d + 1)
  omega
theorem dMu_next {t : Nat → Nat} {d : Nat} (hn8 : n ≤ 8) (hI : dInv n up op ok (d + 1) (jUp t d (t d + 1))) (hop : ∀ i, i < n → op i ≤ 4) (hn : d < n) : dMu n (d + 1) (jUp t d (t d + 1)) < dMu n (d + 1) t := by
  refine dMu_lt hn8 hI hop (by omega) (by omega) ?_
  rw [show min (d + 1) n = d + 1 by omega]
  show dVl t d + t d * dPw d + (d + 1) < dVl (jUp t d (t d + 1)) d + jUp t d (t d + 1) d * dPw d + (d + 1)
  rw [jUp_s, dVl_congr (t := jUp t d (t d + 1)) (r := t) d (fun i hi => jUp_n (by omega)), Nat.add_mul]
  have h3 := dPw_p d
  omega
theorem dMu_fwd {t t' : Nat → Nat} {d : Nat} (hn8 : n ≤ 8) (hI : dInv n up op ok (d + 2) t') (hop : ∀ i, i < n → op i ≤ 4) (hn : d < n) (he : ∀ i, i ≤ d → t' i = t i) (h0 : d + 1 < n → t' (d + 1) = 0) : dMu n (d + 2) t' < dMu n (d + 1) t := by
  refine dMu_lt hn8 hI hop (by omega) (by omega) ?_
  have h1 : dVl t' (d + 1) = dVl t (d + 1) := dVl_congr (d + 1) (fun i hi => he i (by omega))
  rw [show min (d + 1) n = d + 1 by omega]
  by_cases hd : d + 1 < n
  · rw [show min (d + 2) n = d + 2 by omega]
    show dVl t (d + 1) + (d + 1) < dVl t' (d + 1) + t' (d + 1) * dPw (d + 1) + (d + 2)
    rw [h0 hd, h1]
    omega
  · rw [show min (d + 2) n = d + 1 by omega, h1]
    omega
end Dfs
/-! the reference's memory of what fits -/
def mMem (z : bSt) (mg : Int) (f : Nat → Int) : Prop := ∀ i j u k, i < bN z → bU z i = some u → j < bO z i → k < bO z u → f (16 * i + 4 * j + k) = 0 ∨ f (16 * i + 4 * j + k) = if okb z mg i j u k = true then 1 else 2
theorem okb_all {z : bSt} {mg : Int} {i j u k : Nat} (h1 : sOK (bSet z i j)) (h2 : sOK (bSet z u k)) (h : ∀ I, 1 ≤ I → I < 5001 → cWithin (bSet z i j) true mg (bSet z u k) false I = true) : okb z mg i j u k = true := by
  unfold okb
  rcases cFbs_all h1 h2 mg with ⟨b1, -⟩ | ⟨g, b1, b2, -, -, b5⟩
  · rw [decide_eq_true b1]
  · exfalso
    rcases b5 with b5 | ⟨-, b5⟩
    · have := h g b1 (by omega)
      rw [cBrk, this] at b5
      cases b5
    · have r := cEnd_range h1 h2 b2
      have := h (cEnd (bSet z i j) (bSet z u k) g) (by omega) (by omega)
      rw [cBrk, this] at b5
      cases b5
theorem okb_not {z : bSt} {mg : Int} {i j u k : Nat} (h1 : sOK (bSet z i j)) (h2 : sOK (bSet z u k)) {I : Int} (hI : 1 ≤ I ∧ I ≤ 5000) (h : cWithin (bSet z i j) true mg (bSet z u k) false I = false) : okb z mg i j u k = false := by
  unfold okb
  rcases cFbs_all h1 h2 mg with ⟨b1, b2⟩ | ⟨g, b1, b2, b3, -, -⟩
  · exfalso
    have := b2 I hI.1 hI.2
    rw [cBrk, h] at this
    cases this
  · rw [decide_eq_false (by omega)]
theorem mMem_put {z : bSt} {mg : Int} {f : Nat → Int} (hz : bOK z) (hm : mMem z mg f) {i j u k : Nat} (hi : i < bN z) (hU : bU z i = some u) (hj : j < bO z i) (hk : k < bO z u) {v : Int} (hv : v = if okb z mg i j u k = true then 1 else 2) : mMem z mg (jUp f (16 * i + 4 * j + k) v) := by
  intro i2 j2 u2 k2 a1 a2 a3 a4
  have hN := hz.1
  have f1 := (hz.2.2.1 i (by omega)).2.1
  have f2 := (hz.2.2.1 i2 (by omega)).2.1
  have u1 := hz.2.2.2 i u hi hU
  have u2' := hz.2.2.2 i2 u2 a1 a2
  have g1 := (hz.2.2.1 u (by omega)).2.1
  have g2 := (hz.2.2.1 u2 (by omega)).2.1
  rw [jUp_at]
  by_cases h : 16 * i2 + 4 * j2 + k2 = 16 * i + 4 * j + k
  · rw [if_pos h]
    have e1 : i2 = i := by omega
    have e2 : j2 = j := by omega
    have e3 : k2 = k := by omega
    subst e1 e2 e3
    rw [hU] at a2
    cases a2
    exact Or.inr hv
  · rw [if_neg h]
    exact hm i2 j2 u2 k2 a1 a2 a3 a4
theorem mR_ext {z : bSt} {dv vo : Int} {A B : Nat → Nat → Int} (hR : mR z dv vo A) (h : ∀ a, a ≤ 10 → B a = A a) : mR z dv vo B := by
  obtain ⟨h1, h2, h3⟩ := hR
  refine ⟨h1, h2, fun i hi => ?_⟩
  rw [h 1 (by omega), h 2 (by omega), h 3 (by omega), h 4 (by omega), h 5 (by omega), h 6 (by omega), h 7 (by omega), h 8 (by omega), h 9 (by omega), h 10 (by omega)]
  exact h3 i hi
theorem mR_Cs {z : bSt} {dv vo : Int} {A B : Nat → Nat → Int} {pk : Nat → Nat} (hR : mR z dv vo A) (h : ∀ a, a ≤ 10 → a ≠ 9 → B a = A a) (h9 : ∀ i, i < bN z → B 9 i = (pk i : Int)) : mR (zCs z (bN z) pk) dv vo B := by
  obtain ⟨h1, h2, h3⟩ := hR
  refine ⟨h1, h2, fun i hi => ?_⟩
  have hi : i < bN z := hi
  obtain ⟨e1, e2, e3, e6, e7, e9, e10⟩ := h3 i hi
  rw [h 1 (by omega) (by omega), h 2 (by omega) (by omega), h 3 (by omega) (by omega), h 4 (by omega) (by omega), h 5 (by omega) (by omega), h 6 (by omega) (by omega), h 7 (by omega) (by omega), h 8 (by omega) (by omega), h 10 (by omega) (by omega)]
  refine ⟨e1, e2, e3, e6, e7, ?_, e10⟩
  rw [zCs_lt hi]
  exact h9 i hi
