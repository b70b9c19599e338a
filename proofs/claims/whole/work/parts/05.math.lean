/-! what the class computes, in whole numbers: a setting is (points, places, least times, most times, scale, delay) -/
abbrev jSet : Type := Nat × (Nat → Int) × (Nat → Int) × (Nat → Int) × Int × Int
def sN (S : jSet) : Nat := S.1
def sP (S : jSet) : Nat → Int := S.2.1
def sT (S : jSet) (mo : Bool) : Nat → Int := if mo then S.2.2.2.1 else S.2.2.1
def sS (S : jSet) : Int := S.2.2.2.2.1
def sD (S : jSet) : Int := S.2.2.2.2.2
def sOK (S : jSet) : Prop := sN S ≤ 6 ∧ (∀ i, i < sN S → 1 ≤ sP S i ∧ sP S i ≤ 5000) ∧ (∀ i mo, i < sN S → 0 ≤ sT S mo i ∧ sT S mo i ≤ 100000) ∧ (∀ i, i + 1 < sN S → sP S i < sP S (i + 1)) ∧ (10 ≤ sS S ∧ sS S ≤ 1000) ∧ (0 ≤ sD S ∧ sD S ≤ 10000)
/-- the piece that a current is on, among the first n -/
def cPc (S : jSet) (I : Int) : Nat → Int
  | 0 => -1
  | k + 1 => if sS S * sP S k ≤ 100 * I then (k : Int) else cPc S I k
def cPiece (S : jSet) (I : Int) : Int := cPc S I (sN S)
/-- the first current of a piece -/
def cSt (S : jSet) (i : Nat) : Int := (sS S * sP S i + 100 - 1) / 100
def cSb (S : jSet) (I : Int) : Nat → Nat → Int
  | 0, _ => 5001
  | k + 1, i => if I < cSt S i then min (cSt S i) 5001 else cSb S I k (i + 1)
def cStart (S : jSet) (I : Int) : Int := cSb S I (sN S) 0
def cParts (S : jSet) (q : Int) : Int := if q < 0 ∨ (sN S : Int) ≤ q + 1 then 1 else sS S * (sP S (q.toNat + 1) - sP S q.toNat)
def cTime (S : jSet) (mo : Bool) (q r I : Int) : Int :=
  if (sN S : Int) ≤ q + 1 then (sT S mo q.toNat + sD S) * r else (sT S mo q.toNat + sD S) * r + (sT S mo (q.toNat + 1) - sT S mo q.toNat) * (100 * I - sS S * sP S q.toNat)
def cWhole (S : jSet) (q I : Int) (mo : Bool) : Int := if cParts S q < 1 then -1 else cTime S mo q (cParts S q) I / cParts S q
def cWithin (S : jSet) (mo : Bool) (mg : Int) (T : jSet) (tm : Bool) (I : Int) : Bool :=
  if cPiece T I = -1 then true else if cPiece S I = -1 then false else
    decide ((cTime S mo (cPiece S I) (cParts S (cPiece S I)) I + mg * cParts S (cPiece S I)) * cParts T (cPiece T I) ≤ cTime T tm (cPiece T I) (cParts T (cPiece T I)) I * cParts S (cPiece S I))
def cBrk (L U : jSet) (mg : Int) (I : Int) : Bool := !cWithin L true mg U false I
def cEnd (L U : jSet) (f : Int) : Int := min (cStart L f) (cStart U f) - 1
def cTurn (P : Int → Bool) (last : Bool) : Nat → Int → Int → Int
  | 0, _, t => t
  | k + 1, b, t => if t - b ≤ 1 then t else if P ((b + t) / 2) = last then cTurn P last k b ((b + t) / 2) else cTurn P last k ((b + t) / 2) t
def cTurnIn (P : Int → Bool) (f en : Int) : Int := cTurn P (P en) 13 f en
def cFbs (P : Int → Bool) (E : Int → Int) : Nat → Int → Int
  | 0, _ => -1
  | k + 1, f => if 5000 < f then -1 else if P f then f else if P (E f) then f else cFbs P E k (E f + 1)
def cFb (P : Int → Bool) (E : Int → Int) : Int :=
  if cFbs P E 13 1 = -1 then -1 else if P (cFbs P E 13 1) then cFbs P E 13 1 else cTurnIn P (cFbs P E 13 1) (E (cFbs P E 13 1))
def cCi (P : Int → Bool) (f en : Int) : Int :=
  if P f = P en then (if P f then en - f + 1 else 0) else if P f then cTurnIn P f en - f else en - cTurnIn P f en + 1
def cCnt (P : Int → Bool) (E : Int → Int) : Nat → Int → Int → Int
  | 0, _, s => s
  | k + 1, f, s => if 5000 < f then s else cCnt P E k (E f + 1) (s + cCi P f (E f))
/-! what the document asks -/
def dF (P : Int → Bool) : Nat → Int → Int
  | 0, _ => -1
  | k + 1, f => if P f then f else dF P k (f + 1)
def dC (P : Int → Bool) : Nat → Int → Int
  | 0, _ => 0
  | k + 1, f => (if P f then 1 else 0) + dC P k (f + 1)
/-! ===== lemmas ===== -/
theorem sOK_mono {S : jSet} (h : sOK S) : ∀ (d i : Nat), i + d < sN S → sP S i ≤ sP S (i + d) := by
  intro d
  induction d with
  | zero => intro i _; exact Int.le_refl _
  | succ d ih =>
    intro i hi
    have h1 := ih i (by omega)
    have h2 := h.2.2.2.1 (i + d) (by omega)
    have h3 : i + (d + 1) = i + d + 1 := by omega
    rw [h3]
    omega
theorem sOK_le {S : jSet} (h : sOK S) {i j : Nat} (hij : i ≤ j) (hj : j < sN S) : sS S * sP S i ≤ sS S * sP S j := by
  have h1 := sOK_mono h (j - i) i (by omega)
  rw [show i + (j - i) = j by omega] at h1
  exact Int.mul_le_mul_of_nonneg_left h1 (by have := h.2.2.2.2.1; omega)
theorem sOK_pl {S : jSet} (h : sOK S) {i : Nat} (hi : i < sN S) : 10 ≤ sS S * sP S i ∧ sS S * sP S i ≤ 5000000 := by
  have h1 := h.2.1 i hi
  have h2 := h.2.2.2.2.1
  have a1 : sS S * 1 ≤ sS S * sP S i := Int.mul_le_mul_of_nonneg_left h1.1 (by omega)
  have a2 : sS S * sP S i ≤ sS S * 5000 := Int.mul_le_mul_of_nonneg_left h1.2 (by omega)
  omega
theorem cPc_spec (S : jSet) (I : Int) : ∀ n, (cPc S I n = -1 ∧ ∀ i, i < n → 100 * I < sS S * sP S i) ∨ ∃ k, k < n ∧ cPc S I n = (k : Int) ∧ sS S * sP S k ≤ 100 * I ∧ ∀ i, k < i → i < n → 100 * I < sS S * sP S i := by
  intro n
  induction n with
  | zero => exact Or.inl ⟨rfl, fun i h => absurd h (Nat.not_lt_zero i)⟩
  | succ n ih =>
    by_cases hc : sS S * sP S n ≤ 100 * I
    · refine Or.inr ⟨n, Nat.lt_succ_self n, ?_, hc, fun i h1 h2 => by omega⟩
      simp [cPc, hc]
    · have e : cPc S I (n + 1) = cPc S I n := by simp [cPc, hc]
      rw [e]
      rcases ih with ⟨h1, h2⟩ | ⟨k, h1, h2, h3, h4⟩
      · refine Or.inl ⟨h1, fun i hi => ?_⟩
        by_cases hin : i = n
        · subst hin; omega
        · exact h2 i (by omega)
      · refine Or.inr ⟨k, by omega, h2, h3, fun i hi hi2 => ?_⟩
        by_cases hin : i = n
        · subst hin; omega
        · exact h4 i hi (by omega)
theorem cPiece_range (S : jSet) (I : Int) : -1 ≤ cPiece S I ∧ cPiece S I < sN S := by
  rcases cPc_spec S I (sN S) with ⟨h1, -⟩ | ⟨k, h1, h2, -⟩
  · rw [cPiece, h1]; omega
  · rw [cPiece, h2]; omega
theorem cSt_lt (S : jSet) (i : Nat) (I : Int) : I < cSt S i ↔ 100 * I < sS S * sP S i := by
  unfold cSt
  omega
theorem cSt_mono {S : jSet} (h : sOK S) {i j : Nat} (hij : i ≤ j) (hj : j < sN S) : cSt S i ≤ cSt S j := by
  have := sOK_le h hij hj
  unfold cSt
  omega
theorem cSb_spec {S : jSet} (h : sOK S) {I : Int} (hI : I ≤ 5000) : ∀ (k i : Nat), i + k = sN S →
    I < cSb S I k i ∧ cSb S I k i ≤ 5001 ∧ (∀ j, i ≤ j → j < sN S → I < cSt S j → cSb S I k i ≤ cSt S j) ∧ (cSb S I k i = 5001 ∨ ∃ j, j < sN S ∧ cSb S I k i = cSt S j) := by
  intro k
  induction k with
  | zero =>
    intro i hi
    refine ⟨by simp [cSb]; omega, by simp [cSb], fun j h1 h2 => by omega, Or.inl (by simp [cSb])⟩
  | succ k ih =>
    intro i hi
    by_cases hc : I < cSt S i
    · have e : cSb S I (k + 1) i = min (cSt S i) 5001 := by simp [cSb, hc]
      rw [e]
      refine ⟨by omega, by omega, fun j h1 h2 h3 => ?_, ?_⟩
      · have := cSt_mono h h1 h2
        omega
      · by_cases h5 : cSt S i ≤ 5001
        · exact Or.inr ⟨i, by omega, by omega⟩
        · exact Or.inl (by omega)
    · have e : cSb S I (k + 1) i = cSb S I k (i + 1) := by simp [cSb, hc]
      rw [e]
      obtain ⟨a1, a2, a3, a4⟩ := ih (i + 1) (by omega)
      refine ⟨a1, a2, fun j h1 h2 h3 => ?_, a4⟩
      by_cases hij : j = i
      · subst hij; exact absurd h3 hc
      · exact a3 j (by omega) h2 h3
theorem cPc_congr {S : jSet} {I J : Int} : ∀ n, (∀ i, i < n → (sS S * sP S i ≤ 100 * I ↔ sS S * sP S i ≤ 100 * J)) → cPc S I n = cPc S J n := by
  intro n
  induction n with
  | zero => intro _; rfl
  | succ n ih =>
    intro h
    have h1 := h n (Nat.lt_succ_self n)
    have h2 := ih (fun i hi => h i (by omega))
    by_cases hc : sS S * sP S n ≤ 100 * I
    · have hc2 := h1.mp hc
      simp [cPc, hc, hc2]
    · have hc2 : ¬ sS S * sP S n ≤ 100 * J := fun q => hc (h1.mpr q)
      simp [cPc, hc, hc2, h2]
/-- up to the next start the piece stays -/
theorem cPiece_const {S : jSet} (h : sOK S) {f I : Int} (hf : f ≤ 5000) (h1 : f ≤ I) (h2 : I < cStart S f) : cPiece S I = cPiece S f := by
  refine cPc_congr (sN S) (fun i hi => ?_)
  constructor
  · intro hc
    apply Classical.byContradiction
    intro hn
    have h3 : f < cSt S i := (cSt_lt S i f).mpr (by omega)
    have h4 := (cSb_spec h hf (sN S) 0 (by omega)).2.2.1 i (by omega) hi h3
    have h5 : I < cSt S i := by unfold cStart at h2; omega
    have h6 := (cSt_lt S i I).mp h5
    omega
  · intro hc
    omega
/-- neither P nor its contrary has a gap -/
def cvx (P : Int → Bool) (x y : Int) : Prop := ∀ I J K, x ≤ I → I ≤ J → J ≤ K → K ≤ y → P I = P K → P J = P I
theorem aff_cvx {P : Int → Bool} {x y al be : Int} (h : ∀ I, x ≤ I → I ≤ y → (P I = true ↔ 0 < al + be * I)) : cvx P x y := by
  intro I J K h1 h2 h3 h4 he
  have hI := h I h1 (by omega)
  have hJ := h J (by omega) (by omega)
  have hK := h K (by omega) h4
  have key : (be * I ≤ be * J ∧ be * J ≤ be * K) ∨ (be * K ≤ be * J ∧ be * J ≤ be * I) := by
    by_cases hb : 0 ≤ be
    · exact Or.inl ⟨Int.mul_le_mul_of_nonneg_left h2 hb, Int.mul_le_mul_of_nonneg_left h3 hb⟩
    · exact Or.inr ⟨Int.mul_le_mul_of_nonpos_left (by omega) h3, Int.mul_le_mul_of_nonpos_left (by omega) h2⟩
  cases hp : P I with
  | true =>
    have a1 := hI.mp hp
    have a2 := hK.mp (he ▸ hp)
    exact hJ.mpr (by omega)
  | false =>
    have a1 : ¬ 0 < al + be * I := fun q => by rw [hI.mpr q] at hp; cases hp
    have a2 : ¬ 0 < al + be * K := fun q => by rw [he, hK.mpr q] at hp; cases hp
    cases hj : P J with
    | false => rfl
    | true => exact absurd (hJ.mp hj) (by omega)
theorem const_cvx {P : Int → Bool} {x y : Int} {b : Bool} (h : ∀ I, x ≤ I → I ≤ y → P I = b) : cvx P x y := fun I J K h1 h2 h3 h4 _ => by rw [h J (by omega) (by omega), h I h1 (by omega)]
/-- a time on a piece is a straight line -/
theorem cTime_aff (S : jSet) (mo : Bool) (q r : Int) : ∃ al be : Int, ∀ I, cTime S mo q r I = al + be * I := by
  by_cases hc : (sN S : Int) ≤ q + 1
  · exact ⟨(sT S mo q.toNat + sD S) * r, 0, fun I => by simp [cTime, hc]⟩
  · refine ⟨(sT S mo q.toNat + sD S) * r - (sT S mo (q.toNat + 1) - sT S mo q.toNat) * (sS S * sP S q.toNat), (sT S mo (q.toNat + 1) - sT S mo q.toNat) * 100, fun I => ?_⟩
    simp only [cTime, if_neg hc]
    rw [Int.mul_sub, ← Int.mul_assoc]
    omega
theorem cBrk_cvx {L U : jSet} (hL : sOK L) (hU : sOK U) (mg : Int) {f : Int} (hf : f ≤ 5000) : cvx (cBrk L U mg) f (cEnd L U f) := by
  have hl : ∀ I, f ≤ I → I ≤ cEnd L U f → cPiece L I = cPiece L f := fun I h1 h2 => cPiece_const hL hf h1 (by unfold cEnd at h2; omega)
  have hu : ∀ I, f ≤ I → I ≤ cEnd L U f → cPiece U I = cPiece U f := fun I h1 h2 => cPiece_const hU hf h1 (by unfold cEnd at h2; omega)
  by_cases h1 : cPiece U f = -1
  · exact const_cvx (b := false) (fun I a1 a2 => by simp [cBrk, cWithin, hu I a1 a2, h1])
  · by_cases h2 : cPiece L f = -1
    · exact const_cvx (b := true) (fun I a1 a2 => by simp [cBrk, cWithin, hu I a1 a2, hl I a1 a2, h1, h2])
    · obtain ⟨a, b, e1⟩ := cTime_aff L true (cPiece L f) (cParts L (cPiece L f))
      obtain ⟨c, d, e2⟩ := cTime_aff U false (cPiece U f) (cParts U (cPiece U f))
      refine aff_cvx (al := (a + mg * cParts L (cPiece L f)) * cParts U (cPiece U f) - c * cParts L (cPiece L f)) (be := b * cParts U (cPiece U f) - d * cParts L (cPiece L f)) (fun I a1 a2 => ?_)
      simp only [cBrk, cWithin, hu I a1 a2, hl I a1 a2, h1, h2, if_false, Bool.not_eq_true', decide_eq_false_iff_not, e1, e2]
      generalize cParts L (cPiece L f) = X
      generalize cParts U (cPiece U f) = Y
      have q1 : (a + b * I + mg * X) * Y = (a + mg * X) * Y + b * Y * I := by
        rw [show a + b * I + mg * X = (a + mg * X) + b * I by omega, Int.add_mul, Int.mul_right_comm]
      have q2 : (c + d * I) * X = c * X + d * X * I := by
        rw [Int.add_mul, Int.mul_right_comm]
      have q3 : (b * Y - d * X) * I = b * Y * I - d * X * I := Int.sub_mul _ _ _
      rw [q1, q2, q3]
      omega
theorem cEnd_range {L U : jSet} (hL : sOK L) (hU : sOK U) {f : Int} (hf : f ≤ 5000) : f ≤ cEnd L U f ∧ cEnd L U f ≤ 5000 := by
  have h1 := cSb_spec hL hf (sN L) 0 (by omega)
  have h2 := cSb_spec hU hf (sN U) 0 (by omega)
  unfold cEnd cStart
  omega
theorem cTurn_spec {P : Int → Bool} {last : Bool} : ∀ (k : Nat) (b t : Int), b < t → t - b ≤ 2 ^ k → P b ≠ last → P t = last → b < cTurn P last k b t ∧ cTurn P last k b t ≤ t ∧ P (cTurn P last k b t) = last ∧ P (cTurn P last k b t - 1) ≠ last := by
  intro k
  induction k with
  | zero =>
    intro b t h1 h2 h3 h4
    have h5 : t - 1 = b := by simp at h2; omega
    simp only [cTurn]
    exact ⟨h1, Int.le_refl _, h4, by rw [h5]; exact h3⟩
  | succ k ih =>
    intro b t h1 h2 h3 h4
    by_cases hc : t - b ≤ 1
    · have h5 : t - 1 = b := by omega
      simp only [cTurn, if_pos hc]
      exact ⟨h1, Int.le_refl _, h4, by rw [h5]; exact h3⟩
    · have h6 : t - b ≤ 2 * 2 ^ k := by rw [Int.pow_succ] at h2; omega
      by_cases hp : P ((b + t) / 2) = last
      · have e : cTurn P last (k + 1) b t = cTurn P last k b ((b + t) / 2) := by simp only [cTurn, if_neg hc, if_pos hp]
        rw [e]
        obtain ⟨a1, a2, a3, a4⟩ := ih b ((b + t) / 2) (by omega) (by omega) h3 hp
        exact ⟨a1, by omega, a3, a4⟩
      · have e : cTurn P last (k + 1) b t = cTurn P last k ((b + t) / 2) t := by simp only [cTurn, if_neg hc, if_neg hp]
        rw [e]
        obtain ⟨a1, a2, a3, a4⟩ := ih ((b + t) / 2) t (by omega) (by omega) hp h4
        exact ⟨by omega, a2, a3, a4⟩
/-- in a stretch whose ends differ: where it turns -/
theorem cTurnIn_spec {P : Int → Bool} {f en : Int} (h1 : 1 ≤ f) (h2 : en ≤ 5000) (hfe : f ≤ en) (hc : cvx P f en) (hne : P f ≠ P en) :
    f < cTurnIn P f en ∧ cTurnIn P f en ≤ en ∧ (∀ I, f ≤ I → I < cTurnIn P f en → P I = P f) ∧ ∀ I, cTurnIn P f en ≤ I → I ≤ en → P I = P en := by
  have hlt : f < en := by
    rcases Int.lt_or_eq_of_le hfe with h | h
    · exact h
    · rw [h] at hne; exact absurd rfl hne
  obtain ⟨a1, a2, a3, a4⟩ := cTurn_spec (P := P) (last := P en) 13 f en hlt (by omega) hne rfl
  refine ⟨a1, a2, fun I b1 b2 => ?_, fun I b1 b2 => ?_⟩
  · unfold cTurnIn at b2
    refine hc f I (cTurn P (P en) 13 f en - 1) (Int.le_refl _) b1 (by omega) (by omega) ?_
    revert a4 hne
    cases P f <;> cases P en <;> cases P (cTurn P _ 13 f en - 1) <;> simp
  · unfold cTurnIn at b1
    have := hc (cTurn P (P en) 13 f en) I en (by omega) b1 b2 (Int.le_refl _) a3
    rw [this, a3]
theorem dC_add (P : Int → Bool) : ∀ (n m : Nat) (f : Int), dC P (n + m) f = dC P n f + dC P m (f + n) := by
  intro n
  induction n with
  | zero => intro m f; simp [dC]
  | succ n ih =>
    intro m f
    rw [show n + 1 + m = (n + m) + 1 by omega]
    simp only [dC]
    rw [ih m (f + 1), show f + 1 + (n : Int) = f + ((n + 1 : Nat) : Int) by omega]
    omega
theorem dC_const {P : Int → Bool} {b : Bool} : ∀ (n : Nat) (f : Int), (∀ I, f ≤ I → I < f + n → P I = b) → dC P n f = if b then (n : Int) else 0 := by
  intro n
  induction n with
  | zero => intro f _; cases b <;> simp [dC]
  | succ n ih =>
    intro f h
    have h1 := ih (f + 1) (fun I a1 a2 => h I (by omega) (by omega))
    have h2 := h f (Int.le_refl _) (by omega)
    simp only [dC, h1, h2]
    cases b <;> simp <;> omega
theorem dF_skip {P : Int → Bool} : ∀ (n m : Nat) (f : Int), (∀ I, f ≤ I → I < f + n → P I = false) → dF P (n + m) f = dF P m (f + n) := by
  intro n
  induction n with
  | zero => intro m f _; simp
  | succ n ih =>
    intro m f h
    rw [show n + 1 + m = (n + m) + 1 by omega]
    have h2 := h f (Int.le_refl _) (by omega)
    simp only [dF, h2]
    rw [ih m (f + 1) (fun I a1 a2 => h I (by omega) (by omega)), show f + 1 + (n : Int) = f + ((n + 1 : Nat) : Int) by omega]
    simp
theorem dF_hit {P : Int → Bool} {m : Nat} {f : Int} (h : P f = true) (hm : 0 < m) : dF P m f = f := by
  cases m with
  | zero => omega
  | succ m => simp [dF, h]
/-- the count in a stretch -/
theorem cCi_spec {P : Int → Bool} {f en : Int} (h1 : 1 ≤ f) (h2 : en ≤ 5000) (hfe : f ≤ en) (hc : cvx P f en) : cCi P f en = dC P (en + 1 - f).toNat f := by
  unfold cCi
  by_cases he : P f = P en
  · rw [if_pos he, dC_const (b := P f) (en + 1 - f).toNat f (fun I a1 a2 => hc f I en (Int.le_refl _) a1 (by omega) (Int.le_refl _) he)]
    cases P f <;> simp <;> omega
  · rw [if_neg he]
    obtain ⟨a1, a2, a3, a4⟩ := cTurnIn_spec h1 h2 hfe hc he
    generalize cTurnIn P f en = t at a1 a2 a3 a4 ⊢
    have e : (en + 1 - f).toNat = (t - f).toNat + (en + 1 - t).toNat := by omega
    rw [e, dC_add, dC_const (b := P f) (t - f).toNat f (fun I b1 b2 => a3 I b1 (by omega)), show f + ((t - f).toNat : Int) = t by omega, dC_const (b := P en) (en + 1 - t).toNat t (fun I b1 b2 => a4 I b1 (by omega))]
    revert he
    cases P f <;> cases P en <;> simp <;> omega
/-- how many starts lie behind a current -/
def cK (S : jSet) (f : Int) : Nat → Nat
  | 0 => 0
  | i + 1 => cK S f i + (if f < cSt S i then 1 else 0)
theorem cK_le (S : jSet) (f : Int) : ∀ n, cK S f n ≤ n := by
  intro n
  induction n with
  | zero => exact Nat.le_refl _
  | succ n ih => simp only [cK]; split <;> omega
theorem cK_anti (S : jSet) {f g : Int} (h : f ≤ g) : ∀ n, cK S g n ≤ cK S f n := by
  intro n
  induction n with
  | zero => exact Nat.le_refl _
  | succ n ih =>
    simp only [cK]
    by_cases h1 : g < cSt S n
    · rw [if_pos h1, if_pos (by omega)]; omega
    · rw [if_neg h1]; split <;> omega
theorem cK_drop (S : jSet) {f : Int} {j : Nat} (h : f < cSt S j) : ∀ n, j < n → cK S (cSt S j) n < cK S f n := by
  intro n
  induction n with
  | zero => intro hj; omega
  | succ n ih =>
    intro hj
    simp only [cK]
    by_cases hjn : j = n
    · subst hjn
      rw [if_pos h, if_neg (Int.lt_irrefl _)]
      have := cK_anti S (f := f) (g := cSt S j) (by omega) j
      omega
    · have h1 := ih (by omega)
      by_cases h2 : cSt S j < cSt S n
      · rw [if_pos h2, if_pos (by omega)]; omega
      · rw [if_neg h2]; split <;> omega
theorem cEnd_next {L U : jSet} (hL : sOK L) (hU : sOK U) {f : Int} (hf : f ≤ 5000) : 5000 < cEnd L U f + 1 ∨ cK L (cEnd L U f + 1) (sN L) + cK U (cEnd L U f + 1) (sN U) < cK L f (sN L) + cK U f (sN U) := by
  have h1 := cSb_spec hL hf (sN L) 0 (by omega)
  have h2 := cSb_spec hU hf (sN U) 0 (by omega)
  have hr := cEnd_range hL hU hf
  by_cases h5 : 5000 < cEnd L U f + 1
  · exact Or.inl h5
  · refine Or.inr ?_
    have e : cEnd L U f + 1 = cStart L f ∨ cEnd L U f + 1 = cStart U f := by unfold cEnd; omega
    have aL := cK_anti L (f := f) (g := cEnd L U f + 1) (by omega) (sN L)
    have aU := cK_anti U (f := f) (g := cEnd L U f + 1) (by omega) (sN U)
    rcases e with e | e
    · rcases h1.2.2.2 with h | ⟨j, hj, h⟩
      · exfalso; unfold cStart at e; omega
      · have e2 : cEnd L U f + 1 = cSt L j := by rw [e]; exact h
        have hlt : f < cSt L j := by omega
        have := cK_drop L hlt (sN L) hj
        rw [e2] at aU ⊢
        omega
    · rcases h2.2.2.2 with h | ⟨j, hj, h⟩
      · exfalso; unfold cStart at e; omega
      · have e2 : cEnd L U f + 1 = cSt U j := by rw [e]; exact h
        have hlt : f < cSt U j := by omega
        have := cK_drop U hlt (sN U) hj
        rw [e2] at aL ⊢
        omega
theorem cCnt_spec {L U : jSet} (hL : sOK L) (hU : sOK U) (mg : Int) : ∀ (k : Nat) (f s : Int), 1 ≤ f → f ≤ 5001 → (5000 < f ∨ cK L f (sN L) + cK U f (sN U) < k) →
    cCnt (cBrk L U mg) (cEnd L U) k f s = s + dC (cBrk L U mg) (5001 - f).toNat f := by
  intro k
  induction k with
  | zero =>
    intro f s h1 h2 h3
    have : f = 5001 := by omega
    subst this
    simp [cCnt, dC]
  | succ k ih =>
    intro f s h1 h2 h3
    by_cases hc : 5000 < f
    · have : f = 5001 := by omega
      subst this
      simp [cCnt, dC]
    · have hr := cEnd_range hL hU (f := f) (by omega)
      have hn := cEnd_next hL hU (f := f) (by omega)
      simp only [cCnt, if_neg hc]
      rw [ih (cEnd L U f + 1) _ (by omega) (by omega) (by omega), cCi_spec h1 hr.2 hr.1 (cBrk_cvx hL hU mg (by omega))]
      have e : (5001 - f).toNat = (cEnd L U f + 1 - f).toNat + (5001 - (cEnd L U f + 1)).toNat := by omega
      rw [e, dC_add, show f + ((cEnd L U f + 1 - f).toNat : Int) = cEnd L U f + 1 by omega]
      omega
/-- broken(): the count over all currents -/
theorem cCnt_all {L U : jSet} (hL : sOK L) (hU : sOK U) (mg : Int) : cCnt (cBrk L U mg) (cEnd L U) 13 1 0 = dC (cBrk L U mg) 5000 1 := by
  have h1 := cK_le L 1 (sN L)
  have h2 := cK_le U 1 (sN U)
  have h3 := hL.1
  have h4 := hU.1
  rw [cCnt_spec hL hU mg 13 1 0 (by omega) (by omega) (by omega)]
  simp
theorem cFbs_spec {L U : jSet} (hL : sOK L) (hU : sOK U) (mg : Int) : ∀ (k : Nat) (f : Int), 1 ≤ f → f ≤ 5001 → (5000 < f ∨ cK L f (sN L) + cK U f (sN U) < k) →
    (cFbs (cBrk L U mg) (cEnd L U) k f = -1 ∧ ∀ I, f ≤ I → I ≤ 5000 → cBrk L U mg I = false) ∨
    (∃ g, f ≤ g ∧ g ≤ 5000 ∧ cFbs (cBrk L U mg) (cEnd L U) k f = g ∧ (∀ I, f ≤ I → I < g → cBrk L U mg I = false) ∧ (cBrk L U mg g = true ∨ (cBrk L U mg g = false ∧ cBrk L U mg (cEnd L U g) = true))) := by
  intro k
  induction k with
  | zero =>
    intro f h1 h2 h3
    exact Or.inl ⟨by simp [cFbs], fun I a1 a2 => by omega⟩
  | succ k ih =>
    intro f h1 h2 h3
    by_cases hc : 5000 < f
    · exact Or.inl ⟨by simp [cFbs, hc], fun I a1 a2 => by omega⟩
    · have hr := cEnd_range hL hU (f := f) (by omega)
      have hn := cEnd_next hL hU (f := f) (by omega)
      by_cases p1 : cBrk L U mg f = true
      · refine Or.inr ⟨f, Int.le_refl _, by omega, by simp [cFbs, hc, p1], fun I a1 a2 => by omega, Or.inl p1⟩
      · have p1' : cBrk L U mg f = false := by simpa using p1
        by_cases p2 : cBrk L U mg (cEnd L U f) = true
        · refine Or.inr ⟨f, Int.le_refl _, by omega, by simp [cFbs, hc, p1', p2], fun I a1 a2 => by omega, Or.inr ⟨p1', p2⟩⟩
        · have p2' : cBrk L U mg (cEnd L U f) = false := by simpa using p2
          have e : cFbs (cBrk L U mg) (cEnd L U) (k + 1) f = cFbs (cBrk L U mg) (cEnd L U) k (cEnd L U f + 1) := by simp [cFbs, hc, p1', p2']
          have hst : ∀ I, f ≤ I → I ≤ cEnd L U f → cBrk L U mg I = false := fun I a1 a2 => by
            rw [cBrk_cvx hL hU mg (by omega) f I (cEnd L U f) (Int.le_refl _) a1 a2 (Int.le_refl _) (by rw [p1', p2'])]
            exact p1'
          rw [e]
          rcases ih (cEnd L U f + 1) (by omega) (by omega) (by omega) with ⟨b1, b2⟩ | ⟨g, b1, b2, b3, b4, b5⟩
          · refine Or.inl ⟨b1, fun I a1 a2 => ?_⟩
            by_cases hI : I ≤ cEnd L U f
            · exact hst I a1 hI
            · exact b2 I (by omega) a2
          · refine Or.inr ⟨g, by omega, b2, b3, fun I a1 a2 => ?_, b5⟩
            by_cases hI : I ≤ cEnd L U f
            · exact hst I a1 hI
            · exact b4 I (by omega) a2
theorem cFbs_all {L U : jSet} (hL : sOK L) (hU : sOK U) (mg : Int) :
    (cFbs (cBrk L U mg) (cEnd L U) 13 1 = -1 ∧ ∀ I, 1 ≤ I → I ≤ 5000 → cBrk L U mg I = false) ∨
    (∃ g, 1 ≤ g ∧ g ≤ 5000 ∧ cFbs (cBrk L U mg) (cEnd L U) 13 1 = g ∧ (∀ I, 1 ≤ I → I < g → cBrk L U mg I = false) ∧ (cBrk L U mg g = true ∨ (cBrk L U mg g = false ∧ cBrk L U mg (cEnd L U g) = true))) := by
  have h1 := cK_le L 1 (sN L)
  have h2 := cK_le U 1 (sN U)
  have h3 := hL.1
  have h4 := hU.1
  exact cFbs_spec hL hU mg 13 1 (by omega) (by omega) (by omega)
theorem cFbs_rng {L U : jSet} (hL : sOK L) (hU : sOK U) (mg : Int) : -1 ≤ cFbs (cBrk L U mg) (cEnd L U) 13 1 ∧ cFbs (cBrk L U mg) (cEnd L U) 13 1 ≤ 5000 := by
  rcases cFbs_all hL hU mg with ⟨b1, -⟩ | ⟨g, b1, b2, b3, -⟩
  · omega
  · omega
/-- order(): the first current that is broken, or -1 -/
theorem cFb_all {L U : jSet} (hL : sOK L) (hU : sOK U) (mg : Int) : cFb (cBrk L U mg) (cEnd L U) = dF (cBrk L U mg) 5000 1 := by
  rcases cFbs_all hL hU mg with ⟨b1, b2⟩ | ⟨g, b1, b2, b3, b4, b5⟩
  · have h := dF_skip (P := cBrk L U mg) 5000 0 1 (fun I a1 a2 => b2 I a1 (by omega))
    rw [Nat.add_zero] at h
    rw [h]
    simp [cFb, b1, dF]
  · have hg : g ≠ -1 := by omega
    have h := dF_skip (P := cBrk L U mg) (g - 1).toNat (5001 - g).toNat 1 (fun I a1 a2 => b4 I a1 (by omega))
    rw [show (g - 1).toNat + (5001 - g).toNat = 5000 by omega, show (1 : Int) + ((g - 1).toNat : Int) = g by omega] at h
    rw [h]
    unfold cFb
    rw [b3, if_neg hg]
    rcases b5 with p | ⟨p, q⟩
    · rw [if_pos p, dF_hit p (by omega)]
    · rw [if_neg (by simp [p])]
      have hr := cEnd_range hL hU (f := g) (by omega)
      obtain ⟨a1, a2, a3, a4⟩ := cTurnIn_spec b1 hr.2 hr.1 (cBrk_cvx hL hU mg (by omega)) (by rw [p, q]; decide)
      generalize cTurnIn (cBrk L U mg) g (cEnd L U g) = t at a1 a2 a3 a4 ⊢
      have h2 := dF_skip (P := cBrk L U mg) (t - g).toNat (5001 - t).toNat g (fun I c1 c2 => by rw [a3 I c1 (by omega)]; exact p)
      rw [show (t - g).toNat + (5001 - t).toNat = (5001 - g).toNat by omega, show g + ((t - g).toNat : Int) = t by omega] at h2
      rw [h2, dF_hit (by rw [a4 t (Int.le_refl _) a2]; exact q) (by omega)]
/-! ===== how large the numbers are ===== -/
theorem cParts_range {S : jSet} (h : sOK S) {q : Int} (hq : q < sN S) : 1 ≤ cParts S q ∧ cParts S q ≤ 5000000 := by
  unfold cParts
  by_cases hc : q < 0 ∨ (sN S : Int) ≤ q + 1
  · rw [if_pos hc]; omega
  · rw [if_neg hc]
    have h1 := h.2.1 q.toNat (by omega)
    have h2 := h.2.1 (q.toNat + 1) (by omega)
    have h3 := h.2.2.2.1 q.toNat (by omega)
    have h4 := h.2.2.2.2.1
    have a1 : sS S * 1 ≤ sS S * (sP S (q.toNat + 1) - sP S q.toNat) := Int.mul_le_mul_of_nonneg_left (by omega) (by omega)
    have a2 : sS S * (sP S (q.toNat + 1) - sP S q.toNat) ≤ sS S * 5000 := Int.mul_le_mul_of_nonneg_left (by omega) (by omega)
    omega
/-- between two points the way from the first is a part of the whole way -/
theorem cLine {t u d r x : Int} (ht : 0 ≤ t ∧ t ≤ 100000) (hu : 0 ≤ u ∧ u ≤ 100000) (hd : 0 ≤ d ∧ d ≤ 10000) (hx : 0 ≤ x ∧ x ≤ r) : 0 ≤ (t + d) * r + (u - t) * x ∧ (t + d) * r + (u - t) * x ≤ 110000 * r := by
  have e : (t + d) * r + (u - t) * x = d * r + (t * (r - x) + u * x) := by
    rw [Int.add_mul, Int.sub_mul, Int.mul_sub]
    omega
  have a1 := Int.mul_nonneg hd.1 (show 0 ≤ r by omega)
  have a2 := Int.mul_nonneg ht.1 (show 0 ≤ r - x by omega)
  have a3 := Int.mul_nonneg hu.1 hx.1
  have b1 : d * r ≤ 10000 * r := Int.mul_le_mul_of_nonneg_right hd.2 (by omega)
  have b2 : t * (r - x) ≤ 100000 * (r - x) := Int.mul_le_mul_of_nonneg_right ht.2 (by omega)
  have b3 : u * x ≤ 100000 * x := Int.mul_le_mul_of_nonneg_right hu.2 (by omega)
  rw [e]
  omega
theorem cTime_range {S : jSet} (h : sOK S) (mo : Bool) {I : Int} {k : Nat} (hk : cPiece S I = (k : Int)) : 0 ≤ cTime S mo k (cParts S k) I ∧ cTime S mo k (cParts S k) I ≤ 110000 * cParts S k := by
  have hkn : k < sN S := by have := cPiece_range S I; omega
  have hr := cParts_range h (q := (k : Int)) (by omega)
  have h1 := h.2.2.1 k mo hkn
  have h4 := h.2.2.2.2.2
  by_cases hc : (sN S : Int) ≤ (k : Int) + 1
  · have e : cTime S mo k (cParts S k) I = (sT S mo k + sD S) * cParts S k := by simp [cTime, hc]
    rw [e]
    have a1 := Int.mul_nonneg (show 0 ≤ sT S mo k + sD S by omega) (show 0 ≤ cParts S k by omega)
    have a2 : (sT S mo k + sD S) * cParts S k ≤ 110000 * cParts S k := Int.mul_le_mul_of_nonneg_right (by omega) (by omega)
    exact ⟨a1, a2⟩
  · have e : cTime S mo k (cParts S k) I = (sT S mo k + sD S) * cParts S k + (sT S mo (k + 1) - sT S mo k) * (100 * I - sS S * sP S k) := by simp [cTime, hc]
    rw [e]
    refine cLine h1 (h.2.2.1 (k + 1) mo (by omega)) h4 ?_
    have e2 : cParts S k = sS S * sP S (k + 1) - sS S * sP S k := by
      have : ¬ ((k : Int) < 0 ∨ (sN S : Int) ≤ (k : Int) + 1) := by omega
      simp only [cParts, if_neg this, Int.toNat_natCast, Int.mul_sub]
    rcases cPc_spec S I (sN S) with ⟨b1, -⟩ | ⟨j, b1, b2, b3, b4⟩
    · unfold cPiece at hk; omega
    · have : j = k := by unfold cPiece at hk; omega
      subst this
      have := b4 (j + 1) (by omega) (by omega)
      omega
theorem cMul_range {x y : Int} (hx : 0 ≤ x ∧ x ≤ 600000000000) (hy : 0 ≤ y ∧ y ≤ 5000000) : -9223372036854775808 ≤ x * y ∧ x * y < 9223372036854775808 := by
  have a1 := Int.mul_nonneg hx.1 hy.1
  have a2 : x * y ≤ 600000000000 * 5000000 := Int.mul_le_mul hx.2 hy.2 hy.1 (by decide)
  omega
theorem cWithin_range {S T : jSet} {mo tm : Bool} {mg I : Int} (hoS : sOK S) (hoT : sOK T) (hmg : 0 ≤ mg ∧ mg ≤ 10000) (h1 : cPiece T I ≠ -1) (h2 : cPiece S I ≠ -1) :
    (-9223372036854775808 ≤ (cTime S mo (cPiece S I) (cParts S (cPiece S I)) I + mg * cParts S (cPiece S I)) * cParts T (cPiece T I) ∧ (cTime S mo (cPiece S I) (cParts S (cPiece S I)) I + mg * cParts S (cPiece S I)) * cParts T (cPiece T I) < 9223372036854775808) ∧
    (-9223372036854775808 ≤ cTime T tm (cPiece T I) (cParts T (cPiece T I)) I * cParts S (cPiece S I) ∧ cTime T tm (cPiece T I) (cParts T (cPiece T I)) I * cParts S (cPiece S I) < 9223372036854775808) := by
  have rS := cPiece_range S I
  have rT := cPiece_range T I
  obtain ⟨k, hk⟩ : ∃ k : Nat, cPiece S I = (k : Int) := ⟨(cPiece S I).toNat, by omega⟩
  obtain ⟨j, hj⟩ : ∃ j : Nat, cPiece T I = (j : Int) := ⟨(cPiece T I).toNat, by omega⟩
  have tS := cTime_range hoS mo hk
  have tT := cTime_range hoT tm hj
  have pS := cParts_range hoS (q := (k : Int)) (by omega)
  have pT := cParts_range hoT (q := (j : Int)) (by omega)
  rw [hk, hj]
  have m1 := Int.mul_nonneg hmg.1 (show 0 ≤ cParts S k by omega)
  have m2 : mg * cParts S k ≤ 10000 * cParts S k := Int.mul_le_mul_of_nonneg_right hmg.2 (by omega)
  exact ⟨cMul_range (by omega) (by omega), cMul_range (by omega) (by omega)⟩
