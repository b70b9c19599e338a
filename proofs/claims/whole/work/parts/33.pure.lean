/-! both sides' answers are one: opensFrom -/
theorem of_same {S : jSet} (h : sOK S) : (if 5000 < cStart S 0 then -1 else cStart S 0) = dF (mOpen S) 5000 1 := by
  by_cases h0 : sN S = 0
  · have e : cStart S 0 = 5001 := by unfold cStart; rw [h0]; rfl
    have hf : ∀ I, 1 ≤ I → I < 1 + ((5000 : Nat) : Int) → mOpen S I = false := fun I _ _ => by
      unfold mOpen
      rw [h0, decide_eq_false (by omega)]
    have := dF_skip 5000 0 1 hf
    rw [e, if_pos (by omega)]
    exact this.symm
  · have hp := sOK_pl h (i := 0) (by omega)
    have hs : 0 < cSt S 0 := (cSt_lt S 0 0).mpr (by omega)
    have e : cStart S 0 = min (cSt S 0) 5001 := by
      unfold cStart
      rw [show sN S = (sN S - 1) + 1 by omega]
      show (if 0 < cSt S 0 then min (cSt S 0) 5001 else _) = _
      rw [if_pos hs]
    have hm : ∀ I, mOpen S I = decide (cSt S 0 ≤ I) := fun I => by
      unfold mOpen
      have := cSt_lt S 0 I
      by_cases hI : cSt S 0 ≤ I
      · rw [decide_eq_true hI, decide_eq_true (by omega)]
      · rw [decide_eq_false hI, decide_eq_false (by omega)]
    rw [e]
    by_cases h5 : cSt S 0 ≤ 5000
    · have hk := dF_skip (P := mOpen S) (cSt S 0 - 1).toNat (5001 - cSt S 0).toNat 1 (fun I h1 h2 => by rw [hm, decide_eq_false (by omega)])
      rw [show (cSt S 0 - 1).toNat + (5001 - cSt S 0).toNat = 5000 by omega] at hk
      rw [hk, dF_hit (by rw [hm, decide_eq_true (by omega)]) (by omega), if_neg (by omega)]
      omega
    · have hk := dF_skip (P := mOpen S) 5000 0 1 (fun I h1 h2 => by rw [hm, decide_eq_false (by omega)])
      rw [if_pos (by omega)]
      exact hk.symm
/-! opens -/
def wTm (S : jSet) (mo : Bool) (I : Int) : Int := cTime S mo (cPiece S I) (cParts S (cPiece S I)) I
def wPt (S : jSet) (I : Int) : Int := cParts S (cPiece S I)
theorem wPt_pos {S : jSet} (h : sOK S) (I : Int) : 1 ≤ wPt S I := (cParts_range h (cPiece_range S I).2).1
theorem cW_iff {S T : jSet} {mo tm : Bool} {I : Int} : cWithin S mo 0 T tm I = true ↔ (cPiece T I = -1 ∨ (cPiece S I ≠ -1 ∧ wTm S mo I * wPt T I ≤ wTm T tm I * wPt S I)) := by
  by_cases h1 : cPiece T I = -1
  · rw [cWithin_no h1]
    exact ⟨fun _ => Or.inl h1, fun _ => rfl⟩
  · by_cases h2 : cPiece S I = -1
    · rw [cWithin, if_neg h1, if_pos h2]
      constructor
      · intro h; cases h
      · intro h
        rcases h with h | h
        · exact absurd h h1
        · exact absurd h2 h.1
    · rw [cWithin_le h2 h1, decide_eq_true_iff]
      constructor
      · intro h; exact Or.inr ⟨h2, h⟩
      · intro h
        rcases h with h | h
        · exact absurd h h1
        · exact h.2
theorem cW_trans {S T U : jSet} {mo tm um : Bool} {I : Int} (hS : sOK S) (hT : sOK T) (hU : sOK U) (h1 : cWithin S mo 0 T tm I = true) (h2 : cWithin T tm 0 U um I = true) : cWithin S mo 0 U um I = true := by
  rw [cW_iff] at h1 h2 ⊢
  rcases h2 with h2 | ⟨h2, h3⟩
  · exact Or.inl h2
  · rcases h1 with h1 | ⟨h1, h4⟩
    · exact absurd h1 h2
    · refine Or.inr ⟨h1, ?_⟩
      have p1 := wPt_pos hS I
      have p2 := wPt_pos hT I
      have p3 := wPt_pos hU I
      generalize wPt S I = b1 at *
      generalize wPt T I = b2 at *
      generalize wPt U I = b3 at *
      generalize wTm S mo I = a1 at *
      generalize wTm T tm I = a2 at *
      generalize wTm U um I = a3 at *
      have q1 : a1 * b2 * b3 ≤ a2 * b1 * b3 := Int.mul_le_mul_of_nonneg_right h4 (by omega)
      have q2 : a2 * b3 * b1 ≤ a3 * b2 * b1 := Int.mul_le_mul_of_nonneg_right h3 (by omega)
      have q3 : (a1 * b3) * b2 ≤ (a3 * b1) * b2 := by
        rw [show (a1 * b3) * b2 = a1 * b2 * b3 by rw [Int.mul_right_comm], show (a3 * b1) * b2 = a3 * b2 * b1 by rw [Int.mul_right_comm]]
        rw [show a2 * b1 * b3 = a2 * b3 * b1 by rw [Int.mul_right_comm]] at q1
        omega
      exact Int.le_of_mul_le_mul_right q3 (by omega)
theorem cW_total {S T : jSet} {mo tm : Bool} {I : Int} (h : cWithin S mo 0 T tm I = false) : cWithin T tm 0 S mo I = true := by
  have h1 : ¬ (cWithin S mo 0 T tm I = true) := by rw [h]; decide
  rw [cW_iff] at h1 ⊢
  by_cases hs : cPiece S I = -1
  · exact Or.inl hs
  · refine Or.inr ⟨fun ht => h1 (Or.inl ht), ?_⟩
    apply Classical.byContradiction
    intro hn
    exact h1 (Or.inr ⟨hs, by omega⟩)
theorem cW_refl {S : jSet} {mo : Bool} {I : Int} : cWithin S mo 0 S mo I = true := by
  rw [cW_iff]
  by_cases h : cPiece S I = -1
  · exact Or.inl h
  · exact Or.inr ⟨h, Int.le_refl _⟩
/-- the way up -/
def wWay (z : bSt) : Nat → Option Nat → List Nat
  | 0, _ => []
  | _ + 1, none => []
  | k + 1, some j => j :: wWay z k (bU z j)
theorem wWay_none (z : bSt) (k : Nat) : wWay z k none = [] := by cases k <;> rfl
theorem wWay_same {z : bSt} (hz : bOK z) : ∀ (k m : Nat) (o : Option Nat), (∀ j, o = some j → j < k ∧ j < m ∧ j < bN z) → wWay z k o = wWay z m o := by
  intro k
  induction k with
  | zero =>
    intro m o h
    cases o with
    | none => rw [wWay_none, wWay_none]
    | some j => have := h j rfl; omega
  | succ k ih =>
    intro m o h
    cases o with
    | none => rw [wWay_none, wWay_none]
    | some j =>
      have h1 := h j rfl
      cases m with
      | zero => omega
      | succ m =>
        show j :: wWay z k (bU z j) = j :: wWay z m (bU z j)
        rw [ih m (bU z j) (fun u hu => by have := hz.2.2.2 j u (by omega) hu; omega)]
theorem wWay_lt {z : bSt} (hz : bOK z) : ∀ (k : Nat) (o : Option Nat), (∀ j, o = some j → j < bN z) → ∀ i, i ∈ wWay z k o → i < bN z := by
  intro k
  induction k with
  | zero => intro o _ i hi; cases hi
  | succ k ih =>
    intro o h i hi
    cases o with
    | none => cases hi
    | some j =>
      have h1 := h j rfl
      rcases List.mem_cons.mp hi with h2 | h2
      · omega
      · exact ih _ (fun u hu => by have := hz.2.2.2 j u h1 hu; omega) i h2
theorem mFst_way (z : bSt) (I : Int) (e : Nat) : ∀ (k : Nat) (o : Option Nat), mFst z I e k o = true ↔ ∀ j, j ∈ wWay z k o → cWithin (bCh z e) false 0 (bCh z j) true I = true := by
  intro k
  induction k with
  | zero => intro o; exact ⟨fun _ j hj => (by cases hj), fun _ => rfl⟩
  | succ k ih =>
    intro o
    cases o with
    | none => exact ⟨fun _ j hj => (by cases hj), fun _ => rfl⟩
    | some j =>
      show (cWithin (bCh z e) false 0 (bCh z j) true I && mFst z I e k (bU z j)) = true ↔ _
      rw [Bool.and_eq_true, ih]
      constructor
      · intro h i hi
        rcases List.mem_cons.mp hi with h2 | h2
        · rw [h2]; exact h.1
        · exact h.2 i h2
      · intro h
        exact ⟨h j (List.mem_cons_self ..), fun i hi => h i (List.mem_cons_of_mem _ hi)⟩
theorem bCh_ok {z : bSt} (hz : bOK z) {i : Nat} (hi : i < bN z) : sOK (bCh z i) := by
  have hN := hz.1
  have f := hz.2.2.1 i (by omega)
  exact f.2.2.2.2.2 (bC z i) f.2.2.1
theorem bQk_way {z : bSt} (hz : bOK z) (I : Int) : ∀ (k : Nat) (o : Option Nat) (q : Nat), (∀ j, o = some j → j < bN z) → q < bN z →
    (bQk z I k o q = q ∨ bQk z I k o q ∈ wWay z k o) ∧ cWithin (bCh z (bQk z I k o q)) true 0 (bCh z q) true I = true ∧ ∀ j, j ∈ wWay z k o → cWithin (bCh z (bQk z I k o q)) true 0 (bCh z j) true I = true := by
  intro k
  induction k with
  | zero => intro o q _ _; exact ⟨Or.inl rfl, cW_refl, fun j hj => by cases hj⟩
  | succ k ih =>
    intro o q ho hq
    cases o with
    | none => exact ⟨Or.inl rfl, cW_refl, fun j hj => by cases hj⟩
    | some j =>
      have hj := ho j rfl
      have hU : ∀ u, bU z j = some u → u < bN z := fun u hu => by have := hz.2.2.2 j u hj hu; omega
      show (bQk z I k (bU z j) (if cWithin (bCh z j) true 0 (bCh z q) true I = true then j else q) = q ∨ bQk z I k (bU z j) (if cWithin (bCh z j) true 0 (bCh z q) true I = true then j else q) ∈ j :: wWay z k (bU z j)) ∧ cWithin (bCh z (bQk z I k (bU z j) (if cWithin (bCh z j) true 0 (bCh z q) true I = true then j else q))) true 0 (bCh z q) true I = true ∧ ∀ i, i ∈ j :: wWay z k (bU z j) → cWithin (bCh z (bQk z I k (bU z j) (if cWithin (bCh z j) true 0 (bCh z q) true I = true then j else q))) true 0 (bCh z i) true I = true
      cases hc : cWithin (bCh z j) true 0 (bCh z q) true I with
      | true =>
        rw [if_pos rfl]
        obtain ⟨a1, a2, a3⟩ := ih (bU z j) j hU hj
        have hl : bQk z I k (bU z j) j < bN z := bQk_lt hz k _ _ hU hj
        refine ⟨Or.inr ?_, cW_trans (bCh_ok hz hl) (bCh_ok hz hj) (bCh_ok hz hq) a2 hc, fun i hi => ?_⟩
        · rcases a1 with a1 | a1
          · rw [a1]; exact List.mem_cons_self ..
          · exact List.mem_cons_of_mem _ a1
        · rcases List.mem_cons.mp hi with h2 | h2
          · rw [h2]; exact a2
          · exact a3 i h2
      | false =>
        rw [if_neg (by decide)]
        obtain ⟨a1, a2, a3⟩ := ih (bU z j) q hU hq
        have hl : bQk z I k (bU z j) q < bN z := bQk_lt hz k _ _ hU hq
        refine ⟨?_, a2, fun i hi => ?_⟩
        · rcases a1 with a1 | a1
          · exact Or.inl a1
          · exact Or.inr (List.mem_cons_of_mem _ a1)
        · rcases List.mem_cons.mp hi with h2 | h2
          · rw [h2]; exact cW_trans (bCh_ok hz hl) (bCh_ok hz hq) (bCh_ok hz hj) a2 (cW_total hc)
          · exact a3 i h2
theorem bOp_mOp {z : bSt} (hz : bOK z) {I : Int} {q d : Nat} {kk : Int} (hc : ∀ j, j < bN z → cWithin (bCh z j) false 0 (bCh z q) true I = (mOpen (bCh z j) I && mFst z I j 9 (some d))) : ∀ (k : Nat) (o : Option Nat) (a n : Int), (∀ j, o = some j → j < bN z) → a = kk - n → bOp z I q k o a = mOp z I d kk k o n := by
  intro k
  induction k with
  | zero => intro o a n _ _; rfl
  | succ k ih =>
    intro o a n ho ha
    cases o with
    | none => rfl
    | some j =>
      have hj := ho j rfl
      have hU : ∀ u, bU z j = some u → u < bN z := fun u hu => by have := hz.2.2.2 j u hj hu; omega
      show (if cWithin (bCh z j) false 0 (bCh z q) true I = true then (if a = 0 then (j : Int) else bOp z I q k (bU z j) (a + (-1))) else bOp z I q k (bU z j) a) = if (mOpen (bCh z j) I && mFst z I j 9 (some d)) = true then (if n = kk then (j : Int) else mOp z I d kk k (bU z j) (n + 1)) else mOp z I d kk k (bU z j) n
      rw [hc j hj]
      cases (mOpen (bCh z j) I && mFst z I j 9 (some d)) with
      | true =>
        rw [if_pos rfl, if_pos rfl]
        by_cases h0 : a = 0
        · rw [if_pos h0, if_pos (by omega)]
        · rw [if_neg h0, if_neg (by omega)]
          exact ih _ _ _ hU (by omega)
      | false =>
        rw [if_neg (by decide), if_neg (by decide)]
        exact ih _ _ _ hU ha
theorem mOp_never {z : bSt} {I : Int} {d : Nat} {kk : Int} : ∀ (k : Nat) (o : Option Nat) (n : Int), (∀ j, j ∈ wWay z k o → mOpen (bCh z j) I = false) → mOp z I d kk k o n = -1 := by
  intro k
  induction k with
  | zero => intro o n _; rfl
  | succ k ih =>
    intro o n h
    cases o with
    | none => rfl
    | some j =>
      show (if (mOpen (bCh z j) I && mFst z I j 9 (some d)) = true then (if n = kk then (j : Int) else mOp z I d kk k (bU z j) (n + 1)) else mOp z I d kk k (bU z j) n) = -1
      rw [h j (List.mem_cons_self ..), Bool.false_and, if_neg (by decide)]
      exact ih _ _ (fun i hi => h i (List.mem_cons_of_mem _ hi))
theorem op_same {z : bSt} (hz : bOK z) {d : Nat} (hd : d < bN z) (I kk : Int) : (if cPiece (bCh z (bQk z I 9 (bU z d) d)) I = -1 then -1 else bOp z I (bQk z I 9 (bU z d) d) 9 (some d) kk) = mOp z I d kk 9 (some d) 0 := by
  have hN := hz.1
  have hU : ∀ u, bU z d = some u → u < bN z := fun u hu => by have := hz.2.2.2 d u hd hu; omega
  obtain ⟨a1, a2, a3⟩ := bQk_way hz I 9 (bU z d) d hU hd
  have hql : bQk z I 9 (bU z d) d < bN z := bQk_lt hz 9 _ _ hU hd
  have e8 : wWay z 9 (bU z d) = wWay z 8 (bU z d) := wWay_same hz 9 8 _ (fun u hu => by have := hz.2.2.2 d u hd hu; omega)
  rw [e8] at a1 a3
  generalize bQk z I 9 (bU z d) d = q at *
  have hin : q ∈ wWay z 9 (some d) := by
    show q ∈ d :: wWay z 8 (bU z d)
    rcases a1 with a1 | a1
    · rw [a1]; exact List.mem_cons_self ..
    · exact List.mem_cons_of_mem _ a1
  have hall : ∀ j, j ∈ wWay z 9 (some d) → cWithin (bCh z q) true 0 (bCh z j) true I = true := by
    intro j hj
    rcases List.mem_cons.mp (show j ∈ d :: wWay z 8 (bU z d) from hj) with h2 | h2
    · rw [h2]; exact a2
    · exact a3 j h2
  have hlt := wWay_lt hz 9 (some d) (fun j hj => by cases hj; exact hd)
  by_cases hp : cPiece (bCh z q) I = -1
  · rw [if_pos hp]
    refine (mOp_never 9 (some d) 0 (fun j hj => ?_)).symm
    have h1 := cW_iff.mp (hall j hj)
    rcases h1 with h1 | h1
    · cases hm : mOpen (bCh z j) I with
      | false => rfl
      | true => exact absurd h1 ((mOpen_piece (bCh_ok hz (hlt j hj)) I).mp hm)
    · exact absurd hp h1.1
  · rw [if_neg hp]
    refine bOp_mOp hz (fun j hj => ?_) 9 (some d) kk 0 (fun j hj => by cases hj; exact hd) (by omega)
    cases hc : cWithin (bCh z j) false 0 (bCh z q) true I with
    | true =>
      have hop : mOpen (bCh z j) I = true := by
        rw [mOpen_piece (bCh_ok hz hj)]
        rcases cW_iff.mp hc with h1 | h1
        · exact absurd h1 hp
        · exact h1.1
      have hf : mFst z I j 9 (some d) = true := (mFst_way z I j 9 (some d)).mpr (fun i hi => cW_trans (bCh_ok hz hj) (bCh_ok hz hql) (bCh_ok hz (hlt i hi)) hc (hall i hi))
      rw [hop, hf]
      rfl
    | false =>
      cases hf : mFst z I j 9 (some d) with
      | false => rw [Bool.and_false]
      | true =>
        have := (mFst_way z I j 9 (some d)).mp hf q hin
        rw [hc] at this
        cases this
