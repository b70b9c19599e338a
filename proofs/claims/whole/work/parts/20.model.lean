/-! the reference's object: 0 itself, 1 uppers, 2 points, 3 places, 4 leasts, 5 mosts, 6 options, 7 scales, 8 delays, 9 chosen, 10 impedances, 11 fits, 12 tried -/
def mLen (a : Nat) : Nat := match a with
  | 3 => 48
  | 4 => 48
  | 5 => 48
  | 7 => 32
  | 8 => 32
  | 11 => 128
  | _ => 8
def mW (D : va_G) (g : Nat → ClassId) (am : Nat → Nat) (cd dv vo ab be : Int) (AA : Nat → Nat → Int) (H : Heap) : Prop :=
  va_at D vwCl (am 0, .inr (4, [.int (jI cd), .int (jI dv), .ref (am 1), .ref (am 2), .ref (am 3), .ref (am 4), .ref (am 5), .ref (am 6), .ref (am 7), .ref (am 8), .ref (am 9), .ref (am 10), .int (jI vo), .long (jL ab), .long (jL be), .ref (am 11), .ref (am 12)])) H ∧
  ∀ a, 1 ≤ a → a ≤ 12 → va_at D vwCl (am a, .inl (g 0, mLen a, .inl (fun j => jI (AA a j)))) H
def mInj (am : Nat → Nat) : Prop := ∀ p q, p < 13 → q < 13 → am p = am q → p = q
def mFr (am : Nat → Nat) : Addr → Prop := fun q => ∃ r, r < 13 ∧ q = am r
def mTo (am : Nat → Nat) (H0 H : Heap) (locs : List Loc) : Prop := H.size = H0.size ∧ (∀ q : Nat, ¬ mFr am q → H[q]? = H0[q]?) ∧ ∀ q ∈ locs, mFr am q.base
theorem mTo.rf {am : Nat → Nat} {H : Heap} : mTo am H H [] := ⟨rfl, fun _ _ => rfl, fun _ h => by cases h⟩
theorem mTo.put {am : Nat → Nat} {H0 H H1 : Heap} {locs : List Loc} (h : mTo am H0 H locs) (r : Nat) (hr : r < 13) (hz : H1.size = H.size) (oq : ∀ q, q ≠ am r → H1[q]? = H[q]?) {f : Nat} : mTo am H0 H1 (locs ++ [⟨am r, f⟩]) := by
  refine ⟨hz.trans h.1, fun q hq => (oq q (fun e => hq ⟨r, hr, e⟩)).trans (h.2.1 q hq), fun q hq => ?_⟩
  rcases List.mem_append.mp hq with h1 | h1
  · exact h.2.2 q h1
  · rw [List.mem_singleton.mp h1]
    exact ⟨r, hr, rfl⟩
section MW
variable {D : va_G} {g : Nat → ClassId} {am : Nat → Nat} {cd dv vo ab be cd' dv' vo' ab' be' : Int} {AA : Nat → Nat → Int} {H H1 : Heap}
theorem mW_obj (hj : mInj am) (h : mW D g am cd dv vo ab be AA H) (oq : ∀ q, q ≠ am 0 → H1[q]? = H[q]?) (hn : va_at D vwCl (am 0, .inr (4, [.int (jI cd'), .int (jI dv'), .ref (am 1), .ref (am 2), .ref (am 3), .ref (am 4), .ref (am 5), .ref (am 6), .ref (am 7), .ref (am 8), .ref (am 9), .ref (am 10), .int (jI vo'), .long (jL ab'), .long (jL be'), .ref (am 11), .ref (am 12)])) H1) : mW D g am cd' dv' vo' ab' be' AA H1 :=
  ⟨hn, fun a h1 h2 => (h.2 a h1 h2).kept (oq _ (fun e => by have := hj a 0 (by omega) (by omega) e; omega))⟩
theorem mW_arr (hj : mInj am) (h : mW D g am cd dv vo ab be AA H) (a : Nat) (h1 : 1 ≤ a) (h2 : a ≤ 12) {f : Nat → Int} (oq : ∀ q, q ≠ am a → H1[q]? = H[q]?) (hn : va_at D vwCl (am a, .inl (g 0, mLen a, .inl (fun j => jI (f j)))) H1) : mW D g am cd dv vo ab be (jUp AA a f) H1 := by
  refine ⟨h.1.kept (oq _ (fun e => by have := hj 0 a (by omega) (by omega) e; omega)), fun b h3 h4 => ?_⟩
  by_cases hb : b = a
  · subst hb
    rw [jUp_s]
    exact hn
  · rw [jUp_n hb]
    exact (h.2 b h3 h4).kept (oq _ (fun e => hb (hj b a (by omega) (by omega) e)))
end MW
abbrev mPh : Type := Int → Int → Int → (Nat → Nat → Int) → Int → Int → Prop
def mQ (D : va_G) (g : Nat → ClassId) (am : Nat → Nat) (v : Option Value) (Ph : mPh) : Array Value → State → Outcome → State → Prop := fun _ st o t => o = .returned v ∧ (∃ cd dv vo AA ab be, Ph cd dv vo AA ab be ∧ mW D g am cd dv vo ab be AA t.heap) ∧ t.heap.size = st.heap.size ∧ ∀ q : Nat, ¬ mFr am q → t.heap[q]? = st.heap[q]?
section MCALL
variable {p : Program} {l : Launch} {e : Env} {R : Room} {s : State} {m : MethodId} {args : Array Value} {below : List Frame} {meth : Method} {c : Code} {H H0 : Heap} {locs : List Loc} {cells slots : Nat} {Q : State → Prop}
variable {cc : ByteArray} {pc : Nat} {ls : Array Slot} {rest st0 : List Value} {a : Array Value} {D : va_G} {g : Nat → ClassId} {am : Nat → Nat} {cd dv vo ab be : Int} {AA : Nat → Nat → Int} {Ph : mPh}
theorem m_call {v : Option Value} (hr : va_Run p l e R s m args below meth c H locs cells slots 0 0 (F0 m pc ls st0) rest (mQ D g am v Ph a) (mFr am)) (hT0 : mTo am H0 H locs)
    (kk : ∀ (H1 : Heap) (locs1 : List Loc) (cd dv vo : Int) (AA : Nat → Nat → Int) (ab be : Int), Ph cd dv vo AA ab be → mW D g am cd dv vo ab be AA H1 → mTo am H0 H1 locs1 → W p l e R s m args below meth c H1 locs1 cells slots Q (F0 m (pc + 3) ls (v.toList ++ rest))) : W p l e R s m args below meth c H locs cells slots Q (F0 m pc ls st0) := by
  intro T hT X
  obtain ⟨v', st₀, t, T', L, h0, X', hL, e1, e2, ⟨hv, ⟨cd, dv, vo, AA, ab, be, hPh, hW⟩, hz, hk⟩, st⟩ := hr T hT X
  cases hv
  rw [h0] at hz hk
  obtain ⟨t2, a1, b1⟩ := kk T'.heap (locs ++ L) cd dv vo AA ab be hPh (by rw [e1]; exact hW) ⟨by rw [e1, hz]; exact hT0.1, fun q hq => by rw [e1, hk q hq]; exact hT0.2.1 q hq, fun q hq => by
    rcases List.mem_append.mp hq with h1 | h1
    · exact hT0.2.2 q h1
    · exact hL q h1⟩ T' rfl X'
  exact ⟨t2, st t2 a1, b1⟩
theorem m_iret {x y : Int} (hexec : p.tables.exec = Jvm.exec) (hb : c.code = cc) (hr : meth.sig.returnType = some .int) (hlocks : meth.locks = false) (hdg : decode cc pc = .ok (.ireturn, 1)) (hPh : Ph cd dv vo AA ab be) (hW : mW D g am cd dv vo ab be AA H) (hT0 : mTo am s.heap H locs) (hv : x = y) :
    W p l e R s m args below meth c H locs 0 0 (MQ below (mQ D g am (some (.int (jI y))) Ph) args s 0 0 (mFr am)) (F0 m pc ls [.int (jI x)]) := by
  subst hv
  exact W.iret hexec hb hr (fun t ht _ => ⟨rfl, ⟨cd, dv, vo, AA, ab, be, hPh, by rw [ht]; exact hW⟩, by rw [ht]; exact hT0.1, fun q hq => by rw [ht]; exact hT0.2.1 q hq⟩) hT0.2.2 hdg
theorem m_zret {x : Int} {y : Bool} (hexec : p.tables.exec = Jvm.exec) (hb : c.code = cc) (hr : meth.sig.returnType = some .boolean) (hlocks : meth.locks = false) (hdg : decode cc pc = .ok (.ireturn, 1)) (hPh : Ph cd dv vo AA ab be) (hW : mW D g am cd dv vo ab be AA H) (hT0 : mTo am s.heap H locs) (hv : x = bI y) :
    W p l e R s m args below meth c H locs 0 0 (MQ below (mQ D g am (some (.int (jI (bI y)))) Ph) args s 0 0 (mFr am)) (F0 m pc ls [.int (jI x)]) := by
  subst hv
  exact W.zret hexec hb hr (bI_narrow y) (fun t ht _ => ⟨rfl, ⟨cd, dv, vo, AA, ab, be, hPh, by rw [ht]; exact hW⟩, by rw [ht]; exact hT0.1, fun q hq => by rw [ht]; exact hT0.2.1 q hq⟩) hT0.2.2 hdg
theorem m_vret (hexec : p.tables.exec = Jvm.exec) (hb : c.code = cc) (hr : meth.sig.returnType = none) (hlocks : meth.locks = false) (hdg : decode cc pc = .ok (.return_, 1)) (hPh : Ph cd dv vo AA ab be) (hW : mW D g am cd dv vo ab be AA H) (hT0 : mTo am s.heap H locs) :
    W p l e R s m args below meth c H locs 0 0 (MQ below (mQ D g am none Ph) args s 0 0 (mFr am)) (F0 m pc ls []) :=
  W.vret hexec hb hr (fun t ht _ => ⟨rfl, ⟨cd, dv, vo, AA, ab, be, hPh, by rw [ht]; exact hW⟩, by rw [ht]; exact hT0.1, fun q hq => by rw [ht]; exact hT0.2.1 q hq⟩) hT0.2.2 hdg
end MCALL
/-! what the reference's arrays hold of a state -/
def upI (o : Option Nat) : Int := match o with
  | none => -1
  | some u => (u : Int)
def mR (z : bSt) (dv vo : Int) (AA : Nat → Nat → Int) : Prop := dv = (bN z : Int) ∧ vo = bV z ∧ ∀ i, i < bN z → AA 1 i = upI (bU z i) ∧ AA 2 i = (bK z i : Int) ∧ (∀ k, k < bK z i → AA 3 (6 * i + k) = bP z i k ∧ AA 4 (6 * i + k) = bL z i k ∧ AA 5 (6 * i + k) = bM z i k) ∧ AA 6 i = (bO z i : Int) ∧ (∀ j, j < bO z i → AA 7 (4 * i + j) = bS z i j ∧ AA 8 (4 * i + j) = bD z i j) ∧ AA 9 i = (bC z i : Int) ∧ AA 10 i = bZ z i
/-- opens at all -/
def mOpen (S : jSet) (I : Int) : Bool := decide (0 < sN S ∧ sS S * sP S 0 ≤ 100 * I)
theorem mOpen_piece {S : jSet} (h : sOK S) (I : Int) : mOpen S I = true ↔ cPiece S I ≠ -1 := by
  unfold mOpen
  rw [decide_eq_true_iff]
  rcases cPc_spec S I (sN S) with ⟨h1, h2⟩ | ⟨k, h1, h2, h3, -⟩
  · constructor
    · intro hh
      have := h2 0 hh.1
      omega
    · intro hh
      exact absurd h1 hh
  · constructor
    · intro _ hh
      unfold cPiece at hh
      omega
    · intro _
      have := sOK_le h (Nat.zero_le k) h1
      exact ⟨by omega, by omega⟩
