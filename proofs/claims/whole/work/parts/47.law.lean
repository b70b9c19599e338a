/-! the law: what holds throughout, what holds between calls -/
def sx (xs : Nat → Int32) (j : Nat) : Int := (xs j).toInt
theorem sx_rng (xs : Nat → Int32) (j : Nat) : -2147483648 ≤ sx xs j ∧ sx xs j < 2147483648 := by
  have h1 := Int32.le_toInt (xs j)
  have h2 := Int32.toInt_lt (xs j)
  unfold sx
  omega
theorem jI_sx (xs : Nat → Int32) (j : Nat) : jI (sx xs j) = xs j := Int32.ofInt_toInt _
theorem nAd_z {z0 q : Nat} (hq : q < 98) : z0 ≤ nAd z0 (z0 + 1) q ∧ nAd z0 (z0 + 1) q < z0 + 98 := by
  rcases nAd_rng (b := z0) (h := z0 + 1) hq with h | h <;> omega
theorem nAm_z {z0 q : Nat} (hq : q < 13) : z0 + 98 ≤ nAm (z0 + 98) (z0 + 99) q ∧ nAm (z0 + 98) (z0 + 99) q < z0 + 111 := by
  rcases nAm_rng (b := z0 + 98) (h := z0 + 99) hq with h | h <;> omega
theorem nAo (z0 : Nat) : ∀ q, q < 98 → z0 + 111 ≠ nAd z0 (z0 + 1) q := fun q hq => by
  have := nAd_z (z0 := z0) hq
  omega
def lI (D : va_G) (g : Nat → ClassId) (z0 : Nat) (s : State) (z : bSt) (rl : Nat → Nat → Bool) (ff : Nat → Nat → Int) (v cd dv vo ab be : Int) (AA : Nat → Nat → Int) (H : Heap) (locs : List Loc) : Prop :=
  bW D g (nAd z0 (z0 + 1)) z rl ff H ∧ va_at D vwCl (z0 + 111, oC g v) H ∧ mW D g (nAm (z0 + 98) (z0 + 99)) cd dv vo ab be AA H ∧ z0 + 112 ≤ H.size ∧ (∀ q : Nat, q < z0 → H[q]? = s.heap[q]?) ∧ ∀ y ∈ locs, z0 ≤ y.base
def lG (l : Launch) (p : Program) (s : State) (m : MethodId) (c : Code) (b L : Nat) (xs : Nat → Int32) (D : va_G) (g : Nat → ClassId) (z0 : Nat) : Prop :=
  l.stackTraces = false ∧ p.tables.exec = Jvm.exec ∧ c.code = code ∧ c.maxLocals = 7 ∧ s.vm.findClass RL = some m.cls ∧ (∀ w ∈ wL_device :: gAll, w.before #[Value.ref b] s = true) ∧ va_K D vwCl (ty9 g) s ∧ xT z0 s s.heap ∧ va_X b L xs s s.heap ∧ b < z0 ∧ L ≤ 2560
def lGo (p : Program) (l : Launch) (e : Env) (s : State) (m : MethodId) (below : List Frame) (meth : Method) (c : Code) (b : Nat) (D : va_G) (g : Nat → ClassId) (z0 : Nat) (Q : State → Prop) (i pc cells slots : Nat) : Prop :=
  ∀ (z : bSt) (rl : Nat → Nat → Bool) (ff : Nat → Nat → Int) (v cd dv vo ab be : Int) (AA : Nat → Nat → Int) (H : Heap) (locs : List Loc) (ls : Array Slot), bOK z → bDef z → mR z dv vo AA → lI D g z0 s z rl ff v cd dv vo ab be AA H locs →
    lv_has ls 7 [(0, .ref b), (1, .ref (nAd z0 (z0 + 1) 0)), (2, .ref (nAm (z0 + 98) (z0 + 99) 0)), (3, .ref (z0 + 111)), (4, .int (jI (i : Int)))] → W p l e room_1 s m #[Value.ref b] below meth c H locs cells slots Q (F0 m pc ls [])
section LL
variable {p : Program} {l : Launch} {e : Env} {R : Room} {s : State} {m : MethodId} {args : Array Value} {below : List Frame} {meth : Method} {c : Code} {H : Heap} {locs : List Loc} {cells slots : Nat} {Q : State → Prop}
variable {cc : ByteArray} {pc : Nat} {ls : Array Slot} {rest st0 : List Value} {a : Array Value} {D : va_G} {g : Nat → ClassId} {z0 : Nat} {z w : bSt} {rl : Nat → Nat → Bool} {ff : Nat → Nat → Int} {v cd dv vo ab be : Int} {AA : Nat → Nat → Int}
theorem LL_call {code ans : Int} (hI : lI D g z0 s z rl ff v cd dv vo ab be AA H locs) (hr : va_Run p l e R s m args below meth c H locs cells slots 1 6 (F0 m pc ls st0) rest (lQ D g (nAd z0 (z0 + 1)) (z0 + 111) w code ans a) (lFr (nAd z0 (z0 + 1)) (z0 + 111)))
    (kk : ∀ (H1 : Heap) (locs1 : List Loc) (rl : Nat → Nat → Bool) (ff : Nat → Nat → Int) (v : Int), lI D g z0 s w rl ff v cd dv vo ab be AA H1 locs1 → (code = 0 → v = cn ans) → W p l e R s m args below meth c H1 locs1 (cells + 1) (slots + 6) Q (F0 m (pc + 3) ls (.int (jI code) :: rest))) : W p l e R s m args below meth c H locs cells slots Q (F0 m pc ls st0) := by
  intro T hT X
  obtain ⟨v', st₀, t, T', L, h0, X', hL, e1, e2, ⟨hv, ⟨rl1, ff1, hW⟩, ⟨v1, hv1, ho⟩, hz, hk⟩, st⟩ := hr T hT X
  cases hv
  rw [h0] at hz hk
  obtain ⟨i1, i2, i3, i4, i5, i6⟩ := hI
  have hfr : ∀ q : Nat, lFr (nAd z0 (z0 + 1)) (z0 + 111) q → z0 ≤ q ∧ (q < z0 + 98 ∨ q = z0 + 111) := by
    intro q hq
    rcases hq with ⟨r, h1, h2⟩ | h2
    · rw [h2]
      have := nAd_z (z0 := z0) h1
      exact ⟨this.1, Or.inl this.2⟩
    · rw [h2]
      exact ⟨Nat.le_add_right _ _, Or.inr rfl⟩
  have hsame : ∀ q : Nat, q < H.size → (q < z0 ∨ (z0 + 98 ≤ q ∧ q ≠ z0 + 111)) → T'.heap[q]? = H[q]? := by
    intro q h1 h2
    rw [e1]
    refine hk q h1 (fun h3 => ?_)
    have := hfr q h3
    omega
  have hm : ∀ r, r < 13 → T'.heap[nAm (z0 + 98) (z0 + 99) r]? = H[nAm (z0 + 98) (z0 + 99) r]? := fun r hr => by
    have := nAm_z (z0 := z0) hr
    exact hsame _ (by omega) (Or.inr ⟨by omega, by omega⟩)
  have hmW : mW D g (nAm (z0 + 98) (z0 + 99)) cd dv vo ab be AA T'.heap := ⟨i3.1.kept (hm 0 (by omega)), fun a h1 h2 => (i3.2 a h1 h2).kept (hm a (by omega))⟩
  have hlo : ∀ y ∈ locs ++ L, z0 ≤ y.base := by
    intro y hy
    rcases List.mem_append.mp hy with h1 | h1
    · exact i6 y h1
    · exact (hfr _ (hL y h1)).1
  obtain ⟨t2, a1, b1⟩ := kk T'.heap (locs ++ L) rl1 ff1 v1 ⟨by rw [e1]; exact hW, by rw [e1]; exact ho, hmW, by rw [e1]; omega, fun q hq => (hsame q (by omega) (Or.inl hq)).trans (i5 q hq), hlo⟩ hv1 T' rfl X'
  exact ⟨t2, st t2 a1, b1⟩
theorem LM_call {code b : Int} (hI : lI D g z0 s z rl ff v cd dv vo ab be AA H locs) (hr : va_Run p l e R s m args below meth c H locs cells slots 0 0 (F0 m pc ls st0) rest (mQ D g (nAm (z0 + 98) (z0 + 99)) (some (.int (jI b))) (fun c n v A _ _ => c = code ∧ mR w n v A) a) (mFr (nAm (z0 + 98) (z0 + 99))))
    (kk : ∀ (H1 : Heap) (locs1 : List Loc) (dv vo : Int) (AA : Nat → Nat → Int) (ab be : Int), mR w dv vo AA → lI D g z0 s z rl ff v code dv vo ab be AA H1 locs1 → W p l e R s m args below meth c H1 locs1 cells slots Q (F0 m (pc + 3) ls (.int (jI b) :: rest))) : W p l e R s m args below meth c H locs cells slots Q (F0 m pc ls st0) := by
  intro T hT X
  obtain ⟨v', st₀, t, T', L, h0, X', hL, e1, e2, ⟨hv, ⟨c1, dv1, vo1, AA1, ab1, be1, ⟨hc, hR⟩, hW⟩, hz, hk⟩, st⟩ := hr T hT X
  cases hv
  subst hc
  rw [h0] at hz hk
  obtain ⟨i1, i2, i3, i4, i5, i6⟩ := hI
  have hfr : ∀ q : Nat, mFr (nAm (z0 + 98) (z0 + 99)) q → z0 + 98 ≤ q ∧ q < z0 + 111 := by
    intro q ⟨r, h1, h2⟩
    rw [h2]
    exact nAm_z (z0 := z0) h1
  have hsame : ∀ q : Nat, (q < z0 + 98 ∨ z0 + 111 ≤ q) → T'.heap[q]? = H[q]? := by
    intro q h2
    rw [e1]
    refine hk q (fun h3 => ?_)
    have := hfr q h3
    omega
  have hlo : ∀ y ∈ locs ++ L, z0 ≤ y.base := by
    intro y hy
    rcases List.mem_append.mp hy with h1 | h1
    · exact i6 y h1
    · have := (hfr _ (hL y h1)).1
      exact Nat.le_trans (Nat.le_add_right _ _) this
  obtain ⟨t2, a1, b1⟩ := kk T'.heap (locs ++ L) dv1 vo1 AA1 ab1 be1 hR ⟨bW_kept i1 (fun q hq => hsame _ (Or.inl (nAd_z (z0 := z0) hq).2)), i2.kept (hsame _ (Or.inr (Nat.le_refl _))), by rw [e1]; exact hW, by rw [e1, hz]; exact i4, fun q hq => (hsame q (Or.inl (by omega))).trans (i5 q hq), hlo⟩ T' rfl X'
  exact ⟨t2, st t2 a1, b1⟩
theorem jl_sld {b L j : Nat} {xs : Nat → Int32} {a : Int} (hexec : p.tables.exec = Jvm.exec) (hb : c.code = cc) (hX : va_X b L xs s H) (ha : a = (j : Int)) (hj : j < L) (hL : L ≤ 2560) (hdg : decode cc pc = .ok (.iaload, 1))
    (kk : W p l e R s m args below meth c H locs cells slots Q (F0 m (pc + 1) ls (.int (jI (sx xs j)) :: rest))) : W p l e R s m args below meth c H locs cells slots Q (F0 m pc ls (.int (jI a) :: .ref b :: rest)) := by
  subst ha
  obtain ⟨scr, h1, h2, h3, h4, h5⟩ := hX
  have hin := jI_in hj (by omega)
  have hcl := jI_clampN (i := j) (by omega)
  rw [jI_sx] at kk
  exact W.iald (v := .int (xs j)) hexec hb h1 h2 h3 (by rw [h4]; exact hin) (by rw [hcl]; exact h5 j hj) rfl rfl hdg kk
theorem jl_slen {b L : Nat} {xs : Nat → Int32} (hexec : p.tables.exec = Jvm.exec) (hb : c.code = cc) (hX : va_X b L xs s H) (hdg : decode cc pc = .ok (.arraylength, 1))
    (kk : W p l e R s m args below meth c H locs cells slots Q (F0 m (pc + 1) ls (.int (jI (L : Int)) :: rest))) : W p l e R s m args below meth c H locs cells slots Q (F0 m pc ls (.ref b :: rest)) := by
  obtain ⟨scr, h1, h2, h3, h4, h5⟩ := hX
  exact W.alen (n := jI (L : Int)) hexec hb h1 h2 (by rw [h4]; rfl) rfl rfl hdg kk
theorem jw_loopC {X : Type} (mu : X → Nat) (Inv : X → Heap → List Loc → Nat → Nat → Array Slot → Prop) (step : ∀ x H L k n ls, Inv x H L k n ls → (∀ y H' L' k' n' ls', Inv y H' L' k' n' ls' → mu y < mu x → W p l e R s m args below meth c H' L' k' n' Q (F0 m pc ls' [])) → W p l e R s m args below meth c H L k n Q (F0 m pc ls [])) (x : X) (H : Heap) (L : List Loc) (k n : Nat) (ls : Array Slot) (h : Inv x H L k n ls) : W p l e R s m args below meth c H L k n Q (F0 m pc ls []) := by
  have key : ∀ (d : Nat) (x : X) (H : Heap) (L : List Loc) (k n : Nat) (ls : Array Slot), mu x < d → Inv x H L k n ls → W p l e R s m args below meth c H L k n Q (F0 m pc ls []) := by
    intro d
    induction d with
    | zero => intro x H L k n ls h; exact absurd h (Nat.not_lt_zero _)
    | succ d ih => intro x H L k n ls hm hI; exact step x H L k n ls hI (fun y H' L' k' n' ls' hy hlt => ih y H' L' k' n' ls' (by omega) hy)
  exact key (mu x + 1) x H L k n ls (Nat.lt_succ_self _) h
end LL
