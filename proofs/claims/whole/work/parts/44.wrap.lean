/-! the law's wrappers: base -/
def cn (x : Int) : Int := (jI x).toInt
theorem jI_cn (x : Int) : jI (cn x) = jI x := Int32.ofInt_toInt _
theorem cn_rng (x : Int) : -2147483648 ≤ cn x ∧ cn x < 2147483648 := by
  have h1 := Int32.le_toInt (jI x)
  have h2 := Int32.toInt_lt (jI x)
  unfold cn
  omega
abbrev oC (g : Nat → ClassId) (v : Int) : va_E := .inl (g 4, 1, .inr (.inl (fun _ => jL v)))
def lFr (ad : Nat → Nat) (ao : Nat) : Addr → Prop := fun q => bFr ad q ∨ q = ao
def lTo (ad : Nat → Nat) (ao : Nat) (H0 H : Heap) (locs : List Loc) : Prop := H0.size ≤ H.size ∧ (∀ q : Nat, q < H0.size → ¬ lFr ad ao q → H[q]? = H0[q]?) ∧ ∀ z ∈ locs, lFr ad ao z.base
theorem lTo.rf {ad : Nat → Nat} {ao : Nat} {H : Heap} : lTo ad ao H H [] := ⟨Nat.le_refl _, fun _ _ _ => rfl, fun _ h => by cases h⟩
theorem lTo.of {ad : Nat → Nat} {ao : Nat} {H0 H : Heap} {locs : List Loc} (h : bTo ad H0 H locs) : lTo ad ao H0 H locs := ⟨Nat.le_of_eq h.1.symm, fun q _ hq => h.2.1 q (fun z => hq (Or.inl z)), fun z hz => Or.inl (h.2.2 z hz)⟩
theorem lTo.put {ad : Nat → Nat} {ao f : Nat} {H0 H H1 : Heap} {locs : List Loc} (h : lTo ad ao H0 H locs) (hz : H1.size = H.size) (oq : ∀ q, q ≠ ao → H1[q]? = H[q]?) : lTo ad ao H0 H1 (locs ++ [⟨ao, f⟩]) := by
  refine ⟨by rw [hz]; exact h.1, fun q h1 h2 => (oq q (fun e => h2 (Or.inr e))).trans (h.2.1 q h1 h2), fun z hz9 => ?_⟩
  rcases List.mem_append.mp hz9 with h1 | h1
  · exact h.2.2 z h1
  · rw [List.mem_singleton.mp h1]
    exact Or.inr rfl
theorem bW_kept {D : va_G} {g : Nat → ClassId} {ad : Nat → Nat} {z : bSt} {rl : Nat → Nat → Bool} {ff : Nat → Nat → Int} {H H1 : Heap} (h : bW D g ad z rl ff H) (hq : ∀ q, q < 98 → H1[ad q]? = H[ad q]?) : bW D g ad z rl ff H1 := fun q h1 => (h q h1).kept (hq q h1)
theorem bW_lt {D : va_G} {g : Nat → ClassId} {ad : Nat → Nat} {z : bSt} {rl : Nat → Nat → Bool} {ff : Nat → Nat → Int} {H : Heap} (h : bW D g ad z rl ff H) {q : Nat} (h1 : q < 98) : ad q < H.size := (h q h1).lt
theorem va_lcongr {D : va_G} {cl : List vw_C} {x n : Nat} {cA : ClassId} {f f' : Nat → Int64} {H : Heap} (hf : ∀ j, j < n → f j = f' j) (h : va_at D cl (x, .inl (cA, n, .inr (.inl f))) H) : va_at D cl (x, .inl (cA, n, .inr (.inl f'))) H := by
  have h : H[x]? = some (vp_cell cA (n, .inr (.inl f))) := h
  show H[x]? = some (vp_cell cA (n, .inr (.inl f')))
  rw [h, vp_cell_l, vp_cell_l]
  unfold arrV
  congr 2
  congr 1
  funext j
  dsimp only
  rw [hf j.val j.isLt]
def lQ (D : va_G) (g : Nat → ClassId) (ad : Nat → Nat) (ao : Nat) (w : bSt) (code ans : Int) : Array Value → State → Outcome → State → Prop := fun _ st o t =>
  o = .returned (some (.int (jI code))) ∧ (∃ rl ff, bW D g ad w rl ff t.heap) ∧ (∃ v : Int, (code = 0 → v = cn ans) ∧ va_at D vwCl (ao, oC g v) t.heap) ∧ st.heap.size ≤ t.heap.size ∧ ∀ q : Nat, q < st.heap.size → ¬ lFr ad ao q → t.heap[q]? = st.heap[q]?
abbrev lPc (z0 : Nat) (av : List Value) (D : va_G) (g : Nat → ClassId) (ad : Nat → Nat) (ao : Nat) (z : bSt) (rl : Nat → Nat → Bool) (ff : Nat → Nat → Int) (v : Int) : Array Value → State → Prop := px_Pc z0 av D vwCl (ty9 g) (fun H => bW D g ad z rl ff H ∧ va_at D vwCl (ao, oC g v) H)
/-- a body with handlers -/
theorem j_ofWH {l : Launch} {y : MethodName} {ws ws' : List Cond} {rm : Room} {Pc : Array Value → State → Prop} {Qc : Array Value → State → Outcome → State → Prop} {mc ms : Nat} {free : Addr → Prop} {cc : ByteArray} {maxL : Nat} {ret : Option FieldType} {hh : List (Nat × Nat × Nat × Nat)}
    (hy : plainName y.cls = true) (hw : ws = Cond.codeWith y cc maxL ret hh :: ws')
    (body : ∀ p e s m args below meth c s₁, BodyLoose p l y (headSpec ws rm) cc maxL ret e s m args below meth c s₁ → c.maxLocals = maxL → Pc args s →
      W p l e (headSpec ws rm).room s m args below meth c s.heap [] 0 0 (MQ below Qc args s mc ms free) (entryFrame m args maxL)) : Met l y ws rm Pc Qc mc ms free := by
  refine MetFree.of_bodyS (code := cc) (maxLocals := maxL) (ret := ret) hy ?_ ?_
  · intro args s m h hn
    obtain ⟨m9, meth, c, hn9, h1, h2, h3, h4, -, h5, h6, -⟩ := Cond.codeWith_spec (atoms_spec (ws := ws) h _ (by rw [hw]; exact List.mem_cons_self))
    cases hn.symm.trans hn9
    exact ⟨meth, c, h1, h2, h3, h4, h5, h6⟩
  · intro p e s m args below meth c s₁ B hml hP _
    have hh0 : s₁.heap = s.heap := by rw [B.state]; rfl
    obtain ⟨t, a1, o, b1, b2, b3⟩ := body p e s m args below meth c s₁ B hml hP s₁ hh0 (Stand.of_body B)
    exact ⟨t, o, a1, b1, b2, ⟨b3.1, b3.2⟩⟩
section LW
variable {p : Program} {l : Launch} {e : Env} {R : Room} {s : State} {m : MethodId} {args : Array Value} {below : List Frame} {meth : Method} {c : Code} {H : Heap} {locs : List Loc} {cells slots : Nat} {Q : State → Prop}
variable {cc : ByteArray} {pc : Nat} {ls : Array Slot} {rest st0 : List Value} {a : Array Value} {D : va_G} {g : Nat → ClassId} {ad : Nat → Nat} {ao : Nat} {w : bSt} {rl : Nat → Nat → Bool} {ff : Nat → Nat → Int}
theorem px_catch {E0 : String} (hr : vx_Run p l e R s m args below meth c s.heap [] 0 0 1 6 (F0 m pc ls st0) rest (px_F a) (px_X E0) (fun _ => False))
    (kk : ∀ (ce : Cell) (q : Addr) (H1 : Heap), H1[q]? = some ce → ce.vm = .none → s.vm.findClass E0 = some ce.cls → s.heap.size ≤ H1.size → (∀ q9 : Nat, q9 < s.heap.size → H1[q9]? = s.heap[q9]?) → vx_W p l e R s m args below meth c H1 [] 1 6 Q (F0 m pc ls rest) q) : W p l e R s m args below meth c s.heap [] 0 0 Q (F0 m pc ls st0) := by
  intro T hT X
  rcases hr T hT X with ⟨v, st₀, t, T', L, h0, X', hL, e1, e2, hf, st⟩ | ⟨q, st₀, t, T', L, E, ce, h0, X', hL, e1, e2, hx, hce, hcv, hcl, st⟩
  · exact hf.elim
  · obtain ⟨x1, x2, x3⟩ := hx
    subst x1
    rw [h0] at x2 x3
    have hL0 : L = [] := by
      cases L with
      | nil => rfl
      | cons z L => exact (hL z (List.mem_cons_self ..)).elim
    subst hL0
    obtain ⟨t2, a1, b1⟩ := kk ce q T'.heap (by rw [e1]; exact hce) hcv hcl (by rw [e1]; exact x2) (fun q9 h9 => by rw [e1]; exact x3 q9 h9) T' rfl X'
    exact ⟨t2, st.trans a1, b1⟩
theorem l_iret {code ans x v : Int} (hexec : p.tables.exec = Jvm.exec) (hb : c.code = cc) (hr : meth.sig.returnType = some .int) (hlocks : meth.locks = false) (hdg : decode cc pc = .ok (.ireturn, 1)) (hx : x = code) (hW : bW D g ad w rl ff H) (ho : va_at D vwCl (ao, oC g v) H) (hv : code = 0 → v = cn ans) (hT : lTo ad ao s.heap H locs) :
    W p l e R s m args below meth c H locs cells slots (MQ below (lQ D g ad ao w code ans) args s cells slots (lFr ad ao)) (F0 m pc ls [.int (jI x)]) := by
  subst hx
  exact W.iret hexec hb hr (fun t ht _ => ⟨rfl, ⟨rl, ff, by rw [ht]; exact hW⟩, ⟨v, hv, by rw [ht]; exact ho⟩, by rw [ht]; exact hT.1, fun q h1 h2 => by rw [ht]; exact hT.2.1 q h1 h2⟩) hT.2.2 hdg
end LW
