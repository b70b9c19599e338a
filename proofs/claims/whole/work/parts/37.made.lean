/-! rows of things made: arrays, objects; a final field; a reference put into an array -/
section JN
variable {p : Program} {l : Launch} {e : Env} {R : Room} {s : State} {m : MethodId} {args : Array Value} {below : List Frame} {meth : Method} {c : Code} {H : Heap} {locs : List Loc} {cells slots : Nat} {Q : State → Prop}
variable {cc : ByteArray} {pc : Nat} {ls : Array Slot} {rest : List Value} {a y : Int} {D : va_G} {cl : List vw_C} {tys : List (ClassId × FieldType)} {x n i h N' : Nat} {cA : ClassId}
theorem jn_newi (hexec : p.tables.exec = Jvm.exec) (hb : c.code = cc) (harr : (Cond.arrayClass .int).before args s = true) (hK : va_K D cl tys s) (t0 : Nat) (ht : tys[t0]? = some (cA, .int)) (ha : a = (N' : Int)) (hN : N' < 1000) (hh : H.size = h) (hcells : cells + 1 ≤ R.cells) (hslots : slots + N' ≤ R.slots) (hdg : decode cc pc = .ok (.newarray .int, 2))
    (kk : ∀ H1 : Heap, va_at D cl (h, .inl (cA, N', .inl (fun _ => jI 0))) H1 → H1.size = h + 1 → (∀ q, q < h → H1[q]? = H[q]?) → W p l e R s m args below meth c H1 locs (cells + 1) (slots + N') Q (F0 m (pc + 2) ls (.ref h :: rest))) :
    W p l e R s m args below meth c H locs cells slots Q (F0 m pc ls (.int (jI a) :: rest)) := by
  subst ha
  have hin := jI_in (i := N') (n := N' + 1) (by omega) (by omega)
  have hf : s.vm.findClass ("[" ++ FieldType.int.toString) = some cA := (hK.2 t0 _ ht).2
  refine va_newaK hexec hb (atype := .int) harr rfl hdg rfl (fun q => hin (Or.inl q)) (jI_clampN (by omega)) (by show N' * 4 ≤ _; omega) hcells hslots hh fun H1 cA2 e1 z1 o1 hAr hNm => ?_
  have hc : cA2 = cA := Option.some.inj (hNm.symm.trans hf)
  subst hc
  exact kk H1 e1 z1 o1
theorem jn_newz (hexec : p.tables.exec = Jvm.exec) (hb : c.code = cc) (harr : (Cond.arrayClass .boolean).before args s = true) (hK : va_K D cl tys s) (t0 : Nat) (ht : tys[t0]? = some (cA, .boolean)) (ha : a = (N' : Int)) (hN : N' < 1000) (hh : H.size = h) (hcells : cells + 1 ≤ R.cells) (hslots : slots + N' ≤ R.slots) (hdg : decode cc pc = .ok (.newarray .boolean, 2))
    (kk : ∀ H1 : Heap, va_at D cl (h, .inl (cA, N', .inl (fun _ => jI 0))) H1 → H1.size = h + 1 → (∀ q, q < h → H1[q]? = H[q]?) → W p l e R s m args below meth c H1 locs (cells + 1) (slots + N') Q (F0 m (pc + 2) ls (.ref h :: rest))) :
    W p l e R s m args below meth c H locs cells slots Q (F0 m pc ls (.int (jI a) :: rest)) := by
  subst ha
  have hin := jI_in (i := N') (n := N' + 1) (by omega) (by omega)
  have hf : s.vm.findClass ("[" ++ FieldType.boolean.toString) = some cA := (hK.2 t0 _ ht).2
  refine va_newaK hexec hb (atype := .boolean) harr rfl hdg rfl (fun q => hin (Or.inl q)) (jI_clampN (by omega)) (by show N' * 1 ≤ _; omega) hcells hslots hh fun H1 cA2 e1 z1 o1 hAr hNm => ?_
  have hc : cA2 = cA := Option.some.inj (hNm.symm.trans hf)
  subst hc
  exact kk H1 e1 z1 o1
theorem jn_newl (hexec : p.tables.exec = Jvm.exec) (hb : c.code = cc) (harr : (Cond.arrayClass .long).before args s = true) (hK : va_K D cl tys s) (t0 : Nat) (ht : tys[t0]? = some (cA, .long)) (ha : a = (N' : Int)) (hN : N' < 1000) (hh : H.size = h) (hcells : cells + 1 ≤ R.cells) (hslots : slots + N' ≤ R.slots) (hdg : decode cc pc = .ok (.newarray .long, 2))
    (kk : ∀ H1 : Heap, va_at D cl (h, .inl (cA, N', .inr (.inl (fun _ => jL 0)))) H1 → H1.size = h + 1 → (∀ q, q < h → H1[q]? = H[q]?) → W p l e R s m args below meth c H1 locs (cells + 1) (slots + N') Q (F0 m (pc + 2) ls (.ref h :: rest))) :
    W p l e R s m args below meth c H locs cells slots Q (F0 m pc ls (.int (jI a) :: rest)) := by
  subst ha
  have hin := jI_in (i := N') (n := N' + 1) (by omega) (by omega)
  have hf : s.vm.findClass ("[" ++ FieldType.long.toString) = some cA := (hK.2 t0 _ ht).2
  refine va_newaK hexec hb (atype := .long) harr rfl hdg rfl (fun q => hin (Or.inl q)) (jI_clampN (by omega)) (by show N' * 8 ≤ _; omega) hcells hslots hh fun H1 cA2 e1 z1 o1 hAr hNm => ?_
  have hc : cA2 = cA := Option.some.inj (hNm.symm.trans hf)
  subst hc
  exact kk H1 e1 z1 o1
theorem jn_newq {own C : String} {index : Nat} (hexec : p.tables.exec = Jvm.exec) (hb : c.code = cc) (hown : s.vm.findClass own = some m.cls) (hclink : (Cond.classLink own index C).before args s = true) (hover : va_AO C s) (hK : va_K D cl tys s) (t0 : Nat) (ht : tys[t0]? = some (cA, .object C)) (ha : a = (N' : Int)) (hN : N' < 1000) (hh : H.size = h) (hcells : cells + 1 ≤ R.cells) (hslots : slots + N' ≤ R.slots) (hdg : decode cc pc = .ok (.anewarray index, 3))
    (kk : ∀ H1 : Heap, va_at D cl (h, .inl (cA, N', .inr (.inr (.inr (.inr (fun _ => none)))))) H1 → H1.size = h + 1 → (∀ q, q < h → H1[q]? = H[q]?) → W p l e R s m args below meth c H1 locs (cells + 1) (slots + N') Q (F0 m (pc + 3) ls (.ref h :: rest))) :
    W p l e R s m args below meth c H locs cells slots Q (F0 m pc ls (.int (jI a) :: rest)) := by
  subst ha
  subst hh
  have hin := jI_in (i := N') (n := N' + 1) (by omega) (by omega)
  have hcl := jI_clampN (i := N') (by omega)
  obtain ⟨kA9, comp9, g1, g2, g3, hf⟩ := (hK.2 t0 _ ht).2
  refine W.anew hexec hb hown hclink (va_AO.use hover) rfl hdg rfl (fun q => hin (Or.inl q)) (by rw [hcl]; omega) hcells (by rw [hcl]; exact hslots) fun cA2 kA comp f1 f2 f3 f4 => ?_
  have hc : cA2 = cA := Option.some.inj (f1.symm.trans hf)
  subst hc
  rw [hcl]
  refine kk _ ?_ (Array.size_push ..) (fun q hq => by rw [Array.getElem?_push, if_neg (Nat.ne_of_lt hq)])
  show (H.push _)[H.size]? = some (vp_cell _ _)
  rw [vp_cell_q, Array.getElem?_push_size, ← arrV_new]
  rfl
theorem jn_new {own C : String} {T : u_T} {N ci index : Nat} {Ts : List Cond} {fs : List Value} (hexec : p.tables.exec = Jvm.exec) (hb : c.code = cc) (hts : ∀ w ∈ Ts, w.before args s = true) (hin : ∀ w ∈ u_ws C T N, w ∈ Ts) (ty : Nat → FieldType) (hty : ∀ k, k < N → parseFieldDescriptor (T k).2.2.1 = some (ty k)) (hown : s.vm.findClass own = some m.cls) (hcl : (Cond.classLink own index C).before args s = true) (hinst : (Cond.instantiable C N).before args s = true) (hini : (Cond.initialized C).before args s = true)
    (hK : va_K D cl tys s) (hc : cl[ci]? = some (C, T, N)) (hfs : ∀ j, j < N → defaultValue (ty j) = vp_V fs j) (hh : H.size = h) (hcells : cells + 1 ≤ R.cells) (hslots : slots + N ≤ R.slots) (hdg : decode cc pc = .ok (.new index, 3))
    (kk : ∀ H1 : Heap, va_at D cl (h, .inr (ci, fs)) H1 → H1.size = h + 1 → (∀ q, q < h → H1[q]? = H[q]?) → W p l e R s m args below meth c H1 locs (cells + 1) (slots + N) Q (F0 m (pc + 3) ls (.ref h :: rest))) : W p l e R s m args below meth c H locs cells slots Q (F0 m pc ls rest) := by
  have hKn := hK.1 ci _ hc
  refine W.newcK hexec hb hown hcl hinst hini rfl hdg hcells hslots hKn.2.1 hh fun H1 kC hkC e1 z1 o1 => ?_
  exact kk H1 ⟨_, hc, (u_born ty hts hin hKn hkC e1 hty).to hfs⟩ z1 o1
theorem jv_putF {own ref C : String} {T : u_T} {N ci index : Nat} {Ts : List Cond} (hexec : p.tables.exec = Jvm.exec) (hb : c.code = cc) (hts : ∀ w ∈ Ts, w.before args s = true) (hin : ∀ w ∈ u_ws C T N, w ∈ Ts) (ty0 : Nat → FieldType) (hty : ∀ k, k < N → parseFieldDescriptor (T k).2.2.1 = some (ty0 k)) (hnm : ∀ a, a < N → ∀ b, b < N → a ≠ b → (T a).2.1 ≠ (T b).2.1)
    (hown : s.vm.findClass own = some m.cls) (hK : va_K D cl tys s) {fs : List Value} (he : va_at D cl (x, .inr (ci, fs)) H) (hc : cl[ci]? = some (C, T, N)) (k : Nat) (hk : k < N) (hlink : (Cond.fieldLink own index ref (T k).2.1 (T k).2.2.1).before args s = true) (hsame : ∀ z, s.fieldFound? (T k).1 (T k).2.1 (T k).2.2.1 = some z → s.fieldFound? ref (T k).2.1 (T k).2.2.1 = some z) (hfin : (T k).2.2.2 = true) (hin2 : meth.name = "<init>") (hdecl : (T k).1 = own)
    {ty : FieldType} {v : Value} (hd : parseFieldDescriptor (T k).2.2.1 = some ty) (hn : narrow ty v = v) (hfit : fits ty v = true) (hl : k < fs.length) (hdg : decode cc pc = .ok (.putfield index, 3))
    (kk : ∀ (H1 : Heap) (f : Nat), va_at D cl (x, .inr (ci, fs.set k v)) H1 → H1.size = H.size → (∀ q, q ≠ x → H1[q]? = H[q]?) → W p l e R s m args below meth c H1 (locs ++ [⟨x, f⟩]) cells slots Q (F0 m (pc + 3) ls rest)) :
    W p l e R s m args below meth c H locs cells slots Q (F0 m pc ls (v :: .ref x :: rest)) := by
  have hap := va_apart (own := own) hts hin ty0 hty hnm hK hc
  obtain ⟨r, h1, cell, q1, q2, q3, q4⟩ := he
  have hr : r = (C, T, N) := Option.some.inj (h1.symm.trans hc)
  subst hr
  obtain ⟨hS, hfc, kC, hkC, hkind⟩ := hK.1 ci _ hc
  obtain ⟨cf, kf, fi, f, hi, hsl⟩ := hS k hk
  have hlay := hts _ (hin _ (u_in_lay hk))
  unfold u_lay at hlay
  rw [if_pos hfin] at hlay
  have hst := (u_facts hfc hkC (u_lays hts hin hk) hi).1
  have hcf : m.cls = cf := by
    obtain ⟨_, _, c', _, _, _, -, -, hf', -, -, -, hown2, -⟩ := Cond.laysFinal_spec hlay
    have e1 : c' = cf := by have := hi.symm.trans hf'; simp at this; exact this.1.symm
    rw [hdecl] at hown2
    rw [← e1]; exact Option.some.inj (hown.symm.trans hown2)
  have h6 := u_fits hfc hkC hkind (Or.inr hlay) hi hd hn hfit
  refine W.putFinK hexec hb hown hlink (hsame _ hi) hst hcf hin2 (by rw [q2]; exact h6) q1 q3 (by rw [hsl]; exact k2_hasslot (q4 k hk)) rfl rfl hdg fun H' e1 e2 e3 => ?_
  rw [hsl] at e1 ⊢
  exact kk H' _ ⟨_, hc, t_OB.to (V := updV (vp_V fs) k v) ⟨_, e1, q2, q3, t_set q4 hap hk v⟩ (fun j _ => vp_updV_set hl v j)⟩ e2 e3
theorem jv_astq {ci v : Nat} {r : vw_C} {vs : List Value} {f : Nat → Option Nat} (hexec : p.tables.exec = Jvm.exec) (hb : c.code = cc) (hK : va_K D cl tys s) (hA : va_at D cl (x, .inl (cA, n, .inr (.inr (.inr (.inr f))))) H) (t0 : Nat) (ht : tys[t0]? = some (cA, .object r.1)) (hv : va_at D cl (v, .inr (ci, vs)) H) (hc : cl[ci]? = some r) (ha : a = (i : Int)) (hi : i < n) (hn : n < 2147483648) (hdg : decode cc pc = .ok (.aastore, 1))
    (kk : ∀ (H1 : Heap) (f9 : Nat), va_at D cl (x, .inl (cA, n, .inr (.inr (.inr (.inr (jUp f i (some v))))))) H1 → H1.size = H.size → (∀ q, q ≠ x → H1[q]? = H[q]?) → W p l e R s m args below meth c H1 (locs ++ [⟨x, f9⟩]) cells slots Q (F0 m (pc + 1) ls rest)) :
    W p l e R s m args below meth c H locs cells slots Q (F0 m pc ls (.ref v :: .int (jI a) :: .ref x :: rest)) := by
  subst ha
  have hin := jI_in hi hn
  have hcl := jI_clampN (i := i) (by omega)
  have hlt : (jI (i : Int)).toNatClampNeg < n := Nat.not_le.mp fun q => hin (Or.inr q)
  have h0 : ¬ (jI (i : Int)) < 0 := fun q => hin (Or.inl q)
  obtain ⟨r', hr', cellV, g1, g2, g3, -⟩ := hv
  have hcls := (hK.1 ci r hc).2
  obtain ⟨kA, comp, k1, k2, k3, -⟩ := (hK.2 t0 _ ht).2
  have hcomp : comp = D.1 ci := Option.some.inj (k3.symm.trans hcls.1)
  subst hcomp
  obtain ⟨kC, hkC, -⟩ := hcls.2
  have hA' : H[x]? = some (vp_cell cA (n, .inr (.inr (.inr (.inr f))))) := hA
  refine W.aast hexec hb hA' (fun q h => by cases h) (fun h => by cases h) k1 k2 rfl hkC ⟨h0, by show _ < (arrV _ _ _).slots.size; rw [arrV_size]; exact hlt⟩ g1 (fun q h => by rw [g3] at h; cases h) (by rw [g2]; exact hkC) (by rw [g2]; exact va_assign hcls) rfl rfl hdg fun H1 e z oq => ?_
  refine kk H1 _ ?_ z oq
  show H1[x]? = some (vp_cell _ _)
  rw [e, vp_cell_q, vp_cell_q, arrV_store, hcl]
  congr 2
  funext q
  by_cases hq : q = i
  · subst hq
    simp [updV, jUp, va_rf]
  · simp [updV, jUp, hq]
end JN
/-! the frame of a constructor on the object b, with the heap's end at h -/
def nF (b h : Nat) (H0 H : Heap) (locs : List Loc) (k : Nat) : Prop := H.size = h + k ∧ (∀ q : Nat, q < h → q ≠ b → H[q]? = H0[q]?) ∧ ∀ z ∈ locs, z.base = b ∨ h ≤ z.base
theorem nF.rf {b h : Nat} {H : Heap} (hh : H.size = h) : nF b h H H [] 0 := ⟨hh, fun _ _ _ => rfl, fun _ h => by cases h⟩
theorem nF.made {b h k h' : Nat} {H0 H H1 : Heap} {locs : List Loc} (hF : nF b h H0 H locs k) (hh : h + k = h') (hz : H1.size = h' + 1) (o : ∀ q, q < h' → H1[q]? = H[q]?) : nF b h H0 H1 locs (k + 1) :=
  ⟨by omega, fun q h1 h2 => (o q (by omega)).trans (hF.2.1 q h1 h2), hF.2.2⟩
theorem nF.put {b h k x f : Nat} {H0 H H1 : Heap} {locs : List Loc} (hF : nF b h H0 H locs k) (hx : x = b ∨ h ≤ x) (hz : H1.size = H.size) (oq : ∀ q, q ≠ x → H1[q]? = H[q]?) : nF b h H0 H1 (locs ++ [⟨x, f⟩]) k := by
  refine ⟨hz.trans hF.1, fun q h1 h2 => (oq q (by omega)).trans (hF.2.1 q h1 h2), fun z hz9 => ?_⟩
  rcases List.mem_append.mp hz9 with h1 | h1
  · exact hF.2.2 z h1
  · rw [List.mem_singleton.mp h1]
    exact hx
def nFr (b h : Nat) : Addr → Prop := fun q => q = b ∨ h ≤ q
def nQ (b h k : Nat) (P : Heap → Prop) : Array Value → State → Outcome → State → Prop := fun _ st o t => o = .returned none ∧ P t.heap ∧ t.heap.size = h + k ∧ ∀ q : Nat, q < h → q ≠ b → t.heap[q]? = st.heap[q]?
/-- what a constructor needs of the tables beside good words -/
def nT (U : State) : Prop := va_AO "BreakerOrders$Device" U ∧ va_AO "BreakerOrders$Setting" U ∧ va_Nw (.methodLinkNest RX1 11 yX0_init RX3) U
theorem nT.warm {s U : State} (hW : s.WarmedH U.vm) (h : nT s) : nT U := ⟨h.1.moved hW.alike, h.2.1.moved hW.alike, h.2.2.warmM hW⟩
theorem nT.same {u U : State} (hv : U.vm = u.vm) (h : nT u) : nT U := by
  have hA : u.vm.Alike U.vm := by rw [hv]; exact Vm.Alike.refl u.vm
  exact ⟨h.1.moved hA, h.2.1.moved hA, h.2.2.same rfl hv.symm⟩
def nPc (av : List Value) (D : va_G) (g : Nat → ClassId) (h : Nat) (Pic : Heap → Prop) : Array Value → State → Prop := fun v U => pu_Pc av D vwCl (ty9 g) (fun H => H.size = h ∧ Pic H) v U ∧ nT U
theorem nPc_blind {av : List Value} {D : va_G} {g : Nat → ClassId} {h : Nat} {Pic : Heap → Prop} : FrameBlind (nPc av D g h Pic) := fun a U g mk q => ⟨pu_blind a U g mk q.1, nT.same (u := U) (U := U.calling g mk a) rfl q.2⟩
section NC
variable {p : Program} {l : Launch} {e : Env} {R : Room} {s : State} {m : MethodId} {args : Array Value} {below : List Frame} {meth : Method} {c : Code} {H H0 : Heap} {locs : List Loc} {cells slots : Nat} {Q : State → Prop}
variable {cc : ByteArray} {pc : Nat} {ls : Array Slot} {rest st0 : List Value} {a : Array Value} {D : va_G} {g : Nat → ClassId} {b h k b' h' k2 ms : Nat} {P : Heap → Prop}
theorem n_pre {As : List Value} {Pic : Heap → Prop} (hh : H.size = h) (hP : Pic H) (hK : va_K D vwCl (ty9 g) s) (hT : nT s) : PreS s H (nPc As D g h Pic) As := ⟨nPc_blind, fun U hU hW => ⟨⟨rfl, ⟨by rw [hU]; exact hh, by rw [hU]; exact hP⟩, va_K.moved hW.alike hK⟩, hT.warm hW⟩⟩
theorem n_call (hr : va_Run p l e R s m args below meth c H locs cells slots k2 ms (F0 m pc ls st0) rest (nQ b' h' k2 P a) (nFr b' h')) (hF : nF b h H0 H locs k) (hb' : h ≤ b') (hh' : h + k = h')
    (kk : ∀ (H1 : Heap) (locs1 : List Loc), P H1 → (∀ q : Nat, q < h' → q ≠ b' → H1[q]? = H[q]?) → nF b h H0 H1 locs1 (k + k2) → W p l e R s m args below meth c H1 locs1 (cells + k2) (slots + ms) Q (F0 m (pc + 3) ls rest)) : W p l e R s m args below meth c H locs cells slots Q (F0 m pc ls st0) := by
  intro T hT X
  obtain ⟨v', st₀, t, T', L, h0, X', hL, e1, e2, ⟨hv, hP, hz, hk⟩, st⟩ := hr T hT X
  cases hv
  rw [h0] at hk
  obtain ⟨t2, a1, b1⟩ := kk T'.heap (locs ++ L) (by rw [e1]; exact hP) (fun q h1 h2 => by rw [e1]; exact hk q h1 h2) ⟨by rw [e1, hz]; omega, fun q h1 h2 => by rw [e1, hk q (by omega) (by omega)]; exact hF.2.1 q h1 h2, fun q hq => by
    rcases List.mem_append.mp hq with h1 | h1
    · exact hF.2.2 q h1
    · rcases hL q h1 with h2 | h2
      · exact Or.inr (Nat.le_trans hb' (Nat.le_of_eq h2.symm))
      · exact Or.inr (by have h3 : h' ≤ (q.base : Nat) := h2; omega)⟩ T' rfl X'
  exact ⟨t2, st t2 a1, b1⟩
theorem n_vret (hexec : p.tables.exec = Jvm.exec) (hb : c.code = cc) (hr : meth.sig.returnType = none) (hlocks : meth.locks = false) (hdg : decode cc pc = .ok (.return_, 1)) (hP : P H) (hF : nF b h s.heap H locs k) :
    W p l e R s m args below meth c H locs cells slots (MQ below (nQ b h k P) args s cells slots (nFr b h)) (F0 m pc ls []) :=
  W.vret hexec hb hr (fun t ht _ => ⟨rfl, by rw [ht]; exact hP, by rw [ht]; exact hF.1, fun q h1 h2 => by rw [ht]; exact hF.2.1 q h1 h2⟩) hF.2.2 hdg
end NC
