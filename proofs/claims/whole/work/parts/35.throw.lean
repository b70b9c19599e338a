/-! what is thrown: the world that it needs, and the contract's words -/
abbrev eIAE : String := "java/lang/IllegalArgumentException"
abbrev eISE : String := "java/lang/IllegalStateException"
abbrev eUp : List String := ["java/lang/RuntimeException", "java/lang/Exception"]
abbrev xIni (C : String) : MethodName := ⟨C, "<init>", "(Ljava/lang/String;)V"⟩
def xT (z0 : Nat) (U : State) (H : Heap) : Prop :=
  (vx_Zq Bundle.tN "UNASSIGNED_STACK" Bundle.steD (fun q => z0 ≤ q) U H ∧ vx_Zq Bundle.tN "SUPPRESSED_SENTINEL" Bundle.listD (fun q => z0 ≤ q) U H) ∧
  (va_Nw (.castable eIAE eIAE) U ∧ va_Nw (.castable eISE eISE) U ∧ va_Nw (.declares (xIni "java/lang/RuntimeException")) U ∧ va_Nw (.declares (xIni "java/lang/Exception")) U ∧ va_Nw (.declares (xIni "java/lang/Throwable")) U) ∧
  (∃ a : Nat → Nat, vk_R RX3 144 "there is no such device" (a 0) U ∧ vk_R RX3 147 "a number is out of its bounds" (a 1) U ∧ vk_R RX3 149 "both devices are one" (a 2) U ∧ vk_R RX3 31 "there are 8 devices" (a 3) U ∧ vk_R RX3 57 "the device has 6 points" (a 4) U ∧ vk_R RX3 63 "the last point is at that place or behind it" (a 5) U ∧ vk_R RX3 71 "the device has 4 options" (a 6) U) ∧
  va_Nc eISE eIAE U
theorem xT.kept {z0 : Nat} {U : State} {H H1 : Heap} (h : xT z0 U H) (hq : ∀ a : Nat, a < H.size → a < z0 → H1[a]? = H[a]?) : xT z0 U H1 :=
  ⟨⟨h.1.1.kept (fun a h1 h2 => hq a h1 (by have h2 : ¬ z0 ≤ a := h2; omega)), h.1.2.kept (fun a h1 h2 => hq a h1 (by have h2 : ¬ z0 ≤ a := h2; omega))⟩, h.2⟩
theorem xT.warm {z0 : Nat} {s U : State} {H : Heap} (hW : s.WarmedH U.vm) (h : xT z0 s H) : xT z0 U H := by
  obtain ⟨⟨h1, h2⟩, ⟨n1, n2, n3, n4, n5⟩, ⟨a, r0, r1, r2, r3, r4, r5, r6⟩, hc⟩ := h
  exact ⟨⟨h1.moved hW.alike, h2.moved hW.alike⟩, ⟨n1.warmC hW, n2.warmC hW, n3.warmD hW, n4.warmD hW, n5.warmD hW⟩, ⟨a, r0.warm hW, r1.warm hW, r2.warm hW, r3.warm hW, r4.warm hW, r5.warm hW, r6.warm hW⟩, hc.moved hW.alike⟩
theorem xT.same {z0 : Nat} {u U : State} {H : Heap} (hv : U.vm = u.vm) (h : xT z0 u H) : xT z0 U H := by
  obtain ⟨⟨h1, h2⟩, ⟨n1, n2, n3, n4, n5⟩, ⟨a, r0, r1, r2, r3, r4, r5, r6⟩, hc⟩ := h
  have hA : u.vm.Alike U.vm := by rw [hv]; exact Vm.Alike.refl u.vm
  exact ⟨⟨h1.moved hA, h2.moved hA⟩, ⟨n1.same rfl hv.symm, n2.same rfl hv.symm, n3.same rfl hv.symm, n4.same rfl hv.symm, n5.same rfl hv.symm⟩, ⟨a, r0.same hv, r1.same hv, r2.same hv, r3.same hv, r4.same hv, r5.same hv, r6.same hv⟩, hc.moved hA⟩
def px_Pc (z0 : Nat) (av : List Value) (D : va_G) (cl : List vw_C) (tys : List (ClassId × FieldType)) (Pic : Heap → Prop) : Array Value → State → Prop := fun v U => pu_Pc av D cl tys Pic v U ∧ xT z0 U U.heap
def px_F : Array Value → State → Outcome → State → Prop := fun _ _ _ _ => False
def px_X (E0 : String) : String → State → State → Prop := fun E st t => E = E0 ∧ st.heap.size ≤ t.heap.size ∧ ∀ q : Nat, q < st.heap.size → t.heap[q]? = st.heap[q]?
theorem px_blind {z0 : Nat} {av : List Value} {D : va_G} {cl : List vw_C} {tys : List (ClassId × FieldType)} {Pic : Heap → Prop} : FrameBlind (px_Pc z0 av D cl tys Pic) := fun a U g mk q => ⟨pu_blind a U g mk q.1, xT.same (u := U) (U := U.calling g mk a) rfl q.2⟩
section PX
variable {p : Program} {l : Launch} {e : Env} {R : Room} {s : State} {m : MethodId} {args : Array Value} {below : List Frame} {meth : Method} {c : Code} {H : Heap} {locs : List Loc}
variable {D : va_G} {cl : List vw_C} {tys : List (ClassId × FieldType)} {Pic : Heap → Prop} {z0 : Nat}
theorem px_preS {As : List Value} (hP : Pic H) (hK : va_K D cl tys s) (hT : xT z0 s H) : PreS s H (px_Pc z0 As D cl tys Pic) As := ⟨px_blind, fun U hU hW => ⟨⟨rfl, by rw [hU]; exact hP, va_K.moved hW.alike hK⟩, by rw [hU]; exact hT.warm hW⟩⟩
theorem px_preV {As fs : List Value} {b ci : Nat} {C : String} {T : u_T} {N : Nat} (hP : Pic H) (hK : va_K D cl tys s) (hT : xT z0 s H) (hc : cl[ci]? = some (C, T, N)) (he : va_at D cl (b, .inr (ci, fs)) H) : PreV s H C b (px_Pc z0 (.ref b :: As) D cl tys Pic) As :=
  ⟨px_blind, va_recv hK (j_P1 he) hc (q0 := 0) rfl, fun U hU hW => ⟨⟨rfl, by rw [hU]; exact hP, va_K.moved hW.alike hK⟩, by rw [hU]; exact hT.warm hW⟩⟩
/-- a call that throws, in a method that doesn't catch -/
theorem px_out {E0 : String} {pc : Nat} {ls : Array Slot} {st0 rest : List Value} {a : Array Value} (hr : vx_Run p l e R s m args below meth c s.heap [] 0 0 1 6 (F0 m pc ls st0) rest (px_F a) (px_X E0) (fun _ => False)) (hnt : ∀ x ∈ c.exceptionTable.toList, False) (hlocks : meth.locks = false) :
    W p l e R s m args below meth c s.heap [] 0 0 (vx_MQ below px_F (px_X E0) args s 1 6 (fun _ => False)) (F0 m pc ls st0) := by
  intro T hT X
  rcases hr T hT X with ⟨v, st₀, t, T', L, h0, X', hL, e1, e2, hf, st⟩ | ⟨q, st₀, t, T', L, E, ce, h0, X', hL, e1, e2, hx, hce, hcv, hcl, st⟩
  · exact hf.elim
  · obtain ⟨x1, x2, x3⟩ := hx
    rw [h0] at x2 x3
    obtain ⟨t2, a1, b1⟩ := vx_out (H := T'.heap) (Qc := px_F) (XC := px_X E0) (mc := 1) (ms := 6) (free := fun _ => False) (ls := ls) (rest := rest) (pc := pc) (q := q) (E := E) (fun x h => (hnt x h).elim) hlocks (by rw [e1]; exact hce) hcv hcl (fun t9 h9 _ => ⟨x1, by rw [h9, e1]; exact x2, fun q9 hq9 => by rw [h9, e1]; exact x3 q9 hq9⟩) (fun z hz => hL z hz) (Nat.le_refl _) (Nat.le_refl _) T' rfl X'
    exact ⟨t2, st.trans a1, b1⟩
end PX
set_option maxRecDepth 100000 in
theorem xw_a1 : ∀ w ∈ (vx_atS RX3 146 eIAE eUp).filter goodWord, w ∈ gAll := by decide +kernel
set_option maxRecDepth 100000 in
theorem xw_a2 : ∀ w ∈ (vx_atS RX3 146 eIAE eUp).filter (fun w => !goodWord w), w ∈ [Cond.castable eIAE eIAE, .declares (xIni "java/lang/RuntimeException"), .declares (xIni "java/lang/Exception"), .declares (xIni "java/lang/Throwable")] := by decide +kernel
set_option maxRecDepth 100000 in
theorem xw_a3 : ∀ w ∈ Cond.classLink RX3 142 eIAE :: Cond.initialized eIAE :: vx_atS RX3 146 eIAE eUp, vx_ot w = true := by decide +kernel
set_option maxRecDepth 100000 in
theorem xw_s1 : ∀ w ∈ (vx_atS RX3 33 eISE eUp).filter goodWord, w ∈ gAll := by decide +kernel
set_option maxRecDepth 100000 in
theorem xw_s2 : ∀ w ∈ (vx_atS RX3 33 eISE eUp).filter (fun w => !goodWord w), w ∈ [Cond.castable eISE eISE, .declares (xIni "java/lang/RuntimeException"), .declares (xIni "java/lang/Exception"), .declares (xIni "java/lang/Throwable")] := by decide +kernel
set_option maxRecDepth 100000 in
theorem xw_s3 : ∀ w ∈ Cond.classLink RX3 29 eISE :: Cond.initialized eISE :: vx_atS RX3 33 eISE eUp, vx_ot w = true := by decide +kernel
set_option maxRecDepth 100000 in
theorem xw_l : Cond.classLink RX3 142 eIAE ∈ gAll ∧ Cond.initialized eIAE ∈ gAll ∧ Cond.classLink RX3 29 eISE ∈ gAll ∧ Cond.initialized eISE ∈ gAll := by decide +kernel
section PXT
variable {p : Program} {l : Launch} {e : Env} {R : Room} {s : State} {m : MethodId} {args : Array Value} {below : List Frame} {meth : Method} {c : Code} {z0 : Nat} {cc : ByteArray} {pc : Nat} {ls : Array Slot} {rest : List Value} {is sa : Nat} {text : String}
/-- throw new IllegalArgumentException(text) -/
theorem px_throwA (hx : p.tables.exec = Jvm.exec) (hb : c.code = cc) (hl9 : l.stackTraces = false) (hown : s.vm.findClass RX3 = some m.cls) (hts : ∀ w ∈ gAll, w.before args s = true) (hT : xT z0 s s.heap) (hstr : vk_R RX3 is text sa s) (hsize : ls.size = c.maxLocals)
    (d0 : decode cc pc = .ok (.new 142, 3)) (d3 : decode cc (pc + 3) = .ok (.dup, 1)) (d4 : decode cc (pc + 4) = .ok (.ldc is, 2)) (d6 : decode cc (pc + 6) = .ok (.invokespecial 146, 3)) (d9 : decode cc (pc + 9) = .ok (.athrow, 1)) (hnt : ∀ x ∈ c.exceptionTable.toList, False)
    (hRf : 5 < R.frames) (hRl : (rest.map fun v => v.category).sum + 82 ≤ R.locals) (hRc : 1 ≤ R.cells) (hRs : 6 ≤ R.slots) (hlocks : meth.locks = false) :
    W p l e R s m args below meth c s.heap [] 0 0 (vx_MQ below px_F (px_X eIAE) args s 1 6 (fun _ => False)) (F0 m pc ls rest) := by
  obtain ⟨⟨h1, h2⟩, ⟨n1, n2, n3, n4, n5⟩, -, -⟩ := hT
  exact vx_throwS (own := RX3) (cls := eIAE) (names := eUp) (ik := 142) (ic := 146) hx hb hl9 hown (by decide) (by decide) (hts _ xw_l.1) (hts _ xw_l.2.1) hstr
    (vx_hat (fun w hw => hts w (xw_a1 w hw)) xw_a2 (vx_c (n1.use rfl) (vx_c (n3.use rfl) (vx_c (n4.use rfl) (vx_c (n5.use rfl) vx_n))))) xw_a3 h1 h2 ⟨Nat.le_refl _, fun _ _ _ => rfl, fun _ h => nomatch h⟩ hsize d0 d3 d4 d6 d9 (fun x h => (hnt x h).elim) hRf hRl (by omega) (by omega) hlocks
    (fun t _ hz hk => ⟨rfl, hz, hk⟩) (fun _ h => nomatch h) (Nat.le_refl _) (Nat.le_refl _)
/-- throw new IllegalStateException(text) -/
theorem px_throwI (hx : p.tables.exec = Jvm.exec) (hb : c.code = cc) (hl9 : l.stackTraces = false) (hown : s.vm.findClass RX3 = some m.cls) (hts : ∀ w ∈ gAll, w.before args s = true) (hT : xT z0 s s.heap) (hstr : vk_R RX3 is text sa s) (hsize : ls.size = c.maxLocals)
    (d0 : decode cc pc = .ok (.new 29, 3)) (d3 : decode cc (pc + 3) = .ok (.dup, 1)) (d4 : decode cc (pc + 4) = .ok (.ldc is, 2)) (d6 : decode cc (pc + 6) = .ok (.invokespecial 33, 3)) (d9 : decode cc (pc + 9) = .ok (.athrow, 1)) (hnt : ∀ x ∈ c.exceptionTable.toList, False)
    (hRf : 5 < R.frames) (hRl : (rest.map fun v => v.category).sum + 82 ≤ R.locals) (hRc : 1 ≤ R.cells) (hRs : 6 ≤ R.slots) (hlocks : meth.locks = false) :
    W p l e R s m args below meth c s.heap [] 0 0 (vx_MQ below px_F (px_X eISE) args s 1 6 (fun _ => False)) (F0 m pc ls rest) := by
  obtain ⟨⟨h1, h2⟩, ⟨n1, n2, n3, n4, n5⟩, -, -⟩ := hT
  exact vx_throwS (own := RX3) (cls := eISE) (names := eUp) (ik := 29) (ic := 33) hx hb hl9 hown (by decide) (by decide) (hts _ xw_l.2.2.1) (hts _ xw_l.2.2.2) hstr
    (vx_hat (fun w hw => hts w (xw_s1 w hw)) xw_s2 (vx_c (n2.use rfl) (vx_c (n3.use rfl) (vx_c (n4.use rfl) (vx_c (n5.use rfl) vx_n))))) xw_s3 h1 h2 ⟨Nat.le_refl _, fun _ _ _ => rfl, fun _ h => nomatch h⟩ hsize d0 d3 d4 d6 d9 (fun x h => (hnt x h).elim) hRf hRl (by omega) (by omega) hlocks
    (fun t _ hz hk => ⟨rfl, hz, hk⟩) (fun _ h => nomatch h) (Nat.le_refl _) (Nat.le_refl _)
end PXT
