/-! THE CLAIM OUT OF ONE WALK OF THE LAW'S BODY. Your part is whole_start (and what it stands on); all else here is the same for every law, but numbers. -/
def R_law : String := "BreakerOrdersLaw"
def lw_P (b : Addr) (xs : List Int32) (args : Array Value) (s : State) : Prop := args = #[.ref b] ∧ s.IntsAt b xs ∧ xs.length ≤ 2560 ∧ (Jvm.Cond.and given_1 narrow_1).before args s = true
def lw_Q (_ : Array Value) (s : State) (o : Outcome) (t : State) : Prop := o = .returned (some (.int 1)) ∧ Framed s o t [] 665561 7099421
def lw_Z (below : List Frame) (a : Array Value) (s : State) : State → Prop := fun t => ∃ o, t.status = .running ∧ Ended t below o ∧ lw_Q a s o t
/-- the law's own end, with 1 on the stack, nothing written that was there before, its room as the claim has it -/
theorem lw_ret {p : Program} {l : Launch} {e : Env} {s : State} {m : MethodId} {below : List Frame} {meth : Method} {c : Code} {b : Nat} (hx : p.tables.exec = Jvm.exec) (hb : c.code = code) (hr : meth.sig.returnType = ret) (hlocks : meth.locks = false) {pc : Nat} {H : Heap} {ls : Array Slot} (hdg : decode code pc = .ok (.ireturn, 1)) : W p l e room_1 s m #[Value.ref b] below meth c H [] 665561 7099421 (lw_Z below #[Value.ref b] s) (F0 m pc ls [.int 1]) := by
  intro T hT X
  obtain ⟨fs, hret, hrun, hended, hW, hframe⟩ := X.leave (v := some (.int 1)) (hlocks := hlocks) (fun h => by rw [hr] at h; cases h)
  have hmeth' : T.vm.method? m = some meth := X.method'
  refine ⟨T.setFrames fs, ?_, .returned (some (.int 1)), hrun, hended, rfl, ⟨_, rfl⟩, hW, hframe⟩
  jvm_step X.here [X.here.top, hx, hb, hdg, hmeth', hr, ret, narrow_b1]
  (try refine ⟨rfl, ?_⟩); (try refine ⟨rfl, ?_⟩)
  first | (intro acts; rw [hret _ acts rfl rfl rfl]) | rw [hret _ _ rfl rfl rfl]
  exact Steps.refl _
/-- what holds at the law's entry: the machine, the code, the tables' words (any of lw_tbl by 'hts w (by decide +kernel)'), the script of L ints xs at the cell b, what the Statement gives of the start (any of its parts by flat_of_before) -/
def lw_At (p : Program) (s : State) (m : MethodId) (meth : Method) (c : Code) (b L : Nat) (xs : Nat → Int32) : Prop :=
  p.tables.exec = Jvm.exec ∧ c.code = code ∧ meth.sig.returnType = ret ∧ c.maxLocals = 7 ∧ s.vm.findClass R_law = some m.cls ∧ (∀ w ∈ lw_tbl, w.before #[Value.ref b] s = true) ∧ va_X b L xs s s.heap ∧ b < s.heap.size ∧ meth.locks = false ∧ (Jvm.Cond.and given_1 narrow_1).before #[Value.ref b] s = true
theorem mW_kept {D : va_G} {g : Nat → ClassId} {am : Nat → Nat} {cd dv vo ab be : Int} {AA : Nat → Nat → Int} {H H1 : Heap} (h : mW D g am cd dv vo ab be AA H) (hq : ∀ r, r < 13 → H1[am r]? = H[am r]?) : mW D g am cd dv vo ab be AA H1 := ⟨h.1.kept (hq 0 (by omega)), fun a h1 h2 => (h.2 a h1 h2).kept (hq a (by omega))⟩
theorem st_arr {s : State} {args : Array Value} {ty : FieldType} (h : (Cond.arrayClass ty).before args s = true) : ∃ cA : ClassId, ArrOfT s cA ty ∧ s.vm.findClass ("[" ++ ty.toString) = some cA := by
  obtain ⟨cA, k, comp, h1, h2, h3⟩ := Cond.arrayClass_spec h
  exact ⟨cA, fun n z => ⟨fun k h => (by cases h), k, h2, comp, h3⟩, h1⟩
theorem st_arq {s : State} {args : Array Value} {C : String} (h : (Cond.arrayOver (.object C)).before args s = true) : ∃ cA : ClassId, ArrOfT s cA (.object C) ∧ va_RA s cA (.object C) := by
  obtain ⟨comp, cA, k, h1, h2, h3, h4, h5⟩ := Cond.arrayOver_spec h
  exact ⟨cA, fun n z => ⟨fun k h => (by cases h), k, h3, comp, h4⟩, k, comp, h3, h4, h1, h5⟩
theorem st_str {s : State} {args : Array Value} {own tx : String} {k cur : Nat} (hc : s.vm.findClass own = some cur) (h : (Cond.stringRef own k tx).before args s = true) : ∃ a, vk_R own k tx a s := by
  obtain ⟨-, -, -, a, -, -, -, -, -, hev⟩ := Cond.stringRef_spec hc h
  exact ⟨a, vk_R.of h hev⟩
set_option maxRecDepth 100000 in
/-- what the start gives: the classes, the arrays' classes -/
theorem st_K {s : State} {b : Nat} (hts : ∀ w ∈ lw_tbl, w.before #[Value.ref b] s = true) : ∃ (D : va_G) (g : Nat → ClassId), va_K D vwCl (ty9 g) s := by
  have hg : ∀ w ∈ gAll, w.before #[Value.ref b] s = true := fun w h => hts w (g_tbl h)
  obtain ⟨c0, i0, k0⟩ := u_known (C := RX0) (T := TX0) (N := 4) (n := 4) hg uw_X0 (hts (.instantiable RX0 4) (by decide +kernel))
  obtain ⟨c1, i1, k1⟩ := u_known (C := RX1) (T := TX1) (N := 9) (n := 9) hg uw_X1 (hts (.instantiable RX1 9) (by decide +kernel))
  obtain ⟨c2, i2, k2⟩ := u_known (C := RX2) (T := TX2) (N := 3) (n := 3) hg uw_X2 (hts (.instantiable RX2 3) (by decide +kernel))
  obtain ⟨c3, i3, k3⟩ := u_known (C := RX3) (T := TX3) (N := 3) (n := 3) hg uw_X3 (hts (.instantiable RX3 3) (by decide +kernel))
  obtain ⟨c4, i4, k4⟩ := u_known (C := RX4) (T := TX4) (N := 17) (n := 17) hg uw_X4 (hts (.instantiable RX4 17) (by decide +kernel))
  obtain ⟨g0, a0, b0⟩ := st_arr (hts (.arrayClass .int) (by decide +kernel))
  obtain ⟨g1, a1, b1⟩ := st_arr (hts (.arrayClass .boolean) (by decide +kernel))
  obtain ⟨g2, a2, b2⟩ := st_arq (hts (.arrayOver (.object "BreakerOrders$Device")) (by decide +kernel))
  obtain ⟨g3, a3, b3⟩ := st_arq (hts (.arrayOver (.object "BreakerOrders$Setting")) (by decide +kernel))
  obtain ⟨g4, a4, b4⟩ := st_arr (hts (.arrayClass .long) (by decide +kernel))
  refine ⟨(fun k => match k with | 0 => c0 | 1 => c1 | 2 => c2 | 3 => c3 | _ => c4, fun k => match k with | 0 => i0 | 1 => i1 | 2 => i2 | 3 => i3 | _ => i4), fun k => match k with | 0 => g0 | 1 => g1 | 2 => g2 | 3 => g3 | _ => g4, ?_, ?_⟩
  · intro k q hq
    match k, hq with
    | 0, hq => cases hq; exact k0
    | 1, hq => cases hq; exact k1
    | 2, hq => cases hq; exact k2
    | 3, hq => cases hq; exact k3
    | 4, hq => cases hq; exact k4
    | k + 5, hq => simp at hq
  · intro k q hq
    match k, hq with
    | 0, hq => cases hq; exact ⟨a0, b0⟩
    | 1, hq => cases hq; exact ⟨a1, b1⟩
    | 2, hq => cases hq; exact ⟨a2, b2⟩
    | 3, hq => cases hq; exact ⟨a3, b3⟩
    | 4, hq => cases hq; exact ⟨a4, b4⟩
    | k + 5, hq => simp at hq
set_option maxRecDepth 100000 in
theorem st_T {s : State} {b : Nat} {D : va_G} {g : Nat → ClassId} (hts : ∀ w ∈ lw_tbl, w.before #[Value.ref b] s = true) (hgv : (Jvm.Cond.and given_1 narrow_1).before #[Value.ref b] s = true) (hK : va_K D vwCl (ty9 g) s) : xT s.heap.size s s.heap ∧ nT s := by
  have hs := flat_of_before _ hgv
  have hA : ∀ a : Nat, a < s.heap.size → ¬ (s.heap.size ≤ a) := fun a h => by omega
  have hc : s.vm.findClass RX3 = some (D.1 3) := (hK.1 3 _ rfl).2.1
  obtain ⟨s0, r0⟩ := st_str hc (hts (.stringRef RX3 144 "there is no such device") (by decide +kernel))
  obtain ⟨s1, r1⟩ := st_str hc (hts (.stringRef RX3 147 "a number is out of its bounds") (by decide +kernel))
  obtain ⟨s2, r2⟩ := st_str hc (hts (.stringRef RX3 149 "both devices are one") (by decide +kernel))
  obtain ⟨s3, r3⟩ := st_str hc (hts (.stringRef RX3 31 "there are 8 devices") (by decide +kernel))
  obtain ⟨s4, r4⟩ := st_str hc (hts (.stringRef RX3 57 "the device has 6 points") (by decide +kernel))
  obtain ⟨s5, r5⟩ := st_str hc (hts (.stringRef RX3 63 "the last point is at that place or behind it") (by decide +kernel))
  obtain ⟨s6, r6⟩ := st_str hc (hts (.stringRef RX3 71 "the device has 4 options") (by decide +kernel))
  refine ⟨⟨⟨?_, ?_⟩, ⟨?_, ?_, ?_, ?_, ?_⟩, ⟨fun k => match k with | 0 => s0 | 1 => s1 | 2 => s2 | 3 => s3 | 4 => s4 | 5 => s5 | _ => s6, r0, r1, r2, r3, r4, r5, r6⟩, ?_⟩, ?_, ?_, ?_⟩
  · exact vx_Zqof (hts (.laysStatic "java/lang/Throwable" "UNASSIGNED_STACK" "[Ljava/lang/StackTraceElement;") (by decide +kernel)) (hts (.initialized "java/lang/Throwable") (by decide +kernel)) (hs (.isRef (.static "java/lang/Throwable" "UNASSIGNED_STACK" "[Ljava/lang/StackTraceElement;")) (by decide +kernel)) hA
  · exact vx_Zqof (hts (.laysStatic "java/lang/Throwable" "SUPPRESSED_SENTINEL" "Ljava/util/List;") (by decide +kernel)) (hts (.initialized "java/lang/Throwable") (by decide +kernel)) (hs (.isRef (.static "java/lang/Throwable" "SUPPRESSED_SENTINEL" "Ljava/util/List;")) (by decide +kernel)) hA
  · exact va_Nw.of rfl (hts (.castable eIAE eIAE) (by decide +kernel))
  · exact va_Nw.of rfl (hts (.castable eISE eISE) (by decide +kernel))
  · exact va_Nw.of rfl (hts (.declares (xIni "java/lang/RuntimeException")) (by decide +kernel))
  · exact va_Nw.of rfl (hts (.declares (xIni "java/lang/Exception")) (by decide +kernel))
  · exact va_Nw.of rfl (hts (.declares (xIni "java/lang/Throwable")) (by decide +kernel))
  · exact va_Nc.of (hs (.not (.castable eISE eIAE)) (by decide +kernel))
  · exact va_AO.of (hts (.arrayOver (.object "BreakerOrders$Device")) (by decide +kernel))
  · exact va_AO.of (hts (.arrayOver (.object "BreakerOrders$Setting")) (by decide +kernel))
  · exact va_Nw.of rfl (hts (.methodLinkNest RX1 11 yX0_init RX3) (by decide +kernel))
