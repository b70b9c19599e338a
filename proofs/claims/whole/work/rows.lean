section
-- ===== PART A: goes FIRST, ahead of the names: the tables' words, and 'selects' of the private methods out of them =====
/-- a private method of a class that the tables say can be made, by its rows of tables_1 -/
def lw_okq (q : MethodName × Nat) : Prop := (q.1.cls ≠ "java/lang/invoke/MethodHandle" ∧ q.1.cls ≠ "java/lang/invoke/VarHandle") ∧ Cond.instantiable q.1.cls q.2 ∈ tables_1 ∧ Cond.privateMethod q.1 ∈ tables_1 ∧ Cond.instanceMethod q.1 ∈ tables_1
theorem lw_p0 : lw_okq (⟨"BreakerOrders", "known", "(I)LBreakerOrders$Device;"⟩, 3) := ⟨⟨by decide +kernel, by decide +kernel⟩, List.mem_of_getElem? (i := 13) (by decide +kernel), List.mem_of_getElem? (i := 130) (by decide +kernel), List.mem_of_getElem? (i := 131) (by decide +kernel)⟩
theorem lw_p1 : lw_okq (⟨"java/lang/Throwable", "fillInStackTrace", "(I)Ljava/lang/Throwable;"⟩, 6) := ⟨⟨by decide +kernel, by decide +kernel⟩, List.mem_of_getElem? (i := 171) (by decide +kernel), List.mem_of_getElem? (i := 169) (by decide +kernel), List.mem_of_getElem? (i := 170) (by decide +kernel)⟩
theorem lw_p2 : lw_okq (⟨"BreakerOrders", "shortCurrent", "(LBreakerOrders$Device;)I"⟩, 3) := ⟨⟨by decide +kernel, by decide +kernel⟩, List.mem_of_getElem? (i := 13) (by decide +kernel), List.mem_of_getElem? (i := 382) (by decide +kernel), List.mem_of_getElem? (i := 383) (by decide +kernel)⟩
theorem lw_p3 : lw_okq (⟨"BreakerOrdersModel", "isDevice", "(I)Z"⟩, 17) := ⟨⟨by decide +kernel, by decide +kernel⟩, List.mem_of_getElem? (i := 402) (by decide +kernel), List.mem_of_getElem? (i := 468) (by decide +kernel), List.mem_of_getElem? (i := 469) (by decide +kernel)⟩
theorem lw_p4 : lw_okq (⟨"BreakerOrdersModel", "opensAt", "(III)Z"⟩, 17) := ⟨⟨by decide +kernel, by decide +kernel⟩, List.mem_of_getElem? (i := 402) (by decide +kernel), List.mem_of_getElem? (i := 492) (by decide +kernel), List.mem_of_getElem? (i := 493) (by decide +kernel)⟩
theorem lw_p5 : lw_okq (⟨"BreakerOrdersModel", "reckon", "(IIIZ)V"⟩, 17) := ⟨⟨by decide +kernel, by decide +kernel⟩, List.mem_of_getElem? (i := 402) (by decide +kernel), List.mem_of_getElem? (i := 496) (by decide +kernel), List.mem_of_getElem? (i := 497) (by decide +kernel)⟩
theorem lw_p6 : lw_okq (⟨"BreakerOrdersModel", "lookOrder", "(III)V"⟩, 17) := ⟨⟨by decide +kernel, by decide +kernel⟩, List.mem_of_getElem? (i := 402) (by decide +kernel), List.mem_of_getElem? (i := 509) (by decide +kernel), List.mem_of_getElem? (i := 510) (by decide +kernel)⟩
theorem lw_p7 : lw_okq (⟨"BreakerOrdersModel", "isGood", "(IIIIII)Z"⟩, 17) := ⟨⟨by decide +kernel, by decide +kernel⟩, List.mem_of_getElem? (i := 402) (by decide +kernel), List.mem_of_getElem? (i := 513) (by decide +kernel), List.mem_of_getElem? (i := 514) (by decide +kernel)⟩
theorem lw_p8 : lw_okq (⟨"BreakerOrdersModel", "fits", "(II)Z"⟩, 17) := ⟨⟨by decide +kernel, by decide +kernel⟩, List.mem_of_getElem? (i := 402) (by decide +kernel), List.mem_of_getElem? (i := 525) (by decide +kernel), List.mem_of_getElem? (i := 526) (by decide +kernel)⟩
theorem lw_p9 : lw_okq (⟨"BreakerOrdersModel", "currentAt", "(I)I"⟩, 17) := ⟨⟨by decide +kernel, by decide +kernel⟩, List.mem_of_getElem? (i := 402) (by decide +kernel), List.mem_of_getElem? (i := 546) (by decide +kernel), List.mem_of_getElem? (i := 547) (by decide +kernel)⟩
theorem lw_p10 : lw_okq (⟨"BreakerOrdersModel", "isFirst", "(III)Z"⟩, 17) := ⟨⟨by decide +kernel, by decide +kernel⟩, List.mem_of_getElem? (i := 402) (by decide +kernel), List.mem_of_getElem? (i := 556) (by decide +kernel), List.mem_of_getElem? (i := 557) (by decide +kernel)⟩
def lw_privs_1 : List (MethodName × Nat) := [(⟨"BreakerOrders", "known", "(I)LBreakerOrders$Device;"⟩, 3), (⟨"java/lang/Throwable", "fillInStackTrace", "(I)Ljava/lang/Throwable;"⟩, 6), (⟨"BreakerOrders", "shortCurrent", "(LBreakerOrders$Device;)I"⟩, 3), (⟨"BreakerOrdersModel", "isDevice", "(I)Z"⟩, 17), (⟨"BreakerOrdersModel", "opensAt", "(III)Z"⟩, 17), (⟨"BreakerOrdersModel", "reckon", "(IIIZ)V"⟩, 17), (⟨"BreakerOrdersModel", "lookOrder", "(III)V"⟩, 17), (⟨"BreakerOrdersModel", "isGood", "(IIIIII)Z"⟩, 17), (⟨"BreakerOrdersModel", "fits", "(II)Z"⟩, 17), (⟨"BreakerOrdersModel", "currentAt", "(I)I"⟩, 17), (⟨"BreakerOrdersModel", "isFirst", "(III)Z"⟩, 17)]
theorem lw_r1 : ∀ q ∈ lw_privs_1, lw_okq q := List.forall_mem_cons.mpr ⟨lw_p0, List.forall_mem_cons.mpr ⟨lw_p1, List.forall_mem_cons.mpr ⟨lw_p2, List.forall_mem_cons.mpr ⟨lw_p3, List.forall_mem_cons.mpr ⟨lw_p4, List.forall_mem_cons.mpr ⟨lw_p5, List.forall_mem_cons.mpr ⟨lw_p6, List.forall_mem_cons.mpr ⟨lw_p7, List.forall_mem_cons.mpr ⟨lw_p8, List.forall_mem_cons.mpr ⟨lw_p9, List.forall_mem_cons.mpr ⟨lw_p10, fun _ h => absurd h List.not_mem_nil⟩⟩⟩⟩⟩⟩⟩⟩⟩⟩⟩
def lw_privs : List (MethodName × Nat) := lw_privs_1
def lw_tbl : List Cond := k2_sels lw_privs ++ tables_1
theorem lw_privs_ok : ∀ q ∈ lw_privs, lw_okq q := lw_r1
-- ===== end of PART A; then your names; then what follows =====
/-! ===== BEGIN words of one list among another's, by their places ===== -/
theorem goodIn_r {big : List Cond} (ws : List Cond) (ps : List Nat) (hp : ws = ps.filterMap (fun i => big[i]?)) (h : ws.all goodWord = true) : GoodIn big ws := by
  intro w hw
  have h1 := List.all_eq_true.mp h w hw
  rw [hp] at hw
  obtain ⟨i, -, hi⟩ := List.mem_filterMap.mp hw
  have hm : w ∈ big := by first | exact List.mem_of_getElem? hi | exact List.getElem?_mem hi
  exact ⟨hm, good_of_word h1⟩
theorem goodIn_app {big a b : List Cond} (ha : GoodIn big a) (hb : GoodIn big b) : GoodIn big (a ++ b) := fun w h => (List.mem_append.mp h).elim (ha w) (hb w)
theorem goodIn_ca {big a b : List Cond} {c : Cond} (ha : GoodIn big (c :: a)) (hb : GoodIn big b) : GoodIn big (c :: (a ++ b)) := fun w h => (List.mem_cons.mp h).elim (fun e => ha w (List.mem_cons.mpr (Or.inl e))) (fun h => (List.mem_append.mp h).elim (fun h => ha w (List.mem_cons.mpr (Or.inr h))) (hb w))
theorem goodIn_sub {big ws : List Cond} (hm : ∀ w ∈ ws, w ∈ big) (h : ws.all goodWord = true) : GoodIn big ws := fun w hw => ⟨hm w hw, good_of_word (List.all_eq_true.mp h w hw)⟩
/-! ===== END ===== -/

/-! ===== BEGIN exceptions that leave a method, and their catching by the caller (launches without stack traces) ===== -/
section VXA
/-! The laws vx_back, vx_callV, vx_callS, vx_callSW, vx_throw0, vx_throwS follow proofs of the library, with one case more: JvmDerived/Free/Laws.lean (Back.of_free), Shelf42/LK1.lean (callV, callS), Shelf/KitTraced.lean (throwNew0V, throwNewS). -/
/-- where a method has thrown q: the class by its name, the cell, what was written, the world -/
def vx_T (XC : String → State → State → Prop) (st : State) (q : Addr) (t : State) (mc ms : Nat) (free : Addr → Prop) : Prop :=
  ∃ (E : String) (ce : Cell) (L : List Loc), XC E st t ∧ t.heap[q]? = some ce ∧ ce.vm = .none ∧ st.vm.findClass E = some ce.cls ∧ st.WarmedH t.vm ∧ st.sameButNew ({ t with vm := st.vm } : State) L mc ms ∧ ∀ z ∈ L, free z.base
def vx_Q (Qc : Array Value → State → Outcome → State → Prop) (XC : String → State → State → Prop) (mc ms : Nat) (free : Addr → Prop) : Array Value → State → Outcome → State → Prop := fun a st o t =>
  (Qc a st o t ∧ ∃ L, FrameEnd st o t L mc ms ∧ ∀ q ∈ L, free q.base) ∨ ∃ q, o = .threw q ∧ vx_T XC st q t mc ms free
/-- a callee that returns or throws -/
def vx_Met (l : Launch) (y : MethodName) (ws : List Cond) (rm : Room) (Pc : Array Value → State → Prop) (Qc : Array Value → State → Outcome → State → Prop) (XC : String → State → State → Prop) (mc ms : Nat) (free : Addr → Prop) : Prop :=
  MetFree l y (headSpec ws rm) Pc (fun _ _ _ _ _ => True) (vx_Q Qc XC mc ms free)
def vx_Post (XC : String → State → State → Prop) (mc ms : Nat) (free : Addr → Prop) : Pt → Array Value → Addr → Pt → Prop := fun A a q B =>
  ∃ (g : JFrame) (mk : MethodId) (t : State) (L : List Loc) (E : String) (ce : Cell), B.U.heap = t.heap ∧ B.U.vm = t.vm ∧ XC E (A.U.calling g mk a) t ∧ t.heap[q]? = some ce ∧ ce.vm = .none ∧ A.U.vm.findClass E = some ce.cls ∧ B.locs = A.locs ++ L ∧ (∀ z ∈ L, free z.base) ∧ B.cells = A.cells + mc ∧ B.slots = A.slots + ms
def vx_Back (l : Launch) (R : Room) (p : Program) (e : Env) (below : List Frame) (s : State) (sargs : Array Value) (y : MethodName) (len W9 : Nat)
    (Pre : Pt → Array Value → Prop) (Post : Pt → Array Value → Option Value → Pt → Prop) (PostX : Pt → Array Value → Addr → Pt → Prop) : Prop :=
  ∀ (m : MethodId) (meth : Method) (c : Code) (A : Pt) (g : JFrame) (ig : Instr) (mk : MethodId) (a : Array Value),
    Stand p l e R s m sargs below meth c A.U A.locs A.cells A.slots → g.method = m → g.locals.size = c.maxLocals → decode c.code g.pc = .ok (ig, len) →
    2 * g.monitorRoom + (g.stack.map fun v => v.category).sum ≤ W9 → A.U.methodNamed? y = some mk → Pre A a →
    (∃ (v : Option Value) (B : Pt), Stand p l e R s m sargs below meth c B.U B.locs B.cells B.slots ∧ Post A a v B ∧
      Steps p.tables e below (doInvoke e (A.U.setTop g) [] mk a).1 (B.U.setTop { g with pc := g.pc + len, stack := v.toList ++ g.stack })) ∨
    (∃ (q : Addr) (B : Pt), Stand p l e R s m sargs below meth c B.U B.locs B.cells B.slots ∧ PostX A a q B ∧
      Steps p.tables e below (doInvoke e (A.U.setTop g) [] mk a).1 ((B.U.setTop g).pushFrame (.throwing q)))
section Payer
variable {l : Launch} {R : Room} {p : Program} {e : Env} {below : List Frame} {s : State} {sargs : Array Value} {y : MethodName} {len W9 : Nat}
theorem vx_back {ws : List Cond} {rm : Room} {Pc : Array Value → State → Prop} {Qc : Array Value → State → Outcome → State → Prop} {XC : String → State → State → Prop} {mc ms : Nat} {free : Addr → Prop} {bytes : ByteArray} {maxL : Nat} {ret : Option FieldType}
    (hM : vx_Met l y ws rm Pc Qc XC mc ms free) (hblind : FrameBlind Pc) (hrc : rm.cells = mc) (hrs : rm.slots = ms)
    (hframes : rm.frames + 1 ≤ R.frames) (hlocals : W9 + (maxL + 11) + rm.locals ≤ R.locals)
    (hws : ∀ w ∈ ws, ∀ a' U, s.WarmedH U.vm → w.before a' U = true) (hcode : Cond.code y bytes maxL ret ∈ ws) (hinit : ∀ a' U, s.WarmedH U.vm → (Cond.initialized y.cls).before a' U = true) :
    vx_Back l R p e below s sargs y len W9 (PreOf R mc ms Pc) (PostOf Qc mc ms free) (vx_Post XC mc ms free) := by
  intro m meth c A g ig mk a X hg hsize hdg hW hn hp
  have h1 : (headSpec ws rm).pre.before a A.U = true := atoms_intro fun w hw => hws w hw _ _ X.warmed
  have h2 : (Cond.code y bytes maxL ret).before a A.U = true := hws _ hcode _ _ X.warmed
  have h3 : (Cond.initialized y.cls).before a A.U = true := hinit _ _ X.warmed
  have h4 : A.cells + (headSpec ws rm).room.cells ≤ R.cells := by rw [show (headSpec ws rm).room.cells = mc from hrc]; exact hp.1
  have h5 : A.slots + (headSpec ws rm).room.slots ≤ R.slots := by rw [show (headSpec ws rm).room.slots = ms from hrs]; exact hp.2.1
  have hPc : Pc a (A.U.calling g mk a) := hblind _ _ _ _ hp.2.2
  obtain ⟨U, Ls, c0, s0⟩ := A
  dsimp only [Pt.U, Pt.locs, Pt.cells, Pt.slots] at h1 h2 h3 h4 h5 X hn hPc ⊢
  obtain ⟨methY, cY, hmY, hcY, -, hlY, -, -, -, -⟩ := Cond.code_spec hn h2
  obtain ⟨kY, hkY, -⟩ := className_of_methodNamed hn
  have hinitY : kY.init = .initialized := Cond.initialized_spec (findClass_of_methodNamed hn) hkY h3
  have h : At U g.method c below := by rw [hg]; exact X.here
  have hlocals9 : W9 + (maxL + 11) + (headSpec ws rm).room.locals ≤ R.locals := hlocals
  have happ : (headSpec ws rm).appliesLoose y e.platform (U.calling g mk a) = true :=
    Spec.appliesLoose_calling (g := g) h hdg hn hkY hinitY
      (X.room_calling (g := g) (R' := (headSpec ws rm).room) hsize hmY hcY hframes (by rw [hlY]; omega) h4 h5) h1
  obtain ⟨mid, hmid⟩ := h.above
  have hfr : (U.setTop g).frames = (.java g :: mid) ++ below := by rw [State.frames_setTop' g h.top, hmid]; rfl
  obtain ⟨o, s₂, hsteps, -, hend, hq⟩ := Steps.callFree hM p X.admits X.cas X.clock (acts := []) hfr happ hPc trivial
  have hq' : vx_Q Qc XC mc ms free a (U.calling g mk a) o s₂ := hq
  rw [State.frames_setTop' g h.top] at hend
  obtain ⟨g₀, hg0⟩ := Option.isSome_iff_exists.mp h.top
  obtain ⟨r, hr⟩ := State.topJava?_eq_some.mp hg0
  have hr' : (({ U with heap := s₂.heap, slotsUsed := s₂.slotsUsed } : State).setVm s₂.vm).frames = .java g₀ :: r := hr
  rcases hq' with ⟨hqc, L, hfe, hL⟩ | ⟨q, rfl, E, ce, L, hx, hce, hcv, hcl, hW₂, hsm, hL⟩
  · obtain ⟨⟨v, rfl⟩, hW₂, e2, q2, q3, q4, q5, q6⟩ := id hfe
    have e3 : s₂ = ({ (U.calling g mk a).setFrames s₂.frames with heap := s₂.heap, slotsUsed := s₂.slotsUsed } : State).setVm s₂.vm := by
      have : s₂ = ({ s₂ with vm := (U.calling g mk a).vm } : State).setVm s₂.vm := rfl
      rw [e2] at this
      exact this
    obtain ⟨c₂, i₂, len₂, hc₂, hd₂, hf₂⟩ := hend
    have hW' : U.WarmedH s₂.vm := hW₂
    have hcc : c₂ = c := by
      have h1 : s₂.code? g.method = U.code? g.method := by
        rw [State.code?_eq, State.code?_eq, hW'.alike.method?]
      exact Option.some.inj (hc₂.symm.trans (h1.trans h.code))
    subst hcc
    have hlen : len₂ = len := by rw [hdg] at hd₂; cases hd₂; rfl
    subst hlen
    have hs₂ : s₂ = (({ U with heap := s₂.heap, slotsUsed := s₂.slotsUsed } : State).setVm s₂.vm).setTop { g with pc := g.pc + len₂, stack := v.toList ++ g.stack } := by
      refine e3.trans ?_
      rw [hf₂, State.calling_eq h.top, State.setFrames_setFrames, State.setTop_of_frames _ hr', hr]
      rfl
    have hsame : U.sameButNew ({ U with heap := s₂.heap, slotsUsed := s₂.slotsUsed } : State) L mc ms := by
      refine ⟨?_, q2, q3, q4, q5, q6⟩
      obtain ⟨t, ht, -⟩ := State.frames_cons hr
      show ({ U with heap := s₂.heap, slotsUsed := s₂.slotsUsed } : State) = { U.setFrames U.frames with heap := s₂.heap, slotsUsed := s₂.slotsUsed }
      rw [State.setFrames_self ht]
    subst hg
    refine Or.inl ⟨v, ⟨(({ U with heap := s₂.heap, slotsUsed := s₂.slotsUsed } : State).setVm s₂.vm), Ls ++ L, c0 + mc, s0 + ms⟩,
      ⟨X.admits, X.cas, X.clock, X.frames, X.room, X.hears, X.method, X.code, (X.here.setHeapUsed s₂.heap s₂.slotsUsed).setVm hW'.alike, X.tail, State.WarmedH.trans X.warmed hW', X.limits, X.bytes, X.same.trans (hsame.setVm s.vm)⟩,
      ⟨g, mk, s₂, L, rfl, rfl, hqc, rfl, hL, rfl, rfl⟩, ?_⟩
    show Steps p.tables e below _ ((({ U with heap := s₂.heap, slotsUsed := s₂.slotsUsed } : State).setVm s₂.vm).setTop { g with pc := g.pc + len₂, stack := v.toList ++ g.stack })
    rw [← hs₂]
    exact hsteps
  · obtain ⟨e2, q2, q3, q4, q5, q6⟩ := id hsm
    have e3 : s₂ = ({ (U.calling g mk a).setFrames s₂.frames with heap := s₂.heap, slotsUsed := s₂.slotsUsed } : State).setVm s₂.vm := by
      have : s₂ = ({ s₂ with vm := (U.calling g mk a).vm } : State).setVm s₂.vm := rfl
      rw [e2] at this
      exact this
    have hf₂ : s₂.frames = .throwing q :: .java g :: U.frames.tail := hend
    have hW' : U.WarmedH s₂.vm := hW₂
    have hs₂ : s₂ = ((({ U with heap := s₂.heap, slotsUsed := s₂.slotsUsed } : State).setVm s₂.vm).setTop g).pushFrame (.throwing q) := by
      refine e3.trans ?_
      rw [hf₂, State.calling_eq h.top, State.setFrames_setFrames, State.pushFrame, State.frames_setTop _ hr', State.setTop_of_frames _ hr', State.setFrames_setFrames, hr]
      rfl
    have hsame : U.sameButNew ({ U with heap := s₂.heap, slotsUsed := s₂.slotsUsed } : State) L mc ms := by
      refine ⟨?_, q2, q3, q4, q5, q6⟩
      obtain ⟨t, ht, -⟩ := State.frames_cons hr
      show ({ U with heap := s₂.heap, slotsUsed := s₂.slotsUsed } : State) = { U.setFrames U.frames with heap := s₂.heap, slotsUsed := s₂.slotsUsed }
      rw [State.setFrames_self ht]
    subst hg
    refine Or.inr ⟨q, ⟨(({ U with heap := s₂.heap, slotsUsed := s₂.slotsUsed } : State).setVm s₂.vm), Ls ++ L, c0 + mc, s0 + ms⟩,
      ⟨X.admits, X.cas, X.clock, X.frames, X.room, X.hears, X.method, X.code, (X.here.setHeapUsed s₂.heap s₂.slotsUsed).setVm hW'.alike, X.tail, State.WarmedH.trans X.warmed hW', X.limits, X.bytes, X.same.trans (hsame.setVm s.vm)⟩,
      ⟨g, mk, s₂, L, E, ce, rfl, rfl, hx, hce, hcv, hcl, rfl, hL, rfl, rfl⟩, ?_⟩
    show Steps p.tables e below _ (((({ U with heap := s₂.heap, slotsUsed := s₂.slotsUsed } : State).setVm s₂.vm).setTop g).pushFrame (.throwing q))
    rw [← hs₂]
    exact hsteps
end Payer
section Calls
variable {p : Program} {l : Launch} {e : Env} {R : Room} {s : State} {m : MethodId} {args : Array Value} {below : List Frame} {meth : Method} {c : Code} {T : State} {locs : List Loc} {cells slots : Nat}
theorem vx_callV (X : Stand p l e R s m args below meth c T locs cells slots) (hexec : p.tables.exec = Jvm.exec) {own C : String} {index : Nat} {y : MethodName} {bytes : ByteArray} {maxL : Nat} {ret : Option FieldType}
    (hown : s.vm.findClass own = some m.cls) (hlink : (Cond.methodLink own index y).before args s = true) (hinst : (Cond.instanceMethod y).before args s = true) (hsel : (Cond.selects C y y).before args s = true)
    (hcode : (Cond.code y bytes maxL ret).before args s = true) (hy : y.cls ≠ "java/lang/invoke/MethodHandle" ∧ y.cls ≠ "java/lang/invoke/VarHandle")
    {W9 : Nat} {Pre : Pt → Array Value → Prop} {Post : Pt → Array Value → Option Value → Pt → Prop} {PostX : Pt → Array Value → Addr → Pt → Prop} (hK : vx_Back l R p e below s args y 3 W9 Pre Post PostX)
    {b : Addr} {cellB : Cell} (hcell : T.heap[b]? = some cellB) (hobj : cellB.vm.isStatics = false) (hcls : s.vm.findClass C = some cellB.cls)
    {g : JFrame} (hg : g.method = m) (hsize : g.locals.size = c.maxLocals) {argsL rest : List Value} (hlen : ∀ sig, parseMethodDescriptor y.desc = some sig → argsL.length = sig.parameters.length)
    (hstack : g.stack = argsL.reverse ++ .ref b :: rest) (hW : 2 * g.monitorRoom + (rest.map fun v => v.category).sum ≤ W9) (hdg : decode c.code g.pc = .ok (.invokevirtual index, 3))
    (hpre : ∀ vm₁, s.WarmedH vm₁ → Pre ⟨T.setVm vm₁, locs, cells, slots⟩ (Value.ref b :: argsL).toArray) :
    (∃ (v : Option Value) (vm₁ : Vm) (B : Pt), s.WarmedH vm₁ ∧ Stand p l e R s m args below meth c B.U B.locs B.cells B.slots ∧ Post ⟨T.setVm vm₁, locs, cells, slots⟩ (Value.ref b :: argsL).toArray v B ∧
      ∀ target, Steps p.tables e below (B.U.setTop { g with pc := g.pc + 3, stack := v.toList ++ rest }) target → Steps p.tables e below (T.setTop g) target) ∨
    (∃ (q : Addr) (vm₁ : Vm) (B : Pt), s.WarmedH vm₁ ∧ Stand p l e R s m args below meth c B.U B.locs B.cells B.slots ∧ PostX ⟨T.setVm vm₁, locs, cells, slots⟩ (Value.ref b :: argsL).toArray q B ∧
      Steps p.tables e below (T.setTop g) ((B.U.setTop { g with stack := rest }).pushFrame (.throwing q))) := by
  obtain ⟨mk, methM, hnamed, hmethM, hstM, habM⟩ := Cond.instanceMethod_spec hinst
  obtain ⟨methM', cM, hmethM', -, -, -, -, -, -, hsigM⟩ := Cond.code_spec hnamed hcode
  cases hmethM.symm.trans hmethM'
  obtain ⟨c2, r2, m2, q1, q2, q3, q4, kP, hkP, hkPi⟩ := Cond.selects_spec hsel
  cases hcls.symm.trans q1
  cases (State.methodFound?_of_named hnamed hy).symm.trans q2
  cases hnamed.symm.trans q3
  have hselP : selectMethod e.platform s.vm cellB.cls mk = .method mk := by rw [Launch.admits_selectMethod X.admits]; exact q4
  obtain ⟨vm₁, X₁, hstep₁⟩ := X.invokevirtual hexec hown hlink hnamed hmethM hstM hkP hkPi hy (a := b) (cell := cellB) hcell
    (fun z h => by rw [h] at hobj; cases hobj) hselP hmethM habM hkP hkPi (g := g) hg (argsL := argsL) (rest := rest) (hlen _ hsigM) hstack hdg
  rcases hK m meth c ⟨T.setVm vm₁, locs, cells, slots⟩ { g with stack := rest } (.invokevirtual index) mk (Value.ref b :: argsL).toArray X₁ hg hsize hdg hW (X₁.named hnamed) (hpre vm₁ X₁.warmed) with ⟨v, B, X', hpost, hsteps⟩ | ⟨q, B, X', hpost, hsteps⟩
  · exact Or.inl ⟨v, vm₁, B, X₁.warmed, X', hpost, fun target h => hstep₁ _ fun acts => by rw [doInvoke_state]; exact hsteps.trans h⟩
  · exact Or.inr ⟨q, vm₁, B, X₁.warmed, X', hpost, hstep₁ _ fun acts => by rw [doInvoke_state]; exact hsteps⟩
theorem vx_callS (X : Stand p l e R s m args below meth c T locs cells slots) (hexec : p.tables.exec = Jvm.exec) {own : String} {index : Nat} {y : MethodName} {bytes : ByteArray} {maxL : Nat} {ret : Option FieldType}
    (hown : s.vm.findClass own = some m.cls) (hlink : (Cond.methodLink own index y).before args s = true) (hstat : (Cond.static y).before args s = true) (hinit : (Cond.initialized y.cls).before args s = true)
    (hcode : (Cond.code y bytes maxL ret).before args s = true) (hy : y.cls ≠ "java/lang/invoke/MethodHandle" ∧ y.cls ≠ "java/lang/invoke/VarHandle")
    {W9 : Nat} {Pre : Pt → Array Value → Prop} {Post : Pt → Array Value → Option Value → Pt → Prop} {PostX : Pt → Array Value → Addr → Pt → Prop} (hK : vx_Back l R p e below s args y 3 W9 Pre Post PostX)
    {g : JFrame} (hg : g.method = m) (hsize : g.locals.size = c.maxLocals) {argsL rest : List Value} (hlen : ∀ sig, parseMethodDescriptor y.desc = some sig → argsL.length = sig.parameters.length)
    (hstack : g.stack = argsL.reverse ++ rest) (hW : 2 * g.monitorRoom + (rest.map fun v => v.category).sum ≤ W9) (hdg : decode c.code g.pc = .ok (.invokestatic index, 3))
    (hpre : ∀ vm₁, s.WarmedH vm₁ → Pre ⟨T.setVm vm₁, locs, cells, slots⟩ argsL.toArray) :
    (∃ (v : Option Value) (vm₁ : Vm) (B : Pt), s.WarmedH vm₁ ∧ Stand p l e R s m args below meth c B.U B.locs B.cells B.slots ∧ Post ⟨T.setVm vm₁, locs, cells, slots⟩ argsL.toArray v B ∧
      ∀ target, Steps p.tables e below (B.U.setTop { g with pc := g.pc + 3, stack := v.toList ++ rest }) target → Steps p.tables e below (T.setTop g) target) ∨
    (∃ (q : Addr) (vm₁ : Vm) (B : Pt), s.WarmedH vm₁ ∧ Stand p l e R s m args below meth c B.U B.locs B.cells B.slots ∧ PostX ⟨T.setVm vm₁, locs, cells, slots⟩ argsL.toArray q B ∧
      Steps p.tables e below (T.setTop g) ((B.U.setTop { g with stack := rest }).pushFrame (.throwing q))) := by
  obtain ⟨mk, hnamed⟩ := Cond.code_named hcode
  obtain ⟨methM, cM, hmethM, -, -, -, -, -, -, hsigM⟩ := Cond.code_spec hnamed hcode
  have hstatic : methM.isStatic = true := Cond.static_spec hnamed hmethM hstat
  obtain ⟨kP, hkP, -⟩ := className_of_methodNamed hnamed
  have hinitP : kP.init = .initialized := Cond.initialized_spec (findClass_of_methodNamed hnamed) hkP hinit
  obtain ⟨vm₁, X₁, hstep₁⟩ := X.invokestatic hexec hown hlink hnamed hmethM hstatic hkP hinitP hy (g := g) hg (argsL := argsL) (rest := rest) (hlen _ hsigM) hstack hdg
  rcases hK m meth c ⟨T.setVm vm₁, locs, cells, slots⟩ { g with stack := rest } (.invokestatic index) mk argsL.toArray X₁ hg hsize hdg hW (X₁.named hnamed) (hpre vm₁ X₁.warmed) with ⟨v, B, X', hpost, hsteps⟩ | ⟨q, B, X', hpost, hsteps⟩
  · exact Or.inl ⟨v, vm₁, B, X₁.warmed, X', hpost, fun target h => hstep₁ _ fun acts => by rw [doInvoke_state]; exact hsteps.trans h⟩
  · exact Or.inr ⟨q, vm₁, B, X₁.warmed, X', hpost, hstep₁ _ fun acts => by rw [doInvoke_state]; exact hsteps⟩
end Calls
theorem vx_cls {s : State} {T : State} {vm₁ : Vm} {E : String} {k : ClassId} (hW : s.WarmedH vm₁) (h : (T.setVm vm₁).vm.findClass E = some k) : s.vm.findClass E = some k := by
  have h1 : vm₁.findClass E = some k := h
  rw [hW.alike.findClass] at h1
  exact h1
/-- the method's frame g, with q thrown over it -/
def vx_W (p : Program) (l : Launch) (e : Env) (R : Room) (s : State) (m : MethodId) (args : Array Value) (below : List Frame) (meth : Method) (c : Code) (H : Heap) (locs : List Loc) (cells slots : Nat) (Q : State → Prop) (g : JFrame) (q : Addr) : Prop :=
  ∀ T : State, T.heap = H → Stand p l e R s m args below meth c T locs cells slots → ∃ t, Steps p.tables e below ((T.setTop g).pushFrame (.throwing q)) t ∧ Q t
def vx_Run (p : Program) (l : Launch) (e : Env) (R : Room) (s : State) (m : MethodId) (args : Array Value) (below : List Frame) (meth : Method) (c : Code) (H : Heap) (locs : List Loc) (cells slots mc ms : Nat) (g : JFrame) (rest : List Value) (Qa : State → Outcome → State → Prop) (XC : String → State → State → Prop) (free : Addr → Prop) : Prop :=
  ∀ T : State, T.heap = H → Stand p l e R s m args below meth c T locs cells slots →
    (∃ (v : Option Value) (st₀ t T' : State) (L : List Loc), st₀.heap = H ∧ Stand p l e R s m args below meth c T' (locs ++ L) (cells + mc) (slots + ms) ∧ (∀ q ∈ L, free q.base) ∧ T'.heap = t.heap ∧ T'.vm = t.vm ∧ Qa st₀ (.returned v) t ∧
      Goes p e below T g T' { g with pc := g.pc + 3, stack := v.toList ++ rest }) ∨
    (∃ (q : Addr) (st₀ t T' : State) (L : List Loc) (E : String) (ce : Cell), st₀.heap = H ∧ Stand p l e R s m args below meth c T' (locs ++ L) (cells + mc) (slots + ms) ∧ (∀ z ∈ L, free z.base) ∧ T'.heap = t.heap ∧ T'.vm = t.vm ∧ XC E st₀ t ∧ t.heap[q]? = some ce ∧ ce.vm = .none ∧ s.vm.findClass E = some ce.cls ∧
      Steps p.tables e below (T.setTop g) ((T'.setTop { g with stack := rest }).pushFrame (.throwing q)))
def vx_X {S : Type} (px : S → Prop) (B : String → S → State → Prop) (A : Nat → Prop) : String → State → State → Prop := fun E st t => ∃ u : S, px u ∧ B E u t ∧ va_F A st t
section Runs
variable {p : Program} {l : Launch} {e : Env} {R : Room} {s : State} {m : MethodId} {args : Array Value} {below : List Frame} {meth : Method} {c : Code} {H : Heap} {locs : List Loc} {cells slots : Nat}
variable {y : MethodName} {bytes cc : ByteArray} {maxL nL mc ms n index : Nat} {ret : Option FieldType} {ws : List Cond} {rm : Room} {Pc : Array Value → State → Prop} {Qc : Array Value → State → Outcome → State → Prop} {XC : String → State → State → Prop} {free : Addr → Prop} {Ts : List Cond} {own C : String} {b : Addr} {As rest : List Value} {g : JFrame}
theorem vx_callBack (cb : CallB R s args own index y bytes maxL ret ws rm mc ms n) (hM : vx_Met l y ws rm Pc Qc XC mc ms free) (hbl : FrameBlind Pc) : vx_Back l R p e below s args y 3 8 (PreOf R mc ms Pc) (PostOf Qc mc ms free) (vx_Post XC mc ms free) := by
  obtain ⟨hrc, hrs, hfr, hlo, hws, hcw, -, hini, -⟩ := cb
  exact vx_back (bytes := bytes) (maxL := maxL) (ret := ret) hM hbl hrc hrs hfr hlo hws hcw (fun a' U hW => word_at hW (Or.inl (by first | rfl | simp [Cond.onTables, Cond.keeps, Cond.steady])) hini)
theorem vx_runV (S : CallFix p m c cc nL s args Ts own) (hM : vx_Met l y ws rm Pc Qc XC mc ms free) (cw : CallW R s args own C index y bytes maxL ret ws rm mc ms n) (hp : PreV s H C b Pc As)
    (hg : g.method = m) (hn : As.length = n) (hsize : g.locals.size = nL) (hstack : g.stack = As.reverse ++ .ref b :: rest) (hW : 2 * g.monitorRoom + (rest.map fun v => v.category).sum ≤ 8) (hdg : decode cc g.pc = .ok (.invokevirtual index, 3)) (hf : cells + mc ≤ R.cells ∧ slots + ms ≤ R.slots) :
    vx_Run p l e R s m args below meth c H locs cells slots mc ms g rest (Qc (Value.ref b :: As).toArray) XC free := by
  have hK : vx_Back l R p e below s args y 3 8 (PreOf R mc ms Pc) (PostOf Qc mc ms free) (vx_Post XC mc ms free) := vx_callBack cw.1 hM hp.1
  obtain ⟨⟨-, -, -, -, -, -, hcode, -, hy, hlen, hl⟩, hin, hse⟩ := cw
  obtain ⟨hx, hb, hml, ho, -⟩ := S
  obtain ⟨-, ⟨cellB, hcB, hoB, hclB⟩, hPc⟩ := hp
  intro T hT X
  rcases vx_callV X hx (C := C) (bytes := bytes) (maxL := maxL) (ret := ret) ho hl hin hse hcode hy hK (by rw [hT]; exact hcB) hoB hclB hg (hsize.trans hml.symm) (argsL := As) (rest := rest) (fun sig h => hn.trans (hlen sig h)) hstack hW (by rw [hb]; exact hdg)
    (fun vm₁ hW₁ => ⟨hf.1, hf.2, hPc (T.setVm vm₁) hT hW₁⟩) with ⟨v, vm₁, ⟨U', l2, c2, s2⟩, hW₁, X', ⟨g', mk, t, L, e1, e2, hq, h1, hL, h2, h3⟩, st⟩ | ⟨q, vm₁, ⟨U', l2, c2, s2⟩, hW₁, X', ⟨g', mk, t, L, E, ce, e1, e2, hq, hce, hcv, hcl, h1, hL, h2, h3⟩, st⟩
  · dsimp only [Pt.U, Pt.locs, Pt.cells, Pt.slots] at X' e1 e2 h1 h2 h3 st
    subst h1; subst h2; subst h3
    exact Or.inl ⟨v, (T.setVm vm₁).calling g' mk (Value.ref b :: As).toArray, t, U', L, hT, X', hL, e1, e2, hq, st⟩
  · dsimp only [Pt.U, Pt.locs, Pt.cells, Pt.slots] at X' e1 e2 h1 h2 h3 st hcl
    subst h1; subst h2; subst h3
    exact Or.inr ⟨q, (T.setVm vm₁).calling g' mk (Value.ref b :: As).toArray, t, U', L, E, ce, hT, X', hL, e1, e2, hq, hce, hcv, vx_cls hW₁ hcl, st⟩
theorem vx_runS (S : CallFix p m c cc nL s args Ts own) (hM : vx_Met l y ws rm Pc Qc XC mc ms free) (cw : CallB R s args own index y bytes maxL ret ws rm mc ms n ∧ (Cond.static y).before args s = true) (hp : PreS s H Pc As)
    (hg : g.method = m) (hn : As.length = n) (hsize : g.locals.size = nL) (hstack : g.stack = As.reverse ++ rest) (hW : 2 * g.monitorRoom + (rest.map fun v => v.category).sum ≤ 8) (hdg : decode cc g.pc = .ok (.invokestatic index, 3)) (hf : cells + mc ≤ R.cells ∧ slots + ms ≤ R.slots) :
    vx_Run p l e R s m args below meth c H locs cells slots mc ms g rest (Qc As.toArray) XC free := by
  have hK : vx_Back l R p e below s args y 3 8 (PreOf R mc ms Pc) (PostOf Qc mc ms free) (vx_Post XC mc ms free) := vx_callBack cw.1 hM hp.1
  obtain ⟨⟨-, -, -, -, -, -, hcode, hini, hy, hlen, hl⟩, hstt⟩ := cw
  obtain ⟨hx, hb, hml, ho, -⟩ := S
  intro T hT X
  rcases vx_callS X hx (bytes := bytes) (maxL := maxL) (ret := ret) ho hl hstt hini hcode hy hK hg (hsize.trans hml.symm) (argsL := As) (rest := rest) (fun sig h => hn.trans (hlen sig h)) hstack hW (by rw [hb]; exact hdg)
    (fun vm₁ hW₁ => ⟨hf.1, hf.2, hp.2 (T.setVm vm₁) hT hW₁⟩) with ⟨v, vm₁, ⟨U', l2, c2, s2⟩, hW₁, X', ⟨g', mk, t, L, e1, e2, hq, h1, hL, h2, h3⟩, st⟩ | ⟨q, vm₁, ⟨U', l2, c2, s2⟩, hW₁, X', ⟨g', mk, t, L, E, ce, e1, e2, hq, hce, hcv, hcl, h1, hL, h2, h3⟩, st⟩
  · dsimp only [Pt.U, Pt.locs, Pt.cells, Pt.slots] at X' e1 e2 h1 h2 h3 st
    subst h1; subst h2; subst h3
    exact Or.inl ⟨v, (T.setVm vm₁).calling g' mk As.toArray, t, U', L, hT, X', hL, e1, e2, hq, st⟩
  · dsimp only [Pt.U, Pt.locs, Pt.cells, Pt.slots] at X' e1 e2 h1 h2 h3 st hcl
    subst h1; subst h2; subst h3
    exact Or.inr ⟨q, (T.setVm vm₁).calling g' mk As.toArray, t, U', L, E, ce, hT, X', hL, e1, e2, hq, hce, hcv, vx_cls hW₁ hcl, st⟩
end Runs
section Rows
variable {p : Program} {l : Launch} {e : Env} {R : Room} {s : State} {m : MethodId} {args : Array Value} {below : List Frame} {meth : Method} {c : Code} {H : Heap} {locs : List Loc} {cells slots : Nat} {Q : State → Prop}
variable {mc ms : Nat} {free : Addr → Prop} {A0 A1 : Nat → Prop} {H0 : Heap} {a : Array Value} {pc : Nat} {ls : Array Slot} {st0 rest : List Value}
theorem vx_keep {st₀ t T' : State} {L : List Loc} (h0 : st₀.heap = H) (e1 : T'.heap = t.heap) (hS : va_S A0 H0 H locs) (hA : ∀ q, q < H.size → A1 q → A0 q) (hf : ∀ q, free q → A0 q) (hL : ∀ q ∈ L, free q.base) (hF : va_F A1 st₀ t) :
    H.size ≤ T'.heap.size ∧ (∀ q : Nat, q < H.size → ¬ A1 q → T'.heap[q]? = H[q]?) ∧ va_S A0 H0 T'.heap (locs ++ L) := by
  obtain ⟨hz, hk⟩ := hF
  rw [h0] at hz hk
  exact ⟨by rw [e1]; exact hz, fun q h1 h2 => by rw [e1]; exact hk q h1 h2,
    ⟨Nat.le_trans hS.1 (by rw [e1]; exact hz), fun q h1 h2 => by rw [e1, hk q (Nat.lt_of_lt_of_le h1 hS.1) (fun z => h2 (hA q (Nat.lt_of_lt_of_le h1 hS.1) z))]; exact hS.2.1 q h1 h2, fun q hq => by
      rcases List.mem_append.mp hq with h | h
      · exact hS.2.2 q h
      · exact hf _ (hL q h)⟩⟩
theorem vx_calli {S SX : Type} {post : Int32 → S → Prop} {px : SX → Prop} {B : S → State → Prop} {BX : String → SX → State → Prop} {AX : Nat → Prop} (hr : vx_Run p l e R s m args below meth c H locs cells slots mc ms (F0 m pc ls st0) rest (va_Qi post B A1 a) (vx_X px BX AX) free) (hS : va_S A0 H0 H locs) (hA : ∀ q, q < H.size → A1 q → A0 q) (hf : ∀ q, free q → A0 q) (hAX : ∀ q, q < H.size → AX q → A0 q)
    (kx : ∀ (E : String) (ce : Cell) (q9 : Addr) (u : SX) (t : State) (H1 : Heap) (locs1 : List Loc), t.heap = H1 → s.vm.Alike t.vm → px u → BX E u t → H.size ≤ H1.size → (∀ q : Nat, q < H.size → ¬ AX q → H1[q]? = H[q]?) → va_S A0 H0 H1 locs1 → H1[q9]? = some ce → ce.vm = .none → s.vm.findClass E = some ce.cls → vx_W p l e R s m args below meth c H1 locs1 (cells + mc) (slots + ms) Q (F0 m pc ls rest) q9)
    (kk : ∀ (r : Int32) (u : S) (t : State) (H1 : Heap) (locs1 : List Loc), t.heap = H1 → s.vm.Alike t.vm → post r u → B u t → H.size ≤ H1.size → (∀ q : Nat, q < H.size → ¬ A1 q → H1[q]? = H[q]?) → va_S A0 H0 H1 locs1 → W p l e R s m args below meth c H1 locs1 (cells + mc) (slots + ms) Q (F0 m (pc + 3) ls (.int r :: rest))) : W p l e R s m args below meth c H locs cells slots Q (F0 m pc ls st0) := by
  intro T hT X
  rcases hr T hT X with ⟨v, st₀, t, T', L, h0, X', hL, e1, e2, ⟨⟨r, u, hv, hp, hb⟩, hF⟩, st⟩ | ⟨q, st₀, t, T', L, E, ce, h0, X', hL, e1, e2, ⟨u, hp, hb, hF⟩, hce, hcv, hcl, st⟩
  · cases hv
    obtain ⟨k1, k2, k3⟩ := vx_keep h0 e1 hS hA hf hL hF
    obtain ⟨t2, a1, b1⟩ := kk r u t T'.heap (locs ++ L) e1.symm (by rw [← e2]; exact X'.warmed.alike) hp hb k1 k2 k3 T' rfl X'
    exact ⟨t2, st t2 a1, b1⟩
  · obtain ⟨k1, k2, k3⟩ := vx_keep h0 e1 hS hAX hf hL hF
    obtain ⟨t2, a1, b1⟩ := kx E ce q u t T'.heap (locs ++ L) e1.symm (by rw [← e2]; exact X'.warmed.alike) hp hb k1 k2 k3 (by rw [e1]; exact hce) hcv hcl T' rfl X'
    exact ⟨t2, st.trans a1, b1⟩
theorem vx_calll {S SX : Type} {post : Int64 → S → Prop} {px : SX → Prop} {B : S → State → Prop} {BX : String → SX → State → Prop} {AX : Nat → Prop} (hr : vx_Run p l e R s m args below meth c H locs cells slots mc ms (F0 m pc ls st0) rest (va_Ql post B A1 a) (vx_X px BX AX) free) (hS : va_S A0 H0 H locs) (hA : ∀ q, q < H.size → A1 q → A0 q) (hf : ∀ q, free q → A0 q) (hAX : ∀ q, q < H.size → AX q → A0 q)
    (kx : ∀ (E : String) (ce : Cell) (q9 : Addr) (u : SX) (t : State) (H1 : Heap) (locs1 : List Loc), t.heap = H1 → s.vm.Alike t.vm → px u → BX E u t → H.size ≤ H1.size → (∀ q : Nat, q < H.size → ¬ AX q → H1[q]? = H[q]?) → va_S A0 H0 H1 locs1 → H1[q9]? = some ce → ce.vm = .none → s.vm.findClass E = some ce.cls → vx_W p l e R s m args below meth c H1 locs1 (cells + mc) (slots + ms) Q (F0 m pc ls rest) q9)
    (kk : ∀ (r : Int64) (u : S) (t : State) (H1 : Heap) (locs1 : List Loc), t.heap = H1 → s.vm.Alike t.vm → post r u → B u t → H.size ≤ H1.size → (∀ q : Nat, q < H.size → ¬ A1 q → H1[q]? = H[q]?) → va_S A0 H0 H1 locs1 → W p l e R s m args below meth c H1 locs1 (cells + mc) (slots + ms) Q (F0 m (pc + 3) ls (.long r :: rest))) : W p l e R s m args below meth c H locs cells slots Q (F0 m pc ls st0) := by
  intro T hT X
  rcases hr T hT X with ⟨v, st₀, t, T', L, h0, X', hL, e1, e2, ⟨⟨r, u, hv, hp, hb⟩, hF⟩, st⟩ | ⟨q, st₀, t, T', L, E, ce, h0, X', hL, e1, e2, ⟨u, hp, hb, hF⟩, hce, hcv, hcl, st⟩
  · cases hv
    obtain ⟨k1, k2, k3⟩ := vx_keep h0 e1 hS hA hf hL hF
    obtain ⟨t2, a1, b1⟩ := kk r u t T'.heap (locs ++ L) e1.symm (by rw [← e2]; exact X'.warmed.alike) hp hb k1 k2 k3 T' rfl X'
    exact ⟨t2, st t2 a1, b1⟩
  · obtain ⟨k1, k2, k3⟩ := vx_keep h0 e1 hS hAX hf hL hF
    obtain ⟨t2, a1, b1⟩ := kx E ce q u t T'.heap (locs ++ L) e1.symm (by rw [← e2]; exact X'.warmed.alike) hp hb k1 k2 k3 (by rw [e1]; exact hce) hcv hcl T' rfl X'
    exact ⟨t2, st.trans a1, b1⟩
theorem vx_callf {S SX : Type} {post : UInt32 → S → Prop} {px : SX → Prop} {B : S → State → Prop} {BX : String → SX → State → Prop} {AX : Nat → Prop} (hr : vx_Run p l e R s m args below meth c H locs cells slots mc ms (F0 m pc ls st0) rest (va_Qf post B A1 a) (vx_X px BX AX) free) (hS : va_S A0 H0 H locs) (hA : ∀ q, q < H.size → A1 q → A0 q) (hf : ∀ q, free q → A0 q) (hAX : ∀ q, q < H.size → AX q → A0 q)
    (kx : ∀ (E : String) (ce : Cell) (q9 : Addr) (u : SX) (t : State) (H1 : Heap) (locs1 : List Loc), t.heap = H1 → s.vm.Alike t.vm → px u → BX E u t → H.size ≤ H1.size → (∀ q : Nat, q < H.size → ¬ AX q → H1[q]? = H[q]?) → va_S A0 H0 H1 locs1 → H1[q9]? = some ce → ce.vm = .none → s.vm.findClass E = some ce.cls → vx_W p l e R s m args below meth c H1 locs1 (cells + mc) (slots + ms) Q (F0 m pc ls rest) q9)
    (kk : ∀ (r : UInt32) (u : S) (t : State) (H1 : Heap) (locs1 : List Loc), t.heap = H1 → s.vm.Alike t.vm → post r u → B u t → H.size ≤ H1.size → (∀ q : Nat, q < H.size → ¬ A1 q → H1[q]? = H[q]?) → va_S A0 H0 H1 locs1 → W p l e R s m args below meth c H1 locs1 (cells + mc) (slots + ms) Q (F0 m (pc + 3) ls (.float r :: rest))) : W p l e R s m args below meth c H locs cells slots Q (F0 m pc ls st0) := by
  intro T hT X
  rcases hr T hT X with ⟨v, st₀, t, T', L, h0, X', hL, e1, e2, ⟨⟨r, u, hv, hp, hb⟩, hF⟩, st⟩ | ⟨q, st₀, t, T', L, E, ce, h0, X', hL, e1, e2, ⟨u, hp, hb, hF⟩, hce, hcv, hcl, st⟩
  · cases hv
    obtain ⟨k1, k2, k3⟩ := vx_keep h0 e1 hS hA hf hL hF
    obtain ⟨t2, a1, b1⟩ := kk r u t T'.heap (locs ++ L) e1.symm (by rw [← e2]; exact X'.warmed.alike) hp hb k1 k2 k3 T' rfl X'
    exact ⟨t2, st t2 a1, b1⟩
  · obtain ⟨k1, k2, k3⟩ := vx_keep h0 e1 hS hAX hf hL hF
    obtain ⟨t2, a1, b1⟩ := kx E ce q u t T'.heap (locs ++ L) e1.symm (by rw [← e2]; exact X'.warmed.alike) hp hb k1 k2 k3 (by rw [e1]; exact hce) hcv hcl T' rfl X'
    exact ⟨t2, st.trans a1, b1⟩
theorem vx_calld {S SX : Type} {post : UInt64 → S → Prop} {px : SX → Prop} {B : S → State → Prop} {BX : String → SX → State → Prop} {AX : Nat → Prop} (hr : vx_Run p l e R s m args below meth c H locs cells slots mc ms (F0 m pc ls st0) rest (va_Qd post B A1 a) (vx_X px BX AX) free) (hS : va_S A0 H0 H locs) (hA : ∀ q, q < H.size → A1 q → A0 q) (hf : ∀ q, free q → A0 q) (hAX : ∀ q, q < H.size → AX q → A0 q)
    (kx : ∀ (E : String) (ce : Cell) (q9 : Addr) (u : SX) (t : State) (H1 : Heap) (locs1 : List Loc), t.heap = H1 → s.vm.Alike t.vm → px u → BX E u t → H.size ≤ H1.size → (∀ q : Nat, q < H.size → ¬ AX q → H1[q]? = H[q]?) → va_S A0 H0 H1 locs1 → H1[q9]? = some ce → ce.vm = .none → s.vm.findClass E = some ce.cls → vx_W p l e R s m args below meth c H1 locs1 (cells + mc) (slots + ms) Q (F0 m pc ls rest) q9)
    (kk : ∀ (r : UInt64) (u : S) (t : State) (H1 : Heap) (locs1 : List Loc), t.heap = H1 → s.vm.Alike t.vm → post r u → B u t → H.size ≤ H1.size → (∀ q : Nat, q < H.size → ¬ A1 q → H1[q]? = H[q]?) → va_S A0 H0 H1 locs1 → W p l e R s m args below meth c H1 locs1 (cells + mc) (slots + ms) Q (F0 m (pc + 3) ls (.double r :: rest))) : W p l e R s m args below meth c H locs cells slots Q (F0 m pc ls st0) := by
  intro T hT X
  rcases hr T hT X with ⟨v, st₀, t, T', L, h0, X', hL, e1, e2, ⟨⟨r, u, hv, hp, hb⟩, hF⟩, st⟩ | ⟨q, st₀, t, T', L, E, ce, h0, X', hL, e1, e2, ⟨u, hp, hb, hF⟩, hce, hcv, hcl, st⟩
  · cases hv
    obtain ⟨k1, k2, k3⟩ := vx_keep h0 e1 hS hA hf hL hF
    obtain ⟨t2, a1, b1⟩ := kk r u t T'.heap (locs ++ L) e1.symm (by rw [← e2]; exact X'.warmed.alike) hp hb k1 k2 k3 T' rfl X'
    exact ⟨t2, st t2 a1, b1⟩
  · obtain ⟨k1, k2, k3⟩ := vx_keep h0 e1 hS hAX hf hL hF
    obtain ⟨t2, a1, b1⟩ := kx E ce q u t T'.heap (locs ++ L) e1.symm (by rw [← e2]; exact X'.warmed.alike) hp hb k1 k2 k3 (by rw [e1]; exact hce) hcv hcl T' rfl X'
    exact ⟨t2, st.trans a1, b1⟩
theorem vx_callv {S SX : Type} {post : S → Prop} {px : SX → Prop} {B : S → State → Prop} {BX : String → SX → State → Prop} {AX : Nat → Prop} (hr : vx_Run p l e R s m args below meth c H locs cells slots mc ms (F0 m pc ls st0) rest (va_Qv post B A1 a) (vx_X px BX AX) free) (hS : va_S A0 H0 H locs) (hA : ∀ q, q < H.size → A1 q → A0 q) (hf : ∀ q, free q → A0 q) (hAX : ∀ q, q < H.size → AX q → A0 q)
    (kx : ∀ (E : String) (ce : Cell) (q9 : Addr) (u : SX) (t : State) (H1 : Heap) (locs1 : List Loc), t.heap = H1 → s.vm.Alike t.vm → px u → BX E u t → H.size ≤ H1.size → (∀ q : Nat, q < H.size → ¬ AX q → H1[q]? = H[q]?) → va_S A0 H0 H1 locs1 → H1[q9]? = some ce → ce.vm = .none → s.vm.findClass E = some ce.cls → vx_W p l e R s m args below meth c H1 locs1 (cells + mc) (slots + ms) Q (F0 m pc ls rest) q9)
    (kk : ∀ (u : S) (t : State) (H1 : Heap) (locs1 : List Loc), t.heap = H1 → s.vm.Alike t.vm → post u → B u t → H.size ≤ H1.size → (∀ q : Nat, q < H.size → ¬ A1 q → H1[q]? = H[q]?) → va_S A0 H0 H1 locs1 → W p l e R s m args below meth c H1 locs1 (cells + mc) (slots + ms) Q (F0 m (pc + 3) ls (rest))) : W p l e R s m args below meth c H locs cells slots Q (F0 m pc ls st0) := by
  intro T hT X
  rcases hr T hT X with ⟨v, st₀, t, T', L, h0, X', hL, e1, e2, ⟨⟨u, hv, hp, hb⟩, hF⟩, st⟩ | ⟨q, st₀, t, T', L, E, ce, h0, X', hL, e1, e2, ⟨u, hp, hb, hF⟩, hce, hcv, hcl, st⟩
  · cases hv
    obtain ⟨k1, k2, k3⟩ := vx_keep h0 e1 hS hA hf hL hF
    obtain ⟨t2, a1, b1⟩ := kk u t T'.heap (locs ++ L) e1.symm (by rw [← e2]; exact X'.warmed.alike) hp hb k1 k2 k3 T' rfl X'
    exact ⟨t2, st t2 a1, b1⟩
  · obtain ⟨k1, k2, k3⟩ := vx_keep h0 e1 hS hAX hf hL hF
    obtain ⟨t2, a1, b1⟩ := kx E ce q u t T'.heap (locs ++ L) e1.symm (by rw [← e2]; exact X'.warmed.alike) hp hb k1 k2 k3 (by rw [e1]; exact hce) hcv hcl T' rfl X'
    exact ⟨t2, st.trans a1, b1⟩
/-- caught by the row x of this method's table; the rows ahead don't take it -/
theorem vx_catch {own name : String} {E : String} {ce : Cell} {q : Addr} (hown : s.vm.findClass own = some m.cls) (pre : List ExceptionTableEntry) (x : ExceptionTableEntry) (suf : List ExceptionTableEntry) (hsplit : c.exceptionTable.toList = pre ++ x :: suf)
    (hpass : ∀ z ∈ pre, covers z pc = false ∨ (z.catchType ≠ 0 ∧ ∃ nm : String, (Cond.classLink own z.catchType nm).before args s = true ∧ va_Nc E nm s)) (hx : covers x pc = true) (h0 : x.catchType ≠ 0)
    (hlink : (Cond.classLink own x.catchType name).before args s = true) (hcast : (Cond.castable E name).before args s = true) (hcell : H[q]? = some ce) (hv : ce.vm = .none) (hcl : s.vm.findClass E = some ce.cls)
    (kk : W p l e R s m args below meth c H locs cells slots Q (F0 m x.handlerPc ls [.ref q])) : vx_W p l e R s m args below meth c H locs cells slots Q (F0 m pc ls rest) q := by
  intro T hT X
  have hpl : e.platform.magicAccessors = ({} : Platform).magicAccessors := by rw [X.admits.platform]
  obtain ⟨c3, c4, hc3, hc4, hasg⟩ := Cond.castable_spec hcast
  cases Option.some.inj (hc3.symm.trans hcl)
  obtain ⟨c5, hc5, hcl5⟩ := Cond.classLink_spec hown hlink e.platform hpl
  cases Option.some.inj (hc4.symm.trans hc5)
  obtain ⟨vm', X', st⟩ := X.thenCaughtThrough q (g := F0 m pc ls rest) rfl (Steps.refl _) (by rw [hT]; exact hcell) (by rw [hv]; rfl) (by obtain ⟨k9, h9, -⟩ := Vm.findClass_spec hcl; exact ⟨k9, h9⟩) pre x suf hsplit
    (fun z hz => by
      rcases hpass z hz with h | ⟨hz0, nm, hl1, hn1⟩
      · exact Or.inl h
      · obtain ⟨c6, hc6, hcl6⟩ := Cond.classLink_spec hown hl1 e.platform hpl
        obtain ⟨a8, b8, h1, h2, h3⟩ := hn1
        cases Option.some.inj (h1.symm.trans hcl)
        cases Option.some.inj (h2.symm.trans hc6)
        exact Or.inr ⟨hz0, _, hcl6, h3⟩) hx (Or.inr ⟨h0, c4, hcl5, hasg⟩)
  obtain ⟨t, a1, b1⟩ := kk (T.setVm vm') hT X'
  exact ⟨t, st.trans a1, b1⟩
end Rows
section Ends
variable {p : Program} {l : Launch} {e : Env} {R : Room} {s : State} {m : MethodId} {args : Array Value} {below : List Frame} {meth : Method} {c : Code} {H : Heap} {locs : List Loc} {cells slots : Nat} {Q : State → Prop}
variable {mc ms : Nat} {free : Addr → Prop} {A0 A1 : Nat → Prop} {H0 : Heap} {a : Array Value} {ls : Array Slot} {st0 rest : List Value}
variable {Qc : Array Value → State → Outcome → State → Prop} {XC : String → State → State → Prop}
/-- what a body that may throw owes at its end -/
def vx_MQ (below : List Frame) (Qc : Array Value → State → Outcome → State → Prop) (XC : String → State → State → Prop) (a : Array Value) (s : State) (mc ms : Nat) (free : Addr → Prop) : State → Prop := fun t =>
  ∃ o, t.status = .running ∧ Ended t below o ∧ vx_Q Qc XC mc ms free a s o t
theorem vx_ret {g : JFrame} {mc ms : Nat} (k : W p l e R s m args below meth c H locs cells slots (MQ below Qc args s mc ms free) g) : W p l e R s m args below meth c H locs cells slots (vx_MQ below Qc XC args s mc ms free) g := by
  intro T hT X
  obtain ⟨t, a1, o, b1, b2, b3, b4⟩ := k T hT X
  exact ⟨t, a1, o, b1, b2, Or.inl ⟨b3, b4⟩⟩
/-- not caught here: it goes on to the caller -/
theorem vx_widen {g : JFrame} {q : Addr} {k n : Nat} (h1 : cells ≤ k) (h2 : slots ≤ n) (kk : vx_W p l e R s m args below meth c H locs k n Q g q) : vx_W p l e R s m args below meth c H locs cells slots Q g q := fun T hT X => kk T hT (stand_widen X h1 h2)
theorem vx_out {pc : Nat} {E : String} {ce : Cell} {q : Addr} {mc ms : Nat} (hout : ∀ x ∈ c.exceptionTable.toList, covers x pc = false) (hlocks : meth.locks = false) (hcell : H[q]? = some ce) (hv : ce.vm = .none) (hcl : s.vm.findClass E = some ce.cls)
    (hx : ∀ t : State, t.heap = H → s.vm.Alike t.vm → XC E s t) (hf : ∀ z ∈ locs, free z.base) (hc : cells ≤ mc) (hs : slots ≤ ms) :
    vx_W p l e R s m args below meth c H locs cells slots (vx_MQ below Qc XC args s mc ms free) (F0 m pc ls rest) q := by
  intro T hT X
  obtain ⟨st1, hrun, hend, hW, hsm⟩ := X.leaveThrown q (g := F0 m pc ls rest) rfl rfl rfl hout hlocks
  have hcell9 : (T.setFrames (.throwing q :: below)).heap[q]? = some ce := by
    show T.heap[q]? = some ce
    rw [hT]; exact hcell
  exact ⟨_, st1, .threw q, hrun, hend, Or.inr ⟨q, rfl, E, ce, locs, hx _ hT hW.alike, hcell9, hv, hcl, hW, hsm.mono hc hs, hf⟩⟩
theorem vx_frame {U : State} {k n : Nat} (h : s.sameButNew ({ U with vm := s.vm } : State) locs k n) : s.heap.size ≤ U.heap.size ∧ ∀ q : Nat, q < s.heap.size → (∀ z ∈ locs, z.base ≠ q) → U.heap[q]? = s.heap[q]? := by
  obtain ⟨-, h2, -, -, -, h6⟩ := h
  refine ⟨h2, fun q hq hz => ?_⟩
  obtain ⟨c9, e1, e2, e3, e4⟩ := h6 q _ (Array.getElem?_eq_getElem hq)
  have hs : c9.slots = (s.heap[q]).slots := Array.ext_getElem? fun i => e4 i fun hm => hz _ hm rfl
  have h9 : c9 = s.heap[q] := by
    rw [hs] at e2
    exact e2
  have e5 : U.heap[q]? = some c9 := e1
  rw [e5, h9, Array.getElem?_eq_getElem hq]
/-- the words of a throw but the four that speak of the heap -/
def vx_no (w : Cond) : Bool := decide (w ≠ .isRef (.static Bundle.tN "UNASSIGNED_STACK" Bundle.steD)) && decide (w ≠ .isRef (.static Bundle.tN "SUPPRESSED_SENTINEL" Bundle.listD)) && decide (w ≠ .laysStatic Bundle.tN "UNASSIGNED_STACK" Bundle.steD) && decide (w ≠ .laysStatic Bundle.tN "SUPPRESSED_SENTINEL" Bundle.listD)
def vx_at0 (own : String) (ic : Nat) (X : String) (names : List String) : List Cond := (Bundle.ownAtoms0 own ic X names).filter vx_no
def vx_atS (own : String) (ic : Nat) (X : String) (names : List String) : List Cond := (Bundle.ownAtoms own ic X names).filter vx_no
/-- a word that the tables alone decide, or a good one -/
def vx_ot (w : Cond) : Bool := w.onTables || goodWord w
theorem vx_ot_at {args a' : Array Value} {s U : State} {w : Cond} (hW : s.WarmedH U.vm) (hvm : s.vm = U.vm) (hg : vx_ot w = true) (h : w.before args s = true) : w.before a' U = true := by
  simp only [vx_ot, Bool.or_eq_true] at hg
  rcases hg with hg | hg
  · exact va_tabs hg hvm h
  · exact word_at hW (good_of_word hg) h
/-- a list's words: the good ones out of the method's own list, the others by premises of their own -/
theorem vx_hat {args : Array Value} {s : State} {L B : List Cond} (h1 : ∀ w ∈ L.filter goodWord, w.before args s = true) (h2 : ∀ w ∈ L.filter (fun w => !goodWord w), w ∈ B) (h3 : ∀ w ∈ B, w.before args s = true) : ∀ w ∈ L, w.before args s = true := by
  intro w hw
  by_cases g : goodWord w = true
  · exact h1 w (List.mem_filter.mpr ⟨hw, g⟩)
  · refine h3 w (h2 w (List.mem_filter.mpr ⟨hw, ?_⟩))
    show (!goodWord w) = true
    cases hgw : goodWord w
    · rfl
    · exact absurd hgw g
theorem vx_c {args : Array Value} {s : State} {w : Cond} {B : List Cond} (h : w.before args s = true) (t : ∀ w ∈ B, w.before args s = true) : ∀ w' ∈ w :: B, w'.before args s = true := fun w' h' => (List.mem_cons.mp h').elim (fun e => by rw [e]; exact h) (t w')
theorem vx_n {args : Array Value} {s : State} : ∀ w ∈ ([] : List Cond), w.before args s = true := fun _ h => nomatch h
theorem vx_own {args : Array Value} {s : State} {L : List Cond} (h1 : ∀ w ∈ L.filter vx_no, w.before args s = true)
    (hU : (Cond.isRef (.static Bundle.tN "UNASSIGNED_STACK" Bundle.steD)).before args s = true) (hN : (Cond.isRef (.static Bundle.tN "SUPPRESSED_SENTINEL" Bundle.listD)).before args s = true)
    (lU : (Cond.laysStatic Bundle.tN "UNASSIGNED_STACK" Bundle.steD).before args s = true) (lN : (Cond.laysStatic Bundle.tN "SUPPRESSED_SENTINEL" Bundle.listD).before args s = true) : ∀ w ∈ L, w.before args s = true := by
  intro w hw
  by_cases e1 : w = .isRef (.static Bundle.tN "UNASSIGNED_STACK" Bundle.steD)
  · rw [e1]; exact hU
  · by_cases e2 : w = .isRef (.static Bundle.tN "SUPPRESSED_SENTINEL" Bundle.listD)
    · rw [e2]; exact hN
    · by_cases e3 : w = .laysStatic Bundle.tN "UNASSIGNED_STACK" Bundle.steD
      · rw [e3]; exact lU
      · by_cases e4 : w = .laysStatic Bundle.tN "SUPPRESSED_SENTINEL" Bundle.listD
        · rw [e4]; exact lN
        · exact h1 w (List.mem_filter.mpr ⟨hw, by unfold vx_no; rw [decide_eq_true e1, decide_eq_true e2, decide_eq_true e3, decide_eq_true e4]; rfl⟩)
/-- where a static field lies, its class's statics cell in H -/
def vx_L (C n d : String) (A : Nat → Prop) (U : State) (H : Heap) : Prop := ∃ (c : ClassId) (k : Class) (i : Nat) (f : Field) (a : Nat) (cell : Cell), U.vm.findClass C = some c ∧ U.fieldFound? C n d = some (c, k, i, f) ∧ f.isStatic = true ∧ k.statics = some a ∧ H[a]? = some cell ∧ cell.vm.isStatics = true ∧ cell.cls = c ∧ f.slot < cell.slots.size ∧ k.staticTypes[f.slot]? = some f.type ∧ ¬ A a
theorem vx_L.moved {C n d : String} {A : Nat → Prop} {u U : State} {H : Heap} (hvm : u.vm.Alike U.vm) (h : vx_L C n d A u H) : vx_L C n d A U H := by
  obtain ⟨c, k, i, f, a, cell, h1, h2, h3, h4, h5, h6, h7, h8, h9, h10⟩ := h
  obtain ⟨k', hi', he⟩ := State.fieldFound?_setVm hvm h2
  exact ⟨c, k', i, f, a, cell, by rw [hvm.findClass]; exact h1, hi', h3, by rw [he]; exact h4, h5, h6, h7, h8, by rw [he]; exact h9, h10⟩
theorem vx_L.kept {C n d : String} {A : Nat → Prop} {U : State} {H H1 : Heap} (h : vx_L C n d A U H) (hq : ∀ a : Nat, a < H.size → ¬ A a → H1[a]? = H[a]?) : vx_L C n d A U H1 := by
  obtain ⟨c, k, i, f, a, cell, h1, h2, h3, h4, h5, h6, h7, h8, h9, h10⟩ := h
  exact ⟨c, k, i, f, a, cell, h1, h2, h3, h4, by rw [hq a (Array.getElem?_eq_some_iff.mp h5).1 h10]; exact h5, h6, h7, h8, h9, h10⟩
theorem vx_L.narrow {C n d : String} {A B : Nat → Prop} {U : State} {H : Heap} (h : vx_L C n d A U H) (hAB : ∀ q, B q → A q) : vx_L C n d B U H := by
  obtain ⟨c, k, i, f, a, cell, h1, h2, h3, h4, h5, h6, h7, h8, h9, h10⟩ := h
  exact ⟨c, k, i, f, a, cell, h1, h2, h3, h4, h5, h6, h7, h8, h9, fun z => h10 (hAB _ z)⟩
theorem vx_L.word {C n d : String} {A : Nat → Prop} {s : State} {args : Array Value} (h : vx_L C n d A s s.heap) : (Cond.laysStatic C n d).before args s = true := by
  obtain ⟨c, k, i, f, a, cell, h1, h2, h3, h4, h5, h6, h7, h8, h9, -⟩ := h
  show (Cond.laysStatic C n d).holds args s none s [] = true
  exact Cond.laysStatic_of h1 h2 h3 h4 h5 h6 h7 h8 h9
/-- .. and what it holds: null or some reference -/
def vx_Zq (C n d : String) (A : Nat → Prop) (U : State) (H : Heap) : Prop := va_Zq C n d A U H ∧ vx_L C n d A U H
theorem vx_Zq.moved {C n d : String} {A : Nat → Prop} {u U : State} {H : Heap} (hvm : u.vm.Alike U.vm) (h : vx_Zq C n d A u H) : vx_Zq C n d A U H := ⟨va_Zq.moved hvm h.1, vx_L.moved hvm h.2⟩
theorem vx_Zq.kept {C n d : String} {A : Nat → Prop} {U : State} {H H1 : Heap} (h : vx_Zq C n d A U H) (hq : ∀ a : Nat, a < H.size → ¬ A a → H1[a]? = H[a]?) : vx_Zq C n d A U H1 := ⟨va_Zq.kept h.1 hq, vx_L.kept h.2 hq⟩
theorem vx_Zq.narrow {C n d : String} {A B : Nat → Prop} {U : State} {H : Heap} (h : vx_Zq C n d A U H) (hAB : ∀ q, B q → A q) : vx_Zq C n d B U H := ⟨va_Zq.narrow h.1 hAB, vx_L.narrow h.2 hAB⟩
theorem vx_Zqof {args : Array Value} {s : State} {C n d : String} {A : Nat → Prop} (hl : (Cond.laysStatic C n d).before args s = true) (hini : (Cond.initialized C).before args s = true) (h : (Cond.isRef (.static C n d)).before args s = true) (hA : ∀ a : Nat, a < s.heap.size → ¬ A a) : vx_Zq C n d A s s.heap := by
  refine ⟨va_Zqof hl hini h hA, ?_⟩
  obtain ⟨c, k, i, f, a, cell, h1, h2, h3, h4, h5, h6, h7, h8, h9⟩ := Cond.laysStatic_spec hl
  exact ⟨c, k, i, f, a, cell, h1, h2, h3, h4, h5, h6, h7, h8, h9, hA a (Array.getElem?_eq_some_iff.mp h5).1⟩
theorem vx_isRef {C n d : String} {v : Value} {A : Nat → Prop} {s : State} {args : Array Value} (h : va_Z C n d v A s s.heap) (hv : v.isRef = true) : (Cond.isRef (.static C n d)).before args s = true := by
  obtain ⟨cf, kf, fi, f, a, cell, h1, h2, h3, h4, h5, h6, h7, -⟩ := h
  have he : (Term.static C n d).eval args s none [] s = some v := by
    simp [Term.eval, State.fieldNamed?, h1, h2, h4, h5, h6, h7]
  simp only [Cond.before, Cond.holds, Cond.value, he]
  cases v <;> simp_all [Value.isRef]
theorem vx_isRefq {C n d : String} {A : Nat → Prop} {s : State} {args : Array Value} (h : va_Zq C n d A s s.heap) : (Cond.isRef (.static C n d)).before args s = true := by
  rcases h with h | ⟨t, h⟩
  · exact vx_isRef h rfl
  · exact vx_isRef h rfl
/-- the same frame, seen from here: as if the method were called anew in this heap -/
theorem vx_rebase {T : State} (X : Stand p l e R s m args below meth c T locs cells slots) {R' : Room} (hf : R'.frames ≤ R.frames) (hl : R'.locals ≤ R.locals) (hc : cells + R'.cells ≤ R.cells) (hs : slots + R'.slots ≤ R.slots) :
    Stand p l e R' ((T.setVm s.vm).setFrames (.invoking m args :: below)) m args below meth c T [] 0 0 := by
  have htop : (T.setVm s.vm).topJava?.isSome := X.here.top
  have hF : ((T.setVm s.vm).setFrames (.invoking m args :: below)).frames = .invoking m args :: below := State.frames_setFrames _ (State.cur_lt_of_top htop)
  obtain ⟨g₀, hg0⟩ := Option.isSome_iff_exists.mp htop
  obtain ⟨r, hr⟩ := State.topJava?_eq_some.mp hg0
  have hl9 : e.platform.stackLimits (T.setVm s.vm).me = e.platform.stackLimits s.me := X.limits
  have hb9 : (T.setVm s.vm).me.stackBytes = s.me.stackBytes := X.bytes
  refine ⟨X.admits, X.cas, X.clock, hF, ?_, X.hears, X.method, X.code, X.here, X.tail, X.warmed, ?_, ?_, ?_⟩
  · have h := X.room
    have hU : ((T.setVm s.vm).setFrames (.invoking m args :: below)).localsInUse = s.localsInUse := by
      rw [State.localsInUse_invoking hF (meth := meth) (c := c) X.method X.code, State.localsInUse_invoking X.frames X.method X.code]
    simp only [State.hasRoom, Bool.and_eq_true, decide_eq_true_eq] at h ⊢
    obtain ⟨⟨⟨⟨h1, h2, h3, h4, h5, h6⟩, h7⟩, h8⟩, h9⟩ := h
    rw [X.frames, List.length_cons] at h2 h3
    have q1 := X.heapSize
    have q2 := X.used
    simp only [hF, hU, List.length_cons, State.stackLimits_setFrames, State.stackBytes_setFrames, hl9, hb9]
    refine ⟨⟨⟨⟨by omega, by omega, by omega, by omega, by omega, h6⟩, ?_⟩, ?_⟩, X.book⟩
    · show T.heap.size + R'.cells ≤ e.platform.maxCells
      omega
    · show T.slotsUsed + R'.slots ≤ e.platform.maxSlots
      omega
  · rw [State.stackLimits_setFrames]; rfl
  · rw [State.stackBytes_setFrames]; rfl
  · refine ⟨?_, Nat.le_refl _, Nat.le_refl _, ?_, ?_, fun a c9 h9 => ⟨c9, h9, rfl, rfl, fun _ _ => rfl⟩⟩
    · obtain ⟨t, ht, -⟩ := State.frames_cons hr
      show T.setVm s.vm = { ((T.setVm s.vm).setFrames (.invoking m args :: below)).setFrames (T.setVm s.vm).frames with heap := T.heap, slotsUsed := T.slotsUsed }
      rw [State.setFrames_setFrames, State.setFrames_self ht]
      rfl
    · show T.slotsUsed = T.slotsUsed + ((T.heap.toList.drop T.heap.size).map (·.slots.size)).sum
      rw [List.drop_eq_nil_of_le (Nat.le_of_eq Array.length_toList)]
      rfl
    · show ((T.heap.toList.drop T.heap.size).map (·.slots.size)).sum ≤ 0
      rw [List.drop_eq_nil_of_le (Nat.le_of_eq Array.length_toList)]
      exact Nat.le_refl _
/-- 'throw new E()': new; dup; invokespecial; athrow -/
theorem vx_throw0 {cc : ByteArray} {pc : Nat} (hexec : p.tables.exec = Jvm.exec) (hb : c.code = cc) (hl : l.stackTraces = false) {own cls : String} {names : List String} {ik ic mc ms : Nat} {A : Nat → Prop}
    (hown : s.vm.findClass own = some m.cls) (hcls : Bundle.fit cls = true) (hnames : ∀ n ∈ names, Bundle.fit n = true)
    (hk : (Cond.classLink own ik cls).before args s = true) (hini : (Cond.initialized cls).before args s = true) (hat : ∀ w ∈ vx_at0 own ic cls names, w.before args s = true)
    (hgood : ∀ w ∈ Cond.classLink own ik cls :: Cond.initialized cls :: vx_at0 own ic cls names, vx_ot w = true)
    (hU : vx_Zq Bundle.tN "UNASSIGNED_STACK" Bundle.steD A s s.heap) (hN : vx_Zq Bundle.tN "SUPPRESSED_SENTINEL" Bundle.listD A s s.heap) (hS : va_S A s.heap H locs) (hsize : ls.size = c.maxLocals)
    (d0 : decode cc pc = .ok (.new ik, 3)) (d3 : decode cc (pc + 3) = .ok (.dup, 1)) (d4 : decode cc (pc + 4) = .ok (.invokespecial ic, 3)) (d7 : decode cc (pc + 7) = .ok (.athrow, 1))
    (hout : ∀ x ∈ c.exceptionTable.toList, covers x (pc + 7) = false)
    (hRframes : names.length + 3 < R.frames) (hRlocals : (rest.map fun v => v.category).sum + (13 * (names.length + 1) + 42) ≤ R.locals) (hRcells : cells + 1 ≤ R.cells) (hRslots : slots + 6 ≤ R.slots) (hlocks : meth.locks = false)
    (hx : ∀ t : State, s.vm.Alike t.vm → H.size ≤ t.heap.size → (∀ q : Nat, q < H.size → t.heap[q]? = H[q]?) → XC cls s t)
    (hf : ∀ z ∈ locs, free z.base) (hc : cells + 1 ≤ mc) (hs : slots + 6 ≤ ms) :
    W p l e R s m args below meth c H locs cells slots (vx_MQ below Qc XC args s mc ms free) (F0 m pc ls rest) := by
  intro T hT X
  have htr : e.platform.stackTraces = false := (show e.platform.stackTraces = l.stackTraces by rw [X.admits.platform]).trans hl
  have Y := vx_rebase X (R' := { frames := R.frames, locals := R.locals, cells := 1, slots := 6 }) (Nat.le_refl _) (Nat.le_refl _) hRcells hRslots
  obtain ⟨s', hA⟩ : ∃ z, z = (T.setVm s.vm).setFrames (.invoking m args :: below) := ⟨_, rfl⟩
  rw [← hA] at Y
  have hvm : s'.vm = s.vm := by rw [hA]; rfl
  have hhp : s'.heap = H := by rw [hA]; exact hT
  have hW0 : s.WarmedH s'.vm := by rw [hvm]; exact State.WarmedH.refl s
  have hat' : ∀ w ∈ vx_at0 own ic cls names, w.before args s' = true := fun w hw => vx_ot_at hW0 hvm.symm (hgood w (List.mem_cons_of_mem _ (List.mem_cons_of_mem _ hw))) (hat w hw)
  have hk' : (Cond.classLink own ik cls).before args s' = true := vx_ot_at hW0 hvm.symm (hgood _ List.mem_cons_self) hk
  have hini' : (Cond.initialized cls).before args s' = true := vx_ot_at hW0 hvm.symm (hgood _ (List.mem_cons_of_mem _ List.mem_cons_self)) hini
  have hU' : vx_Zq Bundle.tN "UNASSIGNED_STACK" Bundle.steD A s' s'.heap := by rw [hhp]; exact vx_Zq.moved hW0.alike (hU.kept hS.2.1)
  have hN' : vx_Zq Bundle.tN "SUPPRESSED_SENTINEL" Bundle.listD A s' s'.heap := by rw [hhp]; exact vx_Zq.moved hW0.alike (hN.kept hS.2.1)
  have h : ∀ w ∈ Bundle.ownAtoms0 own ic cls names, w.before args s' = true := vx_own hat' (vx_isRefq hU'.1) (vx_isRefq hN'.1) hU'.2.word hN'.2.word
  have hown' : s'.vm.findClass own = some m.cls := by rw [hvm]; exact hown
  have hins : (Cond.instantiable cls 6).before args s' = true := h _ (by simp [Bundle.ownAtoms0])
  obtain ⟨vm₁, cX, kX, hfX, hkX, -, -, X₁, st1⟩ := Y.newCold hexec (own := own) (C := cls) (index := ik) (n := 6) hown' hk' hins hini'
    (g := F0 m pc ls rest) rfl (by rw [hb]; exact d0) (Nat.le_refl _) (Nat.le_refl _)
  generalize hT1 : (T.setVm vm₁).pushCell { cls := cX, slots := kX.instanceTypes.map defaultValue, vm := .none } = T1 at X₁ st1
  have hcat : (Value.ref T.heap.size).category = 1 := rfl
  have hcellA : T1.heap[T.heap.size]? = some (freshCell cX kX) := by rw [← hT1]; exact State.heap_pushCell_size _ _
  have d3' : decode c.code (pc + 3) = .ok (.dup, 1) := by rw [hb]; exact d3
  obtain ⟨U, hsteps, hrun, hend, hW, hsame, ce, hce, hO⟩ := X₁.ctorThrow0 hexec htr (own := own) (cls := cls) (names := names) (ic := ic) hown' hcls hnames h (fun x hx => nomatch hx) hfX hkX hcellA (by rw [hhp, hT]; exact Nat.le_refl _)
    (g := { method := m, pc := pc + 4, locals := ls, stack := .ref T.heap.size :: .ref T.heap.size :: rest, locked := none }) rfl hsize rfl rfl (rest := rest) rfl
    (by rw [hb]; exact d4) (by rw [hb]; exact d7) hout hRframes (by simp only [List.map_cons, List.sum_cons, hcat]; omega) hlocks
  obtain ⟨f1, f2⟩ := vx_frame hsame
  rw [hhp] at f1 f2
  have hWs : s.WarmedH U.vm := State.WarmedH.trans hW0 hW
  have hcl : s.vm.findClass cls = some ce.cls := by
    have h9 := hO.cls
    rw [hvm] at h9
    exact h9
  have hall : s.sameButNew ({ U with vm := s.vm } : State) locs mc ms := by
    subst hA
    obtain ⟨e1, e2⟩ := hsame
    rw [State.setFrames_setFrames] at e1
    have h2 : (T.setVm s.vm).sameButNew ({ U with vm := s.vm } : State) [] (0 + 1) (0 + 6) := ⟨e1, e2⟩
    have h3 := X.same.trans h2
    rw [List.append_nil] at h3
    exact h3.mono hc hs
  refine ⟨U, ?_, .threw T.heap.size, hrun, hend, Or.inr ⟨T.heap.size, rfl, cls, ce, locs, hx U hWs.alike f1 (fun q hq => f2 q hq (fun z hz => nomatch hz)), hce, hO.vm, hcl, hWs, hall, hf⟩⟩
  refine st1 _ ?_
  show Steps p.tables e below (T1.setTop { method := m, pc := pc + 3, locals := ls, stack := .ref T.heap.size :: rest, locked := none }) _
  jvm_step X₁.here [X₁.here.top, hexec, d3', Value.category]
  exact hsteps
/-- 'throw new E("text")': new; dup; ldc; invokespecial; athrow -/
theorem vx_throwS {cc : ByteArray} {pc : Nat} (hexec : p.tables.exec = Jvm.exec) (hb : c.code = cc) (hl : l.stackTraces = false) {own cls text : String} {names : List String} {ik is ic mc ms sa : Nat} {A : Nat → Prop}
    (hown : s.vm.findClass own = some m.cls) (hcls : Bundle.fit cls = true) (hnames : ∀ n ∈ names, Bundle.fit n = true)
    (hk : (Cond.classLink own ik cls).before args s = true) (hini : (Cond.initialized cls).before args s = true) (hstr : vk_R own is text sa s) (hat : ∀ w ∈ vx_atS own ic cls names, w.before args s = true)
    (hgood : ∀ w ∈ Cond.classLink own ik cls :: Cond.initialized cls :: vx_atS own ic cls names, vx_ot w = true)
    (hU : vx_Zq Bundle.tN "UNASSIGNED_STACK" Bundle.steD A s s.heap) (hN : vx_Zq Bundle.tN "SUPPRESSED_SENTINEL" Bundle.listD A s s.heap) (hS : va_S A s.heap H locs) (hsize : ls.size = c.maxLocals)
    (d0 : decode cc pc = .ok (.new ik, 3)) (d3 : decode cc (pc + 3) = .ok (.dup, 1)) (d4 : decode cc (pc + 4) = .ok (.ldc is, 2)) (d6 : decode cc (pc + 6) = .ok (.invokespecial ic, 3)) (d9 : decode cc (pc + 9) = .ok (.athrow, 1))
    (hout : ∀ x ∈ c.exceptionTable.toList, covers x (pc + 9) = false)
    (hRframes : names.length + 3 < R.frames) (hRlocals : (rest.map fun v => v.category).sum + (13 * (names.length + 1) + 43) ≤ R.locals) (hRcells : cells + 1 ≤ R.cells) (hRslots : slots + 6 ≤ R.slots) (hlocks : meth.locks = false)
    (hx : ∀ t : State, s.vm.Alike t.vm → H.size ≤ t.heap.size → (∀ q : Nat, q < H.size → t.heap[q]? = H[q]?) → XC cls s t)
    (hf : ∀ z ∈ locs, free z.base) (hc : cells + 1 ≤ mc) (hs : slots + 6 ≤ ms) :
    W p l e R s m args below meth c H locs cells slots (vx_MQ below Qc XC args s mc ms free) (F0 m pc ls rest) := by
  intro T hT X
  have htr : e.platform.stackTraces = false := (show e.platform.stackTraces = l.stackTraces by rw [X.admits.platform]).trans hl
  have Y := vx_rebase X (R' := { frames := R.frames, locals := R.locals, cells := 1, slots := 6 }) (Nat.le_refl _) (Nat.le_refl _) hRcells hRslots
  obtain ⟨s', hA⟩ : ∃ z, z = (T.setVm s.vm).setFrames (.invoking m args :: below) := ⟨_, rfl⟩
  rw [← hA] at Y
  have hvm : s'.vm = s.vm := by rw [hA]; rfl
  have hhp : s'.heap = H := by rw [hA]; exact hT
  have hW0 : s.WarmedH s'.vm := by rw [hvm]; exact State.WarmedH.refl s
  have hat' : ∀ w ∈ vx_atS own ic cls names, w.before args s' = true := fun w hw => vx_ot_at hW0 hvm.symm (hgood w (List.mem_cons_of_mem _ (List.mem_cons_of_mem _ hw))) (hat w hw)
  have hk' : (Cond.classLink own ik cls).before args s' = true := vx_ot_at hW0 hvm.symm (hgood _ List.mem_cons_self) hk
  have hini' : (Cond.initialized cls).before args s' = true := vx_ot_at hW0 hvm.symm (hgood _ (List.mem_cons_of_mem _ List.mem_cons_self)) hini
  have hU' : vx_Zq Bundle.tN "UNASSIGNED_STACK" Bundle.steD A s' s'.heap := by rw [hhp]; exact vx_Zq.moved hW0.alike (hU.kept hS.2.1)
  have hN' : vx_Zq Bundle.tN "SUPPRESSED_SENTINEL" Bundle.listD A s' s'.heap := by rw [hhp]; exact vx_Zq.moved hW0.alike (hN.kept hS.2.1)
  have h : ∀ w ∈ Bundle.ownAtoms own ic cls names, w.before args s' = true := vx_own hat' (vx_isRefq hU'.1) (vx_isRefq hN'.1) hU'.2.word hN'.2.word
  have hown' : s'.vm.findClass own = some m.cls := by rw [hvm]; exact hown
  have hins : (Cond.instantiable cls 6).before args s' = true := h _ (by simp [Bundle.ownAtoms])
  obtain ⟨vm₁, cX, kX, hfX, hkX, -, -, X₁, st1⟩ := Y.newCold hexec (own := own) (C := cls) (index := ik) (n := 6) hown' hk' hins hini'
    (g := F0 m pc ls rest) rfl (by rw [hb]; exact d0) (Nat.le_refl _) (Nat.le_refl _)
  generalize hT1 : (T.setVm vm₁).pushCell { cls := cX, slots := kX.instanceTypes.map defaultValue, vm := .none } = T1 at X₁ st1
  have hcat : (Value.ref T.heap.size).category = 1 := rfl
  have hcellA : T1.heap[T.heap.size]? = some (freshCell cX kX) := by rw [← hT1]; exact State.heap_pushCell_size _ _
  have d3' : decode c.code (pc + 3) = .ok (.dup, 1) := by rw [hb]; exact d3
  have d4' : decode c.code (pc + 4) = .ok (.ldc is, 2) := by rw [hb]; exact d4
  have hstr' : vk_R own is text sa s' := vk_R.warm hW0 hstr
  obtain ⟨U, hsteps, hrun, hend, hW, hsame, ce, hce, hO⟩ := X₁.ctorThrowS hexec htr (own := own) (cls := cls) (names := names) (ic := ic) hown' hcls hnames h (fun x hx => nomatch hx) hfX hkX hcellA (by rw [hhp, hT]; exact Nat.le_refl _) (msg := .ref sa) rfl
    (g := { method := m, pc := pc + 6, locals := ls, stack := .ref sa :: .ref T.heap.size :: .ref T.heap.size :: rest, locked := none }) rfl hsize rfl rfl (rest := rest) rfl
    (by rw [hb]; exact d6) (by rw [hb]; exact d9) hout hRframes (by simp only [List.map_cons, List.sum_cons, hcat]; omega) hlocks
  obtain ⟨f1, f2⟩ := vx_frame hsame
  rw [hhp] at f1 f2
  have hWs : s.WarmedH U.vm := State.WarmedH.trans hW0 hW
  have hcl : s.vm.findClass cls = some ce.cls := by
    have h9 := hO.cls
    rw [hvm] at h9
    exact h9
  have hall : s.sameButNew ({ U with vm := s.vm } : State) locs mc ms := by
    subst hA
    obtain ⟨e1, e2⟩ := hsame
    rw [State.setFrames_setFrames] at e1
    have h2 : (T.setVm s.vm).sameButNew ({ U with vm := s.vm } : State) [] (0 + 1) (0 + 6) := ⟨e1, e2⟩
    have h3 := X.same.trans h2
    rw [List.append_nil] at h3
    exact h3.mono hc hs
  refine ⟨U, ?_, .threw T.heap.size, hrun, hend, Or.inr ⟨T.heap.size, rfl, cls, ce, locs, hx U hWs.alike f1 (fun q hq => f2 q hq (fun z hz => nomatch hz)), hce, hO.vm, hcl, hWs, hall, hf⟩⟩
  refine st1 _ ?_
  show Steps p.tables e below (T1.setTop { method := m, pc := pc + 3, locals := ls, stack := .ref T.heap.size :: rest, locked := none }) _
  jvm_step X₁.here [X₁.here.top, hexec, d3', Value.category]
  exact X₁.ldcString hexec (own := own) (text := text) (index := is) (a := sa) hown' hstr'.1 hstr'.2
    (g := { method := m, pc := pc + 4, locals := ls, stack := .ref T.heap.size :: .ref T.heap.size :: rest, locked := none }) rfl d4' _ hsteps
/-- 'throw new E("text")', the text by a wide index -/
theorem vx_throwSW {cc : ByteArray} {pc : Nat} (hexec : p.tables.exec = Jvm.exec) (hb : c.code = cc) (hl : l.stackTraces = false) {own cls text : String} {names : List String} {ik is ic mc ms sa : Nat} {A : Nat → Prop}
    (hown : s.vm.findClass own = some m.cls) (hcls : Bundle.fit cls = true) (hnames : ∀ n ∈ names, Bundle.fit n = true)
    (hk : (Cond.classLink own ik cls).before args s = true) (hini : (Cond.initialized cls).before args s = true) (hstr : vk_R own is text sa s) (hat : ∀ w ∈ vx_atS own ic cls names, w.before args s = true)
    (hgood : ∀ w ∈ Cond.classLink own ik cls :: Cond.initialized cls :: vx_atS own ic cls names, vx_ot w = true)
    (hU : vx_Zq Bundle.tN "UNASSIGNED_STACK" Bundle.steD A s s.heap) (hN : vx_Zq Bundle.tN "SUPPRESSED_SENTINEL" Bundle.listD A s s.heap) (hS : va_S A s.heap H locs) (hsize : ls.size = c.maxLocals)
    (d0 : decode cc pc = .ok (.new ik, 3)) (d3 : decode cc (pc + 3) = .ok (.dup, 1)) (d4 : decode cc (pc + 4) = .ok (.ldc_w is, 3)) (d7 : decode cc (pc + 7) = .ok (.invokespecial ic, 3)) (d10 : decode cc (pc + 10) = .ok (.athrow, 1))
    (hout : ∀ x ∈ c.exceptionTable.toList, covers x (pc + 10) = false)
    (hRframes : names.length + 3 < R.frames) (hRlocals : (rest.map fun v => v.category).sum + (13 * (names.length + 1) + 43) ≤ R.locals) (hRcells : cells + 1 ≤ R.cells) (hRslots : slots + 6 ≤ R.slots) (hlocks : meth.locks = false)
    (hx : ∀ t : State, s.vm.Alike t.vm → H.size ≤ t.heap.size → (∀ q : Nat, q < H.size → t.heap[q]? = H[q]?) → XC cls s t)
    (hf : ∀ z ∈ locs, free z.base) (hc : cells + 1 ≤ mc) (hs : slots + 6 ≤ ms) :
    W p l e R s m args below meth c H locs cells slots (vx_MQ below Qc XC args s mc ms free) (F0 m pc ls rest) := by
  intro T hT X
  have htr : e.platform.stackTraces = false := (show e.platform.stackTraces = l.stackTraces by rw [X.admits.platform]).trans hl
  have Y := vx_rebase X (R' := { frames := R.frames, locals := R.locals, cells := 1, slots := 6 }) (Nat.le_refl _) (Nat.le_refl _) hRcells hRslots
  obtain ⟨s', hA⟩ : ∃ z, z = (T.setVm s.vm).setFrames (.invoking m args :: below) := ⟨_, rfl⟩
  rw [← hA] at Y
  have hvm : s'.vm = s.vm := by rw [hA]; rfl
  have hhp : s'.heap = H := by rw [hA]; exact hT
  have hW0 : s.WarmedH s'.vm := by rw [hvm]; exact State.WarmedH.refl s
  have hat' : ∀ w ∈ vx_atS own ic cls names, w.before args s' = true := fun w hw => vx_ot_at hW0 hvm.symm (hgood w (List.mem_cons_of_mem _ (List.mem_cons_of_mem _ hw))) (hat w hw)
  have hk' : (Cond.classLink own ik cls).before args s' = true := vx_ot_at hW0 hvm.symm (hgood _ List.mem_cons_self) hk
  have hini' : (Cond.initialized cls).before args s' = true := vx_ot_at hW0 hvm.symm (hgood _ (List.mem_cons_of_mem _ List.mem_cons_self)) hini
  have hU' : vx_Zq Bundle.tN "UNASSIGNED_STACK" Bundle.steD A s' s'.heap := by rw [hhp]; exact vx_Zq.moved hW0.alike (hU.kept hS.2.1)
  have hN' : vx_Zq Bundle.tN "SUPPRESSED_SENTINEL" Bundle.listD A s' s'.heap := by rw [hhp]; exact vx_Zq.moved hW0.alike (hN.kept hS.2.1)
  have h : ∀ w ∈ Bundle.ownAtoms own ic cls names, w.before args s' = true := vx_own hat' (vx_isRefq hU'.1) (vx_isRefq hN'.1) hU'.2.word hN'.2.word
  have hown' : s'.vm.findClass own = some m.cls := by rw [hvm]; exact hown
  have hins : (Cond.instantiable cls 6).before args s' = true := h _ (by simp [Bundle.ownAtoms])
  obtain ⟨vm₁, cX, kX, hfX, hkX, -, -, X₁, st1⟩ := Y.newCold hexec (own := own) (C := cls) (index := ik) (n := 6) hown' hk' hins hini'
    (g := F0 m pc ls rest) rfl (by rw [hb]; exact d0) (Nat.le_refl _) (Nat.le_refl _)
  generalize hT1 : (T.setVm vm₁).pushCell { cls := cX, slots := kX.instanceTypes.map defaultValue, vm := .none } = T1 at X₁ st1
  have hcat : (Value.ref T.heap.size).category = 1 := rfl
  have hcellA : T1.heap[T.heap.size]? = some (freshCell cX kX) := by rw [← hT1]; exact State.heap_pushCell_size _ _
  have d3' : decode c.code (pc + 3) = .ok (.dup, 1) := by rw [hb]; exact d3
  have d4' : decode c.code (pc + 4) = .ok (.ldc_w is, 3) := by rw [hb]; exact d4
  have hstr' : vk_R own is text sa s' := vk_R.warm hW0 hstr
  obtain ⟨U, hsteps, hrun, hend, hW, hsame, ce, hce, hO⟩ := X₁.ctorThrowS hexec htr (own := own) (cls := cls) (names := names) (ic := ic) hown' hcls hnames h (fun x hx => nomatch hx) hfX hkX hcellA (by rw [hhp, hT]; exact Nat.le_refl _) (msg := .ref sa) rfl
    (g := { method := m, pc := pc + 7, locals := ls, stack := .ref sa :: .ref T.heap.size :: .ref T.heap.size :: rest, locked := none }) rfl hsize rfl rfl (rest := rest) rfl
    (by rw [hb]; exact d7) (by rw [hb]; exact d10) hout hRframes (by simp only [List.map_cons, List.sum_cons, hcat]; omega) hlocks
  obtain ⟨f1, f2⟩ := vx_frame hsame
  rw [hhp] at f1 f2
  have hWs : s.WarmedH U.vm := State.WarmedH.trans hW0 hW
  have hcl : s.vm.findClass cls = some ce.cls := by
    have h9 := hO.cls
    rw [hvm] at h9
    exact h9
  have hall : s.sameButNew ({ U with vm := s.vm } : State) locs mc ms := by
    subst hA
    obtain ⟨e1, e2⟩ := hsame
    rw [State.setFrames_setFrames] at e1
    have h2 : (T.setVm s.vm).sameButNew ({ U with vm := s.vm } : State) [] (0 + 1) (0 + 6) := ⟨e1, e2⟩
    have h3 := X.same.trans h2
    rw [List.append_nil] at h3
    exact h3.mono hc hs
  refine ⟨U, ?_, .threw T.heap.size, hrun, hend, Or.inr ⟨T.heap.size, rfl, cls, ce, locs, hx U hWs.alike f1 (fun q hq => f2 q hq (fun z hz => nomatch hz)), hce, hO.vm, hcl, hWs, hall, hf⟩⟩
  refine st1 _ ?_
  show Steps p.tables e below (T1.setTop { method := m, pc := pc + 3, locals := ls, stack := .ref T.heap.size :: rest, locked := none }) _
  jvm_step X₁.here [X₁.here.top, hexec, d3', Value.category]
  exact X₁.ldcStringW hexec (own := own) (text := text) (index := is) (a := sa) hown' hstr'.1 hstr'.2
    (g := { method := m, pc := pc + 4, locals := ls, stack := .ref T.heap.size :: .ref T.heap.size :: rest, locked := none }) rfl d4' _ hsteps
end Ends
section Bodies
variable {l : Launch}
theorem vx_ofW {y : MethodName} {ws ws' : List Cond} {rm : Room} {Pc : Array Value → State → Prop} {Qc : Array Value → State → Outcome → State → Prop} {XC : String → State → State → Prop} {mc ms : Nat} {free : Addr → Prop} {cc : ByteArray} {maxL : Nat} {ret : Option FieldType}
    (hy : plainName y.cls = true) (hw : ws = Cond.code y cc maxL ret :: ws')
    (body : ∀ p e s m args below meth c s₁, BodyLoose p l y (headSpec ws rm) cc maxL ret e s m args below meth c s₁ → c.maxLocals = maxL → (∀ x ∈ c.exceptionTable.toList, False) → Pc args s →
      W p l e (headSpec ws rm).room s m args below meth c s.heap [] 0 0 (vx_MQ below Qc XC args s mc ms free) (entryFrame m args maxL)) : vx_Met l y ws rm Pc Qc XC mc ms free := by
  refine MetFree.of_bodyS (code := cc) (maxLocals := maxL) (ret := ret) hy ?_ ?_
  · intro args s m h hn
    obtain ⟨meth, c, h1, h2, h3, h4, h5, h6, -, -⟩ := Cond.code_spec hn (atoms_spec (ws := ws) h _ (by rw [hw]; exact List.mem_cons_self))
    exact ⟨meth, c, h1, h2, h3, h4, h5, h6⟩
  · intro p e s m args below meth c s₁ B hml hP _
    have hh0 : s₁.heap = s.heap := by rw [B.state]; rfl
    have ht : ∀ x ∈ c.exceptionTable.toList, False := by
      obtain ⟨meth9, c9, h1, h2, -, -, -, -, h7, -⟩ := Cond.code_spec B.named (atoms_spec (ws := ws) B.pre _ (by rw [hw]; exact List.mem_cons_self))
      cases Option.some.inj (h1.symm.trans B.method)
      cases Option.some.inj (h2.symm.trans (Stand.of_body B).code)
      intro x hx
      rw [Array.isEmpty_iff.mp h7] at hx
      cases hx
    obtain ⟨t, a1, o, b1, b2, b3⟩ := body p e s m args below meth c s₁ B hml ht hP s₁ hh0 (Stand.of_body B)
    exact ⟨t, o, a1, b1, b2, b3⟩
/-- the table of a body with handlers -/
theorem vx_table {p : Program} {x y : MethodName} {S : Spec} {cc bytes : ByteArray} {maxL maxL' : Nat} {ret ret' : Option FieldType} {e : Env} {s s₁ : State} {m : MethodId} {args : Array Value} {below : List Frame} {meth : Method} {c : Code} {hh : List (Nat × Nat × Nat × Nat)}
    (B : BodyLoose p l y S cc maxL ret e s m args below meth c s₁) (h : (Cond.codeWith y bytes maxL' ret' hh).before args s = true) : c.exceptionTable.toList = tableOf hh := by
  obtain ⟨m9, meth9, c9, hn9, h1, h2, -, -, h6, -⟩ := Cond.codeWith_spec h
  cases Option.some.inj (hn9.symm.trans B.named)
  cases Option.some.inj (h1.symm.trans B.method)
  cases Option.some.inj (h2.symm.trans (Stand.of_body B).code)
  rw [← h6, table_eq]
end Bodies
end VXA
/-! ===== END ===== -/
/-! ===== BEGIN a static call of a method with an exception table ===== -/
section VXS
variable {p : Program} {l : Launch} {e : Env} {R : Room} {s : State} {m : MethodId} {args : Array Value} {below : List Frame} {meth : Method} {c : Code} {T : State} {H : Heap} {locs : List Loc} {cells slots : Nat}
abbrev vx_CSW (R : Room) (s : State) (args : Array Value) (own : String) (index : Nat) (y : MethodName) (bytes : ByteArray) (maxL : Nat) (ret : Option FieldType) (hh : List (Nat × Nat × Nat × Nat)) (ws : List Cond) (rm : Room) (mc ms n : Nat) : Prop :=
  (rm.cells = mc ∧ rm.slots = ms ∧ rm.frames + 1 ≤ R.frames ∧ 8 + (maxL + 11) + rm.locals ≤ R.locals ∧ (∀ w ∈ ws, ∀ (a' : Array Value) (U : State), s.WarmedH U.vm → w.before a' U = true) ∧ Cond.codeWith y bytes maxL ret hh ∈ ws) ∧
  (Cond.codeWith y bytes maxL ret hh).before args s = true ∧ (Cond.initialized y.cls).before args s = true ∧ (y.cls ≠ "java/lang/invoke/MethodHandle" ∧ y.cls ≠ "java/lang/invoke/VarHandle") ∧
  (∀ sig, parseMethodDescriptor y.desc = some sig → n = sig.parameters.length) ∧ (Cond.methodLink own index y).before args s = true ∧ (Cond.static y).before args s = true
theorem vx_cwSW {own : String} {index maxL mc ms : Nat} {y : MethodName} {bytes : ByteArray} {ret : Option FieldType} {hh : List (Nat × Nat × Nat × Nat)} {Ts ws ws' : List Cond} {rm : Room} (n : Nat) (ht : ∀ w ∈ Ts, w.before args s = true) (hT : GoodIn Ts (va_wsS own index y ws)) (hw : ws = Cond.codeWith y bytes maxL ret hh :: ws') (hrc : rm.cells = mc) (hrs : rm.slots = ms)
    (hd : y.cls ≠ "java/lang/invoke/MethodHandle" ∧ y.cls ≠ "java/lang/invoke/VarHandle" ∧ (parseMethodDescriptor y.desc).map (fun d => d.parameters.length) = some n) (hR : rm.frames + 1 ≤ R.frames ∧ 8 + (maxL + 11) + rm.locals ≤ R.locals) :
    vx_CSW R s args own index y bytes maxL ret hh ws rm mc ms n := by
  have ok : ∀ w ∈ va_wsS own index y ws, w.before args s = true := fun w h => ht w (hT w h).1
  have hG : GoodIn Ts ws := fun w h => hT w (by unfold va_wsS; exact List.mem_append_right _ h)
  have hc : Cond.codeWith y bytes maxL ret hh ∈ ws := by rw [hw]; exact List.mem_cons_self
  refine ⟨⟨hrc, hrs, hR.1, hR.2, pay_in ht hG, hc⟩, ht _ (hG _ hc).1, ok _ (by simp [va_wsS]), ⟨hd.1, hd.2.1⟩, fun sig h => ?_, ok _ (by simp [va_wsS]), ok _ (by simp [va_wsS])⟩
  have h2 := hd.2.2
  rw [h] at h2
  exact (Option.some.inj h2).symm
theorem vx_callSW (X : Stand p l e R s m args below meth c T locs cells slots) (hexec : p.tables.exec = Jvm.exec) {own : String} {index : Nat} {y : MethodName} {bytes : ByteArray} {maxL : Nat} {ret : Option FieldType} {hh : List (Nat × Nat × Nat × Nat)}
    (hown : s.vm.findClass own = some m.cls) (hlink : (Cond.methodLink own index y).before args s = true) (hstat : (Cond.static y).before args s = true) (hinit : (Cond.initialized y.cls).before args s = true)
    (hcode : (Cond.codeWith y bytes maxL ret hh).before args s = true) (hy : y.cls ≠ "java/lang/invoke/MethodHandle" ∧ y.cls ≠ "java/lang/invoke/VarHandle")
    {W9 : Nat} {Pre : Pt → Array Value → Prop} {Post : Pt → Array Value → Option Value → Pt → Prop} (hK : Back l R p e below s args y 3 W9 Pre Post)
    {g : JFrame} (hg : g.method = m) (hsize : g.locals.size = c.maxLocals) {argsL rest : List Value} (hlen : ∀ sig, parseMethodDescriptor y.desc = some sig → argsL.length = sig.parameters.length)
    (hstack : g.stack = argsL.reverse ++ rest) (hW : 2 * g.monitorRoom + (rest.map fun v => v.category).sum ≤ W9) (hdg : decode c.code g.pc = .ok (.invokestatic index, 3))
    (hpre : ∀ vm₁, s.WarmedH vm₁ → Pre ⟨T.setVm vm₁, locs, cells, slots⟩ argsL.toArray) :
    ∃ (v : Option Value) (vm₁ : Vm) (B : Pt), s.WarmedH vm₁ ∧ Stand p l e R s m args below meth c B.U B.locs B.cells B.slots ∧ Post ⟨T.setVm vm₁, locs, cells, slots⟩ argsL.toArray v B ∧
      ∀ target, Steps p.tables e below (B.U.setTop { g with pc := g.pc + 3, stack := v.toList ++ rest }) target → Steps p.tables e below (T.setTop g) target := by
  obtain ⟨mk, methM, cM, hnamed, hmethM, -, -, -, -, -, -, hsigM⟩ := Cond.codeWith_spec hcode
  have hstatic : methM.isStatic = true := Cond.static_spec hnamed hmethM hstat
  obtain ⟨kP, hkP, -⟩ := className_of_methodNamed hnamed
  have hinitP : kP.init = .initialized := Cond.initialized_spec (findClass_of_methodNamed hnamed) hkP hinit
  obtain ⟨vm₁, X₁, hstep₁⟩ := X.invokestatic hexec hown hlink hnamed hmethM hstatic hkP hinitP hy (g := g) hg (argsL := argsL) (rest := rest) (hlen _ hsigM) hstack hdg
  obtain ⟨v, B, X', hpost, hsteps⟩ := hK m meth c ⟨T.setVm vm₁, locs, cells, slots⟩ { g with stack := rest } (.invokestatic index) mk argsL.toArray X₁ hg hsize hdg hW (X₁.named hnamed) (hpre vm₁ X₁.warmed)
  exact ⟨v, vm₁, B, X₁.warmed, X', hpost, fun target h => hstep₁ _ fun acts => by rw [doInvoke_state]; exact hsteps.trans h⟩
theorem vx_runSW {y : MethodName} {bytes cc : ByteArray} {maxL nL mc ms n index : Nat} {ret : Option FieldType} {hh : List (Nat × Nat × Nat × Nat)} {ws : List Cond} {rm : Room} {Pc : Array Value → State → Prop} {Qc : Array Value → State → Outcome → State → Prop} {free : Addr → Prop} {Ts : List Cond} {own : String} {As rest : List Value} {g : JFrame}
    (S : CallFix p m c cc nL s args Ts own) (hM : Met l y ws rm Pc Qc mc ms free) (cw : vx_CSW R s args own index y bytes maxL ret hh ws rm mc ms n) (hp : PreS s H Pc As)
    (hg : g.method = m) (hn : As.length = n) (hsize : g.locals.size = nL) (hstack : g.stack = As.reverse ++ rest) (hW : 2 * g.monitorRoom + (rest.map fun v => v.category).sum ≤ 8) (hdg : decode cc g.pc = .ok (.invokestatic index, 3)) (hf : cells + mc ≤ R.cells ∧ slots + ms ≤ R.slots) :
    va_Run p l e R s m args below meth c H locs cells slots mc ms g rest (Qc As.toArray) (free) := by
  obtain ⟨⟨hrc, hrs, hfr, hlo, hws, hcw⟩, hcode, hini, hy, hlen, hl, hstt⟩ := cw
  have hK : Back l R p e below s args y 3 8 (PreOf R mc ms Pc) (PostOf Qc mc ms free) := va_backW (hh := hh) (bytes := bytes) (maxL := maxL) (ret := ret) hM hp.1 hrc hrs hfr hlo hws hcw (fun a' U hW => word_at hW (Or.inl (by first | rfl | simp [Cond.onTables, Cond.keeps, Cond.steady])) hini)
  obtain ⟨hx, hb, hml, ho, -⟩ := S
  intro T hT X
  obtain ⟨v, vm₁, ⟨U', l2, c2, s2⟩, hW₁, X', ⟨g', mk, t, L, e1, e2, hq, h1, hL, h2, h3⟩, st⟩ := vx_callSW X hx (hh := hh) (bytes := bytes) (maxL := maxL) (ret := ret) ho hl hstt hini hcode hy hK hg (hsize.trans hml.symm) (argsL := As) (rest := rest) (fun sig h => hn.trans (hlen sig h)) hstack hW (by rw [hb]; exact hdg)
    (fun vm₁ hW₁ => ⟨hf.1, hf.2, hp.2 (T.setVm vm₁) hT hW₁⟩)
  dsimp only [Pt.U, Pt.locs, Pt.cells, Pt.slots] at X' e1 e2 h1 h2 h3 st
  subst h1; subst h2; subst h3
  exact ⟨v, (T.setVm vm₁).calling g' mk As.toArray, t, U', L, hT, X', hL, e1, e2, hq, st⟩
/-- not caught here, past rows that name other classes: it goes on to the caller -/
theorem vx_outP {p : Program} {l : Launch} {e : Env} {R : Room} {s : State} {m : MethodId} {args : Array Value} {below : List Frame} {meth : Method} {c : Code} {H : Heap} {locs : List Loc} {cells slots : Nat} {free : Addr → Prop} {ls : Array Slot} {rest : List Value} {Qc : Array Value → State → Outcome → State → Prop} {XC : String → State → State → Prop}
    {pc : Nat} {own E : String} {ce : Cell} {q : Addr} {mc ms : Nat} (hown : s.vm.findClass own = some m.cls) (hlocks : meth.locks = false)
    (hpass : ∀ z ∈ c.exceptionTable.toList, covers z pc = false ∨ (z.catchType ≠ 0 ∧ ∃ nm : String, (Cond.classLink own z.catchType nm).before args s = true ∧ va_Nc E nm s)) (hcell : H[q]? = some ce) (hv : ce.vm = .none) (hcl : s.vm.findClass E = some ce.cls)
    (hx : ∀ t : State, t.heap = H → s.vm.Alike t.vm → XC E s t) (hf : ∀ z ∈ locs, free z.base) (hc : cells ≤ mc) (hs : slots ≤ ms) :
    vx_W p l e R s m args below meth c H locs cells slots (vx_MQ below Qc XC args s mc ms free) (F0 m pc ls rest) q := by
  intro T hT X
  have hpl : e.platform.magicAccessors = ({} : Platform).magicAccessors := by rw [X.admits.platform]
  obtain ⟨vm', hW', X', st⟩ := X.outThrough hlocks q (g := F0 m pc ls rest) rfl rfl rfl (cell := ce) (by rw [hT]; exact hcell) (by rw [hv]; rfl)
    (by obtain ⟨k9, h9, -⟩ := Vm.findClass_spec hcl; exact ⟨k9, h9⟩) (fun z hz => by
      rcases hpass z hz with h | ⟨hz0, nm, hl1, hn1⟩
      · exact Or.inl h
      · obtain ⟨c6, hc6, hcl6⟩ := Cond.classLink_spec hown hl1 e.platform hpl
        obtain ⟨a8, b8, h1, h2, h3⟩ := hn1
        cases Option.some.inj (h1.symm.trans hcl)
        cases Option.some.inj (h2.symm.trans hc6)
        exact Or.inr ⟨hz0, _, hcl6, h3⟩)
  obtain ⟨g₀, hfr⟩ := X'.frames_eq
  have hcell9 : ((T.setVm vm').setFrames (.throwing q :: below)).heap[q]? = some ce := by
    show T.heap[q]? = some ce
    rw [hT]; exact hcell
  have hend : Ended ((T.setVm vm').setFrames (.throwing q :: below)) below (.threw q) := State.frames_setFrames _ (State.cur_lt_of_frames hfr)
  refine ⟨(T.setVm vm').setFrames (.throwing q :: below), ?_, .threw q, X'.here.running, hend, Or.inr ⟨q, rfl, E, ce, locs, hx _ hT (X'.ends _).1.alike, hcell9, hv, hcl, (X'.ends _).1, (X'.ends _).2.mono hc hs, hf⟩⟩
  rw [X.pushThrowing_eq]
  exact st
/-- a thing of a world lies in the heap -/
theorem vx_lt {D : va_G} {cl : List vw_C} {ws : va_W} {H1 : Heap} (h : va_P D cl ws H1) {k : Nat} {q : Nat × va_E} (hk : ws[k]? = some q) : q.1 < H1.size := (h k q hk).lt
end VXS
/-! ===== END ===== -/
/-! ===== BEGIN methods with a table of their own: called by a name, returning or throwing ===== -/
section VXH
/-! vx_backW, vx_callVX, vx_callSX, vx_callVW, vx_runVW, vx_runVX, vx_runSX, vx_ofWH follow the same proofs as their sisters above (Free/Laws.lean, Shelf42/LK1.lean); vx_outP calls Shelf42/NT130.lean (outThrough). -/
section
variable {l : Launch} {R : Room} {p : Program} {e : Env} {below : List Frame} {s : State} {sargs : Array Value} {y : MethodName} {len W9 : Nat}
theorem vx_backW {ws : List Cond} {rm : Room} {Pc : Array Value → State → Prop} {Qc : Array Value → State → Outcome → State → Prop} {XC : String → State → State → Prop} {mc ms : Nat} {free : Addr → Prop} {bytes : ByteArray} {maxL : Nat} {ret : Option FieldType} {hh : List (Nat × Nat × Nat × Nat)}
    (hM : vx_Met l y ws rm Pc Qc XC mc ms free) (hblind : FrameBlind Pc) (hrc : rm.cells = mc) (hrs : rm.slots = ms)
    (hframes : rm.frames + 1 ≤ R.frames) (hlocals : W9 + (maxL + 11) + rm.locals ≤ R.locals)
    (hws : ∀ w ∈ ws, ∀ a' U, s.WarmedH U.vm → w.before a' U = true) (hcode : Cond.codeWith y bytes maxL ret hh ∈ ws) (hinit : ∀ a' U, s.WarmedH U.vm → (Cond.initialized y.cls).before a' U = true) :
    vx_Back l R p e below s sargs y len W9 (PreOf R mc ms Pc) (PostOf Qc mc ms free) (vx_Post XC mc ms free) := by
  intro m meth c A g ig mk a X hg hsize hdg hW hn hp
  have h1 : (headSpec ws rm).pre.before a A.U = true := atoms_intro fun w hw => hws w hw _ _ X.warmed
  have h2 : (Cond.codeWith y bytes maxL ret hh).before a A.U = true := hws _ hcode _ _ X.warmed
  have h3 : (Cond.initialized y.cls).before a A.U = true := hinit _ _ X.warmed
  have h4 : A.cells + (headSpec ws rm).room.cells ≤ R.cells := by rw [show (headSpec ws rm).room.cells = mc from hrc]; exact hp.1
  have h5 : A.slots + (headSpec ws rm).room.slots ≤ R.slots := by rw [show (headSpec ws rm).room.slots = ms from hrs]; exact hp.2.1
  have hPc : Pc a (A.U.calling g mk a) := hblind _ _ _ _ hp.2.2
  obtain ⟨U, Ls, c0, s0⟩ := A
  dsimp only [Pt.U, Pt.locs, Pt.cells, Pt.slots] at h1 h2 h3 h4 h5 X hn hPc ⊢
  obtain ⟨m9, methY, cY, hn9, hmY, hcY, -, hlY, -⟩ := Cond.codeWith_spec h2
  cases Option.some.inj (hn9.symm.trans hn)
  obtain ⟨kY, hkY, -⟩ := className_of_methodNamed hn
  have hinitY : kY.init = .initialized := Cond.initialized_spec (findClass_of_methodNamed hn) hkY h3
  have h : At U g.method c below := by rw [hg]; exact X.here
  have hlocals9 : W9 + (maxL + 11) + (headSpec ws rm).room.locals ≤ R.locals := hlocals
  have happ : (headSpec ws rm).appliesLoose y e.platform (U.calling g mk a) = true :=
    Spec.appliesLoose_calling (g := g) h hdg hn hkY hinitY
      (X.room_calling (g := g) (R' := (headSpec ws rm).room) hsize hmY hcY hframes (by rw [hlY]; omega) h4 h5) h1
  obtain ⟨mid, hmid⟩ := h.above
  have hfr : (U.setTop g).frames = (.java g :: mid) ++ below := by rw [State.frames_setTop' g h.top, hmid]; rfl
  obtain ⟨o, s₂, hsteps, -, hend, hq⟩ := Steps.callFree hM p X.admits X.cas X.clock (acts := []) hfr happ hPc trivial
  have hq' : vx_Q Qc XC mc ms free a (U.calling g mk a) o s₂ := hq
  rw [State.frames_setTop' g h.top] at hend
  obtain ⟨g₀, hg0⟩ := Option.isSome_iff_exists.mp h.top
  obtain ⟨r, hr⟩ := State.topJava?_eq_some.mp hg0
  have hr' : (({ U with heap := s₂.heap, slotsUsed := s₂.slotsUsed } : State).setVm s₂.vm).frames = .java g₀ :: r := hr
  rcases hq' with ⟨hqc, L, hfe, hL⟩ | ⟨q, rfl, E, ce, L, hx, hce, hcv, hcl, hW₂, hsm, hL⟩
  · obtain ⟨⟨v, rfl⟩, hW₂, e2, q2, q3, q4, q5, q6⟩ := id hfe
    have e3 : s₂ = ({ (U.calling g mk a).setFrames s₂.frames with heap := s₂.heap, slotsUsed := s₂.slotsUsed } : State).setVm s₂.vm := by
      have : s₂ = ({ s₂ with vm := (U.calling g mk a).vm } : State).setVm s₂.vm := rfl
      rw [e2] at this
      exact this
    obtain ⟨c₂, i₂, len₂, hc₂, hd₂, hf₂⟩ := hend
    have hW' : U.WarmedH s₂.vm := hW₂
    have hcc : c₂ = c := by
      have h1 : s₂.code? g.method = U.code? g.method := by
        rw [State.code?_eq, State.code?_eq, hW'.alike.method?]
      exact Option.some.inj (hc₂.symm.trans (h1.trans h.code))
    subst hcc
    have hlen : len₂ = len := by rw [hdg] at hd₂; cases hd₂; rfl
    subst hlen
    have hs₂ : s₂ = (({ U with heap := s₂.heap, slotsUsed := s₂.slotsUsed } : State).setVm s₂.vm).setTop { g with pc := g.pc + len₂, stack := v.toList ++ g.stack } := by
      refine e3.trans ?_
      rw [hf₂, State.calling_eq h.top, State.setFrames_setFrames, State.setTop_of_frames _ hr', hr]
      rfl
    have hsame : U.sameButNew ({ U with heap := s₂.heap, slotsUsed := s₂.slotsUsed } : State) L mc ms := by
      refine ⟨?_, q2, q3, q4, q5, q6⟩
      obtain ⟨t, ht, -⟩ := State.frames_cons hr
      show ({ U with heap := s₂.heap, slotsUsed := s₂.slotsUsed } : State) = { U.setFrames U.frames with heap := s₂.heap, slotsUsed := s₂.slotsUsed }
      rw [State.setFrames_self ht]
    subst hg
    refine Or.inl ⟨v, ⟨(({ U with heap := s₂.heap, slotsUsed := s₂.slotsUsed } : State).setVm s₂.vm), Ls ++ L, c0 + mc, s0 + ms⟩,
      ⟨X.admits, X.cas, X.clock, X.frames, X.room, X.hears, X.method, X.code, (X.here.setHeapUsed s₂.heap s₂.slotsUsed).setVm hW'.alike, X.tail, State.WarmedH.trans X.warmed hW', X.limits, X.bytes, X.same.trans (hsame.setVm s.vm)⟩,
      ⟨g, mk, s₂, L, rfl, rfl, hqc, rfl, hL, rfl, rfl⟩, ?_⟩
    show Steps p.tables e below _ ((({ U with heap := s₂.heap, slotsUsed := s₂.slotsUsed } : State).setVm s₂.vm).setTop { g with pc := g.pc + len₂, stack := v.toList ++ g.stack })
    rw [← hs₂]
    exact hsteps
  · obtain ⟨e2, q2, q3, q4, q5, q6⟩ := id hsm
    have e3 : s₂ = ({ (U.calling g mk a).setFrames s₂.frames with heap := s₂.heap, slotsUsed := s₂.slotsUsed } : State).setVm s₂.vm := by
      have : s₂ = ({ s₂ with vm := (U.calling g mk a).vm } : State).setVm s₂.vm := rfl
      rw [e2] at this
      exact this
    have hf₂ : s₂.frames = .throwing q :: .java g :: U.frames.tail := hend
    have hW' : U.WarmedH s₂.vm := hW₂
    have hs₂ : s₂ = ((({ U with heap := s₂.heap, slotsUsed := s₂.slotsUsed } : State).setVm s₂.vm).setTop g).pushFrame (.throwing q) := by
      refine e3.trans ?_
      rw [hf₂, State.calling_eq h.top, State.setFrames_setFrames, State.pushFrame, State.frames_setTop _ hr', State.setTop_of_frames _ hr', State.setFrames_setFrames, hr]
      rfl
    have hsame : U.sameButNew ({ U with heap := s₂.heap, slotsUsed := s₂.slotsUsed } : State) L mc ms := by
      refine ⟨?_, q2, q3, q4, q5, q6⟩
      obtain ⟨t, ht, -⟩ := State.frames_cons hr
      show ({ U with heap := s₂.heap, slotsUsed := s₂.slotsUsed } : State) = { U.setFrames U.frames with heap := s₂.heap, slotsUsed := s₂.slotsUsed }
      rw [State.setFrames_self ht]
    subst hg
    refine Or.inr ⟨q, ⟨(({ U with heap := s₂.heap, slotsUsed := s₂.slotsUsed } : State).setVm s₂.vm), Ls ++ L, c0 + mc, s0 + ms⟩,
      ⟨X.admits, X.cas, X.clock, X.frames, X.room, X.hears, X.method, X.code, (X.here.setHeapUsed s₂.heap s₂.slotsUsed).setVm hW'.alike, X.tail, State.WarmedH.trans X.warmed hW', X.limits, X.bytes, X.same.trans (hsame.setVm s.vm)⟩,
      ⟨g, mk, s₂, L, E, ce, rfl, rfl, hx, hce, hcv, hcl, rfl, hL, rfl, rfl⟩, ?_⟩
    show Steps p.tables e below _ (((({ U with heap := s₂.heap, slotsUsed := s₂.slotsUsed } : State).setVm s₂.vm).setTop g).pushFrame (.throwing q))
    rw [← hs₂]
    exact hsteps
end
variable {p : Program} {l : Launch} {e : Env} {R : Room} {s : State} {m : MethodId} {args : Array Value} {below : List Frame} {meth : Method} {c : Code} {T : State} {H : Heap} {locs : List Loc} {cells slots : Nat}
theorem vx_callVX (X : Stand p l e R s m args below meth c T locs cells slots) (hexec : p.tables.exec = Jvm.exec) {own C : String} {index : Nat} {y : MethodName} {bytes : ByteArray} {maxL : Nat} {ret : Option FieldType} {hh : List (Nat × Nat × Nat × Nat)}
    (hown : s.vm.findClass own = some m.cls) (hlink : (Cond.methodLink own index y).before args s = true) (hinst : (Cond.instanceMethod y).before args s = true) (hsel : (Cond.selects C y y).before args s = true)
    (hcode : (Cond.codeWith y bytes maxL ret hh).before args s = true) (hy : y.cls ≠ "java/lang/invoke/MethodHandle" ∧ y.cls ≠ "java/lang/invoke/VarHandle")
    {W9 : Nat} {Pre : Pt → Array Value → Prop} {Post : Pt → Array Value → Option Value → Pt → Prop} {PostX : Pt → Array Value → Addr → Pt → Prop} (hK : vx_Back l R p e below s args y 3 W9 Pre Post PostX)
    {b : Addr} {cellB : Cell} (hcell : T.heap[b]? = some cellB) (hobj : cellB.vm.isStatics = false) (hcls : s.vm.findClass C = some cellB.cls)
    {g : JFrame} (hg : g.method = m) (hsize : g.locals.size = c.maxLocals) {argsL rest : List Value} (hlen : ∀ sig, parseMethodDescriptor y.desc = some sig → argsL.length = sig.parameters.length)
    (hstack : g.stack = argsL.reverse ++ .ref b :: rest) (hW : 2 * g.monitorRoom + (rest.map fun v => v.category).sum ≤ W9) (hdg : decode c.code g.pc = .ok (.invokevirtual index, 3))
    (hpre : ∀ vm₁, s.WarmedH vm₁ → Pre ⟨T.setVm vm₁, locs, cells, slots⟩ (Value.ref b :: argsL).toArray) :
    (∃ (v : Option Value) (vm₁ : Vm) (B : Pt), s.WarmedH vm₁ ∧ Stand p l e R s m args below meth c B.U B.locs B.cells B.slots ∧ Post ⟨T.setVm vm₁, locs, cells, slots⟩ (Value.ref b :: argsL).toArray v B ∧
      ∀ target, Steps p.tables e below (B.U.setTop { g with pc := g.pc + 3, stack := v.toList ++ rest }) target → Steps p.tables e below (T.setTop g) target) ∨
    (∃ (q : Addr) (vm₁ : Vm) (B : Pt), s.WarmedH vm₁ ∧ Stand p l e R s m args below meth c B.U B.locs B.cells B.slots ∧ PostX ⟨T.setVm vm₁, locs, cells, slots⟩ (Value.ref b :: argsL).toArray q B ∧
      Steps p.tables e below (T.setTop g) ((B.U.setTop { g with stack := rest }).pushFrame (.throwing q))) := by
  obtain ⟨mk, methM, hnamed, hmethM, hstM, habM⟩ := Cond.instanceMethod_spec hinst
  obtain ⟨m8, methM', cM, hn8, hmethM', -, -, -, -, -, -, hsigM⟩ := Cond.codeWith_spec hcode
  cases Option.some.inj (hn8.symm.trans hnamed)
  cases hmethM.symm.trans hmethM'
  obtain ⟨c2, r2, m2, q1, q2, q3, q4, kP, hkP, hkPi⟩ := Cond.selects_spec hsel
  cases hcls.symm.trans q1
  cases (State.methodFound?_of_named hnamed hy).symm.trans q2
  cases hnamed.symm.trans q3
  have hselP : selectMethod e.platform s.vm cellB.cls mk = .method mk := by rw [Launch.admits_selectMethod X.admits]; exact q4
  obtain ⟨vm₁, X₁, hstep₁⟩ := X.invokevirtual hexec hown hlink hnamed hmethM hstM hkP hkPi hy (a := b) (cell := cellB) hcell
    (fun z h => by rw [h] at hobj; cases hobj) hselP hmethM habM hkP hkPi (g := g) hg (argsL := argsL) (rest := rest) (hlen _ hsigM) hstack hdg
  rcases hK m meth c ⟨T.setVm vm₁, locs, cells, slots⟩ { g with stack := rest } (.invokevirtual index) mk (Value.ref b :: argsL).toArray X₁ hg hsize hdg hW (X₁.named hnamed) (hpre vm₁ X₁.warmed) with ⟨v, B, X', hpost, hsteps⟩ | ⟨q, B, X', hpost, hsteps⟩
  · exact Or.inl ⟨v, vm₁, B, X₁.warmed, X', hpost, fun target h => hstep₁ _ fun acts => by rw [doInvoke_state]; exact hsteps.trans h⟩
  · exact Or.inr ⟨q, vm₁, B, X₁.warmed, X', hpost, hstep₁ _ fun acts => by rw [doInvoke_state]; exact hsteps⟩
theorem vx_callSX (X : Stand p l e R s m args below meth c T locs cells slots) (hexec : p.tables.exec = Jvm.exec) {own : String} {index : Nat} {y : MethodName} {bytes : ByteArray} {maxL : Nat} {ret : Option FieldType} {hh : List (Nat × Nat × Nat × Nat)}
    (hown : s.vm.findClass own = some m.cls) (hlink : (Cond.methodLink own index y).before args s = true) (hstat : (Cond.static y).before args s = true) (hinit : (Cond.initialized y.cls).before args s = true)
    (hcode : (Cond.codeWith y bytes maxL ret hh).before args s = true) (hy : y.cls ≠ "java/lang/invoke/MethodHandle" ∧ y.cls ≠ "java/lang/invoke/VarHandle")
    {W9 : Nat} {Pre : Pt → Array Value → Prop} {Post : Pt → Array Value → Option Value → Pt → Prop} {PostX : Pt → Array Value → Addr → Pt → Prop} (hK : vx_Back l R p e below s args y 3 W9 Pre Post PostX)
    {g : JFrame} (hg : g.method = m) (hsize : g.locals.size = c.maxLocals) {argsL rest : List Value} (hlen : ∀ sig, parseMethodDescriptor y.desc = some sig → argsL.length = sig.parameters.length)
    (hstack : g.stack = argsL.reverse ++ rest) (hW : 2 * g.monitorRoom + (rest.map fun v => v.category).sum ≤ W9) (hdg : decode c.code g.pc = .ok (.invokestatic index, 3))
    (hpre : ∀ vm₁, s.WarmedH vm₁ → Pre ⟨T.setVm vm₁, locs, cells, slots⟩ argsL.toArray) :
    (∃ (v : Option Value) (vm₁ : Vm) (B : Pt), s.WarmedH vm₁ ∧ Stand p l e R s m args below meth c B.U B.locs B.cells B.slots ∧ Post ⟨T.setVm vm₁, locs, cells, slots⟩ argsL.toArray v B ∧
      ∀ target, Steps p.tables e below (B.U.setTop { g with pc := g.pc + 3, stack := v.toList ++ rest }) target → Steps p.tables e below (T.setTop g) target) ∨
    (∃ (q : Addr) (vm₁ : Vm) (B : Pt), s.WarmedH vm₁ ∧ Stand p l e R s m args below meth c B.U B.locs B.cells B.slots ∧ PostX ⟨T.setVm vm₁, locs, cells, slots⟩ argsL.toArray q B ∧
      Steps p.tables e below (T.setTop g) ((B.U.setTop { g with stack := rest }).pushFrame (.throwing q))) := by
  obtain ⟨mk, methM, cM, hnamed, hmethM, -, -, -, -, -, -, hsigM⟩ := Cond.codeWith_spec hcode
  have hstatic : methM.isStatic = true := Cond.static_spec hnamed hmethM hstat
  obtain ⟨kP, hkP, -⟩ := className_of_methodNamed hnamed
  have hinitP : kP.init = .initialized := Cond.initialized_spec (findClass_of_methodNamed hnamed) hkP hinit
  obtain ⟨vm₁, X₁, hstep₁⟩ := X.invokestatic hexec hown hlink hnamed hmethM hstatic hkP hinitP hy (g := g) hg (argsL := argsL) (rest := rest) (hlen _ hsigM) hstack hdg
  rcases hK m meth c ⟨T.setVm vm₁, locs, cells, slots⟩ { g with stack := rest } (.invokestatic index) mk argsL.toArray X₁ hg hsize hdg hW (X₁.named hnamed) (hpre vm₁ X₁.warmed) with ⟨v, B, X', hpost, hsteps⟩ | ⟨q, B, X', hpost, hsteps⟩
  · exact Or.inl ⟨v, vm₁, B, X₁.warmed, X', hpost, fun target h => hstep₁ _ fun acts => by rw [doInvoke_state]; exact hsteps.trans h⟩
  · exact Or.inr ⟨q, vm₁, B, X₁.warmed, X', hpost, hstep₁ _ fun acts => by rw [doInvoke_state]; exact hsteps⟩
theorem vx_callVW (X : Stand p l e R s m args below meth c T locs cells slots) (hexec : p.tables.exec = Jvm.exec) {own C : String} {index : Nat} {y : MethodName} {bytes : ByteArray} {maxL : Nat} {ret : Option FieldType} {hh : List (Nat × Nat × Nat × Nat)}
    (hown : s.vm.findClass own = some m.cls) (hlink : (Cond.methodLink own index y).before args s = true) (hinst : (Cond.instanceMethod y).before args s = true) (hsel : (Cond.selects C y y).before args s = true)
    (hcode : (Cond.codeWith y bytes maxL ret hh).before args s = true) (hy : y.cls ≠ "java/lang/invoke/MethodHandle" ∧ y.cls ≠ "java/lang/invoke/VarHandle")
    {W9 : Nat} {Pre : Pt → Array Value → Prop} {Post : Pt → Array Value → Option Value → Pt → Prop} (hK : Back l R p e below s args y 3 W9 Pre Post)
    {b : Addr} {cellB : Cell} (hcell : T.heap[b]? = some cellB) (hobj : cellB.vm.isStatics = false) (hcls : s.vm.findClass C = some cellB.cls)
    {g : JFrame} (hg : g.method = m) (hsize : g.locals.size = c.maxLocals) {argsL rest : List Value} (hlen : ∀ sig, parseMethodDescriptor y.desc = some sig → argsL.length = sig.parameters.length)
    (hstack : g.stack = argsL.reverse ++ .ref b :: rest) (hW : 2 * g.monitorRoom + (rest.map fun v => v.category).sum ≤ W9) (hdg : decode c.code g.pc = .ok (.invokevirtual index, 3))
    (hpre : ∀ vm₁, s.WarmedH vm₁ → Pre ⟨T.setVm vm₁, locs, cells, slots⟩ (Value.ref b :: argsL).toArray) :
    ∃ (v : Option Value) (vm₁ : Vm) (B : Pt), s.WarmedH vm₁ ∧ Stand p l e R s m args below meth c B.U B.locs B.cells B.slots ∧ Post ⟨T.setVm vm₁, locs, cells, slots⟩ (Value.ref b :: argsL).toArray v B ∧
      ∀ target, Steps p.tables e below (B.U.setTop { g with pc := g.pc + 3, stack := v.toList ++ rest }) target → Steps p.tables e below (T.setTop g) target := by
  obtain ⟨mk, methM, hnamed, hmethM, hstM, habM⟩ := Cond.instanceMethod_spec hinst
  obtain ⟨m8, methM', cM, hn8, hmethM', -, -, -, -, -, -, hsigM⟩ := Cond.codeWith_spec hcode
  cases Option.some.inj (hn8.symm.trans hnamed)
  cases hmethM.symm.trans hmethM'
  obtain ⟨c2, r2, m2, q1, q2, q3, q4, kP, hkP, hkPi⟩ := Cond.selects_spec hsel
  cases hcls.symm.trans q1
  cases (State.methodFound?_of_named hnamed hy).symm.trans q2
  cases hnamed.symm.trans q3
  have hselP : selectMethod e.platform s.vm cellB.cls mk = .method mk := by rw [Launch.admits_selectMethod X.admits]; exact q4
  obtain ⟨vm₁, X₁, hstep₁⟩ := X.invokevirtual hexec hown hlink hnamed hmethM hstM hkP hkPi hy (a := b) (cell := cellB) hcell
    (fun z h => by rw [h] at hobj; cases hobj) hselP hmethM habM hkP hkPi (g := g) hg (argsL := argsL) (rest := rest) (hlen _ hsigM) hstack hdg
  obtain ⟨v, B, X', hpost, hsteps⟩ := hK m meth c ⟨T.setVm vm₁, locs, cells, slots⟩ { g with stack := rest } (.invokevirtual index) mk (Value.ref b :: argsL).toArray X₁ hg hsize hdg hW (X₁.named hnamed) (hpre vm₁ X₁.warmed)
  exact ⟨v, vm₁, B, X₁.warmed, X', hpost, fun target h => hstep₁ _ fun acts => by rw [doInvoke_state]; exact hsteps.trans h⟩
abbrev vx_CVW (R : Room) (s : State) (args : Array Value) (own C : String) (index : Nat) (y : MethodName) (bytes : ByteArray) (maxL : Nat) (ret : Option FieldType) (hh : List (Nat × Nat × Nat × Nat)) (ws : List Cond) (rm : Room) (mc ms n : Nat) : Prop :=
  (rm.cells = mc ∧ rm.slots = ms ∧ rm.frames + 1 ≤ R.frames ∧ 8 + (maxL + 11) + rm.locals ≤ R.locals ∧ (∀ w ∈ ws, ∀ (a' : Array Value) (U : State), s.WarmedH U.vm → w.before a' U = true) ∧ Cond.codeWith y bytes maxL ret hh ∈ ws) ∧
  (Cond.codeWith y bytes maxL ret hh).before args s = true ∧ (Cond.initialized y.cls).before args s = true ∧ (y.cls ≠ "java/lang/invoke/MethodHandle" ∧ y.cls ≠ "java/lang/invoke/VarHandle") ∧
  (∀ sig, parseMethodDescriptor y.desc = some sig → n = sig.parameters.length) ∧ (Cond.methodLink own index y).before args s = true ∧ (Cond.instanceMethod y).before args s = true ∧ (Cond.selects C y y).before args s = true
theorem vx_cwVW {own C : String} {index maxL mc ms : Nat} {y : MethodName} {bytes : ByteArray} {ret : Option FieldType} {hh : List (Nat × Nat × Nat × Nat)} {Ts ws ws' : List Cond} {rm : Room} (n : Nat) (ht : ∀ w ∈ Ts, w.before args s = true) (hT : GoodIn Ts (wsV own index C y ws)) (hw : ws = Cond.codeWith y bytes maxL ret hh :: ws') (hrc : rm.cells = mc) (hrs : rm.slots = ms)
    (hd : y.cls = C ∧ y.cls ≠ "java/lang/invoke/MethodHandle" ∧ y.cls ≠ "java/lang/invoke/VarHandle" ∧ (parseMethodDescriptor y.desc).map (fun d => d.parameters.length) = some n) (hR : rm.frames + 1 ≤ R.frames ∧ 8 + (maxL + 11) + rm.locals ≤ R.locals) :
    vx_CVW R s args own C index y bytes maxL ret hh ws rm mc ms n := by
  obtain ⟨hC, hd⟩ := hd
  subst hC
  have ok : ∀ w ∈ wsV own index y.cls y ws, w.before args s = true := fun w h => ht w (hT w h).1
  have hG : GoodIn Ts ws := fun w h => hT w (by unfold wsV; exact List.mem_append_right _ h)
  have hc : Cond.codeWith y bytes maxL ret hh ∈ ws := by rw [hw]; exact List.mem_cons_self
  refine ⟨⟨hrc, hrs, hR.1, hR.2, pay_in ht hG, hc⟩, ht _ (hG _ hc).1, ok _ (by simp [wsV]), ⟨hd.1, hd.2.1⟩, fun sig h => ?_, ok _ (by simp [wsV]), ok _ (by simp [wsV]), ok _ (by simp [wsV])⟩
  have h2 := hd.2.2
  rw [h] at h2
  exact (Option.some.inj h2).symm
theorem vx_runVW {y : MethodName} {bytes cc : ByteArray} {maxL nL mc ms n index : Nat} {ret : Option FieldType} {hh : List (Nat × Nat × Nat × Nat)} {ws : List Cond} {rm : Room} {Pc : Array Value → State → Prop} {Qc : Array Value → State → Outcome → State → Prop} {free : Addr → Prop} {Ts : List Cond} {own C : String} {b : Addr} {As rest : List Value} {g : JFrame}
    (S : CallFix p m c cc nL s args Ts own) (hM : Met l y ws rm Pc Qc mc ms free) (cw : vx_CVW R s args own C index y bytes maxL ret hh ws rm mc ms n) (hp : PreV s H C b Pc As)
    (hg : g.method = m) (hn : As.length = n) (hsize : g.locals.size = nL) (hstack : g.stack = As.reverse ++ .ref b :: rest) (hW : 2 * g.monitorRoom + (rest.map fun v => v.category).sum ≤ 8) (hdg : decode cc g.pc = .ok (.invokevirtual index, 3)) (hf : cells + mc ≤ R.cells ∧ slots + ms ≤ R.slots) :
    va_Run p l e R s m args below meth c H locs cells slots mc ms g rest (Qc (Value.ref b :: As).toArray) free := by
  obtain ⟨⟨hrc, hrs, hfr, hlo, hws, hcw⟩, hcode, hini, hy, hlen, hl, hin, hse⟩ := cw
  have hK : Back l R p e below s args y 3 8 (PreOf R mc ms Pc) (PostOf Qc mc ms free) := va_backW (hh := hh) (bytes := bytes) (maxL := maxL) (ret := ret) hM hp.1 hrc hrs hfr hlo hws hcw (fun a' U hW => word_at hW (Or.inl (by first | rfl | simp [Cond.onTables, Cond.keeps, Cond.steady])) hini)
  obtain ⟨hx, hb, hml, ho, -⟩ := S
  obtain ⟨-, ⟨cellB, hcB, hoB, hclB⟩, hPc⟩ := hp
  intro T hT X
  obtain ⟨v, vm₁, ⟨U', l2, c2, s2⟩, hW₁, X', ⟨g', mk, t, L, e1, e2, hq, h1, hL, h2, h3⟩, st⟩ := vx_callVW X hx (C := C) (hh := hh) (bytes := bytes) (maxL := maxL) (ret := ret) ho hl hin hse hcode hy hK (by rw [hT]; exact hcB) hoB hclB hg (hsize.trans hml.symm) (argsL := As) (rest := rest) (fun sig h => hn.trans (hlen sig h)) hstack hW (by rw [hb]; exact hdg)
    (fun vm₁ hW₁ => ⟨hf.1, hf.2, hPc (T.setVm vm₁) hT hW₁⟩)
  dsimp only [Pt.U, Pt.locs, Pt.cells, Pt.slots] at X' e1 e2 h1 h2 h3 st
  subst h1; subst h2; subst h3
  exact ⟨v, (T.setVm vm₁).calling g' mk (Value.ref b :: As).toArray, t, U', L, hT, X', hL, e1, e2, hq, st⟩
section
variable {y : MethodName} {bytes cc : ByteArray} {maxL nL mc ms n index : Nat} {ret : Option FieldType} {ws : List Cond} {rm : Room} {Pc : Array Value → State → Prop} {Qc : Array Value → State → Outcome → State → Prop} {XC : String → State → State → Prop} {free : Addr → Prop} {Ts : List Cond} {own C : String} {b : Addr} {As rest : List Value} {g : JFrame}
theorem vx_runVX {hh : List (Nat × Nat × Nat × Nat)} (S : CallFix p m c cc nL s args Ts own) (hM : vx_Met l y ws rm Pc Qc XC mc ms free) (cw : vx_CVW R s args own C index y bytes maxL ret hh ws rm mc ms n) (hp : PreV s H C b Pc As)
    (hg : g.method = m) (hn : As.length = n) (hsize : g.locals.size = nL) (hstack : g.stack = As.reverse ++ .ref b :: rest) (hW : 2 * g.monitorRoom + (rest.map fun v => v.category).sum ≤ 8) (hdg : decode cc g.pc = .ok (.invokevirtual index, 3)) (hf : cells + mc ≤ R.cells ∧ slots + ms ≤ R.slots) :
    vx_Run p l e R s m args below meth c H locs cells slots mc ms g rest (Qc (Value.ref b :: As).toArray) XC free := by
  obtain ⟨⟨hrc, hrs, hfr, hlo, hws, hcw⟩, hcode, hini, hy, hlen, hl, hin, hse⟩ := cw
  have hK : vx_Back l R p e below s args y 3 8 (PreOf R mc ms Pc) (PostOf Qc mc ms free) (vx_Post XC mc ms free) := vx_backW (hh := hh) (bytes := bytes) (maxL := maxL) (ret := ret) hM hp.1 hrc hrs hfr hlo hws hcw (fun a' U hW => word_at hW (Or.inl (by first | rfl | simp [Cond.onTables, Cond.keeps, Cond.steady])) hini)
  obtain ⟨hx, hb, hml, ho, -⟩ := S
  obtain ⟨-, ⟨cellB, hcB, hoB, hclB⟩, hPc⟩ := hp
  intro T hT X
  rcases vx_callVX X hx (C := C) (hh := hh) (bytes := bytes) (maxL := maxL) (ret := ret) ho hl hin hse hcode hy hK (by rw [hT]; exact hcB) hoB hclB hg (hsize.trans hml.symm) (argsL := As) (rest := rest) (fun sig h => hn.trans (hlen sig h)) hstack hW (by rw [hb]; exact hdg)
    (fun vm₁ hW₁ => ⟨hf.1, hf.2, hPc (T.setVm vm₁) hT hW₁⟩) with ⟨v, vm₁, ⟨U', l2, c2, s2⟩, hW₁, X', ⟨g', mk, t, L, e1, e2, hq, h1, hL, h2, h3⟩, st⟩ | ⟨q, vm₁, ⟨U', l2, c2, s2⟩, hW₁, X', ⟨g', mk, t, L, E, ce, e1, e2, hq, hce, hcv, hcl, h1, hL, h2, h3⟩, st⟩
  · dsimp only [Pt.U, Pt.locs, Pt.cells, Pt.slots] at X' e1 e2 h1 h2 h3 st
    subst h1; subst h2; subst h3
    exact Or.inl ⟨v, (T.setVm vm₁).calling g' mk (Value.ref b :: As).toArray, t, U', L, hT, X', hL, e1, e2, hq, st⟩
  · dsimp only [Pt.U, Pt.locs, Pt.cells, Pt.slots] at X' e1 e2 h1 h2 h3 st hcl
    subst h1; subst h2; subst h3
    exact Or.inr ⟨q, (T.setVm vm₁).calling g' mk (Value.ref b :: As).toArray, t, U', L, E, ce, hT, X', hL, e1, e2, hq, hce, hcv, vx_cls hW₁ hcl, st⟩
theorem vx_runSX {hh : List (Nat × Nat × Nat × Nat)} (S : CallFix p m c cc nL s args Ts own) (hM : vx_Met l y ws rm Pc Qc XC mc ms free) (cw : vx_CSW R s args own index y bytes maxL ret hh ws rm mc ms n) (hp : PreS s H Pc As)
    (hg : g.method = m) (hn : As.length = n) (hsize : g.locals.size = nL) (hstack : g.stack = As.reverse ++ rest) (hW : 2 * g.monitorRoom + (rest.map fun v => v.category).sum ≤ 8) (hdg : decode cc g.pc = .ok (.invokestatic index, 3)) (hf : cells + mc ≤ R.cells ∧ slots + ms ≤ R.slots) :
    vx_Run p l e R s m args below meth c H locs cells slots mc ms g rest (Qc As.toArray) XC free := by
  obtain ⟨⟨hrc, hrs, hfr, hlo, hws, hcw⟩, hcode, hini, hy, hlen, hl, hstt⟩ := cw
  have hK : vx_Back l R p e below s args y 3 8 (PreOf R mc ms Pc) (PostOf Qc mc ms free) (vx_Post XC mc ms free) := vx_backW (hh := hh) (bytes := bytes) (maxL := maxL) (ret := ret) hM hp.1 hrc hrs hfr hlo hws hcw (fun a' U hW => word_at hW (Or.inl (by first | rfl | simp [Cond.onTables, Cond.keeps, Cond.steady])) hini)
  obtain ⟨hx, hb, hml, ho, -⟩ := S
  intro T hT X
  rcases vx_callSX X hx (hh := hh) (bytes := bytes) (maxL := maxL) (ret := ret) ho hl hstt hini hcode hy hK hg (hsize.trans hml.symm) (argsL := As) (rest := rest) (fun sig h => hn.trans (hlen sig h)) hstack hW (by rw [hb]; exact hdg)
    (fun vm₁ hW₁ => ⟨hf.1, hf.2, hp.2 (T.setVm vm₁) hT hW₁⟩) with ⟨v, vm₁, ⟨U', l2, c2, s2⟩, hW₁, X', ⟨g', mk, t, L, e1, e2, hq, h1, hL, h2, h3⟩, st⟩ | ⟨q, vm₁, ⟨U', l2, c2, s2⟩, hW₁, X', ⟨g', mk, t, L, E, ce, e1, e2, hq, hce, hcv, hcl, h1, hL, h2, h3⟩, st⟩
  · dsimp only [Pt.U, Pt.locs, Pt.cells, Pt.slots] at X' e1 e2 h1 h2 h3 st
    subst h1; subst h2; subst h3
    exact Or.inl ⟨v, (T.setVm vm₁).calling g' mk As.toArray, t, U', L, hT, X', hL, e1, e2, hq, st⟩
  · dsimp only [Pt.U, Pt.locs, Pt.cells, Pt.slots] at X' e1 e2 h1 h2 h3 st hcl
    subst h1; subst h2; subst h3
    exact Or.inr ⟨q, (T.setVm vm₁).calling g' mk As.toArray, t, U', L, E, ce, hT, X', hL, e1, e2, hq, hce, hcv, vx_cls hW₁ hcl, st⟩
end
end VXH
theorem vx_ofWH {l : Launch} {y : MethodName} {ws ws' : List Cond} {rm : Room} {Pc : Array Value → State → Prop} {Qc : Array Value → State → Outcome → State → Prop} {XC : String → State → State → Prop} {mc ms : Nat} {free : Addr → Prop} {cc : ByteArray} {maxL : Nat} {ret : Option FieldType} {hh : List (Nat × Nat × Nat × Nat)}
    (hy : plainName y.cls = true) (hw : ws = Cond.codeWith y cc maxL ret hh :: ws')
    (body : ∀ p e s m args below meth c s₁, BodyLoose p l y (headSpec ws rm) cc maxL ret e s m args below meth c s₁ → c.maxLocals = maxL → Pc args s →
      W p l e (headSpec ws rm).room s m args below meth c s.heap [] 0 0 (vx_MQ below Qc XC args s mc ms free) (entryFrame m args maxL)) : vx_Met l y ws rm Pc Qc XC mc ms free := by
  refine MetFree.of_bodyS (code := cc) (maxLocals := maxL) (ret := ret) hy ?_ ?_
  · intro args s m h hn
    obtain ⟨m9, meth, c, hn9, h1, h2, h3, h4, -, h5, h6, -⟩ := Cond.codeWith_spec (atoms_spec (ws := ws) h _ (by rw [hw]; exact List.mem_cons_self))
    cases hn.symm.trans hn9
    exact ⟨meth, c, h1, h2, h3, h4, h5, h6⟩
  · intro p e s m args below meth c s₁ B hml hP _
    have hh0 : s₁.heap = s.heap := by rw [B.state]; rfl
    obtain ⟨t, a1, o, b1, b2, b3⟩ := body p e s m args below meth c s₁ B hml hP s₁ hh0 (Stand.of_body B)
    exact ⟨t, o, a1, b1, b2, b3⟩
/-! ===== END ===== -/
end
section
def RX0 : String := "BreakerOrders$Curve"
def TX0 : u_T := fun k => match k with
  | 0 => ("BreakerOrders$Curve", "place", "[I", true)
  | 1 => ("BreakerOrders$Curve", "least", "[I", true)
  | 2 => ("BreakerOrders$Curve", "most", "[I", true)
  | _ => ("BreakerOrders$Curve", "points", "I", false)
def tyX0 : Nat → FieldType := fun k => match k with
  | 0 => .array .int
  | 1 => .array .int
  | 2 => .array .int
  | _ => .int
theorem nmX0 : ∀ a, a < 4 → ∀ b, b < 4 → a ≠ b → (TX0 a).2.1 ≠ (TX0 b).2.1 := by decide +kernel
theorem tyX0_ok : ∀ k, k < 4 → parseFieldDescriptor (TX0 k).2.2.1 = some (tyX0 k) := by decide +kernel
def RX1 : String := "BreakerOrders$Device"
def TX1 : u_T := fun k => match k with
  | 0 => ("BreakerOrders$Device", "number", "I", true)
  | 1 => ("BreakerOrders$Device", "curve", "LBreakerOrders$Curve;", true)
  | 2 => ("BreakerOrders$Device", "settings", "[LBreakerOrders$Setting;", true)
  | 3 => ("BreakerOrders$Device", "ruledOut", "[Z", true)
  | 4 => ("BreakerOrders$Device", "firstFor", "[I", true)
  | 5 => ("BreakerOrders$Device", "above", "LBreakerOrders$Device;", false)
  | 6 => ("BreakerOrders$Device", "options", "I", false)
  | 7 => ("BreakerOrders$Device", "chosen", "I", false)
  | _ => ("BreakerOrders$Device", "impedance", "I", false)
def tyX1 : Nat → FieldType := fun k => match k with
  | 0 => .int
  | 1 => .object "BreakerOrders$Curve"
  | 2 => .array (.object "BreakerOrders$Setting")
  | 3 => .array .boolean
  | 4 => .array .int
  | 5 => .object "BreakerOrders$Device"
  | 6 => .int
  | 7 => .int
  | _ => .int
theorem nmX1 : ∀ a, a < 9 → ∀ b, b < 9 → a ≠ b → (TX1 a).2.1 ≠ (TX1 b).2.1 := by decide +kernel
theorem tyX1_ok : ∀ k, k < 9 → parseFieldDescriptor (TX1 k).2.2.1 = some (tyX1 k) := by decide +kernel
def RX2 : String := "BreakerOrders$Setting"
def TX2 : u_T := fun k => match k with
  | 0 => ("BreakerOrders$Setting", "curve", "LBreakerOrders$Curve;", true)
  | 1 => ("BreakerOrders$Setting", "scale", "I", false)
  | _ => ("BreakerOrders$Setting", "delay", "I", false)
def tyX2 : Nat → FieldType := fun k => match k with
  | 0 => .object "BreakerOrders$Curve"
  | 1 => .int
  | _ => .int
theorem nmX2 : ∀ a, a < 3 → ∀ b, b < 3 → a ≠ b → (TX2 a).2.1 ≠ (TX2 b).2.1 := by decide +kernel
theorem tyX2_ok : ∀ k, k < 3 → parseFieldDescriptor (TX2 k).2.2.1 = some (tyX2 k) := by decide +kernel
def RX3 : String := "BreakerOrders"
def TX3 : u_T := fun k => match k with
  | 0 => ("BreakerOrders", "devices", "[LBreakerOrders$Device;", true)
  | 1 => ("BreakerOrders", "count", "I", false)
  | _ => ("BreakerOrders", "sourceVoltage", "I", false)
def tyX3 : Nat → FieldType := fun k => match k with
  | 0 => .array (.object "BreakerOrders$Device")
  | 1 => .int
  | _ => .int
theorem nmX3 : ∀ a, a < 3 → ∀ b, b < 3 → a ≠ b → (TX3 a).2.1 ≠ (TX3 b).2.1 := by decide +kernel
theorem tyX3_ok : ∀ k, k < 3 → parseFieldDescriptor (TX3 k).2.2.1 = some (tyX3 k) := by decide +kernel
def RX4 : String := "BreakerOrdersModel"
def TX4 : u_T := fun k => match k with
  | 0 => ("BreakerOrdersModel", "code", "I", false)
  | 1 => ("BreakerOrdersModel", "devices", "I", false)
  | 2 => ("BreakerOrdersModel", "uppers", "[I", true)
  | 3 => ("BreakerOrdersModel", "points", "[I", true)
  | 4 => ("BreakerOrdersModel", "places", "[I", true)
  | 5 => ("BreakerOrdersModel", "leasts", "[I", true)
  | 6 => ("BreakerOrdersModel", "mosts", "[I", true)
  | 7 => ("BreakerOrdersModel", "options", "[I", true)
  | 8 => ("BreakerOrdersModel", "scales", "[I", true)
  | 9 => ("BreakerOrdersModel", "delays", "[I", true)
  | 10 => ("BreakerOrdersModel", "chosen", "[I", true)
  | 11 => ("BreakerOrdersModel", "impedances", "[I", true)
  | 12 => ("BreakerOrdersModel", "voltage", "I", false)
  | 13 => ("BreakerOrdersModel", "above", "J", false)
  | 14 => ("BreakerOrdersModel", "below", "J", false)
  | 15 => ("BreakerOrdersModel", "fits", "[I", true)
  | _ => ("BreakerOrdersModel", "tried", "[I", true)
def tyX4 : Nat → FieldType := fun k => match k with
  | 0 => .int
  | 1 => .int
  | 2 => .array .int
  | 3 => .array .int
  | 4 => .array .int
  | 5 => .array .int
  | 6 => .array .int
  | 7 => .array .int
  | 8 => .array .int
  | 9 => .array .int
  | 10 => .array .int
  | 11 => .array .int
  | 12 => .int
  | 13 => .long
  | 14 => .long
  | 15 => .array .int
  | _ => .array .int
theorem nmX4 : ∀ a, a < 17 → ∀ b, b < 17 → a ≠ b → (TX4 a).2.1 ≠ (TX4 b).2.1 := by decide +kernel
theorem tyX4_ok : ∀ k, k < 17 → parseFieldDescriptor (TX4 k).2.2.1 = some (tyX4 k) := by decide +kernel
def RL : String := "BreakerOrdersLaw"
abbrev vwCl : List vw_C := [(RX0, TX0, 4), (RX1, TX1, 9), (RX2, TX2, 3), (RX3, TX3, 3), (RX4, TX4, 17)]
/-- the words that last, one list for all methods -/
def gAll : List Cond := lw_tbl.filter goodWord
theorem g_mem {w : Cond} (i : Nat) (h : lw_tbl[i]? = some w) (hg : goodWord w = true) : w ∈ gAll := List.mem_filter.mpr ⟨List.mem_of_getElem? h, hg⟩
theorem g_good {w : Cond} (h : w ∈ gAll) : (w.onTables && w.keeps) = true ∨ ∃ ty, w = .arrayClass ty := good_of_word (List.mem_filter.mp h).2
theorem g_tbl {w : Cond} (h : w ∈ gAll) : w ∈ lw_tbl := (List.mem_filter.mp h).1
theorem gd_0 {Ts ws : List Cond} (hT : ∀ w ∈ gAll, w ∈ Ts) (h : ∀ w ∈ ws, w ∈ gAll) : GoodIn Ts ws := fun w hw => ⟨hT w (h w hw), g_good (h w hw)⟩
theorem gd_c {w0 : Cond} : ∀ w ∈ gAll, w ∈ w0 :: gAll := fun _ h => List.mem_cons_of_mem _ h
theorem gd_k {w0 : Cond} (h0 : w0 ∈ gAll) : ∀ w ∈ w0 :: gAll, w ∈ gAll := fun _ h => (List.mem_cons.mp h).elim (fun e => by rw [e]; exact h0) id
theorem gd_V {w0 wc : Cond} {own C : String} {idx : Nat} {y : MethodName} (h1 : Cond.methodLink own idx y ∈ gAll) (h2 : Cond.instanceMethod y ∈ gAll) (h3 : Cond.selects C y y ∈ gAll) (h4 : Cond.initialized C ∈ gAll) (h5 : wc ∈ gAll) : GoodIn (w0 :: gAll) (wsV own idx C y (wc :: gAll)) := gd_0 gd_c (fun w hw => by
  unfold wsV at hw
  rcases List.mem_append.mp hw with h | h
  · simp only [List.mem_cons, List.not_mem_nil, or_false] at h
    rcases h with rfl | rfl | rfl | rfl
    · exact h1
    · exact h2
    · exact h3
    · exact h4
  · exact gd_k h5 w h)
theorem gd_S {w0 wc : Cond} {own : String} {idx : Nat} {y : MethodName} (h1 : Cond.methodLink own idx y ∈ gAll) (h2 : Cond.static y ∈ gAll) (h4 : Cond.initialized own ∈ gAll) (h5 : wc ∈ gAll) : GoodIn (w0 :: gAll) (wsS own idx y (wc :: gAll)) := gd_0 gd_c (fun w hw => by
  unfold wsS at hw
  rcases List.mem_append.mp hw with h | h
  · simp only [List.mem_cons, List.not_mem_nil, or_false] at h
    rcases h with rfl | rfl | rfl
    · exact h1
    · exact h2
    · exact h4
  · exact gd_k h5 w h)
theorem uw_X0 : ∀ w ∈ u_ws RX0 TX0 4, w ∈ gAll := by decide +kernel
theorem uw_X1 : ∀ w ∈ u_ws RX1 TX1 9, w ∈ gAll := by decide +kernel
theorem uw_X2 : ∀ w ∈ u_ws RX2 TX2 3, w ∈ gAll := by decide +kernel
theorem uw_X3 : ∀ w ∈ u_ws RX3 TX3 3, w ∈ gAll := by decide +kernel
theorem uw_X4 : ∀ w ∈ u_ws RX4 TX4 17, w ∈ gAll := by decide +kernel
abbrev cX3_init : ByteArray := prog_1_method_1_code
def yX3_init : MethodName := ⟨RX3, "<init>", "()V"⟩
def wX3_init : Cond := .code yX3_init cX3_init 2 none
def wsX3_init : List Cond := wX3_init :: gAll
set_option maxRecDepth 20000 in
theorem kcX3_init : wX3_init ∈ gAll := g_mem 27 rfl rfl
abbrev cX1_init : ByteArray := prog_3_method_1_code
def yX1_init : MethodName := ⟨RX1, "<init>", "(I)V"⟩
def wX1_init : Cond := .code yX1_init cX1_init 3 none
def wsX1_init : List Cond := wX1_init :: gAll
set_option maxRecDepth 20000 in
theorem kcX1_init : wX1_init ∈ gAll := g_mem 36 rfl rfl
abbrev cX0_init : ByteArray := prog_2_method_1_code
def yX0_init : MethodName := ⟨RX0, "<init>", "()V"⟩
def wX0_init : Cond := .code yX0_init cX0_init 1 none
def wsX0_init : List Cond := wX0_init :: gAll
set_option maxRecDepth 20000 in
theorem kcX0_init : wX0_init ∈ gAll := g_mem 42 rfl rfl
abbrev cX2_init : ByteArray := prog_4_method_1_code
def yX2_init : MethodName := ⟨RX2, "<init>", "(LBreakerOrders$Curve;)V"⟩
def wX2_init : Cond := .code yX2_init cX2_init 2 none
def wsX2_init : List Cond := wX2_init :: gAll
set_option maxRecDepth 20000 in
theorem kcX2_init : wX2_init ∈ gAll := g_mem 69 rfl rfl
abbrev cL_device : ByteArray := method_3_code
def yL_device : MethodName := ⟨RL, "device", "(LBreakerOrders;I[J)I"⟩
def wL_device : Cond := .codeWith yL_device cL_device 4 (some .int) [(0, 9, 12, 13), (0, 9, 15, 15)]
def wsL_device : List Cond := wL_device :: gAll
set_option maxRecDepth 20000 in
theorem kcL_device : wL_device ∈ gAll := g_mem 133 rfl rfl
abbrev cX3_device : ByteArray := prog_1_method_2_code
def yX3_device : MethodName := ⟨RX3, "device", "(I)I"⟩
def wX3_device : Cond := .code yX3_device cX3_device 4 (some .int)
def wsX3_device : List Cond := wX3_device :: gAll
set_option maxRecDepth 20000 in
theorem kcX3_device : wX3_device ∈ gAll := g_mem 139 rfl rfl
abbrev cX3_known : ByteArray := prog_1_method_16_code
def yX3_known : MethodName := ⟨RX3, "known", "(I)LBreakerOrders$Device;"⟩
def wX3_known : Cond := .code yX3_known cX3_known 2 (some (.object "BreakerOrders$Device"))
def wsX3_known : List Cond := wX3_known :: gAll
set_option maxRecDepth 20000 in
theorem kcX3_known : wX3_known ∈ gAll := g_mem 143 rfl rfl
abbrev cL_point : ByteArray := method_4_code
def yL_point : MethodName := ⟨RL, "point", "(LBreakerOrders;IIII[J)I"⟩
def wL_point : Cond := .codeWith yL_point cL_point 7 (some .int) [(0, 14, 17, 13), (0, 14, 21, 15)]
def wsL_point : List Cond := wL_point :: gAll
set_option maxRecDepth 20000 in
theorem kcL_point : wL_point ∈ gAll := g_mem 229 rfl rfl
abbrev cX3_point : ByteArray := prog_1_method_3_code
def yX3_point : MethodName := ⟨RX3, "point", "(IIII)I"⟩
def wX3_point : Cond := .code yX3_point cX3_point 6 (some .int)
def wsX3_point : List Cond := wX3_point :: gAll
set_option maxRecDepth 20000 in
theorem kcX3_point : wX3_point ∈ gAll := g_mem 233 rfl rfl
abbrev cX3_demandWithin : ByteArray := prog_1_method_17_code
def yX3_demandWithin : MethodName := ⟨RX3, "demandWithin", "(III)V"⟩
def wX3_demandWithin : Cond := .code yX3_demandWithin cX3_demandWithin 3 none
def wsX3_demandWithin : List Cond := wX3_demandWithin :: gAll
set_option maxRecDepth 20000 in
theorem kcX3_demandWithin : wX3_demandWithin ∈ gAll := g_mem 236 rfl rfl
abbrev cX0_add : ByteArray := prog_2_method_2_code
def yX0_add : MethodName := ⟨RX0, "add", "(III)V"⟩
def wX0_add : Cond := .code yX0_add cX0_add 4 none
def wsX0_add : List Cond := wX0_add :: gAll
set_option maxRecDepth 20000 in
theorem kcX0_add : wX0_add ∈ gAll := g_mem 244 rfl rfl
abbrev cL_option : ByteArray := method_5_code
def yL_option : MethodName := ⟨RL, "option", "(LBreakerOrders;III[J)I"⟩
def wL_option : Cond := .codeWith yL_option cL_option 6 (some .int) [(0, 12, 15, 13), (0, 12, 19, 15)]
def wsL_option : List Cond := wL_option :: gAll
set_option maxRecDepth 20000 in
theorem kcL_option : wL_option ∈ gAll := g_mem 247 rfl rfl
abbrev cX3_option : ByteArray := prog_1_method_4_code
def yX3_option : MethodName := ⟨RX3, "option", "(III)I"⟩
def wX3_option : Cond := .code yX3_option cX3_option 6 (some .int)
def wsX3_option : List Cond := wX3_option :: gAll
set_option maxRecDepth 20000 in
theorem kcX3_option : wX3_option ∈ gAll := g_mem 251 rfl rfl
abbrev cL_choose : ByteArray := method_6_code
def yL_choose : MethodName := ⟨RL, "choose", "(LBreakerOrders;II[J)I"⟩
def wL_choose : Cond := .codeWith yL_choose cL_choose 5 (some .int) [(0, 10, 13, 13)]
def wsL_choose : List Cond := wL_choose :: gAll
set_option maxRecDepth 20000 in
theorem kcL_choose : wL_choose ∈ gAll := g_mem 255 rfl rfl
abbrev cX3_choose : ByteArray := prog_1_method_5_code
def yX3_choose : MethodName := ⟨RX3, "choose", "(II)I"⟩
def wX3_choose : Cond := .code yX3_choose cX3_choose 5 (some .int)
def wsX3_choose : List Cond := wX3_choose :: gAll
set_option maxRecDepth 20000 in
theorem kcX3_choose : wX3_choose ∈ gAll := g_mem 259 rfl rfl
abbrev cL_time : ByteArray := method_7_code
def yL_time : MethodName := ⟨RL, "time", "(LBreakerOrders;IIZ[J)I"⟩
def wL_time : Cond := .codeWith yL_time cL_time 6 (some .int) [(0, 12, 15, 13)]
def wsL_time : List Cond := wL_time :: gAll
set_option maxRecDepth 20000 in
theorem kcL_time : wL_time ∈ gAll := g_mem 262 rfl rfl
abbrev cX3_time : ByteArray := prog_1_method_6_code
def yX3_time : MethodName := ⟨RX3, "time", "(IIZ)I"⟩
def wX3_time : Cond := .code yX3_time cX3_time 6 (some .int)
def wsX3_time : List Cond := wX3_time :: gAll
set_option maxRecDepth 20000 in
theorem kcX3_time : wX3_time ∈ gAll := g_mem 266 rfl rfl
abbrev cX1_chosenSetting : ByteArray := prog_3_method_2_code
def yX1_chosenSetting : MethodName := ⟨RX1, "chosenSetting", "()LBreakerOrders$Setting;"⟩
def wX1_chosenSetting : Cond := .code yX1_chosenSetting cX1_chosenSetting 1 (some (.object "BreakerOrders$Setting"))
def wsX1_chosenSetting : List Cond := wX1_chosenSetting :: gAll
set_option maxRecDepth 20000 in
theorem kcX1_chosenSetting : wX1_chosenSetting ∈ gAll := g_mem 270 rfl rfl
abbrev cX2_pieceAt : ByteArray := prog_4_method_2_code
def yX2_pieceAt : MethodName := ⟨RX2, "pieceAt", "(I)I"⟩
def wX2_pieceAt : Cond := .code yX2_pieceAt cX2_pieceAt 4 (some .int)
def wsX2_pieceAt : List Cond := wX2_pieceAt :: gAll
set_option maxRecDepth 20000 in
theorem kcX2_pieceAt : wX2_pieceAt ∈ gAll := g_mem 274 rfl rfl
abbrev cX2_wholeTime : ByteArray := prog_4_method_6_code
def yX2_wholeTime : MethodName := ⟨RX2, "wholeTime", "(IIZ)I"⟩
def wX2_wholeTime : Cond := .code yX2_wholeTime cX2_wholeTime 6 (some .int)
def wsX2_wholeTime : List Cond := wX2_wholeTime :: gAll
set_option maxRecDepth 20000 in
theorem kcX2_wholeTime : wX2_wholeTime ∈ gAll := g_mem 278 rfl rfl
abbrev cX2_partsOn : ByteArray := prog_4_method_4_code
def yX2_partsOn : MethodName := ⟨RX2, "partsOn", "(I)J"⟩
def wX2_partsOn : Cond := .code yX2_partsOn cX2_partsOn 2 (some .long)
def wsX2_partsOn : List Cond := wX2_partsOn :: gAll
set_option maxRecDepth 20000 in
theorem kcX2_partsOn : wX2_partsOn ∈ gAll := g_mem 282 rfl rfl
abbrev cX2_timeInParts : ByteArray := prog_4_method_5_code
def yX2_timeInParts : MethodName := ⟨RX2, "timeInParts", "(IJIZ)J"⟩
def wX2_timeInParts : Cond := .code yX2_timeInParts cX2_timeInParts 11 (some .long)
def wsX2_timeInParts : List Cond := wX2_timeInParts :: gAll
set_option maxRecDepth 20000 in
theorem kcX2_timeInParts : wX2_timeInParts ∈ gAll := g_mem 286 rfl rfl
abbrev cL_opensFrom : ByteArray := method_8_code
def yL_opensFrom : MethodName := ⟨RL, "opensFrom", "(LBreakerOrders;I[J)I"⟩
def wL_opensFrom : Cond := .codeWith yL_opensFrom cL_opensFrom 4 (some .int) [(0, 9, 12, 13)]
def wsL_opensFrom : List Cond := wL_opensFrom :: gAll
set_option maxRecDepth 20000 in
theorem kcL_opensFrom : wL_opensFrom ∈ gAll := g_mem 289 rfl rfl
abbrev cX3_opensFrom : ByteArray := prog_1_method_7_code
def yX3_opensFrom : MethodName := ⟨RX3, "opensFrom", "(I)I"⟩
def wX3_opensFrom : Cond := .code yX3_opensFrom cX3_opensFrom 3 (some .int)
def wsX3_opensFrom : List Cond := wX3_opensFrom :: gAll
set_option maxRecDepth 20000 in
theorem kcX3_opensFrom : wX3_opensFrom ∈ gAll := g_mem 293 rfl rfl
abbrev cX2_startBehind : ByteArray := prog_4_method_3_code
def yX2_startBehind : MethodName := ⟨RX2, "startBehind", "(I)I"⟩
def wX2_startBehind : Cond := .code yX2_startBehind cX2_startBehind 4 (some .int)
def wsX2_startBehind : List Cond := wX2_startBehind :: gAll
set_option maxRecDepth 20000 in
theorem kcX2_startBehind : wX2_startBehind ∈ gAll := g_mem 297 rfl rfl
abbrev cL_order : ByteArray := method_9_code
def yL_order : MethodName := ⟨RL, "order", "(LBreakerOrders;III[J)I"⟩
def wL_order : Cond := .codeWith yL_order cL_order 6 (some .int) [(0, 12, 15, 13)]
def wsL_order : List Cond := wL_order :: gAll
set_option maxRecDepth 20000 in
theorem kcL_order : wL_order ∈ gAll := g_mem 303 rfl rfl
abbrev cX3_order : ByteArray := prog_1_method_8_code
def yX3_order : MethodName := ⟨RX3, "order", "(III)I"⟩
def wX3_order : Cond := .code yX3_order cX3_order 4 (some .int)
def wsX3_order : List Cond := wX3_order :: gAll
set_option maxRecDepth 20000 in
theorem kcX3_order : wX3_order ∈ gAll := g_mem 307 rfl rfl
abbrev cX3_demandPair : ByteArray := prog_1_method_18_code
def yX3_demandPair : MethodName := ⟨RX3, "demandPair", "(III)V"⟩
def wX3_demandPair : Cond := .code yX3_demandPair cX3_demandPair 3 none
def wsX3_demandPair : List Cond := wX3_demandPair :: gAll
set_option maxRecDepth 20000 in
theorem kcX3_demandPair : wX3_demandPair ∈ gAll := g_mem 310 rfl rfl
abbrev cX3_firstBroken : ByteArray := prog_1_method_19_code
def yX3_firstBroken : MethodName := ⟨RX3, "firstBroken", "(LBreakerOrders$Setting;LBreakerOrders$Setting;I)I"⟩
def wX3_firstBroken : Cond := .code yX3_firstBroken cX3_firstBroken 4 (some .int)
def wsX3_firstBroken : List Cond := wX3_firstBroken :: gAll
set_option maxRecDepth 20000 in
theorem kcX3_firstBroken : wX3_firstBroken ∈ gAll := g_mem 314 rfl rfl
abbrev cX3_firstBrokenStretch : ByteArray := prog_1_method_20_code
def yX3_firstBrokenStretch : MethodName := ⟨RX3, "firstBrokenStretch", "(LBreakerOrders$Setting;LBreakerOrders$Setting;I)I"⟩
def wX3_firstBrokenStretch : Cond := .code yX3_firstBrokenStretch cX3_firstBrokenStretch 6 (some .int)
def wsX3_firstBrokenStretch : List Cond := wX3_firstBrokenStretch :: gAll
set_option maxRecDepth 20000 in
theorem kcX3_firstBrokenStretch : wX3_firstBrokenStretch ∈ gAll := g_mem 317 rfl rfl
abbrev cX3_stretchEnd : ByteArray := prog_1_method_23_code
def yX3_stretchEnd : MethodName := ⟨RX3, "stretchEnd", "(LBreakerOrders$Setting;LBreakerOrders$Setting;I)I"⟩
def wX3_stretchEnd : Cond := .code yX3_stretchEnd cX3_stretchEnd 3 (some .int)
def wsX3_stretchEnd : List Cond := wX3_stretchEnd :: gAll
set_option maxRecDepth 20000 in
theorem kcX3_stretchEnd : wX3_stretchEnd ∈ gAll := g_mem 320 rfl rfl
abbrev cX3_isBrokenAt : ByteArray := prog_1_method_25_code
def yX3_isBrokenAt : MethodName := ⟨RX3, "isBrokenAt", "(LBreakerOrders$Setting;LBreakerOrders$Setting;II)Z"⟩
def wX3_isBrokenAt : Cond := .code yX3_isBrokenAt cX3_isBrokenAt 4 (some .boolean)
def wsX3_isBrokenAt : List Cond := wX3_isBrokenAt :: gAll
set_option maxRecDepth 20000 in
theorem kcX3_isBrokenAt : wX3_isBrokenAt ∈ gAll := g_mem 324 rfl rfl
abbrev cX2_isWithin : ByteArray := prog_4_method_7_code
def yX2_isWithin : MethodName := ⟨RX2, "isWithin", "(ZILBreakerOrders$Setting;ZI)Z"⟩
def wX2_isWithin : Cond := .code yX2_isWithin cX2_isWithin 16 (some .boolean)
def wsX2_isWithin : List Cond := wX2_isWithin :: gAll
set_option maxRecDepth 20000 in
theorem kcX2_isWithin : wX2_isWithin ∈ gAll := g_mem 328 rfl rfl
abbrev cX3_turnIn : ByteArray := prog_1_method_24_code
def yX3_turnIn : MethodName := ⟨RX3, "turnIn", "(LBreakerOrders$Setting;LBreakerOrders$Setting;III)I"⟩
def wX3_turnIn : Cond := .code yX3_turnIn cX3_turnIn 10 (some .int)
def wsX3_turnIn : List Cond := wX3_turnIn :: gAll
set_option maxRecDepth 20000 in
theorem kcX3_turnIn : wX3_turnIn ∈ gAll := g_mem 332 rfl rfl
abbrev cL_broken : ByteArray := method_10_code
def yL_broken : MethodName := ⟨RL, "broken", "(LBreakerOrders;III[J)I"⟩
def wL_broken : Cond := .codeWith yL_broken cL_broken 6 (some .int) [(0, 12, 15, 13)]
def wsL_broken : List Cond := wL_broken :: gAll
set_option maxRecDepth 20000 in
theorem kcL_broken : wL_broken ∈ gAll := g_mem 335 rfl rfl
abbrev cX3_broken : ByteArray := prog_1_method_9_code
def yX3_broken : MethodName := ⟨RX3, "broken", "(III)I"⟩
def wX3_broken : Cond := .code yX3_broken cX3_broken 4 (some .int)
def wsX3_broken : List Cond := wX3_broken :: gAll
set_option maxRecDepth 20000 in
theorem kcX3_broken : wX3_broken ∈ gAll := g_mem 339 rfl rfl
abbrev cX3_countBroken : ByteArray := prog_1_method_21_code
def yX3_countBroken : MethodName := ⟨RX3, "countBroken", "(LBreakerOrders$Setting;LBreakerOrders$Setting;I)I"⟩
def wX3_countBroken : Cond := .code yX3_countBroken cX3_countBroken 7 (some .int)
def wsX3_countBroken : List Cond := wX3_countBroken :: gAll
set_option maxRecDepth 20000 in
theorem kcX3_countBroken : wX3_countBroken ∈ gAll := g_mem 342 rfl rfl
abbrev cX3_countBrokenIn : ByteArray := prog_1_method_22_code
def yX3_countBrokenIn : MethodName := ⟨RX3, "countBrokenIn", "(LBreakerOrders$Setting;LBreakerOrders$Setting;III)I"⟩
def wX3_countBrokenIn : Cond := .code yX3_countBrokenIn cX3_countBrokenIn 8 (some .int)
def wsX3_countBrokenIn : List Cond := wX3_countBrokenIn :: gAll
set_option maxRecDepth 20000 in
theorem kcX3_countBrokenIn : wX3_countBrokenIn ∈ gAll := g_mem 345 rfl rfl
abbrev cL_settle : ByteArray := method_11_code
def yL_settle : MethodName := ⟨RL, "settle", "(LBreakerOrders;I[J)I"⟩
def wL_settle : Cond := .codeWith yL_settle cL_settle 4 (some .int) [(0, 16, 19, 13)]
def wsL_settle : List Cond := wL_settle :: gAll
set_option maxRecDepth 20000 in
theorem kcL_settle : wL_settle ∈ gAll := g_mem 348 rfl rfl
abbrev cX3_settle : ByteArray := prog_1_method_10_code
def yX3_settle : MethodName := ⟨RX3, "settle", "(I)Z"⟩
def wX3_settle : Cond := .code yX3_settle cX3_settle 4 (some .boolean)
def wsX3_settle : List Cond := wX3_settle :: gAll
set_option maxRecDepth 20000 in
theorem kcX3_settle : wX3_settle ∈ gAll := g_mem 352 rfl rfl
abbrev cX1_forgetTries : ByteArray := prog_3_method_3_code
def yX1_forgetTries : MethodName := ⟨RX1, "forgetTries", "()V"⟩
def wX1_forgetTries : Cond := .code yX1_forgetTries cX1_forgetTries 2 none
def wsX1_forgetTries : List Cond := wX1_forgetTries :: gAll
set_option maxRecDepth 20000 in
theorem kcX1_forgetTries : wX1_forgetTries ∈ gAll := g_mem 356 rfl rfl
abbrev cX3_tryOptions : ByteArray := prog_1_method_26_code
def yX3_tryOptions : MethodName := ⟨RX3, "tryOptions", "(LBreakerOrders$Device;I)Z"⟩
def wX3_tryOptions : Cond := .code yX3_tryOptions cX3_tryOptions 4 (some .boolean)
def wsX3_tryOptions : List Cond := wX3_tryOptions :: gAll
set_option maxRecDepth 20000 in
theorem kcX3_tryOptions : wX3_tryOptions ∈ gAll := g_mem 359 rfl rfl
abbrev cX3_firstFitting : ByteArray := prog_1_method_27_code
def yX3_firstFitting : MethodName := ⟨RX3, "firstFitting", "(LBreakerOrders$Device;LBreakerOrders$Setting;I)I"⟩
def wX3_firstFitting : Cond := .code yX3_firstFitting cX3_firstFitting 4 (some .int)
def wsX3_firstFitting : List Cond := wX3_firstFitting :: gAll
set_option maxRecDepth 20000 in
theorem kcX3_firstFitting : wX3_firstFitting ∈ gAll := g_mem 362 rfl rfl
abbrev cL_chosen : ByteArray := method_12_code
def yL_chosen : MethodName := ⟨RL, "chosen", "(LBreakerOrders;I[J)I"⟩
def wL_chosen : Cond := .codeWith yL_chosen cL_chosen 4 (some .int) [(0, 9, 12, 13)]
def wsL_chosen : List Cond := wL_chosen :: gAll
set_option maxRecDepth 20000 in
theorem kcL_chosen : wL_chosen ∈ gAll := g_mem 365 rfl rfl
abbrev cX3_chosen : ByteArray := prog_1_method_11_code
def yX3_chosen : MethodName := ⟨RX3, "chosen", "(I)I"⟩
def wX3_chosen : Cond := .code yX3_chosen cX3_chosen 2 (some .int)
def wsX3_chosen : List Cond := wX3_chosen :: gAll
set_option maxRecDepth 20000 in
theorem kcX3_chosen : wX3_chosen ∈ gAll := g_mem 369 rfl rfl
abbrev cL_impedance : ByteArray := method_13_code
def yL_impedance : MethodName := ⟨RL, "impedance", "(LBreakerOrders;II[J)I"⟩
def wL_impedance : Cond := .codeWith yL_impedance cL_impedance 5 (some .int) [(0, 10, 13, 13)]
def wsL_impedance : List Cond := wL_impedance :: gAll
set_option maxRecDepth 20000 in
theorem kcL_impedance : wL_impedance ∈ gAll := g_mem 372 rfl rfl
abbrev cX3_impedance : ByteArray := prog_1_method_12_code
def yX3_impedance : MethodName := ⟨RX3, "impedance", "(II)I"⟩
def wX3_impedance : Cond := .code yX3_impedance cX3_impedance 5 (some .int)
def wsX3_impedance : List Cond := wX3_impedance :: gAll
set_option maxRecDepth 20000 in
theorem kcX3_impedance : wX3_impedance ∈ gAll := g_mem 376 rfl rfl
abbrev cL_voltage : ByteArray := method_14_code
def yL_voltage : MethodName := ⟨RL, "voltage", "(LBreakerOrders;I[J)I"⟩
def wL_voltage : Cond := .codeWith yL_voltage cL_voltage 4 (some .int) [(0, 9, 12, 13)]
def wsL_voltage : List Cond := wL_voltage :: gAll
set_option maxRecDepth 20000 in
theorem kcL_voltage : wL_voltage ∈ gAll := g_mem 379 rfl rfl
abbrev cX3_voltage : ByteArray := prog_1_method_13_code
def yX3_voltage : MethodName := ⟨RX3, "voltage", "(I)I"⟩
def wX3_voltage : Cond := .code yX3_voltage cX3_voltage 3 (some .int)
def wsX3_voltage : List Cond := wX3_voltage :: gAll
set_option maxRecDepth 20000 in
theorem kcX3_voltage : wX3_voltage ∈ gAll := g_mem 383 rfl rfl
abbrev cL_shortAt : ByteArray := method_15_code
def yL_shortAt : MethodName := ⟨RL, "shortAt", "(LBreakerOrders;I[J)I"⟩
def wL_shortAt : Cond := .codeWith yL_shortAt cL_shortAt 4 (some .int) [(0, 9, 12, 13)]
def wsL_shortAt : List Cond := wL_shortAt :: gAll
set_option maxRecDepth 20000 in
theorem kcL_shortAt : wL_shortAt ∈ gAll := g_mem 387 rfl rfl
abbrev cX3_shortAt : ByteArray := prog_1_method_14_code
def yX3_shortAt : MethodName := ⟨RX3, "shortAt", "(I)I"⟩
def wX3_shortAt : Cond := .code yX3_shortAt cX3_shortAt 2 (some .int)
def wsX3_shortAt : List Cond := wX3_shortAt :: gAll
set_option maxRecDepth 20000 in
theorem kcX3_shortAt : wX3_shortAt ∈ gAll := g_mem 391 rfl rfl
abbrev cX3_shortCurrent : ByteArray := prog_1_method_28_code
def yX3_shortCurrent : MethodName := ⟨RX3, "shortCurrent", "(LBreakerOrders$Device;)I"⟩
def wX3_shortCurrent : Cond := .code yX3_shortCurrent cX3_shortCurrent 5 (some .int)
def wsX3_shortCurrent : List Cond := wX3_shortCurrent :: gAll
set_option maxRecDepth 20000 in
theorem kcX3_shortCurrent : wX3_shortCurrent ∈ gAll := g_mem 395 rfl rfl
abbrev cL_opens : ByteArray := method_16_code
def yL_opens : MethodName := ⟨RL, "opens", "(LBreakerOrders;II[J)I"⟩
def wL_opens : Cond := .codeWith yL_opens cL_opens 5 (some .int) [(0, 10, 13, 13)]
def wsL_opens : List Cond := wL_opens :: gAll
set_option maxRecDepth 20000 in
theorem kcL_opens : wL_opens ∈ gAll := g_mem 403 rfl rfl
abbrev cX3_opens : ByteArray := prog_1_method_15_code
def yX3_opens : MethodName := ⟨RX3, "opens", "(II)I"⟩
def wX3_opens : Cond := .code yX3_opens cX3_opens 8 (some .int)
def wsX3_opens : List Cond := wX3_opens :: gAll
set_option maxRecDepth 20000 in
theorem kcX3_opens : wX3_opens ∈ gAll := g_mem 407 rfl rfl
abbrev cX3_quickestOnWay : ByteArray := prog_1_method_29_code
def yX3_quickestOnWay : MethodName := ⟨RX3, "quickestOnWay", "(LBreakerOrders$Device;I)LBreakerOrders$Setting;"⟩
def wX3_quickestOnWay : Cond := .code yX3_quickestOnWay cX3_quickestOnWay 4 (some (.object "BreakerOrders$Setting"))
def wsX3_quickestOnWay : List Cond := wX3_quickestOnWay :: gAll
set_option maxRecDepth 20000 in
theorem kcX3_quickestOnWay : wX3_quickestOnWay ∈ gAll := g_mem 411 rfl rfl
abbrev cX4_init : ByteArray := prog_6_method_1_code
def yX4_init : MethodName := ⟨RX4, "<init>", "()V"⟩
def wX4_init : Cond := .code yX4_init cX4_init 1 none
def wsX4_init : List Cond := wX4_init :: gAll
set_option maxRecDepth 20000 in
theorem kcX4_init : wX4_init ∈ gAll := g_mem 416 rfl rfl
abbrev cX4_thrown : ByteArray := prog_6_method_2_code
def yX4_thrown : MethodName := ⟨RX4, "thrown", "()I"⟩
def wX4_thrown : Cond := .code yX4_thrown cX4_thrown 1 (some .int)
def wsX4_thrown : List Cond := wX4_thrown :: gAll
set_option maxRecDepth 20000 in
theorem kcX4_thrown : wX4_thrown ∈ gAll := g_mem 473 rfl rfl
abbrev cX4_device : ByteArray := prog_6_method_5_code
def yX4_device : MethodName := ⟨RX4, "device", "(I)I"⟩
def wX4_device : Cond := .code yX4_device cX4_device 2 (some .int)
def wsX4_device : List Cond := wX4_device :: gAll
set_option maxRecDepth 20000 in
theorem kcX4_device : wX4_device ∈ gAll := g_mem 477 rfl rfl
abbrev cX4_isDevice : ByteArray := prog_6_method_4_code
def yX4_isDevice : MethodName := ⟨RX4, "isDevice", "(I)Z"⟩
def wX4_isDevice : Cond := .code yX4_isDevice cX4_isDevice 2 (some .boolean)
def wsX4_isDevice : List Cond := wX4_isDevice :: gAll
set_option maxRecDepth 20000 in
theorem kcX4_isDevice : wX4_isDevice ∈ gAll := g_mem 481 rfl rfl
abbrev cX4_in : ByteArray := prog_6_method_3_code
def yX4_in : MethodName := ⟨RX4, "in", "(III)Z"⟩
def wX4_in : Cond := .code yX4_in cX4_in 3 (some .boolean)
def wsX4_in : List Cond := wX4_in :: gAll
set_option maxRecDepth 20000 in
theorem kcX4_in : wX4_in ∈ gAll := g_mem 484 rfl rfl
abbrev cX4_point : ByteArray := prog_6_method_6_code
def yX4_point : MethodName := ⟨RX4, "point", "(IIII)I"⟩
def wX4_point : Cond := .code yX4_point cX4_point 7 (some .int)
def wsX4_point : List Cond := wX4_point :: gAll
set_option maxRecDepth 20000 in
theorem kcX4_point : wX4_point ∈ gAll := g_mem 488 rfl rfl
abbrev cX4_option : ByteArray := prog_6_method_7_code
def yX4_option : MethodName := ⟨RX4, "option", "(III)I"⟩
def wX4_option : Cond := .code yX4_option cX4_option 4 (some .int)
def wsX4_option : List Cond := wX4_option :: gAll
set_option maxRecDepth 20000 in
theorem kcX4_option : wX4_option ∈ gAll := g_mem 493 rfl rfl
abbrev cX4_choose : ByteArray := prog_6_method_8_code
def yX4_choose : MethodName := ⟨RX4, "choose", "(II)I"⟩
def wX4_choose : Cond := .code yX4_choose cX4_choose 4 (some .int)
def wsX4_choose : List Cond := wX4_choose :: gAll
set_option maxRecDepth 20000 in
theorem kcX4_choose : wX4_choose ∈ gAll := g_mem 497 rfl rfl
abbrev cX4_time : ByteArray := prog_6_method_11_code
def yX4_time : MethodName := ⟨RX4, "time", "(IIZ)I"⟩
def wX4_time : Cond := .code yX4_time cX4_time 4 (some .int)
def wsX4_time : List Cond := wX4_time :: gAll
set_option maxRecDepth 20000 in
theorem kcX4_time : wX4_time ∈ gAll := g_mem 501 rfl rfl
abbrev cX4_opensAt : ByteArray := prog_6_method_9_code
def yX4_opensAt : MethodName := ⟨RX4, "opensAt", "(III)Z"⟩
def wX4_opensAt : Cond := .code yX4_opensAt cX4_opensAt 4 (some .boolean)
def wsX4_opensAt : List Cond := wX4_opensAt :: gAll
set_option maxRecDepth 20000 in
theorem kcX4_opensAt : wX4_opensAt ∈ gAll := g_mem 505 rfl rfl
abbrev cX4_reckon : ByteArray := prog_6_method_10_code
def yX4_reckon : MethodName := ⟨RX4, "reckon", "(IIIZ)V"⟩
def wX4_reckon : Cond := .code yX4_reckon cX4_reckon 14 none
def wsX4_reckon : List Cond := wX4_reckon :: gAll
set_option maxRecDepth 20000 in
theorem kcX4_reckon : wX4_reckon ∈ gAll := g_mem 509 rfl rfl
abbrev cX4_opensFrom : ByteArray := prog_6_method_12_code
def yX4_opensFrom : MethodName := ⟨RX4, "opensFrom", "(I)I"⟩
def wX4_opensFrom : Cond := .code yX4_opensFrom cX4_opensFrom 3 (some .int)
def wsX4_opensFrom : List Cond := wX4_opensFrom :: gAll
set_option maxRecDepth 20000 in
theorem kcX4_opensFrom : wX4_opensFrom ∈ gAll := g_mem 514 rfl rfl
abbrev cX4_order : ByteArray := prog_6_method_15_code
def yX4_order : MethodName := ⟨RX4, "order", "(III)I"⟩
def wX4_order : Cond := .code yX4_order cX4_order 5 (some .int)
def wsX4_order : List Cond := wX4_order :: gAll
set_option maxRecDepth 20000 in
theorem kcX4_order : wX4_order ∈ gAll := g_mem 518 rfl rfl
abbrev cX4_lookOrder : ByteArray := prog_6_method_14_code
def yX4_lookOrder : MethodName := ⟨RX4, "lookOrder", "(III)V"⟩
def wX4_lookOrder : Cond := .code yX4_lookOrder cX4_lookOrder 4 none
def wsX4_lookOrder : List Cond := wX4_lookOrder :: gAll
set_option maxRecDepth 20000 in
theorem kcX4_lookOrder : wX4_lookOrder ∈ gAll := g_mem 522 rfl rfl
abbrev cX4_isGood : ByteArray := prog_6_method_13_code
def yX4_isGood : MethodName := ⟨RX4, "isGood", "(IIIIII)Z"⟩
def wX4_isGood : Cond := .code yX4_isGood cX4_isGood 11 (some .boolean)
def wsX4_isGood : List Cond := wX4_isGood :: gAll
set_option maxRecDepth 20000 in
theorem kcX4_isGood : wX4_isGood ∈ gAll := g_mem 526 rfl rfl
abbrev cX4_broken : ByteArray := prog_6_method_16_code
def yX4_broken : MethodName := ⟨RX4, "broken", "(III)I"⟩
def wX4_broken : Cond := .code yX4_broken cX4_broken 6 (some .int)
def wsX4_broken : List Cond := wX4_broken :: gAll
set_option maxRecDepth 20000 in
theorem kcX4_broken : wX4_broken ∈ gAll := g_mem 530 rfl rfl
abbrev cX4_settle : ByteArray := prog_6_method_18_code
def yX4_settle : MethodName := ⟨RX4, "settle", "(I)Z"⟩
def wX4_settle : Cond := .code yX4_settle cX4_settle 4 (some .boolean)
def wsX4_settle : List Cond := wX4_settle :: gAll
set_option maxRecDepth 20000 in
theorem kcX4_settle : wX4_settle ∈ gAll := g_mem 534 rfl rfl
abbrev cX4_fits : ByteArray := prog_6_method_17_code
def yX4_fits : MethodName := ⟨RX4, "fits", "(II)Z"⟩
def wX4_fits : Cond := .code yX4_fits cX4_fits 6 (some .boolean)
def wsX4_fits : List Cond := wX4_fits :: gAll
set_option maxRecDepth 20000 in
theorem kcX4_fits : wX4_fits ∈ gAll := g_mem 538 rfl rfl
abbrev cX4_chosen : ByteArray := prog_6_method_19_code
def yX4_chosen : MethodName := ⟨RX4, "chosen", "(I)I"⟩
def wX4_chosen : Cond := .code yX4_chosen cX4_chosen 2 (some .int)
def wsX4_chosen : List Cond := wX4_chosen :: gAll
set_option maxRecDepth 20000 in
theorem kcX4_chosen : wX4_chosen ∈ gAll := g_mem 542 rfl rfl
abbrev cX4_impedance : ByteArray := prog_6_method_20_code
def yX4_impedance : MethodName := ⟨RX4, "impedance", "(II)I"⟩
def wX4_impedance : Cond := .code yX4_impedance cX4_impedance 4 (some .int)
def wsX4_impedance : List Cond := wX4_impedance :: gAll
set_option maxRecDepth 20000 in
theorem kcX4_impedance : wX4_impedance ∈ gAll := g_mem 546 rfl rfl
abbrev cX4_voltage : ByteArray := prog_6_method_21_code
def yX4_voltage : MethodName := ⟨RX4, "voltage", "(I)I"⟩
def wX4_voltage : Cond := .code yX4_voltage cX4_voltage 3 (some .int)
def wsX4_voltage : List Cond := wX4_voltage :: gAll
set_option maxRecDepth 20000 in
theorem kcX4_voltage : wX4_voltage ∈ gAll := g_mem 550 rfl rfl
abbrev cX4_shortAt : ByteArray := prog_6_method_23_code
def yX4_shortAt : MethodName := ⟨RX4, "shortAt", "(I)I"⟩
def wX4_shortAt : Cond := .code yX4_shortAt cX4_shortAt 2 (some .int)
def wsX4_shortAt : List Cond := wX4_shortAt :: gAll
set_option maxRecDepth 20000 in
theorem kcX4_shortAt : wX4_shortAt ∈ gAll := g_mem 555 rfl rfl
abbrev cX4_currentAt : ByteArray := prog_6_method_22_code
def yX4_currentAt : MethodName := ⟨RX4, "currentAt", "(I)I"⟩
def wX4_currentAt : Cond := .code yX4_currentAt cX4_currentAt 6 (some .int)
def wsX4_currentAt : List Cond := wX4_currentAt :: gAll
set_option maxRecDepth 20000 in
theorem kcX4_currentAt : wX4_currentAt ∈ gAll := g_mem 559 rfl rfl
abbrev cX4_opens : ByteArray := prog_6_method_25_code
def yX4_opens : MethodName := ⟨RX4, "opens", "(II)I"⟩
def wX4_opens : Cond := .code yX4_opens cX4_opens 6 (some .int)
def wsX4_opens : List Cond := wX4_opens :: gAll
set_option maxRecDepth 20000 in
theorem kcX4_opens : wX4_opens ∈ gAll := g_mem 565 rfl rfl
abbrev cX4_isFirst : ByteArray := prog_6_method_24_code
def yX4_isFirst : MethodName := ⟨RX4, "isFirst", "(III)Z"⟩
def wX4_isFirst : Cond := .code yX4_isFirst cX4_isFirst 10 (some .boolean)
def wsX4_isFirst : List Cond := wX4_isFirst :: gAll
set_option maxRecDepth 20000 in
theorem kcX4_isFirst : wX4_isFirst ∈ gAll := g_mem 569 rfl rfl
end
section
/-! numbers: an int or a long by the whole number that it stands for -/
section JNum
def jI (a : Int) : Int32 := Int32.ofInt a
def jL (a : Int) : Int64 := Int64.ofInt a
theorem jI_add (a b : Int) : jI a + jI b = jI (a + b) := (Int32.ofInt_add a b).symm
theorem jI_sub (a b : Int) : jI a - jI b = jI (a - b) := (Int32.ofInt_sub a b).symm
theorem jI_mul (a b : Int) : jI a * jI b = jI (a * b) := (Int32.ofInt_mul a b).symm
theorem jL_add (a b : Int) : jL a + jL b = jL (a + b) := (Int64.ofInt_add a b).symm
theorem jL_sub (a b : Int) : jL a - jL b = jL (a - b) := (Int64.ofInt_sub a b).symm
theorem jL_mul (a b : Int) : jL a * jL b = jL (a * b) := (Int64.ofInt_mul a b).symm
theorem jI_toInt {a : Int} (h : -2147483648 ≤ a ∧ a < 2147483648) : (jI a).toInt = a := Int32.toInt_ofInt_of_le (by omega) (by omega)
theorem jL_toInt {a : Int} (h : -9223372036854775808 ≤ a ∧ a < 9223372036854775808) : (jL a).toInt = a := Int64.toInt_ofInt_of_le (by omega) (by omega)
theorem jI_self (x : Int32) : jI x.toInt = x := Int32.ofInt_toInt x
theorem jI_le {a b : Int} (ha : -2147483648 ≤ a ∧ a < 2147483648) (hb : -2147483648 ≤ b ∧ b < 2147483648) : jI a ≤ jI b ↔ a ≤ b := by
  rw [Int32.le_iff_toInt_le, jI_toInt ha, jI_toInt hb]
theorem jI_lt {a b : Int} (ha : -2147483648 ≤ a ∧ a < 2147483648) (hb : -2147483648 ≤ b ∧ b < 2147483648) : jI a < jI b ↔ a < b := by
  rw [Int32.lt_iff_toInt_lt, jI_toInt ha, jI_toInt hb]
theorem jI_eq {a b : Int} (ha : -2147483648 ≤ a ∧ a < 2147483648) (hb : -2147483648 ≤ b ∧ b < 2147483648) : jI a = jI b ↔ a = b := by
  rw [← Int32.toInt_inj, jI_toInt ha, jI_toInt hb]
theorem jL_le {a b : Int} (ha : -9223372036854775808 ≤ a ∧ a < 9223372036854775808) (hb : -9223372036854775808 ≤ b ∧ b < 9223372036854775808) : jL a ≤ jL b ↔ a ≤ b := by
  rw [Int64.le_iff_toInt_le, jL_toInt ha, jL_toInt hb]
theorem jL_lt {a b : Int} (ha : -9223372036854775808 ≤ a ∧ a < 9223372036854775808) (hb : -9223372036854775808 ≤ b ∧ b < 9223372036854775808) : jL a < jL b ↔ a < b := by
  rw [Int64.lt_iff_toInt_lt, jL_toInt ha, jL_toInt hb]
theorem jL_eq {a b : Int} (ha : -9223372036854775808 ≤ a ∧ a < 9223372036854775808) (hb : -9223372036854775808 ≤ b ∧ b < 9223372036854775808) : jL a = jL b ↔ a = b := by
  rw [← Int64.toInt_inj, jL_toInt ha, jL_toInt hb]
theorem jI_0 : (0 : Int32) = jI 0 := rfl
theorem jI_nat (n : Nat) : nI n = jI (n : Int) := Int32.ofInt_eq_ofNat.symm
theorem jI_i2l {a : Int} (h : -2147483648 ≤ a ∧ a < 2147483648) : (jI a).toInt64 = jL a := by
  have h1 : Int32.minValue.toInt = -2147483648 := by decide
  have h2 : Int32.maxValue.toInt = 2147483647 := by decide
  exact Int32.toInt64_ofInt (by rw [h1]; omega) (by rw [h2]; omega)
theorem jL_l2i (a : Int) : (jL a).toInt32 = jI a := Int64.toInt32_ofInt
theorem jI_div {a b : Int} (ha : 0 ≤ a ∧ a < 2147483648) (hb : 0 < b ∧ b < 2147483648) : jI a / jI b = jI (a / b) := by
  have h1 : Int32.minValue.toInt = -2147483648 := by decide
  have h2 : Int32.maxValue.toInt = 2147483647 := by decide
  have h := Int32.ofInt_tdiv (a := a) (b := b) (by rw [h1]; omega) (by rw [h2]; omega) (by rw [h1]; omega) (by rw [h2]; omega)
  rw [Int.tdiv_eq_ediv_of_nonneg ha.1] at h
  exact h.symm
theorem jL_div {a b : Int} (ha : 0 ≤ a ∧ a < 9223372036854775808) (hb : 0 < b ∧ b < 9223372036854775808) : jL a / jL b = jL (a / b) := by
  have h1 : Int64.minValue.toInt = -9223372036854775808 := by decide
  have h2 : Int64.maxValue.toInt = 9223372036854775807 := by decide
  have h := Int64.ofInt_tdiv (a := a) (b := b) (by rw [h1]; omega) (by rw [h2]; omega) (by rw [h1]; omega) (by rw [h2]; omega)
  rw [Int.tdiv_eq_ediv_of_nonneg ha.1] at h
  exact h.symm
theorem jI_clamp {a : Int} (h : -2147483648 ≤ a ∧ a < 2147483648) : (jI a).toNatClampNeg = a.toNat := Int32.toNatClampNeg_ofInt_of_le (by omega) (by omega)
theorem jI_clampN {i : Nat} (h : i < 2147483648) : (jI (i : Int)).toNatClampNeg = i := by rw [jI_clamp (by omega)]; rfl
theorem jI_in {i n : Nat} (h : i < n) (hn : n < 2147483648) : vp_in (jI (i : Int)) n := vp_in_iff.mpr (by rw [jI_toInt (by omega)]; omega)
/-- a truth as a number -/
def bI (b : Bool) : Int := if b then 1 else 0
theorem bI_rng (b : Bool) : -2147483648 ≤ bI b ∧ bI b < 2147483648 := by cases b <;> decide
theorem bI_tr {b : Bool} (h : bI b ≠ 0) : b = true := by cases b with | true => rfl | false => exact absurd rfl h
theorem bI_fa {b : Bool} (h : bI b = 0) : b = false := by cases b with | true => exact absurd h (by decide) | false => rfl
theorem bI_ij {a b : Bool} (h : bI a = bI b) : a = b := by revert h; cases a <;> cases b <;> decide
theorem bI_nj {a b : Bool} (h : bI a ≠ bI b) : a ≠ b := fun q => h (by rw [q])
theorem jI_min {a b : Int} (ha : -2147483648 ≤ a ∧ a < 2147483648) (hb : -2147483648 ≤ b ∧ b < 2147483648) : (if jI b < jI a then jI b else jI a) = jI (min a b) := by
  by_cases h : b < a
  · rw [if_pos ((jI_lt hb ha).mpr h), show min a b = b by omega]
  · rw [if_neg (fun q => h ((jI_lt hb ha).mp q)), show min a b = a by omega]
theorem jL_min {a b : Int} (ha : -9223372036854775808 ≤ a ∧ a < 9223372036854775808) (hb : -9223372036854775808 ≤ b ∧ b < 9223372036854775808) : (if jL b < jL a then jL b else jL a) = jL (min a b) := by
  by_cases h : b < a
  · rw [if_pos ((jL_lt hb ha).mpr h), show min a b = b by omega]
  · rw [if_neg (fun q => h ((jL_lt hb ha).mp q)), show min a b = a by omega]
end JNum
/-! one cell's world -/
theorem j_P1 {D : va_G} {cl : List vw_C} {q : Nat × va_E} {H : Heap} (h : va_at D cl q H) : va_P D cl [q] H := fun k x hk => by
  have hx := List.mem_of_getElem? hk
  rw [List.mem_singleton.mp hx]
  exact h
section JV
variable {p : Program} {l : Launch} {e : Env} {R : Room} {s : State} {m : MethodId} {args : Array Value} {below : List Frame} {meth : Method} {c : Code} {H : Heap} {locs : List Loc} {cells slots : Nat} {Q : State → Prop}
variable {cc : ByteArray} {pc : Nat} {ls : Array Slot} {rest : List Value} {a b : Int}
theorem jv_iconst (hexec : p.tables.exec = Jvm.exec) (hb : c.code = cc) {n : Int} (hdg : decode cc pc = .ok (.iconst n, 1))
    (k : W p l e R s m args below meth c H locs cells slots Q (F0 m (pc + 1) ls (.int (jI n) :: rest))) : W p l e R s m args below meth c H locs cells slots Q (F0 m pc ls rest) := lv_iconst hexec hb hdg rfl k
theorem jv_bipush (hexec : p.tables.exec = Jvm.exec) (hb : c.code = cc) {n : Int} (hdg : decode cc pc = .ok (.bipush n, 2)) (hn : (Int8.ofInt n).toInt32 = jI n)
    (k : W p l e R s m args below meth c H locs cells slots Q (F0 m (pc + 2) ls (.int (jI n) :: rest))) : W p l e R s m args below meth c H locs cells slots Q (F0 m pc ls rest) := lv_bipush hexec hb hdg hn k
theorem jv_sipush (hexec : p.tables.exec = Jvm.exec) (hb : c.code = cc) {n : Int} (hdg : decode cc pc = .ok (.sipush n, 3)) (hn : (Int16.ofInt n).toInt32 = jI n)
    (k : W p l e R s m args below meth c H locs cells slots Q (F0 m (pc + 3) ls (.int (jI n) :: rest))) : W p l e R s m args below meth c H locs cells slots Q (F0 m pc ls rest) := lv_sipush hexec hb hdg hn k
theorem jv_lconst (hexec : p.tables.exec = Jvm.exec) (hb : c.code = cc) {n : Fin 2} {k : Int} (hdg : decode cc pc = .ok (.lconst n, 1)) (hn : Int64.ofNat (n : Nat) = jL k)
    (kk : W p l e R s m args below meth c H locs cells slots Q (F0 m (pc + 1) ls (.long (jL k) :: rest))) : W p l e R s m args below meth c H locs cells slots Q (F0 m pc ls rest) := lv_lconst hexec hb hdg hn kk
theorem jv_iadd (hexec : p.tables.exec = Jvm.exec) (hb : c.code = cc) (hdg : decode cc pc = .ok (.iadd, 1))
    (k : W p l e R s m args below meth c H locs cells slots Q (F0 m (pc + 1) ls (.int (jI (a + b)) :: rest))) : W p l e R s m args below meth c H locs cells slots Q (F0 m pc ls (.int (jI b) :: .int (jI a) :: rest)) :=
  lv_iadd hexec hb hdg (by rw [jI_add]; exact k)
theorem jv_isub (hexec : p.tables.exec = Jvm.exec) (hb : c.code = cc) (hdg : decode cc pc = .ok (.isub, 1))
    (k : W p l e R s m args below meth c H locs cells slots Q (F0 m (pc + 1) ls (.int (jI (a - b)) :: rest))) : W p l e R s m args below meth c H locs cells slots Q (F0 m pc ls (.int (jI b) :: .int (jI a) :: rest)) :=
  lv_isub hexec hb hdg (by rw [jI_sub]; exact k)
theorem jv_imul (hexec : p.tables.exec = Jvm.exec) (hb : c.code = cc) (hdg : decode cc pc = .ok (.imul, 1))
    (k : W p l e R s m args below meth c H locs cells slots Q (F0 m (pc + 1) ls (.int (jI (a * b)) :: rest))) : W p l e R s m args below meth c H locs cells slots Q (F0 m pc ls (.int (jI b) :: .int (jI a) :: rest)) :=
  lv_imul hexec hb hdg (by rw [jI_mul]; exact k)
theorem jv_idiv (hexec : p.tables.exec = Jvm.exec) (hb : c.code = cc) (hdg : decode cc pc = .ok (.idiv, 1)) (h1 : 0 ≤ a ∧ a < 2147483648) (h2 : 0 < b ∧ b < 2147483648)
    (k : W p l e R s m args below meth c H locs cells slots Q (F0 m (pc + 1) ls (.int (jI (a / b)) :: rest))) : W p l e R s m args below meth c H locs cells slots Q (F0 m pc ls (.int (jI b) :: .int (jI a) :: rest)) :=
  lv_idiv hexec hb hdg (fun h => by rw [jI_0, jI_eq (by omega) (by omega)] at h; omega) (by rw [jI_div h1 h2]; exact k)
theorem jv_ladd (hexec : p.tables.exec = Jvm.exec) (hb : c.code = cc) (hdg : decode cc pc = .ok (.ladd, 1))
    (k : W p l e R s m args below meth c H locs cells slots Q (F0 m (pc + 1) ls (.long (jL (a + b)) :: rest))) : W p l e R s m args below meth c H locs cells slots Q (F0 m pc ls (.long (jL b) :: .long (jL a) :: rest)) :=
  lv_ladd hexec hb hdg (by rw [jL_add]; exact k)
theorem jv_lsub (hexec : p.tables.exec = Jvm.exec) (hb : c.code = cc) (hdg : decode cc pc = .ok (.lsub, 1))
    (k : W p l e R s m args below meth c H locs cells slots Q (F0 m (pc + 1) ls (.long (jL (a - b)) :: rest))) : W p l e R s m args below meth c H locs cells slots Q (F0 m pc ls (.long (jL b) :: .long (jL a) :: rest)) :=
  lv_lsub hexec hb hdg (by rw [jL_sub]; exact k)
theorem jv_lmul (hexec : p.tables.exec = Jvm.exec) (hb : c.code = cc) (hdg : decode cc pc = .ok (.lmul, 1))
    (k : W p l e R s m args below meth c H locs cells slots Q (F0 m (pc + 1) ls (.long (jL (a * b)) :: rest))) : W p l e R s m args below meth c H locs cells slots Q (F0 m pc ls (.long (jL b) :: .long (jL a) :: rest)) :=
  lv_lmul hexec hb hdg (by rw [jL_mul]; exact k)
theorem jv_ldiv (hexec : p.tables.exec = Jvm.exec) (hb : c.code = cc) (hdg : decode cc pc = .ok (.ldiv, 1)) (h1 : 0 ≤ a ∧ a < 9223372036854775808) (h2 : 0 < b ∧ b < 9223372036854775808)
    (k : W p l e R s m args below meth c H locs cells slots Q (F0 m (pc + 1) ls (.long (jL (a / b)) :: rest))) : W p l e R s m args below meth c H locs cells slots Q (F0 m pc ls (.long (jL b) :: .long (jL a) :: rest)) :=
  lv_ldiv hexec hb hdg (fun h => by rw [show (0 : Int64) = jL 0 from rfl, jL_eq (by omega) (by omega)] at h; omega) (by rw [jL_div h1 h2]; exact k)
theorem jv_i2l (hexec : p.tables.exec = Jvm.exec) (hb : c.code = cc) (hdg : decode cc pc = .ok (.i2l, 1)) (h : -2147483648 ≤ a ∧ a < 2147483648)
    (k : W p l e R s m args below meth c H locs cells slots Q (F0 m (pc + 1) ls (.long (jL a) :: rest))) : W p l e R s m args below meth c H locs cells slots Q (F0 m pc ls (.int (jI a) :: rest)) :=
  lv_i2l hexec hb hdg (jI_i2l h) k
theorem jv_l2i (hexec : p.tables.exec = Jvm.exec) (hb : c.code = cc) (hdg : decode cc pc = .ok (.l2i, 1))
    (k : W p l e R s m args below meth c H locs cells slots Q (F0 m (pc + 1) ls (.int (jI a) :: rest))) : W p l e R s m args below meth c H locs cells slots Q (F0 m pc ls (.long (jL a) :: rest)) :=
  lv_l2i hexec hb hdg (jL_l2i a) k
theorem jv_icmp_lt (hexec : p.tables.exec = Jvm.exec) (hb : c.code = cc) {off : Int} {tgt : Nat} (hdg : decode cc pc = .ok (.if_icmp .lt off, 3)) (ht : (pc : Int) + off = (tgt : Int)) (ha : -2147483648 ≤ a ∧ a < 2147483648) (hb9 : -2147483648 ≤ b ∧ b < 2147483648)
    (kt : a < b → W p l e R s m args below meth c H locs cells slots Q (F0 m tgt ls rest)) (kf : b ≤ a → W p l e R s m args below meth c H locs cells slots Q (F0 m (pc + 3) ls rest)) : W p l e R s m args below meth c H locs cells slots Q (F0 m pc ls (.int (jI b) :: .int (jI a) :: rest)) := by
  exact lv_icmp_lt hexec hb hdg ht (fun h => kt ((jI_lt ha hb9).mp h)) (fun h => kf (Int.not_lt.mp (fun q => h ((jI_lt ha hb9).mpr q))))
theorem jv_if_lt (hexec : p.tables.exec = Jvm.exec) (hb : c.code = cc) {off : Int} {tgt : Nat} (hdg : decode cc pc = .ok (.ifCond .lt off, 3)) (ht : (pc : Int) + off = (tgt : Int)) (ha : -2147483648 ≤ a ∧ a < 2147483648)
    (kt : a < 0 → W p l e R s m args below meth c H locs cells slots Q (F0 m tgt ls rest)) (kf : 0 ≤ a → W p l e R s m args below meth c H locs cells slots Q (F0 m (pc + 3) ls rest)) : W p l e R s m args below meth c H locs cells slots Q (F0 m pc ls (.int (jI a) :: rest)) := by
  have hb9 : (-2147483648 : Int) ≤ 0 ∧ (0 : Int) < 2147483648 := by decide
  exact lv_if_lt hexec hb hdg ht (fun h => kt ((jI_lt ha hb9).mp h)) (fun h => kf (Int.not_lt.mp (fun q => h ((jI_lt ha hb9).mpr q))))
theorem jv_icmp_ge (hexec : p.tables.exec = Jvm.exec) (hb : c.code = cc) {off : Int} {tgt : Nat} (hdg : decode cc pc = .ok (.if_icmp .ge off, 3)) (ht : (pc : Int) + off = (tgt : Int)) (ha : -2147483648 ≤ a ∧ a < 2147483648) (hb9 : -2147483648 ≤ b ∧ b < 2147483648)
    (kt : b ≤ a → W p l e R s m args below meth c H locs cells slots Q (F0 m tgt ls rest)) (kf : a < b → W p l e R s m args below meth c H locs cells slots Q (F0 m (pc + 3) ls rest)) : W p l e R s m args below meth c H locs cells slots Q (F0 m pc ls (.int (jI b) :: .int (jI a) :: rest)) := by
  exact lv_icmp_ge hexec hb hdg ht (fun h => kt ((jI_le hb9 ha).mp h)) (fun h => kf (Int.not_le.mp (fun q => h ((jI_le hb9 ha).mpr q))))
theorem jv_if_ge (hexec : p.tables.exec = Jvm.exec) (hb : c.code = cc) {off : Int} {tgt : Nat} (hdg : decode cc pc = .ok (.ifCond .ge off, 3)) (ht : (pc : Int) + off = (tgt : Int)) (ha : -2147483648 ≤ a ∧ a < 2147483648)
    (kt : 0 ≤ a → W p l e R s m args below meth c H locs cells slots Q (F0 m tgt ls rest)) (kf : a < 0 → W p l e R s m args below meth c H locs cells slots Q (F0 m (pc + 3) ls rest)) : W p l e R s m args below meth c H locs cells slots Q (F0 m pc ls (.int (jI a) :: rest)) := by
  have hb9 : (-2147483648 : Int) ≤ 0 ∧ (0 : Int) < 2147483648 := by decide
  exact lv_if_ge hexec hb hdg ht (fun h => kt ((jI_le hb9 ha).mp h)) (fun h => kf (Int.not_le.mp (fun q => h ((jI_le hb9 ha).mpr q))))
theorem jv_icmp_gt (hexec : p.tables.exec = Jvm.exec) (hb : c.code = cc) {off : Int} {tgt : Nat} (hdg : decode cc pc = .ok (.if_icmp .gt off, 3)) (ht : (pc : Int) + off = (tgt : Int)) (ha : -2147483648 ≤ a ∧ a < 2147483648) (hb9 : -2147483648 ≤ b ∧ b < 2147483648)
    (kt : b < a → W p l e R s m args below meth c H locs cells slots Q (F0 m tgt ls rest)) (kf : a ≤ b → W p l e R s m args below meth c H locs cells slots Q (F0 m (pc + 3) ls rest)) : W p l e R s m args below meth c H locs cells slots Q (F0 m pc ls (.int (jI b) :: .int (jI a) :: rest)) := by
  exact lv_icmp_gt hexec hb hdg ht (fun h => kt ((jI_lt hb9 ha).mp h)) (fun h => kf (Int.not_lt.mp (fun q => h ((jI_lt hb9 ha).mpr q))))
theorem jv_if_gt (hexec : p.tables.exec = Jvm.exec) (hb : c.code = cc) {off : Int} {tgt : Nat} (hdg : decode cc pc = .ok (.ifCond .gt off, 3)) (ht : (pc : Int) + off = (tgt : Int)) (ha : -2147483648 ≤ a ∧ a < 2147483648)
    (kt : 0 < a → W p l e R s m args below meth c H locs cells slots Q (F0 m tgt ls rest)) (kf : a ≤ 0 → W p l e R s m args below meth c H locs cells slots Q (F0 m (pc + 3) ls rest)) : W p l e R s m args below meth c H locs cells slots Q (F0 m pc ls (.int (jI a) :: rest)) := by
  have hb9 : (-2147483648 : Int) ≤ 0 ∧ (0 : Int) < 2147483648 := by decide
  exact lv_if_gt hexec hb hdg ht (fun h => kt ((jI_lt hb9 ha).mp h)) (fun h => kf (Int.not_lt.mp (fun q => h ((jI_lt hb9 ha).mpr q))))
theorem jv_icmp_le (hexec : p.tables.exec = Jvm.exec) (hb : c.code = cc) {off : Int} {tgt : Nat} (hdg : decode cc pc = .ok (.if_icmp .le off, 3)) (ht : (pc : Int) + off = (tgt : Int)) (ha : -2147483648 ≤ a ∧ a < 2147483648) (hb9 : -2147483648 ≤ b ∧ b < 2147483648)
    (kt : a ≤ b → W p l e R s m args below meth c H locs cells slots Q (F0 m tgt ls rest)) (kf : b < a → W p l e R s m args below meth c H locs cells slots Q (F0 m (pc + 3) ls rest)) : W p l e R s m args below meth c H locs cells slots Q (F0 m pc ls (.int (jI b) :: .int (jI a) :: rest)) := by
  exact lv_icmp_le hexec hb hdg ht (fun h => kt ((jI_le ha hb9).mp h)) (fun h => kf (Int.not_le.mp (fun q => h ((jI_le ha hb9).mpr q))))
theorem jv_if_le (hexec : p.tables.exec = Jvm.exec) (hb : c.code = cc) {off : Int} {tgt : Nat} (hdg : decode cc pc = .ok (.ifCond .le off, 3)) (ht : (pc : Int) + off = (tgt : Int)) (ha : -2147483648 ≤ a ∧ a < 2147483648)
    (kt : a ≤ 0 → W p l e R s m args below meth c H locs cells slots Q (F0 m tgt ls rest)) (kf : 0 < a → W p l e R s m args below meth c H locs cells slots Q (F0 m (pc + 3) ls rest)) : W p l e R s m args below meth c H locs cells slots Q (F0 m pc ls (.int (jI a) :: rest)) := by
  have hb9 : (-2147483648 : Int) ≤ 0 ∧ (0 : Int) < 2147483648 := by decide
  exact lv_if_le hexec hb hdg ht (fun h => kt ((jI_le ha hb9).mp h)) (fun h => kf (Int.not_le.mp (fun q => h ((jI_le ha hb9).mpr q))))
theorem jv_icmp_eq (hexec : p.tables.exec = Jvm.exec) (hb : c.code = cc) {off : Int} {tgt : Nat} (hdg : decode cc pc = .ok (.if_icmp .eq off, 3)) (ht : (pc : Int) + off = (tgt : Int)) (ha : -2147483648 ≤ a ∧ a < 2147483648) (hb9 : -2147483648 ≤ b ∧ b < 2147483648)
    (kt : a = b → W p l e R s m args below meth c H locs cells slots Q (F0 m tgt ls rest)) (kf : a ≠ b → W p l e R s m args below meth c H locs cells slots Q (F0 m (pc + 3) ls rest)) : W p l e R s m args below meth c H locs cells slots Q (F0 m pc ls (.int (jI b) :: .int (jI a) :: rest)) := by
  exact lv_icmp_eq hexec hb hdg ht (fun h => kt ((jI_eq ha hb9).mp h)) (fun h => kf (fun q => h ((jI_eq ha hb9).mpr q)))
theorem jv_if_eq (hexec : p.tables.exec = Jvm.exec) (hb : c.code = cc) {off : Int} {tgt : Nat} (hdg : decode cc pc = .ok (.ifCond .eq off, 3)) (ht : (pc : Int) + off = (tgt : Int)) (ha : -2147483648 ≤ a ∧ a < 2147483648)
    (kt : a = 0 → W p l e R s m args below meth c H locs cells slots Q (F0 m tgt ls rest)) (kf : a ≠ 0 → W p l e R s m args below meth c H locs cells slots Q (F0 m (pc + 3) ls rest)) : W p l e R s m args below meth c H locs cells slots Q (F0 m pc ls (.int (jI a) :: rest)) := by
  have hb9 : (-2147483648 : Int) ≤ 0 ∧ (0 : Int) < 2147483648 := by decide
  exact lv_if_eq hexec hb hdg ht (fun h => kt ((jI_eq ha hb9).mp h)) (fun h => kf (fun q => h ((jI_eq ha hb9).mpr q)))
theorem jv_icmp_ne (hexec : p.tables.exec = Jvm.exec) (hb : c.code = cc) {off : Int} {tgt : Nat} (hdg : decode cc pc = .ok (.if_icmp .ne off, 3)) (ht : (pc : Int) + off = (tgt : Int)) (ha : -2147483648 ≤ a ∧ a < 2147483648) (hb9 : -2147483648 ≤ b ∧ b < 2147483648)
    (kt : a ≠ b → W p l e R s m args below meth c H locs cells slots Q (F0 m tgt ls rest)) (kf : a = b → W p l e R s m args below meth c H locs cells slots Q (F0 m (pc + 3) ls rest)) : W p l e R s m args below meth c H locs cells slots Q (F0 m pc ls (.int (jI b) :: .int (jI a) :: rest)) := by
  exact lv_icmp_ne hexec hb hdg ht (fun h => kt (fun q => h ((jI_eq ha hb9).mpr q))) (fun h => kf ((jI_eq ha hb9).mp h))
theorem jv_if_ne (hexec : p.tables.exec = Jvm.exec) (hb : c.code = cc) {off : Int} {tgt : Nat} (hdg : decode cc pc = .ok (.ifCond .ne off, 3)) (ht : (pc : Int) + off = (tgt : Int)) (ha : -2147483648 ≤ a ∧ a < 2147483648)
    (kt : a ≠ 0 → W p l e R s m args below meth c H locs cells slots Q (F0 m tgt ls rest)) (kf : a = 0 → W p l e R s m args below meth c H locs cells slots Q (F0 m (pc + 3) ls rest)) : W p l e R s m args below meth c H locs cells slots Q (F0 m pc ls (.int (jI a) :: rest)) := by
  have hb9 : (-2147483648 : Int) ≤ 0 ∧ (0 : Int) < 2147483648 := by decide
  exact lv_if_ne hexec hb hdg ht (fun h => kt (fun q => h ((jI_eq ha hb9).mpr q))) (fun h => kf ((jI_eq ha hb9).mp h))
theorem jv_lcmp_lt (hexec : p.tables.exec = Jvm.exec) (hb : c.code = cc) {off : Int} {tgt : Nat} (hd0 : decode cc pc = .ok (.lcmp, 1)) (hdg : decode cc (pc + 1) = .ok (.ifCond .lt off, 3)) (ht : ((pc + 1 : Nat) : Int) + off = (tgt : Int)) (ha : -9223372036854775808 ≤ a ∧ a < 9223372036854775808) (hb9 : -9223372036854775808 ≤ b ∧ b < 9223372036854775808)
    (kt : a < b → W p l e R s m args below meth c H locs cells slots Q (F0 m tgt ls rest)) (kf : b ≤ a → W p l e R s m args below meth c H locs cells slots Q (F0 m (pc + 4) ls rest)) : W p l e R s m args below meth c H locs cells slots Q (F0 m pc ls (.long (jL b) :: .long (jL a) :: rest)) := by
  exact W.lcmp hexec hb hd0 (lv_if_lt hexec hb hdg ht (fun h => kt (((lg_cmp_lt (jL a) (jL b)).trans (jL_lt ha hb9)).mp h)) (fun h => kf (Int.not_lt.mp (fun q => h (((lg_cmp_lt (jL a) (jL b)).trans (jL_lt ha hb9)).mpr q)))))
theorem jv_lcmp_ge (hexec : p.tables.exec = Jvm.exec) (hb : c.code = cc) {off : Int} {tgt : Nat} (hd0 : decode cc pc = .ok (.lcmp, 1)) (hdg : decode cc (pc + 1) = .ok (.ifCond .ge off, 3)) (ht : ((pc + 1 : Nat) : Int) + off = (tgt : Int)) (ha : -9223372036854775808 ≤ a ∧ a < 9223372036854775808) (hb9 : -9223372036854775808 ≤ b ∧ b < 9223372036854775808)
    (kt : b ≤ a → W p l e R s m args below meth c H locs cells slots Q (F0 m tgt ls rest)) (kf : a < b → W p l e R s m args below meth c H locs cells slots Q (F0 m (pc + 4) ls rest)) : W p l e R s m args below meth c H locs cells slots Q (F0 m pc ls (.long (jL b) :: .long (jL a) :: rest)) := by
  exact W.lcmp hexec hb hd0 (lv_if_ge hexec hb hdg ht (fun h => kt (((lg_cmp_ge (jL a) (jL b)).trans (jL_le hb9 ha)).mp h)) (fun h => kf (Int.not_le.mp (fun q => h (((lg_cmp_ge (jL a) (jL b)).trans (jL_le hb9 ha)).mpr q)))))
theorem jv_lcmp_gt (hexec : p.tables.exec = Jvm.exec) (hb : c.code = cc) {off : Int} {tgt : Nat} (hd0 : decode cc pc = .ok (.lcmp, 1)) (hdg : decode cc (pc + 1) = .ok (.ifCond .gt off, 3)) (ht : ((pc + 1 : Nat) : Int) + off = (tgt : Int)) (ha : -9223372036854775808 ≤ a ∧ a < 9223372036854775808) (hb9 : -9223372036854775808 ≤ b ∧ b < 9223372036854775808)
    (kt : b < a → W p l e R s m args below meth c H locs cells slots Q (F0 m tgt ls rest)) (kf : a ≤ b → W p l e R s m args below meth c H locs cells slots Q (F0 m (pc + 4) ls rest)) : W p l e R s m args below meth c H locs cells slots Q (F0 m pc ls (.long (jL b) :: .long (jL a) :: rest)) := by
  exact W.lcmp hexec hb hd0 (lv_if_gt hexec hb hdg ht (fun h => kt (((lg_cmp_gt (jL a) (jL b)).trans (jL_lt hb9 ha)).mp h)) (fun h => kf (Int.not_lt.mp (fun q => h (((lg_cmp_gt (jL a) (jL b)).trans (jL_lt hb9 ha)).mpr q)))))
theorem jv_lcmp_le (hexec : p.tables.exec = Jvm.exec) (hb : c.code = cc) {off : Int} {tgt : Nat} (hd0 : decode cc pc = .ok (.lcmp, 1)) (hdg : decode cc (pc + 1) = .ok (.ifCond .le off, 3)) (ht : ((pc + 1 : Nat) : Int) + off = (tgt : Int)) (ha : -9223372036854775808 ≤ a ∧ a < 9223372036854775808) (hb9 : -9223372036854775808 ≤ b ∧ b < 9223372036854775808)
    (kt : a ≤ b → W p l e R s m args below meth c H locs cells slots Q (F0 m tgt ls rest)) (kf : b < a → W p l e R s m args below meth c H locs cells slots Q (F0 m (pc + 4) ls rest)) : W p l e R s m args below meth c H locs cells slots Q (F0 m pc ls (.long (jL b) :: .long (jL a) :: rest)) := by
  exact W.lcmp hexec hb hd0 (lv_if_le hexec hb hdg ht (fun h => kt (((lg_cmp_le (jL a) (jL b)).trans (jL_le ha hb9)).mp h)) (fun h => kf (Int.not_le.mp (fun q => h (((lg_cmp_le (jL a) (jL b)).trans (jL_le ha hb9)).mpr q)))))
theorem jv_lcmp_eq (hexec : p.tables.exec = Jvm.exec) (hb : c.code = cc) {off : Int} {tgt : Nat} (hd0 : decode cc pc = .ok (.lcmp, 1)) (hdg : decode cc (pc + 1) = .ok (.ifCond .eq off, 3)) (ht : ((pc + 1 : Nat) : Int) + off = (tgt : Int)) (ha : -9223372036854775808 ≤ a ∧ a < 9223372036854775808) (hb9 : -9223372036854775808 ≤ b ∧ b < 9223372036854775808)
    (kt : a = b → W p l e R s m args below meth c H locs cells slots Q (F0 m tgt ls rest)) (kf : a ≠ b → W p l e R s m args below meth c H locs cells slots Q (F0 m (pc + 4) ls rest)) : W p l e R s m args below meth c H locs cells slots Q (F0 m pc ls (.long (jL b) :: .long (jL a) :: rest)) := by
  exact W.lcmp hexec hb hd0 (lv_if_eq hexec hb hdg ht (fun h => kt (((lg_cmp_eq (jL a) (jL b)).trans (jL_eq ha hb9)).mp h)) (fun h => kf (fun q => h (((lg_cmp_eq (jL a) (jL b)).trans (jL_eq ha hb9)).mpr q))))
theorem jv_lcmp_ne (hexec : p.tables.exec = Jvm.exec) (hb : c.code = cc) {off : Int} {tgt : Nat} (hd0 : decode cc pc = .ok (.lcmp, 1)) (hdg : decode cc (pc + 1) = .ok (.ifCond .ne off, 3)) (ht : ((pc + 1 : Nat) : Int) + off = (tgt : Int)) (ha : -9223372036854775808 ≤ a ∧ a < 9223372036854775808) (hb9 : -9223372036854775808 ≤ b ∧ b < 9223372036854775808)
    (kt : a ≠ b → W p l e R s m args below meth c H locs cells slots Q (F0 m tgt ls rest)) (kf : a = b → W p l e R s m args below meth c H locs cells slots Q (F0 m (pc + 4) ls rest)) : W p l e R s m args below meth c H locs cells slots Q (F0 m pc ls (.long (jL b) :: .long (jL a) :: rest)) := by
  exact W.lcmp hexec hb hd0 (lv_if_ne hexec hb hdg ht (fun h => kt (fun q => h (((lg_cmp_eq (jL a) (jL b)).trans (jL_eq ha hb9)).mpr q))) (fun h => kf (((lg_cmp_eq (jL a) (jL b)).trans (jL_eq ha hb9)).mp h)))
theorem jv_ldc {own : String} {index : Nat} {v : Int32} {k : Int} (hexec : p.tables.exec = Jvm.exec) (hb : c.code = cc) (hown : s.vm.findClass own = some m.cls) (hconst : (Jvm.Cond.constant own index v).before args s = true) (hv : v = jI k) (hdg : decode cc pc = .ok (.ldc index, 2))
    (kk : W p l e R s m args below meth c H locs cells slots Q (F0 m (pc + 2) ls (.int (jI k) :: rest))) : W p l e R s m args below meth c H locs cells slots Q (F0 m pc ls rest) := lv_ldc hexec hb hown hconst hdg (by rw [hv]; exact kk)
theorem jv_ldc2 {own : String} {index : Nat} {v : Int64} {k : Int} (hexec : p.tables.exec = Jvm.exec) (hb : c.code = cc) (hown : s.vm.findClass own = some m.cls) (hconst : (Jvm.Cond.constantLong own index v).before args s = true) (hv : v = jL k) (hdg : decode cc pc = .ok (.ldc2_w index, 3))
    (kk : W p l e R s m args below meth c H locs cells slots Q (F0 m (pc + 3) ls (.long (jL k) :: rest))) : W p l e R s m args below meth c H locs cells slots Q (F0 m pc ls rest) := lv_ldc2 hexec hb hown hconst hdg (by rw [hv]; exact kk)
theorem jv_aload_n {k : Fin 4} {i : Nat} {o : Option Nat} (hexec : p.tables.exec = Jvm.exec) (hb : c.code = cc) (hdg : decode cc pc = .ok (.aload_n k, 1)) (hi : (k : Nat) = i) (hl : ls[i]? = some (.val (va_rf o)))
    (kk : W p l e R s m args below meth c H locs cells slots Q (F0 m (pc + 1) ls (va_rf o :: rest))) : W p l e R s m args below meth c H locs cells slots Q (F0 m pc ls rest) := by
  cases o with
  | none => exact lv_aload_nN hexec hb hdg hi hl kk
  | some x => exact lv_aload_n hexec hb hdg hi hl kk
theorem jv_aload {i : Nat} {o : Option Nat} (hexec : p.tables.exec = Jvm.exec) (hb : c.code = cc) (hdg : decode cc pc = .ok (.aload i, 2)) (hl : ls[i]? = some (.val (va_rf o)))
    (kk : W p l e R s m args below meth c H locs cells slots Q (F0 m (pc + 2) ls (va_rf o :: rest))) : W p l e R s m args below meth c H locs cells slots Q (F0 m pc ls rest) := by
  cases o with
  | none => exact lv_aloadN hexec hb hdg hl kk
  | some x => exact lv_aload hexec hb hdg hl kk
theorem jv_astore_n {k : Fin 4} {i nL : Nat} {o : Option Nat} {lv lv' : List (Nat × Value)} (hexec : p.tables.exec = Jvm.exec) (hb : c.code = cc) (hdg : decode cc pc = .ok (.astore_n k, 1)) (hi : (k : Nat) = i) (h : lv_has ls nL lv) (hn : i < nL) (hl : (i, va_rf o) :: lv.filter (fun q => !(q.1 == i) && !(q.1 + 1 == i && q.2.category == 2)) = lv')
    (kk : ∀ ls', lv_has ls' nL lv' → W p l e R s m args below meth c H locs cells slots Q (F0 m (pc + 1) ls' rest)) : W p l e R s m args below meth c H locs cells slots Q (F0 m pc ls (va_rf o :: rest)) := by
  cases o with
  | none => exact lv_astore_nN hexec hb hdg hi h hn hl kk
  | some x => exact lv_astore_n hexec hb hdg hi h hn hl kk
theorem jv_astore {i nL : Nat} {o : Option Nat} {lv lv' : List (Nat × Value)} (hexec : p.tables.exec = Jvm.exec) (hb : c.code = cc) (hdg : decode cc pc = .ok (.astore i, 2)) (h : lv_has ls nL lv) (hn : i < nL) (hl : (i, va_rf o) :: lv.filter (fun q => !(q.1 == i) && !(q.1 + 1 == i && q.2.category == 2)) = lv')
    (kk : ∀ ls', lv_has ls' nL lv' → W p l e R s m args below meth c H locs cells slots Q (F0 m (pc + 2) ls' rest)) : W p l e R s m args below meth c H locs cells slots Q (F0 m pc ls (va_rf o :: rest)) := by
  cases o with
  | none => exact lv_astoreN hexec hb hdg h hn hl kk
  | some x => exact lv_astore hexec hb hdg h hn hl kk
variable {D : va_G} {cl : List vw_C} {tys : List (ClassId × FieldType)} {x n : Nat} {cA : ClassId}
theorem jv_iald {i : Nat} {g : Nat → Int} (hexec : p.tables.exec = Jvm.exec) (hb : c.code = cc) (hK : va_K D cl tys s) (h : va_at D cl (x, .inl (cA, n, .inl (fun j => jI (g j)))) H) (t0 : Nat) (ht : tys[t0]? = some (cA, .int)) (ha : a = (i : Int)) (hi : i < n) (hn : n < 2147483648) (hdg : decode cc pc = .ok (.iaload, 1))
    (kk : W p l e R s m args below meth c H locs cells slots Q (F0 m (pc + 1) ls (.int (jI (g i)) :: rest))) : W p l e R s m args below meth c H locs cells slots Q (F0 m pc ls (.int (jI a) :: .ref x :: rest)) := by
  subst ha
  refine va_iald hexec hb hK (j_P1 h) 0 t0 rfl ht (jI_in hi hn) hdg ?_
  rw [jI_clampN (by omega)]
  exact kk
theorem jv_zald {i : Nat} {g : Nat → Bool} (hexec : p.tables.exec = Jvm.exec) (hb : c.code = cc) (hK : va_K D cl tys s) (h : va_at D cl (x, .inl (cA, n, .inl (fun j => jI (bI (g j))))) H) (t0 : Nat) (ht : tys[t0]? = some (cA, .boolean)) (ha : a = (i : Int)) (hi : i < n) (hn : n < 2147483648) (hdg : decode cc pc = .ok (.baload, 1))
    (kk : W p l e R s m args below meth c H locs cells slots Q (F0 m (pc + 1) ls (.int (jI (bI (g i))) :: rest))) : W p l e R s m args below meth c H locs cells slots Q (F0 m pc ls (.int (jI a) :: .ref x :: rest)) := by
  subst ha
  refine va_zald hexec hb hK (j_P1 h) 0 t0 rfl ht (jI_in hi hn) hdg ?_
  rw [jI_clampN (by omega)]
  exact kk
theorem jv_lald {i : Nat} {g : Nat → Int} (hexec : p.tables.exec = Jvm.exec) (hb : c.code = cc) (hK : va_K D cl tys s) (h : va_at D cl (x, .inl (cA, n, .inr (.inl (fun j => jL (g j))))) H) (t0 : Nat) (ht : tys[t0]? = some (cA, .long)) (ha : a = (i : Int)) (hi : i < n) (hn : n < 2147483648) (hdg : decode cc pc = .ok (.laload, 1))
    (kk : W p l e R s m args below meth c H locs cells slots Q (F0 m (pc + 1) ls (.long (jL (g i)) :: rest))) : W p l e R s m args below meth c H locs cells slots Q (F0 m pc ls (.int (jI a) :: .ref x :: rest)) := by
  subst ha
  refine va_lald hexec hb hK (j_P1 h) 0 t0 rfl ht (jI_in hi hn) hdg ?_
  rw [jI_clampN (by omega)]
  exact kk
theorem jv_aldq {i : Nat} {C : String} {g : Nat → Nat} (hexec : p.tables.exec = Jvm.exec) (hb : c.code = cc) (hK : va_K D cl tys s) (h : va_at D cl (x, .inl (cA, n, .inr (.inr (.inr (.inr (fun j => some (g j))))))) H) (t0 : Nat) (ht : tys[t0]? = some (cA, .object C)) (ha : a = (i : Int)) (hi : i < n) (hn : n < 2147483648) (hdg : decode cc pc = .ok (.aaload, 1))
    (kk : W p l e R s m args below meth c H locs cells slots Q (F0 m (pc + 1) ls (.ref (g i) :: rest))) : W p l e R s m args below meth c H locs cells slots Q (F0 m pc ls (.int (jI a) :: .ref x :: rest)) := by
  subst ha
  refine va_aldq hexec hb hK (j_P1 h) 0 t0 rfl ht (jI_in hi hn) hdg ?_
  rw [jI_clampN (by omega)]
  exact kk
end JV
/-! methods that read alone: the heap is the same behind them -/
def pu_Pc (av : List Value) (D : va_G) (cl : List vw_C) (tys : List (ClassId × FieldType)) (Pic : Heap → Prop) : Array Value → State → Prop := fun v U => v = av.toArray ∧ Pic U.heap ∧ va_K D cl tys U
def pu_Q (v : Option Value) : Array Value → State → Outcome → State → Prop := fun _ st o t => o = .returned v ∧ t.heap = st.heap
theorem pu_blind {av : List Value} {D : va_G} {cl : List vw_C} {tys : List (ClassId × FieldType)} {Pic : Heap → Prop} : FrameBlind (pu_Pc av D cl tys Pic) := fun a U g mk q => ⟨q.1, q.2.1, va_K.moved (u := U) (U := U.calling g mk a) (Vm.Alike.refl U.vm) q.2.2⟩
section PU
variable {p : Program} {l : Launch} {e : Env} {R : Room} {s : State} {m : MethodId} {args : Array Value} {below : List Frame} {meth : Method} {c : Code} {H : Heap} {locs : List Loc} {cells slots : Nat} {Q : State → Prop}
variable {cc : ByteArray} {pc : Nat} {ls : Array Slot} {rest st0 : List Value} {a : Array Value} {D : va_G} {cl : List vw_C} {tys : List (ClassId × FieldType)} {Pic : Heap → Prop}
theorem pu_preS {As : List Value} (hP : Pic H) (hK : va_K D cl tys s) : PreS s H (pu_Pc As D cl tys Pic) As := ⟨pu_blind, fun U hU hW => ⟨rfl, by rw [hU]; exact hP, va_K.moved hW.alike hK⟩⟩
theorem pu_preV {As fs : List Value} {b ci : Nat} {C : String} {T : u_T} {N : Nat} (hP : Pic H) (hK : va_K D cl tys s) (hc : cl[ci]? = some (C, T, N)) (he : va_at D cl (b, .inr (ci, fs)) H) : PreV s H C b (pu_Pc (.ref b :: As) D cl tys Pic) As :=
  ⟨pu_blind, va_recv hK (j_P1 he) hc (q0 := 0) rfl, fun U hU hW => ⟨rfl, by rw [hU]; exact hP, va_K.moved hW.alike hK⟩⟩
theorem pu_call {v : Option Value} (hr : va_Run p l e R s m args below meth c H locs cells slots 0 0 (F0 m pc ls st0) rest (pu_Q v a) (fun _ => False))
    (kk : W p l e R s m args below meth c H locs cells slots Q (F0 m (pc + 3) ls (v.toList ++ rest))) : W p l e R s m args below meth c H locs cells slots Q (F0 m pc ls st0) := by
  intro T hT X
  obtain ⟨v', st₀, t, T', L, h0, X', hL, e1, e2, ⟨hv, hh⟩, st⟩ := hr T hT X
  cases hv
  have hL0 : L = [] := by
    cases L with
    | nil => rfl
    | cons q L => exact (hL q List.mem_cons_self).elim
  subst hL0
  rw [List.append_nil] at X'
  obtain ⟨t2, a1, b1⟩ := kk T' (by rw [e1, hh, h0]) X'
  exact ⟨t2, st t2 a1, b1⟩
theorem pu_call1 {w : Value} (hr : va_Run p l e R s m args below meth c H locs cells slots 0 0 (F0 m pc ls st0) rest (pu_Q (some w) a) (fun _ => False))
    (kk : W p l e R s m args below meth c H locs cells slots Q (F0 m (pc + 3) ls (w :: rest))) : W p l e R s m args below meth c H locs cells slots Q (F0 m pc ls st0) := pu_call hr kk
theorem pu_iret {x y : Int} (hexec : p.tables.exec = Jvm.exec) (hb : c.code = cc) (hr : meth.sig.returnType = some .int) (hlocks : meth.locks = false) (hdg : decode cc pc = .ok (.ireturn, 1)) (hv : x = y) :
    W p l e R s m args below meth c s.heap [] 0 0 (MQ below (pu_Q (some (.int (jI y)))) args s 0 0 (fun _ => False)) (F0 m pc ls [.int (jI x)]) := by
  subst hv
  exact W.iret hexec hb hr (fun t ht _ => ⟨rfl, ht⟩) (fun q h => by cases h) hdg
theorem pu_lret {x y : Int} (hexec : p.tables.exec = Jvm.exec) (hb : c.code = cc) (hr : meth.sig.returnType = some .long) (hlocks : meth.locks = false) (hdg : decode cc pc = .ok (.lreturn, 1)) (hv : x = y) :
    W p l e R s m args below meth c s.heap [] 0 0 (MQ below (pu_Q (some (.long (jL y)))) args s 0 0 (fun _ => False)) (F0 m pc ls [.long (jL x)]) := by
  subst hv
  exact W.lret hexec hb hr (fun t ht _ => ⟨rfl, ht⟩) (fun q h => by cases h) hdg
theorem bI_narrow (b : Bool) : narrow .boolean (.int (jI (bI b))) = .int (jI (bI b)) := by cases b <;> decide
theorem pu_zret {x : Int} {y : Bool} (hexec : p.tables.exec = Jvm.exec) (hb : c.code = cc) (hr : meth.sig.returnType = some .boolean) (hlocks : meth.locks = false) (hdg : decode cc pc = .ok (.ireturn, 1)) (hv : x = bI y) :
    W p l e R s m args below meth c s.heap [] 0 0 (MQ below (pu_Q (some (.int (jI (bI y))))) args s 0 0 (fun _ => False)) (F0 m pc ls [.int (jI x)]) := by
  subst hv
  exact W.zret hexec hb hr (bI_narrow y) (fun t ht _ => ⟨rfl, ht⟩) (fun q h => by cases h) hdg
theorem pu_vret (hexec : p.tables.exec = Jvm.exec) (hb : c.code = cc) (hr : meth.sig.returnType = none) (hlocks : meth.locks = false) (hdg : decode cc pc = .ok (.return_, 1)) :
    W p l e R s m args below meth c s.heap [] 0 0 (MQ below (pu_Q none) args s 0 0 (fun _ => False)) (F0 m pc ls []) :=
  W.vret hexec hb hr (fun t ht _ => ⟨rfl, ht⟩) (fun q h => by cases h) hdg
theorem pu_aret {x y : Nat} {C : String} (hexec : p.tables.exec = Jvm.exec) (hb : c.code = cc) (hr : meth.sig.returnType = some (.object C)) (hlocks : meth.locks = false) (hdg : decode cc pc = .ok (.areturn, 1)) (hv : x = y) :
    W p l e R s m args below meth c s.heap [] 0 0 (MQ below (pu_Q (some (.ref y))) args s 0 0 (fun _ => False)) (F0 m pc ls [.ref x]) := by
  subst hv
  exact W.aret hexec hb hr (Or.inl ⟨C, rfl⟩) (Or.inr ⟨x, rfl⟩) (fun t ht _ => ⟨rfl, ht⟩) (fun q h => by cases h) hdg
end PU
/-- a loop: a measure that falls -/
theorem jw_loop {p : Program} {l : Launch} {e : Env} {R : Room} {s : State} {m : MethodId} {args : Array Value} {below : List Frame} {meth : Method} {c : Code} {cells slots : Nat} {Q : State → Prop} {pc : Nat} {H : Heap} {locs : List Loc} {X : Type} (mu : X → Nat) (Inv : X → Array Slot → Prop) (step : ∀ x ls, Inv x ls → (∀ y ls', Inv y ls' → mu y < mu x → W p l e R s m args below meth c H locs cells slots Q (F0 m pc ls' [])) → W p l e R s m args below meth c H locs cells slots Q (F0 m pc ls [])) (x : X) (ls : Array Slot) (h : Inv x ls) : W p l e R s m args below meth c H locs cells slots Q (F0 m pc ls []) := by
  have key : ∀ (n : Nat) (x : X) (ls : Array Slot), mu x < n → Inv x ls → W p l e R s m args below meth c H locs cells slots Q (F0 m pc ls []) := by
    intro n
    induction n with
    | zero => intro x ls h; exact absurd h (Nat.not_lt_zero _)
    | succ n ih => intro x ls hm hI; exact step x ls hI (fun y ls' hy hlt => ih y ls' (by omega) hy)
  exact key (mu x + 1) x ls (Nat.lt_succ_self _) h
/-- a loop that writes: heap and written places are part of its state -/
theorem jw_loop3 {p : Program} {l : Launch} {e : Env} {R : Room} {s : State} {m : MethodId} {args : Array Value} {below : List Frame} {meth : Method} {c : Code} {cells slots : Nat} {Q : State → Prop} {pc : Nat} {X : Type} (mu : X → Nat) (Inv : X → Heap → List Loc → Array Slot → Prop) (step : ∀ x H L ls, Inv x H L ls → (∀ y H' L' ls', Inv y H' L' ls' → mu y < mu x → W p l e R s m args below meth c H' L' cells slots Q (F0 m pc ls' [])) → W p l e R s m args below meth c H L cells slots Q (F0 m pc ls [])) (x : X) (H : Heap) (L : List Loc) (ls : Array Slot) (h : Inv x H L ls) : W p l e R s m args below meth c H L cells slots Q (F0 m pc ls []) := by
  have key : ∀ (n : Nat) (x : X) (H : Heap) (L : List Loc) (ls : Array Slot), mu x < n → Inv x H L ls → W p l e R s m args below meth c H L cells slots Q (F0 m pc ls []) := by
    intro n
    induction n with
    | zero => intro x H L ls h; exact absurd h (Nat.not_lt_zero _)
    | succ n ih => intro x H L ls hm hI; exact step x H L ls hI (fun y H' L' ls' hy hlt => ih y H' L' ls' (by omega) hy)
  exact key (mu x + 1) x H L ls (Nat.lt_succ_self _) h
/-! stores: what was there else stays -/
def jUp {α : Type} (f : Nat → α) (k : Nat) (v : α) : Nat → α := fun j => if j = k then v else f j
theorem jUp_s {α : Type} (f : Nat → α) (k : Nat) (v : α) : jUp f k v k = v := if_pos rfl
theorem jUp_n {α : Type} {f : Nat → α} {k j : Nat} {v : α} (h : j ≠ k) : jUp f k v j = f j := if_neg h
theorem jUp2_s {α : Type} (f : Nat → Nat → α) (i j : Nat) (v : α) : jUp f i (jUp (f i) j v) i j = v := by rw [jUp_s, jUp_s]
theorem jUp2_n {α : Type} {f : Nat → Nat → α} {i j i2 j2 : Nat} {v : α} (h : i2 ≠ i ∨ j2 ≠ j) : jUp f i (jUp (f i) j v) i2 j2 = f i2 j2 := by
  by_cases hi : i2 = i
  · subst hi
    rw [jUp_s]
    rcases h with h | h
    · exact absurd rfl h
    · exact jUp_n h
  · rw [jUp_n hi]
theorem jUp_two {α : Type} {f : Nat → Nat → α} {i j k : Nat} {v : α} (h : k ≠ j → f i k = v) : jUp f i (jUp (f i) j v) i k = v := by
  rw [jUp_s]
  by_cases hk : k = j
  · subst hk; exact jUp_s _ _ _
  · rw [jUp_n hk]; exact h hk
section JST
variable {p : Program} {l : Launch} {e : Env} {R : Room} {s : State} {m : MethodId} {args : Array Value} {below : List Frame} {meth : Method} {c : Code} {H : Heap} {locs : List Loc} {cells slots : Nat} {Q : State → Prop}
variable {cc : ByteArray} {pc : Nat} {ls : Array Slot} {rest : List Value} {a y : Int} {D : va_G} {cl : List vw_C} {tys : List (ClassId × FieldType)} {x n i : Nat} {cA : ClassId}
theorem jv_iast {gg : Nat → Int} (hexec : p.tables.exec = Jvm.exec) (hb : c.code = cc) (hK : va_K D cl tys s) (h : va_at D cl (x, .inl (cA, n, .inl (fun j => jI (gg j)))) H) (t0 : Nat) (ht : tys[t0]? = some (cA, .int)) (ha : a = (i : Int)) (hi : i < n) (hn : n < 2147483648) (hdg : decode cc pc = .ok (.iastore, 1))
    (kk : ∀ (H1 : Heap) (f : Nat), va_at D cl (x, .inl (cA, n, .inl (fun j => jI (jUp gg i y j)))) H1 → H1.size = H.size → (∀ q, q ≠ x → H1[q]? = H[q]?) → W p l e R s m args below meth c H1 (locs ++ [⟨x, f⟩]) cells slots Q (F0 m (pc + 1) ls rest)) :
    W p l e R s m args below meth c H locs cells slots Q (F0 m pc ls (.int (jI y) :: .int (jI a) :: .ref x :: rest)) := by
  subst ha
  have hin := jI_in hi hn
  refine W.iast hexec hb h ((hK.2 t0 _ ht).1 n (fun j => .int (jI (gg j)))) (fun q => by cases q) (by show ¬ (_ ∨ (arrV _ _ _).slots.size ≤ _); rw [arrV_size]; exact hin) rfl rfl hdg fun H1 e z oq => ?_
  refine kk H1 _ ?_ z oq
  show H1[x]? = some (vp_cell _ _)
  rw [e, vp_cell_i, vp_cell_i, arrV_store, jI_clampN (by omega)]
  congr 2
  funext q
  by_cases hq : q = i
  · subst hq
    simp [updV, jUp]
  · simp [updV, jUp, hq]
theorem jv_zast {gg : Nat → Bool} {w : Bool} (hexec : p.tables.exec = Jvm.exec) (hb : c.code = cc) (hK : va_K D cl tys s) (h : va_at D cl (x, .inl (cA, n, .inl (fun j => jI (bI (gg j))))) H) (t0 : Nat) (ht : tys[t0]? = some (cA, .boolean)) (ha : a = (i : Int)) (hi : i < n) (hn : n < 2147483648) (hw : y = bI w) (hdg : decode cc pc = .ok (.bastore, 1))
    (kk : ∀ (H1 : Heap) (f : Nat), va_at D cl (x, .inl (cA, n, .inl (fun j => jI (bI (jUp gg i w j))))) H1 → H1.size = H.size → (∀ q, q ≠ x → H1[q]? = H[q]?) → W p l e R s m args below meth c H1 (locs ++ [⟨x, f⟩]) cells slots Q (F0 m (pc + 1) ls rest)) :
    W p l e R s m args below meth c H locs cells slots Q (F0 m pc ls (.int (jI y) :: .int (jI a) :: .ref x :: rest)) := by
  subst ha
  subst hw
  have hin := jI_in hi hn
  refine W.zast hexec hb h ((hK.2 t0 _ ht).1 n (fun j => .int (jI (bI (gg j))))) (fun q => by cases q) (by show ¬ (_ ∨ (arrV _ _ _).slots.size ≤ _); rw [arrV_size]; exact hin) rfl rfl hdg fun H1 e z oq => ?_
  refine kk H1 _ ?_ z oq
  show H1[x]? = some (vp_cell _ _)
  rw [e, vp_cell_i, vp_cell_i, arrV_store, jI_clampN (by omega), bI_narrow]
  congr 2
  funext q
  by_cases hq : q = i
  · subst hq
    simp [updV, jUp]
  · simp [updV, jUp, hq]
theorem jv_last {gg : Nat → Int} (hexec : p.tables.exec = Jvm.exec) (hb : c.code = cc) (hK : va_K D cl tys s) (h : va_at D cl (x, .inl (cA, n, .inr (.inl (fun j => jL (gg j))))) H) (t0 : Nat) (ht : tys[t0]? = some (cA, .long)) (ha : a = (i : Int)) (hi : i < n) (hn : n < 2147483648) (hdg : decode cc pc = .ok (.lastore, 1))
    (kk : ∀ (H1 : Heap) (f : Nat), va_at D cl (x, .inl (cA, n, .inr (.inl (fun j => jL (jUp gg i y j))))) H1 → H1.size = H.size → (∀ q, q ≠ x → H1[q]? = H[q]?) → W p l e R s m args below meth c H1 (locs ++ [⟨x, f⟩]) cells slots Q (F0 m (pc + 1) ls rest)) :
    W p l e R s m args below meth c H locs cells slots Q (F0 m pc ls (.long (jL y) :: .int (jI a) :: .ref x :: rest)) := by
  subst ha
  have hin := jI_in hi hn
  refine W.last hexec hb h ((hK.2 t0 _ ht).1 n (fun j => .long (jL (gg j)))) (fun q => by cases q) (by show ¬ (_ ∨ (arrV _ _ _).slots.size ≤ _); rw [arrV_size]; exact hin) rfl rfl hdg fun H1 e z oq => ?_
  refine kk H1 _ ?_ z oq
  show H1[x]? = some (vp_cell _ _)
  rw [e, vp_cell_l, vp_cell_l, arrV_store, jI_clampN (by omega)]
  congr 2
  funext q
  by_cases hq : q = i
  · subst hq
    simp [updV, jUp]
  · simp [updV, jUp, hq]
theorem jv_put {own ref C : String} {T : u_T} {N ci index : Nat} {Ts : List Cond} (hexec : p.tables.exec = Jvm.exec) (hb : c.code = cc) (hts : ∀ w ∈ Ts, w.before args s = true) (hin : ∀ w ∈ u_ws C T N, w ∈ Ts) (ty0 : Nat → FieldType) (hty : ∀ k, k < N → parseFieldDescriptor (T k).2.2.1 = some (ty0 k)) (hnm : ∀ a, a < N → ∀ b, b < N → a ≠ b → (T a).2.1 ≠ (T b).2.1)
    (hown : s.vm.findClass own = some m.cls) (hK : va_K D cl tys s) {fs : List Value} (he : va_at D cl (x, .inr (ci, fs)) H) (hc : cl[ci]? = some (C, T, N)) (k : Nat) (hk : k < N) (hlink : (Cond.fieldLink own index ref (T k).2.1 (T k).2.2.1).before args s = true) (hsame : ∀ z, s.fieldFound? (T k).1 (T k).2.1 (T k).2.2.1 = some z → s.fieldFound? ref (T k).2.1 (T k).2.2.1 = some z) (hfin : (T k).2.2.2 = false)
    {ty : FieldType} {v : Value} (hd : parseFieldDescriptor (T k).2.2.1 = some ty) (hn : narrow ty v = v) (hfit : fits ty v = true) (hl : k < fs.length) (hdg : decode cc pc = .ok (.putfield index, 3))
    (kk : ∀ (H1 : Heap) (f : Nat), va_at D cl (x, .inr (ci, fs.set k v)) H1 → H1.size = H.size → (∀ q, q ≠ x → H1[q]? = H[q]?) → W p l e R s m args below meth c H1 (locs ++ [⟨x, f⟩]) cells slots Q (F0 m (pc + 3) ls rest)) :
    W p l e R s m args below meth c H locs cells slots Q (F0 m pc ls (v :: .ref x :: rest)) := by
  have hap := va_apart (own := own) hts hin ty0 hty hnm hK hc
  obtain ⟨r, h1, cell, q1, q2, q3, q4⟩ := he
  have hr : r = (C, T, N) := Option.some.inj (h1.symm.trans hc)
  subst hr
  obtain ⟨hS, hfc, kC, hkC, hkind⟩ := hK.1 ci _ hc
  obtain ⟨cf, kf, fi, f, hi, hsl⟩ := hS k hk
  have hlay := hts _ (hin _ (u_in_lay hk))
  unfold u_lay at hlay
  rw [if_neg (by rw [hfin]; decide)] at hlay
  have hst := (u_facts hfc hkC (u_lays hts hin hk) hi).1
  have h6 := u_store hfc hkC hkind hlay hi hd hn hfit
  refine W.putK hexec hb (f := f) ⟨hown, hlink, ⟨_, _, _, hsame _ hi⟩, hst⟩ (by rw [q2]; exact h6) q1 q3 (by rw [hsl]; exact k2_hasslot (q4 k hk)) rfl rfl hdg fun H' e1 e2 e3 => ?_
  rw [hsl] at e1
  exact kk H' _ ⟨_, hc, t_OB.to (V := updV (vp_V fs) k v) ⟨_, e1, q2, q3, t_set q4 hap hk v⟩ (fun j _ => vp_updV_set hl v j)⟩ e2 e3
end JST
end
section
/-! what the class computes, in whole numbers: a setting is (points, places, least times, most times, scale, delay) -/
abbrev jSet : Type := Nat × (Nat → Int) × (Nat → Int) × (Nat → Int) × Int × Int
def sN (S : jSet) : Nat := S.1
def sP (S : jSet) : Nat → Int := S.2.1
def sT (S : jSet) (mo : Bool) : Nat → Int := if mo then S.2.2.2.1 else S.2.2.1
def sS (S : jSet) : Int := S.2.2.2.2.1
def sD (S : jSet) : Int := S.2.2.2.2.2
def sOK (S : jSet) : Prop := sN S ≤ 6 ∧ (∀ i, i < sN S → 1 ≤ sP S i ∧ sP S i ≤ 5000) ∧ (∀ i mo, i < sN S → 0 ≤ sT S mo i ∧ sT S mo i ≤ 100000) ∧ (∀ i, i + 1 < sN S → sP S i < sP S (i + 1)) ∧ (10 ≤ sS S ∧ sS S ≤ 1000) ∧ (0 ≤ sD S ∧ sD S ≤ 10000)
/-- the piece that a current is on, among the first n -/
def cPc (S : jSet) (I : Int) : Nat → Int
  | 0 => -1
  | k + 1 => if sS S * sP S k ≤ 100 * I then (k : Int) else cPc S I k
def cPiece (S : jSet) (I : Int) : Int := cPc S I (sN S)
/-- the first current of a piece -/
def cSt (S : jSet) (i : Nat) : Int := (sS S * sP S i + 100 - 1) / 100
def cSb (S : jSet) (I : Int) : Nat → Nat → Int
  | 0, _ => 5001
  | k + 1, i => if I < cSt S i then min (cSt S i) 5001 else cSb S I k (i + 1)
def cStart (S : jSet) (I : Int) : Int := cSb S I (sN S) 0
def cParts (S : jSet) (q : Int) : Int := if q < 0 ∨ (sN S : Int) ≤ q + 1 then 1 else sS S * (sP S (q.toNat + 1) - sP S q.toNat)
def cTime (S : jSet) (mo : Bool) (q r I : Int) : Int :=
  if (sN S : Int) ≤ q + 1 then (sT S mo q.toNat + sD S) * r else (sT S mo q.toNat + sD S) * r + (sT S mo (q.toNat + 1) - sT S mo q.toNat) * (100 * I - sS S * sP S q.toNat)
def cWhole (S : jSet) (q I : Int) (mo : Bool) : Int := if cParts S q < 1 then -1 else cTime S mo q (cParts S q) I / cParts S q
def cWithin (S : jSet) (mo : Bool) (mg : Int) (T : jSet) (tm : Bool) (I : Int) : Bool :=
  if cPiece T I = -1 then true else if cPiece S I = -1 then false else
    decide ((cTime S mo (cPiece S I) (cParts S (cPiece S I)) I + mg * cParts S (cPiece S I)) * cParts T (cPiece T I) ≤ cTime T tm (cPiece T I) (cParts T (cPiece T I)) I * cParts S (cPiece S I))
def cBrk (L U : jSet) (mg : Int) (I : Int) : Bool := !cWithin L true mg U false I
def cEnd (L U : jSet) (f : Int) : Int := min (cStart L f) (cStart U f) - 1
def cTurn (P : Int → Bool) (last : Bool) : Nat → Int → Int → Int
  | 0, _, t => t
  | k + 1, b, t => if t - b ≤ 1 then t else if P ((b + t) / 2) = last then cTurn P last k b ((b + t) / 2) else cTurn P last k ((b + t) / 2) t
def cTurnIn (P : Int → Bool) (f en : Int) : Int := cTurn P (P en) 13 f en
def cFbs (P : Int → Bool) (E : Int → Int) : Nat → Int → Int
  | 0, _ => -1
  | k + 1, f => if 5000 < f then -1 else if P f then f else if P (E f) then f else cFbs P E k (E f + 1)
def cFb (P : Int → Bool) (E : Int → Int) : Int :=
  if cFbs P E 13 1 = -1 then -1 else if P (cFbs P E 13 1) then cFbs P E 13 1 else cTurnIn P (cFbs P E 13 1) (E (cFbs P E 13 1))
def cCi (P : Int → Bool) (f en : Int) : Int :=
  if P f = P en then (if P f then en - f + 1 else 0) else if P f then cTurnIn P f en - f else en - cTurnIn P f en + 1
def cCnt (P : Int → Bool) (E : Int → Int) : Nat → Int → Int → Int
  | 0, _, s => s
  | k + 1, f, s => if 5000 < f then s else cCnt P E k (E f + 1) (s + cCi P f (E f))
/-! what the document asks -/
def dF (P : Int → Bool) : Nat → Int → Int
  | 0, _ => -1
  | k + 1, f => if P f then f else dF P k (f + 1)
def dC (P : Int → Bool) : Nat → Int → Int
  | 0, _ => 0
  | k + 1, f => (if P f then 1 else 0) + dC P k (f + 1)
/-! ===== lemmas ===== -/
theorem sOK_mono {S : jSet} (h : sOK S) : ∀ (d i : Nat), i + d < sN S → sP S i ≤ sP S (i + d) := by
  intro d
  induction d with
  | zero => intro i _; exact Int.le_refl _
  | succ d ih =>
    intro i hi
    have h1 := ih i (by omega)
    have h2 := h.2.2.2.1 (i + d) (by omega)
    have h3 : i + (d + 1) = i + d + 1 := by omega
    rw [h3]
    omega
theorem sOK_le {S : jSet} (h : sOK S) {i j : Nat} (hij : i ≤ j) (hj : j < sN S) : sS S * sP S i ≤ sS S * sP S j := by
  have h1 := sOK_mono h (j - i) i (by omega)
  rw [show i + (j - i) = j by omega] at h1
  exact Int.mul_le_mul_of_nonneg_left h1 (by have := h.2.2.2.2.1; omega)
theorem sOK_pl {S : jSet} (h : sOK S) {i : Nat} (hi : i < sN S) : 10 ≤ sS S * sP S i ∧ sS S * sP S i ≤ 5000000 := by
  have h1 := h.2.1 i hi
  have h2 := h.2.2.2.2.1
  have a1 : sS S * 1 ≤ sS S * sP S i := Int.mul_le_mul_of_nonneg_left h1.1 (by omega)
  have a2 : sS S * sP S i ≤ sS S * 5000 := Int.mul_le_mul_of_nonneg_left h1.2 (by omega)
  omega
theorem cPc_spec (S : jSet) (I : Int) : ∀ n, (cPc S I n = -1 ∧ ∀ i, i < n → 100 * I < sS S * sP S i) ∨ ∃ k, k < n ∧ cPc S I n = (k : Int) ∧ sS S * sP S k ≤ 100 * I ∧ ∀ i, k < i → i < n → 100 * I < sS S * sP S i := by
  intro n
  induction n with
  | zero => exact Or.inl ⟨rfl, fun i h => absurd h (Nat.not_lt_zero i)⟩
  | succ n ih =>
    by_cases hc : sS S * sP S n ≤ 100 * I
    · refine Or.inr ⟨n, Nat.lt_succ_self n, ?_, hc, fun i h1 h2 => by omega⟩
      simp [cPc, hc]
    · have e : cPc S I (n + 1) = cPc S I n := by simp [cPc, hc]
      rw [e]
      rcases ih with ⟨h1, h2⟩ | ⟨k, h1, h2, h3, h4⟩
      · refine Or.inl ⟨h1, fun i hi => ?_⟩
        by_cases hin : i = n
        · subst hin; omega
        · exact h2 i (by omega)
      · refine Or.inr ⟨k, by omega, h2, h3, fun i hi hi2 => ?_⟩
        by_cases hin : i = n
        · subst hin; omega
        · exact h4 i hi (by omega)
theorem cPiece_range (S : jSet) (I : Int) : -1 ≤ cPiece S I ∧ cPiece S I < sN S := by
  rcases cPc_spec S I (sN S) with ⟨h1, -⟩ | ⟨k, h1, h2, -⟩
  · rw [cPiece, h1]; omega
  · rw [cPiece, h2]; omega
theorem cSt_lt (S : jSet) (i : Nat) (I : Int) : I < cSt S i ↔ 100 * I < sS S * sP S i := by
  unfold cSt
  omega
theorem cSt_mono {S : jSet} (h : sOK S) {i j : Nat} (hij : i ≤ j) (hj : j < sN S) : cSt S i ≤ cSt S j := by
  have := sOK_le h hij hj
  unfold cSt
  omega
theorem cSb_spec {S : jSet} (h : sOK S) {I : Int} (hI : I ≤ 5000) : ∀ (k i : Nat), i + k = sN S →
    I < cSb S I k i ∧ cSb S I k i ≤ 5001 ∧ (∀ j, i ≤ j → j < sN S → I < cSt S j → cSb S I k i ≤ cSt S j) ∧ (cSb S I k i = 5001 ∨ ∃ j, j < sN S ∧ cSb S I k i = cSt S j) := by
  intro k
  induction k with
  | zero =>
    intro i hi
    refine ⟨by simp [cSb]; omega, by simp [cSb], fun j h1 h2 => by omega, Or.inl (by simp [cSb])⟩
  | succ k ih =>
    intro i hi
    by_cases hc : I < cSt S i
    · have e : cSb S I (k + 1) i = min (cSt S i) 5001 := by simp [cSb, hc]
      rw [e]
      refine ⟨by omega, by omega, fun j h1 h2 h3 => ?_, ?_⟩
      · have := cSt_mono h h1 h2
        omega
      · by_cases h5 : cSt S i ≤ 5001
        · exact Or.inr ⟨i, by omega, by omega⟩
        · exact Or.inl (by omega)
    · have e : cSb S I (k + 1) i = cSb S I k (i + 1) := by simp [cSb, hc]
      rw [e]
      obtain ⟨a1, a2, a3, a4⟩ := ih (i + 1) (by omega)
      refine ⟨a1, a2, fun j h1 h2 h3 => ?_, a4⟩
      by_cases hij : j = i
      · subst hij; exact absurd h3 hc
      · exact a3 j (by omega) h2 h3
theorem cPc_congr {S : jSet} {I J : Int} : ∀ n, (∀ i, i < n → (sS S * sP S i ≤ 100 * I ↔ sS S * sP S i ≤ 100 * J)) → cPc S I n = cPc S J n := by
  intro n
  induction n with
  | zero => intro _; rfl
  | succ n ih =>
    intro h
    have h1 := h n (Nat.lt_succ_self n)
    have h2 := ih (fun i hi => h i (by omega))
    by_cases hc : sS S * sP S n ≤ 100 * I
    · have hc2 := h1.mp hc
      simp [cPc, hc, hc2]
    · have hc2 : ¬ sS S * sP S n ≤ 100 * J := fun q => hc (h1.mpr q)
      simp [cPc, hc, hc2, h2]
/-- up to the next start the piece stays -/
theorem cPiece_const {S : jSet} (h : sOK S) {f I : Int} (hf : f ≤ 5000) (h1 : f ≤ I) (h2 : I < cStart S f) : cPiece S I = cPiece S f := by
  refine cPc_congr (sN S) (fun i hi => ?_)
  constructor
  · intro hc
    apply Classical.byContradiction
    intro hn
    have h3 : f < cSt S i := (cSt_lt S i f).mpr (by omega)
    have h4 := (cSb_spec h hf (sN S) 0 (by omega)).2.2.1 i (by omega) hi h3
    have h5 : I < cSt S i := by unfold cStart at h2; omega
    have h6 := (cSt_lt S i I).mp h5
    omega
  · intro hc
    omega
/-- neither P nor its contrary has a gap -/
def cvx (P : Int → Bool) (x y : Int) : Prop := ∀ I J K, x ≤ I → I ≤ J → J ≤ K → K ≤ y → P I = P K → P J = P I
theorem aff_cvx {P : Int → Bool} {x y al be : Int} (h : ∀ I, x ≤ I → I ≤ y → (P I = true ↔ 0 < al + be * I)) : cvx P x y := by
  intro I J K h1 h2 h3 h4 he
  have hI := h I h1 (by omega)
  have hJ := h J (by omega) (by omega)
  have hK := h K (by omega) h4
  have key : (be * I ≤ be * J ∧ be * J ≤ be * K) ∨ (be * K ≤ be * J ∧ be * J ≤ be * I) := by
    by_cases hb : 0 ≤ be
    · exact Or.inl ⟨Int.mul_le_mul_of_nonneg_left h2 hb, Int.mul_le_mul_of_nonneg_left h3 hb⟩
    · exact Or.inr ⟨Int.mul_le_mul_of_nonpos_left (by omega) h3, Int.mul_le_mul_of_nonpos_left (by omega) h2⟩
  cases hp : P I with
  | true =>
    have a1 := hI.mp hp
    have a2 := hK.mp (he ▸ hp)
    exact hJ.mpr (by omega)
  | false =>
    have a1 : ¬ 0 < al + be * I := fun q => by rw [hI.mpr q] at hp; cases hp
    have a2 : ¬ 0 < al + be * K := fun q => by rw [he, hK.mpr q] at hp; cases hp
    cases hj : P J with
    | false => rfl
    | true => exact absurd (hJ.mp hj) (by omega)
theorem const_cvx {P : Int → Bool} {x y : Int} {b : Bool} (h : ∀ I, x ≤ I → I ≤ y → P I = b) : cvx P x y := fun I J K h1 h2 h3 h4 _ => by rw [h J (by omega) (by omega), h I h1 (by omega)]
/-- a time on a piece is a straight line -/
theorem cTime_aff (S : jSet) (mo : Bool) (q r : Int) : ∃ al be : Int, ∀ I, cTime S mo q r I = al + be * I := by
  by_cases hc : (sN S : Int) ≤ q + 1
  · exact ⟨(sT S mo q.toNat + sD S) * r, 0, fun I => by simp [cTime, hc]⟩
  · refine ⟨(sT S mo q.toNat + sD S) * r - (sT S mo (q.toNat + 1) - sT S mo q.toNat) * (sS S * sP S q.toNat), (sT S mo (q.toNat + 1) - sT S mo q.toNat) * 100, fun I => ?_⟩
    simp only [cTime, if_neg hc]
    rw [Int.mul_sub, ← Int.mul_assoc]
    omega
theorem cBrk_cvx {L U : jSet} (hL : sOK L) (hU : sOK U) (mg : Int) {f : Int} (hf : f ≤ 5000) : cvx (cBrk L U mg) f (cEnd L U f) := by
  have hl : ∀ I, f ≤ I → I ≤ cEnd L U f → cPiece L I = cPiece L f := fun I h1 h2 => cPiece_const hL hf h1 (by unfold cEnd at h2; omega)
  have hu : ∀ I, f ≤ I → I ≤ cEnd L U f → cPiece U I = cPiece U f := fun I h1 h2 => cPiece_const hU hf h1 (by unfold cEnd at h2; omega)
  by_cases h1 : cPiece U f = -1
  · exact const_cvx (b := false) (fun I a1 a2 => by simp [cBrk, cWithin, hu I a1 a2, h1])
  · by_cases h2 : cPiece L f = -1
    · exact const_cvx (b := true) (fun I a1 a2 => by simp [cBrk, cWithin, hu I a1 a2, hl I a1 a2, h1, h2])
    · obtain ⟨a, b, e1⟩ := cTime_aff L true (cPiece L f) (cParts L (cPiece L f))
      obtain ⟨c, d, e2⟩ := cTime_aff U false (cPiece U f) (cParts U (cPiece U f))
      refine aff_cvx (al := (a + mg * cParts L (cPiece L f)) * cParts U (cPiece U f) - c * cParts L (cPiece L f)) (be := b * cParts U (cPiece U f) - d * cParts L (cPiece L f)) (fun I a1 a2 => ?_)
      simp only [cBrk, cWithin, hu I a1 a2, hl I a1 a2, h1, h2, if_false, Bool.not_eq_true', decide_eq_false_iff_not, e1, e2]
      generalize cParts L (cPiece L f) = X
      generalize cParts U (cPiece U f) = Y
      have q1 : (a + b * I + mg * X) * Y = (a + mg * X) * Y + b * Y * I := by
        rw [show a + b * I + mg * X = (a + mg * X) + b * I by omega, Int.add_mul, Int.mul_right_comm]
      have q2 : (c + d * I) * X = c * X + d * X * I := by
        rw [Int.add_mul, Int.mul_right_comm]
      have q3 : (b * Y - d * X) * I = b * Y * I - d * X * I := Int.sub_mul _ _ _
      rw [q1, q2, q3]
      omega
theorem cEnd_range {L U : jSet} (hL : sOK L) (hU : sOK U) {f : Int} (hf : f ≤ 5000) : f ≤ cEnd L U f ∧ cEnd L U f ≤ 5000 := by
  have h1 := cSb_spec hL hf (sN L) 0 (by omega)
  have h2 := cSb_spec hU hf (sN U) 0 (by omega)
  unfold cEnd cStart
  omega
theorem cTurn_spec {P : Int → Bool} {last : Bool} : ∀ (k : Nat) (b t : Int), b < t → t - b ≤ 2 ^ k → P b ≠ last → P t = last → b < cTurn P last k b t ∧ cTurn P last k b t ≤ t ∧ P (cTurn P last k b t) = last ∧ P (cTurn P last k b t - 1) ≠ last := by
  intro k
  induction k with
  | zero =>
    intro b t h1 h2 h3 h4
    have h5 : t - 1 = b := by simp at h2; omega
    simp only [cTurn]
    exact ⟨h1, Int.le_refl _, h4, by rw [h5]; exact h3⟩
  | succ k ih =>
    intro b t h1 h2 h3 h4
    by_cases hc : t - b ≤ 1
    · have h5 : t - 1 = b := by omega
      simp only [cTurn, if_pos hc]
      exact ⟨h1, Int.le_refl _, h4, by rw [h5]; exact h3⟩
    · have h6 : t - b ≤ 2 * 2 ^ k := by rw [Int.pow_succ] at h2; omega
      by_cases hp : P ((b + t) / 2) = last
      · have e : cTurn P last (k + 1) b t = cTurn P last k b ((b + t) / 2) := by simp only [cTurn, if_neg hc, if_pos hp]
        rw [e]
        obtain ⟨a1, a2, a3, a4⟩ := ih b ((b + t) / 2) (by omega) (by omega) h3 hp
        exact ⟨a1, by omega, a3, a4⟩
      · have e : cTurn P last (k + 1) b t = cTurn P last k ((b + t) / 2) t := by simp only [cTurn, if_neg hc, if_neg hp]
        rw [e]
        obtain ⟨a1, a2, a3, a4⟩ := ih ((b + t) / 2) t (by omega) (by omega) hp h4
        exact ⟨by omega, a2, a3, a4⟩
/-- in a stretch whose ends differ: where it turns -/
theorem cTurnIn_spec {P : Int → Bool} {f en : Int} (h1 : 1 ≤ f) (h2 : en ≤ 5000) (hfe : f ≤ en) (hc : cvx P f en) (hne : P f ≠ P en) :
    f < cTurnIn P f en ∧ cTurnIn P f en ≤ en ∧ (∀ I, f ≤ I → I < cTurnIn P f en → P I = P f) ∧ ∀ I, cTurnIn P f en ≤ I → I ≤ en → P I = P en := by
  have hlt : f < en := by
    rcases Int.lt_or_eq_of_le hfe with h | h
    · exact h
    · rw [h] at hne; exact absurd rfl hne
  obtain ⟨a1, a2, a3, a4⟩ := cTurn_spec (P := P) (last := P en) 13 f en hlt (by omega) hne rfl
  refine ⟨a1, a2, fun I b1 b2 => ?_, fun I b1 b2 => ?_⟩
  · unfold cTurnIn at b2
    refine hc f I (cTurn P (P en) 13 f en - 1) (Int.le_refl _) b1 (by omega) (by omega) ?_
    revert a4 hne
    cases P f <;> cases P en <;> cases P (cTurn P _ 13 f en - 1) <;> simp
  · unfold cTurnIn at b1
    have := hc (cTurn P (P en) 13 f en) I en (by omega) b1 b2 (Int.le_refl _) a3
    rw [this, a3]
theorem dC_add (P : Int → Bool) : ∀ (n m : Nat) (f : Int), dC P (n + m) f = dC P n f + dC P m (f + n) := by
  intro n
  induction n with
  | zero => intro m f; simp [dC]
  | succ n ih =>
    intro m f
    rw [show n + 1 + m = (n + m) + 1 by omega]
    simp only [dC]
    rw [ih m (f + 1), show f + 1 + (n : Int) = f + ((n + 1 : Nat) : Int) by omega]
    omega
theorem dC_const {P : Int → Bool} {b : Bool} : ∀ (n : Nat) (f : Int), (∀ I, f ≤ I → I < f + n → P I = b) → dC P n f = if b then (n : Int) else 0 := by
  intro n
  induction n with
  | zero => intro f _; cases b <;> simp [dC]
  | succ n ih =>
    intro f h
    have h1 := ih (f + 1) (fun I a1 a2 => h I (by omega) (by omega))
    have h2 := h f (Int.le_refl _) (by omega)
    simp only [dC, h1, h2]
    cases b <;> simp <;> omega
theorem dF_skip {P : Int → Bool} : ∀ (n m : Nat) (f : Int), (∀ I, f ≤ I → I < f + n → P I = false) → dF P (n + m) f = dF P m (f + n) := by
  intro n
  induction n with
  | zero => intro m f _; simp
  | succ n ih =>
    intro m f h
    rw [show n + 1 + m = (n + m) + 1 by omega]
    have h2 := h f (Int.le_refl _) (by omega)
    simp only [dF, h2]
    rw [ih m (f + 1) (fun I a1 a2 => h I (by omega) (by omega)), show f + 1 + (n : Int) = f + ((n + 1 : Nat) : Int) by omega]
    simp
theorem dF_hit {P : Int → Bool} {m : Nat} {f : Int} (h : P f = true) (hm : 0 < m) : dF P m f = f := by
  cases m with
  | zero => omega
  | succ m => simp [dF, h]
/-- the count in a stretch -/
theorem cCi_spec {P : Int → Bool} {f en : Int} (h1 : 1 ≤ f) (h2 : en ≤ 5000) (hfe : f ≤ en) (hc : cvx P f en) : cCi P f en = dC P (en + 1 - f).toNat f := by
  unfold cCi
  by_cases he : P f = P en
  · rw [if_pos he, dC_const (b := P f) (en + 1 - f).toNat f (fun I a1 a2 => hc f I en (Int.le_refl _) a1 (by omega) (Int.le_refl _) he)]
    cases P f <;> simp <;> omega
  · rw [if_neg he]
    obtain ⟨a1, a2, a3, a4⟩ := cTurnIn_spec h1 h2 hfe hc he
    generalize cTurnIn P f en = t at a1 a2 a3 a4 ⊢
    have e : (en + 1 - f).toNat = (t - f).toNat + (en + 1 - t).toNat := by omega
    rw [e, dC_add, dC_const (b := P f) (t - f).toNat f (fun I b1 b2 => a3 I b1 (by omega)), show f + ((t - f).toNat : Int) = t by omega, dC_const (b := P en) (en + 1 - t).toNat t (fun I b1 b2 => a4 I b1 (by omega))]
    revert he
    cases P f <;> cases P en <;> simp <;> omega
/-- how many starts lie behind a current -/
def cK (S : jSet) (f : Int) : Nat → Nat
  | 0 => 0
  | i + 1 => cK S f i + (if f < cSt S i then 1 else 0)
theorem cK_le (S : jSet) (f : Int) : ∀ n, cK S f n ≤ n := by
  intro n
  induction n with
  | zero => exact Nat.le_refl _
  | succ n ih => simp only [cK]; split <;> omega
theorem cK_anti (S : jSet) {f g : Int} (h : f ≤ g) : ∀ n, cK S g n ≤ cK S f n := by
  intro n
  induction n with
  | zero => exact Nat.le_refl _
  | succ n ih =>
    simp only [cK]
    by_cases h1 : g < cSt S n
    · rw [if_pos h1, if_pos (by omega)]; omega
    · rw [if_neg h1]; split <;> omega
theorem cK_drop (S : jSet) {f : Int} {j : Nat} (h : f < cSt S j) : ∀ n, j < n → cK S (cSt S j) n < cK S f n := by
  intro n
  induction n with
  | zero => intro hj; omega
  | succ n ih =>
    intro hj
    simp only [cK]
    by_cases hjn : j = n
    · subst hjn
      rw [if_pos h, if_neg (Int.lt_irrefl _)]
      have := cK_anti S (f := f) (g := cSt S j) (by omega) j
      omega
    · have h1 := ih (by omega)
      by_cases h2 : cSt S j < cSt S n
      · rw [if_pos h2, if_pos (by omega)]; omega
      · rw [if_neg h2]; split <;> omega
theorem cEnd_next {L U : jSet} (hL : sOK L) (hU : sOK U) {f : Int} (hf : f ≤ 5000) : 5000 < cEnd L U f + 1 ∨ cK L (cEnd L U f + 1) (sN L) + cK U (cEnd L U f + 1) (sN U) < cK L f (sN L) + cK U f (sN U) := by
  have h1 := cSb_spec hL hf (sN L) 0 (by omega)
  have h2 := cSb_spec hU hf (sN U) 0 (by omega)
  have hr := cEnd_range hL hU hf
  by_cases h5 : 5000 < cEnd L U f + 1
  · exact Or.inl h5
  · refine Or.inr ?_
    have e : cEnd L U f + 1 = cStart L f ∨ cEnd L U f + 1 = cStart U f := by unfold cEnd; omega
    have aL := cK_anti L (f := f) (g := cEnd L U f + 1) (by omega) (sN L)
    have aU := cK_anti U (f := f) (g := cEnd L U f + 1) (by omega) (sN U)
    rcases e with e | e
    · rcases h1.2.2.2 with h | ⟨j, hj, h⟩
      · exfalso; unfold cStart at e; omega
      · have e2 : cEnd L U f + 1 = cSt L j := by rw [e]; exact h
        have hlt : f < cSt L j := by omega
        have := cK_drop L hlt (sN L) hj
        rw [e2] at aU ⊢
        omega
    · rcases h2.2.2.2 with h | ⟨j, hj, h⟩
      · exfalso; unfold cStart at e; omega
      · have e2 : cEnd L U f + 1 = cSt U j := by rw [e]; exact h
        have hlt : f < cSt U j := by omega
        have := cK_drop U hlt (sN U) hj
        rw [e2] at aL ⊢
        omega
theorem cCnt_spec {L U : jSet} (hL : sOK L) (hU : sOK U) (mg : Int) : ∀ (k : Nat) (f s : Int), 1 ≤ f → f ≤ 5001 → (5000 < f ∨ cK L f (sN L) + cK U f (sN U) < k) →
    cCnt (cBrk L U mg) (cEnd L U) k f s = s + dC (cBrk L U mg) (5001 - f).toNat f := by
  intro k
  induction k with
  | zero =>
    intro f s h1 h2 h3
    have : f = 5001 := by omega
    subst this
    simp [cCnt, dC]
  | succ k ih =>
    intro f s h1 h2 h3
    by_cases hc : 5000 < f
    · have : f = 5001 := by omega
      subst this
      simp [cCnt, dC]
    · have hr := cEnd_range hL hU (f := f) (by omega)
      have hn := cEnd_next hL hU (f := f) (by omega)
      simp only [cCnt, if_neg hc]
      rw [ih (cEnd L U f + 1) _ (by omega) (by omega) (by omega), cCi_spec h1 hr.2 hr.1 (cBrk_cvx hL hU mg (by omega))]
      have e : (5001 - f).toNat = (cEnd L U f + 1 - f).toNat + (5001 - (cEnd L U f + 1)).toNat := by omega
      rw [e, dC_add, show f + ((cEnd L U f + 1 - f).toNat : Int) = cEnd L U f + 1 by omega]
      omega
/-- broken(): the count over all currents -/
theorem cCnt_all {L U : jSet} (hL : sOK L) (hU : sOK U) (mg : Int) : cCnt (cBrk L U mg) (cEnd L U) 13 1 0 = dC (cBrk L U mg) 5000 1 := by
  have h1 := cK_le L 1 (sN L)
  have h2 := cK_le U 1 (sN U)
  have h3 := hL.1
  have h4 := hU.1
  rw [cCnt_spec hL hU mg 13 1 0 (by omega) (by omega) (by omega)]
  simp
theorem cFbs_spec {L U : jSet} (hL : sOK L) (hU : sOK U) (mg : Int) : ∀ (k : Nat) (f : Int), 1 ≤ f → f ≤ 5001 → (5000 < f ∨ cK L f (sN L) + cK U f (sN U) < k) →
    (cFbs (cBrk L U mg) (cEnd L U) k f = -1 ∧ ∀ I, f ≤ I → I ≤ 5000 → cBrk L U mg I = false) ∨
    (∃ g, f ≤ g ∧ g ≤ 5000 ∧ cFbs (cBrk L U mg) (cEnd L U) k f = g ∧ (∀ I, f ≤ I → I < g → cBrk L U mg I = false) ∧ (cBrk L U mg g = true ∨ (cBrk L U mg g = false ∧ cBrk L U mg (cEnd L U g) = true))) := by
  intro k
  induction k with
  | zero =>
    intro f h1 h2 h3
    exact Or.inl ⟨by simp [cFbs], fun I a1 a2 => by omega⟩
  | succ k ih =>
    intro f h1 h2 h3
    by_cases hc : 5000 < f
    · exact Or.inl ⟨by simp [cFbs, hc], fun I a1 a2 => by omega⟩
    · have hr := cEnd_range hL hU (f := f) (by omega)
      have hn := cEnd_next hL hU (f := f) (by omega)
      by_cases p1 : cBrk L U mg f = true
      · refine Or.inr ⟨f, Int.le_refl _, by omega, by simp [cFbs, hc, p1], fun I a1 a2 => by omega, Or.inl p1⟩
      · have p1' : cBrk L U mg f = false := by simpa using p1
        by_cases p2 : cBrk L U mg (cEnd L U f) = true
        · refine Or.inr ⟨f, Int.le_refl _, by omega, by simp [cFbs, hc, p1', p2], fun I a1 a2 => by omega, Or.inr ⟨p1', p2⟩⟩
        · have p2' : cBrk L U mg (cEnd L U f) = false := by simpa using p2
          have e : cFbs (cBrk L U mg) (cEnd L U) (k + 1) f = cFbs (cBrk L U mg) (cEnd L U) k (cEnd L U f + 1) := by simp [cFbs, hc, p1', p2']
          have hst : ∀ I, f ≤ I → I ≤ cEnd L U f → cBrk L U mg I = false := fun I a1 a2 => by
            rw [cBrk_cvx hL hU mg (by omega) f I (cEnd L U f) (Int.le_refl _) a1 a2 (Int.le_refl _) (by rw [p1', p2'])]
            exact p1'
          rw [e]
          rcases ih (cEnd L U f + 1) (by omega) (by omega) (by omega) with ⟨b1, b2⟩ | ⟨g, b1, b2, b3, b4, b5⟩
          · refine Or.inl ⟨b1, fun I a1 a2 => ?_⟩
            by_cases hI : I ≤ cEnd L U f
            · exact hst I a1 hI
            · exact b2 I (by omega) a2
          · refine Or.inr ⟨g, by omega, b2, b3, fun I a1 a2 => ?_, b5⟩
            by_cases hI : I ≤ cEnd L U f
            · exact hst I a1 hI
            · exact b4 I (by omega) a2
theorem cFbs_all {L U : jSet} (hL : sOK L) (hU : sOK U) (mg : Int) :
    (cFbs (cBrk L U mg) (cEnd L U) 13 1 = -1 ∧ ∀ I, 1 ≤ I → I ≤ 5000 → cBrk L U mg I = false) ∨
    (∃ g, 1 ≤ g ∧ g ≤ 5000 ∧ cFbs (cBrk L U mg) (cEnd L U) 13 1 = g ∧ (∀ I, 1 ≤ I → I < g → cBrk L U mg I = false) ∧ (cBrk L U mg g = true ∨ (cBrk L U mg g = false ∧ cBrk L U mg (cEnd L U g) = true))) := by
  have h1 := cK_le L 1 (sN L)
  have h2 := cK_le U 1 (sN U)
  have h3 := hL.1
  have h4 := hU.1
  exact cFbs_spec hL hU mg 13 1 (by omega) (by omega) (by omega)
theorem cFbs_rng {L U : jSet} (hL : sOK L) (hU : sOK U) (mg : Int) : -1 ≤ cFbs (cBrk L U mg) (cEnd L U) 13 1 ∧ cFbs (cBrk L U mg) (cEnd L U) 13 1 ≤ 5000 := by
  rcases cFbs_all hL hU mg with ⟨b1, -⟩ | ⟨g, b1, b2, b3, -⟩
  · omega
  · omega
/-- order(): the first current that is broken, or -1 -/
theorem cFb_all {L U : jSet} (hL : sOK L) (hU : sOK U) (mg : Int) : cFb (cBrk L U mg) (cEnd L U) = dF (cBrk L U mg) 5000 1 := by
  rcases cFbs_all hL hU mg with ⟨b1, b2⟩ | ⟨g, b1, b2, b3, b4, b5⟩
  · have h := dF_skip (P := cBrk L U mg) 5000 0 1 (fun I a1 a2 => b2 I a1 (by omega))
    rw [Nat.add_zero] at h
    rw [h]
    simp [cFb, b1, dF]
  · have hg : g ≠ -1 := by omega
    have h := dF_skip (P := cBrk L U mg) (g - 1).toNat (5001 - g).toNat 1 (fun I a1 a2 => b4 I a1 (by omega))
    rw [show (g - 1).toNat + (5001 - g).toNat = 5000 by omega, show (1 : Int) + ((g - 1).toNat : Int) = g by omega] at h
    rw [h]
    unfold cFb
    rw [b3, if_neg hg]
    rcases b5 with p | ⟨p, q⟩
    · rw [if_pos p, dF_hit p (by omega)]
    · rw [if_neg (by simp [p])]
      have hr := cEnd_range hL hU (f := g) (by omega)
      obtain ⟨a1, a2, a3, a4⟩ := cTurnIn_spec b1 hr.2 hr.1 (cBrk_cvx hL hU mg (by omega)) (by rw [p, q]; decide)
      generalize cTurnIn (cBrk L U mg) g (cEnd L U g) = t at a1 a2 a3 a4 ⊢
      have h2 := dF_skip (P := cBrk L U mg) (t - g).toNat (5001 - t).toNat g (fun I c1 c2 => by rw [a3 I c1 (by omega)]; exact p)
      rw [show (t - g).toNat + (5001 - t).toNat = (5001 - g).toNat by omega, show g + ((t - g).toNat : Int) = t by omega] at h2
      rw [h2, dF_hit (by rw [a4 t (Int.le_refl _) a2]; exact q) (by omega)]
/-! ===== how large the numbers are ===== -/
theorem cParts_range {S : jSet} (h : sOK S) {q : Int} (hq : q < sN S) : 1 ≤ cParts S q ∧ cParts S q ≤ 5000000 := by
  unfold cParts
  by_cases hc : q < 0 ∨ (sN S : Int) ≤ q + 1
  · rw [if_pos hc]; omega
  · rw [if_neg hc]
    have h1 := h.2.1 q.toNat (by omega)
    have h2 := h.2.1 (q.toNat + 1) (by omega)
    have h3 := h.2.2.2.1 q.toNat (by omega)
    have h4 := h.2.2.2.2.1
    have a1 : sS S * 1 ≤ sS S * (sP S (q.toNat + 1) - sP S q.toNat) := Int.mul_le_mul_of_nonneg_left (by omega) (by omega)
    have a2 : sS S * (sP S (q.toNat + 1) - sP S q.toNat) ≤ sS S * 5000 := Int.mul_le_mul_of_nonneg_left (by omega) (by omega)
    omega
/-- between two points the way from the first is a part of the whole way -/
theorem cLine {t u d r x : Int} (ht : 0 ≤ t ∧ t ≤ 100000) (hu : 0 ≤ u ∧ u ≤ 100000) (hd : 0 ≤ d ∧ d ≤ 10000) (hx : 0 ≤ x ∧ x ≤ r) : 0 ≤ (t + d) * r + (u - t) * x ∧ (t + d) * r + (u - t) * x ≤ 110000 * r := by
  have e : (t + d) * r + (u - t) * x = d * r + (t * (r - x) + u * x) := by
    rw [Int.add_mul, Int.sub_mul, Int.mul_sub]
    omega
  have a1 := Int.mul_nonneg hd.1 (show 0 ≤ r by omega)
  have a2 := Int.mul_nonneg ht.1 (show 0 ≤ r - x by omega)
  have a3 := Int.mul_nonneg hu.1 hx.1
  have b1 : d * r ≤ 10000 * r := Int.mul_le_mul_of_nonneg_right hd.2 (by omega)
  have b2 : t * (r - x) ≤ 100000 * (r - x) := Int.mul_le_mul_of_nonneg_right ht.2 (by omega)
  have b3 : u * x ≤ 100000 * x := Int.mul_le_mul_of_nonneg_right hu.2 (by omega)
  rw [e]
  omega
theorem cTime_range {S : jSet} (h : sOK S) (mo : Bool) {I : Int} {k : Nat} (hk : cPiece S I = (k : Int)) : 0 ≤ cTime S mo k (cParts S k) I ∧ cTime S mo k (cParts S k) I ≤ 110000 * cParts S k := by
  have hkn : k < sN S := by have := cPiece_range S I; omega
  have hr := cParts_range h (q := (k : Int)) (by omega)
  have h1 := h.2.2.1 k mo hkn
  have h4 := h.2.2.2.2.2
  by_cases hc : (sN S : Int) ≤ (k : Int) + 1
  · have e : cTime S mo k (cParts S k) I = (sT S mo k + sD S) * cParts S k := by simp [cTime, hc]
    rw [e]
    have a1 := Int.mul_nonneg (show 0 ≤ sT S mo k + sD S by omega) (show 0 ≤ cParts S k by omega)
    have a2 : (sT S mo k + sD S) * cParts S k ≤ 110000 * cParts S k := Int.mul_le_mul_of_nonneg_right (by omega) (by omega)
    exact ⟨a1, a2⟩
  · have e : cTime S mo k (cParts S k) I = (sT S mo k + sD S) * cParts S k + (sT S mo (k + 1) - sT S mo k) * (100 * I - sS S * sP S k) := by simp [cTime, hc]
    rw [e]
    refine cLine h1 (h.2.2.1 (k + 1) mo (by omega)) h4 ?_
    have e2 : cParts S k = sS S * sP S (k + 1) - sS S * sP S k := by
      have : ¬ ((k : Int) < 0 ∨ (sN S : Int) ≤ (k : Int) + 1) := by omega
      simp only [cParts, if_neg this, Int.toNat_natCast, Int.mul_sub]
    rcases cPc_spec S I (sN S) with ⟨b1, -⟩ | ⟨j, b1, b2, b3, b4⟩
    · unfold cPiece at hk; omega
    · have : j = k := by unfold cPiece at hk; omega
      subst this
      have := b4 (j + 1) (by omega) (by omega)
      omega
theorem cMul_range {x y : Int} (hx : 0 ≤ x ∧ x ≤ 600000000000) (hy : 0 ≤ y ∧ y ≤ 5000000) : -9223372036854775808 ≤ x * y ∧ x * y < 9223372036854775808 := by
  have a1 := Int.mul_nonneg hx.1 hy.1
  have a2 : x * y ≤ 600000000000 * 5000000 := Int.mul_le_mul hx.2 hy.2 hy.1 (by decide)
  omega
theorem cWithin_range {S T : jSet} {mo tm : Bool} {mg I : Int} (hoS : sOK S) (hoT : sOK T) (hmg : 0 ≤ mg ∧ mg ≤ 10000) (h1 : cPiece T I ≠ -1) (h2 : cPiece S I ≠ -1) :
    (-9223372036854775808 ≤ (cTime S mo (cPiece S I) (cParts S (cPiece S I)) I + mg * cParts S (cPiece S I)) * cParts T (cPiece T I) ∧ (cTime S mo (cPiece S I) (cParts S (cPiece S I)) I + mg * cParts S (cPiece S I)) * cParts T (cPiece T I) < 9223372036854775808) ∧
    (-9223372036854775808 ≤ cTime T tm (cPiece T I) (cParts T (cPiece T I)) I * cParts S (cPiece S I) ∧ cTime T tm (cPiece T I) (cParts T (cPiece T I)) I * cParts S (cPiece S I) < 9223372036854775808) := by
  have rS := cPiece_range S I
  have rT := cPiece_range T I
  obtain ⟨k, hk⟩ : ∃ k : Nat, cPiece S I = (k : Int) := ⟨(cPiece S I).toNat, by omega⟩
  obtain ⟨j, hj⟩ : ∃ j : Nat, cPiece T I = (j : Int) := ⟨(cPiece T I).toNat, by omega⟩
  have tS := cTime_range hoS mo hk
  have tT := cTime_range hoT tm hj
  have pS := cParts_range hoS (q := (k : Int)) (by omega)
  have pT := cParts_range hoT (q := (j : Int)) (by omega)
  rw [hk, hj]
  have m1 := Int.mul_nonneg hmg.1 (show 0 ≤ cParts S k by omega)
  have m2 : mg * cParts S k ≤ 10000 * cParts S k := Int.mul_le_mul_of_nonneg_right hmg.2 (by omega)
  exact ⟨cMul_range (by omega) (by omega), cMul_range (by omega) (by omega)⟩
end
section
/-! settling: options by tries from the last device to the first -/
section Settle
/-- a row of options that fits: n devices, their uppers, how many options, ok i j k: option j of i goes with option k of its upper -/
def vRow (n : Nat) (up : Nat → Option Nat) (op : Nat → Nat) (ok : Nat → Nat → Nat → Bool) (r : Nat → Nat) : Prop := ∀ i, i < n → r i < op i ∧ ∀ u, up i = some u → ok i (r i) (r u) = true
/-- r comes before q -/
def lexLt (n : Nat) (r q : Nat → Nat) : Prop := ∃ i, i < n ∧ (∀ j, j < i → r j = q j) ∧ r i < q i
/-- the first row that fits -/
def fRow (n : Nat) (up : Nat → Option Nat) (op : Nat → Nat) (ok : Nat → Nat → Nat → Bool) (r : Nat → Nat) : Prop := vRow n up op ok r ∧ ∀ q, vRow n up op ok q → (∀ i, i < n → r i = q i) ∨ lexLt n r q
theorem fRow_eq {n : Nat} {up : Nat → Option Nat} {op : Nat → Nat} {ok : Nat → Nat → Nat → Bool} {r q : Nat → Nat} (hr : fRow n up op ok r) (hq : fRow n up op ok q) : ∀ i, i < n → r i = q i := by
  rcases hr.2 q hq.1 with h | ⟨i, h1, h2, h3⟩
  · exact h
  · rcases hq.2 r hr.1 with h | ⟨j, k1, k2, k3⟩
    · exact fun i hi => (h i hi).symm
    · exfalso
      rcases Nat.lt_trichotomy i j with h | h | h
      · have := k2 i h; omega
      · subst h; omega
      · have := h2 j h; omega
/-- the first option from j on, among k, that p holds of; -1 if none -/
def cFit (p : Nat → Bool) : Nat → Nat → Int
  | 0, _ => -1
  | k + 1, j => if p j then (j : Int) else cFit p k (j + 1)
theorem cFit_spec (p : Nat → Bool) : ∀ (k j : Nat), (cFit p k j = -1 ∧ ∀ i, j ≤ i → i < j + k → p i = false) ∨ ∃ i, j ≤ i ∧ i < j + k ∧ cFit p k j = (i : Int) ∧ p i = true ∧ ∀ h, j ≤ h → h < i → p h = false := by
  intro k
  induction k with
  | zero => intro j; exact Or.inl ⟨rfl, fun i h1 h2 => by omega⟩
  | succ k ih =>
    intro j
    cases hp : p j with
    | true => exact Or.inr ⟨j, Nat.le_refl _, by omega, by simp [cFit, hp], hp, fun h h1 h2 => by omega⟩
    | false =>
      have e : cFit p (k + 1) j = cFit p k (j + 1) := by simp [cFit, hp]
      rw [e]
      rcases ih (j + 1) with ⟨h1, h2⟩ | ⟨i, h1, h2, h3, h4, h5⟩
      · refine Or.inl ⟨h1, fun i a1 a2 => ?_⟩
        by_cases hij : i = j
        · subst hij; exact hp
        · exact h2 i (by omega) (by omega)
      · refine Or.inr ⟨i, by omega, by omega, h3, h4, fun h a1 a2 => ?_⟩
        by_cases hhj : h = j
        · subst hhj; exact hp
        · exact h5 h (by omega) a2
variable (n : Nat) (up : Nat → Option Nat) (op : Nat → Nat) (ok : Nat → Nat → Nat → Bool)
/-- the options that are ruled out when m devices, the last ones, have been tried -/
def cRul : Nat → Nat → Nat → Bool
  | 0 => fun _ _ => false
  | m + 1 => fun u k => cRul m u k || (decide (up (n - 1 - m) = some u) && (decide (k < op u) && decide (cFit (fun j => !cRul m (n - 1 - m) j && ok (n - 1 - m) j k) (op (n - 1 - m)) 0 = -1)))
/-- what is ruled out when device i is tried -/
def cAt (i : Nat) : Nat → Bool := cRul n up op ok (n - 1 - i) i
def cF0 (i : Nat) : Int := cFit (fun j => !cAt n up op ok i j) (op i) 0
def cFk (i k : Nat) : Int := cFit (fun j => !cAt n up op ok i j && ok i j k) (op i) 0
theorem cRul_valid {r : Nat → Nat} (hup : ∀ i u, i < n → up i = some u → u < i) (hr : vRow n up op ok r) : ∀ m, m ≤ n → ∀ u, u < n → cRul n up op ok m u (r u) = false := by
  intro m
  induction m with
  | zero => intro _ u _; rfl
  | succ m ih =>
    intro hm u hu
    have h1 := ih (by omega) u hu
    simp only [cRul, h1, Bool.false_or]
    by_cases hc : up (n - 1 - m) = some u
    · have hv := hr (n - 1 - m) (by omega)
      have h2 := ih (by omega) (n - 1 - m) (by omega)
      rcases cFit_spec (fun j => !cRul n up op ok m (n - 1 - m) j && ok (n - 1 - m) j (r u)) (op (n - 1 - m)) 0 with ⟨a1, a2⟩ | ⟨i, a1, a2, a3, -⟩
      · have := a2 (r (n - 1 - m)) (Nat.zero_le _) (by omega)
        simp [h2, hv.2 u hc] at this
      · have : ¬ (i : Int) = -1 := by omega
        simp [a3, this]
    · simp [hc]
theorem cRul_grow (m d u k : Nat) : cRul n up op ok (m + d) u k = false → cRul n up op ok m u k = false := by
  induction d with
  | zero => exact id
  | succ d ih =>
    intro h
    apply ih
    rw [show m + (d + 1) = (m + d) + 1 by omega] at h
    simp only [cRul, Bool.or_eq_false_iff] at h
    exact h.1
/-- only those below a device rule its options out -/
theorem cRul_late (hup : ∀ i u, i < n → up i = some u → u < i) (u k : Nat) : ∀ d, (n - 1 - u) + d ≤ n → cRul n up op ok (n - 1 - u + d) u k = cRul n up op ok (n - 1 - u) u k := by
  intro d
  induction d with
  | zero => intro _; rfl
  | succ d ih =>
    intro hd
    have h1 := ih (by omega)
    rw [show n - 1 - u + (d + 1) = (n - 1 - u + d) + 1 by omega]
    simp only [cRul]
    have hne : ¬ up (n - 1 - (n - 1 - u + d)) = some u := fun h => by
      have := hup _ _ (by omega) h
      omega
    rw [h1]
    simp [hne]
/-- where an option isn't ruled out, each device below has one that goes with it -/
theorem cRul_child (hup : ∀ i u, i < n → up i = some u → u < i) {i u k : Nat} (hi : i < n) (hu : up i = some u) (hk : k < op u) (h : cAt n up op ok u k = false) : ∃ j, j < op i ∧ cFk n up op ok i k = (j : Int) ∧ cAt n up op ok i j = false ∧ ok i j k = true ∧ ∀ q, q < j → ¬ (cAt n up op ok i q = false ∧ ok i q k = true) := by
  have hlt := hup i u hi hu
  have e : n - 1 - u = (n - 1 - i + 1) + (i - u - 1) := by omega
  have h1 : cRul n up op ok (n - 1 - i + 1) u k = false := by
    unfold cAt at h
    rw [e] at h
    exact cRul_grow n up op ok _ _ u k h
  simp only [cRul, Bool.or_eq_false_iff] at h1
  have h2 := h1.2
  rw [show n - 1 - (n - 1 - i) = i by omega] at h2
  simp only [hu, hk, decide_true, Bool.true_and, decide_eq_false_iff_not] at h2
  rcases cFit_spec (fun j => !cAt n up op ok i j && ok i j k) (op i) 0 with ⟨a1, -⟩ | ⟨j, -, a2, a3, a4, a5⟩
  · exact absurd a1 h2
  · simp only [Bool.and_eq_true, Bool.not_eq_true'] at a4
    refine ⟨j, by omega, a3, a4.1, a4.2, fun q hq hh => ?_⟩
    have := a5 q (Nat.zero_le _) hq
    simp [hh.1, hh.2] at this
/-- each device's option by its upper one's -/
def cPick : Nat → Nat → Nat
  | 0, _ => 0
  | d + 1, i => match up i with
    | none => (cF0 n up op ok i).toNat
    | some u => (cFk n up op ok i (cPick d u)).toNat
theorem cPick_step (hup : ∀ i u, i < n → up i = some u → u < i) : ∀ (d e i : Nat), i < n → i < d → i < e → cPick n up op ok d i = cPick n up op ok e i := by
  intro d
  induction d with
  | zero => intro e i _ h; omega
  | succ d ih =>
    intro e i hi h1 h2
    cases e with
    | zero => omega
    | succ e =>
      simp only [cPick]
      cases hu : up i with
      | none => rfl
      | some u =>
        have := hup i u hi hu
        dsimp only
        rw [ih e u (by omega) (by omega) (by omega)]
/-- the whole: either some device below the source has no option left, and no row fits; or the picks are the first row that fits -/
theorem cPick_first (hup : ∀ i u, i < n → up i = some u → u < i) (hop : ∀ i, i < n → 0 < op i) :
    ((∃ i, i < n ∧ up i = none ∧ cF0 n up op ok i = -1) ∧ ∀ r, ¬ vRow n up op ok r) ∨
    ((∀ i, i < n → up i = none → cF0 n up op ok i ≠ -1) ∧ fRow n up op ok (cPick n up op ok (n + 1)) ∧ (∀ i, i < n → up i = none → cF0 n up op ok i = (cPick n up op ok (n + 1) i : Int)) ∧ ∀ i u, i < n → up i = some u → cFk n up op ok i (cPick n up op ok (n + 1) u) = (cPick n up op ok (n + 1) i : Int)) := by
  by_cases hE : ∃ i, i < n ∧ up i = none ∧ cF0 n up op ok i = -1
  · refine Or.inl ⟨hE, fun r hr => ?_⟩
    obtain ⟨i, hi, hu, h⟩ := hE
    have h1 := cRul_valid n up op ok hup hr (n - 1 - i) (by omega) i hi
    have h2 := (hr i hi).1
    rcases cFit_spec (fun j => !cAt n up op ok i j) (op i) 0 with ⟨-, a2⟩ | ⟨j, -, -, a3, -⟩
    · have := a2 (r i) (Nat.zero_le _) (by omega)
      simp [cAt, h1] at this
    · unfold cF0 at h; omega
  · have hR : ∀ i, i < n → up i = none → cF0 n up op ok i ≠ -1 := fun i h1 h2 h3 => hE ⟨i, h1, h2, h3⟩
    have step : ∀ i, i < n → cPick n up op ok (n + 1) i = match up i with | none => (cF0 n up op ok i).toNat | some u => (cFk n up op ok i (cPick n up op ok (n + 1) u)).toNat := by
      intro i hi
      cases hu : up i with
      | none => simp only [cPick, hu]
      | some u =>
        have := hup i u hi hu
        simp only [cPick, hu]
        rw [cPick_step n up op ok hup n (n + 1) u (by omega) (by omega) (by omega)]
        simp only [cPick]
    have inv : ∀ d i, i < d → i < n → cPick n up op ok (n + 1) i < op i ∧ cAt n up op ok i (cPick n up op ok (n + 1) i) = false := by
      intro d
      induction d with
      | zero => intro i h; omega
      | succ d ih =>
        intro i hd hi
        rw [step i hi]
        cases hu : up i with
        | none =>
          rcases cFit_spec (fun j => !cAt n up op ok i j) (op i) 0 with ⟨a1, -⟩ | ⟨j, -, a2, a3, a4, -⟩
          · exact absurd a1 (hR i hi hu)
          · have e : (cF0 n up op ok i).toNat = j := by rw [show cF0 n up op ok i = (j : Int) from a3]; rfl
            dsimp only
            rw [e]
            exact ⟨by omega, by simpa using a4⟩
        | some u =>
          have hlt := hup i u hi hu
          have h1 := ih u (by omega) (by omega)
          obtain ⟨j, b1, b2, b3, -, -⟩ := cRul_child n up op ok hup hi hu h1.1 h1.2
          dsimp only
          rw [b2]
          exact ⟨b1, b3⟩
    have root : ∀ i, i < n → up i = none → cF0 n up op ok i = (cPick n up op ok (n + 1) i : Int) ∧ ∀ q, q < cPick n up op ok (n + 1) i → cAt n up op ok i q = true := by
      intro i hi hu
      rcases cFit_spec (fun j => !cAt n up op ok i j) (op i) 0 with ⟨a1, -⟩ | ⟨j, -, a2, a3, a4, a5⟩
      · exact absurd a1 (hR i hi hu)
      · have e : cPick n up op ok (n + 1) i = j := by rw [step i hi, hu]; dsimp only; rw [show cF0 n up op ok i = (j : Int) from a3]; rfl
        rw [e]
        refine ⟨a3, fun q hq => ?_⟩
        have := a5 q (Nat.zero_le _) hq
        simpa using this
    have kid : ∀ i u, i < n → up i = some u → cFk n up op ok i (cPick n up op ok (n + 1) u) = (cPick n up op ok (n + 1) i : Int) ∧ ok i (cPick n up op ok (n + 1) i) (cPick n up op ok (n + 1) u) = true ∧ ∀ q, q < cPick n up op ok (n + 1) i → ¬ (cAt n up op ok i q = false ∧ ok i q (cPick n up op ok (n + 1) u) = true) := by
      intro i u hi hu
      have hlt := hup i u hi hu
      have h1 := inv (u + 1) u (by omega) (by omega)
      obtain ⟨j, b1, b2, b3, b4, b5⟩ := cRul_child n up op ok hup hi hu h1.1 h1.2
      have e : cPick n up op ok (n + 1) i = j := by rw [step i hi, hu]; dsimp only; rw [b2]; rfl
      rw [e]
      exact ⟨b2, b4, b5⟩
    refine Or.inr ⟨hR, ⟨fun i hi => ⟨(inv (i + 1) i (by omega) hi).1, fun u hu => (kid i u hi hu).2.1⟩, fun q hq => ?_⟩, fun i hi hu => (root i hi hu).1, fun i u hi hu => (kid i u hi hu).1⟩
    by_cases hall : ∀ i, i < n → cPick n up op ok (n + 1) i = q i
    · exact Or.inl hall
    · refine Or.inr ?_
      have hex : ∃ i, i < n ∧ cPick n up op ok (n + 1) i ≠ q i := by
        apply Classical.byContradiction
        intro hn
        exact hall (fun i hi => Classical.byContradiction (fun h => hn ⟨i, hi, h⟩))
      obtain ⟨i, ⟨hi, hne⟩, hmin⟩ := pk_least (fun i => i < n ∧ cPick n up op ok (n + 1) i ≠ q i) hex
      have hsame : ∀ j, j < i → cPick n up op ok (n + 1) j = q j := fun j hj => Classical.byContradiction (fun h => hmin j hj ⟨by omega, h⟩)
      refine ⟨i, hi, hsame, ?_⟩
      have hqf := cRul_valid n up op ok hup hq (n - 1 - i) (by omega) i hi
      rcases Nat.lt_or_ge (cPick n up op ok (n + 1) i) (q i) with h | h
      · exact h
      · exfalso
        have hlt : q i < cPick n up op ok (n + 1) i := by omega
        cases hu : up i with
        | none =>
          have := (root i hi hu).2 (q i) hlt
          unfold cAt at this
          rw [hqf] at this
          cases this
        | some u =>
          have hul := hup i u hi hu
          refine (kid i u hi hu).2.2 (q i) hlt ⟨hqf, ?_⟩
          rw [hsame u hul]
          exact (hq i hi).2 u hu
end Settle
end
section
/-! the kinds of arrays, and a setting's cells: g 0 ints, g 1 booleans, g 2 devices, g 3 settings, g 4 longs -/
abbrev ty9 (g : Nat → ClassId) : List (ClassId × FieldType) := [(g 0, .int), (g 1, .boolean), (g 2, .object "BreakerOrders$Device"), (g 3, .object "BreakerOrders$Setting"), (g 4, .long)]
def sAt (D : va_G) (g : Nat → ClassId) (a : Nat) (S : jSet) (H : Heap) : Prop :=
  ∃ ac ap al am : Nat, va_at D vwCl (a, .inr (2, [.ref ac, .int (jI (sS S)), .int (jI (sD S))])) H ∧ va_at D vwCl (ac, .inr (0, [.ref ap, .ref al, .ref am, .int (jI (sN S : Int))])) H ∧
    va_at D vwCl (ap, .inl (g 0, 6, .inl (fun j => jI (sP S j)))) H ∧ va_at D vwCl (al, .inl (g 0, 6, .inl (fun j => jI (sT S false j)))) H ∧ va_at D vwCl (am, .inl (g 0, 6, .inl (fun j => jI (sT S true j)))) H
/-! the state of the class's object: (count, voltage, upper, points, place, least, most, options, scale, delay, chosen, impedance) -/
abbrev bSt : Type := Nat × Int × (Nat → Option Nat) × (Nat → Nat) × (Nat → Nat → Int) × (Nat → Nat → Int) × (Nat → Nat → Int) × (Nat → Nat) × (Nat → Nat → Int) × (Nat → Nat → Int) × (Nat → Nat) × (Nat → Int)
def bN (z : bSt) : Nat := z.1
def bV (z : bSt) : Int := z.2.1
def bU (z : bSt) : Nat → Option Nat := z.2.2.1
def bK (z : bSt) : Nat → Nat := z.2.2.2.1
def bP (z : bSt) : Nat → Nat → Int := z.2.2.2.2.1
def bL (z : bSt) : Nat → Nat → Int := z.2.2.2.2.2.1
def bM (z : bSt) : Nat → Nat → Int := z.2.2.2.2.2.2.1
def bO (z : bSt) : Nat → Nat := z.2.2.2.2.2.2.2.1
def bS (z : bSt) : Nat → Nat → Int := z.2.2.2.2.2.2.2.2.1
def bD (z : bSt) : Nat → Nat → Int := z.2.2.2.2.2.2.2.2.2.1
def bC (z : bSt) : Nat → Nat := z.2.2.2.2.2.2.2.2.2.2.1
def bZ (z : bSt) : Nat → Int := z.2.2.2.2.2.2.2.2.2.2.2
def bSet (z : bSt) (i j : Nat) : jSet := (bK z i, bP z i, bL z i, bM z i, bS z i j, bD z i j)
def bCh (z : bSt) (i : Nat) : jSet := bSet z i (bC z i)
/-- what every state keeps to -/
def bOK (z : bSt) : Prop := bN z ≤ 8 ∧ (0 ≤ bV z ∧ bV z ≤ 1000000) ∧ (∀ i, i < 8 → 1 ≤ bO z i ∧ bO z i ≤ 4 ∧ bC z i < bO z i ∧ 1 ≤ bZ z i ∧ bZ z i ≤ 10000 ∧ ∀ j, j < bO z i → sOK (bSet z i j)) ∧ (∀ i u, i < bN z → bU z i = some u → u < i)
/-- the object's cells: 0 itself, 1 its devices, 2 + 12 i a device; + 1 its curve, + 2, + 3, + 4 the curve's arrays, + 5 its settings, + 6 .. + 9 each, + 10 ruledOut, + 11 firstFor -/
def bDev (g : Nat → ClassId) (ad : Nat → Nat) (z : bSt) (rl : Nat → Nat → Bool) (ff : Nat → Nat → Int) (i : Nat) (r : Nat) : va_E := match r with
  | 0 => .inr (1, [.int (jI (i : Int)), .ref (ad (2 + 12 * i + 1)), .ref (ad (2 + 12 * i + 5)), .ref (ad (2 + 12 * i + 10)), .ref (ad (2 + 12 * i + 11)), va_rf ((bU z i).map (fun u => ad (2 + 12 * u))), .int (jI (bO z i : Int)), .int (jI (bC z i : Int)), .int (jI (bZ z i))])
  | 1 => .inr (0, [.ref (ad (2 + 12 * i + 2)), .ref (ad (2 + 12 * i + 3)), .ref (ad (2 + 12 * i + 4)), .int (jI (bK z i : Int))])
  | 2 => .inl (g 0, 6, .inl (fun k => jI (bP z i k)))
  | 3 => .inl (g 0, 6, .inl (fun k => jI (bL z i k)))
  | 4 => .inl (g 0, 6, .inl (fun k => jI (bM z i k)))
  | 5 => .inl (g 3, 4, .inr (.inr (.inr (.inr (fun j => some (ad (2 + 12 * i + 6 + j)))))))
  | 6 => .inr (2, [.ref (ad (2 + 12 * i + 1)), .int (jI (bS z i 0)), .int (jI (bD z i 0))])
  | 7 => .inr (2, [.ref (ad (2 + 12 * i + 1)), .int (jI (bS z i 1)), .int (jI (bD z i 1))])
  | 8 => .inr (2, [.ref (ad (2 + 12 * i + 1)), .int (jI (bS z i 2)), .int (jI (bD z i 2))])
  | 9 => .inr (2, [.ref (ad (2 + 12 * i + 1)), .int (jI (bS z i 3)), .int (jI (bD z i 3))])
  | 10 => .inl (g 1, 4, .inl (fun j => jI (bI (rl i j))))
  | _ => .inl (g 0, 4, .inl (fun j => jI (ff i j)))
def bCell (g : Nat → ClassId) (ad : Nat → Nat) (z : bSt) (rl : Nat → Nat → Bool) (ff : Nat → Nat → Int) (q : Nat) : va_E :=
  if q = 0 then .inr (3, [.ref (ad 1), .int (jI (bN z : Int)), .int (jI (bV z))])
  else if q = 1 then .inl (g 2, 8, .inr (.inr (.inr (.inr (fun j => some (ad (2 + 12 * j)))))))
  else bDev g ad z rl ff ((q - 2) / 12) ((q - 2) % 12)
def bW (D : va_G) (g : Nat → ClassId) (ad : Nat → Nat) (z : bSt) (rl : Nat → Nat → Bool) (ff : Nat → Nat → Int) (H : Heap) : Prop := ∀ q, q < 98 → va_at D vwCl (ad q, bCell g ad z rl ff q) H
def bInj (ad : Nat → Nat) : Prop := ∀ p q, p < 98 → q < 98 → ad p = ad q → p = q
theorem bCell_dev {g : Nat → ClassId} {ad : Nat → Nat} {z : bSt} {rl : Nat → Nat → Bool} {ff : Nat → Nat → Int} (i r : Nat) (hr : r < 12) : bCell g ad z rl ff (2 + 12 * i + r) = bDev g ad z rl ff i r := by
  unfold bCell
  rw [if_neg (by omega), if_neg (by omega), show (2 + 12 * i + r - 2) / 12 = i by omega, show (2 + 12 * i + r - 2) % 12 = r by omega]
theorem bW_at {D : va_G} {g : Nat → ClassId} {ad : Nat → Nat} {z : bSt} {rl : Nat → Nat → Bool} {ff : Nat → Nat → Int} {H : Heap} (h : bW D g ad z rl ff H) {i : Nat} (hi : i < 8) (r : Nat) (hr : r < 12) : va_at D vwCl (ad (2 + 12 * i + r), bDev g ad z rl ff i r) H := by
  have := h (2 + 12 * i + r) (by omega)
  rw [bCell_dev i r hr] at this
  exact this
theorem bW_sobj {D : va_G} {g : Nat → ClassId} {ad : Nat → Nat} {z : bSt} {rl : Nat → Nat → Bool} {ff : Nat → Nat → Int} {H : Heap} (h : bW D g ad z rl ff H) {i j : Nat} (hi : i < 8) (hj : j < 4) : va_at D vwCl (ad (2 + 12 * i + 6 + j), .inr (2, [.ref (ad (2 + 12 * i + 1)), .int (jI (bS z i j)), .int (jI (bD z i j))])) H := by
  have h6 := bW_at h hi (6 + j) (by omega)
  rw [show 2 + 12 * i + (6 + j) = 2 + 12 * i + 6 + j by omega] at h6
  rcases (show j = 0 ∨ j = 1 ∨ j = 2 ∨ j = 3 by omega) with rfl | rfl | rfl | rfl <;> exact h6
/-- a setting's cells out of the object's -/
theorem bW_set {D : va_G} {g : Nat → ClassId} {ad : Nat → Nat} {z : bSt} {rl : Nat → Nat → Bool} {ff : Nat → Nat → Int} {H : Heap} (h : bW D g ad z rl ff H) {i j : Nat} (hi : i < 8) (hj : j < 4) : sAt D g (ad (2 + 12 * i + 6 + j)) (bSet z i j) H := by
  exact ⟨ad (2 + 12 * i + 1), ad (2 + 12 * i + 2), ad (2 + 12 * i + 3), ad (2 + 12 * i + 4), bW_sobj h hi hj, bW_at h hi 1 (by omega), bW_at h hi 2 (by omega), bW_at h hi 3 (by omega), bW_at h hi 4 (by omega)⟩
/-- one cell is written -/
theorem bW_put {D : va_G} {g : Nat → ClassId} {ad : Nat → Nat} {z z' : bSt} {rl rl' : Nat → Nat → Bool} {ff ff' : Nat → Nat → Int} {H H1 : Heap} (hj : bInj ad) (h : bW D g ad z rl ff H) (q0 : Nat) (h0 : q0 < 98) (oq : ∀ q, q ≠ ad q0 → H1[q]? = H[q]?) (hn : va_at D vwCl (ad q0, bCell g ad z' rl' ff' q0) H1) (hs : ∀ q, q < 98 → q ≠ q0 → bCell g ad z' rl' ff' q = bCell g ad z rl ff q) : bW D g ad z' rl' ff' H1 := by
  intro q hq
  by_cases hqq : q = q0
  · subst hqq
    exact hn
  · rw [hs q hq hqq]
    exact (h q hq).kept (oq _ (fun e => hqq (hj q q0 hq h0 e)))
theorem bCell_same {g : Nat → ClassId} {ad : Nat → Nat} {z z' : bSt} {rl rl' : Nat → Nat → Bool} {ff ff' : Nat → Nat → Int} (i0 r0 : Nat) (hN : bN z' = bN z) (hV : bV z' = bV z) (h : ∀ i r, r < 12 → (i ≠ i0 ∨ r ≠ r0) → bDev g ad z' rl' ff' i r = bDev g ad z rl ff i r) : ∀ q, q < 98 → q ≠ 2 + 12 * i0 + r0 → bCell g ad z' rl' ff' q = bCell g ad z rl ff q := by
  intro q hq hne
  unfold bCell
  rw [hN, hV]
  by_cases h0 : q = 0
  · rw [if_pos h0, if_pos h0]
  · rw [if_neg h0, if_neg h0]
    by_cases h1 : q = 1
    · rw [if_pos h1, if_pos h1]
    · rw [if_neg h1, if_neg h1]
      exact h _ _ (by omega) (by omega)
end
section
/-! states with one thing changed -/
def zN (z : bSt) (v : Nat) : bSt := (v, bV z, bU z, bK z, bP z, bL z, bM z, bO z, bS z, bD z, bC z, bZ z)
def zV (z : bSt) (v : Int) : bSt := (bN z, v, bU z, bK z, bP z, bL z, bM z, bO z, bS z, bD z, bC z, bZ z)
def zU (z : bSt) (i : Nat) (v : Option Nat) : bSt := (bN z, bV z, jUp (bU z) i v, bK z, bP z, bL z, bM z, bO z, bS z, bD z, bC z, bZ z)
def zK (z : bSt) (i : Nat) (v : Nat) : bSt := (bN z, bV z, bU z, jUp (bK z) i v, bP z, bL z, bM z, bO z, bS z, bD z, bC z, bZ z)
def zP (z : bSt) (i k : Nat) (v : Int) : bSt := (bN z, bV z, bU z, bK z, jUp (bP z) i (jUp (bP z i) k v), bL z, bM z, bO z, bS z, bD z, bC z, bZ z)
def zL (z : bSt) (i k : Nat) (v : Int) : bSt := (bN z, bV z, bU z, bK z, bP z, jUp (bL z) i (jUp (bL z i) k v), bM z, bO z, bS z, bD z, bC z, bZ z)
def zM (z : bSt) (i k : Nat) (v : Int) : bSt := (bN z, bV z, bU z, bK z, bP z, bL z, jUp (bM z) i (jUp (bM z i) k v), bO z, bS z, bD z, bC z, bZ z)
def zO (z : bSt) (i : Nat) (v : Nat) : bSt := (bN z, bV z, bU z, bK z, bP z, bL z, bM z, jUp (bO z) i v, bS z, bD z, bC z, bZ z)
def zS (z : bSt) (i j : Nat) (v : Int) : bSt := (bN z, bV z, bU z, bK z, bP z, bL z, bM z, bO z, jUp (bS z) i (jUp (bS z i) j v), bD z, bC z, bZ z)
def zD (z : bSt) (i j : Nat) (v : Int) : bSt := (bN z, bV z, bU z, bK z, bP z, bL z, bM z, bO z, bS z, jUp (bD z) i (jUp (bD z i) j v), bC z, bZ z)
def zC (z : bSt) (i : Nat) (v : Nat) : bSt := (bN z, bV z, bU z, bK z, bP z, bL z, bM z, bO z, bS z, bD z, jUp (bC z) i v, bZ z)
def zZ (z : bSt) (i : Nat) (v : Int) : bSt := (bN z, bV z, bU z, bK z, bP z, bL z, bM z, bO z, bS z, bD z, bC z, jUp (bZ z) i v)
theorem bW_dev {D : va_G} {g : Nat → ClassId} {ad : Nat → Nat} {z w : bSt} {rl : Nat → Nat → Bool} {ff : Nat → Nat → Int} {H H1 : Heap} (hj : bInj ad) (h : bW D g ad z rl ff H) {i : Nat} (hi : i < 8) (eN : bN w = bN z) (eV : bV w = bV z) (eK : bK w = bK z) (eP : bP w = bP z) (eL : bL w = bL z) (eM : bM w = bM z) (eS : bS w = bS z) (eD : bD w = bD z) (eX : ∀ i2, i2 ≠ i → bU w i2 = bU z i2 ∧ bO w i2 = bO z i2 ∧ bC w i2 = bC z i2 ∧ bZ w i2 = bZ z i2) (oq : ∀ q, q ≠ ad (2 + 12 * i + 0) → H1[q]? = H[q]?) (hn : va_at D vwCl (ad (2 + 12 * i + 0), bDev g ad w rl ff i 0) H1) : bW D g ad w rl ff H1 := by
  refine bW_put hj h (2 + 12 * i + 0) (by omega) oq (by rw [bCell_dev i 0 (by omega)]; exact hn) (bCell_same i 0 eN eV (fun i2 r2 hr2 hne => ?_))
  by_cases h2 : i2 = i
  · subst h2
    rcases (show r2 = 0 ∨ r2 = 1 ∨ r2 = 2 ∨ r2 = 3 ∨ r2 = 4 ∨ r2 = 5 ∨ r2 = 6 ∨ r2 = 7 ∨ r2 = 8 ∨ r2 = 9 ∨ r2 = 10 ∨ r2 = 11 by omega) with rfl | rfl | rfl | rfl | rfl | rfl | rfl | rfl | rfl | rfl | rfl | rfl <;> first | (exfalso; omega) | (simp only [bDev, eK, eP, eL, eM, eS, eD]; done) | (simp only [bDev, eK, eP, eL, eM, eS, eD]; rfl)
  · obtain ⟨x1, x2, x3, x4⟩ := eX i2 h2
    rcases (show r2 = 0 ∨ r2 = 1 ∨ r2 = 2 ∨ r2 = 3 ∨ r2 = 4 ∨ r2 = 5 ∨ r2 = 6 ∨ r2 = 7 ∨ r2 = 8 ∨ r2 = 9 ∨ r2 = 10 ∨ r2 = 11 by omega) with rfl | rfl | rfl | rfl | rfl | rfl | rfl | rfl | rfl | rfl | rfl | rfl <;> first | (simp only [bDev, eK, eP, eL, eM, eS, eD, x1, x2, x3, x4]; done) | (simp only [bDev, eK, eP, eL, eM, eS, eD]; done) | (simp only [bDev]; done)
theorem bW_cur {D : va_G} {g : Nat → ClassId} {ad : Nat → Nat} {z w : bSt} {rl : Nat → Nat → Bool} {ff : Nat → Nat → Int} {H H1 : Heap} (hj : bInj ad) (h : bW D g ad z rl ff H) {i : Nat} (hi : i < 8) (eN : bN w = bN z) (eV : bV w = bV z) (eU : bU w = bU z) (eP : bP w = bP z) (eL : bL w = bL z) (eM : bM w = bM z) (eO : bO w = bO z) (eS : bS w = bS z) (eD : bD w = bD z) (eC : bC w = bC z) (eZ : bZ w = bZ z) (eX : ∀ i2, i2 ≠ i → bK w i2 = bK z i2) (oq : ∀ q, q ≠ ad (2 + 12 * i + 1) → H1[q]? = H[q]?) (hn : va_at D vwCl (ad (2 + 12 * i + 1), bDev g ad w rl ff i 1) H1) : bW D g ad w rl ff H1 := by
  refine bW_put hj h (2 + 12 * i + 1) (by omega) oq (by rw [bCell_dev i 1 (by omega)]; exact hn) (bCell_same i 1 eN eV (fun i2 r2 hr2 hne => ?_))
  by_cases h2 : i2 = i
  · subst h2
    rcases (show r2 = 0 ∨ r2 = 1 ∨ r2 = 2 ∨ r2 = 3 ∨ r2 = 4 ∨ r2 = 5 ∨ r2 = 6 ∨ r2 = 7 ∨ r2 = 8 ∨ r2 = 9 ∨ r2 = 10 ∨ r2 = 11 by omega) with rfl | rfl | rfl | rfl | rfl | rfl | rfl | rfl | rfl | rfl | rfl | rfl <;> first | (exfalso; omega) | (simp only [bDev, eU, eP, eL, eM, eO, eS, eD, eC, eZ]; done) | (simp only [bDev, eU, eP, eL, eM, eO, eS, eD, eC, eZ]; rfl)
  · have x1 := eX i2 h2
    rcases (show r2 = 0 ∨ r2 = 1 ∨ r2 = 2 ∨ r2 = 3 ∨ r2 = 4 ∨ r2 = 5 ∨ r2 = 6 ∨ r2 = 7 ∨ r2 = 8 ∨ r2 = 9 ∨ r2 = 10 ∨ r2 = 11 by omega) with rfl | rfl | rfl | rfl | rfl | rfl | rfl | rfl | rfl | rfl | rfl | rfl <;> first | (simp only [bDev, eU, eP, eL, eM, eO, eS, eD, eC, eZ, x1]; done) | (simp only [bDev, eU, eP, eL, eM, eO, eS, eD, eC, eZ]; done) | (simp only [bDev]; done)
theorem bW_pl {D : va_G} {g : Nat → ClassId} {ad : Nat → Nat} {z w : bSt} {rl : Nat → Nat → Bool} {ff : Nat → Nat → Int} {H H1 : Heap} (hj : bInj ad) (h : bW D g ad z rl ff H) {i : Nat} (hi : i < 8) (eN : bN w = bN z) (eV : bV w = bV z) (eU : bU w = bU z) (eK : bK w = bK z) (eL : bL w = bL z) (eM : bM w = bM z) (eO : bO w = bO z) (eS : bS w = bS z) (eD : bD w = bD z) (eC : bC w = bC z) (eZ : bZ w = bZ z) (eX : ∀ i2, i2 ≠ i → bP w i2 = bP z i2) (oq : ∀ q, q ≠ ad (2 + 12 * i + 2) → H1[q]? = H[q]?) (hn : va_at D vwCl (ad (2 + 12 * i + 2), bDev g ad w rl ff i 2) H1) : bW D g ad w rl ff H1 := by
  refine bW_put hj h (2 + 12 * i + 2) (by omega) oq (by rw [bCell_dev i 2 (by omega)]; exact hn) (bCell_same i 2 eN eV (fun i2 r2 hr2 hne => ?_))
  by_cases h2 : i2 = i
  · subst h2
    rcases (show r2 = 0 ∨ r2 = 1 ∨ r2 = 2 ∨ r2 = 3 ∨ r2 = 4 ∨ r2 = 5 ∨ r2 = 6 ∨ r2 = 7 ∨ r2 = 8 ∨ r2 = 9 ∨ r2 = 10 ∨ r2 = 11 by omega) with rfl | rfl | rfl | rfl | rfl | rfl | rfl | rfl | rfl | rfl | rfl | rfl <;> first | (exfalso; omega) | (simp only [bDev, eU, eK, eL, eM, eO, eS, eD, eC, eZ]; done) | (simp only [bDev, eU, eK, eL, eM, eO, eS, eD, eC, eZ]; rfl)
  · have x1 := eX i2 h2
    rcases (show r2 = 0 ∨ r2 = 1 ∨ r2 = 2 ∨ r2 = 3 ∨ r2 = 4 ∨ r2 = 5 ∨ r2 = 6 ∨ r2 = 7 ∨ r2 = 8 ∨ r2 = 9 ∨ r2 = 10 ∨ r2 = 11 by omega) with rfl | rfl | rfl | rfl | rfl | rfl | rfl | rfl | rfl | rfl | rfl | rfl <;> first | (simp only [bDev, eU, eK, eL, eM, eO, eS, eD, eC, eZ, x1]; done) | (simp only [bDev, eU, eK, eL, eM, eO, eS, eD, eC, eZ]; done) | (simp only [bDev]; done)
theorem bW_le {D : va_G} {g : Nat → ClassId} {ad : Nat → Nat} {z w : bSt} {rl : Nat → Nat → Bool} {ff : Nat → Nat → Int} {H H1 : Heap} (hj : bInj ad) (h : bW D g ad z rl ff H) {i : Nat} (hi : i < 8) (eN : bN w = bN z) (eV : bV w = bV z) (eU : bU w = bU z) (eK : bK w = bK z) (eP : bP w = bP z) (eM : bM w = bM z) (eO : bO w = bO z) (eS : bS w = bS z) (eD : bD w = bD z) (eC : bC w = bC z) (eZ : bZ w = bZ z) (eX : ∀ i2, i2 ≠ i → bL w i2 = bL z i2) (oq : ∀ q, q ≠ ad (2 + 12 * i + 3) → H1[q]? = H[q]?) (hn : va_at D vwCl (ad (2 + 12 * i + 3), bDev g ad w rl ff i 3) H1) : bW D g ad w rl ff H1 := by
  refine bW_put hj h (2 + 12 * i + 3) (by omega) oq (by rw [bCell_dev i 3 (by omega)]; exact hn) (bCell_same i 3 eN eV (fun i2 r2 hr2 hne => ?_))
  by_cases h2 : i2 = i
  · subst h2
    rcases (show r2 = 0 ∨ r2 = 1 ∨ r2 = 2 ∨ r2 = 3 ∨ r2 = 4 ∨ r2 = 5 ∨ r2 = 6 ∨ r2 = 7 ∨ r2 = 8 ∨ r2 = 9 ∨ r2 = 10 ∨ r2 = 11 by omega) with rfl | rfl | rfl | rfl | rfl | rfl | rfl | rfl | rfl | rfl | rfl | rfl <;> first | (exfalso; omega) | (simp only [bDev, eU, eK, eP, eM, eO, eS, eD, eC, eZ]; done) | (simp only [bDev, eU, eK, eP, eM, eO, eS, eD, eC, eZ]; rfl)
  · have x1 := eX i2 h2
    rcases (show r2 = 0 ∨ r2 = 1 ∨ r2 = 2 ∨ r2 = 3 ∨ r2 = 4 ∨ r2 = 5 ∨ r2 = 6 ∨ r2 = 7 ∨ r2 = 8 ∨ r2 = 9 ∨ r2 = 10 ∨ r2 = 11 by omega) with rfl | rfl | rfl | rfl | rfl | rfl | rfl | rfl | rfl | rfl | rfl | rfl <;> first | (simp only [bDev, eU, eK, eP, eM, eO, eS, eD, eC, eZ, x1]; done) | (simp only [bDev, eU, eK, eP, eM, eO, eS, eD, eC, eZ]; done) | (simp only [bDev]; done)
theorem bW_mo {D : va_G} {g : Nat → ClassId} {ad : Nat → Nat} {z w : bSt} {rl : Nat → Nat → Bool} {ff : Nat → Nat → Int} {H H1 : Heap} (hj : bInj ad) (h : bW D g ad z rl ff H) {i : Nat} (hi : i < 8) (eN : bN w = bN z) (eV : bV w = bV z) (eU : bU w = bU z) (eK : bK w = bK z) (eP : bP w = bP z) (eL : bL w = bL z) (eO : bO w = bO z) (eS : bS w = bS z) (eD : bD w = bD z) (eC : bC w = bC z) (eZ : bZ w = bZ z) (eX : ∀ i2, i2 ≠ i → bM w i2 = bM z i2) (oq : ∀ q, q ≠ ad (2 + 12 * i + 4) → H1[q]? = H[q]?) (hn : va_at D vwCl (ad (2 + 12 * i + 4), bDev g ad w rl ff i 4) H1) : bW D g ad w rl ff H1 := by
  refine bW_put hj h (2 + 12 * i + 4) (by omega) oq (by rw [bCell_dev i 4 (by omega)]; exact hn) (bCell_same i 4 eN eV (fun i2 r2 hr2 hne => ?_))
  by_cases h2 : i2 = i
  · subst h2
    rcases (show r2 = 0 ∨ r2 = 1 ∨ r2 = 2 ∨ r2 = 3 ∨ r2 = 4 ∨ r2 = 5 ∨ r2 = 6 ∨ r2 = 7 ∨ r2 = 8 ∨ r2 = 9 ∨ r2 = 10 ∨ r2 = 11 by omega) with rfl | rfl | rfl | rfl | rfl | rfl | rfl | rfl | rfl | rfl | rfl | rfl <;> first | (exfalso; omega) | (simp only [bDev, eU, eK, eP, eL, eO, eS, eD, eC, eZ]; done) | (simp only [bDev, eU, eK, eP, eL, eO, eS, eD, eC, eZ]; rfl)
  · have x1 := eX i2 h2
    rcases (show r2 = 0 ∨ r2 = 1 ∨ r2 = 2 ∨ r2 = 3 ∨ r2 = 4 ∨ r2 = 5 ∨ r2 = 6 ∨ r2 = 7 ∨ r2 = 8 ∨ r2 = 9 ∨ r2 = 10 ∨ r2 = 11 by omega) with rfl | rfl | rfl | rfl | rfl | rfl | rfl | rfl | rfl | rfl | rfl | rfl <;> first | (simp only [bDev, eU, eK, eP, eL, eO, eS, eD, eC, eZ, x1]; done) | (simp only [bDev, eU, eK, eP, eL, eO, eS, eD, eC, eZ]; done) | (simp only [bDev]; done)
theorem bW_sett {D : va_G} {g : Nat → ClassId} {ad : Nat → Nat} {z w : bSt} {rl : Nat → Nat → Bool} {ff : Nat → Nat → Int} {H H1 : Heap} (hj : bInj ad) (h : bW D g ad z rl ff H) {i j : Nat} (hi : i < 8) (hj4 : j < 4) (eN : bN w = bN z) (eV : bV w = bV z) (eU : bU w = bU z) (eK : bK w = bK z) (eP : bP w = bP z) (eL : bL w = bL z) (eM : bM w = bM z) (eO : bO w = bO z) (eC : bC w = bC z) (eZ : bZ w = bZ z) (eX : ∀ i2 j2, (i2 ≠ i ∨ j2 ≠ j) → bS w i2 j2 = bS z i2 j2 ∧ bD w i2 j2 = bD z i2 j2) (oq : ∀ q, q ≠ ad (2 + 12 * i + 6 + j) → H1[q]? = H[q]?) (hn : va_at D vwCl (ad (2 + 12 * i + 6 + j), .inr (2, [.ref (ad (2 + 12 * i + 1)), .int (jI (bS w i j)), .int (jI (bD w i j))])) H1) : bW D g ad w rl ff H1 := by
  have e6 : 2 + 12 * i + 6 + j = 2 + 12 * i + (6 + j) := by omega
  rw [e6] at oq hn
  refine bW_put hj h (2 + 12 * i + (6 + j)) (by omega) oq (by rw [bCell_dev i (6 + j) (by omega)]; rcases (show j = 0 ∨ j = 1 ∨ j = 2 ∨ j = 3 by omega) with rfl | rfl | rfl | rfl <;> exact hn) (bCell_same i (6 + j) eN eV (fun i2 r2 hr2 hne => ?_))
  rcases (show r2 = 0 ∨ r2 = 1 ∨ r2 = 2 ∨ r2 = 3 ∨ r2 = 4 ∨ r2 = 5 ∨ r2 = 6 ∨ r2 = 7 ∨ r2 = 8 ∨ r2 = 9 ∨ r2 = 10 ∨ r2 = 11 by omega) with rfl | rfl | rfl | rfl | rfl | rfl | rfl | rfl | rfl | rfl | rfl | rfl
  · first | (simp only [bDev, eU, eK, eP, eL, eM, eO, eC, eZ]; done) | (simp only [bDev]; done)
  · first | (simp only [bDev, eU, eK, eP, eL, eM, eO, eC, eZ]; done) | (simp only [bDev]; done)
  · first | (simp only [bDev, eU, eK, eP, eL, eM, eO, eC, eZ]; done) | (simp only [bDev]; done)
  · first | (simp only [bDev, eU, eK, eP, eL, eM, eO, eC, eZ]; done) | (simp only [bDev]; done)
  · first | (simp only [bDev, eU, eK, eP, eL, eM, eO, eC, eZ]; done) | (simp only [bDev]; done)
  · first | (simp only [bDev, eU, eK, eP, eL, eM, eO, eC, eZ]; done) | (simp only [bDev]; done)
  · obtain ⟨x1, x2⟩ := eX i2 0 (by omega)
    simp only [bDev, x1, x2]
  · obtain ⟨x1, x2⟩ := eX i2 1 (by omega)
    simp only [bDev, x1, x2]
  · obtain ⟨x1, x2⟩ := eX i2 2 (by omega)
    simp only [bDev, x1, x2]
  · obtain ⟨x1, x2⟩ := eX i2 3 (by omega)
    simp only [bDev, x1, x2]
  · first | (simp only [bDev, eU, eK, eP, eL, eM, eO, eC, eZ]; done) | (simp only [bDev]; done)
  · first | (simp only [bDev, eU, eK, eP, eL, eM, eO, eC, eZ]; done) | (simp only [bDev]; done)
theorem bW_rl {D : va_G} {g : Nat → ClassId} {ad : Nat → Nat} {z : bSt} {rl rl1 : Nat → Nat → Bool} {ff : Nat → Nat → Int} {H H1 : Heap} (hj : bInj ad) (h : bW D g ad z rl ff H) {i : Nat} (hi : i < 8) (eX : ∀ i2, i2 ≠ i → rl1 i2 = rl i2) (oq : ∀ q, q ≠ ad (2 + 12 * i + 10) → H1[q]? = H[q]?) (hn : va_at D vwCl (ad (2 + 12 * i + 10), bDev g ad z rl1 ff i 10) H1) : bW D g ad z rl1 ff H1 := by
  refine bW_put hj h (2 + 12 * i + 10) (by omega) oq (by rw [bCell_dev i 10 (by omega)]; exact hn) (bCell_same i 10 rfl rfl (fun i2 r2 hr2 hne => ?_))
  rcases (show r2 = 0 ∨ r2 = 1 ∨ r2 = 2 ∨ r2 = 3 ∨ r2 = 4 ∨ r2 = 5 ∨ r2 = 6 ∨ r2 = 7 ∨ r2 = 8 ∨ r2 = 9 ∨ r2 = 10 ∨ r2 = 11 by omega) with rfl | rfl | rfl | rfl | rfl | rfl | rfl | rfl | rfl | rfl | rfl | rfl
  · rfl
  · rfl
  · rfl
  · rfl
  · rfl
  · rfl
  · rfl
  · rfl
  · rfl
  · rfl
  · have x1 := eX i2 (by omega)
    simp only [bDev, x1]
  · rfl
theorem bW_ff {D : va_G} {g : Nat → ClassId} {ad : Nat → Nat} {z : bSt} {rl : Nat → Nat → Bool} {ff ff1 : Nat → Nat → Int} {H H1 : Heap} (hj : bInj ad) (h : bW D g ad z rl ff H) {i : Nat} (hi : i < 8) (eX : ∀ i2, i2 ≠ i → ff1 i2 = ff i2) (oq : ∀ q, q ≠ ad (2 + 12 * i + 11) → H1[q]? = H[q]?) (hn : va_at D vwCl (ad (2 + 12 * i + 11), bDev g ad z rl ff1 i 11) H1) : bW D g ad z rl ff1 H1 := by
  refine bW_put hj h (2 + 12 * i + 11) (by omega) oq (by rw [bCell_dev i 11 (by omega)]; exact hn) (bCell_same i 11 rfl rfl (fun i2 r2 hr2 hne => ?_))
  rcases (show r2 = 0 ∨ r2 = 1 ∨ r2 = 2 ∨ r2 = 3 ∨ r2 = 4 ∨ r2 = 5 ∨ r2 = 6 ∨ r2 = 7 ∨ r2 = 8 ∨ r2 = 9 ∨ r2 = 10 ∨ r2 = 11 by omega) with rfl | rfl | rfl | rfl | rfl | rfl | rfl | rfl | rfl | rfl | rfl | rfl
  · rfl
  · rfl
  · rfl
  · rfl
  · rfl
  · rfl
  · rfl
  · rfl
  · rfl
  · rfl
  · rfl
  · have x1 := eX i2 (by omega)
    simp only [bDev, x1]
theorem bW_self {D : va_G} {g : Nat → ClassId} {ad : Nat → Nat} {z w : bSt} {rl : Nat → Nat → Bool} {ff : Nat → Nat → Int} {H H1 : Heap} (hj : bInj ad) (h : bW D g ad z rl ff H) (eU : bU w = bU z) (eK : bK w = bK z) (eP : bP w = bP z) (eL : bL w = bL z) (eM : bM w = bM z) (eO : bO w = bO z) (eS : bS w = bS z) (eD : bD w = bD z) (eC : bC w = bC z) (eZ : bZ w = bZ z) (oq : ∀ q, q ≠ ad 0 → H1[q]? = H[q]?) (hn : va_at D vwCl (ad 0, .inr (3, [.ref (ad 1), .int (jI (bN w : Int)), .int (jI (bV w))])) H1) : bW D g ad w rl ff H1 := by
  refine bW_put hj h 0 (by omega) oq hn (fun q hq hne => ?_)
  unfold bCell
  rw [if_neg hne, if_neg hne]
  by_cases h1 : q = 1
  · rw [if_pos h1, if_pos h1]
  · rw [if_neg h1, if_neg h1]
    have hr2 : (q - 2) % 12 < 12 := by omega
    generalize (q - 2) / 12 = i2
    generalize (q - 2) % 12 = r2 at hr2 ⊢
    rcases (show r2 = 0 ∨ r2 = 1 ∨ r2 = 2 ∨ r2 = 3 ∨ r2 = 4 ∨ r2 = 5 ∨ r2 = 6 ∨ r2 = 7 ∨ r2 = 8 ∨ r2 = 9 ∨ r2 = 10 ∨ r2 = 11 by omega) with rfl | rfl | rfl | rfl | rfl | rfl | rfl | rfl | rfl | rfl | rfl | rfl <;> first | (simp only [bDev, eU, eK, eP, eL, eM, eO, eS, eD, eC, eZ]; done) | (simp only [bDev]; done)
theorem bX_dev {D : va_G} {g : Nat → ClassId} {ad : Nat → Nat} {z w : bSt} {rl : Nat → Nat → Bool} {ff : Nat → Nat → Int} {H H1 : Heap} (hj : bInj ad) (h : bW D g ad z rl ff H) {i : Nat} (hi : i < 8) (eN : bN w = bN z) (eV : bV w = bV z) (eK : bK w = bK z) (eP : bP w = bP z) (eL : bL w = bL z) (eM : bM w = bM z) (eS : bS w = bS z) (eD : bD w = bD z) (eX : ∀ i2, i2 ≠ i → bU w i2 = bU z i2 ∧ bO w i2 = bO z i2 ∧ bC w i2 = bC z i2 ∧ bZ w i2 = bZ z i2) {u : Option Nat} {o c : Nat} {y : Int} (e1 : bU w i = u) (e2 : bO w i = o) (e3 : bC w i = c) (e4 : bZ w i = y) (oq : ∀ q, q ≠ ad (2 + 12 * i) → H1[q]? = H[q]?) (hn : va_at D vwCl (ad (2 + 12 * i), .inr (1, [.int (jI (i : Int)), .ref (ad (2 + 12 * i + 1)), .ref (ad (2 + 12 * i + 5)), .ref (ad (2 + 12 * i + 10)), .ref (ad (2 + 12 * i + 11)), va_rf (u.map (fun u => ad (2 + 12 * u))), .int (jI (o : Int)), .int (jI (c : Int)), .int (jI y)])) H1) : bW D g ad w rl ff H1 := by
  subst e1; subst e2; subst e3; subst e4
  exact bW_dev hj h hi eN eV eK eP eL eM eS eD eX oq hn
theorem bX_cur {D : va_G} {g : Nat → ClassId} {ad : Nat → Nat} {z w : bSt} {rl : Nat → Nat → Bool} {ff : Nat → Nat → Int} {H H1 : Heap} (hj : bInj ad) (h : bW D g ad z rl ff H) {i : Nat} (hi : i < 8) (eN : bN w = bN z) (eV : bV w = bV z) (eU : bU w = bU z) (eP : bP w = bP z) (eL : bL w = bL z) (eM : bM w = bM z) (eO : bO w = bO z) (eS : bS w = bS z) (eD : bD w = bD z) (eC : bC w = bC z) (eZ : bZ w = bZ z) (eX : ∀ i2, i2 ≠ i → bK w i2 = bK z i2) {k : Nat} (e1 : bK w i = k) (oq : ∀ q, q ≠ ad (2 + 12 * i + 1) → H1[q]? = H[q]?) (hn : va_at D vwCl (ad (2 + 12 * i + 1), .inr (0, [.ref (ad (2 + 12 * i + 2)), .ref (ad (2 + 12 * i + 3)), .ref (ad (2 + 12 * i + 4)), .int (jI (k : Int))])) H1) : bW D g ad w rl ff H1 := by
  subst e1
  exact bW_cur hj h hi eN eV eU eP eL eM eO eS eD eC eZ eX oq hn
theorem bX_pl {D : va_G} {g : Nat → ClassId} {ad : Nat → Nat} {z w : bSt} {rl : Nat → Nat → Bool} {ff : Nat → Nat → Int} {H H1 : Heap} (hj : bInj ad) (h : bW D g ad z rl ff H) {i : Nat} (hi : i < 8) (eN : bN w = bN z) (eV : bV w = bV z) (eU : bU w = bU z) (eK : bK w = bK z) (eL : bL w = bL z) (eM : bM w = bM z) (eO : bO w = bO z) (eS : bS w = bS z) (eD : bD w = bD z) (eC : bC w = bC z) (eZ : bZ w = bZ z) (eX : ∀ i2, i2 ≠ i → bP w i2 = bP z i2) {f : Nat → Int} (e1 : bP w i = f) (oq : ∀ q, q ≠ ad (2 + 12 * i + 2) → H1[q]? = H[q]?) (hn : va_at D vwCl (ad (2 + 12 * i + 2), .inl (g 0, 6, .inl (fun k => jI (f k)))) H1) : bW D g ad w rl ff H1 := by
  subst e1
  exact bW_pl hj h hi eN eV eU eK eL eM eO eS eD eC eZ eX oq hn
theorem bX_le {D : va_G} {g : Nat → ClassId} {ad : Nat → Nat} {z w : bSt} {rl : Nat → Nat → Bool} {ff : Nat → Nat → Int} {H H1 : Heap} (hj : bInj ad) (h : bW D g ad z rl ff H) {i : Nat} (hi : i < 8) (eN : bN w = bN z) (eV : bV w = bV z) (eU : bU w = bU z) (eK : bK w = bK z) (eP : bP w = bP z) (eM : bM w = bM z) (eO : bO w = bO z) (eS : bS w = bS z) (eD : bD w = bD z) (eC : bC w = bC z) (eZ : bZ w = bZ z) (eX : ∀ i2, i2 ≠ i → bL w i2 = bL z i2) {f : Nat → Int} (e1 : bL w i = f) (oq : ∀ q, q ≠ ad (2 + 12 * i + 3) → H1[q]? = H[q]?) (hn : va_at D vwCl (ad (2 + 12 * i + 3), .inl (g 0, 6, .inl (fun k => jI (f k)))) H1) : bW D g ad w rl ff H1 := by
  subst e1
  exact bW_le hj h hi eN eV eU eK eP eM eO eS eD eC eZ eX oq hn
theorem bX_mo {D : va_G} {g : Nat → ClassId} {ad : Nat → Nat} {z w : bSt} {rl : Nat → Nat → Bool} {ff : Nat → Nat → Int} {H H1 : Heap} (hj : bInj ad) (h : bW D g ad z rl ff H) {i : Nat} (hi : i < 8) (eN : bN w = bN z) (eV : bV w = bV z) (eU : bU w = bU z) (eK : bK w = bK z) (eP : bP w = bP z) (eL : bL w = bL z) (eO : bO w = bO z) (eS : bS w = bS z) (eD : bD w = bD z) (eC : bC w = bC z) (eZ : bZ w = bZ z) (eX : ∀ i2, i2 ≠ i → bM w i2 = bM z i2) {f : Nat → Int} (e1 : bM w i = f) (oq : ∀ q, q ≠ ad (2 + 12 * i + 4) → H1[q]? = H[q]?) (hn : va_at D vwCl (ad (2 + 12 * i + 4), .inl (g 0, 6, .inl (fun k => jI (f k)))) H1) : bW D g ad w rl ff H1 := by
  subst e1
  exact bW_mo hj h hi eN eV eU eK eP eL eO eS eD eC eZ eX oq hn
theorem bX_rl {D : va_G} {g : Nat → ClassId} {ad : Nat → Nat} {z : bSt} {rl rl1 : Nat → Nat → Bool} {ff : Nat → Nat → Int} {H H1 : Heap} (hj : bInj ad) (h : bW D g ad z rl ff H) {i : Nat} (hi : i < 8) (eX : ∀ i2, i2 ≠ i → rl1 i2 = rl i2) {f : Nat → Bool} (e1 : rl1 i = f) (oq : ∀ q, q ≠ ad (2 + 12 * i + 10) → H1[q]? = H[q]?) (hn : va_at D vwCl (ad (2 + 12 * i + 10), .inl (g 1, 4, .inl (fun k => jI (bI (f k))))) H1) : bW D g ad z rl1 ff H1 := by
  subst e1
  exact bW_rl hj h hi eX oq hn
theorem bX_ff {D : va_G} {g : Nat → ClassId} {ad : Nat → Nat} {z : bSt} {rl : Nat → Nat → Bool} {ff ff1 : Nat → Nat → Int} {H H1 : Heap} (hj : bInj ad) (h : bW D g ad z rl ff H) {i : Nat} (hi : i < 8) (eX : ∀ i2, i2 ≠ i → ff1 i2 = ff i2) {f : Nat → Int} (e1 : ff1 i = f) (oq : ∀ q, q ≠ ad (2 + 12 * i + 11) → H1[q]? = H[q]?) (hn : va_at D vwCl (ad (2 + 12 * i + 11), .inl (g 0, 4, .inl (fun k => jI (f k)))) H1) : bW D g ad z rl ff1 H1 := by
  subst e1
  exact bW_ff hj h hi eX oq hn
theorem bX_sett {D : va_G} {g : Nat → ClassId} {ad : Nat → Nat} {z w : bSt} {rl : Nat → Nat → Bool} {ff : Nat → Nat → Int} {H H1 : Heap} (hj : bInj ad) (h : bW D g ad z rl ff H) {i j : Nat} (hi : i < 8) (hj4 : j < 4) (eN : bN w = bN z) (eV : bV w = bV z) (eU : bU w = bU z) (eK : bK w = bK z) (eP : bP w = bP z) (eL : bL w = bL z) (eM : bM w = bM z) (eO : bO w = bO z) (eC : bC w = bC z) (eZ : bZ w = bZ z) (eX : ∀ i2 j2, (i2 ≠ i ∨ j2 ≠ j) → bS w i2 j2 = bS z i2 j2 ∧ bD w i2 j2 = bD z i2 j2) {x y : Int} (e1 : bS w i j = x) (e2 : bD w i j = y) (oq : ∀ q, q ≠ ad (2 + 12 * i + 6 + j) → H1[q]? = H[q]?) (hn : va_at D vwCl (ad (2 + 12 * i + 6 + j), .inr (2, [.ref (ad (2 + 12 * i + 1)), .int (jI x), .int (jI y)])) H1) : bW D g ad w rl ff H1 := by
  subst e1; subst e2
  exact bW_sett hj h hi hj4 eN eV eU eK eP eL eM eO eC eZ eX oq hn
theorem bX_self {D : va_G} {g : Nat → ClassId} {ad : Nat → Nat} {z w : bSt} {rl : Nat → Nat → Bool} {ff : Nat → Nat → Int} {H H1 : Heap} (hj : bInj ad) (h : bW D g ad z rl ff H) (eU : bU w = bU z) (eK : bK w = bK z) (eP : bP w = bP z) (eL : bL w = bL z) (eM : bM w = bM z) (eO : bO w = bO z) (eS : bS w = bS z) (eD : bD w = bD z) (eC : bC w = bC z) (eZ : bZ w = bZ z) {a : Nat} {b : Int} (e1 : bN w = a) (e2 : bV w = b) (oq : ∀ q, q ≠ ad 0 → H1[q]? = H[q]?) (hn : va_at D vwCl (ad 0, .inr (3, [.ref (ad 1), .int (jI (a : Int)), .int (jI b)])) H1) : bW D g ad w rl ff H1 := by
  subst e1; subst e2
  exact bW_self hj h eU eK eP eL eM eO eS eD eC eZ oq hn
/-! a method that writes the object's cells alone -/
def bFr (ad : Nat → Nat) : Addr → Prop := fun q => ∃ r, r < 98 ∧ q = ad r
def bTo (ad : Nat → Nat) (H0 H : Heap) (locs : List Loc) : Prop := H.size = H0.size ∧ (∀ q : Nat, ¬ bFr ad q → H[q]? = H0[q]?) ∧ ∀ q ∈ locs, bFr ad q.base
theorem bTo.rf {ad : Nat → Nat} {H : Heap} : bTo ad H H [] := ⟨rfl, fun _ _ => rfl, fun _ h => by cases h⟩
theorem bTo.put {ad : Nat → Nat} {H0 H H1 : Heap} {locs : List Loc} (h : bTo ad H0 H locs) (r : Nat) (hr : r < 98) (hz : H1.size = H.size) (oq : ∀ q, q ≠ ad r → H1[q]? = H[q]?) {f : Nat} : bTo ad H0 H1 (locs ++ [⟨ad r, f⟩]) := by
  refine ⟨hz.trans h.1, fun q hq => (oq q (fun e => hq ⟨r, hr, e⟩)).trans (h.2.1 q hq), fun q hq => ?_⟩
  rcases List.mem_append.mp hq with h1 | h1
  · exact h.2.2 q h1
  · rw [List.mem_singleton.mp h1]
    exact ⟨r, hr, rfl⟩
def bQ (D : va_G) (g : Nat → ClassId) (ad : Nat → Nat) (v : Option Value) (w : bSt) (Ph : (Nat → Nat → Bool) → (Nat → Nat → Int) → Prop) : Array Value → State → Outcome → State → Prop := fun _ st o t => o = .returned v ∧ (∃ rl ff, Ph rl ff ∧ bW D g ad w rl ff t.heap) ∧ t.heap.size = st.heap.size ∧ ∀ q : Nat, ¬ bFr ad q → t.heap[q]? = st.heap[q]?
section BCALL
variable {p : Program} {l : Launch} {e : Env} {R : Room} {s : State} {m : MethodId} {args : Array Value} {below : List Frame} {meth : Method} {c : Code} {H H0 : Heap} {locs : List Loc} {cells slots : Nat} {Q : State → Prop}
variable {cc : ByteArray} {pc : Nat} {ls : Array Slot} {rest st0 : List Value} {a : Array Value} {D : va_G} {g : Nat → ClassId} {ad : Nat → Nat} {w : bSt} {rl : Nat → Nat → Bool} {ff : Nat → Nat → Int} {Ph : (Nat → Nat → Bool) → (Nat → Nat → Int) → Prop}
theorem b_call {v : Option Value} (hr : va_Run p l e R s m args below meth c H locs cells slots 0 0 (F0 m pc ls st0) rest (bQ D g ad v w Ph a) (bFr ad)) (hT0 : bTo ad H0 H locs)
    (kk : ∀ (H1 : Heap) (locs1 : List Loc) (rl : Nat → Nat → Bool) (ff : Nat → Nat → Int), Ph rl ff → bW D g ad w rl ff H1 → bTo ad H0 H1 locs1 → W p l e R s m args below meth c H1 locs1 cells slots Q (F0 m (pc + 3) ls (v.toList ++ rest))) : W p l e R s m args below meth c H locs cells slots Q (F0 m pc ls st0) := by
  intro T hT X
  obtain ⟨v', st₀, t, T', L, h0, X', hL, e1, e2, ⟨hv, ⟨rl, ff, hPh, hW⟩, hz, hk⟩, st⟩ := hr T hT X
  cases hv
  rw [h0] at hz hk
  obtain ⟨t2, a1, b1⟩ := kk T'.heap (locs ++ L) rl ff hPh (by rw [e1]; exact hW) ⟨by rw [e1, hz]; exact hT0.1, fun q hq => by rw [e1, hk q hq]; exact hT0.2.1 q hq, fun q hq => by
    rcases List.mem_append.mp hq with h1 | h1
    · exact hT0.2.2 q h1
    · exact hL q h1⟩ T' rfl X'
  exact ⟨t2, st t2 a1, b1⟩
theorem b_iret {x y : Int} (hexec : p.tables.exec = Jvm.exec) (hb : c.code = cc) (hr : meth.sig.returnType = some .int) (hlocks : meth.locks = false) (hdg : decode cc pc = .ok (.ireturn, 1)) (hPh : Ph rl ff) (hW : bW D g ad w rl ff H) (hT0 : bTo ad s.heap H locs) (hv : x = y) :
    W p l e R s m args below meth c H locs 0 0 (MQ below (bQ D g ad (some (.int (jI y))) w Ph) args s 0 0 (bFr ad)) (F0 m pc ls [.int (jI x)]) := by
  subst hv
  exact W.iret hexec hb hr (fun t ht _ => ⟨rfl, ⟨rl, ff, hPh, by rw [ht]; exact hW⟩, by rw [ht]; exact hT0.1, fun q hq => by rw [ht]; exact hT0.2.1 q hq⟩) hT0.2.2 hdg
theorem b_zret {x : Int} {y : Bool} (hexec : p.tables.exec = Jvm.exec) (hb : c.code = cc) (hr : meth.sig.returnType = some .boolean) (hlocks : meth.locks = false) (hdg : decode cc pc = .ok (.ireturn, 1)) (hPh : Ph rl ff) (hW : bW D g ad w rl ff H) (hT0 : bTo ad s.heap H locs) (hv : x = bI y) :
    W p l e R s m args below meth c H locs 0 0 (MQ below (bQ D g ad (some (.int (jI (bI y)))) w Ph) args s 0 0 (bFr ad)) (F0 m pc ls [.int (jI x)]) := by
  subst hv
  exact W.zret hexec hb hr (bI_narrow y) (fun t ht _ => ⟨rfl, ⟨rl, ff, hPh, by rw [ht]; exact hW⟩, by rw [ht]; exact hT0.1, fun q hq => by rw [ht]; exact hT0.2.1 q hq⟩) hT0.2.2 hdg
theorem b_vret (hexec : p.tables.exec = Jvm.exec) (hb : c.code = cc) (hr : meth.sig.returnType = none) (hlocks : meth.locks = false) (hdg : decode cc pc = .ok (.return_, 1)) (hPh : Ph rl ff) (hW : bW D g ad w rl ff H) (hT0 : bTo ad s.heap H locs) :
    W p l e R s m args below meth c H locs 0 0 (MQ below (bQ D g ad none w Ph) args s 0 0 (bFr ad)) (F0 m pc ls []) :=
  W.vret hexec hb hr (fun t ht _ => ⟨rfl, ⟨rl, ff, hPh, by rw [ht]; exact hW⟩, by rw [ht]; exact hT0.1, fun q hq => by rw [ht]; exact hT0.2.1 q hq⟩) hT0.2.2 hdg
end BCALL
end
section
/-! the way from a device up to the source -/
def bSum (z : bSt) : Nat → Option Nat → Int
  | 0, _ => 0
  | _ + 1, none => 0
  | k + 1, some j => bZ z j + bSum z k (bU z j)
theorem bSum_none (z : bSt) (k : Nat) : bSum z k none = 0 := by cases k <;> rfl
theorem bSum_some {z : bSt} {k j : Nat} (h : j < k) : bSum z k (some j) = bZ z j + bSum z (k - 1) (bU z j) := by
  cases k with
  | zero => omega
  | succ k => rfl
theorem bSum_range {z : bSt} (hz : bOK z) : ∀ (k j : Nat), j < k → j < bN z → 1 ≤ bSum z k (some j) ∧ bSum z k (some j) ≤ 10000 * (k : Int) := by
  intro k
  induction k with
  | zero => intro j h; omega
  | succ k ih =>
    intro j h hj
    have hN := hz.1
    have f := hz.2.2.1 j (by omega)
    rw [bSum_some h, Nat.add_sub_cancel]
    cases hu : bU z j with
    | none => rw [bSum_none]; omega
    | some u =>
      have h1 := hz.2.2.2 j u hj hu
      have h2 := ih u (by omega) (by omega)
      omega
def bShort (z : bSt) (i : Nat) : Int := min 5000 (1000 * bV z / bSum z 9 (some i))
theorem bShort_range {z : bSt} (hz : bOK z) (i : Nat) (hi : i < bN z) : 0 ≤ bShort z i ∧ bShort z i ≤ 5000 := by
  have hN := hz.1
  have h1 := bSum_range hz 9 i (by omega) hi
  have h2 := hz.2.1
  have h3 := Int.ediv_nonneg (show 0 ≤ 1000 * bV z by omega) (show 0 ≤ bSum z 9 (some i) by omega)
  unfold bShort
  omega
/-- which one on the way has the least most time -/
def bQk (z : bSt) (I : Int) : Nat → Option Nat → Nat → Nat
  | 0, _, q => q
  | _ + 1, none, q => q
  | k + 1, some j, q => bQk z I k (bU z j) (if cWithin (bCh z j) true 0 (bCh z q) true I = true then j else q)
theorem bQk_none (z : bSt) (I : Int) (k q : Nat) : bQk z I k none q = q := by cases k <;> rfl
theorem bQk_some {z : bSt} {I : Int} {k j q : Nat} (h : j < k) : bQk z I k (some j) q = bQk z I (k - 1) (bU z j) (if cWithin (bCh z j) true 0 (bCh z q) true I = true then j else q) := by
  cases k with
  | zero => omega
  | succ k => rfl
theorem bQk_lt {z : bSt} (hz : bOK z) {I : Int} : ∀ (k : Nat) (o : Option Nat) (q : Nat), (∀ u, o = some u → u < bN z) → q < bN z → bQk z I k o q < bN z := by
  intro k
  induction k with
  | zero => intro o q _ hq; exact hq
  | succ k ih =>
    intro o q ho hq
    cases o with
    | none => exact hq
    | some j =>
      have hj := ho j rfl
      simp only [bQk]
      refine ih _ _ (fun u hu => by have := hz.2.2.2 j u hj hu; omega) ?_
      split
      · exact hj
      · exact hq
/-- the a-th on the way that opens -/
def bOp (z : bSt) (I : Int) (b : Nat) : Nat → Option Nat → Int → Int
  | 0, _, _ => -1
  | _ + 1, none, _ => -1
  | k + 1, some j, a => if cWithin (bCh z j) false 0 (bCh z b) true I = true then (if a = 0 then (j : Int) else bOp z I b k (bU z j) (a + (-1))) else bOp z I b k (bU z j) a
theorem bOp_none (z : bSt) (I : Int) (b k : Nat) (a : Int) : bOp z I b k none a = -1 := by cases k <;> rfl
theorem bOp_some {z : bSt} {I : Int} {b k j : Nat} {a : Int} (h : j < k) : bOp z I b k (some j) a = if cWithin (bCh z j) false 0 (bCh z b) true I = true then (if a = 0 then (j : Int) else bOp z I b (k - 1) (bU z j) (a + (-1))) else bOp z I b (k - 1) (bU z j) a := by
  cases k with
  | zero => omega
  | succ k => rfl
/-- option j of i goes with option k of u -/
def okb (z : bSt) (mg : Int) (i j u k : Nat) : Bool := decide (cFbs (cBrk (bSet z i j) (bSet z u k) mg) (cEnd (bSet z i j) (bSet z u k)) 13 1 = -1)
theorem cFit_no {p : Nat → Bool} {n j : Nat} (hj : j < n) (h : p j = false) : cFit p (n - j) j = cFit p (n - (j + 1)) (j + 1) := by
  rw [show n - j = (n - (j + 1)) + 1 by omega]
  simp [cFit, h]
theorem cFit_yes {p : Nat → Bool} {n j : Nat} (hj : j < n) (h : p j = true) : cFit p (n - j) j = (j : Int) := by
  rw [show n - j = (n - (j + 1)) + 1 by omega]
  simp [cFit, h]
theorem cFit_end {p : Nat → Bool} {n j : Nat} (hj : n ≤ j) : cFit p (n - j) j = -1 := by
  rw [show n - j = 0 by omega]
  rfl
theorem cFit_rng (p : Nat → Bool) (n : Nat) : -1 ≤ cFit p n 0 ∧ cFit p n 0 < n := by
  rcases cFit_spec p n 0 with ⟨h, -⟩ | ⟨i, -, h1, h2, -⟩
  · omega
  · omega
theorem cFit_congr {p q : Nat → Bool} : ∀ (k j : Nat), (∀ i, j ≤ i → i < j + k → p i = q i) → cFit p k j = cFit q k j := by
  intro k
  induction k with
  | zero => intro j _; rfl
  | succ k ih =>
    intro j h
    have h0 := h j (Nat.le_refl _) (by omega)
    have h1 := ih (j + 1) (fun i a b => h i (by omega) (by omega))
    simp only [cFit, h0, h1]
/-- a row of ruledOut behind a try: nothing new, or place k -/
theorem cRow_no {a : Bool} {q k : Nat} {F : Nat → Int} (h : F k ≠ -1) : (a || (decide (q < k) && decide (F q = -1))) = (a || (decide (q < k + 1) && decide (F q = -1))) := by
  by_cases hq : q = k
  · subst hq
    simp [h]
  · have e : decide (q < k + 1) = decide (q < k) := by
      by_cases h1 : q < k
      · rw [decide_eq_true h1, decide_eq_true (by omega)]
      · rw [decide_eq_false h1, decide_eq_false (by omega)]
    rw [e]
theorem cRow_yes {f : Nat → Nat → Bool} {a : Bool} {u q k : Nat} {F : Nat → Int} (h : F k = -1) (h1 : f u q = (a || (decide (q < k) && decide (F q = -1)))) : jUp f u (jUp (f u) k true) u q = (a || (decide (q < k + 1) && decide (F q = -1))) := by
  by_cases hq : q = k
  · subst hq
    rw [jUp2_s]
    simp [h]
  · rw [jUp2_n (Or.inr hq), h1]
    have e : decide (q < k + 1) = decide (q < k) := by
      by_cases h1 : q < k
      · rw [decide_eq_true h1, decide_eq_true (by omega)]
      · rw [decide_eq_false h1, decide_eq_false (by omega)]
    rw [e]
def okf (z : bSt) (mg : Int) (i j k : Nat) : Bool := match bU z i with
  | some u => okb z mg i j u k
  | none => true
theorem okf_some {z : bSt} {mg : Int} {i u : Nat} (h : bU z i = some u) (j k : Nat) : okf z mg i j k = okb z mg i j u k := by simp [okf, h]
section Rul
variable {n : Nat} {up : Nat → Option Nat} {op : Nat → Nat} {ok : Nat → Nat → Nat → Bool}
theorem cRul_s0 {m u k : Nat} (h : up (n - 1 - m) = none) : cRul n up op ok (m + 1) u k = cRul n up op ok m u k := by simp [cRul, h]
theorem cRul_s1 {m u v k : Nat} (h : up (n - 1 - m) = some u) (h2 : v ≠ u) : cRul n up op ok (m + 1) v k = cRul n up op ok m v k := by
  have h3 : ¬ u = v := fun q => h2 q.symm
  simp [cRul, h, h3]
theorem cRul_s2 {m u q : Nat} (h : up (n - 1 - m) = some u) : cRul n up op ok (m + 1) u q = (cRul n up op ok m u q || (decide (q < op u) && decide (cFit (fun j => !cRul n up op ok m (n - 1 - m) j && ok (n - 1 - m) j q) (op (n - 1 - m)) 0 = -1))) := by simp [cRul, h]
end Rul
/-- the state with the first i devices' options chosen anew -/
def zCs (z : bSt) (i : Nat) (pk : Nat → Nat) : bSt := (bN z, bV z, bU z, bK z, bP z, bL z, bM z, bO z, bS z, bD z, fun q => if q < i then pk q else bC z q, bZ z)
theorem zCs_0 (z : bSt) (pk : Nat → Nat) : zCs z 0 pk = z := by
  have e : (fun q => if q < 0 then pk q else bC z q) = bC z := by funext q; simp
  unfold zCs
  rw [e]
  rfl
theorem zCs_lt {z : bSt} {i q : Nat} {pk : Nat → Nat} (h : q < i) : bC (zCs z i pk) q = pk q := if_pos h
theorem zCs_step {z : bSt} {i q : Nat} {pk : Nat → Nat} (h : q ≠ i) : bC (zCs z (i + 1) pk) q = bC (zCs z i pk) q := by
  show (if q < i + 1 then pk q else bC z q) = if q < i then pk q else bC z q
  by_cases h1 : q < i
  · rw [if_pos h1, if_pos (by omega)]
  · rw [if_neg h1, if_neg (by omega)]
/-- what firstFor holds of a device that has been tried -/
def cHeld (z : bSt) (mg : Int) (ff : Nat → Nat → Int) (i : Nat) : Prop := (bU z i = none → ff i 0 = cF0 (bN z) (bU z) (bO z) (okf z mg) i) ∧ ∀ u, bU z i = some u → ∀ k, k < bO z u → ff i k = cFk (bN z) (bU z) (bO z) (okf z mg) i k
/-- one device more has been tried -/
theorem cTry0 {z : bSt} {mg : Int} {rl : Nat → Nat → Bool} {m : Nat} (hz : bOK z) (hm : m < bN z) (hr : ∀ i, i < bN z → ∀ k, k < 4 → rl i k = cRul (bN z) (bU z) (bO z) (okf z mg) m i k) :
    cFit (fun j => !rl (bN z - 1 - m) j) (bO z (bN z - 1 - m)) 0 = cF0 (bN z) (bU z) (bO z) (okf z mg) (bN z - 1 - m) := by
  have hN := hz.1
  have f := hz.2.2.1 (bN z - 1 - m) (by omega)
  unfold cF0 cAt
  rw [show bN z - 1 - (bN z - 1 - m) = m by omega]
  exact cFit_congr _ _ (fun j _ hj => by rw [hr _ (by omega) j (by omega)])
theorem cTry1 {z : bSt} {mg : Int} {rl : Nat → Nat → Bool} {m u k : Nat} (hz : bOK z) (hm : m < bN z) (hU : bU z (bN z - 1 - m) = some u) (hr : ∀ i, i < bN z → ∀ k, k < 4 → rl i k = cRul (bN z) (bU z) (bO z) (okf z mg) m i k) :
    cFit (fun j => !rl (bN z - 1 - m) j && okb z mg (bN z - 1 - m) j u k) (bO z (bN z - 1 - m)) 0 = cFk (bN z) (bU z) (bO z) (okf z mg) (bN z - 1 - m) k := by
  have hN := hz.1
  have f := hz.2.2.1 (bN z - 1 - m) (by omega)
  unfold cFk cAt
  rw [show bN z - 1 - (bN z - 1 - m) = m by omega]
  exact cFit_congr _ _ (fun j _ hj => by rw [hr _ (by omega) j (by omega), okf_some hU])
theorem cTry1r {z : bSt} {mg : Int} {rl r1 : Nat → Nat → Bool} {m u : Nat} (hz : bOK z) (hm : m < bN z) (hU : bU z (bN z - 1 - m) = some u) (hr : ∀ i, i < bN z → ∀ k, k < 4 → rl i k = cRul (bN z) (bU z) (bO z) (okf z mg) m i k)
    (h1 : ∀ i2, i2 ≠ u → r1 i2 = rl i2) (h2 : ∀ q, q < 4 → r1 u q = (rl u q || (decide (q < bO z u) && decide (cFit (fun j => !rl (bN z - 1 - m) j && okb z mg (bN z - 1 - m) j u q) (bO z (bN z - 1 - m)) 0 = -1)))) :
    ∀ i, i < bN z → ∀ k, k < 4 → r1 i k = cRul (bN z) (bU z) (bO z) (okf z mg) (m + 1) i k := by
  have hN := hz.1
  have f := hz.2.2.1 (bN z - 1 - m) (by omega)
  intro i hi k hk
  by_cases hiu : i = u
  · subst hiu
    rw [h2 k hk, hr i hi k hk, cRul_s2 hU]
    have e : cFit (fun j => !rl (bN z - 1 - m) j && okb z mg (bN z - 1 - m) j i k) (bO z (bN z - 1 - m)) 0 = cFit (fun j => !cRul (bN z) (bU z) (bO z) (okf z mg) m (bN z - 1 - m) j && okf z mg (bN z - 1 - m) j k) (bO z (bN z - 1 - m)) 0 :=
      cFit_congr _ _ (fun j _ hj => by rw [hr _ (by omega) j (by omega), okf_some hU])
    rw [e]
  · rw [h1 i hiu, hr i hi k hk, cRul_s1 hU hiu]
end
section
theorem dX3_init_0 : decode cX3_init 0 = .ok (.aload_n 0, 1) := by decide +kernel
theorem dX3_init_1 : decode cX3_init 1 = .ok (.invokespecial 3, 3) := by decide +kernel
theorem dX3_init_4 : decode cX3_init 4 = .ok (.aload_n 0, 1) := by decide +kernel
theorem dX3_init_5 : decode cX3_init 5 = .ok (.bipush 8, 2) := by decide +kernel
theorem dX3_init_7 : decode cX3_init 7 = .ok (.anewarray 9, 3) := by decide +kernel
theorem dX3_init_10 : decode cX3_init 10 = .ok (.putfield 11, 3) := by decide +kernel
theorem dX3_init_13 : decode cX3_init 13 = .ok (.aload_n 0, 1) := by decide +kernel
theorem dX3_init_14 : decode cX3_init 14 = .ok (.iconst 0, 1) := by decide +kernel
theorem dX3_init_15 : decode cX3_init 15 = .ok (.putfield 15, 3) := by decide +kernel
theorem dX3_init_18 : decode cX3_init 18 = .ok (.aload_n 0, 1) := by decide +kernel
theorem dX3_init_19 : decode cX3_init 19 = .ok (.iconst 0, 1) := by decide +kernel
theorem dX3_init_20 : decode cX3_init 20 = .ok (.putfield 19, 3) := by decide +kernel
theorem dX3_init_23 : decode cX3_init 23 = .ok (.iconst 0, 1) := by decide +kernel
theorem dX3_init_24 : decode cX3_init 24 = .ok (.istore_n 1, 1) := by decide +kernel
theorem dX3_init_25 : decode cX3_init 25 = .ok (.iload_n 1, 1) := by decide +kernel
theorem dX3_init_26 : decode cX3_init 26 = .ok (.bipush 8, 2) := by decide +kernel
theorem dX3_init_28 : decode cX3_init 28 = .ok (.if_icmp .ge 23, 3) := by decide +kernel
theorem dX3_init_31 : decode cX3_init 31 = .ok (.aload_n 0, 1) := by decide +kernel
theorem dX3_init_32 : decode cX3_init 32 = .ok (.getfield 11, 3) := by decide +kernel
theorem dX3_init_35 : decode cX3_init 35 = .ok (.iload_n 1, 1) := by decide +kernel
theorem dX3_init_36 : decode cX3_init 36 = .ok (.new 9, 3) := by decide +kernel
theorem dX3_init_39 : decode cX3_init 39 = .ok (.dup, 1) := by decide +kernel
theorem dX3_init_40 : decode cX3_init 40 = .ok (.iload_n 1, 1) := by decide +kernel
theorem dX3_init_41 : decode cX3_init 41 = .ok (.invokespecial 22, 3) := by decide +kernel
theorem dX3_init_44 : decode cX3_init 44 = .ok (.aastore, 1) := by decide +kernel
theorem dX3_init_45 : decode cX3_init 45 = .ok (.iinc 1 1, 3) := by decide +kernel
theorem dX3_init_48 : decode cX3_init 48 = .ok (.goto (-23), 3) := by decide +kernel
theorem dX3_init_51 : decode cX3_init 51 = .ok (.return_, 1) := by decide +kernel
theorem dX3_device_0 : decode cX3_device 0 = .ok (.iload_n 1, 1) := by decide +kernel
theorem dX3_device_1 : decode cX3_device 1 = .ok (.iconst (-1), 1) := by decide +kernel
theorem dX3_device_2 : decode cX3_device 2 = .ok (.if_icmp .ne 7, 3) := by decide +kernel
theorem dX3_device_5 : decode cX3_device 5 = .ok (.aconst_null, 1) := by decide +kernel
theorem dX3_device_6 : decode cX3_device 6 = .ok (.goto 8, 3) := by decide +kernel
theorem dX3_device_9 : decode cX3_device 9 = .ok (.aload_n 0, 1) := by decide +kernel
theorem dX3_device_10 : decode cX3_device 10 = .ok (.iload_n 1, 1) := by decide +kernel
theorem dX3_device_11 : decode cX3_device 11 = .ok (.invokevirtual 25, 3) := by decide +kernel
theorem dX3_device_14 : decode cX3_device 14 = .ok (.astore_n 2, 1) := by decide +kernel
theorem dX3_device_15 : decode cX3_device 15 = .ok (.aload_n 0, 1) := by decide +kernel
theorem dX3_device_16 : decode cX3_device 16 = .ok (.getfield 15, 3) := by decide +kernel
theorem dX3_device_19 : decode cX3_device 19 = .ok (.bipush 8, 2) := by decide +kernel
theorem dX3_device_21 : decode cX3_device 21 = .ok (.if_icmp .lt 13, 3) := by decide +kernel
theorem dX3_device_24 : decode cX3_device 24 = .ok (.new 29, 3) := by decide +kernel
theorem dX3_device_27 : decode cX3_device 27 = .ok (.dup, 1) := by decide +kernel
theorem dX3_device_28 : decode cX3_device 28 = .ok (.ldc 31, 2) := by decide +kernel
theorem dX3_device_30 : decode cX3_device 30 = .ok (.invokespecial 33, 3) := by decide +kernel
theorem dX3_device_33 : decode cX3_device 33 = .ok (.athrow, 1) := by decide +kernel
theorem dX3_device_34 : decode cX3_device 34 = .ok (.aload_n 0, 1) := by decide +kernel
theorem dX3_device_35 : decode cX3_device 35 = .ok (.getfield 11, 3) := by decide +kernel
theorem dX3_device_38 : decode cX3_device 38 = .ok (.aload_n 0, 1) := by decide +kernel
theorem dX3_device_39 : decode cX3_device 39 = .ok (.getfield 15, 3) := by decide +kernel
theorem dX3_device_42 : decode cX3_device 42 = .ok (.aaload, 1) := by decide +kernel
theorem dX3_device_43 : decode cX3_device 43 = .ok (.astore_n 3, 1) := by decide +kernel
theorem dX3_device_44 : decode cX3_device 44 = .ok (.aload_n 3, 1) := by decide +kernel
theorem dX3_device_45 : decode cX3_device 45 = .ok (.aload_n 2, 1) := by decide +kernel
theorem dX3_device_46 : decode cX3_device 46 = .ok (.putfield 36, 3) := by decide +kernel
theorem dX3_device_49 : decode cX3_device 49 = .ok (.aload_n 0, 1) := by decide +kernel
theorem dX3_device_50 : decode cX3_device 50 = .ok (.dup, 1) := by decide +kernel
theorem dX3_device_51 : decode cX3_device 51 = .ok (.getfield 15, 3) := by decide +kernel
theorem dX3_device_54 : decode cX3_device 54 = .ok (.iconst 1, 1) := by decide +kernel
theorem dX3_device_55 : decode cX3_device 55 = .ok (.iadd, 1) := by decide +kernel
theorem dX3_device_56 : decode cX3_device 56 = .ok (.putfield 15, 3) := by decide +kernel
theorem dX3_device_59 : decode cX3_device 59 = .ok (.aload_n 3, 1) := by decide +kernel
theorem dX3_device_60 : decode cX3_device 60 = .ok (.getfield 40, 3) := by decide +kernel
theorem dX3_device_63 : decode cX3_device 63 = .ok (.ireturn, 1) := by decide +kernel
theorem dX3_point_0 : decode cX3_point 0 = .ok (.aload_n 0, 1) := by decide +kernel
theorem dX3_point_1 : decode cX3_point 1 = .ok (.iload_n 1, 1) := by decide +kernel
theorem dX3_point_2 : decode cX3_point 2 = .ok (.invokevirtual 25, 3) := by decide +kernel
theorem dX3_point_5 : decode cX3_point 5 = .ok (.getfield 43, 3) := by decide +kernel
theorem dX3_point_8 : decode cX3_point 8 = .ok (.astore 5, 2) := by decide +kernel
theorem dX3_point_10 : decode cX3_point 10 = .ok (.iload_n 2, 1) := by decide +kernel
theorem dX3_point_11 : decode cX3_point 11 = .ok (.iconst 1, 1) := by decide +kernel
theorem dX3_point_12 : decode cX3_point 12 = .ok (.sipush 5000, 3) := by decide +kernel
theorem dX3_point_15 : decode cX3_point 15 = .ok (.invokestatic 47, 3) := by decide +kernel
theorem dX3_point_18 : decode cX3_point 18 = .ok (.iload 4, 2) := by decide +kernel
theorem dX3_point_20 : decode cX3_point 20 = .ok (.iconst 0, 1) := by decide +kernel
theorem dX3_point_21 : decode cX3_point 21 = .ok (.ldc 51, 2) := by decide +kernel
theorem dX3_point_23 : decode cX3_point 23 = .ok (.invokestatic 47, 3) := by decide +kernel
theorem dX3_point_26 : decode cX3_point 26 = .ok (.iload_n 3, 1) := by decide +kernel
theorem dX3_point_27 : decode cX3_point 27 = .ok (.iconst 0, 1) := by decide +kernel
theorem dX3_point_28 : decode cX3_point 28 = .ok (.iload 4, 2) := by decide +kernel
theorem dX3_point_30 : decode cX3_point 30 = .ok (.invokestatic 47, 3) := by decide +kernel
theorem dX3_point_33 : decode cX3_point 33 = .ok (.aload 5, 2) := by decide +kernel
theorem dX3_point_35 : decode cX3_point 35 = .ok (.getfield 52, 3) := by decide +kernel
theorem dX3_point_38 : decode cX3_point 38 = .ok (.bipush 6, 2) := by decide +kernel
theorem dX3_point_40 : decode cX3_point 40 = .ok (.if_icmp .lt 13, 3) := by decide +kernel
theorem dX3_point_43 : decode cX3_point 43 = .ok (.new 29, 3) := by decide +kernel
theorem dX3_point_46 : decode cX3_point 46 = .ok (.dup, 1) := by decide +kernel
theorem dX3_point_47 : decode cX3_point 47 = .ok (.ldc 57, 2) := by decide +kernel
theorem dX3_point_49 : decode cX3_point 49 = .ok (.invokespecial 33, 3) := by decide +kernel
theorem dX3_point_52 : decode cX3_point 52 = .ok (.athrow, 1) := by decide +kernel
theorem dX3_point_53 : decode cX3_point 53 = .ok (.aload 5, 2) := by decide +kernel
theorem dX3_point_55 : decode cX3_point 55 = .ok (.getfield 52, 3) := by decide +kernel
theorem dX3_point_58 : decode cX3_point 58 = .ok (.ifCond .le 30, 3) := by decide +kernel
theorem dX3_point_61 : decode cX3_point 61 = .ok (.aload 5, 2) := by decide +kernel
theorem dX3_point_63 : decode cX3_point 63 = .ok (.getfield 59, 3) := by decide +kernel
theorem dX3_point_66 : decode cX3_point 66 = .ok (.aload 5, 2) := by decide +kernel
theorem dX3_point_68 : decode cX3_point 68 = .ok (.getfield 52, 3) := by decide +kernel
theorem dX3_point_71 : decode cX3_point 71 = .ok (.iconst 1, 1) := by decide +kernel
theorem dX3_point_72 : decode cX3_point 72 = .ok (.isub, 1) := by decide +kernel
theorem dX3_point_73 : decode cX3_point 73 = .ok (.iaload, 1) := by decide +kernel
theorem dX3_point_74 : decode cX3_point 74 = .ok (.iload_n 2, 1) := by decide +kernel
theorem dX3_point_75 : decode cX3_point 75 = .ok (.if_icmp .lt 13, 3) := by decide +kernel
theorem dX3_point_78 : decode cX3_point 78 = .ok (.new 29, 3) := by decide +kernel
theorem dX3_point_81 : decode cX3_point 81 = .ok (.dup, 1) := by decide +kernel
theorem dX3_point_82 : decode cX3_point 82 = .ok (.ldc 63, 2) := by decide +kernel
theorem dX3_point_84 : decode cX3_point 84 = .ok (.invokespecial 33, 3) := by decide +kernel
theorem dX3_point_87 : decode cX3_point 87 = .ok (.athrow, 1) := by decide +kernel
theorem dX3_point_88 : decode cX3_point 88 = .ok (.aload 5, 2) := by decide +kernel
theorem dX3_point_90 : decode cX3_point 90 = .ok (.iload_n 2, 1) := by decide +kernel
theorem dX3_point_91 : decode cX3_point 91 = .ok (.iload_n 3, 1) := by decide +kernel
theorem dX3_point_92 : decode cX3_point 92 = .ok (.iload 4, 2) := by decide +kernel
theorem dX3_point_94 : decode cX3_point 94 = .ok (.invokevirtual 65, 3) := by decide +kernel
theorem dX3_point_97 : decode cX3_point 97 = .ok (.aload 5, 2) := by decide +kernel
theorem dX3_point_99 : decode cX3_point 99 = .ok (.getfield 52, 3) := by decide +kernel
theorem dX3_point_102 : decode cX3_point 102 = .ok (.ireturn, 1) := by decide +kernel
theorem dX3_option_0 : decode cX3_option 0 = .ok (.aload_n 0, 1) := by decide +kernel
theorem dX3_option_1 : decode cX3_option 1 = .ok (.iload_n 1, 1) := by decide +kernel
theorem dX3_option_2 : decode cX3_option 2 = .ok (.invokevirtual 25, 3) := by decide +kernel
theorem dX3_option_5 : decode cX3_option 5 = .ok (.astore 4, 2) := by decide +kernel
theorem dX3_option_7 : decode cX3_option 7 = .ok (.iload_n 2, 1) := by decide +kernel
theorem dX3_option_8 : decode cX3_option 8 = .ok (.bipush 10, 2) := by decide +kernel
theorem dX3_option_10 : decode cX3_option 10 = .ok (.sipush 1000, 3) := by decide +kernel
theorem dX3_option_13 : decode cX3_option 13 = .ok (.invokestatic 47, 3) := by decide +kernel
theorem dX3_option_16 : decode cX3_option 16 = .ok (.iload_n 3, 1) := by decide +kernel
theorem dX3_option_17 : decode cX3_option 17 = .ok (.iconst 0, 1) := by decide +kernel
theorem dX3_option_18 : decode cX3_option 18 = .ok (.sipush 10000, 3) := by decide +kernel
theorem dX3_option_21 : decode cX3_option 21 = .ok (.invokestatic 47, 3) := by decide +kernel
theorem dX3_option_24 : decode cX3_option 24 = .ok (.aload 4, 2) := by decide +kernel
theorem dX3_option_26 : decode cX3_option 26 = .ok (.getfield 68, 3) := by decide +kernel
theorem dX3_option_29 : decode cX3_option 29 = .ok (.iconst 4, 1) := by decide +kernel
theorem dX3_option_30 : decode cX3_option 30 = .ok (.if_icmp .lt 13, 3) := by decide +kernel
theorem dX3_option_33 : decode cX3_option 33 = .ok (.new 29, 3) := by decide +kernel
theorem dX3_option_36 : decode cX3_option 36 = .ok (.dup, 1) := by decide +kernel
theorem dX3_option_37 : decode cX3_option 37 = .ok (.ldc 71, 2) := by decide +kernel
theorem dX3_option_39 : decode cX3_option 39 = .ok (.invokespecial 33, 3) := by decide +kernel
theorem dX3_option_42 : decode cX3_option 42 = .ok (.athrow, 1) := by decide +kernel
theorem dX3_option_43 : decode cX3_option 43 = .ok (.aload 4, 2) := by decide +kernel
theorem dX3_option_45 : decode cX3_option 45 = .ok (.getfield 68, 3) := by decide +kernel
theorem dX3_option_48 : decode cX3_option 48 = .ok (.istore 5, 2) := by decide +kernel
theorem dX3_option_50 : decode cX3_option 50 = .ok (.aload 4, 2) := by decide +kernel
theorem dX3_option_52 : decode cX3_option 52 = .ok (.getfield 73, 3) := by decide +kernel
theorem dX3_option_55 : decode cX3_option 55 = .ok (.iload 5, 2) := by decide +kernel
theorem dX3_option_57 : decode cX3_option 57 = .ok (.aaload, 1) := by decide +kernel
theorem dX3_option_58 : decode cX3_option 58 = .ok (.iload_n 2, 1) := by decide +kernel
theorem dX3_option_59 : decode cX3_option 59 = .ok (.putfield 77, 3) := by decide +kernel
theorem dX3_option_62 : decode cX3_option 62 = .ok (.aload 4, 2) := by decide +kernel
theorem dX3_option_64 : decode cX3_option 64 = .ok (.getfield 73, 3) := by decide +kernel
theorem dX3_option_67 : decode cX3_option 67 = .ok (.iload 5, 2) := by decide +kernel
theorem dX3_option_69 : decode cX3_option 69 = .ok (.aaload, 1) := by decide +kernel
theorem dX3_option_70 : decode cX3_option 70 = .ok (.iload_n 3, 1) := by decide +kernel
theorem dX3_option_71 : decode cX3_option 71 = .ok (.putfield 82, 3) := by decide +kernel
theorem dX3_option_74 : decode cX3_option 74 = .ok (.aload 4, 2) := by decide +kernel
theorem dX3_option_76 : decode cX3_option 76 = .ok (.dup, 1) := by decide +kernel
theorem dX3_option_77 : decode cX3_option 77 = .ok (.getfield 68, 3) := by decide +kernel
theorem dX3_option_80 : decode cX3_option 80 = .ok (.iconst 1, 1) := by decide +kernel
theorem dX3_option_81 : decode cX3_option 81 = .ok (.iadd, 1) := by decide +kernel
theorem dX3_option_82 : decode cX3_option 82 = .ok (.putfield 68, 3) := by decide +kernel
theorem dX3_option_85 : decode cX3_option 85 = .ok (.iload 5, 2) := by decide +kernel
theorem dX3_option_87 : decode cX3_option 87 = .ok (.ireturn, 1) := by decide +kernel
theorem dX3_choose_0 : decode cX3_choose 0 = .ok (.aload_n 0, 1) := by decide +kernel
theorem dX3_choose_1 : decode cX3_choose 1 = .ok (.iload_n 1, 1) := by decide +kernel
theorem dX3_choose_2 : decode cX3_choose 2 = .ok (.invokevirtual 25, 3) := by decide +kernel
theorem dX3_choose_5 : decode cX3_choose 5 = .ok (.astore_n 3, 1) := by decide +kernel
theorem dX3_choose_6 : decode cX3_choose 6 = .ok (.iload_n 2, 1) := by decide +kernel
theorem dX3_choose_7 : decode cX3_choose 7 = .ok (.iconst 0, 1) := by decide +kernel
theorem dX3_choose_8 : decode cX3_choose 8 = .ok (.aload_n 3, 1) := by decide +kernel
theorem dX3_choose_9 : decode cX3_choose 9 = .ok (.getfield 68, 3) := by decide +kernel
theorem dX3_choose_12 : decode cX3_choose 12 = .ok (.iconst 1, 1) := by decide +kernel
theorem dX3_choose_13 : decode cX3_choose 13 = .ok (.isub, 1) := by decide +kernel
theorem dX3_choose_14 : decode cX3_choose 14 = .ok (.invokestatic 47, 3) := by decide +kernel
theorem dX3_choose_17 : decode cX3_choose 17 = .ok (.aload_n 3, 1) := by decide +kernel
theorem dX3_choose_18 : decode cX3_choose 18 = .ok (.getfield 85, 3) := by decide +kernel
theorem dX3_choose_21 : decode cX3_choose 21 = .ok (.istore 4, 2) := by decide +kernel
theorem dX3_choose_23 : decode cX3_choose 23 = .ok (.aload_n 3, 1) := by decide +kernel
theorem dX3_choose_24 : decode cX3_choose 24 = .ok (.iload_n 2, 1) := by decide +kernel
theorem dX3_choose_25 : decode cX3_choose 25 = .ok (.putfield 85, 3) := by decide +kernel
theorem dX3_choose_28 : decode cX3_choose 28 = .ok (.iload 4, 2) := by decide +kernel
theorem dX3_choose_30 : decode cX3_choose 30 = .ok (.ireturn, 1) := by decide +kernel
theorem dX3_time_0 : decode cX3_time 0 = .ok (.aload_n 0, 1) := by decide +kernel
theorem dX3_time_1 : decode cX3_time 1 = .ok (.iload_n 1, 1) := by decide +kernel
theorem dX3_time_2 : decode cX3_time 2 = .ok (.invokevirtual 25, 3) := by decide +kernel
theorem dX3_time_5 : decode cX3_time 5 = .ok (.invokevirtual 88, 3) := by decide +kernel
theorem dX3_time_8 : decode cX3_time 8 = .ok (.astore 4, 2) := by decide +kernel
theorem dX3_time_10 : decode cX3_time 10 = .ok (.iload_n 2, 1) := by decide +kernel
theorem dX3_time_11 : decode cX3_time 11 = .ok (.iconst 1, 1) := by decide +kernel
theorem dX3_time_12 : decode cX3_time 12 = .ok (.sipush 5000, 3) := by decide +kernel
theorem dX3_time_15 : decode cX3_time 15 = .ok (.invokestatic 47, 3) := by decide +kernel
theorem dX3_time_18 : decode cX3_time 18 = .ok (.aload 4, 2) := by decide +kernel
theorem dX3_time_20 : decode cX3_time 20 = .ok (.iload_n 2, 1) := by decide +kernel
theorem dX3_time_21 : decode cX3_time 21 = .ok (.invokevirtual 92, 3) := by decide +kernel
theorem dX3_time_24 : decode cX3_time 24 = .ok (.istore 5, 2) := by decide +kernel
theorem dX3_time_26 : decode cX3_time 26 = .ok (.iload 5, 2) := by decide +kernel
theorem dX3_time_28 : decode cX3_time 28 = .ok (.iconst (-1), 1) := by decide +kernel
theorem dX3_time_29 : decode cX3_time 29 = .ok (.if_icmp .ne 7, 3) := by decide +kernel
theorem dX3_time_32 : decode cX3_time 32 = .ok (.iconst (-1), 1) := by decide +kernel
theorem dX3_time_33 : decode cX3_time 33 = .ok (.goto 12, 3) := by decide +kernel
theorem dX3_time_36 : decode cX3_time 36 = .ok (.aload 4, 2) := by decide +kernel
theorem dX3_time_38 : decode cX3_time 38 = .ok (.iload 5, 2) := by decide +kernel
theorem dX3_time_40 : decode cX3_time 40 = .ok (.iload_n 2, 1) := by decide +kernel
theorem dX3_time_41 : decode cX3_time 41 = .ok (.iload_n 3, 1) := by decide +kernel
theorem dX3_time_42 : decode cX3_time 42 = .ok (.invokevirtual 96, 3) := by decide +kernel
theorem dX3_time_45 : decode cX3_time 45 = .ok (.ireturn, 1) := by decide +kernel
theorem dX3_opensFrom_0 : decode cX3_opensFrom 0 = .ok (.aload_n 0, 1) := by decide +kernel
theorem dX3_opensFrom_1 : decode cX3_opensFrom 1 = .ok (.iload_n 1, 1) := by decide +kernel
theorem dX3_opensFrom_2 : decode cX3_opensFrom 2 = .ok (.invokevirtual 25, 3) := by decide +kernel
theorem dX3_opensFrom_5 : decode cX3_opensFrom 5 = .ok (.invokevirtual 88, 3) := by decide +kernel
theorem dX3_opensFrom_8 : decode cX3_opensFrom 8 = .ok (.iconst 0, 1) := by decide +kernel
theorem dX3_opensFrom_9 : decode cX3_opensFrom 9 = .ok (.invokevirtual 100, 3) := by decide +kernel
theorem dX3_opensFrom_12 : decode cX3_opensFrom 12 = .ok (.istore_n 2, 1) := by decide +kernel
theorem dX3_opensFrom_13 : decode cX3_opensFrom 13 = .ok (.iload_n 2, 1) := by decide +kernel
theorem dX3_opensFrom_14 : decode cX3_opensFrom 14 = .ok (.sipush 5000, 3) := by decide +kernel
theorem dX3_opensFrom_17 : decode cX3_opensFrom 17 = .ok (.if_icmp .le 7, 3) := by decide +kernel
theorem dX3_opensFrom_20 : decode cX3_opensFrom 20 = .ok (.iconst (-1), 1) := by decide +kernel
theorem dX3_opensFrom_21 : decode cX3_opensFrom 21 = .ok (.goto 4, 3) := by decide +kernel
theorem dX3_opensFrom_24 : decode cX3_opensFrom 24 = .ok (.iload_n 2, 1) := by decide +kernel
theorem dX3_opensFrom_25 : decode cX3_opensFrom 25 = .ok (.ireturn, 1) := by decide +kernel
theorem dX3_order_0 : decode cX3_order 0 = .ok (.iload_n 1, 1) := by decide +kernel
theorem dX3_order_1 : decode cX3_order 1 = .ok (.iload_n 2, 1) := by decide +kernel
theorem dX3_order_2 : decode cX3_order 2 = .ok (.iload_n 3, 1) := by decide +kernel
theorem dX3_order_3 : decode cX3_order 3 = .ok (.invokestatic 103, 3) := by decide +kernel
theorem dX3_order_6 : decode cX3_order 6 = .ok (.aload_n 0, 1) := by decide +kernel
theorem dX3_order_7 : decode cX3_order 7 = .ok (.iload_n 1, 1) := by decide +kernel
theorem dX3_order_8 : decode cX3_order 8 = .ok (.invokevirtual 25, 3) := by decide +kernel
theorem dX3_order_11 : decode cX3_order 11 = .ok (.invokevirtual 88, 3) := by decide +kernel
theorem dX3_order_14 : decode cX3_order 14 = .ok (.aload_n 0, 1) := by decide +kernel
theorem dX3_order_15 : decode cX3_order 15 = .ok (.iload_n 2, 1) := by decide +kernel
theorem dX3_order_16 : decode cX3_order 16 = .ok (.invokevirtual 25, 3) := by decide +kernel
theorem dX3_order_19 : decode cX3_order 19 = .ok (.invokevirtual 88, 3) := by decide +kernel
theorem dX3_order_22 : decode cX3_order 22 = .ok (.iload_n 3, 1) := by decide +kernel
theorem dX3_order_23 : decode cX3_order 23 = .ok (.invokestatic 106, 3) := by decide +kernel
theorem dX3_order_26 : decode cX3_order 26 = .ok (.ireturn, 1) := by decide +kernel
theorem dX3_broken_0 : decode cX3_broken 0 = .ok (.iload_n 1, 1) := by decide +kernel
theorem dX3_broken_1 : decode cX3_broken 1 = .ok (.iload_n 2, 1) := by decide +kernel
theorem dX3_broken_2 : decode cX3_broken 2 = .ok (.iload_n 3, 1) := by decide +kernel
theorem dX3_broken_3 : decode cX3_broken 3 = .ok (.invokestatic 103, 3) := by decide +kernel
theorem dX3_broken_6 : decode cX3_broken 6 = .ok (.aload_n 0, 1) := by decide +kernel
theorem dX3_broken_7 : decode cX3_broken 7 = .ok (.iload_n 1, 1) := by decide +kernel
theorem dX3_broken_8 : decode cX3_broken 8 = .ok (.invokevirtual 25, 3) := by decide +kernel
theorem dX3_broken_11 : decode cX3_broken 11 = .ok (.invokevirtual 88, 3) := by decide +kernel
theorem dX3_broken_14 : decode cX3_broken 14 = .ok (.aload_n 0, 1) := by decide +kernel
theorem dX3_broken_15 : decode cX3_broken 15 = .ok (.iload_n 2, 1) := by decide +kernel
theorem dX3_broken_16 : decode cX3_broken 16 = .ok (.invokevirtual 25, 3) := by decide +kernel
theorem dX3_broken_19 : decode cX3_broken 19 = .ok (.invokevirtual 88, 3) := by decide +kernel
theorem dX3_broken_22 : decode cX3_broken 22 = .ok (.iload_n 3, 1) := by decide +kernel
theorem dX3_broken_23 : decode cX3_broken 23 = .ok (.invokestatic 110, 3) := by decide +kernel
theorem dX3_broken_26 : decode cX3_broken 26 = .ok (.ireturn, 1) := by decide +kernel
theorem dX3_settle_0 : decode cX3_settle 0 = .ok (.iload_n 1, 1) := by decide +kernel
theorem dX3_settle_1 : decode cX3_settle 1 = .ok (.iconst 0, 1) := by decide +kernel
theorem dX3_settle_2 : decode cX3_settle 2 = .ok (.sipush 10000, 3) := by decide +kernel
theorem dX3_settle_5 : decode cX3_settle 5 = .ok (.invokestatic 47, 3) := by decide +kernel
theorem dX3_settle_8 : decode cX3_settle 8 = .ok (.iconst 0, 1) := by decide +kernel
theorem dX3_settle_9 : decode cX3_settle 9 = .ok (.istore_n 2, 1) := by decide +kernel
theorem dX3_settle_10 : decode cX3_settle 10 = .ok (.iload_n 2, 1) := by decide +kernel
theorem dX3_settle_11 : decode cX3_settle 11 = .ok (.aload_n 0, 1) := by decide +kernel
theorem dX3_settle_12 : decode cX3_settle 12 = .ok (.getfield 15, 3) := by decide +kernel
theorem dX3_settle_15 : decode cX3_settle 15 = .ok (.if_icmp .ge 18, 3) := by decide +kernel
theorem dX3_settle_18 : decode cX3_settle 18 = .ok (.aload_n 0, 1) := by decide +kernel
theorem dX3_settle_19 : decode cX3_settle 19 = .ok (.getfield 11, 3) := by decide +kernel
theorem dX3_settle_22 : decode cX3_settle 22 = .ok (.iload_n 2, 1) := by decide +kernel
theorem dX3_settle_23 : decode cX3_settle 23 = .ok (.aaload, 1) := by decide +kernel
theorem dX3_settle_24 : decode cX3_settle 24 = .ok (.invokevirtual 113, 3) := by decide +kernel
theorem dX3_settle_27 : decode cX3_settle 27 = .ok (.iinc 2 1, 3) := by decide +kernel
theorem dX3_settle_30 : decode cX3_settle 30 = .ok (.goto (-20), 3) := by decide +kernel
theorem dX3_settle_33 : decode cX3_settle 33 = .ok (.aload_n 0, 1) := by decide +kernel
theorem dX3_settle_34 : decode cX3_settle 34 = .ok (.getfield 15, 3) := by decide +kernel
theorem dX3_settle_37 : decode cX3_settle 37 = .ok (.iconst 1, 1) := by decide +kernel
theorem dX3_settle_38 : decode cX3_settle 38 = .ok (.isub, 1) := by decide +kernel
theorem dX3_settle_39 : decode cX3_settle 39 = .ok (.istore_n 2, 1) := by decide +kernel
theorem dX3_settle_40 : decode cX3_settle 40 = .ok (.iload_n 2, 1) := by decide +kernel
theorem dX3_settle_41 : decode cX3_settle 41 = .ok (.ifCond .lt 24, 3) := by decide +kernel
theorem dX3_settle_44 : decode cX3_settle 44 = .ok (.aload_n 0, 1) := by decide +kernel
theorem dX3_settle_45 : decode cX3_settle 45 = .ok (.getfield 11, 3) := by decide +kernel
theorem dX3_settle_48 : decode cX3_settle 48 = .ok (.iload_n 2, 1) := by decide +kernel
theorem dX3_settle_49 : decode cX3_settle 49 = .ok (.aaload, 1) := by decide +kernel
theorem dX3_settle_50 : decode cX3_settle 50 = .ok (.iload_n 1, 1) := by decide +kernel
theorem dX3_settle_51 : decode cX3_settle 51 = .ok (.invokestatic 116, 3) := by decide +kernel
theorem dX3_settle_54 : decode cX3_settle 54 = .ok (.ifCond .ne 5, 3) := by decide +kernel
theorem dX3_settle_57 : decode cX3_settle 57 = .ok (.iconst 0, 1) := by decide +kernel
theorem dX3_settle_58 : decode cX3_settle 58 = .ok (.ireturn, 1) := by decide +kernel
theorem dX3_settle_59 : decode cX3_settle 59 = .ok (.iinc 2 (-1), 3) := by decide +kernel
theorem dX3_settle_62 : decode cX3_settle 62 = .ok (.goto (-22), 3) := by decide +kernel
theorem dX3_settle_65 : decode cX3_settle 65 = .ok (.iconst 0, 1) := by decide +kernel
theorem dX3_settle_66 : decode cX3_settle 66 = .ok (.istore_n 2, 1) := by decide +kernel
theorem dX3_settle_67 : decode cX3_settle 67 = .ok (.iload_n 2, 1) := by decide +kernel
theorem dX3_settle_68 : decode cX3_settle 68 = .ok (.aload_n 0, 1) := by decide +kernel
theorem dX3_settle_69 : decode cX3_settle 69 = .ok (.getfield 15, 3) := by decide +kernel
theorem dX3_settle_72 : decode cX3_settle 72 = .ok (.if_icmp .ge 50, 3) := by decide +kernel
theorem dX3_settle_75 : decode cX3_settle 75 = .ok (.aload_n 0, 1) := by decide +kernel
theorem dX3_settle_76 : decode cX3_settle 76 = .ok (.getfield 11, 3) := by decide +kernel
theorem dX3_settle_79 : decode cX3_settle 79 = .ok (.iload_n 2, 1) := by decide +kernel
theorem dX3_settle_80 : decode cX3_settle 80 = .ok (.aaload, 1) := by decide +kernel
theorem dX3_settle_81 : decode cX3_settle 81 = .ok (.getfield 36, 3) := by decide +kernel
theorem dX3_settle_84 : decode cX3_settle 84 = .ok (.astore_n 3, 1) := by decide +kernel
theorem dX3_settle_85 : decode cX3_settle 85 = .ok (.aload_n 0, 1) := by decide +kernel
theorem dX3_settle_86 : decode cX3_settle 86 = .ok (.getfield 11, 3) := by decide +kernel
theorem dX3_settle_89 : decode cX3_settle 89 = .ok (.iload_n 2, 1) := by decide +kernel
theorem dX3_settle_90 : decode cX3_settle 90 = .ok (.aaload, 1) := by decide +kernel
theorem dX3_settle_91 : decode cX3_settle 91 = .ok (.aload_n 0, 1) := by decide +kernel
theorem dX3_settle_92 : decode cX3_settle 92 = .ok (.getfield 11, 3) := by decide +kernel
theorem dX3_settle_95 : decode cX3_settle 95 = .ok (.iload_n 2, 1) := by decide +kernel
theorem dX3_settle_96 : decode cX3_settle 96 = .ok (.aaload, 1) := by decide +kernel
theorem dX3_settle_97 : decode cX3_settle 97 = .ok (.getfield 120, 3) := by decide +kernel
theorem dX3_settle_100 : decode cX3_settle 100 = .ok (.aload_n 3, 1) := by decide +kernel
theorem dX3_settle_101 : decode cX3_settle 101 = .ok (.ifnonnull 7, 3) := by decide +kernel
theorem dX3_settle_104 : decode cX3_settle 104 = .ok (.iconst 0, 1) := by decide +kernel
theorem dX3_settle_105 : decode cX3_settle 105 = .ok (.goto 7, 3) := by decide +kernel
theorem dX3_settle_108 : decode cX3_settle 108 = .ok (.aload_n 3, 1) := by decide +kernel
theorem dX3_settle_109 : decode cX3_settle 109 = .ok (.getfield 85, 3) := by decide +kernel
theorem dX3_settle_112 : decode cX3_settle 112 = .ok (.iaload, 1) := by decide +kernel
theorem dX3_settle_113 : decode cX3_settle 113 = .ok (.putfield 85, 3) := by decide +kernel
theorem dX3_settle_116 : decode cX3_settle 116 = .ok (.iinc 2 1, 3) := by decide +kernel
theorem dX3_settle_119 : decode cX3_settle 119 = .ok (.goto (-52), 3) := by decide +kernel
theorem dX3_settle_122 : decode cX3_settle 122 = .ok (.iconst 1, 1) := by decide +kernel
theorem dX3_settle_123 : decode cX3_settle 123 = .ok (.ireturn, 1) := by decide +kernel
theorem dX3_chosen_0 : decode cX3_chosen 0 = .ok (.aload_n 0, 1) := by decide +kernel
theorem dX3_chosen_1 : decode cX3_chosen 1 = .ok (.iload_n 1, 1) := by decide +kernel
theorem dX3_chosen_2 : decode cX3_chosen 2 = .ok (.invokevirtual 25, 3) := by decide +kernel
theorem dX3_chosen_5 : decode cX3_chosen 5 = .ok (.getfield 85, 3) := by decide +kernel
theorem dX3_chosen_8 : decode cX3_chosen 8 = .ok (.ireturn, 1) := by decide +kernel
theorem dX3_impedance_0 : decode cX3_impedance 0 = .ok (.aload_n 0, 1) := by decide +kernel
theorem dX3_impedance_1 : decode cX3_impedance 1 = .ok (.iload_n 1, 1) := by decide +kernel
theorem dX3_impedance_2 : decode cX3_impedance 2 = .ok (.invokevirtual 25, 3) := by decide +kernel
theorem dX3_impedance_5 : decode cX3_impedance 5 = .ok (.astore_n 3, 1) := by decide +kernel
theorem dX3_impedance_6 : decode cX3_impedance 6 = .ok (.iload_n 2, 1) := by decide +kernel
theorem dX3_impedance_7 : decode cX3_impedance 7 = .ok (.iconst 1, 1) := by decide +kernel
theorem dX3_impedance_8 : decode cX3_impedance 8 = .ok (.sipush 10000, 3) := by decide +kernel
theorem dX3_impedance_11 : decode cX3_impedance 11 = .ok (.invokestatic 47, 3) := by decide +kernel
theorem dX3_impedance_14 : decode cX3_impedance 14 = .ok (.aload_n 3, 1) := by decide +kernel
theorem dX3_impedance_15 : decode cX3_impedance 15 = .ok (.getfield 123, 3) := by decide +kernel
theorem dX3_impedance_18 : decode cX3_impedance 18 = .ok (.istore 4, 2) := by decide +kernel
theorem dX3_impedance_20 : decode cX3_impedance 20 = .ok (.aload_n 3, 1) := by decide +kernel
theorem dX3_impedance_21 : decode cX3_impedance 21 = .ok (.iload_n 2, 1) := by decide +kernel
theorem dX3_impedance_22 : decode cX3_impedance 22 = .ok (.putfield 123, 3) := by decide +kernel
theorem dX3_impedance_25 : decode cX3_impedance 25 = .ok (.iload 4, 2) := by decide +kernel
theorem dX3_impedance_27 : decode cX3_impedance 27 = .ok (.ireturn, 1) := by decide +kernel
theorem dX3_voltage_0 : decode cX3_voltage 0 = .ok (.iload_n 1, 1) := by decide +kernel
theorem dX3_voltage_1 : decode cX3_voltage 1 = .ok (.iconst 0, 1) := by decide +kernel
theorem dX3_voltage_2 : decode cX3_voltage 2 = .ok (.ldc 126, 2) := by decide +kernel
theorem dX3_voltage_4 : decode cX3_voltage 4 = .ok (.invokestatic 47, 3) := by decide +kernel
theorem dX3_voltage_7 : decode cX3_voltage 7 = .ok (.aload_n 0, 1) := by decide +kernel
theorem dX3_voltage_8 : decode cX3_voltage 8 = .ok (.getfield 19, 3) := by decide +kernel
theorem dX3_voltage_11 : decode cX3_voltage 11 = .ok (.istore_n 2, 1) := by decide +kernel
theorem dX3_voltage_12 : decode cX3_voltage 12 = .ok (.aload_n 0, 1) := by decide +kernel
theorem dX3_voltage_13 : decode cX3_voltage 13 = .ok (.iload_n 1, 1) := by decide +kernel
theorem dX3_voltage_14 : decode cX3_voltage 14 = .ok (.putfield 19, 3) := by decide +kernel
theorem dX3_voltage_17 : decode cX3_voltage 17 = .ok (.iload_n 2, 1) := by decide +kernel
theorem dX3_voltage_18 : decode cX3_voltage 18 = .ok (.ireturn, 1) := by decide +kernel
theorem dX3_shortAt_0 : decode cX3_shortAt 0 = .ok (.aload_n 0, 1) := by decide +kernel
theorem dX3_shortAt_1 : decode cX3_shortAt 1 = .ok (.aload_n 0, 1) := by decide +kernel
theorem dX3_shortAt_2 : decode cX3_shortAt 2 = .ok (.iload_n 1, 1) := by decide +kernel
theorem dX3_shortAt_3 : decode cX3_shortAt 3 = .ok (.invokevirtual 25, 3) := by decide +kernel
theorem dX3_shortAt_6 : decode cX3_shortAt 6 = .ok (.invokevirtual 127, 3) := by decide +kernel
theorem dX3_shortAt_9 : decode cX3_shortAt 9 = .ok (.ireturn, 1) := by decide +kernel
theorem dX3_opens_0 : decode cX3_opens 0 = .ok (.aload_n 0, 1) := by decide +kernel
theorem dX3_opens_1 : decode cX3_opens 1 = .ok (.iload_n 1, 1) := by decide +kernel
theorem dX3_opens_2 : decode cX3_opens 2 = .ok (.invokevirtual 25, 3) := by decide +kernel
theorem dX3_opens_5 : decode cX3_opens 5 = .ok (.astore_n 3, 1) := by decide +kernel
theorem dX3_opens_6 : decode cX3_opens 6 = .ok (.iload_n 2, 1) := by decide +kernel
theorem dX3_opens_7 : decode cX3_opens 7 = .ok (.iconst 0, 1) := by decide +kernel
theorem dX3_opens_8 : decode cX3_opens 8 = .ok (.ldc 133, 2) := by decide +kernel
theorem dX3_opens_10 : decode cX3_opens 10 = .ok (.invokestatic 47, 3) := by decide +kernel
theorem dX3_opens_13 : decode cX3_opens 13 = .ok (.aload_n 0, 1) := by decide +kernel
theorem dX3_opens_14 : decode cX3_opens 14 = .ok (.aload_n 3, 1) := by decide +kernel
theorem dX3_opens_15 : decode cX3_opens 15 = .ok (.invokevirtual 127, 3) := by decide +kernel
theorem dX3_opens_18 : decode cX3_opens 18 = .ok (.istore 4, 2) := by decide +kernel
theorem dX3_opens_20 : decode cX3_opens 20 = .ok (.aload_n 3, 1) := by decide +kernel
theorem dX3_opens_21 : decode cX3_opens 21 = .ok (.iload 4, 2) := by decide +kernel
theorem dX3_opens_23 : decode cX3_opens 23 = .ok (.invokestatic 134, 3) := by decide +kernel
theorem dX3_opens_26 : decode cX3_opens 26 = .ok (.astore 5, 2) := by decide +kernel
theorem dX3_opens_28 : decode cX3_opens 28 = .ok (.aload 5, 2) := by decide +kernel
theorem dX3_opens_30 : decode cX3_opens 30 = .ok (.iload 4, 2) := by decide +kernel
theorem dX3_opens_32 : decode cX3_opens 32 = .ok (.invokevirtual 92, 3) := by decide +kernel
theorem dX3_opens_35 : decode cX3_opens 35 = .ok (.iconst (-1), 1) := by decide +kernel
theorem dX3_opens_36 : decode cX3_opens 36 = .ok (.if_icmp .ne 5, 3) := by decide +kernel
theorem dX3_opens_39 : decode cX3_opens 39 = .ok (.iconst (-1), 1) := by decide +kernel
theorem dX3_opens_40 : decode cX3_opens 40 = .ok (.ireturn, 1) := by decide +kernel
theorem dX3_opens_41 : decode cX3_opens 41 = .ok (.iload_n 2, 1) := by decide +kernel
theorem dX3_opens_42 : decode cX3_opens 42 = .ok (.istore 6, 2) := by decide +kernel
theorem dX3_opens_44 : decode cX3_opens 44 = .ok (.aload_n 3, 1) := by decide +kernel
theorem dX3_opens_45 : decode cX3_opens 45 = .ok (.astore 7, 2) := by decide +kernel
theorem dX3_opens_47 : decode cX3_opens 47 = .ok (.aload 7, 2) := by decide +kernel
theorem dX3_opens_49 : decode cX3_opens 49 = .ok (.ifnull 45, 3) := by decide +kernel
theorem dX3_opens_52 : decode cX3_opens 52 = .ok (.aload 7, 2) := by decide +kernel
theorem dX3_opens_54 : decode cX3_opens 54 = .ok (.invokevirtual 88, 3) := by decide +kernel
theorem dX3_opens_57 : decode cX3_opens 57 = .ok (.iconst 0, 1) := by decide +kernel
theorem dX3_opens_58 : decode cX3_opens 58 = .ok (.iconst 0, 1) := by decide +kernel
theorem dX3_opens_59 : decode cX3_opens 59 = .ok (.aload 5, 2) := by decide +kernel
theorem dX3_opens_61 : decode cX3_opens 61 = .ok (.iconst 1, 1) := by decide +kernel
theorem dX3_opens_62 : decode cX3_opens 62 = .ok (.iload 4, 2) := by decide +kernel
theorem dX3_opens_64 : decode cX3_opens 64 = .ok (.invokevirtual 138, 3) := by decide +kernel
theorem dX3_opens_67 : decode cX3_opens 67 = .ok (.ifCond .eq 17, 3) := by decide +kernel
theorem dX3_opens_70 : decode cX3_opens 70 = .ok (.iload 6, 2) := by decide +kernel
theorem dX3_opens_72 : decode cX3_opens 72 = .ok (.ifCond .ne 9, 3) := by decide +kernel
theorem dX3_opens_75 : decode cX3_opens 75 = .ok (.aload 7, 2) := by decide +kernel
theorem dX3_opens_77 : decode cX3_opens 77 = .ok (.getfield 40, 3) := by decide +kernel
theorem dX3_opens_80 : decode cX3_opens 80 = .ok (.ireturn, 1) := by decide +kernel
theorem dX3_opens_81 : decode cX3_opens 81 = .ok (.iinc 6 (-1), 3) := by decide +kernel
theorem dX3_opens_84 : decode cX3_opens 84 = .ok (.aload 7, 2) := by decide +kernel
theorem dX3_opens_86 : decode cX3_opens 86 = .ok (.getfield 36, 3) := by decide +kernel
theorem dX3_opens_89 : decode cX3_opens 89 = .ok (.astore 7, 2) := by decide +kernel
theorem dX3_opens_91 : decode cX3_opens 91 = .ok (.goto (-44), 3) := by decide +kernel
theorem dX3_opens_94 : decode cX3_opens 94 = .ok (.iconst (-1), 1) := by decide +kernel
theorem dX3_opens_95 : decode cX3_opens 95 = .ok (.ireturn, 1) := by decide +kernel
theorem dX3_known_0 : decode cX3_known 0 = .ok (.iload_n 1, 1) := by decide +kernel
theorem dX3_known_1 : decode cX3_known 1 = .ok (.ifCond .lt 11, 3) := by decide +kernel
theorem dX3_known_4 : decode cX3_known 4 = .ok (.iload_n 1, 1) := by decide +kernel
theorem dX3_known_5 : decode cX3_known 5 = .ok (.aload_n 0, 1) := by decide +kernel
theorem dX3_known_6 : decode cX3_known 6 = .ok (.getfield 15, 3) := by decide +kernel
theorem dX3_known_9 : decode cX3_known 9 = .ok (.if_icmp .lt 13, 3) := by decide +kernel
theorem dX3_known_12 : decode cX3_known 12 = .ok (.new 142, 3) := by decide +kernel
theorem dX3_known_15 : decode cX3_known 15 = .ok (.dup, 1) := by decide +kernel
theorem dX3_known_16 : decode cX3_known 16 = .ok (.ldc 144, 2) := by decide +kernel
theorem dX3_known_18 : decode cX3_known 18 = .ok (.invokespecial 146, 3) := by decide +kernel
theorem dX3_known_21 : decode cX3_known 21 = .ok (.athrow, 1) := by decide +kernel
theorem dX3_known_22 : decode cX3_known 22 = .ok (.aload_n 0, 1) := by decide +kernel
theorem dX3_known_23 : decode cX3_known 23 = .ok (.getfield 11, 3) := by decide +kernel
theorem dX3_known_26 : decode cX3_known 26 = .ok (.iload_n 1, 1) := by decide +kernel
theorem dX3_known_27 : decode cX3_known 27 = .ok (.aaload, 1) := by decide +kernel
theorem dX3_known_28 : decode cX3_known 28 = .ok (.areturn, 1) := by decide +kernel
theorem dX3_demandWithin_0 : decode cX3_demandWithin 0 = .ok (.iload_n 0, 1) := by decide +kernel
theorem dX3_demandWithin_1 : decode cX3_demandWithin 1 = .ok (.iload_n 1, 1) := by decide +kernel
theorem dX3_demandWithin_2 : decode cX3_demandWithin 2 = .ok (.if_icmp .lt 8, 3) := by decide +kernel
theorem dX3_demandWithin_5 : decode cX3_demandWithin 5 = .ok (.iload_n 0, 1) := by decide +kernel
theorem dX3_demandWithin_6 : decode cX3_demandWithin 6 = .ok (.iload_n 2, 1) := by decide +kernel
theorem dX3_demandWithin_7 : decode cX3_demandWithin 7 = .ok (.if_icmp .le 13, 3) := by decide +kernel
theorem dX3_demandWithin_10 : decode cX3_demandWithin 10 = .ok (.new 142, 3) := by decide +kernel
theorem dX3_demandWithin_13 : decode cX3_demandWithin 13 = .ok (.dup, 1) := by decide +kernel
theorem dX3_demandWithin_14 : decode cX3_demandWithin 14 = .ok (.ldc 147, 2) := by decide +kernel
theorem dX3_demandWithin_16 : decode cX3_demandWithin 16 = .ok (.invokespecial 146, 3) := by decide +kernel
theorem dX3_demandWithin_19 : decode cX3_demandWithin 19 = .ok (.athrow, 1) := by decide +kernel
theorem dX3_demandWithin_20 : decode cX3_demandWithin 20 = .ok (.return_, 1) := by decide +kernel
theorem dX3_demandPair_0 : decode cX3_demandPair 0 = .ok (.iload_n 0, 1) := by decide +kernel
theorem dX3_demandPair_1 : decode cX3_demandPair 1 = .ok (.iload_n 1, 1) := by decide +kernel
theorem dX3_demandPair_2 : decode cX3_demandPair 2 = .ok (.if_icmp .ne 13, 3) := by decide +kernel
theorem dX3_demandPair_5 : decode cX3_demandPair 5 = .ok (.new 142, 3) := by decide +kernel
theorem dX3_demandPair_8 : decode cX3_demandPair 8 = .ok (.dup, 1) := by decide +kernel
theorem dX3_demandPair_9 : decode cX3_demandPair 9 = .ok (.ldc 149, 2) := by decide +kernel
theorem dX3_demandPair_11 : decode cX3_demandPair 11 = .ok (.invokespecial 146, 3) := by decide +kernel
theorem dX3_demandPair_14 : decode cX3_demandPair 14 = .ok (.athrow, 1) := by decide +kernel
theorem dX3_demandPair_15 : decode cX3_demandPair 15 = .ok (.iload_n 2, 1) := by decide +kernel
theorem dX3_demandPair_16 : decode cX3_demandPair 16 = .ok (.iconst 0, 1) := by decide +kernel
theorem dX3_demandPair_17 : decode cX3_demandPair 17 = .ok (.sipush 10000, 3) := by decide +kernel
theorem dX3_demandPair_20 : decode cX3_demandPair 20 = .ok (.invokestatic 47, 3) := by decide +kernel
theorem dX3_demandPair_23 : decode cX3_demandPair 23 = .ok (.return_, 1) := by decide +kernel
theorem dX3_firstBroken_0 : decode cX3_firstBroken 0 = .ok (.aload_n 0, 1) := by decide +kernel
theorem dX3_firstBroken_1 : decode cX3_firstBroken 1 = .ok (.aload_n 1, 1) := by decide +kernel
theorem dX3_firstBroken_2 : decode cX3_firstBroken 2 = .ok (.iload_n 2, 1) := by decide +kernel
theorem dX3_firstBroken_3 : decode cX3_firstBroken 3 = .ok (.invokestatic 151, 3) := by decide +kernel
theorem dX3_firstBroken_6 : decode cX3_firstBroken 6 = .ok (.istore_n 3, 1) := by decide +kernel
theorem dX3_firstBroken_7 : decode cX3_firstBroken 7 = .ok (.iload_n 3, 1) := by decide +kernel
theorem dX3_firstBroken_8 : decode cX3_firstBroken 8 = .ok (.iconst (-1), 1) := by decide +kernel
theorem dX3_firstBroken_9 : decode cX3_firstBroken 9 = .ok (.if_icmp .eq 13, 3) := by decide +kernel
theorem dX3_firstBroken_12 : decode cX3_firstBroken 12 = .ok (.aload_n 0, 1) := by decide +kernel
theorem dX3_firstBroken_13 : decode cX3_firstBroken 13 = .ok (.aload_n 1, 1) := by decide +kernel
theorem dX3_firstBroken_14 : decode cX3_firstBroken 14 = .ok (.iload_n 2, 1) := by decide +kernel
theorem dX3_firstBroken_15 : decode cX3_firstBroken 15 = .ok (.iload_n 3, 1) := by decide +kernel
theorem dX3_firstBroken_16 : decode cX3_firstBroken 16 = .ok (.invokestatic 154, 3) := by decide +kernel
theorem dX3_firstBroken_19 : decode cX3_firstBroken 19 = .ok (.ifCond .eq 5, 3) := by decide +kernel
theorem dX3_firstBroken_22 : decode cX3_firstBroken 22 = .ok (.iload_n 3, 1) := by decide +kernel
theorem dX3_firstBroken_23 : decode cX3_firstBroken 23 = .ok (.ireturn, 1) := by decide +kernel
theorem dX3_firstBroken_24 : decode cX3_firstBroken 24 = .ok (.aload_n 0, 1) := by decide +kernel
theorem dX3_firstBroken_25 : decode cX3_firstBroken 25 = .ok (.aload_n 1, 1) := by decide +kernel
theorem dX3_firstBroken_26 : decode cX3_firstBroken 26 = .ok (.iload_n 2, 1) := by decide +kernel
theorem dX3_firstBroken_27 : decode cX3_firstBroken 27 = .ok (.iload_n 3, 1) := by decide +kernel
theorem dX3_firstBroken_28 : decode cX3_firstBroken 28 = .ok (.aload_n 0, 1) := by decide +kernel
theorem dX3_firstBroken_29 : decode cX3_firstBroken 29 = .ok (.aload_n 1, 1) := by decide +kernel
theorem dX3_firstBroken_30 : decode cX3_firstBroken 30 = .ok (.iload_n 3, 1) := by decide +kernel
theorem dX3_firstBroken_31 : decode cX3_firstBroken 31 = .ok (.invokestatic 158, 3) := by decide +kernel
theorem dX3_firstBroken_34 : decode cX3_firstBroken 34 = .ok (.invokestatic 161, 3) := by decide +kernel
theorem dX3_firstBroken_37 : decode cX3_firstBroken 37 = .ok (.ireturn, 1) := by decide +kernel
theorem dX3_firstBrokenStretch_0 : decode cX3_firstBrokenStretch 0 = .ok (.iconst 1, 1) := by decide +kernel
theorem dX3_firstBrokenStretch_1 : decode cX3_firstBrokenStretch 1 = .ok (.istore_n 3, 1) := by decide +kernel
theorem dX3_firstBrokenStretch_2 : decode cX3_firstBrokenStretch 2 = .ok (.iconst 0, 1) := by decide +kernel
theorem dX3_firstBrokenStretch_3 : decode cX3_firstBrokenStretch 3 = .ok (.istore 4, 2) := by decide +kernel
theorem dX3_firstBrokenStretch_5 : decode cX3_firstBrokenStretch 5 = .ok (.iload 4, 2) := by decide +kernel
theorem dX3_firstBrokenStretch_7 : decode cX3_firstBrokenStretch 7 = .ok (.bipush 13, 2) := by decide +kernel
theorem dX3_firstBrokenStretch_9 : decode cX3_firstBrokenStretch 9 = .ok (.if_icmp .ge 52, 3) := by decide +kernel
theorem dX3_firstBrokenStretch_12 : decode cX3_firstBrokenStretch 12 = .ok (.iload_n 3, 1) := by decide +kernel
theorem dX3_firstBrokenStretch_13 : decode cX3_firstBrokenStretch 13 = .ok (.sipush 5000, 3) := by decide +kernel
theorem dX3_firstBrokenStretch_16 : decode cX3_firstBrokenStretch 16 = .ok (.if_icmp .gt 45, 3) := by decide +kernel
theorem dX3_firstBrokenStretch_19 : decode cX3_firstBrokenStretch 19 = .ok (.aload_n 0, 1) := by decide +kernel
theorem dX3_firstBrokenStretch_20 : decode cX3_firstBrokenStretch 20 = .ok (.aload_n 1, 1) := by decide +kernel
theorem dX3_firstBrokenStretch_21 : decode cX3_firstBrokenStretch 21 = .ok (.iload_n 3, 1) := by decide +kernel
theorem dX3_firstBrokenStretch_22 : decode cX3_firstBrokenStretch 22 = .ok (.invokestatic 158, 3) := by decide +kernel
theorem dX3_firstBrokenStretch_25 : decode cX3_firstBrokenStretch 25 = .ok (.istore 5, 2) := by decide +kernel
theorem dX3_firstBrokenStretch_27 : decode cX3_firstBrokenStretch 27 = .ok (.aload_n 0, 1) := by decide +kernel
theorem dX3_firstBrokenStretch_28 : decode cX3_firstBrokenStretch 28 = .ok (.aload_n 1, 1) := by decide +kernel
theorem dX3_firstBrokenStretch_29 : decode cX3_firstBrokenStretch 29 = .ok (.iload_n 2, 1) := by decide +kernel
theorem dX3_firstBrokenStretch_30 : decode cX3_firstBrokenStretch 30 = .ok (.iload_n 3, 1) := by decide +kernel
theorem dX3_firstBrokenStretch_31 : decode cX3_firstBrokenStretch 31 = .ok (.invokestatic 154, 3) := by decide +kernel
theorem dX3_firstBrokenStretch_34 : decode cX3_firstBrokenStretch 34 = .ok (.ifCond .ne 14, 3) := by decide +kernel
theorem dX3_firstBrokenStretch_37 : decode cX3_firstBrokenStretch 37 = .ok (.aload_n 0, 1) := by decide +kernel
theorem dX3_firstBrokenStretch_38 : decode cX3_firstBrokenStretch 38 = .ok (.aload_n 1, 1) := by decide +kernel
theorem dX3_firstBrokenStretch_39 : decode cX3_firstBrokenStretch 39 = .ok (.iload_n 2, 1) := by decide +kernel
theorem dX3_firstBrokenStretch_40 : decode cX3_firstBrokenStretch 40 = .ok (.iload 5, 2) := by decide +kernel
theorem dX3_firstBrokenStretch_42 : decode cX3_firstBrokenStretch 42 = .ok (.invokestatic 154, 3) := by decide +kernel
theorem dX3_firstBrokenStretch_45 : decode cX3_firstBrokenStretch 45 = .ok (.ifCond .eq 5, 3) := by decide +kernel
theorem dX3_firstBrokenStretch_48 : decode cX3_firstBrokenStretch 48 = .ok (.iload_n 3, 1) := by decide +kernel
theorem dX3_firstBrokenStretch_49 : decode cX3_firstBrokenStretch 49 = .ok (.ireturn, 1) := by decide +kernel
theorem dX3_firstBrokenStretch_50 : decode cX3_firstBrokenStretch 50 = .ok (.iload 5, 2) := by decide +kernel
theorem dX3_firstBrokenStretch_52 : decode cX3_firstBrokenStretch 52 = .ok (.iconst 1, 1) := by decide +kernel
theorem dX3_firstBrokenStretch_53 : decode cX3_firstBrokenStretch 53 = .ok (.iadd, 1) := by decide +kernel
theorem dX3_firstBrokenStretch_54 : decode cX3_firstBrokenStretch 54 = .ok (.istore_n 3, 1) := by decide +kernel
theorem dX3_firstBrokenStretch_55 : decode cX3_firstBrokenStretch 55 = .ok (.iinc 4 1, 3) := by decide +kernel
theorem dX3_firstBrokenStretch_58 : decode cX3_firstBrokenStretch 58 = .ok (.goto (-53), 3) := by decide +kernel
theorem dX3_firstBrokenStretch_61 : decode cX3_firstBrokenStretch 61 = .ok (.iconst (-1), 1) := by decide +kernel
theorem dX3_firstBrokenStretch_62 : decode cX3_firstBrokenStretch 62 = .ok (.ireturn, 1) := by decide +kernel
theorem dX3_countBroken_0 : decode cX3_countBroken 0 = .ok (.iconst 0, 1) := by decide +kernel
theorem dX3_countBroken_1 : decode cX3_countBroken 1 = .ok (.istore_n 3, 1) := by decide +kernel
theorem dX3_countBroken_2 : decode cX3_countBroken 2 = .ok (.iconst 1, 1) := by decide +kernel
theorem dX3_countBroken_3 : decode cX3_countBroken 3 = .ok (.istore 4, 2) := by decide +kernel
theorem dX3_countBroken_5 : decode cX3_countBroken 5 = .ok (.iconst 0, 1) := by decide +kernel
theorem dX3_countBroken_6 : decode cX3_countBroken 6 = .ok (.istore 5, 2) := by decide +kernel
theorem dX3_countBroken_8 : decode cX3_countBroken 8 = .ok (.iload 5, 2) := by decide +kernel
theorem dX3_countBroken_10 : decode cX3_countBroken 10 = .ok (.bipush 13, 2) := by decide +kernel
theorem dX3_countBroken_12 : decode cX3_countBroken 12 = .ok (.if_icmp .ge 45, 3) := by decide +kernel
theorem dX3_countBroken_15 : decode cX3_countBroken 15 = .ok (.iload 4, 2) := by decide +kernel
theorem dX3_countBroken_17 : decode cX3_countBroken 17 = .ok (.sipush 5000, 3) := by decide +kernel
theorem dX3_countBroken_20 : decode cX3_countBroken 20 = .ok (.if_icmp .gt 37, 3) := by decide +kernel
theorem dX3_countBroken_23 : decode cX3_countBroken 23 = .ok (.aload_n 0, 1) := by decide +kernel
theorem dX3_countBroken_24 : decode cX3_countBroken 24 = .ok (.aload_n 1, 1) := by decide +kernel
theorem dX3_countBroken_25 : decode cX3_countBroken 25 = .ok (.iload 4, 2) := by decide +kernel
theorem dX3_countBroken_27 : decode cX3_countBroken 27 = .ok (.invokestatic 158, 3) := by decide +kernel
theorem dX3_countBroken_30 : decode cX3_countBroken 30 = .ok (.istore 6, 2) := by decide +kernel
theorem dX3_countBroken_32 : decode cX3_countBroken 32 = .ok (.iload_n 3, 1) := by decide +kernel
theorem dX3_countBroken_33 : decode cX3_countBroken 33 = .ok (.aload_n 0, 1) := by decide +kernel
theorem dX3_countBroken_34 : decode cX3_countBroken 34 = .ok (.aload_n 1, 1) := by decide +kernel
theorem dX3_countBroken_35 : decode cX3_countBroken 35 = .ok (.iload_n 2, 1) := by decide +kernel
theorem dX3_countBroken_36 : decode cX3_countBroken 36 = .ok (.iload 4, 2) := by decide +kernel
theorem dX3_countBroken_38 : decode cX3_countBroken 38 = .ok (.iload 6, 2) := by decide +kernel
theorem dX3_countBroken_40 : decode cX3_countBroken 40 = .ok (.invokestatic 165, 3) := by decide +kernel
theorem dX3_countBroken_43 : decode cX3_countBroken 43 = .ok (.iadd, 1) := by decide +kernel
theorem dX3_countBroken_44 : decode cX3_countBroken 44 = .ok (.istore_n 3, 1) := by decide +kernel
theorem dX3_countBroken_45 : decode cX3_countBroken 45 = .ok (.iload 6, 2) := by decide +kernel
theorem dX3_countBroken_47 : decode cX3_countBroken 47 = .ok (.iconst 1, 1) := by decide +kernel
theorem dX3_countBroken_48 : decode cX3_countBroken 48 = .ok (.iadd, 1) := by decide +kernel
theorem dX3_countBroken_49 : decode cX3_countBroken 49 = .ok (.istore 4, 2) := by decide +kernel
theorem dX3_countBroken_51 : decode cX3_countBroken 51 = .ok (.iinc 5 1, 3) := by decide +kernel
theorem dX3_countBroken_54 : decode cX3_countBroken 54 = .ok (.goto (-46), 3) := by decide +kernel
theorem dX3_countBroken_57 : decode cX3_countBroken 57 = .ok (.iload_n 3, 1) := by decide +kernel
theorem dX3_countBroken_58 : decode cX3_countBroken 58 = .ok (.ireturn, 1) := by decide +kernel
theorem dX3_countBrokenIn_0 : decode cX3_countBrokenIn 0 = .ok (.aload_n 0, 1) := by decide +kernel
theorem dX3_countBrokenIn_1 : decode cX3_countBrokenIn 1 = .ok (.aload_n 1, 1) := by decide +kernel
theorem dX3_countBrokenIn_2 : decode cX3_countBrokenIn 2 = .ok (.iload_n 2, 1) := by decide +kernel
theorem dX3_countBrokenIn_3 : decode cX3_countBrokenIn 3 = .ok (.iload_n 3, 1) := by decide +kernel
theorem dX3_countBrokenIn_4 : decode cX3_countBrokenIn 4 = .ok (.invokestatic 154, 3) := by decide +kernel
theorem dX3_countBrokenIn_7 : decode cX3_countBrokenIn 7 = .ok (.istore 5, 2) := by decide +kernel
theorem dX3_countBrokenIn_9 : decode cX3_countBrokenIn 9 = .ok (.aload_n 0, 1) := by decide +kernel
theorem dX3_countBrokenIn_10 : decode cX3_countBrokenIn 10 = .ok (.aload_n 1, 1) := by decide +kernel
theorem dX3_countBrokenIn_11 : decode cX3_countBrokenIn 11 = .ok (.iload_n 2, 1) := by decide +kernel
theorem dX3_countBrokenIn_12 : decode cX3_countBrokenIn 12 = .ok (.iload 4, 2) := by decide +kernel
theorem dX3_countBrokenIn_14 : decode cX3_countBrokenIn 14 = .ok (.invokestatic 154, 3) := by decide +kernel
theorem dX3_countBrokenIn_17 : decode cX3_countBrokenIn 17 = .ok (.istore 6, 2) := by decide +kernel
theorem dX3_countBrokenIn_19 : decode cX3_countBrokenIn 19 = .ok (.iload 5, 2) := by decide +kernel
theorem dX3_countBrokenIn_21 : decode cX3_countBrokenIn 21 = .ok (.iload 6, 2) := by decide +kernel
theorem dX3_countBrokenIn_23 : decode cX3_countBrokenIn 23 = .ok (.if_icmp .ne 19, 3) := by decide +kernel
theorem dX3_countBrokenIn_26 : decode cX3_countBrokenIn 26 = .ok (.iload 5, 2) := by decide +kernel
theorem dX3_countBrokenIn_28 : decode cX3_countBrokenIn 28 = .ok (.ifCond .eq 12, 3) := by decide +kernel
theorem dX3_countBrokenIn_31 : decode cX3_countBrokenIn 31 = .ok (.iload 4, 2) := by decide +kernel
theorem dX3_countBrokenIn_33 : decode cX3_countBrokenIn 33 = .ok (.iload_n 3, 1) := by decide +kernel
theorem dX3_countBrokenIn_34 : decode cX3_countBrokenIn 34 = .ok (.isub, 1) := by decide +kernel
theorem dX3_countBrokenIn_35 : decode cX3_countBrokenIn 35 = .ok (.iconst 1, 1) := by decide +kernel
theorem dX3_countBrokenIn_36 : decode cX3_countBrokenIn 36 = .ok (.iadd, 1) := by decide +kernel
theorem dX3_countBrokenIn_37 : decode cX3_countBrokenIn 37 = .ok (.goto 4, 3) := by decide +kernel
theorem dX3_countBrokenIn_40 : decode cX3_countBrokenIn 40 = .ok (.iconst 0, 1) := by decide +kernel
theorem dX3_countBrokenIn_41 : decode cX3_countBrokenIn 41 = .ok (.ireturn, 1) := by decide +kernel
theorem dX3_countBrokenIn_42 : decode cX3_countBrokenIn 42 = .ok (.aload_n 0, 1) := by decide +kernel
theorem dX3_countBrokenIn_43 : decode cX3_countBrokenIn 43 = .ok (.aload_n 1, 1) := by decide +kernel
theorem dX3_countBrokenIn_44 : decode cX3_countBrokenIn 44 = .ok (.iload_n 2, 1) := by decide +kernel
theorem dX3_countBrokenIn_45 : decode cX3_countBrokenIn 45 = .ok (.iload_n 3, 1) := by decide +kernel
theorem dX3_countBrokenIn_46 : decode cX3_countBrokenIn 46 = .ok (.iload 4, 2) := by decide +kernel
theorem dX3_countBrokenIn_48 : decode cX3_countBrokenIn 48 = .ok (.invokestatic 161, 3) := by decide +kernel
theorem dX3_countBrokenIn_51 : decode cX3_countBrokenIn 51 = .ok (.istore 7, 2) := by decide +kernel
theorem dX3_countBrokenIn_53 : decode cX3_countBrokenIn 53 = .ok (.iload 5, 2) := by decide +kernel
theorem dX3_countBrokenIn_55 : decode cX3_countBrokenIn 55 = .ok (.ifCond .eq 10, 3) := by decide +kernel
theorem dX3_countBrokenIn_58 : decode cX3_countBrokenIn 58 = .ok (.iload 7, 2) := by decide +kernel
theorem dX3_countBrokenIn_60 : decode cX3_countBrokenIn 60 = .ok (.iload_n 3, 1) := by decide +kernel
theorem dX3_countBrokenIn_61 : decode cX3_countBrokenIn 61 = .ok (.isub, 1) := by decide +kernel
theorem dX3_countBrokenIn_62 : decode cX3_countBrokenIn 62 = .ok (.goto 10, 3) := by decide +kernel
theorem dX3_countBrokenIn_65 : decode cX3_countBrokenIn 65 = .ok (.iload 4, 2) := by decide +kernel
theorem dX3_countBrokenIn_67 : decode cX3_countBrokenIn 67 = .ok (.iload 7, 2) := by decide +kernel
theorem dX3_countBrokenIn_69 : decode cX3_countBrokenIn 69 = .ok (.isub, 1) := by decide +kernel
theorem dX3_countBrokenIn_70 : decode cX3_countBrokenIn 70 = .ok (.iconst 1, 1) := by decide +kernel
theorem dX3_countBrokenIn_71 : decode cX3_countBrokenIn 71 = .ok (.iadd, 1) := by decide +kernel
theorem dX3_countBrokenIn_72 : decode cX3_countBrokenIn 72 = .ok (.ireturn, 1) := by decide +kernel
theorem dX3_stretchEnd_0 : decode cX3_stretchEnd 0 = .ok (.aload_n 0, 1) := by decide +kernel
theorem dX3_stretchEnd_1 : decode cX3_stretchEnd 1 = .ok (.iload_n 2, 1) := by decide +kernel
theorem dX3_stretchEnd_2 : decode cX3_stretchEnd 2 = .ok (.invokevirtual 100, 3) := by decide +kernel
theorem dX3_stretchEnd_5 : decode cX3_stretchEnd 5 = .ok (.aload_n 1, 1) := by decide +kernel
theorem dX3_stretchEnd_6 : decode cX3_stretchEnd 6 = .ok (.iload_n 2, 1) := by decide +kernel
theorem dX3_stretchEnd_7 : decode cX3_stretchEnd 7 = .ok (.invokevirtual 100, 3) := by decide +kernel
theorem dX3_stretchEnd_10 : decode cX3_stretchEnd 10 = .ok (.invokestatic 168, 3) := by decide +kernel
theorem dX3_stretchEnd_13 : decode cX3_stretchEnd 13 = .ok (.iconst 1, 1) := by decide +kernel
theorem dX3_stretchEnd_14 : decode cX3_stretchEnd 14 = .ok (.isub, 1) := by decide +kernel
theorem dX3_stretchEnd_15 : decode cX3_stretchEnd 15 = .ok (.ireturn, 1) := by decide +kernel
theorem dX3_turnIn_0 : decode cX3_turnIn 0 = .ok (.aload_n 0, 1) := by decide +kernel
theorem dX3_turnIn_1 : decode cX3_turnIn 1 = .ok (.aload_n 1, 1) := by decide +kernel
theorem dX3_turnIn_2 : decode cX3_turnIn 2 = .ok (.iload_n 2, 1) := by decide +kernel
theorem dX3_turnIn_3 : decode cX3_turnIn 3 = .ok (.iload 4, 2) := by decide +kernel
theorem dX3_turnIn_5 : decode cX3_turnIn 5 = .ok (.invokestatic 154, 3) := by decide +kernel
theorem dX3_turnIn_8 : decode cX3_turnIn 8 = .ok (.istore 5, 2) := by decide +kernel
theorem dX3_turnIn_10 : decode cX3_turnIn 10 = .ok (.iload_n 3, 1) := by decide +kernel
theorem dX3_turnIn_11 : decode cX3_turnIn 11 = .ok (.istore 6, 2) := by decide +kernel
theorem dX3_turnIn_13 : decode cX3_turnIn 13 = .ok (.iload 4, 2) := by decide +kernel
theorem dX3_turnIn_15 : decode cX3_turnIn 15 = .ok (.istore 7, 2) := by decide +kernel
theorem dX3_turnIn_17 : decode cX3_turnIn 17 = .ok (.iconst 0, 1) := by decide +kernel
theorem dX3_turnIn_18 : decode cX3_turnIn 18 = .ok (.istore 8, 2) := by decide +kernel
theorem dX3_turnIn_20 : decode cX3_turnIn 20 = .ok (.iload 8, 2) := by decide +kernel
theorem dX3_turnIn_22 : decode cX3_turnIn 22 = .ok (.bipush 13, 2) := by decide +kernel
theorem dX3_turnIn_24 : decode cX3_turnIn 24 = .ok (.if_icmp .ge 51, 3) := by decide +kernel
theorem dX3_turnIn_27 : decode cX3_turnIn 27 = .ok (.iload 7, 2) := by decide +kernel
theorem dX3_turnIn_29 : decode cX3_turnIn 29 = .ok (.iload 6, 2) := by decide +kernel
theorem dX3_turnIn_31 : decode cX3_turnIn 31 = .ok (.isub, 1) := by decide +kernel
theorem dX3_turnIn_32 : decode cX3_turnIn 32 = .ok (.iconst 1, 1) := by decide +kernel
theorem dX3_turnIn_33 : decode cX3_turnIn 33 = .ok (.if_icmp .le 42, 3) := by decide +kernel
theorem dX3_turnIn_36 : decode cX3_turnIn 36 = .ok (.iload 6, 2) := by decide +kernel
theorem dX3_turnIn_38 : decode cX3_turnIn 38 = .ok (.iload 7, 2) := by decide +kernel
theorem dX3_turnIn_40 : decode cX3_turnIn 40 = .ok (.iadd, 1) := by decide +kernel
theorem dX3_turnIn_41 : decode cX3_turnIn 41 = .ok (.iconst 2, 1) := by decide +kernel
theorem dX3_turnIn_42 : decode cX3_turnIn 42 = .ok (.idiv, 1) := by decide +kernel
theorem dX3_turnIn_43 : decode cX3_turnIn 43 = .ok (.istore 9, 2) := by decide +kernel
theorem dX3_turnIn_45 : decode cX3_turnIn 45 = .ok (.aload_n 0, 1) := by decide +kernel
theorem dX3_turnIn_46 : decode cX3_turnIn 46 = .ok (.aload_n 1, 1) := by decide +kernel
theorem dX3_turnIn_47 : decode cX3_turnIn 47 = .ok (.iload_n 2, 1) := by decide +kernel
theorem dX3_turnIn_48 : decode cX3_turnIn 48 = .ok (.iload 9, 2) := by decide +kernel
theorem dX3_turnIn_50 : decode cX3_turnIn 50 = .ok (.invokestatic 154, 3) := by decide +kernel
theorem dX3_turnIn_53 : decode cX3_turnIn 53 = .ok (.iload 5, 2) := by decide +kernel
theorem dX3_turnIn_55 : decode cX3_turnIn 55 = .ok (.if_icmp .ne 10, 3) := by decide +kernel
theorem dX3_turnIn_58 : decode cX3_turnIn 58 = .ok (.iload 9, 2) := by decide +kernel
theorem dX3_turnIn_60 : decode cX3_turnIn 60 = .ok (.istore 7, 2) := by decide +kernel
theorem dX3_turnIn_62 : decode cX3_turnIn 62 = .ok (.goto 7, 3) := by decide +kernel
theorem dX3_turnIn_65 : decode cX3_turnIn 65 = .ok (.iload 9, 2) := by decide +kernel
theorem dX3_turnIn_67 : decode cX3_turnIn 67 = .ok (.istore 6, 2) := by decide +kernel
theorem dX3_turnIn_69 : decode cX3_turnIn 69 = .ok (.iinc 8 1, 3) := by decide +kernel
theorem dX3_turnIn_72 : decode cX3_turnIn 72 = .ok (.goto (-52), 3) := by decide +kernel
theorem dX3_turnIn_75 : decode cX3_turnIn 75 = .ok (.iload 7, 2) := by decide +kernel
theorem dX3_turnIn_77 : decode cX3_turnIn 77 = .ok (.ireturn, 1) := by decide +kernel
theorem dX3_isBrokenAt_0 : decode cX3_isBrokenAt 0 = .ok (.aload_n 0, 1) := by decide +kernel
theorem dX3_isBrokenAt_1 : decode cX3_isBrokenAt 1 = .ok (.iconst 1, 1) := by decide +kernel
theorem dX3_isBrokenAt_2 : decode cX3_isBrokenAt 2 = .ok (.iload_n 2, 1) := by decide +kernel
theorem dX3_isBrokenAt_3 : decode cX3_isBrokenAt 3 = .ok (.aload_n 1, 1) := by decide +kernel
theorem dX3_isBrokenAt_4 : decode cX3_isBrokenAt 4 = .ok (.iconst 0, 1) := by decide +kernel
theorem dX3_isBrokenAt_5 : decode cX3_isBrokenAt 5 = .ok (.iload_n 3, 1) := by decide +kernel
theorem dX3_isBrokenAt_6 : decode cX3_isBrokenAt 6 = .ok (.invokevirtual 138, 3) := by decide +kernel
theorem dX3_isBrokenAt_9 : decode cX3_isBrokenAt 9 = .ok (.ifCond .ne 7, 3) := by decide +kernel
theorem dX3_isBrokenAt_12 : decode cX3_isBrokenAt 12 = .ok (.iconst 1, 1) := by decide +kernel
theorem dX3_isBrokenAt_13 : decode cX3_isBrokenAt 13 = .ok (.goto 4, 3) := by decide +kernel
theorem dX3_isBrokenAt_16 : decode cX3_isBrokenAt 16 = .ok (.iconst 0, 1) := by decide +kernel
theorem dX3_isBrokenAt_17 : decode cX3_isBrokenAt 17 = .ok (.ireturn, 1) := by decide +kernel
theorem dX3_tryOptions_0 : decode cX3_tryOptions 0 = .ok (.aload_n 0, 1) := by decide +kernel
theorem dX3_tryOptions_1 : decode cX3_tryOptions 1 = .ok (.getfield 36, 3) := by decide +kernel
theorem dX3_tryOptions_4 : decode cX3_tryOptions 4 = .ok (.astore_n 2, 1) := by decide +kernel
theorem dX3_tryOptions_5 : decode cX3_tryOptions 5 = .ok (.aload_n 2, 1) := by decide +kernel
theorem dX3_tryOptions_6 : decode cX3_tryOptions 6 = .ok (.ifnonnull 31, 3) := by decide +kernel
theorem dX3_tryOptions_9 : decode cX3_tryOptions 9 = .ok (.aload_n 0, 1) := by decide +kernel
theorem dX3_tryOptions_10 : decode cX3_tryOptions 10 = .ok (.getfield 120, 3) := by decide +kernel
theorem dX3_tryOptions_13 : decode cX3_tryOptions 13 = .ok (.iconst 0, 1) := by decide +kernel
theorem dX3_tryOptions_14 : decode cX3_tryOptions 14 = .ok (.aload_n 0, 1) := by decide +kernel
theorem dX3_tryOptions_15 : decode cX3_tryOptions 15 = .ok (.aconst_null, 1) := by decide +kernel
theorem dX3_tryOptions_16 : decode cX3_tryOptions 16 = .ok (.iload_n 1, 1) := by decide +kernel
theorem dX3_tryOptions_17 : decode cX3_tryOptions 17 = .ok (.invokestatic 174, 3) := by decide +kernel
theorem dX3_tryOptions_20 : decode cX3_tryOptions 20 = .ok (.iastore, 1) := by decide +kernel
theorem dX3_tryOptions_21 : decode cX3_tryOptions 21 = .ok (.aload_n 0, 1) := by decide +kernel
theorem dX3_tryOptions_22 : decode cX3_tryOptions 22 = .ok (.getfield 120, 3) := by decide +kernel
theorem dX3_tryOptions_25 : decode cX3_tryOptions 25 = .ok (.iconst 0, 1) := by decide +kernel
theorem dX3_tryOptions_26 : decode cX3_tryOptions 26 = .ok (.iaload, 1) := by decide +kernel
theorem dX3_tryOptions_27 : decode cX3_tryOptions 27 = .ok (.iconst (-1), 1) := by decide +kernel
theorem dX3_tryOptions_28 : decode cX3_tryOptions 28 = .ok (.if_icmp .eq 7, 3) := by decide +kernel
theorem dX3_tryOptions_31 : decode cX3_tryOptions 31 = .ok (.iconst 1, 1) := by decide +kernel
theorem dX3_tryOptions_32 : decode cX3_tryOptions 32 = .ok (.goto 4, 3) := by decide +kernel
theorem dX3_tryOptions_35 : decode cX3_tryOptions 35 = .ok (.iconst 0, 1) := by decide +kernel
theorem dX3_tryOptions_36 : decode cX3_tryOptions 36 = .ok (.ireturn, 1) := by decide +kernel
theorem dX3_tryOptions_37 : decode cX3_tryOptions 37 = .ok (.iconst 0, 1) := by decide +kernel
theorem dX3_tryOptions_38 : decode cX3_tryOptions 38 = .ok (.istore_n 3, 1) := by decide +kernel
theorem dX3_tryOptions_39 : decode cX3_tryOptions 39 = .ok (.iload_n 3, 1) := by decide +kernel
theorem dX3_tryOptions_40 : decode cX3_tryOptions 40 = .ok (.aload_n 2, 1) := by decide +kernel
theorem dX3_tryOptions_41 : decode cX3_tryOptions 41 = .ok (.getfield 68, 3) := by decide +kernel
theorem dX3_tryOptions_44 : decode cX3_tryOptions 44 = .ok (.if_icmp .ge 43, 3) := by decide +kernel
theorem dX3_tryOptions_47 : decode cX3_tryOptions 47 = .ok (.aload_n 0, 1) := by decide +kernel
theorem dX3_tryOptions_48 : decode cX3_tryOptions 48 = .ok (.getfield 120, 3) := by decide +kernel
theorem dX3_tryOptions_51 : decode cX3_tryOptions 51 = .ok (.iload_n 3, 1) := by decide +kernel
theorem dX3_tryOptions_52 : decode cX3_tryOptions 52 = .ok (.aload_n 0, 1) := by decide +kernel
theorem dX3_tryOptions_53 : decode cX3_tryOptions 53 = .ok (.aload_n 2, 1) := by decide +kernel
theorem dX3_tryOptions_54 : decode cX3_tryOptions 54 = .ok (.getfield 73, 3) := by decide +kernel
theorem dX3_tryOptions_57 : decode cX3_tryOptions 57 = .ok (.iload_n 3, 1) := by decide +kernel
theorem dX3_tryOptions_58 : decode cX3_tryOptions 58 = .ok (.aaload, 1) := by decide +kernel
theorem dX3_tryOptions_59 : decode cX3_tryOptions 59 = .ok (.iload_n 1, 1) := by decide +kernel
theorem dX3_tryOptions_60 : decode cX3_tryOptions 60 = .ok (.invokestatic 174, 3) := by decide +kernel
theorem dX3_tryOptions_63 : decode cX3_tryOptions 63 = .ok (.iastore, 1) := by decide +kernel
theorem dX3_tryOptions_64 : decode cX3_tryOptions 64 = .ok (.aload_n 0, 1) := by decide +kernel
theorem dX3_tryOptions_65 : decode cX3_tryOptions 65 = .ok (.getfield 120, 3) := by decide +kernel
theorem dX3_tryOptions_68 : decode cX3_tryOptions 68 = .ok (.iload_n 3, 1) := by decide +kernel
theorem dX3_tryOptions_69 : decode cX3_tryOptions 69 = .ok (.iaload, 1) := by decide +kernel
theorem dX3_tryOptions_70 : decode cX3_tryOptions 70 = .ok (.iconst (-1), 1) := by decide +kernel
theorem dX3_tryOptions_71 : decode cX3_tryOptions 71 = .ok (.if_icmp .ne 10, 3) := by decide +kernel
theorem dX3_tryOptions_74 : decode cX3_tryOptions 74 = .ok (.aload_n 2, 1) := by decide +kernel
theorem dX3_tryOptions_75 : decode cX3_tryOptions 75 = .ok (.getfield 178, 3) := by decide +kernel
theorem dX3_tryOptions_78 : decode cX3_tryOptions 78 = .ok (.iload_n 3, 1) := by decide +kernel
theorem dX3_tryOptions_79 : decode cX3_tryOptions 79 = .ok (.iconst 1, 1) := by decide +kernel
theorem dX3_tryOptions_80 : decode cX3_tryOptions 80 = .ok (.bastore, 1) := by decide +kernel
theorem dX3_tryOptions_81 : decode cX3_tryOptions 81 = .ok (.iinc 3 1, 3) := by decide +kernel
theorem dX3_tryOptions_84 : decode cX3_tryOptions 84 = .ok (.goto (-45), 3) := by decide +kernel
theorem dX3_tryOptions_87 : decode cX3_tryOptions 87 = .ok (.iconst 1, 1) := by decide +kernel
theorem dX3_tryOptions_88 : decode cX3_tryOptions 88 = .ok (.ireturn, 1) := by decide +kernel
theorem dX3_firstFitting_0 : decode cX3_firstFitting 0 = .ok (.iconst 0, 1) := by decide +kernel
theorem dX3_firstFitting_1 : decode cX3_firstFitting 1 = .ok (.istore_n 3, 1) := by decide +kernel
theorem dX3_firstFitting_2 : decode cX3_firstFitting 2 = .ok (.iload_n 3, 1) := by decide +kernel
theorem dX3_firstFitting_3 : decode cX3_firstFitting 3 = .ok (.aload_n 0, 1) := by decide +kernel
theorem dX3_firstFitting_4 : decode cX3_firstFitting 4 = .ok (.getfield 68, 3) := by decide +kernel
theorem dX3_firstFitting_7 : decode cX3_firstFitting 7 = .ok (.if_icmp .ge 42, 3) := by decide +kernel
theorem dX3_firstFitting_10 : decode cX3_firstFitting 10 = .ok (.aload_n 0, 1) := by decide +kernel
theorem dX3_firstFitting_11 : decode cX3_firstFitting 11 = .ok (.getfield 178, 3) := by decide +kernel
theorem dX3_firstFitting_14 : decode cX3_firstFitting 14 = .ok (.iload_n 3, 1) := by decide +kernel
theorem dX3_firstFitting_15 : decode cX3_firstFitting 15 = .ok (.baload, 1) := by decide +kernel
theorem dX3_firstFitting_16 : decode cX3_firstFitting 16 = .ok (.ifCond .eq 6, 3) := by decide +kernel
theorem dX3_firstFitting_19 : decode cX3_firstFitting 19 = .ok (.goto 24, 3) := by decide +kernel
theorem dX3_firstFitting_22 : decode cX3_firstFitting 22 = .ok (.aload_n 1, 1) := by decide +kernel
theorem dX3_firstFitting_23 : decode cX3_firstFitting 23 = .ok (.ifnull 18, 3) := by decide +kernel
theorem dX3_firstFitting_26 : decode cX3_firstFitting 26 = .ok (.aload_n 0, 1) := by decide +kernel
theorem dX3_firstFitting_27 : decode cX3_firstFitting 27 = .ok (.getfield 73, 3) := by decide +kernel
theorem dX3_firstFitting_30 : decode cX3_firstFitting 30 = .ok (.iload_n 3, 1) := by decide +kernel
theorem dX3_firstFitting_31 : decode cX3_firstFitting 31 = .ok (.aaload, 1) := by decide +kernel
theorem dX3_firstFitting_32 : decode cX3_firstFitting 32 = .ok (.aload_n 1, 1) := by decide +kernel
theorem dX3_firstFitting_33 : decode cX3_firstFitting 33 = .ok (.iload_n 2, 1) := by decide +kernel
theorem dX3_firstFitting_34 : decode cX3_firstFitting 34 = .ok (.invokestatic 151, 3) := by decide +kernel
theorem dX3_firstFitting_37 : decode cX3_firstFitting 37 = .ok (.iconst (-1), 1) := by decide +kernel
theorem dX3_firstFitting_38 : decode cX3_firstFitting 38 = .ok (.if_icmp .ne 5, 3) := by decide +kernel
theorem dX3_firstFitting_41 : decode cX3_firstFitting 41 = .ok (.iload_n 3, 1) := by decide +kernel
theorem dX3_firstFitting_42 : decode cX3_firstFitting 42 = .ok (.ireturn, 1) := by decide +kernel
theorem dX3_firstFitting_43 : decode cX3_firstFitting 43 = .ok (.iinc 3 1, 3) := by decide +kernel
theorem dX3_firstFitting_46 : decode cX3_firstFitting 46 = .ok (.goto (-44), 3) := by decide +kernel
theorem dX3_firstFitting_49 : decode cX3_firstFitting 49 = .ok (.iconst (-1), 1) := by decide +kernel
theorem dX3_firstFitting_50 : decode cX3_firstFitting 50 = .ok (.ireturn, 1) := by decide +kernel
theorem dX3_shortCurrent_0 : decode cX3_shortCurrent 0 = .ok (.lconst 0, 1) := by decide +kernel
theorem dX3_shortCurrent_1 : decode cX3_shortCurrent 1 = .ok (.lstore_n 2, 1) := by decide +kernel
theorem dX3_shortCurrent_2 : decode cX3_shortCurrent 2 = .ok (.aload_n 1, 1) := by decide +kernel
theorem dX3_shortCurrent_3 : decode cX3_shortCurrent 3 = .ok (.astore 4, 2) := by decide +kernel
theorem dX3_shortCurrent_5 : decode cX3_shortCurrent 5 = .ok (.aload 4, 2) := by decide +kernel
theorem dX3_shortCurrent_7 : decode cX3_shortCurrent 7 = .ok (.ifnull 22, 3) := by decide +kernel
theorem dX3_shortCurrent_10 : decode cX3_shortCurrent 10 = .ok (.lload_n 2, 1) := by decide +kernel
theorem dX3_shortCurrent_11 : decode cX3_shortCurrent 11 = .ok (.aload 4, 2) := by decide +kernel
theorem dX3_shortCurrent_13 : decode cX3_shortCurrent 13 = .ok (.getfield 123, 3) := by decide +kernel
theorem dX3_shortCurrent_16 : decode cX3_shortCurrent 16 = .ok (.i2l, 1) := by decide +kernel
theorem dX3_shortCurrent_17 : decode cX3_shortCurrent 17 = .ok (.ladd, 1) := by decide +kernel
theorem dX3_shortCurrent_18 : decode cX3_shortCurrent 18 = .ok (.lstore_n 2, 1) := by decide +kernel
theorem dX3_shortCurrent_19 : decode cX3_shortCurrent 19 = .ok (.aload 4, 2) := by decide +kernel
theorem dX3_shortCurrent_21 : decode cX3_shortCurrent 21 = .ok (.getfield 36, 3) := by decide +kernel
theorem dX3_shortCurrent_24 : decode cX3_shortCurrent 24 = .ok (.astore 4, 2) := by decide +kernel
theorem dX3_shortCurrent_26 : decode cX3_shortCurrent 26 = .ok (.goto (-21), 3) := by decide +kernel
theorem dX3_shortCurrent_29 : decode cX3_shortCurrent 29 = .ok (.lload_n 2, 1) := by decide +kernel
theorem dX3_shortCurrent_30 : decode cX3_shortCurrent 30 = .ok (.lconst 1, 1) := by decide +kernel
theorem dX3_shortCurrent_31 : decode cX3_shortCurrent 31 = .ok (.lcmp, 1) := by decide +kernel
theorem dX3_shortCurrent_32 : decode cX3_shortCurrent 32 = .ok (.ifCond .ge 5, 3) := by decide +kernel
theorem dX3_shortCurrent_35 : decode cX3_shortCurrent 35 = .ok (.iconst 0, 1) := by decide +kernel
theorem dX3_shortCurrent_36 : decode cX3_shortCurrent 36 = .ok (.ireturn, 1) := by decide +kernel
theorem dX3_shortCurrent_37 : decode cX3_shortCurrent 37 = .ok (.ldc2_w 182, 3) := by decide +kernel
theorem dX3_shortCurrent_40 : decode cX3_shortCurrent 40 = .ok (.ldc2_w 184, 3) := by decide +kernel
theorem dX3_shortCurrent_43 : decode cX3_shortCurrent 43 = .ok (.aload_n 0, 1) := by decide +kernel
theorem dX3_shortCurrent_44 : decode cX3_shortCurrent 44 = .ok (.getfield 19, 3) := by decide +kernel
theorem dX3_shortCurrent_47 : decode cX3_shortCurrent 47 = .ok (.i2l, 1) := by decide +kernel
theorem dX3_shortCurrent_48 : decode cX3_shortCurrent 48 = .ok (.lmul, 1) := by decide +kernel
theorem dX3_shortCurrent_49 : decode cX3_shortCurrent 49 = .ok (.lload_n 2, 1) := by decide +kernel
theorem dX3_shortCurrent_50 : decode cX3_shortCurrent 50 = .ok (.ldiv, 1) := by decide +kernel
theorem dX3_shortCurrent_51 : decode cX3_shortCurrent 51 = .ok (.invokestatic 186, 3) := by decide +kernel
theorem dX3_shortCurrent_54 : decode cX3_shortCurrent 54 = .ok (.l2i, 1) := by decide +kernel
theorem dX3_shortCurrent_55 : decode cX3_shortCurrent 55 = .ok (.ireturn, 1) := by decide +kernel
theorem dX3_quickestOnWay_0 : decode cX3_quickestOnWay 0 = .ok (.aload_n 0, 1) := by decide +kernel
theorem dX3_quickestOnWay_1 : decode cX3_quickestOnWay 1 = .ok (.invokevirtual 88, 3) := by decide +kernel
theorem dX3_quickestOnWay_4 : decode cX3_quickestOnWay 4 = .ok (.astore_n 2, 1) := by decide +kernel
theorem dX3_quickestOnWay_5 : decode cX3_quickestOnWay 5 = .ok (.aload_n 0, 1) := by decide +kernel
theorem dX3_quickestOnWay_6 : decode cX3_quickestOnWay 6 = .ok (.getfield 36, 3) := by decide +kernel
theorem dX3_quickestOnWay_9 : decode cX3_quickestOnWay 9 = .ok (.astore_n 3, 1) := by decide +kernel
theorem dX3_quickestOnWay_10 : decode cX3_quickestOnWay 10 = .ok (.aload_n 3, 1) := by decide +kernel
theorem dX3_quickestOnWay_11 : decode cX3_quickestOnWay 11 = .ok (.ifnull 31, 3) := by decide +kernel
theorem dX3_quickestOnWay_14 : decode cX3_quickestOnWay 14 = .ok (.aload_n 3, 1) := by decide +kernel
theorem dX3_quickestOnWay_15 : decode cX3_quickestOnWay 15 = .ok (.invokevirtual 88, 3) := by decide +kernel
theorem dX3_quickestOnWay_18 : decode cX3_quickestOnWay 18 = .ok (.iconst 1, 1) := by decide +kernel
theorem dX3_quickestOnWay_19 : decode cX3_quickestOnWay 19 = .ok (.iconst 0, 1) := by decide +kernel
theorem dX3_quickestOnWay_20 : decode cX3_quickestOnWay 20 = .ok (.aload_n 2, 1) := by decide +kernel
theorem dX3_quickestOnWay_21 : decode cX3_quickestOnWay 21 = .ok (.iconst 1, 1) := by decide +kernel
theorem dX3_quickestOnWay_22 : decode cX3_quickestOnWay 22 = .ok (.iload_n 1, 1) := by decide +kernel
theorem dX3_quickestOnWay_23 : decode cX3_quickestOnWay 23 = .ok (.invokevirtual 138, 3) := by decide +kernel
theorem dX3_quickestOnWay_26 : decode cX3_quickestOnWay 26 = .ok (.ifCond .eq 8, 3) := by decide +kernel
theorem dX3_quickestOnWay_29 : decode cX3_quickestOnWay 29 = .ok (.aload_n 3, 1) := by decide +kernel
theorem dX3_quickestOnWay_30 : decode cX3_quickestOnWay 30 = .ok (.invokevirtual 88, 3) := by decide +kernel
theorem dX3_quickestOnWay_33 : decode cX3_quickestOnWay 33 = .ok (.astore_n 2, 1) := by decide +kernel
theorem dX3_quickestOnWay_34 : decode cX3_quickestOnWay 34 = .ok (.aload_n 3, 1) := by decide +kernel
theorem dX3_quickestOnWay_35 : decode cX3_quickestOnWay 35 = .ok (.getfield 36, 3) := by decide +kernel
theorem dX3_quickestOnWay_38 : decode cX3_quickestOnWay 38 = .ok (.astore_n 3, 1) := by decide +kernel
theorem dX3_quickestOnWay_39 : decode cX3_quickestOnWay 39 = .ok (.goto (-29), 3) := by decide +kernel
theorem dX3_quickestOnWay_42 : decode cX3_quickestOnWay 42 = .ok (.aload_n 2, 1) := by decide +kernel
theorem dX3_quickestOnWay_43 : decode cX3_quickestOnWay 43 = .ok (.areturn, 1) := by decide +kernel
end
section
theorem dX2_init_0 : decode cX2_init 0 = .ok (.aload_n 0, 1) := by decide +kernel
theorem dX2_init_1 : decode cX2_init 1 = .ok (.invokespecial 3, 3) := by decide +kernel
theorem dX2_init_4 : decode cX2_init 4 = .ok (.aload_n 0, 1) := by decide +kernel
theorem dX2_init_5 : decode cX2_init 5 = .ok (.bipush 100, 2) := by decide +kernel
theorem dX2_init_7 : decode cX2_init 7 = .ok (.putfield 9, 3) := by decide +kernel
theorem dX2_init_10 : decode cX2_init 10 = .ok (.aload_n 0, 1) := by decide +kernel
theorem dX2_init_11 : decode cX2_init 11 = .ok (.iconst 0, 1) := by decide +kernel
theorem dX2_init_12 : decode cX2_init 12 = .ok (.putfield 15, 3) := by decide +kernel
theorem dX2_init_15 : decode cX2_init 15 = .ok (.aload_n 0, 1) := by decide +kernel
theorem dX2_init_16 : decode cX2_init 16 = .ok (.aload_n 1, 1) := by decide +kernel
theorem dX2_init_17 : decode cX2_init 17 = .ok (.putfield 18, 3) := by decide +kernel
theorem dX2_init_20 : decode cX2_init 20 = .ok (.return_, 1) := by decide +kernel
theorem dX2_pieceAt_0 : decode cX2_pieceAt 0 = .ok (.iconst (-1), 1) := by decide +kernel
theorem dX2_pieceAt_1 : decode cX2_pieceAt 1 = .ok (.istore_n 2, 1) := by decide +kernel
theorem dX2_pieceAt_2 : decode cX2_pieceAt 2 = .ok (.iconst 0, 1) := by decide +kernel
theorem dX2_pieceAt_3 : decode cX2_pieceAt 3 = .ok (.istore_n 3, 1) := by decide +kernel
theorem dX2_pieceAt_4 : decode cX2_pieceAt 4 = .ok (.iload_n 3, 1) := by decide +kernel
theorem dX2_pieceAt_5 : decode cX2_pieceAt 5 = .ok (.aload_n 0, 1) := by decide +kernel
theorem dX2_pieceAt_6 : decode cX2_pieceAt 6 = .ok (.getfield 18, 3) := by decide +kernel
theorem dX2_pieceAt_9 : decode cX2_pieceAt 9 = .ok (.getfield 22, 3) := by decide +kernel
theorem dX2_pieceAt_12 : decode cX2_pieceAt 12 = .ok (.if_icmp .ge 32, 3) := by decide +kernel
theorem dX2_pieceAt_15 : decode cX2_pieceAt 15 = .ok (.bipush 100, 2) := by decide +kernel
theorem dX2_pieceAt_17 : decode cX2_pieceAt 17 = .ok (.iload_n 1, 1) := by decide +kernel
theorem dX2_pieceAt_18 : decode cX2_pieceAt 18 = .ok (.imul, 1) := by decide +kernel
theorem dX2_pieceAt_19 : decode cX2_pieceAt 19 = .ok (.aload_n 0, 1) := by decide +kernel
theorem dX2_pieceAt_20 : decode cX2_pieceAt 20 = .ok (.getfield 9, 3) := by decide +kernel
theorem dX2_pieceAt_23 : decode cX2_pieceAt 23 = .ok (.aload_n 0, 1) := by decide +kernel
theorem dX2_pieceAt_24 : decode cX2_pieceAt 24 = .ok (.getfield 18, 3) := by decide +kernel
theorem dX2_pieceAt_27 : decode cX2_pieceAt 27 = .ok (.getfield 27, 3) := by decide +kernel
theorem dX2_pieceAt_30 : decode cX2_pieceAt 30 = .ok (.iload_n 3, 1) := by decide +kernel
theorem dX2_pieceAt_31 : decode cX2_pieceAt 31 = .ok (.iaload, 1) := by decide +kernel
theorem dX2_pieceAt_32 : decode cX2_pieceAt 32 = .ok (.imul, 1) := by decide +kernel
theorem dX2_pieceAt_33 : decode cX2_pieceAt 33 = .ok (.if_icmp .lt 5, 3) := by decide +kernel
theorem dX2_pieceAt_36 : decode cX2_pieceAt 36 = .ok (.iload_n 3, 1) := by decide +kernel
theorem dX2_pieceAt_37 : decode cX2_pieceAt 37 = .ok (.istore_n 2, 1) := by decide +kernel
theorem dX2_pieceAt_38 : decode cX2_pieceAt 38 = .ok (.iinc 3 1, 3) := by decide +kernel
theorem dX2_pieceAt_41 : decode cX2_pieceAt 41 = .ok (.goto (-37), 3) := by decide +kernel
theorem dX2_pieceAt_44 : decode cX2_pieceAt 44 = .ok (.iload_n 2, 1) := by decide +kernel
theorem dX2_pieceAt_45 : decode cX2_pieceAt 45 = .ok (.ireturn, 1) := by decide +kernel
theorem dX2_startBehind_0 : decode cX2_startBehind 0 = .ok (.iconst 0, 1) := by decide +kernel
theorem dX2_startBehind_1 : decode cX2_startBehind 1 = .ok (.istore_n 2, 1) := by decide +kernel
theorem dX2_startBehind_2 : decode cX2_startBehind 2 = .ok (.iload_n 2, 1) := by decide +kernel
theorem dX2_startBehind_3 : decode cX2_startBehind 3 = .ok (.aload_n 0, 1) := by decide +kernel
theorem dX2_startBehind_4 : decode cX2_startBehind 4 = .ok (.getfield 18, 3) := by decide +kernel
theorem dX2_startBehind_7 : decode cX2_startBehind 7 = .ok (.getfield 22, 3) := by decide +kernel
theorem dX2_startBehind_10 : decode cX2_startBehind 10 = .ok (.if_icmp .ge 45, 3) := by decide +kernel
theorem dX2_startBehind_13 : decode cX2_startBehind 13 = .ok (.aload_n 0, 1) := by decide +kernel
theorem dX2_startBehind_14 : decode cX2_startBehind 14 = .ok (.getfield 9, 3) := by decide +kernel
theorem dX2_startBehind_17 : decode cX2_startBehind 17 = .ok (.aload_n 0, 1) := by decide +kernel
theorem dX2_startBehind_18 : decode cX2_startBehind 18 = .ok (.getfield 18, 3) := by decide +kernel
theorem dX2_startBehind_21 : decode cX2_startBehind 21 = .ok (.getfield 27, 3) := by decide +kernel
theorem dX2_startBehind_24 : decode cX2_startBehind 24 = .ok (.iload_n 2, 1) := by decide +kernel
theorem dX2_startBehind_25 : decode cX2_startBehind 25 = .ok (.iaload, 1) := by decide +kernel
theorem dX2_startBehind_26 : decode cX2_startBehind 26 = .ok (.imul, 1) := by decide +kernel
theorem dX2_startBehind_27 : decode cX2_startBehind 27 = .ok (.bipush 100, 2) := by decide +kernel
theorem dX2_startBehind_29 : decode cX2_startBehind 29 = .ok (.iadd, 1) := by decide +kernel
theorem dX2_startBehind_30 : decode cX2_startBehind 30 = .ok (.iconst 1, 1) := by decide +kernel
theorem dX2_startBehind_31 : decode cX2_startBehind 31 = .ok (.isub, 1) := by decide +kernel
theorem dX2_startBehind_32 : decode cX2_startBehind 32 = .ok (.bipush 100, 2) := by decide +kernel
theorem dX2_startBehind_34 : decode cX2_startBehind 34 = .ok (.idiv, 1) := by decide +kernel
theorem dX2_startBehind_35 : decode cX2_startBehind 35 = .ok (.istore_n 3, 1) := by decide +kernel
theorem dX2_startBehind_36 : decode cX2_startBehind 36 = .ok (.iload_n 3, 1) := by decide +kernel
theorem dX2_startBehind_37 : decode cX2_startBehind 37 = .ok (.iload_n 1, 1) := by decide +kernel
theorem dX2_startBehind_38 : decode cX2_startBehind 38 = .ok (.if_icmp .le 11, 3) := by decide +kernel
theorem dX2_startBehind_41 : decode cX2_startBehind 41 = .ok (.iload_n 3, 1) := by decide +kernel
theorem dX2_startBehind_42 : decode cX2_startBehind 42 = .ok (.sipush 5001, 3) := by decide +kernel
theorem dX2_startBehind_45 : decode cX2_startBehind 45 = .ok (.invokestatic 31, 3) := by decide +kernel
theorem dX2_startBehind_48 : decode cX2_startBehind 48 = .ok (.ireturn, 1) := by decide +kernel
theorem dX2_startBehind_49 : decode cX2_startBehind 49 = .ok (.iinc 2 1, 3) := by decide +kernel
theorem dX2_startBehind_52 : decode cX2_startBehind 52 = .ok (.goto (-50), 3) := by decide +kernel
theorem dX2_startBehind_55 : decode cX2_startBehind 55 = .ok (.sipush 5001, 3) := by decide +kernel
theorem dX2_startBehind_58 : decode cX2_startBehind 58 = .ok (.ireturn, 1) := by decide +kernel
theorem dX2_partsOn_0 : decode cX2_partsOn 0 = .ok (.iload_n 1, 1) := by decide +kernel
theorem dX2_partsOn_1 : decode cX2_partsOn 1 = .ok (.ifCond .lt 16, 3) := by decide +kernel
theorem dX2_partsOn_4 : decode cX2_partsOn 4 = .ok (.iload_n 1, 1) := by decide +kernel
theorem dX2_partsOn_5 : decode cX2_partsOn 5 = .ok (.iconst 1, 1) := by decide +kernel
theorem dX2_partsOn_6 : decode cX2_partsOn 6 = .ok (.iadd, 1) := by decide +kernel
theorem dX2_partsOn_7 : decode cX2_partsOn 7 = .ok (.aload_n 0, 1) := by decide +kernel
theorem dX2_partsOn_8 : decode cX2_partsOn 8 = .ok (.getfield 18, 3) := by decide +kernel
theorem dX2_partsOn_11 : decode cX2_partsOn 11 = .ok (.getfield 22, 3) := by decide +kernel
theorem dX2_partsOn_14 : decode cX2_partsOn 14 = .ok (.if_icmp .lt 5, 3) := by decide +kernel
theorem dX2_partsOn_17 : decode cX2_partsOn 17 = .ok (.lconst 1, 1) := by decide +kernel
theorem dX2_partsOn_18 : decode cX2_partsOn 18 = .ok (.lreturn, 1) := by decide +kernel
theorem dX2_partsOn_19 : decode cX2_partsOn 19 = .ok (.aload_n 0, 1) := by decide +kernel
theorem dX2_partsOn_20 : decode cX2_partsOn 20 = .ok (.getfield 9, 3) := by decide +kernel
theorem dX2_partsOn_23 : decode cX2_partsOn 23 = .ok (.i2l, 1) := by decide +kernel
theorem dX2_partsOn_24 : decode cX2_partsOn 24 = .ok (.aload_n 0, 1) := by decide +kernel
theorem dX2_partsOn_25 : decode cX2_partsOn 25 = .ok (.getfield 18, 3) := by decide +kernel
theorem dX2_partsOn_28 : decode cX2_partsOn 28 = .ok (.getfield 27, 3) := by decide +kernel
theorem dX2_partsOn_31 : decode cX2_partsOn 31 = .ok (.iload_n 1, 1) := by decide +kernel
theorem dX2_partsOn_32 : decode cX2_partsOn 32 = .ok (.iconst 1, 1) := by decide +kernel
theorem dX2_partsOn_33 : decode cX2_partsOn 33 = .ok (.iadd, 1) := by decide +kernel
theorem dX2_partsOn_34 : decode cX2_partsOn 34 = .ok (.iaload, 1) := by decide +kernel
theorem dX2_partsOn_35 : decode cX2_partsOn 35 = .ok (.aload_n 0, 1) := by decide +kernel
theorem dX2_partsOn_36 : decode cX2_partsOn 36 = .ok (.getfield 18, 3) := by decide +kernel
theorem dX2_partsOn_39 : decode cX2_partsOn 39 = .ok (.getfield 27, 3) := by decide +kernel
theorem dX2_partsOn_42 : decode cX2_partsOn 42 = .ok (.iload_n 1, 1) := by decide +kernel
theorem dX2_partsOn_43 : decode cX2_partsOn 43 = .ok (.iaload, 1) := by decide +kernel
theorem dX2_partsOn_44 : decode cX2_partsOn 44 = .ok (.isub, 1) := by decide +kernel
theorem dX2_partsOn_45 : decode cX2_partsOn 45 = .ok (.i2l, 1) := by decide +kernel
theorem dX2_partsOn_46 : decode cX2_partsOn 46 = .ok (.lmul, 1) := by decide +kernel
theorem dX2_partsOn_47 : decode cX2_partsOn 47 = .ok (.lreturn, 1) := by decide +kernel
theorem dX2_timeInParts_0 : decode cX2_timeInParts 0 = .ok (.iload 5, 2) := by decide +kernel
theorem dX2_timeInParts_2 : decode cX2_timeInParts 2 = .ok (.ifCond .eq 13, 3) := by decide +kernel
theorem dX2_timeInParts_5 : decode cX2_timeInParts 5 = .ok (.aload_n 0, 1) := by decide +kernel
theorem dX2_timeInParts_6 : decode cX2_timeInParts 6 = .ok (.getfield 18, 3) := by decide +kernel
theorem dX2_timeInParts_9 : decode cX2_timeInParts 9 = .ok (.getfield 37, 3) := by decide +kernel
theorem dX2_timeInParts_12 : decode cX2_timeInParts 12 = .ok (.goto 10, 3) := by decide +kernel
theorem dX2_timeInParts_15 : decode cX2_timeInParts 15 = .ok (.aload_n 0, 1) := by decide +kernel
theorem dX2_timeInParts_16 : decode cX2_timeInParts 16 = .ok (.getfield 18, 3) := by decide +kernel
theorem dX2_timeInParts_19 : decode cX2_timeInParts 19 = .ok (.getfield 40, 3) := by decide +kernel
theorem dX2_timeInParts_22 : decode cX2_timeInParts 22 = .ok (.astore 6, 2) := by decide +kernel
theorem dX2_timeInParts_24 : decode cX2_timeInParts 24 = .ok (.aload 6, 2) := by decide +kernel
theorem dX2_timeInParts_26 : decode cX2_timeInParts 26 = .ok (.iload_n 1, 1) := by decide +kernel
theorem dX2_timeInParts_27 : decode cX2_timeInParts 27 = .ok (.iaload, 1) := by decide +kernel
theorem dX2_timeInParts_28 : decode cX2_timeInParts 28 = .ok (.aload_n 0, 1) := by decide +kernel
theorem dX2_timeInParts_29 : decode cX2_timeInParts 29 = .ok (.getfield 15, 3) := by decide +kernel
theorem dX2_timeInParts_32 : decode cX2_timeInParts 32 = .ok (.iadd, 1) := by decide +kernel
theorem dX2_timeInParts_33 : decode cX2_timeInParts 33 = .ok (.i2l, 1) := by decide +kernel
theorem dX2_timeInParts_34 : decode cX2_timeInParts 34 = .ok (.lload_n 2, 1) := by decide +kernel
theorem dX2_timeInParts_35 : decode cX2_timeInParts 35 = .ok (.lmul, 1) := by decide +kernel
theorem dX2_timeInParts_36 : decode cX2_timeInParts 36 = .ok (.lstore 7, 2) := by decide +kernel
theorem dX2_timeInParts_38 : decode cX2_timeInParts 38 = .ok (.iload_n 1, 1) := by decide +kernel
theorem dX2_timeInParts_39 : decode cX2_timeInParts 39 = .ok (.iconst 1, 1) := by decide +kernel
theorem dX2_timeInParts_40 : decode cX2_timeInParts 40 = .ok (.iadd, 1) := by decide +kernel
theorem dX2_timeInParts_41 : decode cX2_timeInParts 41 = .ok (.aload_n 0, 1) := by decide +kernel
theorem dX2_timeInParts_42 : decode cX2_timeInParts 42 = .ok (.getfield 18, 3) := by decide +kernel
theorem dX2_timeInParts_45 : decode cX2_timeInParts 45 = .ok (.getfield 22, 3) := by decide +kernel
theorem dX2_timeInParts_48 : decode cX2_timeInParts 48 = .ok (.if_icmp .lt 6, 3) := by decide +kernel
theorem dX2_timeInParts_51 : decode cX2_timeInParts 51 = .ok (.lload 7, 2) := by decide +kernel
theorem dX2_timeInParts_53 : decode cX2_timeInParts 53 = .ok (.lreturn, 1) := by decide +kernel
theorem dX2_timeInParts_54 : decode cX2_timeInParts 54 = .ok (.aload 6, 2) := by decide +kernel
theorem dX2_timeInParts_56 : decode cX2_timeInParts 56 = .ok (.iload_n 1, 1) := by decide +kernel
theorem dX2_timeInParts_57 : decode cX2_timeInParts 57 = .ok (.iconst 1, 1) := by decide +kernel
theorem dX2_timeInParts_58 : decode cX2_timeInParts 58 = .ok (.iadd, 1) := by decide +kernel
theorem dX2_timeInParts_59 : decode cX2_timeInParts 59 = .ok (.iaload, 1) := by decide +kernel
theorem dX2_timeInParts_60 : decode cX2_timeInParts 60 = .ok (.aload 6, 2) := by decide +kernel
theorem dX2_timeInParts_62 : decode cX2_timeInParts 62 = .ok (.iload_n 1, 1) := by decide +kernel
theorem dX2_timeInParts_63 : decode cX2_timeInParts 63 = .ok (.iaload, 1) := by decide +kernel
theorem dX2_timeInParts_64 : decode cX2_timeInParts 64 = .ok (.isub, 1) := by decide +kernel
theorem dX2_timeInParts_65 : decode cX2_timeInParts 65 = .ok (.i2l, 1) := by decide +kernel
theorem dX2_timeInParts_66 : decode cX2_timeInParts 66 = .ok (.lstore 9, 2) := by decide +kernel
theorem dX2_timeInParts_68 : decode cX2_timeInParts 68 = .ok (.lload 7, 2) := by decide +kernel
theorem dX2_timeInParts_70 : decode cX2_timeInParts 70 = .ok (.lload 9, 2) := by decide +kernel
theorem dX2_timeInParts_72 : decode cX2_timeInParts 72 = .ok (.bipush 100, 2) := by decide +kernel
theorem dX2_timeInParts_74 : decode cX2_timeInParts 74 = .ok (.iload 4, 2) := by decide +kernel
theorem dX2_timeInParts_76 : decode cX2_timeInParts 76 = .ok (.imul, 1) := by decide +kernel
theorem dX2_timeInParts_77 : decode cX2_timeInParts 77 = .ok (.aload_n 0, 1) := by decide +kernel
theorem dX2_timeInParts_78 : decode cX2_timeInParts 78 = .ok (.getfield 9, 3) := by decide +kernel
theorem dX2_timeInParts_81 : decode cX2_timeInParts 81 = .ok (.aload_n 0, 1) := by decide +kernel
theorem dX2_timeInParts_82 : decode cX2_timeInParts 82 = .ok (.getfield 18, 3) := by decide +kernel
theorem dX2_timeInParts_85 : decode cX2_timeInParts 85 = .ok (.getfield 27, 3) := by decide +kernel
theorem dX2_timeInParts_88 : decode cX2_timeInParts 88 = .ok (.iload_n 1, 1) := by decide +kernel
theorem dX2_timeInParts_89 : decode cX2_timeInParts 89 = .ok (.iaload, 1) := by decide +kernel
theorem dX2_timeInParts_90 : decode cX2_timeInParts 90 = .ok (.imul, 1) := by decide +kernel
theorem dX2_timeInParts_91 : decode cX2_timeInParts 91 = .ok (.isub, 1) := by decide +kernel
theorem dX2_timeInParts_92 : decode cX2_timeInParts 92 = .ok (.i2l, 1) := by decide +kernel
theorem dX2_timeInParts_93 : decode cX2_timeInParts 93 = .ok (.lmul, 1) := by decide +kernel
theorem dX2_timeInParts_94 : decode cX2_timeInParts 94 = .ok (.ladd, 1) := by decide +kernel
theorem dX2_timeInParts_95 : decode cX2_timeInParts 95 = .ok (.lreturn, 1) := by decide +kernel
theorem dX2_wholeTime_0 : decode cX2_wholeTime 0 = .ok (.aload_n 0, 1) := by decide +kernel
theorem dX2_wholeTime_1 : decode cX2_wholeTime 1 = .ok (.iload_n 1, 1) := by decide +kernel
theorem dX2_wholeTime_2 : decode cX2_wholeTime 2 = .ok (.invokevirtual 43, 3) := by decide +kernel
theorem dX2_wholeTime_5 : decode cX2_wholeTime 5 = .ok (.lstore 4, 2) := by decide +kernel
theorem dX2_wholeTime_7 : decode cX2_wholeTime 7 = .ok (.lload 4, 2) := by decide +kernel
theorem dX2_wholeTime_9 : decode cX2_wholeTime 9 = .ok (.lconst 1, 1) := by decide +kernel
theorem dX2_wholeTime_10 : decode cX2_wholeTime 10 = .ok (.lcmp, 1) := by decide +kernel
theorem dX2_wholeTime_11 : decode cX2_wholeTime 11 = .ok (.ifCond .ge 7, 3) := by decide +kernel
theorem dX2_wholeTime_14 : decode cX2_wholeTime 14 = .ok (.iconst (-1), 1) := by decide +kernel
theorem dX2_wholeTime_15 : decode cX2_wholeTime 15 = .ok (.goto 16, 3) := by decide +kernel
theorem dX2_wholeTime_18 : decode cX2_wholeTime 18 = .ok (.aload_n 0, 1) := by decide +kernel
theorem dX2_wholeTime_19 : decode cX2_wholeTime 19 = .ok (.iload_n 1, 1) := by decide +kernel
theorem dX2_wholeTime_20 : decode cX2_wholeTime 20 = .ok (.lload 4, 2) := by decide +kernel
theorem dX2_wholeTime_22 : decode cX2_wholeTime 22 = .ok (.iload_n 2, 1) := by decide +kernel
theorem dX2_wholeTime_23 : decode cX2_wholeTime 23 = .ok (.iload_n 3, 1) := by decide +kernel
theorem dX2_wholeTime_24 : decode cX2_wholeTime 24 = .ok (.invokevirtual 47, 3) := by decide +kernel
theorem dX2_wholeTime_27 : decode cX2_wholeTime 27 = .ok (.lload 4, 2) := by decide +kernel
theorem dX2_wholeTime_29 : decode cX2_wholeTime 29 = .ok (.ldiv, 1) := by decide +kernel
theorem dX2_wholeTime_30 : decode cX2_wholeTime 30 = .ok (.l2i, 1) := by decide +kernel
theorem dX2_wholeTime_31 : decode cX2_wholeTime 31 = .ok (.ireturn, 1) := by decide +kernel
theorem dX2_isWithin_0 : decode cX2_isWithin 0 = .ok (.aload_n 3, 1) := by decide +kernel
theorem dX2_isWithin_1 : decode cX2_isWithin 1 = .ok (.iload 5, 2) := by decide +kernel
theorem dX2_isWithin_3 : decode cX2_isWithin 3 = .ok (.invokevirtual 51, 3) := by decide +kernel
theorem dX2_isWithin_6 : decode cX2_isWithin 6 = .ok (.istore 6, 2) := by decide +kernel
theorem dX2_isWithin_8 : decode cX2_isWithin 8 = .ok (.iload 6, 2) := by decide +kernel
theorem dX2_isWithin_10 : decode cX2_isWithin 10 = .ok (.iconst (-1), 1) := by decide +kernel
theorem dX2_isWithin_11 : decode cX2_isWithin 11 = .ok (.if_icmp .ne 5, 3) := by decide +kernel
theorem dX2_isWithin_14 : decode cX2_isWithin 14 = .ok (.iconst 1, 1) := by decide +kernel
theorem dX2_isWithin_15 : decode cX2_isWithin 15 = .ok (.ireturn, 1) := by decide +kernel
theorem dX2_isWithin_16 : decode cX2_isWithin 16 = .ok (.aload_n 0, 1) := by decide +kernel
theorem dX2_isWithin_17 : decode cX2_isWithin 17 = .ok (.iload 5, 2) := by decide +kernel
theorem dX2_isWithin_19 : decode cX2_isWithin 19 = .ok (.invokevirtual 51, 3) := by decide +kernel
theorem dX2_isWithin_22 : decode cX2_isWithin 22 = .ok (.istore 7, 2) := by decide +kernel
theorem dX2_isWithin_24 : decode cX2_isWithin 24 = .ok (.iload 7, 2) := by decide +kernel
theorem dX2_isWithin_26 : decode cX2_isWithin 26 = .ok (.iconst (-1), 1) := by decide +kernel
theorem dX2_isWithin_27 : decode cX2_isWithin 27 = .ok (.if_icmp .ne 5, 3) := by decide +kernel
theorem dX2_isWithin_30 : decode cX2_isWithin 30 = .ok (.iconst 0, 1) := by decide +kernel
theorem dX2_isWithin_31 : decode cX2_isWithin 31 = .ok (.ireturn, 1) := by decide +kernel
theorem dX2_isWithin_32 : decode cX2_isWithin 32 = .ok (.aload_n 0, 1) := by decide +kernel
theorem dX2_isWithin_33 : decode cX2_isWithin 33 = .ok (.iload 7, 2) := by decide +kernel
theorem dX2_isWithin_35 : decode cX2_isWithin 35 = .ok (.invokevirtual 43, 3) := by decide +kernel
theorem dX2_isWithin_38 : decode cX2_isWithin 38 = .ok (.lstore 8, 2) := by decide +kernel
theorem dX2_isWithin_40 : decode cX2_isWithin 40 = .ok (.aload_n 3, 1) := by decide +kernel
theorem dX2_isWithin_41 : decode cX2_isWithin 41 = .ok (.iload 6, 2) := by decide +kernel
theorem dX2_isWithin_43 : decode cX2_isWithin 43 = .ok (.invokevirtual 43, 3) := by decide +kernel
theorem dX2_isWithin_46 : decode cX2_isWithin 46 = .ok (.lstore 10, 2) := by decide +kernel
theorem dX2_isWithin_48 : decode cX2_isWithin 48 = .ok (.aload_n 0, 1) := by decide +kernel
theorem dX2_isWithin_49 : decode cX2_isWithin 49 = .ok (.iload 7, 2) := by decide +kernel
theorem dX2_isWithin_51 : decode cX2_isWithin 51 = .ok (.lload 8, 2) := by decide +kernel
theorem dX2_isWithin_53 : decode cX2_isWithin 53 = .ok (.iload 5, 2) := by decide +kernel
theorem dX2_isWithin_55 : decode cX2_isWithin 55 = .ok (.iload_n 1, 1) := by decide +kernel
theorem dX2_isWithin_56 : decode cX2_isWithin 56 = .ok (.invokevirtual 47, 3) := by decide +kernel
theorem dX2_isWithin_59 : decode cX2_isWithin 59 = .ok (.iload_n 2, 1) := by decide +kernel
theorem dX2_isWithin_60 : decode cX2_isWithin 60 = .ok (.i2l, 1) := by decide +kernel
theorem dX2_isWithin_61 : decode cX2_isWithin 61 = .ok (.lload 8, 2) := by decide +kernel
theorem dX2_isWithin_63 : decode cX2_isWithin 63 = .ok (.lmul, 1) := by decide +kernel
theorem dX2_isWithin_64 : decode cX2_isWithin 64 = .ok (.ladd, 1) := by decide +kernel
theorem dX2_isWithin_65 : decode cX2_isWithin 65 = .ok (.lstore 12, 2) := by decide +kernel
theorem dX2_isWithin_67 : decode cX2_isWithin 67 = .ok (.aload_n 3, 1) := by decide +kernel
theorem dX2_isWithin_68 : decode cX2_isWithin 68 = .ok (.iload 6, 2) := by decide +kernel
theorem dX2_isWithin_70 : decode cX2_isWithin 70 = .ok (.lload 10, 2) := by decide +kernel
theorem dX2_isWithin_72 : decode cX2_isWithin 72 = .ok (.iload 5, 2) := by decide +kernel
theorem dX2_isWithin_74 : decode cX2_isWithin 74 = .ok (.iload 4, 2) := by decide +kernel
theorem dX2_isWithin_76 : decode cX2_isWithin 76 = .ok (.invokevirtual 47, 3) := by decide +kernel
theorem dX2_isWithin_79 : decode cX2_isWithin 79 = .ok (.lstore 14, 2) := by decide +kernel
theorem dX2_isWithin_81 : decode cX2_isWithin 81 = .ok (.lload 12, 2) := by decide +kernel
theorem dX2_isWithin_83 : decode cX2_isWithin 83 = .ok (.lload 10, 2) := by decide +kernel
theorem dX2_isWithin_85 : decode cX2_isWithin 85 = .ok (.lmul, 1) := by decide +kernel
theorem dX2_isWithin_86 : decode cX2_isWithin 86 = .ok (.lload 14, 2) := by decide +kernel
theorem dX2_isWithin_88 : decode cX2_isWithin 88 = .ok (.lload 8, 2) := by decide +kernel
theorem dX2_isWithin_90 : decode cX2_isWithin 90 = .ok (.lmul, 1) := by decide +kernel
theorem dX2_isWithin_91 : decode cX2_isWithin 91 = .ok (.lcmp, 1) := by decide +kernel
theorem dX2_isWithin_92 : decode cX2_isWithin 92 = .ok (.ifCond .gt 7, 3) := by decide +kernel
theorem dX2_isWithin_95 : decode cX2_isWithin 95 = .ok (.iconst 1, 1) := by decide +kernel
theorem dX2_isWithin_96 : decode cX2_isWithin 96 = .ok (.goto 4, 3) := by decide +kernel
theorem dX2_isWithin_99 : decode cX2_isWithin 99 = .ok (.iconst 0, 1) := by decide +kernel
theorem dX2_isWithin_100 : decode cX2_isWithin 100 = .ok (.ireturn, 1) := by decide +kernel
end
section
theorem dX0_init_0 : decode cX0_init 0 = .ok (.aload_n 0, 1) := by decide +kernel
theorem dX0_init_1 : decode cX0_init 1 = .ok (.invokespecial 3, 3) := by decide +kernel
theorem dX0_init_4 : decode cX0_init 4 = .ok (.aload_n 0, 1) := by decide +kernel
theorem dX0_init_5 : decode cX0_init 5 = .ok (.bipush 6, 2) := by decide +kernel
theorem dX0_init_7 : decode cX0_init 7 = .ok (.newarray .int, 2) := by decide +kernel
theorem dX0_init_9 : decode cX0_init 9 = .ok (.putfield 9, 3) := by decide +kernel
theorem dX0_init_12 : decode cX0_init 12 = .ok (.aload_n 0, 1) := by decide +kernel
theorem dX0_init_13 : decode cX0_init 13 = .ok (.bipush 6, 2) := by decide +kernel
theorem dX0_init_15 : decode cX0_init 15 = .ok (.newarray .int, 2) := by decide +kernel
theorem dX0_init_17 : decode cX0_init 17 = .ok (.putfield 15, 3) := by decide +kernel
theorem dX0_init_20 : decode cX0_init 20 = .ok (.aload_n 0, 1) := by decide +kernel
theorem dX0_init_21 : decode cX0_init 21 = .ok (.bipush 6, 2) := by decide +kernel
theorem dX0_init_23 : decode cX0_init 23 = .ok (.newarray .int, 2) := by decide +kernel
theorem dX0_init_25 : decode cX0_init 25 = .ok (.putfield 18, 3) := by decide +kernel
theorem dX0_init_28 : decode cX0_init 28 = .ok (.aload_n 0, 1) := by decide +kernel
theorem dX0_init_29 : decode cX0_init 29 = .ok (.iconst 0, 1) := by decide +kernel
theorem dX0_init_30 : decode cX0_init 30 = .ok (.putfield 21, 3) := by decide +kernel
theorem dX0_init_33 : decode cX0_init 33 = .ok (.return_, 1) := by decide +kernel
theorem dX0_add_0 : decode cX0_add 0 = .ok (.aload_n 0, 1) := by decide +kernel
theorem dX0_add_1 : decode cX0_add 1 = .ok (.getfield 21, 3) := by decide +kernel
theorem dX0_add_4 : decode cX0_add 4 = .ok (.bipush 6, 2) := by decide +kernel
theorem dX0_add_6 : decode cX0_add 6 = .ok (.if_icmp .ge 43, 3) := by decide +kernel
theorem dX0_add_9 : decode cX0_add 9 = .ok (.aload_n 0, 1) := by decide +kernel
theorem dX0_add_10 : decode cX0_add 10 = .ok (.getfield 9, 3) := by decide +kernel
theorem dX0_add_13 : decode cX0_add 13 = .ok (.aload_n 0, 1) := by decide +kernel
theorem dX0_add_14 : decode cX0_add 14 = .ok (.getfield 21, 3) := by decide +kernel
theorem dX0_add_17 : decode cX0_add 17 = .ok (.iload_n 1, 1) := by decide +kernel
theorem dX0_add_18 : decode cX0_add 18 = .ok (.iastore, 1) := by decide +kernel
theorem dX0_add_19 : decode cX0_add 19 = .ok (.aload_n 0, 1) := by decide +kernel
theorem dX0_add_20 : decode cX0_add 20 = .ok (.getfield 15, 3) := by decide +kernel
theorem dX0_add_23 : decode cX0_add 23 = .ok (.aload_n 0, 1) := by decide +kernel
theorem dX0_add_24 : decode cX0_add 24 = .ok (.getfield 21, 3) := by decide +kernel
theorem dX0_add_27 : decode cX0_add 27 = .ok (.iload_n 2, 1) := by decide +kernel
theorem dX0_add_28 : decode cX0_add 28 = .ok (.iastore, 1) := by decide +kernel
theorem dX0_add_29 : decode cX0_add 29 = .ok (.aload_n 0, 1) := by decide +kernel
theorem dX0_add_30 : decode cX0_add 30 = .ok (.getfield 18, 3) := by decide +kernel
theorem dX0_add_33 : decode cX0_add 33 = .ok (.aload_n 0, 1) := by decide +kernel
theorem dX0_add_34 : decode cX0_add 34 = .ok (.getfield 21, 3) := by decide +kernel
theorem dX0_add_37 : decode cX0_add 37 = .ok (.iload_n 3, 1) := by decide +kernel
theorem dX0_add_38 : decode cX0_add 38 = .ok (.iastore, 1) := by decide +kernel
theorem dX0_add_39 : decode cX0_add 39 = .ok (.aload_n 0, 1) := by decide +kernel
theorem dX0_add_40 : decode cX0_add 40 = .ok (.dup, 1) := by decide +kernel
theorem dX0_add_41 : decode cX0_add 41 = .ok (.getfield 21, 3) := by decide +kernel
theorem dX0_add_44 : decode cX0_add 44 = .ok (.iconst 1, 1) := by decide +kernel
theorem dX0_add_45 : decode cX0_add 45 = .ok (.iadd, 1) := by decide +kernel
theorem dX0_add_46 : decode cX0_add 46 = .ok (.putfield 21, 3) := by decide +kernel
theorem dX0_add_49 : decode cX0_add 49 = .ok (.return_, 1) := by decide +kernel
theorem dX1_init_0 : decode cX1_init 0 = .ok (.aload_n 0, 1) := by decide +kernel
theorem dX1_init_1 : decode cX1_init 1 = .ok (.invokespecial 3, 3) := by decide +kernel
theorem dX1_init_4 : decode cX1_init 4 = .ok (.aload_n 0, 1) := by decide +kernel
theorem dX1_init_5 : decode cX1_init 5 = .ok (.new 9, 3) := by decide +kernel
theorem dX1_init_8 : decode cX1_init 8 = .ok (.dup, 1) := by decide +kernel
theorem dX1_init_9 : decode cX1_init 9 = .ok (.invokespecial 11, 3) := by decide +kernel
theorem dX1_init_12 : decode cX1_init 12 = .ok (.putfield 12, 3) := by decide +kernel
theorem dX1_init_15 : decode cX1_init 15 = .ok (.aload_n 0, 1) := by decide +kernel
theorem dX1_init_16 : decode cX1_init 16 = .ok (.iconst 4, 1) := by decide +kernel
theorem dX1_init_17 : decode cX1_init 17 = .ok (.anewarray 18, 3) := by decide +kernel
theorem dX1_init_20 : decode cX1_init 20 = .ok (.putfield 20, 3) := by decide +kernel
theorem dX1_init_23 : decode cX1_init 23 = .ok (.aload_n 0, 1) := by decide +kernel
theorem dX1_init_24 : decode cX1_init 24 = .ok (.iconst 4, 1) := by decide +kernel
theorem dX1_init_25 : decode cX1_init 25 = .ok (.newarray .boolean, 2) := by decide +kernel
theorem dX1_init_27 : decode cX1_init 27 = .ok (.putfield 24, 3) := by decide +kernel
theorem dX1_init_30 : decode cX1_init 30 = .ok (.aload_n 0, 1) := by decide +kernel
theorem dX1_init_31 : decode cX1_init 31 = .ok (.iconst 4, 1) := by decide +kernel
theorem dX1_init_32 : decode cX1_init 32 = .ok (.newarray .int, 2) := by decide +kernel
theorem dX1_init_34 : decode cX1_init 34 = .ok (.putfield 28, 3) := by decide +kernel
theorem dX1_init_37 : decode cX1_init 37 = .ok (.aload_n 0, 1) := by decide +kernel
theorem dX1_init_38 : decode cX1_init 38 = .ok (.aconst_null, 1) := by decide +kernel
theorem dX1_init_39 : decode cX1_init 39 = .ok (.putfield 32, 3) := by decide +kernel
theorem dX1_init_42 : decode cX1_init 42 = .ok (.aload_n 0, 1) := by decide +kernel
theorem dX1_init_43 : decode cX1_init 43 = .ok (.iconst 1, 1) := by decide +kernel
theorem dX1_init_44 : decode cX1_init 44 = .ok (.putfield 36, 3) := by decide +kernel
theorem dX1_init_47 : decode cX1_init 47 = .ok (.aload_n 0, 1) := by decide +kernel
theorem dX1_init_48 : decode cX1_init 48 = .ok (.iconst 0, 1) := by decide +kernel
theorem dX1_init_49 : decode cX1_init 49 = .ok (.putfield 40, 3) := by decide +kernel
theorem dX1_init_52 : decode cX1_init 52 = .ok (.aload_n 0, 1) := by decide +kernel
theorem dX1_init_53 : decode cX1_init 53 = .ok (.bipush 100, 2) := by decide +kernel
theorem dX1_init_55 : decode cX1_init 55 = .ok (.putfield 43, 3) := by decide +kernel
theorem dX1_init_58 : decode cX1_init 58 = .ok (.aload_n 0, 1) := by decide +kernel
theorem dX1_init_59 : decode cX1_init 59 = .ok (.iload_n 1, 1) := by decide +kernel
theorem dX1_init_60 : decode cX1_init 60 = .ok (.putfield 46, 3) := by decide +kernel
theorem dX1_init_63 : decode cX1_init 63 = .ok (.iconst 0, 1) := by decide +kernel
theorem dX1_init_64 : decode cX1_init 64 = .ok (.istore_n 2, 1) := by decide +kernel
theorem dX1_init_65 : decode cX1_init 65 = .ok (.iload_n 2, 1) := by decide +kernel
theorem dX1_init_66 : decode cX1_init 66 = .ok (.iconst 4, 1) := by decide +kernel
theorem dX1_init_67 : decode cX1_init 67 = .ok (.if_icmp .ge 26, 3) := by decide +kernel
theorem dX1_init_70 : decode cX1_init 70 = .ok (.aload_n 0, 1) := by decide +kernel
theorem dX1_init_71 : decode cX1_init 71 = .ok (.getfield 20, 3) := by decide +kernel
theorem dX1_init_74 : decode cX1_init 74 = .ok (.iload_n 2, 1) := by decide +kernel
theorem dX1_init_75 : decode cX1_init 75 = .ok (.new 18, 3) := by decide +kernel
theorem dX1_init_78 : decode cX1_init 78 = .ok (.dup, 1) := by decide +kernel
theorem dX1_init_79 : decode cX1_init 79 = .ok (.aload_n 0, 1) := by decide +kernel
theorem dX1_init_80 : decode cX1_init 80 = .ok (.getfield 12, 3) := by decide +kernel
theorem dX1_init_83 : decode cX1_init 83 = .ok (.invokespecial 49, 3) := by decide +kernel
theorem dX1_init_86 : decode cX1_init 86 = .ok (.aastore, 1) := by decide +kernel
theorem dX1_init_87 : decode cX1_init 87 = .ok (.iinc 2 1, 3) := by decide +kernel
theorem dX1_init_90 : decode cX1_init 90 = .ok (.goto (-25), 3) := by decide +kernel
theorem dX1_init_93 : decode cX1_init 93 = .ok (.return_, 1) := by decide +kernel
theorem dX1_chosenSetting_0 : decode cX1_chosenSetting 0 = .ok (.aload_n 0, 1) := by decide +kernel
theorem dX1_chosenSetting_1 : decode cX1_chosenSetting 1 = .ok (.getfield 20, 3) := by decide +kernel
theorem dX1_chosenSetting_4 : decode cX1_chosenSetting 4 = .ok (.aload_n 0, 1) := by decide +kernel
theorem dX1_chosenSetting_5 : decode cX1_chosenSetting 5 = .ok (.getfield 40, 3) := by decide +kernel
theorem dX1_chosenSetting_8 : decode cX1_chosenSetting 8 = .ok (.aaload, 1) := by decide +kernel
theorem dX1_chosenSetting_9 : decode cX1_chosenSetting 9 = .ok (.areturn, 1) := by decide +kernel
theorem dX1_forgetTries_0 : decode cX1_forgetTries 0 = .ok (.iconst 0, 1) := by decide +kernel
theorem dX1_forgetTries_1 : decode cX1_forgetTries 1 = .ok (.istore_n 1, 1) := by decide +kernel
theorem dX1_forgetTries_2 : decode cX1_forgetTries 2 = .ok (.iload_n 1, 1) := by decide +kernel
theorem dX1_forgetTries_3 : decode cX1_forgetTries 3 = .ok (.iconst 4, 1) := by decide +kernel
theorem dX1_forgetTries_4 : decode cX1_forgetTries 4 = .ok (.if_icmp .ge 16, 3) := by decide +kernel
theorem dX1_forgetTries_7 : decode cX1_forgetTries 7 = .ok (.aload_n 0, 1) := by decide +kernel
theorem dX1_forgetTries_8 : decode cX1_forgetTries 8 = .ok (.getfield 24, 3) := by decide +kernel
theorem dX1_forgetTries_11 : decode cX1_forgetTries 11 = .ok (.iload_n 1, 1) := by decide +kernel
theorem dX1_forgetTries_12 : decode cX1_forgetTries 12 = .ok (.iconst 0, 1) := by decide +kernel
theorem dX1_forgetTries_13 : decode cX1_forgetTries 13 = .ok (.bastore, 1) := by decide +kernel
theorem dX1_forgetTries_14 : decode cX1_forgetTries 14 = .ok (.iinc 1 1, 3) := by decide +kernel
theorem dX1_forgetTries_17 : decode cX1_forgetTries 17 = .ok (.goto (-15), 3) := by decide +kernel
theorem dX1_forgetTries_20 : decode cX1_forgetTries 20 = .ok (.return_, 1) := by decide +kernel
end
section
set_option maxRecDepth 20000 in
theorem kw_0 : (.selects RX3 yX3_known yX3_known : Cond) ∈ gAll := g_mem 0 rfl rfl
set_option maxRecDepth 20000 in
theorem kw_2 : (.selects RX3 yX3_shortCurrent yX3_shortCurrent : Cond) ∈ gAll := g_mem 2 rfl rfl
set_option maxRecDepth 20000 in
theorem kw_12 : (.initialized RX3 : Cond) ∈ gAll := g_mem 12 rfl rfl
set_option maxRecDepth 20000 in
theorem kw_13 : (.initialized RX1 : Cond) ∈ gAll := g_mem 13 rfl rfl
set_option maxRecDepth 20000 in
theorem kw_15 : (.initialized RX2 : Cond) ∈ gAll := g_mem 15 rfl rfl
set_option maxRecDepth 20000 in
theorem kw_22 : (.initialized "java/lang/Math" : Cond) ∈ gAll := g_mem 22 rfl rfl
set_option maxRecDepth 20000 in
theorem kw_45 : (.fieldLink RX2 27 "BreakerOrders$Curve" "place" "[I" : Cond) ∈ gAll := g_mem 45 rfl rfl
set_option maxRecDepth 20000 in
theorem kw_48 : (.fieldLink RX2 40 "BreakerOrders$Curve" "least" "[I" : Cond) ∈ gAll := g_mem 48 rfl rfl
set_option maxRecDepth 20000 in
theorem kw_50 : (.fieldLink RX2 37 "BreakerOrders$Curve" "most" "[I" : Cond) ∈ gAll := g_mem 50 rfl rfl
set_option maxRecDepth 20000 in
theorem kw_52 : (.fieldLink RX2 22 "BreakerOrders$Curve" "points" "I" : Cond) ∈ gAll := g_mem 52 rfl rfl
set_option maxRecDepth 20000 in
theorem kw_71 : (.fieldLink RX2 18 "BreakerOrders$Setting" "curve" "LBreakerOrders$Curve;" : Cond) ∈ gAll := g_mem 71 rfl rfl
set_option maxRecDepth 20000 in
theorem kw_72 : (.fieldLink RX2 9 "BreakerOrders$Setting" "scale" "I" : Cond) ∈ gAll := g_mem 72 rfl rfl
set_option maxRecDepth 20000 in
theorem kw_74 : (.fieldLink RX2 15 "BreakerOrders$Setting" "delay" "I" : Cond) ∈ gAll := g_mem 74 rfl rfl
set_option maxRecDepth 20000 in
theorem kw_85 : (.fieldLink RX3 40 "BreakerOrders$Device" "number" "I" : Cond) ∈ gAll := g_mem 85 rfl rfl
set_option maxRecDepth 20000 in
theorem kw_88 : (.fieldLink RX1 20 "BreakerOrders$Device" "settings" "[LBreakerOrders$Setting;" : Cond) ∈ gAll := g_mem 88 rfl rfl
set_option maxRecDepth 20000 in
theorem kw_89 : (.fieldLink RX3 73 "BreakerOrders$Device" "settings" "[LBreakerOrders$Setting;" : Cond) ∈ gAll := g_mem 89 rfl rfl
set_option maxRecDepth 20000 in
theorem kw_91 : (.fieldLink RX3 178 "BreakerOrders$Device" "ruledOut" "[Z" : Cond) ∈ gAll := g_mem 91 rfl rfl
set_option maxRecDepth 20000 in
theorem kw_95 : (.fieldLink RX3 36 "BreakerOrders$Device" "above" "LBreakerOrders$Device;" : Cond) ∈ gAll := g_mem 95 rfl rfl
set_option maxRecDepth 20000 in
theorem kw_97 : (.fieldLink RX3 68 "BreakerOrders$Device" "options" "I" : Cond) ∈ gAll := g_mem 97 rfl rfl
set_option maxRecDepth 20000 in
theorem kw_98 : (.fieldLink RX1 40 "BreakerOrders$Device" "chosen" "I" : Cond) ∈ gAll := g_mem 98 rfl rfl
set_option maxRecDepth 20000 in
theorem kw_99 : (.fieldLink RX3 85 "BreakerOrders$Device" "chosen" "I" : Cond) ∈ gAll := g_mem 99 rfl rfl
set_option maxRecDepth 20000 in
theorem kw_101 : (.fieldLink RX3 123 "BreakerOrders$Device" "impedance" "I" : Cond) ∈ gAll := g_mem 101 rfl rfl
set_option maxRecDepth 20000 in
theorem kw_121 : (.fieldLink RX3 11 "BreakerOrders" "devices" "[LBreakerOrders$Device;" : Cond) ∈ gAll := g_mem 121 rfl rfl
set_option maxRecDepth 20000 in
theorem kw_122 : (.fieldLink RX3 15 "BreakerOrders" "count" "I" : Cond) ∈ gAll := g_mem 122 rfl rfl
set_option maxRecDepth 20000 in
theorem kw_123 : (.fieldLink RX3 19 "BreakerOrders" "sourceVoltage" "I" : Cond) ∈ gAll := g_mem 123 rfl rfl
set_option maxRecDepth 20000 in
theorem kw_140 : (.methodLink RX3 25 yX3_known : Cond) ∈ gAll := g_mem 140 rfl rfl
set_option maxRecDepth 20000 in
theorem kw_142 : (.instanceMethod yX3_known : Cond) ∈ gAll := g_mem 142 rfl rfl
set_option maxRecDepth 20000 in
theorem kw_234 : (.methodLink RX3 47 yX3_demandWithin : Cond) ∈ gAll := g_mem 234 rfl rfl
set_option maxRecDepth 20000 in
theorem kw_235 : (.static yX3_demandWithin : Cond) ∈ gAll := g_mem 235 rfl rfl
set_option maxRecDepth 20000 in
theorem kw_267 : (.methodLink RX3 88 yX1_chosenSetting : Cond) ∈ gAll := g_mem 267 rfl rfl
set_option maxRecDepth 20000 in
theorem kw_268 : (.instanceMethod yX1_chosenSetting : Cond) ∈ gAll := g_mem 268 rfl rfl
set_option maxRecDepth 20000 in
theorem kw_269 : (.selects RX1 yX1_chosenSetting yX1_chosenSetting : Cond) ∈ gAll := g_mem 269 rfl rfl
set_option maxRecDepth 20000 in
theorem kw_271 : (.methodLink RX3 92 yX2_pieceAt : Cond) ∈ gAll := g_mem 271 rfl rfl
set_option maxRecDepth 20000 in
theorem kw_272 : (.instanceMethod yX2_pieceAt : Cond) ∈ gAll := g_mem 272 rfl rfl
set_option maxRecDepth 20000 in
theorem kw_273 : (.selects RX2 yX2_pieceAt yX2_pieceAt : Cond) ∈ gAll := g_mem 273 rfl rfl
set_option maxRecDepth 20000 in
theorem kw_275 : (.methodLink RX3 96 yX2_wholeTime : Cond) ∈ gAll := g_mem 275 rfl rfl
set_option maxRecDepth 20000 in
theorem kw_276 : (.instanceMethod yX2_wholeTime : Cond) ∈ gAll := g_mem 276 rfl rfl
set_option maxRecDepth 20000 in
theorem kw_277 : (.selects RX2 yX2_wholeTime yX2_wholeTime : Cond) ∈ gAll := g_mem 277 rfl rfl
set_option maxRecDepth 20000 in
theorem kw_279 : (.methodLink RX2 43 yX2_partsOn : Cond) ∈ gAll := g_mem 279 rfl rfl
set_option maxRecDepth 20000 in
theorem kw_280 : (.instanceMethod yX2_partsOn : Cond) ∈ gAll := g_mem 280 rfl rfl
set_option maxRecDepth 20000 in
theorem kw_281 : (.selects RX2 yX2_partsOn yX2_partsOn : Cond) ∈ gAll := g_mem 281 rfl rfl
set_option maxRecDepth 20000 in
theorem kw_283 : (.methodLink RX2 47 yX2_timeInParts : Cond) ∈ gAll := g_mem 283 rfl rfl
set_option maxRecDepth 20000 in
theorem kw_284 : (.instanceMethod yX2_timeInParts : Cond) ∈ gAll := g_mem 284 rfl rfl
set_option maxRecDepth 20000 in
theorem kw_285 : (.selects RX2 yX2_timeInParts yX2_timeInParts : Cond) ∈ gAll := g_mem 285 rfl rfl
set_option maxRecDepth 20000 in
theorem kw_294 : (.methodLink RX3 100 yX2_startBehind : Cond) ∈ gAll := g_mem 294 rfl rfl
set_option maxRecDepth 20000 in
theorem kw_295 : (.instanceMethod yX2_startBehind : Cond) ∈ gAll := g_mem 295 rfl rfl
set_option maxRecDepth 20000 in
theorem kw_296 : (.selects RX2 yX2_startBehind yX2_startBehind : Cond) ∈ gAll := g_mem 296 rfl rfl
set_option maxRecDepth 20000 in
theorem kw_298 : (.methodLink RX2 31 Lib.Math.min.name : Cond) ∈ gAll := g_mem 298 rfl rfl
set_option maxRecDepth 20000 in
theorem kw_299 : (.static Lib.Math.min.name : Cond) ∈ gAll := g_mem 299 rfl rfl
set_option maxRecDepth 20000 in
theorem kw_300 : (.code Lib.Math.min.name Lib.Math.min.code 2 (some .int) : Cond) ∈ gAll := g_mem 300 rfl rfl
set_option maxRecDepth 20000 in
theorem kw_308 : (.methodLink RX3 103 yX3_demandPair : Cond) ∈ gAll := g_mem 308 rfl rfl
set_option maxRecDepth 20000 in
theorem kw_309 : (.static yX3_demandPair : Cond) ∈ gAll := g_mem 309 rfl rfl
set_option maxRecDepth 20000 in
theorem kw_312 : (.methodLink RX3 106 yX3_firstBroken : Cond) ∈ gAll := g_mem 312 rfl rfl
set_option maxRecDepth 20000 in
theorem kw_313 : (.static yX3_firstBroken : Cond) ∈ gAll := g_mem 313 rfl rfl
set_option maxRecDepth 20000 in
theorem kw_315 : (.methodLink RX3 151 yX3_firstBrokenStretch : Cond) ∈ gAll := g_mem 315 rfl rfl
set_option maxRecDepth 20000 in
theorem kw_316 : (.static yX3_firstBrokenStretch : Cond) ∈ gAll := g_mem 316 rfl rfl
set_option maxRecDepth 20000 in
theorem kw_318 : (.methodLink RX3 158 yX3_stretchEnd : Cond) ∈ gAll := g_mem 318 rfl rfl
set_option maxRecDepth 20000 in
theorem kw_319 : (.static yX3_stretchEnd : Cond) ∈ gAll := g_mem 319 rfl rfl
set_option maxRecDepth 20000 in
theorem kw_321 : (.methodLink RX3 168 Lib.Math.min.name : Cond) ∈ gAll := g_mem 321 rfl rfl
set_option maxRecDepth 20000 in
theorem kw_322 : (.methodLink RX3 154 yX3_isBrokenAt : Cond) ∈ gAll := g_mem 322 rfl rfl
set_option maxRecDepth 20000 in
theorem kw_323 : (.static yX3_isBrokenAt : Cond) ∈ gAll := g_mem 323 rfl rfl
set_option maxRecDepth 20000 in
theorem kw_325 : (.methodLink RX3 138 yX2_isWithin : Cond) ∈ gAll := g_mem 325 rfl rfl
set_option maxRecDepth 20000 in
theorem kw_326 : (.instanceMethod yX2_isWithin : Cond) ∈ gAll := g_mem 326 rfl rfl
set_option maxRecDepth 20000 in
theorem kw_327 : (.selects RX2 yX2_isWithin yX2_isWithin : Cond) ∈ gAll := g_mem 327 rfl rfl
set_option maxRecDepth 20000 in
theorem kw_329 : (.methodLink RX2 51 yX2_pieceAt : Cond) ∈ gAll := g_mem 329 rfl rfl
set_option maxRecDepth 20000 in
theorem kw_330 : (.methodLink RX3 161 yX3_turnIn : Cond) ∈ gAll := g_mem 330 rfl rfl
set_option maxRecDepth 20000 in
theorem kw_331 : (.static yX3_turnIn : Cond) ∈ gAll := g_mem 331 rfl rfl
set_option maxRecDepth 20000 in
theorem kw_340 : (.methodLink RX3 110 yX3_countBroken : Cond) ∈ gAll := g_mem 340 rfl rfl
set_option maxRecDepth 20000 in
theorem kw_341 : (.static yX3_countBroken : Cond) ∈ gAll := g_mem 341 rfl rfl
set_option maxRecDepth 20000 in
theorem kw_343 : (.methodLink RX3 165 yX3_countBrokenIn : Cond) ∈ gAll := g_mem 343 rfl rfl
set_option maxRecDepth 20000 in
theorem kw_344 : (.static yX3_countBrokenIn : Cond) ∈ gAll := g_mem 344 rfl rfl
set_option maxRecDepth 20000 in
theorem kw_392 : (.methodLink RX3 127 yX3_shortCurrent : Cond) ∈ gAll := g_mem 392 rfl rfl
set_option maxRecDepth 20000 in
theorem kw_394 : (.instanceMethod yX3_shortCurrent : Cond) ∈ gAll := g_mem 394 rfl rfl
set_option maxRecDepth 20000 in
theorem kw_396 : (.constantLong RX3 182 5000 : Cond) ∈ gAll := g_mem 396 rfl rfl
set_option maxRecDepth 20000 in
theorem kw_397 : (.constantLong RX3 184 1000 : Cond) ∈ gAll := g_mem 397 rfl rfl
set_option maxRecDepth 20000 in
theorem kw_398 : (.methodLink RX3 186 Lib.MathLoose.min_long.x : Cond) ∈ gAll := g_mem 398 rfl rfl
set_option maxRecDepth 20000 in
theorem kw_399 : (.static Lib.MathLoose.min_long.x : Cond) ∈ gAll := g_mem 399 rfl rfl
set_option maxRecDepth 20000 in
theorem kw_400 : (.code Lib.MathLoose.min_long.x Lib.MathLoose.min_long.code 4 (some .long) : Cond) ∈ gAll := g_mem 400 rfl rfl
set_option maxRecDepth 20000 in
theorem kw_408 : (.constant RX3 133 2147483647 : Cond) ∈ gAll := g_mem 408 rfl rfl
set_option maxRecDepth 20000 in
theorem kw_409 : (.methodLink RX3 134 yX3_quickestOnWay : Cond) ∈ gAll := g_mem 409 rfl rfl
set_option maxRecDepth 20000 in
theorem kw_410 : (.static yX3_quickestOnWay : Cond) ∈ gAll := g_mem 410 rfl rfl
end
section
set_option maxHeartbeats 4000000 in
set_option maxRecDepth 100000 in
theorem c_pieceAt (l : Launch) (D : va_G) (g : Nat → ClassId) (a : Nat) (S : jSet) (I : Int) (hok : sOK S) (hI : 0 ≤ I ∧ I ≤ 5000) : Met l yX2_pieceAt wsX2_pieceAt ({ frames := 0, cells := 0, slots := 0, locals := 0 }) (pu_Pc [.ref a, .int (jI (I))] D vwCl (ty9 g) (fun H => sAt D g a S H)) (pu_Q (some (.int (jI (cPiece S I))))) 0 0 (fun _ => False) := by
  refine Met.ofW (cc := cX2_pieceAt) (maxL := 4) (ret := some .int) (by decide) rfl ?_
  intro p e s m args below meth c s₁ B hml hv
  obtain ⟨rfl, hPic, hK⟩ := hv
  have hx := B.exec
  have hb := B.bytes
  have hr := B.returns
  have hts := atoms_spec (ws := wsX2_pieceAt) B.pre
  have hown : s.vm.findClass RX2 = some m.cls := findClass_of_methodNamed B.named
  have hlocks := B.notSynchronized
  obtain ⟨ac_S, ap_S, al_S, am_S, h1_S, h2_S, h3_S, h4_S, h5_S⟩ := id hPic
  have hn := hok.1
  have hl := lv_entry ([.ref a, .int (jI (I))]) (n := 4) (Nat.le_of_ble_eq_true rfl)
  rw [lg_entry_eq]
  generalize (lg_sl ([.ref a, .int (jI (I))]) ++ List.replicate (4 - (lg_sl ([.ref a, .int (jI (I))])).length) Slot.unset).toArray = ls at hl ⊢
  have hl : lv_has ls 4 [(0, .ref a), (1, .int (jI (I)))] := hl
  refine jv_iconst hx hb dX2_pieceAt_0 ?_
  refine lv_istore_n (lv' := [(2, .int (jI ((-1)))), (0, .ref a), (1, .int (jI (I)))]) hx hb dX2_pieceAt_1 rfl hl (by decide) rfl (fun ls hl => ?_)
  refine jv_iconst hx hb dX2_pieceAt_2 ?_
  refine lv_istore_n (lv' := [(3, .int (jI (0))), (2, .int (jI ((-1)))), (0, .ref a), (1, .int (jI (I)))]) hx hb dX2_pieceAt_3 rfl hl (by decide) rfl (fun ls hl => ?_)
  refine jw_loop (X := Nat) (fun i => sN S - i) (fun i ls => i ≤ sN S ∧ lv_has ls 4 [(0, .ref a), (1, .int (jI (I))), (2, .int (jI (cPc S I i))), (3, .int (jI ((i : Int))))]) ?_ 0 ls ⟨Nat.zero_le _, lv_sub hl [2, 3, 1, 0] rfl⟩
  intro i ls hinv ih
  obtain ⟨hi, hl⟩ := hinv
  refine lv_iload_n hx hb dX2_pieceAt_4 rfl (lv_at hl 3 rfl) ?_
  refine lv_aload_n hx hb dX2_pieceAt_5 rfl (lv_at hl 0 rfl) ?_
  refine va_get (D := D) (ci := 2) (v := .ref ac_S) (C := RX2) (T := TX2) (N := 3) hx hb hts (fun w h => List.mem_cons_of_mem _ (uw_X2 w h)) hown hK (j_P1 h1_S) 0 rfl rfl 0 (by decide) (hts _ (List.mem_cons_of_mem _ kw_71)) (fun _ h9 => h9) rfl dX2_pieceAt_6 ?_
  refine va_get (D := D) (ci := 0) (v := .int (jI ((sN S : Int)))) (C := RX0) (T := TX0) (N := 4) hx hb hts (fun w h => List.mem_cons_of_mem _ (uw_X0 w h)) hown hK (j_P1 h2_S) 0 rfl rfl 3 (by decide) (hts _ (List.mem_cons_of_mem _ kw_52)) (fun _ h9 => h9) rfl dX2_pieceAt_9 ?_
  refine jv_icmp_ge (tgt := 44) hx hb dX2_pieceAt_12 (by decide) (by omega) (by omega) (fun c12 => ?_) (fun c12 => ?_)
  · refine lv_iload_n hx hb dX2_pieceAt_44 rfl (lv_at hl 2 rfl) ?_
    exact pu_iret hx hb hr hlocks dX2_pieceAt_45 (by rw [cPiece, show i = sN S by omega])
  · have f1 := sOK_pl hok (i := i) (by omega)
    refine jv_bipush hx hb dX2_pieceAt_15 (by decide) ?_
    refine lv_iload_n hx hb dX2_pieceAt_17 rfl (lv_at hl 1 rfl) ?_
    refine jv_imul hx hb dX2_pieceAt_18 ?_
    refine lv_aload_n hx hb dX2_pieceAt_19 rfl (lv_at hl 0 rfl) ?_
    refine va_get (D := D) (ci := 2) (v := .int (jI (sS S))) (C := RX2) (T := TX2) (N := 3) hx hb hts (fun w h => List.mem_cons_of_mem _ (uw_X2 w h)) hown hK (j_P1 h1_S) 0 rfl rfl 1 (by decide) (hts _ (List.mem_cons_of_mem _ kw_72)) (fun _ h9 => h9) rfl dX2_pieceAt_20 ?_
    refine lv_aload_n hx hb dX2_pieceAt_23 rfl (lv_at hl 0 rfl) ?_
    refine va_get (D := D) (ci := 2) (v := .ref ac_S) (C := RX2) (T := TX2) (N := 3) hx hb hts (fun w h => List.mem_cons_of_mem _ (uw_X2 w h)) hown hK (j_P1 h1_S) 0 rfl rfl 0 (by decide) (hts _ (List.mem_cons_of_mem _ kw_71)) (fun _ h9 => h9) rfl dX2_pieceAt_24 ?_
    refine va_get (D := D) (ci := 0) (v := .ref ap_S) (C := RX0) (T := TX0) (N := 4) hx hb hts (fun w h => List.mem_cons_of_mem _ (uw_X0 w h)) hown hK (j_P1 h2_S) 0 rfl rfl 0 (by decide) (hts _ (List.mem_cons_of_mem _ kw_45)) (fun _ h9 => h9) rfl dX2_pieceAt_27 ?_
    refine lv_iload_n hx hb dX2_pieceAt_30 rfl (lv_at hl 3 rfl) ?_
    refine jv_iald (i := i) hx hb hK h3_S 0 rfl (by omega) (by omega) (by decide) dX2_pieceAt_31 ?_
    refine jv_imul hx hb dX2_pieceAt_32 ?_
    refine jv_icmp_lt (tgt := 38) hx hb dX2_pieceAt_33 (by decide) (by omega) (by omega) (fun c33 => ?_) (fun c33 => ?_)
    · refine lv_iinc (v := jI ((i : Int) + 1)) (lv' := [(3, .int (jI ((i : Int) + 1))), (0, .ref a), (1, .int (jI (I))), (2, .int (jI (cPc S I i)))]) hx hb dX2_pieceAt_38 hl (k := 3) rfl (jI_add _ _) (by decide) rfl (fun ls hl => ?_)
      refine lv_goto (tgt := 4) hx hb dX2_pieceAt_41 (by decide) ?_
      have e9 : cPc S I (i + 1) = cPc S I i := by simp only [cPc]; rw [if_neg (by omega)]
      exact ih (i + 1) ls ⟨by omega, by rw [e9]; exact lv_sub hl [1, 2, 3, 0] rfl⟩ (by omega)
    · refine lv_iload_n hx hb dX2_pieceAt_36 rfl (lv_at hl 3 rfl) ?_
      refine lv_istore_n (lv' := [(2, .int (jI ((i : Int)))), (0, .ref a), (1, .int (jI (I))), (3, .int (jI ((i : Int))))]) hx hb dX2_pieceAt_37 rfl hl (by decide) rfl (fun ls hl => ?_)
      refine lv_iinc (v := jI ((i : Int) + 1)) (lv' := [(3, .int (jI ((i : Int) + 1))), (2, .int (jI ((i : Int)))), (0, .ref a), (1, .int (jI (I)))]) hx hb dX2_pieceAt_38 hl (k := 3) rfl (jI_add _ _) (by decide) rfl (fun ls hl => ?_)
      refine lv_goto (tgt := 4) hx hb dX2_pieceAt_41 (by decide) ?_
      have e9 : cPc S I (i + 1) = (i : Int) := by simp only [cPc]; rw [if_pos (by omega)]
      exact ih (i + 1) ls ⟨by omega, by rw [e9]; exact lv_sub hl [2, 3, 1, 0] rfl⟩ (by omega)
set_option maxHeartbeats 4000000 in
set_option maxRecDepth 100000 in
theorem c_startBehind (l : Launch) (D : va_G) (g : Nat → ClassId) (a : Nat) (S : jSet) (I : Int) (hok : sOK S) (hI : 0 ≤ I ∧ I ≤ 5000) : Met l yX2_startBehind wsX2_startBehind ({ frames := 1, cells := 0, slots := 0, locals := 21 }) (pu_Pc [.ref a, .int (jI (I))] D vwCl (ty9 g) (fun H => sAt D g a S H)) (pu_Q (some (.int (jI (cStart S I))))) 0 0 (fun _ => False) := by
  refine Met.ofW (cc := cX2_startBehind) (maxL := 4) (ret := some .int) (by decide) rfl ?_
  intro p e s m args below meth c s₁ B hml hv
  obtain ⟨rfl, hPic, hK⟩ := hv
  have hx := B.exec
  have hb := B.bytes
  have hr := B.returns
  have hts := atoms_spec (ws := wsX2_startBehind) B.pre
  have hown : s.vm.findClass RX2 = some m.cls := findClass_of_methodNamed B.named
  have hlocks := B.notSynchronized
  obtain ⟨ac_S, ap_S, al_S, am_S, h1_S, h2_S, h3_S, h4_S, h5_S⟩ := id hPic
  have hn := hok.1
  have hl := lv_entry ([.ref a, .int (jI (I))]) (n := 4) (Nat.le_of_ble_eq_true rfl)
  rw [lg_entry_eq]
  generalize (lg_sl ([.ref a, .int (jI (I))]) ++ List.replicate (4 - (lg_sl ([.ref a, .int (jI (I))])).length) Slot.unset).toArray = ls at hl ⊢
  have hl : lv_has ls 4 [(0, .ref a), (1, .int (jI (I)))] := hl
  refine jv_iconst hx hb dX2_startBehind_0 ?_
  refine lv_istore_n (lv' := [(2, .int (jI (0))), (0, .ref a), (1, .int (jI (I)))]) hx hb dX2_startBehind_1 rfl hl (by decide) rfl (fun ls hl => ?_)
  refine jw_loop (X := Nat) (fun i => sN S - i) (fun i ls => (i ≤ sN S ∧ cStart S I = cSb S I (sN S - i) i) ∧ lv_has ls 4 [(0, .ref a), (1, .int (jI (I))), (2, .int (jI ((i : Int))))]) ?_ 0 ls ⟨⟨Nat.zero_le _, rfl⟩, lv_sub hl [1, 2, 0] rfl⟩
  intro i ls hinv ih
  obtain ⟨⟨hi, he⟩, hl⟩ := hinv
  refine lv_iload_n hx hb dX2_startBehind_2 rfl (lv_at hl 2 rfl) ?_
  refine lv_aload_n hx hb dX2_startBehind_3 rfl (lv_at hl 0 rfl) ?_
  refine va_get (D := D) (ci := 2) (v := .ref ac_S) (C := RX2) (T := TX2) (N := 3) hx hb hts (fun w h => List.mem_cons_of_mem _ (uw_X2 w h)) hown hK (j_P1 h1_S) 0 rfl rfl 0 (by decide) (hts _ (List.mem_cons_of_mem _ kw_71)) (fun _ h9 => h9) rfl dX2_startBehind_4 ?_
  refine va_get (D := D) (ci := 0) (v := .int (jI ((sN S : Int)))) (C := RX0) (T := TX0) (N := 4) hx hb hts (fun w h => List.mem_cons_of_mem _ (uw_X0 w h)) hown hK (j_P1 h2_S) 0 rfl rfl 3 (by decide) (hts _ (List.mem_cons_of_mem _ kw_52)) (fun _ h9 => h9) rfl dX2_startBehind_7 ?_
  refine jv_icmp_ge (tgt := 55) hx hb dX2_startBehind_10 (by decide) (by omega) (by omega) (fun c10 => ?_) (fun c10 => ?_)
  · refine jv_sipush hx hb dX2_startBehind_55 (by decide) ?_
    exact pu_iret hx hb hr hlocks dX2_startBehind_58 (by rw [he, show sN S - i = 0 by omega]; rfl)
  · have f1 := sOK_pl hok (i := i) (by omega)
    refine lv_aload_n hx hb dX2_startBehind_13 rfl (lv_at hl 0 rfl) ?_
    refine va_get (D := D) (ci := 2) (v := .int (jI (sS S))) (C := RX2) (T := TX2) (N := 3) hx hb hts (fun w h => List.mem_cons_of_mem _ (uw_X2 w h)) hown hK (j_P1 h1_S) 0 rfl rfl 1 (by decide) (hts _ (List.mem_cons_of_mem _ kw_72)) (fun _ h9 => h9) rfl dX2_startBehind_14 ?_
    refine lv_aload_n hx hb dX2_startBehind_17 rfl (lv_at hl 0 rfl) ?_
    refine va_get (D := D) (ci := 2) (v := .ref ac_S) (C := RX2) (T := TX2) (N := 3) hx hb hts (fun w h => List.mem_cons_of_mem _ (uw_X2 w h)) hown hK (j_P1 h1_S) 0 rfl rfl 0 (by decide) (hts _ (List.mem_cons_of_mem _ kw_71)) (fun _ h9 => h9) rfl dX2_startBehind_18 ?_
    refine va_get (D := D) (ci := 0) (v := .ref ap_S) (C := RX0) (T := TX0) (N := 4) hx hb hts (fun w h => List.mem_cons_of_mem _ (uw_X0 w h)) hown hK (j_P1 h2_S) 0 rfl rfl 0 (by decide) (hts _ (List.mem_cons_of_mem _ kw_45)) (fun _ h9 => h9) rfl dX2_startBehind_21 ?_
    refine lv_iload_n hx hb dX2_startBehind_24 rfl (lv_at hl 2 rfl) ?_
    refine jv_iald (i := i) hx hb hK h3_S 0 rfl (by omega) (by omega) (by decide) dX2_startBehind_25 ?_
    refine jv_imul hx hb dX2_startBehind_26 ?_
    refine jv_bipush hx hb dX2_startBehind_27 (by decide) ?_
    refine jv_iadd hx hb dX2_startBehind_29 ?_
    refine jv_iconst hx hb dX2_startBehind_30 ?_
    refine jv_isub hx hb dX2_startBehind_31 ?_
    refine jv_bipush hx hb dX2_startBehind_32 (by decide) ?_
    refine jv_idiv hx hb dX2_startBehind_34 (by omega) (by omega) ?_
    refine lv_istore_n (lv' := [(3, .int (jI (((((sS S) * (sP S i)) + 100) - 1) / 100))), (0, .ref a), (1, .int (jI (I))), (2, .int (jI ((i : Int))))]) hx hb dX2_startBehind_35 rfl hl (by decide) rfl (fun ls hl => ?_)
    refine lv_iload_n hx hb dX2_startBehind_36 rfl (lv_at hl 0 rfl) ?_
    refine lv_iload_n hx hb dX2_startBehind_37 rfl (lv_at hl 2 rfl) ?_
    refine jv_icmp_le (tgt := 49) hx hb dX2_startBehind_38 (by decide) (by omega) (by omega) (fun c38 => ?_) (fun c38 => ?_)
    · refine lv_iinc (v := jI ((i : Int) + 1)) (lv' := [(2, .int (jI ((i : Int) + 1))), (3, .int (jI (((((sS S) * (sP S i)) + 100) - 1) / 100))), (0, .ref a), (1, .int (jI (I)))]) hx hb dX2_startBehind_49 hl (k := 3) rfl (jI_add _ _) (by decide) rfl (fun ls hl => ?_)
      refine lv_goto (tgt := 2) hx hb dX2_startBehind_52 (by decide) ?_
      exact ih (i + 1) ls ⟨⟨by omega, by rw [he, show sN S - i = (sN S - (i + 1)) + 1 by omega]; simp only [cSb]; rw [if_neg (by unfold cSt; omega)]⟩, lv_sub hl [2, 3, 0] rfl⟩ (by omega)
    · refine lv_iload_n hx hb dX2_startBehind_41 rfl (lv_at hl 0 rfl) ?_
      refine jv_sipush hx hb dX2_startBehind_42 (by decide) ?_
      refine va_mmin hx hb (hml.trans hl.1.symm) hown (hts _ (List.mem_cons_of_mem _ kw_298)) (hts _ (List.mem_cons_of_mem _ kw_299)) (hts _ (List.mem_cons_of_mem _ kw_22)) (hts _ (List.mem_cons_of_mem _ kw_300)) (Nat.le_of_ble_eq_true rfl) (Nat.le_of_ble_eq_true rfl) (Nat.zero_le _) (Nat.zero_le _) dX2_startBehind_45 ?_
      rw [jI_min (by omega) (by omega)]
      exact pu_iret hx hb hr hlocks dX2_startBehind_48 (by rw [he, show sN S - i = (sN S - (i + 1)) + 1 by omega]; simp only [cSb]; rw [if_pos (by unfold cSt; omega)]; rfl)
set_option maxHeartbeats 4000000 in
set_option maxRecDepth 100000 in
theorem c_partsOn (l : Launch) (D : va_G) (g : Nat → ClassId) (a : Nat) (S : jSet) (q : Int) (hok : sOK S) (hq : -1 ≤ q ∧ q < sN S) : Met l yX2_partsOn wsX2_partsOn ({ frames := 0, cells := 0, slots := 0, locals := 0 }) (pu_Pc [.ref a, .int (jI (q))] D vwCl (ty9 g) (fun H => sAt D g a S H)) (pu_Q (some (.long (jL (cParts S q))))) 0 0 (fun _ => False) := by
  refine Met.ofW (cc := cX2_partsOn) (maxL := 2) (ret := some .long) (by decide) rfl ?_
  intro p e s m args below meth c s₁ B hml hv
  obtain ⟨rfl, hPic, hK⟩ := hv
  have hx := B.exec
  have hb := B.bytes
  have hr := B.returns
  have hts := atoms_spec (ws := wsX2_partsOn) B.pre
  have hown : s.vm.findClass RX2 = some m.cls := findClass_of_methodNamed B.named
  have hlocks := B.notSynchronized
  obtain ⟨ac_S, ap_S, al_S, am_S, h1_S, h2_S, h3_S, h4_S, h5_S⟩ := id hPic
  have hn := hok.1
  have hs := hok.2.2.2.2.1
  have hl := lv_entry ([.ref a, .int (jI (q))]) (n := 2) (Nat.le_of_ble_eq_true rfl)
  rw [lg_entry_eq]
  generalize (lg_sl ([.ref a, .int (jI (q))]) ++ List.replicate (2 - (lg_sl ([.ref a, .int (jI (q))])).length) Slot.unset).toArray = ls at hl ⊢
  have hl : lv_has ls 2 [(0, .ref a), (1, .int (jI (q)))] := hl
  refine lv_iload_n hx hb dX2_partsOn_0 rfl (lv_at hl 1 rfl) ?_
  refine jv_if_lt (tgt := 17) hx hb dX2_partsOn_1 (by decide) (by omega) (fun c1 => ?_) (fun c1 => ?_)
  · refine jv_lconst (k := 1) hx hb dX2_partsOn_17 (by decide) ?_
    exact pu_lret hx hb hr hlocks dX2_partsOn_18 (by rw [cParts, if_pos (by omega)])
  · refine lv_iload_n hx hb dX2_partsOn_4 rfl (lv_at hl 1 rfl) ?_
    refine jv_iconst hx hb dX2_partsOn_5 ?_
    refine jv_iadd hx hb dX2_partsOn_6 ?_
    refine lv_aload_n hx hb dX2_partsOn_7 rfl (lv_at hl 0 rfl) ?_
    refine va_get (D := D) (ci := 2) (v := .ref ac_S) (C := RX2) (T := TX2) (N := 3) hx hb hts (fun w h => List.mem_cons_of_mem _ (uw_X2 w h)) hown hK (j_P1 h1_S) 0 rfl rfl 0 (by decide) (hts _ (List.mem_cons_of_mem _ kw_71)) (fun _ h9 => h9) rfl dX2_partsOn_8 ?_
    refine va_get (D := D) (ci := 0) (v := .int (jI ((sN S : Int)))) (C := RX0) (T := TX0) (N := 4) hx hb hts (fun w h => List.mem_cons_of_mem _ (uw_X0 w h)) hown hK (j_P1 h2_S) 0 rfl rfl 3 (by decide) (hts _ (List.mem_cons_of_mem _ kw_52)) (fun _ h9 => h9) rfl dX2_partsOn_11 ?_
    refine jv_icmp_lt (tgt := 19) hx hb dX2_partsOn_14 (by decide) (by omega) (by omega) (fun c14 => ?_) (fun c14 => ?_)
    · have f1 := hok.2.1 q.toNat (by omega)
      have f2 := hok.2.1 (q.toNat + 1) (by omega)
      refine lv_aload_n hx hb dX2_partsOn_19 rfl (lv_at hl 0 rfl) ?_
      refine va_get (D := D) (ci := 2) (v := .int (jI (sS S))) (C := RX2) (T := TX2) (N := 3) hx hb hts (fun w h => List.mem_cons_of_mem _ (uw_X2 w h)) hown hK (j_P1 h1_S) 0 rfl rfl 1 (by decide) (hts _ (List.mem_cons_of_mem _ kw_72)) (fun _ h9 => h9) rfl dX2_partsOn_20 ?_
      refine jv_i2l hx hb dX2_partsOn_23 (by omega) ?_
      refine lv_aload_n hx hb dX2_partsOn_24 rfl (lv_at hl 0 rfl) ?_
      refine va_get (D := D) (ci := 2) (v := .ref ac_S) (C := RX2) (T := TX2) (N := 3) hx hb hts (fun w h => List.mem_cons_of_mem _ (uw_X2 w h)) hown hK (j_P1 h1_S) 0 rfl rfl 0 (by decide) (hts _ (List.mem_cons_of_mem _ kw_71)) (fun _ h9 => h9) rfl dX2_partsOn_25 ?_
      refine va_get (D := D) (ci := 0) (v := .ref ap_S) (C := RX0) (T := TX0) (N := 4) hx hb hts (fun w h => List.mem_cons_of_mem _ (uw_X0 w h)) hown hK (j_P1 h2_S) 0 rfl rfl 0 (by decide) (hts _ (List.mem_cons_of_mem _ kw_45)) (fun _ h9 => h9) rfl dX2_partsOn_28 ?_
      refine lv_iload_n hx hb dX2_partsOn_31 rfl (lv_at hl 1 rfl) ?_
      refine jv_iconst hx hb dX2_partsOn_32 ?_
      refine jv_iadd hx hb dX2_partsOn_33 ?_
      refine jv_iald (i := (q.toNat + 1)) hx hb hK h3_S 0 rfl (by omega) (by omega) (by decide) dX2_partsOn_34 ?_
      refine lv_aload_n hx hb dX2_partsOn_35 rfl (lv_at hl 0 rfl) ?_
      refine va_get (D := D) (ci := 2) (v := .ref ac_S) (C := RX2) (T := TX2) (N := 3) hx hb hts (fun w h => List.mem_cons_of_mem _ (uw_X2 w h)) hown hK (j_P1 h1_S) 0 rfl rfl 0 (by decide) (hts _ (List.mem_cons_of_mem _ kw_71)) (fun _ h9 => h9) rfl dX2_partsOn_36 ?_
      refine va_get (D := D) (ci := 0) (v := .ref ap_S) (C := RX0) (T := TX0) (N := 4) hx hb hts (fun w h => List.mem_cons_of_mem _ (uw_X0 w h)) hown hK (j_P1 h2_S) 0 rfl rfl 0 (by decide) (hts _ (List.mem_cons_of_mem _ kw_45)) (fun _ h9 => h9) rfl dX2_partsOn_39 ?_
      refine lv_iload_n hx hb dX2_partsOn_42 rfl (lv_at hl 1 rfl) ?_
      refine jv_iald (i := q.toNat) hx hb hK h3_S 0 rfl (by omega) (by omega) (by decide) dX2_partsOn_43 ?_
      refine jv_isub hx hb dX2_partsOn_44 ?_
      refine jv_i2l hx hb dX2_partsOn_45 (by omega) ?_
      refine jv_lmul hx hb dX2_partsOn_46 ?_
      exact pu_lret hx hb hr hlocks dX2_partsOn_47 (by rw [cParts, if_neg (by omega)])
    · refine jv_lconst (k := 1) hx hb dX2_partsOn_17 (by decide) ?_
      exact pu_lret hx hb hr hlocks dX2_partsOn_18 (by rw [cParts, if_pos (by omega)])
set_option maxHeartbeats 4000000 in
set_option maxRecDepth 100000 in
theorem c_timeInParts (l : Launch) (D : va_G) (g : Nat → ClassId) (a : Nat) (S : jSet) (q r I : Int) (mo : Bool) (hok : sOK S) (hq : 0 ≤ q ∧ q < sN S) (hI : 0 ≤ I ∧ I ≤ 5000) : Met l yX2_timeInParts wsX2_timeInParts ({ frames := 0, cells := 0, slots := 0, locals := 0 }) (pu_Pc [.ref a, .int (jI (q)), .long (jL (r)), .int (jI (I)), .int (jI (bI mo))] D vwCl (ty9 g) (fun H => sAt D g a S H)) (pu_Q (some (.long (jL (cTime S mo q r I))))) 0 0 (fun _ => False) := by
  refine Met.ofW (cc := cX2_timeInParts) (maxL := 11) (ret := some .long) (by decide) rfl ?_
  intro p e s m args below meth c s₁ B hml hv
  obtain ⟨rfl, hPic, hK⟩ := hv
  have hx := B.exec
  have hb := B.bytes
  have hr := B.returns
  have hts := atoms_spec (ws := wsX2_timeInParts) B.pre
  have hown : s.vm.findClass RX2 = some m.cls := findClass_of_methodNamed B.named
  have hlocks := B.notSynchronized
  obtain ⟨ac_S, ap_S, al_S, am_S, h1_S, h2_S, h3_S, h4_S, h5_S⟩ := id hPic
  have hn := hok.1
  have hs := hok.2.2.2.2.1
  have hd := hok.2.2.2.2.2
  have f1 := hok.2.2.1 q.toNat mo (by omega)
  have f3 := sOK_pl hok (i := q.toNat) (by omega)
  have hl := lv_entry ([.ref a, .int (jI (q)), .long (jL (r)), .int (jI (I)), .int (jI (bI mo))]) (n := 11) (Nat.le_of_ble_eq_true rfl)
  rw [lg_entry_eq]
  generalize (lg_sl ([.ref a, .int (jI (q)), .long (jL (r)), .int (jI (I)), .int (jI (bI mo))]) ++ List.replicate (11 - (lg_sl ([.ref a, .int (jI (q)), .long (jL (r)), .int (jI (I)), .int (jI (bI mo))])).length) Slot.unset).toArray = ls at hl ⊢
  have hl : lv_has ls 11 [(0, .ref a), (1, .int (jI (q))), (2, .long (jL (r))), (4, .int (jI (I))), (5, .int (jI (bI mo)))] := hl
  cases mo
  · refine lv_iload hx hb dX2_timeInParts_0 (lv_at hl 4 rfl) ?_
    refine jv_if_eq (tgt := 15) hx hb dX2_timeInParts_2 (by decide) (by decide) (fun c2 => ?_) (fun c2 => ?_)
    · refine lv_aload_n hx hb dX2_timeInParts_15 rfl (lv_at hl 0 rfl) ?_
      refine va_get (D := D) (ci := 2) (v := .ref ac_S) (C := RX2) (T := TX2) (N := 3) hx hb hts (fun w h => List.mem_cons_of_mem _ (uw_X2 w h)) hown hK (j_P1 h1_S) 0 rfl rfl 0 (by decide) (hts _ (List.mem_cons_of_mem _ kw_71)) (fun _ h9 => h9) rfl dX2_timeInParts_16 ?_
      refine va_get (D := D) (ci := 0) (v := .ref al_S) (C := RX0) (T := TX0) (N := 4) hx hb hts (fun w h => List.mem_cons_of_mem _ (uw_X0 w h)) hown hK (j_P1 h2_S) 0 rfl rfl 1 (by decide) (hts _ (List.mem_cons_of_mem _ kw_48)) (fun _ h9 => h9) rfl dX2_timeInParts_19 ?_
      refine lv_astore (lv' := [(6, .ref al_S), (0, .ref a), (1, .int (jI (q))), (2, .long (jL (r))), (4, .int (jI (I))), (5, .int (jI (bI false)))]) hx hb dX2_timeInParts_22 hl (by decide) rfl (fun ls hl => ?_)
      refine lv_aload hx hb dX2_timeInParts_24 (lv_at hl 0 rfl) ?_
      refine lv_iload_n hx hb dX2_timeInParts_26 rfl (lv_at hl 2 rfl) ?_
      refine jv_iald (i := q.toNat) hx hb hK h4_S 0 rfl (by omega) (by omega) (by decide) dX2_timeInParts_27 ?_
      refine lv_aload_n hx hb dX2_timeInParts_28 rfl (lv_at hl 1 rfl) ?_
      refine va_get (D := D) (ci := 2) (v := .int (jI (sD S))) (C := RX2) (T := TX2) (N := 3) hx hb hts (fun w h => List.mem_cons_of_mem _ (uw_X2 w h)) hown hK (j_P1 h1_S) 0 rfl rfl 2 (by decide) (hts _ (List.mem_cons_of_mem _ kw_74)) (fun _ h9 => h9) rfl dX2_timeInParts_29 ?_
      refine jv_iadd hx hb dX2_timeInParts_32 ?_
      refine jv_i2l hx hb dX2_timeInParts_33 (by omega) ?_
      refine lv_lload_n hx hb dX2_timeInParts_34 rfl (lv_at hl 3 rfl) ?_
      refine jv_lmul hx hb dX2_timeInParts_35 ?_
      refine lv_lstore (lv' := [(7, .long (jL (((sT S false q.toNat) + (sD S)) * r))), (6, .ref al_S), (0, .ref a), (1, .int (jI (q))), (2, .long (jL (r))), (4, .int (jI (I))), (5, .int (jI (bI false)))]) hx hb dX2_timeInParts_36 hl (by decide) rfl (fun ls hl => ?_)
      refine lv_iload_n hx hb dX2_timeInParts_38 rfl (lv_at hl 3 rfl) ?_
      refine jv_iconst hx hb dX2_timeInParts_39 ?_
      refine jv_iadd hx hb dX2_timeInParts_40 ?_
      refine lv_aload_n hx hb dX2_timeInParts_41 rfl (lv_at hl 2 rfl) ?_
      refine va_get (D := D) (ci := 2) (v := .ref ac_S) (C := RX2) (T := TX2) (N := 3) hx hb hts (fun w h => List.mem_cons_of_mem _ (uw_X2 w h)) hown hK (j_P1 h1_S) 0 rfl rfl 0 (by decide) (hts _ (List.mem_cons_of_mem _ kw_71)) (fun _ h9 => h9) rfl dX2_timeInParts_42 ?_
      refine va_get (D := D) (ci := 0) (v := .int (jI ((sN S : Int)))) (C := RX0) (T := TX0) (N := 4) hx hb hts (fun w h => List.mem_cons_of_mem _ (uw_X0 w h)) hown hK (j_P1 h2_S) 0 rfl rfl 3 (by decide) (hts _ (List.mem_cons_of_mem _ kw_52)) (fun _ h9 => h9) rfl dX2_timeInParts_45 ?_
      refine jv_icmp_lt (tgt := 54) hx hb dX2_timeInParts_48 (by decide) (by omega) (by omega) (fun c48 => ?_) (fun c48 => ?_)
      · have f4 := hok.2.2.1 (q.toNat + 1) false (by omega)
        refine lv_aload hx hb dX2_timeInParts_54 (lv_at hl 1 rfl) ?_
        refine lv_iload_n hx hb dX2_timeInParts_56 rfl (lv_at hl 3 rfl) ?_
        refine jv_iconst hx hb dX2_timeInParts_57 ?_
        refine jv_iadd hx hb dX2_timeInParts_58 ?_
        refine jv_iald (i := (q.toNat + 1)) hx hb hK h4_S 0 rfl (by omega) (by omega) (by decide) dX2_timeInParts_59 ?_
        refine lv_aload hx hb dX2_timeInParts_60 (lv_at hl 1 rfl) ?_
        refine lv_iload_n hx hb dX2_timeInParts_62 rfl (lv_at hl 3 rfl) ?_
        refine jv_iald (i := q.toNat) hx hb hK h4_S 0 rfl (by omega) (by omega) (by decide) dX2_timeInParts_63 ?_
        refine jv_isub hx hb dX2_timeInParts_64 ?_
        refine jv_i2l hx hb dX2_timeInParts_65 (by omega) ?_
        refine lv_lstore (lv' := [(9, .long (jL ((sT S false (q.toNat + 1)) - (sT S false q.toNat)))), (7, .long (jL (((sT S false q.toNat) + (sD S)) * r))), (6, .ref al_S), (0, .ref a), (1, .int (jI (q))), (2, .long (jL (r))), (4, .int (jI (I))), (5, .int (jI (bI false)))]) hx hb dX2_timeInParts_66 hl (by decide) rfl (fun ls hl => ?_)
        refine lv_lload hx hb dX2_timeInParts_68 (lv_at hl 1 rfl) ?_
        refine lv_lload hx hb dX2_timeInParts_70 (lv_at hl 0 rfl) ?_
        refine jv_bipush hx hb dX2_timeInParts_72 (by decide) ?_
        refine lv_iload hx hb dX2_timeInParts_74 (lv_at hl 6 rfl) ?_
        refine jv_imul hx hb dX2_timeInParts_76 ?_
        refine lv_aload_n hx hb dX2_timeInParts_77 rfl (lv_at hl 3 rfl) ?_
        refine va_get (D := D) (ci := 2) (v := .int (jI (sS S))) (C := RX2) (T := TX2) (N := 3) hx hb hts (fun w h => List.mem_cons_of_mem _ (uw_X2 w h)) hown hK (j_P1 h1_S) 0 rfl rfl 1 (by decide) (hts _ (List.mem_cons_of_mem _ kw_72)) (fun _ h9 => h9) rfl dX2_timeInParts_78 ?_
        refine lv_aload_n hx hb dX2_timeInParts_81 rfl (lv_at hl 3 rfl) ?_
        refine va_get (D := D) (ci := 2) (v := .ref ac_S) (C := RX2) (T := TX2) (N := 3) hx hb hts (fun w h => List.mem_cons_of_mem _ (uw_X2 w h)) hown hK (j_P1 h1_S) 0 rfl rfl 0 (by decide) (hts _ (List.mem_cons_of_mem _ kw_71)) (fun _ h9 => h9) rfl dX2_timeInParts_82 ?_
        refine va_get (D := D) (ci := 0) (v := .ref ap_S) (C := RX0) (T := TX0) (N := 4) hx hb hts (fun w h => List.mem_cons_of_mem _ (uw_X0 w h)) hown hK (j_P1 h2_S) 0 rfl rfl 0 (by decide) (hts _ (List.mem_cons_of_mem _ kw_45)) (fun _ h9 => h9) rfl dX2_timeInParts_85 ?_
        refine lv_iload_n hx hb dX2_timeInParts_88 rfl (lv_at hl 4 rfl) ?_
        refine jv_iald (i := q.toNat) hx hb hK h3_S 0 rfl (by omega) (by omega) (by decide) dX2_timeInParts_89 ?_
        refine jv_imul hx hb dX2_timeInParts_90 ?_
        refine jv_isub hx hb dX2_timeInParts_91 ?_
        refine jv_i2l hx hb dX2_timeInParts_92 (by omega) ?_
        refine jv_lmul hx hb dX2_timeInParts_93 ?_
        refine jv_ladd hx hb dX2_timeInParts_94 ?_
        exact pu_lret hx hb hr hlocks dX2_timeInParts_95 (by rw [cTime, if_neg (by omega)])
      · refine lv_lload hx hb dX2_timeInParts_51 (lv_at hl 0 rfl) ?_
        exact pu_lret hx hb hr hlocks dX2_timeInParts_53 (by rw [cTime, if_pos (by omega)])
    · exact absurd c2 (by decide)
  · refine lv_iload hx hb dX2_timeInParts_0 (lv_at hl 4 rfl) ?_
    refine jv_if_eq (tgt := 15) hx hb dX2_timeInParts_2 (by decide) (by decide) (fun c2 => ?_) (fun c2 => ?_)
    · exact absurd c2 (by decide)
    · refine lv_aload_n hx hb dX2_timeInParts_5 rfl (lv_at hl 0 rfl) ?_
      refine va_get (D := D) (ci := 2) (v := .ref ac_S) (C := RX2) (T := TX2) (N := 3) hx hb hts (fun w h => List.mem_cons_of_mem _ (uw_X2 w h)) hown hK (j_P1 h1_S) 0 rfl rfl 0 (by decide) (hts _ (List.mem_cons_of_mem _ kw_71)) (fun _ h9 => h9) rfl dX2_timeInParts_6 ?_
      refine va_get (D := D) (ci := 0) (v := .ref am_S) (C := RX0) (T := TX0) (N := 4) hx hb hts (fun w h => List.mem_cons_of_mem _ (uw_X0 w h)) hown hK (j_P1 h2_S) 0 rfl rfl 2 (by decide) (hts _ (List.mem_cons_of_mem _ kw_50)) (fun _ h9 => h9) rfl dX2_timeInParts_9 ?_
      refine lv_goto (tgt := 22) hx hb dX2_timeInParts_12 (by decide) ?_
      refine lv_astore (lv' := [(6, .ref am_S), (0, .ref a), (1, .int (jI (q))), (2, .long (jL (r))), (4, .int (jI (I))), (5, .int (jI (bI true)))]) hx hb dX2_timeInParts_22 hl (by decide) rfl (fun ls hl => ?_)
      refine lv_aload hx hb dX2_timeInParts_24 (lv_at hl 0 rfl) ?_
      refine lv_iload_n hx hb dX2_timeInParts_26 rfl (lv_at hl 2 rfl) ?_
      refine jv_iald (i := q.toNat) hx hb hK h5_S 0 rfl (by omega) (by omega) (by decide) dX2_timeInParts_27 ?_
      refine lv_aload_n hx hb dX2_timeInParts_28 rfl (lv_at hl 1 rfl) ?_
      refine va_get (D := D) (ci := 2) (v := .int (jI (sD S))) (C := RX2) (T := TX2) (N := 3) hx hb hts (fun w h => List.mem_cons_of_mem _ (uw_X2 w h)) hown hK (j_P1 h1_S) 0 rfl rfl 2 (by decide) (hts _ (List.mem_cons_of_mem _ kw_74)) (fun _ h9 => h9) rfl dX2_timeInParts_29 ?_
      refine jv_iadd hx hb dX2_timeInParts_32 ?_
      refine jv_i2l hx hb dX2_timeInParts_33 (by omega) ?_
      refine lv_lload_n hx hb dX2_timeInParts_34 rfl (lv_at hl 3 rfl) ?_
      refine jv_lmul hx hb dX2_timeInParts_35 ?_
      refine lv_lstore (lv' := [(7, .long (jL (((sT S true q.toNat) + (sD S)) * r))), (6, .ref am_S), (0, .ref a), (1, .int (jI (q))), (2, .long (jL (r))), (4, .int (jI (I))), (5, .int (jI (bI true)))]) hx hb dX2_timeInParts_36 hl (by decide) rfl (fun ls hl => ?_)
      refine lv_iload_n hx hb dX2_timeInParts_38 rfl (lv_at hl 3 rfl) ?_
      refine jv_iconst hx hb dX2_timeInParts_39 ?_
      refine jv_iadd hx hb dX2_timeInParts_40 ?_
      refine lv_aload_n hx hb dX2_timeInParts_41 rfl (lv_at hl 2 rfl) ?_
      refine va_get (D := D) (ci := 2) (v := .ref ac_S) (C := RX2) (T := TX2) (N := 3) hx hb hts (fun w h => List.mem_cons_of_mem _ (uw_X2 w h)) hown hK (j_P1 h1_S) 0 rfl rfl 0 (by decide) (hts _ (List.mem_cons_of_mem _ kw_71)) (fun _ h9 => h9) rfl dX2_timeInParts_42 ?_
      refine va_get (D := D) (ci := 0) (v := .int (jI ((sN S : Int)))) (C := RX0) (T := TX0) (N := 4) hx hb hts (fun w h => List.mem_cons_of_mem _ (uw_X0 w h)) hown hK (j_P1 h2_S) 0 rfl rfl 3 (by decide) (hts _ (List.mem_cons_of_mem _ kw_52)) (fun _ h9 => h9) rfl dX2_timeInParts_45 ?_
      refine jv_icmp_lt (tgt := 54) hx hb dX2_timeInParts_48 (by decide) (by omega) (by omega) (fun c48 => ?_) (fun c48 => ?_)
      · have f4 := hok.2.2.1 (q.toNat + 1) true (by omega)
        refine lv_aload hx hb dX2_timeInParts_54 (lv_at hl 1 rfl) ?_
        refine lv_iload_n hx hb dX2_timeInParts_56 rfl (lv_at hl 3 rfl) ?_
        refine jv_iconst hx hb dX2_timeInParts_57 ?_
        refine jv_iadd hx hb dX2_timeInParts_58 ?_
        refine jv_iald (i := (q.toNat + 1)) hx hb hK h5_S 0 rfl (by omega) (by omega) (by decide) dX2_timeInParts_59 ?_
        refine lv_aload hx hb dX2_timeInParts_60 (lv_at hl 1 rfl) ?_
        refine lv_iload_n hx hb dX2_timeInParts_62 rfl (lv_at hl 3 rfl) ?_
        refine jv_iald (i := q.toNat) hx hb hK h5_S 0 rfl (by omega) (by omega) (by decide) dX2_timeInParts_63 ?_
        refine jv_isub hx hb dX2_timeInParts_64 ?_
        refine jv_i2l hx hb dX2_timeInParts_65 (by omega) ?_
        refine lv_lstore (lv' := [(9, .long (jL ((sT S true (q.toNat + 1)) - (sT S true q.toNat)))), (7, .long (jL (((sT S true q.toNat) + (sD S)) * r))), (6, .ref am_S), (0, .ref a), (1, .int (jI (q))), (2, .long (jL (r))), (4, .int (jI (I))), (5, .int (jI (bI true)))]) hx hb dX2_timeInParts_66 hl (by decide) rfl (fun ls hl => ?_)
        refine lv_lload hx hb dX2_timeInParts_68 (lv_at hl 1 rfl) ?_
        refine lv_lload hx hb dX2_timeInParts_70 (lv_at hl 0 rfl) ?_
        refine jv_bipush hx hb dX2_timeInParts_72 (by decide) ?_
        refine lv_iload hx hb dX2_timeInParts_74 (lv_at hl 6 rfl) ?_
        refine jv_imul hx hb dX2_timeInParts_76 ?_
        refine lv_aload_n hx hb dX2_timeInParts_77 rfl (lv_at hl 3 rfl) ?_
        refine va_get (D := D) (ci := 2) (v := .int (jI (sS S))) (C := RX2) (T := TX2) (N := 3) hx hb hts (fun w h => List.mem_cons_of_mem _ (uw_X2 w h)) hown hK (j_P1 h1_S) 0 rfl rfl 1 (by decide) (hts _ (List.mem_cons_of_mem _ kw_72)) (fun _ h9 => h9) rfl dX2_timeInParts_78 ?_
        refine lv_aload_n hx hb dX2_timeInParts_81 rfl (lv_at hl 3 rfl) ?_
        refine va_get (D := D) (ci := 2) (v := .ref ac_S) (C := RX2) (T := TX2) (N := 3) hx hb hts (fun w h => List.mem_cons_of_mem _ (uw_X2 w h)) hown hK (j_P1 h1_S) 0 rfl rfl 0 (by decide) (hts _ (List.mem_cons_of_mem _ kw_71)) (fun _ h9 => h9) rfl dX2_timeInParts_82 ?_
        refine va_get (D := D) (ci := 0) (v := .ref ap_S) (C := RX0) (T := TX0) (N := 4) hx hb hts (fun w h => List.mem_cons_of_mem _ (uw_X0 w h)) hown hK (j_P1 h2_S) 0 rfl rfl 0 (by decide) (hts _ (List.mem_cons_of_mem _ kw_45)) (fun _ h9 => h9) rfl dX2_timeInParts_85 ?_
        refine lv_iload_n hx hb dX2_timeInParts_88 rfl (lv_at hl 4 rfl) ?_
        refine jv_iald (i := q.toNat) hx hb hK h3_S 0 rfl (by omega) (by omega) (by decide) dX2_timeInParts_89 ?_
        refine jv_imul hx hb dX2_timeInParts_90 ?_
        refine jv_isub hx hb dX2_timeInParts_91 ?_
        refine jv_i2l hx hb dX2_timeInParts_92 (by omega) ?_
        refine jv_lmul hx hb dX2_timeInParts_93 ?_
        refine jv_ladd hx hb dX2_timeInParts_94 ?_
        exact pu_lret hx hb hr hlocks dX2_timeInParts_95 (by rw [cTime, if_neg (by omega)])
      · refine lv_lload hx hb dX2_timeInParts_51 (lv_at hl 0 rfl) ?_
        exact pu_lret hx hb hr hlocks dX2_timeInParts_53 (by rw [cTime, if_pos (by omega)])
set_option maxHeartbeats 4000000 in
set_option maxRecDepth 100000 in
theorem c_wholeTime (l : Launch) (D : va_G) (g : Nat → ClassId) (a : Nat) (S : jSet) (q I : Int) (mo : Bool) (hok : sOK S) (hq : 0 ≤ q) (hp : cPiece S I = q) (hI : 0 ≤ I ∧ I ≤ 5000) : Met l yX2_wholeTime wsX2_wholeTime ({ frames := 1, cells := 0, slots := 0, locals := 30 }) (pu_Pc [.ref a, .int (jI (q)), .int (jI (I)), .int (jI (bI mo))] D vwCl (ty9 g) (fun H => sAt D g a S H)) (pu_Q (some (.int (jI (cWhole S q I mo))))) 0 0 (fun _ => False) := by
  refine Met.ofW (cc := cX2_wholeTime) (maxL := 6) (ret := some .int) (by decide) rfl ?_
  intro p e s m args below meth c s₁ B hml hv
  obtain ⟨rfl, hPic, hK⟩ := hv
  have hx := B.exec
  have hb := B.bytes
  have hr := B.returns
  have hts := atoms_spec (ws := wsX2_wholeTime) B.pre
  have hown : s.vm.findClass RX2 = some m.cls := findClass_of_methodNamed B.named
  have hlocks := B.notSynchronized
  obtain ⟨ac_S, ap_S, al_S, am_S, h1_S, h2_S, h3_S, h4_S, h5_S⟩ := id hPic
  have hq2 := cPiece_range S I
  have f1 := cParts_range hok (q := q) (by omega)
  have f2 := cTime_range hok mo (I := I) (k := q.toNat) (by omega)
  rw [show ((q.toNat : Nat) : Int) = q by omega] at f2
  have hl := lv_entry ([.ref a, .int (jI (q)), .int (jI (I)), .int (jI (bI mo))]) (n := 6) (Nat.le_of_ble_eq_true rfl)
  rw [lg_entry_eq]
  generalize (lg_sl ([.ref a, .int (jI (q)), .int (jI (I)), .int (jI (bI mo))]) ++ List.replicate (6 - (lg_sl ([.ref a, .int (jI (q)), .int (jI (I)), .int (jI (bI mo))])).length) Slot.unset).toArray = ls at hl ⊢
  have hl : lv_has ls 6 [(0, .ref a), (1, .int (jI (q))), (2, .int (jI (I))), (3, .int (jI (bI mo)))] := hl
  refine lv_aload_n hx hb dX2_wholeTime_0 rfl (lv_at hl 0 rfl) ?_
  refine lv_iload_n hx hb dX2_wholeTime_1 rfl (lv_at hl 1 rfl) ?_
  refine pu_call1 (va_runV (As := [.int (jI (q))]) (rest := []) ⟨hx, hb, hml, hown, hts⟩ (c_partsOn l D g a S q hok (by omega)) (cwV 1 hts (gd_V kw_279 kw_280 kw_281 kw_15 kcX2_partsOn) rfl rfl rfl (by decide +kernel) ⟨Nat.le_of_ble_eq_true rfl, Nat.le_of_ble_eq_true rfl⟩) (pu_preV hPic hK rfl h1_S) rfl rfl hl.1 rfl (lv_room (Nat.le_of_ble_eq_true rfl)) dX2_wholeTime_2 ⟨Nat.zero_le _, Nat.zero_le _⟩) ?_
  refine lv_lstore (lv' := [(4, .long (jL (cParts S q))), (0, .ref a), (1, .int (jI (q))), (2, .int (jI (I))), (3, .int (jI (bI mo)))]) hx hb dX2_wholeTime_5 hl (by decide) rfl (fun ls hl => ?_)
  refine lv_lload hx hb dX2_wholeTime_7 (lv_at hl 0 rfl) ?_
  refine jv_lconst (k := 1) hx hb dX2_wholeTime_9 (by decide) ?_
  refine jv_lcmp_ge (tgt := 18) hx hb dX2_wholeTime_10 dX2_wholeTime_11 (by decide) (by omega) (by omega) (fun c10 => ?_) (fun c10 => ?_)
  · refine lv_aload_n hx hb dX2_wholeTime_18 rfl (lv_at hl 1 rfl) ?_
    refine lv_iload_n hx hb dX2_wholeTime_19 rfl (lv_at hl 2 rfl) ?_
    refine lv_lload hx hb dX2_wholeTime_20 (lv_at hl 0 rfl) ?_
    refine lv_iload_n hx hb dX2_wholeTime_22 rfl (lv_at hl 3 rfl) ?_
    refine lv_iload_n hx hb dX2_wholeTime_23 rfl (lv_at hl 4 rfl) ?_
    refine pu_call1 (va_runV (As := [.int (jI (q)), .long (jL (cParts S q)), .int (jI (I)), .int (jI (bI mo))]) (rest := []) ⟨hx, hb, hml, hown, hts⟩ (c_timeInParts l D g a S q (cParts S q) I mo hok (by omega) hI) (cwV 4 hts (gd_V kw_283 kw_284 kw_285 kw_15 kcX2_timeInParts) rfl rfl rfl (by decide +kernel) ⟨Nat.le_of_ble_eq_true rfl, Nat.le_of_ble_eq_true rfl⟩) (pu_preV hPic hK rfl h1_S) rfl rfl hl.1 rfl (lv_room (Nat.le_of_ble_eq_true rfl)) dX2_wholeTime_24 ⟨Nat.zero_le _, Nat.zero_le _⟩) ?_
    refine lv_lload hx hb dX2_wholeTime_27 (lv_at hl 0 rfl) ?_
    refine jv_ldiv hx hb dX2_wholeTime_29 (by omega) (by omega) ?_
    refine jv_l2i hx hb dX2_wholeTime_30 ?_
    exact pu_iret hx hb hr hlocks dX2_wholeTime_31 (by rw [cWhole, if_neg (by omega)])
  · exact absurd c10 (by omega)
set_option maxHeartbeats 4000000 in
set_option maxRecDepth 100000 in
theorem c_isWithin (l : Launch) (D : va_G) (g : Nat → ClassId) (a b : Nat) (S T : jSet) (mo tm : Bool) (mg I : Int) (hoS : sOK S) (hoT : sOK T) (hmg : 0 ≤ mg ∧ mg ≤ 10000) (hI : 0 ≤ I ∧ I ≤ 5000) : Met l yX2_isWithin wsX2_isWithin ({ frames := 1, cells := 0, slots := 0, locals := 30 }) (pu_Pc [.ref a, .int (jI (bI mo)), .int (jI (mg)), .ref b, .int (jI (bI tm)), .int (jI (I))] D vwCl (ty9 g) (fun H => sAt D g a S H ∧ sAt D g b T H)) (pu_Q (some (.int (jI (bI (cWithin S mo mg T tm I)))))) 0 0 (fun _ => False) := by
  refine Met.ofW (cc := cX2_isWithin) (maxL := 16) (ret := some .boolean) (by decide) rfl ?_
  intro p e s m args below meth c s₁ B hml hv
  obtain ⟨rfl, hPic, hK⟩ := hv
  have hx := B.exec
  have hb := B.bytes
  have hr := B.returns
  have hts := atoms_spec (ws := wsX2_isWithin) B.pre
  have hown : s.vm.findClass RX2 = some m.cls := findClass_of_methodNamed B.named
  have hlocks := B.notSynchronized
  obtain ⟨ac_S, ap_S, al_S, am_S, h1_S, h2_S, h3_S, h4_S, h5_S⟩ := id hPic.1
  obtain ⟨ac_T, ap_T, al_T, am_T, h1_T, h2_T, h3_T, h4_T, h5_T⟩ := id hPic.2
  have rS := cPiece_range S I
  have rT := cPiece_range T I
  have nS := hoS.1
  have nT := hoT.1
  have hl := lv_entry ([.ref a, .int (jI (bI mo)), .int (jI (mg)), .ref b, .int (jI (bI tm)), .int (jI (I))]) (n := 16) (Nat.le_of_ble_eq_true rfl)
  rw [lg_entry_eq]
  generalize (lg_sl ([.ref a, .int (jI (bI mo)), .int (jI (mg)), .ref b, .int (jI (bI tm)), .int (jI (I))]) ++ List.replicate (16 - (lg_sl ([.ref a, .int (jI (bI mo)), .int (jI (mg)), .ref b, .int (jI (bI tm)), .int (jI (I))])).length) Slot.unset).toArray = ls at hl ⊢
  have hl : lv_has ls 16 [(0, .ref a), (1, .int (jI (bI mo))), (2, .int (jI (mg))), (3, .ref b), (4, .int (jI (bI tm))), (5, .int (jI (I)))] := hl
  refine lv_aload_n hx hb dX2_isWithin_0 rfl (lv_at hl 3 rfl) ?_
  refine lv_iload hx hb dX2_isWithin_1 (lv_at hl 5 rfl) ?_
  refine pu_call1 (va_runV (As := [.int (jI (I))]) (rest := []) ⟨hx, hb, hml, hown, hts⟩ (c_pieceAt l D g b T I hoT hI) (cwV 1 hts (gd_V kw_329 kw_272 kw_273 kw_15 kcX2_pieceAt) rfl rfl rfl (by decide +kernel) ⟨Nat.le_of_ble_eq_true rfl, Nat.le_of_ble_eq_true rfl⟩) (pu_preV hPic.2 hK rfl h1_T) rfl rfl hl.1 rfl (lv_room (Nat.le_of_ble_eq_true rfl)) dX2_isWithin_3 ⟨Nat.zero_le _, Nat.zero_le _⟩) ?_
  refine lv_istore (lv' := [(6, .int (jI (cPiece T I))), (0, .ref a), (1, .int (jI (bI mo))), (2, .int (jI (mg))), (3, .ref b), (4, .int (jI (bI tm))), (5, .int (jI (I)))]) hx hb dX2_isWithin_6 hl (by decide) rfl (fun ls hl => ?_)
  refine lv_iload hx hb dX2_isWithin_8 (lv_at hl 0 rfl) ?_
  refine jv_iconst hx hb dX2_isWithin_10 ?_
  refine jv_icmp_ne (tgt := 16) hx hb dX2_isWithin_11 (by decide) (by omega) (by omega) (fun c11 => ?_) (fun c11 => ?_)
  · refine lv_aload_n hx hb dX2_isWithin_16 rfl (lv_at hl 1 rfl) ?_
    refine lv_iload hx hb dX2_isWithin_17 (lv_at hl 6 rfl) ?_
    refine pu_call1 (va_runV (As := [.int (jI (I))]) (rest := []) ⟨hx, hb, hml, hown, hts⟩ (c_pieceAt l D g a S I hoS hI) (cwV 1 hts (gd_V kw_329 kw_272 kw_273 kw_15 kcX2_pieceAt) rfl rfl rfl (by decide +kernel) ⟨Nat.le_of_ble_eq_true rfl, Nat.le_of_ble_eq_true rfl⟩) (pu_preV hPic.1 hK rfl h1_S) rfl rfl hl.1 rfl (lv_room (Nat.le_of_ble_eq_true rfl)) dX2_isWithin_19 ⟨Nat.zero_le _, Nat.zero_le _⟩) ?_
    refine lv_istore (lv' := [(7, .int (jI (cPiece S I))), (6, .int (jI (cPiece T I))), (0, .ref a), (1, .int (jI (bI mo))), (2, .int (jI (mg))), (3, .ref b), (4, .int (jI (bI tm))), (5, .int (jI (I)))]) hx hb dX2_isWithin_22 hl (by decide) rfl (fun ls hl => ?_)
    refine lv_iload hx hb dX2_isWithin_24 (lv_at hl 0 rfl) ?_
    refine jv_iconst hx hb dX2_isWithin_26 ?_
    refine jv_icmp_ne (tgt := 32) hx hb dX2_isWithin_27 (by decide) (by omega) (by omega) (fun c27 => ?_) (fun c27 => ?_)
    · have fW := cWithin_range (mo := mo) (tm := tm) hoS hoT hmg (I := I) c11 c27
      refine lv_aload_n hx hb dX2_isWithin_32 rfl (lv_at hl 2 rfl) ?_
      refine lv_iload hx hb dX2_isWithin_33 (lv_at hl 0 rfl) ?_
      refine pu_call1 (va_runV (As := [.int (jI (cPiece S I))]) (rest := []) ⟨hx, hb, hml, hown, hts⟩ (c_partsOn l D g a S (cPiece S I) hoS (by omega)) (cwV 1 hts (gd_V kw_279 kw_280 kw_281 kw_15 kcX2_partsOn) rfl rfl rfl (by decide +kernel) ⟨Nat.le_of_ble_eq_true rfl, Nat.le_of_ble_eq_true rfl⟩) (pu_preV hPic.1 hK rfl h1_S) rfl rfl hl.1 rfl (lv_room (Nat.le_of_ble_eq_true rfl)) dX2_isWithin_35 ⟨Nat.zero_le _, Nat.zero_le _⟩) ?_
      refine lv_lstore (lv' := [(8, .long (jL (cParts S (cPiece S I)))), (7, .int (jI (cPiece S I))), (6, .int (jI (cPiece T I))), (0, .ref a), (1, .int (jI (bI mo))), (2, .int (jI (mg))), (3, .ref b), (4, .int (jI (bI tm))), (5, .int (jI (I)))]) hx hb dX2_isWithin_38 hl (by decide) rfl (fun ls hl => ?_)
      refine lv_aload_n hx hb dX2_isWithin_40 rfl (lv_at hl 6 rfl) ?_
      refine lv_iload hx hb dX2_isWithin_41 (lv_at hl 2 rfl) ?_
      refine pu_call1 (va_runV (As := [.int (jI (cPiece T I))]) (rest := []) ⟨hx, hb, hml, hown, hts⟩ (c_partsOn l D g b T (cPiece T I) hoT (by omega)) (cwV 1 hts (gd_V kw_279 kw_280 kw_281 kw_15 kcX2_partsOn) rfl rfl rfl (by decide +kernel) ⟨Nat.le_of_ble_eq_true rfl, Nat.le_of_ble_eq_true rfl⟩) (pu_preV hPic.2 hK rfl h1_T) rfl rfl hl.1 rfl (lv_room (Nat.le_of_ble_eq_true rfl)) dX2_isWithin_43 ⟨Nat.zero_le _, Nat.zero_le _⟩) ?_
      refine lv_lstore (lv' := [(10, .long (jL (cParts T (cPiece T I)))), (8, .long (jL (cParts S (cPiece S I)))), (7, .int (jI (cPiece S I))), (6, .int (jI (cPiece T I))), (0, .ref a), (1, .int (jI (bI mo))), (2, .int (jI (mg))), (3, .ref b), (4, .int (jI (bI tm))), (5, .int (jI (I)))]) hx hb dX2_isWithin_46 hl (by decide) rfl (fun ls hl => ?_)
      refine lv_aload_n hx hb dX2_isWithin_48 rfl (lv_at hl 4 rfl) ?_
      refine lv_iload hx hb dX2_isWithin_49 (lv_at hl 2 rfl) ?_
      refine lv_lload hx hb dX2_isWithin_51 (lv_at hl 1 rfl) ?_
      refine lv_iload hx hb dX2_isWithin_53 (lv_at hl 9 rfl) ?_
      refine lv_iload_n hx hb dX2_isWithin_55 rfl (lv_at hl 5 rfl) ?_
      refine pu_call1 (va_runV (As := [.int (jI (cPiece S I)), .long (jL (cParts S (cPiece S I))), .int (jI (I)), .int (jI (bI mo))]) (rest := []) ⟨hx, hb, hml, hown, hts⟩ (c_timeInParts l D g a S (cPiece S I) (cParts S (cPiece S I)) I mo hoS (by omega) hI) (cwV 4 hts (gd_V kw_283 kw_284 kw_285 kw_15 kcX2_timeInParts) rfl rfl rfl (by decide +kernel) ⟨Nat.le_of_ble_eq_true rfl, Nat.le_of_ble_eq_true rfl⟩) (pu_preV hPic.1 hK rfl h1_S) rfl rfl hl.1 rfl (lv_room (Nat.le_of_ble_eq_true rfl)) dX2_isWithin_56 ⟨Nat.zero_le _, Nat.zero_le _⟩) ?_
      refine lv_iload_n hx hb dX2_isWithin_59 rfl (lv_at hl 6 rfl) ?_
      refine jv_i2l hx hb dX2_isWithin_60 (by omega) ?_
      refine lv_lload hx hb dX2_isWithin_61 (lv_at hl 1 rfl) ?_
      refine jv_lmul hx hb dX2_isWithin_63 ?_
      refine jv_ladd hx hb dX2_isWithin_64 ?_
      refine lv_lstore (lv' := [(12, .long (jL ((cTime S mo (cPiece S I) (cParts S (cPiece S I)) I) + (mg * (cParts S (cPiece S I)))))), (10, .long (jL (cParts T (cPiece T I)))), (8, .long (jL (cParts S (cPiece S I)))), (7, .int (jI (cPiece S I))), (6, .int (jI (cPiece T I))), (0, .ref a), (1, .int (jI (bI mo))), (2, .int (jI (mg))), (3, .ref b), (4, .int (jI (bI tm))), (5, .int (jI (I)))]) hx hb dX2_isWithin_65 hl (by decide) rfl (fun ls hl => ?_)
      refine lv_aload_n hx hb dX2_isWithin_67 rfl (lv_at hl 8 rfl) ?_
      refine lv_iload hx hb dX2_isWithin_68 (lv_at hl 4 rfl) ?_
      refine lv_lload hx hb dX2_isWithin_70 (lv_at hl 1 rfl) ?_
      refine lv_iload hx hb dX2_isWithin_72 (lv_at hl 10 rfl) ?_
      refine lv_iload hx hb dX2_isWithin_74 (lv_at hl 9 rfl) ?_
      refine pu_call1 (va_runV (As := [.int (jI (cPiece T I)), .long (jL (cParts T (cPiece T I))), .int (jI (I)), .int (jI (bI tm))]) (rest := []) ⟨hx, hb, hml, hown, hts⟩ (c_timeInParts l D g b T (cPiece T I) (cParts T (cPiece T I)) I tm hoT (by omega) hI) (cwV 4 hts (gd_V kw_283 kw_284 kw_285 kw_15 kcX2_timeInParts) rfl rfl rfl (by decide +kernel) ⟨Nat.le_of_ble_eq_true rfl, Nat.le_of_ble_eq_true rfl⟩) (pu_preV hPic.2 hK rfl h1_T) rfl rfl hl.1 rfl (lv_room (Nat.le_of_ble_eq_true rfl)) dX2_isWithin_76 ⟨Nat.zero_le _, Nat.zero_le _⟩) ?_
      refine lv_lstore (lv' := [(14, .long (jL (cTime T tm (cPiece T I) (cParts T (cPiece T I)) I))), (12, .long (jL ((cTime S mo (cPiece S I) (cParts S (cPiece S I)) I) + (mg * (cParts S (cPiece S I)))))), (10, .long (jL (cParts T (cPiece T I)))), (8, .long (jL (cParts S (cPiece S I)))), (7, .int (jI (cPiece S I))), (6, .int (jI (cPiece T I))), (0, .ref a), (1, .int (jI (bI mo))), (2, .int (jI (mg))), (3, .ref b), (4, .int (jI (bI tm))), (5, .int (jI (I)))]) hx hb dX2_isWithin_79 hl (by decide) rfl (fun ls hl => ?_)
      refine lv_lload hx hb dX2_isWithin_81 (lv_at hl 1 rfl) ?_
      refine lv_lload hx hb dX2_isWithin_83 (lv_at hl 2 rfl) ?_
      refine jv_lmul hx hb dX2_isWithin_85 ?_
      refine lv_lload hx hb dX2_isWithin_86 (lv_at hl 0 rfl) ?_
      refine lv_lload hx hb dX2_isWithin_88 (lv_at hl 3 rfl) ?_
      refine jv_lmul hx hb dX2_isWithin_90 ?_
      refine jv_lcmp_gt (tgt := 99) hx hb dX2_isWithin_91 dX2_isWithin_92 (by decide) fW.1 fW.2 (fun c91 => ?_) (fun c91 => ?_)
      · refine jv_iconst hx hb dX2_isWithin_99 ?_
        exact pu_zret hx hb hr hlocks dX2_isWithin_100 (by rw [cWithin, if_neg c11, if_neg c27, decide_eq_false (by omega)]; rfl)
      · refine jv_iconst hx hb dX2_isWithin_95 ?_
        refine lv_goto (tgt := 100) hx hb dX2_isWithin_96 (by decide) ?_
        exact pu_zret hx hb hr hlocks dX2_isWithin_100 (by rw [cWithin, if_neg c11, if_neg c27, decide_eq_true (by omega)]; rfl)
    · refine jv_iconst hx hb dX2_isWithin_30 ?_
      exact pu_zret hx hb hr hlocks dX2_isWithin_31 (by rw [cWithin, if_neg c11, if_pos c27]; rfl)
  · refine jv_iconst hx hb dX2_isWithin_14 ?_
    exact pu_zret hx hb hr hlocks dX2_isWithin_15 (by rw [cWithin, if_pos c11]; rfl)
end
section
set_option maxHeartbeats 4000000 in
set_option maxRecDepth 100000 in
theorem c_isBrokenAt (l : Launch) (D : va_G) (g : Nat → ClassId) (a b : Nat) (S T : jSet) (mg : Int) (I : Int) (hoS : sOK S) (hoT : sOK T) (hmg : 0 ≤ mg ∧ mg ≤ 10000) (hI : 0 ≤ I ∧ I ≤ 5000) : Met l yX3_isBrokenAt wsX3_isBrokenAt ({ frames := 2, cells := 0, slots := 0, locals := 65 }) (pu_Pc [.ref a, .ref b, .int (jI (mg)), .int (jI (I))] D vwCl (ty9 g) (fun H => sAt D g a S H ∧ sAt D g b T H)) (pu_Q (some (.int (jI (bI (cBrk S T mg I)))))) 0 0 (fun _ => False) := by
  refine Met.ofW (cc := cX3_isBrokenAt) (maxL := 4) (ret := some .boolean) (by decide) rfl ?_
  intro p e s m args below meth c s₁ B hml hv
  obtain ⟨rfl, hPic, hK⟩ := hv
  have hx := B.exec
  have hb := B.bytes
  have hr := B.returns
  have hts := atoms_spec (ws := wsX3_isBrokenAt) B.pre
  have hown : s.vm.findClass RX3 = some m.cls := findClass_of_methodNamed B.named
  have hlocks := B.notSynchronized
  obtain ⟨ac_S, ap_S, al_S, am_S, h1_S, h2_S, h3_S, h4_S, h5_S⟩ := id hPic.1
  obtain ⟨ac_T, ap_T, al_T, am_T, h1_T, h2_T, h3_T, h4_T, h5_T⟩ := id hPic.2
  have hl := lv_entry ([.ref a, .ref b, .int (jI (mg)), .int (jI (I))]) (n := 4) (Nat.le_of_ble_eq_true rfl)
  rw [lg_entry_eq]
  generalize (lg_sl ([.ref a, .ref b, .int (jI (mg)), .int (jI (I))]) ++ List.replicate (4 - (lg_sl ([.ref a, .ref b, .int (jI (mg)), .int (jI (I))])).length) Slot.unset).toArray = ls at hl ⊢
  have hl : lv_has ls 4 [(0, .ref a), (1, .ref b), (2, .int (jI (mg))), (3, .int (jI (I)))] := hl
  refine lv_aload_n hx hb dX3_isBrokenAt_0 rfl (lv_at hl 0 rfl) ?_
  refine jv_iconst hx hb dX3_isBrokenAt_1 ?_
  refine lv_iload_n hx hb dX3_isBrokenAt_2 rfl (lv_at hl 2 rfl) ?_
  refine lv_aload_n hx hb dX3_isBrokenAt_3 rfl (lv_at hl 1 rfl) ?_
  refine jv_iconst hx hb dX3_isBrokenAt_4 ?_
  refine lv_iload_n hx hb dX3_isBrokenAt_5 rfl (lv_at hl 3 rfl) ?_
  refine pu_call1 (va_runV (As := [.int (jI (bI true)), .int (jI (mg)), .ref b, .int (jI (bI false)), .int (jI (I))]) (rest := []) ⟨hx, hb, hml, hown, hts⟩ (c_isWithin l D g a b S T true false mg I hoS hoT hmg hI) (cwV 5 hts (gd_V kw_325 kw_326 kw_327 kw_15 kcX2_isWithin) rfl rfl rfl (by decide +kernel) ⟨Nat.le_of_ble_eq_true rfl, Nat.le_of_ble_eq_true rfl⟩) (pu_preV hPic hK rfl h1_S) rfl rfl hl.1 rfl (lv_room (Nat.le_of_ble_eq_true rfl)) dX3_isBrokenAt_6 ⟨Nat.zero_le _, Nat.zero_le _⟩) ?_
  refine jv_if_ne (tgt := 16) hx hb dX3_isBrokenAt_9 (by decide) (bI_rng _) (fun c9 => ?_) (fun c9 => ?_)
  · refine jv_iconst hx hb dX3_isBrokenAt_16 ?_
    exact pu_zret hx hb hr hlocks dX3_isBrokenAt_17 (by rw [cBrk, bI_tr c9]; rfl)
  · refine jv_iconst hx hb dX3_isBrokenAt_12 ?_
    refine lv_goto (tgt := 17) hx hb dX3_isBrokenAt_13 (by decide) ?_
    exact pu_zret hx hb hr hlocks dX3_isBrokenAt_17 (by rw [cBrk, bI_fa c9]; rfl)
set_option maxHeartbeats 4000000 in
set_option maxRecDepth 100000 in
theorem c_stretchEnd (l : Launch) (D : va_G) (g : Nat → ClassId) (a b : Nat) (S T : jSet) (f : Int) (hoS : sOK S) (hoT : sOK T) (hf : 0 ≤ f ∧ f ≤ 5000) : Met l yX3_stretchEnd wsX3_stretchEnd ({ frames := 2, cells := 0, slots := 0, locals := 44 }) (pu_Pc [.ref a, .ref b, .int (jI (f))] D vwCl (ty9 g) (fun H => sAt D g a S H ∧ sAt D g b T H)) (pu_Q (some (.int (jI (cEnd S T f))))) 0 0 (fun _ => False) := by
  refine Met.ofW (cc := cX3_stretchEnd) (maxL := 3) (ret := some .int) (by decide) rfl ?_
  intro p e s m args below meth c s₁ B hml hv
  obtain ⟨rfl, hPic, hK⟩ := hv
  have hx := B.exec
  have hb := B.bytes
  have hr := B.returns
  have hts := atoms_spec (ws := wsX3_stretchEnd) B.pre
  have hown : s.vm.findClass RX3 = some m.cls := findClass_of_methodNamed B.named
  have hlocks := B.notSynchronized
  obtain ⟨ac_S, ap_S, al_S, am_S, h1_S, h2_S, h3_S, h4_S, h5_S⟩ := id hPic.1
  obtain ⟨ac_T, ap_T, al_T, am_T, h1_T, h2_T, h3_T, h4_T, h5_T⟩ := id hPic.2
  have r1 := cSb_spec hoS (I := f) (by omega) (sN S) 0 (by omega)
  have r2 := cSb_spec hoT (I := f) (by omega) (sN T) 0 (by omega)
  have e1 : cStart S f = cSb S f (sN S) 0 := rfl
  have e2 : cStart T f = cSb T f (sN T) 0 := rfl
  have hl := lv_entry ([.ref a, .ref b, .int (jI (f))]) (n := 3) (Nat.le_of_ble_eq_true rfl)
  rw [lg_entry_eq]
  generalize (lg_sl ([.ref a, .ref b, .int (jI (f))]) ++ List.replicate (3 - (lg_sl ([.ref a, .ref b, .int (jI (f))])).length) Slot.unset).toArray = ls at hl ⊢
  have hl : lv_has ls 3 [(0, .ref a), (1, .ref b), (2, .int (jI (f)))] := hl
  refine lv_aload_n hx hb dX3_stretchEnd_0 rfl (lv_at hl 0 rfl) ?_
  refine lv_iload_n hx hb dX3_stretchEnd_1 rfl (lv_at hl 2 rfl) ?_
  refine pu_call1 (va_runV (As := [.int (jI (f))]) (rest := []) ⟨hx, hb, hml, hown, hts⟩ (c_startBehind l D g a S f hoS hf) (cwV 1 hts (gd_V kw_294 kw_295 kw_296 kw_15 kcX2_startBehind) rfl rfl rfl (by decide +kernel) ⟨Nat.le_of_ble_eq_true rfl, Nat.le_of_ble_eq_true rfl⟩) (pu_preV hPic.1 hK rfl h1_S) rfl rfl hl.1 rfl (lv_room (Nat.le_of_ble_eq_true rfl)) dX3_stretchEnd_2 ⟨Nat.zero_le _, Nat.zero_le _⟩) ?_
  refine lv_aload_n hx hb dX3_stretchEnd_5 rfl (lv_at hl 1 rfl) ?_
  refine lv_iload_n hx hb dX3_stretchEnd_6 rfl (lv_at hl 2 rfl) ?_
  refine pu_call1 (va_runV (As := [.int (jI (f))]) (rest := [.int (jI (cStart S f))]) ⟨hx, hb, hml, hown, hts⟩ (c_startBehind l D g b T f hoT hf) (cwV 1 hts (gd_V kw_294 kw_295 kw_296 kw_15 kcX2_startBehind) rfl rfl rfl (by decide +kernel) ⟨Nat.le_of_ble_eq_true rfl, Nat.le_of_ble_eq_true rfl⟩) (pu_preV hPic.2 hK rfl h1_T) rfl rfl hl.1 rfl (lv_room (Nat.le_of_ble_eq_true rfl)) dX3_stretchEnd_7 ⟨Nat.zero_le _, Nat.zero_le _⟩) ?_
  refine va_mmin hx hb (hml.trans hl.1.symm) hown (hts _ (List.mem_cons_of_mem _ kw_321)) (hts _ (List.mem_cons_of_mem _ kw_299)) (hts _ (List.mem_cons_of_mem _ kw_22)) (hts _ (List.mem_cons_of_mem _ kw_300)) (Nat.le_of_ble_eq_true rfl) (Nat.le_of_ble_eq_true rfl) (Nat.zero_le _) (Nat.zero_le _) dX3_stretchEnd_10 ?_
  rw [jI_min (by omega) (by omega)]
  refine jv_iconst hx hb dX3_stretchEnd_13 ?_
  refine jv_isub hx hb dX3_stretchEnd_14 ?_
  exact pu_iret hx hb hr hlocks dX3_stretchEnd_15 (by rfl)
set_option maxHeartbeats 4000000 in
set_option maxRecDepth 100000 in
theorem c_turnIn (l : Launch) (D : va_G) (g : Nat → ClassId) (a b : Nat) (S T : jSet) (mg : Int) (f en : Int) (hoS : sOK S) (hoT : sOK T) (hmg : 0 ≤ mg ∧ mg ≤ 10000) (hf : 0 ≤ f ∧ f ≤ en ∧ en ≤ 5000) : Met l yX3_turnIn wsX3_turnIn ({ frames := 3, cells := 0, slots := 0, locals := 88 }) (pu_Pc [.ref a, .ref b, .int (jI (mg)), .int (jI (f)), .int (jI (en))] D vwCl (ty9 g) (fun H => sAt D g a S H ∧ sAt D g b T H)) (pu_Q (some (.int (jI (cTurnIn (cBrk S T mg) f en))))) 0 0 (fun _ => False) := by
  refine Met.ofW (cc := cX3_turnIn) (maxL := 10) (ret := some .int) (by decide) rfl ?_
  intro p e s m args below meth c s₁ B hml hv
  obtain ⟨rfl, hPic, hK⟩ := hv
  have hx := B.exec
  have hb := B.bytes
  have hr := B.returns
  have hts := atoms_spec (ws := wsX3_turnIn) B.pre
  have hown : s.vm.findClass RX3 = some m.cls := findClass_of_methodNamed B.named
  have hlocks := B.notSynchronized
  obtain ⟨ac_S, ap_S, al_S, am_S, h1_S, h2_S, h3_S, h4_S, h5_S⟩ := id hPic.1
  obtain ⟨ac_T, ap_T, al_T, am_T, h1_T, h2_T, h3_T, h4_T, h5_T⟩ := id hPic.2
  have hl := lv_entry ([.ref a, .ref b, .int (jI (mg)), .int (jI (f)), .int (jI (en))]) (n := 10) (Nat.le_of_ble_eq_true rfl)
  rw [lg_entry_eq]
  generalize (lg_sl ([.ref a, .ref b, .int (jI (mg)), .int (jI (f)), .int (jI (en))]) ++ List.replicate (10 - (lg_sl ([.ref a, .ref b, .int (jI (mg)), .int (jI (f)), .int (jI (en))])).length) Slot.unset).toArray = ls at hl ⊢
  have hl : lv_has ls 10 [(0, .ref a), (1, .ref b), (2, .int (jI (mg))), (3, .int (jI (f))), (4, .int (jI (en)))] := hl
  refine lv_aload_n hx hb dX3_turnIn_0 rfl (lv_at hl 0 rfl) ?_
  refine lv_aload_n hx hb dX3_turnIn_1 rfl (lv_at hl 1 rfl) ?_
  refine lv_iload_n hx hb dX3_turnIn_2 rfl (lv_at hl 2 rfl) ?_
  refine lv_iload hx hb dX3_turnIn_3 (lv_at hl 4 rfl) ?_
  refine pu_call1 (va_runS (As := [.ref a, .ref b, .int (jI (mg)), .int (jI (en))]) (rest := []) ⟨hx, hb, hml, hown, hts⟩ (c_isBrokenAt l D g a b S T mg en hoS hoT hmg (by omega)) (cwS 4 hts (gd_S kw_322 kw_323 kw_12 kcX3_isBrokenAt) rfl rfl rfl (by decide +kernel) ⟨Nat.le_of_ble_eq_true rfl, Nat.le_of_ble_eq_true rfl⟩) (pu_preS hPic hK) rfl rfl hl.1 rfl (lv_room (Nat.le_of_ble_eq_true rfl)) dX3_turnIn_5 ⟨Nat.zero_le _, Nat.zero_le _⟩) ?_
  refine lv_istore (lv' := [(5, .int (jI (bI (cBrk S T mg en)))), (0, .ref a), (1, .ref b), (2, .int (jI (mg))), (3, .int (jI (f))), (4, .int (jI (en)))]) hx hb dX3_turnIn_8 hl (by decide) rfl (fun ls hl => ?_)
  refine lv_iload_n hx hb dX3_turnIn_10 rfl (lv_at hl 4 rfl) ?_
  refine lv_istore (lv' := [(6, .int (jI (f))), (5, .int (jI (bI (cBrk S T mg en)))), (0, .ref a), (1, .ref b), (2, .int (jI (mg))), (3, .int (jI (f))), (4, .int (jI (en)))]) hx hb dX3_turnIn_11 hl (by decide) rfl (fun ls hl => ?_)
  refine lv_iload hx hb dX3_turnIn_13 (lv_at hl 6 rfl) ?_
  refine lv_istore (lv' := [(7, .int (jI (en))), (6, .int (jI (f))), (5, .int (jI (bI (cBrk S T mg en)))), (0, .ref a), (1, .ref b), (2, .int (jI (mg))), (3, .int (jI (f))), (4, .int (jI (en)))]) hx hb dX3_turnIn_15 hl (by decide) rfl (fun ls hl => ?_)
  refine jv_iconst hx hb dX3_turnIn_17 ?_
  refine lv_istore (lv' := [(8, .int (jI (0))), (7, .int (jI (en))), (6, .int (jI (f))), (5, .int (jI (bI (cBrk S T mg en)))), (0, .ref a), (1, .ref b), (2, .int (jI (mg))), (3, .int (jI (f))), (4, .int (jI (en)))]) hx hb dX3_turnIn_18 hl (by decide) rfl (fun ls hl => ?_)
  refine jw_loop (X := Int × Int × Nat) (fun z => 13 - z.2.2) (fun z ls => (z.2.2 ≤ 13 ∧ 0 ≤ z.1 ∧ z.1 ≤ z.2.1 ∧ z.2.1 ≤ 5000 ∧ cTurnIn (cBrk S T mg) f en = cTurn (cBrk S T mg) (cBrk S T mg en) (13 - z.2.2) z.1 z.2.1) ∧ lv_has ls 10 [(0, .ref a), (1, .ref b), (2, .int (jI (mg))), (3, .int (jI (f))), (4, .int (jI (en))), (5, .int (jI (bI (cBrk S T mg en)))), (6, .int (jI (z.1))), (7, .int (jI (z.2.1))), (8, .int (jI ((z.2.2 : Int))))]) ?_ (f, en, 0) ls ⟨⟨by dsimp only; omega, by dsimp only; omega, by dsimp only; omega, by dsimp only; omega, rfl⟩, lv_sub hl [4, 5, 6, 7, 8, 3, 2, 1, 0] rfl⟩
  intro z ls hinv ih
  obtain ⟨bb, tt, i⟩ := z
  obtain ⟨⟨h13, hb0, hbt, ht5, he⟩, hl⟩ := hinv
  dsimp only at h13 hb0 hbt ht5 he
  have hl : lv_has ls 10 [(0, .ref a), (1, .ref b), (2, .int (jI (mg))), (3, .int (jI (f))), (4, .int (jI (en))), (5, .int (jI (bI (cBrk S T mg en)))), (6, .int (jI (bb))), (7, .int (jI (tt))), (8, .int (jI ((i : Int))))] := hl
  refine lv_iload hx hb dX3_turnIn_20 (lv_at hl 8 rfl) ?_
  refine jv_bipush hx hb dX3_turnIn_22 (by decide) ?_
  refine jv_icmp_ge (tgt := 75) hx hb dX3_turnIn_24 (by decide) (by omega) (by omega) (fun c24 => ?_) (fun c24 => ?_)
  · refine lv_iload hx hb dX3_turnIn_75 (lv_at hl 7 rfl) ?_
    exact pu_iret hx hb hr hlocks dX3_turnIn_77 (by rw [he, show 13 - i = 0 by omega]; rfl)
  · refine lv_iload hx hb dX3_turnIn_27 (lv_at hl 7 rfl) ?_
    refine lv_iload hx hb dX3_turnIn_29 (lv_at hl 6 rfl) ?_
    refine jv_isub hx hb dX3_turnIn_31 ?_
    refine jv_iconst hx hb dX3_turnIn_32 ?_
    refine jv_icmp_le (tgt := 75) hx hb dX3_turnIn_33 (by decide) (by omega) (by omega) (fun c33 => ?_) (fun c33 => ?_)
    · refine lv_iload hx hb dX3_turnIn_75 (lv_at hl 7 rfl) ?_
      exact pu_iret hx hb hr hlocks dX3_turnIn_77 (by rw [he, show 13 - i = (12 - i) + 1 by omega]; simp only [cTurn]; rw [if_pos (by omega)])
    · refine lv_iload hx hb dX3_turnIn_36 (lv_at hl 6 rfl) ?_
      refine lv_iload hx hb dX3_turnIn_38 (lv_at hl 7 rfl) ?_
      refine jv_iadd hx hb dX3_turnIn_40 ?_
      refine jv_iconst hx hb dX3_turnIn_41 ?_
      refine jv_idiv hx hb dX3_turnIn_42 (by omega) (by omega) ?_
      refine lv_istore (lv' := [(9, .int (jI ((bb + tt) / 2))), (0, .ref a), (1, .ref b), (2, .int (jI (mg))), (3, .int (jI (f))), (4, .int (jI (en))), (5, .int (jI (bI (cBrk S T mg en)))), (6, .int (jI (bb))), (7, .int (jI (tt))), (8, .int (jI ((i : Int))))]) hx hb dX3_turnIn_43 hl (by decide) rfl (fun ls hl => ?_)
      refine lv_aload_n hx hb dX3_turnIn_45 rfl (lv_at hl 1 rfl) ?_
      refine lv_aload_n hx hb dX3_turnIn_46 rfl (lv_at hl 2 rfl) ?_
      refine lv_iload_n hx hb dX3_turnIn_47 rfl (lv_at hl 3 rfl) ?_
      refine lv_iload hx hb dX3_turnIn_48 (lv_at hl 0 rfl) ?_
      refine pu_call1 (va_runS (As := [.ref a, .ref b, .int (jI (mg)), .int (jI ((bb + tt) / 2))]) (rest := []) ⟨hx, hb, hml, hown, hts⟩ (c_isBrokenAt l D g a b S T mg ((bb + tt) / 2) hoS hoT hmg (by omega)) (cwS 4 hts (gd_S kw_322 kw_323 kw_12 kcX3_isBrokenAt) rfl rfl rfl (by decide +kernel) ⟨Nat.le_of_ble_eq_true rfl, Nat.le_of_ble_eq_true rfl⟩) (pu_preS hPic hK) rfl rfl hl.1 rfl (lv_room (Nat.le_of_ble_eq_true rfl)) dX3_turnIn_50 ⟨Nat.zero_le _, Nat.zero_le _⟩) ?_
      refine lv_iload hx hb dX3_turnIn_53 (lv_at hl 6 rfl) ?_
      refine jv_icmp_ne (tgt := 65) hx hb dX3_turnIn_55 (by decide) (bI_rng _) (bI_rng _) (fun c55 => ?_) (fun c55 => ?_)
      · have c55 := bI_nj c55
        refine lv_iload hx hb dX3_turnIn_65 (lv_at hl 0 rfl) ?_
        refine lv_istore (lv' := [(6, .int (jI ((bb + tt) / 2))), (9, .int (jI ((bb + tt) / 2))), (0, .ref a), (1, .ref b), (2, .int (jI (mg))), (3, .int (jI (f))), (4, .int (jI (en))), (5, .int (jI (bI (cBrk S T mg en)))), (7, .int (jI (tt))), (8, .int (jI ((i : Int))))]) hx hb dX3_turnIn_67 hl (by decide) rfl (fun ls hl => ?_)
        refine lv_iinc (v := jI ((i : Int) + 1)) (lv' := [(8, .int (jI ((i : Int) + 1))), (6, .int (jI ((bb + tt) / 2))), (9, .int (jI ((bb + tt) / 2))), (0, .ref a), (1, .ref b), (2, .int (jI (mg))), (3, .int (jI (f))), (4, .int (jI (en))), (5, .int (jI (bI (cBrk S T mg en)))), (7, .int (jI (tt)))]) hx hb dX3_turnIn_69 hl (k := 9) rfl (jI_add _ _) (by decide) rfl (fun ls hl => ?_)
        refine lv_goto (tgt := 20) hx hb dX3_turnIn_72 (by decide) ?_
        exact ih ((bb + tt) / 2, tt, i + 1) ls ⟨⟨by dsimp only; omega, by dsimp only; omega, by dsimp only; omega, by dsimp only; omega, by dsimp only; rw [he, show 13 - i = (13 - (i + 1)) + 1 by omega]; simp only [cTurn]; rw [if_neg (by omega), if_neg c55]⟩, lv_sub hl [3, 4, 5, 6, 7, 8, 1, 9, 0] rfl⟩ (by dsimp only; omega)
      · have c55 := bI_ij c55
        refine lv_iload hx hb dX3_turnIn_58 (lv_at hl 0 rfl) ?_
        refine lv_istore (lv' := [(7, .int (jI ((bb + tt) / 2))), (9, .int (jI ((bb + tt) / 2))), (0, .ref a), (1, .ref b), (2, .int (jI (mg))), (3, .int (jI (f))), (4, .int (jI (en))), (5, .int (jI (bI (cBrk S T mg en)))), (6, .int (jI (bb))), (8, .int (jI ((i : Int))))]) hx hb dX3_turnIn_60 hl (by decide) rfl (fun ls hl => ?_)
        refine lv_goto (tgt := 69) hx hb dX3_turnIn_62 (by decide) ?_
        refine lv_iinc (v := jI ((i : Int) + 1)) (lv' := [(8, .int (jI ((i : Int) + 1))), (7, .int (jI ((bb + tt) / 2))), (9, .int (jI ((bb + tt) / 2))), (0, .ref a), (1, .ref b), (2, .int (jI (mg))), (3, .int (jI (f))), (4, .int (jI (en))), (5, .int (jI (bI (cBrk S T mg en)))), (6, .int (jI (bb)))]) hx hb dX3_turnIn_69 hl (k := 9) rfl (jI_add _ _) (by decide) rfl (fun ls hl => ?_)
        refine lv_goto (tgt := 20) hx hb dX3_turnIn_72 (by decide) ?_
        exact ih (bb, (bb + tt) / 2, i + 1) ls ⟨⟨by dsimp only; omega, by dsimp only; omega, by dsimp only; omega, by dsimp only; omega, by dsimp only; rw [he, show 13 - i = (13 - (i + 1)) + 1 by omega]; simp only [cTurn]; rw [if_neg (by omega), if_pos c55]⟩, lv_sub hl [3, 4, 5, 6, 7, 8, 9, 1, 0] rfl⟩ (by dsimp only; omega)
set_option maxHeartbeats 4000000 in
set_option maxRecDepth 100000 in
theorem c_firstBrokenStretch (l : Launch) (D : va_G) (g : Nat → ClassId) (a b : Nat) (S T : jSet) (mg : Int) (hoS : sOK S) (hoT : sOK T) (hmg : 0 ≤ mg ∧ mg ≤ 10000) : Met l yX3_firstBrokenStretch wsX3_firstBrokenStretch ({ frames := 3, cells := 0, slots := 0, locals := 88 }) (pu_Pc [.ref a, .ref b, .int (jI (mg))] D vwCl (ty9 g) (fun H => sAt D g a S H ∧ sAt D g b T H)) (pu_Q (some (.int (jI (cFbs (cBrk S T mg) (cEnd S T) 13 1))))) 0 0 (fun _ => False) := by
  refine Met.ofW (cc := cX3_firstBrokenStretch) (maxL := 6) (ret := some .int) (by decide) rfl ?_
  intro p e s m args below meth c s₁ B hml hv
  obtain ⟨rfl, hPic, hK⟩ := hv
  have hx := B.exec
  have hb := B.bytes
  have hr := B.returns
  have hts := atoms_spec (ws := wsX3_firstBrokenStretch) B.pre
  have hown : s.vm.findClass RX3 = some m.cls := findClass_of_methodNamed B.named
  have hlocks := B.notSynchronized
  obtain ⟨ac_S, ap_S, al_S, am_S, h1_S, h2_S, h3_S, h4_S, h5_S⟩ := id hPic.1
  obtain ⟨ac_T, ap_T, al_T, am_T, h1_T, h2_T, h3_T, h4_T, h5_T⟩ := id hPic.2
  have hl := lv_entry ([.ref a, .ref b, .int (jI (mg))]) (n := 6) (Nat.le_of_ble_eq_true rfl)
  rw [lg_entry_eq]
  generalize (lg_sl ([.ref a, .ref b, .int (jI (mg))]) ++ List.replicate (6 - (lg_sl ([.ref a, .ref b, .int (jI (mg))])).length) Slot.unset).toArray = ls at hl ⊢
  have hl : lv_has ls 6 [(0, .ref a), (1, .ref b), (2, .int (jI (mg)))] := hl
  refine jv_iconst hx hb dX3_firstBrokenStretch_0 ?_
  refine lv_istore_n (lv' := [(3, .int (jI (1))), (0, .ref a), (1, .ref b), (2, .int (jI (mg)))]) hx hb dX3_firstBrokenStretch_1 rfl hl (by decide) rfl (fun ls hl => ?_)
  refine jv_iconst hx hb dX3_firstBrokenStretch_2 ?_
  refine lv_istore (lv' := [(4, .int (jI (0))), (3, .int (jI (1))), (0, .ref a), (1, .ref b), (2, .int (jI (mg)))]) hx hb dX3_firstBrokenStretch_3 hl (by decide) rfl (fun ls hl => ?_)
  refine jw_loop (X := Int × Nat) (fun z => 13 - z.2) (fun z ls => (z.2 ≤ 13 ∧ 1 ≤ z.1 ∧ z.1 ≤ 5001 ∧ cFbs (cBrk S T mg) (cEnd S T) 13 1 = cFbs (cBrk S T mg) (cEnd S T) (13 - z.2) z.1) ∧ lv_has ls 6 [(0, .ref a), (1, .ref b), (2, .int (jI (mg))), (3, .int (jI (z.1))), (4, .int (jI ((z.2 : Int))))]) ?_ (1, 0) ls ⟨⟨by dsimp only; omega, by dsimp only; omega, by dsimp only; omega, rfl⟩, lv_sub hl [2, 3, 4, 1, 0] rfl⟩
  intro z ls hinv ih
  obtain ⟨f, i⟩ := z
  obtain ⟨⟨h13, hf1, hf2, he⟩, hl⟩ := hinv
  dsimp only at h13 hf1 hf2 he
  have hl : lv_has ls 6 [(0, .ref a), (1, .ref b), (2, .int (jI (mg))), (3, .int (jI (f))), (4, .int (jI ((i : Int))))] := hl
  refine lv_iload hx hb dX3_firstBrokenStretch_5 (lv_at hl 4 rfl) ?_
  refine jv_bipush hx hb dX3_firstBrokenStretch_7 (by decide) ?_
  refine jv_icmp_ge (tgt := 61) hx hb dX3_firstBrokenStretch_9 (by decide) (by omega) (by omega) (fun c9 => ?_) (fun c9 => ?_)
  · refine jv_iconst hx hb dX3_firstBrokenStretch_61 ?_
    exact pu_iret hx hb hr hlocks dX3_firstBrokenStretch_62 (by rw [he, show 13 - i = 0 by omega]; rfl)
  · refine lv_iload_n hx hb dX3_firstBrokenStretch_12 rfl (lv_at hl 3 rfl) ?_
    refine jv_sipush hx hb dX3_firstBrokenStretch_13 (by decide) ?_
    refine jv_icmp_gt (tgt := 61) hx hb dX3_firstBrokenStretch_16 (by decide) (by omega) (by omega) (fun c16 => ?_) (fun c16 => ?_)
    · refine jv_iconst hx hb dX3_firstBrokenStretch_61 ?_
      exact pu_iret hx hb hr hlocks dX3_firstBrokenStretch_62 (by rw [he, show 13 - i = (12 - i) + 1 by omega]; simp only [cFbs]; rw [if_pos (by omega)])
    · have fE := cEnd_range hoS hoT (f := f) (by omega)
      refine lv_aload_n hx hb dX3_firstBrokenStretch_19 rfl (lv_at hl 0 rfl) ?_
      refine lv_aload_n hx hb dX3_firstBrokenStretch_20 rfl (lv_at hl 1 rfl) ?_
      refine lv_iload_n hx hb dX3_firstBrokenStretch_21 rfl (lv_at hl 3 rfl) ?_
      refine pu_call1 (va_runS (As := [.ref a, .ref b, .int (jI (f))]) (rest := []) ⟨hx, hb, hml, hown, hts⟩ (c_stretchEnd l D g a b S T f hoS hoT (by omega)) (cwS 3 hts (gd_S kw_318 kw_319 kw_12 kcX3_stretchEnd) rfl rfl rfl (by decide +kernel) ⟨Nat.le_of_ble_eq_true rfl, Nat.le_of_ble_eq_true rfl⟩) (pu_preS hPic hK) rfl rfl hl.1 rfl (lv_room (Nat.le_of_ble_eq_true rfl)) dX3_firstBrokenStretch_22 ⟨Nat.zero_le _, Nat.zero_le _⟩) ?_
      refine lv_istore (lv' := [(5, .int (jI (cEnd S T f))), (0, .ref a), (1, .ref b), (2, .int (jI (mg))), (3, .int (jI (f))), (4, .int (jI ((i : Int))))]) hx hb dX3_firstBrokenStretch_25 hl (by decide) rfl (fun ls hl => ?_)
      refine lv_aload_n hx hb dX3_firstBrokenStretch_27 rfl (lv_at hl 1 rfl) ?_
      refine lv_aload_n hx hb dX3_firstBrokenStretch_28 rfl (lv_at hl 2 rfl) ?_
      refine lv_iload_n hx hb dX3_firstBrokenStretch_29 rfl (lv_at hl 3 rfl) ?_
      refine lv_iload_n hx hb dX3_firstBrokenStretch_30 rfl (lv_at hl 4 rfl) ?_
      refine pu_call1 (va_runS (As := [.ref a, .ref b, .int (jI (mg)), .int (jI (f))]) (rest := []) ⟨hx, hb, hml, hown, hts⟩ (c_isBrokenAt l D g a b S T mg f hoS hoT hmg (by omega)) (cwS 4 hts (gd_S kw_322 kw_323 kw_12 kcX3_isBrokenAt) rfl rfl rfl (by decide +kernel) ⟨Nat.le_of_ble_eq_true rfl, Nat.le_of_ble_eq_true rfl⟩) (pu_preS hPic hK) rfl rfl hl.1 rfl (lv_room (Nat.le_of_ble_eq_true rfl)) dX3_firstBrokenStretch_31 ⟨Nat.zero_le _, Nat.zero_le _⟩) ?_
      refine jv_if_ne (tgt := 48) hx hb dX3_firstBrokenStretch_34 (by decide) (bI_rng _) (fun c34 => ?_) (fun c34 => ?_)
      · have c34 := bI_tr c34
        refine lv_iload_n hx hb dX3_firstBrokenStretch_48 rfl (lv_at hl 4 rfl) ?_
        exact pu_iret hx hb hr hlocks dX3_firstBrokenStretch_49 (by rw [he, show 13 - i = (13 - (i + 1)) + 1 by omega]; simp only [cFbs]; rw [if_neg (by omega), if_pos c34])
      · have c34 := bI_fa c34
        refine lv_aload_n hx hb dX3_firstBrokenStretch_37 rfl (lv_at hl 1 rfl) ?_
        refine lv_aload_n hx hb dX3_firstBrokenStretch_38 rfl (lv_at hl 2 rfl) ?_
        refine lv_iload_n hx hb dX3_firstBrokenStretch_39 rfl (lv_at hl 3 rfl) ?_
        refine lv_iload hx hb dX3_firstBrokenStretch_40 (lv_at hl 0 rfl) ?_
        refine pu_call1 (va_runS (As := [.ref a, .ref b, .int (jI (mg)), .int (jI (cEnd S T f))]) (rest := []) ⟨hx, hb, hml, hown, hts⟩ (c_isBrokenAt l D g a b S T mg (cEnd S T f) hoS hoT hmg (by omega)) (cwS 4 hts (gd_S kw_322 kw_323 kw_12 kcX3_isBrokenAt) rfl rfl rfl (by decide +kernel) ⟨Nat.le_of_ble_eq_true rfl, Nat.le_of_ble_eq_true rfl⟩) (pu_preS hPic hK) rfl rfl hl.1 rfl (lv_room (Nat.le_of_ble_eq_true rfl)) dX3_firstBrokenStretch_42 ⟨Nat.zero_le _, Nat.zero_le _⟩) ?_
        refine jv_if_eq (tgt := 50) hx hb dX3_firstBrokenStretch_45 (by decide) (bI_rng _) (fun c45 => ?_) (fun c45 => ?_)
        · have c45 := bI_fa c45
          refine lv_iload hx hb dX3_firstBrokenStretch_50 (lv_at hl 0 rfl) ?_
          refine jv_iconst hx hb dX3_firstBrokenStretch_52 ?_
          refine jv_iadd hx hb dX3_firstBrokenStretch_53 ?_
          refine lv_istore_n (lv' := [(3, .int (jI ((cEnd S T f) + 1))), (5, .int (jI (cEnd S T f))), (0, .ref a), (1, .ref b), (2, .int (jI (mg))), (4, .int (jI ((i : Int))))]) hx hb dX3_firstBrokenStretch_54 rfl hl (by decide) rfl (fun ls hl => ?_)
          refine lv_iinc (v := jI ((i : Int) + 1)) (lv' := [(4, .int (jI ((i : Int) + 1))), (3, .int (jI ((cEnd S T f) + 1))), (5, .int (jI (cEnd S T f))), (0, .ref a), (1, .ref b), (2, .int (jI (mg)))]) hx hb dX3_firstBrokenStretch_55 hl (k := 5) rfl (jI_add _ _) (by decide) rfl (fun ls hl => ?_)
          refine lv_goto (tgt := 5) hx hb dX3_firstBrokenStretch_58 (by decide) ?_
          exact ih (cEnd S T f + 1, i + 1) ls ⟨⟨by dsimp only; omega, by dsimp only; omega, by dsimp only; omega, by dsimp only; rw [he, show 13 - i = (13 - (i + 1)) + 1 by omega]; simp only [cFbs]; rw [if_neg (by omega), if_neg (by rw [c34]; decide), if_neg (by rw [c45]; decide)]⟩, lv_sub hl [3, 4, 5, 1, 0] rfl⟩ (by dsimp only; omega)
        · have c45 := bI_tr c45
          refine lv_iload_n hx hb dX3_firstBrokenStretch_48 rfl (lv_at hl 4 rfl) ?_
          exact pu_iret hx hb hr hlocks dX3_firstBrokenStretch_49 (by rw [he, show 13 - i = (13 - (i + 1)) + 1 by omega]; simp only [cFbs]; rw [if_neg (by omega), if_neg (by rw [c34]; decide), if_pos c45])
set_option maxHeartbeats 4000000 in
set_option maxRecDepth 100000 in
theorem c_firstBroken (l : Launch) (D : va_G) (g : Nat → ClassId) (a b : Nat) (S T : jSet) (mg : Int) (hoS : sOK S) (hoT : sOK T) (hmg : 0 ≤ mg ∧ mg ≤ 10000) : Met l yX3_firstBroken wsX3_firstBroken ({ frames := 4, cells := 0, slots := 0, locals := 117 }) (pu_Pc [.ref a, .ref b, .int (jI (mg))] D vwCl (ty9 g) (fun H => sAt D g a S H ∧ sAt D g b T H)) (pu_Q (some (.int (jI (cFb (cBrk S T mg) (cEnd S T)))))) 0 0 (fun _ => False) := by
  refine Met.ofW (cc := cX3_firstBroken) (maxL := 4) (ret := some .int) (by decide) rfl ?_
  intro p e s m args below meth c s₁ B hml hv
  obtain ⟨rfl, hPic, hK⟩ := hv
  have hx := B.exec
  have hb := B.bytes
  have hr := B.returns
  have hts := atoms_spec (ws := wsX3_firstBroken) B.pre
  have hown : s.vm.findClass RX3 = some m.cls := findClass_of_methodNamed B.named
  have hlocks := B.notSynchronized
  obtain ⟨ac_S, ap_S, al_S, am_S, h1_S, h2_S, h3_S, h4_S, h5_S⟩ := id hPic.1
  obtain ⟨ac_T, ap_T, al_T, am_T, h1_T, h2_T, h3_T, h4_T, h5_T⟩ := id hPic.2
  have rF : cFbs (cBrk S T mg) (cEnd S T) 13 1 = -1 ∨ (1 ≤ cFbs (cBrk S T mg) (cEnd S T) 13 1 ∧ cFbs (cBrk S T mg) (cEnd S T) 13 1 ≤ 5000) := by
    rcases cFbs_all hoS hoT mg with ⟨b1, -⟩ | ⟨g, b1, b2, b3, -⟩
    · exact Or.inl b1
    · exact Or.inr (by rw [b3]; exact ⟨b1, b2⟩)
  generalize hF : cFbs (cBrk S T mg) (cEnd S T) 13 1 = F at rF
  have hl := lv_entry ([.ref a, .ref b, .int (jI (mg))]) (n := 4) (Nat.le_of_ble_eq_true rfl)
  rw [lg_entry_eq]
  generalize (lg_sl ([.ref a, .ref b, .int (jI (mg))]) ++ List.replicate (4 - (lg_sl ([.ref a, .ref b, .int (jI (mg))])).length) Slot.unset).toArray = ls at hl ⊢
  have hl : lv_has ls 4 [(0, .ref a), (1, .ref b), (2, .int (jI (mg)))] := hl
  refine lv_aload_n hx hb dX3_firstBroken_0 rfl (lv_at hl 0 rfl) ?_
  refine lv_aload_n hx hb dX3_firstBroken_1 rfl (lv_at hl 1 rfl) ?_
  refine lv_iload_n hx hb dX3_firstBroken_2 rfl (lv_at hl 2 rfl) ?_
  refine pu_call1 (va_runS (As := [.ref a, .ref b, .int (jI (mg))]) (rest := []) ⟨hx, hb, hml, hown, hts⟩ (c_firstBrokenStretch l D g a b S T mg hoS hoT hmg) (cwS 3 hts (gd_S kw_315 kw_316 kw_12 kcX3_firstBrokenStretch) rfl rfl rfl (by decide +kernel) ⟨Nat.le_of_ble_eq_true rfl, Nat.le_of_ble_eq_true rfl⟩) (pu_preS hPic hK) rfl rfl hl.1 rfl (lv_room (Nat.le_of_ble_eq_true rfl)) dX3_firstBroken_3 ⟨Nat.zero_le _, Nat.zero_le _⟩) ?_
  rw [hF]
  refine lv_istore_n (lv' := [(3, .int (jI (F))), (0, .ref a), (1, .ref b), (2, .int (jI (mg)))]) hx hb dX3_firstBroken_6 rfl hl (by decide) rfl (fun ls hl => ?_)
  refine lv_iload_n hx hb dX3_firstBroken_7 rfl (lv_at hl 0 rfl) ?_
  refine jv_iconst hx hb dX3_firstBroken_8 ?_
  refine jv_icmp_eq (tgt := 22) hx hb dX3_firstBroken_9 (by decide) (by omega) (by omega) (fun c9 => ?_) (fun c9 => ?_)
  · refine lv_iload_n hx hb dX3_firstBroken_22 rfl (lv_at hl 0 rfl) ?_
    exact pu_iret hx hb hr hlocks dX3_firstBroken_23 (by rw [cFb, hF, if_pos c9]; exact c9)
  · have fE := cEnd_range hoS hoT (f := F) (by omega)
    refine lv_aload_n hx hb dX3_firstBroken_12 rfl (lv_at hl 1 rfl) ?_
    refine lv_aload_n hx hb dX3_firstBroken_13 rfl (lv_at hl 2 rfl) ?_
    refine lv_iload_n hx hb dX3_firstBroken_14 rfl (lv_at hl 3 rfl) ?_
    refine lv_iload_n hx hb dX3_firstBroken_15 rfl (lv_at hl 0 rfl) ?_
    refine pu_call1 (va_runS (As := [.ref a, .ref b, .int (jI (mg)), .int (jI (F))]) (rest := []) ⟨hx, hb, hml, hown, hts⟩ (c_isBrokenAt l D g a b S T mg F hoS hoT hmg (by omega)) (cwS 4 hts (gd_S kw_322 kw_323 kw_12 kcX3_isBrokenAt) rfl rfl rfl (by decide +kernel) ⟨Nat.le_of_ble_eq_true rfl, Nat.le_of_ble_eq_true rfl⟩) (pu_preS hPic hK) rfl rfl hl.1 rfl (lv_room (Nat.le_of_ble_eq_true rfl)) dX3_firstBroken_16 ⟨Nat.zero_le _, Nat.zero_le _⟩) ?_
    refine jv_if_eq (tgt := 24) hx hb dX3_firstBroken_19 (by decide) (bI_rng _) (fun c19 => ?_) (fun c19 => ?_)
    · have c19 := bI_fa c19
      refine lv_aload_n hx hb dX3_firstBroken_24 rfl (lv_at hl 1 rfl) ?_
      refine lv_aload_n hx hb dX3_firstBroken_25 rfl (lv_at hl 2 rfl) ?_
      refine lv_iload_n hx hb dX3_firstBroken_26 rfl (lv_at hl 3 rfl) ?_
      refine lv_iload_n hx hb dX3_firstBroken_27 rfl (lv_at hl 0 rfl) ?_
      refine lv_aload_n hx hb dX3_firstBroken_28 rfl (lv_at hl 1 rfl) ?_
      refine lv_aload_n hx hb dX3_firstBroken_29 rfl (lv_at hl 2 rfl) ?_
      refine lv_iload_n hx hb dX3_firstBroken_30 rfl (lv_at hl 0 rfl) ?_
      refine pu_call1 (va_runS (As := [.ref a, .ref b, .int (jI (F))]) (rest := [.int (jI (F)), .int (jI (mg)), .ref b, .ref a]) ⟨hx, hb, hml, hown, hts⟩ (c_stretchEnd l D g a b S T F hoS hoT (by omega)) (cwS 3 hts (gd_S kw_318 kw_319 kw_12 kcX3_stretchEnd) rfl rfl rfl (by decide +kernel) ⟨Nat.le_of_ble_eq_true rfl, Nat.le_of_ble_eq_true rfl⟩) (pu_preS hPic hK) rfl rfl hl.1 rfl (lv_room (Nat.le_of_ble_eq_true rfl)) dX3_firstBroken_31 ⟨Nat.zero_le _, Nat.zero_le _⟩) ?_
      refine pu_call1 (va_runS (As := [.ref a, .ref b, .int (jI (mg)), .int (jI (F)), .int (jI (cEnd S T F))]) (rest := []) ⟨hx, hb, hml, hown, hts⟩ (c_turnIn l D g a b S T mg F (cEnd S T F) hoS hoT hmg (by omega)) (cwS 5 hts (gd_S kw_330 kw_331 kw_12 kcX3_turnIn) rfl rfl rfl (by decide +kernel) ⟨Nat.le_of_ble_eq_true rfl, Nat.le_of_ble_eq_true rfl⟩) (pu_preS hPic hK) rfl rfl hl.1 rfl (lv_room (Nat.le_of_ble_eq_true rfl)) dX3_firstBroken_34 ⟨Nat.zero_le _, Nat.zero_le _⟩) ?_
      exact pu_iret hx hb hr hlocks dX3_firstBroken_37 (by rw [cFb, hF, if_neg c9, if_neg (by rw [c19]; decide)])
    · have c19 := bI_tr c19
      refine lv_iload_n hx hb dX3_firstBroken_22 rfl (lv_at hl 0 rfl) ?_
      exact pu_iret hx hb hr hlocks dX3_firstBroken_23 (by rw [cFb, hF, if_neg c9, if_pos c19])
set_option maxHeartbeats 4000000 in
set_option maxRecDepth 100000 in
theorem c_countBrokenIn (l : Launch) (D : va_G) (g : Nat → ClassId) (a b : Nat) (S T : jSet) (mg : Int) (f en : Int) (hoS : sOK S) (hoT : sOK T) (hmg : 0 ≤ mg ∧ mg ≤ 10000) (hf : 0 ≤ f ∧ f ≤ en ∧ en ≤ 5000) : Met l yX3_countBrokenIn wsX3_countBrokenIn ({ frames := 4, cells := 0, slots := 0, locals := 117 }) (pu_Pc [.ref a, .ref b, .int (jI (mg)), .int (jI (f)), .int (jI (en))] D vwCl (ty9 g) (fun H => sAt D g a S H ∧ sAt D g b T H)) (pu_Q (some (.int (jI (cCi (cBrk S T mg) f en))))) 0 0 (fun _ => False) := by
  refine Met.ofW (cc := cX3_countBrokenIn) (maxL := 8) (ret := some .int) (by decide) rfl ?_
  intro p e s m args below meth c s₁ B hml hv
  obtain ⟨rfl, hPic, hK⟩ := hv
  have hx := B.exec
  have hb := B.bytes
  have hr := B.returns
  have hts := atoms_spec (ws := wsX3_countBrokenIn) B.pre
  have hown : s.vm.findClass RX3 = some m.cls := findClass_of_methodNamed B.named
  have hlocks := B.notSynchronized
  obtain ⟨ac_S, ap_S, al_S, am_S, h1_S, h2_S, h3_S, h4_S, h5_S⟩ := id hPic.1
  obtain ⟨ac_T, ap_T, al_T, am_T, h1_T, h2_T, h3_T, h4_T, h5_T⟩ := id hPic.2
  have hl := lv_entry ([.ref a, .ref b, .int (jI (mg)), .int (jI (f)), .int (jI (en))]) (n := 8) (Nat.le_of_ble_eq_true rfl)
  rw [lg_entry_eq]
  generalize (lg_sl ([.ref a, .ref b, .int (jI (mg)), .int (jI (f)), .int (jI (en))]) ++ List.replicate (8 - (lg_sl ([.ref a, .ref b, .int (jI (mg)), .int (jI (f)), .int (jI (en))])).length) Slot.unset).toArray = ls at hl ⊢
  have hl : lv_has ls 8 [(0, .ref a), (1, .ref b), (2, .int (jI (mg))), (3, .int (jI (f))), (4, .int (jI (en)))] := hl
  refine lv_aload_n hx hb dX3_countBrokenIn_0 rfl (lv_at hl 0 rfl) ?_
  refine lv_aload_n hx hb dX3_countBrokenIn_1 rfl (lv_at hl 1 rfl) ?_
  refine lv_iload_n hx hb dX3_countBrokenIn_2 rfl (lv_at hl 2 rfl) ?_
  refine lv_iload_n hx hb dX3_countBrokenIn_3 rfl (lv_at hl 3 rfl) ?_
  refine pu_call1 (va_runS (As := [.ref a, .ref b, .int (jI (mg)), .int (jI (f))]) (rest := []) ⟨hx, hb, hml, hown, hts⟩ (c_isBrokenAt l D g a b S T mg f hoS hoT hmg (by omega)) (cwS 4 hts (gd_S kw_322 kw_323 kw_12 kcX3_isBrokenAt) rfl rfl rfl (by decide +kernel) ⟨Nat.le_of_ble_eq_true rfl, Nat.le_of_ble_eq_true rfl⟩) (pu_preS hPic hK) rfl rfl hl.1 rfl (lv_room (Nat.le_of_ble_eq_true rfl)) dX3_countBrokenIn_4 ⟨Nat.zero_le _, Nat.zero_le _⟩) ?_
  refine lv_istore (lv' := [(5, .int (jI (bI (cBrk S T mg f)))), (0, .ref a), (1, .ref b), (2, .int (jI (mg))), (3, .int (jI (f))), (4, .int (jI (en)))]) hx hb dX3_countBrokenIn_7 hl (by decide) rfl (fun ls hl => ?_)
  refine lv_aload_n hx hb dX3_countBrokenIn_9 rfl (lv_at hl 1 rfl) ?_
  refine lv_aload_n hx hb dX3_countBrokenIn_10 rfl (lv_at hl 2 rfl) ?_
  refine lv_iload_n hx hb dX3_countBrokenIn_11 rfl (lv_at hl 3 rfl) ?_
  refine lv_iload hx hb dX3_countBrokenIn_12 (lv_at hl 5 rfl) ?_
  refine pu_call1 (va_runS (As := [.ref a, .ref b, .int (jI (mg)), .int (jI (en))]) (rest := []) ⟨hx, hb, hml, hown, hts⟩ (c_isBrokenAt l D g a b S T mg en hoS hoT hmg (by omega)) (cwS 4 hts (gd_S kw_322 kw_323 kw_12 kcX3_isBrokenAt) rfl rfl rfl (by decide +kernel) ⟨Nat.le_of_ble_eq_true rfl, Nat.le_of_ble_eq_true rfl⟩) (pu_preS hPic hK) rfl rfl hl.1 rfl (lv_room (Nat.le_of_ble_eq_true rfl)) dX3_countBrokenIn_14 ⟨Nat.zero_le _, Nat.zero_le _⟩) ?_
  refine lv_istore (lv' := [(6, .int (jI (bI (cBrk S T mg en)))), (5, .int (jI (bI (cBrk S T mg f)))), (0, .ref a), (1, .ref b), (2, .int (jI (mg))), (3, .int (jI (f))), (4, .int (jI (en)))]) hx hb dX3_countBrokenIn_17 hl (by decide) rfl (fun ls hl => ?_)
  refine lv_iload hx hb dX3_countBrokenIn_19 (lv_at hl 1 rfl) ?_
  refine lv_iload hx hb dX3_countBrokenIn_21 (lv_at hl 0 rfl) ?_
  refine jv_icmp_ne (tgt := 42) hx hb dX3_countBrokenIn_23 (by decide) (bI_rng _) (bI_rng _) (fun c23 => ?_) (fun c23 => ?_)
  · have c23 := bI_nj c23
    refine lv_aload_n hx hb dX3_countBrokenIn_42 rfl (lv_at hl 2 rfl) ?_
    refine lv_aload_n hx hb dX3_countBrokenIn_43 rfl (lv_at hl 3 rfl) ?_
    refine lv_iload_n hx hb dX3_countBrokenIn_44 rfl (lv_at hl 4 rfl) ?_
    refine lv_iload_n hx hb dX3_countBrokenIn_45 rfl (lv_at hl 5 rfl) ?_
    refine lv_iload hx hb dX3_countBrokenIn_46 (lv_at hl 6 rfl) ?_
    refine pu_call1 (va_runS (As := [.ref a, .ref b, .int (jI (mg)), .int (jI (f)), .int (jI (en))]) (rest := []) ⟨hx, hb, hml, hown, hts⟩ (c_turnIn l D g a b S T mg f en hoS hoT hmg hf) (cwS 5 hts (gd_S kw_330 kw_331 kw_12 kcX3_turnIn) rfl rfl rfl (by decide +kernel) ⟨Nat.le_of_ble_eq_true rfl, Nat.le_of_ble_eq_true rfl⟩) (pu_preS hPic hK) rfl rfl hl.1 rfl (lv_room (Nat.le_of_ble_eq_true rfl)) dX3_countBrokenIn_48 ⟨Nat.zero_le _, Nat.zero_le _⟩) ?_
    refine lv_istore (lv' := [(7, .int (jI (cTurnIn (cBrk S T mg) f en))), (6, .int (jI (bI (cBrk S T mg en)))), (5, .int (jI (bI (cBrk S T mg f)))), (0, .ref a), (1, .ref b), (2, .int (jI (mg))), (3, .int (jI (f))), (4, .int (jI (en)))]) hx hb dX3_countBrokenIn_51 hl (by decide) rfl (fun ls hl => ?_)
    refine lv_iload hx hb dX3_countBrokenIn_53 (lv_at hl 2 rfl) ?_
    refine jv_if_eq (tgt := 65) hx hb dX3_countBrokenIn_55 (by decide) (bI_rng _) (fun c55 => ?_) (fun c55 => ?_)
    · have c55 := bI_fa c55
      refine lv_iload hx hb dX3_countBrokenIn_65 (lv_at hl 7 rfl) ?_
      refine lv_iload hx hb dX3_countBrokenIn_67 (lv_at hl 0 rfl) ?_
      refine jv_isub hx hb dX3_countBrokenIn_69 ?_
      refine jv_iconst hx hb dX3_countBrokenIn_70 ?_
      refine jv_iadd hx hb dX3_countBrokenIn_71 ?_
      exact pu_iret hx hb hr hlocks dX3_countBrokenIn_72 (by rw [cCi, if_neg c23, if_neg (by rw [c55]; decide)])
    · have c55 := bI_tr c55
      refine lv_iload hx hb dX3_countBrokenIn_58 (lv_at hl 0 rfl) ?_
      refine lv_iload_n hx hb dX3_countBrokenIn_60 rfl (lv_at hl 6 rfl) ?_
      refine jv_isub hx hb dX3_countBrokenIn_61 ?_
      refine lv_goto (tgt := 72) hx hb dX3_countBrokenIn_62 (by decide) ?_
      exact pu_iret hx hb hr hlocks dX3_countBrokenIn_72 (by rw [cCi, if_neg c23, if_pos c55])
  · have c23 := bI_ij c23
    refine lv_iload hx hb dX3_countBrokenIn_26 (lv_at hl 1 rfl) ?_
    refine jv_if_eq (tgt := 40) hx hb dX3_countBrokenIn_28 (by decide) (bI_rng _) (fun c28 => ?_) (fun c28 => ?_)
    · have c28 := bI_fa c28
      refine jv_iconst hx hb dX3_countBrokenIn_40 ?_
      exact pu_iret hx hb hr hlocks dX3_countBrokenIn_41 (by rw [cCi, if_pos c23, if_neg (by rw [c28]; decide)])
    · have c28 := bI_tr c28
      refine lv_iload hx hb dX3_countBrokenIn_31 (lv_at hl 6 rfl) ?_
      refine lv_iload_n hx hb dX3_countBrokenIn_33 rfl (lv_at hl 5 rfl) ?_
      refine jv_isub hx hb dX3_countBrokenIn_34 ?_
      refine jv_iconst hx hb dX3_countBrokenIn_35 ?_
      refine jv_iadd hx hb dX3_countBrokenIn_36 ?_
      refine lv_goto (tgt := 41) hx hb dX3_countBrokenIn_37 (by decide) ?_
      exact pu_iret hx hb hr hlocks dX3_countBrokenIn_41 (by rw [cCi, if_pos c23, if_pos c28])
set_option maxHeartbeats 4000000 in
set_option maxRecDepth 100000 in
theorem c_countBroken (l : Launch) (D : va_G) (g : Nat → ClassId) (a b : Nat) (S T : jSet) (mg : Int) (hoS : sOK S) (hoT : sOK T) (hmg : 0 ≤ mg ∧ mg ≤ 10000) : Met l yX3_countBroken wsX3_countBroken ({ frames := 5, cells := 0, slots := 0, locals := 144 }) (pu_Pc [.ref a, .ref b, .int (jI (mg))] D vwCl (ty9 g) (fun H => sAt D g a S H ∧ sAt D g b T H)) (pu_Q (some (.int (jI (cCnt (cBrk S T mg) (cEnd S T) 13 1 0))))) 0 0 (fun _ => False) := by
  refine Met.ofW (cc := cX3_countBroken) (maxL := 7) (ret := some .int) (by decide) rfl ?_
  intro p e s m args below meth c s₁ B hml hv
  obtain ⟨rfl, hPic, hK⟩ := hv
  have hx := B.exec
  have hb := B.bytes
  have hr := B.returns
  have hts := atoms_spec (ws := wsX3_countBroken) B.pre
  have hown : s.vm.findClass RX3 = some m.cls := findClass_of_methodNamed B.named
  have hlocks := B.notSynchronized
  obtain ⟨ac_S, ap_S, al_S, am_S, h1_S, h2_S, h3_S, h4_S, h5_S⟩ := id hPic.1
  obtain ⟨ac_T, ap_T, al_T, am_T, h1_T, h2_T, h3_T, h4_T, h5_T⟩ := id hPic.2
  have hl := lv_entry ([.ref a, .ref b, .int (jI (mg))]) (n := 7) (Nat.le_of_ble_eq_true rfl)
  rw [lg_entry_eq]
  generalize (lg_sl ([.ref a, .ref b, .int (jI (mg))]) ++ List.replicate (7 - (lg_sl ([.ref a, .ref b, .int (jI (mg))])).length) Slot.unset).toArray = ls at hl ⊢
  have hl : lv_has ls 7 [(0, .ref a), (1, .ref b), (2, .int (jI (mg)))] := hl
  refine jv_iconst hx hb dX3_countBroken_0 ?_
  refine lv_istore_n (lv' := [(3, .int (jI (0))), (0, .ref a), (1, .ref b), (2, .int (jI (mg)))]) hx hb dX3_countBroken_1 rfl hl (by decide) rfl (fun ls hl => ?_)
  refine jv_iconst hx hb dX3_countBroken_2 ?_
  refine lv_istore (lv' := [(4, .int (jI (1))), (3, .int (jI (0))), (0, .ref a), (1, .ref b), (2, .int (jI (mg)))]) hx hb dX3_countBroken_3 hl (by decide) rfl (fun ls hl => ?_)
  refine jv_iconst hx hb dX3_countBroken_5 ?_
  refine lv_istore (lv' := [(5, .int (jI (0))), (4, .int (jI (1))), (3, .int (jI (0))), (0, .ref a), (1, .ref b), (2, .int (jI (mg)))]) hx hb dX3_countBroken_6 hl (by decide) rfl (fun ls hl => ?_)
  refine jw_loop (X := Int × Int × Nat) (fun z => 13 - z.2.2) (fun z ls => (z.2.2 ≤ 13 ∧ 1 ≤ z.2.1 ∧ z.2.1 ≤ 5001 ∧ cCnt (cBrk S T mg) (cEnd S T) 13 1 0 = cCnt (cBrk S T mg) (cEnd S T) (13 - z.2.2) z.2.1 z.1) ∧ lv_has ls 7 [(0, .ref a), (1, .ref b), (2, .int (jI (mg))), (3, .int (jI (z.1))), (4, .int (jI (z.2.1))), (5, .int (jI ((z.2.2 : Int))))]) ?_ (0, 1, 0) ls ⟨⟨by dsimp only; omega, by dsimp only; omega, by dsimp only; omega, rfl⟩, lv_sub hl [3, 4, 5, 2, 1, 0] rfl⟩
  intro z ls hinv ih
  obtain ⟨sm, f, i⟩ := z
  obtain ⟨⟨h13, hf1, hf2, he⟩, hl⟩ := hinv
  dsimp only at h13 hf1 hf2 he
  have hl : lv_has ls 7 [(0, .ref a), (1, .ref b), (2, .int (jI (mg))), (3, .int (jI (sm))), (4, .int (jI (f))), (5, .int (jI ((i : Int))))] := hl
  refine lv_iload hx hb dX3_countBroken_8 (lv_at hl 5 rfl) ?_
  refine jv_bipush hx hb dX3_countBroken_10 (by decide) ?_
  refine jv_icmp_ge (tgt := 57) hx hb dX3_countBroken_12 (by decide) (by omega) (by omega) (fun c12 => ?_) (fun c12 => ?_)
  · refine lv_iload_n hx hb dX3_countBroken_57 rfl (lv_at hl 3 rfl) ?_
    exact pu_iret hx hb hr hlocks dX3_countBroken_58 (by rw [he, show 13 - i = 0 by omega]; rfl)
  · refine lv_iload hx hb dX3_countBroken_15 (lv_at hl 4 rfl) ?_
    refine jv_sipush hx hb dX3_countBroken_17 (by decide) ?_
    refine jv_icmp_gt (tgt := 57) hx hb dX3_countBroken_20 (by decide) (by omega) (by omega) (fun c20 => ?_) (fun c20 => ?_)
    · refine lv_iload_n hx hb dX3_countBroken_57 rfl (lv_at hl 3 rfl) ?_
      exact pu_iret hx hb hr hlocks dX3_countBroken_58 (by rw [he, show 13 - i = (12 - i) + 1 by omega]; simp only [cCnt]; rw [if_pos (by omega)])
    · have fE := cEnd_range hoS hoT (f := f) (by omega)
      refine lv_aload_n hx hb dX3_countBroken_23 rfl (lv_at hl 0 rfl) ?_
      refine lv_aload_n hx hb dX3_countBroken_24 rfl (lv_at hl 1 rfl) ?_
      refine lv_iload hx hb dX3_countBroken_25 (lv_at hl 4 rfl) ?_
      refine pu_call1 (va_runS (As := [.ref a, .ref b, .int (jI (f))]) (rest := []) ⟨hx, hb, hml, hown, hts⟩ (c_stretchEnd l D g a b S T f hoS hoT (by omega)) (cwS 3 hts (gd_S kw_318 kw_319 kw_12 kcX3_stretchEnd) rfl rfl rfl (by decide +kernel) ⟨Nat.le_of_ble_eq_true rfl, Nat.le_of_ble_eq_true rfl⟩) (pu_preS hPic hK) rfl rfl hl.1 rfl (lv_room (Nat.le_of_ble_eq_true rfl)) dX3_countBroken_27 ⟨Nat.zero_le _, Nat.zero_le _⟩) ?_
      refine lv_istore (lv' := [(6, .int (jI (cEnd S T f))), (0, .ref a), (1, .ref b), (2, .int (jI (mg))), (3, .int (jI (sm))), (4, .int (jI (f))), (5, .int (jI ((i : Int))))]) hx hb dX3_countBroken_30 hl (by decide) rfl (fun ls hl => ?_)
      refine lv_iload_n hx hb dX3_countBroken_32 rfl (lv_at hl 4 rfl) ?_
      refine lv_aload_n hx hb dX3_countBroken_33 rfl (lv_at hl 1 rfl) ?_
      refine lv_aload_n hx hb dX3_countBroken_34 rfl (lv_at hl 2 rfl) ?_
      refine lv_iload_n hx hb dX3_countBroken_35 rfl (lv_at hl 3 rfl) ?_
      refine lv_iload hx hb dX3_countBroken_36 (lv_at hl 5 rfl) ?_
      refine lv_iload hx hb dX3_countBroken_38 (lv_at hl 0 rfl) ?_
      refine pu_call1 (va_runS (As := [.ref a, .ref b, .int (jI (mg)), .int (jI (f)), .int (jI (cEnd S T f))]) (rest := [.int (jI (sm))]) ⟨hx, hb, hml, hown, hts⟩ (c_countBrokenIn l D g a b S T mg f (cEnd S T f) hoS hoT hmg (by omega)) (cwS 5 hts (gd_S kw_343 kw_344 kw_12 kcX3_countBrokenIn) rfl rfl rfl (by decide +kernel) ⟨Nat.le_of_ble_eq_true rfl, Nat.le_of_ble_eq_true rfl⟩) (pu_preS hPic hK) rfl rfl hl.1 rfl (lv_room (Nat.le_of_ble_eq_true rfl)) dX3_countBroken_40 ⟨Nat.zero_le _, Nat.zero_le _⟩) ?_
      refine jv_iadd hx hb dX3_countBroken_43 ?_
      refine lv_istore_n (lv' := [(3, .int (jI (sm + (cCi (cBrk S T mg) f (cEnd S T f))))), (6, .int (jI (cEnd S T f))), (0, .ref a), (1, .ref b), (2, .int (jI (mg))), (4, .int (jI (f))), (5, .int (jI ((i : Int))))]) hx hb dX3_countBroken_44 rfl hl (by decide) rfl (fun ls hl => ?_)
      refine lv_iload hx hb dX3_countBroken_45 (lv_at hl 1 rfl) ?_
      refine jv_iconst hx hb dX3_countBroken_47 ?_
      refine jv_iadd hx hb dX3_countBroken_48 ?_
      refine lv_istore (lv' := [(4, .int (jI ((cEnd S T f) + 1))), (3, .int (jI (sm + (cCi (cBrk S T mg) f (cEnd S T f))))), (6, .int (jI (cEnd S T f))), (0, .ref a), (1, .ref b), (2, .int (jI (mg))), (5, .int (jI ((i : Int))))]) hx hb dX3_countBroken_49 hl (by decide) rfl (fun ls hl => ?_)
      refine lv_iinc (v := jI ((i : Int) + 1)) (lv' := [(5, .int (jI ((i : Int) + 1))), (4, .int (jI ((cEnd S T f) + 1))), (3, .int (jI (sm + (cCi (cBrk S T mg) f (cEnd S T f))))), (6, .int (jI (cEnd S T f))), (0, .ref a), (1, .ref b), (2, .int (jI (mg)))]) hx hb dX3_countBroken_51 hl (k := 6) rfl (jI_add _ _) (by decide) rfl (fun ls hl => ?_)
      refine lv_goto (tgt := 8) hx hb dX3_countBroken_54 (by decide) ?_
      exact ih (sm + cCi (cBrk S T mg) f (cEnd S T f), cEnd S T f + 1, i + 1) ls ⟨⟨by dsimp only; omega, by dsimp only; omega, by dsimp only; omega, by dsimp only; rw [he, show 13 - i = (13 - (i + 1)) + 1 by omega]; simp only [cCnt]; rw [if_neg (by omega)]⟩, lv_sub hl [4, 5, 6, 2, 1, 0] rfl⟩ (by dsimp only; omega)
end
section
set_option maxHeartbeats 4000000 in
set_option maxRecDepth 100000 in
theorem c_chosenSetting (l : Launch) (D : va_G) (g : Nat → ClassId) (ad : Nat → Nat) (z : bSt) (rl : Nat → Nat → Bool) (ff : Nat → Nat → Int) (hz : bOK z) (i : Nat) (hi : i < 8) : Met l yX1_chosenSetting wsX1_chosenSetting ({ frames := 0, cells := 0, slots := 0, locals := 0 }) (pu_Pc [.ref (ad (2 + 12 * i))] D vwCl (ty9 g) (fun H => bW D g ad z rl ff H)) (pu_Q (some (.ref (ad (2 + 12 * i + 6 + bC z i))))) 0 0 (fun _ => False) := by
  refine Met.ofW (cc := cX1_chosenSetting) (maxL := 1) (ret := some (.object "BreakerOrders$Setting")) (by decide) rfl ?_
  intro p e s m args below meth c s₁ B hml hv
  obtain ⟨rfl, hPic, hK⟩ := hv
  have hx := B.exec
  have hb := B.bytes
  have hr := B.returns
  have hts := atoms_spec (ws := wsX1_chosenSetting) B.pre
  have hown : s.vm.findClass RX1 = some m.cls := findClass_of_methodNamed B.named
  have hlocks := B.notSynchronized
  have hd0_i : va_at D vwCl (ad (2 + 12 * i), .inr (1, [.int (jI ((i : Int))), .ref (ad (2 + 12 * i + 1)), .ref (ad (2 + 12 * i + 5)), .ref (ad (2 + 12 * i + 10)), .ref (ad (2 + 12 * i + 11)), va_rf ((bU z i).map (fun u => ad (2 + 12 * u))), .int (jI ((bO z i : Int))), .int (jI ((bC z i : Int))), .int (jI (bZ z i))])) s.heap := bW_at hPic (i := i) hi 0 (by omega)
  have hd5_i : va_at D vwCl (ad (2 + 12 * i + 5), .inl (g 3, 4, .inr (.inr (.inr (.inr (fun j => some (ad (2 + 12 * i + 6 + j)))))))) s.heap := bW_at hPic (i := i) hi 5 (by omega)
  have f1 := hz.2.2.1 i hi
  have hl := lv_entry ([.ref (ad (2 + 12 * i))]) (n := 1) (Nat.le_of_ble_eq_true rfl)
  rw [lg_entry_eq]
  generalize (lg_sl ([.ref (ad (2 + 12 * i))]) ++ List.replicate (1 - (lg_sl ([.ref (ad (2 + 12 * i))])).length) Slot.unset).toArray = ls at hl ⊢
  have hl : lv_has ls 1 [(0, .ref (ad (2 + 12 * i)))] := hl
  refine lv_aload_n hx hb dX1_chosenSetting_0 rfl (lv_at hl 0 rfl) ?_
  refine va_get (D := D) (ci := 1) (v := .ref (ad (2 + 12 * i + 5))) (C := RX1) (T := TX1) (N := 9) hx hb hts (fun w h => List.mem_cons_of_mem _ (uw_X1 w h)) hown hK (j_P1 hd0_i) 0 rfl rfl 2 (by decide) (hts _ (List.mem_cons_of_mem _ kw_88)) (fun _ h9 => h9) rfl dX1_chosenSetting_1 ?_
  refine lv_aload_n hx hb dX1_chosenSetting_4 rfl (lv_at hl 0 rfl) ?_
  refine va_get (D := D) (ci := 1) (v := .int (jI ((bC z i : Int)))) (C := RX1) (T := TX1) (N := 9) hx hb hts (fun w h => List.mem_cons_of_mem _ (uw_X1 w h)) hown hK (j_P1 hd0_i) 0 rfl rfl 7 (by decide) (hts _ (List.mem_cons_of_mem _ kw_98)) (fun _ h9 => h9) rfl dX1_chosenSetting_5 ?_
  refine jv_aldq (i := (bC z i)) hx hb hK hd5_i 3 rfl (by omega) (by omega) (by decide) dX1_chosenSetting_8 ?_
  exact pu_aret hx hb hr hlocks dX1_chosenSetting_9 (by rfl)
set_option maxHeartbeats 4000000 in
set_option maxRecDepth 100000 in
theorem c_known (l : Launch) (D : va_G) (g : Nat → ClassId) (ad : Nat → Nat) (z : bSt) (rl : Nat → Nat → Bool) (ff : Nat → Nat → Int) (hz : bOK z) (d : Nat) (hd : d < bN z) : Met l yX3_known wsX3_known ({ frames := 0, cells := 0, slots := 0, locals := 0 }) (pu_Pc [.ref (ad 0), .int (jI ((d : Int)))] D vwCl (ty9 g) (fun H => bW D g ad z rl ff H)) (pu_Q (some (.ref (ad (2 + 12 * d))))) 0 0 (fun _ => False) := by
  refine Met.ofW (cc := cX3_known) (maxL := 2) (ret := some (.object "BreakerOrders$Device")) (by decide) rfl ?_
  intro p e s m args below meth c s₁ B hml hv
  obtain ⟨rfl, hPic, hK⟩ := hv
  have hx := B.exec
  have hb := B.bytes
  have hr := B.returns
  have hts := atoms_spec (ws := wsX3_known) B.pre
  have hown : s.vm.findClass RX3 = some m.cls := findClass_of_methodNamed B.named
  have hlocks := B.notSynchronized
  have hx0 : va_at D vwCl (ad 0, .inr (3, [.ref (ad 1), .int (jI ((bN z : Int))), .int (jI (bV z))])) s.heap := hPic 0 (by omega)
  have hx1 : va_at D vwCl (ad 1, .inl (g 2, 8, .inr (.inr (.inr (.inr (fun j => some (ad (2 + 12 * j)))))))) s.heap := hPic 1 (by omega)
  have hN := hz.1
  have hl := lv_entry ([.ref (ad 0), .int (jI ((d : Int)))]) (n := 2) (Nat.le_of_ble_eq_true rfl)
  rw [lg_entry_eq]
  generalize (lg_sl ([.ref (ad 0), .int (jI ((d : Int)))]) ++ List.replicate (2 - (lg_sl ([.ref (ad 0), .int (jI ((d : Int)))])).length) Slot.unset).toArray = ls at hl ⊢
  have hl : lv_has ls 2 [(0, .ref (ad 0)), (1, .int (jI ((d : Int))))] := hl
  refine lv_iload_n hx hb dX3_known_0 rfl (lv_at hl 1 rfl) ?_
  refine jv_if_lt (tgt := 12) hx hb dX3_known_1 (by decide) (by omega) (fun c1 => ?_) (fun c1 => ?_)
  · exact absurd c1 (by omega)
  · refine lv_iload_n hx hb dX3_known_4 rfl (lv_at hl 1 rfl) ?_
    refine lv_aload_n hx hb dX3_known_5 rfl (lv_at hl 0 rfl) ?_
    refine va_get (D := D) (ci := 3) (v := .int (jI ((bN z : Int)))) (C := RX3) (T := TX3) (N := 3) hx hb hts (fun w h => List.mem_cons_of_mem _ (uw_X3 w h)) hown hK (j_P1 hx0) 0 rfl rfl 1 (by decide) (hts _ (List.mem_cons_of_mem _ kw_122)) (fun _ h9 => h9) rfl dX3_known_6 ?_
    refine jv_icmp_lt (tgt := 22) hx hb dX3_known_9 (by decide) (by omega) (by omega) (fun c9 => ?_) (fun c9 => ?_)
    · refine lv_aload_n hx hb dX3_known_22 rfl (lv_at hl 0 rfl) ?_
      refine va_get (D := D) (ci := 3) (v := .ref (ad 1)) (C := RX3) (T := TX3) (N := 3) hx hb hts (fun w h => List.mem_cons_of_mem _ (uw_X3 w h)) hown hK (j_P1 hx0) 0 rfl rfl 0 (by decide) (hts _ (List.mem_cons_of_mem _ kw_121)) (fun _ h9 => h9) rfl dX3_known_23 ?_
      refine lv_iload_n hx hb dX3_known_26 rfl (lv_at hl 1 rfl) ?_
      refine jv_aldq (i := d) hx hb hK hx1 2 rfl (by omega) (by omega) (by decide) dX3_known_27 ?_
      exact pu_aret hx hb hr hlocks dX3_known_28 (by rfl)
    · exact absurd c9 (by omega)
set_option maxHeartbeats 4000000 in
set_option maxRecDepth 100000 in
theorem c_demandWithin (l : Launch) (D : va_G) (g : Nat → ClassId) (v lo hi : Int) (hv : -2147483648 ≤ v ∧ v < 2147483648) (hlo : -2147483648 ≤ lo ∧ lo < 2147483648) (hhi : -2147483648 ≤ hi ∧ hi < 2147483648) (h : lo ≤ v ∧ v ≤ hi) : Met l yX3_demandWithin wsX3_demandWithin ({ frames := 0, cells := 0, slots := 0, locals := 0 }) (pu_Pc [.int (jI (v)), .int (jI (lo)), .int (jI (hi))] D vwCl (ty9 g) (fun H => True)) (pu_Q none) 0 0 (fun _ => False) := by
  refine Met.ofW (cc := cX3_demandWithin) (maxL := 3) (ret := none) (by decide) rfl ?_
  intro p e s m args below meth c s₁ B hml hv
  obtain ⟨rfl, hPic, hK⟩ := hv
  have hx := B.exec
  have hb := B.bytes
  have hr := B.returns
  have hts := atoms_spec (ws := wsX3_demandWithin) B.pre
  have hown : s.vm.findClass RX3 = some m.cls := findClass_of_methodNamed B.named
  have hlocks := B.notSynchronized
  have hl := lv_entry ([.int (jI (v)), .int (jI (lo)), .int (jI (hi))]) (n := 3) (Nat.le_of_ble_eq_true rfl)
  rw [lg_entry_eq]
  generalize (lg_sl ([.int (jI (v)), .int (jI (lo)), .int (jI (hi))]) ++ List.replicate (3 - (lg_sl ([.int (jI (v)), .int (jI (lo)), .int (jI (hi))])).length) Slot.unset).toArray = ls at hl ⊢
  have hl : lv_has ls 3 [(0, .int (jI (v))), (1, .int (jI (lo))), (2, .int (jI (hi)))] := hl
  refine lv_iload_n hx hb dX3_demandWithin_0 rfl (lv_at hl 0 rfl) ?_
  refine lv_iload_n hx hb dX3_demandWithin_1 rfl (lv_at hl 1 rfl) ?_
  refine jv_icmp_lt (tgt := 10) hx hb dX3_demandWithin_2 (by decide) (by omega) (by omega) (fun c2 => ?_) (fun c2 => ?_)
  · exact absurd c2 (by omega)
  · refine lv_iload_n hx hb dX3_demandWithin_5 rfl (lv_at hl 0 rfl) ?_
    refine lv_iload_n hx hb dX3_demandWithin_6 rfl (lv_at hl 2 rfl) ?_
    refine jv_icmp_le (tgt := 20) hx hb dX3_demandWithin_7 (by decide) (by omega) (by omega) (fun c7 => ?_) (fun c7 => ?_)
    · exact pu_vret hx hb hr hlocks dX3_demandWithin_20
    · exact absurd c7 (by omega)
set_option maxHeartbeats 4000000 in
set_option maxRecDepth 100000 in
theorem c_demandPair (l : Launch) (D : va_G) (g : Nat → ClassId) (x y mg : Int) (hx9 : -2147483648 ≤ x ∧ x < 2147483648) (hy9 : -2147483648 ≤ y ∧ y < 2147483648) (hxy : x ≠ y) (hmg : 0 ≤ mg ∧ mg ≤ 10000) : Met l yX3_demandPair wsX3_demandPair ({ frames := 1, cells := 0, slots := 0, locals := 22 }) (pu_Pc [.int (jI (x)), .int (jI (y)), .int (jI (mg))] D vwCl (ty9 g) (fun H => True)) (pu_Q none) 0 0 (fun _ => False) := by
  refine Met.ofW (cc := cX3_demandPair) (maxL := 3) (ret := none) (by decide) rfl ?_
  intro p e s m args below meth c s₁ B hml hv
  obtain ⟨rfl, hPic, hK⟩ := hv
  have hx := B.exec
  have hb := B.bytes
  have hr := B.returns
  have hts := atoms_spec (ws := wsX3_demandPair) B.pre
  have hown : s.vm.findClass RX3 = some m.cls := findClass_of_methodNamed B.named
  have hlocks := B.notSynchronized
  have hl := lv_entry ([.int (jI (x)), .int (jI (y)), .int (jI (mg))]) (n := 3) (Nat.le_of_ble_eq_true rfl)
  rw [lg_entry_eq]
  generalize (lg_sl ([.int (jI (x)), .int (jI (y)), .int (jI (mg))]) ++ List.replicate (3 - (lg_sl ([.int (jI (x)), .int (jI (y)), .int (jI (mg))])).length) Slot.unset).toArray = ls at hl ⊢
  have hl : lv_has ls 3 [(0, .int (jI (x))), (1, .int (jI (y))), (2, .int (jI (mg)))] := hl
  refine lv_iload_n hx hb dX3_demandPair_0 rfl (lv_at hl 0 rfl) ?_
  refine lv_iload_n hx hb dX3_demandPair_1 rfl (lv_at hl 1 rfl) ?_
  refine jv_icmp_ne (tgt := 15) hx hb dX3_demandPair_2 (by decide) (by omega) (by omega) (fun c2 => ?_) (fun c2 => ?_)
  · refine lv_iload_n hx hb dX3_demandPair_15 rfl (lv_at hl 2 rfl) ?_
    refine jv_iconst hx hb dX3_demandPair_16 ?_
    refine jv_sipush hx hb dX3_demandPair_17 (by decide) ?_
    refine pu_call (va_runS (As := [.int (jI (mg)), .int (jI (0)), .int (jI (10000))]) (rest := []) ⟨hx, hb, hml, hown, hts⟩ (c_demandWithin l D g mg 0 10000 (by omega) (by omega) (by omega) (by omega)) (cwS 3 hts (gd_S kw_234 kw_235 kw_12 kcX3_demandWithin) rfl rfl rfl (by decide +kernel) ⟨Nat.le_of_ble_eq_true rfl, Nat.le_of_ble_eq_true rfl⟩) (pu_preS trivial hK) rfl rfl hl.1 rfl (lv_room (Nat.le_of_ble_eq_true rfl)) dX3_demandPair_20 ⟨Nat.zero_le _, Nat.zero_le _⟩) ?_
    exact pu_vret hx hb hr hlocks dX3_demandPair_23
  · exact absurd c2 hxy
set_option maxHeartbeats 4000000 in
set_option maxRecDepth 100000 in
theorem c_time (l : Launch) (D : va_G) (g : Nat → ClassId) (ad : Nat → Nat) (z : bSt) (rl : Nat → Nat → Bool) (ff : Nat → Nat → Int) (hz : bOK z) (d : Nat) (I : Int) (mo : Bool) (hd : d < bN z) (hI : 1 ≤ I ∧ I ≤ 5000) : Met l yX3_time wsX3_time ({ frames := 2, cells := 0, slots := 0, locals := 55 }) (pu_Pc [.ref (ad 0), .int (jI ((d : Int))), .int (jI (I)), .int (jI (bI mo))] D vwCl (ty9 g) (fun H => bW D g ad z rl ff H)) (pu_Q (some (.int (jI (if cPiece (bCh z d) I = -1 then -1 else cWhole (bCh z d) (cPiece (bCh z d) I) I mo))))) 0 0 (fun _ => False) := by
  refine Met.ofW (cc := cX3_time) (maxL := 6) (ret := some .int) (by decide) rfl ?_
  intro p e s m args below meth c s₁ B hml hv
  obtain ⟨rfl, hPic, hK⟩ := hv
  have hx := B.exec
  have hb := B.bytes
  have hr := B.returns
  have hts := atoms_spec (ws := wsX3_time) B.pre
  have hown : s.vm.findClass RX3 = some m.cls := findClass_of_methodNamed B.named
  have hlocks := B.notSynchronized
  have hx0 : va_at D vwCl (ad 0, .inr (3, [.ref (ad 1), .int (jI ((bN z : Int))), .int (jI (bV z))])) s.heap := hPic 0 (by omega)
  have hx1 : va_at D vwCl (ad 1, .inl (g 2, 8, .inr (.inr (.inr (.inr (fun j => some (ad (2 + 12 * j)))))))) s.heap := hPic 1 (by omega)
  have hN := hz.1
  have hd0_d : va_at D vwCl (ad (2 + 12 * d), .inr (1, [.int (jI ((d : Int))), .ref (ad (2 + 12 * d + 1)), .ref (ad (2 + 12 * d + 5)), .ref (ad (2 + 12 * d + 10)), .ref (ad (2 + 12 * d + 11)), va_rf ((bU z d).map (fun u => ad (2 + 12 * u))), .int (jI ((bO z d : Int))), .int (jI ((bC z d : Int))), .int (jI (bZ z d))])) s.heap := bW_at hPic (i := d) (by omega) 0 (by omega)
  have f_S := hz.2.2.1 d (by omega)
  have hq_S : sAt D g (ad (2 + 12 * d + 6 + bC z d)) (bCh z d) s.heap := bW_set hPic (by omega) (by omega)
  have ok_S : sOK (bCh z d) := f_S.2.2.2.2.2 (bC z d) f_S.2.2.1
  obtain ⟨ac_S, ap_S, al_S, am_S, h1_S, -⟩ := id hq_S
  have rP := cPiece_range (bCh z d) I
  have nS := ok_S.1
  have hl := lv_entry ([.ref (ad 0), .int (jI ((d : Int))), .int (jI (I)), .int (jI (bI mo))]) (n := 6) (Nat.le_of_ble_eq_true rfl)
  rw [lg_entry_eq]
  generalize (lg_sl ([.ref (ad 0), .int (jI ((d : Int))), .int (jI (I)), .int (jI (bI mo))]) ++ List.replicate (6 - (lg_sl ([.ref (ad 0), .int (jI ((d : Int))), .int (jI (I)), .int (jI (bI mo))])).length) Slot.unset).toArray = ls at hl ⊢
  have hl : lv_has ls 6 [(0, .ref (ad 0)), (1, .int (jI ((d : Int)))), (2, .int (jI (I))), (3, .int (jI (bI mo)))] := hl
  refine lv_aload_n hx hb dX3_time_0 rfl (lv_at hl 0 rfl) ?_
  refine lv_iload_n hx hb dX3_time_1 rfl (lv_at hl 1 rfl) ?_
  refine pu_call1 (va_runV (As := [.int (jI ((d : Int)))]) (rest := []) ⟨hx, hb, hml, hown, hts⟩ (c_known l D g ad z rl ff hz d hd) (cwV 1 hts (gd_V kw_140 kw_142 kw_0 kw_12 kcX3_known) rfl rfl rfl (by decide +kernel) ⟨Nat.le_of_ble_eq_true rfl, Nat.le_of_ble_eq_true rfl⟩) (pu_preV hPic hK rfl hx0) rfl rfl hl.1 rfl (lv_room (Nat.le_of_ble_eq_true rfl)) dX3_time_2 ⟨Nat.zero_le _, Nat.zero_le _⟩) ?_
  refine pu_call1 (va_runV (As := []) (rest := []) ⟨hx, hb, hml, hown, hts⟩ (c_chosenSetting l D g ad z rl ff hz d (by omega)) (cwV 0 hts (gd_V kw_267 kw_268 kw_269 kw_13 kcX1_chosenSetting) rfl rfl rfl (by decide +kernel) ⟨Nat.le_of_ble_eq_true rfl, Nat.le_of_ble_eq_true rfl⟩) (pu_preV hPic hK rfl hd0_d) rfl rfl hl.1 rfl (lv_room (Nat.le_of_ble_eq_true rfl)) dX3_time_5 ⟨Nat.zero_le _, Nat.zero_le _⟩) ?_
  refine lv_astore (lv' := [(4, .ref (ad (2 + 12 * d + 6 + bC z d))), (0, .ref (ad 0)), (1, .int (jI ((d : Int)))), (2, .int (jI (I))), (3, .int (jI (bI mo)))]) hx hb dX3_time_8 hl (by decide) rfl (fun ls hl => ?_)
  refine lv_iload_n hx hb dX3_time_10 rfl (lv_at hl 3 rfl) ?_
  refine jv_iconst hx hb dX3_time_11 ?_
  refine jv_sipush hx hb dX3_time_12 (by decide) ?_
  refine pu_call (va_runS (As := [.int (jI (I)), .int (jI (1)), .int (jI (5000))]) (rest := []) ⟨hx, hb, hml, hown, hts⟩ (c_demandWithin l D g I 1 5000 (by omega) (by omega) (by omega) (by omega)) (cwS 3 hts (gd_S kw_234 kw_235 kw_12 kcX3_demandWithin) rfl rfl rfl (by decide +kernel) ⟨Nat.le_of_ble_eq_true rfl, Nat.le_of_ble_eq_true rfl⟩) (pu_preS trivial hK) rfl rfl hl.1 rfl (lv_room (Nat.le_of_ble_eq_true rfl)) dX3_time_15 ⟨Nat.zero_le _, Nat.zero_le _⟩) ?_
  refine lv_aload hx hb dX3_time_18 (lv_at hl 0 rfl) ?_
  refine lv_iload_n hx hb dX3_time_20 rfl (lv_at hl 3 rfl) ?_
  refine pu_call1 (va_runV (As := [.int (jI (I))]) (rest := []) ⟨hx, hb, hml, hown, hts⟩ (c_pieceAt l D g (ad (2 + 12 * d + 6 + bC z d)) (bCh z d) I ok_S (by omega)) (cwV 1 hts (gd_V kw_271 kw_272 kw_273 kw_15 kcX2_pieceAt) rfl rfl rfl (by decide +kernel) ⟨Nat.le_of_ble_eq_true rfl, Nat.le_of_ble_eq_true rfl⟩) (pu_preV hq_S hK rfl h1_S) rfl rfl hl.1 rfl (lv_room (Nat.le_of_ble_eq_true rfl)) dX3_time_21 ⟨Nat.zero_le _, Nat.zero_le _⟩) ?_
  refine lv_istore (lv' := [(5, .int (jI (cPiece (bCh z d) I))), (4, .ref (ad (2 + 12 * d + 6 + bC z d))), (0, .ref (ad 0)), (1, .int (jI ((d : Int)))), (2, .int (jI (I))), (3, .int (jI (bI mo)))]) hx hb dX3_time_24 hl (by decide) rfl (fun ls hl => ?_)
  refine lv_iload hx hb dX3_time_26 (lv_at hl 0 rfl) ?_
  refine jv_iconst hx hb dX3_time_28 ?_
  refine jv_icmp_ne (tgt := 36) hx hb dX3_time_29 (by decide) (by omega) (by omega) (fun c29 => ?_) (fun c29 => ?_)
  · refine lv_aload hx hb dX3_time_36 (lv_at hl 1 rfl) ?_
    refine lv_iload hx hb dX3_time_38 (lv_at hl 0 rfl) ?_
    refine lv_iload_n hx hb dX3_time_40 rfl (lv_at hl 4 rfl) ?_
    refine lv_iload_n hx hb dX3_time_41 rfl (lv_at hl 5 rfl) ?_
    refine pu_call1 (va_runV (As := [.int (jI (cPiece (bCh z d) I)), .int (jI (I)), .int (jI (bI mo))]) (rest := []) ⟨hx, hb, hml, hown, hts⟩ (c_wholeTime l D g (ad (2 + 12 * d + 6 + bC z d)) (bCh z d) (cPiece (bCh z d) I) I mo ok_S (by omega) rfl (by omega)) (cwV 3 hts (gd_V kw_275 kw_276 kw_277 kw_15 kcX2_wholeTime) rfl rfl rfl (by decide +kernel) ⟨Nat.le_of_ble_eq_true rfl, Nat.le_of_ble_eq_true rfl⟩) (pu_preV hq_S hK rfl h1_S) rfl rfl hl.1 rfl (lv_room (Nat.le_of_ble_eq_true rfl)) dX3_time_42 ⟨Nat.zero_le _, Nat.zero_le _⟩) ?_
    exact pu_iret hx hb hr hlocks dX3_time_45 (by rw [if_neg c29])
  · refine jv_iconst hx hb dX3_time_32 ?_
    refine lv_goto (tgt := 45) hx hb dX3_time_33 (by decide) ?_
    exact pu_iret hx hb hr hlocks dX3_time_45 (by rw [if_pos c29])
set_option maxHeartbeats 4000000 in
set_option maxRecDepth 100000 in
theorem c_opensFrom (l : Launch) (D : va_G) (g : Nat → ClassId) (ad : Nat → Nat) (z : bSt) (rl : Nat → Nat → Bool) (ff : Nat → Nat → Int) (hz : bOK z) (d : Nat) (hd : d < bN z) : Met l yX3_opensFrom wsX3_opensFrom ({ frames := 2, cells := 0, slots := 0, locals := 44 }) (pu_Pc [.ref (ad 0), .int (jI ((d : Int)))] D vwCl (ty9 g) (fun H => bW D g ad z rl ff H)) (pu_Q (some (.int (jI (if 5000 < cStart (bCh z d) 0 then -1 else cStart (bCh z d) 0))))) 0 0 (fun _ => False) := by
  refine Met.ofW (cc := cX3_opensFrom) (maxL := 3) (ret := some .int) (by decide) rfl ?_
  intro p e s m args below meth c s₁ B hml hv
  obtain ⟨rfl, hPic, hK⟩ := hv
  have hx := B.exec
  have hb := B.bytes
  have hr := B.returns
  have hts := atoms_spec (ws := wsX3_opensFrom) B.pre
  have hown : s.vm.findClass RX3 = some m.cls := findClass_of_methodNamed B.named
  have hlocks := B.notSynchronized
  have hx0 : va_at D vwCl (ad 0, .inr (3, [.ref (ad 1), .int (jI ((bN z : Int))), .int (jI (bV z))])) s.heap := hPic 0 (by omega)
  have hx1 : va_at D vwCl (ad 1, .inl (g 2, 8, .inr (.inr (.inr (.inr (fun j => some (ad (2 + 12 * j)))))))) s.heap := hPic 1 (by omega)
  have hN := hz.1
  have hd0_d : va_at D vwCl (ad (2 + 12 * d), .inr (1, [.int (jI ((d : Int))), .ref (ad (2 + 12 * d + 1)), .ref (ad (2 + 12 * d + 5)), .ref (ad (2 + 12 * d + 10)), .ref (ad (2 + 12 * d + 11)), va_rf ((bU z d).map (fun u => ad (2 + 12 * u))), .int (jI ((bO z d : Int))), .int (jI ((bC z d : Int))), .int (jI (bZ z d))])) s.heap := bW_at hPic (i := d) (by omega) 0 (by omega)
  have f_S := hz.2.2.1 d (by omega)
  have hq_S : sAt D g (ad (2 + 12 * d + 6 + bC z d)) (bCh z d) s.heap := bW_set hPic (by omega) (by omega)
  have ok_S : sOK (bCh z d) := f_S.2.2.2.2.2 (bC z d) f_S.2.2.1
  obtain ⟨ac_S, ap_S, al_S, am_S, h1_S, -⟩ := id hq_S
  have r1 := cSb_spec ok_S (I := 0) (by omega) (sN (bCh z d)) 0 (by omega)
  have e1 : cStart (bCh z d) 0 = cSb (bCh z d) 0 (sN (bCh z d)) 0 := rfl
  have hl := lv_entry ([.ref (ad 0), .int (jI ((d : Int)))]) (n := 3) (Nat.le_of_ble_eq_true rfl)
  rw [lg_entry_eq]
  generalize (lg_sl ([.ref (ad 0), .int (jI ((d : Int)))]) ++ List.replicate (3 - (lg_sl ([.ref (ad 0), .int (jI ((d : Int)))])).length) Slot.unset).toArray = ls at hl ⊢
  have hl : lv_has ls 3 [(0, .ref (ad 0)), (1, .int (jI ((d : Int))))] := hl
  refine lv_aload_n hx hb dX3_opensFrom_0 rfl (lv_at hl 0 rfl) ?_
  refine lv_iload_n hx hb dX3_opensFrom_1 rfl (lv_at hl 1 rfl) ?_
  refine pu_call1 (va_runV (As := [.int (jI ((d : Int)))]) (rest := []) ⟨hx, hb, hml, hown, hts⟩ (c_known l D g ad z rl ff hz d hd) (cwV 1 hts (gd_V kw_140 kw_142 kw_0 kw_12 kcX3_known) rfl rfl rfl (by decide +kernel) ⟨Nat.le_of_ble_eq_true rfl, Nat.le_of_ble_eq_true rfl⟩) (pu_preV hPic hK rfl hx0) rfl rfl hl.1 rfl (lv_room (Nat.le_of_ble_eq_true rfl)) dX3_opensFrom_2 ⟨Nat.zero_le _, Nat.zero_le _⟩) ?_
  refine pu_call1 (va_runV (As := []) (rest := []) ⟨hx, hb, hml, hown, hts⟩ (c_chosenSetting l D g ad z rl ff hz d (by omega)) (cwV 0 hts (gd_V kw_267 kw_268 kw_269 kw_13 kcX1_chosenSetting) rfl rfl rfl (by decide +kernel) ⟨Nat.le_of_ble_eq_true rfl, Nat.le_of_ble_eq_true rfl⟩) (pu_preV hPic hK rfl hd0_d) rfl rfl hl.1 rfl (lv_room (Nat.le_of_ble_eq_true rfl)) dX3_opensFrom_5 ⟨Nat.zero_le _, Nat.zero_le _⟩) ?_
  refine jv_iconst hx hb dX3_opensFrom_8 ?_
  refine pu_call1 (va_runV (As := [.int (jI (0))]) (rest := []) ⟨hx, hb, hml, hown, hts⟩ (c_startBehind l D g (ad (2 + 12 * d + 6 + bC z d)) (bCh z d) 0 ok_S (by omega)) (cwV 1 hts (gd_V kw_294 kw_295 kw_296 kw_15 kcX2_startBehind) rfl rfl rfl (by decide +kernel) ⟨Nat.le_of_ble_eq_true rfl, Nat.le_of_ble_eq_true rfl⟩) (pu_preV hq_S hK rfl h1_S) rfl rfl hl.1 rfl (lv_room (Nat.le_of_ble_eq_true rfl)) dX3_opensFrom_9 ⟨Nat.zero_le _, Nat.zero_le _⟩) ?_
  refine lv_istore_n (lv' := [(2, .int (jI (cStart (bCh z d) 0))), (0, .ref (ad 0)), (1, .int (jI ((d : Int))))]) hx hb dX3_opensFrom_12 rfl hl (by decide) rfl (fun ls hl => ?_)
  refine lv_iload_n hx hb dX3_opensFrom_13 rfl (lv_at hl 0 rfl) ?_
  refine jv_sipush hx hb dX3_opensFrom_14 (by decide) ?_
  refine jv_icmp_le (tgt := 24) hx hb dX3_opensFrom_17 (by decide) (by omega) (by omega) (fun c17 => ?_) (fun c17 => ?_)
  · refine lv_iload_n hx hb dX3_opensFrom_24 rfl (lv_at hl 0 rfl) ?_
    exact pu_iret hx hb hr hlocks dX3_opensFrom_25 (by rw [if_neg (by omega)])
  · refine jv_iconst hx hb dX3_opensFrom_20 ?_
    refine lv_goto (tgt := 25) hx hb dX3_opensFrom_21 (by decide) ?_
    exact pu_iret hx hb hr hlocks dX3_opensFrom_25 (by rw [if_pos (by omega)])
set_option maxHeartbeats 4000000 in
set_option maxRecDepth 100000 in
theorem c_order (l : Launch) (D : va_G) (g : Nat → ClassId) (ad : Nat → Nat) (z : bSt) (rl : Nat → Nat → Bool) (ff : Nat → Nat → Int) (hz : bOK z) (d u : Nat) (mg : Int) (hd : d < bN z) (hu : u < bN z) (hdu : d ≠ u) (hmg : 0 ≤ mg ∧ mg ≤ 10000) : Met l yX3_order wsX3_order ({ frames := 5, cells := 0, slots := 0, locals := 140 }) (pu_Pc [.ref (ad 0), .int (jI ((d : Int))), .int (jI ((u : Int))), .int (jI (mg))] D vwCl (ty9 g) (fun H => bW D g ad z rl ff H)) (pu_Q (some (.int (jI (cFb (cBrk (bCh z d) (bCh z u) mg) (cEnd (bCh z d) (bCh z u))))))) 0 0 (fun _ => False) := by
  refine Met.ofW (cc := cX3_order) (maxL := 4) (ret := some .int) (by decide) rfl ?_
  intro p e s m args below meth c s₁ B hml hv
  obtain ⟨rfl, hPic, hK⟩ := hv
  have hx := B.exec
  have hb := B.bytes
  have hr := B.returns
  have hts := atoms_spec (ws := wsX3_order) B.pre
  have hown : s.vm.findClass RX3 = some m.cls := findClass_of_methodNamed B.named
  have hlocks := B.notSynchronized
  have hx0 : va_at D vwCl (ad 0, .inr (3, [.ref (ad 1), .int (jI ((bN z : Int))), .int (jI (bV z))])) s.heap := hPic 0 (by omega)
  have hx1 : va_at D vwCl (ad 1, .inl (g 2, 8, .inr (.inr (.inr (.inr (fun j => some (ad (2 + 12 * j)))))))) s.heap := hPic 1 (by omega)
  have hN := hz.1
  have hd0_d : va_at D vwCl (ad (2 + 12 * d), .inr (1, [.int (jI ((d : Int))), .ref (ad (2 + 12 * d + 1)), .ref (ad (2 + 12 * d + 5)), .ref (ad (2 + 12 * d + 10)), .ref (ad (2 + 12 * d + 11)), va_rf ((bU z d).map (fun u => ad (2 + 12 * u))), .int (jI ((bO z d : Int))), .int (jI ((bC z d : Int))), .int (jI (bZ z d))])) s.heap := bW_at hPic (i := d) (by omega) 0 (by omega)
  have hd0_u : va_at D vwCl (ad (2 + 12 * u), .inr (1, [.int (jI ((u : Int))), .ref (ad (2 + 12 * u + 1)), .ref (ad (2 + 12 * u + 5)), .ref (ad (2 + 12 * u + 10)), .ref (ad (2 + 12 * u + 11)), va_rf ((bU z u).map (fun u => ad (2 + 12 * u))), .int (jI ((bO z u : Int))), .int (jI ((bC z u : Int))), .int (jI (bZ z u))])) s.heap := bW_at hPic (i := u) (by omega) 0 (by omega)
  have f_S := hz.2.2.1 d (by omega)
  have hq_S : sAt D g (ad (2 + 12 * d + 6 + bC z d)) (bCh z d) s.heap := bW_set hPic (by omega) (by omega)
  have ok_S : sOK (bCh z d) := f_S.2.2.2.2.2 (bC z d) f_S.2.2.1
  obtain ⟨ac_S, ap_S, al_S, am_S, h1_S, -⟩ := id hq_S
  have f_T := hz.2.2.1 u (by omega)
  have hq_T : sAt D g (ad (2 + 12 * u + 6 + bC z u)) (bCh z u) s.heap := bW_set hPic (by omega) (by omega)
  have ok_T : sOK (bCh z u) := f_T.2.2.2.2.2 (bC z u) f_T.2.2.1
  obtain ⟨ac_T, ap_T, al_T, am_T, h1_T, -⟩ := id hq_T
  have hl := lv_entry ([.ref (ad 0), .int (jI ((d : Int))), .int (jI ((u : Int))), .int (jI (mg))]) (n := 4) (Nat.le_of_ble_eq_true rfl)
  rw [lg_entry_eq]
  generalize (lg_sl ([.ref (ad 0), .int (jI ((d : Int))), .int (jI ((u : Int))), .int (jI (mg))]) ++ List.replicate (4 - (lg_sl ([.ref (ad 0), .int (jI ((d : Int))), .int (jI ((u : Int))), .int (jI (mg))])).length) Slot.unset).toArray = ls at hl ⊢
  have hl : lv_has ls 4 [(0, .ref (ad 0)), (1, .int (jI ((d : Int)))), (2, .int (jI ((u : Int)))), (3, .int (jI (mg)))] := hl
  refine lv_iload_n hx hb dX3_order_0 rfl (lv_at hl 1 rfl) ?_
  refine lv_iload_n hx hb dX3_order_1 rfl (lv_at hl 2 rfl) ?_
  refine lv_iload_n hx hb dX3_order_2 rfl (lv_at hl 3 rfl) ?_
  refine pu_call (va_runS (As := [.int (jI ((d : Int))), .int (jI ((u : Int))), .int (jI (mg))]) (rest := []) ⟨hx, hb, hml, hown, hts⟩ (c_demandPair l D g (d : Int) (u : Int) mg (by omega) (by omega) (by omega) hmg) (cwS 3 hts (gd_S kw_308 kw_309 kw_12 kcX3_demandPair) rfl rfl rfl (by decide +kernel) ⟨Nat.le_of_ble_eq_true rfl, Nat.le_of_ble_eq_true rfl⟩) (pu_preS trivial hK) rfl rfl hl.1 rfl (lv_room (Nat.le_of_ble_eq_true rfl)) dX3_order_3 ⟨Nat.zero_le _, Nat.zero_le _⟩) ?_
  refine lv_aload_n hx hb dX3_order_6 rfl (lv_at hl 0 rfl) ?_
  refine lv_iload_n hx hb dX3_order_7 rfl (lv_at hl 1 rfl) ?_
  refine pu_call1 (va_runV (As := [.int (jI ((d : Int)))]) (rest := []) ⟨hx, hb, hml, hown, hts⟩ (c_known l D g ad z rl ff hz d hd) (cwV 1 hts (gd_V kw_140 kw_142 kw_0 kw_12 kcX3_known) rfl rfl rfl (by decide +kernel) ⟨Nat.le_of_ble_eq_true rfl, Nat.le_of_ble_eq_true rfl⟩) (pu_preV hPic hK rfl hx0) rfl rfl hl.1 rfl (lv_room (Nat.le_of_ble_eq_true rfl)) dX3_order_8 ⟨Nat.zero_le _, Nat.zero_le _⟩) ?_
  refine pu_call1 (va_runV (As := []) (rest := []) ⟨hx, hb, hml, hown, hts⟩ (c_chosenSetting l D g ad z rl ff hz d (by omega)) (cwV 0 hts (gd_V kw_267 kw_268 kw_269 kw_13 kcX1_chosenSetting) rfl rfl rfl (by decide +kernel) ⟨Nat.le_of_ble_eq_true rfl, Nat.le_of_ble_eq_true rfl⟩) (pu_preV hPic hK rfl hd0_d) rfl rfl hl.1 rfl (lv_room (Nat.le_of_ble_eq_true rfl)) dX3_order_11 ⟨Nat.zero_le _, Nat.zero_le _⟩) ?_
  refine lv_aload_n hx hb dX3_order_14 rfl (lv_at hl 0 rfl) ?_
  refine lv_iload_n hx hb dX3_order_15 rfl (lv_at hl 2 rfl) ?_
  refine pu_call1 (va_runV (As := [.int (jI ((u : Int)))]) (rest := [.ref (ad (2 + 12 * d + 6 + bC z d))]) ⟨hx, hb, hml, hown, hts⟩ (c_known l D g ad z rl ff hz u hu) (cwV 1 hts (gd_V kw_140 kw_142 kw_0 kw_12 kcX3_known) rfl rfl rfl (by decide +kernel) ⟨Nat.le_of_ble_eq_true rfl, Nat.le_of_ble_eq_true rfl⟩) (pu_preV hPic hK rfl hx0) rfl rfl hl.1 rfl (lv_room (Nat.le_of_ble_eq_true rfl)) dX3_order_16 ⟨Nat.zero_le _, Nat.zero_le _⟩) ?_
  refine pu_call1 (va_runV (As := []) (rest := [.ref (ad (2 + 12 * d + 6 + bC z d))]) ⟨hx, hb, hml, hown, hts⟩ (c_chosenSetting l D g ad z rl ff hz u (by omega)) (cwV 0 hts (gd_V kw_267 kw_268 kw_269 kw_13 kcX1_chosenSetting) rfl rfl rfl (by decide +kernel) ⟨Nat.le_of_ble_eq_true rfl, Nat.le_of_ble_eq_true rfl⟩) (pu_preV hPic hK rfl hd0_u) rfl rfl hl.1 rfl (lv_room (Nat.le_of_ble_eq_true rfl)) dX3_order_19 ⟨Nat.zero_le _, Nat.zero_le _⟩) ?_
  refine lv_iload_n hx hb dX3_order_22 rfl (lv_at hl 3 rfl) ?_
  refine pu_call1 (va_runS (As := [.ref (ad (2 + 12 * d + 6 + bC z d)), .ref (ad (2 + 12 * u + 6 + bC z u)), .int (jI (mg))]) (rest := []) ⟨hx, hb, hml, hown, hts⟩ (c_firstBroken l D g (ad (2 + 12 * d + 6 + bC z d)) (ad (2 + 12 * u + 6 + bC z u)) (bCh z d) (bCh z u) mg ok_S ok_T hmg) (cwS 3 hts (gd_S kw_312 kw_313 kw_12 kcX3_firstBroken) rfl rfl rfl (by decide +kernel) ⟨Nat.le_of_ble_eq_true rfl, Nat.le_of_ble_eq_true rfl⟩) (pu_preS ⟨hq_S, hq_T⟩ hK) rfl rfl hl.1 rfl (lv_room (Nat.le_of_ble_eq_true rfl)) dX3_order_23 ⟨Nat.zero_le _, Nat.zero_le _⟩) ?_
  exact pu_iret hx hb hr hlocks dX3_order_26 (by rfl)
set_option maxHeartbeats 4000000 in
set_option maxRecDepth 100000 in
theorem c_broken (l : Launch) (D : va_G) (g : Nat → ClassId) (ad : Nat → Nat) (z : bSt) (rl : Nat → Nat → Bool) (ff : Nat → Nat → Int) (hz : bOK z) (d u : Nat) (mg : Int) (hd : d < bN z) (hu : u < bN z) (hdu : d ≠ u) (hmg : 0 ≤ mg ∧ mg ≤ 10000) : Met l yX3_broken wsX3_broken ({ frames := 6, cells := 0, slots := 0, locals := 170 }) (pu_Pc [.ref (ad 0), .int (jI ((d : Int))), .int (jI ((u : Int))), .int (jI (mg))] D vwCl (ty9 g) (fun H => bW D g ad z rl ff H)) (pu_Q (some (.int (jI (cCnt (cBrk (bCh z d) (bCh z u) mg) (cEnd (bCh z d) (bCh z u)) 13 1 0))))) 0 0 (fun _ => False) := by
  refine Met.ofW (cc := cX3_broken) (maxL := 4) (ret := some .int) (by decide) rfl ?_
  intro p e s m args below meth c s₁ B hml hv
  obtain ⟨rfl, hPic, hK⟩ := hv
  have hx := B.exec
  have hb := B.bytes
  have hr := B.returns
  have hts := atoms_spec (ws := wsX3_broken) B.pre
  have hown : s.vm.findClass RX3 = some m.cls := findClass_of_methodNamed B.named
  have hlocks := B.notSynchronized
  have hx0 : va_at D vwCl (ad 0, .inr (3, [.ref (ad 1), .int (jI ((bN z : Int))), .int (jI (bV z))])) s.heap := hPic 0 (by omega)
  have hx1 : va_at D vwCl (ad 1, .inl (g 2, 8, .inr (.inr (.inr (.inr (fun j => some (ad (2 + 12 * j)))))))) s.heap := hPic 1 (by omega)
  have hN := hz.1
  have hd0_d : va_at D vwCl (ad (2 + 12 * d), .inr (1, [.int (jI ((d : Int))), .ref (ad (2 + 12 * d + 1)), .ref (ad (2 + 12 * d + 5)), .ref (ad (2 + 12 * d + 10)), .ref (ad (2 + 12 * d + 11)), va_rf ((bU z d).map (fun u => ad (2 + 12 * u))), .int (jI ((bO z d : Int))), .int (jI ((bC z d : Int))), .int (jI (bZ z d))])) s.heap := bW_at hPic (i := d) (by omega) 0 (by omega)
  have hd0_u : va_at D vwCl (ad (2 + 12 * u), .inr (1, [.int (jI ((u : Int))), .ref (ad (2 + 12 * u + 1)), .ref (ad (2 + 12 * u + 5)), .ref (ad (2 + 12 * u + 10)), .ref (ad (2 + 12 * u + 11)), va_rf ((bU z u).map (fun u => ad (2 + 12 * u))), .int (jI ((bO z u : Int))), .int (jI ((bC z u : Int))), .int (jI (bZ z u))])) s.heap := bW_at hPic (i := u) (by omega) 0 (by omega)
  have f_S := hz.2.2.1 d (by omega)
  have hq_S : sAt D g (ad (2 + 12 * d + 6 + bC z d)) (bCh z d) s.heap := bW_set hPic (by omega) (by omega)
  have ok_S : sOK (bCh z d) := f_S.2.2.2.2.2 (bC z d) f_S.2.2.1
  obtain ⟨ac_S, ap_S, al_S, am_S, h1_S, -⟩ := id hq_S
  have f_T := hz.2.2.1 u (by omega)
  have hq_T : sAt D g (ad (2 + 12 * u + 6 + bC z u)) (bCh z u) s.heap := bW_set hPic (by omega) (by omega)
  have ok_T : sOK (bCh z u) := f_T.2.2.2.2.2 (bC z u) f_T.2.2.1
  obtain ⟨ac_T, ap_T, al_T, am_T, h1_T, -⟩ := id hq_T
  have hl := lv_entry ([.ref (ad 0), .int (jI ((d : Int))), .int (jI ((u : Int))), .int (jI (mg))]) (n := 4) (Nat.le_of_ble_eq_true rfl)
  rw [lg_entry_eq]
  generalize (lg_sl ([.ref (ad 0), .int (jI ((d : Int))), .int (jI ((u : Int))), .int (jI (mg))]) ++ List.replicate (4 - (lg_sl ([.ref (ad 0), .int (jI ((d : Int))), .int (jI ((u : Int))), .int (jI (mg))])).length) Slot.unset).toArray = ls at hl ⊢
  have hl : lv_has ls 4 [(0, .ref (ad 0)), (1, .int (jI ((d : Int)))), (2, .int (jI ((u : Int)))), (3, .int (jI (mg)))] := hl
  refine lv_iload_n hx hb dX3_broken_0 rfl (lv_at hl 1 rfl) ?_
  refine lv_iload_n hx hb dX3_broken_1 rfl (lv_at hl 2 rfl) ?_
  refine lv_iload_n hx hb dX3_broken_2 rfl (lv_at hl 3 rfl) ?_
  refine pu_call (va_runS (As := [.int (jI ((d : Int))), .int (jI ((u : Int))), .int (jI (mg))]) (rest := []) ⟨hx, hb, hml, hown, hts⟩ (c_demandPair l D g (d : Int) (u : Int) mg (by omega) (by omega) (by omega) hmg) (cwS 3 hts (gd_S kw_308 kw_309 kw_12 kcX3_demandPair) rfl rfl rfl (by decide +kernel) ⟨Nat.le_of_ble_eq_true rfl, Nat.le_of_ble_eq_true rfl⟩) (pu_preS trivial hK) rfl rfl hl.1 rfl (lv_room (Nat.le_of_ble_eq_true rfl)) dX3_broken_3 ⟨Nat.zero_le _, Nat.zero_le _⟩) ?_
  refine lv_aload_n hx hb dX3_broken_6 rfl (lv_at hl 0 rfl) ?_
  refine lv_iload_n hx hb dX3_broken_7 rfl (lv_at hl 1 rfl) ?_
  refine pu_call1 (va_runV (As := [.int (jI ((d : Int)))]) (rest := []) ⟨hx, hb, hml, hown, hts⟩ (c_known l D g ad z rl ff hz d hd) (cwV 1 hts (gd_V kw_140 kw_142 kw_0 kw_12 kcX3_known) rfl rfl rfl (by decide +kernel) ⟨Nat.le_of_ble_eq_true rfl, Nat.le_of_ble_eq_true rfl⟩) (pu_preV hPic hK rfl hx0) rfl rfl hl.1 rfl (lv_room (Nat.le_of_ble_eq_true rfl)) dX3_broken_8 ⟨Nat.zero_le _, Nat.zero_le _⟩) ?_
  refine pu_call1 (va_runV (As := []) (rest := []) ⟨hx, hb, hml, hown, hts⟩ (c_chosenSetting l D g ad z rl ff hz d (by omega)) (cwV 0 hts (gd_V kw_267 kw_268 kw_269 kw_13 kcX1_chosenSetting) rfl rfl rfl (by decide +kernel) ⟨Nat.le_of_ble_eq_true rfl, Nat.le_of_ble_eq_true rfl⟩) (pu_preV hPic hK rfl hd0_d) rfl rfl hl.1 rfl (lv_room (Nat.le_of_ble_eq_true rfl)) dX3_broken_11 ⟨Nat.zero_le _, Nat.zero_le _⟩) ?_
  refine lv_aload_n hx hb dX3_broken_14 rfl (lv_at hl 0 rfl) ?_
  refine lv_iload_n hx hb dX3_broken_15 rfl (lv_at hl 2 rfl) ?_
  refine pu_call1 (va_runV (As := [.int (jI ((u : Int)))]) (rest := [.ref (ad (2 + 12 * d + 6 + bC z d))]) ⟨hx, hb, hml, hown, hts⟩ (c_known l D g ad z rl ff hz u hu) (cwV 1 hts (gd_V kw_140 kw_142 kw_0 kw_12 kcX3_known) rfl rfl rfl (by decide +kernel) ⟨Nat.le_of_ble_eq_true rfl, Nat.le_of_ble_eq_true rfl⟩) (pu_preV hPic hK rfl hx0) rfl rfl hl.1 rfl (lv_room (Nat.le_of_ble_eq_true rfl)) dX3_broken_16 ⟨Nat.zero_le _, Nat.zero_le _⟩) ?_
  refine pu_call1 (va_runV (As := []) (rest := [.ref (ad (2 + 12 * d + 6 + bC z d))]) ⟨hx, hb, hml, hown, hts⟩ (c_chosenSetting l D g ad z rl ff hz u (by omega)) (cwV 0 hts (gd_V kw_267 kw_268 kw_269 kw_13 kcX1_chosenSetting) rfl rfl rfl (by decide +kernel) ⟨Nat.le_of_ble_eq_true rfl, Nat.le_of_ble_eq_true rfl⟩) (pu_preV hPic hK rfl hd0_u) rfl rfl hl.1 rfl (lv_room (Nat.le_of_ble_eq_true rfl)) dX3_broken_19 ⟨Nat.zero_le _, Nat.zero_le _⟩) ?_
  refine lv_iload_n hx hb dX3_broken_22 rfl (lv_at hl 3 rfl) ?_
  refine pu_call1 (va_runS (As := [.ref (ad (2 + 12 * d + 6 + bC z d)), .ref (ad (2 + 12 * u + 6 + bC z u)), .int (jI (mg))]) (rest := []) ⟨hx, hb, hml, hown, hts⟩ (c_countBroken l D g (ad (2 + 12 * d + 6 + bC z d)) (ad (2 + 12 * u + 6 + bC z u)) (bCh z d) (bCh z u) mg ok_S ok_T hmg) (cwS 3 hts (gd_S kw_340 kw_341 kw_12 kcX3_countBroken) rfl rfl rfl (by decide +kernel) ⟨Nat.le_of_ble_eq_true rfl, Nat.le_of_ble_eq_true rfl⟩) (pu_preS ⟨hq_S, hq_T⟩ hK) rfl rfl hl.1 rfl (lv_room (Nat.le_of_ble_eq_true rfl)) dX3_broken_23 ⟨Nat.zero_le _, Nat.zero_le _⟩) ?_
  exact pu_iret hx hb hr hlocks dX3_broken_26 (by rfl)
set_option maxHeartbeats 4000000 in
set_option maxRecDepth 100000 in
theorem c_chosen (l : Launch) (D : va_G) (g : Nat → ClassId) (ad : Nat → Nat) (z : bSt) (rl : Nat → Nat → Bool) (ff : Nat → Nat → Int) (hz : bOK z) (d : Nat) (hd : d < bN z) : Met l yX3_chosen wsX3_chosen ({ frames := 1, cells := 0, slots := 0, locals := 21 }) (pu_Pc [.ref (ad 0), .int (jI ((d : Int)))] D vwCl (ty9 g) (fun H => bW D g ad z rl ff H)) (pu_Q (some (.int (jI (bC z d : Int))))) 0 0 (fun _ => False) := by
  refine Met.ofW (cc := cX3_chosen) (maxL := 2) (ret := some .int) (by decide) rfl ?_
  intro p e s m args below meth c s₁ B hml hv
  obtain ⟨rfl, hPic, hK⟩ := hv
  have hx := B.exec
  have hb := B.bytes
  have hr := B.returns
  have hts := atoms_spec (ws := wsX3_chosen) B.pre
  have hown : s.vm.findClass RX3 = some m.cls := findClass_of_methodNamed B.named
  have hlocks := B.notSynchronized
  have hx0 : va_at D vwCl (ad 0, .inr (3, [.ref (ad 1), .int (jI ((bN z : Int))), .int (jI (bV z))])) s.heap := hPic 0 (by omega)
  have hx1 : va_at D vwCl (ad 1, .inl (g 2, 8, .inr (.inr (.inr (.inr (fun j => some (ad (2 + 12 * j)))))))) s.heap := hPic 1 (by omega)
  have hN := hz.1
  have hd0_d : va_at D vwCl (ad (2 + 12 * d), .inr (1, [.int (jI ((d : Int))), .ref (ad (2 + 12 * d + 1)), .ref (ad (2 + 12 * d + 5)), .ref (ad (2 + 12 * d + 10)), .ref (ad (2 + 12 * d + 11)), va_rf ((bU z d).map (fun u => ad (2 + 12 * u))), .int (jI ((bO z d : Int))), .int (jI ((bC z d : Int))), .int (jI (bZ z d))])) s.heap := bW_at hPic (i := d) (by omega) 0 (by omega)
  have hl := lv_entry ([.ref (ad 0), .int (jI ((d : Int)))]) (n := 2) (Nat.le_of_ble_eq_true rfl)
  rw [lg_entry_eq]
  generalize (lg_sl ([.ref (ad 0), .int (jI ((d : Int)))]) ++ List.replicate (2 - (lg_sl ([.ref (ad 0), .int (jI ((d : Int)))])).length) Slot.unset).toArray = ls at hl ⊢
  have hl : lv_has ls 2 [(0, .ref (ad 0)), (1, .int (jI ((d : Int))))] := hl
  refine lv_aload_n hx hb dX3_chosen_0 rfl (lv_at hl 0 rfl) ?_
  refine lv_iload_n hx hb dX3_chosen_1 rfl (lv_at hl 1 rfl) ?_
  refine pu_call1 (va_runV (As := [.int (jI ((d : Int)))]) (rest := []) ⟨hx, hb, hml, hown, hts⟩ (c_known l D g ad z rl ff hz d hd) (cwV 1 hts (gd_V kw_140 kw_142 kw_0 kw_12 kcX3_known) rfl rfl rfl (by decide +kernel) ⟨Nat.le_of_ble_eq_true rfl, Nat.le_of_ble_eq_true rfl⟩) (pu_preV hPic hK rfl hx0) rfl rfl hl.1 rfl (lv_room (Nat.le_of_ble_eq_true rfl)) dX3_chosen_2 ⟨Nat.zero_le _, Nat.zero_le _⟩) ?_
  refine va_get (D := D) (ci := 1) (v := .int (jI ((bC z d : Int)))) (C := RX1) (T := TX1) (N := 9) hx hb hts (fun w h => List.mem_cons_of_mem _ (uw_X1 w h)) hown hK (j_P1 hd0_d) 0 rfl rfl 7 (by decide) (hts _ (List.mem_cons_of_mem _ kw_99)) (fun _ h9 => h9) rfl dX3_chosen_5 ?_
  exact pu_iret hx hb hr hlocks dX3_chosen_8 (by rfl)
set_option maxHeartbeats 4000000 in
set_option maxRecDepth 100000 in
theorem c_shortCurrent (l : Launch) (D : va_G) (g : Nat → ClassId) (ad : Nat → Nat) (z : bSt) (rl : Nat → Nat → Bool) (ff : Nat → Nat → Int) (hz : bOK z) (i : Nat) (hi : i < bN z) : Met l yX3_shortCurrent wsX3_shortCurrent ({ frames := 1, cells := 0, slots := 0, locals := 21 }) (pu_Pc [.ref (ad 0), .ref (ad (2 + 12 * i))] D vwCl (ty9 g) (fun H => bW D g ad z rl ff H)) (pu_Q (some (.int (jI (bShort z i))))) 0 0 (fun _ => False) := by
  refine Met.ofW (cc := cX3_shortCurrent) (maxL := 5) (ret := some .int) (by decide) rfl ?_
  intro p e s m args below meth c s₁ B hml hv
  obtain ⟨rfl, hPic, hK⟩ := hv
  have hx := B.exec
  have hb := B.bytes
  have hr := B.returns
  have hts := atoms_spec (ws := wsX3_shortCurrent) B.pre
  have hown : s.vm.findClass RX3 = some m.cls := findClass_of_methodNamed B.named
  have hlocks := B.notSynchronized
  have hx0 : va_at D vwCl (ad 0, .inr (3, [.ref (ad 1), .int (jI ((bN z : Int))), .int (jI (bV z))])) s.heap := hPic 0 (by omega)
  have hx1 : va_at D vwCl (ad 1, .inl (g 2, 8, .inr (.inr (.inr (.inr (fun j => some (ad (2 + 12 * j)))))))) s.heap := hPic 1 (by omega)
  have hN := hz.1
  have hV := hz.2.1
  have r1 := bSum_range hz 9 i (by omega) hi
  have hl := lv_entry ([.ref (ad 0), .ref (ad (2 + 12 * i))]) (n := 5) (Nat.le_of_ble_eq_true rfl)
  rw [lg_entry_eq]
  generalize (lg_sl ([.ref (ad 0), .ref (ad (2 + 12 * i))]) ++ List.replicate (5 - (lg_sl ([.ref (ad 0), .ref (ad (2 + 12 * i))])).length) Slot.unset).toArray = ls at hl ⊢
  have hl : lv_has ls 5 [(0, .ref (ad 0)), (1, .ref (ad (2 + 12 * i)))] := hl
  refine jv_lconst (k := 0) hx hb dX3_shortCurrent_0 (by decide) ?_
  refine lv_lstore_n (lv' := [(2, .long (jL (0))), (0, .ref (ad 0)), (1, .ref (ad (2 + 12 * i)))]) hx hb dX3_shortCurrent_1 rfl hl (by decide) rfl (fun ls hl => ?_)
  refine lv_aload_n hx hb dX3_shortCurrent_2 rfl (lv_at hl 2 rfl) ?_
  refine lv_astore (lv' := [(4, .ref (ad (2 + 12 * i))), (2, .long (jL (0))), (0, .ref (ad 0)), (1, .ref (ad (2 + 12 * i)))]) hx hb dX3_shortCurrent_3 hl (by decide) rfl (fun ls hl => ?_)
  refine jw_loop (X := Option Nat × Int × Nat) (fun x => x.2.2) (fun x ls => ((∀ j, x.1 = some j → j < x.2.2 ∧ j < bN z) ∧ bSum z 9 (some i) = x.2.1 + bSum z x.2.2 x.1) ∧ lv_has ls 5 [(0, .ref (ad 0)), (1, .ref (ad (2 + 12 * i))), (2, .long (jL (x.2.1))), (4, va_rf (x.1.map (fun u => ad (2 + 12 * u))))]) ?_ (some i, 0, 9) ls ⟨⟨fun j hj => by cases hj; dsimp only; omega, by simp⟩, lv_sub hl [2, 3, 1, 0] rfl⟩
  intro x ls hinv ih
  obtain ⟨o, sm, k⟩ := x
  obtain ⟨⟨hj, he⟩, hl⟩ := hinv
  dsimp only at hj he
  cases o with
  | none =>
    rw [bSum_none, Int.add_zero] at he
    have hl : lv_has ls 5 [(0, .ref (ad 0)), (1, .ref (ad (2 + 12 * i))), (2, .long (jL (sm))), (4, .null)] := hl
    refine lv_aloadN hx hb dX3_shortCurrent_5 (lv_at hl 3 rfl) ?_
    refine lv_ifnullN (tgt := 29) hx hb dX3_shortCurrent_7 (by decide) ?_
    refine lv_lload_n hx hb dX3_shortCurrent_29 rfl (lv_at hl 2 rfl) ?_
    refine jv_lconst (k := 1) hx hb dX3_shortCurrent_30 (by decide) ?_
    refine jv_lcmp_ge (tgt := 37) hx hb dX3_shortCurrent_31 dX3_shortCurrent_32 (by decide) (by omega) (by omega) (fun c31 => ?_) (fun c31 => ?_)
    · refine jv_ldc2 (k := 5000) hx hb hown (hts _ (List.mem_cons_of_mem _ kw_396)) (by decide) dX3_shortCurrent_37 ?_
      refine jv_ldc2 (k := 1000) hx hb hown (hts _ (List.mem_cons_of_mem _ kw_397)) (by decide) dX3_shortCurrent_40 ?_
      refine lv_aload_n hx hb dX3_shortCurrent_43 rfl (lv_at hl 0 rfl) ?_
      refine va_get (D := D) (ci := 3) (v := .int (jI (bV z))) (C := RX3) (T := TX3) (N := 3) hx hb hts (fun w h => List.mem_cons_of_mem _ (uw_X3 w h)) hown hK (j_P1 hx0) 0 rfl rfl 2 (by decide) (hts _ (List.mem_cons_of_mem _ kw_123)) (fun _ h9 => h9) rfl dX3_shortCurrent_44 ?_
      refine jv_i2l hx hb dX3_shortCurrent_47 (by omega) ?_
      refine jv_lmul hx hb dX3_shortCurrent_48 ?_
      refine lv_lload_n hx hb dX3_shortCurrent_49 rfl (lv_at hl 2 rfl) ?_
      refine jv_ldiv hx hb dX3_shortCurrent_50 (by omega) (by omega) ?_
      have fq1 := Int.ediv_nonneg (show 0 ≤ 1000 * bV z by omega) (show 0 ≤ sm by omega)
      have fq2 := Int.ediv_le_self sm (show 0 ≤ 1000 * bV z by omega)
      refine va_mmin_long hx hb (hml.trans hl.1.symm) hown (hts _ (List.mem_cons_of_mem _ kw_398)) (hts _ (List.mem_cons_of_mem _ kw_399)) (hts _ (List.mem_cons_of_mem _ kw_22)) (hts _ (List.mem_cons_of_mem _ kw_400)) (Nat.le_of_ble_eq_true rfl) (Nat.le_of_ble_eq_true rfl) (Nat.zero_le _) (Nat.zero_le _) dX3_shortCurrent_51 ?_
      rw [jL_min (by omega) (by omega)]
      refine jv_l2i hx hb dX3_shortCurrent_54 ?_
      exact pu_iret hx hb hr hlocks dX3_shortCurrent_55 (by rw [bShort, he])
    · exact absurd c31 (by omega)
  | some j =>
    obtain ⟨hjk, hjN⟩ := hj j rfl
    have hl : lv_has ls 5 [(0, .ref (ad 0)), (1, .ref (ad (2 + 12 * i))), (2, .long (jL (sm))), (4, .ref (ad (2 + 12 * j)))] := hl
    have fj := hz.2.2.1 j (by omega)
    have hd0_j : va_at D vwCl (ad (2 + 12 * j), .inr (1, [.int (jI ((j : Int))), .ref (ad (2 + 12 * j + 1)), .ref (ad (2 + 12 * j + 5)), .ref (ad (2 + 12 * j + 10)), .ref (ad (2 + 12 * j + 11)), va_rf ((bU z j).map (fun u => ad (2 + 12 * u))), .int (jI ((bO z j : Int))), .int (jI ((bC z j : Int))), .int (jI (bZ z j))])) s.heap := bW_at hPic (i := j) (by omega) 0 (by omega)
    refine lv_aload hx hb dX3_shortCurrent_5 (lv_at hl 3 rfl) ?_
    refine lv_ifnull hx hb dX3_shortCurrent_7 ?_
    refine lv_lload_n hx hb dX3_shortCurrent_10 rfl (lv_at hl 2 rfl) ?_
    refine lv_aload hx hb dX3_shortCurrent_11 (lv_at hl 3 rfl) ?_
    refine va_get (D := D) (ci := 1) (v := .int (jI (bZ z j))) (C := RX1) (T := TX1) (N := 9) hx hb hts (fun w h => List.mem_cons_of_mem _ (uw_X1 w h)) hown hK (j_P1 hd0_j) 0 rfl rfl 8 (by decide) (hts _ (List.mem_cons_of_mem _ kw_101)) (fun _ h9 => h9) rfl dX3_shortCurrent_13 ?_
    refine jv_i2l hx hb dX3_shortCurrent_16 (by omega) ?_
    refine jv_ladd hx hb dX3_shortCurrent_17 ?_
    refine lv_lstore_n (lv' := [(2, .long (jL (sm + (bZ z j)))), (0, .ref (ad 0)), (1, .ref (ad (2 + 12 * i))), (4, .ref (ad (2 + 12 * j)))]) hx hb dX3_shortCurrent_18 rfl hl (by decide) rfl (fun ls hl => ?_)
    refine lv_aload hx hb dX3_shortCurrent_19 (lv_at hl 3 rfl) ?_
    refine va_get (D := D) (ci := 1) (v := va_rf ((bU z j).map (fun u => ad (2 + 12 * u)))) (C := RX1) (T := TX1) (N := 9) hx hb hts (fun w h => List.mem_cons_of_mem _ (uw_X1 w h)) hown hK (j_P1 hd0_j) 0 rfl rfl 5 (by decide) (hts _ (List.mem_cons_of_mem _ kw_95)) (fun _ h9 => h9) rfl dX3_shortCurrent_21 ?_
    refine jv_astore (lv' := [(4, va_rf ((bU z j).map (fun u => ad (2 + 12 * u)))), (2, .long (jL (sm + (bZ z j)))), (0, .ref (ad 0)), (1, .ref (ad (2 + 12 * i)))]) hx hb dX3_shortCurrent_24 hl (by decide) rfl (fun ls hl => ?_)
    refine lv_goto (tgt := 5) hx hb dX3_shortCurrent_26 (by decide) ?_
    exact ih (bU z j, sm + bZ z j, k - 1) ls ⟨⟨fun u hu => by have := hz.2.2.2 j u hjN hu; dsimp only; omega, by dsimp only; rw [he, bSum_some hjk]; omega⟩, lv_sub hl [2, 3, 1, 0] rfl⟩ (by dsimp only; omega)
set_option maxHeartbeats 4000000 in
set_option maxRecDepth 100000 in
theorem c_quickestOnWay (l : Launch) (D : va_G) (g : Nat → ClassId) (ad : Nat → Nat) (z : bSt) (rl : Nat → Nat → Bool) (ff : Nat → Nat → Int) (hz : bOK z) (i : Nat) (I : Int) (hi : i < bN z) (hI : 0 ≤ I ∧ I ≤ 5000) : Met l yX3_quickestOnWay wsX3_quickestOnWay ({ frames := 2, cells := 0, slots := 0, locals := 65 }) (pu_Pc [.ref (ad (2 + 12 * i)), .int (jI (I))] D vwCl (ty9 g) (fun H => bW D g ad z rl ff H)) (pu_Q (some (.ref (ad (2 + 12 * (bQk z I 9 (bU z i) i) + 6 + bC z (bQk z I 9 (bU z i) i)))))) 0 0 (fun _ => False) := by
  refine Met.ofW (cc := cX3_quickestOnWay) (maxL := 4) (ret := some (.object "BreakerOrders$Setting")) (by decide) rfl ?_
  intro p e s m args below meth c s₁ B hml hv
  obtain ⟨rfl, hPic, hK⟩ := hv
  have hx := B.exec
  have hb := B.bytes
  have hr := B.returns
  have hts := atoms_spec (ws := wsX3_quickestOnWay) B.pre
  have hown : s.vm.findClass RX3 = some m.cls := findClass_of_methodNamed B.named
  have hlocks := B.notSynchronized
  have hN := hz.1
  have hd0_i : va_at D vwCl (ad (2 + 12 * i), .inr (1, [.int (jI ((i : Int))), .ref (ad (2 + 12 * i + 1)), .ref (ad (2 + 12 * i + 5)), .ref (ad (2 + 12 * i + 10)), .ref (ad (2 + 12 * i + 11)), va_rf ((bU z i).map (fun u => ad (2 + 12 * u))), .int (jI ((bO z i : Int))), .int (jI ((bC z i : Int))), .int (jI (bZ z i))])) s.heap := bW_at hPic (i := i) (by omega) 0 (by omega)
  have hl := lv_entry ([.ref (ad (2 + 12 * i)), .int (jI (I))]) (n := 4) (Nat.le_of_ble_eq_true rfl)
  rw [lg_entry_eq]
  generalize (lg_sl ([.ref (ad (2 + 12 * i)), .int (jI (I))]) ++ List.replicate (4 - (lg_sl ([.ref (ad (2 + 12 * i)), .int (jI (I))])).length) Slot.unset).toArray = ls at hl ⊢
  have hl : lv_has ls 4 [(0, .ref (ad (2 + 12 * i))), (1, .int (jI (I)))] := hl
  refine lv_aload_n hx hb dX3_quickestOnWay_0 rfl (lv_at hl 0 rfl) ?_
  refine pu_call1 (va_runV (As := []) (rest := []) ⟨hx, hb, hml, hown, hts⟩ (c_chosenSetting l D g ad z rl ff hz i (by omega)) (cwV 0 hts (gd_V kw_267 kw_268 kw_269 kw_13 kcX1_chosenSetting) rfl rfl rfl (by decide +kernel) ⟨Nat.le_of_ble_eq_true rfl, Nat.le_of_ble_eq_true rfl⟩) (pu_preV hPic hK rfl hd0_i) rfl rfl hl.1 rfl (lv_room (Nat.le_of_ble_eq_true rfl)) dX3_quickestOnWay_1 ⟨Nat.zero_le _, Nat.zero_le _⟩) ?_
  refine lv_astore_n (lv' := [(2, .ref (ad (2 + 12 * i + 6 + bC z i))), (0, .ref (ad (2 + 12 * i))), (1, .int (jI (I)))]) hx hb dX3_quickestOnWay_4 rfl hl (by decide) rfl (fun ls hl => ?_)
  refine lv_aload_n hx hb dX3_quickestOnWay_5 rfl (lv_at hl 1 rfl) ?_
  refine va_get (D := D) (ci := 1) (v := va_rf ((bU z i).map (fun u => ad (2 + 12 * u)))) (C := RX1) (T := TX1) (N := 9) hx hb hts (fun w h => List.mem_cons_of_mem _ (uw_X1 w h)) hown hK (j_P1 hd0_i) 0 rfl rfl 5 (by decide) (hts _ (List.mem_cons_of_mem _ kw_95)) (fun _ h9 => h9) rfl dX3_quickestOnWay_6 ?_
  refine jv_astore_n (lv' := [(3, va_rf ((bU z i).map (fun u => ad (2 + 12 * u)))), (2, .ref (ad (2 + 12 * i + 6 + bC z i))), (0, .ref (ad (2 + 12 * i))), (1, .int (jI (I)))]) hx hb dX3_quickestOnWay_9 rfl hl (by decide) rfl (fun ls hl => ?_)
  refine jw_loop (X := Option Nat × Nat × Nat) (fun x => x.2.2) (fun x ls => ((∀ j, x.1 = some j → j < x.2.2 ∧ j < bN z) ∧ x.2.1 < bN z ∧ bQk z I 9 (bU z i) i = bQk z I x.2.2 x.1 x.2.1) ∧ lv_has ls 4 [(0, .ref (ad (2 + 12 * i))), (1, .int (jI (I))), (2, .ref (ad (2 + 12 * x.2.1 + 6 + bC z x.2.1))), (3, va_rf (x.1.map (fun u => ad (2 + 12 * u))))]) ?_ (bU z i, i, 9) ls ⟨⟨fun j hj => by have := hz.2.2.2 i j hi hj; dsimp only; omega, hi, rfl⟩, lv_sub hl [2, 3, 1, 0] rfl⟩
  intro x ls hinv ih
  obtain ⟨o, b, k⟩ := x
  obtain ⟨⟨hj, hbN, he⟩, hl⟩ := hinv
  dsimp only at hj hbN he
  cases o with
  | none =>
    rw [bQk_none] at he
    have hl : lv_has ls 4 [(0, .ref (ad (2 + 12 * i))), (1, .int (jI (I))), (2, .ref (ad (2 + 12 * b + 6 + bC z b))), (3, .null)] := hl
    refine lv_aload_nN hx hb dX3_quickestOnWay_10 rfl (lv_at hl 3 rfl) ?_
    refine lv_ifnullN (tgt := 42) hx hb dX3_quickestOnWay_11 (by decide) ?_
    refine lv_aload_n hx hb dX3_quickestOnWay_42 rfl (lv_at hl 2 rfl) ?_
    exact pu_aret hx hb hr hlocks dX3_quickestOnWay_43 (by rw [he])
  | some j =>
    obtain ⟨hjk, hjN⟩ := hj j rfl
    have hl : lv_has ls 4 [(0, .ref (ad (2 + 12 * i))), (1, .int (jI (I))), (2, .ref (ad (2 + 12 * b + 6 + bC z b))), (3, .ref (ad (2 + 12 * j)))] := hl
    have hd0_j : va_at D vwCl (ad (2 + 12 * j), .inr (1, [.int (jI ((j : Int))), .ref (ad (2 + 12 * j + 1)), .ref (ad (2 + 12 * j + 5)), .ref (ad (2 + 12 * j + 10)), .ref (ad (2 + 12 * j + 11)), va_rf ((bU z j).map (fun u => ad (2 + 12 * u))), .int (jI ((bO z j : Int))), .int (jI ((bC z j : Int))), .int (jI (bZ z j))])) s.heap := bW_at hPic (i := j) (by omega) 0 (by omega)
    have f_j := hz.2.2.1 j (by omega)
    have hq_j : sAt D g (ad (2 + 12 * j + 6 + bC z j)) (bCh z j) s.heap := bW_set hPic (by omega) (by omega)
    have ok_j : sOK (bCh z j) := f_j.2.2.2.2.2 (bC z j) f_j.2.2.1
    obtain ⟨ac_j, ap_j, al_j, am_j, h1_j, -⟩ := id hq_j
    have f_b := hz.2.2.1 b (by omega)
    have hq_b : sAt D g (ad (2 + 12 * b + 6 + bC z b)) (bCh z b) s.heap := bW_set hPic (by omega) (by omega)
    have ok_b : sOK (bCh z b) := f_b.2.2.2.2.2 (bC z b) f_b.2.2.1
    obtain ⟨ac_b, ap_b, al_b, am_b, h1_b, -⟩ := id hq_b
    refine lv_aload_n hx hb dX3_quickestOnWay_10 rfl (lv_at hl 3 rfl) ?_
    refine lv_ifnull hx hb dX3_quickestOnWay_11 ?_
    refine lv_aload_n hx hb dX3_quickestOnWay_14 rfl (lv_at hl 3 rfl) ?_
    refine pu_call1 (va_runV (As := []) (rest := []) ⟨hx, hb, hml, hown, hts⟩ (c_chosenSetting l D g ad z rl ff hz j (by omega)) (cwV 0 hts (gd_V kw_267 kw_268 kw_269 kw_13 kcX1_chosenSetting) rfl rfl rfl (by decide +kernel) ⟨Nat.le_of_ble_eq_true rfl, Nat.le_of_ble_eq_true rfl⟩) (pu_preV hPic hK rfl hd0_j) rfl rfl hl.1 rfl (lv_room (Nat.le_of_ble_eq_true rfl)) dX3_quickestOnWay_15 ⟨Nat.zero_le _, Nat.zero_le _⟩) ?_
    refine jv_iconst hx hb dX3_quickestOnWay_18 ?_
    refine jv_iconst hx hb dX3_quickestOnWay_19 ?_
    refine lv_aload_n hx hb dX3_quickestOnWay_20 rfl (lv_at hl 2 rfl) ?_
    refine jv_iconst hx hb dX3_quickestOnWay_21 ?_
    refine lv_iload_n hx hb dX3_quickestOnWay_22 rfl (lv_at hl 1 rfl) ?_
    refine pu_call1 (va_runV (As := [.int (jI (bI true)), .int (jI (0)), .ref (ad (2 + 12 * b + 6 + bC z b)), .int (jI (bI true)), .int (jI (I))]) (rest := []) ⟨hx, hb, hml, hown, hts⟩ (c_isWithin l D g (ad (2 + 12 * j + 6 + bC z j)) (ad (2 + 12 * b + 6 + bC z b)) (bCh z j) (bCh z b) true true 0 I ok_j ok_b (by omega) (by omega)) (cwV 5 hts (gd_V kw_325 kw_326 kw_327 kw_15 kcX2_isWithin) rfl rfl rfl (by decide +kernel) ⟨Nat.le_of_ble_eq_true rfl, Nat.le_of_ble_eq_true rfl⟩) (pu_preV ⟨hq_j, hq_b⟩ hK rfl h1_j) rfl rfl hl.1 rfl (lv_room (Nat.le_of_ble_eq_true rfl)) dX3_quickestOnWay_23 ⟨Nat.zero_le _, Nat.zero_le _⟩) ?_
    refine jv_if_eq (tgt := 34) hx hb dX3_quickestOnWay_26 (by decide) (bI_rng _) (fun c26 => ?_) (fun c26 => ?_)
    · have c26 := bI_fa c26
      refine lv_aload_n hx hb dX3_quickestOnWay_34 rfl (lv_at hl 3 rfl) ?_
      refine va_get (D := D) (ci := 1) (v := va_rf ((bU z j).map (fun u => ad (2 + 12 * u)))) (C := RX1) (T := TX1) (N := 9) hx hb hts (fun w h => List.mem_cons_of_mem _ (uw_X1 w h)) hown hK (j_P1 hd0_j) 0 rfl rfl 5 (by decide) (hts _ (List.mem_cons_of_mem _ kw_95)) (fun _ h9 => h9) rfl dX3_quickestOnWay_35 ?_
      refine jv_astore_n (lv' := [(3, va_rf ((bU z j).map (fun u => ad (2 + 12 * u)))), (0, .ref (ad (2 + 12 * i))), (1, .int (jI (I))), (2, .ref (ad (2 + 12 * b + 6 + bC z b)))]) hx hb dX3_quickestOnWay_38 rfl hl (by decide) rfl (fun ls hl => ?_)
      refine lv_goto (tgt := 10) hx hb dX3_quickestOnWay_39 (by decide) ?_
      exact ih (bU z j, b, k - 1) ls ⟨⟨fun u hu => by have := hz.2.2.2 j u hjN hu; dsimp only; omega, by dsimp only; omega, by dsimp only; rw [he, bQk_some hjk, c26, if_neg (by decide)]⟩, lv_sub hl [1, 2, 3, 0] rfl⟩ (by dsimp only; omega)
    · have c26 := bI_tr c26
      refine lv_aload_n hx hb dX3_quickestOnWay_29 rfl (lv_at hl 3 rfl) ?_
      refine pu_call1 (va_runV (As := []) (rest := []) ⟨hx, hb, hml, hown, hts⟩ (c_chosenSetting l D g ad z rl ff hz j (by omega)) (cwV 0 hts (gd_V kw_267 kw_268 kw_269 kw_13 kcX1_chosenSetting) rfl rfl rfl (by decide +kernel) ⟨Nat.le_of_ble_eq_true rfl, Nat.le_of_ble_eq_true rfl⟩) (pu_preV hPic hK rfl hd0_j) rfl rfl hl.1 rfl (lv_room (Nat.le_of_ble_eq_true rfl)) dX3_quickestOnWay_30 ⟨Nat.zero_le _, Nat.zero_le _⟩) ?_
      refine lv_astore_n (lv' := [(2, .ref (ad (2 + 12 * j + 6 + bC z j))), (0, .ref (ad (2 + 12 * i))), (1, .int (jI (I))), (3, .ref (ad (2 + 12 * j)))]) hx hb dX3_quickestOnWay_33 rfl hl (by decide) rfl (fun ls hl => ?_)
      refine lv_aload_n hx hb dX3_quickestOnWay_34 rfl (lv_at hl 3 rfl) ?_
      refine va_get (D := D) (ci := 1) (v := va_rf ((bU z j).map (fun u => ad (2 + 12 * u)))) (C := RX1) (T := TX1) (N := 9) hx hb hts (fun w h => List.mem_cons_of_mem _ (uw_X1 w h)) hown hK (j_P1 hd0_j) 0 rfl rfl 5 (by decide) (hts _ (List.mem_cons_of_mem _ kw_95)) (fun _ h9 => h9) rfl dX3_quickestOnWay_35 ?_
      refine jv_astore_n (lv' := [(3, va_rf ((bU z j).map (fun u => ad (2 + 12 * u)))), (2, .ref (ad (2 + 12 * j + 6 + bC z j))), (0, .ref (ad (2 + 12 * i))), (1, .int (jI (I)))]) hx hb dX3_quickestOnWay_38 rfl hl (by decide) rfl (fun ls hl => ?_)
      refine lv_goto (tgt := 10) hx hb dX3_quickestOnWay_39 (by decide) ?_
      exact ih (bU z j, j, k - 1) ls ⟨⟨fun u hu => by have := hz.2.2.2 j u hjN hu; dsimp only; omega, by dsimp only; omega, by dsimp only; rw [he, bQk_some hjk, c26, if_pos rfl]⟩, lv_sub hl [2, 3, 1, 0] rfl⟩ (by dsimp only; omega)
set_option maxHeartbeats 4000000 in
set_option maxRecDepth 100000 in
theorem c_shortAt (l : Launch) (D : va_G) (g : Nat → ClassId) (ad : Nat → Nat) (z : bSt) (rl : Nat → Nat → Bool) (ff : Nat → Nat → Int) (hz : bOK z) (d : Nat) (hd : d < bN z) : Met l yX3_shortAt wsX3_shortAt ({ frames := 2, cells := 0, slots := 0, locals := 45 }) (pu_Pc [.ref (ad 0), .int (jI ((d : Int)))] D vwCl (ty9 g) (fun H => bW D g ad z rl ff H)) (pu_Q (some (.int (jI (bShort z d))))) 0 0 (fun _ => False) := by
  refine Met.ofW (cc := cX3_shortAt) (maxL := 2) (ret := some .int) (by decide) rfl ?_
  intro p e s m args below meth c s₁ B hml hv
  obtain ⟨rfl, hPic, hK⟩ := hv
  have hx := B.exec
  have hb := B.bytes
  have hr := B.returns
  have hts := atoms_spec (ws := wsX3_shortAt) B.pre
  have hown : s.vm.findClass RX3 = some m.cls := findClass_of_methodNamed B.named
  have hlocks := B.notSynchronized
  have hx0 : va_at D vwCl (ad 0, .inr (3, [.ref (ad 1), .int (jI ((bN z : Int))), .int (jI (bV z))])) s.heap := hPic 0 (by omega)
  have hx1 : va_at D vwCl (ad 1, .inl (g 2, 8, .inr (.inr (.inr (.inr (fun j => some (ad (2 + 12 * j)))))))) s.heap := hPic 1 (by omega)
  have hN := hz.1
  have hl := lv_entry ([.ref (ad 0), .int (jI ((d : Int)))]) (n := 2) (Nat.le_of_ble_eq_true rfl)
  rw [lg_entry_eq]
  generalize (lg_sl ([.ref (ad 0), .int (jI ((d : Int)))]) ++ List.replicate (2 - (lg_sl ([.ref (ad 0), .int (jI ((d : Int)))])).length) Slot.unset).toArray = ls at hl ⊢
  have hl : lv_has ls 2 [(0, .ref (ad 0)), (1, .int (jI ((d : Int))))] := hl
  refine lv_aload_n hx hb dX3_shortAt_0 rfl (lv_at hl 0 rfl) ?_
  refine lv_aload_n hx hb dX3_shortAt_1 rfl (lv_at hl 0 rfl) ?_
  refine lv_iload_n hx hb dX3_shortAt_2 rfl (lv_at hl 1 rfl) ?_
  refine pu_call1 (va_runV (As := [.int (jI ((d : Int)))]) (rest := [.ref (ad 0)]) ⟨hx, hb, hml, hown, hts⟩ (c_known l D g ad z rl ff hz d hd) (cwV 1 hts (gd_V kw_140 kw_142 kw_0 kw_12 kcX3_known) rfl rfl rfl (by decide +kernel) ⟨Nat.le_of_ble_eq_true rfl, Nat.le_of_ble_eq_true rfl⟩) (pu_preV hPic hK rfl hx0) rfl rfl hl.1 rfl (lv_room (Nat.le_of_ble_eq_true rfl)) dX3_shortAt_3 ⟨Nat.zero_le _, Nat.zero_le _⟩) ?_
  refine pu_call1 (va_runV (As := [.ref (ad (2 + 12 * d))]) (rest := []) ⟨hx, hb, hml, hown, hts⟩ (c_shortCurrent l D g ad z rl ff hz d hd) (cwV 1 hts (gd_V kw_392 kw_394 kw_2 kw_12 kcX3_shortCurrent) rfl rfl rfl (by decide +kernel) ⟨Nat.le_of_ble_eq_true rfl, Nat.le_of_ble_eq_true rfl⟩) (pu_preV hPic hK rfl hx0) rfl rfl hl.1 rfl (lv_room (Nat.le_of_ble_eq_true rfl)) dX3_shortAt_6 ⟨Nat.zero_le _, Nat.zero_le _⟩) ?_
  exact pu_iret hx hb hr hlocks dX3_shortAt_9 (by rfl)
set_option maxHeartbeats 4000000 in
set_option maxRecDepth 100000 in
theorem c_opens (l : Launch) (D : va_G) (g : Nat → ClassId) (ad : Nat → Nat) (z : bSt) (rl : Nat → Nat → Bool) (ff : Nat → Nat → Int) (hz : bOK z) (d : Nat) (kk : Int) (hd : d < bN z) (hk : 0 ≤ kk ∧ kk < 2147483648) : Met l yX3_opens wsX3_opens ({ frames := 3, cells := 0, slots := 0, locals := 88 }) (pu_Pc [.ref (ad 0), .int (jI ((d : Int))), .int (jI (kk))] D vwCl (ty9 g) (fun H => bW D g ad z rl ff H)) (pu_Q (some (.int (jI (if cPiece (bCh z (bQk z (bShort z d) 9 (bU z d) d)) (bShort z d) = -1 then -1 else bOp z (bShort z d) (bQk z (bShort z d) 9 (bU z d) d) 9 (some d) kk))))) 0 0 (fun _ => False) := by
  refine Met.ofW (cc := cX3_opens) (maxL := 8) (ret := some .int) (by decide) rfl ?_
  intro p e s m args below meth c s₁ B hml hv
  obtain ⟨rfl, hPic, hK⟩ := hv
  have hx := B.exec
  have hb := B.bytes
  have hr := B.returns
  have hts := atoms_spec (ws := wsX3_opens) B.pre
  have hown : s.vm.findClass RX3 = some m.cls := findClass_of_methodNamed B.named
  have hlocks := B.notSynchronized
  have hx0 : va_at D vwCl (ad 0, .inr (3, [.ref (ad 1), .int (jI ((bN z : Int))), .int (jI (bV z))])) s.heap := hPic 0 (by omega)
  have hx1 : va_at D vwCl (ad 1, .inl (g 2, 8, .inr (.inr (.inr (.inr (fun j => some (ad (2 + 12 * j)))))))) s.heap := hPic 1 (by omega)
  have hN := hz.1
  have rI := bShort_range hz d hd
  generalize hIe : bShort z d = I at rI ⊢
  have hqN : bQk z I 9 (bU z d) d < bN z := bQk_lt hz 9 (bU z d) d (fun u hu => by have := hz.2.2.2 d u hd hu; omega) hd
  generalize hQe : bQk z I 9 (bU z d) d = b at hqN ⊢
  have f_b := hz.2.2.1 b (by omega)
  have hq_b : sAt D g (ad (2 + 12 * b + 6 + bC z b)) (bCh z b) s.heap := bW_set hPic (by omega) (by omega)
  have ok_b : sOK (bCh z b) := f_b.2.2.2.2.2 (bC z b) f_b.2.2.1
  obtain ⟨ac_b, ap_b, al_b, am_b, h1_b, -⟩ := id hq_b
  have rP := cPiece_range (bCh z b) I
  have nb := ok_b.1
  have hl := lv_entry ([.ref (ad 0), .int (jI ((d : Int))), .int (jI (kk))]) (n := 8) (Nat.le_of_ble_eq_true rfl)
  rw [lg_entry_eq]
  generalize (lg_sl ([.ref (ad 0), .int (jI ((d : Int))), .int (jI (kk))]) ++ List.replicate (8 - (lg_sl ([.ref (ad 0), .int (jI ((d : Int))), .int (jI (kk))])).length) Slot.unset).toArray = ls at hl ⊢
  have hl : lv_has ls 8 [(0, .ref (ad 0)), (1, .int (jI ((d : Int)))), (2, .int (jI (kk)))] := hl
  refine lv_aload_n hx hb dX3_opens_0 rfl (lv_at hl 0 rfl) ?_
  refine lv_iload_n hx hb dX3_opens_1 rfl (lv_at hl 1 rfl) ?_
  refine pu_call1 (va_runV (As := [.int (jI ((d : Int)))]) (rest := []) ⟨hx, hb, hml, hown, hts⟩ (c_known l D g ad z rl ff hz d hd) (cwV 1 hts (gd_V kw_140 kw_142 kw_0 kw_12 kcX3_known) rfl rfl rfl (by decide +kernel) ⟨Nat.le_of_ble_eq_true rfl, Nat.le_of_ble_eq_true rfl⟩) (pu_preV hPic hK rfl hx0) rfl rfl hl.1 rfl (lv_room (Nat.le_of_ble_eq_true rfl)) dX3_opens_2 ⟨Nat.zero_le _, Nat.zero_le _⟩) ?_
  refine lv_astore_n (lv' := [(3, .ref (ad (2 + 12 * d))), (0, .ref (ad 0)), (1, .int (jI ((d : Int)))), (2, .int (jI (kk)))]) hx hb dX3_opens_5 rfl hl (by decide) rfl (fun ls hl => ?_)
  refine lv_iload_n hx hb dX3_opens_6 rfl (lv_at hl 3 rfl) ?_
  refine jv_iconst hx hb dX3_opens_7 ?_
  refine jv_ldc (k := 2147483647) hx hb hown (hts _ (List.mem_cons_of_mem _ kw_408)) (by decide) dX3_opens_8 ?_
  refine pu_call (va_runS (As := [.int (jI (kk)), .int (jI (0)), .int (jI (2147483647))]) (rest := []) ⟨hx, hb, hml, hown, hts⟩ (c_demandWithin l D g kk 0 2147483647 (by omega) (by omega) (by omega) (by omega)) (cwS 3 hts (gd_S kw_234 kw_235 kw_12 kcX3_demandWithin) rfl rfl rfl (by decide +kernel) ⟨Nat.le_of_ble_eq_true rfl, Nat.le_of_ble_eq_true rfl⟩) (pu_preS trivial hK) rfl rfl hl.1 rfl (lv_room (Nat.le_of_ble_eq_true rfl)) dX3_opens_10 ⟨Nat.zero_le _, Nat.zero_le _⟩) ?_
  refine lv_aload_n hx hb dX3_opens_13 rfl (lv_at hl 1 rfl) ?_
  refine lv_aload_n hx hb dX3_opens_14 rfl (lv_at hl 0 rfl) ?_
  refine pu_call1 (va_runV (As := [.ref (ad (2 + 12 * d))]) (rest := []) ⟨hx, hb, hml, hown, hts⟩ (c_shortCurrent l D g ad z rl ff hz d hd) (cwV 1 hts (gd_V kw_392 kw_394 kw_2 kw_12 kcX3_shortCurrent) rfl rfl rfl (by decide +kernel) ⟨Nat.le_of_ble_eq_true rfl, Nat.le_of_ble_eq_true rfl⟩) (pu_preV hPic hK rfl hx0) rfl rfl hl.1 rfl (lv_room (Nat.le_of_ble_eq_true rfl)) dX3_opens_15 ⟨Nat.zero_le _, Nat.zero_le _⟩) ?_
  rw [hIe]
  refine lv_istore (lv' := [(4, .int (jI (I))), (3, .ref (ad (2 + 12 * d))), (0, .ref (ad 0)), (1, .int (jI ((d : Int)))), (2, .int (jI (kk)))]) hx hb dX3_opens_18 hl (by decide) rfl (fun ls hl => ?_)
  refine lv_aload_n hx hb dX3_opens_20 rfl (lv_at hl 1 rfl) ?_
  refine lv_iload hx hb dX3_opens_21 (lv_at hl 0 rfl) ?_
  refine pu_call1 (va_runS (As := [.ref (ad (2 + 12 * d)), .int (jI (I))]) (rest := []) ⟨hx, hb, hml, hown, hts⟩ (c_quickestOnWay l D g ad z rl ff hz d I hd rI) (cwS 2 hts (gd_S kw_409 kw_410 kw_12 kcX3_quickestOnWay) rfl rfl rfl (by decide +kernel) ⟨Nat.le_of_ble_eq_true rfl, Nat.le_of_ble_eq_true rfl⟩) (pu_preS hPic hK) rfl rfl hl.1 rfl (lv_room (Nat.le_of_ble_eq_true rfl)) dX3_opens_23 ⟨Nat.zero_le _, Nat.zero_le _⟩) ?_
  rw [hQe]
  refine lv_astore (lv' := [(5, .ref (ad (2 + 12 * b + 6 + bC z b))), (4, .int (jI (I))), (3, .ref (ad (2 + 12 * d))), (0, .ref (ad 0)), (1, .int (jI ((d : Int)))), (2, .int (jI (kk)))]) hx hb dX3_opens_26 hl (by decide) rfl (fun ls hl => ?_)
  refine lv_aload hx hb dX3_opens_28 (lv_at hl 0 rfl) ?_
  refine lv_iload hx hb dX3_opens_30 (lv_at hl 1 rfl) ?_
  refine pu_call1 (va_runV (As := [.int (jI (I))]) (rest := []) ⟨hx, hb, hml, hown, hts⟩ (c_pieceAt l D g (ad (2 + 12 * b + 6 + bC z b)) (bCh z b) I ok_b rI) (cwV 1 hts (gd_V kw_271 kw_272 kw_273 kw_15 kcX2_pieceAt) rfl rfl rfl (by decide +kernel) ⟨Nat.le_of_ble_eq_true rfl, Nat.le_of_ble_eq_true rfl⟩) (pu_preV hq_b hK rfl h1_b) rfl rfl hl.1 rfl (lv_room (Nat.le_of_ble_eq_true rfl)) dX3_opens_32 ⟨Nat.zero_le _, Nat.zero_le _⟩) ?_
  refine jv_iconst hx hb dX3_opens_35 ?_
  refine jv_icmp_ne (tgt := 41) hx hb dX3_opens_36 (by decide) (by omega) (by omega) (fun c36 => ?_) (fun c36 => ?_)
  · refine lv_iload_n hx hb dX3_opens_41 rfl (lv_at hl 5 rfl) ?_
    refine lv_istore (lv' := [(6, .int (jI (kk))), (5, .ref (ad (2 + 12 * b + 6 + bC z b))), (4, .int (jI (I))), (3, .ref (ad (2 + 12 * d))), (0, .ref (ad 0)), (1, .int (jI ((d : Int)))), (2, .int (jI (kk)))]) hx hb dX3_opens_42 hl (by decide) rfl (fun ls hl => ?_)
    refine lv_aload_n hx hb dX3_opens_44 rfl (lv_at hl 3 rfl) ?_
    refine lv_astore (lv' := [(7, .ref (ad (2 + 12 * d))), (6, .int (jI (kk))), (5, .ref (ad (2 + 12 * b + 6 + bC z b))), (4, .int (jI (I))), (3, .ref (ad (2 + 12 * d))), (0, .ref (ad 0)), (1, .int (jI ((d : Int)))), (2, .int (jI (kk)))]) hx hb dX3_opens_45 hl (by decide) rfl (fun ls hl => ?_)
    rw [if_neg c36]
    refine jw_loop (X := Option Nat × Int × Nat) (fun x => x.2.2) (fun x ls => ((∀ j, x.1 = some j → j < x.2.2 ∧ j < bN z) ∧ (0 ≤ x.2.1 ∧ x.2.1 < 2147483648) ∧ bOp z I b 9 (some d) kk = bOp z I b x.2.2 x.1 x.2.1) ∧ lv_has ls 8 [(0, .ref (ad 0)), (1, .int (jI ((d : Int)))), (2, .int (jI (kk))), (3, .ref (ad (2 + 12 * d))), (4, .int (jI (I))), (5, .ref (ad (2 + 12 * b + 6 + bC z b))), (6, .int (jI (x.2.1))), (7, va_rf (x.1.map (fun u => ad (2 + 12 * u))))]) ?_ (some d, kk, 9) ls ⟨⟨fun j hj => by cases hj; dsimp only; omega, hk, rfl⟩, lv_sub hl [5, 6, 7, 4, 3, 2, 1, 0] rfl⟩
    intro x ls hinv ih
    obtain ⟨o, a, k⟩ := x
    obtain ⟨⟨hj, ha, he⟩, hl⟩ := hinv
    dsimp only at hj ha he
    cases o with
    | none =>
      rw [bOp_none] at he
      have hl : lv_has ls 8 [(0, .ref (ad 0)), (1, .int (jI ((d : Int)))), (2, .int (jI (kk))), (3, .ref (ad (2 + 12 * d))), (4, .int (jI (I))), (5, .ref (ad (2 + 12 * b + 6 + bC z b))), (6, .int (jI (a))), (7, .null)] := hl
      refine lv_aloadN hx hb dX3_opens_47 (lv_at hl 7 rfl) ?_
      refine lv_ifnullN (tgt := 94) hx hb dX3_opens_49 (by decide) ?_
      refine jv_iconst hx hb dX3_opens_94 ?_
      exact pu_iret hx hb hr hlocks dX3_opens_95 (by rw [he])
    | some j =>
      obtain ⟨hjk, hjN⟩ := hj j rfl
      have hl : lv_has ls 8 [(0, .ref (ad 0)), (1, .int (jI ((d : Int)))), (2, .int (jI (kk))), (3, .ref (ad (2 + 12 * d))), (4, .int (jI (I))), (5, .ref (ad (2 + 12 * b + 6 + bC z b))), (6, .int (jI (a))), (7, .ref (ad (2 + 12 * j)))] := hl
      have hd0_j : va_at D vwCl (ad (2 + 12 * j), .inr (1, [.int (jI ((j : Int))), .ref (ad (2 + 12 * j + 1)), .ref (ad (2 + 12 * j + 5)), .ref (ad (2 + 12 * j + 10)), .ref (ad (2 + 12 * j + 11)), va_rf ((bU z j).map (fun u => ad (2 + 12 * u))), .int (jI ((bO z j : Int))), .int (jI ((bC z j : Int))), .int (jI (bZ z j))])) s.heap := bW_at hPic (i := j) (by omega) 0 (by omega)
      have f_j := hz.2.2.1 j (by omega)
      have hq_j : sAt D g (ad (2 + 12 * j + 6 + bC z j)) (bCh z j) s.heap := bW_set hPic (by omega) (by omega)
      have ok_j : sOK (bCh z j) := f_j.2.2.2.2.2 (bC z j) f_j.2.2.1
      obtain ⟨ac_j, ap_j, al_j, am_j, h1_j, -⟩ := id hq_j
      refine lv_aload hx hb dX3_opens_47 (lv_at hl 7 rfl) ?_
      refine lv_ifnull hx hb dX3_opens_49 ?_
      refine lv_aload hx hb dX3_opens_52 (lv_at hl 7 rfl) ?_
      refine pu_call1 (va_runV (As := []) (rest := []) ⟨hx, hb, hml, hown, hts⟩ (c_chosenSetting l D g ad z rl ff hz j (by omega)) (cwV 0 hts (gd_V kw_267 kw_268 kw_269 kw_13 kcX1_chosenSetting) rfl rfl rfl (by decide +kernel) ⟨Nat.le_of_ble_eq_true rfl, Nat.le_of_ble_eq_true rfl⟩) (pu_preV hPic hK rfl hd0_j) rfl rfl hl.1 rfl (lv_room (Nat.le_of_ble_eq_true rfl)) dX3_opens_54 ⟨Nat.zero_le _, Nat.zero_le _⟩) ?_
      refine jv_iconst hx hb dX3_opens_57 ?_
      refine jv_iconst hx hb dX3_opens_58 ?_
      refine lv_aload hx hb dX3_opens_59 (lv_at hl 5 rfl) ?_
      refine jv_iconst hx hb dX3_opens_61 ?_
      refine lv_iload hx hb dX3_opens_62 (lv_at hl 4 rfl) ?_
      refine pu_call1 (va_runV (As := [.int (jI (bI false)), .int (jI (0)), .ref (ad (2 + 12 * b + 6 + bC z b)), .int (jI (bI true)), .int (jI (I))]) (rest := []) ⟨hx, hb, hml, hown, hts⟩ (c_isWithin l D g (ad (2 + 12 * j + 6 + bC z j)) (ad (2 + 12 * b + 6 + bC z b)) (bCh z j) (bCh z b) false true 0 I ok_j ok_b (by omega) (by omega)) (cwV 5 hts (gd_V kw_325 kw_326 kw_327 kw_15 kcX2_isWithin) rfl rfl rfl (by decide +kernel) ⟨Nat.le_of_ble_eq_true rfl, Nat.le_of_ble_eq_true rfl⟩) (pu_preV ⟨hq_j, hq_b⟩ hK rfl h1_j) rfl rfl hl.1 rfl (lv_room (Nat.le_of_ble_eq_true rfl)) dX3_opens_64 ⟨Nat.zero_le _, Nat.zero_le _⟩) ?_
      refine jv_if_eq (tgt := 84) hx hb dX3_opens_67 (by decide) (bI_rng _) (fun c67 => ?_) (fun c67 => ?_)
      · have c67 := bI_fa c67
        refine lv_aload hx hb dX3_opens_84 (lv_at hl 7 rfl) ?_
        refine va_get (D := D) (ci := 1) (v := va_rf ((bU z j).map (fun u => ad (2 + 12 * u)))) (C := RX1) (T := TX1) (N := 9) hx hb hts (fun w h => List.mem_cons_of_mem _ (uw_X1 w h)) hown hK (j_P1 hd0_j) 0 rfl rfl 5 (by decide) (hts _ (List.mem_cons_of_mem _ kw_95)) (fun _ h9 => h9) rfl dX3_opens_86 ?_
        refine jv_astore (lv' := [(7, va_rf ((bU z j).map (fun u => ad (2 + 12 * u)))), (0, .ref (ad 0)), (1, .int (jI ((d : Int)))), (2, .int (jI (kk))), (3, .ref (ad (2 + 12 * d))), (4, .int (jI (I))), (5, .ref (ad (2 + 12 * b + 6 + bC z b))), (6, .int (jI (a)))]) hx hb dX3_opens_89 hl (by decide) rfl (fun ls hl => ?_)
        refine lv_goto (tgt := 47) hx hb dX3_opens_91 (by decide) ?_
        exact ih (bU z j, a, k - 1) ls ⟨⟨fun u hu => by have := hz.2.2.2 j u hjN hu; dsimp only; omega, by dsimp only; omega, by dsimp only; rw [he, bOp_some hjk, c67, if_neg (by decide)]⟩, lv_sub hl [1, 2, 3, 4, 5, 6, 7, 0] rfl⟩ (by dsimp only; omega)
      · have c67 := bI_tr c67
        refine lv_iload hx hb dX3_opens_70 (lv_at hl 6 rfl) ?_
        refine jv_if_ne (tgt := 81) hx hb dX3_opens_72 (by decide) (by omega) (fun c72 => ?_) (fun c72 => ?_)
        · refine lv_iinc (v := jI (a + (-1))) (lv' := [(6, .int (jI (a + (-1)))), (0, .ref (ad 0)), (1, .int (jI ((d : Int)))), (2, .int (jI (kk))), (3, .ref (ad (2 + 12 * d))), (4, .int (jI (I))), (5, .ref (ad (2 + 12 * b + 6 + bC z b))), (7, .ref (ad (2 + 12 * j)))]) hx hb dX3_opens_81 hl (k := 6) rfl (jI_add _ _) (by decide) rfl (fun ls hl => ?_)
          refine lv_aload hx hb dX3_opens_84 (lv_at hl 7 rfl) ?_
          refine va_get (D := D) (ci := 1) (v := va_rf ((bU z j).map (fun u => ad (2 + 12 * u)))) (C := RX1) (T := TX1) (N := 9) hx hb hts (fun w h => List.mem_cons_of_mem _ (uw_X1 w h)) hown hK (j_P1 hd0_j) 0 rfl rfl 5 (by decide) (hts _ (List.mem_cons_of_mem _ kw_95)) (fun _ h9 => h9) rfl dX3_opens_86 ?_
          refine jv_astore (lv' := [(7, va_rf ((bU z j).map (fun u => ad (2 + 12 * u)))), (6, .int (jI (a + (-1)))), (0, .ref (ad 0)), (1, .int (jI ((d : Int)))), (2, .int (jI (kk))), (3, .ref (ad (2 + 12 * d))), (4, .int (jI (I))), (5, .ref (ad (2 + 12 * b + 6 + bC z b)))]) hx hb dX3_opens_89 hl (by decide) rfl (fun ls hl => ?_)
          refine lv_goto (tgt := 47) hx hb dX3_opens_91 (by decide) ?_
          exact ih (bU z j, a + (-1), k - 1) ls ⟨⟨fun u hu => by have := hz.2.2.2 j u hjN hu; dsimp only; omega, by dsimp only; omega, by dsimp only; rw [he, bOp_some hjk, c67, if_pos rfl, if_neg c72]⟩, lv_sub hl [2, 3, 4, 5, 6, 7, 1, 0] rfl⟩ (by dsimp only; omega)
        · refine lv_aload hx hb dX3_opens_75 (lv_at hl 7 rfl) ?_
          refine va_get (D := D) (ci := 1) (v := .int (jI ((j : Int)))) (C := RX1) (T := TX1) (N := 9) hx hb hts (fun w h => List.mem_cons_of_mem _ (uw_X1 w h)) hown hK (j_P1 hd0_j) 0 rfl rfl 0 (by decide) (hts _ (List.mem_cons_of_mem _ kw_85)) (fun _ h9 => h9) rfl dX3_opens_77 ?_
          exact pu_iret hx hb hr hlocks dX3_opens_80 (by rw [he, bOp_some hjk, c67, if_pos rfl, if_pos c72])
  · refine jv_iconst hx hb dX3_opens_39 ?_
    exact pu_iret hx hb hr hlocks dX3_opens_40 (by rw [if_pos c36])
set_option maxHeartbeats 4000000 in
set_option maxRecDepth 100000 in
theorem c_firstFitting0 (l : Launch) (D : va_G) (g : Nat → ClassId) (ad : Nat → Nat) (z : bSt) (rl : Nat → Nat → Bool) (ff : Nat → Nat → Int) (hz : bOK z) (i : Nat) (mg : Int) (hi : i < 8) (hmg : 0 ≤ mg ∧ mg ≤ 10000) : Met l yX3_firstFitting wsX3_firstFitting ({ frames := 4, cells := 0, slots := 0, locals := 113 }) (pu_Pc [.ref (ad (2 + 12 * i)), .null, .int (jI (mg))] D vwCl (ty9 g) (fun H => bW D g ad z rl ff H)) (pu_Q (some (.int (jI (cFit (fun j => !rl i j) (bO z i) 0))))) 0 0 (fun _ => False) := by
  refine Met.ofW (cc := cX3_firstFitting) (maxL := 4) (ret := some .int) (by decide) rfl ?_
  intro p e s m args below meth c s₁ B hml hv
  obtain ⟨rfl, hPic, hK⟩ := hv
  have hx := B.exec
  have hb := B.bytes
  have hr := B.returns
  have hts := atoms_spec (ws := wsX3_firstFitting) B.pre
  have hown : s.vm.findClass RX3 = some m.cls := findClass_of_methodNamed B.named
  have hlocks := B.notSynchronized
  have fi := hz.2.2.1 i hi
  have hd0_i : va_at D vwCl (ad (2 + 12 * i), .inr (1, [.int (jI ((i : Int))), .ref (ad (2 + 12 * i + 1)), .ref (ad (2 + 12 * i + 5)), .ref (ad (2 + 12 * i + 10)), .ref (ad (2 + 12 * i + 11)), va_rf ((bU z i).map (fun u => ad (2 + 12 * u))), .int (jI ((bO z i : Int))), .int (jI ((bC z i : Int))), .int (jI (bZ z i))])) s.heap := bW_at hPic (i := i) hi 0 (by omega)
  have hd5_i : va_at D vwCl (ad (2 + 12 * i + 5), .inl (g 3, 4, .inr (.inr (.inr (.inr (fun j => some (ad (2 + 12 * i + 6 + j)))))))) s.heap := bW_at hPic (i := i) hi 5 (by omega)
  have hd10_i : va_at D vwCl (ad (2 + 12 * i + 10), .inl (g 1, 4, .inl (fun j => jI (bI (rl i j))))) s.heap := bW_at hPic (i := i) hi 10 (by omega)
  have hl := lv_entry ([.ref (ad (2 + 12 * i)), .null, .int (jI (mg))]) (n := 4) (Nat.le_of_ble_eq_true rfl)
  rw [lg_entry_eq]
  generalize (lg_sl ([.ref (ad (2 + 12 * i)), .null, .int (jI (mg))]) ++ List.replicate (4 - (lg_sl ([.ref (ad (2 + 12 * i)), .null, .int (jI (mg))])).length) Slot.unset).toArray = ls at hl ⊢
  have hl : lv_has ls 4 [(0, .ref (ad (2 + 12 * i))), (1, .null), (2, .int (jI (mg)))] := hl
  refine jv_iconst hx hb dX3_firstFitting_0 ?_
  refine lv_istore_n (lv' := [(3, .int (jI (0))), (0, .ref (ad (2 + 12 * i))), (1, .null), (2, .int (jI (mg)))]) hx hb dX3_firstFitting_1 rfl hl (by decide) rfl (fun ls hl => ?_)
  refine jw_loop (X := Nat) (fun j => bO z i - j) (fun j ls => (j ≤ bO z i ∧ cFit (fun j => !rl i j) (bO z i) 0 = cFit (fun j => !rl i j) (bO z i - j) j) ∧ lv_has ls 4 [(0, .ref (ad (2 + 12 * i))), (1, .null), (2, .int (jI (mg))), (3, .int (jI ((j : Int))))]) ?_ 0 ls ⟨⟨Nat.zero_le _, rfl⟩, lv_sub hl [1, 2, 3, 0] rfl⟩
  intro j ls hinv ih
  obtain ⟨⟨hj9, he⟩, hl⟩ := hinv
  refine lv_iload_n hx hb dX3_firstFitting_2 rfl (lv_at hl 3 rfl) ?_
  refine lv_aload_n hx hb dX3_firstFitting_3 rfl (lv_at hl 0 rfl) ?_
  refine va_get (D := D) (ci := 1) (v := .int (jI ((bO z i : Int)))) (C := RX1) (T := TX1) (N := 9) hx hb hts (fun w h => List.mem_cons_of_mem _ (uw_X1 w h)) hown hK (j_P1 hd0_i) 0 rfl rfl 6 (by decide) (hts _ (List.mem_cons_of_mem _ kw_97)) (fun _ h9 => h9) rfl dX3_firstFitting_4 ?_
  refine jv_icmp_ge (tgt := 49) hx hb dX3_firstFitting_7 (by decide) (by omega) (by omega) (fun c7 => ?_) (fun c7 => ?_)
  · refine jv_iconst hx hb dX3_firstFitting_49 ?_
    exact pu_iret hx hb hr hlocks dX3_firstFitting_50 (by rw [he, cFit_end (by omega)])
  · refine lv_aload_n hx hb dX3_firstFitting_10 rfl (lv_at hl 0 rfl) ?_
    refine va_get (D := D) (ci := 1) (v := .ref (ad (2 + 12 * i + 10))) (C := RX1) (T := TX1) (N := 9) hx hb hts (fun w h => List.mem_cons_of_mem _ (uw_X1 w h)) hown hK (j_P1 hd0_i) 0 rfl rfl 3 (by decide) (hts _ (List.mem_cons_of_mem _ kw_91)) (fun _ h9 => h9) rfl dX3_firstFitting_11 ?_
    refine lv_iload_n hx hb dX3_firstFitting_14 rfl (lv_at hl 3 rfl) ?_
    refine jv_zald (i := j) hx hb hK hd10_i 1 rfl (by omega) (by omega) (by decide) dX3_firstFitting_15 ?_
    refine jv_if_eq (tgt := 22) hx hb dX3_firstFitting_16 (by decide) (bI_rng _) (fun c16 => ?_) (fun c16 => ?_)
    · have c16 := bI_fa c16
      refine lv_aload_nN hx hb dX3_firstFitting_22 rfl (lv_at hl 1 rfl) ?_
      refine lv_ifnullN (tgt := 41) hx hb dX3_firstFitting_23 (by decide) ?_
      refine lv_iload_n hx hb dX3_firstFitting_41 rfl (lv_at hl 3 rfl) ?_
      exact pu_iret hx hb hr hlocks dX3_firstFitting_42 (by rw [he, cFit_yes (by omega) (by simp [c16])])
    · have c16 := bI_tr c16
      refine lv_goto (tgt := 43) hx hb dX3_firstFitting_19 (by decide) ?_
      refine lv_iinc (v := jI ((j : Int) + 1)) (lv' := [(3, .int (jI ((j : Int) + 1))), (0, .ref (ad (2 + 12 * i))), (1, .null), (2, .int (jI (mg)))]) hx hb dX3_firstFitting_43 hl (k := 3) rfl (jI_add _ _) (by decide) rfl (fun ls hl => ?_)
      refine lv_goto (tgt := 2) hx hb dX3_firstFitting_46 (by decide) ?_
      exact ih (j + 1) ls ⟨⟨by omega, by rw [he]; exact cFit_no (by omega) (by simp [c16])⟩, lv_sub hl [1, 2, 3, 0] rfl⟩ (by omega)
set_option maxHeartbeats 4000000 in
set_option maxRecDepth 100000 in
theorem c_firstFitting1 (l : Launch) (D : va_G) (g : Nat → ClassId) (ad : Nat → Nat) (z : bSt) (rl : Nat → Nat → Bool) (ff : Nat → Nat → Int) (hz : bOK z) (i u k : Nat) (mg : Int) (hi : i < 8) (hu : u < 8) (hk : k < bO z u) (hmg : 0 ≤ mg ∧ mg ≤ 10000) : Met l yX3_firstFitting wsX3_firstFitting ({ frames := 4, cells := 0, slots := 0, locals := 113 }) (pu_Pc [.ref (ad (2 + 12 * i)), .ref (ad (2 + 12 * u + 6 + k)), .int (jI (mg))] D vwCl (ty9 g) (fun H => bW D g ad z rl ff H)) (pu_Q (some (.int (jI (cFit (fun j => !rl i j && okb z mg i j u k) (bO z i) 0))))) 0 0 (fun _ => False) := by
  refine Met.ofW (cc := cX3_firstFitting) (maxL := 4) (ret := some .int) (by decide) rfl ?_
  intro p e s m args below meth c s₁ B hml hv
  obtain ⟨rfl, hPic, hK⟩ := hv
  have hx := B.exec
  have hb := B.bytes
  have hr := B.returns
  have hts := atoms_spec (ws := wsX3_firstFitting) B.pre
  have hown : s.vm.findClass RX3 = some m.cls := findClass_of_methodNamed B.named
  have hlocks := B.notSynchronized
  have fi := hz.2.2.1 i hi
  have hd0_i : va_at D vwCl (ad (2 + 12 * i), .inr (1, [.int (jI ((i : Int))), .ref (ad (2 + 12 * i + 1)), .ref (ad (2 + 12 * i + 5)), .ref (ad (2 + 12 * i + 10)), .ref (ad (2 + 12 * i + 11)), va_rf ((bU z i).map (fun u => ad (2 + 12 * u))), .int (jI ((bO z i : Int))), .int (jI ((bC z i : Int))), .int (jI (bZ z i))])) s.heap := bW_at hPic (i := i) hi 0 (by omega)
  have hd5_i : va_at D vwCl (ad (2 + 12 * i + 5), .inl (g 3, 4, .inr (.inr (.inr (.inr (fun j => some (ad (2 + 12 * i + 6 + j)))))))) s.heap := bW_at hPic (i := i) hi 5 (by omega)
  have hd10_i : va_at D vwCl (ad (2 + 12 * i + 10), .inl (g 1, 4, .inl (fun j => jI (bI (rl i j))))) s.heap := bW_at hPic (i := i) hi 10 (by omega)
  have fu := hz.2.2.1 u hu
  have hq_T : sAt D g (ad (2 + 12 * u + 6 + k)) (bSet z u k) s.heap := bW_set hPic hu (by omega)
  have ok_T : sOK (bSet z u k) := fu.2.2.2.2.2 k hk
  have hl := lv_entry ([.ref (ad (2 + 12 * i)), .ref (ad (2 + 12 * u + 6 + k)), .int (jI (mg))]) (n := 4) (Nat.le_of_ble_eq_true rfl)
  rw [lg_entry_eq]
  generalize (lg_sl ([.ref (ad (2 + 12 * i)), .ref (ad (2 + 12 * u + 6 + k)), .int (jI (mg))]) ++ List.replicate (4 - (lg_sl ([.ref (ad (2 + 12 * i)), .ref (ad (2 + 12 * u + 6 + k)), .int (jI (mg))])).length) Slot.unset).toArray = ls at hl ⊢
  have hl : lv_has ls 4 [(0, .ref (ad (2 + 12 * i))), (1, .ref (ad (2 + 12 * u + 6 + k))), (2, .int (jI (mg)))] := hl
  refine jv_iconst hx hb dX3_firstFitting_0 ?_
  refine lv_istore_n (lv' := [(3, .int (jI (0))), (0, .ref (ad (2 + 12 * i))), (1, .ref (ad (2 + 12 * u + 6 + k))), (2, .int (jI (mg)))]) hx hb dX3_firstFitting_1 rfl hl (by decide) rfl (fun ls hl => ?_)
  refine jw_loop (X := Nat) (fun j => bO z i - j) (fun j ls => (j ≤ bO z i ∧ cFit (fun j => !rl i j && okb z mg i j u k) (bO z i) 0 = cFit (fun j => !rl i j && okb z mg i j u k) (bO z i - j) j) ∧ lv_has ls 4 [(0, .ref (ad (2 + 12 * i))), (1, .ref (ad (2 + 12 * u + 6 + k))), (2, .int (jI (mg))), (3, .int (jI ((j : Int))))]) ?_ 0 ls ⟨⟨Nat.zero_le _, rfl⟩, lv_sub hl [1, 2, 3, 0] rfl⟩
  intro j ls hinv ih
  obtain ⟨⟨hj9, he⟩, hl⟩ := hinv
  refine lv_iload_n hx hb dX3_firstFitting_2 rfl (lv_at hl 3 rfl) ?_
  refine lv_aload_n hx hb dX3_firstFitting_3 rfl (lv_at hl 0 rfl) ?_
  refine va_get (D := D) (ci := 1) (v := .int (jI ((bO z i : Int)))) (C := RX1) (T := TX1) (N := 9) hx hb hts (fun w h => List.mem_cons_of_mem _ (uw_X1 w h)) hown hK (j_P1 hd0_i) 0 rfl rfl 6 (by decide) (hts _ (List.mem_cons_of_mem _ kw_97)) (fun _ h9 => h9) rfl dX3_firstFitting_4 ?_
  refine jv_icmp_ge (tgt := 49) hx hb dX3_firstFitting_7 (by decide) (by omega) (by omega) (fun c7 => ?_) (fun c7 => ?_)
  · refine jv_iconst hx hb dX3_firstFitting_49 ?_
    exact pu_iret hx hb hr hlocks dX3_firstFitting_50 (by rw [he, cFit_end (by omega)])
  · have hq_S : sAt D g (ad (2 + 12 * i + 6 + j)) (bSet z i j) s.heap := bW_set hPic hi (by omega)
    have ok_S : sOK (bSet z i j) := fi.2.2.2.2.2 j (by omega)
    have rF := cFbs_rng ok_S ok_T mg
    refine lv_aload_n hx hb dX3_firstFitting_10 rfl (lv_at hl 0 rfl) ?_
    refine va_get (D := D) (ci := 1) (v := .ref (ad (2 + 12 * i + 10))) (C := RX1) (T := TX1) (N := 9) hx hb hts (fun w h => List.mem_cons_of_mem _ (uw_X1 w h)) hown hK (j_P1 hd0_i) 0 rfl rfl 3 (by decide) (hts _ (List.mem_cons_of_mem _ kw_91)) (fun _ h9 => h9) rfl dX3_firstFitting_11 ?_
    refine lv_iload_n hx hb dX3_firstFitting_14 rfl (lv_at hl 3 rfl) ?_
    refine jv_zald (i := j) hx hb hK hd10_i 1 rfl (by omega) (by omega) (by decide) dX3_firstFitting_15 ?_
    refine jv_if_eq (tgt := 22) hx hb dX3_firstFitting_16 (by decide) (bI_rng _) (fun c16 => ?_) (fun c16 => ?_)
    · have c16 := bI_fa c16
      refine lv_aload_n hx hb dX3_firstFitting_22 rfl (lv_at hl 1 rfl) ?_
      refine lv_ifnull hx hb dX3_firstFitting_23 ?_
      refine lv_aload_n hx hb dX3_firstFitting_26 rfl (lv_at hl 0 rfl) ?_
      refine va_get (D := D) (ci := 1) (v := .ref (ad (2 + 12 * i + 5))) (C := RX1) (T := TX1) (N := 9) hx hb hts (fun w h => List.mem_cons_of_mem _ (uw_X1 w h)) hown hK (j_P1 hd0_i) 0 rfl rfl 2 (by decide) (hts _ (List.mem_cons_of_mem _ kw_89)) (fun _ h9 => h9) rfl dX3_firstFitting_27 ?_
      refine lv_iload_n hx hb dX3_firstFitting_30 rfl (lv_at hl 3 rfl) ?_
      refine jv_aldq (i := j) hx hb hK hd5_i 3 rfl (by omega) (by omega) (by decide) dX3_firstFitting_31 ?_
      refine lv_aload_n hx hb dX3_firstFitting_32 rfl (lv_at hl 1 rfl) ?_
      refine lv_iload_n hx hb dX3_firstFitting_33 rfl (lv_at hl 2 rfl) ?_
      refine pu_call1 (va_runS (As := [.ref (ad (2 + 12 * i + 6 + j)), .ref (ad (2 + 12 * u + 6 + k)), .int (jI (mg))]) (rest := []) ⟨hx, hb, hml, hown, hts⟩ (c_firstBrokenStretch l D g (ad (2 + 12 * i + 6 + j)) (ad (2 + 12 * u + 6 + k)) (bSet z i j) (bSet z u k) mg ok_S ok_T hmg) (cwS 3 hts (gd_S kw_315 kw_316 kw_12 kcX3_firstBrokenStretch) rfl rfl rfl (by decide +kernel) ⟨Nat.le_of_ble_eq_true rfl, Nat.le_of_ble_eq_true rfl⟩) (pu_preS ⟨hq_S, hq_T⟩ hK) rfl rfl hl.1 rfl (lv_room (Nat.le_of_ble_eq_true rfl)) dX3_firstFitting_34 ⟨Nat.zero_le _, Nat.zero_le _⟩) ?_
      refine jv_iconst hx hb dX3_firstFitting_37 ?_
      refine jv_icmp_ne (tgt := 43) hx hb dX3_firstFitting_38 (by decide) (by omega) (by omega) (fun c38 => ?_) (fun c38 => ?_)
      · refine lv_iinc (v := jI ((j : Int) + 1)) (lv' := [(3, .int (jI ((j : Int) + 1))), (0, .ref (ad (2 + 12 * i))), (1, .ref (ad (2 + 12 * u + 6 + k))), (2, .int (jI (mg)))]) hx hb dX3_firstFitting_43 hl (k := 3) rfl (jI_add _ _) (by decide) rfl (fun ls hl => ?_)
        refine lv_goto (tgt := 2) hx hb dX3_firstFitting_46 (by decide) ?_
        exact ih (j + 1) ls ⟨⟨by omega, by rw [he]; exact cFit_no (by omega) (by simp [okb, c38])⟩, lv_sub hl [1, 2, 3, 0] rfl⟩ (by omega)
      · refine lv_iload_n hx hb dX3_firstFitting_41 rfl (lv_at hl 3 rfl) ?_
        exact pu_iret hx hb hr hlocks dX3_firstFitting_42 (by rw [he, cFit_yes (by omega) (by simp [c16, okb, c38])])
    · have c16 := bI_tr c16
      refine lv_goto (tgt := 43) hx hb dX3_firstFitting_19 (by decide) ?_
      refine lv_iinc (v := jI ((j : Int) + 1)) (lv' := [(3, .int (jI ((j : Int) + 1))), (0, .ref (ad (2 + 12 * i))), (1, .ref (ad (2 + 12 * u + 6 + k))), (2, .int (jI (mg)))]) hx hb dX3_firstFitting_43 hl (k := 3) rfl (jI_add _ _) (by decide) rfl (fun ls hl => ?_)
      refine lv_goto (tgt := 2) hx hb dX3_firstFitting_46 (by decide) ?_
      exact ih (j + 1) ls ⟨⟨by omega, by rw [he]; exact cFit_no (by omega) (by simp [c16])⟩, lv_sub hl [1, 2, 3, 0] rfl⟩ (by omega)
end
section
set_option maxRecDepth 20000 in
theorem kw_14 : (.initialized RX0 : Cond) ∈ gAll := g_mem 14 rfl rfl
set_option maxRecDepth 20000 in
theorem kw_44 : (.fieldLink RX0 9 "BreakerOrders$Curve" "place" "[I" : Cond) ∈ gAll := g_mem 44 rfl rfl
set_option maxRecDepth 20000 in
theorem kw_46 : (.fieldLink RX3 59 "BreakerOrders$Curve" "place" "[I" : Cond) ∈ gAll := g_mem 46 rfl rfl
set_option maxRecDepth 20000 in
theorem kw_47 : (.fieldLink RX0 15 "BreakerOrders$Curve" "least" "[I" : Cond) ∈ gAll := g_mem 47 rfl rfl
set_option maxRecDepth 20000 in
theorem kw_49 : (.fieldLink RX0 18 "BreakerOrders$Curve" "most" "[I" : Cond) ∈ gAll := g_mem 49 rfl rfl
set_option maxRecDepth 20000 in
theorem kw_51 : (.fieldLink RX0 21 "BreakerOrders$Curve" "points" "I" : Cond) ∈ gAll := g_mem 51 rfl rfl
set_option maxRecDepth 20000 in
theorem kw_53 : (.fieldLink RX3 52 "BreakerOrders$Curve" "points" "I" : Cond) ∈ gAll := g_mem 53 rfl rfl
set_option maxRecDepth 20000 in
theorem kw_73 : (.fieldLink RX3 77 "BreakerOrders$Setting" "scale" "I" : Cond) ∈ gAll := g_mem 73 rfl rfl
set_option maxRecDepth 20000 in
theorem kw_75 : (.fieldLink RX3 82 "BreakerOrders$Setting" "delay" "I" : Cond) ∈ gAll := g_mem 75 rfl rfl
set_option maxRecDepth 20000 in
theorem kw_87 : (.fieldLink RX3 43 "BreakerOrders$Device" "curve" "LBreakerOrders$Curve;" : Cond) ∈ gAll := g_mem 87 rfl rfl
set_option maxRecDepth 20000 in
theorem kw_90 : (.fieldLink RX1 24 "BreakerOrders$Device" "ruledOut" "[Z" : Cond) ∈ gAll := g_mem 90 rfl rfl
set_option maxRecDepth 20000 in
theorem kw_93 : (.fieldLink RX3 120 "BreakerOrders$Device" "firstFor" "[I" : Cond) ∈ gAll := g_mem 93 rfl rfl
set_option maxRecDepth 20000 in
theorem kw_238 : (.constant RX3 51 100000 : Cond) ∈ gAll := g_mem 238 rfl rfl
set_option maxRecDepth 20000 in
theorem kw_241 : (.methodLink RX3 65 yX0_add : Cond) ∈ gAll := g_mem 241 rfl rfl
set_option maxRecDepth 20000 in
theorem kw_242 : (.instanceMethod yX0_add : Cond) ∈ gAll := g_mem 242 rfl rfl
set_option maxRecDepth 20000 in
theorem kw_243 : (.selects RX0 yX0_add yX0_add : Cond) ∈ gAll := g_mem 243 rfl rfl
set_option maxRecDepth 20000 in
theorem kw_353 : (.methodLink RX3 113 yX1_forgetTries : Cond) ∈ gAll := g_mem 353 rfl rfl
set_option maxRecDepth 20000 in
theorem kw_354 : (.instanceMethod yX1_forgetTries : Cond) ∈ gAll := g_mem 354 rfl rfl
set_option maxRecDepth 20000 in
theorem kw_355 : (.selects RX1 yX1_forgetTries yX1_forgetTries : Cond) ∈ gAll := g_mem 355 rfl rfl
set_option maxRecDepth 20000 in
theorem kw_357 : (.methodLink RX3 116 yX3_tryOptions : Cond) ∈ gAll := g_mem 357 rfl rfl
set_option maxRecDepth 20000 in
theorem kw_358 : (.static yX3_tryOptions : Cond) ∈ gAll := g_mem 358 rfl rfl
set_option maxRecDepth 20000 in
theorem kw_360 : (.methodLink RX3 174 yX3_firstFitting : Cond) ∈ gAll := g_mem 360 rfl rfl
set_option maxRecDepth 20000 in
theorem kw_361 : (.static yX3_firstFitting : Cond) ∈ gAll := g_mem 361 rfl rfl
set_option maxRecDepth 20000 in
theorem kw_384 : (.constant RX3 126 1000000 : Cond) ∈ gAll := g_mem 384 rfl rfl
set_option maxHeartbeats 4000000 in
set_option maxRecDepth 100000 in
theorem c_impedance (l : Launch) (D : va_G) (g : Nat → ClassId) (ad : Nat → Nat) (z : bSt) (rl : Nat → Nat → Bool) (ff : Nat → Nat → Int) (hz : bOK z) (hj : bInj ad) (d : Nat) (v : Int) (hd : d < bN z) (hv : 1 ≤ v ∧ v ≤ 10000) : Met l yX3_impedance wsX3_impedance ({ frames := 1, cells := 0, slots := 0, locals := 22 }) (pu_Pc [.ref (ad 0), .int (jI ((d : Int))), .int (jI (v))] D vwCl (ty9 g) (fun H => bW D g ad z rl ff H)) (bQ D g ad (some (.int (jI (bZ z d)))) (zZ z d v) (fun _ _ => True)) 0 0 (bFr ad) := by
  refine Met.ofW (cc := cX3_impedance) (maxL := 5) (ret := some .int) (by decide) rfl ?_
  intro p e s m args below meth c s₁ B hml hv
  obtain ⟨rfl, hPic, hK⟩ := hv
  have hx := B.exec
  have hb := B.bytes
  have hr := B.returns
  have hts := atoms_spec (ws := wsX3_impedance) B.pre
  have hown : s.vm.findClass RX3 = some m.cls := findClass_of_methodNamed B.named
  have hlocks := B.notSynchronized
  have hx0 : va_at D vwCl (ad 0, .inr (3, [.ref (ad 1), .int (jI ((bN z : Int))), .int (jI (bV z))])) s.heap := hPic 0 (by omega)
  have hx1 : va_at D vwCl (ad 1, .inl (g 2, 8, .inr (.inr (.inr (.inr (fun j => some (ad (2 + 12 * j)))))))) s.heap := hPic 1 (by omega)
  have hN := hz.1
  have hd0_d : va_at D vwCl (ad (2 + 12 * d), .inr (1, [.int (jI ((d : Int))), .ref (ad (2 + 12 * d + 1)), .ref (ad (2 + 12 * d + 5)), .ref (ad (2 + 12 * d + 10)), .ref (ad (2 + 12 * d + 11)), va_rf ((bU z d).map (fun u => ad (2 + 12 * u))), .int (jI ((bO z d : Int))), .int (jI ((bC z d : Int))), .int (jI (bZ z d))])) s.heap := bW_at hPic (i := d) (by omega) 0 (by omega)
  have hl := lv_entry ([.ref (ad 0), .int (jI ((d : Int))), .int (jI (v))]) (n := 5) (Nat.le_of_ble_eq_true rfl)
  rw [lg_entry_eq]
  generalize (lg_sl ([.ref (ad 0), .int (jI ((d : Int))), .int (jI (v))]) ++ List.replicate (5 - (lg_sl ([.ref (ad 0), .int (jI ((d : Int))), .int (jI (v))])).length) Slot.unset).toArray = ls at hl ⊢
  have hl : lv_has ls 5 [(0, .ref (ad 0)), (1, .int (jI ((d : Int)))), (2, .int (jI (v)))] := hl
  have hT0 : bTo ad s.heap s.heap [] := bTo.rf
  refine lv_aload_n hx hb dX3_impedance_0 rfl (lv_at hl 0 rfl) ?_
  refine lv_iload_n hx hb dX3_impedance_1 rfl (lv_at hl 1 rfl) ?_
  refine pu_call1 (va_runV (As := [.int (jI ((d : Int)))]) (rest := []) ⟨hx, hb, hml, hown, hts⟩ (c_known l D g ad z rl ff hz d hd) (cwV 1 hts (gd_V kw_140 kw_142 kw_0 kw_12 kcX3_known) rfl rfl rfl (by decide +kernel) ⟨Nat.le_of_ble_eq_true rfl, Nat.le_of_ble_eq_true rfl⟩) (pu_preV hPic hK rfl hx0) rfl rfl hl.1 rfl (lv_room (Nat.le_of_ble_eq_true rfl)) dX3_impedance_2 ⟨Nat.zero_le _, Nat.zero_le _⟩) ?_
  refine lv_astore_n (lv' := [(3, .ref (ad (2 + 12 * d))), (0, .ref (ad 0)), (1, .int (jI ((d : Int)))), (2, .int (jI (v)))]) hx hb dX3_impedance_5 rfl hl (by decide) rfl (fun ls hl => ?_)
  refine lv_iload_n hx hb dX3_impedance_6 rfl (lv_at hl 3 rfl) ?_
  refine jv_iconst hx hb dX3_impedance_7 ?_
  refine jv_sipush hx hb dX3_impedance_8 (by decide) ?_
  refine pu_call (va_runS (As := [.int (jI (v)), .int (jI (1)), .int (jI (10000))]) (rest := []) ⟨hx, hb, hml, hown, hts⟩ (c_demandWithin l D g v 1 10000 (by omega) (by omega) (by omega) (by omega)) (cwS 3 hts (gd_S kw_234 kw_235 kw_12 kcX3_demandWithin) rfl rfl rfl (by decide +kernel) ⟨Nat.le_of_ble_eq_true rfl, Nat.le_of_ble_eq_true rfl⟩) (pu_preS trivial hK) rfl rfl hl.1 rfl (lv_room (Nat.le_of_ble_eq_true rfl)) dX3_impedance_11 ⟨Nat.zero_le _, Nat.zero_le _⟩) ?_
  refine lv_aload_n hx hb dX3_impedance_14 rfl (lv_at hl 0 rfl) ?_
  refine va_get (D := D) (ci := 1) (v := .int (jI (bZ z d))) (C := RX1) (T := TX1) (N := 9) hx hb hts (fun w h => List.mem_cons_of_mem _ (uw_X1 w h)) hown hK (j_P1 hd0_d) 0 rfl rfl 8 (by decide) (hts _ (List.mem_cons_of_mem _ kw_101)) (fun _ h9 => h9) rfl dX3_impedance_15 ?_
  refine lv_istore (lv' := [(4, .int (jI (bZ z d))), (3, .ref (ad (2 + 12 * d))), (0, .ref (ad 0)), (1, .int (jI ((d : Int)))), (2, .int (jI (v)))]) hx hb dX3_impedance_18 hl (by decide) rfl (fun ls hl => ?_)
  refine lv_aload_n hx hb dX3_impedance_20 rfl (lv_at hl 1 rfl) ?_
  refine lv_iload_n hx hb dX3_impedance_21 rfl (lv_at hl 4 rfl) ?_
  refine jv_put (D := D) (ci := 1) (v := .int (jI (v))) (ty := .int) (C := RX1) (T := TX1) (N := 9) hx hb hts (fun w h => List.mem_cons_of_mem _ (uw_X1 w h)) tyX1 tyX1_ok nmX1 hown hK hd0_d rfl 8 (by decide) (hts _ (List.mem_cons_of_mem _ kw_101)) (fun _ h9 => h9) rfl (by decide +kernel) rfl rfl (Nat.le_of_ble_eq_true rfl) dX3_impedance_22 (fun H f9 hn9 hz9 oq9 => ?_)
  have hPic := bX_dev hj hPic (w := zZ z d v) (i := d) (by omega) rfl rfl rfl rfl rfl rfl rfl rfl (fun i2 h2 => ⟨rfl, rfl, rfl, jUp_n h2⟩) rfl rfl rfl (jUp_s _ _ _) oq9 hn9
  have hT0 := hT0.put (2 + 12 * d) (by omega) hz9 oq9 (f := f9)
  refine lv_iload hx hb dX3_impedance_25 (lv_at hl 0 rfl) ?_
  exact b_iret hx hb hr hlocks dX3_impedance_27 trivial hPic hT0 (by rfl)
set_option maxHeartbeats 4000000 in
set_option maxRecDepth 100000 in
theorem c_voltage (l : Launch) (D : va_G) (g : Nat → ClassId) (ad : Nat → Nat) (z : bSt) (rl : Nat → Nat → Bool) (ff : Nat → Nat → Int) (hz : bOK z) (hj : bInj ad) (v : Int) (hv : 0 ≤ v ∧ v ≤ 1000000) : Met l yX3_voltage wsX3_voltage ({ frames := 1, cells := 0, slots := 0, locals := 22 }) (pu_Pc [.ref (ad 0), .int (jI (v))] D vwCl (ty9 g) (fun H => bW D g ad z rl ff H)) (bQ D g ad (some (.int (jI (bV z)))) (zV z v) (fun _ _ => True)) 0 0 (bFr ad) := by
  refine Met.ofW (cc := cX3_voltage) (maxL := 3) (ret := some .int) (by decide) rfl ?_
  intro p e s m args below meth c s₁ B hml hv
  obtain ⟨rfl, hPic, hK⟩ := hv
  have hx := B.exec
  have hb := B.bytes
  have hr := B.returns
  have hts := atoms_spec (ws := wsX3_voltage) B.pre
  have hown : s.vm.findClass RX3 = some m.cls := findClass_of_methodNamed B.named
  have hlocks := B.notSynchronized
  have hx0 : va_at D vwCl (ad 0, .inr (3, [.ref (ad 1), .int (jI ((bN z : Int))), .int (jI (bV z))])) s.heap := hPic 0 (by omega)
  have hx1 : va_at D vwCl (ad 1, .inl (g 2, 8, .inr (.inr (.inr (.inr (fun j => some (ad (2 + 12 * j)))))))) s.heap := hPic 1 (by omega)
  have hN := hz.1
  have hl := lv_entry ([.ref (ad 0), .int (jI (v))]) (n := 3) (Nat.le_of_ble_eq_true rfl)
  rw [lg_entry_eq]
  generalize (lg_sl ([.ref (ad 0), .int (jI (v))]) ++ List.replicate (3 - (lg_sl ([.ref (ad 0), .int (jI (v))])).length) Slot.unset).toArray = ls at hl ⊢
  have hl : lv_has ls 3 [(0, .ref (ad 0)), (1, .int (jI (v)))] := hl
  have hT0 : bTo ad s.heap s.heap [] := bTo.rf
  refine lv_iload_n hx hb dX3_voltage_0 rfl (lv_at hl 1 rfl) ?_
  refine jv_iconst hx hb dX3_voltage_1 ?_
  refine jv_ldc (k := 1000000) hx hb hown (hts _ (List.mem_cons_of_mem _ kw_384)) (by decide) dX3_voltage_2 ?_
  refine pu_call (va_runS (As := [.int (jI (v)), .int (jI (0)), .int (jI (1000000))]) (rest := []) ⟨hx, hb, hml, hown, hts⟩ (c_demandWithin l D g v 0 1000000 (by omega) (by omega) (by omega) (by omega)) (cwS 3 hts (gd_S kw_234 kw_235 kw_12 kcX3_demandWithin) rfl rfl rfl (by decide +kernel) ⟨Nat.le_of_ble_eq_true rfl, Nat.le_of_ble_eq_true rfl⟩) (pu_preS trivial hK) rfl rfl hl.1 rfl (lv_room (Nat.le_of_ble_eq_true rfl)) dX3_voltage_4 ⟨Nat.zero_le _, Nat.zero_le _⟩) ?_
  refine lv_aload_n hx hb dX3_voltage_7 rfl (lv_at hl 0 rfl) ?_
  refine va_get (D := D) (ci := 3) (v := .int (jI (bV z))) (C := RX3) (T := TX3) (N := 3) hx hb hts (fun w h => List.mem_cons_of_mem _ (uw_X3 w h)) hown hK (j_P1 hx0) 0 rfl rfl 2 (by decide) (hts _ (List.mem_cons_of_mem _ kw_123)) (fun _ h9 => h9) rfl dX3_voltage_8 ?_
  refine lv_istore_n (lv' := [(2, .int (jI (bV z))), (0, .ref (ad 0)), (1, .int (jI (v)))]) hx hb dX3_voltage_11 rfl hl (by decide) rfl (fun ls hl => ?_)
  refine lv_aload_n hx hb dX3_voltage_12 rfl (lv_at hl 1 rfl) ?_
  refine lv_iload_n hx hb dX3_voltage_13 rfl (lv_at hl 2 rfl) ?_
  refine jv_put (D := D) (ci := 3) (v := .int (jI (v))) (ty := .int) (C := RX3) (T := TX3) (N := 3) hx hb hts (fun w h => List.mem_cons_of_mem _ (uw_X3 w h)) tyX3 tyX3_ok nmX3 hown hK hx0 rfl 2 (by decide) (hts _ (List.mem_cons_of_mem _ kw_123)) (fun _ h9 => h9) rfl (by decide +kernel) rfl rfl (Nat.le_of_ble_eq_true rfl) dX3_voltage_14 (fun H f9 hn9 hz9 oq9 => ?_)
  have hPic := bX_self hj hPic (w := zV z v) rfl rfl rfl rfl rfl rfl rfl rfl rfl rfl rfl rfl oq9 hn9
  have hT0 := hT0.put (0) (by omega) hz9 oq9 (f := f9)
  refine lv_iload_n hx hb dX3_voltage_17 rfl (lv_at hl 0 rfl) ?_
  exact b_iret hx hb hr hlocks dX3_voltage_18 trivial hPic hT0 (by rfl)
set_option maxHeartbeats 4000000 in
set_option maxRecDepth 100000 in
theorem c_choose (l : Launch) (D : va_G) (g : Nat → ClassId) (ad : Nat → Nat) (z : bSt) (rl : Nat → Nat → Bool) (ff : Nat → Nat → Int) (hz : bOK z) (hj : bInj ad) (d o : Nat) (hd : d < bN z) (ho : o < bO z d) : Met l yX3_choose wsX3_choose ({ frames := 1, cells := 0, slots := 0, locals := 22 }) (pu_Pc [.ref (ad 0), .int (jI ((d : Int))), .int (jI ((o : Int)))] D vwCl (ty9 g) (fun H => bW D g ad z rl ff H)) (bQ D g ad (some (.int (jI (bC z d : Int)))) (zC z d o) (fun _ _ => True)) 0 0 (bFr ad) := by
  refine Met.ofW (cc := cX3_choose) (maxL := 5) (ret := some .int) (by decide) rfl ?_
  intro p e s m args below meth c s₁ B hml hv
  obtain ⟨rfl, hPic, hK⟩ := hv
  have hx := B.exec
  have hb := B.bytes
  have hr := B.returns
  have hts := atoms_spec (ws := wsX3_choose) B.pre
  have hown : s.vm.findClass RX3 = some m.cls := findClass_of_methodNamed B.named
  have hlocks := B.notSynchronized
  have hx0 : va_at D vwCl (ad 0, .inr (3, [.ref (ad 1), .int (jI ((bN z : Int))), .int (jI (bV z))])) s.heap := hPic 0 (by omega)
  have hx1 : va_at D vwCl (ad 1, .inl (g 2, 8, .inr (.inr (.inr (.inr (fun j => some (ad (2 + 12 * j)))))))) s.heap := hPic 1 (by omega)
  have hN := hz.1
  have hd0_d : va_at D vwCl (ad (2 + 12 * d), .inr (1, [.int (jI ((d : Int))), .ref (ad (2 + 12 * d + 1)), .ref (ad (2 + 12 * d + 5)), .ref (ad (2 + 12 * d + 10)), .ref (ad (2 + 12 * d + 11)), va_rf ((bU z d).map (fun u => ad (2 + 12 * u))), .int (jI ((bO z d : Int))), .int (jI ((bC z d : Int))), .int (jI (bZ z d))])) s.heap := bW_at hPic (i := d) (by omega) 0 (by omega)
  have fd := hz.2.2.1 d (by omega)
  have hl := lv_entry ([.ref (ad 0), .int (jI ((d : Int))), .int (jI ((o : Int)))]) (n := 5) (Nat.le_of_ble_eq_true rfl)
  rw [lg_entry_eq]
  generalize (lg_sl ([.ref (ad 0), .int (jI ((d : Int))), .int (jI ((o : Int)))]) ++ List.replicate (5 - (lg_sl ([.ref (ad 0), .int (jI ((d : Int))), .int (jI ((o : Int)))])).length) Slot.unset).toArray = ls at hl ⊢
  have hl : lv_has ls 5 [(0, .ref (ad 0)), (1, .int (jI ((d : Int)))), (2, .int (jI ((o : Int))))] := hl
  have hT0 : bTo ad s.heap s.heap [] := bTo.rf
  refine lv_aload_n hx hb dX3_choose_0 rfl (lv_at hl 0 rfl) ?_
  refine lv_iload_n hx hb dX3_choose_1 rfl (lv_at hl 1 rfl) ?_
  refine pu_call1 (va_runV (As := [.int (jI ((d : Int)))]) (rest := []) ⟨hx, hb, hml, hown, hts⟩ (c_known l D g ad z rl ff hz d hd) (cwV 1 hts (gd_V kw_140 kw_142 kw_0 kw_12 kcX3_known) rfl rfl rfl (by decide +kernel) ⟨Nat.le_of_ble_eq_true rfl, Nat.le_of_ble_eq_true rfl⟩) (pu_preV hPic hK rfl hx0) rfl rfl hl.1 rfl (lv_room (Nat.le_of_ble_eq_true rfl)) dX3_choose_2 ⟨Nat.zero_le _, Nat.zero_le _⟩) ?_
  refine lv_astore_n (lv' := [(3, .ref (ad (2 + 12 * d))), (0, .ref (ad 0)), (1, .int (jI ((d : Int)))), (2, .int (jI ((o : Int))))]) hx hb dX3_choose_5 rfl hl (by decide) rfl (fun ls hl => ?_)
  refine lv_iload_n hx hb dX3_choose_6 rfl (lv_at hl 3 rfl) ?_
  refine jv_iconst hx hb dX3_choose_7 ?_
  refine lv_aload_n hx hb dX3_choose_8 rfl (lv_at hl 0 rfl) ?_
  refine va_get (D := D) (ci := 1) (v := .int (jI ((bO z d : Int)))) (C := RX1) (T := TX1) (N := 9) hx hb hts (fun w h => List.mem_cons_of_mem _ (uw_X1 w h)) hown hK (j_P1 hd0_d) 0 rfl rfl 6 (by decide) (hts _ (List.mem_cons_of_mem _ kw_97)) (fun _ h9 => h9) rfl dX3_choose_9 ?_
  refine jv_iconst hx hb dX3_choose_12 ?_
  refine jv_isub hx hb dX3_choose_13 ?_
  refine pu_call (va_runS (As := [.int (jI ((o : Int))), .int (jI (0)), .int (jI ((bO z d : Int) - 1))]) (rest := []) ⟨hx, hb, hml, hown, hts⟩ (c_demandWithin l D g (o : Int) 0 ((bO z d : Int) - 1) (by omega) (by omega) (by omega) (by omega)) (cwS 3 hts (gd_S kw_234 kw_235 kw_12 kcX3_demandWithin) rfl rfl rfl (by decide +kernel) ⟨Nat.le_of_ble_eq_true rfl, Nat.le_of_ble_eq_true rfl⟩) (pu_preS trivial hK) rfl rfl hl.1 rfl (lv_room (Nat.le_of_ble_eq_true rfl)) dX3_choose_14 ⟨Nat.zero_le _, Nat.zero_le _⟩) ?_
  refine lv_aload_n hx hb dX3_choose_17 rfl (lv_at hl 0 rfl) ?_
  refine va_get (D := D) (ci := 1) (v := .int (jI ((bC z d : Int)))) (C := RX1) (T := TX1) (N := 9) hx hb hts (fun w h => List.mem_cons_of_mem _ (uw_X1 w h)) hown hK (j_P1 hd0_d) 0 rfl rfl 7 (by decide) (hts _ (List.mem_cons_of_mem _ kw_99)) (fun _ h9 => h9) rfl dX3_choose_18 ?_
  refine lv_istore (lv' := [(4, .int (jI ((bC z d : Int)))), (3, .ref (ad (2 + 12 * d))), (0, .ref (ad 0)), (1, .int (jI ((d : Int)))), (2, .int (jI ((o : Int))))]) hx hb dX3_choose_21 hl (by decide) rfl (fun ls hl => ?_)
  refine lv_aload_n hx hb dX3_choose_23 rfl (lv_at hl 1 rfl) ?_
  refine lv_iload_n hx hb dX3_choose_24 rfl (lv_at hl 4 rfl) ?_
  refine jv_put (D := D) (ci := 1) (v := .int (jI ((o : Int)))) (ty := .int) (C := RX1) (T := TX1) (N := 9) hx hb hts (fun w h => List.mem_cons_of_mem _ (uw_X1 w h)) tyX1 tyX1_ok nmX1 hown hK hd0_d rfl 7 (by decide) (hts _ (List.mem_cons_of_mem _ kw_99)) (fun _ h9 => h9) rfl (by decide +kernel) rfl rfl (Nat.le_of_ble_eq_true rfl) dX3_choose_25 (fun H f9 hn9 hz9 oq9 => ?_)
  have hPic := bX_dev hj hPic (w := zC z d o) (i := d) (by omega) rfl rfl rfl rfl rfl rfl rfl rfl (fun i2 h2 => ⟨rfl, rfl, jUp_n h2, rfl⟩) rfl rfl (jUp_s _ _ _) rfl oq9 hn9
  have hT0 := hT0.put (2 + 12 * d) (by omega) hz9 oq9 (f := f9)
  refine lv_iload hx hb dX3_choose_28 (lv_at hl 0 rfl) ?_
  exact b_iret hx hb hr hlocks dX3_choose_30 trivial hPic hT0 (by rfl)
set_option maxHeartbeats 4000000 in
set_option maxRecDepth 100000 in
theorem c_option (l : Launch) (D : va_G) (g : Nat → ClassId) (ad : Nat → Nat) (z : bSt) (rl : Nat → Nat → Bool) (ff : Nat → Nat → Int) (hz : bOK z) (hj : bInj ad) (d o : Nat) (sc de : Int) (hd : d < bN z) (ho : bO z d = o) (ho4 : o < 4) (hsc : 10 ≤ sc ∧ sc ≤ 1000) (hde : 0 ≤ de ∧ de ≤ 10000) : Met l yX3_option wsX3_option ({ frames := 1, cells := 0, slots := 0, locals := 22 }) (pu_Pc [.ref (ad 0), .int (jI ((d : Int))), .int (jI (sc)), .int (jI (de))] D vwCl (ty9 g) (fun H => bW D g ad z rl ff H)) (bQ D g ad (some (.int (jI (o : Int)))) (zO (zD (zS z d o sc) d o de) d (o + 1)) (fun _ _ => True)) 0 0 (bFr ad) := by
  refine Met.ofW (cc := cX3_option) (maxL := 6) (ret := some .int) (by decide) rfl ?_
  intro p e s m args below meth c s₁ B hml hv
  obtain ⟨rfl, hPic, hK⟩ := hv
  have hx := B.exec
  have hb := B.bytes
  have hr := B.returns
  have hts := atoms_spec (ws := wsX3_option) B.pre
  have hown : s.vm.findClass RX3 = some m.cls := findClass_of_methodNamed B.named
  have hlocks := B.notSynchronized
  have hx0 : va_at D vwCl (ad 0, .inr (3, [.ref (ad 1), .int (jI ((bN z : Int))), .int (jI (bV z))])) s.heap := hPic 0 (by omega)
  have hx1 : va_at D vwCl (ad 1, .inl (g 2, 8, .inr (.inr (.inr (.inr (fun j => some (ad (2 + 12 * j)))))))) s.heap := hPic 1 (by omega)
  have hN := hz.1
  have fd := hz.2.2.1 d (by omega)
  have hl := lv_entry ([.ref (ad 0), .int (jI ((d : Int))), .int (jI (sc)), .int (jI (de))]) (n := 6) (Nat.le_of_ble_eq_true rfl)
  rw [lg_entry_eq]
  generalize (lg_sl ([.ref (ad 0), .int (jI ((d : Int))), .int (jI (sc)), .int (jI (de))]) ++ List.replicate (6 - (lg_sl ([.ref (ad 0), .int (jI ((d : Int))), .int (jI (sc)), .int (jI (de))])).length) Slot.unset).toArray = ls at hl ⊢
  have hl : lv_has ls 6 [(0, .ref (ad 0)), (1, .int (jI ((d : Int)))), (2, .int (jI (sc))), (3, .int (jI (de)))] := hl
  have hT0 : bTo ad s.heap s.heap [] := bTo.rf
  have hd0_d : va_at D vwCl (ad (2 + 12 * d), .inr (1, [.int (jI ((d : Int))), .ref (ad (2 + 12 * d + 1)), .ref (ad (2 + 12 * d + 5)), .ref (ad (2 + 12 * d + 10)), .ref (ad (2 + 12 * d + 11)), va_rf ((bU z d).map (fun u => ad (2 + 12 * u))), .int (jI ((bO z d : Int))), .int (jI ((bC z d : Int))), .int (jI (bZ z d))])) s.heap := bW_at hPic (i := d) (by omega) 0 (by omega)
  have hd5_d : va_at D vwCl (ad (2 + 12 * d + 5), .inl (g 3, 4, .inr (.inr (.inr (.inr (fun j => some (ad (2 + 12 * d + 6 + j)))))))) s.heap := bW_at hPic (i := d) (by omega) 5 (by omega)
  have hso : va_at D vwCl (ad (2 + 12 * d + 6 + o), .inr (2, [.ref (ad (2 + 12 * d + 1)), .int (jI (bS z d o)), .int (jI (bD z d o))])) s.heap := bW_sobj hPic (by omega) (by omega)
  rw [ho] at hd0_d
  refine lv_aload_n hx hb dX3_option_0 rfl (lv_at hl 0 rfl) ?_
  refine lv_iload_n hx hb dX3_option_1 rfl (lv_at hl 1 rfl) ?_
  refine pu_call1 (va_runV (As := [.int (jI ((d : Int)))]) (rest := []) ⟨hx, hb, hml, hown, hts⟩ (c_known l D g ad z rl ff hz d hd) (cwV 1 hts (gd_V kw_140 kw_142 kw_0 kw_12 kcX3_known) rfl rfl rfl (by decide +kernel) ⟨Nat.le_of_ble_eq_true rfl, Nat.le_of_ble_eq_true rfl⟩) (pu_preV hPic hK rfl hx0) rfl rfl hl.1 rfl (lv_room (Nat.le_of_ble_eq_true rfl)) dX3_option_2 ⟨Nat.zero_le _, Nat.zero_le _⟩) ?_
  refine lv_astore (lv' := [(4, .ref (ad (2 + 12 * d))), (0, .ref (ad 0)), (1, .int (jI ((d : Int)))), (2, .int (jI (sc))), (3, .int (jI (de)))]) hx hb dX3_option_5 hl (by decide) rfl (fun ls hl => ?_)
  refine lv_iload_n hx hb dX3_option_7 rfl (lv_at hl 3 rfl) ?_
  refine jv_bipush hx hb dX3_option_8 (by decide) ?_
  refine jv_sipush hx hb dX3_option_10 (by decide) ?_
  refine pu_call (va_runS (As := [.int (jI (sc)), .int (jI (10)), .int (jI (1000))]) (rest := []) ⟨hx, hb, hml, hown, hts⟩ (c_demandWithin l D g sc 10 1000 (by omega) (by omega) (by omega) (by omega)) (cwS 3 hts (gd_S kw_234 kw_235 kw_12 kcX3_demandWithin) rfl rfl rfl (by decide +kernel) ⟨Nat.le_of_ble_eq_true rfl, Nat.le_of_ble_eq_true rfl⟩) (pu_preS trivial hK) rfl rfl hl.1 rfl (lv_room (Nat.le_of_ble_eq_true rfl)) dX3_option_13 ⟨Nat.zero_le _, Nat.zero_le _⟩) ?_
  refine lv_iload_n hx hb dX3_option_16 rfl (lv_at hl 4 rfl) ?_
  refine jv_iconst hx hb dX3_option_17 ?_
  refine jv_sipush hx hb dX3_option_18 (by decide) ?_
  refine pu_call (va_runS (As := [.int (jI (de)), .int (jI (0)), .int (jI (10000))]) (rest := []) ⟨hx, hb, hml, hown, hts⟩ (c_demandWithin l D g de 0 10000 (by omega) (by omega) (by omega) (by omega)) (cwS 3 hts (gd_S kw_234 kw_235 kw_12 kcX3_demandWithin) rfl rfl rfl (by decide +kernel) ⟨Nat.le_of_ble_eq_true rfl, Nat.le_of_ble_eq_true rfl⟩) (pu_preS trivial hK) rfl rfl hl.1 rfl (lv_room (Nat.le_of_ble_eq_true rfl)) dX3_option_21 ⟨Nat.zero_le _, Nat.zero_le _⟩) ?_
  refine lv_aload hx hb dX3_option_24 (lv_at hl 0 rfl) ?_
  refine va_get (D := D) (ci := 1) (v := .int (jI ((o : Int)))) (C := RX1) (T := TX1) (N := 9) hx hb hts (fun w h => List.mem_cons_of_mem _ (uw_X1 w h)) hown hK (j_P1 hd0_d) 0 rfl rfl 6 (by decide) (hts _ (List.mem_cons_of_mem _ kw_97)) (fun _ h9 => h9) rfl dX3_option_26 ?_
  refine jv_iconst hx hb dX3_option_29 ?_
  refine jv_icmp_lt (tgt := 43) hx hb dX3_option_30 (by decide) (by omega) (by omega) (fun c30 => ?_) (fun c30 => ?_)
  · refine lv_aload hx hb dX3_option_43 (lv_at hl 0 rfl) ?_
    refine va_get (D := D) (ci := 1) (v := .int (jI ((o : Int)))) (C := RX1) (T := TX1) (N := 9) hx hb hts (fun w h => List.mem_cons_of_mem _ (uw_X1 w h)) hown hK (j_P1 hd0_d) 0 rfl rfl 6 (by decide) (hts _ (List.mem_cons_of_mem _ kw_97)) (fun _ h9 => h9) rfl dX3_option_45 ?_
    refine lv_istore (lv' := [(5, .int (jI ((o : Int)))), (4, .ref (ad (2 + 12 * d))), (0, .ref (ad 0)), (1, .int (jI ((d : Int)))), (2, .int (jI (sc))), (3, .int (jI (de)))]) hx hb dX3_option_48 hl (by decide) rfl (fun ls hl => ?_)
    refine lv_aload hx hb dX3_option_50 (lv_at hl 1 rfl) ?_
    refine va_get (D := D) (ci := 1) (v := .ref (ad (2 + 12 * d + 5))) (C := RX1) (T := TX1) (N := 9) hx hb hts (fun w h => List.mem_cons_of_mem _ (uw_X1 w h)) hown hK (j_P1 hd0_d) 0 rfl rfl 2 (by decide) (hts _ (List.mem_cons_of_mem _ kw_89)) (fun _ h9 => h9) rfl dX3_option_52 ?_
    refine lv_iload hx hb dX3_option_55 (lv_at hl 0 rfl) ?_
    refine jv_aldq (i := o) hx hb hK hd5_d 3 rfl (by omega) (by omega) (by decide) dX3_option_57 ?_
    refine lv_iload_n hx hb dX3_option_58 rfl (lv_at hl 4 rfl) ?_
    refine jv_put (D := D) (ci := 2) (v := .int (jI (sc))) (ty := .int) (C := RX2) (T := TX2) (N := 3) hx hb hts (fun w h => List.mem_cons_of_mem _ (uw_X2 w h)) tyX2 tyX2_ok nmX2 hown hK hso rfl 1 (by decide) (hts _ (List.mem_cons_of_mem _ kw_73)) (fun _ h9 => h9) rfl (by decide +kernel) rfl rfl (Nat.le_of_ble_eq_true rfl) dX3_option_59 (fun H f9 hn9 hz9 oq9 => ?_)
    obtain ⟨w1, hw1⟩ : ∃ w9 : bSt, w9 = zS z d o sc := ⟨_, rfl⟩
    have hPic := bX_sett hj hPic (w := zS z d o sc) (i := d) (j := o) (by omega) ho4 rfl rfl rfl rfl rfl rfl rfl rfl rfl rfl (fun i2 j2 h2 => ⟨jUp2_n h2, rfl⟩) (jUp2_s _ _ _ _) rfl oq9 hn9
    rw [← hw1] at hPic
    have hT0 := hT0.put (2 + 12 * d + 6 + o) (by omega) hz9 oq9 (f := f9)
    have ho_w1 : bO w1 d = o := by rw [hw1]; exact ho
    have hd0_d : va_at D vwCl (ad (2 + 12 * d), .inr (1, [.int (jI ((d : Int))), .ref (ad (2 + 12 * d + 1)), .ref (ad (2 + 12 * d + 5)), .ref (ad (2 + 12 * d + 10)), .ref (ad (2 + 12 * d + 11)), va_rf ((bU w1 d).map (fun u => ad (2 + 12 * u))), .int (jI ((bO w1 d : Int))), .int (jI ((bC w1 d : Int))), .int (jI (bZ w1 d))])) H := bW_at hPic (i := d) (by omega) 0 (by omega)
    have hd5_d : va_at D vwCl (ad (2 + 12 * d + 5), .inl (g 3, 4, .inr (.inr (.inr (.inr (fun j => some (ad (2 + 12 * d + 6 + j)))))))) H := bW_at hPic (i := d) (by omega) 5 (by omega)
    have hso : va_at D vwCl (ad (2 + 12 * d + 6 + o), .inr (2, [.ref (ad (2 + 12 * d + 1)), .int (jI (bS w1 d o)), .int (jI (bD w1 d o))])) H := bW_sobj hPic (by omega) (by omega)
    rw [ho_w1] at hd0_d
    refine lv_aload hx hb dX3_option_62 (lv_at hl 1 rfl) ?_
    refine va_get (D := D) (ci := 1) (v := .ref (ad (2 + 12 * d + 5))) (C := RX1) (T := TX1) (N := 9) hx hb hts (fun w h => List.mem_cons_of_mem _ (uw_X1 w h)) hown hK (j_P1 hd0_d) 0 rfl rfl 2 (by decide) (hts _ (List.mem_cons_of_mem _ kw_89)) (fun _ h9 => h9) rfl dX3_option_64 ?_
    refine lv_iload hx hb dX3_option_67 (lv_at hl 0 rfl) ?_
    refine jv_aldq (i := o) hx hb hK hd5_d 3 rfl (by omega) (by omega) (by decide) dX3_option_69 ?_
    refine lv_iload_n hx hb dX3_option_70 rfl (lv_at hl 5 rfl) ?_
    refine jv_put (D := D) (ci := 2) (v := .int (jI (de))) (ty := .int) (C := RX2) (T := TX2) (N := 3) hx hb hts (fun w h => List.mem_cons_of_mem _ (uw_X2 w h)) tyX2 tyX2_ok nmX2 hown hK hso rfl 2 (by decide) (hts _ (List.mem_cons_of_mem _ kw_75)) (fun _ h9 => h9) rfl (by decide +kernel) rfl rfl (Nat.le_of_ble_eq_true rfl) dX3_option_71 (fun H f9 hn9 hz9 oq9 => ?_)
    obtain ⟨w2, hw2⟩ : ∃ w9 : bSt, w9 = zD w1 d o de := ⟨_, rfl⟩
    have hPic := bX_sett hj hPic (w := zD w1 d o de) (i := d) (j := o) (by omega) ho4 rfl rfl rfl rfl rfl rfl rfl rfl rfl rfl (fun i2 j2 h2 => ⟨rfl, jUp2_n h2⟩) rfl (jUp2_s _ _ _ _) oq9 hn9
    rw [← hw2] at hPic
    have hT0 := hT0.put (2 + 12 * d + 6 + o) (by omega) hz9 oq9 (f := f9)
    have ho_w2 : bO w2 d = o := by rw [hw2]; exact ho_w1
    have hd0_d : va_at D vwCl (ad (2 + 12 * d), .inr (1, [.int (jI ((d : Int))), .ref (ad (2 + 12 * d + 1)), .ref (ad (2 + 12 * d + 5)), .ref (ad (2 + 12 * d + 10)), .ref (ad (2 + 12 * d + 11)), va_rf ((bU w2 d).map (fun u => ad (2 + 12 * u))), .int (jI ((bO w2 d : Int))), .int (jI ((bC w2 d : Int))), .int (jI (bZ w2 d))])) H := bW_at hPic (i := d) (by omega) 0 (by omega)
    have hd5_d : va_at D vwCl (ad (2 + 12 * d + 5), .inl (g 3, 4, .inr (.inr (.inr (.inr (fun j => some (ad (2 + 12 * d + 6 + j)))))))) H := bW_at hPic (i := d) (by omega) 5 (by omega)
    have hso : va_at D vwCl (ad (2 + 12 * d + 6 + o), .inr (2, [.ref (ad (2 + 12 * d + 1)), .int (jI (bS w2 d o)), .int (jI (bD w2 d o))])) H := bW_sobj hPic (by omega) (by omega)
    rw [ho_w2] at hd0_d
    refine lv_aload hx hb dX3_option_74 (lv_at hl 1 rfl) ?_
    refine lv_dup hx hb dX3_option_76 rfl ?_
    refine va_get (D := D) (ci := 1) (v := .int (jI ((o : Int)))) (C := RX1) (T := TX1) (N := 9) hx hb hts (fun w h => List.mem_cons_of_mem _ (uw_X1 w h)) hown hK (j_P1 hd0_d) 0 rfl rfl 6 (by decide) (hts _ (List.mem_cons_of_mem _ kw_97)) (fun _ h9 => h9) rfl dX3_option_77 ?_
    refine jv_iconst hx hb dX3_option_80 ?_
    refine jv_iadd hx hb dX3_option_81 ?_
    refine jv_put (D := D) (ci := 1) (v := .int (jI ((o : Int) + 1))) (ty := .int) (C := RX1) (T := TX1) (N := 9) hx hb hts (fun w h => List.mem_cons_of_mem _ (uw_X1 w h)) tyX1 tyX1_ok nmX1 hown hK hd0_d rfl 6 (by decide) (hts _ (List.mem_cons_of_mem _ kw_97)) (fun _ h9 => h9) rfl (by decide +kernel) rfl rfl (Nat.le_of_ble_eq_true rfl) dX3_option_82 (fun H f9 hn9 hz9 oq9 => ?_)
    obtain ⟨w3, hw3⟩ : ∃ w9 : bSt, w9 = zO w2 d (o + 1) := ⟨_, rfl⟩
    have hPic := bX_dev hj hPic (w := zO w2 d (o + 1)) (i := d) (by omega) rfl rfl rfl rfl rfl rfl rfl rfl (fun i2 h2 => ⟨rfl, jUp_n h2, rfl, rfl⟩) rfl (jUp_s _ _ _) rfl rfl oq9 hn9
    rw [← hw3] at hPic
    have hT0 := hT0.put (2 + 12 * d) (by omega) hz9 oq9 (f := f9)
    refine lv_iload hx hb dX3_option_85 (lv_at hl 0 rfl) ?_
    subst hw3
    subst hw2
    subst hw1
    exact b_iret hx hb hr hlocks dX3_option_87 trivial hPic hT0 (by rfl)
  · exact absurd c30 (by omega)
end
section
set_option maxHeartbeats 4000000 in
set_option maxRecDepth 100000 in
theorem c_add (l : Launch) (D : va_G) (g : Nat → ClassId) (ad : Nat → Nat) (z : bSt) (rl : Nat → Nat → Bool) (ff : Nat → Nat → Int) (hz : bOK z) (hj : bInj ad) (i k : Nat) (pl le mo : Int) (hi : i < 8) (hk : bK z i = k) (hk6 : k < 6) : Met l yX0_add wsX0_add ({ frames := 0, cells := 0, slots := 0, locals := 0 }) (pu_Pc [.ref (ad (2 + 12 * i + 1)), .int (jI (pl)), .int (jI (le)), .int (jI (mo))] D vwCl (ty9 g) (fun H => bW D g ad z rl ff H)) (bQ D g ad none (zK (zM (zL (zP z i k pl) i k le) i k mo) i (k + 1)) (fun _ _ => True)) 0 0 (bFr ad) := by
  refine Met.ofW (cc := cX0_add) (maxL := 4) (ret := none) (by decide) rfl ?_
  intro p e s m args below meth c s₁ B hml hv
  obtain ⟨rfl, hPic, hK⟩ := hv
  have hx := B.exec
  have hb := B.bytes
  have hr := B.returns
  have hts := atoms_spec (ws := wsX0_add) B.pre
  have hown : s.vm.findClass RX0 = some m.cls := findClass_of_methodNamed B.named
  have hlocks := B.notSynchronized
  have hl := lv_entry ([.ref (ad (2 + 12 * i + 1)), .int (jI (pl)), .int (jI (le)), .int (jI (mo))]) (n := 4) (Nat.le_of_ble_eq_true rfl)
  rw [lg_entry_eq]
  generalize (lg_sl ([.ref (ad (2 + 12 * i + 1)), .int (jI (pl)), .int (jI (le)), .int (jI (mo))]) ++ List.replicate (4 - (lg_sl ([.ref (ad (2 + 12 * i + 1)), .int (jI (pl)), .int (jI (le)), .int (jI (mo))])).length) Slot.unset).toArray = ls at hl ⊢
  have hl : lv_has ls 4 [(0, .ref (ad (2 + 12 * i + 1))), (1, .int (jI (pl))), (2, .int (jI (le))), (3, .int (jI (mo)))] := hl
  have hT0 : bTo ad s.heap s.heap [] := bTo.rf
  have hcu : va_at D vwCl (ad (2 + 12 * i + 1), .inr (0, [.ref (ad (2 + 12 * i + 2)), .ref (ad (2 + 12 * i + 3)), .ref (ad (2 + 12 * i + 4)), .int (jI ((bK z i : Int)))])) s.heap := bW_at hPic (i := i) (by omega) 1 (by omega)
  have hpl : va_at D vwCl (ad (2 + 12 * i + 2), .inl (g 0, 6, .inl (fun k9 => jI (bP z i k9)))) s.heap := bW_at hPic (i := i) (by omega) 2 (by omega)
  have hle : va_at D vwCl (ad (2 + 12 * i + 3), .inl (g 0, 6, .inl (fun k9 => jI (bL z i k9)))) s.heap := bW_at hPic (i := i) (by omega) 3 (by omega)
  have hmo : va_at D vwCl (ad (2 + 12 * i + 4), .inl (g 0, 6, .inl (fun k9 => jI (bM z i k9)))) s.heap := bW_at hPic (i := i) (by omega) 4 (by omega)
  rw [hk] at hcu
  refine lv_aload_n hx hb dX0_add_0 rfl (lv_at hl 0 rfl) ?_
  refine va_get (D := D) (ci := 0) (v := .int (jI ((k : Int)))) (C := RX0) (T := TX0) (N := 4) hx hb hts (fun w h => List.mem_cons_of_mem _ (uw_X0 w h)) hown hK (j_P1 hcu) 0 rfl rfl 3 (by decide) (hts _ (List.mem_cons_of_mem _ kw_51)) (fun _ h9 => h9) rfl dX0_add_1 ?_
  refine jv_bipush hx hb dX0_add_4 (by decide) ?_
  refine jv_icmp_ge (tgt := 49) hx hb dX0_add_6 (by decide) (by omega) (by omega) (fun c6 => ?_) (fun c6 => ?_)
  · exact absurd c6 (by omega)
  · refine lv_aload_n hx hb dX0_add_9 rfl (lv_at hl 0 rfl) ?_
    refine va_get (D := D) (ci := 0) (v := .ref (ad (2 + 12 * i + 2))) (C := RX0) (T := TX0) (N := 4) hx hb hts (fun w h => List.mem_cons_of_mem _ (uw_X0 w h)) hown hK (j_P1 hcu) 0 rfl rfl 0 (by decide) (hts _ (List.mem_cons_of_mem _ kw_44)) (fun _ h9 => h9) rfl dX0_add_10 ?_
    refine lv_aload_n hx hb dX0_add_13 rfl (lv_at hl 0 rfl) ?_
    refine va_get (D := D) (ci := 0) (v := .int (jI ((k : Int)))) (C := RX0) (T := TX0) (N := 4) hx hb hts (fun w h => List.mem_cons_of_mem _ (uw_X0 w h)) hown hK (j_P1 hcu) 0 rfl rfl 3 (by decide) (hts _ (List.mem_cons_of_mem _ kw_51)) (fun _ h9 => h9) rfl dX0_add_14 ?_
    refine lv_iload_n hx hb dX0_add_17 rfl (lv_at hl 1 rfl) ?_
    refine jv_iast (i := k) hx hb hK hpl 0 rfl (by omega) (by omega) (by decide) dX0_add_18 (fun H f9 hn9 hz9 oq9 => ?_)
    obtain ⟨w1, hw1⟩ : ∃ w9 : bSt, w9 = zP z i k pl := ⟨_, rfl⟩
    have hPic := bX_pl hj hPic (w := zP z i k pl) (i := i) hi rfl rfl rfl rfl rfl rfl rfl rfl rfl rfl rfl (fun i2 h2 => jUp_n h2) (jUp_s _ _ _) oq9 hn9
    rw [← hw1] at hPic
    have hT0 := hT0.put (2 + 12 * i + 2) (by omega) hz9 oq9 (f := f9)
    have hk_w1 : bK w1 i = k := by rw [hw1]; exact hk
    have hcu : va_at D vwCl (ad (2 + 12 * i + 1), .inr (0, [.ref (ad (2 + 12 * i + 2)), .ref (ad (2 + 12 * i + 3)), .ref (ad (2 + 12 * i + 4)), .int (jI ((bK w1 i : Int)))])) H := bW_at hPic (i := i) (by omega) 1 (by omega)
    have hpl : va_at D vwCl (ad (2 + 12 * i + 2), .inl (g 0, 6, .inl (fun k9 => jI (bP w1 i k9)))) H := bW_at hPic (i := i) (by omega) 2 (by omega)
    have hle : va_at D vwCl (ad (2 + 12 * i + 3), .inl (g 0, 6, .inl (fun k9 => jI (bL w1 i k9)))) H := bW_at hPic (i := i) (by omega) 3 (by omega)
    have hmo : va_at D vwCl (ad (2 + 12 * i + 4), .inl (g 0, 6, .inl (fun k9 => jI (bM w1 i k9)))) H := bW_at hPic (i := i) (by omega) 4 (by omega)
    rw [hk_w1] at hcu
    refine lv_aload_n hx hb dX0_add_19 rfl (lv_at hl 0 rfl) ?_
    refine va_get (D := D) (ci := 0) (v := .ref (ad (2 + 12 * i + 3))) (C := RX0) (T := TX0) (N := 4) hx hb hts (fun w h => List.mem_cons_of_mem _ (uw_X0 w h)) hown hK (j_P1 hcu) 0 rfl rfl 1 (by decide) (hts _ (List.mem_cons_of_mem _ kw_47)) (fun _ h9 => h9) rfl dX0_add_20 ?_
    refine lv_aload_n hx hb dX0_add_23 rfl (lv_at hl 0 rfl) ?_
    refine va_get (D := D) (ci := 0) (v := .int (jI ((k : Int)))) (C := RX0) (T := TX0) (N := 4) hx hb hts (fun w h => List.mem_cons_of_mem _ (uw_X0 w h)) hown hK (j_P1 hcu) 0 rfl rfl 3 (by decide) (hts _ (List.mem_cons_of_mem _ kw_51)) (fun _ h9 => h9) rfl dX0_add_24 ?_
    refine lv_iload_n hx hb dX0_add_27 rfl (lv_at hl 2 rfl) ?_
    refine jv_iast (i := k) hx hb hK hle 0 rfl (by omega) (by omega) (by decide) dX0_add_28 (fun H f9 hn9 hz9 oq9 => ?_)
    obtain ⟨w2, hw2⟩ : ∃ w9 : bSt, w9 = zL w1 i k le := ⟨_, rfl⟩
    have hPic := bX_le hj hPic (w := zL w1 i k le) (i := i) hi rfl rfl rfl rfl rfl rfl rfl rfl rfl rfl rfl (fun i2 h2 => jUp_n h2) (jUp_s _ _ _) oq9 hn9
    rw [← hw2] at hPic
    have hT0 := hT0.put (2 + 12 * i + 3) (by omega) hz9 oq9 (f := f9)
    have hk_w2 : bK w2 i = k := by rw [hw2]; exact hk_w1
    have hcu : va_at D vwCl (ad (2 + 12 * i + 1), .inr (0, [.ref (ad (2 + 12 * i + 2)), .ref (ad (2 + 12 * i + 3)), .ref (ad (2 + 12 * i + 4)), .int (jI ((bK w2 i : Int)))])) H := bW_at hPic (i := i) (by omega) 1 (by omega)
    have hpl : va_at D vwCl (ad (2 + 12 * i + 2), .inl (g 0, 6, .inl (fun k9 => jI (bP w2 i k9)))) H := bW_at hPic (i := i) (by omega) 2 (by omega)
    have hle : va_at D vwCl (ad (2 + 12 * i + 3), .inl (g 0, 6, .inl (fun k9 => jI (bL w2 i k9)))) H := bW_at hPic (i := i) (by omega) 3 (by omega)
    have hmo : va_at D vwCl (ad (2 + 12 * i + 4), .inl (g 0, 6, .inl (fun k9 => jI (bM w2 i k9)))) H := bW_at hPic (i := i) (by omega) 4 (by omega)
    rw [hk_w2] at hcu
    refine lv_aload_n hx hb dX0_add_29 rfl (lv_at hl 0 rfl) ?_
    refine va_get (D := D) (ci := 0) (v := .ref (ad (2 + 12 * i + 4))) (C := RX0) (T := TX0) (N := 4) hx hb hts (fun w h => List.mem_cons_of_mem _ (uw_X0 w h)) hown hK (j_P1 hcu) 0 rfl rfl 2 (by decide) (hts _ (List.mem_cons_of_mem _ kw_49)) (fun _ h9 => h9) rfl dX0_add_30 ?_
    refine lv_aload_n hx hb dX0_add_33 rfl (lv_at hl 0 rfl) ?_
    refine va_get (D := D) (ci := 0) (v := .int (jI ((k : Int)))) (C := RX0) (T := TX0) (N := 4) hx hb hts (fun w h => List.mem_cons_of_mem _ (uw_X0 w h)) hown hK (j_P1 hcu) 0 rfl rfl 3 (by decide) (hts _ (List.mem_cons_of_mem _ kw_51)) (fun _ h9 => h9) rfl dX0_add_34 ?_
    refine lv_iload_n hx hb dX0_add_37 rfl (lv_at hl 3 rfl) ?_
    refine jv_iast (i := k) hx hb hK hmo 0 rfl (by omega) (by omega) (by decide) dX0_add_38 (fun H f9 hn9 hz9 oq9 => ?_)
    obtain ⟨w3, hw3⟩ : ∃ w9 : bSt, w9 = zM w2 i k mo := ⟨_, rfl⟩
    have hPic := bX_mo hj hPic (w := zM w2 i k mo) (i := i) hi rfl rfl rfl rfl rfl rfl rfl rfl rfl rfl rfl (fun i2 h2 => jUp_n h2) (jUp_s _ _ _) oq9 hn9
    rw [← hw3] at hPic
    have hT0 := hT0.put (2 + 12 * i + 4) (by omega) hz9 oq9 (f := f9)
    have hk_w3 : bK w3 i = k := by rw [hw3]; exact hk_w2
    have hcu : va_at D vwCl (ad (2 + 12 * i + 1), .inr (0, [.ref (ad (2 + 12 * i + 2)), .ref (ad (2 + 12 * i + 3)), .ref (ad (2 + 12 * i + 4)), .int (jI ((bK w3 i : Int)))])) H := bW_at hPic (i := i) (by omega) 1 (by omega)
    have hpl : va_at D vwCl (ad (2 + 12 * i + 2), .inl (g 0, 6, .inl (fun k9 => jI (bP w3 i k9)))) H := bW_at hPic (i := i) (by omega) 2 (by omega)
    have hle : va_at D vwCl (ad (2 + 12 * i + 3), .inl (g 0, 6, .inl (fun k9 => jI (bL w3 i k9)))) H := bW_at hPic (i := i) (by omega) 3 (by omega)
    have hmo : va_at D vwCl (ad (2 + 12 * i + 4), .inl (g 0, 6, .inl (fun k9 => jI (bM w3 i k9)))) H := bW_at hPic (i := i) (by omega) 4 (by omega)
    rw [hk_w3] at hcu
    refine lv_aload_n hx hb dX0_add_39 rfl (lv_at hl 0 rfl) ?_
    refine lv_dup hx hb dX0_add_40 rfl ?_
    refine va_get (D := D) (ci := 0) (v := .int (jI ((k : Int)))) (C := RX0) (T := TX0) (N := 4) hx hb hts (fun w h => List.mem_cons_of_mem _ (uw_X0 w h)) hown hK (j_P1 hcu) 0 rfl rfl 3 (by decide) (hts _ (List.mem_cons_of_mem _ kw_51)) (fun _ h9 => h9) rfl dX0_add_41 ?_
    refine jv_iconst hx hb dX0_add_44 ?_
    refine jv_iadd hx hb dX0_add_45 ?_
    refine jv_put (D := D) (ci := 0) (v := .int (jI ((k : Int) + 1))) (ty := .int) (C := RX0) (T := TX0) (N := 4) hx hb hts (fun w h => List.mem_cons_of_mem _ (uw_X0 w h)) tyX0 tyX0_ok nmX0 hown hK hcu rfl 3 (by decide) (hts _ (List.mem_cons_of_mem _ kw_51)) (fun _ h9 => h9) rfl (by decide +kernel) rfl rfl (Nat.le_of_ble_eq_true rfl) dX0_add_46 (fun H f9 hn9 hz9 oq9 => ?_)
    obtain ⟨w4, hw4⟩ : ∃ w9 : bSt, w9 = zK w3 i (k + 1) := ⟨_, rfl⟩
    have hPic := bX_cur hj hPic (w := zK w3 i (k + 1)) (i := i) hi rfl rfl rfl rfl rfl rfl rfl rfl rfl rfl rfl (fun i2 h2 => jUp_n h2) (jUp_s _ _ _) oq9 hn9
    rw [← hw4] at hPic
    have hT0 := hT0.put (2 + 12 * i + 1) (by omega) hz9 oq9 (f := f9)
    subst hw4
    subst hw3
    subst hw2
    subst hw1
    exact b_vret hx hb hr hlocks dX0_add_49 trivial hPic hT0
set_option maxHeartbeats 4000000 in
set_option maxRecDepth 100000 in
theorem c_point (l : Launch) (D : va_G) (g : Nat → ClassId) (ad : Nat → Nat) (z : bSt) (rl : Nat → Nat → Bool) (ff : Nat → Nat → Int) (hz : bOK z) (hj : bInj ad) (d k : Nat) (pl le mo : Int) (hd : d < bN z) (hk : bK z d = k) (hk6 : k < 6) (hpl : 1 ≤ pl ∧ pl ≤ 5000) (hle : 0 ≤ le ∧ le ≤ mo) (hmo : mo ≤ 100000) (hlast : k = 0 ∨ (bP z d (k - 1) < pl ∧ 1 ≤ bP z d (k - 1))) : Met l yX3_point wsX3_point ({ frames := 1, cells := 0, slots := 0, locals := 23 }) (pu_Pc [.ref (ad 0), .int (jI ((d : Int))), .int (jI (pl)), .int (jI (le)), .int (jI (mo))] D vwCl (ty9 g) (fun H => bW D g ad z rl ff H)) (bQ D g ad (some (.int (jI ((k + 1 : Nat) : Int)))) (zK (zM (zL (zP z d k pl) d k le) d k mo) d (k + 1)) (fun _ _ => True)) 0 0 (bFr ad) := by
  refine Met.ofW (cc := cX3_point) (maxL := 6) (ret := some .int) (by decide) rfl ?_
  intro p e s m args below meth c s₁ B hml hv
  obtain ⟨rfl, hPic, hK⟩ := hv
  have hx := B.exec
  have hb := B.bytes
  have hr := B.returns
  have hts := atoms_spec (ws := wsX3_point) B.pre
  have hown : s.vm.findClass RX3 = some m.cls := findClass_of_methodNamed B.named
  have hlocks := B.notSynchronized
  have hx0 : va_at D vwCl (ad 0, .inr (3, [.ref (ad 1), .int (jI ((bN z : Int))), .int (jI (bV z))])) s.heap := hPic 0 (by omega)
  have hx1 : va_at D vwCl (ad 1, .inl (g 2, 8, .inr (.inr (.inr (.inr (fun j => some (ad (2 + 12 * j)))))))) s.heap := hPic 1 (by omega)
  have hN := hz.1
  have hd0_d : va_at D vwCl (ad (2 + 12 * d), .inr (1, [.int (jI ((d : Int))), .ref (ad (2 + 12 * d + 1)), .ref (ad (2 + 12 * d + 5)), .ref (ad (2 + 12 * d + 10)), .ref (ad (2 + 12 * d + 11)), va_rf ((bU z d).map (fun u => ad (2 + 12 * u))), .int (jI ((bO z d : Int))), .int (jI ((bC z d : Int))), .int (jI (bZ z d))])) s.heap := bW_at hPic (i := d) (by omega) 0 (by omega)
  have hcu : va_at D vwCl (ad (2 + 12 * d + 1), .inr (0, [.ref (ad (2 + 12 * d + 2)), .ref (ad (2 + 12 * d + 3)), .ref (ad (2 + 12 * d + 4)), .int (jI ((bK z d : Int)))])) s.heap := bW_at hPic (i := d) (by omega) 1 (by omega)
  have hpl : va_at D vwCl (ad (2 + 12 * d + 2), .inl (g 0, 6, .inl (fun k9 => jI (bP z d k9)))) s.heap := bW_at hPic (i := d) (by omega) 2 (by omega)
  have hle : va_at D vwCl (ad (2 + 12 * d + 3), .inl (g 0, 6, .inl (fun k9 => jI (bL z d k9)))) s.heap := bW_at hPic (i := d) (by omega) 3 (by omega)
  have hmo : va_at D vwCl (ad (2 + 12 * d + 4), .inl (g 0, 6, .inl (fun k9 => jI (bM z d k9)))) s.heap := bW_at hPic (i := d) (by omega) 4 (by omega)
  rw [hk] at hcu
  have hl := lv_entry ([.ref (ad 0), .int (jI ((d : Int))), .int (jI (pl)), .int (jI (le)), .int (jI (mo))]) (n := 6) (Nat.le_of_ble_eq_true rfl)
  rw [lg_entry_eq]
  generalize (lg_sl ([.ref (ad 0), .int (jI ((d : Int))), .int (jI (pl)), .int (jI (le)), .int (jI (mo))]) ++ List.replicate (6 - (lg_sl ([.ref (ad 0), .int (jI ((d : Int))), .int (jI (pl)), .int (jI (le)), .int (jI (mo))])).length) Slot.unset).toArray = ls at hl ⊢
  have hl : lv_has ls 6 [(0, .ref (ad 0)), (1, .int (jI ((d : Int)))), (2, .int (jI (pl))), (3, .int (jI (le))), (4, .int (jI (mo)))] := hl
  have hT0 : bTo ad s.heap s.heap [] := bTo.rf
  refine lv_aload_n hx hb dX3_point_0 rfl (lv_at hl 0 rfl) ?_
  refine lv_iload_n hx hb dX3_point_1 rfl (lv_at hl 1 rfl) ?_
  refine pu_call1 (va_runV (As := [.int (jI ((d : Int)))]) (rest := []) ⟨hx, hb, hml, hown, hts⟩ (c_known l D g ad z rl ff hz d hd) (cwV 1 hts (gd_V kw_140 kw_142 kw_0 kw_12 kcX3_known) rfl rfl rfl (by decide +kernel) ⟨Nat.le_of_ble_eq_true rfl, Nat.le_of_ble_eq_true rfl⟩) (pu_preV hPic hK rfl hx0) rfl rfl hl.1 rfl (lv_room (Nat.le_of_ble_eq_true rfl)) dX3_point_2 ⟨Nat.zero_le _, Nat.zero_le _⟩) ?_
  refine va_get (D := D) (ci := 1) (v := .ref (ad (2 + 12 * d + 1))) (C := RX1) (T := TX1) (N := 9) hx hb hts (fun w h => List.mem_cons_of_mem _ (uw_X1 w h)) hown hK (j_P1 hd0_d) 0 rfl rfl 1 (by decide) (hts _ (List.mem_cons_of_mem _ kw_87)) (fun _ h9 => h9) rfl dX3_point_5 ?_
  refine lv_astore (lv' := [(5, .ref (ad (2 + 12 * d + 1))), (0, .ref (ad 0)), (1, .int (jI ((d : Int)))), (2, .int (jI (pl))), (3, .int (jI (le))), (4, .int (jI (mo)))]) hx hb dX3_point_8 hl (by decide) rfl (fun ls hl => ?_)
  refine lv_iload_n hx hb dX3_point_10 rfl (lv_at hl 3 rfl) ?_
  refine jv_iconst hx hb dX3_point_11 ?_
  refine jv_sipush hx hb dX3_point_12 (by decide) ?_
  refine pu_call (va_runS (As := [.int (jI (pl)), .int (jI (1)), .int (jI (5000))]) (rest := []) ⟨hx, hb, hml, hown, hts⟩ (c_demandWithin l D g pl 1 5000 (by omega) (by omega) (by omega) (by omega)) (cwS 3 hts (gd_S kw_234 kw_235 kw_12 kcX3_demandWithin) rfl rfl rfl (by decide +kernel) ⟨Nat.le_of_ble_eq_true rfl, Nat.le_of_ble_eq_true rfl⟩) (pu_preS trivial hK) rfl rfl hl.1 rfl (lv_room (Nat.le_of_ble_eq_true rfl)) dX3_point_15 ⟨Nat.zero_le _, Nat.zero_le _⟩) ?_
  refine lv_iload hx hb dX3_point_18 (lv_at hl 5 rfl) ?_
  refine jv_iconst hx hb dX3_point_20 ?_
  refine jv_ldc (k := 100000) hx hb hown (hts _ (List.mem_cons_of_mem _ kw_238)) (by decide) dX3_point_21 ?_
  refine pu_call (va_runS (As := [.int (jI (mo)), .int (jI (0)), .int (jI (100000))]) (rest := []) ⟨hx, hb, hml, hown, hts⟩ (c_demandWithin l D g mo 0 100000 (by omega) (by omega) (by omega) (by omega)) (cwS 3 hts (gd_S kw_234 kw_235 kw_12 kcX3_demandWithin) rfl rfl rfl (by decide +kernel) ⟨Nat.le_of_ble_eq_true rfl, Nat.le_of_ble_eq_true rfl⟩) (pu_preS trivial hK) rfl rfl hl.1 rfl (lv_room (Nat.le_of_ble_eq_true rfl)) dX3_point_23 ⟨Nat.zero_le _, Nat.zero_le _⟩) ?_
  refine lv_iload_n hx hb dX3_point_26 rfl (lv_at hl 4 rfl) ?_
  refine jv_iconst hx hb dX3_point_27 ?_
  refine lv_iload hx hb dX3_point_28 (lv_at hl 5 rfl) ?_
  refine pu_call (va_runS (As := [.int (jI (le)), .int (jI (0)), .int (jI (mo))]) (rest := []) ⟨hx, hb, hml, hown, hts⟩ (c_demandWithin l D g le 0 mo (by omega) (by omega) (by omega) (by omega)) (cwS 3 hts (gd_S kw_234 kw_235 kw_12 kcX3_demandWithin) rfl rfl rfl (by decide +kernel) ⟨Nat.le_of_ble_eq_true rfl, Nat.le_of_ble_eq_true rfl⟩) (pu_preS trivial hK) rfl rfl hl.1 rfl (lv_room (Nat.le_of_ble_eq_true rfl)) dX3_point_30 ⟨Nat.zero_le _, Nat.zero_le _⟩) ?_
  refine lv_aload hx hb dX3_point_33 (lv_at hl 0 rfl) ?_
  refine va_get (D := D) (ci := 0) (v := .int (jI ((k : Int)))) (C := RX0) (T := TX0) (N := 4) hx hb hts (fun w h => List.mem_cons_of_mem _ (uw_X0 w h)) hown hK (j_P1 hcu) 0 rfl rfl 3 (by decide) (hts _ (List.mem_cons_of_mem _ kw_53)) (fun _ h9 => h9) rfl dX3_point_35 ?_
  refine jv_bipush hx hb dX3_point_38 (by decide) ?_
  refine jv_icmp_lt (tgt := 53) hx hb dX3_point_40 (by decide) (by omega) (by omega) (fun c40 => ?_) (fun c40 => ?_)
  · refine lv_aload hx hb dX3_point_53 (lv_at hl 0 rfl) ?_
    refine va_get (D := D) (ci := 0) (v := .int (jI ((k : Int)))) (C := RX0) (T := TX0) (N := 4) hx hb hts (fun w h => List.mem_cons_of_mem _ (uw_X0 w h)) hown hK (j_P1 hcu) 0 rfl rfl 3 (by decide) (hts _ (List.mem_cons_of_mem _ kw_53)) (fun _ h9 => h9) rfl dX3_point_55 ?_
    refine jv_if_le (tgt := 88) hx hb dX3_point_58 (by decide) (by omega) (fun c58 => ?_) (fun c58 => ?_)
    · refine lv_aload hx hb dX3_point_88 (lv_at hl 0 rfl) ?_
      refine lv_iload_n hx hb dX3_point_90 rfl (lv_at hl 3 rfl) ?_
      refine lv_iload_n hx hb dX3_point_91 rfl (lv_at hl 4 rfl) ?_
      refine lv_iload hx hb dX3_point_92 (lv_at hl 5 rfl) ?_
      refine b_call (va_runV (As := [.int (jI (pl)), .int (jI (le)), .int (jI (mo))]) (rest := []) ⟨hx, hb, hml, hown, hts⟩ (c_add l D g ad z rl ff hz hj d k pl le mo (by omega) hk hk6) (cwV 3 hts (gd_V kw_241 kw_242 kw_243 kw_14 kcX0_add) rfl rfl rfl (by decide +kernel) ⟨Nat.le_of_ble_eq_true rfl, Nat.le_of_ble_eq_true rfl⟩) (pu_preV hPic hK rfl hcu) rfl rfl hl.1 rfl (lv_room (Nat.le_of_ble_eq_true rfl)) dX3_point_94 ⟨Nat.zero_le _, Nat.zero_le _⟩) hT0 (fun H locs rl ff hPh hPic hT0 => ?_)
      refine W.eq (g2 := F0 m 97 ls []) rfl ?_
      obtain ⟨w4, hw4⟩ : ∃ w9 : bSt, w9 = (zK (zM (zL (zP z d k pl) d k le) d k mo) d (k + 1)) := ⟨_, rfl⟩
      rw [← hw4] at hPic
      have hk4 : bK w4 d = k + 1 := by rw [hw4]; exact jUp_s _ _ _
      have hcu : va_at D vwCl (ad (2 + 12 * d + 1), .inr (0, [.ref (ad (2 + 12 * d + 2)), .ref (ad (2 + 12 * d + 3)), .ref (ad (2 + 12 * d + 4)), .int (jI ((bK w4 d : Int)))])) H := bW_at hPic (i := d) (by omega) 1 (by omega)
      rw [hk4] at hcu
      refine lv_aload hx hb dX3_point_97 (lv_at hl 0 rfl) ?_
      refine va_get (D := D) (ci := 0) (v := .int (jI (((k + 1 : Nat) : Int)))) (C := RX0) (T := TX0) (N := 4) hx hb hts (fun w h => List.mem_cons_of_mem _ (uw_X0 w h)) hown hK (j_P1 hcu) 0 rfl rfl 3 (by decide) (hts _ (List.mem_cons_of_mem _ kw_53)) (fun _ h9 => h9) rfl dX3_point_99 ?_
      subst hw4
      exact b_iret hx hb hr hlocks dX3_point_102 trivial hPic hT0 (by rfl)
    · refine lv_aload hx hb dX3_point_61 (lv_at hl 0 rfl) ?_
      refine va_get (D := D) (ci := 0) (v := .ref (ad (2 + 12 * d + 2))) (C := RX0) (T := TX0) (N := 4) hx hb hts (fun w h => List.mem_cons_of_mem _ (uw_X0 w h)) hown hK (j_P1 hcu) 0 rfl rfl 0 (by decide) (hts _ (List.mem_cons_of_mem _ kw_46)) (fun _ h9 => h9) rfl dX3_point_63 ?_
      refine lv_aload hx hb dX3_point_66 (lv_at hl 0 rfl) ?_
      refine va_get (D := D) (ci := 0) (v := .int (jI ((k : Int)))) (C := RX0) (T := TX0) (N := 4) hx hb hts (fun w h => List.mem_cons_of_mem _ (uw_X0 w h)) hown hK (j_P1 hcu) 0 rfl rfl 3 (by decide) (hts _ (List.mem_cons_of_mem _ kw_53)) (fun _ h9 => h9) rfl dX3_point_68 ?_
      refine jv_iconst hx hb dX3_point_71 ?_
      refine jv_isub hx hb dX3_point_72 ?_
      refine jv_iald (i := (k - 1)) hx hb hK hpl 0 rfl (by omega) (by omega) (by decide) dX3_point_73 ?_
      refine lv_iload_n hx hb dX3_point_74 rfl (lv_at hl 3 rfl) ?_
      refine jv_icmp_lt (tgt := 88) hx hb dX3_point_75 (by decide) (by omega) (by omega) (fun c75 => ?_) (fun c75 => ?_)
      · refine lv_aload hx hb dX3_point_88 (lv_at hl 0 rfl) ?_
        refine lv_iload_n hx hb dX3_point_90 rfl (lv_at hl 3 rfl) ?_
        refine lv_iload_n hx hb dX3_point_91 rfl (lv_at hl 4 rfl) ?_
        refine lv_iload hx hb dX3_point_92 (lv_at hl 5 rfl) ?_
        refine b_call (va_runV (As := [.int (jI (pl)), .int (jI (le)), .int (jI (mo))]) (rest := []) ⟨hx, hb, hml, hown, hts⟩ (c_add l D g ad z rl ff hz hj d k pl le mo (by omega) hk hk6) (cwV 3 hts (gd_V kw_241 kw_242 kw_243 kw_14 kcX0_add) rfl rfl rfl (by decide +kernel) ⟨Nat.le_of_ble_eq_true rfl, Nat.le_of_ble_eq_true rfl⟩) (pu_preV hPic hK rfl hcu) rfl rfl hl.1 rfl (lv_room (Nat.le_of_ble_eq_true rfl)) dX3_point_94 ⟨Nat.zero_le _, Nat.zero_le _⟩) hT0 (fun H locs rl ff hPh hPic hT0 => ?_)
        refine W.eq (g2 := F0 m 97 ls []) rfl ?_
        obtain ⟨w4, hw4⟩ : ∃ w9 : bSt, w9 = (zK (zM (zL (zP z d k pl) d k le) d k mo) d (k + 1)) := ⟨_, rfl⟩
        rw [← hw4] at hPic
        have hk4 : bK w4 d = k + 1 := by rw [hw4]; exact jUp_s _ _ _
        have hcu : va_at D vwCl (ad (2 + 12 * d + 1), .inr (0, [.ref (ad (2 + 12 * d + 2)), .ref (ad (2 + 12 * d + 3)), .ref (ad (2 + 12 * d + 4)), .int (jI ((bK w4 d : Int)))])) H := bW_at hPic (i := d) (by omega) 1 (by omega)
        rw [hk4] at hcu
        refine lv_aload hx hb dX3_point_97 (lv_at hl 0 rfl) ?_
        refine va_get (D := D) (ci := 0) (v := .int (jI (((k + 1 : Nat) : Int)))) (C := RX0) (T := TX0) (N := 4) hx hb hts (fun w h => List.mem_cons_of_mem _ (uw_X0 w h)) hown hK (j_P1 hcu) 0 rfl rfl 3 (by decide) (hts _ (List.mem_cons_of_mem _ kw_53)) (fun _ h9 => h9) rfl dX3_point_99 ?_
        subst hw4
        exact b_iret hx hb hr hlocks dX3_point_102 trivial hPic hT0 (by rfl)
      · exact absurd c75 (by omega)
  · exact absurd c40 (by omega)
set_option maxHeartbeats 4000000 in
set_option maxRecDepth 100000 in
theorem c_device0 (l : Launch) (D : va_G) (g : Nat → ClassId) (ad : Nat → Nat) (z : bSt) (rl : Nat → Nat → Bool) (ff : Nat → Nat → Int) (hz : bOK z) (hj : bInj ad) (n : Nat) (hn : bN z = n) (hn8 : n < 8) : Met l yX3_device wsX3_device ({ frames := 1, cells := 0, slots := 0, locals := 21 }) (pu_Pc [.ref (ad 0), .int (jI ((-1)))] D vwCl (ty9 g) (fun H => bW D g ad z rl ff H)) (bQ D g ad (some (.int (jI (n : Int)))) (zN (zU z n none) (n + 1)) (fun _ _ => True)) 0 0 (bFr ad) := by
  refine Met.ofW (cc := cX3_device) (maxL := 4) (ret := some .int) (by decide) rfl ?_
  intro p e s m args below meth c s₁ B hml hv
  obtain ⟨rfl, hPic, hK⟩ := hv
  have hx := B.exec
  have hb := B.bytes
  have hr := B.returns
  have hts := atoms_spec (ws := wsX3_device) B.pre
  have hown : s.vm.findClass RX3 = some m.cls := findClass_of_methodNamed B.named
  have hlocks := B.notSynchronized
  have hx0 : va_at D vwCl (ad 0, .inr (3, [.ref (ad 1), .int (jI ((bN z : Int))), .int (jI (bV z))])) s.heap := hPic 0 (by omega)
  have hx1 : va_at D vwCl (ad 1, .inl (g 2, 8, .inr (.inr (.inr (.inr (fun j => some (ad (2 + 12 * j)))))))) s.heap := hPic 1 (by omega)
  have hN := hz.1
  rw [hn] at hx0
  have hd0_n : va_at D vwCl (ad (2 + 12 * n), .inr (1, [.int (jI ((n : Int))), .ref (ad (2 + 12 * n + 1)), .ref (ad (2 + 12 * n + 5)), .ref (ad (2 + 12 * n + 10)), .ref (ad (2 + 12 * n + 11)), va_rf ((bU z n).map (fun u => ad (2 + 12 * u))), .int (jI ((bO z n : Int))), .int (jI ((bC z n : Int))), .int (jI (bZ z n))])) s.heap := bW_at hPic (i := n) (by omega) 0 (by omega)
  have hl := lv_entry ([.ref (ad 0), .int (jI ((-1)))]) (n := 4) (Nat.le_of_ble_eq_true rfl)
  rw [lg_entry_eq]
  generalize (lg_sl ([.ref (ad 0), .int (jI ((-1)))]) ++ List.replicate (4 - (lg_sl ([.ref (ad 0), .int (jI ((-1)))])).length) Slot.unset).toArray = ls at hl ⊢
  have hl : lv_has ls 4 [(0, .ref (ad 0)), (1, .int (jI ((-1))))] := hl
  have hT0 : bTo ad s.heap s.heap [] := bTo.rf
  refine lv_iload_n hx hb dX3_device_0 rfl (lv_at hl 1 rfl) ?_
  refine jv_iconst hx hb dX3_device_1 ?_
  refine jv_icmp_ne (tgt := 9) hx hb dX3_device_2 (by decide) (by omega) (by omega) (fun c2 => ?_) (fun c2 => ?_)
  · exact absurd c2 (by decide)
  · refine lv_null hx hb dX3_device_5 ?_
    refine lv_goto (tgt := 14) hx hb dX3_device_6 (by decide) ?_
    refine lv_astore_nN (lv' := [(2, .null), (0, .ref (ad 0)), (1, .int (jI ((-1))))]) hx hb dX3_device_14 rfl hl (by decide) rfl (fun ls hl => ?_)
    refine lv_aload_n hx hb dX3_device_15 rfl (lv_at hl 1 rfl) ?_
    refine va_get (D := D) (ci := 3) (v := .int (jI ((n : Int)))) (C := RX3) (T := TX3) (N := 3) hx hb hts (fun w h => List.mem_cons_of_mem _ (uw_X3 w h)) hown hK (j_P1 hx0) 0 rfl rfl 1 (by decide) (hts _ (List.mem_cons_of_mem _ kw_122)) (fun _ h9 => h9) rfl dX3_device_16 ?_
    refine jv_bipush hx hb dX3_device_19 (by decide) ?_
    refine jv_icmp_lt (tgt := 34) hx hb dX3_device_21 (by decide) (by omega) (by omega) (fun c21 => ?_) (fun c21 => ?_)
    · refine lv_aload_n hx hb dX3_device_34 rfl (lv_at hl 1 rfl) ?_
      refine va_get (D := D) (ci := 3) (v := .ref (ad 1)) (C := RX3) (T := TX3) (N := 3) hx hb hts (fun w h => List.mem_cons_of_mem _ (uw_X3 w h)) hown hK (j_P1 hx0) 0 rfl rfl 0 (by decide) (hts _ (List.mem_cons_of_mem _ kw_121)) (fun _ h9 => h9) rfl dX3_device_35 ?_
      refine lv_aload_n hx hb dX3_device_38 rfl (lv_at hl 1 rfl) ?_
      refine va_get (D := D) (ci := 3) (v := .int (jI ((n : Int)))) (C := RX3) (T := TX3) (N := 3) hx hb hts (fun w h => List.mem_cons_of_mem _ (uw_X3 w h)) hown hK (j_P1 hx0) 0 rfl rfl 1 (by decide) (hts _ (List.mem_cons_of_mem _ kw_122)) (fun _ h9 => h9) rfl dX3_device_39 ?_
      refine jv_aldq (i := n) hx hb hK hx1 2 rfl (by omega) (by omega) (by decide) dX3_device_42 ?_
      refine lv_astore_n (lv' := [(3, .ref (ad (2 + 12 * n))), (2, .null), (0, .ref (ad 0)), (1, .int (jI ((-1))))]) hx hb dX3_device_43 rfl hl (by decide) rfl (fun ls hl => ?_)
      refine lv_aload_n hx hb dX3_device_44 rfl (lv_at hl 0 rfl) ?_
      refine lv_aload_nN hx hb dX3_device_45 rfl (lv_at hl 1 rfl) ?_
      refine jv_put (D := D) (ci := 1) (v := .null) (ty := .object "BreakerOrders$Device") (C := RX1) (T := TX1) (N := 9) hx hb hts (fun w h => List.mem_cons_of_mem _ (uw_X1 w h)) tyX1 tyX1_ok nmX1 hown hK hd0_n rfl 5 (by decide) (hts _ (List.mem_cons_of_mem _ kw_95)) (fun _ h9 => h9) rfl (by decide +kernel) rfl rfl (Nat.le_of_ble_eq_true rfl) dX3_device_46 (fun H f9 hn9 hz9 oq9 => ?_)
      obtain ⟨w1, hw1⟩ : ∃ w9 : bSt, w9 = (zU z n none) := ⟨_, rfl⟩
      have hPic := bX_dev hj hPic (w := (zU z n none)) (i := n) (by omega) rfl rfl rfl rfl rfl rfl rfl rfl (fun i2 h2 => ⟨jUp_n h2, rfl, rfl, rfl⟩) (jUp_s _ _ _) rfl rfl rfl oq9 hn9
      rw [← hw1] at hPic
      have hT0 := hT0.put (2 + 12 * n) (by omega) hz9 oq9 (f := f9)
      have hn1 : bN w1 = n := by rw [hw1]; exact hn
      have hx0 : va_at D vwCl (ad 0, .inr (3, [.ref (ad 1), .int (jI ((bN w1 : Int))), .int (jI (bV w1))])) H := hPic 0 (by omega)
      have hx1 : va_at D vwCl (ad 1, .inl (g 2, 8, .inr (.inr (.inr (.inr (fun j => some (ad (2 + 12 * j)))))))) H := hPic 1 (by omega)
      have hd0_n : va_at D vwCl (ad (2 + 12 * n), .inr (1, [.int (jI ((n : Int))), .ref (ad (2 + 12 * n + 1)), .ref (ad (2 + 12 * n + 5)), .ref (ad (2 + 12 * n + 10)), .ref (ad (2 + 12 * n + 11)), va_rf ((bU w1 n).map (fun u => ad (2 + 12 * u))), .int (jI ((bO w1 n : Int))), .int (jI ((bC w1 n : Int))), .int (jI (bZ w1 n))])) H := bW_at hPic (i := n) (by omega) 0 (by omega)
      rw [hn1] at hx0
      refine lv_aload_n hx hb dX3_device_49 rfl (lv_at hl 2 rfl) ?_
      refine lv_dup hx hb dX3_device_50 rfl ?_
      refine va_get (D := D) (ci := 3) (v := .int (jI ((n : Int)))) (C := RX3) (T := TX3) (N := 3) hx hb hts (fun w h => List.mem_cons_of_mem _ (uw_X3 w h)) hown hK (j_P1 hx0) 0 rfl rfl 1 (by decide) (hts _ (List.mem_cons_of_mem _ kw_122)) (fun _ h9 => h9) rfl dX3_device_51 ?_
      refine jv_iconst hx hb dX3_device_54 ?_
      refine jv_iadd hx hb dX3_device_55 ?_
      refine jv_put (D := D) (ci := 3) (v := .int (jI ((n : Int) + 1))) (ty := .int) (C := RX3) (T := TX3) (N := 3) hx hb hts (fun w h => List.mem_cons_of_mem _ (uw_X3 w h)) tyX3 tyX3_ok nmX3 hown hK hx0 rfl 1 (by decide) (hts _ (List.mem_cons_of_mem _ kw_122)) (fun _ h9 => h9) rfl (by decide +kernel) rfl rfl (Nat.le_of_ble_eq_true rfl) dX3_device_56 (fun H f9 hn9 hz9 oq9 => ?_)
      obtain ⟨w2, hw2⟩ : ∃ w9 : bSt, w9 = zN w1 (n + 1) := ⟨_, rfl⟩
      have hPic := bX_self hj hPic (w := zN w1 (n + 1)) rfl rfl rfl rfl rfl rfl rfl rfl rfl rfl (a := n + 1) rfl rfl oq9 hn9
      rw [← hw2] at hPic
      have hT0 := hT0.put (0) (by omega) hz9 oq9 (f := f9)
      have hd0_n : va_at D vwCl (ad (2 + 12 * n), .inr (1, [.int (jI ((n : Int))), .ref (ad (2 + 12 * n + 1)), .ref (ad (2 + 12 * n + 5)), .ref (ad (2 + 12 * n + 10)), .ref (ad (2 + 12 * n + 11)), va_rf ((bU w2 n).map (fun u => ad (2 + 12 * u))), .int (jI ((bO w2 n : Int))), .int (jI ((bC w2 n : Int))), .int (jI (bZ w2 n))])) H := bW_at hPic (i := n) (by omega) 0 (by omega)
      refine lv_aload_n hx hb dX3_device_59 rfl (lv_at hl 0 rfl) ?_
      refine va_get (D := D) (ci := 1) (v := .int (jI ((n : Int)))) (C := RX1) (T := TX1) (N := 9) hx hb hts (fun w h => List.mem_cons_of_mem _ (uw_X1 w h)) hown hK (j_P1 hd0_n) 0 rfl rfl 0 (by decide) (hts _ (List.mem_cons_of_mem _ kw_85)) (fun _ h9 => h9) rfl dX3_device_60 ?_
      subst hw2
      subst hw1
      exact b_iret hx hb hr hlocks dX3_device_63 trivial hPic hT0 (by rfl)
    · exact absurd c21 (by omega)
set_option maxHeartbeats 4000000 in
set_option maxRecDepth 100000 in
theorem c_device1 (l : Launch) (D : va_G) (g : Nat → ClassId) (ad : Nat → Nat) (z : bSt) (rl : Nat → Nat → Bool) (ff : Nat → Nat → Int) (hz : bOK z) (hj : bInj ad) (n u : Nat) (hu : u < n) (hn : bN z = n) (hn8 : n < 8) : Met l yX3_device wsX3_device ({ frames := 1, cells := 0, slots := 0, locals := 21 }) (pu_Pc [.ref (ad 0), .int (jI ((u : Int)))] D vwCl (ty9 g) (fun H => bW D g ad z rl ff H)) (bQ D g ad (some (.int (jI (n : Int)))) (zN (zU z n (some u)) (n + 1)) (fun _ _ => True)) 0 0 (bFr ad) := by
  refine Met.ofW (cc := cX3_device) (maxL := 4) (ret := some .int) (by decide) rfl ?_
  intro p e s m args below meth c s₁ B hml hv
  obtain ⟨rfl, hPic, hK⟩ := hv
  have hx := B.exec
  have hb := B.bytes
  have hr := B.returns
  have hts := atoms_spec (ws := wsX3_device) B.pre
  have hown : s.vm.findClass RX3 = some m.cls := findClass_of_methodNamed B.named
  have hlocks := B.notSynchronized
  have hx0 : va_at D vwCl (ad 0, .inr (3, [.ref (ad 1), .int (jI ((bN z : Int))), .int (jI (bV z))])) s.heap := hPic 0 (by omega)
  have hx1 : va_at D vwCl (ad 1, .inl (g 2, 8, .inr (.inr (.inr (.inr (fun j => some (ad (2 + 12 * j)))))))) s.heap := hPic 1 (by omega)
  have hN := hz.1
  rw [hn] at hx0
  have hd0_n : va_at D vwCl (ad (2 + 12 * n), .inr (1, [.int (jI ((n : Int))), .ref (ad (2 + 12 * n + 1)), .ref (ad (2 + 12 * n + 5)), .ref (ad (2 + 12 * n + 10)), .ref (ad (2 + 12 * n + 11)), va_rf ((bU z n).map (fun u => ad (2 + 12 * u))), .int (jI ((bO z n : Int))), .int (jI ((bC z n : Int))), .int (jI (bZ z n))])) s.heap := bW_at hPic (i := n) (by omega) 0 (by omega)
  have hl := lv_entry ([.ref (ad 0), .int (jI ((u : Int)))]) (n := 4) (Nat.le_of_ble_eq_true rfl)
  rw [lg_entry_eq]
  generalize (lg_sl ([.ref (ad 0), .int (jI ((u : Int)))]) ++ List.replicate (4 - (lg_sl ([.ref (ad 0), .int (jI ((u : Int)))])).length) Slot.unset).toArray = ls at hl ⊢
  have hl : lv_has ls 4 [(0, .ref (ad 0)), (1, .int (jI ((u : Int))))] := hl
  have hT0 : bTo ad s.heap s.heap [] := bTo.rf
  refine lv_iload_n hx hb dX3_device_0 rfl (lv_at hl 1 rfl) ?_
  refine jv_iconst hx hb dX3_device_1 ?_
  refine jv_icmp_ne (tgt := 9) hx hb dX3_device_2 (by decide) (by omega) (by omega) (fun c2 => ?_) (fun c2 => ?_)
  · refine lv_aload_n hx hb dX3_device_9 rfl (lv_at hl 0 rfl) ?_
    refine lv_iload_n hx hb dX3_device_10 rfl (lv_at hl 1 rfl) ?_
    refine pu_call1 (va_runV (As := [.int (jI ((u : Int)))]) (rest := []) ⟨hx, hb, hml, hown, hts⟩ (c_known l D g ad z rl ff hz u (by omega)) (cwV 1 hts (gd_V kw_140 kw_142 kw_0 kw_12 kcX3_known) rfl rfl rfl (by decide +kernel) ⟨Nat.le_of_ble_eq_true rfl, Nat.le_of_ble_eq_true rfl⟩) (pu_preV hPic hK rfl hx0) rfl rfl hl.1 rfl (lv_room (Nat.le_of_ble_eq_true rfl)) dX3_device_11 ⟨Nat.zero_le _, Nat.zero_le _⟩) ?_
    refine lv_astore_n (lv' := [(2, .ref (ad (2 + 12 * u))), (0, .ref (ad 0)), (1, .int (jI ((u : Int))))]) hx hb dX3_device_14 rfl hl (by decide) rfl (fun ls hl => ?_)
    refine lv_aload_n hx hb dX3_device_15 rfl (lv_at hl 1 rfl) ?_
    refine va_get (D := D) (ci := 3) (v := .int (jI ((n : Int)))) (C := RX3) (T := TX3) (N := 3) hx hb hts (fun w h => List.mem_cons_of_mem _ (uw_X3 w h)) hown hK (j_P1 hx0) 0 rfl rfl 1 (by decide) (hts _ (List.mem_cons_of_mem _ kw_122)) (fun _ h9 => h9) rfl dX3_device_16 ?_
    refine jv_bipush hx hb dX3_device_19 (by decide) ?_
    refine jv_icmp_lt (tgt := 34) hx hb dX3_device_21 (by decide) (by omega) (by omega) (fun c21 => ?_) (fun c21 => ?_)
    · refine lv_aload_n hx hb dX3_device_34 rfl (lv_at hl 1 rfl) ?_
      refine va_get (D := D) (ci := 3) (v := .ref (ad 1)) (C := RX3) (T := TX3) (N := 3) hx hb hts (fun w h => List.mem_cons_of_mem _ (uw_X3 w h)) hown hK (j_P1 hx0) 0 rfl rfl 0 (by decide) (hts _ (List.mem_cons_of_mem _ kw_121)) (fun _ h9 => h9) rfl dX3_device_35 ?_
      refine lv_aload_n hx hb dX3_device_38 rfl (lv_at hl 1 rfl) ?_
      refine va_get (D := D) (ci := 3) (v := .int (jI ((n : Int)))) (C := RX3) (T := TX3) (N := 3) hx hb hts (fun w h => List.mem_cons_of_mem _ (uw_X3 w h)) hown hK (j_P1 hx0) 0 rfl rfl 1 (by decide) (hts _ (List.mem_cons_of_mem _ kw_122)) (fun _ h9 => h9) rfl dX3_device_39 ?_
      refine jv_aldq (i := n) hx hb hK hx1 2 rfl (by omega) (by omega) (by decide) dX3_device_42 ?_
      refine lv_astore_n (lv' := [(3, .ref (ad (2 + 12 * n))), (2, .ref (ad (2 + 12 * u))), (0, .ref (ad 0)), (1, .int (jI ((u : Int))))]) hx hb dX3_device_43 rfl hl (by decide) rfl (fun ls hl => ?_)
      refine lv_aload_n hx hb dX3_device_44 rfl (lv_at hl 0 rfl) ?_
      refine lv_aload_n hx hb dX3_device_45 rfl (lv_at hl 1 rfl) ?_
      refine jv_put (D := D) (ci := 1) (v := .ref (ad (2 + 12 * u))) (ty := .object "BreakerOrders$Device") (C := RX1) (T := TX1) (N := 9) hx hb hts (fun w h => List.mem_cons_of_mem _ (uw_X1 w h)) tyX1 tyX1_ok nmX1 hown hK hd0_n rfl 5 (by decide) (hts _ (List.mem_cons_of_mem _ kw_95)) (fun _ h9 => h9) rfl (by decide +kernel) rfl rfl (Nat.le_of_ble_eq_true rfl) dX3_device_46 (fun H f9 hn9 hz9 oq9 => ?_)
      obtain ⟨w1, hw1⟩ : ∃ w9 : bSt, w9 = (zU z n (some u)) := ⟨_, rfl⟩
      have hPic := bX_dev hj hPic (w := (zU z n (some u))) (i := n) (by omega) rfl rfl rfl rfl rfl rfl rfl rfl (fun i2 h2 => ⟨jUp_n h2, rfl, rfl, rfl⟩) (jUp_s _ _ _) rfl rfl rfl oq9 hn9
      rw [← hw1] at hPic
      have hT0 := hT0.put (2 + 12 * n) (by omega) hz9 oq9 (f := f9)
      have hn1 : bN w1 = n := by rw [hw1]; exact hn
      have hx0 : va_at D vwCl (ad 0, .inr (3, [.ref (ad 1), .int (jI ((bN w1 : Int))), .int (jI (bV w1))])) H := hPic 0 (by omega)
      have hx1 : va_at D vwCl (ad 1, .inl (g 2, 8, .inr (.inr (.inr (.inr (fun j => some (ad (2 + 12 * j)))))))) H := hPic 1 (by omega)
      have hd0_n : va_at D vwCl (ad (2 + 12 * n), .inr (1, [.int (jI ((n : Int))), .ref (ad (2 + 12 * n + 1)), .ref (ad (2 + 12 * n + 5)), .ref (ad (2 + 12 * n + 10)), .ref (ad (2 + 12 * n + 11)), va_rf ((bU w1 n).map (fun u => ad (2 + 12 * u))), .int (jI ((bO w1 n : Int))), .int (jI ((bC w1 n : Int))), .int (jI (bZ w1 n))])) H := bW_at hPic (i := n) (by omega) 0 (by omega)
      rw [hn1] at hx0
      refine lv_aload_n hx hb dX3_device_49 rfl (lv_at hl 2 rfl) ?_
      refine lv_dup hx hb dX3_device_50 rfl ?_
      refine va_get (D := D) (ci := 3) (v := .int (jI ((n : Int)))) (C := RX3) (T := TX3) (N := 3) hx hb hts (fun w h => List.mem_cons_of_mem _ (uw_X3 w h)) hown hK (j_P1 hx0) 0 rfl rfl 1 (by decide) (hts _ (List.mem_cons_of_mem _ kw_122)) (fun _ h9 => h9) rfl dX3_device_51 ?_
      refine jv_iconst hx hb dX3_device_54 ?_
      refine jv_iadd hx hb dX3_device_55 ?_
      refine jv_put (D := D) (ci := 3) (v := .int (jI ((n : Int) + 1))) (ty := .int) (C := RX3) (T := TX3) (N := 3) hx hb hts (fun w h => List.mem_cons_of_mem _ (uw_X3 w h)) tyX3 tyX3_ok nmX3 hown hK hx0 rfl 1 (by decide) (hts _ (List.mem_cons_of_mem _ kw_122)) (fun _ h9 => h9) rfl (by decide +kernel) rfl rfl (Nat.le_of_ble_eq_true rfl) dX3_device_56 (fun H f9 hn9 hz9 oq9 => ?_)
      obtain ⟨w2, hw2⟩ : ∃ w9 : bSt, w9 = zN w1 (n + 1) := ⟨_, rfl⟩
      have hPic := bX_self hj hPic (w := zN w1 (n + 1)) rfl rfl rfl rfl rfl rfl rfl rfl rfl rfl (a := n + 1) rfl rfl oq9 hn9
      rw [← hw2] at hPic
      have hT0 := hT0.put (0) (by omega) hz9 oq9 (f := f9)
      have hd0_n : va_at D vwCl (ad (2 + 12 * n), .inr (1, [.int (jI ((n : Int))), .ref (ad (2 + 12 * n + 1)), .ref (ad (2 + 12 * n + 5)), .ref (ad (2 + 12 * n + 10)), .ref (ad (2 + 12 * n + 11)), va_rf ((bU w2 n).map (fun u => ad (2 + 12 * u))), .int (jI ((bO w2 n : Int))), .int (jI ((bC w2 n : Int))), .int (jI (bZ w2 n))])) H := bW_at hPic (i := n) (by omega) 0 (by omega)
      refine lv_aload_n hx hb dX3_device_59 rfl (lv_at hl 0 rfl) ?_
      refine va_get (D := D) (ci := 1) (v := .int (jI ((n : Int)))) (C := RX1) (T := TX1) (N := 9) hx hb hts (fun w h => List.mem_cons_of_mem _ (uw_X1 w h)) hown hK (j_P1 hd0_n) 0 rfl rfl 0 (by decide) (hts _ (List.mem_cons_of_mem _ kw_85)) (fun _ h9 => h9) rfl dX3_device_60 ?_
      subst hw2
      subst hw1
      exact b_iret hx hb hr hlocks dX3_device_63 trivial hPic hT0 (by rfl)
    · exact absurd c21 (by omega)
  · exact absurd c2 (by omega)
end
section
theorem jUp_row {f : Nat → Nat → Int} {i k q : Nat} {F : Nat → Int} (hq : q < k + 1) (h : ∀ q, q < k → f i q = F q) : jUp f i (jUp (f i) k (F k)) i q = F q := by
  by_cases hk : q = k
  · subst hk
    exact jUp2_s _ _ _ _
  · rw [jUp2_n (Or.inr hk)]
    exact h q (by omega)
set_option maxHeartbeats 4000000 in
set_option maxRecDepth 100000 in
theorem c_forgetTries (l : Launch) (D : va_G) (g : Nat → ClassId) (ad : Nat → Nat) (z : bSt) (rl : Nat → Nat → Bool) (ff : Nat → Nat → Int) (hz : bOK z) (hj : bInj ad) (i : Nat) (hi : i < 8) : Met l yX1_forgetTries wsX1_forgetTries ({ frames := 0, cells := 0, slots := 0, locals := 0 }) (pu_Pc [.ref (ad (2 + 12 * i))] D vwCl (ty9 g) (fun H => bW D g ad z rl ff H)) (bQ D g ad none (z) (fun r f => f = ff ∧ (∀ i2, i2 ≠ i → r i2 = rl i2) ∧ ∀ k, k < 4 → r i k = false)) 0 0 (bFr ad) := by
  refine Met.ofW (cc := cX1_forgetTries) (maxL := 2) (ret := none) (by decide) rfl ?_
  intro p e s m args below meth c s₁ B hml hv
  obtain ⟨rfl, hPic, hK⟩ := hv
  have hx := B.exec
  have hb := B.bytes
  have hr := B.returns
  have hts := atoms_spec (ws := wsX1_forgetTries) B.pre
  have hown : s.vm.findClass RX1 = some m.cls := findClass_of_methodNamed B.named
  have hlocks := B.notSynchronized
  have hl := lv_entry ([.ref (ad (2 + 12 * i))]) (n := 2) (Nat.le_of_ble_eq_true rfl)
  rw [lg_entry_eq]
  generalize (lg_sl ([.ref (ad (2 + 12 * i))]) ++ List.replicate (2 - (lg_sl ([.ref (ad (2 + 12 * i))])).length) Slot.unset).toArray = ls at hl ⊢
  have hl : lv_has ls 2 [(0, .ref (ad (2 + 12 * i)))] := hl
  have hT0 : bTo ad s.heap s.heap [] := bTo.rf
  refine jv_iconst hx hb dX1_forgetTries_0 ?_
  refine lv_istore_n (lv' := [(1, .int (jI (0))), (0, .ref (ad (2 + 12 * i)))]) hx hb dX1_forgetTries_1 rfl hl (by decide) rfl (fun ls hl => ?_)
  refine jw_loop3 (X := Nat × (Nat → Nat → Bool)) (fun x => 4 - x.1) (fun x H L ls => (x.1 ≤ 4 ∧ (∀ i2, i2 ≠ i → x.2 i2 = rl i2) ∧ (∀ k, k < x.1 → x.2 i k = false) ∧ bW D g ad z x.2 ff H ∧ bTo ad s.heap H L) ∧ lv_has ls 2 [(0, .ref (ad (2 + 12 * i))), (1, .int (jI ((x.1 : Int))))]) ?_ (0, rl) s.heap [] ls ⟨⟨by omega, fun _ _ => rfl, fun k hk => absurd hk (Nat.not_lt_zero k), hPic, hT0⟩, lv_sub hl [1, 0] rfl⟩
  intro x H L ls hinv ih
  obtain ⟨j, r1⟩ := x
  obtain ⟨⟨h4, ho, hf, hPic, hT0⟩, hl⟩ := hinv
  dsimp only at h4 ho hf hPic
  have hl : lv_has ls 2 [(0, .ref (ad (2 + 12 * i))), (1, .int (jI ((j : Int))))] := hl
  have hd0_i : va_at D vwCl (ad (2 + 12 * i), .inr (1, [.int (jI ((i : Int))), .ref (ad (2 + 12 * i + 1)), .ref (ad (2 + 12 * i + 5)), .ref (ad (2 + 12 * i + 10)), .ref (ad (2 + 12 * i + 11)), va_rf ((bU z i).map (fun u => ad (2 + 12 * u))), .int (jI ((bO z i : Int))), .int (jI ((bC z i : Int))), .int (jI (bZ z i))])) H := bW_at hPic (i := i) hi 0 (by omega)
  have hd10_i : va_at D vwCl (ad (2 + 12 * i + 10), .inl (g 1, 4, .inl (fun j => jI (bI (r1 i j))))) H := bW_at hPic (i := i) hi 10 (by omega)
  refine lv_iload_n hx hb dX1_forgetTries_2 rfl (lv_at hl 1 rfl) ?_
  refine jv_iconst hx hb dX1_forgetTries_3 ?_
  refine jv_icmp_ge (tgt := 20) hx hb dX1_forgetTries_4 (by decide) (by omega) (by omega) (fun c4 => ?_) (fun c4 => ?_)
  · exact b_vret hx hb hr hlocks dX1_forgetTries_20 ⟨rfl, ho, fun k hk => hf k (by omega)⟩ hPic hT0
  · refine lv_aload_n hx hb dX1_forgetTries_7 rfl (lv_at hl 0 rfl) ?_
    refine va_get (D := D) (ci := 1) (v := .ref (ad (2 + 12 * i + 10))) (C := RX1) (T := TX1) (N := 9) hx hb hts (fun w h => List.mem_cons_of_mem _ (uw_X1 w h)) hown hK (j_P1 hd0_i) 0 rfl rfl 3 (by decide) (hts _ (List.mem_cons_of_mem _ kw_90)) (fun _ h9 => h9) rfl dX1_forgetTries_8 ?_
    refine lv_iload_n hx hb dX1_forgetTries_11 rfl (lv_at hl 1 rfl) ?_
    refine jv_iconst hx hb dX1_forgetTries_12 ?_
    refine jv_zast (w := false) (i := j) hx hb hK hd10_i 1 rfl (by omega) (by omega) (by decide) rfl dX1_forgetTries_13 (fun H f9 hn9 hz9 oq9 => ?_)
    have hPic := bX_rl hj hPic (rl1 := (jUp r1 i (jUp (r1 i) j false))) (i := i) hi (fun i2 h2 => jUp_n h2) (jUp_s _ _ _) oq9 hn9
    have hT0 := hT0.put (2 + 12 * i + 10) (by omega) hz9 oq9 (f := f9)
    refine lv_iinc (v := jI ((j : Int) + 1)) (lv' := [(1, .int (jI ((j : Int) + 1))), (0, .ref (ad (2 + 12 * i)))]) hx hb dX1_forgetTries_14 hl (k := 1) rfl (jI_add _ _) (by decide) rfl (fun ls hl => ?_)
    refine lv_goto (tgt := 2) hx hb dX1_forgetTries_17 (by decide) ?_
    exact ih (j + 1, (jUp r1 i (jUp (r1 i) j false))) H _ ls ⟨⟨by dsimp only; omega, fun i2 h2 => (jUp_n h2).trans (ho i2 h2), fun k hk => jUp_two (fun q => by dsimp only at hk; exact hf k (by omega)), hPic, hT0⟩, lv_sub hl [1, 0] rfl⟩ (by dsimp only; omega)
set_option maxHeartbeats 4000000 in
set_option maxRecDepth 100000 in
theorem c_tryOptions0 (l : Launch) (D : va_G) (g : Nat → ClassId) (ad : Nat → Nat) (z : bSt) (rl : Nat → Nat → Bool) (ff : Nat → Nat → Int) (hz : bOK z) (hj : bInj ad) (i : Nat) (mg : Int) (hi : i < 8) (hU : bU z i = none) (hmg : 0 ≤ mg ∧ mg ≤ 10000) : Met l yX3_tryOptions wsX3_tryOptions ({ frames := 5, cells := 0, slots := 0, locals := 136 }) (pu_Pc [.ref (ad (2 + 12 * i)), .int (jI (mg))] D vwCl (ty9 g) (fun H => bW D g ad z rl ff H)) (bQ D g ad (some (.int (jI (bI (!decide ((cFit (fun j => !rl i j) (bO z i) 0) = -1)))))) (z) (fun r f => r = rl ∧ (∀ i2, i2 ≠ i → f i2 = ff i2) ∧ f i 0 = (cFit (fun j => !rl i j) (bO z i) 0))) 0 0 (bFr ad) := by
  refine Met.ofW (cc := cX3_tryOptions) (maxL := 4) (ret := some .boolean) (by decide) rfl ?_
  intro p e s m args below meth c s₁ B hml hv
  obtain ⟨rfl, hPic, hK⟩ := hv
  have hx := B.exec
  have hb := B.bytes
  have hr := B.returns
  have hts := atoms_spec (ws := wsX3_tryOptions) B.pre
  have hown : s.vm.findClass RX3 = some m.cls := findClass_of_methodNamed B.named
  have hlocks := B.notSynchronized
  have hd0_i : va_at D vwCl (ad (2 + 12 * i), .inr (1, [.int (jI ((i : Int))), .ref (ad (2 + 12 * i + 1)), .ref (ad (2 + 12 * i + 5)), .ref (ad (2 + 12 * i + 10)), .ref (ad (2 + 12 * i + 11)), va_rf ((bU z i).map (fun u => ad (2 + 12 * u))), .int (jI ((bO z i : Int))), .int (jI ((bC z i : Int))), .int (jI (bZ z i))])) s.heap := bW_at hPic (i := i) hi 0 (by omega)
  have hd11_i : va_at D vwCl (ad (2 + 12 * i + 11), .inl (g 0, 4, .inl (fun j => jI (ff i j)))) s.heap := bW_at hPic (i := i) hi 11 (by omega)
  rw [hU] at hd0_i
  have rF := cFit_rng (fun j => !rl i j) (bO z i)
  have fi := hz.2.2.1 i hi
  have hl := lv_entry ([.ref (ad (2 + 12 * i)), .int (jI (mg))]) (n := 4) (Nat.le_of_ble_eq_true rfl)
  rw [lg_entry_eq]
  generalize (lg_sl ([.ref (ad (2 + 12 * i)), .int (jI (mg))]) ++ List.replicate (4 - (lg_sl ([.ref (ad (2 + 12 * i)), .int (jI (mg))])).length) Slot.unset).toArray = ls at hl ⊢
  have hl : lv_has ls 4 [(0, .ref (ad (2 + 12 * i))), (1, .int (jI (mg)))] := hl
  have hT0 : bTo ad s.heap s.heap [] := bTo.rf
  refine lv_aload_n hx hb dX3_tryOptions_0 rfl (lv_at hl 0 rfl) ?_
  refine va_get (D := D) (ci := 1) (v := .null) (C := RX1) (T := TX1) (N := 9) hx hb hts (fun w h => List.mem_cons_of_mem _ (uw_X1 w h)) hown hK (j_P1 hd0_i) 0 rfl rfl 5 (by decide) (hts _ (List.mem_cons_of_mem _ kw_95)) (fun _ h9 => h9) rfl dX3_tryOptions_1 ?_
  refine lv_astore_nN (lv' := [(2, .null), (0, .ref (ad (2 + 12 * i))), (1, .int (jI (mg)))]) hx hb dX3_tryOptions_4 rfl hl (by decide) rfl (fun ls hl => ?_)
  refine lv_aload_nN hx hb dX3_tryOptions_5 rfl (lv_at hl 0 rfl) ?_
  refine lv_ifnonnullN hx hb dX3_tryOptions_6 ?_
  refine lv_aload_n hx hb dX3_tryOptions_9 rfl (lv_at hl 1 rfl) ?_
  refine va_get (D := D) (ci := 1) (v := .ref (ad (2 + 12 * i + 11))) (C := RX1) (T := TX1) (N := 9) hx hb hts (fun w h => List.mem_cons_of_mem _ (uw_X1 w h)) hown hK (j_P1 hd0_i) 0 rfl rfl 4 (by decide) (hts _ (List.mem_cons_of_mem _ kw_93)) (fun _ h9 => h9) rfl dX3_tryOptions_10 ?_
  refine jv_iconst hx hb dX3_tryOptions_13 ?_
  refine lv_aload_n hx hb dX3_tryOptions_14 rfl (lv_at hl 1 rfl) ?_
  refine lv_null hx hb dX3_tryOptions_15 ?_
  refine lv_iload_n hx hb dX3_tryOptions_16 rfl (lv_at hl 2 rfl) ?_
  refine pu_call1 (va_runS (As := [.ref (ad (2 + 12 * i)), .null, .int (jI (mg))]) (rest := [.int (jI (0)), .ref (ad (2 + 12 * i + 11))]) ⟨hx, hb, hml, hown, hts⟩ (c_firstFitting0 l D g ad z rl ff hz i mg hi hmg) (cwS 3 hts (gd_S kw_360 kw_361 kw_12 kcX3_firstFitting) rfl rfl rfl (by decide +kernel) ⟨Nat.le_of_ble_eq_true rfl, Nat.le_of_ble_eq_true rfl⟩) (pu_preS hPic hK) rfl rfl hl.1 rfl (lv_room (Nat.le_of_ble_eq_true rfl)) dX3_tryOptions_17 ⟨Nat.zero_le _, Nat.zero_le _⟩) ?_
  refine jv_iast (i := 0) hx hb hK hd11_i 0 rfl (by omega) (by omega) (by decide) dX3_tryOptions_20 (fun H f9 hn9 hz9 oq9 => ?_)
  have hPic := bX_ff hj hPic (ff1 := (jUp ff i (jUp (ff i) 0 (cFit (fun j => !rl i j) (bO z i) 0)))) (i := i) hi (fun i2 h2 => jUp_n h2) (jUp_s _ _ _) oq9 hn9
  have hT0 := hT0.put (2 + 12 * i + 11) (by omega) hz9 oq9 (f := f9)
  have hd0_i : va_at D vwCl (ad (2 + 12 * i), .inr (1, [.int (jI ((i : Int))), .ref (ad (2 + 12 * i + 1)), .ref (ad (2 + 12 * i + 5)), .ref (ad (2 + 12 * i + 10)), .ref (ad (2 + 12 * i + 11)), va_rf ((bU z i).map (fun u => ad (2 + 12 * u))), .int (jI ((bO z i : Int))), .int (jI ((bC z i : Int))), .int (jI (bZ z i))])) H := bW_at hPic (i := i) hi 0 (by omega)
  have hd11_i : va_at D vwCl (ad (2 + 12 * i + 11), .inl (g 0, 4, .inl (fun j => jI ((jUp ff i (jUp (ff i) 0 (cFit (fun j => !rl i j) (bO z i) 0))) i j)))) H := bW_at hPic (i := i) hi 11 (by omega)
  rw [hU] at hd0_i
  refine lv_aload_n hx hb dX3_tryOptions_21 rfl (lv_at hl 1 rfl) ?_
  refine va_get (D := D) (ci := 1) (v := .ref (ad (2 + 12 * i + 11))) (C := RX1) (T := TX1) (N := 9) hx hb hts (fun w h => List.mem_cons_of_mem _ (uw_X1 w h)) hown hK (j_P1 hd0_i) 0 rfl rfl 4 (by decide) (hts _ (List.mem_cons_of_mem _ kw_93)) (fun _ h9 => h9) rfl dX3_tryOptions_22 ?_
  refine jv_iconst hx hb dX3_tryOptions_25 ?_
  refine jv_iald (i := 0) hx hb hK hd11_i 0 rfl (by omega) (by omega) (by decide) dX3_tryOptions_26 ?_
  rw [jUp2_s]
  refine jv_iconst hx hb dX3_tryOptions_27 ?_
  refine jv_icmp_eq (tgt := 35) hx hb dX3_tryOptions_28 (by decide) (by omega) (by omega) (fun c28 => ?_) (fun c28 => ?_)
  · refine jv_iconst hx hb dX3_tryOptions_35 ?_
    exact b_zret hx hb hr hlocks dX3_tryOptions_36 ⟨rfl, fun i2 h2 => jUp_n h2, jUp2_s _ _ _ _⟩ hPic hT0 (by rw [c28]; rfl)
  · refine jv_iconst hx hb dX3_tryOptions_31 ?_
    refine lv_goto (tgt := 36) hx hb dX3_tryOptions_32 (by decide) ?_
    exact b_zret hx hb hr hlocks dX3_tryOptions_36 ⟨rfl, fun i2 h2 => jUp_n h2, jUp2_s _ _ _ _⟩ hPic hT0 (by rw [decide_eq_false c28]; rfl)
set_option maxHeartbeats 4000000 in
set_option maxRecDepth 100000 in
theorem c_tryOptions1 (l : Launch) (D : va_G) (g : Nat → ClassId) (ad : Nat → Nat) (z : bSt) (rl : Nat → Nat → Bool) (ff : Nat → Nat → Int) (hz : bOK z) (hj : bInj ad) (i u : Nat) (mg : Int) (hi : i < 8) (hui : u < i) (hU : bU z i = some u) (hmg : 0 ≤ mg ∧ mg ≤ 10000) : Met l yX3_tryOptions wsX3_tryOptions ({ frames := 5, cells := 0, slots := 0, locals := 136 }) (pu_Pc [.ref (ad (2 + 12 * i)), .int (jI (mg))] D vwCl (ty9 g) (fun H => bW D g ad z rl ff H)) (bQ D g ad (some (.int (jI (bI true)))) (z) (fun r f => (∀ i2, i2 ≠ u → r i2 = rl i2) ∧ (∀ q, q < 4 → r u q = (rl u q || (decide (q < bO z u) && decide ((cFit (fun j => !rl i j && okb z mg i j u q) (bO z i) 0) = -1)))) ∧ (∀ i2, i2 ≠ i → f i2 = ff i2) ∧ ∀ q, q < bO z u → f i q = (cFit (fun j => !rl i j && okb z mg i j u q) (bO z i) 0))) 0 0 (bFr ad) := by
  refine Met.ofW (cc := cX3_tryOptions) (maxL := 4) (ret := some .boolean) (by decide) rfl ?_
  intro p e s m args below meth c s₁ B hml hv
  obtain ⟨rfl, hPic, hK⟩ := hv
  have hx := B.exec
  have hb := B.bytes
  have hr := B.returns
  have hts := atoms_spec (ws := wsX3_tryOptions) B.pre
  have hown : s.vm.findClass RX3 = some m.cls := findClass_of_methodNamed B.named
  have hlocks := B.notSynchronized
  have hd0_i : va_at D vwCl (ad (2 + 12 * i), .inr (1, [.int (jI ((i : Int))), .ref (ad (2 + 12 * i + 1)), .ref (ad (2 + 12 * i + 5)), .ref (ad (2 + 12 * i + 10)), .ref (ad (2 + 12 * i + 11)), va_rf ((bU z i).map (fun u => ad (2 + 12 * u))), .int (jI ((bO z i : Int))), .int (jI ((bC z i : Int))), .int (jI (bZ z i))])) s.heap := bW_at hPic (i := i) hi 0 (by omega)
  have hd11_i : va_at D vwCl (ad (2 + 12 * i + 11), .inl (g 0, 4, .inl (fun j => jI (ff i j)))) s.heap := bW_at hPic (i := i) hi 11 (by omega)
  have hd0_u : va_at D vwCl (ad (2 + 12 * u), .inr (1, [.int (jI ((u : Int))), .ref (ad (2 + 12 * u + 1)), .ref (ad (2 + 12 * u + 5)), .ref (ad (2 + 12 * u + 10)), .ref (ad (2 + 12 * u + 11)), va_rf ((bU z u).map (fun u => ad (2 + 12 * u))), .int (jI ((bO z u : Int))), .int (jI ((bC z u : Int))), .int (jI (bZ z u))])) s.heap := bW_at hPic (i := u) (by omega) 0 (by omega)
  have hd5_u : va_at D vwCl (ad (2 + 12 * u + 5), .inl (g 3, 4, .inr (.inr (.inr (.inr (fun j => some (ad (2 + 12 * u + 6 + j)))))))) s.heap := bW_at hPic (i := u) (by omega) 5 (by omega)
  have hd10_u : va_at D vwCl (ad (2 + 12 * u + 10), .inl (g 1, 4, .inl (fun j => jI (bI (rl u j))))) s.heap := bW_at hPic (i := u) (by omega) 10 (by omega)
  rw [hU] at hd0_i
  have fi := hz.2.2.1 i hi
  have fu := hz.2.2.1 u (by omega)
  have hl := lv_entry ([.ref (ad (2 + 12 * i)), .int (jI (mg))]) (n := 4) (Nat.le_of_ble_eq_true rfl)
  rw [lg_entry_eq]
  generalize (lg_sl ([.ref (ad (2 + 12 * i)), .int (jI (mg))]) ++ List.replicate (4 - (lg_sl ([.ref (ad (2 + 12 * i)), .int (jI (mg))])).length) Slot.unset).toArray = ls at hl ⊢
  have hl : lv_has ls 4 [(0, .ref (ad (2 + 12 * i))), (1, .int (jI (mg)))] := hl
  have hT0 : bTo ad s.heap s.heap [] := bTo.rf
  refine lv_aload_n hx hb dX3_tryOptions_0 rfl (lv_at hl 0 rfl) ?_
  refine va_get (D := D) (ci := 1) (v := .ref (ad (2 + 12 * u))) (C := RX1) (T := TX1) (N := 9) hx hb hts (fun w h => List.mem_cons_of_mem _ (uw_X1 w h)) hown hK (j_P1 hd0_i) 0 rfl rfl 5 (by decide) (hts _ (List.mem_cons_of_mem _ kw_95)) (fun _ h9 => h9) rfl dX3_tryOptions_1 ?_
  refine lv_astore_n (lv' := [(2, .ref (ad (2 + 12 * u))), (0, .ref (ad (2 + 12 * i))), (1, .int (jI (mg)))]) hx hb dX3_tryOptions_4 rfl hl (by decide) rfl (fun ls hl => ?_)
  refine lv_aload_n hx hb dX3_tryOptions_5 rfl (lv_at hl 0 rfl) ?_
  refine lv_ifnonnull (tgt := 37) hx hb dX3_tryOptions_6 (by decide) ?_
  refine jv_iconst hx hb dX3_tryOptions_37 ?_
  refine lv_istore_n (lv' := [(3, .int (jI (0))), (2, .ref (ad (2 + 12 * u))), (0, .ref (ad (2 + 12 * i))), (1, .int (jI (mg)))]) hx hb dX3_tryOptions_38 rfl hl (by decide) rfl (fun ls hl => ?_)
  refine jw_loop3 (X := Nat × (Nat → Nat → Bool) × (Nat → Nat → Int)) (fun x => bO z u - x.1) (fun x H L ls => (x.1 ≤ bO z u ∧ (∀ i2, i2 ≠ u → x.2.1 i2 = rl i2) ∧ (∀ q, q < 4 → x.2.1 u q = (rl u q || (decide (q < x.1) && decide ((cFit (fun j => !rl i j && okb z mg i j u q) (bO z i) 0) = -1)))) ∧ (∀ i2, i2 ≠ i → x.2.2 i2 = ff i2) ∧ (∀ q, q < x.1 → x.2.2 i q = (cFit (fun j => !rl i j && okb z mg i j u q) (bO z i) 0)) ∧ bW D g ad z x.2.1 x.2.2 H ∧ bTo ad s.heap H L) ∧ lv_has ls 4 [(0, .ref (ad (2 + 12 * i))), (1, .int (jI (mg))), (2, .ref (ad (2 + 12 * u))), (3, .int (jI ((x.1 : Int))))]) ?_ (0, rl, ff) s.heap [] ls ⟨⟨Nat.zero_le _, fun _ _ => rfl, fun q hq => by simp, fun _ _ => rfl, fun q hq => absurd hq (Nat.not_lt_zero q), hPic, hT0⟩, lv_sub hl [2, 3, 1, 0] rfl⟩
  intro x H L ls hinv ih
  obtain ⟨k, r1, f1⟩ := x
  obtain ⟨⟨hk, ho, hru, hfo, hfk, hPic, hT0⟩, hl⟩ := hinv
  dsimp only at hk ho hru hfo hfk hPic
  have hl : lv_has ls 4 [(0, .ref (ad (2 + 12 * i))), (1, .int (jI (mg))), (2, .ref (ad (2 + 12 * u))), (3, .int (jI ((k : Int))))] := hl
  have hri : r1 i = rl i := ho i (by omega)
  have rF := cFit_rng (fun j => !rl i j && okb z mg i j u k) (bO z i)
  have hd0_i : va_at D vwCl (ad (2 + 12 * i), .inr (1, [.int (jI ((i : Int))), .ref (ad (2 + 12 * i + 1)), .ref (ad (2 + 12 * i + 5)), .ref (ad (2 + 12 * i + 10)), .ref (ad (2 + 12 * i + 11)), va_rf ((bU z i).map (fun u => ad (2 + 12 * u))), .int (jI ((bO z i : Int))), .int (jI ((bC z i : Int))), .int (jI (bZ z i))])) H := bW_at hPic (i := i) hi 0 (by omega)
  have hd11_i : va_at D vwCl (ad (2 + 12 * i + 11), .inl (g 0, 4, .inl (fun j => jI (f1 i j)))) H := bW_at hPic (i := i) hi 11 (by omega)
  have hd0_u : va_at D vwCl (ad (2 + 12 * u), .inr (1, [.int (jI ((u : Int))), .ref (ad (2 + 12 * u + 1)), .ref (ad (2 + 12 * u + 5)), .ref (ad (2 + 12 * u + 10)), .ref (ad (2 + 12 * u + 11)), va_rf ((bU z u).map (fun u => ad (2 + 12 * u))), .int (jI ((bO z u : Int))), .int (jI ((bC z u : Int))), .int (jI (bZ z u))])) H := bW_at hPic (i := u) (by omega) 0 (by omega)
  have hd5_u : va_at D vwCl (ad (2 + 12 * u + 5), .inl (g 3, 4, .inr (.inr (.inr (.inr (fun j => some (ad (2 + 12 * u + 6 + j)))))))) H := bW_at hPic (i := u) (by omega) 5 (by omega)
  have hd10_u : va_at D vwCl (ad (2 + 12 * u + 10), .inl (g 1, 4, .inl (fun j => jI (bI (r1 u j))))) H := bW_at hPic (i := u) (by omega) 10 (by omega)
  rw [hU] at hd0_i
  refine lv_iload_n hx hb dX3_tryOptions_39 rfl (lv_at hl 3 rfl) ?_
  refine lv_aload_n hx hb dX3_tryOptions_40 rfl (lv_at hl 2 rfl) ?_
  refine va_get (D := D) (ci := 1) (v := .int (jI ((bO z u : Int)))) (C := RX1) (T := TX1) (N := 9) hx hb hts (fun w h => List.mem_cons_of_mem _ (uw_X1 w h)) hown hK (j_P1 hd0_u) 0 rfl rfl 6 (by decide) (hts _ (List.mem_cons_of_mem _ kw_97)) (fun _ h9 => h9) rfl dX3_tryOptions_41 ?_
  refine jv_icmp_ge (tgt := 87) hx hb dX3_tryOptions_44 (by decide) (by omega) (by omega) (fun c44 => ?_) (fun c44 => ?_)
  · refine jv_iconst hx hb dX3_tryOptions_87 ?_
    exact b_zret hx hb hr hlocks dX3_tryOptions_88 ⟨ho, fun q hq => by rw [hru q hq, show k = bO z u by omega], hfo, fun q hq => hfk q (by omega)⟩ hPic hT0 (by rfl)
  · refine lv_aload_n hx hb dX3_tryOptions_47 rfl (lv_at hl 0 rfl) ?_
    refine va_get (D := D) (ci := 1) (v := .ref (ad (2 + 12 * i + 11))) (C := RX1) (T := TX1) (N := 9) hx hb hts (fun w h => List.mem_cons_of_mem _ (uw_X1 w h)) hown hK (j_P1 hd0_i) 0 rfl rfl 4 (by decide) (hts _ (List.mem_cons_of_mem _ kw_93)) (fun _ h9 => h9) rfl dX3_tryOptions_48 ?_
    refine lv_iload_n hx hb dX3_tryOptions_51 rfl (lv_at hl 3 rfl) ?_
    refine lv_aload_n hx hb dX3_tryOptions_52 rfl (lv_at hl 0 rfl) ?_
    refine lv_aload_n hx hb dX3_tryOptions_53 rfl (lv_at hl 2 rfl) ?_
    refine va_get (D := D) (ci := 1) (v := .ref (ad (2 + 12 * u + 5))) (C := RX1) (T := TX1) (N := 9) hx hb hts (fun w h => List.mem_cons_of_mem _ (uw_X1 w h)) hown hK (j_P1 hd0_u) 0 rfl rfl 2 (by decide) (hts _ (List.mem_cons_of_mem _ kw_89)) (fun _ h9 => h9) rfl dX3_tryOptions_54 ?_
    refine lv_iload_n hx hb dX3_tryOptions_57 rfl (lv_at hl 3 rfl) ?_
    refine jv_aldq (i := k) hx hb hK hd5_u 3 rfl (by omega) (by omega) (by decide) dX3_tryOptions_58 ?_
    refine lv_iload_n hx hb dX3_tryOptions_59 rfl (lv_at hl 1 rfl) ?_
    refine pu_call1 (va_runS (As := [.ref (ad (2 + 12 * i)), .ref (ad (2 + 12 * u + 6 + k)), .int (jI (mg))]) (rest := [.int (jI ((k : Int))), .ref (ad (2 + 12 * i + 11))]) ⟨hx, hb, hml, hown, hts⟩ (c_firstFitting1 l D g ad z r1 f1 hz i u k mg hi (by omega) (by omega) hmg) (cwS 3 hts (gd_S kw_360 kw_361 kw_12 kcX3_firstFitting) rfl rfl rfl (by decide +kernel) ⟨Nat.le_of_ble_eq_true rfl, Nat.le_of_ble_eq_true rfl⟩) (pu_preS hPic hK) rfl rfl hl.1 rfl (lv_room (Nat.le_of_ble_eq_true rfl)) dX3_tryOptions_60 ⟨Nat.zero_le _, Nat.zero_le _⟩) ?_
    rw [hri]
    refine jv_iast (i := k) hx hb hK hd11_i 0 rfl (by omega) (by omega) (by decide) dX3_tryOptions_63 (fun H f9 hn9 hz9 oq9 => ?_)
    have hPic := bX_ff hj hPic (ff1 := (jUp f1 i (jUp (f1 i) k (cFit (fun j => !rl i j && okb z mg i j u k) (bO z i) 0)))) (i := i) hi (fun i2 h2 => jUp_n h2) (jUp_s _ _ _) oq9 hn9
    have hT0 := hT0.put (2 + 12 * i + 11) (by omega) hz9 oq9 (f := f9)
    have hd0_i : va_at D vwCl (ad (2 + 12 * i), .inr (1, [.int (jI ((i : Int))), .ref (ad (2 + 12 * i + 1)), .ref (ad (2 + 12 * i + 5)), .ref (ad (2 + 12 * i + 10)), .ref (ad (2 + 12 * i + 11)), va_rf ((bU z i).map (fun u => ad (2 + 12 * u))), .int (jI ((bO z i : Int))), .int (jI ((bC z i : Int))), .int (jI (bZ z i))])) H := bW_at hPic (i := i) hi 0 (by omega)
    have hd11_i : va_at D vwCl (ad (2 + 12 * i + 11), .inl (g 0, 4, .inl (fun j => jI ((jUp f1 i (jUp (f1 i) k (cFit (fun j => !rl i j && okb z mg i j u k) (bO z i) 0))) i j)))) H := bW_at hPic (i := i) hi 11 (by omega)
    have hd0_u : va_at D vwCl (ad (2 + 12 * u), .inr (1, [.int (jI ((u : Int))), .ref (ad (2 + 12 * u + 1)), .ref (ad (2 + 12 * u + 5)), .ref (ad (2 + 12 * u + 10)), .ref (ad (2 + 12 * u + 11)), va_rf ((bU z u).map (fun u => ad (2 + 12 * u))), .int (jI ((bO z u : Int))), .int (jI ((bC z u : Int))), .int (jI (bZ z u))])) H := bW_at hPic (i := u) (by omega) 0 (by omega)
    have hd5_u : va_at D vwCl (ad (2 + 12 * u + 5), .inl (g 3, 4, .inr (.inr (.inr (.inr (fun j => some (ad (2 + 12 * u + 6 + j)))))))) H := bW_at hPic (i := u) (by omega) 5 (by omega)
    have hd10_u : va_at D vwCl (ad (2 + 12 * u + 10), .inl (g 1, 4, .inl (fun j => jI (bI (r1 u j))))) H := bW_at hPic (i := u) (by omega) 10 (by omega)
    rw [hU] at hd0_i
    refine lv_aload_n hx hb dX3_tryOptions_64 rfl (lv_at hl 0 rfl) ?_
    refine va_get (D := D) (ci := 1) (v := .ref (ad (2 + 12 * i + 11))) (C := RX1) (T := TX1) (N := 9) hx hb hts (fun w h => List.mem_cons_of_mem _ (uw_X1 w h)) hown hK (j_P1 hd0_i) 0 rfl rfl 4 (by decide) (hts _ (List.mem_cons_of_mem _ kw_93)) (fun _ h9 => h9) rfl dX3_tryOptions_65 ?_
    refine lv_iload_n hx hb dX3_tryOptions_68 rfl (lv_at hl 3 rfl) ?_
    refine jv_iald (i := k) hx hb hK hd11_i 0 rfl (by omega) (by omega) (by decide) dX3_tryOptions_69 ?_
    rw [jUp2_s]
    refine jv_iconst hx hb dX3_tryOptions_70 ?_
    refine jv_icmp_ne (tgt := 81) hx hb dX3_tryOptions_71 (by decide) (by omega) (by omega) (fun c71 => ?_) (fun c71 => ?_)
    · refine lv_iinc (v := jI ((k : Int) + 1)) (lv' := [(3, .int (jI ((k : Int) + 1))), (0, .ref (ad (2 + 12 * i))), (1, .int (jI (mg))), (2, .ref (ad (2 + 12 * u)))]) hx hb dX3_tryOptions_81 hl (k := 3) rfl (jI_add _ _) (by decide) rfl (fun ls hl => ?_)
      refine lv_goto (tgt := 39) hx hb dX3_tryOptions_84 (by decide) ?_
      exact ih (k + 1, r1, (jUp f1 i (jUp (f1 i) k (cFit (fun j => !rl i j && okb z mg i j u k) (bO z i) 0)))) H _ ls ⟨⟨by dsimp only; omega, fun i2 h2 => ho i2 h2, fun q hq => by dsimp only; rw [hru q hq]; exact cRow_no (F := fun q => (cFit (fun j => !rl i j && okb z mg i j u q) (bO z i) 0)) c71, fun i2 h2 => (jUp_n h2).trans (hfo i2 h2), fun q hq => jUp_row (F := fun q => (cFit (fun j => !rl i j && okb z mg i j u q) (bO z i) 0)) hq hfk, hPic, hT0⟩, lv_sub hl [1, 2, 3, 0] rfl⟩ (by dsimp only; omega)
    · refine lv_aload_n hx hb dX3_tryOptions_74 rfl (lv_at hl 2 rfl) ?_
      refine va_get (D := D) (ci := 1) (v := .ref (ad (2 + 12 * u + 10))) (C := RX1) (T := TX1) (N := 9) hx hb hts (fun w h => List.mem_cons_of_mem _ (uw_X1 w h)) hown hK (j_P1 hd0_u) 0 rfl rfl 3 (by decide) (hts _ (List.mem_cons_of_mem _ kw_91)) (fun _ h9 => h9) rfl dX3_tryOptions_75 ?_
      refine lv_iload_n hx hb dX3_tryOptions_78 rfl (lv_at hl 3 rfl) ?_
      refine jv_iconst hx hb dX3_tryOptions_79 ?_
      refine jv_zast (w := true) (i := k) hx hb hK hd10_u 1 rfl (by omega) (by omega) (by decide) rfl dX3_tryOptions_80 (fun H f9 hn9 hz9 oq9 => ?_)
      have hPic := bX_rl hj hPic (rl1 := (jUp r1 u (jUp (r1 u) k true))) (i := u) (by omega) (fun i2 h2 => jUp_n h2) (jUp_s _ _ _) oq9 hn9
      have hT0 := hT0.put (2 + 12 * u + 10) (by omega) hz9 oq9 (f := f9)
      refine lv_iinc (v := jI ((k : Int) + 1)) (lv' := [(3, .int (jI ((k : Int) + 1))), (0, .ref (ad (2 + 12 * i))), (1, .int (jI (mg))), (2, .ref (ad (2 + 12 * u)))]) hx hb dX3_tryOptions_81 hl (k := 3) rfl (jI_add _ _) (by decide) rfl (fun ls hl => ?_)
      refine lv_goto (tgt := 39) hx hb dX3_tryOptions_84 (by decide) ?_
      exact ih (k + 1, (jUp r1 u (jUp (r1 u) k true)), (jUp f1 i (jUp (f1 i) k (cFit (fun j => !rl i j && okb z mg i j u k) (bO z i) 0)))) H _ ls ⟨⟨by dsimp only; omega, fun i2 h2 => (jUp_n h2).trans (ho i2 h2), fun q hq => by dsimp only; exact cRow_yes (F := fun q => (cFit (fun j => !rl i j && okb z mg i j u q) (bO z i) 0)) c71 (hru q hq), fun i2 h2 => (jUp_n h2).trans (hfo i2 h2), fun q hq => jUp_row (F := fun q => (cFit (fun j => !rl i j && okb z mg i j u q) (bO z i) 0)) hq hfk, hPic, hT0⟩, lv_sub hl [1, 2, 3, 0] rfl⟩ (by dsimp only; omega)
end
section
set_option maxHeartbeats 4000000 in
set_option maxRecDepth 100000 in
theorem c_settle0 (l : Launch) (D : va_G) (g : Nat → ClassId) (ad : Nat → Nat) (z : bSt) (rl : Nat → Nat → Bool) (ff : Nat → Nat → Int) (hz : bOK z) (hj : bInj ad) (mg : Int) (hmg : 0 ≤ mg ∧ mg ≤ 10000) (hE : ∃ i, i < bN z ∧ bU z i = none ∧ cF0 (bN z) (bU z) (bO z) (okf z mg) i = -1) : Met l yX3_settle wsX3_settle ({ frames := 6, cells := 0, slots := 0, locals := 159 }) (pu_Pc [.ref (ad 0), .int (jI (mg))] D vwCl (ty9 g) (fun H => bW D g ad z rl ff H)) (bQ D g ad (some (.int (jI (bI false)))) (z) (fun _ _ => True)) 0 0 (bFr ad) := by
  refine Met.ofW (cc := cX3_settle) (maxL := 4) (ret := some .boolean) (by decide) rfl ?_
  intro p e s m args below meth c s₁ B hml hv
  obtain ⟨rfl, hPic, hK⟩ := hv
  have hx := B.exec
  have hb := B.bytes
  have hr := B.returns
  have hts := atoms_spec (ws := wsX3_settle) B.pre
  have hown : s.vm.findClass RX3 = some m.cls := findClass_of_methodNamed B.named
  have hlocks := B.notSynchronized
  have hx0 : va_at D vwCl (ad 0, .inr (3, [.ref (ad 1), .int (jI ((bN z : Int))), .int (jI (bV z))])) s.heap := hPic 0 (by omega)
  have hx1 : va_at D vwCl (ad 1, .inl (g 2, 8, .inr (.inr (.inr (.inr (fun j => some (ad (2 + 12 * j)))))))) s.heap := hPic 1 (by omega)
  have hN := hz.1
  have hl := lv_entry ([.ref (ad 0), .int (jI (mg))]) (n := 4) (Nat.le_of_ble_eq_true rfl)
  rw [lg_entry_eq]
  generalize (lg_sl ([.ref (ad 0), .int (jI (mg))]) ++ List.replicate (4 - (lg_sl ([.ref (ad 0), .int (jI (mg))])).length) Slot.unset).toArray = ls at hl ⊢
  have hl : lv_has ls 4 [(0, .ref (ad 0)), (1, .int (jI (mg)))] := hl
  have hT0 : bTo ad s.heap s.heap [] := bTo.rf
  refine lv_iload_n hx hb dX3_settle_0 rfl (lv_at hl 1 rfl) ?_
  refine jv_iconst hx hb dX3_settle_1 ?_
  refine jv_sipush hx hb dX3_settle_2 (by decide) ?_
  refine pu_call (va_runS (As := [.int (jI (mg)), .int (jI (0)), .int (jI (10000))]) (rest := []) ⟨hx, hb, hml, hown, hts⟩ (c_demandWithin l D g mg 0 10000 (by omega) (by omega) (by omega) (by omega)) (cwS 3 hts (gd_S kw_234 kw_235 kw_12 kcX3_demandWithin) rfl rfl rfl (by decide +kernel) ⟨Nat.le_of_ble_eq_true rfl, Nat.le_of_ble_eq_true rfl⟩) (pu_preS trivial hK) rfl rfl hl.1 rfl (lv_room (Nat.le_of_ble_eq_true rfl)) dX3_settle_5 ⟨Nat.zero_le _, Nat.zero_le _⟩) ?_
  refine jv_iconst hx hb dX3_settle_8 ?_
  refine lv_istore_n (lv' := [(2, .int (jI (0))), (0, .ref (ad 0)), (1, .int (jI (mg)))]) hx hb dX3_settle_9 rfl hl (by decide) rfl (fun ls hl => ?_)
  refine jw_loop3 (X := Nat × (Nat → Nat → Bool) × (Nat → Nat → Int)) (fun x => bN z - x.1) (fun x H L ls => (x.1 ≤ bN z ∧ (∀ q, q < x.1 → ∀ k, k < 4 → x.2.1 q k = false) ∧ bW D g ad z x.2.1 x.2.2 H ∧ bTo ad s.heap H L) ∧ lv_has ls 4 [(0, .ref (ad 0)), (1, .int (jI (mg))), (2, .int (jI ((x.1 : Int))))]) ?_ (0, rl, ff) s.heap [] ls ⟨⟨Nat.zero_le _, fun q hq => absurd hq (Nat.not_lt_zero q), hPic, hT0⟩, lv_sub hl [1, 2, 0] rfl⟩
  intro x H L ls hinv ih
  obtain ⟨i, r1, f1⟩ := x
  obtain ⟨⟨hi9, hrk, hPic, hT0⟩, hl⟩ := hinv
  dsimp only at hi9 hrk hPic
  have hl : lv_has ls 4 [(0, .ref (ad 0)), (1, .int (jI (mg))), (2, .int (jI ((i : Int))))] := hl
  have hx0 : va_at D vwCl (ad 0, .inr (3, [.ref (ad 1), .int (jI ((bN z : Int))), .int (jI (bV z))])) H := hPic 0 (by omega)
  have hx1 : va_at D vwCl (ad 1, .inl (g 2, 8, .inr (.inr (.inr (.inr (fun j => some (ad (2 + 12 * j)))))))) H := hPic 1 (by omega)
  refine lv_iload_n hx hb dX3_settle_10 rfl (lv_at hl 2 rfl) ?_
  refine lv_aload_n hx hb dX3_settle_11 rfl (lv_at hl 0 rfl) ?_
  refine va_get (D := D) (ci := 3) (v := .int (jI ((bN z : Int)))) (C := RX3) (T := TX3) (N := 3) hx hb hts (fun w h => List.mem_cons_of_mem _ (uw_X3 w h)) hown hK (j_P1 hx0) 0 rfl rfl 1 (by decide) (hts _ (List.mem_cons_of_mem _ kw_122)) (fun _ h9 => h9) rfl dX3_settle_12 ?_
  refine jv_icmp_ge (tgt := 33) hx hb dX3_settle_15 (by decide) (by omega) (by omega) (fun c15 => ?_) (fun c15 => ?_)
  · refine lv_aload_n hx hb dX3_settle_33 rfl (lv_at hl 0 rfl) ?_
    refine va_get (D := D) (ci := 3) (v := .int (jI ((bN z : Int)))) (C := RX3) (T := TX3) (N := 3) hx hb hts (fun w h => List.mem_cons_of_mem _ (uw_X3 w h)) hown hK (j_P1 hx0) 0 rfl rfl 1 (by decide) (hts _ (List.mem_cons_of_mem _ kw_122)) (fun _ h9 => h9) rfl dX3_settle_34 ?_
    refine jv_iconst hx hb dX3_settle_37 ?_
    refine jv_isub hx hb dX3_settle_38 ?_
    refine lv_istore_n (lv' := [(2, .int (jI ((bN z : Int) - 1))), (0, .ref (ad 0)), (1, .int (jI (mg)))]) hx hb dX3_settle_39 rfl hl (by decide) rfl (fun ls hl => ?_)
    refine jw_loop3 (X := Nat × (Nat → Nat → Bool) × (Nat → Nat → Int)) (fun x => bN z - x.1) (fun x H L ls => (x.1 ≤ bN z ∧ (∀ i, i < bN z → ∀ k, k < 4 → x.2.1 i k = cRul (bN z) (bU z) (bO z) (okf z mg) x.1 i k) ∧ (∀ i, bN z - x.1 ≤ i → i < bN z → cHeld z mg x.2.2 i) ∧ (∀ i, bN z - x.1 ≤ i → i < bN z → bU z i = none → cF0 (bN z) (bU z) (bO z) (okf z mg) i ≠ -1) ∧ bW D g ad z x.2.1 x.2.2 H ∧ bTo ad s.heap H L) ∧ lv_has ls 4 [(0, .ref (ad 0)), (1, .int (jI (mg))), (2, .int (jI ((bN z : Int) - 1 - (x.1 : Int))))]) ?_ (0, r1, f1) H L ls ⟨⟨Nat.zero_le _, fun q hq k hk => hrk q (by omega) k hk, fun q h1 h2 => by dsimp only at h1; omega, fun q h1 h2 => by dsimp only at h1; omega, hPic, hT0⟩, by dsimp only; rw [show (bN z : Int) - 1 - ((0 : Nat) : Int) = (bN z : Int) - 1 by omega]; exact lv_sub hl [1, 2, 0] rfl⟩
    clear ih hrk hi9 hPic hT0 hl
    intro x H L ls hinv ih
    obtain ⟨m9, r1, f1⟩ := x
    obtain ⟨⟨hm, hr9, hh, hnr, hPic, hT0⟩, hl⟩ := hinv
    dsimp only at hm hr9 hh hnr hPic
    have hl : lv_has ls 4 [(0, .ref (ad 0)), (1, .int (jI (mg))), (2, .int (jI ((bN z : Int) - 1 - (m9 : Int))))] := hl
    have hx0 : va_at D vwCl (ad 0, .inr (3, [.ref (ad 1), .int (jI ((bN z : Int))), .int (jI (bV z))])) H := hPic 0 (by omega)
    have hx1 : va_at D vwCl (ad 1, .inl (g 2, 8, .inr (.inr (.inr (.inr (fun j => some (ad (2 + 12 * j)))))))) H := hPic 1 (by omega)
    refine lv_iload_n hx hb dX3_settle_40 rfl (lv_at hl 2 rfl) ?_
    refine jv_if_lt (tgt := 65) hx hb dX3_settle_41 (by decide) (by omega) (fun c41 => ?_) (fun c41 => ?_)
    · refine jv_iconst hx hb dX3_settle_65 ?_
      refine lv_istore_n (lv' := [(2, .int (jI (0))), (0, .ref (ad 0)), (1, .int (jI (mg)))]) hx hb dX3_settle_66 rfl hl (by decide) rfl (fun ls hl => ?_)
      exfalso
      obtain ⟨q, q1, q2, q3⟩ := hE
      exact hnr q (by omega) q1 q2 q3
    · refine lv_aload_n hx hb dX3_settle_44 rfl (lv_at hl 0 rfl) ?_
      refine va_get (D := D) (ci := 3) (v := .ref (ad 1)) (C := RX3) (T := TX3) (N := 3) hx hb hts (fun w h => List.mem_cons_of_mem _ (uw_X3 w h)) hown hK (j_P1 hx0) 0 rfl rfl 0 (by decide) (hts _ (List.mem_cons_of_mem _ kw_121)) (fun _ h9 => h9) rfl dX3_settle_45 ?_
      refine lv_iload_n hx hb dX3_settle_48 rfl (lv_at hl 2 rfl) ?_
      refine jv_aldq (i := (bN z - 1 - m9)) hx hb hK hx1 2 rfl (by omega) (by omega) (by decide) dX3_settle_49 ?_
      refine lv_iload_n hx hb dX3_settle_50 rfl (lv_at hl 1 rfl) ?_
      cases hU : bU z (bN z - 1 - m9) with
      | none =>
        refine b_call (va_runS (As := [.ref (ad (2 + 12 * (bN z - 1 - m9))), .int (jI (mg))]) (rest := []) ⟨hx, hb, hml, hown, hts⟩ (c_tryOptions0 l D g ad z r1 f1 hz hj (bN z - 1 - m9) mg (by omega) hU hmg) (cwS 2 hts (gd_S kw_357 kw_358 kw_12 kcX3_tryOptions) rfl rfl rfl (by decide +kernel) ⟨Nat.le_of_ble_eq_true rfl, Nat.le_of_ble_eq_true rfl⟩) (pu_preS hPic hK) rfl rfl hl.1 rfl (lv_room (Nat.le_of_ble_eq_true rfl)) dX3_settle_51 ⟨Nat.zero_le _, Nat.zero_le _⟩) hT0 (fun H locs rl ff hPh hPic hT0 => ?_)
        refine W.eq (g2 := F0 m 54 ls [.int (jI (bI (!decide (cFit (fun j => !r1 (bN z - 1 - m9) j) (bO z (bN z - 1 - m9)) 0 = -1))))]) rfl ?_
        refine jv_if_ne (tgt := 59) hx hb dX3_settle_54 (by decide) (bI_rng _) (fun c54 => ?_) (fun c54 => ?_)
        · have c54 := bI_tr c54
          have c54 : ¬ (cFit (fun j => !r1 (bN z - 1 - m9) j) (bO z (bN z - 1 - m9)) 0 = -1) := by simpa using c54
          refine lv_iinc (v := jI (((bN z : Int) - 1 - (m9 : Int)) + (-1))) (lv' := [(2, .int (jI (((bN z : Int) - 1 - (m9 : Int)) + (-1)))), (0, .ref (ad 0)), (1, .int (jI (mg)))]) hx hb dX3_settle_59 hl (k := 2) rfl (jI_add _ _) (by decide) rfl (fun ls hl => ?_)
          refine lv_goto (tgt := 40) hx hb dX3_settle_62 (by decide) ?_
          obtain ⟨k1, k2, k3⟩ := hPh
          exact ih (m9 + 1, rl, ff) H _ ls ⟨⟨by dsimp only; omega, fun q hq k hk => by dsimp only; rw [k1, hr9 q hq k hk, cRul_s0 hU], fun q h1 h2 => by dsimp only at h1 ⊢; by_cases hq : q = bN z - 1 - m9; (· subst hq; exact ⟨fun _ => k3.trans (cTry0 hz (by omega) hr9), fun v hv => (by rw [hU] at hv; cases hv)⟩); (· have h9 := hh q (by omega) h2; exact ⟨fun h => (by rw [k2 q hq]; exact h9.1 h), fun v hv k hk => (by rw [k2 q hq]; exact h9.2 v hv k hk)⟩), fun q h1 h2 h3 => by dsimp only at h1; by_cases hq : q = bN z - 1 - m9; (· subst hq; rw [← cTry0 hz (by omega) hr9]; exact c54); (· exact hnr q (by omega) h2 h3), hPic, hT0⟩, by dsimp only; rw [show (bN z : Int) - 1 - ((m9 + 1 : Nat) : Int) = (bN z : Int) - 1 - (m9 : Int) + (-1) by omega]; exact lv_sub hl [1, 2, 0] rfl⟩ (by dsimp only; omega)
        · have c54 := bI_fa c54
          have c54 : cFit (fun j => !r1 (bN z - 1 - m9) j) (bO z (bN z - 1 - m9)) 0 = -1 := by simpa using c54
          refine jv_iconst hx hb dX3_settle_57 ?_
          exact b_zret hx hb hr hlocks dX3_settle_58 trivial hPic hT0 (by rfl)
      | some u =>
        have hul := hz.2.2.2 (bN z - 1 - m9) u (by omega) hU
        refine b_call (va_runS (As := [.ref (ad (2 + 12 * (bN z - 1 - m9))), .int (jI (mg))]) (rest := []) ⟨hx, hb, hml, hown, hts⟩ (c_tryOptions1 l D g ad z r1 f1 hz hj (bN z - 1 - m9) u mg (by omega) hul hU hmg) (cwS 2 hts (gd_S kw_357 kw_358 kw_12 kcX3_tryOptions) rfl rfl rfl (by decide +kernel) ⟨Nat.le_of_ble_eq_true rfl, Nat.le_of_ble_eq_true rfl⟩) (pu_preS hPic hK) rfl rfl hl.1 rfl (lv_room (Nat.le_of_ble_eq_true rfl)) dX3_settle_51 ⟨Nat.zero_le _, Nat.zero_le _⟩) hT0 (fun H locs rl ff hPh hPic hT0 => ?_)
        refine W.eq (g2 := F0 m 54 ls [.int (jI (bI true))]) rfl ?_
        refine jv_if_ne (tgt := 59) hx hb dX3_settle_54 (by decide) (bI_rng _) (fun c54 => ?_) (fun c54 => ?_)
        · refine lv_iinc (v := jI (((bN z : Int) - 1 - (m9 : Int)) + (-1))) (lv' := [(2, .int (jI (((bN z : Int) - 1 - (m9 : Int)) + (-1)))), (0, .ref (ad 0)), (1, .int (jI (mg)))]) hx hb dX3_settle_59 hl (k := 2) rfl (jI_add _ _) (by decide) rfl (fun ls hl => ?_)
          refine lv_goto (tgt := 40) hx hb dX3_settle_62 (by decide) ?_
          obtain ⟨k1, k2, k3, k4⟩ := hPh
          exact ih (m9 + 1, rl, ff) H _ ls ⟨⟨by dsimp only; omega, cTry1r hz (by omega) hU hr9 k1 k2, fun q h1 h2 => by dsimp only at h1 ⊢; by_cases hq : q = bN z - 1 - m9; (· subst hq; exact ⟨fun h => (by rw [hU] at h; cases h), fun v hv k hk => (by rw [hU] at hv; cases hv; rw [k4 k hk]; exact cTry1 hz (by omega) hU hr9)⟩); (· have h9 := hh q (by omega) h2; exact ⟨fun h => (by rw [k3 q hq]; exact h9.1 h), fun v hv k hk => (by rw [k3 q hq]; exact h9.2 v hv k hk)⟩), fun q h1 h2 h3 => by dsimp only at h1; by_cases hq : q = bN z - 1 - m9; (· subst hq; rw [hU] at h3; cases h3); (· exact hnr q (by omega) h2 h3), hPic, hT0⟩, by dsimp only; rw [show (bN z : Int) - 1 - ((m9 + 1 : Nat) : Int) = (bN z : Int) - 1 - (m9 : Int) + (-1) by omega]; exact lv_sub hl [1, 2, 0] rfl⟩ (by dsimp only; omega)
        · exact absurd c54 (by decide)
  · have hx0 : va_at D vwCl (ad 0, .inr (3, [.ref (ad 1), .int (jI ((bN z : Int))), .int (jI (bV z))])) H := hPic 0 (by omega)
    have hx1 : va_at D vwCl (ad 1, .inl (g 2, 8, .inr (.inr (.inr (.inr (fun j => some (ad (2 + 12 * j)))))))) H := hPic 1 (by omega)
    have hd0_i : va_at D vwCl (ad (2 + 12 * i), .inr (1, [.int (jI ((i : Int))), .ref (ad (2 + 12 * i + 1)), .ref (ad (2 + 12 * i + 5)), .ref (ad (2 + 12 * i + 10)), .ref (ad (2 + 12 * i + 11)), va_rf ((bU z i).map (fun u => ad (2 + 12 * u))), .int (jI ((bO z i : Int))), .int (jI ((bC z i : Int))), .int (jI (bZ z i))])) H := bW_at hPic (i := i) (by omega) 0 (by omega)
    refine lv_aload_n hx hb dX3_settle_18 rfl (lv_at hl 0 rfl) ?_
    refine va_get (D := D) (ci := 3) (v := .ref (ad 1)) (C := RX3) (T := TX3) (N := 3) hx hb hts (fun w h => List.mem_cons_of_mem _ (uw_X3 w h)) hown hK (j_P1 hx0) 0 rfl rfl 0 (by decide) (hts _ (List.mem_cons_of_mem _ kw_121)) (fun _ h9 => h9) rfl dX3_settle_19 ?_
    refine lv_iload_n hx hb dX3_settle_22 rfl (lv_at hl 2 rfl) ?_
    refine jv_aldq (i := i) hx hb hK hx1 2 rfl (by omega) (by omega) (by decide) dX3_settle_23 ?_
    refine b_call (va_runV (As := []) (rest := []) ⟨hx, hb, hml, hown, hts⟩ (c_forgetTries l D g ad z r1 f1 hz hj i (by omega)) (cwV 0 hts (gd_V kw_353 kw_354 kw_355 kw_13 kcX1_forgetTries) rfl rfl rfl (by decide +kernel) ⟨Nat.le_of_ble_eq_true rfl, Nat.le_of_ble_eq_true rfl⟩) (pu_preV hPic hK rfl hd0_i) rfl rfl hl.1 rfl (lv_room (Nat.le_of_ble_eq_true rfl)) dX3_settle_24 ⟨Nat.zero_le _, Nat.zero_le _⟩) hT0 (fun H locs rl ff hPh hPic hT0 => ?_)
    refine W.eq (g2 := F0 m 27 ls []) rfl ?_
    refine lv_iinc (v := jI ((i : Int) + 1)) (lv' := [(2, .int (jI ((i : Int) + 1))), (0, .ref (ad 0)), (1, .int (jI (mg)))]) hx hb dX3_settle_27 hl (k := 2) rfl (jI_add _ _) (by decide) rfl (fun ls hl => ?_)
    refine lv_goto (tgt := 10) hx hb dX3_settle_30 (by decide) ?_
    obtain ⟨-, hro, hrf⟩ := hPh
    exact ih (i + 1, rl, ff) H _ ls ⟨⟨by dsimp only; omega, fun q hq k hk => by dsimp only at hq ⊢; by_cases hqi : q = i; (· subst hqi; exact hrf k hk); (· rw [hro q hqi]; exact hrk q (by omega) k hk), hPic, hT0⟩, lv_sub hl [1, 2, 0] rfl⟩ (by dsimp only; omega)
end
section
theorem zCs_N (z : bSt) (i : Nat) (pk : Nat → Nat) : bN (zCs z i pk) = bN z := rfl
theorem zCs_V (z : bSt) (i : Nat) (pk : Nat → Nat) : bV (zCs z i pk) = bV z := rfl
theorem zCs_U (z : bSt) (i : Nat) (pk : Nat → Nat) : bU (zCs z i pk) = bU z := rfl
theorem zCs_K (z : bSt) (i : Nat) (pk : Nat → Nat) : bK (zCs z i pk) = bK z := rfl
theorem zCs_P (z : bSt) (i : Nat) (pk : Nat → Nat) : bP (zCs z i pk) = bP z := rfl
theorem zCs_L (z : bSt) (i : Nat) (pk : Nat → Nat) : bL (zCs z i pk) = bL z := rfl
theorem zCs_M (z : bSt) (i : Nat) (pk : Nat → Nat) : bM (zCs z i pk) = bM z := rfl
theorem zCs_O (z : bSt) (i : Nat) (pk : Nat → Nat) : bO (zCs z i pk) = bO z := rfl
theorem zCs_S (z : bSt) (i : Nat) (pk : Nat → Nat) : bS (zCs z i pk) = bS z := rfl
theorem zCs_D (z : bSt) (i : Nat) (pk : Nat → Nat) : bD (zCs z i pk) = bD z := rfl
theorem zCs_Z (z : bSt) (i : Nat) (pk : Nat → Nat) : bZ (zCs z i pk) = bZ z := rfl
set_option maxHeartbeats 4000000 in
set_option maxRecDepth 100000 in
theorem c_settle1 (l : Launch) (D : va_G) (g : Nat → ClassId) (ad : Nat → Nat) (z : bSt) (rl : Nat → Nat → Bool) (ff : Nat → Nat → Int) (hz : bOK z) (hj : bInj ad) (mg : Int) (hmg : 0 ≤ mg ∧ mg ≤ 10000) (hA : ∀ i, i < bN z → bU z i = none → cF0 (bN z) (bU z) (bO z) (okf z mg) i ≠ -1) (pk : Nat → Nat) (hp0 : ∀ i, i < bN z → bU z i = none → cF0 (bN z) (bU z) (bO z) (okf z mg) i = (pk i : Int)) (hpk : ∀ i u, i < bN z → bU z i = some u → cFk (bN z) (bU z) (bO z) (okf z mg) i (pk u) = (pk i : Int)) (hpo : ∀ i, i < bN z → pk i < bO z i) : Met l yX3_settle wsX3_settle ({ frames := 6, cells := 0, slots := 0, locals := 159 }) (pu_Pc [.ref (ad 0), .int (jI (mg))] D vwCl (ty9 g) (fun H => bW D g ad z rl ff H)) (bQ D g ad (some (.int (jI (bI true)))) (zCs z (bN z) pk) (fun _ _ => True)) 0 0 (bFr ad) := by
  refine Met.ofW (cc := cX3_settle) (maxL := 4) (ret := some .boolean) (by decide) rfl ?_
  intro p e s m args below meth c s₁ B hml hv
  obtain ⟨rfl, hPic, hK⟩ := hv
  have hx := B.exec
  have hb := B.bytes
  have hr := B.returns
  have hts := atoms_spec (ws := wsX3_settle) B.pre
  have hown : s.vm.findClass RX3 = some m.cls := findClass_of_methodNamed B.named
  have hlocks := B.notSynchronized
  have hx0 : va_at D vwCl (ad 0, .inr (3, [.ref (ad 1), .int (jI ((bN z : Int))), .int (jI (bV z))])) s.heap := hPic 0 (by omega)
  have hx1 : va_at D vwCl (ad 1, .inl (g 2, 8, .inr (.inr (.inr (.inr (fun j => some (ad (2 + 12 * j)))))))) s.heap := hPic 1 (by omega)
  have hN := hz.1
  have hl := lv_entry ([.ref (ad 0), .int (jI (mg))]) (n := 4) (Nat.le_of_ble_eq_true rfl)
  rw [lg_entry_eq]
  generalize (lg_sl ([.ref (ad 0), .int (jI (mg))]) ++ List.replicate (4 - (lg_sl ([.ref (ad 0), .int (jI (mg))])).length) Slot.unset).toArray = ls at hl ⊢
  have hl : lv_has ls 4 [(0, .ref (ad 0)), (1, .int (jI (mg)))] := hl
  have hT0 : bTo ad s.heap s.heap [] := bTo.rf
  refine lv_iload_n hx hb dX3_settle_0 rfl (lv_at hl 1 rfl) ?_
  refine jv_iconst hx hb dX3_settle_1 ?_
  refine jv_sipush hx hb dX3_settle_2 (by decide) ?_
  refine pu_call (va_runS (As := [.int (jI (mg)), .int (jI (0)), .int (jI (10000))]) (rest := []) ⟨hx, hb, hml, hown, hts⟩ (c_demandWithin l D g mg 0 10000 (by omega) (by omega) (by omega) (by omega)) (cwS 3 hts (gd_S kw_234 kw_235 kw_12 kcX3_demandWithin) rfl rfl rfl (by decide +kernel) ⟨Nat.le_of_ble_eq_true rfl, Nat.le_of_ble_eq_true rfl⟩) (pu_preS trivial hK) rfl rfl hl.1 rfl (lv_room (Nat.le_of_ble_eq_true rfl)) dX3_settle_5 ⟨Nat.zero_le _, Nat.zero_le _⟩) ?_
  refine jv_iconst hx hb dX3_settle_8 ?_
  refine lv_istore_n (lv' := [(2, .int (jI (0))), (0, .ref (ad 0)), (1, .int (jI (mg)))]) hx hb dX3_settle_9 rfl hl (by decide) rfl (fun ls hl => ?_)
  refine jw_loop3 (X := Nat × (Nat → Nat → Bool) × (Nat → Nat → Int)) (fun x => bN z - x.1) (fun x H L ls => (x.1 ≤ bN z ∧ (∀ q, q < x.1 → ∀ k, k < 4 → x.2.1 q k = false) ∧ bW D g ad z x.2.1 x.2.2 H ∧ bTo ad s.heap H L) ∧ lv_has ls 4 [(0, .ref (ad 0)), (1, .int (jI (mg))), (2, .int (jI ((x.1 : Int))))]) ?_ (0, rl, ff) s.heap [] ls ⟨⟨Nat.zero_le _, fun q hq => absurd hq (Nat.not_lt_zero q), hPic, hT0⟩, lv_sub hl [1, 2, 0] rfl⟩
  intro x H L ls hinv ih
  obtain ⟨i, r1, f1⟩ := x
  obtain ⟨⟨hi9, hrk, hPic, hT0⟩, hl⟩ := hinv
  dsimp only at hi9 hrk hPic
  have hl : lv_has ls 4 [(0, .ref (ad 0)), (1, .int (jI (mg))), (2, .int (jI ((i : Int))))] := hl
  have hx0 : va_at D vwCl (ad 0, .inr (3, [.ref (ad 1), .int (jI ((bN z : Int))), .int (jI (bV z))])) H := hPic 0 (by omega)
  have hx1 : va_at D vwCl (ad 1, .inl (g 2, 8, .inr (.inr (.inr (.inr (fun j => some (ad (2 + 12 * j)))))))) H := hPic 1 (by omega)
  refine lv_iload_n hx hb dX3_settle_10 rfl (lv_at hl 2 rfl) ?_
  refine lv_aload_n hx hb dX3_settle_11 rfl (lv_at hl 0 rfl) ?_
  refine va_get (D := D) (ci := 3) (v := .int (jI ((bN z : Int)))) (C := RX3) (T := TX3) (N := 3) hx hb hts (fun w h => List.mem_cons_of_mem _ (uw_X3 w h)) hown hK (j_P1 hx0) 0 rfl rfl 1 (by decide) (hts _ (List.mem_cons_of_mem _ kw_122)) (fun _ h9 => h9) rfl dX3_settle_12 ?_
  refine jv_icmp_ge (tgt := 33) hx hb dX3_settle_15 (by decide) (by omega) (by omega) (fun c15 => ?_) (fun c15 => ?_)
  · refine lv_aload_n hx hb dX3_settle_33 rfl (lv_at hl 0 rfl) ?_
    refine va_get (D := D) (ci := 3) (v := .int (jI ((bN z : Int)))) (C := RX3) (T := TX3) (N := 3) hx hb hts (fun w h => List.mem_cons_of_mem _ (uw_X3 w h)) hown hK (j_P1 hx0) 0 rfl rfl 1 (by decide) (hts _ (List.mem_cons_of_mem _ kw_122)) (fun _ h9 => h9) rfl dX3_settle_34 ?_
    refine jv_iconst hx hb dX3_settle_37 ?_
    refine jv_isub hx hb dX3_settle_38 ?_
    refine lv_istore_n (lv' := [(2, .int (jI ((bN z : Int) - 1))), (0, .ref (ad 0)), (1, .int (jI (mg)))]) hx hb dX3_settle_39 rfl hl (by decide) rfl (fun ls hl => ?_)
    refine jw_loop3 (X := Nat × (Nat → Nat → Bool) × (Nat → Nat → Int)) (fun x => bN z - x.1) (fun x H L ls => (x.1 ≤ bN z ∧ (∀ i, i < bN z → ∀ k, k < 4 → x.2.1 i k = cRul (bN z) (bU z) (bO z) (okf z mg) x.1 i k) ∧ (∀ i, bN z - x.1 ≤ i → i < bN z → cHeld z mg x.2.2 i) ∧ (∀ i, bN z - x.1 ≤ i → i < bN z → bU z i = none → cF0 (bN z) (bU z) (bO z) (okf z mg) i ≠ -1) ∧ bW D g ad z x.2.1 x.2.2 H ∧ bTo ad s.heap H L) ∧ lv_has ls 4 [(0, .ref (ad 0)), (1, .int (jI (mg))), (2, .int (jI ((bN z : Int) - 1 - (x.1 : Int))))]) ?_ (0, r1, f1) H L ls ⟨⟨Nat.zero_le _, fun q hq k hk => hrk q (by omega) k hk, fun q h1 h2 => by dsimp only at h1; omega, fun q h1 h2 => by dsimp only at h1; omega, hPic, hT0⟩, by dsimp only; rw [show (bN z : Int) - 1 - ((0 : Nat) : Int) = (bN z : Int) - 1 by omega]; exact lv_sub hl [1, 2, 0] rfl⟩
    clear ih hrk hi9 hPic hT0 hl
    intro x H L ls hinv ih
    obtain ⟨m9, r1, f1⟩ := x
    obtain ⟨⟨hm, hr9, hh, hnr, hPic, hT0⟩, hl⟩ := hinv
    dsimp only at hm hr9 hh hnr hPic
    have hl : lv_has ls 4 [(0, .ref (ad 0)), (1, .int (jI (mg))), (2, .int (jI ((bN z : Int) - 1 - (m9 : Int))))] := hl
    have hx0 : va_at D vwCl (ad 0, .inr (3, [.ref (ad 1), .int (jI ((bN z : Int))), .int (jI (bV z))])) H := hPic 0 (by omega)
    have hx1 : va_at D vwCl (ad 1, .inl (g 2, 8, .inr (.inr (.inr (.inr (fun j => some (ad (2 + 12 * j)))))))) H := hPic 1 (by omega)
    refine lv_iload_n hx hb dX3_settle_40 rfl (lv_at hl 2 rfl) ?_
    refine jv_if_lt (tgt := 65) hx hb dX3_settle_41 (by decide) (by omega) (fun c41 => ?_) (fun c41 => ?_)
    · refine jv_iconst hx hb dX3_settle_65 ?_
      refine lv_istore_n (lv' := [(2, .int (jI (0))), (0, .ref (ad 0)), (1, .int (jI (mg)))]) hx hb dX3_settle_66 rfl hl (by decide) rfl (fun ls hl => ?_)
      have hheld : ∀ i, i < bN z → cHeld z mg f1 i := fun i hi => hh i (by omega) hi
      refine jw_loop3 (X := Nat) (fun i => bN z - i) (fun i H L ls => (i ≤ bN z ∧ bW D g ad (zCs z i pk) r1 f1 H ∧ bTo ad s.heap H L) ∧ lv_has ls 4 [(0, .ref (ad 0)), (1, .int (jI (mg))), (2, .int (jI ((i : Int))))]) ?_ 0 H L ls ⟨⟨Nat.zero_le _, by rw [zCs_0]; exact hPic, hT0⟩, lv_sub hl [1, 2, 0] rfl⟩
      clear ih hr9 hh hnr hPic hT0 hl
      intro i H L ls hinv ih
      obtain ⟨⟨hi9, hPic, hT0⟩, hl⟩ := hinv
      obtain ⟨w, hw⟩ : ∃ w9 : bSt, w9 = zCs z i pk := ⟨_, rfl⟩
      rw [← hw] at hPic
      have eN9 : bN w = bN z := by rw [hw, zCs_N]
      have eU9 : bU w = bU z := by rw [hw, zCs_U]
      have hx0 : va_at D vwCl (ad 0, .inr (3, [.ref (ad 1), .int (jI ((bN w : Int))), .int (jI (bV w))])) H := hPic 0 (by omega)
      have hx1 : va_at D vwCl (ad 1, .inl (g 2, 8, .inr (.inr (.inr (.inr (fun j => some (ad (2 + 12 * j)))))))) H := hPic 1 (by omega)
      rw [eN9] at hx0
      refine lv_iload_n hx hb dX3_settle_67 rfl (lv_at hl 2 rfl) ?_
      refine lv_aload_n hx hb dX3_settle_68 rfl (lv_at hl 0 rfl) ?_
      refine va_get (D := D) (ci := 3) (v := .int (jI ((bN z : Int)))) (C := RX3) (T := TX3) (N := 3) hx hb hts (fun w h => List.mem_cons_of_mem _ (uw_X3 w h)) hown hK (j_P1 hx0) 0 rfl rfl 1 (by decide) (hts _ (List.mem_cons_of_mem _ kw_122)) (fun _ h9 => h9) rfl dX3_settle_69 ?_
      refine jv_icmp_ge (tgt := 122) hx hb dX3_settle_72 (by decide) (by omega) (by omega) (fun c72 => ?_) (fun c72 => ?_)
      · refine jv_iconst hx hb dX3_settle_122 ?_
        have hin9 : i = bN z := by omega
        rw [hw, hin9] at hPic
        exact b_zret hx hb hr hlocks dX3_settle_123 trivial hPic hT0 (by rfl)
      · have hhi := hheld i (by omega)
        cases hU : bU z i with
        | none =>
          have hx0 : va_at D vwCl (ad 0, .inr (3, [.ref (ad 1), .int (jI ((bN w : Int))), .int (jI (bV w))])) H := hPic 0 (by omega)
          have hx1 : va_at D vwCl (ad 1, .inl (g 2, 8, .inr (.inr (.inr (.inr (fun j => some (ad (2 + 12 * j)))))))) H := hPic 1 (by omega)
          have hd0_i : va_at D vwCl (ad (2 + 12 * i), .inr (1, [.int (jI ((i : Int))), .ref (ad (2 + 12 * i + 1)), .ref (ad (2 + 12 * i + 5)), .ref (ad (2 + 12 * i + 10)), .ref (ad (2 + 12 * i + 11)), va_rf ((bU w i).map (fun u => ad (2 + 12 * u))), .int (jI ((bO w i : Int))), .int (jI ((bC w i : Int))), .int (jI (bZ w i))])) H := bW_at hPic (i := i) (by omega) 0 (by omega)
          have hd11_i : va_at D vwCl (ad (2 + 12 * i + 11), .inl (g 0, 4, .inl (fun j => jI (f1 i j)))) H := bW_at hPic (i := i) (by omega) 11 (by omega)
          rw [eN9] at hx0
          rw [eU9, hU] at hd0_i
          refine lv_aload_n hx hb dX3_settle_75 rfl (lv_at hl 0 rfl) ?_
          refine va_get (D := D) (ci := 3) (v := .ref (ad 1)) (C := RX3) (T := TX3) (N := 3) hx hb hts (fun w h => List.mem_cons_of_mem _ (uw_X3 w h)) hown hK (j_P1 hx0) 0 rfl rfl 0 (by decide) (hts _ (List.mem_cons_of_mem _ kw_121)) (fun _ h9 => h9) rfl dX3_settle_76 ?_
          refine lv_iload_n hx hb dX3_settle_79 rfl (lv_at hl 2 rfl) ?_
          refine jv_aldq (i := i) hx hb hK hx1 2 rfl (by omega) (by omega) (by decide) dX3_settle_80 ?_
          refine va_get (D := D) (ci := 1) (v := .null) (C := RX1) (T := TX1) (N := 9) hx hb hts (fun w h => List.mem_cons_of_mem _ (uw_X1 w h)) hown hK (j_P1 hd0_i) 0 rfl rfl 5 (by decide) (hts _ (List.mem_cons_of_mem _ kw_95)) (fun _ h9 => h9) rfl dX3_settle_81 ?_
          refine lv_astore_nN (lv' := [(3, .null), (0, .ref (ad 0)), (1, .int (jI (mg))), (2, .int (jI ((i : Int))))]) hx hb dX3_settle_84 rfl hl (by decide) rfl (fun ls hl => ?_)
          refine lv_aload_n hx hb dX3_settle_85 rfl (lv_at hl 1 rfl) ?_
          refine va_get (D := D) (ci := 3) (v := .ref (ad 1)) (C := RX3) (T := TX3) (N := 3) hx hb hts (fun w h => List.mem_cons_of_mem _ (uw_X3 w h)) hown hK (j_P1 hx0) 0 rfl rfl 0 (by decide) (hts _ (List.mem_cons_of_mem _ kw_121)) (fun _ h9 => h9) rfl dX3_settle_86 ?_
          refine lv_iload_n hx hb dX3_settle_89 rfl (lv_at hl 3 rfl) ?_
          refine jv_aldq (i := i) hx hb hK hx1 2 rfl (by omega) (by omega) (by decide) dX3_settle_90 ?_
          refine lv_aload_n hx hb dX3_settle_91 rfl (lv_at hl 1 rfl) ?_
          refine va_get (D := D) (ci := 3) (v := .ref (ad 1)) (C := RX3) (T := TX3) (N := 3) hx hb hts (fun w h => List.mem_cons_of_mem _ (uw_X3 w h)) hown hK (j_P1 hx0) 0 rfl rfl 0 (by decide) (hts _ (List.mem_cons_of_mem _ kw_121)) (fun _ h9 => h9) rfl dX3_settle_92 ?_
          refine lv_iload_n hx hb dX3_settle_95 rfl (lv_at hl 3 rfl) ?_
          refine jv_aldq (i := i) hx hb hK hx1 2 rfl (by omega) (by omega) (by decide) dX3_settle_96 ?_
          refine va_get (D := D) (ci := 1) (v := .ref (ad (2 + 12 * i + 11))) (C := RX1) (T := TX1) (N := 9) hx hb hts (fun w h => List.mem_cons_of_mem _ (uw_X1 w h)) hown hK (j_P1 hd0_i) 0 rfl rfl 4 (by decide) (hts _ (List.mem_cons_of_mem _ kw_93)) (fun _ h9 => h9) rfl dX3_settle_97 ?_
          refine lv_aload_nN hx hb dX3_settle_100 rfl (lv_at hl 0 rfl) ?_
          refine lv_ifnonnullN hx hb dX3_settle_101 ?_
          refine jv_iconst hx hb dX3_settle_104 ?_
          refine lv_goto (tgt := 112) hx hb dX3_settle_105 (by decide) ?_
          refine jv_iald (i := 0) hx hb hK hd11_i 0 rfl (by omega) (by omega) (by decide) dX3_settle_112 ?_
          rw [show f1 i 0 = (pk i : Int) from (hhi.1 hU).trans (hp0 i (by omega) hU)]
          refine jv_put (D := D) (ci := 1) (v := .int (jI ((pk i : Int)))) (ty := .int) (C := RX1) (T := TX1) (N := 9) hx hb hts (fun w h => List.mem_cons_of_mem _ (uw_X1 w h)) tyX1 tyX1_ok nmX1 hown hK hd0_i rfl 7 (by decide) (hts _ (List.mem_cons_of_mem _ kw_99)) (fun _ h9 => h9) rfl (by decide +kernel) rfl rfl (Nat.le_of_ble_eq_true rfl) dX3_settle_113 (fun H f9 hn9 hz9 oq9 => ?_)
          have hPic := bX_dev hj hPic (w := zCs z (i + 1) pk) (i := i) (by omega) (by rw [hw, zCs_N, zCs_N]) (by rw [hw, zCs_V, zCs_V]) (by rw [hw, zCs_K, zCs_K]) (by rw [hw, zCs_P, zCs_P]) (by rw [hw, zCs_L, zCs_L]) (by rw [hw, zCs_M, zCs_M]) (by rw [hw, zCs_S, zCs_S]) (by rw [hw, zCs_D, zCs_D]) (fun i2 h2 => by rw [hw]; exact ⟨by rw [zCs_U, zCs_U], by rw [zCs_O, zCs_O], zCs_step h2, by rw [zCs_Z, zCs_Z]⟩) (show bU (zCs z (i + 1) pk) i = none by rw [zCs_U]; exact hU) (show bO (zCs z (i + 1) pk) i = bO w i by rw [hw, zCs_O, zCs_O]) (zCs_lt (Nat.lt_succ_self i)) (show bZ (zCs z (i + 1) pk) i = bZ w i by rw [hw, zCs_Z, zCs_Z]) oq9 hn9
          have hT0 := hT0.put (2 + 12 * i) (by omega) hz9 oq9 (f := f9)
          refine lv_iinc (v := jI ((i : Int) + 1)) (lv' := [(2, .int (jI ((i : Int) + 1))), (3, .null), (0, .ref (ad 0)), (1, .int (jI (mg)))]) hx hb dX3_settle_116 hl (k := 3) rfl (jI_add _ _) (by decide) rfl (fun ls hl => ?_)
          refine lv_goto (tgt := 67) hx hb dX3_settle_119 (by decide) ?_
          exact ih (i + 1) H _ ls ⟨⟨by omega, hPic, hT0⟩, lv_sub hl [2, 3, 0] rfl⟩ (by omega)
        | some u =>
          have hul := hz.2.2.2 i u (by omega) hU
          have hpu := hpo u (by omega)
          have fu := hz.2.2.1 u (by omega)
          have hx0 : va_at D vwCl (ad 0, .inr (3, [.ref (ad 1), .int (jI ((bN w : Int))), .int (jI (bV w))])) H := hPic 0 (by omega)
          have hx1 : va_at D vwCl (ad 1, .inl (g 2, 8, .inr (.inr (.inr (.inr (fun j => some (ad (2 + 12 * j)))))))) H := hPic 1 (by omega)
          have hd0_i : va_at D vwCl (ad (2 + 12 * i), .inr (1, [.int (jI ((i : Int))), .ref (ad (2 + 12 * i + 1)), .ref (ad (2 + 12 * i + 5)), .ref (ad (2 + 12 * i + 10)), .ref (ad (2 + 12 * i + 11)), va_rf ((bU w i).map (fun u => ad (2 + 12 * u))), .int (jI ((bO w i : Int))), .int (jI ((bC w i : Int))), .int (jI (bZ w i))])) H := bW_at hPic (i := i) (by omega) 0 (by omega)
          have hd11_i : va_at D vwCl (ad (2 + 12 * i + 11), .inl (g 0, 4, .inl (fun j => jI (f1 i j)))) H := bW_at hPic (i := i) (by omega) 11 (by omega)
          have hd0_u : va_at D vwCl (ad (2 + 12 * u), .inr (1, [.int (jI ((u : Int))), .ref (ad (2 + 12 * u + 1)), .ref (ad (2 + 12 * u + 5)), .ref (ad (2 + 12 * u + 10)), .ref (ad (2 + 12 * u + 11)), va_rf ((bU w u).map (fun u => ad (2 + 12 * u))), .int (jI ((bO w u : Int))), .int (jI ((bC w u : Int))), .int (jI (bZ w u))])) H := bW_at hPic (i := u) (by omega) 0 (by omega)
          rw [eN9] at hx0
          rw [eU9, hU] at hd0_i
          rw [show bC w u = pk u from by rw [hw]; exact zCs_lt hul] at hd0_u
          refine lv_aload_n hx hb dX3_settle_75 rfl (lv_at hl 0 rfl) ?_
          refine va_get (D := D) (ci := 3) (v := .ref (ad 1)) (C := RX3) (T := TX3) (N := 3) hx hb hts (fun w h => List.mem_cons_of_mem _ (uw_X3 w h)) hown hK (j_P1 hx0) 0 rfl rfl 0 (by decide) (hts _ (List.mem_cons_of_mem _ kw_121)) (fun _ h9 => h9) rfl dX3_settle_76 ?_
          refine lv_iload_n hx hb dX3_settle_79 rfl (lv_at hl 2 rfl) ?_
          refine jv_aldq (i := i) hx hb hK hx1 2 rfl (by omega) (by omega) (by decide) dX3_settle_80 ?_
          refine va_get (D := D) (ci := 1) (v := .ref (ad (2 + 12 * u))) (C := RX1) (T := TX1) (N := 9) hx hb hts (fun w h => List.mem_cons_of_mem _ (uw_X1 w h)) hown hK (j_P1 hd0_i) 0 rfl rfl 5 (by decide) (hts _ (List.mem_cons_of_mem _ kw_95)) (fun _ h9 => h9) rfl dX3_settle_81 ?_
          refine lv_astore_n (lv' := [(3, .ref (ad (2 + 12 * u))), (0, .ref (ad 0)), (1, .int (jI (mg))), (2, .int (jI ((i : Int))))]) hx hb dX3_settle_84 rfl hl (by decide) rfl (fun ls hl => ?_)
          refine lv_aload_n hx hb dX3_settle_85 rfl (lv_at hl 1 rfl) ?_
          refine va_get (D := D) (ci := 3) (v := .ref (ad 1)) (C := RX3) (T := TX3) (N := 3) hx hb hts (fun w h => List.mem_cons_of_mem _ (uw_X3 w h)) hown hK (j_P1 hx0) 0 rfl rfl 0 (by decide) (hts _ (List.mem_cons_of_mem _ kw_121)) (fun _ h9 => h9) rfl dX3_settle_86 ?_
          refine lv_iload_n hx hb dX3_settle_89 rfl (lv_at hl 3 rfl) ?_
          refine jv_aldq (i := i) hx hb hK hx1 2 rfl (by omega) (by omega) (by decide) dX3_settle_90 ?_
          refine lv_aload_n hx hb dX3_settle_91 rfl (lv_at hl 1 rfl) ?_
          refine va_get (D := D) (ci := 3) (v := .ref (ad 1)) (C := RX3) (T := TX3) (N := 3) hx hb hts (fun w h => List.mem_cons_of_mem _ (uw_X3 w h)) hown hK (j_P1 hx0) 0 rfl rfl 0 (by decide) (hts _ (List.mem_cons_of_mem _ kw_121)) (fun _ h9 => h9) rfl dX3_settle_92 ?_
          refine lv_iload_n hx hb dX3_settle_95 rfl (lv_at hl 3 rfl) ?_
          refine jv_aldq (i := i) hx hb hK hx1 2 rfl (by omega) (by omega) (by decide) dX3_settle_96 ?_
          refine va_get (D := D) (ci := 1) (v := .ref (ad (2 + 12 * i + 11))) (C := RX1) (T := TX1) (N := 9) hx hb hts (fun w h => List.mem_cons_of_mem _ (uw_X1 w h)) hown hK (j_P1 hd0_i) 0 rfl rfl 4 (by decide) (hts _ (List.mem_cons_of_mem _ kw_93)) (fun _ h9 => h9) rfl dX3_settle_97 ?_
          refine lv_aload_n hx hb dX3_settle_100 rfl (lv_at hl 0 rfl) ?_
          refine lv_ifnonnull (tgt := 108) hx hb dX3_settle_101 (by decide) ?_
          refine lv_aload_n hx hb dX3_settle_108 rfl (lv_at hl 0 rfl) ?_
          refine va_get (D := D) (ci := 1) (v := .int (jI ((pk u : Int)))) (C := RX1) (T := TX1) (N := 9) hx hb hts (fun w h => List.mem_cons_of_mem _ (uw_X1 w h)) hown hK (j_P1 hd0_u) 0 rfl rfl 7 (by decide) (hts _ (List.mem_cons_of_mem _ kw_99)) (fun _ h9 => h9) rfl dX3_settle_109 ?_
          refine jv_iald (i := (pk u)) hx hb hK hd11_i 0 rfl (by omega) (by omega) (by decide) dX3_settle_112 ?_
          rw [show f1 i (pk u) = (pk i : Int) from (hhi.2 u hU (pk u) hpu).trans (hpk i u (by omega) hU)]
          refine jv_put (D := D) (ci := 1) (v := .int (jI ((pk i : Int)))) (ty := .int) (C := RX1) (T := TX1) (N := 9) hx hb hts (fun w h => List.mem_cons_of_mem _ (uw_X1 w h)) tyX1 tyX1_ok nmX1 hown hK hd0_i rfl 7 (by decide) (hts _ (List.mem_cons_of_mem _ kw_99)) (fun _ h9 => h9) rfl (by decide +kernel) rfl rfl (Nat.le_of_ble_eq_true rfl) dX3_settle_113 (fun H f9 hn9 hz9 oq9 => ?_)
          have hPic := bX_dev hj hPic (w := zCs z (i + 1) pk) (i := i) (by omega) (by rw [hw, zCs_N, zCs_N]) (by rw [hw, zCs_V, zCs_V]) (by rw [hw, zCs_K, zCs_K]) (by rw [hw, zCs_P, zCs_P]) (by rw [hw, zCs_L, zCs_L]) (by rw [hw, zCs_M, zCs_M]) (by rw [hw, zCs_S, zCs_S]) (by rw [hw, zCs_D, zCs_D]) (fun i2 h2 => by rw [hw]; exact ⟨by rw [zCs_U, zCs_U], by rw [zCs_O, zCs_O], zCs_step h2, by rw [zCs_Z, zCs_Z]⟩) (show bU (zCs z (i + 1) pk) i = some u by rw [zCs_U]; exact hU) (show bO (zCs z (i + 1) pk) i = bO w i by rw [hw, zCs_O, zCs_O]) (zCs_lt (Nat.lt_succ_self i)) (show bZ (zCs z (i + 1) pk) i = bZ w i by rw [hw, zCs_Z, zCs_Z]) oq9 hn9
          have hT0 := hT0.put (2 + 12 * i) (by omega) hz9 oq9 (f := f9)
          refine lv_iinc (v := jI ((i : Int) + 1)) (lv' := [(2, .int (jI ((i : Int) + 1))), (3, .ref (ad (2 + 12 * u))), (0, .ref (ad 0)), (1, .int (jI (mg)))]) hx hb dX3_settle_116 hl (k := 3) rfl (jI_add _ _) (by decide) rfl (fun ls hl => ?_)
          refine lv_goto (tgt := 67) hx hb dX3_settle_119 (by decide) ?_
          exact ih (i + 1) H _ ls ⟨⟨by omega, hPic, hT0⟩, lv_sub hl [2, 3, 0] rfl⟩ (by omega)
    · refine lv_aload_n hx hb dX3_settle_44 rfl (lv_at hl 0 rfl) ?_
      refine va_get (D := D) (ci := 3) (v := .ref (ad 1)) (C := RX3) (T := TX3) (N := 3) hx hb hts (fun w h => List.mem_cons_of_mem _ (uw_X3 w h)) hown hK (j_P1 hx0) 0 rfl rfl 0 (by decide) (hts _ (List.mem_cons_of_mem _ kw_121)) (fun _ h9 => h9) rfl dX3_settle_45 ?_
      refine lv_iload_n hx hb dX3_settle_48 rfl (lv_at hl 2 rfl) ?_
      refine jv_aldq (i := (bN z - 1 - m9)) hx hb hK hx1 2 rfl (by omega) (by omega) (by decide) dX3_settle_49 ?_
      refine lv_iload_n hx hb dX3_settle_50 rfl (lv_at hl 1 rfl) ?_
      cases hU : bU z (bN z - 1 - m9) with
      | none =>
        refine b_call (va_runS (As := [.ref (ad (2 + 12 * (bN z - 1 - m9))), .int (jI (mg))]) (rest := []) ⟨hx, hb, hml, hown, hts⟩ (c_tryOptions0 l D g ad z r1 f1 hz hj (bN z - 1 - m9) mg (by omega) hU hmg) (cwS 2 hts (gd_S kw_357 kw_358 kw_12 kcX3_tryOptions) rfl rfl rfl (by decide +kernel) ⟨Nat.le_of_ble_eq_true rfl, Nat.le_of_ble_eq_true rfl⟩) (pu_preS hPic hK) rfl rfl hl.1 rfl (lv_room (Nat.le_of_ble_eq_true rfl)) dX3_settle_51 ⟨Nat.zero_le _, Nat.zero_le _⟩) hT0 (fun H locs rl ff hPh hPic hT0 => ?_)
        refine W.eq (g2 := F0 m 54 ls [.int (jI (bI (!decide (cFit (fun j => !r1 (bN z - 1 - m9) j) (bO z (bN z - 1 - m9)) 0 = -1))))]) rfl ?_
        refine jv_if_ne (tgt := 59) hx hb dX3_settle_54 (by decide) (bI_rng _) (fun c54 => ?_) (fun c54 => ?_)
        · have c54 := bI_tr c54
          have c54 : ¬ (cFit (fun j => !r1 (bN z - 1 - m9) j) (bO z (bN z - 1 - m9)) 0 = -1) := by simpa using c54
          refine lv_iinc (v := jI (((bN z : Int) - 1 - (m9 : Int)) + (-1))) (lv' := [(2, .int (jI (((bN z : Int) - 1 - (m9 : Int)) + (-1)))), (0, .ref (ad 0)), (1, .int (jI (mg)))]) hx hb dX3_settle_59 hl (k := 2) rfl (jI_add _ _) (by decide) rfl (fun ls hl => ?_)
          refine lv_goto (tgt := 40) hx hb dX3_settle_62 (by decide) ?_
          obtain ⟨k1, k2, k3⟩ := hPh
          exact ih (m9 + 1, rl, ff) H _ ls ⟨⟨by dsimp only; omega, fun q hq k hk => by dsimp only; rw [k1, hr9 q hq k hk, cRul_s0 hU], fun q h1 h2 => by dsimp only at h1 ⊢; by_cases hq : q = bN z - 1 - m9; (· subst hq; exact ⟨fun _ => k3.trans (cTry0 hz (by omega) hr9), fun v hv => (by rw [hU] at hv; cases hv)⟩); (· have h9 := hh q (by omega) h2; exact ⟨fun h => (by rw [k2 q hq]; exact h9.1 h), fun v hv k hk => (by rw [k2 q hq]; exact h9.2 v hv k hk)⟩), fun q h1 h2 h3 => by dsimp only at h1; by_cases hq : q = bN z - 1 - m9; (· subst hq; rw [← cTry0 hz (by omega) hr9]; exact c54); (· exact hnr q (by omega) h2 h3), hPic, hT0⟩, by dsimp only; rw [show (bN z : Int) - 1 - ((m9 + 1 : Nat) : Int) = (bN z : Int) - 1 - (m9 : Int) + (-1) by omega]; exact lv_sub hl [1, 2, 0] rfl⟩ (by dsimp only; omega)
        · exact absurd (bI_fa c54) (by rw [cTry0 hz (by omega) hr9, decide_eq_false (hA _ (by omega) hU)]; decide)
      | some u =>
        have hul := hz.2.2.2 (bN z - 1 - m9) u (by omega) hU
        refine b_call (va_runS (As := [.ref (ad (2 + 12 * (bN z - 1 - m9))), .int (jI (mg))]) (rest := []) ⟨hx, hb, hml, hown, hts⟩ (c_tryOptions1 l D g ad z r1 f1 hz hj (bN z - 1 - m9) u mg (by omega) hul hU hmg) (cwS 2 hts (gd_S kw_357 kw_358 kw_12 kcX3_tryOptions) rfl rfl rfl (by decide +kernel) ⟨Nat.le_of_ble_eq_true rfl, Nat.le_of_ble_eq_true rfl⟩) (pu_preS hPic hK) rfl rfl hl.1 rfl (lv_room (Nat.le_of_ble_eq_true rfl)) dX3_settle_51 ⟨Nat.zero_le _, Nat.zero_le _⟩) hT0 (fun H locs rl ff hPh hPic hT0 => ?_)
        refine W.eq (g2 := F0 m 54 ls [.int (jI (bI true))]) rfl ?_
        refine jv_if_ne (tgt := 59) hx hb dX3_settle_54 (by decide) (bI_rng _) (fun c54 => ?_) (fun c54 => ?_)
        · refine lv_iinc (v := jI (((bN z : Int) - 1 - (m9 : Int)) + (-1))) (lv' := [(2, .int (jI (((bN z : Int) - 1 - (m9 : Int)) + (-1)))), (0, .ref (ad 0)), (1, .int (jI (mg)))]) hx hb dX3_settle_59 hl (k := 2) rfl (jI_add _ _) (by decide) rfl (fun ls hl => ?_)
          refine lv_goto (tgt := 40) hx hb dX3_settle_62 (by decide) ?_
          obtain ⟨k1, k2, k3, k4⟩ := hPh
          exact ih (m9 + 1, rl, ff) H _ ls ⟨⟨by dsimp only; omega, cTry1r hz (by omega) hU hr9 k1 k2, fun q h1 h2 => by dsimp only at h1 ⊢; by_cases hq : q = bN z - 1 - m9; (· subst hq; exact ⟨fun h => (by rw [hU] at h; cases h), fun v hv k hk => (by rw [hU] at hv; cases hv; rw [k4 k hk]; exact cTry1 hz (by omega) hU hr9)⟩); (· have h9 := hh q (by omega) h2; exact ⟨fun h => (by rw [k3 q hq]; exact h9.1 h), fun v hv k hk => (by rw [k3 q hq]; exact h9.2 v hv k hk)⟩), fun q h1 h2 h3 => by dsimp only at h1; by_cases hq : q = bN z - 1 - m9; (· subst hq; rw [hU] at h3; cases h3); (· exact hnr q (by omega) h2 h3), hPic, hT0⟩, by dsimp only; rw [show (bN z : Int) - 1 - ((m9 + 1 : Nat) : Int) = (bN z : Int) - 1 - (m9 : Int) + (-1) by omega]; exact lv_sub hl [1, 2, 0] rfl⟩ (by dsimp only; omega)
        · exact absurd c54 (by decide)
  · have hx0 : va_at D vwCl (ad 0, .inr (3, [.ref (ad 1), .int (jI ((bN z : Int))), .int (jI (bV z))])) H := hPic 0 (by omega)
    have hx1 : va_at D vwCl (ad 1, .inl (g 2, 8, .inr (.inr (.inr (.inr (fun j => some (ad (2 + 12 * j)))))))) H := hPic 1 (by omega)
    have hd0_i : va_at D vwCl (ad (2 + 12 * i), .inr (1, [.int (jI ((i : Int))), .ref (ad (2 + 12 * i + 1)), .ref (ad (2 + 12 * i + 5)), .ref (ad (2 + 12 * i + 10)), .ref (ad (2 + 12 * i + 11)), va_rf ((bU z i).map (fun u => ad (2 + 12 * u))), .int (jI ((bO z i : Int))), .int (jI ((bC z i : Int))), .int (jI (bZ z i))])) H := bW_at hPic (i := i) (by omega) 0 (by omega)
    refine lv_aload_n hx hb dX3_settle_18 rfl (lv_at hl 0 rfl) ?_
    refine va_get (D := D) (ci := 3) (v := .ref (ad 1)) (C := RX3) (T := TX3) (N := 3) hx hb hts (fun w h => List.mem_cons_of_mem _ (uw_X3 w h)) hown hK (j_P1 hx0) 0 rfl rfl 0 (by decide) (hts _ (List.mem_cons_of_mem _ kw_121)) (fun _ h9 => h9) rfl dX3_settle_19 ?_
    refine lv_iload_n hx hb dX3_settle_22 rfl (lv_at hl 2 rfl) ?_
    refine jv_aldq (i := i) hx hb hK hx1 2 rfl (by omega) (by omega) (by decide) dX3_settle_23 ?_
    refine b_call (va_runV (As := []) (rest := []) ⟨hx, hb, hml, hown, hts⟩ (c_forgetTries l D g ad z r1 f1 hz hj i (by omega)) (cwV 0 hts (gd_V kw_353 kw_354 kw_355 kw_13 kcX1_forgetTries) rfl rfl rfl (by decide +kernel) ⟨Nat.le_of_ble_eq_true rfl, Nat.le_of_ble_eq_true rfl⟩) (pu_preV hPic hK rfl hd0_i) rfl rfl hl.1 rfl (lv_room (Nat.le_of_ble_eq_true rfl)) dX3_settle_24 ⟨Nat.zero_le _, Nat.zero_le _⟩) hT0 (fun H locs rl ff hPh hPic hT0 => ?_)
    refine W.eq (g2 := F0 m 27 ls []) rfl ?_
    refine lv_iinc (v := jI ((i : Int) + 1)) (lv' := [(2, .int (jI ((i : Int) + 1))), (0, .ref (ad 0)), (1, .int (jI (mg)))]) hx hb dX3_settle_27 hl (k := 2) rfl (jI_add _ _) (by decide) rfl (fun ls hl => ?_)
    refine lv_goto (tgt := 10) hx hb dX3_settle_30 (by decide) ?_
    obtain ⟨-, hro, hrf⟩ := hPh
    exact ih (i + 1, rl, ff) H _ ls ⟨⟨by dsimp only; omega, fun q hq k hk => by dsimp only at hq ⊢; by_cases hqi : q = i; (· subst hqi; exact hrf k hk); (· rw [hro q hqi]; exact hrk q (by omega) k hk), hPic, hT0⟩, lv_sub hl [1, 2, 0] rfl⟩ (by dsimp only; omega)
end
section
/-! the reference's object: 0 itself, 1 uppers, 2 points, 3 places, 4 leasts, 5 mosts, 6 options, 7 scales, 8 delays, 9 chosen, 10 impedances, 11 fits, 12 tried -/
def mLen (a : Nat) : Nat := match a with
  | 3 => 48
  | 4 => 48
  | 5 => 48
  | 7 => 32
  | 8 => 32
  | 11 => 128
  | _ => 8
def mW (D : va_G) (g : Nat → ClassId) (am : Nat → Nat) (cd dv vo ab be : Int) (AA : Nat → Nat → Int) (H : Heap) : Prop :=
  va_at D vwCl (am 0, .inr (4, [.int (jI cd), .int (jI dv), .ref (am 1), .ref (am 2), .ref (am 3), .ref (am 4), .ref (am 5), .ref (am 6), .ref (am 7), .ref (am 8), .ref (am 9), .ref (am 10), .int (jI vo), .long (jL ab), .long (jL be), .ref (am 11), .ref (am 12)])) H ∧
  ∀ a, 1 ≤ a → a ≤ 12 → va_at D vwCl (am a, .inl (g 0, mLen a, .inl (fun j => jI (AA a j)))) H
def mInj (am : Nat → Nat) : Prop := ∀ p q, p < 13 → q < 13 → am p = am q → p = q
def mFr (am : Nat → Nat) : Addr → Prop := fun q => ∃ r, r < 13 ∧ q = am r
def mTo (am : Nat → Nat) (H0 H : Heap) (locs : List Loc) : Prop := H.size = H0.size ∧ (∀ q : Nat, ¬ mFr am q → H[q]? = H0[q]?) ∧ ∀ q ∈ locs, mFr am q.base
theorem mTo.rf {am : Nat → Nat} {H : Heap} : mTo am H H [] := ⟨rfl, fun _ _ => rfl, fun _ h => by cases h⟩
theorem mTo.put {am : Nat → Nat} {H0 H H1 : Heap} {locs : List Loc} (h : mTo am H0 H locs) (r : Nat) (hr : r < 13) (hz : H1.size = H.size) (oq : ∀ q, q ≠ am r → H1[q]? = H[q]?) {f : Nat} : mTo am H0 H1 (locs ++ [⟨am r, f⟩]) := by
  refine ⟨hz.trans h.1, fun q hq => (oq q (fun e => hq ⟨r, hr, e⟩)).trans (h.2.1 q hq), fun q hq => ?_⟩
  rcases List.mem_append.mp hq with h1 | h1
  · exact h.2.2 q h1
  · rw [List.mem_singleton.mp h1]
    exact ⟨r, hr, rfl⟩
section MW
variable {D : va_G} {g : Nat → ClassId} {am : Nat → Nat} {cd dv vo ab be cd' dv' vo' ab' be' : Int} {AA : Nat → Nat → Int} {H H1 : Heap}
theorem mW_obj (hj : mInj am) (h : mW D g am cd dv vo ab be AA H) (oq : ∀ q, q ≠ am 0 → H1[q]? = H[q]?) (hn : va_at D vwCl (am 0, .inr (4, [.int (jI cd'), .int (jI dv'), .ref (am 1), .ref (am 2), .ref (am 3), .ref (am 4), .ref (am 5), .ref (am 6), .ref (am 7), .ref (am 8), .ref (am 9), .ref (am 10), .int (jI vo'), .long (jL ab'), .long (jL be'), .ref (am 11), .ref (am 12)])) H1) : mW D g am cd' dv' vo' ab' be' AA H1 :=
  ⟨hn, fun a h1 h2 => (h.2 a h1 h2).kept (oq _ (fun e => by have := hj a 0 (by omega) (by omega) e; omega))⟩
theorem mW_arr (hj : mInj am) (h : mW D g am cd dv vo ab be AA H) (a : Nat) (h1 : 1 ≤ a) (h2 : a ≤ 12) {f : Nat → Int} (oq : ∀ q, q ≠ am a → H1[q]? = H[q]?) (hn : va_at D vwCl (am a, .inl (g 0, mLen a, .inl (fun j => jI (f j)))) H1) : mW D g am cd dv vo ab be (jUp AA a f) H1 := by
  refine ⟨h.1.kept (oq _ (fun e => by have := hj 0 a (by omega) (by omega) e; omega)), fun b h3 h4 => ?_⟩
  by_cases hb : b = a
  · subst hb
    rw [jUp_s]
    exact hn
  · rw [jUp_n hb]
    exact (h.2 b h3 h4).kept (oq _ (fun e => hb (hj b a (by omega) (by omega) e)))
end MW
abbrev mPh : Type := Int → Int → Int → (Nat → Nat → Int) → Int → Int → Prop
def mQ (D : va_G) (g : Nat → ClassId) (am : Nat → Nat) (v : Option Value) (Ph : mPh) : Array Value → State → Outcome → State → Prop := fun _ st o t => o = .returned v ∧ (∃ cd dv vo AA ab be, Ph cd dv vo AA ab be ∧ mW D g am cd dv vo ab be AA t.heap) ∧ t.heap.size = st.heap.size ∧ ∀ q : Nat, ¬ mFr am q → t.heap[q]? = st.heap[q]?
section MCALL
variable {p : Program} {l : Launch} {e : Env} {R : Room} {s : State} {m : MethodId} {args : Array Value} {below : List Frame} {meth : Method} {c : Code} {H H0 : Heap} {locs : List Loc} {cells slots : Nat} {Q : State → Prop}
variable {cc : ByteArray} {pc : Nat} {ls : Array Slot} {rest st0 : List Value} {a : Array Value} {D : va_G} {g : Nat → ClassId} {am : Nat → Nat} {cd dv vo ab be : Int} {AA : Nat → Nat → Int} {Ph : mPh}
theorem m_call {v : Option Value} (hr : va_Run p l e R s m args below meth c H locs cells slots 0 0 (F0 m pc ls st0) rest (mQ D g am v Ph a) (mFr am)) (hT0 : mTo am H0 H locs)
    (kk : ∀ (H1 : Heap) (locs1 : List Loc) (cd dv vo : Int) (AA : Nat → Nat → Int) (ab be : Int), Ph cd dv vo AA ab be → mW D g am cd dv vo ab be AA H1 → mTo am H0 H1 locs1 → W p l e R s m args below meth c H1 locs1 cells slots Q (F0 m (pc + 3) ls (v.toList ++ rest))) : W p l e R s m args below meth c H locs cells slots Q (F0 m pc ls st0) := by
  intro T hT X
  obtain ⟨v', st₀, t, T', L, h0, X', hL, e1, e2, ⟨hv, ⟨cd, dv, vo, AA, ab, be, hPh, hW⟩, hz, hk⟩, st⟩ := hr T hT X
  cases hv
  rw [h0] at hz hk
  obtain ⟨t2, a1, b1⟩ := kk T'.heap (locs ++ L) cd dv vo AA ab be hPh (by rw [e1]; exact hW) ⟨by rw [e1, hz]; exact hT0.1, fun q hq => by rw [e1, hk q hq]; exact hT0.2.1 q hq, fun q hq => by
    rcases List.mem_append.mp hq with h1 | h1
    · exact hT0.2.2 q h1
    · exact hL q h1⟩ T' rfl X'
  exact ⟨t2, st t2 a1, b1⟩
theorem m_iret {x y : Int} (hexec : p.tables.exec = Jvm.exec) (hb : c.code = cc) (hr : meth.sig.returnType = some .int) (hlocks : meth.locks = false) (hdg : decode cc pc = .ok (.ireturn, 1)) (hPh : Ph cd dv vo AA ab be) (hW : mW D g am cd dv vo ab be AA H) (hT0 : mTo am s.heap H locs) (hv : x = y) :
    W p l e R s m args below meth c H locs 0 0 (MQ below (mQ D g am (some (.int (jI y))) Ph) args s 0 0 (mFr am)) (F0 m pc ls [.int (jI x)]) := by
  subst hv
  exact W.iret hexec hb hr (fun t ht _ => ⟨rfl, ⟨cd, dv, vo, AA, ab, be, hPh, by rw [ht]; exact hW⟩, by rw [ht]; exact hT0.1, fun q hq => by rw [ht]; exact hT0.2.1 q hq⟩) hT0.2.2 hdg
theorem m_zret {x : Int} {y : Bool} (hexec : p.tables.exec = Jvm.exec) (hb : c.code = cc) (hr : meth.sig.returnType = some .boolean) (hlocks : meth.locks = false) (hdg : decode cc pc = .ok (.ireturn, 1)) (hPh : Ph cd dv vo AA ab be) (hW : mW D g am cd dv vo ab be AA H) (hT0 : mTo am s.heap H locs) (hv : x = bI y) :
    W p l e R s m args below meth c H locs 0 0 (MQ below (mQ D g am (some (.int (jI (bI y)))) Ph) args s 0 0 (mFr am)) (F0 m pc ls [.int (jI x)]) := by
  subst hv
  exact W.zret hexec hb hr (bI_narrow y) (fun t ht _ => ⟨rfl, ⟨cd, dv, vo, AA, ab, be, hPh, by rw [ht]; exact hW⟩, by rw [ht]; exact hT0.1, fun q hq => by rw [ht]; exact hT0.2.1 q hq⟩) hT0.2.2 hdg
theorem m_vret (hexec : p.tables.exec = Jvm.exec) (hb : c.code = cc) (hr : meth.sig.returnType = none) (hlocks : meth.locks = false) (hdg : decode cc pc = .ok (.return_, 1)) (hPh : Ph cd dv vo AA ab be) (hW : mW D g am cd dv vo ab be AA H) (hT0 : mTo am s.heap H locs) :
    W p l e R s m args below meth c H locs 0 0 (MQ below (mQ D g am none Ph) args s 0 0 (mFr am)) (F0 m pc ls []) :=
  W.vret hexec hb hr (fun t ht _ => ⟨rfl, ⟨cd, dv, vo, AA, ab, be, hPh, by rw [ht]; exact hW⟩, by rw [ht]; exact hT0.1, fun q hq => by rw [ht]; exact hT0.2.1 q hq⟩) hT0.2.2 hdg
end MCALL
/-! what the reference's arrays hold of a state -/
def upI (o : Option Nat) : Int := match o with
  | none => -1
  | some u => (u : Int)
def mR (z : bSt) (dv vo : Int) (AA : Nat → Nat → Int) : Prop := dv = (bN z : Int) ∧ vo = bV z ∧ ∀ i, i < bN z → AA 1 i = upI (bU z i) ∧ AA 2 i = (bK z i : Int) ∧ (∀ k, k < bK z i → AA 3 (6 * i + k) = bP z i k ∧ AA 4 (6 * i + k) = bL z i k ∧ AA 5 (6 * i + k) = bM z i k) ∧ AA 6 i = (bO z i : Int) ∧ (∀ j, j < bO z i → AA 7 (4 * i + j) = bS z i j ∧ AA 8 (4 * i + j) = bD z i j) ∧ AA 9 i = (bC z i : Int) ∧ AA 10 i = bZ z i
/-- opens at all -/
def mOpen (S : jSet) (I : Int) : Bool := decide (0 < sN S ∧ sS S * sP S 0 ≤ 100 * I)
theorem mOpen_piece {S : jSet} (h : sOK S) (I : Int) : mOpen S I = true ↔ cPiece S I ≠ -1 := by
  unfold mOpen
  rw [decide_eq_true_iff]
  rcases cPc_spec S I (sN S) with ⟨h1, h2⟩ | ⟨k, h1, h2, h3, -⟩
  · constructor
    · intro hh
      have := h2 0 hh.1
      omega
    · intro hh
      exact absurd h1 hh
  · constructor
    · intro _ hh
      unfold cPiece at hh
      omega
    · intro _
      have := sOK_le h (Nat.zero_le k) h1
      exact ⟨by omega, by omega⟩
end
section
theorem dX4_init_0 : decode cX4_init 0 = .ok (.aload_n 0, 1) := by decide +kernel
theorem dX4_init_1 : decode cX4_init 1 = .ok (.invokespecial 1, 3) := by decide +kernel
theorem dX4_init_4 : decode cX4_init 4 = .ok (.aload_n 0, 1) := by decide +kernel
theorem dX4_init_5 : decode cX4_init 5 = .ok (.bipush 8, 2) := by decide +kernel
theorem dX4_init_7 : decode cX4_init 7 = .ok (.newarray .int, 2) := by decide +kernel
theorem dX4_init_9 : decode cX4_init 9 = .ok (.putfield 7, 3) := by decide +kernel
theorem dX4_init_12 : decode cX4_init 12 = .ok (.aload_n 0, 1) := by decide +kernel
theorem dX4_init_13 : decode cX4_init 13 = .ok (.bipush 8, 2) := by decide +kernel
theorem dX4_init_15 : decode cX4_init 15 = .ok (.newarray .int, 2) := by decide +kernel
theorem dX4_init_17 : decode cX4_init 17 = .ok (.putfield 13, 3) := by decide +kernel
theorem dX4_init_20 : decode cX4_init 20 = .ok (.aload_n 0, 1) := by decide +kernel
theorem dX4_init_21 : decode cX4_init 21 = .ok (.bipush 48, 2) := by decide +kernel
theorem dX4_init_23 : decode cX4_init 23 = .ok (.newarray .int, 2) := by decide +kernel
theorem dX4_init_25 : decode cX4_init 25 = .ok (.putfield 16, 3) := by decide +kernel
theorem dX4_init_28 : decode cX4_init 28 = .ok (.aload_n 0, 1) := by decide +kernel
theorem dX4_init_29 : decode cX4_init 29 = .ok (.bipush 48, 2) := by decide +kernel
theorem dX4_init_31 : decode cX4_init 31 = .ok (.newarray .int, 2) := by decide +kernel
theorem dX4_init_33 : decode cX4_init 33 = .ok (.putfield 19, 3) := by decide +kernel
theorem dX4_init_36 : decode cX4_init 36 = .ok (.aload_n 0, 1) := by decide +kernel
theorem dX4_init_37 : decode cX4_init 37 = .ok (.bipush 48, 2) := by decide +kernel
theorem dX4_init_39 : decode cX4_init 39 = .ok (.newarray .int, 2) := by decide +kernel
theorem dX4_init_41 : decode cX4_init 41 = .ok (.putfield 22, 3) := by decide +kernel
theorem dX4_init_44 : decode cX4_init 44 = .ok (.aload_n 0, 1) := by decide +kernel
theorem dX4_init_45 : decode cX4_init 45 = .ok (.bipush 8, 2) := by decide +kernel
theorem dX4_init_47 : decode cX4_init 47 = .ok (.newarray .int, 2) := by decide +kernel
theorem dX4_init_49 : decode cX4_init 49 = .ok (.putfield 25, 3) := by decide +kernel
theorem dX4_init_52 : decode cX4_init 52 = .ok (.aload_n 0, 1) := by decide +kernel
theorem dX4_init_53 : decode cX4_init 53 = .ok (.bipush 32, 2) := by decide +kernel
theorem dX4_init_55 : decode cX4_init 55 = .ok (.newarray .int, 2) := by decide +kernel
theorem dX4_init_57 : decode cX4_init 57 = .ok (.putfield 28, 3) := by decide +kernel
theorem dX4_init_60 : decode cX4_init 60 = .ok (.aload_n 0, 1) := by decide +kernel
theorem dX4_init_61 : decode cX4_init 61 = .ok (.bipush 32, 2) := by decide +kernel
theorem dX4_init_63 : decode cX4_init 63 = .ok (.newarray .int, 2) := by decide +kernel
theorem dX4_init_65 : decode cX4_init 65 = .ok (.putfield 31, 3) := by decide +kernel
theorem dX4_init_68 : decode cX4_init 68 = .ok (.aload_n 0, 1) := by decide +kernel
theorem dX4_init_69 : decode cX4_init 69 = .ok (.bipush 8, 2) := by decide +kernel
theorem dX4_init_71 : decode cX4_init 71 = .ok (.newarray .int, 2) := by decide +kernel
theorem dX4_init_73 : decode cX4_init 73 = .ok (.putfield 34, 3) := by decide +kernel
theorem dX4_init_76 : decode cX4_init 76 = .ok (.aload_n 0, 1) := by decide +kernel
theorem dX4_init_77 : decode cX4_init 77 = .ok (.bipush 8, 2) := by decide +kernel
theorem dX4_init_79 : decode cX4_init 79 = .ok (.newarray .int, 2) := by decide +kernel
theorem dX4_init_81 : decode cX4_init 81 = .ok (.putfield 37, 3) := by decide +kernel
theorem dX4_init_84 : decode cX4_init 84 = .ok (.aload_n 0, 1) := by decide +kernel
theorem dX4_init_85 : decode cX4_init 85 = .ok (.sipush 128, 3) := by decide +kernel
theorem dX4_init_88 : decode cX4_init 88 = .ok (.newarray .int, 2) := by decide +kernel
theorem dX4_init_90 : decode cX4_init 90 = .ok (.putfield 40, 3) := by decide +kernel
theorem dX4_init_93 : decode cX4_init 93 = .ok (.aload_n 0, 1) := by decide +kernel
theorem dX4_init_94 : decode cX4_init 94 = .ok (.bipush 8, 2) := by decide +kernel
theorem dX4_init_96 : decode cX4_init 96 = .ok (.newarray .int, 2) := by decide +kernel
theorem dX4_init_98 : decode cX4_init 98 = .ok (.putfield 43, 3) := by decide +kernel
theorem dX4_init_101 : decode cX4_init 101 = .ok (.return_, 1) := by decide +kernel
theorem dX4_thrown_0 : decode cX4_thrown 0 = .ok (.aload_n 0, 1) := by decide +kernel
theorem dX4_thrown_1 : decode cX4_thrown 1 = .ok (.getfield 46, 3) := by decide +kernel
theorem dX4_thrown_4 : decode cX4_thrown 4 = .ok (.ireturn, 1) := by decide +kernel
theorem dX4_in_0 : decode cX4_in 0 = .ok (.iload_n 0, 1) := by decide +kernel
theorem dX4_in_1 : decode cX4_in 1 = .ok (.iload_n 1, 1) := by decide +kernel
theorem dX4_in_2 : decode cX4_in 2 = .ok (.if_icmp .lt 12, 3) := by decide +kernel
theorem dX4_in_5 : decode cX4_in 5 = .ok (.iload_n 0, 1) := by decide +kernel
theorem dX4_in_6 : decode cX4_in 6 = .ok (.iload_n 2, 1) := by decide +kernel
theorem dX4_in_7 : decode cX4_in 7 = .ok (.if_icmp .gt 7, 3) := by decide +kernel
theorem dX4_in_10 : decode cX4_in 10 = .ok (.iconst 1, 1) := by decide +kernel
theorem dX4_in_11 : decode cX4_in 11 = .ok (.goto 4, 3) := by decide +kernel
theorem dX4_in_14 : decode cX4_in 14 = .ok (.iconst 0, 1) := by decide +kernel
theorem dX4_in_15 : decode cX4_in 15 = .ok (.ireturn, 1) := by decide +kernel
theorem dX4_isDevice_0 : decode cX4_isDevice 0 = .ok (.iload_n 1, 1) := by decide +kernel
theorem dX4_isDevice_1 : decode cX4_isDevice 1 = .ok (.iconst 0, 1) := by decide +kernel
theorem dX4_isDevice_2 : decode cX4_isDevice 2 = .ok (.aload_n 0, 1) := by decide +kernel
theorem dX4_isDevice_3 : decode cX4_isDevice 3 = .ok (.getfield 50, 3) := by decide +kernel
theorem dX4_isDevice_6 : decode cX4_isDevice 6 = .ok (.iconst 1, 1) := by decide +kernel
theorem dX4_isDevice_7 : decode cX4_isDevice 7 = .ok (.isub, 1) := by decide +kernel
theorem dX4_isDevice_8 : decode cX4_isDevice 8 = .ok (.invokestatic 53, 3) := by decide +kernel
theorem dX4_isDevice_11 : decode cX4_isDevice 11 = .ok (.ireturn, 1) := by decide +kernel
theorem dX4_device_0 : decode cX4_device 0 = .ok (.aload_n 0, 1) := by decide +kernel
theorem dX4_device_1 : decode cX4_device 1 = .ok (.iload_n 1, 1) := by decide +kernel
theorem dX4_device_2 : decode cX4_device 2 = .ok (.iconst (-1), 1) := by decide +kernel
theorem dX4_device_3 : decode cX4_device 3 = .ok (.if_icmp .eq 15, 3) := by decide +kernel
theorem dX4_device_6 : decode cX4_device 6 = .ok (.aload_n 0, 1) := by decide +kernel
theorem dX4_device_7 : decode cX4_device 7 = .ok (.iload_n 1, 1) := by decide +kernel
theorem dX4_device_8 : decode cX4_device 8 = .ok (.invokevirtual 57, 3) := by decide +kernel
theorem dX4_device_11 : decode cX4_device 11 = .ok (.ifCond .ne 7, 3) := by decide +kernel
theorem dX4_device_14 : decode cX4_device 14 = .ok (.iconst 1, 1) := by decide +kernel
theorem dX4_device_15 : decode cX4_device 15 = .ok (.goto 17, 3) := by decide +kernel
theorem dX4_device_18 : decode cX4_device 18 = .ok (.aload_n 0, 1) := by decide +kernel
theorem dX4_device_19 : decode cX4_device 19 = .ok (.getfield 50, 3) := by decide +kernel
theorem dX4_device_22 : decode cX4_device 22 = .ok (.bipush 8, 2) := by decide +kernel
theorem dX4_device_24 : decode cX4_device 24 = .ok (.if_icmp .ne 7, 3) := by decide +kernel
theorem dX4_device_27 : decode cX4_device 27 = .ok (.iconst 2, 1) := by decide +kernel
theorem dX4_device_28 : decode cX4_device 28 = .ok (.goto 4, 3) := by decide +kernel
theorem dX4_device_31 : decode cX4_device 31 = .ok (.iconst 0, 1) := by decide +kernel
theorem dX4_device_32 : decode cX4_device 32 = .ok (.putfield 46, 3) := by decide +kernel
theorem dX4_device_35 : decode cX4_device 35 = .ok (.aload_n 0, 1) := by decide +kernel
theorem dX4_device_36 : decode cX4_device 36 = .ok (.getfield 46, 3) := by decide +kernel
theorem dX4_device_39 : decode cX4_device 39 = .ok (.ifCond .le 5, 3) := by decide +kernel
theorem dX4_device_42 : decode cX4_device 42 = .ok (.iconst 0, 1) := by decide +kernel
theorem dX4_device_43 : decode cX4_device 43 = .ok (.ireturn, 1) := by decide +kernel
theorem dX4_device_44 : decode cX4_device 44 = .ok (.aload_n 0, 1) := by decide +kernel
theorem dX4_device_45 : decode cX4_device 45 = .ok (.getfield 7, 3) := by decide +kernel
theorem dX4_device_48 : decode cX4_device 48 = .ok (.aload_n 0, 1) := by decide +kernel
theorem dX4_device_49 : decode cX4_device 49 = .ok (.getfield 50, 3) := by decide +kernel
theorem dX4_device_52 : decode cX4_device 52 = .ok (.iload_n 1, 1) := by decide +kernel
theorem dX4_device_53 : decode cX4_device 53 = .ok (.iastore, 1) := by decide +kernel
theorem dX4_device_54 : decode cX4_device 54 = .ok (.aload_n 0, 1) := by decide +kernel
theorem dX4_device_55 : decode cX4_device 55 = .ok (.getfield 13, 3) := by decide +kernel
theorem dX4_device_58 : decode cX4_device 58 = .ok (.aload_n 0, 1) := by decide +kernel
theorem dX4_device_59 : decode cX4_device 59 = .ok (.getfield 50, 3) := by decide +kernel
theorem dX4_device_62 : decode cX4_device 62 = .ok (.iconst 0, 1) := by decide +kernel
theorem dX4_device_63 : decode cX4_device 63 = .ok (.iastore, 1) := by decide +kernel
theorem dX4_device_64 : decode cX4_device 64 = .ok (.aload_n 0, 1) := by decide +kernel
theorem dX4_device_65 : decode cX4_device 65 = .ok (.getfield 25, 3) := by decide +kernel
theorem dX4_device_68 : decode cX4_device 68 = .ok (.aload_n 0, 1) := by decide +kernel
theorem dX4_device_69 : decode cX4_device 69 = .ok (.getfield 50, 3) := by decide +kernel
theorem dX4_device_72 : decode cX4_device 72 = .ok (.iconst 1, 1) := by decide +kernel
theorem dX4_device_73 : decode cX4_device 73 = .ok (.iastore, 1) := by decide +kernel
theorem dX4_device_74 : decode cX4_device 74 = .ok (.aload_n 0, 1) := by decide +kernel
theorem dX4_device_75 : decode cX4_device 75 = .ok (.getfield 28, 3) := by decide +kernel
theorem dX4_device_78 : decode cX4_device 78 = .ok (.iconst 4, 1) := by decide +kernel
theorem dX4_device_79 : decode cX4_device 79 = .ok (.aload_n 0, 1) := by decide +kernel
theorem dX4_device_80 : decode cX4_device 80 = .ok (.getfield 50, 3) := by decide +kernel
theorem dX4_device_83 : decode cX4_device 83 = .ok (.imul, 1) := by decide +kernel
theorem dX4_device_84 : decode cX4_device 84 = .ok (.bipush 100, 2) := by decide +kernel
theorem dX4_device_86 : decode cX4_device 86 = .ok (.iastore, 1) := by decide +kernel
theorem dX4_device_87 : decode cX4_device 87 = .ok (.aload_n 0, 1) := by decide +kernel
theorem dX4_device_88 : decode cX4_device 88 = .ok (.getfield 31, 3) := by decide +kernel
theorem dX4_device_91 : decode cX4_device 91 = .ok (.iconst 4, 1) := by decide +kernel
theorem dX4_device_92 : decode cX4_device 92 = .ok (.aload_n 0, 1) := by decide +kernel
theorem dX4_device_93 : decode cX4_device 93 = .ok (.getfield 50, 3) := by decide +kernel
theorem dX4_device_96 : decode cX4_device 96 = .ok (.imul, 1) := by decide +kernel
theorem dX4_device_97 : decode cX4_device 97 = .ok (.iconst 0, 1) := by decide +kernel
theorem dX4_device_98 : decode cX4_device 98 = .ok (.iastore, 1) := by decide +kernel
theorem dX4_device_99 : decode cX4_device 99 = .ok (.aload_n 0, 1) := by decide +kernel
theorem dX4_device_100 : decode cX4_device 100 = .ok (.getfield 34, 3) := by decide +kernel
theorem dX4_device_103 : decode cX4_device 103 = .ok (.aload_n 0, 1) := by decide +kernel
theorem dX4_device_104 : decode cX4_device 104 = .ok (.getfield 50, 3) := by decide +kernel
theorem dX4_device_107 : decode cX4_device 107 = .ok (.iconst 0, 1) := by decide +kernel
theorem dX4_device_108 : decode cX4_device 108 = .ok (.iastore, 1) := by decide +kernel
theorem dX4_device_109 : decode cX4_device 109 = .ok (.aload_n 0, 1) := by decide +kernel
theorem dX4_device_110 : decode cX4_device 110 = .ok (.getfield 37, 3) := by decide +kernel
theorem dX4_device_113 : decode cX4_device 113 = .ok (.aload_n 0, 1) := by decide +kernel
theorem dX4_device_114 : decode cX4_device 114 = .ok (.getfield 50, 3) := by decide +kernel
theorem dX4_device_117 : decode cX4_device 117 = .ok (.bipush 100, 2) := by decide +kernel
theorem dX4_device_119 : decode cX4_device 119 = .ok (.iastore, 1) := by decide +kernel
theorem dX4_device_120 : decode cX4_device 120 = .ok (.aload_n 0, 1) := by decide +kernel
theorem dX4_device_121 : decode cX4_device 121 = .ok (.dup, 1) := by decide +kernel
theorem dX4_device_122 : decode cX4_device 122 = .ok (.getfield 50, 3) := by decide +kernel
theorem dX4_device_125 : decode cX4_device 125 = .ok (.iconst 1, 1) := by decide +kernel
theorem dX4_device_126 : decode cX4_device 126 = .ok (.iadd, 1) := by decide +kernel
theorem dX4_device_127 : decode cX4_device 127 = .ok (.putfield 50, 3) := by decide +kernel
theorem dX4_device_130 : decode cX4_device 130 = .ok (.aload_n 0, 1) := by decide +kernel
theorem dX4_device_131 : decode cX4_device 131 = .ok (.getfield 50, 3) := by decide +kernel
theorem dX4_device_134 : decode cX4_device 134 = .ok (.iconst 1, 1) := by decide +kernel
theorem dX4_device_135 : decode cX4_device 135 = .ok (.isub, 1) := by decide +kernel
theorem dX4_device_136 : decode cX4_device 136 = .ok (.ireturn, 1) := by decide +kernel
theorem dX4_point_0 : decode cX4_point 0 = .ok (.aload_n 0, 1) := by decide +kernel
theorem dX4_point_1 : decode cX4_point 1 = .ok (.iload_n 1, 1) := by decide +kernel
theorem dX4_point_2 : decode cX4_point 2 = .ok (.invokevirtual 57, 3) := by decide +kernel
theorem dX4_point_5 : decode cX4_point 5 = .ok (.ifCond .eq 45, 3) := by decide +kernel
theorem dX4_point_8 : decode cX4_point 8 = .ok (.iload_n 2, 1) := by decide +kernel
theorem dX4_point_9 : decode cX4_point 9 = .ok (.iconst 1, 1) := by decide +kernel
theorem dX4_point_10 : decode cX4_point 10 = .ok (.sipush 5000, 3) := by decide +kernel
theorem dX4_point_13 : decode cX4_point 13 = .ok (.invokestatic 53, 3) := by decide +kernel
theorem dX4_point_16 : decode cX4_point 16 = .ok (.ifCond .eq 34, 3) := by decide +kernel
theorem dX4_point_19 : decode cX4_point 19 = .ok (.iload_n 3, 1) := by decide +kernel
theorem dX4_point_20 : decode cX4_point 20 = .ok (.iconst 0, 1) := by decide +kernel
theorem dX4_point_21 : decode cX4_point 21 = .ok (.ldc 61, 2) := by decide +kernel
theorem dX4_point_23 : decode cX4_point 23 = .ok (.invokestatic 53, 3) := by decide +kernel
theorem dX4_point_26 : decode cX4_point 26 = .ok (.ifCond .eq 24, 3) := by decide +kernel
theorem dX4_point_29 : decode cX4_point 29 = .ok (.iload 4, 2) := by decide +kernel
theorem dX4_point_31 : decode cX4_point 31 = .ok (.iconst 0, 1) := by decide +kernel
theorem dX4_point_32 : decode cX4_point 32 = .ok (.ldc 61, 2) := by decide +kernel
theorem dX4_point_34 : decode cX4_point 34 = .ok (.invokestatic 53, 3) := by decide +kernel
theorem dX4_point_37 : decode cX4_point 37 = .ok (.ifCond .eq 13, 3) := by decide +kernel
theorem dX4_point_40 : decode cX4_point 40 = .ok (.iload_n 3, 1) := by decide +kernel
theorem dX4_point_41 : decode cX4_point 41 = .ok (.iload 4, 2) := by decide +kernel
theorem dX4_point_43 : decode cX4_point 43 = .ok (.if_icmp .gt 7, 3) := by decide +kernel
theorem dX4_point_46 : decode cX4_point 46 = .ok (.iconst 1, 1) := by decide +kernel
theorem dX4_point_47 : decode cX4_point 47 = .ok (.goto 4, 3) := by decide +kernel
theorem dX4_point_50 : decode cX4_point 50 = .ok (.iconst 0, 1) := by decide +kernel
theorem dX4_point_51 : decode cX4_point 51 = .ok (.istore 5, 2) := by decide +kernel
theorem dX4_point_53 : decode cX4_point 53 = .ok (.aload_n 0, 1) := by decide +kernel
theorem dX4_point_54 : decode cX4_point 54 = .ok (.iload 5, 2) := by decide +kernel
theorem dX4_point_56 : decode cX4_point 56 = .ok (.ifCond .ne 7, 3) := by decide +kernel
theorem dX4_point_59 : decode cX4_point 59 = .ok (.iconst 1, 1) := by decide +kernel
theorem dX4_point_60 : decode cX4_point 60 = .ok (.goto 50, 3) := by decide +kernel
theorem dX4_point_63 : decode cX4_point 63 = .ok (.aload_n 0, 1) := by decide +kernel
theorem dX4_point_64 : decode cX4_point 64 = .ok (.getfield 13, 3) := by decide +kernel
theorem dX4_point_67 : decode cX4_point 67 = .ok (.iload_n 1, 1) := by decide +kernel
theorem dX4_point_68 : decode cX4_point 68 = .ok (.iaload, 1) := by decide +kernel
theorem dX4_point_69 : decode cX4_point 69 = .ok (.bipush 6, 2) := by decide +kernel
theorem dX4_point_71 : decode cX4_point 71 = .ok (.if_icmp .eq 34, 3) := by decide +kernel
theorem dX4_point_74 : decode cX4_point 74 = .ok (.aload_n 0, 1) := by decide +kernel
theorem dX4_point_75 : decode cX4_point 75 = .ok (.getfield 13, 3) := by decide +kernel
theorem dX4_point_78 : decode cX4_point 78 = .ok (.iload_n 1, 1) := by decide +kernel
theorem dX4_point_79 : decode cX4_point 79 = .ok (.iaload, 1) := by decide +kernel
theorem dX4_point_80 : decode cX4_point 80 = .ok (.ifCond .le 29, 3) := by decide +kernel
theorem dX4_point_83 : decode cX4_point 83 = .ok (.aload_n 0, 1) := by decide +kernel
theorem dX4_point_84 : decode cX4_point 84 = .ok (.getfield 16, 3) := by decide +kernel
theorem dX4_point_87 : decode cX4_point 87 = .ok (.bipush 6, 2) := by decide +kernel
theorem dX4_point_89 : decode cX4_point 89 = .ok (.iload_n 1, 1) := by decide +kernel
theorem dX4_point_90 : decode cX4_point 90 = .ok (.imul, 1) := by decide +kernel
theorem dX4_point_91 : decode cX4_point 91 = .ok (.aload_n 0, 1) := by decide +kernel
theorem dX4_point_92 : decode cX4_point 92 = .ok (.getfield 13, 3) := by decide +kernel
theorem dX4_point_95 : decode cX4_point 95 = .ok (.iload_n 1, 1) := by decide +kernel
theorem dX4_point_96 : decode cX4_point 96 = .ok (.iaload, 1) := by decide +kernel
theorem dX4_point_97 : decode cX4_point 97 = .ok (.iadd, 1) := by decide +kernel
theorem dX4_point_98 : decode cX4_point 98 = .ok (.iconst 1, 1) := by decide +kernel
theorem dX4_point_99 : decode cX4_point 99 = .ok (.isub, 1) := by decide +kernel
theorem dX4_point_100 : decode cX4_point 100 = .ok (.iaload, 1) := by decide +kernel
theorem dX4_point_101 : decode cX4_point 101 = .ok (.iload_n 2, 1) := by decide +kernel
theorem dX4_point_102 : decode cX4_point 102 = .ok (.if_icmp .lt 7, 3) := by decide +kernel
theorem dX4_point_105 : decode cX4_point 105 = .ok (.iconst 2, 1) := by decide +kernel
theorem dX4_point_106 : decode cX4_point 106 = .ok (.goto 4, 3) := by decide +kernel
theorem dX4_point_109 : decode cX4_point 109 = .ok (.iconst 0, 1) := by decide +kernel
theorem dX4_point_110 : decode cX4_point 110 = .ok (.putfield 46, 3) := by decide +kernel
theorem dX4_point_113 : decode cX4_point 113 = .ok (.aload_n 0, 1) := by decide +kernel
theorem dX4_point_114 : decode cX4_point 114 = .ok (.getfield 46, 3) := by decide +kernel
theorem dX4_point_117 : decode cX4_point 117 = .ok (.ifCond .le 5, 3) := by decide +kernel
theorem dX4_point_120 : decode cX4_point 120 = .ok (.iconst 0, 1) := by decide +kernel
theorem dX4_point_121 : decode cX4_point 121 = .ok (.ireturn, 1) := by decide +kernel
theorem dX4_point_122 : decode cX4_point 122 = .ok (.bipush 6, 2) := by decide +kernel
theorem dX4_point_124 : decode cX4_point 124 = .ok (.iload_n 1, 1) := by decide +kernel
theorem dX4_point_125 : decode cX4_point 125 = .ok (.imul, 1) := by decide +kernel
theorem dX4_point_126 : decode cX4_point 126 = .ok (.aload_n 0, 1) := by decide +kernel
theorem dX4_point_127 : decode cX4_point 127 = .ok (.getfield 13, 3) := by decide +kernel
theorem dX4_point_130 : decode cX4_point 130 = .ok (.iload_n 1, 1) := by decide +kernel
theorem dX4_point_131 : decode cX4_point 131 = .ok (.iaload, 1) := by decide +kernel
theorem dX4_point_132 : decode cX4_point 132 = .ok (.iadd, 1) := by decide +kernel
theorem dX4_point_133 : decode cX4_point 133 = .ok (.istore 6, 2) := by decide +kernel
theorem dX4_point_135 : decode cX4_point 135 = .ok (.aload_n 0, 1) := by decide +kernel
theorem dX4_point_136 : decode cX4_point 136 = .ok (.getfield 16, 3) := by decide +kernel
theorem dX4_point_139 : decode cX4_point 139 = .ok (.iload 6, 2) := by decide +kernel
theorem dX4_point_141 : decode cX4_point 141 = .ok (.iload_n 2, 1) := by decide +kernel
theorem dX4_point_142 : decode cX4_point 142 = .ok (.iastore, 1) := by decide +kernel
theorem dX4_point_143 : decode cX4_point 143 = .ok (.aload_n 0, 1) := by decide +kernel
theorem dX4_point_144 : decode cX4_point 144 = .ok (.getfield 19, 3) := by decide +kernel
theorem dX4_point_147 : decode cX4_point 147 = .ok (.iload 6, 2) := by decide +kernel
theorem dX4_point_149 : decode cX4_point 149 = .ok (.iload_n 3, 1) := by decide +kernel
theorem dX4_point_150 : decode cX4_point 150 = .ok (.iastore, 1) := by decide +kernel
theorem dX4_point_151 : decode cX4_point 151 = .ok (.aload_n 0, 1) := by decide +kernel
theorem dX4_point_152 : decode cX4_point 152 = .ok (.getfield 22, 3) := by decide +kernel
theorem dX4_point_155 : decode cX4_point 155 = .ok (.iload 6, 2) := by decide +kernel
theorem dX4_point_157 : decode cX4_point 157 = .ok (.iload 4, 2) := by decide +kernel
theorem dX4_point_159 : decode cX4_point 159 = .ok (.iastore, 1) := by decide +kernel
theorem dX4_point_160 : decode cX4_point 160 = .ok (.aload_n 0, 1) := by decide +kernel
theorem dX4_point_161 : decode cX4_point 161 = .ok (.getfield 13, 3) := by decide +kernel
theorem dX4_point_164 : decode cX4_point 164 = .ok (.iload_n 1, 1) := by decide +kernel
theorem dX4_point_165 : decode cX4_point 165 = .ok (.dup2, 1) := by decide +kernel
theorem dX4_point_166 : decode cX4_point 166 = .ok (.iaload, 1) := by decide +kernel
theorem dX4_point_167 : decode cX4_point 167 = .ok (.iconst 1, 1) := by decide +kernel
theorem dX4_point_168 : decode cX4_point 168 = .ok (.iadd, 1) := by decide +kernel
theorem dX4_point_169 : decode cX4_point 169 = .ok (.iastore, 1) := by decide +kernel
theorem dX4_point_170 : decode cX4_point 170 = .ok (.aload_n 0, 1) := by decide +kernel
theorem dX4_point_171 : decode cX4_point 171 = .ok (.getfield 13, 3) := by decide +kernel
theorem dX4_point_174 : decode cX4_point 174 = .ok (.iload_n 1, 1) := by decide +kernel
theorem dX4_point_175 : decode cX4_point 175 = .ok (.iaload, 1) := by decide +kernel
theorem dX4_point_176 : decode cX4_point 176 = .ok (.ireturn, 1) := by decide +kernel
theorem dX4_option_0 : decode cX4_option 0 = .ok (.aload_n 0, 1) := by decide +kernel
theorem dX4_option_1 : decode cX4_option 1 = .ok (.aload_n 0, 1) := by decide +kernel
theorem dX4_option_2 : decode cX4_option 2 = .ok (.iload_n 1, 1) := by decide +kernel
theorem dX4_option_3 : decode cX4_option 3 = .ok (.invokevirtual 57, 3) := by decide +kernel
theorem dX4_option_6 : decode cX4_option 6 = .ok (.ifCond .eq 26, 3) := by decide +kernel
theorem dX4_option_9 : decode cX4_option 9 = .ok (.iload_n 2, 1) := by decide +kernel
theorem dX4_option_10 : decode cX4_option 10 = .ok (.bipush 10, 2) := by decide +kernel
theorem dX4_option_12 : decode cX4_option 12 = .ok (.sipush 1000, 3) := by decide +kernel
theorem dX4_option_15 : decode cX4_option 15 = .ok (.invokestatic 53, 3) := by decide +kernel
theorem dX4_option_18 : decode cX4_option 18 = .ok (.ifCond .eq 14, 3) := by decide +kernel
theorem dX4_option_21 : decode cX4_option 21 = .ok (.iload_n 3, 1) := by decide +kernel
theorem dX4_option_22 : decode cX4_option 22 = .ok (.iconst 0, 1) := by decide +kernel
theorem dX4_option_23 : decode cX4_option 23 = .ok (.sipush 10000, 3) := by decide +kernel
theorem dX4_option_26 : decode cX4_option 26 = .ok (.invokestatic 53, 3) := by decide +kernel
theorem dX4_option_29 : decode cX4_option 29 = .ok (.ifCond .ne 7, 3) := by decide +kernel
theorem dX4_option_32 : decode cX4_option 32 = .ok (.iconst 1, 1) := by decide +kernel
theorem dX4_option_33 : decode cX4_option 33 = .ok (.goto 18, 3) := by decide +kernel
theorem dX4_option_36 : decode cX4_option 36 = .ok (.aload_n 0, 1) := by decide +kernel
theorem dX4_option_37 : decode cX4_option 37 = .ok (.getfield 25, 3) := by decide +kernel
theorem dX4_option_40 : decode cX4_option 40 = .ok (.iload_n 1, 1) := by decide +kernel
theorem dX4_option_41 : decode cX4_option 41 = .ok (.iaload, 1) := by decide +kernel
theorem dX4_option_42 : decode cX4_option 42 = .ok (.iconst 4, 1) := by decide +kernel
theorem dX4_option_43 : decode cX4_option 43 = .ok (.if_icmp .ne 7, 3) := by decide +kernel
theorem dX4_option_46 : decode cX4_option 46 = .ok (.iconst 2, 1) := by decide +kernel
theorem dX4_option_47 : decode cX4_option 47 = .ok (.goto 4, 3) := by decide +kernel
theorem dX4_option_50 : decode cX4_option 50 = .ok (.iconst 0, 1) := by decide +kernel
theorem dX4_option_51 : decode cX4_option 51 = .ok (.putfield 46, 3) := by decide +kernel
theorem dX4_option_54 : decode cX4_option 54 = .ok (.aload_n 0, 1) := by decide +kernel
theorem dX4_option_55 : decode cX4_option 55 = .ok (.getfield 46, 3) := by decide +kernel
theorem dX4_option_58 : decode cX4_option 58 = .ok (.ifCond .le 5, 3) := by decide +kernel
theorem dX4_option_61 : decode cX4_option 61 = .ok (.iconst 0, 1) := by decide +kernel
theorem dX4_option_62 : decode cX4_option 62 = .ok (.ireturn, 1) := by decide +kernel
theorem dX4_option_63 : decode cX4_option 63 = .ok (.aload_n 0, 1) := by decide +kernel
theorem dX4_option_64 : decode cX4_option 64 = .ok (.getfield 28, 3) := by decide +kernel
theorem dX4_option_67 : decode cX4_option 67 = .ok (.iconst 4, 1) := by decide +kernel
theorem dX4_option_68 : decode cX4_option 68 = .ok (.iload_n 1, 1) := by decide +kernel
theorem dX4_option_69 : decode cX4_option 69 = .ok (.imul, 1) := by decide +kernel
theorem dX4_option_70 : decode cX4_option 70 = .ok (.aload_n 0, 1) := by decide +kernel
theorem dX4_option_71 : decode cX4_option 71 = .ok (.getfield 25, 3) := by decide +kernel
theorem dX4_option_74 : decode cX4_option 74 = .ok (.iload_n 1, 1) := by decide +kernel
theorem dX4_option_75 : decode cX4_option 75 = .ok (.iaload, 1) := by decide +kernel
theorem dX4_option_76 : decode cX4_option 76 = .ok (.iadd, 1) := by decide +kernel
theorem dX4_option_77 : decode cX4_option 77 = .ok (.iload_n 2, 1) := by decide +kernel
theorem dX4_option_78 : decode cX4_option 78 = .ok (.iastore, 1) := by decide +kernel
theorem dX4_option_79 : decode cX4_option 79 = .ok (.aload_n 0, 1) := by decide +kernel
theorem dX4_option_80 : decode cX4_option 80 = .ok (.getfield 31, 3) := by decide +kernel
theorem dX4_option_83 : decode cX4_option 83 = .ok (.iconst 4, 1) := by decide +kernel
theorem dX4_option_84 : decode cX4_option 84 = .ok (.iload_n 1, 1) := by decide +kernel
theorem dX4_option_85 : decode cX4_option 85 = .ok (.imul, 1) := by decide +kernel
theorem dX4_option_86 : decode cX4_option 86 = .ok (.aload_n 0, 1) := by decide +kernel
theorem dX4_option_87 : decode cX4_option 87 = .ok (.getfield 25, 3) := by decide +kernel
theorem dX4_option_90 : decode cX4_option 90 = .ok (.iload_n 1, 1) := by decide +kernel
theorem dX4_option_91 : decode cX4_option 91 = .ok (.iaload, 1) := by decide +kernel
theorem dX4_option_92 : decode cX4_option 92 = .ok (.iadd, 1) := by decide +kernel
theorem dX4_option_93 : decode cX4_option 93 = .ok (.iload_n 3, 1) := by decide +kernel
theorem dX4_option_94 : decode cX4_option 94 = .ok (.iastore, 1) := by decide +kernel
theorem dX4_option_95 : decode cX4_option 95 = .ok (.aload_n 0, 1) := by decide +kernel
theorem dX4_option_96 : decode cX4_option 96 = .ok (.getfield 25, 3) := by decide +kernel
theorem dX4_option_99 : decode cX4_option 99 = .ok (.iload_n 1, 1) := by decide +kernel
theorem dX4_option_100 : decode cX4_option 100 = .ok (.dup2, 1) := by decide +kernel
theorem dX4_option_101 : decode cX4_option 101 = .ok (.iaload, 1) := by decide +kernel
theorem dX4_option_102 : decode cX4_option 102 = .ok (.iconst 1, 1) := by decide +kernel
theorem dX4_option_103 : decode cX4_option 103 = .ok (.iadd, 1) := by decide +kernel
theorem dX4_option_104 : decode cX4_option 104 = .ok (.iastore, 1) := by decide +kernel
theorem dX4_option_105 : decode cX4_option 105 = .ok (.aload_n 0, 1) := by decide +kernel
theorem dX4_option_106 : decode cX4_option 106 = .ok (.getfield 25, 3) := by decide +kernel
theorem dX4_option_109 : decode cX4_option 109 = .ok (.iload_n 1, 1) := by decide +kernel
theorem dX4_option_110 : decode cX4_option 110 = .ok (.iaload, 1) := by decide +kernel
theorem dX4_option_111 : decode cX4_option 111 = .ok (.iconst 1, 1) := by decide +kernel
theorem dX4_option_112 : decode cX4_option 112 = .ok (.isub, 1) := by decide +kernel
theorem dX4_option_113 : decode cX4_option 113 = .ok (.ireturn, 1) := by decide +kernel
theorem dX4_choose_0 : decode cX4_choose 0 = .ok (.aload_n 0, 1) := by decide +kernel
theorem dX4_choose_1 : decode cX4_choose 1 = .ok (.aload_n 0, 1) := by decide +kernel
theorem dX4_choose_2 : decode cX4_choose 2 = .ok (.iload_n 1, 1) := by decide +kernel
theorem dX4_choose_3 : decode cX4_choose 3 = .ok (.invokevirtual 57, 3) := by decide +kernel
theorem dX4_choose_6 : decode cX4_choose 6 = .ok (.ifCond .eq 23, 3) := by decide +kernel
theorem dX4_choose_9 : decode cX4_choose 9 = .ok (.iload_n 2, 1) := by decide +kernel
theorem dX4_choose_10 : decode cX4_choose 10 = .ok (.iconst 0, 1) := by decide +kernel
theorem dX4_choose_11 : decode cX4_choose 11 = .ok (.aload_n 0, 1) := by decide +kernel
theorem dX4_choose_12 : decode cX4_choose 12 = .ok (.getfield 25, 3) := by decide +kernel
theorem dX4_choose_15 : decode cX4_choose 15 = .ok (.iload_n 1, 1) := by decide +kernel
theorem dX4_choose_16 : decode cX4_choose 16 = .ok (.iaload, 1) := by decide +kernel
theorem dX4_choose_17 : decode cX4_choose 17 = .ok (.iconst 1, 1) := by decide +kernel
theorem dX4_choose_18 : decode cX4_choose 18 = .ok (.isub, 1) := by decide +kernel
theorem dX4_choose_19 : decode cX4_choose 19 = .ok (.invokestatic 53, 3) := by decide +kernel
theorem dX4_choose_22 : decode cX4_choose 22 = .ok (.ifCond .eq 7, 3) := by decide +kernel
theorem dX4_choose_25 : decode cX4_choose 25 = .ok (.iconst 0, 1) := by decide +kernel
theorem dX4_choose_26 : decode cX4_choose 26 = .ok (.goto 4, 3) := by decide +kernel
theorem dX4_choose_29 : decode cX4_choose 29 = .ok (.iconst 1, 1) := by decide +kernel
theorem dX4_choose_30 : decode cX4_choose 30 = .ok (.putfield 46, 3) := by decide +kernel
theorem dX4_choose_33 : decode cX4_choose 33 = .ok (.aload_n 0, 1) := by decide +kernel
theorem dX4_choose_34 : decode cX4_choose 34 = .ok (.getfield 46, 3) := by decide +kernel
theorem dX4_choose_37 : decode cX4_choose 37 = .ok (.ifCond .le 5, 3) := by decide +kernel
theorem dX4_choose_40 : decode cX4_choose 40 = .ok (.iconst 0, 1) := by decide +kernel
theorem dX4_choose_41 : decode cX4_choose 41 = .ok (.ireturn, 1) := by decide +kernel
theorem dX4_choose_42 : decode cX4_choose 42 = .ok (.aload_n 0, 1) := by decide +kernel
theorem dX4_choose_43 : decode cX4_choose 43 = .ok (.getfield 34, 3) := by decide +kernel
theorem dX4_choose_46 : decode cX4_choose 46 = .ok (.iload_n 1, 1) := by decide +kernel
theorem dX4_choose_47 : decode cX4_choose 47 = .ok (.iaload, 1) := by decide +kernel
theorem dX4_choose_48 : decode cX4_choose 48 = .ok (.istore_n 3, 1) := by decide +kernel
theorem dX4_choose_49 : decode cX4_choose 49 = .ok (.aload_n 0, 1) := by decide +kernel
theorem dX4_choose_50 : decode cX4_choose 50 = .ok (.getfield 34, 3) := by decide +kernel
theorem dX4_choose_53 : decode cX4_choose 53 = .ok (.iload_n 1, 1) := by decide +kernel
theorem dX4_choose_54 : decode cX4_choose 54 = .ok (.iload_n 2, 1) := by decide +kernel
theorem dX4_choose_55 : decode cX4_choose 55 = .ok (.iastore, 1) := by decide +kernel
theorem dX4_choose_56 : decode cX4_choose 56 = .ok (.iload_n 3, 1) := by decide +kernel
theorem dX4_choose_57 : decode cX4_choose 57 = .ok (.ireturn, 1) := by decide +kernel
theorem dX4_opensAt_0 : decode cX4_opensAt 0 = .ok (.aload_n 0, 1) := by decide +kernel
theorem dX4_opensAt_1 : decode cX4_opensAt 1 = .ok (.getfield 13, 3) := by decide +kernel
theorem dX4_opensAt_4 : decode cX4_opensAt 4 = .ok (.iload_n 1, 1) := by decide +kernel
theorem dX4_opensAt_5 : decode cX4_opensAt 5 = .ok (.iaload, 1) := by decide +kernel
theorem dX4_opensAt_6 : decode cX4_opensAt 6 = .ok (.ifCond .le 34, 3) := by decide +kernel
theorem dX4_opensAt_9 : decode cX4_opensAt 9 = .ok (.bipush 100, 2) := by decide +kernel
theorem dX4_opensAt_11 : decode cX4_opensAt 11 = .ok (.iload_n 3, 1) := by decide +kernel
theorem dX4_opensAt_12 : decode cX4_opensAt 12 = .ok (.imul, 1) := by decide +kernel
theorem dX4_opensAt_13 : decode cX4_opensAt 13 = .ok (.aload_n 0, 1) := by decide +kernel
theorem dX4_opensAt_14 : decode cX4_opensAt 14 = .ok (.getfield 28, 3) := by decide +kernel
theorem dX4_opensAt_17 : decode cX4_opensAt 17 = .ok (.iconst 4, 1) := by decide +kernel
theorem dX4_opensAt_18 : decode cX4_opensAt 18 = .ok (.iload_n 1, 1) := by decide +kernel
theorem dX4_opensAt_19 : decode cX4_opensAt 19 = .ok (.imul, 1) := by decide +kernel
theorem dX4_opensAt_20 : decode cX4_opensAt 20 = .ok (.iload_n 2, 1) := by decide +kernel
theorem dX4_opensAt_21 : decode cX4_opensAt 21 = .ok (.iadd, 1) := by decide +kernel
theorem dX4_opensAt_22 : decode cX4_opensAt 22 = .ok (.iaload, 1) := by decide +kernel
theorem dX4_opensAt_23 : decode cX4_opensAt 23 = .ok (.aload_n 0, 1) := by decide +kernel
theorem dX4_opensAt_24 : decode cX4_opensAt 24 = .ok (.getfield 16, 3) := by decide +kernel
theorem dX4_opensAt_27 : decode cX4_opensAt 27 = .ok (.bipush 6, 2) := by decide +kernel
theorem dX4_opensAt_29 : decode cX4_opensAt 29 = .ok (.iload_n 1, 1) := by decide +kernel
theorem dX4_opensAt_30 : decode cX4_opensAt 30 = .ok (.imul, 1) := by decide +kernel
theorem dX4_opensAt_31 : decode cX4_opensAt 31 = .ok (.iaload, 1) := by decide +kernel
theorem dX4_opensAt_32 : decode cX4_opensAt 32 = .ok (.imul, 1) := by decide +kernel
theorem dX4_opensAt_33 : decode cX4_opensAt 33 = .ok (.if_icmp .lt 7, 3) := by decide +kernel
theorem dX4_opensAt_36 : decode cX4_opensAt 36 = .ok (.iconst 1, 1) := by decide +kernel
theorem dX4_opensAt_37 : decode cX4_opensAt 37 = .ok (.goto 4, 3) := by decide +kernel
theorem dX4_opensAt_40 : decode cX4_opensAt 40 = .ok (.iconst 0, 1) := by decide +kernel
theorem dX4_opensAt_41 : decode cX4_opensAt 41 = .ok (.ireturn, 1) := by decide +kernel
theorem dX4_reckon_0 : decode cX4_reckon 0 = .ok (.aload_n 0, 1) := by decide +kernel
theorem dX4_reckon_1 : decode cX4_reckon 1 = .ok (.getfield 28, 3) := by decide +kernel
theorem dX4_reckon_4 : decode cX4_reckon 4 = .ok (.iconst 4, 1) := by decide +kernel
theorem dX4_reckon_5 : decode cX4_reckon 5 = .ok (.iload_n 1, 1) := by decide +kernel
theorem dX4_reckon_6 : decode cX4_reckon 6 = .ok (.imul, 1) := by decide +kernel
theorem dX4_reckon_7 : decode cX4_reckon 7 = .ok (.iload_n 2, 1) := by decide +kernel
theorem dX4_reckon_8 : decode cX4_reckon 8 = .ok (.iadd, 1) := by decide +kernel
theorem dX4_reckon_9 : decode cX4_reckon 9 = .ok (.iaload, 1) := by decide +kernel
theorem dX4_reckon_10 : decode cX4_reckon 10 = .ok (.i2l, 1) := by decide +kernel
theorem dX4_reckon_11 : decode cX4_reckon 11 = .ok (.lstore 5, 2) := by decide +kernel
theorem dX4_reckon_13 : decode cX4_reckon 13 = .ok (.ldc2_w 62, 3) := by decide +kernel
theorem dX4_reckon_16 : decode cX4_reckon 16 = .ok (.iload_n 3, 1) := by decide +kernel
theorem dX4_reckon_17 : decode cX4_reckon 17 = .ok (.i2l, 1) := by decide +kernel
theorem dX4_reckon_18 : decode cX4_reckon 18 = .ok (.lmul, 1) := by decide +kernel
theorem dX4_reckon_19 : decode cX4_reckon 19 = .ok (.lstore 7, 2) := by decide +kernel
theorem dX4_reckon_21 : decode cX4_reckon 21 = .ok (.bipush 6, 2) := by decide +kernel
theorem dX4_reckon_23 : decode cX4_reckon 23 = .ok (.iload_n 1, 1) := by decide +kernel
theorem dX4_reckon_24 : decode cX4_reckon 24 = .ok (.imul, 1) := by decide +kernel
theorem dX4_reckon_25 : decode cX4_reckon 25 = .ok (.aload_n 0, 1) := by decide +kernel
theorem dX4_reckon_26 : decode cX4_reckon 26 = .ok (.getfield 13, 3) := by decide +kernel
theorem dX4_reckon_29 : decode cX4_reckon 29 = .ok (.iload_n 1, 1) := by decide +kernel
theorem dX4_reckon_30 : decode cX4_reckon 30 = .ok (.iaload, 1) := by decide +kernel
theorem dX4_reckon_31 : decode cX4_reckon 31 = .ok (.iadd, 1) := by decide +kernel
theorem dX4_reckon_32 : decode cX4_reckon 32 = .ok (.iconst 1, 1) := by decide +kernel
theorem dX4_reckon_33 : decode cX4_reckon 33 = .ok (.isub, 1) := by decide +kernel
theorem dX4_reckon_34 : decode cX4_reckon 34 = .ok (.istore 9, 2) := by decide +kernel
theorem dX4_reckon_36 : decode cX4_reckon 36 = .ok (.lload 7, 2) := by decide +kernel
theorem dX4_reckon_38 : decode cX4_reckon 38 = .ok (.lload 5, 2) := by decide +kernel
theorem dX4_reckon_40 : decode cX4_reckon 40 = .ok (.aload_n 0, 1) := by decide +kernel
theorem dX4_reckon_41 : decode cX4_reckon 41 = .ok (.getfield 16, 3) := by decide +kernel
theorem dX4_reckon_44 : decode cX4_reckon 44 = .ok (.iload 9, 2) := by decide +kernel
theorem dX4_reckon_46 : decode cX4_reckon 46 = .ok (.iaload, 1) := by decide +kernel
theorem dX4_reckon_47 : decode cX4_reckon 47 = .ok (.i2l, 1) := by decide +kernel
theorem dX4_reckon_48 : decode cX4_reckon 48 = .ok (.lmul, 1) := by decide +kernel
theorem dX4_reckon_49 : decode cX4_reckon 49 = .ok (.lcmp, 1) := by decide +kernel
theorem dX4_reckon_50 : decode cX4_reckon 50 = .ok (.ifCond .ge 9, 3) := by decide +kernel
theorem dX4_reckon_53 : decode cX4_reckon 53 = .ok (.iinc 9 (-1), 3) := by decide +kernel
theorem dX4_reckon_56 : decode cX4_reckon 56 = .ok (.goto (-20), 3) := by decide +kernel
theorem dX4_reckon_59 : decode cX4_reckon 59 = .ok (.iload 4, 2) := by decide +kernel
theorem dX4_reckon_61 : decode cX4_reckon 61 = .ok (.ifCond .eq 14, 3) := by decide +kernel
theorem dX4_reckon_64 : decode cX4_reckon 64 = .ok (.aload_n 0, 1) := by decide +kernel
theorem dX4_reckon_65 : decode cX4_reckon 65 = .ok (.getfield 22, 3) := by decide +kernel
theorem dX4_reckon_68 : decode cX4_reckon 68 = .ok (.iload 9, 2) := by decide +kernel
theorem dX4_reckon_70 : decode cX4_reckon 70 = .ok (.iaload, 1) := by decide +kernel
theorem dX4_reckon_71 : decode cX4_reckon 71 = .ok (.i2l, 1) := by decide +kernel
theorem dX4_reckon_72 : decode cX4_reckon 72 = .ok (.goto 11, 3) := by decide +kernel
theorem dX4_reckon_75 : decode cX4_reckon 75 = .ok (.aload_n 0, 1) := by decide +kernel
theorem dX4_reckon_76 : decode cX4_reckon 76 = .ok (.getfield 19, 3) := by decide +kernel
theorem dX4_reckon_79 : decode cX4_reckon 79 = .ok (.iload 9, 2) := by decide +kernel
theorem dX4_reckon_81 : decode cX4_reckon 81 = .ok (.iaload, 1) := by decide +kernel
theorem dX4_reckon_82 : decode cX4_reckon 82 = .ok (.i2l, 1) := by decide +kernel
theorem dX4_reckon_83 : decode cX4_reckon 83 = .ok (.lstore 10, 2) := by decide +kernel
theorem dX4_reckon_85 : decode cX4_reckon 85 = .ok (.aload_n 0, 1) := by decide +kernel
theorem dX4_reckon_86 : decode cX4_reckon 86 = .ok (.lload 10, 2) := by decide +kernel
theorem dX4_reckon_88 : decode cX4_reckon 88 = .ok (.putfield 64, 3) := by decide +kernel
theorem dX4_reckon_91 : decode cX4_reckon 91 = .ok (.aload_n 0, 1) := by decide +kernel
theorem dX4_reckon_92 : decode cX4_reckon 92 = .ok (.lconst 1, 1) := by decide +kernel
theorem dX4_reckon_93 : decode cX4_reckon 93 = .ok (.putfield 68, 3) := by decide +kernel
theorem dX4_reckon_96 : decode cX4_reckon 96 = .ok (.iload 9, 2) := by decide +kernel
theorem dX4_reckon_98 : decode cX4_reckon 98 = .ok (.bipush 6, 2) := by decide +kernel
theorem dX4_reckon_100 : decode cX4_reckon 100 = .ok (.iload_n 1, 1) := by decide +kernel
theorem dX4_reckon_101 : decode cX4_reckon 101 = .ok (.imul, 1) := by decide +kernel
theorem dX4_reckon_102 : decode cX4_reckon 102 = .ok (.aload_n 0, 1) := by decide +kernel
theorem dX4_reckon_103 : decode cX4_reckon 103 = .ok (.getfield 13, 3) := by decide +kernel
theorem dX4_reckon_106 : decode cX4_reckon 106 = .ok (.iload_n 1, 1) := by decide +kernel
theorem dX4_reckon_107 : decode cX4_reckon 107 = .ok (.iaload, 1) := by decide +kernel
theorem dX4_reckon_108 : decode cX4_reckon 108 = .ok (.iadd, 1) := by decide +kernel
theorem dX4_reckon_109 : decode cX4_reckon 109 = .ok (.iconst 1, 1) := by decide +kernel
theorem dX4_reckon_110 : decode cX4_reckon 110 = .ok (.isub, 1) := by decide +kernel
theorem dX4_reckon_111 : decode cX4_reckon 111 = .ok (.if_icmp .ge 90, 3) := by decide +kernel
theorem dX4_reckon_114 : decode cX4_reckon 114 = .ok (.iload 4, 2) := by decide +kernel
theorem dX4_reckon_116 : decode cX4_reckon 116 = .ok (.ifCond .eq 16, 3) := by decide +kernel
theorem dX4_reckon_119 : decode cX4_reckon 119 = .ok (.aload_n 0, 1) := by decide +kernel
theorem dX4_reckon_120 : decode cX4_reckon 120 = .ok (.getfield 22, 3) := by decide +kernel
theorem dX4_reckon_123 : decode cX4_reckon 123 = .ok (.iload 9, 2) := by decide +kernel
theorem dX4_reckon_125 : decode cX4_reckon 125 = .ok (.iconst 1, 1) := by decide +kernel
theorem dX4_reckon_126 : decode cX4_reckon 126 = .ok (.iadd, 1) := by decide +kernel
theorem dX4_reckon_127 : decode cX4_reckon 127 = .ok (.iaload, 1) := by decide +kernel
theorem dX4_reckon_128 : decode cX4_reckon 128 = .ok (.i2l, 1) := by decide +kernel
theorem dX4_reckon_129 : decode cX4_reckon 129 = .ok (.goto 13, 3) := by decide +kernel
theorem dX4_reckon_132 : decode cX4_reckon 132 = .ok (.aload_n 0, 1) := by decide +kernel
theorem dX4_reckon_133 : decode cX4_reckon 133 = .ok (.getfield 19, 3) := by decide +kernel
theorem dX4_reckon_136 : decode cX4_reckon 136 = .ok (.iload 9, 2) := by decide +kernel
theorem dX4_reckon_138 : decode cX4_reckon 138 = .ok (.iconst 1, 1) := by decide +kernel
theorem dX4_reckon_139 : decode cX4_reckon 139 = .ok (.iadd, 1) := by decide +kernel
theorem dX4_reckon_140 : decode cX4_reckon 140 = .ok (.iaload, 1) := by decide +kernel
theorem dX4_reckon_141 : decode cX4_reckon 141 = .ok (.i2l, 1) := by decide +kernel
theorem dX4_reckon_142 : decode cX4_reckon 142 = .ok (.lstore 12, 2) := by decide +kernel
theorem dX4_reckon_144 : decode cX4_reckon 144 = .ok (.aload_n 0, 1) := by decide +kernel
theorem dX4_reckon_145 : decode cX4_reckon 145 = .ok (.lload 5, 2) := by decide +kernel
theorem dX4_reckon_147 : decode cX4_reckon 147 = .ok (.aload_n 0, 1) := by decide +kernel
theorem dX4_reckon_148 : decode cX4_reckon 148 = .ok (.getfield 16, 3) := by decide +kernel
theorem dX4_reckon_151 : decode cX4_reckon 151 = .ok (.iload 9, 2) := by decide +kernel
theorem dX4_reckon_153 : decode cX4_reckon 153 = .ok (.iconst 1, 1) := by decide +kernel
theorem dX4_reckon_154 : decode cX4_reckon 154 = .ok (.iadd, 1) := by decide +kernel
theorem dX4_reckon_155 : decode cX4_reckon 155 = .ok (.iaload, 1) := by decide +kernel
theorem dX4_reckon_156 : decode cX4_reckon 156 = .ok (.aload_n 0, 1) := by decide +kernel
theorem dX4_reckon_157 : decode cX4_reckon 157 = .ok (.getfield 16, 3) := by decide +kernel
theorem dX4_reckon_160 : decode cX4_reckon 160 = .ok (.iload 9, 2) := by decide +kernel
theorem dX4_reckon_162 : decode cX4_reckon 162 = .ok (.iaload, 1) := by decide +kernel
theorem dX4_reckon_163 : decode cX4_reckon 163 = .ok (.isub, 1) := by decide +kernel
theorem dX4_reckon_164 : decode cX4_reckon 164 = .ok (.i2l, 1) := by decide +kernel
theorem dX4_reckon_165 : decode cX4_reckon 165 = .ok (.lmul, 1) := by decide +kernel
theorem dX4_reckon_166 : decode cX4_reckon 166 = .ok (.putfield 68, 3) := by decide +kernel
theorem dX4_reckon_169 : decode cX4_reckon 169 = .ok (.aload_n 0, 1) := by decide +kernel
theorem dX4_reckon_170 : decode cX4_reckon 170 = .ok (.lload 10, 2) := by decide +kernel
theorem dX4_reckon_172 : decode cX4_reckon 172 = .ok (.aload_n 0, 1) := by decide +kernel
theorem dX4_reckon_173 : decode cX4_reckon 173 = .ok (.getfield 68, 3) := by decide +kernel
theorem dX4_reckon_176 : decode cX4_reckon 176 = .ok (.lmul, 1) := by decide +kernel
theorem dX4_reckon_177 : decode cX4_reckon 177 = .ok (.lload 12, 2) := by decide +kernel
theorem dX4_reckon_179 : decode cX4_reckon 179 = .ok (.lload 10, 2) := by decide +kernel
theorem dX4_reckon_181 : decode cX4_reckon 181 = .ok (.lsub, 1) := by decide +kernel
theorem dX4_reckon_182 : decode cX4_reckon 182 = .ok (.lload 7, 2) := by decide +kernel
theorem dX4_reckon_184 : decode cX4_reckon 184 = .ok (.lload 5, 2) := by decide +kernel
theorem dX4_reckon_186 : decode cX4_reckon 186 = .ok (.aload_n 0, 1) := by decide +kernel
theorem dX4_reckon_187 : decode cX4_reckon 187 = .ok (.getfield 16, 3) := by decide +kernel
theorem dX4_reckon_190 : decode cX4_reckon 190 = .ok (.iload 9, 2) := by decide +kernel
theorem dX4_reckon_192 : decode cX4_reckon 192 = .ok (.iaload, 1) := by decide +kernel
theorem dX4_reckon_193 : decode cX4_reckon 193 = .ok (.i2l, 1) := by decide +kernel
theorem dX4_reckon_194 : decode cX4_reckon 194 = .ok (.lmul, 1) := by decide +kernel
theorem dX4_reckon_195 : decode cX4_reckon 195 = .ok (.lsub, 1) := by decide +kernel
theorem dX4_reckon_196 : decode cX4_reckon 196 = .ok (.lmul, 1) := by decide +kernel
theorem dX4_reckon_197 : decode cX4_reckon 197 = .ok (.ladd, 1) := by decide +kernel
theorem dX4_reckon_198 : decode cX4_reckon 198 = .ok (.putfield 64, 3) := by decide +kernel
theorem dX4_reckon_201 : decode cX4_reckon 201 = .ok (.aload_n 0, 1) := by decide +kernel
theorem dX4_reckon_202 : decode cX4_reckon 202 = .ok (.dup, 1) := by decide +kernel
theorem dX4_reckon_203 : decode cX4_reckon 203 = .ok (.getfield 64, 3) := by decide +kernel
theorem dX4_reckon_206 : decode cX4_reckon 206 = .ok (.aload_n 0, 1) := by decide +kernel
theorem dX4_reckon_207 : decode cX4_reckon 207 = .ok (.getfield 68, 3) := by decide +kernel
theorem dX4_reckon_210 : decode cX4_reckon 210 = .ok (.aload_n 0, 1) := by decide +kernel
theorem dX4_reckon_211 : decode cX4_reckon 211 = .ok (.getfield 31, 3) := by decide +kernel
theorem dX4_reckon_214 : decode cX4_reckon 214 = .ok (.iconst 4, 1) := by decide +kernel
theorem dX4_reckon_215 : decode cX4_reckon 215 = .ok (.iload_n 1, 1) := by decide +kernel
theorem dX4_reckon_216 : decode cX4_reckon 216 = .ok (.imul, 1) := by decide +kernel
theorem dX4_reckon_217 : decode cX4_reckon 217 = .ok (.iload_n 2, 1) := by decide +kernel
theorem dX4_reckon_218 : decode cX4_reckon 218 = .ok (.iadd, 1) := by decide +kernel
theorem dX4_reckon_219 : decode cX4_reckon 219 = .ok (.iaload, 1) := by decide +kernel
theorem dX4_reckon_220 : decode cX4_reckon 220 = .ok (.i2l, 1) := by decide +kernel
theorem dX4_reckon_221 : decode cX4_reckon 221 = .ok (.lmul, 1) := by decide +kernel
theorem dX4_reckon_222 : decode cX4_reckon 222 = .ok (.ladd, 1) := by decide +kernel
theorem dX4_reckon_223 : decode cX4_reckon 223 = .ok (.putfield 64, 3) := by decide +kernel
theorem dX4_reckon_226 : decode cX4_reckon 226 = .ok (.return_, 1) := by decide +kernel
theorem dX4_time_0 : decode cX4_time 0 = .ok (.aload_n 0, 1) := by decide +kernel
theorem dX4_time_1 : decode cX4_time 1 = .ok (.aload_n 0, 1) := by decide +kernel
theorem dX4_time_2 : decode cX4_time 2 = .ok (.iload_n 1, 1) := by decide +kernel
theorem dX4_time_3 : decode cX4_time 3 = .ok (.invokevirtual 57, 3) := by decide +kernel
theorem dX4_time_6 : decode cX4_time 6 = .ok (.ifCond .eq 18, 3) := by decide +kernel
theorem dX4_time_9 : decode cX4_time 9 = .ok (.iload_n 2, 1) := by decide +kernel
theorem dX4_time_10 : decode cX4_time 10 = .ok (.iconst 1, 1) := by decide +kernel
theorem dX4_time_11 : decode cX4_time 11 = .ok (.sipush 5000, 3) := by decide +kernel
theorem dX4_time_14 : decode cX4_time 14 = .ok (.invokestatic 53, 3) := by decide +kernel
theorem dX4_time_17 : decode cX4_time 17 = .ok (.ifCond .eq 7, 3) := by decide +kernel
theorem dX4_time_20 : decode cX4_time 20 = .ok (.iconst 0, 1) := by decide +kernel
theorem dX4_time_21 : decode cX4_time 21 = .ok (.goto 4, 3) := by decide +kernel
theorem dX4_time_24 : decode cX4_time 24 = .ok (.iconst 1, 1) := by decide +kernel
theorem dX4_time_25 : decode cX4_time 25 = .ok (.putfield 46, 3) := by decide +kernel
theorem dX4_time_28 : decode cX4_time 28 = .ok (.aload_n 0, 1) := by decide +kernel
theorem dX4_time_29 : decode cX4_time 29 = .ok (.getfield 46, 3) := by decide +kernel
theorem dX4_time_32 : decode cX4_time 32 = .ok (.ifCond .gt 18, 3) := by decide +kernel
theorem dX4_time_35 : decode cX4_time 35 = .ok (.aload_n 0, 1) := by decide +kernel
theorem dX4_time_36 : decode cX4_time 36 = .ok (.iload_n 1, 1) := by decide +kernel
theorem dX4_time_37 : decode cX4_time 37 = .ok (.aload_n 0, 1) := by decide +kernel
theorem dX4_time_38 : decode cX4_time 38 = .ok (.getfield 34, 3) := by decide +kernel
theorem dX4_time_41 : decode cX4_time 41 = .ok (.iload_n 1, 1) := by decide +kernel
theorem dX4_time_42 : decode cX4_time 42 = .ok (.iaload, 1) := by decide +kernel
theorem dX4_time_43 : decode cX4_time 43 = .ok (.iload_n 2, 1) := by decide +kernel
theorem dX4_time_44 : decode cX4_time 44 = .ok (.invokevirtual 71, 3) := by decide +kernel
theorem dX4_time_47 : decode cX4_time 47 = .ok (.ifCond .ne 5, 3) := by decide +kernel
theorem dX4_time_50 : decode cX4_time 50 = .ok (.iconst (-1), 1) := by decide +kernel
theorem dX4_time_51 : decode cX4_time 51 = .ok (.ireturn, 1) := by decide +kernel
theorem dX4_time_52 : decode cX4_time 52 = .ok (.aload_n 0, 1) := by decide +kernel
theorem dX4_time_53 : decode cX4_time 53 = .ok (.iload_n 1, 1) := by decide +kernel
theorem dX4_time_54 : decode cX4_time 54 = .ok (.aload_n 0, 1) := by decide +kernel
theorem dX4_time_55 : decode cX4_time 55 = .ok (.getfield 34, 3) := by decide +kernel
theorem dX4_time_58 : decode cX4_time 58 = .ok (.iload_n 1, 1) := by decide +kernel
theorem dX4_time_59 : decode cX4_time 59 = .ok (.iaload, 1) := by decide +kernel
theorem dX4_time_60 : decode cX4_time 60 = .ok (.iload_n 2, 1) := by decide +kernel
theorem dX4_time_61 : decode cX4_time 61 = .ok (.iload_n 3, 1) := by decide +kernel
theorem dX4_time_62 : decode cX4_time 62 = .ok (.invokevirtual 74, 3) := by decide +kernel
theorem dX4_time_65 : decode cX4_time 65 = .ok (.aload_n 0, 1) := by decide +kernel
theorem dX4_time_66 : decode cX4_time 66 = .ok (.getfield 64, 3) := by decide +kernel
theorem dX4_time_69 : decode cX4_time 69 = .ok (.aload_n 0, 1) := by decide +kernel
theorem dX4_time_70 : decode cX4_time 70 = .ok (.getfield 68, 3) := by decide +kernel
theorem dX4_time_73 : decode cX4_time 73 = .ok (.ldiv, 1) := by decide +kernel
theorem dX4_time_74 : decode cX4_time 74 = .ok (.l2i, 1) := by decide +kernel
theorem dX4_time_75 : decode cX4_time 75 = .ok (.ireturn, 1) := by decide +kernel
theorem dX4_opensFrom_0 : decode cX4_opensFrom 0 = .ok (.aload_n 0, 1) := by decide +kernel
theorem dX4_opensFrom_1 : decode cX4_opensFrom 1 = .ok (.aload_n 0, 1) := by decide +kernel
theorem dX4_opensFrom_2 : decode cX4_opensFrom 2 = .ok (.iload_n 1, 1) := by decide +kernel
theorem dX4_opensFrom_3 : decode cX4_opensFrom 3 = .ok (.invokevirtual 57, 3) := by decide +kernel
theorem dX4_opensFrom_6 : decode cX4_opensFrom 6 = .ok (.ifCond .eq 7, 3) := by decide +kernel
theorem dX4_opensFrom_9 : decode cX4_opensFrom 9 = .ok (.iconst 0, 1) := by decide +kernel
theorem dX4_opensFrom_10 : decode cX4_opensFrom 10 = .ok (.goto 4, 3) := by decide +kernel
theorem dX4_opensFrom_13 : decode cX4_opensFrom 13 = .ok (.iconst 1, 1) := by decide +kernel
theorem dX4_opensFrom_14 : decode cX4_opensFrom 14 = .ok (.putfield 46, 3) := by decide +kernel
theorem dX4_opensFrom_17 : decode cX4_opensFrom 17 = .ok (.iconst 1, 1) := by decide +kernel
theorem dX4_opensFrom_18 : decode cX4_opensFrom 18 = .ok (.istore_n 2, 1) := by decide +kernel
theorem dX4_opensFrom_19 : decode cX4_opensFrom 19 = .ok (.iload_n 2, 1) := by decide +kernel
theorem dX4_opensFrom_20 : decode cX4_opensFrom 20 = .ok (.sipush 5000, 3) := by decide +kernel
theorem dX4_opensFrom_23 : decode cX4_opensFrom 23 = .ok (.if_icmp .gt 33, 3) := by decide +kernel
theorem dX4_opensFrom_26 : decode cX4_opensFrom 26 = .ok (.aload_n 0, 1) := by decide +kernel
theorem dX4_opensFrom_27 : decode cX4_opensFrom 27 = .ok (.getfield 46, 3) := by decide +kernel
theorem dX4_opensFrom_30 : decode cX4_opensFrom 30 = .ok (.ifCond .ne 26, 3) := by decide +kernel
theorem dX4_opensFrom_33 : decode cX4_opensFrom 33 = .ok (.aload_n 0, 1) := by decide +kernel
theorem dX4_opensFrom_34 : decode cX4_opensFrom 34 = .ok (.iload_n 1, 1) := by decide +kernel
theorem dX4_opensFrom_35 : decode cX4_opensFrom 35 = .ok (.aload_n 0, 1) := by decide +kernel
theorem dX4_opensFrom_36 : decode cX4_opensFrom 36 = .ok (.getfield 34, 3) := by decide +kernel
theorem dX4_opensFrom_39 : decode cX4_opensFrom 39 = .ok (.iload_n 1, 1) := by decide +kernel
theorem dX4_opensFrom_40 : decode cX4_opensFrom 40 = .ok (.iaload, 1) := by decide +kernel
theorem dX4_opensFrom_41 : decode cX4_opensFrom 41 = .ok (.iload_n 2, 1) := by decide +kernel
theorem dX4_opensFrom_42 : decode cX4_opensFrom 42 = .ok (.invokevirtual 71, 3) := by decide +kernel
theorem dX4_opensFrom_45 : decode cX4_opensFrom 45 = .ok (.ifCond .eq 5, 3) := by decide +kernel
theorem dX4_opensFrom_48 : decode cX4_opensFrom 48 = .ok (.iload_n 2, 1) := by decide +kernel
theorem dX4_opensFrom_49 : decode cX4_opensFrom 49 = .ok (.ireturn, 1) := by decide +kernel
theorem dX4_opensFrom_50 : decode cX4_opensFrom 50 = .ok (.iinc 2 1, 3) := by decide +kernel
theorem dX4_opensFrom_53 : decode cX4_opensFrom 53 = .ok (.goto (-34), 3) := by decide +kernel
theorem dX4_opensFrom_56 : decode cX4_opensFrom 56 = .ok (.iconst (-1), 1) := by decide +kernel
theorem dX4_opensFrom_57 : decode cX4_opensFrom 57 = .ok (.ireturn, 1) := by decide +kernel
theorem dX4_isGood_0 : decode cX4_isGood 0 = .ok (.aload_n 0, 1) := by decide +kernel
theorem dX4_isGood_1 : decode cX4_isGood 1 = .ok (.iload_n 3, 1) := by decide +kernel
theorem dX4_isGood_2 : decode cX4_isGood 2 = .ok (.iload 4, 2) := by decide +kernel
theorem dX4_isGood_4 : decode cX4_isGood 4 = .ok (.iload 6, 2) := by decide +kernel
theorem dX4_isGood_6 : decode cX4_isGood 6 = .ok (.invokevirtual 71, 3) := by decide +kernel
theorem dX4_isGood_9 : decode cX4_isGood 9 = .ok (.ifCond .ne 5, 3) := by decide +kernel
theorem dX4_isGood_12 : decode cX4_isGood 12 = .ok (.iconst 1, 1) := by decide +kernel
theorem dX4_isGood_13 : decode cX4_isGood 13 = .ok (.ireturn, 1) := by decide +kernel
theorem dX4_isGood_14 : decode cX4_isGood 14 = .ok (.aload_n 0, 1) := by decide +kernel
theorem dX4_isGood_15 : decode cX4_isGood 15 = .ok (.iload_n 1, 1) := by decide +kernel
theorem dX4_isGood_16 : decode cX4_isGood 16 = .ok (.iload_n 2, 1) := by decide +kernel
theorem dX4_isGood_17 : decode cX4_isGood 17 = .ok (.iload 6, 2) := by decide +kernel
theorem dX4_isGood_19 : decode cX4_isGood 19 = .ok (.invokevirtual 71, 3) := by decide +kernel
theorem dX4_isGood_22 : decode cX4_isGood 22 = .ok (.ifCond .ne 5, 3) := by decide +kernel
theorem dX4_isGood_25 : decode cX4_isGood 25 = .ok (.iconst 0, 1) := by decide +kernel
theorem dX4_isGood_26 : decode cX4_isGood 26 = .ok (.ireturn, 1) := by decide +kernel
theorem dX4_isGood_27 : decode cX4_isGood 27 = .ok (.aload_n 0, 1) := by decide +kernel
theorem dX4_isGood_28 : decode cX4_isGood 28 = .ok (.iload_n 1, 1) := by decide +kernel
theorem dX4_isGood_29 : decode cX4_isGood 29 = .ok (.iload_n 2, 1) := by decide +kernel
theorem dX4_isGood_30 : decode cX4_isGood 30 = .ok (.iload 6, 2) := by decide +kernel
theorem dX4_isGood_32 : decode cX4_isGood 32 = .ok (.iconst 1, 1) := by decide +kernel
theorem dX4_isGood_33 : decode cX4_isGood 33 = .ok (.invokevirtual 74, 3) := by decide +kernel
theorem dX4_isGood_36 : decode cX4_isGood 36 = .ok (.aload_n 0, 1) := by decide +kernel
theorem dX4_isGood_37 : decode cX4_isGood 37 = .ok (.getfield 64, 3) := by decide +kernel
theorem dX4_isGood_40 : decode cX4_isGood 40 = .ok (.iload 5, 2) := by decide +kernel
theorem dX4_isGood_42 : decode cX4_isGood 42 = .ok (.i2l, 1) := by decide +kernel
theorem dX4_isGood_43 : decode cX4_isGood 43 = .ok (.aload_n 0, 1) := by decide +kernel
theorem dX4_isGood_44 : decode cX4_isGood 44 = .ok (.getfield 68, 3) := by decide +kernel
theorem dX4_isGood_47 : decode cX4_isGood 47 = .ok (.lmul, 1) := by decide +kernel
theorem dX4_isGood_48 : decode cX4_isGood 48 = .ok (.ladd, 1) := by decide +kernel
theorem dX4_isGood_49 : decode cX4_isGood 49 = .ok (.lstore 7, 2) := by decide +kernel
theorem dX4_isGood_51 : decode cX4_isGood 51 = .ok (.aload_n 0, 1) := by decide +kernel
theorem dX4_isGood_52 : decode cX4_isGood 52 = .ok (.getfield 68, 3) := by decide +kernel
theorem dX4_isGood_55 : decode cX4_isGood 55 = .ok (.lstore 9, 2) := by decide +kernel
theorem dX4_isGood_57 : decode cX4_isGood 57 = .ok (.aload_n 0, 1) := by decide +kernel
theorem dX4_isGood_58 : decode cX4_isGood 58 = .ok (.iload_n 3, 1) := by decide +kernel
theorem dX4_isGood_59 : decode cX4_isGood 59 = .ok (.iload 4, 2) := by decide +kernel
theorem dX4_isGood_61 : decode cX4_isGood 61 = .ok (.iload 6, 2) := by decide +kernel
theorem dX4_isGood_63 : decode cX4_isGood 63 = .ok (.iconst 0, 1) := by decide +kernel
theorem dX4_isGood_64 : decode cX4_isGood 64 = .ok (.invokevirtual 74, 3) := by decide +kernel
theorem dX4_isGood_67 : decode cX4_isGood 67 = .ok (.lload 7, 2) := by decide +kernel
theorem dX4_isGood_69 : decode cX4_isGood 69 = .ok (.aload_n 0, 1) := by decide +kernel
theorem dX4_isGood_70 : decode cX4_isGood 70 = .ok (.getfield 68, 3) := by decide +kernel
theorem dX4_isGood_73 : decode cX4_isGood 73 = .ok (.lmul, 1) := by decide +kernel
theorem dX4_isGood_74 : decode cX4_isGood 74 = .ok (.aload_n 0, 1) := by decide +kernel
theorem dX4_isGood_75 : decode cX4_isGood 75 = .ok (.getfield 64, 3) := by decide +kernel
theorem dX4_isGood_78 : decode cX4_isGood 78 = .ok (.lload 9, 2) := by decide +kernel
theorem dX4_isGood_80 : decode cX4_isGood 80 = .ok (.lmul, 1) := by decide +kernel
theorem dX4_isGood_81 : decode cX4_isGood 81 = .ok (.lcmp, 1) := by decide +kernel
theorem dX4_isGood_82 : decode cX4_isGood 82 = .ok (.ifCond .gt 7, 3) := by decide +kernel
theorem dX4_isGood_85 : decode cX4_isGood 85 = .ok (.iconst 1, 1) := by decide +kernel
theorem dX4_isGood_86 : decode cX4_isGood 86 = .ok (.goto 4, 3) := by decide +kernel
theorem dX4_isGood_89 : decode cX4_isGood 89 = .ok (.iconst 0, 1) := by decide +kernel
theorem dX4_isGood_90 : decode cX4_isGood 90 = .ok (.ireturn, 1) := by decide +kernel
theorem dX4_lookOrder_0 : decode cX4_lookOrder 0 = .ok (.aload_n 0, 1) := by decide +kernel
theorem dX4_lookOrder_1 : decode cX4_lookOrder 1 = .ok (.aload_n 0, 1) := by decide +kernel
theorem dX4_lookOrder_2 : decode cX4_lookOrder 2 = .ok (.iload_n 1, 1) := by decide +kernel
theorem dX4_lookOrder_3 : decode cX4_lookOrder 3 = .ok (.invokevirtual 57, 3) := by decide +kernel
theorem dX4_lookOrder_6 : decode cX4_lookOrder 6 = .ok (.ifCond .eq 31, 3) := by decide +kernel
theorem dX4_lookOrder_9 : decode cX4_lookOrder 9 = .ok (.aload_n 0, 1) := by decide +kernel
theorem dX4_lookOrder_10 : decode cX4_lookOrder 10 = .ok (.iload_n 2, 1) := by decide +kernel
theorem dX4_lookOrder_11 : decode cX4_lookOrder 11 = .ok (.invokevirtual 57, 3) := by decide +kernel
theorem dX4_lookOrder_14 : decode cX4_lookOrder 14 = .ok (.ifCond .eq 23, 3) := by decide +kernel
theorem dX4_lookOrder_17 : decode cX4_lookOrder 17 = .ok (.iload_n 1, 1) := by decide +kernel
theorem dX4_lookOrder_18 : decode cX4_lookOrder 18 = .ok (.iload_n 2, 1) := by decide +kernel
theorem dX4_lookOrder_19 : decode cX4_lookOrder 19 = .ok (.if_icmp .eq 18, 3) := by decide +kernel
theorem dX4_lookOrder_22 : decode cX4_lookOrder 22 = .ok (.iload_n 3, 1) := by decide +kernel
theorem dX4_lookOrder_23 : decode cX4_lookOrder 23 = .ok (.iconst 0, 1) := by decide +kernel
theorem dX4_lookOrder_24 : decode cX4_lookOrder 24 = .ok (.sipush 10000, 3) := by decide +kernel
theorem dX4_lookOrder_27 : decode cX4_lookOrder 27 = .ok (.invokestatic 53, 3) := by decide +kernel
theorem dX4_lookOrder_30 : decode cX4_lookOrder 30 = .ok (.ifCond .eq 7, 3) := by decide +kernel
theorem dX4_lookOrder_33 : decode cX4_lookOrder 33 = .ok (.iconst 0, 1) := by decide +kernel
theorem dX4_lookOrder_34 : decode cX4_lookOrder 34 = .ok (.goto 4, 3) := by decide +kernel
theorem dX4_lookOrder_37 : decode cX4_lookOrder 37 = .ok (.iconst 1, 1) := by decide +kernel
theorem dX4_lookOrder_38 : decode cX4_lookOrder 38 = .ok (.putfield 46, 3) := by decide +kernel
theorem dX4_lookOrder_41 : decode cX4_lookOrder 41 = .ok (.return_, 1) := by decide +kernel
theorem dX4_order_0 : decode cX4_order 0 = .ok (.aload_n 0, 1) := by decide +kernel
theorem dX4_order_1 : decode cX4_order 1 = .ok (.iload_n 1, 1) := by decide +kernel
theorem dX4_order_2 : decode cX4_order 2 = .ok (.iload_n 2, 1) := by decide +kernel
theorem dX4_order_3 : decode cX4_order 3 = .ok (.iload_n 3, 1) := by decide +kernel
theorem dX4_order_4 : decode cX4_order 4 = .ok (.invokevirtual 78, 3) := by decide +kernel
theorem dX4_order_7 : decode cX4_order 7 = .ok (.iconst 1, 1) := by decide +kernel
theorem dX4_order_8 : decode cX4_order 8 = .ok (.istore 4, 2) := by decide +kernel
theorem dX4_order_10 : decode cX4_order 10 = .ok (.iload 4, 2) := by decide +kernel
theorem dX4_order_12 : decode cX4_order 12 = .ok (.sipush 5000, 3) := by decide +kernel
theorem dX4_order_15 : decode cX4_order 15 = .ok (.if_icmp .gt 43, 3) := by decide +kernel
theorem dX4_order_18 : decode cX4_order 18 = .ok (.aload_n 0, 1) := by decide +kernel
theorem dX4_order_19 : decode cX4_order 19 = .ok (.getfield 46, 3) := by decide +kernel
theorem dX4_order_22 : decode cX4_order 22 = .ok (.ifCond .ne 36, 3) := by decide +kernel
theorem dX4_order_25 : decode cX4_order 25 = .ok (.aload_n 0, 1) := by decide +kernel
theorem dX4_order_26 : decode cX4_order 26 = .ok (.iload_n 1, 1) := by decide +kernel
theorem dX4_order_27 : decode cX4_order 27 = .ok (.aload_n 0, 1) := by decide +kernel
theorem dX4_order_28 : decode cX4_order 28 = .ok (.getfield 34, 3) := by decide +kernel
theorem dX4_order_31 : decode cX4_order 31 = .ok (.iload_n 1, 1) := by decide +kernel
theorem dX4_order_32 : decode cX4_order 32 = .ok (.iaload, 1) := by decide +kernel
theorem dX4_order_33 : decode cX4_order 33 = .ok (.iload_n 2, 1) := by decide +kernel
theorem dX4_order_34 : decode cX4_order 34 = .ok (.aload_n 0, 1) := by decide +kernel
theorem dX4_order_35 : decode cX4_order 35 = .ok (.getfield 34, 3) := by decide +kernel
theorem dX4_order_38 : decode cX4_order 38 = .ok (.iload_n 2, 1) := by decide +kernel
theorem dX4_order_39 : decode cX4_order 39 = .ok (.iaload, 1) := by decide +kernel
theorem dX4_order_40 : decode cX4_order 40 = .ok (.iload_n 3, 1) := by decide +kernel
theorem dX4_order_41 : decode cX4_order 41 = .ok (.iload 4, 2) := by decide +kernel
theorem dX4_order_43 : decode cX4_order 43 = .ok (.invokevirtual 82, 3) := by decide +kernel
theorem dX4_order_46 : decode cX4_order 46 = .ok (.ifCond .ne 6, 3) := by decide +kernel
theorem dX4_order_49 : decode cX4_order 49 = .ok (.iload 4, 2) := by decide +kernel
theorem dX4_order_51 : decode cX4_order 51 = .ok (.ireturn, 1) := by decide +kernel
theorem dX4_order_52 : decode cX4_order 52 = .ok (.iinc 4 1, 3) := by decide +kernel
theorem dX4_order_55 : decode cX4_order 55 = .ok (.goto (-45), 3) := by decide +kernel
theorem dX4_order_58 : decode cX4_order 58 = .ok (.iconst (-1), 1) := by decide +kernel
theorem dX4_order_59 : decode cX4_order 59 = .ok (.ireturn, 1) := by decide +kernel
theorem dX4_broken_0 : decode cX4_broken 0 = .ok (.aload_n 0, 1) := by decide +kernel
theorem dX4_broken_1 : decode cX4_broken 1 = .ok (.iload_n 1, 1) := by decide +kernel
theorem dX4_broken_2 : decode cX4_broken 2 = .ok (.iload_n 2, 1) := by decide +kernel
theorem dX4_broken_3 : decode cX4_broken 3 = .ok (.iload_n 3, 1) := by decide +kernel
theorem dX4_broken_4 : decode cX4_broken 4 = .ok (.invokevirtual 78, 3) := by decide +kernel
theorem dX4_broken_7 : decode cX4_broken 7 = .ok (.iconst 0, 1) := by decide +kernel
theorem dX4_broken_8 : decode cX4_broken 8 = .ok (.istore 4, 2) := by decide +kernel
theorem dX4_broken_10 : decode cX4_broken 10 = .ok (.iconst 1, 1) := by decide +kernel
theorem dX4_broken_11 : decode cX4_broken 11 = .ok (.istore 5, 2) := by decide +kernel
theorem dX4_broken_13 : decode cX4_broken 13 = .ok (.iload 5, 2) := by decide +kernel
theorem dX4_broken_15 : decode cX4_broken 15 = .ok (.sipush 5000, 3) := by decide +kernel
theorem dX4_broken_18 : decode cX4_broken 18 = .ok (.if_icmp .gt 50, 3) := by decide +kernel
theorem dX4_broken_21 : decode cX4_broken 21 = .ok (.aload_n 0, 1) := by decide +kernel
theorem dX4_broken_22 : decode cX4_broken 22 = .ok (.getfield 46, 3) := by decide +kernel
theorem dX4_broken_25 : decode cX4_broken 25 = .ok (.ifCond .ne 43, 3) := by decide +kernel
theorem dX4_broken_28 : decode cX4_broken 28 = .ok (.iload 4, 2) := by decide +kernel
theorem dX4_broken_30 : decode cX4_broken 30 = .ok (.aload_n 0, 1) := by decide +kernel
theorem dX4_broken_31 : decode cX4_broken 31 = .ok (.iload_n 1, 1) := by decide +kernel
theorem dX4_broken_32 : decode cX4_broken 32 = .ok (.aload_n 0, 1) := by decide +kernel
theorem dX4_broken_33 : decode cX4_broken 33 = .ok (.getfield 34, 3) := by decide +kernel
theorem dX4_broken_36 : decode cX4_broken 36 = .ok (.iload_n 1, 1) := by decide +kernel
theorem dX4_broken_37 : decode cX4_broken 37 = .ok (.iaload, 1) := by decide +kernel
theorem dX4_broken_38 : decode cX4_broken 38 = .ok (.iload_n 2, 1) := by decide +kernel
theorem dX4_broken_39 : decode cX4_broken 39 = .ok (.aload_n 0, 1) := by decide +kernel
theorem dX4_broken_40 : decode cX4_broken 40 = .ok (.getfield 34, 3) := by decide +kernel
theorem dX4_broken_43 : decode cX4_broken 43 = .ok (.iload_n 2, 1) := by decide +kernel
theorem dX4_broken_44 : decode cX4_broken 44 = .ok (.iaload, 1) := by decide +kernel
theorem dX4_broken_45 : decode cX4_broken 45 = .ok (.iload_n 3, 1) := by decide +kernel
theorem dX4_broken_46 : decode cX4_broken 46 = .ok (.iload 5, 2) := by decide +kernel
theorem dX4_broken_48 : decode cX4_broken 48 = .ok (.invokevirtual 82, 3) := by decide +kernel
theorem dX4_broken_51 : decode cX4_broken 51 = .ok (.ifCond .eq 7, 3) := by decide +kernel
theorem dX4_broken_54 : decode cX4_broken 54 = .ok (.iconst 0, 1) := by decide +kernel
theorem dX4_broken_55 : decode cX4_broken 55 = .ok (.goto 4, 3) := by decide +kernel
theorem dX4_broken_58 : decode cX4_broken 58 = .ok (.iconst 1, 1) := by decide +kernel
theorem dX4_broken_59 : decode cX4_broken 59 = .ok (.iadd, 1) := by decide +kernel
theorem dX4_broken_60 : decode cX4_broken 60 = .ok (.istore 4, 2) := by decide +kernel
theorem dX4_broken_62 : decode cX4_broken 62 = .ok (.iinc 5 1, 3) := by decide +kernel
theorem dX4_broken_65 : decode cX4_broken 65 = .ok (.goto (-52), 3) := by decide +kernel
theorem dX4_broken_68 : decode cX4_broken 68 = .ok (.iload 4, 2) := by decide +kernel
theorem dX4_broken_70 : decode cX4_broken 70 = .ok (.ireturn, 1) := by decide +kernel
theorem dX4_fits_0 : decode cX4_fits 0 = .ok (.aload_n 0, 1) := by decide +kernel
theorem dX4_fits_1 : decode cX4_fits 1 = .ok (.getfield 7, 3) := by decide +kernel
theorem dX4_fits_4 : decode cX4_fits 4 = .ok (.iload_n 1, 1) := by decide +kernel
theorem dX4_fits_5 : decode cX4_fits 5 = .ok (.iaload, 1) := by decide +kernel
theorem dX4_fits_6 : decode cX4_fits 6 = .ok (.iconst (-1), 1) := by decide +kernel
theorem dX4_fits_7 : decode cX4_fits 7 = .ok (.if_icmp .ne 5, 3) := by decide +kernel
theorem dX4_fits_10 : decode cX4_fits 10 = .ok (.iconst 1, 1) := by decide +kernel
theorem dX4_fits_11 : decode cX4_fits 11 = .ok (.ireturn, 1) := by decide +kernel
theorem dX4_fits_12 : decode cX4_fits 12 = .ok (.bipush 16, 2) := by decide +kernel
theorem dX4_fits_14 : decode cX4_fits 14 = .ok (.iload_n 1, 1) := by decide +kernel
theorem dX4_fits_15 : decode cX4_fits 15 = .ok (.imul, 1) := by decide +kernel
theorem dX4_fits_16 : decode cX4_fits 16 = .ok (.iconst 4, 1) := by decide +kernel
theorem dX4_fits_17 : decode cX4_fits 17 = .ok (.aload_n 0, 1) := by decide +kernel
theorem dX4_fits_18 : decode cX4_fits 18 = .ok (.getfield 43, 3) := by decide +kernel
theorem dX4_fits_21 : decode cX4_fits 21 = .ok (.iload_n 1, 1) := by decide +kernel
theorem dX4_fits_22 : decode cX4_fits 22 = .ok (.iaload, 1) := by decide +kernel
theorem dX4_fits_23 : decode cX4_fits 23 = .ok (.imul, 1) := by decide +kernel
theorem dX4_fits_24 : decode cX4_fits 24 = .ok (.iadd, 1) := by decide +kernel
theorem dX4_fits_25 : decode cX4_fits 25 = .ok (.aload_n 0, 1) := by decide +kernel
theorem dX4_fits_26 : decode cX4_fits 26 = .ok (.getfield 43, 3) := by decide +kernel
theorem dX4_fits_29 : decode cX4_fits 29 = .ok (.aload_n 0, 1) := by decide +kernel
theorem dX4_fits_30 : decode cX4_fits 30 = .ok (.getfield 7, 3) := by decide +kernel
theorem dX4_fits_33 : decode cX4_fits 33 = .ok (.iload_n 1, 1) := by decide +kernel
theorem dX4_fits_34 : decode cX4_fits 34 = .ok (.iaload, 1) := by decide +kernel
theorem dX4_fits_35 : decode cX4_fits 35 = .ok (.iaload, 1) := by decide +kernel
theorem dX4_fits_36 : decode cX4_fits 36 = .ok (.iadd, 1) := by decide +kernel
theorem dX4_fits_37 : decode cX4_fits 37 = .ok (.istore_n 3, 1) := by decide +kernel
theorem dX4_fits_38 : decode cX4_fits 38 = .ok (.aload_n 0, 1) := by decide +kernel
theorem dX4_fits_39 : decode cX4_fits 39 = .ok (.getfield 40, 3) := by decide +kernel
theorem dX4_fits_42 : decode cX4_fits 42 = .ok (.iload_n 3, 1) := by decide +kernel
theorem dX4_fits_43 : decode cX4_fits 43 = .ok (.iaload, 1) := by decide +kernel
theorem dX4_fits_44 : decode cX4_fits 44 = .ok (.ifCond .ne 77, 3) := by decide +kernel
theorem dX4_fits_47 : decode cX4_fits 47 = .ok (.iconst 1, 1) := by decide +kernel
theorem dX4_fits_48 : decode cX4_fits 48 = .ok (.istore 4, 2) := by decide +kernel
theorem dX4_fits_50 : decode cX4_fits 50 = .ok (.iconst 1, 1) := by decide +kernel
theorem dX4_fits_51 : decode cX4_fits 51 = .ok (.istore 5, 2) := by decide +kernel
theorem dX4_fits_53 : decode cX4_fits 53 = .ok (.iload 5, 2) := by decide +kernel
theorem dX4_fits_55 : decode cX4_fits 55 = .ok (.sipush 5000, 3) := by decide +kernel
theorem dX4_fits_58 : decode cX4_fits 58 = .ok (.if_icmp .gt 47, 3) := by decide +kernel
theorem dX4_fits_61 : decode cX4_fits 61 = .ok (.iload 4, 2) := by decide +kernel
theorem dX4_fits_63 : decode cX4_fits 63 = .ok (.ifCond .eq 42, 3) := by decide +kernel
theorem dX4_fits_66 : decode cX4_fits 66 = .ok (.aload_n 0, 1) := by decide +kernel
theorem dX4_fits_67 : decode cX4_fits 67 = .ok (.iload_n 1, 1) := by decide +kernel
theorem dX4_fits_68 : decode cX4_fits 68 = .ok (.aload_n 0, 1) := by decide +kernel
theorem dX4_fits_69 : decode cX4_fits 69 = .ok (.getfield 43, 3) := by decide +kernel
theorem dX4_fits_72 : decode cX4_fits 72 = .ok (.iload_n 1, 1) := by decide +kernel
theorem dX4_fits_73 : decode cX4_fits 73 = .ok (.iaload, 1) := by decide +kernel
theorem dX4_fits_74 : decode cX4_fits 74 = .ok (.aload_n 0, 1) := by decide +kernel
theorem dX4_fits_75 : decode cX4_fits 75 = .ok (.getfield 7, 3) := by decide +kernel
theorem dX4_fits_78 : decode cX4_fits 78 = .ok (.iload_n 1, 1) := by decide +kernel
theorem dX4_fits_79 : decode cX4_fits 79 = .ok (.iaload, 1) := by decide +kernel
theorem dX4_fits_80 : decode cX4_fits 80 = .ok (.aload_n 0, 1) := by decide +kernel
theorem dX4_fits_81 : decode cX4_fits 81 = .ok (.getfield 43, 3) := by decide +kernel
theorem dX4_fits_84 : decode cX4_fits 84 = .ok (.aload_n 0, 1) := by decide +kernel
theorem dX4_fits_85 : decode cX4_fits 85 = .ok (.getfield 7, 3) := by decide +kernel
theorem dX4_fits_88 : decode cX4_fits 88 = .ok (.iload_n 1, 1) := by decide +kernel
theorem dX4_fits_89 : decode cX4_fits 89 = .ok (.iaload, 1) := by decide +kernel
theorem dX4_fits_90 : decode cX4_fits 90 = .ok (.iaload, 1) := by decide +kernel
theorem dX4_fits_91 : decode cX4_fits 91 = .ok (.iload_n 2, 1) := by decide +kernel
theorem dX4_fits_92 : decode cX4_fits 92 = .ok (.iload 5, 2) := by decide +kernel
theorem dX4_fits_94 : decode cX4_fits 94 = .ok (.invokevirtual 82, 3) := by decide +kernel
theorem dX4_fits_97 : decode cX4_fits 97 = .ok (.istore 4, 2) := by decide +kernel
theorem dX4_fits_99 : decode cX4_fits 99 = .ok (.iinc 5 1, 3) := by decide +kernel
theorem dX4_fits_102 : decode cX4_fits 102 = .ok (.goto (-49), 3) := by decide +kernel
theorem dX4_fits_105 : decode cX4_fits 105 = .ok (.aload_n 0, 1) := by decide +kernel
theorem dX4_fits_106 : decode cX4_fits 106 = .ok (.getfield 40, 3) := by decide +kernel
theorem dX4_fits_109 : decode cX4_fits 109 = .ok (.iload_n 3, 1) := by decide +kernel
theorem dX4_fits_110 : decode cX4_fits 110 = .ok (.iload 4, 2) := by decide +kernel
theorem dX4_fits_112 : decode cX4_fits 112 = .ok (.ifCond .eq 7, 3) := by decide +kernel
theorem dX4_fits_115 : decode cX4_fits 115 = .ok (.iconst 1, 1) := by decide +kernel
theorem dX4_fits_116 : decode cX4_fits 116 = .ok (.goto 4, 3) := by decide +kernel
theorem dX4_fits_119 : decode cX4_fits 119 = .ok (.iconst 2, 1) := by decide +kernel
theorem dX4_fits_120 : decode cX4_fits 120 = .ok (.iastore, 1) := by decide +kernel
theorem dX4_fits_121 : decode cX4_fits 121 = .ok (.aload_n 0, 1) := by decide +kernel
theorem dX4_fits_122 : decode cX4_fits 122 = .ok (.getfield 40, 3) := by decide +kernel
theorem dX4_fits_125 : decode cX4_fits 125 = .ok (.iload_n 3, 1) := by decide +kernel
theorem dX4_fits_126 : decode cX4_fits 126 = .ok (.iaload, 1) := by decide +kernel
theorem dX4_fits_127 : decode cX4_fits 127 = .ok (.iconst 1, 1) := by decide +kernel
theorem dX4_fits_128 : decode cX4_fits 128 = .ok (.if_icmp .ne 7, 3) := by decide +kernel
theorem dX4_fits_131 : decode cX4_fits 131 = .ok (.iconst 1, 1) := by decide +kernel
theorem dX4_fits_132 : decode cX4_fits 132 = .ok (.goto 4, 3) := by decide +kernel
theorem dX4_fits_135 : decode cX4_fits 135 = .ok (.iconst 0, 1) := by decide +kernel
theorem dX4_fits_136 : decode cX4_fits 136 = .ok (.ireturn, 1) := by decide +kernel
theorem dX4_settle_0 : decode cX4_settle 0 = .ok (.aload_n 0, 1) := by decide +kernel
theorem dX4_settle_1 : decode cX4_settle 1 = .ok (.iload_n 1, 1) := by decide +kernel
theorem dX4_settle_2 : decode cX4_settle 2 = .ok (.iconst 0, 1) := by decide +kernel
theorem dX4_settle_3 : decode cX4_settle 3 = .ok (.sipush 10000, 3) := by decide +kernel
theorem dX4_settle_6 : decode cX4_settle 6 = .ok (.invokestatic 53, 3) := by decide +kernel
theorem dX4_settle_9 : decode cX4_settle 9 = .ok (.ifCond .eq 7, 3) := by decide +kernel
theorem dX4_settle_12 : decode cX4_settle 12 = .ok (.iconst 0, 1) := by decide +kernel
theorem dX4_settle_13 : decode cX4_settle 13 = .ok (.goto 4, 3) := by decide +kernel
theorem dX4_settle_16 : decode cX4_settle 16 = .ok (.iconst 1, 1) := by decide +kernel
theorem dX4_settle_17 : decode cX4_settle 17 = .ok (.putfield 46, 3) := by decide +kernel
theorem dX4_settle_20 : decode cX4_settle 20 = .ok (.aload_n 0, 1) := by decide +kernel
theorem dX4_settle_21 : decode cX4_settle 21 = .ok (.getfield 46, 3) := by decide +kernel
theorem dX4_settle_24 : decode cX4_settle 24 = .ok (.ifCond .le 5, 3) := by decide +kernel
theorem dX4_settle_27 : decode cX4_settle 27 = .ok (.iconst 0, 1) := by decide +kernel
theorem dX4_settle_28 : decode cX4_settle 28 = .ok (.ireturn, 1) := by decide +kernel
theorem dX4_settle_29 : decode cX4_settle 29 = .ok (.iconst 0, 1) := by decide +kernel
theorem dX4_settle_30 : decode cX4_settle 30 = .ok (.istore_n 2, 1) := by decide +kernel
theorem dX4_settle_31 : decode cX4_settle 31 = .ok (.iload_n 2, 1) := by decide +kernel
theorem dX4_settle_32 : decode cX4_settle 32 = .ok (.sipush 128, 3) := by decide +kernel
theorem dX4_settle_35 : decode cX4_settle 35 = .ok (.if_icmp .ge 16, 3) := by decide +kernel
theorem dX4_settle_38 : decode cX4_settle 38 = .ok (.aload_n 0, 1) := by decide +kernel
theorem dX4_settle_39 : decode cX4_settle 39 = .ok (.getfield 40, 3) := by decide +kernel
theorem dX4_settle_42 : decode cX4_settle 42 = .ok (.iload_n 2, 1) := by decide +kernel
theorem dX4_settle_43 : decode cX4_settle 43 = .ok (.iconst 0, 1) := by decide +kernel
theorem dX4_settle_44 : decode cX4_settle 44 = .ok (.iastore, 1) := by decide +kernel
theorem dX4_settle_45 : decode cX4_settle 45 = .ok (.iinc 2 1, 3) := by decide +kernel
theorem dX4_settle_48 : decode cX4_settle 48 = .ok (.goto (-17), 3) := by decide +kernel
theorem dX4_settle_51 : decode cX4_settle 51 = .ok (.iconst 0, 1) := by decide +kernel
theorem dX4_settle_52 : decode cX4_settle 52 = .ok (.istore_n 2, 1) := by decide +kernel
theorem dX4_settle_53 : decode cX4_settle 53 = .ok (.aload_n 0, 1) := by decide +kernel
theorem dX4_settle_54 : decode cX4_settle 54 = .ok (.getfield 43, 3) := by decide +kernel
theorem dX4_settle_57 : decode cX4_settle 57 = .ok (.iconst 0, 1) := by decide +kernel
theorem dX4_settle_58 : decode cX4_settle 58 = .ok (.iconst 0, 1) := by decide +kernel
theorem dX4_settle_59 : decode cX4_settle 59 = .ok (.iastore, 1) := by decide +kernel
theorem dX4_settle_60 : decode cX4_settle 60 = .ok (.iload_n 2, 1) := by decide +kernel
theorem dX4_settle_61 : decode cX4_settle 61 = .ok (.ifCond .lt 89, 3) := by decide +kernel
theorem dX4_settle_64 : decode cX4_settle 64 = .ok (.iload_n 2, 1) := by decide +kernel
theorem dX4_settle_65 : decode cX4_settle 65 = .ok (.aload_n 0, 1) := by decide +kernel
theorem dX4_settle_66 : decode cX4_settle 66 = .ok (.getfield 50, 3) := by decide +kernel
theorem dX4_settle_69 : decode cX4_settle 69 = .ok (.if_icmp .ge 81, 3) := by decide +kernel
theorem dX4_settle_72 : decode cX4_settle 72 = .ok (.aload_n 0, 1) := by decide +kernel
theorem dX4_settle_73 : decode cX4_settle 73 = .ok (.getfield 43, 3) := by decide +kernel
theorem dX4_settle_76 : decode cX4_settle 76 = .ok (.iload_n 2, 1) := by decide +kernel
theorem dX4_settle_77 : decode cX4_settle 77 = .ok (.iaload, 1) := by decide +kernel
theorem dX4_settle_78 : decode cX4_settle 78 = .ok (.aload_n 0, 1) := by decide +kernel
theorem dX4_settle_79 : decode cX4_settle 79 = .ok (.getfield 25, 3) := by decide +kernel
theorem dX4_settle_82 : decode cX4_settle 82 = .ok (.iload_n 2, 1) := by decide +kernel
theorem dX4_settle_83 : decode cX4_settle 83 = .ok (.iaload, 1) := by decide +kernel
theorem dX4_settle_84 : decode cX4_settle 84 = .ok (.if_icmp .ne 23, 3) := by decide +kernel
theorem dX4_settle_87 : decode cX4_settle 87 = .ok (.iinc 2 (-1), 3) := by decide +kernel
theorem dX4_settle_90 : decode cX4_settle 90 = .ok (.iload_n 2, 1) := by decide +kernel
theorem dX4_settle_91 : decode cX4_settle 91 = .ok (.ifCond .lt (-31), 3) := by decide +kernel
theorem dX4_settle_94 : decode cX4_settle 94 = .ok (.aload_n 0, 1) := by decide +kernel
theorem dX4_settle_95 : decode cX4_settle 95 = .ok (.getfield 43, 3) := by decide +kernel
theorem dX4_settle_98 : decode cX4_settle 98 = .ok (.iload_n 2, 1) := by decide +kernel
theorem dX4_settle_99 : decode cX4_settle 99 = .ok (.dup2, 1) := by decide +kernel
theorem dX4_settle_100 : decode cX4_settle 100 = .ok (.iaload, 1) := by decide +kernel
theorem dX4_settle_101 : decode cX4_settle 101 = .ok (.iconst 1, 1) := by decide +kernel
theorem dX4_settle_102 : decode cX4_settle 102 = .ok (.iadd, 1) := by decide +kernel
theorem dX4_settle_103 : decode cX4_settle 103 = .ok (.iastore, 1) := by decide +kernel
theorem dX4_settle_104 : decode cX4_settle 104 = .ok (.goto (-44), 3) := by decide +kernel
theorem dX4_settle_107 : decode cX4_settle 107 = .ok (.aload_n 0, 1) := by decide +kernel
theorem dX4_settle_108 : decode cX4_settle 108 = .ok (.iload_n 2, 1) := by decide +kernel
theorem dX4_settle_109 : decode cX4_settle 109 = .ok (.iload_n 1, 1) := by decide +kernel
theorem dX4_settle_110 : decode cX4_settle 110 = .ok (.invokevirtual 86, 3) := by decide +kernel
theorem dX4_settle_113 : decode cX4_settle 113 = .ok (.ifCond .eq 24, 3) := by decide +kernel
theorem dX4_settle_116 : decode cX4_settle 116 = .ok (.iinc 2 1, 3) := by decide +kernel
theorem dX4_settle_119 : decode cX4_settle 119 = .ok (.iload_n 2, 1) := by decide +kernel
theorem dX4_settle_120 : decode cX4_settle 120 = .ok (.aload_n 0, 1) := by decide +kernel
theorem dX4_settle_121 : decode cX4_settle 121 = .ok (.getfield 50, 3) := by decide +kernel
theorem dX4_settle_124 : decode cX4_settle 124 = .ok (.if_icmp .ge (-64), 3) := by decide +kernel
theorem dX4_settle_127 : decode cX4_settle 127 = .ok (.aload_n 0, 1) := by decide +kernel
theorem dX4_settle_128 : decode cX4_settle 128 = .ok (.getfield 43, 3) := by decide +kernel
theorem dX4_settle_131 : decode cX4_settle 131 = .ok (.iload_n 2, 1) := by decide +kernel
theorem dX4_settle_132 : decode cX4_settle 132 = .ok (.iconst 0, 1) := by decide +kernel
theorem dX4_settle_133 : decode cX4_settle 133 = .ok (.iastore, 1) := by decide +kernel
theorem dX4_settle_134 : decode cX4_settle 134 = .ok (.goto (-74), 3) := by decide +kernel
theorem dX4_settle_137 : decode cX4_settle 137 = .ok (.aload_n 0, 1) := by decide +kernel
theorem dX4_settle_138 : decode cX4_settle 138 = .ok (.getfield 43, 3) := by decide +kernel
theorem dX4_settle_141 : decode cX4_settle 141 = .ok (.iload_n 2, 1) := by decide +kernel
theorem dX4_settle_142 : decode cX4_settle 142 = .ok (.dup2, 1) := by decide +kernel
theorem dX4_settle_143 : decode cX4_settle 143 = .ok (.iaload, 1) := by decide +kernel
theorem dX4_settle_144 : decode cX4_settle 144 = .ok (.iconst 1, 1) := by decide +kernel
theorem dX4_settle_145 : decode cX4_settle 145 = .ok (.iadd, 1) := by decide +kernel
theorem dX4_settle_146 : decode cX4_settle 146 = .ok (.iastore, 1) := by decide +kernel
theorem dX4_settle_147 : decode cX4_settle 147 = .ok (.goto (-87), 3) := by decide +kernel
theorem dX4_settle_150 : decode cX4_settle 150 = .ok (.iconst 0, 1) := by decide +kernel
theorem dX4_settle_151 : decode cX4_settle 151 = .ok (.istore_n 3, 1) := by decide +kernel
theorem dX4_settle_152 : decode cX4_settle 152 = .ok (.iload_n 3, 1) := by decide +kernel
theorem dX4_settle_153 : decode cX4_settle 153 = .ok (.aload_n 0, 1) := by decide +kernel
theorem dX4_settle_154 : decode cX4_settle 154 = .ok (.getfield 50, 3) := by decide +kernel
theorem dX4_settle_157 : decode cX4_settle 157 = .ok (.if_icmp .ge 25, 3) := by decide +kernel
theorem dX4_settle_160 : decode cX4_settle 160 = .ok (.iload_n 2, 1) := by decide +kernel
theorem dX4_settle_161 : decode cX4_settle 161 = .ok (.ifCond .lt 21, 3) := by decide +kernel
theorem dX4_settle_164 : decode cX4_settle 164 = .ok (.aload_n 0, 1) := by decide +kernel
theorem dX4_settle_165 : decode cX4_settle 165 = .ok (.getfield 34, 3) := by decide +kernel
theorem dX4_settle_168 : decode cX4_settle 168 = .ok (.iload_n 3, 1) := by decide +kernel
theorem dX4_settle_169 : decode cX4_settle 169 = .ok (.aload_n 0, 1) := by decide +kernel
theorem dX4_settle_170 : decode cX4_settle 170 = .ok (.getfield 43, 3) := by decide +kernel
theorem dX4_settle_173 : decode cX4_settle 173 = .ok (.iload_n 3, 1) := by decide +kernel
theorem dX4_settle_174 : decode cX4_settle 174 = .ok (.iaload, 1) := by decide +kernel
theorem dX4_settle_175 : decode cX4_settle 175 = .ok (.iastore, 1) := by decide +kernel
theorem dX4_settle_176 : decode cX4_settle 176 = .ok (.iinc 3 1, 3) := by decide +kernel
theorem dX4_settle_179 : decode cX4_settle 179 = .ok (.goto (-27), 3) := by decide +kernel
theorem dX4_settle_182 : decode cX4_settle 182 = .ok (.iload_n 2, 1) := by decide +kernel
theorem dX4_settle_183 : decode cX4_settle 183 = .ok (.ifCond .lt 7, 3) := by decide +kernel
theorem dX4_settle_186 : decode cX4_settle 186 = .ok (.iconst 1, 1) := by decide +kernel
theorem dX4_settle_187 : decode cX4_settle 187 = .ok (.goto 4, 3) := by decide +kernel
theorem dX4_settle_190 : decode cX4_settle 190 = .ok (.iconst 0, 1) := by decide +kernel
theorem dX4_settle_191 : decode cX4_settle 191 = .ok (.ireturn, 1) := by decide +kernel
theorem dX4_chosen_0 : decode cX4_chosen 0 = .ok (.aload_n 0, 1) := by decide +kernel
theorem dX4_chosen_1 : decode cX4_chosen 1 = .ok (.aload_n 0, 1) := by decide +kernel
theorem dX4_chosen_2 : decode cX4_chosen 2 = .ok (.iload_n 1, 1) := by decide +kernel
theorem dX4_chosen_3 : decode cX4_chosen 3 = .ok (.invokevirtual 57, 3) := by decide +kernel
theorem dX4_chosen_6 : decode cX4_chosen 6 = .ok (.ifCond .eq 7, 3) := by decide +kernel
theorem dX4_chosen_9 : decode cX4_chosen 9 = .ok (.iconst 0, 1) := by decide +kernel
theorem dX4_chosen_10 : decode cX4_chosen 10 = .ok (.goto 4, 3) := by decide +kernel
theorem dX4_chosen_13 : decode cX4_chosen 13 = .ok (.iconst 1, 1) := by decide +kernel
theorem dX4_chosen_14 : decode cX4_chosen 14 = .ok (.putfield 46, 3) := by decide +kernel
theorem dX4_chosen_17 : decode cX4_chosen 17 = .ok (.aload_n 0, 1) := by decide +kernel
theorem dX4_chosen_18 : decode cX4_chosen 18 = .ok (.getfield 46, 3) := by decide +kernel
theorem dX4_chosen_21 : decode cX4_chosen 21 = .ok (.ifCond .le 7, 3) := by decide +kernel
theorem dX4_chosen_24 : decode cX4_chosen 24 = .ok (.iconst 0, 1) := by decide +kernel
theorem dX4_chosen_25 : decode cX4_chosen 25 = .ok (.goto 9, 3) := by decide +kernel
theorem dX4_chosen_28 : decode cX4_chosen 28 = .ok (.aload_n 0, 1) := by decide +kernel
theorem dX4_chosen_29 : decode cX4_chosen 29 = .ok (.getfield 34, 3) := by decide +kernel
theorem dX4_chosen_32 : decode cX4_chosen 32 = .ok (.iload_n 1, 1) := by decide +kernel
theorem dX4_chosen_33 : decode cX4_chosen 33 = .ok (.iaload, 1) := by decide +kernel
theorem dX4_chosen_34 : decode cX4_chosen 34 = .ok (.ireturn, 1) := by decide +kernel
theorem dX4_impedance_0 : decode cX4_impedance 0 = .ok (.aload_n 0, 1) := by decide +kernel
theorem dX4_impedance_1 : decode cX4_impedance 1 = .ok (.aload_n 0, 1) := by decide +kernel
theorem dX4_impedance_2 : decode cX4_impedance 2 = .ok (.iload_n 1, 1) := by decide +kernel
theorem dX4_impedance_3 : decode cX4_impedance 3 = .ok (.invokevirtual 57, 3) := by decide +kernel
theorem dX4_impedance_6 : decode cX4_impedance 6 = .ok (.ifCond .eq 18, 3) := by decide +kernel
theorem dX4_impedance_9 : decode cX4_impedance 9 = .ok (.iload_n 2, 1) := by decide +kernel
theorem dX4_impedance_10 : decode cX4_impedance 10 = .ok (.iconst 1, 1) := by decide +kernel
theorem dX4_impedance_11 : decode cX4_impedance 11 = .ok (.sipush 10000, 3) := by decide +kernel
theorem dX4_impedance_14 : decode cX4_impedance 14 = .ok (.invokestatic 53, 3) := by decide +kernel
theorem dX4_impedance_17 : decode cX4_impedance 17 = .ok (.ifCond .eq 7, 3) := by decide +kernel
theorem dX4_impedance_20 : decode cX4_impedance 20 = .ok (.iconst 0, 1) := by decide +kernel
theorem dX4_impedance_21 : decode cX4_impedance 21 = .ok (.goto 4, 3) := by decide +kernel
theorem dX4_impedance_24 : decode cX4_impedance 24 = .ok (.iconst 1, 1) := by decide +kernel
theorem dX4_impedance_25 : decode cX4_impedance 25 = .ok (.putfield 46, 3) := by decide +kernel
theorem dX4_impedance_28 : decode cX4_impedance 28 = .ok (.aload_n 0, 1) := by decide +kernel
theorem dX4_impedance_29 : decode cX4_impedance 29 = .ok (.getfield 46, 3) := by decide +kernel
theorem dX4_impedance_32 : decode cX4_impedance 32 = .ok (.ifCond .le 5, 3) := by decide +kernel
theorem dX4_impedance_35 : decode cX4_impedance 35 = .ok (.iconst 0, 1) := by decide +kernel
theorem dX4_impedance_36 : decode cX4_impedance 36 = .ok (.ireturn, 1) := by decide +kernel
theorem dX4_impedance_37 : decode cX4_impedance 37 = .ok (.aload_n 0, 1) := by decide +kernel
theorem dX4_impedance_38 : decode cX4_impedance 38 = .ok (.getfield 37, 3) := by decide +kernel
theorem dX4_impedance_41 : decode cX4_impedance 41 = .ok (.iload_n 1, 1) := by decide +kernel
theorem dX4_impedance_42 : decode cX4_impedance 42 = .ok (.iaload, 1) := by decide +kernel
theorem dX4_impedance_43 : decode cX4_impedance 43 = .ok (.istore_n 3, 1) := by decide +kernel
theorem dX4_impedance_44 : decode cX4_impedance 44 = .ok (.aload_n 0, 1) := by decide +kernel
theorem dX4_impedance_45 : decode cX4_impedance 45 = .ok (.getfield 37, 3) := by decide +kernel
theorem dX4_impedance_48 : decode cX4_impedance 48 = .ok (.iload_n 1, 1) := by decide +kernel
theorem dX4_impedance_49 : decode cX4_impedance 49 = .ok (.iload_n 2, 1) := by decide +kernel
theorem dX4_impedance_50 : decode cX4_impedance 50 = .ok (.iastore, 1) := by decide +kernel
theorem dX4_impedance_51 : decode cX4_impedance 51 = .ok (.iload_n 3, 1) := by decide +kernel
theorem dX4_impedance_52 : decode cX4_impedance 52 = .ok (.ireturn, 1) := by decide +kernel
theorem dX4_voltage_0 : decode cX4_voltage 0 = .ok (.aload_n 0, 1) := by decide +kernel
theorem dX4_voltage_1 : decode cX4_voltage 1 = .ok (.iload_n 1, 1) := by decide +kernel
theorem dX4_voltage_2 : decode cX4_voltage 2 = .ok (.iconst 0, 1) := by decide +kernel
theorem dX4_voltage_3 : decode cX4_voltage 3 = .ok (.ldc 89, 2) := by decide +kernel
theorem dX4_voltage_5 : decode cX4_voltage 5 = .ok (.invokestatic 53, 3) := by decide +kernel
theorem dX4_voltage_8 : decode cX4_voltage 8 = .ok (.ifCond .eq 7, 3) := by decide +kernel
theorem dX4_voltage_11 : decode cX4_voltage 11 = .ok (.iconst 0, 1) := by decide +kernel
theorem dX4_voltage_12 : decode cX4_voltage 12 = .ok (.goto 4, 3) := by decide +kernel
theorem dX4_voltage_15 : decode cX4_voltage 15 = .ok (.iconst 1, 1) := by decide +kernel
theorem dX4_voltage_16 : decode cX4_voltage 16 = .ok (.putfield 46, 3) := by decide +kernel
theorem dX4_voltage_19 : decode cX4_voltage 19 = .ok (.aload_n 0, 1) := by decide +kernel
theorem dX4_voltage_20 : decode cX4_voltage 20 = .ok (.getfield 46, 3) := by decide +kernel
theorem dX4_voltage_23 : decode cX4_voltage 23 = .ok (.ifCond .le 5, 3) := by decide +kernel
theorem dX4_voltage_26 : decode cX4_voltage 26 = .ok (.iconst 0, 1) := by decide +kernel
theorem dX4_voltage_27 : decode cX4_voltage 27 = .ok (.ireturn, 1) := by decide +kernel
theorem dX4_voltage_28 : decode cX4_voltage 28 = .ok (.aload_n 0, 1) := by decide +kernel
theorem dX4_voltage_29 : decode cX4_voltage 29 = .ok (.getfield 90, 3) := by decide +kernel
theorem dX4_voltage_32 : decode cX4_voltage 32 = .ok (.istore_n 2, 1) := by decide +kernel
theorem dX4_voltage_33 : decode cX4_voltage 33 = .ok (.aload_n 0, 1) := by decide +kernel
theorem dX4_voltage_34 : decode cX4_voltage 34 = .ok (.iload_n 1, 1) := by decide +kernel
theorem dX4_voltage_35 : decode cX4_voltage 35 = .ok (.putfield 90, 3) := by decide +kernel
theorem dX4_voltage_38 : decode cX4_voltage 38 = .ok (.iload_n 2, 1) := by decide +kernel
theorem dX4_voltage_39 : decode cX4_voltage 39 = .ok (.ireturn, 1) := by decide +kernel
theorem dX4_currentAt_0 : decode cX4_currentAt 0 = .ok (.lconst 0, 1) := by decide +kernel
theorem dX4_currentAt_1 : decode cX4_currentAt 1 = .ok (.lstore_n 2, 1) := by decide +kernel
theorem dX4_currentAt_2 : decode cX4_currentAt 2 = .ok (.iload_n 1, 1) := by decide +kernel
theorem dX4_currentAt_3 : decode cX4_currentAt 3 = .ok (.istore 4, 2) := by decide +kernel
theorem dX4_currentAt_5 : decode cX4_currentAt 5 = .ok (.iload 4, 2) := by decide +kernel
theorem dX4_currentAt_7 : decode cX4_currentAt 7 = .ok (.iconst (-1), 1) := by decide +kernel
theorem dX4_currentAt_8 : decode cX4_currentAt 8 = .ok (.if_icmp .eq 26, 3) := by decide +kernel
theorem dX4_currentAt_11 : decode cX4_currentAt 11 = .ok (.lload_n 2, 1) := by decide +kernel
theorem dX4_currentAt_12 : decode cX4_currentAt 12 = .ok (.aload_n 0, 1) := by decide +kernel
theorem dX4_currentAt_13 : decode cX4_currentAt 13 = .ok (.getfield 37, 3) := by decide +kernel
theorem dX4_currentAt_16 : decode cX4_currentAt 16 = .ok (.iload 4, 2) := by decide +kernel
theorem dX4_currentAt_18 : decode cX4_currentAt 18 = .ok (.iaload, 1) := by decide +kernel
theorem dX4_currentAt_19 : decode cX4_currentAt 19 = .ok (.i2l, 1) := by decide +kernel
theorem dX4_currentAt_20 : decode cX4_currentAt 20 = .ok (.ladd, 1) := by decide +kernel
theorem dX4_currentAt_21 : decode cX4_currentAt 21 = .ok (.lstore_n 2, 1) := by decide +kernel
theorem dX4_currentAt_22 : decode cX4_currentAt 22 = .ok (.aload_n 0, 1) := by decide +kernel
theorem dX4_currentAt_23 : decode cX4_currentAt 23 = .ok (.getfield 7, 3) := by decide +kernel
theorem dX4_currentAt_26 : decode cX4_currentAt 26 = .ok (.iload 4, 2) := by decide +kernel
theorem dX4_currentAt_28 : decode cX4_currentAt 28 = .ok (.iaload, 1) := by decide +kernel
theorem dX4_currentAt_29 : decode cX4_currentAt 29 = .ok (.istore 4, 2) := by decide +kernel
theorem dX4_currentAt_31 : decode cX4_currentAt 31 = .ok (.goto (-26), 3) := by decide +kernel
theorem dX4_currentAt_34 : decode cX4_currentAt 34 = .ok (.ldc2_w 93, 3) := by decide +kernel
theorem dX4_currentAt_37 : decode cX4_currentAt 37 = .ok (.aload_n 0, 1) := by decide +kernel
theorem dX4_currentAt_38 : decode cX4_currentAt 38 = .ok (.getfield 90, 3) := by decide +kernel
theorem dX4_currentAt_41 : decode cX4_currentAt 41 = .ok (.i2l, 1) := by decide +kernel
theorem dX4_currentAt_42 : decode cX4_currentAt 42 = .ok (.lmul, 1) := by decide +kernel
theorem dX4_currentAt_43 : decode cX4_currentAt 43 = .ok (.lload_n 2, 1) := by decide +kernel
theorem dX4_currentAt_44 : decode cX4_currentAt 44 = .ok (.ldiv, 1) := by decide +kernel
theorem dX4_currentAt_45 : decode cX4_currentAt 45 = .ok (.lstore 4, 2) := by decide +kernel
theorem dX4_currentAt_47 : decode cX4_currentAt 47 = .ok (.lload 4, 2) := by decide +kernel
theorem dX4_currentAt_49 : decode cX4_currentAt 49 = .ok (.ldc2_w 95, 3) := by decide +kernel
theorem dX4_currentAt_52 : decode cX4_currentAt 52 = .ok (.lcmp, 1) := by decide +kernel
theorem dX4_currentAt_53 : decode cX4_currentAt 53 = .ok (.ifCond .le 9, 3) := by decide +kernel
theorem dX4_currentAt_56 : decode cX4_currentAt 56 = .ok (.sipush 5000, 3) := by decide +kernel
theorem dX4_currentAt_59 : decode cX4_currentAt 59 = .ok (.goto 6, 3) := by decide +kernel
theorem dX4_currentAt_62 : decode cX4_currentAt 62 = .ok (.lload 4, 2) := by decide +kernel
theorem dX4_currentAt_64 : decode cX4_currentAt 64 = .ok (.l2i, 1) := by decide +kernel
theorem dX4_currentAt_65 : decode cX4_currentAt 65 = .ok (.ireturn, 1) := by decide +kernel
theorem dX4_shortAt_0 : decode cX4_shortAt 0 = .ok (.aload_n 0, 1) := by decide +kernel
theorem dX4_shortAt_1 : decode cX4_shortAt 1 = .ok (.aload_n 0, 1) := by decide +kernel
theorem dX4_shortAt_2 : decode cX4_shortAt 2 = .ok (.iload_n 1, 1) := by decide +kernel
theorem dX4_shortAt_3 : decode cX4_shortAt 3 = .ok (.invokevirtual 57, 3) := by decide +kernel
theorem dX4_shortAt_6 : decode cX4_shortAt 6 = .ok (.ifCond .eq 7, 3) := by decide +kernel
theorem dX4_shortAt_9 : decode cX4_shortAt 9 = .ok (.iconst 0, 1) := by decide +kernel
theorem dX4_shortAt_10 : decode cX4_shortAt 10 = .ok (.goto 4, 3) := by decide +kernel
theorem dX4_shortAt_13 : decode cX4_shortAt 13 = .ok (.iconst 1, 1) := by decide +kernel
theorem dX4_shortAt_14 : decode cX4_shortAt 14 = .ok (.putfield 46, 3) := by decide +kernel
theorem dX4_shortAt_17 : decode cX4_shortAt 17 = .ok (.aload_n 0, 1) := by decide +kernel
theorem dX4_shortAt_18 : decode cX4_shortAt 18 = .ok (.getfield 46, 3) := by decide +kernel
theorem dX4_shortAt_21 : decode cX4_shortAt 21 = .ok (.ifCond .le 7, 3) := by decide +kernel
theorem dX4_shortAt_24 : decode cX4_shortAt 24 = .ok (.iconst 0, 1) := by decide +kernel
theorem dX4_shortAt_25 : decode cX4_shortAt 25 = .ok (.goto 8, 3) := by decide +kernel
theorem dX4_shortAt_28 : decode cX4_shortAt 28 = .ok (.aload_n 0, 1) := by decide +kernel
theorem dX4_shortAt_29 : decode cX4_shortAt 29 = .ok (.iload_n 1, 1) := by decide +kernel
theorem dX4_shortAt_30 : decode cX4_shortAt 30 = .ok (.invokevirtual 97, 3) := by decide +kernel
theorem dX4_shortAt_33 : decode cX4_shortAt 33 = .ok (.ireturn, 1) := by decide +kernel
theorem dX4_isFirst_0 : decode cX4_isFirst 0 = .ok (.iconst 1, 1) := by decide +kernel
theorem dX4_isFirst_1 : decode cX4_isFirst 1 = .ok (.istore 4, 2) := by decide +kernel
theorem dX4_isFirst_3 : decode cX4_isFirst 3 = .ok (.iload_n 2, 1) := by decide +kernel
theorem dX4_isFirst_4 : decode cX4_isFirst 4 = .ok (.istore 5, 2) := by decide +kernel
theorem dX4_isFirst_6 : decode cX4_isFirst 6 = .ok (.iload 5, 2) := by decide +kernel
theorem dX4_isFirst_8 : decode cX4_isFirst 8 = .ok (.iconst (-1), 1) := by decide +kernel
theorem dX4_isFirst_9 : decode cX4_isFirst 9 = .ok (.if_icmp .eq 102, 3) := by decide +kernel
theorem dX4_isFirst_12 : decode cX4_isFirst 12 = .ok (.iload 4, 2) := by decide +kernel
theorem dX4_isFirst_14 : decode cX4_isFirst 14 = .ok (.ifCond .eq 97, 3) := by decide +kernel
theorem dX4_isFirst_17 : decode cX4_isFirst 17 = .ok (.aload_n 0, 1) := by decide +kernel
theorem dX4_isFirst_18 : decode cX4_isFirst 18 = .ok (.iload 5, 2) := by decide +kernel
theorem dX4_isFirst_20 : decode cX4_isFirst 20 = .ok (.aload_n 0, 1) := by decide +kernel
theorem dX4_isFirst_21 : decode cX4_isFirst 21 = .ok (.getfield 34, 3) := by decide +kernel
theorem dX4_isFirst_24 : decode cX4_isFirst 24 = .ok (.iload 5, 2) := by decide +kernel
theorem dX4_isFirst_26 : decode cX4_isFirst 26 = .ok (.iaload, 1) := by decide +kernel
theorem dX4_isFirst_27 : decode cX4_isFirst 27 = .ok (.iload_n 3, 1) := by decide +kernel
theorem dX4_isFirst_28 : decode cX4_isFirst 28 = .ok (.invokevirtual 71, 3) := by decide +kernel
theorem dX4_isFirst_31 : decode cX4_isFirst 31 = .ok (.ifCond .eq 68, 3) := by decide +kernel
theorem dX4_isFirst_34 : decode cX4_isFirst 34 = .ok (.aload_n 0, 1) := by decide +kernel
theorem dX4_isFirst_35 : decode cX4_isFirst 35 = .ok (.iload 5, 2) := by decide +kernel
theorem dX4_isFirst_37 : decode cX4_isFirst 37 = .ok (.aload_n 0, 1) := by decide +kernel
theorem dX4_isFirst_38 : decode cX4_isFirst 38 = .ok (.getfield 34, 3) := by decide +kernel
theorem dX4_isFirst_41 : decode cX4_isFirst 41 = .ok (.iload 5, 2) := by decide +kernel
theorem dX4_isFirst_43 : decode cX4_isFirst 43 = .ok (.iaload, 1) := by decide +kernel
theorem dX4_isFirst_44 : decode cX4_isFirst 44 = .ok (.iload_n 3, 1) := by decide +kernel
theorem dX4_isFirst_45 : decode cX4_isFirst 45 = .ok (.iconst 1, 1) := by decide +kernel
theorem dX4_isFirst_46 : decode cX4_isFirst 46 = .ok (.invokevirtual 74, 3) := by decide +kernel
theorem dX4_isFirst_49 : decode cX4_isFirst 49 = .ok (.aload_n 0, 1) := by decide +kernel
theorem dX4_isFirst_50 : decode cX4_isFirst 50 = .ok (.getfield 64, 3) := by decide +kernel
theorem dX4_isFirst_53 : decode cX4_isFirst 53 = .ok (.lstore 6, 2) := by decide +kernel
theorem dX4_isFirst_55 : decode cX4_isFirst 55 = .ok (.aload_n 0, 1) := by decide +kernel
theorem dX4_isFirst_56 : decode cX4_isFirst 56 = .ok (.getfield 68, 3) := by decide +kernel
theorem dX4_isFirst_59 : decode cX4_isFirst 59 = .ok (.lstore 8, 2) := by decide +kernel
theorem dX4_isFirst_61 : decode cX4_isFirst 61 = .ok (.aload_n 0, 1) := by decide +kernel
theorem dX4_isFirst_62 : decode cX4_isFirst 62 = .ok (.iload_n 1, 1) := by decide +kernel
theorem dX4_isFirst_63 : decode cX4_isFirst 63 = .ok (.aload_n 0, 1) := by decide +kernel
theorem dX4_isFirst_64 : decode cX4_isFirst 64 = .ok (.getfield 34, 3) := by decide +kernel
theorem dX4_isFirst_67 : decode cX4_isFirst 67 = .ok (.iload_n 1, 1) := by decide +kernel
theorem dX4_isFirst_68 : decode cX4_isFirst 68 = .ok (.iaload, 1) := by decide +kernel
theorem dX4_isFirst_69 : decode cX4_isFirst 69 = .ok (.iload_n 3, 1) := by decide +kernel
theorem dX4_isFirst_70 : decode cX4_isFirst 70 = .ok (.iconst 0, 1) := by decide +kernel
theorem dX4_isFirst_71 : decode cX4_isFirst 71 = .ok (.invokevirtual 74, 3) := by decide +kernel
theorem dX4_isFirst_74 : decode cX4_isFirst 74 = .ok (.aload_n 0, 1) := by decide +kernel
theorem dX4_isFirst_75 : decode cX4_isFirst 75 = .ok (.getfield 64, 3) := by decide +kernel
theorem dX4_isFirst_78 : decode cX4_isFirst 78 = .ok (.lload 8, 2) := by decide +kernel
theorem dX4_isFirst_80 : decode cX4_isFirst 80 = .ok (.lmul, 1) := by decide +kernel
theorem dX4_isFirst_81 : decode cX4_isFirst 81 = .ok (.lload 6, 2) := by decide +kernel
theorem dX4_isFirst_83 : decode cX4_isFirst 83 = .ok (.aload_n 0, 1) := by decide +kernel
theorem dX4_isFirst_84 : decode cX4_isFirst 84 = .ok (.getfield 68, 3) := by decide +kernel
theorem dX4_isFirst_87 : decode cX4_isFirst 87 = .ok (.lmul, 1) := by decide +kernel
theorem dX4_isFirst_88 : decode cX4_isFirst 88 = .ok (.lcmp, 1) := by decide +kernel
theorem dX4_isFirst_89 : decode cX4_isFirst 89 = .ok (.ifCond .gt 7, 3) := by decide +kernel
theorem dX4_isFirst_92 : decode cX4_isFirst 92 = .ok (.iconst 1, 1) := by decide +kernel
theorem dX4_isFirst_93 : decode cX4_isFirst 93 = .ok (.goto 4, 3) := by decide +kernel
theorem dX4_isFirst_96 : decode cX4_isFirst 96 = .ok (.iconst 0, 1) := by decide +kernel
theorem dX4_isFirst_97 : decode cX4_isFirst 97 = .ok (.istore 4, 2) := by decide +kernel
theorem dX4_isFirst_99 : decode cX4_isFirst 99 = .ok (.aload_n 0, 1) := by decide +kernel
theorem dX4_isFirst_100 : decode cX4_isFirst 100 = .ok (.getfield 7, 3) := by decide +kernel
theorem dX4_isFirst_103 : decode cX4_isFirst 103 = .ok (.iload 5, 2) := by decide +kernel
theorem dX4_isFirst_105 : decode cX4_isFirst 105 = .ok (.iaload, 1) := by decide +kernel
theorem dX4_isFirst_106 : decode cX4_isFirst 106 = .ok (.istore 5, 2) := by decide +kernel
theorem dX4_isFirst_108 : decode cX4_isFirst 108 = .ok (.goto (-102), 3) := by decide +kernel
theorem dX4_isFirst_111 : decode cX4_isFirst 111 = .ok (.iload 4, 2) := by decide +kernel
theorem dX4_isFirst_113 : decode cX4_isFirst 113 = .ok (.ireturn, 1) := by decide +kernel
theorem dX4_opens_0 : decode cX4_opens 0 = .ok (.aload_n 0, 1) := by decide +kernel
theorem dX4_opens_1 : decode cX4_opens 1 = .ok (.aload_n 0, 1) := by decide +kernel
theorem dX4_opens_2 : decode cX4_opens 2 = .ok (.iload_n 1, 1) := by decide +kernel
theorem dX4_opens_3 : decode cX4_opens 3 = .ok (.invokevirtual 57, 3) := by decide +kernel
theorem dX4_opens_6 : decode cX4_opens 6 = .ok (.ifCond .eq 11, 3) := by decide +kernel
theorem dX4_opens_9 : decode cX4_opens 9 = .ok (.iload_n 2, 1) := by decide +kernel
theorem dX4_opens_10 : decode cX4_opens 10 = .ok (.ifCond .lt 7, 3) := by decide +kernel
theorem dX4_opens_13 : decode cX4_opens 13 = .ok (.iconst 0, 1) := by decide +kernel
theorem dX4_opens_14 : decode cX4_opens 14 = .ok (.goto 4, 3) := by decide +kernel
theorem dX4_opens_17 : decode cX4_opens 17 = .ok (.iconst 1, 1) := by decide +kernel
theorem dX4_opens_18 : decode cX4_opens 18 = .ok (.putfield 46, 3) := by decide +kernel
theorem dX4_opens_21 : decode cX4_opens 21 = .ok (.aload_n 0, 1) := by decide +kernel
theorem dX4_opens_22 : decode cX4_opens 22 = .ok (.getfield 46, 3) := by decide +kernel
theorem dX4_opens_25 : decode cX4_opens 25 = .ok (.ifCond .le 5, 3) := by decide +kernel
theorem dX4_opens_28 : decode cX4_opens 28 = .ok (.iconst 0, 1) := by decide +kernel
theorem dX4_opens_29 : decode cX4_opens 29 = .ok (.ireturn, 1) := by decide +kernel
theorem dX4_opens_30 : decode cX4_opens 30 = .ok (.aload_n 0, 1) := by decide +kernel
theorem dX4_opens_31 : decode cX4_opens 31 = .ok (.iload_n 1, 1) := by decide +kernel
theorem dX4_opens_32 : decode cX4_opens 32 = .ok (.invokevirtual 97, 3) := by decide +kernel
theorem dX4_opens_35 : decode cX4_opens 35 = .ok (.istore_n 3, 1) := by decide +kernel
theorem dX4_opens_36 : decode cX4_opens 36 = .ok (.iconst 0, 1) := by decide +kernel
theorem dX4_opens_37 : decode cX4_opens 37 = .ok (.istore 4, 2) := by decide +kernel
theorem dX4_opens_39 : decode cX4_opens 39 = .ok (.iload_n 1, 1) := by decide +kernel
theorem dX4_opens_40 : decode cX4_opens 40 = .ok (.istore 5, 2) := by decide +kernel
theorem dX4_opens_42 : decode cX4_opens 42 = .ok (.iload 5, 2) := by decide +kernel
theorem dX4_opens_44 : decode cX4_opens 44 = .ok (.iconst (-1), 1) := by decide +kernel
theorem dX4_opens_45 : decode cX4_opens 45 = .ok (.if_icmp .eq 55, 3) := by decide +kernel
theorem dX4_opens_48 : decode cX4_opens 48 = .ok (.aload_n 0, 1) := by decide +kernel
theorem dX4_opens_49 : decode cX4_opens 49 = .ok (.iload 5, 2) := by decide +kernel
theorem dX4_opens_51 : decode cX4_opens 51 = .ok (.aload_n 0, 1) := by decide +kernel
theorem dX4_opens_52 : decode cX4_opens 52 = .ok (.getfield 34, 3) := by decide +kernel
theorem dX4_opens_55 : decode cX4_opens 55 = .ok (.iload 5, 2) := by decide +kernel
theorem dX4_opens_57 : decode cX4_opens 57 = .ok (.iaload, 1) := by decide +kernel
theorem dX4_opens_58 : decode cX4_opens 58 = .ok (.iload_n 3, 1) := by decide +kernel
theorem dX4_opens_59 : decode cX4_opens 59 = .ok (.invokevirtual 71, 3) := by decide +kernel
theorem dX4_opens_62 : decode cX4_opens 62 = .ok (.ifCond .eq 26, 3) := by decide +kernel
theorem dX4_opens_65 : decode cX4_opens 65 = .ok (.aload_n 0, 1) := by decide +kernel
theorem dX4_opens_66 : decode cX4_opens 66 = .ok (.iload 5, 2) := by decide +kernel
theorem dX4_opens_68 : decode cX4_opens 68 = .ok (.iload_n 1, 1) := by decide +kernel
theorem dX4_opens_69 : decode cX4_opens 69 = .ok (.iload_n 3, 1) := by decide +kernel
theorem dX4_opens_70 : decode cX4_opens 70 = .ok (.invokevirtual 101, 3) := by decide +kernel
theorem dX4_opens_73 : decode cX4_opens 73 = .ok (.ifCond .eq 15, 3) := by decide +kernel
theorem dX4_opens_76 : decode cX4_opens 76 = .ok (.iload 4, 2) := by decide +kernel
theorem dX4_opens_78 : decode cX4_opens 78 = .ok (.iload_n 2, 1) := by decide +kernel
theorem dX4_opens_79 : decode cX4_opens 79 = .ok (.if_icmp .ne 6, 3) := by decide +kernel
theorem dX4_opens_82 : decode cX4_opens 82 = .ok (.iload 5, 2) := by decide +kernel
theorem dX4_opens_84 : decode cX4_opens 84 = .ok (.ireturn, 1) := by decide +kernel
theorem dX4_opens_85 : decode cX4_opens 85 = .ok (.iinc 4 1, 3) := by decide +kernel
theorem dX4_opens_88 : decode cX4_opens 88 = .ok (.aload_n 0, 1) := by decide +kernel
theorem dX4_opens_89 : decode cX4_opens 89 = .ok (.getfield 7, 3) := by decide +kernel
theorem dX4_opens_92 : decode cX4_opens 92 = .ok (.iload 5, 2) := by decide +kernel
theorem dX4_opens_94 : decode cX4_opens 94 = .ok (.iaload, 1) := by decide +kernel
theorem dX4_opens_95 : decode cX4_opens 95 = .ok (.istore 5, 2) := by decide +kernel
theorem dX4_opens_97 : decode cX4_opens 97 = .ok (.goto (-55), 3) := by decide +kernel
theorem dX4_opens_100 : decode cX4_opens 100 = .ok (.iconst (-1), 1) := by decide +kernel
theorem dX4_opens_101 : decode cX4_opens 101 = .ok (.ireturn, 1) := by decide +kernel
end
section
theorem mReck_last {S : jSet} {I : Int} {j : Nat} {mo : Bool} (hq : cPiece S I = (j : Int)) (hl : (sN S : Int) ≤ (j : Int) + 1) : sT S mo j + 1 * sD S = cTime S mo (cPiece S I) (cParts S (cPiece S I)) I ∧ 1 = cParts S (cPiece S I) := by
  have e : cParts S (cPiece S I) = 1 := by rw [hq, cParts, if_pos (Or.inr hl)]
  refine ⟨?_, e.symm⟩
  rw [e, hq, cTime, if_pos hl]
  simp
theorem mReck_mid {S : jSet} {I : Int} {j : Nat} {mo : Bool} (hq : cPiece S I = (j : Int)) (hl : (j : Int) + 1 < (sN S : Int)) :
    sT S mo j * (sS S * (sP S (j + 1) - sP S j)) + (sT S mo (j + 1) - sT S mo j) * (100 * I - sS S * sP S j) + sS S * (sP S (j + 1) - sP S j) * sD S = cTime S mo (cPiece S I) (cParts S (cPiece S I)) I ∧ sS S * (sP S (j + 1) - sP S j) = cParts S (cPiece S I) := by
  have e : cParts S (cPiece S I) = sS S * (sP S (j + 1) - sP S j) := by rw [hq, cParts, if_neg (by omega)]; simp
  refine ⟨?_, e.symm⟩
  rw [e, hq, cTime, if_neg (by omega)]
  simp only [Int.toNat_natCast]
  generalize sS S * (sP S (j + 1) - sP S j) = r
  rw [Int.add_mul, Int.mul_comm r (sD S)]
  omega
theorem mPiece_of {S : jSet} (h : sOK S) {I : Int} {j : Nat} (hj : j < sN S) (h1 : sS S * sP S j ≤ 100 * I) (h2 : ∀ i, j < i → i < sN S → 100 * I < sS S * sP S i) : cPiece S I = (j : Int) := by
  rcases cPc_spec S I (sN S) with ⟨a1, a2⟩ | ⟨k, a1, a2, a3, a4⟩
  · have := a2 j hj
    omega
  · have : k = j := by
      rcases Nat.lt_trichotomy k j with q | q | q
      · have := a4 j q hj; omega
      · exact q
      · have := h2 k q a1; omega
    rw [cPiece, a2, this]
set_option maxRecDepth 20000 in
theorem kw_4 : (.selects RX4 yX4_opensAt yX4_opensAt : Cond) ∈ gAll := g_mem 4 rfl rfl
set_option maxRecDepth 20000 in
theorem kw_5 : (.selects RX4 yX4_reckon yX4_reckon : Cond) ∈ gAll := g_mem 5 rfl rfl
set_option maxRecDepth 20000 in
theorem kw_16 : (.initialized RX4 : Cond) ∈ gAll := g_mem 16 rfl rfl
set_option maxRecDepth 20000 in
theorem kw_418 : (.fieldLink RX4 46 "BreakerOrdersModel" "code" "I" : Cond) ∈ gAll := g_mem 418 rfl rfl
set_option maxRecDepth 20000 in
theorem kw_419 : (.fieldLink RX4 50 "BreakerOrdersModel" "devices" "I" : Cond) ∈ gAll := g_mem 419 rfl rfl
set_option maxRecDepth 20000 in
theorem kw_421 : (.fieldLink RX4 13 "BreakerOrdersModel" "points" "[I" : Cond) ∈ gAll := g_mem 421 rfl rfl
set_option maxRecDepth 20000 in
theorem kw_422 : (.fieldLink RX4 16 "BreakerOrdersModel" "places" "[I" : Cond) ∈ gAll := g_mem 422 rfl rfl
set_option maxRecDepth 20000 in
theorem kw_423 : (.fieldLink RX4 19 "BreakerOrdersModel" "leasts" "[I" : Cond) ∈ gAll := g_mem 423 rfl rfl
set_option maxRecDepth 20000 in
theorem kw_424 : (.fieldLink RX4 22 "BreakerOrdersModel" "mosts" "[I" : Cond) ∈ gAll := g_mem 424 rfl rfl
set_option maxRecDepth 20000 in
theorem kw_426 : (.fieldLink RX4 28 "BreakerOrdersModel" "scales" "[I" : Cond) ∈ gAll := g_mem 426 rfl rfl
set_option maxRecDepth 20000 in
theorem kw_427 : (.fieldLink RX4 31 "BreakerOrdersModel" "delays" "[I" : Cond) ∈ gAll := g_mem 427 rfl rfl
set_option maxRecDepth 20000 in
theorem kw_431 : (.fieldLink RX4 64 "BreakerOrdersModel" "above" "J" : Cond) ∈ gAll := g_mem 431 rfl rfl
set_option maxRecDepth 20000 in
theorem kw_432 : (.fieldLink RX4 68 "BreakerOrdersModel" "below" "J" : Cond) ∈ gAll := g_mem 432 rfl rfl
set_option maxRecDepth 20000 in
theorem kw_482 : (.methodLink RX4 53 yX4_in : Cond) ∈ gAll := g_mem 482 rfl rfl
set_option maxRecDepth 20000 in
theorem kw_483 : (.static yX4_in : Cond) ∈ gAll := g_mem 483 rfl rfl
set_option maxRecDepth 20000 in
theorem kw_502 : (.methodLink RX4 71 yX4_opensAt : Cond) ∈ gAll := g_mem 502 rfl rfl
set_option maxRecDepth 20000 in
theorem kw_504 : (.instanceMethod yX4_opensAt : Cond) ∈ gAll := g_mem 504 rfl rfl
set_option maxRecDepth 20000 in
theorem kw_506 : (.methodLink RX4 74 yX4_reckon : Cond) ∈ gAll := g_mem 506 rfl rfl
set_option maxRecDepth 20000 in
theorem kw_508 : (.instanceMethod yX4_reckon : Cond) ∈ gAll := g_mem 508 rfl rfl
set_option maxRecDepth 20000 in
theorem kw_510 : (.constantLong RX4 62 100 : Cond) ∈ gAll := g_mem 510 rfl rfl
set_option maxHeartbeats 4000000 in
set_option maxRecDepth 100000 in
theorem k_in (l : Launch) (D : va_G) (g : Nat → ClassId) (v lo hi : Int) (hv : -2147483648 ≤ v ∧ v < 2147483648) (hlo : -2147483648 ≤ lo ∧ lo < 2147483648) (hhi : -2147483648 ≤ hi ∧ hi < 2147483648) : Met l yX4_in wsX4_in ({ frames := 0, cells := 0, slots := 0, locals := 0 }) (pu_Pc [.int (jI (v)), .int (jI (lo)), .int (jI (hi))] D vwCl (ty9 g) (fun H => True)) (pu_Q (some (.int (jI (bI (decide (lo ≤ v ∧ v ≤ hi))))))) 0 0 (fun _ => False) := by
  refine Met.ofW (cc := cX4_in) (maxL := 3) (ret := some .boolean) (by decide) rfl ?_
  intro p e s m args below meth c s₁ B hml hv
  obtain ⟨rfl, hPic, hK⟩ := hv
  have hx := B.exec
  have hb := B.bytes
  have hr := B.returns
  have hts := atoms_spec (ws := wsX4_in) B.pre
  have hown : s.vm.findClass RX4 = some m.cls := findClass_of_methodNamed B.named
  have hlocks := B.notSynchronized
  have hl := lv_entry ([.int (jI (v)), .int (jI (lo)), .int (jI (hi))]) (n := 3) (Nat.le_of_ble_eq_true rfl)
  rw [lg_entry_eq]
  generalize (lg_sl ([.int (jI (v)), .int (jI (lo)), .int (jI (hi))]) ++ List.replicate (3 - (lg_sl ([.int (jI (v)), .int (jI (lo)), .int (jI (hi))])).length) Slot.unset).toArray = ls at hl ⊢
  have hl : lv_has ls 3 [(0, .int (jI (v))), (1, .int (jI (lo))), (2, .int (jI (hi)))] := hl
  refine lv_iload_n hx hb dX4_in_0 rfl (lv_at hl 0 rfl) ?_
  refine lv_iload_n hx hb dX4_in_1 rfl (lv_at hl 1 rfl) ?_
  refine jv_icmp_lt (tgt := 14) hx hb dX4_in_2 (by decide) (by omega) (by omega) (fun c2 => ?_) (fun c2 => ?_)
  · refine jv_iconst hx hb dX4_in_14 ?_
    exact pu_zret hx hb hr hlocks dX4_in_15 (by rw [decide_eq_false (by omega)]; rfl)
  · refine lv_iload_n hx hb dX4_in_5 rfl (lv_at hl 0 rfl) ?_
    refine lv_iload_n hx hb dX4_in_6 rfl (lv_at hl 2 rfl) ?_
    refine jv_icmp_gt (tgt := 14) hx hb dX4_in_7 (by decide) (by omega) (by omega) (fun c7 => ?_) (fun c7 => ?_)
    · refine jv_iconst hx hb dX4_in_14 ?_
      exact pu_zret hx hb hr hlocks dX4_in_15 (by rw [decide_eq_false (by omega)]; rfl)
    · refine jv_iconst hx hb dX4_in_10 ?_
      refine lv_goto (tgt := 15) hx hb dX4_in_11 (by decide) ?_
      exact pu_zret hx hb hr hlocks dX4_in_15 (by rw [decide_eq_true (by omega)]; rfl)
set_option maxHeartbeats 4000000 in
set_option maxRecDepth 100000 in
theorem k_isDevice (l : Launch) (D : va_G) (g : Nat → ClassId) (am : Nat → Nat) (cd dv vo ab be : Int) (AA : Nat → Nat → Int) (d : Int) (hd : -2147483648 ≤ d ∧ d < 2147483648) (hdv : 0 ≤ dv ∧ dv ≤ 8) : Met l yX4_isDevice wsX4_isDevice ({ frames := 1, cells := 0, slots := 0, locals := 22 }) (pu_Pc [.ref (am 0), .int (jI (d))] D vwCl (ty9 g) (fun H => mW D g am cd dv vo ab be AA H)) (pu_Q (some (.int (jI (bI (decide (0 ≤ d ∧ d ≤ dv - 1))))))) 0 0 (fun _ => False) := by
  refine Met.ofW (cc := cX4_isDevice) (maxL := 2) (ret := some .boolean) (by decide) rfl ?_
  intro p e s m args below meth c s₁ B hml hv
  obtain ⟨rfl, hPic, hK⟩ := hv
  have hx := B.exec
  have hb := B.bytes
  have hr := B.returns
  have hts := atoms_spec (ws := wsX4_isDevice) B.pre
  have hown : s.vm.findClass RX4 = some m.cls := findClass_of_methodNamed B.named
  have hlocks := B.notSynchronized
  have hm0 := hPic.1
  have hl := lv_entry ([.ref (am 0), .int (jI (d))]) (n := 2) (Nat.le_of_ble_eq_true rfl)
  rw [lg_entry_eq]
  generalize (lg_sl ([.ref (am 0), .int (jI (d))]) ++ List.replicate (2 - (lg_sl ([.ref (am 0), .int (jI (d))])).length) Slot.unset).toArray = ls at hl ⊢
  have hl : lv_has ls 2 [(0, .ref (am 0)), (1, .int (jI (d)))] := hl
  refine lv_iload_n hx hb dX4_isDevice_0 rfl (lv_at hl 1 rfl) ?_
  refine jv_iconst hx hb dX4_isDevice_1 ?_
  refine lv_aload_n hx hb dX4_isDevice_2 rfl (lv_at hl 0 rfl) ?_
  refine va_get (D := D) (ci := 4) (v := .int (jI (dv))) (C := RX4) (T := TX4) (N := 17) hx hb hts (fun w h => List.mem_cons_of_mem _ (uw_X4 w h)) hown hK (j_P1 hm0) 0 rfl rfl 1 (by decide) (hts _ (List.mem_cons_of_mem _ kw_419)) (fun _ h9 => h9) rfl dX4_isDevice_3 ?_
  refine jv_iconst hx hb dX4_isDevice_6 ?_
  refine jv_isub hx hb dX4_isDevice_7 ?_
  refine pu_call1 (va_runS (As := [.int (jI (d)), .int (jI (0)), .int (jI (dv - 1))]) (rest := []) ⟨hx, hb, hml, hown, hts⟩ (k_in l D g d 0 (dv - 1) (by omega) (by omega) (by omega)) (cwS 3 hts (gd_S kw_482 kw_483 kw_16 kcX4_in) rfl rfl rfl (by decide +kernel) ⟨Nat.le_of_ble_eq_true rfl, Nat.le_of_ble_eq_true rfl⟩) (pu_preS trivial hK) rfl rfl hl.1 rfl (lv_room (Nat.le_of_ble_eq_true rfl)) dX4_isDevice_8 ⟨Nat.zero_le _, Nat.zero_le _⟩) ?_
  exact pu_zret hx hb hr hlocks dX4_isDevice_11 (by rfl)
set_option maxHeartbeats 4000000 in
set_option maxRecDepth 100000 in
theorem k_thrown (l : Launch) (D : va_G) (g : Nat → ClassId) (am : Nat → Nat) (cd dv vo ab be : Int) (AA : Nat → Nat → Int) : Met l yX4_thrown wsX4_thrown ({ frames := 0, cells := 0, slots := 0, locals := 0 }) (pu_Pc [.ref (am 0)] D vwCl (ty9 g) (fun H => mW D g am cd dv vo ab be AA H)) (pu_Q (some (.int (jI cd)))) 0 0 (fun _ => False) := by
  refine Met.ofW (cc := cX4_thrown) (maxL := 1) (ret := some .int) (by decide) rfl ?_
  intro p e s m args below meth c s₁ B hml hv
  obtain ⟨rfl, hPic, hK⟩ := hv
  have hx := B.exec
  have hb := B.bytes
  have hr := B.returns
  have hts := atoms_spec (ws := wsX4_thrown) B.pre
  have hown : s.vm.findClass RX4 = some m.cls := findClass_of_methodNamed B.named
  have hlocks := B.notSynchronized
  have hm0 := hPic.1
  have hl := lv_entry ([.ref (am 0)]) (n := 1) (Nat.le_of_ble_eq_true rfl)
  rw [lg_entry_eq]
  generalize (lg_sl ([.ref (am 0)]) ++ List.replicate (1 - (lg_sl ([.ref (am 0)])).length) Slot.unset).toArray = ls at hl ⊢
  have hl : lv_has ls 1 [(0, .ref (am 0))] := hl
  refine lv_aload_n hx hb dX4_thrown_0 rfl (lv_at hl 0 rfl) ?_
  refine va_get (D := D) (ci := 4) (v := .int (jI (cd))) (C := RX4) (T := TX4) (N := 17) hx hb hts (fun w h => List.mem_cons_of_mem _ (uw_X4 w h)) hown hK (j_P1 hm0) 0 rfl rfl 0 (by decide) (hts _ (List.mem_cons_of_mem _ kw_418)) (fun _ h9 => h9) rfl dX4_thrown_1 ?_
  exact pu_iret hx hb hr hlocks dX4_thrown_4 (by rfl)
set_option maxHeartbeats 4000000 in
set_option maxRecDepth 100000 in
theorem k_opensAt (l : Launch) (D : va_G) (g : Nat → ClassId) (am : Nat → Nat) (cd dv vo ab be : Int) (AA : Nat → Nat → Int) (z : bSt) (hz : bOK z) (hR : mR z dv vo AA) (d o : Nat) (I : Int) (hd : d < bN z) (ho : o < bO z d) (hI : 0 ≤ I ∧ I ≤ 5000) : Met l yX4_opensAt wsX4_opensAt ({ frames := 0, cells := 0, slots := 0, locals := 0 }) (pu_Pc [.ref (am 0), .int (jI ((d : Int))), .int (jI ((o : Int))), .int (jI (I))] D vwCl (ty9 g) (fun H => mW D g am cd dv vo ab be AA H)) (pu_Q (some (.int (jI (bI (mOpen (bSet z d o) I)))))) 0 0 (fun _ => False) := by
  refine Met.ofW (cc := cX4_opensAt) (maxL := 4) (ret := some .boolean) (by decide) rfl ?_
  intro p e s m args below meth c s₁ B hml hv
  obtain ⟨rfl, hPic, hK⟩ := hv
  have hx := B.exec
  have hb := B.bytes
  have hr := B.returns
  have hts := atoms_spec (ws := wsX4_opensAt) B.pre
  have hown : s.vm.findClass RX4 = some m.cls := findClass_of_methodNamed B.named
  have hlocks := B.notSynchronized
  have hm0 := hPic.1
  have hm2 : va_at D vwCl (am 2, .inl (g 0, 8, .inl (fun j => jI (AA 2 j)))) s.heap := hPic.2 2 (by omega) (by omega)
  have hm3 : va_at D vwCl (am 3, .inl (g 0, 48, .inl (fun j => jI (AA 3 j)))) s.heap := hPic.2 3 (by omega) (by omega)
  have hm7 : va_at D vwCl (am 7, .inl (g 0, 32, .inl (fun j => jI (AA 7 j)))) s.heap := hPic.2 7 (by omega) (by omega)
  obtain ⟨e1_d, e2_d, e3_d, e6_d, e7_d, e9_d, e10_d⟩ := hR.2.2 d hd
  have f_d := hz.2.2.1 d (by have := hz.1; omega)
  have hN := hz.1
  have ok := f_d.2.2.2.2.2 o ho
  have s7 := e7_d o ho
  have nK : bK z d ≤ 6 := ok.1
  have hl := lv_entry ([.ref (am 0), .int (jI ((d : Int))), .int (jI ((o : Int))), .int (jI (I))]) (n := 4) (Nat.le_of_ble_eq_true rfl)
  rw [lg_entry_eq]
  generalize (lg_sl ([.ref (am 0), .int (jI ((d : Int))), .int (jI ((o : Int))), .int (jI (I))]) ++ List.replicate (4 - (lg_sl ([.ref (am 0), .int (jI ((d : Int))), .int (jI ((o : Int))), .int (jI (I))])).length) Slot.unset).toArray = ls at hl ⊢
  have hl : lv_has ls 4 [(0, .ref (am 0)), (1, .int (jI ((d : Int)))), (2, .int (jI ((o : Int)))), (3, .int (jI (I)))] := hl
  refine lv_aload_n hx hb dX4_opensAt_0 rfl (lv_at hl 0 rfl) ?_
  refine va_get (D := D) (ci := 4) (v := .ref (am 2)) (C := RX4) (T := TX4) (N := 17) hx hb hts (fun w h => List.mem_cons_of_mem _ (uw_X4 w h)) hown hK (j_P1 hm0) 0 rfl rfl 3 (by decide) (hts _ (List.mem_cons_of_mem _ kw_421)) (fun _ h9 => h9) rfl dX4_opensAt_1 ?_
  refine lv_iload_n hx hb dX4_opensAt_4 rfl (lv_at hl 1 rfl) ?_
  refine jv_iald (i := d) hx hb hK hm2 0 rfl (by omega) (by omega) (by decide) dX4_opensAt_5 ?_
  rw [e2_d]
  refine jv_if_le (tgt := 40) hx hb dX4_opensAt_6 (by decide) (by omega) (fun c6 => ?_) (fun c6 => ?_)
  · refine jv_iconst hx hb dX4_opensAt_40 ?_
    exact pu_zret hx hb hr hlocks dX4_opensAt_41 (by show (0 : Int) = bI (decide (0 < bK z d ∧ bS z d o * bP z d 0 ≤ 100 * I)); rw [decide_eq_false (by omega)]; rfl)
  · have s3 : AA 3 (6 * d) = bP z d 0 := (e3_d 0 (by omega)).1
    have f3 : 10 ≤ bS z d o * bP z d 0 ∧ bS z d o * bP z d 0 ≤ 5000000 := sOK_pl ok (i := 0) (show 0 < bK z d by omega)
    refine jv_bipush hx hb dX4_opensAt_9 (by decide) ?_
    refine lv_iload_n hx hb dX4_opensAt_11 rfl (lv_at hl 3 rfl) ?_
    refine jv_imul hx hb dX4_opensAt_12 ?_
    refine lv_aload_n hx hb dX4_opensAt_13 rfl (lv_at hl 0 rfl) ?_
    refine va_get (D := D) (ci := 4) (v := .ref (am 7)) (C := RX4) (T := TX4) (N := 17) hx hb hts (fun w h => List.mem_cons_of_mem _ (uw_X4 w h)) hown hK (j_P1 hm0) 0 rfl rfl 8 (by decide) (hts _ (List.mem_cons_of_mem _ kw_426)) (fun _ h9 => h9) rfl dX4_opensAt_14 ?_
    refine jv_iconst hx hb dX4_opensAt_17 ?_
    refine lv_iload_n hx hb dX4_opensAt_18 rfl (lv_at hl 1 rfl) ?_
    refine jv_imul hx hb dX4_opensAt_19 ?_
    refine lv_iload_n hx hb dX4_opensAt_20 rfl (lv_at hl 2 rfl) ?_
    refine jv_iadd hx hb dX4_opensAt_21 ?_
    refine jv_iald (i := (4 * d + o)) hx hb hK hm7 0 rfl (by omega) (by omega) (by decide) dX4_opensAt_22 ?_
    rw [s7.1]
    refine lv_aload_n hx hb dX4_opensAt_23 rfl (lv_at hl 0 rfl) ?_
    refine va_get (D := D) (ci := 4) (v := .ref (am 3)) (C := RX4) (T := TX4) (N := 17) hx hb hts (fun w h => List.mem_cons_of_mem _ (uw_X4 w h)) hown hK (j_P1 hm0) 0 rfl rfl 4 (by decide) (hts _ (List.mem_cons_of_mem _ kw_422)) (fun _ h9 => h9) rfl dX4_opensAt_24 ?_
    refine jv_bipush hx hb dX4_opensAt_27 (by decide) ?_
    refine lv_iload_n hx hb dX4_opensAt_29 rfl (lv_at hl 1 rfl) ?_
    refine jv_imul hx hb dX4_opensAt_30 ?_
    refine jv_iald (i := (6 * d)) hx hb hK hm3 0 rfl (by omega) (by omega) (by decide) dX4_opensAt_31 ?_
    rw [s3]
    refine jv_imul hx hb dX4_opensAt_32 ?_
    refine jv_icmp_lt (tgt := 40) hx hb dX4_opensAt_33 (by decide) (by omega) (by omega) (fun c33 => ?_) (fun c33 => ?_)
    · refine jv_iconst hx hb dX4_opensAt_40 ?_
      exact pu_zret hx hb hr hlocks dX4_opensAt_41 (by show (0 : Int) = bI (decide (0 < bK z d ∧ bS z d o * bP z d 0 ≤ 100 * I)); rw [decide_eq_false (by omega)]; rfl)
    · refine jv_iconst hx hb dX4_opensAt_36 ?_
      refine lv_goto (tgt := 41) hx hb dX4_opensAt_37 (by decide) ?_
      exact pu_zret hx hb hr hlocks dX4_opensAt_41 (by show (1 : Int) = bI (decide (0 < bK z d ∧ bS z d o * bP z d 0 ≤ 100 * I)); rw [decide_eq_true (by omega)]; rfl)
set_option maxHeartbeats 4000000 in
set_option maxRecDepth 100000 in
theorem k_reckon (l : Launch) (D : va_G) (g : Nat → ClassId) (am : Nat → Nat) (cd dv vo ab be : Int) (AA : Nat → Nat → Int) (z : bSt) (hz : bOK z) (hR : mR z dv vo AA) (d o : Nat) (I : Int) (mo : Bool) (hd : d < bN z) (ho : o < bO z d) (hI : 0 ≤ I ∧ I ≤ 5000) (hop : 0 < bK z d ∧ bS z d o * bP z d 0 ≤ 100 * I) (hj : mInj am) : Met l yX4_reckon wsX4_reckon ({ frames := 0, cells := 0, slots := 0, locals := 0 }) (pu_Pc [.ref (am 0), .int (jI ((d : Int))), .int (jI ((o : Int))), .int (jI (I)), .int (jI (bI mo))] D vwCl (ty9 g) (fun H => mW D g am cd dv vo ab be AA H)) (mQ D g am none (fun c n v A a b => c = cd ∧ n = dv ∧ v = vo ∧ A = AA ∧ a = cTime (bSet z d o) mo (cPiece (bSet z d o) I) (cParts (bSet z d o) (cPiece (bSet z d o) I)) I ∧ b = cParts (bSet z d o) (cPiece (bSet z d o) I))) 0 0 (mFr am) := by
  refine Met.ofW (cc := cX4_reckon) (maxL := 14) (ret := none) (by decide) rfl ?_
  intro p e s m args below meth c s₁ B hml hv
  obtain ⟨rfl, hPic, hK⟩ := hv
  have hx := B.exec
  have hb := B.bytes
  have hr := B.returns
  have hts := atoms_spec (ws := wsX4_reckon) B.pre
  have hown : s.vm.findClass RX4 = some m.cls := findClass_of_methodNamed B.named
  have hlocks := B.notSynchronized
  have hm0 := hPic.1
  have hm1 : va_at D vwCl (am 1, .inl (g 0, 8, .inl (fun j => jI (AA 1 j)))) s.heap := hPic.2 1 (by omega) (by omega)
  have hm2 : va_at D vwCl (am 2, .inl (g 0, 8, .inl (fun j => jI (AA 2 j)))) s.heap := hPic.2 2 (by omega) (by omega)
  have hm3 : va_at D vwCl (am 3, .inl (g 0, 48, .inl (fun j => jI (AA 3 j)))) s.heap := hPic.2 3 (by omega) (by omega)
  have hm4 : va_at D vwCl (am 4, .inl (g 0, 48, .inl (fun j => jI (AA 4 j)))) s.heap := hPic.2 4 (by omega) (by omega)
  have hm5 : va_at D vwCl (am 5, .inl (g 0, 48, .inl (fun j => jI (AA 5 j)))) s.heap := hPic.2 5 (by omega) (by omega)
  have hm6 : va_at D vwCl (am 6, .inl (g 0, 8, .inl (fun j => jI (AA 6 j)))) s.heap := hPic.2 6 (by omega) (by omega)
  have hm7 : va_at D vwCl (am 7, .inl (g 0, 32, .inl (fun j => jI (AA 7 j)))) s.heap := hPic.2 7 (by omega) (by omega)
  have hm8 : va_at D vwCl (am 8, .inl (g 0, 32, .inl (fun j => jI (AA 8 j)))) s.heap := hPic.2 8 (by omega) (by omega)
  have hm9 : va_at D vwCl (am 9, .inl (g 0, 8, .inl (fun j => jI (AA 9 j)))) s.heap := hPic.2 9 (by omega) (by omega)
  have hm10 : va_at D vwCl (am 10, .inl (g 0, 8, .inl (fun j => jI (AA 10 j)))) s.heap := hPic.2 10 (by omega) (by omega)
  have hm11 : va_at D vwCl (am 11, .inl (g 0, 128, .inl (fun j => jI (AA 11 j)))) s.heap := hPic.2 11 (by omega) (by omega)
  have hm12 : va_at D vwCl (am 12, .inl (g 0, 8, .inl (fun j => jI (AA 12 j)))) s.heap := hPic.2 12 (by omega) (by omega)
  obtain ⟨e1_d, e2_d, e3_d, e6_d, e7_d, e9_d, e10_d⟩ := hR.2.2 d hd
  have f_d := hz.2.2.1 d (by have := hz.1; omega)
  have hN := hz.1
  have ok := f_d.2.2.2.2.2 o ho
  have s7 := e7_d o ho
  have nK : bK z d ≤ 6 := ok.1
  have fS : 10 ≤ bS z d o ∧ bS z d o ≤ 1000 := ok.2.2.2.2.1
  have fD : 0 ≤ bD z d o ∧ bD z d o ≤ 10000 := ok.2.2.2.2.2
  have fT : ∀ i mo, i < bK z d → 0 ≤ sT (bSet z d o) mo i ∧ sT (bSet z d o) mo i ≤ 100000 := ok.2.2.1
  have fP : ∀ i, i < bK z d → 10 ≤ bS z d o * bP z d i ∧ bS z d o * bP z d i ≤ 5000000 := fun i hi => sOK_pl ok hi
  have fQ : ∀ i, i < bK z d → 1 ≤ bP z d i ∧ bP z d i ≤ 5000 := ok.2.1
  have hl := lv_entry ([.ref (am 0), .int (jI ((d : Int))), .int (jI ((o : Int))), .int (jI (I)), .int (jI (bI mo))]) (n := 14) (Nat.le_of_ble_eq_true rfl)
  rw [lg_entry_eq]
  generalize (lg_sl ([.ref (am 0), .int (jI ((d : Int))), .int (jI ((o : Int))), .int (jI (I)), .int (jI (bI mo))]) ++ List.replicate (14 - (lg_sl ([.ref (am 0), .int (jI ((d : Int))), .int (jI ((o : Int))), .int (jI (I)), .int (jI (bI mo))])).length) Slot.unset).toArray = ls at hl ⊢
  have hl : lv_has ls 14 [(0, .ref (am 0)), (1, .int (jI ((d : Int)))), (2, .int (jI ((o : Int)))), (3, .int (jI (I))), (4, .int (jI (bI mo)))] := hl
  have hT0 : mTo am s.heap s.heap [] := mTo.rf
  cases mo
  · refine lv_aload_n hx hb dX4_reckon_0 rfl (lv_at hl 0 rfl) ?_
    refine va_get (D := D) (ci := 4) (v := .ref (am 7)) (C := RX4) (T := TX4) (N := 17) hx hb hts (fun w h => List.mem_cons_of_mem _ (uw_X4 w h)) hown hK (j_P1 hm0) 0 rfl rfl 8 (by decide) (hts _ (List.mem_cons_of_mem _ kw_426)) (fun _ h9 => h9) rfl dX4_reckon_1 ?_
    refine jv_iconst hx hb dX4_reckon_4 ?_
    refine lv_iload_n hx hb dX4_reckon_5 rfl (lv_at hl 1 rfl) ?_
    refine jv_imul hx hb dX4_reckon_6 ?_
    refine lv_iload_n hx hb dX4_reckon_7 rfl (lv_at hl 2 rfl) ?_
    refine jv_iadd hx hb dX4_reckon_8 ?_
    refine jv_iald (i := (4 * d + o)) hx hb hK hm7 0 rfl (by omega) (by omega) (by decide) dX4_reckon_9 ?_
    rw [s7.1]
    refine jv_i2l hx hb dX4_reckon_10 (by omega) ?_
    refine lv_lstore (lv' := [(5, .long (jL (bS z d o))), (0, .ref (am 0)), (1, .int (jI ((d : Int)))), (2, .int (jI ((o : Int)))), (3, .int (jI (I))), (4, .int (jI (bI false)))]) hx hb dX4_reckon_11 hl (by decide) rfl (fun ls hl => ?_)
    refine jv_ldc2 (k := 100) hx hb hown (hts _ (List.mem_cons_of_mem _ kw_510)) (by decide) dX4_reckon_13 ?_
    refine lv_iload_n hx hb dX4_reckon_16 rfl (lv_at hl 4 rfl) ?_
    refine jv_i2l hx hb dX4_reckon_17 (by omega) ?_
    refine jv_lmul hx hb dX4_reckon_18 ?_
    refine lv_lstore (lv' := [(7, .long (jL (100 * I))), (5, .long (jL (bS z d o))), (0, .ref (am 0)), (1, .int (jI ((d : Int)))), (2, .int (jI ((o : Int)))), (3, .int (jI (I))), (4, .int (jI (bI false)))]) hx hb dX4_reckon_19 hl (by decide) rfl (fun ls hl => ?_)
    refine jv_bipush hx hb dX4_reckon_21 (by decide) ?_
    refine lv_iload_n hx hb dX4_reckon_23 rfl (lv_at hl 3 rfl) ?_
    refine jv_imul hx hb dX4_reckon_24 ?_
    refine lv_aload_n hx hb dX4_reckon_25 rfl (lv_at hl 2 rfl) ?_
    refine va_get (D := D) (ci := 4) (v := .ref (am 2)) (C := RX4) (T := TX4) (N := 17) hx hb hts (fun w h => List.mem_cons_of_mem _ (uw_X4 w h)) hown hK (j_P1 hm0) 0 rfl rfl 3 (by decide) (hts _ (List.mem_cons_of_mem _ kw_421)) (fun _ h9 => h9) rfl dX4_reckon_26 ?_
    refine lv_iload_n hx hb dX4_reckon_29 rfl (lv_at hl 3 rfl) ?_
    refine jv_iald (i := d) hx hb hK hm2 0 rfl (by omega) (by omega) (by decide) dX4_reckon_30 ?_
    rw [e2_d]
    refine jv_iadd hx hb dX4_reckon_31 ?_
    refine jv_iconst hx hb dX4_reckon_32 ?_
    refine jv_isub hx hb dX4_reckon_33 ?_
    refine lv_istore (lv' := [(9, .int (jI (((6 * (d : Int)) + (bK z d : Int)) - 1))), (7, .long (jL (100 * I))), (5, .long (jL (bS z d o))), (0, .ref (am 0)), (1, .int (jI ((d : Int)))), (2, .int (jI ((o : Int)))), (3, .int (jI (I))), (4, .int (jI (bI false)))]) hx hb dX4_reckon_34 hl (by decide) rfl (fun ls hl => ?_)
    refine jw_loop (X := Nat) (fun j => j) (fun j ls => (j < bK z d ∧ ∀ i, j < i → i < bK z d → 100 * I < bS z d o * bP z d i) ∧ lv_has ls 14 [(0, .ref (am 0)), (1, .int (jI ((d : Int)))), (2, .int (jI ((o : Int)))), (3, .int (jI (I))), (4, .int (jI (bI false))), (5, .long (jL (bS z d o))), (7, .long (jL (100 * I))), (9, .int (jI ((6 * (d : Int)) + (j : Int))))]) ?_ (bK z d - 1) ls ⟨⟨by omega, fun i h1 h2 => by omega⟩, by rw [show (6 * (d : Int)) + ((bK z d - 1 : Nat) : Int) = ((6 * (d : Int)) + (bK z d : Int)) - 1 by omega]; exact lv_sub hl [3, 4, 5, 6, 7, 2, 1, 0] rfl⟩
    intro j ls hinv ih
    obtain ⟨⟨hjn, hjx⟩, hl⟩ := hinv
    have s3 : AA 3 (6 * d + j) = bP z d j := (e3_d j hjn).1
    have s4 : AA 4 (6 * d + j) = bL z d j := (e3_d j hjn).2.1
    have s5 : AA 5 (6 * d + j) = bM z d j := (e3_d j hjn).2.2
    have fj := fP j hjn
    have gj := fQ j hjn
    have tj : 0 ≤ bL z d j ∧ bL z d j ≤ 100000 := fT j false hjn
    refine lv_lload hx hb dX4_reckon_36 (lv_at hl 6 rfl) ?_
    refine lv_lload hx hb dX4_reckon_38 (lv_at hl 5 rfl) ?_
    refine lv_aload_n hx hb dX4_reckon_40 rfl (lv_at hl 0 rfl) ?_
    refine va_get (D := D) (ci := 4) (v := .ref (am 3)) (C := RX4) (T := TX4) (N := 17) hx hb hts (fun w h => List.mem_cons_of_mem _ (uw_X4 w h)) hown hK (j_P1 hm0) 0 rfl rfl 4 (by decide) (hts _ (List.mem_cons_of_mem _ kw_422)) (fun _ h9 => h9) rfl dX4_reckon_41 ?_
    refine lv_iload hx hb dX4_reckon_44 (lv_at hl 7 rfl) ?_
    refine jv_iald (i := (6 * d + j)) hx hb hK hm3 0 rfl (by omega) (by omega) (by decide) dX4_reckon_46 ?_
    rw [s3]
    refine jv_i2l hx hb dX4_reckon_47 (by omega) ?_
    refine jv_lmul hx hb dX4_reckon_48 ?_
    refine jv_lcmp_ge (tgt := 59) hx hb dX4_reckon_49 dX4_reckon_50 (by decide) (by omega) (by omega) (fun c49 => ?_) (fun c49 => ?_)
    · have hq : cPiece (bSet z d o) I = (j : Int) := mPiece_of ok hjn c49 hjx
      refine lv_iload hx hb dX4_reckon_59 (lv_at hl 4 rfl) ?_
      refine jv_if_eq (tgt := 75) hx hb dX4_reckon_61 (by decide) (by decide) (fun c61 => ?_) (fun c61 => ?_)
      · refine lv_aload_n hx hb dX4_reckon_75 rfl (lv_at hl 0 rfl) ?_
        refine va_get (D := D) (ci := 4) (v := .ref (am 4)) (C := RX4) (T := TX4) (N := 17) hx hb hts (fun w h => List.mem_cons_of_mem _ (uw_X4 w h)) hown hK (j_P1 hm0) 0 rfl rfl 5 (by decide) (hts _ (List.mem_cons_of_mem _ kw_423)) (fun _ h9 => h9) rfl dX4_reckon_76 ?_
        refine lv_iload hx hb dX4_reckon_79 (lv_at hl 7 rfl) ?_
        refine jv_iald (i := (6 * d + j)) hx hb hK hm4 0 rfl (by omega) (by omega) (by decide) dX4_reckon_81 ?_
        rw [s4]
        refine jv_i2l hx hb dX4_reckon_82 (by omega) ?_
        refine lv_lstore (lv' := [(10, .long (jL (bL z d j))), (0, .ref (am 0)), (1, .int (jI ((d : Int)))), (2, .int (jI ((o : Int)))), (3, .int (jI (I))), (4, .int (jI (bI false))), (5, .long (jL (bS z d o))), (7, .long (jL (100 * I))), (9, .int (jI ((6 * (d : Int)) + (j : Int))))]) hx hb dX4_reckon_83 hl (by decide) rfl (fun ls hl => ?_)
        refine lv_aload_n hx hb dX4_reckon_85 rfl (lv_at hl 1 rfl) ?_
        refine lv_lload hx hb dX4_reckon_86 (lv_at hl 0 rfl) ?_
        refine jv_put (D := D) (ci := 4) (v := .long (jL (bL z d j))) (ty := .long) (C := RX4) (T := TX4) (N := 17) hx hb hts (fun w h => List.mem_cons_of_mem _ (uw_X4 w h)) tyX4 tyX4_ok nmX4 hown hK hm0 rfl 13 (by decide) (hts _ (List.mem_cons_of_mem _ kw_431)) (fun _ h9 => h9) rfl (by decide +kernel) rfl rfl (Nat.le_of_ble_eq_true rfl) dX4_reckon_88 (fun H f9 hn9 hz9 oq9 => ?_)
        have hPic : mW D g am cd dv vo (bL z d j) be AA H := mW_obj hj hPic oq9 hn9
        have hT0 := hT0.put 0 (by omega) hz9 oq9 (f := f9)
        have hm0 := hPic.1
        have hm1 : va_at D vwCl (am 1, .inl (g 0, 8, .inl (fun j => jI (AA 1 j)))) H := hPic.2 1 (by omega) (by omega)
        have hm2 : va_at D vwCl (am 2, .inl (g 0, 8, .inl (fun j => jI (AA 2 j)))) H := hPic.2 2 (by omega) (by omega)
        have hm3 : va_at D vwCl (am 3, .inl (g 0, 48, .inl (fun j => jI (AA 3 j)))) H := hPic.2 3 (by omega) (by omega)
        have hm4 : va_at D vwCl (am 4, .inl (g 0, 48, .inl (fun j => jI (AA 4 j)))) H := hPic.2 4 (by omega) (by omega)
        have hm5 : va_at D vwCl (am 5, .inl (g 0, 48, .inl (fun j => jI (AA 5 j)))) H := hPic.2 5 (by omega) (by omega)
        have hm6 : va_at D vwCl (am 6, .inl (g 0, 8, .inl (fun j => jI (AA 6 j)))) H := hPic.2 6 (by omega) (by omega)
        have hm7 : va_at D vwCl (am 7, .inl (g 0, 32, .inl (fun j => jI (AA 7 j)))) H := hPic.2 7 (by omega) (by omega)
        have hm8 : va_at D vwCl (am 8, .inl (g 0, 32, .inl (fun j => jI (AA 8 j)))) H := hPic.2 8 (by omega) (by omega)
        have hm9 : va_at D vwCl (am 9, .inl (g 0, 8, .inl (fun j => jI (AA 9 j)))) H := hPic.2 9 (by omega) (by omega)
        have hm10 : va_at D vwCl (am 10, .inl (g 0, 8, .inl (fun j => jI (AA 10 j)))) H := hPic.2 10 (by omega) (by omega)
        have hm11 : va_at D vwCl (am 11, .inl (g 0, 128, .inl (fun j => jI (AA 11 j)))) H := hPic.2 11 (by omega) (by omega)
        have hm12 : va_at D vwCl (am 12, .inl (g 0, 8, .inl (fun j => jI (AA 12 j)))) H := hPic.2 12 (by omega) (by omega)
        refine lv_aload_n hx hb dX4_reckon_91 rfl (lv_at hl 1 rfl) ?_
        refine jv_lconst (k := 1) hx hb dX4_reckon_92 (by decide) ?_
        refine jv_put (D := D) (ci := 4) (v := .long (jL (1))) (ty := .long) (C := RX4) (T := TX4) (N := 17) hx hb hts (fun w h => List.mem_cons_of_mem _ (uw_X4 w h)) tyX4 tyX4_ok nmX4 hown hK hm0 rfl 14 (by decide) (hts _ (List.mem_cons_of_mem _ kw_432)) (fun _ h9 => h9) rfl (by decide +kernel) rfl rfl (Nat.le_of_ble_eq_true rfl) dX4_reckon_93 (fun H f9 hn9 hz9 oq9 => ?_)
        have hPic : mW D g am cd dv vo (bL z d j) 1 AA H := mW_obj hj hPic oq9 hn9
        have hT0 := hT0.put 0 (by omega) hz9 oq9 (f := f9)
        have hm0 := hPic.1
        have hm1 : va_at D vwCl (am 1, .inl (g 0, 8, .inl (fun j => jI (AA 1 j)))) H := hPic.2 1 (by omega) (by omega)
        have hm2 : va_at D vwCl (am 2, .inl (g 0, 8, .inl (fun j => jI (AA 2 j)))) H := hPic.2 2 (by omega) (by omega)
        have hm3 : va_at D vwCl (am 3, .inl (g 0, 48, .inl (fun j => jI (AA 3 j)))) H := hPic.2 3 (by omega) (by omega)
        have hm4 : va_at D vwCl (am 4, .inl (g 0, 48, .inl (fun j => jI (AA 4 j)))) H := hPic.2 4 (by omega) (by omega)
        have hm5 : va_at D vwCl (am 5, .inl (g 0, 48, .inl (fun j => jI (AA 5 j)))) H := hPic.2 5 (by omega) (by omega)
        have hm6 : va_at D vwCl (am 6, .inl (g 0, 8, .inl (fun j => jI (AA 6 j)))) H := hPic.2 6 (by omega) (by omega)
        have hm7 : va_at D vwCl (am 7, .inl (g 0, 32, .inl (fun j => jI (AA 7 j)))) H := hPic.2 7 (by omega) (by omega)
        have hm8 : va_at D vwCl (am 8, .inl (g 0, 32, .inl (fun j => jI (AA 8 j)))) H := hPic.2 8 (by omega) (by omega)
        have hm9 : va_at D vwCl (am 9, .inl (g 0, 8, .inl (fun j => jI (AA 9 j)))) H := hPic.2 9 (by omega) (by omega)
        have hm10 : va_at D vwCl (am 10, .inl (g 0, 8, .inl (fun j => jI (AA 10 j)))) H := hPic.2 10 (by omega) (by omega)
        have hm11 : va_at D vwCl (am 11, .inl (g 0, 128, .inl (fun j => jI (AA 11 j)))) H := hPic.2 11 (by omega) (by omega)
        have hm12 : va_at D vwCl (am 12, .inl (g 0, 8, .inl (fun j => jI (AA 12 j)))) H := hPic.2 12 (by omega) (by omega)
        refine lv_iload hx hb dX4_reckon_96 (lv_at hl 8 rfl) ?_
        refine jv_bipush hx hb dX4_reckon_98 (by decide) ?_
        refine lv_iload_n hx hb dX4_reckon_100 rfl (lv_at hl 2 rfl) ?_
        refine jv_imul hx hb dX4_reckon_101 ?_
        refine lv_aload_n hx hb dX4_reckon_102 rfl (lv_at hl 1 rfl) ?_
        refine va_get (D := D) (ci := 4) (v := .ref (am 2)) (C := RX4) (T := TX4) (N := 17) hx hb hts (fun w h => List.mem_cons_of_mem _ (uw_X4 w h)) hown hK (j_P1 hm0) 0 rfl rfl 3 (by decide) (hts _ (List.mem_cons_of_mem _ kw_421)) (fun _ h9 => h9) rfl dX4_reckon_103 ?_
        refine lv_iload_n hx hb dX4_reckon_106 rfl (lv_at hl 2 rfl) ?_
        refine jv_iald (i := d) hx hb hK hm2 0 rfl (by omega) (by omega) (by decide) dX4_reckon_107 ?_
        rw [e2_d]
        refine jv_iadd hx hb dX4_reckon_108 ?_
        refine jv_iconst hx hb dX4_reckon_109 ?_
        refine jv_isub hx hb dX4_reckon_110 ?_
        refine jv_icmp_ge (tgt := 201) hx hb dX4_reckon_111 (by decide) (by omega) (by omega) (fun c111 => ?_) (fun c111 => ?_)
        · refine lv_aload_n hx hb dX4_reckon_201 rfl (lv_at hl 1 rfl) ?_
          refine lv_dup hx hb dX4_reckon_202 rfl ?_
          refine va_get (D := D) (ci := 4) (v := .long (jL (bL z d j))) (C := RX4) (T := TX4) (N := 17) hx hb hts (fun w h => List.mem_cons_of_mem _ (uw_X4 w h)) hown hK (j_P1 hm0) 0 rfl rfl 13 (by decide) (hts _ (List.mem_cons_of_mem _ kw_431)) (fun _ h9 => h9) rfl dX4_reckon_203 ?_
          refine lv_aload_n hx hb dX4_reckon_206 rfl (lv_at hl 1 rfl) ?_
          refine va_get (D := D) (ci := 4) (v := .long (jL (1))) (C := RX4) (T := TX4) (N := 17) hx hb hts (fun w h => List.mem_cons_of_mem _ (uw_X4 w h)) hown hK (j_P1 hm0) 0 rfl rfl 14 (by decide) (hts _ (List.mem_cons_of_mem _ kw_432)) (fun _ h9 => h9) rfl dX4_reckon_207 ?_
          refine lv_aload_n hx hb dX4_reckon_210 rfl (lv_at hl 1 rfl) ?_
          refine va_get (D := D) (ci := 4) (v := .ref (am 8)) (C := RX4) (T := TX4) (N := 17) hx hb hts (fun w h => List.mem_cons_of_mem _ (uw_X4 w h)) hown hK (j_P1 hm0) 0 rfl rfl 9 (by decide) (hts _ (List.mem_cons_of_mem _ kw_427)) (fun _ h9 => h9) rfl dX4_reckon_211 ?_
          refine jv_iconst hx hb dX4_reckon_214 ?_
          refine lv_iload_n hx hb dX4_reckon_215 rfl (lv_at hl 2 rfl) ?_
          refine jv_imul hx hb dX4_reckon_216 ?_
          refine lv_iload_n hx hb dX4_reckon_217 rfl (lv_at hl 3 rfl) ?_
          refine jv_iadd hx hb dX4_reckon_218 ?_
          refine jv_iald (i := (4 * d + o)) hx hb hK hm8 0 rfl (by omega) (by omega) (by decide) dX4_reckon_219 ?_
          rw [s7.2]
          refine jv_i2l hx hb dX4_reckon_220 (by omega) ?_
          refine jv_lmul hx hb dX4_reckon_221 ?_
          refine jv_ladd hx hb dX4_reckon_222 ?_
          refine jv_put (D := D) (ci := 4) (v := .long (jL ((bL z d j) + (1 * (bD z d o))))) (ty := .long) (C := RX4) (T := TX4) (N := 17) hx hb hts (fun w h => List.mem_cons_of_mem _ (uw_X4 w h)) tyX4 tyX4_ok nmX4 hown hK hm0 rfl 13 (by decide) (hts _ (List.mem_cons_of_mem _ kw_431)) (fun _ h9 => h9) rfl (by decide +kernel) rfl rfl (Nat.le_of_ble_eq_true rfl) dX4_reckon_223 (fun H f9 hn9 hz9 oq9 => ?_)
          have hPic : mW D g am cd dv vo ((bL z d j) + (1 * (bD z d o))) 1 AA H := mW_obj hj hPic oq9 hn9
          have hT0 := hT0.put 0 (by omega) hz9 oq9 (f := f9)
          have hm0 := hPic.1
          have hm1 : va_at D vwCl (am 1, .inl (g 0, 8, .inl (fun j => jI (AA 1 j)))) H := hPic.2 1 (by omega) (by omega)
          have hm2 : va_at D vwCl (am 2, .inl (g 0, 8, .inl (fun j => jI (AA 2 j)))) H := hPic.2 2 (by omega) (by omega)
          have hm3 : va_at D vwCl (am 3, .inl (g 0, 48, .inl (fun j => jI (AA 3 j)))) H := hPic.2 3 (by omega) (by omega)
          have hm4 : va_at D vwCl (am 4, .inl (g 0, 48, .inl (fun j => jI (AA 4 j)))) H := hPic.2 4 (by omega) (by omega)
          have hm5 : va_at D vwCl (am 5, .inl (g 0, 48, .inl (fun j => jI (AA 5 j)))) H := hPic.2 5 (by omega) (by omega)
          have hm6 : va_at D vwCl (am 6, .inl (g 0, 8, .inl (fun j => jI (AA 6 j)))) H := hPic.2 6 (by omega) (by omega)
          have hm7 : va_at D vwCl (am 7, .inl (g 0, 32, .inl (fun j => jI (AA 7 j)))) H := hPic.2 7 (by omega) (by omega)
          have hm8 : va_at D vwCl (am 8, .inl (g 0, 32, .inl (fun j => jI (AA 8 j)))) H := hPic.2 8 (by omega) (by omega)
          have hm9 : va_at D vwCl (am 9, .inl (g 0, 8, .inl (fun j => jI (AA 9 j)))) H := hPic.2 9 (by omega) (by omega)
          have hm10 : va_at D vwCl (am 10, .inl (g 0, 8, .inl (fun j => jI (AA 10 j)))) H := hPic.2 10 (by omega) (by omega)
          have hm11 : va_at D vwCl (am 11, .inl (g 0, 128, .inl (fun j => jI (AA 11 j)))) H := hPic.2 11 (by omega) (by omega)
          have hm12 : va_at D vwCl (am 12, .inl (g 0, 8, .inl (fun j => jI (AA 12 j)))) H := hPic.2 12 (by omega) (by omega)
          exact m_vret hx hb hr hlocks dX4_reckon_226 ⟨rfl, rfl, rfl, rfl, (mReck_last (mo := false) hq (show (bK z d : Int) ≤ (j : Int) + 1 by omega)).1, (mReck_last (mo := false) hq (show (bK z d : Int) ≤ (j : Int) + 1 by omega)).2⟩ hPic hT0
        · have n3 : AA 3 (6 * d + j + 1) = bP z d (j + 1) := (e3_d (j + 1) (by omega)).1
          have n4 : AA 4 (6 * d + j + 1) = bL z d (j + 1) := (e3_d (j + 1) (by omega)).2.1
          have n5 : AA 5 (6 * d + j + 1) = bM z d (j + 1) := (e3_d (j + 1) (by omega)).2.2
          have tn : 0 ≤ bL z d (j + 1) ∧ bL z d (j + 1) ≤ 100000 := fT (j + 1) false (by omega)
          have gn := fQ (j + 1) (by omega)
          refine lv_iload hx hb dX4_reckon_114 (lv_at hl 5 rfl) ?_
          refine jv_if_eq (tgt := 132) hx hb dX4_reckon_116 (by decide) (by decide) (fun c116 => ?_) (fun c116 => ?_)
          · refine lv_aload_n hx hb dX4_reckon_132 rfl (lv_at hl 1 rfl) ?_
            refine va_get (D := D) (ci := 4) (v := .ref (am 4)) (C := RX4) (T := TX4) (N := 17) hx hb hts (fun w h => List.mem_cons_of_mem _ (uw_X4 w h)) hown hK (j_P1 hm0) 0 rfl rfl 5 (by decide) (hts _ (List.mem_cons_of_mem _ kw_423)) (fun _ h9 => h9) rfl dX4_reckon_133 ?_
            refine lv_iload hx hb dX4_reckon_136 (lv_at hl 8 rfl) ?_
            refine jv_iconst hx hb dX4_reckon_138 ?_
            refine jv_iadd hx hb dX4_reckon_139 ?_
            refine jv_iald (i := (6 * d + j + 1)) hx hb hK hm4 0 rfl (by omega) (by omega) (by decide) dX4_reckon_140 ?_
            rw [n4]
            refine jv_i2l hx hb dX4_reckon_141 (by omega) ?_
            refine lv_lstore (lv' := [(12, .long (jL (bL z d (j + 1)))), (10, .long (jL (bL z d j))), (0, .ref (am 0)), (1, .int (jI ((d : Int)))), (2, .int (jI ((o : Int)))), (3, .int (jI (I))), (4, .int (jI (bI false))), (5, .long (jL (bS z d o))), (7, .long (jL (100 * I))), (9, .int (jI ((6 * (d : Int)) + (j : Int))))]) hx hb dX4_reckon_142 hl (by decide) rfl (fun ls hl => ?_)
            refine lv_aload_n hx hb dX4_reckon_144 rfl (lv_at hl 2 rfl) ?_
            refine lv_lload hx hb dX4_reckon_145 (lv_at hl 7 rfl) ?_
            refine lv_aload_n hx hb dX4_reckon_147 rfl (lv_at hl 2 rfl) ?_
            refine va_get (D := D) (ci := 4) (v := .ref (am 3)) (C := RX4) (T := TX4) (N := 17) hx hb hts (fun w h => List.mem_cons_of_mem _ (uw_X4 w h)) hown hK (j_P1 hm0) 0 rfl rfl 4 (by decide) (hts _ (List.mem_cons_of_mem _ kw_422)) (fun _ h9 => h9) rfl dX4_reckon_148 ?_
            refine lv_iload hx hb dX4_reckon_151 (lv_at hl 9 rfl) ?_
            refine jv_iconst hx hb dX4_reckon_153 ?_
            refine jv_iadd hx hb dX4_reckon_154 ?_
            refine jv_iald (i := (6 * d + j + 1)) hx hb hK hm3 0 rfl (by omega) (by omega) (by decide) dX4_reckon_155 ?_
            rw [n3]
            refine lv_aload_n hx hb dX4_reckon_156 rfl (lv_at hl 2 rfl) ?_
            refine va_get (D := D) (ci := 4) (v := .ref (am 3)) (C := RX4) (T := TX4) (N := 17) hx hb hts (fun w h => List.mem_cons_of_mem _ (uw_X4 w h)) hown hK (j_P1 hm0) 0 rfl rfl 4 (by decide) (hts _ (List.mem_cons_of_mem _ kw_422)) (fun _ h9 => h9) rfl dX4_reckon_157 ?_
            refine lv_iload hx hb dX4_reckon_160 (lv_at hl 9 rfl) ?_
            refine jv_iald (i := (6 * d + j)) hx hb hK hm3 0 rfl (by omega) (by omega) (by decide) dX4_reckon_162 ?_
            rw [s3]
            refine jv_isub hx hb dX4_reckon_163 ?_
            refine jv_i2l hx hb dX4_reckon_164 (by omega) ?_
            refine jv_lmul hx hb dX4_reckon_165 ?_
            refine jv_put (D := D) (ci := 4) (v := .long (jL ((bS z d o) * ((bP z d (j + 1)) - (bP z d j))))) (ty := .long) (C := RX4) (T := TX4) (N := 17) hx hb hts (fun w h => List.mem_cons_of_mem _ (uw_X4 w h)) tyX4 tyX4_ok nmX4 hown hK hm0 rfl 14 (by decide) (hts _ (List.mem_cons_of_mem _ kw_432)) (fun _ h9 => h9) rfl (by decide +kernel) rfl rfl (Nat.le_of_ble_eq_true rfl) dX4_reckon_166 (fun H f9 hn9 hz9 oq9 => ?_)
            have hPic : mW D g am cd dv vo (bL z d j) ((bS z d o) * ((bP z d (j + 1)) - (bP z d j))) AA H := mW_obj hj hPic oq9 hn9
            have hT0 := hT0.put 0 (by omega) hz9 oq9 (f := f9)
            have hm0 := hPic.1
            have hm1 : va_at D vwCl (am 1, .inl (g 0, 8, .inl (fun j => jI (AA 1 j)))) H := hPic.2 1 (by omega) (by omega)
            have hm2 : va_at D vwCl (am 2, .inl (g 0, 8, .inl (fun j => jI (AA 2 j)))) H := hPic.2 2 (by omega) (by omega)
            have hm3 : va_at D vwCl (am 3, .inl (g 0, 48, .inl (fun j => jI (AA 3 j)))) H := hPic.2 3 (by omega) (by omega)
            have hm4 : va_at D vwCl (am 4, .inl (g 0, 48, .inl (fun j => jI (AA 4 j)))) H := hPic.2 4 (by omega) (by omega)
            have hm5 : va_at D vwCl (am 5, .inl (g 0, 48, .inl (fun j => jI (AA 5 j)))) H := hPic.2 5 (by omega) (by omega)
            have hm6 : va_at D vwCl (am 6, .inl (g 0, 8, .inl (fun j => jI (AA 6 j)))) H := hPic.2 6 (by omega) (by omega)
            have hm7 : va_at D vwCl (am 7, .inl (g 0, 32, .inl (fun j => jI (AA 7 j)))) H := hPic.2 7 (by omega) (by omega)
            have hm8 : va_at D vwCl (am 8, .inl (g 0, 32, .inl (fun j => jI (AA 8 j)))) H := hPic.2 8 (by omega) (by omega)
            have hm9 : va_at D vwCl (am 9, .inl (g 0, 8, .inl (fun j => jI (AA 9 j)))) H := hPic.2 9 (by omega) (by omega)
            have hm10 : va_at D vwCl (am 10, .inl (g 0, 8, .inl (fun j => jI (AA 10 j)))) H := hPic.2 10 (by omega) (by omega)
            have hm11 : va_at D vwCl (am 11, .inl (g 0, 128, .inl (fun j => jI (AA 11 j)))) H := hPic.2 11 (by omega) (by omega)
            have hm12 : va_at D vwCl (am 12, .inl (g 0, 8, .inl (fun j => jI (AA 12 j)))) H := hPic.2 12 (by omega) (by omega)
            refine lv_aload_n hx hb dX4_reckon_169 rfl (lv_at hl 2 rfl) ?_
            refine lv_lload hx hb dX4_reckon_170 (lv_at hl 1 rfl) ?_
            refine lv_aload_n hx hb dX4_reckon_172 rfl (lv_at hl 2 rfl) ?_
            refine va_get (D := D) (ci := 4) (v := .long (jL ((bS z d o) * ((bP z d (j + 1)) - (bP z d j))))) (C := RX4) (T := TX4) (N := 17) hx hb hts (fun w h => List.mem_cons_of_mem _ (uw_X4 w h)) hown hK (j_P1 hm0) 0 rfl rfl 14 (by decide) (hts _ (List.mem_cons_of_mem _ kw_432)) (fun _ h9 => h9) rfl dX4_reckon_173 ?_
            refine jv_lmul hx hb dX4_reckon_176 ?_
            refine lv_lload hx hb dX4_reckon_177 (lv_at hl 0 rfl) ?_
            refine lv_lload hx hb dX4_reckon_179 (lv_at hl 1 rfl) ?_
            refine jv_lsub hx hb dX4_reckon_181 ?_
            refine lv_lload hx hb dX4_reckon_182 (lv_at hl 8 rfl) ?_
            refine lv_lload hx hb dX4_reckon_184 (lv_at hl 7 rfl) ?_
            refine lv_aload_n hx hb dX4_reckon_186 rfl (lv_at hl 2 rfl) ?_
            refine va_get (D := D) (ci := 4) (v := .ref (am 3)) (C := RX4) (T := TX4) (N := 17) hx hb hts (fun w h => List.mem_cons_of_mem _ (uw_X4 w h)) hown hK (j_P1 hm0) 0 rfl rfl 4 (by decide) (hts _ (List.mem_cons_of_mem _ kw_422)) (fun _ h9 => h9) rfl dX4_reckon_187 ?_
            refine lv_iload hx hb dX4_reckon_190 (lv_at hl 9 rfl) ?_
            refine jv_iald (i := (6 * d + j)) hx hb hK hm3 0 rfl (by omega) (by omega) (by decide) dX4_reckon_192 ?_
            rw [s3]
            refine jv_i2l hx hb dX4_reckon_193 (by omega) ?_
            refine jv_lmul hx hb dX4_reckon_194 ?_
            refine jv_lsub hx hb dX4_reckon_195 ?_
            refine jv_lmul hx hb dX4_reckon_196 ?_
            refine jv_ladd hx hb dX4_reckon_197 ?_
            refine jv_put (D := D) (ci := 4) (v := .long (jL (((bL z d j) * ((bS z d o) * ((bP z d (j + 1)) - (bP z d j)))) + (((bL z d (j + 1)) - (bL z d j)) * ((100 * I) - ((bS z d o) * (bP z d j))))))) (ty := .long) (C := RX4) (T := TX4) (N := 17) hx hb hts (fun w h => List.mem_cons_of_mem _ (uw_X4 w h)) tyX4 tyX4_ok nmX4 hown hK hm0 rfl 13 (by decide) (hts _ (List.mem_cons_of_mem _ kw_431)) (fun _ h9 => h9) rfl (by decide +kernel) rfl rfl (Nat.le_of_ble_eq_true rfl) dX4_reckon_198 (fun H f9 hn9 hz9 oq9 => ?_)
            have hPic : mW D g am cd dv vo (((bL z d j) * ((bS z d o) * ((bP z d (j + 1)) - (bP z d j)))) + (((bL z d (j + 1)) - (bL z d j)) * ((100 * I) - ((bS z d o) * (bP z d j))))) ((bS z d o) * ((bP z d (j + 1)) - (bP z d j))) AA H := mW_obj hj hPic oq9 hn9
            have hT0 := hT0.put 0 (by omega) hz9 oq9 (f := f9)
            have hm0 := hPic.1
            have hm1 : va_at D vwCl (am 1, .inl (g 0, 8, .inl (fun j => jI (AA 1 j)))) H := hPic.2 1 (by omega) (by omega)
            have hm2 : va_at D vwCl (am 2, .inl (g 0, 8, .inl (fun j => jI (AA 2 j)))) H := hPic.2 2 (by omega) (by omega)
            have hm3 : va_at D vwCl (am 3, .inl (g 0, 48, .inl (fun j => jI (AA 3 j)))) H := hPic.2 3 (by omega) (by omega)
            have hm4 : va_at D vwCl (am 4, .inl (g 0, 48, .inl (fun j => jI (AA 4 j)))) H := hPic.2 4 (by omega) (by omega)
            have hm5 : va_at D vwCl (am 5, .inl (g 0, 48, .inl (fun j => jI (AA 5 j)))) H := hPic.2 5 (by omega) (by omega)
            have hm6 : va_at D vwCl (am 6, .inl (g 0, 8, .inl (fun j => jI (AA 6 j)))) H := hPic.2 6 (by omega) (by omega)
            have hm7 : va_at D vwCl (am 7, .inl (g 0, 32, .inl (fun j => jI (AA 7 j)))) H := hPic.2 7 (by omega) (by omega)
            have hm8 : va_at D vwCl (am 8, .inl (g 0, 32, .inl (fun j => jI (AA 8 j)))) H := hPic.2 8 (by omega) (by omega)
            have hm9 : va_at D vwCl (am 9, .inl (g 0, 8, .inl (fun j => jI (AA 9 j)))) H := hPic.2 9 (by omega) (by omega)
            have hm10 : va_at D vwCl (am 10, .inl (g 0, 8, .inl (fun j => jI (AA 10 j)))) H := hPic.2 10 (by omega) (by omega)
            have hm11 : va_at D vwCl (am 11, .inl (g 0, 128, .inl (fun j => jI (AA 11 j)))) H := hPic.2 11 (by omega) (by omega)
            have hm12 : va_at D vwCl (am 12, .inl (g 0, 8, .inl (fun j => jI (AA 12 j)))) H := hPic.2 12 (by omega) (by omega)
            refine lv_aload_n hx hb dX4_reckon_201 rfl (lv_at hl 2 rfl) ?_
            refine lv_dup hx hb dX4_reckon_202 rfl ?_
            refine va_get (D := D) (ci := 4) (v := .long (jL (((bL z d j) * ((bS z d o) * ((bP z d (j + 1)) - (bP z d j)))) + (((bL z d (j + 1)) - (bL z d j)) * ((100 * I) - ((bS z d o) * (bP z d j))))))) (C := RX4) (T := TX4) (N := 17) hx hb hts (fun w h => List.mem_cons_of_mem _ (uw_X4 w h)) hown hK (j_P1 hm0) 0 rfl rfl 13 (by decide) (hts _ (List.mem_cons_of_mem _ kw_431)) (fun _ h9 => h9) rfl dX4_reckon_203 ?_
            refine lv_aload_n hx hb dX4_reckon_206 rfl (lv_at hl 2 rfl) ?_
            refine va_get (D := D) (ci := 4) (v := .long (jL ((bS z d o) * ((bP z d (j + 1)) - (bP z d j))))) (C := RX4) (T := TX4) (N := 17) hx hb hts (fun w h => List.mem_cons_of_mem _ (uw_X4 w h)) hown hK (j_P1 hm0) 0 rfl rfl 14 (by decide) (hts _ (List.mem_cons_of_mem _ kw_432)) (fun _ h9 => h9) rfl dX4_reckon_207 ?_
            refine lv_aload_n hx hb dX4_reckon_210 rfl (lv_at hl 2 rfl) ?_
            refine va_get (D := D) (ci := 4) (v := .ref (am 8)) (C := RX4) (T := TX4) (N := 17) hx hb hts (fun w h => List.mem_cons_of_mem _ (uw_X4 w h)) hown hK (j_P1 hm0) 0 rfl rfl 9 (by decide) (hts _ (List.mem_cons_of_mem _ kw_427)) (fun _ h9 => h9) rfl dX4_reckon_211 ?_
            refine jv_iconst hx hb dX4_reckon_214 ?_
            refine lv_iload_n hx hb dX4_reckon_215 rfl (lv_at hl 3 rfl) ?_
            refine jv_imul hx hb dX4_reckon_216 ?_
            refine lv_iload_n hx hb dX4_reckon_217 rfl (lv_at hl 4 rfl) ?_
            refine jv_iadd hx hb dX4_reckon_218 ?_
            refine jv_iald (i := (4 * d + o)) hx hb hK hm8 0 rfl (by omega) (by omega) (by decide) dX4_reckon_219 ?_
            rw [s7.2]
            refine jv_i2l hx hb dX4_reckon_220 (by omega) ?_
            refine jv_lmul hx hb dX4_reckon_221 ?_
            refine jv_ladd hx hb dX4_reckon_222 ?_
            refine jv_put (D := D) (ci := 4) (v := .long (jL ((((bL z d j) * ((bS z d o) * ((bP z d (j + 1)) - (bP z d j)))) + (((bL z d (j + 1)) - (bL z d j)) * ((100 * I) - ((bS z d o) * (bP z d j))))) + (((bS z d o) * ((bP z d (j + 1)) - (bP z d j))) * (bD z d o))))) (ty := .long) (C := RX4) (T := TX4) (N := 17) hx hb hts (fun w h => List.mem_cons_of_mem _ (uw_X4 w h)) tyX4 tyX4_ok nmX4 hown hK hm0 rfl 13 (by decide) (hts _ (List.mem_cons_of_mem _ kw_431)) (fun _ h9 => h9) rfl (by decide +kernel) rfl rfl (Nat.le_of_ble_eq_true rfl) dX4_reckon_223 (fun H f9 hn9 hz9 oq9 => ?_)
            have hPic : mW D g am cd dv vo ((((bL z d j) * ((bS z d o) * ((bP z d (j + 1)) - (bP z d j)))) + (((bL z d (j + 1)) - (bL z d j)) * ((100 * I) - ((bS z d o) * (bP z d j))))) + (((bS z d o) * ((bP z d (j + 1)) - (bP z d j))) * (bD z d o))) ((bS z d o) * ((bP z d (j + 1)) - (bP z d j))) AA H := mW_obj hj hPic oq9 hn9
            have hT0 := hT0.put 0 (by omega) hz9 oq9 (f := f9)
            have hm0 := hPic.1
            have hm1 : va_at D vwCl (am 1, .inl (g 0, 8, .inl (fun j => jI (AA 1 j)))) H := hPic.2 1 (by omega) (by omega)
            have hm2 : va_at D vwCl (am 2, .inl (g 0, 8, .inl (fun j => jI (AA 2 j)))) H := hPic.2 2 (by omega) (by omega)
            have hm3 : va_at D vwCl (am 3, .inl (g 0, 48, .inl (fun j => jI (AA 3 j)))) H := hPic.2 3 (by omega) (by omega)
            have hm4 : va_at D vwCl (am 4, .inl (g 0, 48, .inl (fun j => jI (AA 4 j)))) H := hPic.2 4 (by omega) (by omega)
            have hm5 : va_at D vwCl (am 5, .inl (g 0, 48, .inl (fun j => jI (AA 5 j)))) H := hPic.2 5 (by omega) (by omega)
            have hm6 : va_at D vwCl (am 6, .inl (g 0, 8, .inl (fun j => jI (AA 6 j)))) H := hPic.2 6 (by omega) (by omega)
            have hm7 : va_at D vwCl (am 7, .inl (g 0, 32, .inl (fun j => jI (AA 7 j)))) H := hPic.2 7 (by omega) (by omega)
            have hm8 : va_at D vwCl (am 8, .inl (g 0, 32, .inl (fun j => jI (AA 8 j)))) H := hPic.2 8 (by omega) (by omega)
            have hm9 : va_at D vwCl (am 9, .inl (g 0, 8, .inl (fun j => jI (AA 9 j)))) H := hPic.2 9 (by omega) (by omega)
            have hm10 : va_at D vwCl (am 10, .inl (g 0, 8, .inl (fun j => jI (AA 10 j)))) H := hPic.2 10 (by omega) (by omega)
            have hm11 : va_at D vwCl (am 11, .inl (g 0, 128, .inl (fun j => jI (AA 11 j)))) H := hPic.2 11 (by omega) (by omega)
            have hm12 : va_at D vwCl (am 12, .inl (g 0, 8, .inl (fun j => jI (AA 12 j)))) H := hPic.2 12 (by omega) (by omega)
            exact m_vret hx hb hr hlocks dX4_reckon_226 ⟨rfl, rfl, rfl, rfl, (mReck_mid (mo := false) hq (show (j : Int) + 1 < (bK z d : Int) by omega)).1, (mReck_mid (mo := false) hq (show (j : Int) + 1 < (bK z d : Int) by omega)).2⟩ hPic hT0
          · exact absurd c116 (by decide)
      · exact absurd c61 (by decide)
    · refine lv_iinc (v := jI (((6 * (d : Int)) + (j : Int)) + (-1))) (lv' := [(9, .int (jI (((6 * (d : Int)) + (j : Int)) + (-1)))), (0, .ref (am 0)), (1, .int (jI ((d : Int)))), (2, .int (jI ((o : Int)))), (3, .int (jI (I))), (4, .int (jI (bI false))), (5, .long (jL (bS z d o))), (7, .long (jL (100 * I)))]) hx hb dX4_reckon_53 hl (k := 7) rfl (jI_add _ _) (by decide) rfl (fun ls hl => ?_)
      refine lv_goto (tgt := 36) hx hb dX4_reckon_56 (by decide) ?_
      have hj0 : j ≠ 0 := fun h => by subst h; omega
      exact ih (j - 1) ls ⟨⟨by omega, fun i h1 h2 => by by_cases hij : i = j; (· subst hij; exact c49); (· exact hjx i (by omega) h2)⟩, by rw [show (6 * (d : Int)) + ((j - 1 : Nat) : Int) = ((6 * (d : Int)) + (j : Int)) + (-1) by omega]; exact lv_sub hl [1, 2, 3, 4, 5, 6, 7, 0] rfl⟩ (by omega)
  · refine lv_aload_n hx hb dX4_reckon_0 rfl (lv_at hl 0 rfl) ?_
    refine va_get (D := D) (ci := 4) (v := .ref (am 7)) (C := RX4) (T := TX4) (N := 17) hx hb hts (fun w h => List.mem_cons_of_mem _ (uw_X4 w h)) hown hK (j_P1 hm0) 0 rfl rfl 8 (by decide) (hts _ (List.mem_cons_of_mem _ kw_426)) (fun _ h9 => h9) rfl dX4_reckon_1 ?_
    refine jv_iconst hx hb dX4_reckon_4 ?_
    refine lv_iload_n hx hb dX4_reckon_5 rfl (lv_at hl 1 rfl) ?_
    refine jv_imul hx hb dX4_reckon_6 ?_
    refine lv_iload_n hx hb dX4_reckon_7 rfl (lv_at hl 2 rfl) ?_
    refine jv_iadd hx hb dX4_reckon_8 ?_
    refine jv_iald (i := (4 * d + o)) hx hb hK hm7 0 rfl (by omega) (by omega) (by decide) dX4_reckon_9 ?_
    rw [s7.1]
    refine jv_i2l hx hb dX4_reckon_10 (by omega) ?_
    refine lv_lstore (lv' := [(5, .long (jL (bS z d o))), (0, .ref (am 0)), (1, .int (jI ((d : Int)))), (2, .int (jI ((o : Int)))), (3, .int (jI (I))), (4, .int (jI (bI true)))]) hx hb dX4_reckon_11 hl (by decide) rfl (fun ls hl => ?_)
    refine jv_ldc2 (k := 100) hx hb hown (hts _ (List.mem_cons_of_mem _ kw_510)) (by decide) dX4_reckon_13 ?_
    refine lv_iload_n hx hb dX4_reckon_16 rfl (lv_at hl 4 rfl) ?_
    refine jv_i2l hx hb dX4_reckon_17 (by omega) ?_
    refine jv_lmul hx hb dX4_reckon_18 ?_
    refine lv_lstore (lv' := [(7, .long (jL (100 * I))), (5, .long (jL (bS z d o))), (0, .ref (am 0)), (1, .int (jI ((d : Int)))), (2, .int (jI ((o : Int)))), (3, .int (jI (I))), (4, .int (jI (bI true)))]) hx hb dX4_reckon_19 hl (by decide) rfl (fun ls hl => ?_)
    refine jv_bipush hx hb dX4_reckon_21 (by decide) ?_
    refine lv_iload_n hx hb dX4_reckon_23 rfl (lv_at hl 3 rfl) ?_
    refine jv_imul hx hb dX4_reckon_24 ?_
    refine lv_aload_n hx hb dX4_reckon_25 rfl (lv_at hl 2 rfl) ?_
    refine va_get (D := D) (ci := 4) (v := .ref (am 2)) (C := RX4) (T := TX4) (N := 17) hx hb hts (fun w h => List.mem_cons_of_mem _ (uw_X4 w h)) hown hK (j_P1 hm0) 0 rfl rfl 3 (by decide) (hts _ (List.mem_cons_of_mem _ kw_421)) (fun _ h9 => h9) rfl dX4_reckon_26 ?_
    refine lv_iload_n hx hb dX4_reckon_29 rfl (lv_at hl 3 rfl) ?_
    refine jv_iald (i := d) hx hb hK hm2 0 rfl (by omega) (by omega) (by decide) dX4_reckon_30 ?_
    rw [e2_d]
    refine jv_iadd hx hb dX4_reckon_31 ?_
    refine jv_iconst hx hb dX4_reckon_32 ?_
    refine jv_isub hx hb dX4_reckon_33 ?_
    refine lv_istore (lv' := [(9, .int (jI (((6 * (d : Int)) + (bK z d : Int)) - 1))), (7, .long (jL (100 * I))), (5, .long (jL (bS z d o))), (0, .ref (am 0)), (1, .int (jI ((d : Int)))), (2, .int (jI ((o : Int)))), (3, .int (jI (I))), (4, .int (jI (bI true)))]) hx hb dX4_reckon_34 hl (by decide) rfl (fun ls hl => ?_)
    refine jw_loop (X := Nat) (fun j => j) (fun j ls => (j < bK z d ∧ ∀ i, j < i → i < bK z d → 100 * I < bS z d o * bP z d i) ∧ lv_has ls 14 [(0, .ref (am 0)), (1, .int (jI ((d : Int)))), (2, .int (jI ((o : Int)))), (3, .int (jI (I))), (4, .int (jI (bI true))), (5, .long (jL (bS z d o))), (7, .long (jL (100 * I))), (9, .int (jI ((6 * (d : Int)) + (j : Int))))]) ?_ (bK z d - 1) ls ⟨⟨by omega, fun i h1 h2 => by omega⟩, by rw [show (6 * (d : Int)) + ((bK z d - 1 : Nat) : Int) = ((6 * (d : Int)) + (bK z d : Int)) - 1 by omega]; exact lv_sub hl [3, 4, 5, 6, 7, 2, 1, 0] rfl⟩
    intro j ls hinv ih
    obtain ⟨⟨hjn, hjx⟩, hl⟩ := hinv
    have s3 : AA 3 (6 * d + j) = bP z d j := (e3_d j hjn).1
    have s4 : AA 4 (6 * d + j) = bL z d j := (e3_d j hjn).2.1
    have s5 : AA 5 (6 * d + j) = bM z d j := (e3_d j hjn).2.2
    have fj := fP j hjn
    have gj := fQ j hjn
    have tj : 0 ≤ bM z d j ∧ bM z d j ≤ 100000 := fT j true hjn
    refine lv_lload hx hb dX4_reckon_36 (lv_at hl 6 rfl) ?_
    refine lv_lload hx hb dX4_reckon_38 (lv_at hl 5 rfl) ?_
    refine lv_aload_n hx hb dX4_reckon_40 rfl (lv_at hl 0 rfl) ?_
    refine va_get (D := D) (ci := 4) (v := .ref (am 3)) (C := RX4) (T := TX4) (N := 17) hx hb hts (fun w h => List.mem_cons_of_mem _ (uw_X4 w h)) hown hK (j_P1 hm0) 0 rfl rfl 4 (by decide) (hts _ (List.mem_cons_of_mem _ kw_422)) (fun _ h9 => h9) rfl dX4_reckon_41 ?_
    refine lv_iload hx hb dX4_reckon_44 (lv_at hl 7 rfl) ?_
    refine jv_iald (i := (6 * d + j)) hx hb hK hm3 0 rfl (by omega) (by omega) (by decide) dX4_reckon_46 ?_
    rw [s3]
    refine jv_i2l hx hb dX4_reckon_47 (by omega) ?_
    refine jv_lmul hx hb dX4_reckon_48 ?_
    refine jv_lcmp_ge (tgt := 59) hx hb dX4_reckon_49 dX4_reckon_50 (by decide) (by omega) (by omega) (fun c49 => ?_) (fun c49 => ?_)
    · have hq : cPiece (bSet z d o) I = (j : Int) := mPiece_of ok hjn c49 hjx
      refine lv_iload hx hb dX4_reckon_59 (lv_at hl 4 rfl) ?_
      refine jv_if_eq (tgt := 75) hx hb dX4_reckon_61 (by decide) (by decide) (fun c61 => ?_) (fun c61 => ?_)
      · exact absurd c61 (by decide)
      · refine lv_aload_n hx hb dX4_reckon_64 rfl (lv_at hl 0 rfl) ?_
        refine va_get (D := D) (ci := 4) (v := .ref (am 5)) (C := RX4) (T := TX4) (N := 17) hx hb hts (fun w h => List.mem_cons_of_mem _ (uw_X4 w h)) hown hK (j_P1 hm0) 0 rfl rfl 6 (by decide) (hts _ (List.mem_cons_of_mem _ kw_424)) (fun _ h9 => h9) rfl dX4_reckon_65 ?_
        refine lv_iload hx hb dX4_reckon_68 (lv_at hl 7 rfl) ?_
        refine jv_iald (i := (6 * d + j)) hx hb hK hm5 0 rfl (by omega) (by omega) (by decide) dX4_reckon_70 ?_
        rw [s5]
        refine jv_i2l hx hb dX4_reckon_71 (by omega) ?_
        refine lv_goto (tgt := 83) hx hb dX4_reckon_72 (by decide) ?_
        refine lv_lstore (lv' := [(10, .long (jL (bM z d j))), (0, .ref (am 0)), (1, .int (jI ((d : Int)))), (2, .int (jI ((o : Int)))), (3, .int (jI (I))), (4, .int (jI (bI true))), (5, .long (jL (bS z d o))), (7, .long (jL (100 * I))), (9, .int (jI ((6 * (d : Int)) + (j : Int))))]) hx hb dX4_reckon_83 hl (by decide) rfl (fun ls hl => ?_)
        refine lv_aload_n hx hb dX4_reckon_85 rfl (lv_at hl 1 rfl) ?_
        refine lv_lload hx hb dX4_reckon_86 (lv_at hl 0 rfl) ?_
        refine jv_put (D := D) (ci := 4) (v := .long (jL (bM z d j))) (ty := .long) (C := RX4) (T := TX4) (N := 17) hx hb hts (fun w h => List.mem_cons_of_mem _ (uw_X4 w h)) tyX4 tyX4_ok nmX4 hown hK hm0 rfl 13 (by decide) (hts _ (List.mem_cons_of_mem _ kw_431)) (fun _ h9 => h9) rfl (by decide +kernel) rfl rfl (Nat.le_of_ble_eq_true rfl) dX4_reckon_88 (fun H f9 hn9 hz9 oq9 => ?_)
        have hPic : mW D g am cd dv vo (bM z d j) be AA H := mW_obj hj hPic oq9 hn9
        have hT0 := hT0.put 0 (by omega) hz9 oq9 (f := f9)
        have hm0 := hPic.1
        have hm1 : va_at D vwCl (am 1, .inl (g 0, 8, .inl (fun j => jI (AA 1 j)))) H := hPic.2 1 (by omega) (by omega)
        have hm2 : va_at D vwCl (am 2, .inl (g 0, 8, .inl (fun j => jI (AA 2 j)))) H := hPic.2 2 (by omega) (by omega)
        have hm3 : va_at D vwCl (am 3, .inl (g 0, 48, .inl (fun j => jI (AA 3 j)))) H := hPic.2 3 (by omega) (by omega)
        have hm4 : va_at D vwCl (am 4, .inl (g 0, 48, .inl (fun j => jI (AA 4 j)))) H := hPic.2 4 (by omega) (by omega)
        have hm5 : va_at D vwCl (am 5, .inl (g 0, 48, .inl (fun j => jI (AA 5 j)))) H := hPic.2 5 (by omega) (by omega)
        have hm6 : va_at D vwCl (am 6, .inl (g 0, 8, .inl (fun j => jI (AA 6 j)))) H := hPic.2 6 (by omega) (by omega)
        have hm7 : va_at D vwCl (am 7, .inl (g 0, 32, .inl (fun j => jI (AA 7 j)))) H := hPic.2 7 (by omega) (by omega)
        have hm8 : va_at D vwCl (am 8, .inl (g 0, 32, .inl (fun j => jI (AA 8 j)))) H := hPic.2 8 (by omega) (by omega)
        have hm9 : va_at D vwCl (am 9, .inl (g 0, 8, .inl (fun j => jI (AA 9 j)))) H := hPic.2 9 (by omega) (by omega)
        have hm10 : va_at D vwCl (am 10, .inl (g 0, 8, .inl (fun j => jI (AA 10 j)))) H := hPic.2 10 (by omega) (by omega)
        have hm11 : va_at D vwCl (am 11, .inl (g 0, 128, .inl (fun j => jI (AA 11 j)))) H := hPic.2 11 (by omega) (by omega)
        have hm12 : va_at D vwCl (am 12, .inl (g 0, 8, .inl (fun j => jI (AA 12 j)))) H := hPic.2 12 (by omega) (by omega)
        refine lv_aload_n hx hb dX4_reckon_91 rfl (lv_at hl 1 rfl) ?_
        refine jv_lconst (k := 1) hx hb dX4_reckon_92 (by decide) ?_
        refine jv_put (D := D) (ci := 4) (v := .long (jL (1))) (ty := .long) (C := RX4) (T := TX4) (N := 17) hx hb hts (fun w h => List.mem_cons_of_mem _ (uw_X4 w h)) tyX4 tyX4_ok nmX4 hown hK hm0 rfl 14 (by decide) (hts _ (List.mem_cons_of_mem _ kw_432)) (fun _ h9 => h9) rfl (by decide +kernel) rfl rfl (Nat.le_of_ble_eq_true rfl) dX4_reckon_93 (fun H f9 hn9 hz9 oq9 => ?_)
        have hPic : mW D g am cd dv vo (bM z d j) 1 AA H := mW_obj hj hPic oq9 hn9
        have hT0 := hT0.put 0 (by omega) hz9 oq9 (f := f9)
        have hm0 := hPic.1
        have hm1 : va_at D vwCl (am 1, .inl (g 0, 8, .inl (fun j => jI (AA 1 j)))) H := hPic.2 1 (by omega) (by omega)
        have hm2 : va_at D vwCl (am 2, .inl (g 0, 8, .inl (fun j => jI (AA 2 j)))) H := hPic.2 2 (by omega) (by omega)
        have hm3 : va_at D vwCl (am 3, .inl (g 0, 48, .inl (fun j => jI (AA 3 j)))) H := hPic.2 3 (by omega) (by omega)
        have hm4 : va_at D vwCl (am 4, .inl (g 0, 48, .inl (fun j => jI (AA 4 j)))) H := hPic.2 4 (by omega) (by omega)
        have hm5 : va_at D vwCl (am 5, .inl (g 0, 48, .inl (fun j => jI (AA 5 j)))) H := hPic.2 5 (by omega) (by omega)
        have hm6 : va_at D vwCl (am 6, .inl (g 0, 8, .inl (fun j => jI (AA 6 j)))) H := hPic.2 6 (by omega) (by omega)
        have hm7 : va_at D vwCl (am 7, .inl (g 0, 32, .inl (fun j => jI (AA 7 j)))) H := hPic.2 7 (by omega) (by omega)
        have hm8 : va_at D vwCl (am 8, .inl (g 0, 32, .inl (fun j => jI (AA 8 j)))) H := hPic.2 8 (by omega) (by omega)
        have hm9 : va_at D vwCl (am 9, .inl (g 0, 8, .inl (fun j => jI (AA 9 j)))) H := hPic.2 9 (by omega) (by omega)
        have hm10 : va_at D vwCl (am 10, .inl (g 0, 8, .inl (fun j => jI (AA 10 j)))) H := hPic.2 10 (by omega) (by omega)
        have hm11 : va_at D vwCl (am 11, .inl (g 0, 128, .inl (fun j => jI (AA 11 j)))) H := hPic.2 11 (by omega) (by omega)
        have hm12 : va_at D vwCl (am 12, .inl (g 0, 8, .inl (fun j => jI (AA 12 j)))) H := hPic.2 12 (by omega) (by omega)
        refine lv_iload hx hb dX4_reckon_96 (lv_at hl 8 rfl) ?_
        refine jv_bipush hx hb dX4_reckon_98 (by decide) ?_
        refine lv_iload_n hx hb dX4_reckon_100 rfl (lv_at hl 2 rfl) ?_
        refine jv_imul hx hb dX4_reckon_101 ?_
        refine lv_aload_n hx hb dX4_reckon_102 rfl (lv_at hl 1 rfl) ?_
        refine va_get (D := D) (ci := 4) (v := .ref (am 2)) (C := RX4) (T := TX4) (N := 17) hx hb hts (fun w h => List.mem_cons_of_mem _ (uw_X4 w h)) hown hK (j_P1 hm0) 0 rfl rfl 3 (by decide) (hts _ (List.mem_cons_of_mem _ kw_421)) (fun _ h9 => h9) rfl dX4_reckon_103 ?_
        refine lv_iload_n hx hb dX4_reckon_106 rfl (lv_at hl 2 rfl) ?_
        refine jv_iald (i := d) hx hb hK hm2 0 rfl (by omega) (by omega) (by decide) dX4_reckon_107 ?_
        rw [e2_d]
        refine jv_iadd hx hb dX4_reckon_108 ?_
        refine jv_iconst hx hb dX4_reckon_109 ?_
        refine jv_isub hx hb dX4_reckon_110 ?_
        refine jv_icmp_ge (tgt := 201) hx hb dX4_reckon_111 (by decide) (by omega) (by omega) (fun c111 => ?_) (fun c111 => ?_)
        · refine lv_aload_n hx hb dX4_reckon_201 rfl (lv_at hl 1 rfl) ?_
          refine lv_dup hx hb dX4_reckon_202 rfl ?_
          refine va_get (D := D) (ci := 4) (v := .long (jL (bM z d j))) (C := RX4) (T := TX4) (N := 17) hx hb hts (fun w h => List.mem_cons_of_mem _ (uw_X4 w h)) hown hK (j_P1 hm0) 0 rfl rfl 13 (by decide) (hts _ (List.mem_cons_of_mem _ kw_431)) (fun _ h9 => h9) rfl dX4_reckon_203 ?_
          refine lv_aload_n hx hb dX4_reckon_206 rfl (lv_at hl 1 rfl) ?_
          refine va_get (D := D) (ci := 4) (v := .long (jL (1))) (C := RX4) (T := TX4) (N := 17) hx hb hts (fun w h => List.mem_cons_of_mem _ (uw_X4 w h)) hown hK (j_P1 hm0) 0 rfl rfl 14 (by decide) (hts _ (List.mem_cons_of_mem _ kw_432)) (fun _ h9 => h9) rfl dX4_reckon_207 ?_
          refine lv_aload_n hx hb dX4_reckon_210 rfl (lv_at hl 1 rfl) ?_
          refine va_get (D := D) (ci := 4) (v := .ref (am 8)) (C := RX4) (T := TX4) (N := 17) hx hb hts (fun w h => List.mem_cons_of_mem _ (uw_X4 w h)) hown hK (j_P1 hm0) 0 rfl rfl 9 (by decide) (hts _ (List.mem_cons_of_mem _ kw_427)) (fun _ h9 => h9) rfl dX4_reckon_211 ?_
          refine jv_iconst hx hb dX4_reckon_214 ?_
          refine lv_iload_n hx hb dX4_reckon_215 rfl (lv_at hl 2 rfl) ?_
          refine jv_imul hx hb dX4_reckon_216 ?_
          refine lv_iload_n hx hb dX4_reckon_217 rfl (lv_at hl 3 rfl) ?_
          refine jv_iadd hx hb dX4_reckon_218 ?_
          refine jv_iald (i := (4 * d + o)) hx hb hK hm8 0 rfl (by omega) (by omega) (by decide) dX4_reckon_219 ?_
          rw [s7.2]
          refine jv_i2l hx hb dX4_reckon_220 (by omega) ?_
          refine jv_lmul hx hb dX4_reckon_221 ?_
          refine jv_ladd hx hb dX4_reckon_222 ?_
          refine jv_put (D := D) (ci := 4) (v := .long (jL ((bM z d j) + (1 * (bD z d o))))) (ty := .long) (C := RX4) (T := TX4) (N := 17) hx hb hts (fun w h => List.mem_cons_of_mem _ (uw_X4 w h)) tyX4 tyX4_ok nmX4 hown hK hm0 rfl 13 (by decide) (hts _ (List.mem_cons_of_mem _ kw_431)) (fun _ h9 => h9) rfl (by decide +kernel) rfl rfl (Nat.le_of_ble_eq_true rfl) dX4_reckon_223 (fun H f9 hn9 hz9 oq9 => ?_)
          have hPic : mW D g am cd dv vo ((bM z d j) + (1 * (bD z d o))) 1 AA H := mW_obj hj hPic oq9 hn9
          have hT0 := hT0.put 0 (by omega) hz9 oq9 (f := f9)
          have hm0 := hPic.1
          have hm1 : va_at D vwCl (am 1, .inl (g 0, 8, .inl (fun j => jI (AA 1 j)))) H := hPic.2 1 (by omega) (by omega)
          have hm2 : va_at D vwCl (am 2, .inl (g 0, 8, .inl (fun j => jI (AA 2 j)))) H := hPic.2 2 (by omega) (by omega)
          have hm3 : va_at D vwCl (am 3, .inl (g 0, 48, .inl (fun j => jI (AA 3 j)))) H := hPic.2 3 (by omega) (by omega)
          have hm4 : va_at D vwCl (am 4, .inl (g 0, 48, .inl (fun j => jI (AA 4 j)))) H := hPic.2 4 (by omega) (by omega)
          have hm5 : va_at D vwCl (am 5, .inl (g 0, 48, .inl (fun j => jI (AA 5 j)))) H := hPic.2 5 (by omega) (by omega)
          have hm6 : va_at D vwCl (am 6, .inl (g 0, 8, .inl (fun j => jI (AA 6 j)))) H := hPic.2 6 (by omega) (by omega)
          have hm7 : va_at D vwCl (am 7, .inl (g 0, 32, .inl (fun j => jI (AA 7 j)))) H := hPic.2 7 (by omega) (by omega)
          have hm8 : va_at D vwCl (am 8, .inl (g 0, 32, .inl (fun j => jI (AA 8 j)))) H := hPic.2 8 (by omega) (by omega)
          have hm9 : va_at D vwCl (am 9, .inl (g 0, 8, .inl (fun j => jI (AA 9 j)))) H := hPic.2 9 (by omega) (by omega)
          have hm10 : va_at D vwCl (am 10, .inl (g 0, 8, .inl (fun j => jI (AA 10 j)))) H := hPic.2 10 (by omega) (by omega)
          have hm11 : va_at D vwCl (am 11, .inl (g 0, 128, .inl (fun j => jI (AA 11 j)))) H := hPic.2 11 (by omega) (by omega)
          have hm12 : va_at D vwCl (am 12, .inl (g 0, 8, .inl (fun j => jI (AA 12 j)))) H := hPic.2 12 (by omega) (by omega)
          exact m_vret hx hb hr hlocks dX4_reckon_226 ⟨rfl, rfl, rfl, rfl, (mReck_last (mo := true) hq (show (bK z d : Int) ≤ (j : Int) + 1 by omega)).1, (mReck_last (mo := true) hq (show (bK z d : Int) ≤ (j : Int) + 1 by omega)).2⟩ hPic hT0
        · have n3 : AA 3 (6 * d + j + 1) = bP z d (j + 1) := (e3_d (j + 1) (by omega)).1
          have n4 : AA 4 (6 * d + j + 1) = bL z d (j + 1) := (e3_d (j + 1) (by omega)).2.1
          have n5 : AA 5 (6 * d + j + 1) = bM z d (j + 1) := (e3_d (j + 1) (by omega)).2.2
          have tn : 0 ≤ bM z d (j + 1) ∧ bM z d (j + 1) ≤ 100000 := fT (j + 1) true (by omega)
          have gn := fQ (j + 1) (by omega)
          refine lv_iload hx hb dX4_reckon_114 (lv_at hl 5 rfl) ?_
          refine jv_if_eq (tgt := 132) hx hb dX4_reckon_116 (by decide) (by decide) (fun c116 => ?_) (fun c116 => ?_)
          · exact absurd c116 (by decide)
          · refine lv_aload_n hx hb dX4_reckon_119 rfl (lv_at hl 1 rfl) ?_
            refine va_get (D := D) (ci := 4) (v := .ref (am 5)) (C := RX4) (T := TX4) (N := 17) hx hb hts (fun w h => List.mem_cons_of_mem _ (uw_X4 w h)) hown hK (j_P1 hm0) 0 rfl rfl 6 (by decide) (hts _ (List.mem_cons_of_mem _ kw_424)) (fun _ h9 => h9) rfl dX4_reckon_120 ?_
            refine lv_iload hx hb dX4_reckon_123 (lv_at hl 8 rfl) ?_
            refine jv_iconst hx hb dX4_reckon_125 ?_
            refine jv_iadd hx hb dX4_reckon_126 ?_
            refine jv_iald (i := (6 * d + j + 1)) hx hb hK hm5 0 rfl (by omega) (by omega) (by decide) dX4_reckon_127 ?_
            rw [n5]
            refine jv_i2l hx hb dX4_reckon_128 (by omega) ?_
            refine lv_goto (tgt := 142) hx hb dX4_reckon_129 (by decide) ?_
            refine lv_lstore (lv' := [(12, .long (jL (bM z d (j + 1)))), (10, .long (jL (bM z d j))), (0, .ref (am 0)), (1, .int (jI ((d : Int)))), (2, .int (jI ((o : Int)))), (3, .int (jI (I))), (4, .int (jI (bI true))), (5, .long (jL (bS z d o))), (7, .long (jL (100 * I))), (9, .int (jI ((6 * (d : Int)) + (j : Int))))]) hx hb dX4_reckon_142 hl (by decide) rfl (fun ls hl => ?_)
            refine lv_aload_n hx hb dX4_reckon_144 rfl (lv_at hl 2 rfl) ?_
            refine lv_lload hx hb dX4_reckon_145 (lv_at hl 7 rfl) ?_
            refine lv_aload_n hx hb dX4_reckon_147 rfl (lv_at hl 2 rfl) ?_
            refine va_get (D := D) (ci := 4) (v := .ref (am 3)) (C := RX4) (T := TX4) (N := 17) hx hb hts (fun w h => List.mem_cons_of_mem _ (uw_X4 w h)) hown hK (j_P1 hm0) 0 rfl rfl 4 (by decide) (hts _ (List.mem_cons_of_mem _ kw_422)) (fun _ h9 => h9) rfl dX4_reckon_148 ?_
            refine lv_iload hx hb dX4_reckon_151 (lv_at hl 9 rfl) ?_
            refine jv_iconst hx hb dX4_reckon_153 ?_
            refine jv_iadd hx hb dX4_reckon_154 ?_
            refine jv_iald (i := (6 * d + j + 1)) hx hb hK hm3 0 rfl (by omega) (by omega) (by decide) dX4_reckon_155 ?_
            rw [n3]
            refine lv_aload_n hx hb dX4_reckon_156 rfl (lv_at hl 2 rfl) ?_
            refine va_get (D := D) (ci := 4) (v := .ref (am 3)) (C := RX4) (T := TX4) (N := 17) hx hb hts (fun w h => List.mem_cons_of_mem _ (uw_X4 w h)) hown hK (j_P1 hm0) 0 rfl rfl 4 (by decide) (hts _ (List.mem_cons_of_mem _ kw_422)) (fun _ h9 => h9) rfl dX4_reckon_157 ?_
            refine lv_iload hx hb dX4_reckon_160 (lv_at hl 9 rfl) ?_
            refine jv_iald (i := (6 * d + j)) hx hb hK hm3 0 rfl (by omega) (by omega) (by decide) dX4_reckon_162 ?_
            rw [s3]
            refine jv_isub hx hb dX4_reckon_163 ?_
            refine jv_i2l hx hb dX4_reckon_164 (by omega) ?_
            refine jv_lmul hx hb dX4_reckon_165 ?_
            refine jv_put (D := D) (ci := 4) (v := .long (jL ((bS z d o) * ((bP z d (j + 1)) - (bP z d j))))) (ty := .long) (C := RX4) (T := TX4) (N := 17) hx hb hts (fun w h => List.mem_cons_of_mem _ (uw_X4 w h)) tyX4 tyX4_ok nmX4 hown hK hm0 rfl 14 (by decide) (hts _ (List.mem_cons_of_mem _ kw_432)) (fun _ h9 => h9) rfl (by decide +kernel) rfl rfl (Nat.le_of_ble_eq_true rfl) dX4_reckon_166 (fun H f9 hn9 hz9 oq9 => ?_)
            have hPic : mW D g am cd dv vo (bM z d j) ((bS z d o) * ((bP z d (j + 1)) - (bP z d j))) AA H := mW_obj hj hPic oq9 hn9
            have hT0 := hT0.put 0 (by omega) hz9 oq9 (f := f9)
            have hm0 := hPic.1
            have hm1 : va_at D vwCl (am 1, .inl (g 0, 8, .inl (fun j => jI (AA 1 j)))) H := hPic.2 1 (by omega) (by omega)
            have hm2 : va_at D vwCl (am 2, .inl (g 0, 8, .inl (fun j => jI (AA 2 j)))) H := hPic.2 2 (by omega) (by omega)
            have hm3 : va_at D vwCl (am 3, .inl (g 0, 48, .inl (fun j => jI (AA 3 j)))) H := hPic.2 3 (by omega) (by omega)
            have hm4 : va_at D vwCl (am 4, .inl (g 0, 48, .inl (fun j => jI (AA 4 j)))) H := hPic.2 4 (by omega) (by omega)
            have hm5 : va_at D vwCl (am 5, .inl (g 0, 48, .inl (fun j => jI (AA 5 j)))) H := hPic.2 5 (by omega) (by omega)
            have hm6 : va_at D vwCl (am 6, .inl (g 0, 8, .inl (fun j => jI (AA 6 j)))) H := hPic.2 6 (by omega) (by omega)
            have hm7 : va_at D vwCl (am 7, .inl (g 0, 32, .inl (fun j => jI (AA 7 j)))) H := hPic.2 7 (by omega) (by omega)
            have hm8 : va_at D vwCl (am 8, .inl (g 0, 32, .inl (fun j => jI (AA 8 j)))) H := hPic.2 8 (by omega) (by omega)
            have hm9 : va_at D vwCl (am 9, .inl (g 0, 8, .inl (fun j => jI (AA 9 j)))) H := hPic.2 9 (by omega) (by omega)
            have hm10 : va_at D vwCl (am 10, .inl (g 0, 8, .inl (fun j => jI (AA 10 j)))) H := hPic.2 10 (by omega) (by omega)
            have hm11 : va_at D vwCl (am 11, .inl (g 0, 128, .inl (fun j => jI (AA 11 j)))) H := hPic.2 11 (by omega) (by omega)
            have hm12 : va_at D vwCl (am 12, .inl (g 0, 8, .inl (fun j => jI (AA 12 j)))) H := hPic.2 12 (by omega) (by omega)
            refine lv_aload_n hx hb dX4_reckon_169 rfl (lv_at hl 2 rfl) ?_
            refine lv_lload hx hb dX4_reckon_170 (lv_at hl 1 rfl) ?_
            refine lv_aload_n hx hb dX4_reckon_172 rfl (lv_at hl 2 rfl) ?_
            refine va_get (D := D) (ci := 4) (v := .long (jL ((bS z d o) * ((bP z d (j + 1)) - (bP z d j))))) (C := RX4) (T := TX4) (N := 17) hx hb hts (fun w h => List.mem_cons_of_mem _ (uw_X4 w h)) hown hK (j_P1 hm0) 0 rfl rfl 14 (by decide) (hts _ (List.mem_cons_of_mem _ kw_432)) (fun _ h9 => h9) rfl dX4_reckon_173 ?_
            refine jv_lmul hx hb dX4_reckon_176 ?_
            refine lv_lload hx hb dX4_reckon_177 (lv_at hl 0 rfl) ?_
            refine lv_lload hx hb dX4_reckon_179 (lv_at hl 1 rfl) ?_
            refine jv_lsub hx hb dX4_reckon_181 ?_
            refine lv_lload hx hb dX4_reckon_182 (lv_at hl 8 rfl) ?_
            refine lv_lload hx hb dX4_reckon_184 (lv_at hl 7 rfl) ?_
            refine lv_aload_n hx hb dX4_reckon_186 rfl (lv_at hl 2 rfl) ?_
            refine va_get (D := D) (ci := 4) (v := .ref (am 3)) (C := RX4) (T := TX4) (N := 17) hx hb hts (fun w h => List.mem_cons_of_mem _ (uw_X4 w h)) hown hK (j_P1 hm0) 0 rfl rfl 4 (by decide) (hts _ (List.mem_cons_of_mem _ kw_422)) (fun _ h9 => h9) rfl dX4_reckon_187 ?_
            refine lv_iload hx hb dX4_reckon_190 (lv_at hl 9 rfl) ?_
            refine jv_iald (i := (6 * d + j)) hx hb hK hm3 0 rfl (by omega) (by omega) (by decide) dX4_reckon_192 ?_
            rw [s3]
            refine jv_i2l hx hb dX4_reckon_193 (by omega) ?_
            refine jv_lmul hx hb dX4_reckon_194 ?_
            refine jv_lsub hx hb dX4_reckon_195 ?_
            refine jv_lmul hx hb dX4_reckon_196 ?_
            refine jv_ladd hx hb dX4_reckon_197 ?_
            refine jv_put (D := D) (ci := 4) (v := .long (jL (((bM z d j) * ((bS z d o) * ((bP z d (j + 1)) - (bP z d j)))) + (((bM z d (j + 1)) - (bM z d j)) * ((100 * I) - ((bS z d o) * (bP z d j))))))) (ty := .long) (C := RX4) (T := TX4) (N := 17) hx hb hts (fun w h => List.mem_cons_of_mem _ (uw_X4 w h)) tyX4 tyX4_ok nmX4 hown hK hm0 rfl 13 (by decide) (hts _ (List.mem_cons_of_mem _ kw_431)) (fun _ h9 => h9) rfl (by decide +kernel) rfl rfl (Nat.le_of_ble_eq_true rfl) dX4_reckon_198 (fun H f9 hn9 hz9 oq9 => ?_)
            have hPic : mW D g am cd dv vo (((bM z d j) * ((bS z d o) * ((bP z d (j + 1)) - (bP z d j)))) + (((bM z d (j + 1)) - (bM z d j)) * ((100 * I) - ((bS z d o) * (bP z d j))))) ((bS z d o) * ((bP z d (j + 1)) - (bP z d j))) AA H := mW_obj hj hPic oq9 hn9
            have hT0 := hT0.put 0 (by omega) hz9 oq9 (f := f9)
            have hm0 := hPic.1
            have hm1 : va_at D vwCl (am 1, .inl (g 0, 8, .inl (fun j => jI (AA 1 j)))) H := hPic.2 1 (by omega) (by omega)
            have hm2 : va_at D vwCl (am 2, .inl (g 0, 8, .inl (fun j => jI (AA 2 j)))) H := hPic.2 2 (by omega) (by omega)
            have hm3 : va_at D vwCl (am 3, .inl (g 0, 48, .inl (fun j => jI (AA 3 j)))) H := hPic.2 3 (by omega) (by omega)
            have hm4 : va_at D vwCl (am 4, .inl (g 0, 48, .inl (fun j => jI (AA 4 j)))) H := hPic.2 4 (by omega) (by omega)
            have hm5 : va_at D vwCl (am 5, .inl (g 0, 48, .inl (fun j => jI (AA 5 j)))) H := hPic.2 5 (by omega) (by omega)
            have hm6 : va_at D vwCl (am 6, .inl (g 0, 8, .inl (fun j => jI (AA 6 j)))) H := hPic.2 6 (by omega) (by omega)
            have hm7 : va_at D vwCl (am 7, .inl (g 0, 32, .inl (fun j => jI (AA 7 j)))) H := hPic.2 7 (by omega) (by omega)
            have hm8 : va_at D vwCl (am 8, .inl (g 0, 32, .inl (fun j => jI (AA 8 j)))) H := hPic.2 8 (by omega) (by omega)
            have hm9 : va_at D vwCl (am 9, .inl (g 0, 8, .inl (fun j => jI (AA 9 j)))) H := hPic.2 9 (by omega) (by omega)
            have hm10 : va_at D vwCl (am 10, .inl (g 0, 8, .inl (fun j => jI (AA 10 j)))) H := hPic.2 10 (by omega) (by omega)
            have hm11 : va_at D vwCl (am 11, .inl (g 0, 128, .inl (fun j => jI (AA 11 j)))) H := hPic.2 11 (by omega) (by omega)
            have hm12 : va_at D vwCl (am 12, .inl (g 0, 8, .inl (fun j => jI (AA 12 j)))) H := hPic.2 12 (by omega) (by omega)
            refine lv_aload_n hx hb dX4_reckon_201 rfl (lv_at hl 2 rfl) ?_
            refine lv_dup hx hb dX4_reckon_202 rfl ?_
            refine va_get (D := D) (ci := 4) (v := .long (jL (((bM z d j) * ((bS z d o) * ((bP z d (j + 1)) - (bP z d j)))) + (((bM z d (j + 1)) - (bM z d j)) * ((100 * I) - ((bS z d o) * (bP z d j))))))) (C := RX4) (T := TX4) (N := 17) hx hb hts (fun w h => List.mem_cons_of_mem _ (uw_X4 w h)) hown hK (j_P1 hm0) 0 rfl rfl 13 (by decide) (hts _ (List.mem_cons_of_mem _ kw_431)) (fun _ h9 => h9) rfl dX4_reckon_203 ?_
            refine lv_aload_n hx hb dX4_reckon_206 rfl (lv_at hl 2 rfl) ?_
            refine va_get (D := D) (ci := 4) (v := .long (jL ((bS z d o) * ((bP z d (j + 1)) - (bP z d j))))) (C := RX4) (T := TX4) (N := 17) hx hb hts (fun w h => List.mem_cons_of_mem _ (uw_X4 w h)) hown hK (j_P1 hm0) 0 rfl rfl 14 (by decide) (hts _ (List.mem_cons_of_mem _ kw_432)) (fun _ h9 => h9) rfl dX4_reckon_207 ?_
            refine lv_aload_n hx hb dX4_reckon_210 rfl (lv_at hl 2 rfl) ?_
            refine va_get (D := D) (ci := 4) (v := .ref (am 8)) (C := RX4) (T := TX4) (N := 17) hx hb hts (fun w h => List.mem_cons_of_mem _ (uw_X4 w h)) hown hK (j_P1 hm0) 0 rfl rfl 9 (by decide) (hts _ (List.mem_cons_of_mem _ kw_427)) (fun _ h9 => h9) rfl dX4_reckon_211 ?_
            refine jv_iconst hx hb dX4_reckon_214 ?_
            refine lv_iload_n hx hb dX4_reckon_215 rfl (lv_at hl 3 rfl) ?_
            refine jv_imul hx hb dX4_reckon_216 ?_
            refine lv_iload_n hx hb dX4_reckon_217 rfl (lv_at hl 4 rfl) ?_
            refine jv_iadd hx hb dX4_reckon_218 ?_
            refine jv_iald (i := (4 * d + o)) hx hb hK hm8 0 rfl (by omega) (by omega) (by decide) dX4_reckon_219 ?_
            rw [s7.2]
            refine jv_i2l hx hb dX4_reckon_220 (by omega) ?_
            refine jv_lmul hx hb dX4_reckon_221 ?_
            refine jv_ladd hx hb dX4_reckon_222 ?_
            refine jv_put (D := D) (ci := 4) (v := .long (jL ((((bM z d j) * ((bS z d o) * ((bP z d (j + 1)) - (bP z d j)))) + (((bM z d (j + 1)) - (bM z d j)) * ((100 * I) - ((bS z d o) * (bP z d j))))) + (((bS z d o) * ((bP z d (j + 1)) - (bP z d j))) * (bD z d o))))) (ty := .long) (C := RX4) (T := TX4) (N := 17) hx hb hts (fun w h => List.mem_cons_of_mem _ (uw_X4 w h)) tyX4 tyX4_ok nmX4 hown hK hm0 rfl 13 (by decide) (hts _ (List.mem_cons_of_mem _ kw_431)) (fun _ h9 => h9) rfl (by decide +kernel) rfl rfl (Nat.le_of_ble_eq_true rfl) dX4_reckon_223 (fun H f9 hn9 hz9 oq9 => ?_)
            have hPic : mW D g am cd dv vo ((((bM z d j) * ((bS z d o) * ((bP z d (j + 1)) - (bP z d j)))) + (((bM z d (j + 1)) - (bM z d j)) * ((100 * I) - ((bS z d o) * (bP z d j))))) + (((bS z d o) * ((bP z d (j + 1)) - (bP z d j))) * (bD z d o))) ((bS z d o) * ((bP z d (j + 1)) - (bP z d j))) AA H := mW_obj hj hPic oq9 hn9
            have hT0 := hT0.put 0 (by omega) hz9 oq9 (f := f9)
            have hm0 := hPic.1
            have hm1 : va_at D vwCl (am 1, .inl (g 0, 8, .inl (fun j => jI (AA 1 j)))) H := hPic.2 1 (by omega) (by omega)
            have hm2 : va_at D vwCl (am 2, .inl (g 0, 8, .inl (fun j => jI (AA 2 j)))) H := hPic.2 2 (by omega) (by omega)
            have hm3 : va_at D vwCl (am 3, .inl (g 0, 48, .inl (fun j => jI (AA 3 j)))) H := hPic.2 3 (by omega) (by omega)
            have hm4 : va_at D vwCl (am 4, .inl (g 0, 48, .inl (fun j => jI (AA 4 j)))) H := hPic.2 4 (by omega) (by omega)
            have hm5 : va_at D vwCl (am 5, .inl (g 0, 48, .inl (fun j => jI (AA 5 j)))) H := hPic.2 5 (by omega) (by omega)
            have hm6 : va_at D vwCl (am 6, .inl (g 0, 8, .inl (fun j => jI (AA 6 j)))) H := hPic.2 6 (by omega) (by omega)
            have hm7 : va_at D vwCl (am 7, .inl (g 0, 32, .inl (fun j => jI (AA 7 j)))) H := hPic.2 7 (by omega) (by omega)
            have hm8 : va_at D vwCl (am 8, .inl (g 0, 32, .inl (fun j => jI (AA 8 j)))) H := hPic.2 8 (by omega) (by omega)
            have hm9 : va_at D vwCl (am 9, .inl (g 0, 8, .inl (fun j => jI (AA 9 j)))) H := hPic.2 9 (by omega) (by omega)
            have hm10 : va_at D vwCl (am 10, .inl (g 0, 8, .inl (fun j => jI (AA 10 j)))) H := hPic.2 10 (by omega) (by omega)
            have hm11 : va_at D vwCl (am 11, .inl (g 0, 128, .inl (fun j => jI (AA 11 j)))) H := hPic.2 11 (by omega) (by omega)
            have hm12 : va_at D vwCl (am 12, .inl (g 0, 8, .inl (fun j => jI (AA 12 j)))) H := hPic.2 12 (by omega) (by omega)
            exact m_vret hx hb hr hlocks dX4_reckon_226 ⟨rfl, rfl, rfl, rfl, (mReck_mid (mo := true) hq (show (j : Int) + 1 < (bK z d : Int) by omega)).1, (mReck_mid (mo := true) hq (show (j : Int) + 1 < (bK z d : Int) by omega)).2⟩ hPic hT0
    · refine lv_iinc (v := jI (((6 * (d : Int)) + (j : Int)) + (-1))) (lv' := [(9, .int (jI (((6 * (d : Int)) + (j : Int)) + (-1)))), (0, .ref (am 0)), (1, .int (jI ((d : Int)))), (2, .int (jI ((o : Int)))), (3, .int (jI (I))), (4, .int (jI (bI true))), (5, .long (jL (bS z d o))), (7, .long (jL (100 * I)))]) hx hb dX4_reckon_53 hl (k := 7) rfl (jI_add _ _) (by decide) rfl (fun ls hl => ?_)
      refine lv_goto (tgt := 36) hx hb dX4_reckon_56 (by decide) ?_
      have hj0 : j ≠ 0 := fun h => by subst h; omega
      exact ih (j - 1) ls ⟨⟨by omega, fun i h1 h2 => by by_cases hij : i = j; (· subst hij; exact c49); (· exact hjx i (by omega) h2)⟩, by rw [show (6 * (d : Int)) + ((j - 1 : Nat) : Int) = ((6 * (d : Int)) + (j : Int)) + (-1) by omega]; exact lv_sub hl [1, 2, 3, 4, 5, 6, 7, 0] rfl⟩ (by omega)
end
section
theorem mOpen_no {S : jSet} (h : sOK S) {I : Int} (h1 : mOpen S I = false) : cPiece S I = -1 := by
  apply Classical.byContradiction
  intro hn
  rw [(mOpen_piece h I).mpr hn] at h1
  cases h1
set_option maxHeartbeats 4000000 in
set_option maxRecDepth 100000 in
theorem k_isGood (l : Launch) (D : va_G) (g : Nat → ClassId) (am : Nat → Nat) (cd dv vo ab be : Int) (AA : Nat → Nat → Int) (z : bSt) (hz : bOK z) (hR : mR z dv vo AA) (d o u q : Nat) (mg I : Int) (hd : d < bN z) (ho : o < bO z d) (hu : u < bN z) (hq : q < bO z u) (hmg : 0 ≤ mg ∧ mg ≤ 10000) (hI : 0 ≤ I ∧ I ≤ 5000) (hj : mInj am) : Met l yX4_isGood wsX4_isGood ({ frames := 1, cells := 0, slots := 0, locals := 33 }) (pu_Pc [.ref (am 0), .int (jI ((d : Int))), .int (jI ((o : Int))), .int (jI ((u : Int))), .int (jI ((q : Int))), .int (jI (mg)), .int (jI (I))] D vwCl (ty9 g) (fun H => mW D g am cd dv vo ab be AA H)) (mQ D g am (some (.int (jI (bI (cWithin (bSet z d o) true mg (bSet z u q) false I))))) (fun c n v A _ _ => c = cd ∧ n = dv ∧ v = vo ∧ A = AA)) 0 0 (mFr am) := by
  refine Met.ofW (cc := cX4_isGood) (maxL := 11) (ret := some .boolean) (by decide) rfl ?_
  intro p e s m args below meth c s₁ B hml hv
  obtain ⟨rfl, hPic, hK⟩ := hv
  have hx := B.exec
  have hb := B.bytes
  have hr := B.returns
  have hts := atoms_spec (ws := wsX4_isGood) B.pre
  have hown : s.vm.findClass RX4 = some m.cls := findClass_of_methodNamed B.named
  have hlocks := B.notSynchronized
  have hm0 := hPic.1
  have hN := hz.1
  have okS : sOK (bSet z d o) := (hz.2.2.1 d (by omega)).2.2.2.2.2 o ho
  have okT : sOK (bSet z u q) := (hz.2.2.1 u (by omega)).2.2.2.2.2 q hq
  have hl := lv_entry ([.ref (am 0), .int (jI ((d : Int))), .int (jI ((o : Int))), .int (jI ((u : Int))), .int (jI ((q : Int))), .int (jI (mg)), .int (jI (I))]) (n := 11) (Nat.le_of_ble_eq_true rfl)
  rw [lg_entry_eq]
  generalize (lg_sl ([.ref (am 0), .int (jI ((d : Int))), .int (jI ((o : Int))), .int (jI ((u : Int))), .int (jI ((q : Int))), .int (jI (mg)), .int (jI (I))]) ++ List.replicate (11 - (lg_sl ([.ref (am 0), .int (jI ((d : Int))), .int (jI ((o : Int))), .int (jI ((u : Int))), .int (jI ((q : Int))), .int (jI (mg)), .int (jI (I))])).length) Slot.unset).toArray = ls at hl ⊢
  have hl : lv_has ls 11 [(0, .ref (am 0)), (1, .int (jI ((d : Int)))), (2, .int (jI ((o : Int)))), (3, .int (jI ((u : Int)))), (4, .int (jI ((q : Int)))), (5, .int (jI (mg))), (6, .int (jI (I)))] := hl
  have hT0 : mTo am s.heap s.heap [] := mTo.rf
  refine lv_aload_n hx hb dX4_isGood_0 rfl (lv_at hl 0 rfl) ?_
  refine lv_iload_n hx hb dX4_isGood_1 rfl (lv_at hl 3 rfl) ?_
  refine lv_iload hx hb dX4_isGood_2 (lv_at hl 4 rfl) ?_
  refine lv_iload hx hb dX4_isGood_4 (lv_at hl 6 rfl) ?_
  refine pu_call1 (va_runV (As := [.int (jI ((u : Int))), .int (jI ((q : Int))), .int (jI (I))]) (rest := []) ⟨hx, hb, hml, hown, hts⟩ (k_opensAt l D g am cd dv vo ab be AA z hz hR u q I hu hq (by omega)) (cwV 3 hts (gd_V kw_502 kw_504 kw_4 kw_16 kcX4_opensAt) rfl rfl rfl (by decide +kernel) ⟨Nat.le_of_ble_eq_true rfl, Nat.le_of_ble_eq_true rfl⟩) (pu_preV hPic hK rfl hm0) rfl rfl hl.1 rfl (lv_room (Nat.le_of_ble_eq_true rfl)) dX4_isGood_6 ⟨Nat.zero_le _, Nat.zero_le _⟩) ?_
  refine jv_if_ne (tgt := 14) hx hb dX4_isGood_9 (by decide) (bI_rng _) (fun c9 => ?_) (fun c9 => ?_)
  · have pT := (mOpen_piece okT I).mp (bI_tr c9)
    have hoT : 0 < bK z u ∧ bS z u q * bP z u 0 ≤ 100 * I := of_decide_eq_true (bI_tr c9)
    refine lv_aload_n hx hb dX4_isGood_14 rfl (lv_at hl 0 rfl) ?_
    refine lv_iload_n hx hb dX4_isGood_15 rfl (lv_at hl 1 rfl) ?_
    refine lv_iload_n hx hb dX4_isGood_16 rfl (lv_at hl 2 rfl) ?_
    refine lv_iload hx hb dX4_isGood_17 (lv_at hl 6 rfl) ?_
    refine pu_call1 (va_runV (As := [.int (jI ((d : Int))), .int (jI ((o : Int))), .int (jI (I))]) (rest := []) ⟨hx, hb, hml, hown, hts⟩ (k_opensAt l D g am cd dv vo ab be AA z hz hR d o I hd ho (by omega)) (cwV 3 hts (gd_V kw_502 kw_504 kw_4 kw_16 kcX4_opensAt) rfl rfl rfl (by decide +kernel) ⟨Nat.le_of_ble_eq_true rfl, Nat.le_of_ble_eq_true rfl⟩) (pu_preV hPic hK rfl hm0) rfl rfl hl.1 rfl (lv_room (Nat.le_of_ble_eq_true rfl)) dX4_isGood_19 ⟨Nat.zero_le _, Nat.zero_le _⟩) ?_
    refine jv_if_ne (tgt := 27) hx hb dX4_isGood_22 (by decide) (bI_rng _) (fun c22 => ?_) (fun c22 => ?_)
    · have pS := (mOpen_piece okS I).mp (bI_tr c22)
      have hoS : 0 < bK z d ∧ bS z d o * bP z d 0 ≤ 100 * I := of_decide_eq_true (bI_tr c22)
      have fW := cWithin_range (mo := true) (tm := false) okS okT hmg (I := I) pT pS
      refine lv_aload_n hx hb dX4_isGood_27 rfl (lv_at hl 0 rfl) ?_
      refine lv_iload_n hx hb dX4_isGood_28 rfl (lv_at hl 1 rfl) ?_
      refine lv_iload_n hx hb dX4_isGood_29 rfl (lv_at hl 2 rfl) ?_
      refine lv_iload hx hb dX4_isGood_30 (lv_at hl 6 rfl) ?_
      refine jv_iconst hx hb dX4_isGood_32 ?_
      refine m_call (va_runV (As := [.int (jI ((d : Int))), .int (jI ((o : Int))), .int (jI (I)), .int (jI (bI true))]) (rest := []) ⟨hx, hb, hml, hown, hts⟩ (k_reckon l D g am cd dv vo ab be AA z hz hR d o I true hd ho hI hoS hj) (cwV 4 hts (gd_V kw_506 kw_508 kw_5 kw_16 kcX4_reckon) rfl rfl rfl (by decide +kernel) ⟨Nat.le_of_ble_eq_true rfl, Nat.le_of_ble_eq_true rfl⟩) (pu_preV hPic hK rfl hm0) rfl rfl hl.1 rfl (lv_room (Nat.le_of_ble_eq_true rfl)) dX4_isGood_33 ⟨Nat.zero_le _, Nat.zero_le _⟩) hT0 (fun H locs cd9 dv9 vo9 AA9 ab9 be9 hPh hPic hT0 => ?_)
      refine W.eq (g2 := F0 m 36 ls []) rfl ?_
      obtain ⟨q1, q2, q3, q4, q5, q6⟩ := hPh
      rw [q1, q2, q3, q4, q5, q6] at hPic
      have hm0 := hPic.1
      have hm1 : va_at D vwCl (am 1, .inl (g 0, 8, .inl (fun j => jI (AA 1 j)))) H := hPic.2 1 (by omega) (by omega)
      refine lv_aload_n hx hb dX4_isGood_36 rfl (lv_at hl 0 rfl) ?_
      refine va_get (D := D) (ci := 4) (v := .long (jL (cTime (bSet z d o) true (cPiece (bSet z d o) I) (cParts (bSet z d o) (cPiece (bSet z d o) I)) I))) (C := RX4) (T := TX4) (N := 17) hx hb hts (fun w h => List.mem_cons_of_mem _ (uw_X4 w h)) hown hK (j_P1 hm0) 0 rfl rfl 13 (by decide) (hts _ (List.mem_cons_of_mem _ kw_431)) (fun _ h9 => h9) rfl dX4_isGood_37 ?_
      refine lv_iload hx hb dX4_isGood_40 (lv_at hl 5 rfl) ?_
      refine jv_i2l hx hb dX4_isGood_42 (by omega) ?_
      refine lv_aload_n hx hb dX4_isGood_43 rfl (lv_at hl 0 rfl) ?_
      refine va_get (D := D) (ci := 4) (v := .long (jL (cParts (bSet z d o) (cPiece (bSet z d o) I)))) (C := RX4) (T := TX4) (N := 17) hx hb hts (fun w h => List.mem_cons_of_mem _ (uw_X4 w h)) hown hK (j_P1 hm0) 0 rfl rfl 14 (by decide) (hts _ (List.mem_cons_of_mem _ kw_432)) (fun _ h9 => h9) rfl dX4_isGood_44 ?_
      refine jv_lmul hx hb dX4_isGood_47 ?_
      refine jv_ladd hx hb dX4_isGood_48 ?_
      refine lv_lstore (lv' := [(7, .long (jL ((cTime (bSet z d o) true (cPiece (bSet z d o) I) (cParts (bSet z d o) (cPiece (bSet z d o) I)) I) + (mg * (cParts (bSet z d o) (cPiece (bSet z d o) I)))))), (0, .ref (am 0)), (1, .int (jI ((d : Int)))), (2, .int (jI ((o : Int)))), (3, .int (jI ((u : Int)))), (4, .int (jI ((q : Int)))), (5, .int (jI (mg))), (6, .int (jI (I)))]) hx hb dX4_isGood_49 hl (by decide) rfl (fun ls hl => ?_)
      refine lv_aload_n hx hb dX4_isGood_51 rfl (lv_at hl 1 rfl) ?_
      refine va_get (D := D) (ci := 4) (v := .long (jL (cParts (bSet z d o) (cPiece (bSet z d o) I)))) (C := RX4) (T := TX4) (N := 17) hx hb hts (fun w h => List.mem_cons_of_mem _ (uw_X4 w h)) hown hK (j_P1 hm0) 0 rfl rfl 14 (by decide) (hts _ (List.mem_cons_of_mem _ kw_432)) (fun _ h9 => h9) rfl dX4_isGood_52 ?_
      refine lv_lstore (lv' := [(9, .long (jL (cParts (bSet z d o) (cPiece (bSet z d o) I)))), (7, .long (jL ((cTime (bSet z d o) true (cPiece (bSet z d o) I) (cParts (bSet z d o) (cPiece (bSet z d o) I)) I) + (mg * (cParts (bSet z d o) (cPiece (bSet z d o) I)))))), (0, .ref (am 0)), (1, .int (jI ((d : Int)))), (2, .int (jI ((o : Int)))), (3, .int (jI ((u : Int)))), (4, .int (jI ((q : Int)))), (5, .int (jI (mg))), (6, .int (jI (I)))]) hx hb dX4_isGood_55 hl (by decide) rfl (fun ls hl => ?_)
      refine lv_aload_n hx hb dX4_isGood_57 rfl (lv_at hl 2 rfl) ?_
      refine lv_iload_n hx hb dX4_isGood_58 rfl (lv_at hl 5 rfl) ?_
      refine lv_iload hx hb dX4_isGood_59 (lv_at hl 6 rfl) ?_
      refine lv_iload hx hb dX4_isGood_61 (lv_at hl 8 rfl) ?_
      refine jv_iconst hx hb dX4_isGood_63 ?_
      refine m_call (va_runV (As := [.int (jI ((u : Int))), .int (jI ((q : Int))), .int (jI (I)), .int (jI (bI false))]) (rest := []) ⟨hx, hb, hml, hown, hts⟩ (k_reckon l D g am cd dv vo (cTime (bSet z d o) true (cPiece (bSet z d o) I) (cParts (bSet z d o) (cPiece (bSet z d o) I)) I) (cParts (bSet z d o) (cPiece (bSet z d o) I)) AA z hz hR u q I false hu hq hI hoT hj) (cwV 4 hts (gd_V kw_506 kw_508 kw_5 kw_16 kcX4_reckon) rfl rfl rfl (by decide +kernel) ⟨Nat.le_of_ble_eq_true rfl, Nat.le_of_ble_eq_true rfl⟩) (pu_preV hPic hK rfl hm0) rfl rfl hl.1 rfl (lv_room (Nat.le_of_ble_eq_true rfl)) dX4_isGood_64 ⟨Nat.zero_le _, Nat.zero_le _⟩) hT0 (fun H locs cd9 dv9 vo9 AA9 ab9 be9 hPh hPic hT0 => ?_)
      refine W.eq (g2 := F0 m 67 ls []) rfl ?_
      obtain ⟨q1, q2, q3, q4, q5, q6⟩ := hPh
      rw [q1, q2, q3, q4, q5, q6] at hPic
      have hm0 := hPic.1
      have hm1 : va_at D vwCl (am 1, .inl (g 0, 8, .inl (fun j => jI (AA 1 j)))) H := hPic.2 1 (by omega) (by omega)
      refine lv_lload hx hb dX4_isGood_67 (lv_at hl 1 rfl) ?_
      refine lv_aload_n hx hb dX4_isGood_69 rfl (lv_at hl 2 rfl) ?_
      refine va_get (D := D) (ci := 4) (v := .long (jL (cParts (bSet z u q) (cPiece (bSet z u q) I)))) (C := RX4) (T := TX4) (N := 17) hx hb hts (fun w h => List.mem_cons_of_mem _ (uw_X4 w h)) hown hK (j_P1 hm0) 0 rfl rfl 14 (by decide) (hts _ (List.mem_cons_of_mem _ kw_432)) (fun _ h9 => h9) rfl dX4_isGood_70 ?_
      refine jv_lmul hx hb dX4_isGood_73 ?_
      refine lv_aload_n hx hb dX4_isGood_74 rfl (lv_at hl 2 rfl) ?_
      refine va_get (D := D) (ci := 4) (v := .long (jL (cTime (bSet z u q) false (cPiece (bSet z u q) I) (cParts (bSet z u q) (cPiece (bSet z u q) I)) I))) (C := RX4) (T := TX4) (N := 17) hx hb hts (fun w h => List.mem_cons_of_mem _ (uw_X4 w h)) hown hK (j_P1 hm0) 0 rfl rfl 13 (by decide) (hts _ (List.mem_cons_of_mem _ kw_431)) (fun _ h9 => h9) rfl dX4_isGood_75 ?_
      refine lv_lload hx hb dX4_isGood_78 (lv_at hl 0 rfl) ?_
      refine jv_lmul hx hb dX4_isGood_80 ?_
      refine jv_lcmp_gt (tgt := 89) hx hb dX4_isGood_81 dX4_isGood_82 (by decide) fW.1 fW.2 (fun c81 => ?_) (fun c81 => ?_)
      · refine jv_iconst hx hb dX4_isGood_89 ?_
        exact m_zret hx hb hr hlocks dX4_isGood_90 ⟨rfl, rfl, rfl, rfl⟩ hPic hT0 (by rw [cWithin, if_neg pT, if_neg pS, decide_eq_false (by omega)]; rfl)
      · refine jv_iconst hx hb dX4_isGood_85 ?_
        refine lv_goto (tgt := 90) hx hb dX4_isGood_86 (by decide) ?_
        exact m_zret hx hb hr hlocks dX4_isGood_90 ⟨rfl, rfl, rfl, rfl⟩ hPic hT0 (by rw [cWithin, if_neg pT, if_neg pS, decide_eq_true (by omega)]; rfl)
    · have pS := mOpen_no okS (bI_fa c22)
      refine jv_iconst hx hb dX4_isGood_25 ?_
      exact m_zret hx hb hr hlocks dX4_isGood_26 ⟨rfl, rfl, rfl, rfl⟩ hPic hT0 (by rw [cWithin, if_neg pT, if_pos pS]; rfl)
  · have pT := mOpen_no okT (bI_fa c9)
    refine jv_iconst hx hb dX4_isGood_12 ?_
    exact m_zret hx hb hr hlocks dX4_isGood_13 ⟨rfl, rfl, rfl, rfl⟩ hPic hT0 (by rw [cWithin, if_pos pT]; rfl)
end
section
set_option maxRecDepth 20000 in
theorem kw_3 : (.selects RX4 yX4_isDevice yX4_isDevice : Cond) ∈ gAll := g_mem 3 rfl rfl
set_option maxRecDepth 20000 in
theorem kw_6 : (.selects RX4 yX4_lookOrder yX4_lookOrder : Cond) ∈ gAll := g_mem 6 rfl rfl
set_option maxRecDepth 20000 in
theorem kw_7 : (.selects RX4 yX4_isGood yX4_isGood : Cond) ∈ gAll := g_mem 7 rfl rfl
set_option maxRecDepth 20000 in
theorem kw_428 : (.fieldLink RX4 34 "BreakerOrdersModel" "chosen" "[I" : Cond) ∈ gAll := g_mem 428 rfl rfl
set_option maxRecDepth 20000 in
theorem kw_478 : (.methodLink RX4 57 yX4_isDevice : Cond) ∈ gAll := g_mem 478 rfl rfl
set_option maxRecDepth 20000 in
theorem kw_480 : (.instanceMethod yX4_isDevice : Cond) ∈ gAll := g_mem 480 rfl rfl
set_option maxRecDepth 20000 in
theorem kw_519 : (.methodLink RX4 78 yX4_lookOrder : Cond) ∈ gAll := g_mem 519 rfl rfl
set_option maxRecDepth 20000 in
theorem kw_521 : (.instanceMethod yX4_lookOrder : Cond) ∈ gAll := g_mem 521 rfl rfl
set_option maxRecDepth 20000 in
theorem kw_523 : (.methodLink RX4 82 yX4_isGood : Cond) ∈ gAll := g_mem 523 rfl rfl
set_option maxRecDepth 20000 in
theorem kw_525 : (.instanceMethod yX4_isGood : Cond) ∈ gAll := g_mem 525 rfl rfl
set_option maxHeartbeats 4000000 in
set_option maxRecDepth 100000 in
theorem k_time (l : Launch) (D : va_G) (g : Nat → ClassId) (am : Nat → Nat) (cd dv vo ab be : Int) (AA : Nat → Nat → Int) (z : bSt) (hz : bOK z) (hR : mR z dv vo AA) (d : Nat) (I : Int) (mo : Bool) (hd : d < bN z) (hI : 1 ≤ I ∧ I ≤ 5000) (hj : mInj am) : Met l yX4_time wsX4_time ({ frames := 2, cells := 0, slots := 0, locals := 43 }) (pu_Pc [.ref (am 0), .int (jI ((d : Int))), .int (jI (I)), .int (jI (bI mo))] D vwCl (ty9 g) (fun H => mW D g am cd dv vo ab be AA H)) (mQ D g am (some (.int (jI (if cPiece (bCh z d) I = -1 then -1 else cWhole (bCh z d) (cPiece (bCh z d) I) I mo)))) (fun c n v A _ _ => c = 0 ∧ mR z n v A)) 0 0 (mFr am) := by
  refine Met.ofW (cc := cX4_time) (maxL := 4) (ret := some .int) (by decide) rfl ?_
  intro p e s m args below meth c s₁ B hml hv
  obtain ⟨rfl, hPic, hK⟩ := hv
  have hx := B.exec
  have hb := B.bytes
  have hr := B.returns
  have hts := atoms_spec (ws := wsX4_time) B.pre
  have hown : s.vm.findClass RX4 = some m.cls := findClass_of_methodNamed B.named
  have hlocks := B.notSynchronized
  have hm0 := hPic.1
  have hm9 : va_at D vwCl (am 9, .inl (g 0, 8, .inl (fun j => jI (AA 9 j)))) s.heap := hPic.2 9 (by omega) (by omega)
  obtain ⟨e1_d, e2_d, e3_d, e6_d, e7_d, e9_d, e10_d⟩ := hR.2.2 d hd
  have f_d := hz.2.2.1 d (by have := hz.1; omega)
  have hN := hz.1
  have hdv := hR.1
  have hN := hz.1
  have okS : sOK (bCh z d) := f_d.2.2.2.2.2 (bC z d) f_d.2.2.1
  have hl := lv_entry ([.ref (am 0), .int (jI ((d : Int))), .int (jI (I)), .int (jI (bI mo))]) (n := 4) (Nat.le_of_ble_eq_true rfl)
  rw [lg_entry_eq]
  generalize (lg_sl ([.ref (am 0), .int (jI ((d : Int))), .int (jI (I)), .int (jI (bI mo))]) ++ List.replicate (4 - (lg_sl ([.ref (am 0), .int (jI ((d : Int))), .int (jI (I)), .int (jI (bI mo))])).length) Slot.unset).toArray = ls at hl ⊢
  have hl : lv_has ls 4 [(0, .ref (am 0)), (1, .int (jI ((d : Int)))), (2, .int (jI (I))), (3, .int (jI (bI mo)))] := hl
  have hT0 : mTo am s.heap s.heap [] := mTo.rf
  refine lv_aload_n hx hb dX4_time_0 rfl (lv_at hl 0 rfl) ?_
  refine lv_aload_n hx hb dX4_time_1 rfl (lv_at hl 0 rfl) ?_
  refine lv_iload_n hx hb dX4_time_2 rfl (lv_at hl 1 rfl) ?_
  refine pu_call1 (va_runV (As := [.int (jI ((d : Int)))]) (rest := [.ref (am 0)]) ⟨hx, hb, hml, hown, hts⟩ (k_isDevice l D g am cd dv vo ab be AA (d : Int) (by omega) (by omega)) (cwV 1 hts (gd_V kw_478 kw_480 kw_3 kw_16 kcX4_isDevice) rfl rfl rfl (by decide +kernel) ⟨Nat.le_of_ble_eq_true rfl, Nat.le_of_ble_eq_true rfl⟩) (pu_preV hPic hK rfl hm0) rfl rfl hl.1 rfl (lv_room (Nat.le_of_ble_eq_true rfl)) dX4_time_3 ⟨Nat.zero_le _, Nat.zero_le _⟩) ?_
  refine jv_if_eq (tgt := 24) hx hb dX4_time_6 (by decide) (bI_rng _) (fun c6 => ?_) (fun c6 => ?_)
  · exact absurd (bI_fa c6) (by rw [decide_eq_true (by omega)]; decide)
  · refine lv_iload_n hx hb dX4_time_9 rfl (lv_at hl 2 rfl) ?_
    refine jv_iconst hx hb dX4_time_10 ?_
    refine jv_sipush hx hb dX4_time_11 (by decide) ?_
    refine pu_call1 (va_runS (As := [.int (jI (I)), .int (jI (1)), .int (jI (5000))]) (rest := [.ref (am 0)]) ⟨hx, hb, hml, hown, hts⟩ (k_in l D g I 1 5000 (by omega) (by omega) (by omega)) (cwS 3 hts (gd_S kw_482 kw_483 kw_16 kcX4_in) rfl rfl rfl (by decide +kernel) ⟨Nat.le_of_ble_eq_true rfl, Nat.le_of_ble_eq_true rfl⟩) (pu_preS trivial hK) rfl rfl hl.1 rfl (lv_room (Nat.le_of_ble_eq_true rfl)) dX4_time_14 ⟨Nat.zero_le _, Nat.zero_le _⟩) ?_
    refine jv_if_eq (tgt := 24) hx hb dX4_time_17 (by decide) (bI_rng _) (fun c17 => ?_) (fun c17 => ?_)
    · exact absurd (bI_fa c17) (by rw [decide_eq_true (by omega)]; decide)
    · refine jv_iconst hx hb dX4_time_20 ?_
      refine lv_goto (tgt := 25) hx hb dX4_time_21 (by decide) ?_
      refine jv_put (D := D) (ci := 4) (v := .int (jI (0))) (ty := .int) (C := RX4) (T := TX4) (N := 17) hx hb hts (fun w h => List.mem_cons_of_mem _ (uw_X4 w h)) tyX4 tyX4_ok nmX4 hown hK hm0 rfl 0 (by decide) (hts _ (List.mem_cons_of_mem _ kw_418)) (fun _ h9 => h9) rfl (by decide +kernel) rfl rfl (Nat.le_of_ble_eq_true rfl) dX4_time_25 (fun H f9 hn9 hz9 oq9 => ?_)
      have hPic : mW D g am 0 dv vo ab be AA H := mW_obj hj hPic oq9 hn9
      have hT0 := hT0.put 0 (by omega) hz9 oq9 (f := f9)
      have hm0 := hPic.1
      have hm9 : va_at D vwCl (am 9, .inl (g 0, 8, .inl (fun j => jI (AA 9 j)))) H := hPic.2 9 (by omega) (by omega)
      refine lv_aload_n hx hb dX4_time_28 rfl (lv_at hl 0 rfl) ?_
      refine va_get (D := D) (ci := 4) (v := .int (jI (0))) (C := RX4) (T := TX4) (N := 17) hx hb hts (fun w h => List.mem_cons_of_mem _ (uw_X4 w h)) hown hK (j_P1 hm0) 0 rfl rfl 0 (by decide) (hts _ (List.mem_cons_of_mem _ kw_418)) (fun _ h9 => h9) rfl dX4_time_29 ?_
      refine jv_if_gt (tgt := 50) hx hb dX4_time_32 (by decide) (by omega) (fun c32 => ?_) (fun c32 => ?_)
      · exact absurd c32 (by omega)
      · refine lv_aload_n hx hb dX4_time_35 rfl (lv_at hl 0 rfl) ?_
        refine lv_iload_n hx hb dX4_time_36 rfl (lv_at hl 1 rfl) ?_
        refine lv_aload_n hx hb dX4_time_37 rfl (lv_at hl 0 rfl) ?_
        refine va_get (D := D) (ci := 4) (v := .ref (am 9)) (C := RX4) (T := TX4) (N := 17) hx hb hts (fun w h => List.mem_cons_of_mem _ (uw_X4 w h)) hown hK (j_P1 hm0) 0 rfl rfl 10 (by decide) (hts _ (List.mem_cons_of_mem _ kw_428)) (fun _ h9 => h9) rfl dX4_time_38 ?_
        refine lv_iload_n hx hb dX4_time_41 rfl (lv_at hl 1 rfl) ?_
        refine jv_iald (i := d) hx hb hK hm9 0 rfl (by omega) (by omega) (by decide) dX4_time_42 ?_
        rw [e9_d]
        refine lv_iload_n hx hb dX4_time_43 rfl (lv_at hl 2 rfl) ?_
        refine pu_call1 (va_runV (As := [.int (jI ((d : Int))), .int (jI ((bC z d : Int))), .int (jI (I))]) (rest := []) ⟨hx, hb, hml, hown, hts⟩ (k_opensAt l D g am 0 dv vo ab be AA z hz hR d (bC z d) I hd f_d.2.2.1 (by omega)) (cwV 3 hts (gd_V kw_502 kw_504 kw_4 kw_16 kcX4_opensAt) rfl rfl rfl (by decide +kernel) ⟨Nat.le_of_ble_eq_true rfl, Nat.le_of_ble_eq_true rfl⟩) (pu_preV hPic hK rfl hm0) rfl rfl hl.1 rfl (lv_room (Nat.le_of_ble_eq_true rfl)) dX4_time_44 ⟨Nat.zero_le _, Nat.zero_le _⟩) ?_
        refine jv_if_ne (tgt := 52) hx hb dX4_time_47 (by decide) (bI_rng _) (fun c47 => ?_) (fun c47 => ?_)
        · have pS := (mOpen_piece okS I).mp (bI_tr c47)
          have hoS : 0 < bK z d ∧ bS z d (bC z d) * bP z d 0 ≤ 100 * I := of_decide_eq_true (bI_tr c47)
          have rP := cPiece_range (bCh z d) I
          have r1 := cParts_range okS (q := cPiece (bCh z d) I) (by omega)
          have r2 := cTime_range okS mo (I := I) (k := (cPiece (bCh z d) I).toNat) (by omega)
          rw [show (((cPiece (bCh z d) I).toNat : Nat) : Int) = cPiece (bCh z d) I by omega] at r2
          refine lv_aload_n hx hb dX4_time_52 rfl (lv_at hl 0 rfl) ?_
          refine lv_iload_n hx hb dX4_time_53 rfl (lv_at hl 1 rfl) ?_
          refine lv_aload_n hx hb dX4_time_54 rfl (lv_at hl 0 rfl) ?_
          refine va_get (D := D) (ci := 4) (v := .ref (am 9)) (C := RX4) (T := TX4) (N := 17) hx hb hts (fun w h => List.mem_cons_of_mem _ (uw_X4 w h)) hown hK (j_P1 hm0) 0 rfl rfl 10 (by decide) (hts _ (List.mem_cons_of_mem _ kw_428)) (fun _ h9 => h9) rfl dX4_time_55 ?_
          refine lv_iload_n hx hb dX4_time_58 rfl (lv_at hl 1 rfl) ?_
          refine jv_iald (i := d) hx hb hK hm9 0 rfl (by omega) (by omega) (by decide) dX4_time_59 ?_
          rw [e9_d]
          refine lv_iload_n hx hb dX4_time_60 rfl (lv_at hl 2 rfl) ?_
          refine lv_iload_n hx hb dX4_time_61 rfl (lv_at hl 3 rfl) ?_
          refine m_call (va_runV (As := [.int (jI ((d : Int))), .int (jI ((bC z d : Int))), .int (jI (I)), .int (jI (bI mo))]) (rest := []) ⟨hx, hb, hml, hown, hts⟩ (k_reckon l D g am 0 dv vo ab be AA z hz hR d (bC z d) I mo hd f_d.2.2.1 (by omega) hoS hj) (cwV 4 hts (gd_V kw_506 kw_508 kw_5 kw_16 kcX4_reckon) rfl rfl rfl (by decide +kernel) ⟨Nat.le_of_ble_eq_true rfl, Nat.le_of_ble_eq_true rfl⟩) (pu_preV hPic hK rfl hm0) rfl rfl hl.1 rfl (lv_room (Nat.le_of_ble_eq_true rfl)) dX4_time_62 ⟨Nat.zero_le _, Nat.zero_le _⟩) hT0 (fun H locs cd9 dv9 vo9 AA9 ab9 be9 hPh hPic hT0 => ?_)
          refine W.eq (g2 := F0 m 65 ls []) rfl ?_
          obtain ⟨q1, q2, q3, q4, q5, q6⟩ := hPh
          rw [q1, q2, q3, q4, q5, q6] at hPic
          have hm0 := hPic.1
          have hm9 : va_at D vwCl (am 9, .inl (g 0, 8, .inl (fun j => jI (AA 9 j)))) H := hPic.2 9 (by omega) (by omega)
          refine lv_aload_n hx hb dX4_time_65 rfl (lv_at hl 0 rfl) ?_
          refine va_get (D := D) (ci := 4) (v := .long (jL (cTime (bCh z d) mo (cPiece (bCh z d) I) (cParts (bCh z d) (cPiece (bCh z d) I)) I))) (C := RX4) (T := TX4) (N := 17) hx hb hts (fun w h => List.mem_cons_of_mem _ (uw_X4 w h)) hown hK (j_P1 hm0) 0 rfl rfl 13 (by decide) (hts _ (List.mem_cons_of_mem _ kw_431)) (fun _ h9 => h9) rfl dX4_time_66 ?_
          refine lv_aload_n hx hb dX4_time_69 rfl (lv_at hl 0 rfl) ?_
          refine va_get (D := D) (ci := 4) (v := .long (jL (cParts (bCh z d) (cPiece (bCh z d) I)))) (C := RX4) (T := TX4) (N := 17) hx hb hts (fun w h => List.mem_cons_of_mem _ (uw_X4 w h)) hown hK (j_P1 hm0) 0 rfl rfl 14 (by decide) (hts _ (List.mem_cons_of_mem _ kw_432)) (fun _ h9 => h9) rfl dX4_time_70 ?_
          refine jv_ldiv hx hb dX4_time_73 (by omega) (by omega) ?_
          refine jv_l2i hx hb dX4_time_74 ?_
          exact m_iret hx hb hr hlocks dX4_time_75 ⟨rfl, hR⟩ hPic hT0 (by rw [if_neg pS, cWhole, if_neg (by omega)])
        · have pS := mOpen_no okS (bI_fa c47)
          refine jv_iconst hx hb dX4_time_50 ?_
          exact m_iret hx hb hr hlocks dX4_time_51 ⟨rfl, hR⟩ hPic hT0 (by rw [if_pos pS])
set_option maxHeartbeats 4000000 in
set_option maxRecDepth 100000 in
theorem k_opensFrom (l : Launch) (D : va_G) (g : Nat → ClassId) (am : Nat → Nat) (cd dv vo ab be : Int) (AA : Nat → Nat → Int) (z : bSt) (hz : bOK z) (hR : mR z dv vo AA) (d : Nat) (hd : d < bN z) (hj : mInj am) : Met l yX4_opensFrom wsX4_opensFrom ({ frames := 2, cells := 0, slots := 0, locals := 43 }) (pu_Pc [.ref (am 0), .int (jI ((d : Int)))] D vwCl (ty9 g) (fun H => mW D g am cd dv vo ab be AA H)) (mQ D g am (some (.int (jI (dF (mOpen (bCh z d)) 5000 1)))) (fun c n v A _ _ => c = 0 ∧ mR z n v A)) 0 0 (mFr am) := by
  refine Met.ofW (cc := cX4_opensFrom) (maxL := 3) (ret := some .int) (by decide) rfl ?_
  intro p e s m args below meth c s₁ B hml hv
  obtain ⟨rfl, hPic, hK⟩ := hv
  have hx := B.exec
  have hb := B.bytes
  have hr := B.returns
  have hts := atoms_spec (ws := wsX4_opensFrom) B.pre
  have hown : s.vm.findClass RX4 = some m.cls := findClass_of_methodNamed B.named
  have hlocks := B.notSynchronized
  have hm0 := hPic.1
  have hm9 : va_at D vwCl (am 9, .inl (g 0, 8, .inl (fun j => jI (AA 9 j)))) s.heap := hPic.2 9 (by omega) (by omega)
  obtain ⟨e1_d, e2_d, e3_d, e6_d, e7_d, e9_d, e10_d⟩ := hR.2.2 d hd
  have f_d := hz.2.2.1 d (by have := hz.1; omega)
  have hN := hz.1
  have hdv := hR.1
  have hN := hz.1
  have hl := lv_entry ([.ref (am 0), .int (jI ((d : Int)))]) (n := 3) (Nat.le_of_ble_eq_true rfl)
  rw [lg_entry_eq]
  generalize (lg_sl ([.ref (am 0), .int (jI ((d : Int)))]) ++ List.replicate (3 - (lg_sl ([.ref (am 0), .int (jI ((d : Int)))])).length) Slot.unset).toArray = ls at hl ⊢
  have hl : lv_has ls 3 [(0, .ref (am 0)), (1, .int (jI ((d : Int))))] := hl
  have hT0 : mTo am s.heap s.heap [] := mTo.rf
  refine lv_aload_n hx hb dX4_opensFrom_0 rfl (lv_at hl 0 rfl) ?_
  refine lv_aload_n hx hb dX4_opensFrom_1 rfl (lv_at hl 0 rfl) ?_
  refine lv_iload_n hx hb dX4_opensFrom_2 rfl (lv_at hl 1 rfl) ?_
  refine pu_call1 (va_runV (As := [.int (jI ((d : Int)))]) (rest := [.ref (am 0)]) ⟨hx, hb, hml, hown, hts⟩ (k_isDevice l D g am cd dv vo ab be AA (d : Int) (by omega) (by omega)) (cwV 1 hts (gd_V kw_478 kw_480 kw_3 kw_16 kcX4_isDevice) rfl rfl rfl (by decide +kernel) ⟨Nat.le_of_ble_eq_true rfl, Nat.le_of_ble_eq_true rfl⟩) (pu_preV hPic hK rfl hm0) rfl rfl hl.1 rfl (lv_room (Nat.le_of_ble_eq_true rfl)) dX4_opensFrom_3 ⟨Nat.zero_le _, Nat.zero_le _⟩) ?_
  refine jv_if_eq (tgt := 13) hx hb dX4_opensFrom_6 (by decide) (bI_rng _) (fun c6 => ?_) (fun c6 => ?_)
  · exact absurd (bI_fa c6) (by rw [decide_eq_true (by omega)]; decide)
  · refine jv_iconst hx hb dX4_opensFrom_9 ?_
    refine lv_goto (tgt := 14) hx hb dX4_opensFrom_10 (by decide) ?_
    refine jv_put (D := D) (ci := 4) (v := .int (jI (0))) (ty := .int) (C := RX4) (T := TX4) (N := 17) hx hb hts (fun w h => List.mem_cons_of_mem _ (uw_X4 w h)) tyX4 tyX4_ok nmX4 hown hK hm0 rfl 0 (by decide) (hts _ (List.mem_cons_of_mem _ kw_418)) (fun _ h9 => h9) rfl (by decide +kernel) rfl rfl (Nat.le_of_ble_eq_true rfl) dX4_opensFrom_14 (fun H f9 hn9 hz9 oq9 => ?_)
    have hPic : mW D g am 0 dv vo ab be AA H := mW_obj hj hPic oq9 hn9
    have hT0 := hT0.put 0 (by omega) hz9 oq9 (f := f9)
    have hm0 := hPic.1
    have hm9 : va_at D vwCl (am 9, .inl (g 0, 8, .inl (fun j => jI (AA 9 j)))) H := hPic.2 9 (by omega) (by omega)
    refine jv_iconst hx hb dX4_opensFrom_17 ?_
    refine lv_istore_n (lv' := [(2, .int (jI (1))), (0, .ref (am 0)), (1, .int (jI ((d : Int))))]) hx hb dX4_opensFrom_18 rfl hl (by decide) rfl (fun ls hl => ?_)
    refine jw_loop (X := Int) (fun i => (5001 - i).toNat) (fun i ls => (1 ≤ i ∧ i ≤ 5001 ∧ dF (mOpen (bCh z d)) 5000 1 = dF (mOpen (bCh z d)) (5001 - i).toNat i) ∧ lv_has ls 3 [(0, .ref (am 0)), (1, .int (jI ((d : Int)))), (2, .int (jI (i)))]) ?_ 1 ls ⟨⟨by omega, by omega, rfl⟩, lv_sub hl [1, 2, 0] rfl⟩
    intro i ls hinv ih
    obtain ⟨⟨hi1, hi2, he⟩, hl⟩ := hinv
    refine lv_iload_n hx hb dX4_opensFrom_19 rfl (lv_at hl 2 rfl) ?_
    refine jv_sipush hx hb dX4_opensFrom_20 (by decide) ?_
    refine jv_icmp_gt (tgt := 56) hx hb dX4_opensFrom_23 (by decide) (by omega) (by omega) (fun c23 => ?_) (fun c23 => ?_)
    · refine jv_iconst hx hb dX4_opensFrom_56 ?_
      exact m_iret hx hb hr hlocks dX4_opensFrom_57 ⟨rfl, hR⟩ hPic hT0 (by rw [he, show (5001 - i).toNat = 0 by omega]; rfl)
    · refine lv_aload_n hx hb dX4_opensFrom_26 rfl (lv_at hl 0 rfl) ?_
      refine va_get (D := D) (ci := 4) (v := .int (jI (0))) (C := RX4) (T := TX4) (N := 17) hx hb hts (fun w h => List.mem_cons_of_mem _ (uw_X4 w h)) hown hK (j_P1 hm0) 0 rfl rfl 0 (by decide) (hts _ (List.mem_cons_of_mem _ kw_418)) (fun _ h9 => h9) rfl dX4_opensFrom_27 ?_
      refine jv_if_ne (tgt := 56) hx hb dX4_opensFrom_30 (by decide) (by omega) (fun c30 => ?_) (fun c30 => ?_)
      · exact absurd c30 (by decide)
      · refine lv_aload_n hx hb dX4_opensFrom_33 rfl (lv_at hl 0 rfl) ?_
        refine lv_iload_n hx hb dX4_opensFrom_34 rfl (lv_at hl 1 rfl) ?_
        refine lv_aload_n hx hb dX4_opensFrom_35 rfl (lv_at hl 0 rfl) ?_
        refine va_get (D := D) (ci := 4) (v := .ref (am 9)) (C := RX4) (T := TX4) (N := 17) hx hb hts (fun w h => List.mem_cons_of_mem _ (uw_X4 w h)) hown hK (j_P1 hm0) 0 rfl rfl 10 (by decide) (hts _ (List.mem_cons_of_mem _ kw_428)) (fun _ h9 => h9) rfl dX4_opensFrom_36 ?_
        refine lv_iload_n hx hb dX4_opensFrom_39 rfl (lv_at hl 1 rfl) ?_
        refine jv_iald (i := d) hx hb hK hm9 0 rfl (by omega) (by omega) (by decide) dX4_opensFrom_40 ?_
        rw [e9_d]
        refine lv_iload_n hx hb dX4_opensFrom_41 rfl (lv_at hl 2 rfl) ?_
        refine pu_call1 (va_runV (As := [.int (jI ((d : Int))), .int (jI ((bC z d : Int))), .int (jI (i))]) (rest := []) ⟨hx, hb, hml, hown, hts⟩ (k_opensAt l D g am 0 dv vo ab be AA z hz hR d (bC z d) i hd f_d.2.2.1 (by omega)) (cwV 3 hts (gd_V kw_502 kw_504 kw_4 kw_16 kcX4_opensAt) rfl rfl rfl (by decide +kernel) ⟨Nat.le_of_ble_eq_true rfl, Nat.le_of_ble_eq_true rfl⟩) (pu_preV hPic hK rfl hm0) rfl rfl hl.1 rfl (lv_room (Nat.le_of_ble_eq_true rfl)) dX4_opensFrom_42 ⟨Nat.zero_le _, Nat.zero_le _⟩) ?_
        refine jv_if_eq (tgt := 50) hx hb dX4_opensFrom_45 (by decide) (bI_rng _) (fun c45 => ?_) (fun c45 => ?_)
        · have c45 : mOpen (bCh z d) i = false := bI_fa c45
          refine lv_iinc (v := jI (i + 1)) (lv' := [(2, .int (jI (i + 1))), (0, .ref (am 0)), (1, .int (jI ((d : Int))))]) hx hb dX4_opensFrom_50 hl (k := 2) rfl (jI_add _ _) (by decide) rfl (fun ls hl => ?_)
          refine lv_goto (tgt := 19) hx hb dX4_opensFrom_53 (by decide) ?_
          exact ih (i + 1) ls ⟨⟨by omega, by omega, by rw [he, show (5001 - i).toNat = (5001 - (i + 1)).toNat + 1 by omega]; simp only [dF]; rw [if_neg (by rw [c45]; decide)]⟩, lv_sub hl [1, 2, 0] rfl⟩ (by omega)
        · have c45 : mOpen (bCh z d) i = true := bI_tr c45
          refine lv_iload_n hx hb dX4_opensFrom_48 rfl (lv_at hl 2 rfl) ?_
          exact m_iret hx hb hr hlocks dX4_opensFrom_49 ⟨rfl, hR⟩ hPic hT0 (by rw [he, show (5001 - i).toNat = (5001 - (i + 1)).toNat + 1 by omega]; simp only [dF]; rw [if_pos c45])
set_option maxHeartbeats 4000000 in
set_option maxRecDepth 100000 in
theorem k_lookOrder (l : Launch) (D : va_G) (g : Nat → ClassId) (am : Nat → Nat) (cd dv vo ab be : Int) (AA : Nat → Nat → Int) (z : bSt) (hz : bOK z) (hR : mR z dv vo AA) (d u : Nat) (mg : Int) (hd : d < bN z) (hu : u < bN z) (hdu : d ≠ u) (hmg : 0 ≤ mg ∧ mg ≤ 10000) (hj : mInj am) : Met l yX4_lookOrder wsX4_lookOrder ({ frames := 2, cells := 0, slots := 0, locals := 43 }) (pu_Pc [.ref (am 0), .int (jI ((d : Int))), .int (jI ((u : Int))), .int (jI (mg))] D vwCl (ty9 g) (fun H => mW D g am cd dv vo ab be AA H)) (mQ D g am none (fun c n v A a b => c = 0 ∧ n = dv ∧ v = vo ∧ A = AA)) 0 0 (mFr am) := by
  refine Met.ofW (cc := cX4_lookOrder) (maxL := 4) (ret := none) (by decide) rfl ?_
  intro p e s m args below meth c s₁ B hml hv
  obtain ⟨rfl, hPic, hK⟩ := hv
  have hx := B.exec
  have hb := B.bytes
  have hr := B.returns
  have hts := atoms_spec (ws := wsX4_lookOrder) B.pre
  have hown : s.vm.findClass RX4 = some m.cls := findClass_of_methodNamed B.named
  have hlocks := B.notSynchronized
  have hm0 := hPic.1
  have hdv := hR.1
  have hN := hz.1
  have hl := lv_entry ([.ref (am 0), .int (jI ((d : Int))), .int (jI ((u : Int))), .int (jI (mg))]) (n := 4) (Nat.le_of_ble_eq_true rfl)
  rw [lg_entry_eq]
  generalize (lg_sl ([.ref (am 0), .int (jI ((d : Int))), .int (jI ((u : Int))), .int (jI (mg))]) ++ List.replicate (4 - (lg_sl ([.ref (am 0), .int (jI ((d : Int))), .int (jI ((u : Int))), .int (jI (mg))])).length) Slot.unset).toArray = ls at hl ⊢
  have hl : lv_has ls 4 [(0, .ref (am 0)), (1, .int (jI ((d : Int)))), (2, .int (jI ((u : Int)))), (3, .int (jI (mg)))] := hl
  have hT0 : mTo am s.heap s.heap [] := mTo.rf
  refine lv_aload_n hx hb dX4_lookOrder_0 rfl (lv_at hl 0 rfl) ?_
  refine lv_aload_n hx hb dX4_lookOrder_1 rfl (lv_at hl 0 rfl) ?_
  refine lv_iload_n hx hb dX4_lookOrder_2 rfl (lv_at hl 1 rfl) ?_
  refine pu_call1 (va_runV (As := [.int (jI ((d : Int)))]) (rest := [.ref (am 0)]) ⟨hx, hb, hml, hown, hts⟩ (k_isDevice l D g am cd dv vo ab be AA (d : Int) (by omega) (by omega)) (cwV 1 hts (gd_V kw_478 kw_480 kw_3 kw_16 kcX4_isDevice) rfl rfl rfl (by decide +kernel) ⟨Nat.le_of_ble_eq_true rfl, Nat.le_of_ble_eq_true rfl⟩) (pu_preV hPic hK rfl hm0) rfl rfl hl.1 rfl (lv_room (Nat.le_of_ble_eq_true rfl)) dX4_lookOrder_3 ⟨Nat.zero_le _, Nat.zero_le _⟩) ?_
  refine jv_if_eq (tgt := 37) hx hb dX4_lookOrder_6 (by decide) (bI_rng _) (fun c6 => ?_) (fun c6 => ?_)
  · exact absurd (bI_fa c6) (by rw [decide_eq_true (by omega)]; decide)
  · refine lv_aload_n hx hb dX4_lookOrder_9 rfl (lv_at hl 0 rfl) ?_
    refine lv_iload_n hx hb dX4_lookOrder_10 rfl (lv_at hl 2 rfl) ?_
    refine pu_call1 (va_runV (As := [.int (jI ((u : Int)))]) (rest := [.ref (am 0)]) ⟨hx, hb, hml, hown, hts⟩ (k_isDevice l D g am cd dv vo ab be AA (u : Int) (by omega) (by omega)) (cwV 1 hts (gd_V kw_478 kw_480 kw_3 kw_16 kcX4_isDevice) rfl rfl rfl (by decide +kernel) ⟨Nat.le_of_ble_eq_true rfl, Nat.le_of_ble_eq_true rfl⟩) (pu_preV hPic hK rfl hm0) rfl rfl hl.1 rfl (lv_room (Nat.le_of_ble_eq_true rfl)) dX4_lookOrder_11 ⟨Nat.zero_le _, Nat.zero_le _⟩) ?_
    refine jv_if_eq (tgt := 37) hx hb dX4_lookOrder_14 (by decide) (bI_rng _) (fun c14 => ?_) (fun c14 => ?_)
    · exact absurd (bI_fa c14) (by rw [decide_eq_true (by omega)]; decide)
    · refine lv_iload_n hx hb dX4_lookOrder_17 rfl (lv_at hl 1 rfl) ?_
      refine lv_iload_n hx hb dX4_lookOrder_18 rfl (lv_at hl 2 rfl) ?_
      refine jv_icmp_eq (tgt := 37) hx hb dX4_lookOrder_19 (by decide) (by omega) (by omega) (fun c19 => ?_) (fun c19 => ?_)
      · exact absurd c19 (by omega)
      · refine lv_iload_n hx hb dX4_lookOrder_22 rfl (lv_at hl 3 rfl) ?_
        refine jv_iconst hx hb dX4_lookOrder_23 ?_
        refine jv_sipush hx hb dX4_lookOrder_24 (by decide) ?_
        refine pu_call1 (va_runS (As := [.int (jI (mg)), .int (jI (0)), .int (jI (10000))]) (rest := [.ref (am 0)]) ⟨hx, hb, hml, hown, hts⟩ (k_in l D g mg 0 10000 (by omega) (by omega) (by omega)) (cwS 3 hts (gd_S kw_482 kw_483 kw_16 kcX4_in) rfl rfl rfl (by decide +kernel) ⟨Nat.le_of_ble_eq_true rfl, Nat.le_of_ble_eq_true rfl⟩) (pu_preS trivial hK) rfl rfl hl.1 rfl (lv_room (Nat.le_of_ble_eq_true rfl)) dX4_lookOrder_27 ⟨Nat.zero_le _, Nat.zero_le _⟩) ?_
        refine jv_if_eq (tgt := 37) hx hb dX4_lookOrder_30 (by decide) (bI_rng _) (fun c30 => ?_) (fun c30 => ?_)
        · exact absurd (bI_fa c30) (by rw [decide_eq_true (by omega)]; decide)
        · refine jv_iconst hx hb dX4_lookOrder_33 ?_
          refine lv_goto (tgt := 38) hx hb dX4_lookOrder_34 (by decide) ?_
          refine jv_put (D := D) (ci := 4) (v := .int (jI (0))) (ty := .int) (C := RX4) (T := TX4) (N := 17) hx hb hts (fun w h => List.mem_cons_of_mem _ (uw_X4 w h)) tyX4 tyX4_ok nmX4 hown hK hm0 rfl 0 (by decide) (hts _ (List.mem_cons_of_mem _ kw_418)) (fun _ h9 => h9) rfl (by decide +kernel) rfl rfl (Nat.le_of_ble_eq_true rfl) dX4_lookOrder_38 (fun H f9 hn9 hz9 oq9 => ?_)
          have hPic : mW D g am 0 dv vo ab be AA H := mW_obj hj hPic oq9 hn9
          have hT0 := hT0.put 0 (by omega) hz9 oq9 (f := f9)
          have hm0 := hPic.1
          have hm9 : va_at D vwCl (am 9, .inl (g 0, 8, .inl (fun j => jI (AA 9 j)))) H := hPic.2 9 (by omega) (by omega)
          exact m_vret hx hb hr hlocks dX4_lookOrder_41 ⟨rfl, rfl, rfl, rfl⟩ hPic hT0
set_option maxHeartbeats 4000000 in
set_option maxRecDepth 100000 in
theorem k_order (l : Launch) (D : va_G) (g : Nat → ClassId) (am : Nat → Nat) (cd dv vo ab be : Int) (AA : Nat → Nat → Int) (z : bSt) (hz : bOK z) (hR : mR z dv vo AA) (d u : Nat) (mg : Int) (hd : d < bN z) (hu : u < bN z) (hdu : d ≠ u) (hmg : 0 ≤ mg ∧ mg ≤ 10000) (hj : mInj am) : Met l yX4_order wsX4_order ({ frames := 3, cells := 0, slots := 0, locals := 66 }) (pu_Pc [.ref (am 0), .int (jI ((d : Int))), .int (jI ((u : Int))), .int (jI (mg))] D vwCl (ty9 g) (fun H => mW D g am cd dv vo ab be AA H)) (mQ D g am (some (.int (jI (dF (cBrk (bCh z d) (bCh z u) mg) 5000 1)))) (fun c n v A _ _ => c = 0 ∧ mR z n v A)) 0 0 (mFr am) := by
  refine Met.ofW (cc := cX4_order) (maxL := 5) (ret := some .int) (by decide) rfl ?_
  intro p e s m args below meth c s₁ B hml hv
  obtain ⟨rfl, hPic, hK⟩ := hv
  have hx := B.exec
  have hb := B.bytes
  have hr := B.returns
  have hts := atoms_spec (ws := wsX4_order) B.pre
  have hown : s.vm.findClass RX4 = some m.cls := findClass_of_methodNamed B.named
  have hlocks := B.notSynchronized
  have hm0 := hPic.1
  have hm9 : va_at D vwCl (am 9, .inl (g 0, 8, .inl (fun j => jI (AA 9 j)))) s.heap := hPic.2 9 (by omega) (by omega)
  obtain ⟨e1_d, e2_d, e3_d, e6_d, e7_d, e9_d, e10_d⟩ := hR.2.2 d hd
  have f_d := hz.2.2.1 d (by have := hz.1; omega)
  have hN := hz.1
  obtain ⟨e1_u, e2_u, e3_u, e6_u, e7_u, e9_u, e10_u⟩ := hR.2.2 u hu
  have f_u := hz.2.2.1 u (by have := hz.1; omega)
  have hN := hz.1
  have hdv := hR.1
  have hN := hz.1
  have hl := lv_entry ([.ref (am 0), .int (jI ((d : Int))), .int (jI ((u : Int))), .int (jI (mg))]) (n := 5) (Nat.le_of_ble_eq_true rfl)
  rw [lg_entry_eq]
  generalize (lg_sl ([.ref (am 0), .int (jI ((d : Int))), .int (jI ((u : Int))), .int (jI (mg))]) ++ List.replicate (5 - (lg_sl ([.ref (am 0), .int (jI ((d : Int))), .int (jI ((u : Int))), .int (jI (mg))])).length) Slot.unset).toArray = ls at hl ⊢
  have hl : lv_has ls 5 [(0, .ref (am 0)), (1, .int (jI ((d : Int)))), (2, .int (jI ((u : Int)))), (3, .int (jI (mg)))] := hl
  have hT0 : mTo am s.heap s.heap [] := mTo.rf
  refine lv_aload_n hx hb dX4_order_0 rfl (lv_at hl 0 rfl) ?_
  refine lv_iload_n hx hb dX4_order_1 rfl (lv_at hl 1 rfl) ?_
  refine lv_iload_n hx hb dX4_order_2 rfl (lv_at hl 2 rfl) ?_
  refine lv_iload_n hx hb dX4_order_3 rfl (lv_at hl 3 rfl) ?_
  refine m_call (va_runV (As := [.int (jI ((d : Int))), .int (jI ((u : Int))), .int (jI (mg))]) (rest := []) ⟨hx, hb, hml, hown, hts⟩ (k_lookOrder l D g am cd dv vo ab be AA z hz hR d u mg hd hu hdu hmg hj) (cwV 3 hts (gd_V kw_519 kw_521 kw_6 kw_16 kcX4_lookOrder) rfl rfl rfl (by decide +kernel) ⟨Nat.le_of_ble_eq_true rfl, Nat.le_of_ble_eq_true rfl⟩) (pu_preV hPic hK rfl hm0) rfl rfl hl.1 rfl (lv_room (Nat.le_of_ble_eq_true rfl)) dX4_order_4 ⟨Nat.zero_le _, Nat.zero_le _⟩) hT0 (fun H locs cd9 dv9 vo9 AA9 ab9 be9 hPh hPic hT0 => ?_)
  refine W.eq (g2 := F0 m 7 ls []) rfl ?_
  obtain ⟨q1, q2, q3, q4⟩ := hPh
  rw [q1, q2, q3, q4] at hPic
  have hm0 := hPic.1
  have hm9 : va_at D vwCl (am 9, .inl (g 0, 8, .inl (fun j => jI (AA 9 j)))) H := hPic.2 9 (by omega) (by omega)
  refine jv_iconst hx hb dX4_order_7 ?_
  refine lv_istore (lv' := [(4, .int (jI (1))), (0, .ref (am 0)), (1, .int (jI ((d : Int)))), (2, .int (jI ((u : Int)))), (3, .int (jI (mg)))]) hx hb dX4_order_8 hl (by decide) rfl (fun ls hl => ?_)
  refine jw_loop3 (X := Int × Int × Int) (fun x => (5001 - x.1).toNat) (fun x H L ls => (1 ≤ x.1 ∧ x.1 ≤ 5001 ∧ dF (cBrk (bCh z d) (bCh z u) mg) 5000 1 = dF (cBrk (bCh z d) (bCh z u) mg) (5001 - x.1).toNat x.1 ∧ mW D g am 0 dv vo x.2.1 x.2.2 AA H ∧ mTo am s.heap H L) ∧ lv_has ls 5 [(0, .ref (am 0)), (1, .int (jI ((d : Int)))), (2, .int (jI ((u : Int)))), (3, .int (jI (mg))), (4, .int (jI (x.1)))]) ?_ (1, ab9, be9) H locs ls ⟨⟨by dsimp only; omega, by dsimp only; omega, by dsimp only; first | rfl | (rw [Int.zero_add]; rfl), hPic, hT0⟩, lv_sub hl [1, 2, 3, 4, 0] rfl⟩
  clear hl hPic hT0
  intro x H L ls hinv ih
  obtain ⟨i, a1, b1⟩ := x
  obtain ⟨⟨hi1, hi2, he, hPic, hT0⟩, hl⟩ := hinv
  dsimp only at hi1 hi2 he hPic
  have hl : lv_has ls 5 [(0, .ref (am 0)), (1, .int (jI ((d : Int)))), (2, .int (jI ((u : Int)))), (3, .int (jI (mg))), (4, .int (jI (i)))] := hl
  have hm0 := hPic.1
  have hm9 : va_at D vwCl (am 9, .inl (g 0, 8, .inl (fun j => jI (AA 9 j)))) H := hPic.2 9 (by omega) (by omega)
  refine lv_iload hx hb dX4_order_10 (lv_at hl 4 rfl) ?_
  refine jv_sipush hx hb dX4_order_12 (by decide) ?_
  refine jv_icmp_gt (tgt := 58) hx hb dX4_order_15 (by decide) (by omega) (by omega) (fun c15 => ?_) (fun c15 => ?_)
  · refine jv_iconst hx hb dX4_order_58 ?_
    exact m_iret hx hb hr hlocks dX4_order_59 ⟨rfl, hR⟩ hPic hT0 (by rw [he, show (5001 - i).toNat = 0 by omega]; rfl)
  · refine lv_aload_n hx hb dX4_order_18 rfl (lv_at hl 0 rfl) ?_
    refine va_get (D := D) (ci := 4) (v := .int (jI (0))) (C := RX4) (T := TX4) (N := 17) hx hb hts (fun w h => List.mem_cons_of_mem _ (uw_X4 w h)) hown hK (j_P1 hm0) 0 rfl rfl 0 (by decide) (hts _ (List.mem_cons_of_mem _ kw_418)) (fun _ h9 => h9) rfl dX4_order_19 ?_
    refine jv_if_ne (tgt := 58) hx hb dX4_order_22 (by decide) (by omega) (fun c22 => ?_) (fun c22 => ?_)
    · exact absurd c22 (by decide)
    · refine lv_aload_n hx hb dX4_order_25 rfl (lv_at hl 0 rfl) ?_
      refine lv_iload_n hx hb dX4_order_26 rfl (lv_at hl 1 rfl) ?_
      refine lv_aload_n hx hb dX4_order_27 rfl (lv_at hl 0 rfl) ?_
      refine va_get (D := D) (ci := 4) (v := .ref (am 9)) (C := RX4) (T := TX4) (N := 17) hx hb hts (fun w h => List.mem_cons_of_mem _ (uw_X4 w h)) hown hK (j_P1 hm0) 0 rfl rfl 10 (by decide) (hts _ (List.mem_cons_of_mem _ kw_428)) (fun _ h9 => h9) rfl dX4_order_28 ?_
      refine lv_iload_n hx hb dX4_order_31 rfl (lv_at hl 1 rfl) ?_
      refine jv_iald (i := d) hx hb hK hm9 0 rfl (by omega) (by omega) (by decide) dX4_order_32 ?_
      rw [e9_d]
      refine lv_iload_n hx hb dX4_order_33 rfl (lv_at hl 2 rfl) ?_
      refine lv_aload_n hx hb dX4_order_34 rfl (lv_at hl 0 rfl) ?_
      refine va_get (D := D) (ci := 4) (v := .ref (am 9)) (C := RX4) (T := TX4) (N := 17) hx hb hts (fun w h => List.mem_cons_of_mem _ (uw_X4 w h)) hown hK (j_P1 hm0) 0 rfl rfl 10 (by decide) (hts _ (List.mem_cons_of_mem _ kw_428)) (fun _ h9 => h9) rfl dX4_order_35 ?_
      refine lv_iload_n hx hb dX4_order_38 rfl (lv_at hl 2 rfl) ?_
      refine jv_iald (i := u) hx hb hK hm9 0 rfl (by omega) (by omega) (by decide) dX4_order_39 ?_
      rw [e9_u]
      refine lv_iload_n hx hb dX4_order_40 rfl (lv_at hl 3 rfl) ?_
      refine lv_iload hx hb dX4_order_41 (lv_at hl 4 rfl) ?_
      refine m_call (va_runV (As := [.int (jI ((d : Int))), .int (jI ((bC z d : Int))), .int (jI ((u : Int))), .int (jI ((bC z u : Int))), .int (jI (mg)), .int (jI (i))]) (rest := []) ⟨hx, hb, hml, hown, hts⟩ (k_isGood l D g am 0 dv vo a1 b1 AA z hz hR d (bC z d) u (bC z u) mg i hd f_d.2.2.1 hu f_u.2.2.1 hmg (by omega) hj) (cwV 6 hts (gd_V kw_523 kw_525 kw_7 kw_16 kcX4_isGood) rfl rfl rfl (by decide +kernel) ⟨Nat.le_of_ble_eq_true rfl, Nat.le_of_ble_eq_true rfl⟩) (pu_preV hPic hK rfl hm0) rfl rfl hl.1 rfl (lv_room (Nat.le_of_ble_eq_true rfl)) dX4_order_43 ⟨Nat.zero_le _, Nat.zero_le _⟩) hT0 (fun H locs cd9 dv9 vo9 AA9 ab9 be9 hPh hPic hT0 => ?_)
      refine W.eq (g2 := F0 m 46 ls [.int (jI (bI (cWithin (bCh z d) true mg (bCh z u) false i)))]) rfl ?_
      obtain ⟨q1, q2, q3, q4⟩ := hPh
      rw [q1, q2, q3, q4] at hPic
      have hm0 := hPic.1
      have hm9 : va_at D vwCl (am 9, .inl (g 0, 8, .inl (fun j => jI (AA 9 j)))) H := hPic.2 9 (by omega) (by omega)
      refine jv_if_ne (tgt := 52) hx hb dX4_order_46 (by decide) (bI_rng _) (fun c46 => ?_) (fun c46 => ?_)
      · refine lv_iinc (v := jI (i + 1)) (lv' := [(4, .int (jI (i + 1))), (0, .ref (am 0)), (1, .int (jI ((d : Int)))), (2, .int (jI ((u : Int)))), (3, .int (jI (mg)))]) hx hb dX4_order_52 hl (k := 4) rfl (jI_add _ _) (by decide) rfl (fun ls hl => ?_)
        refine lv_goto (tgt := 10) hx hb dX4_order_55 (by decide) ?_
        exact ih (i + 1, ab9, be9) H _ ls ⟨⟨by dsimp only; omega, by dsimp only; omega, by dsimp only; rw [he, show (5001 - i).toNat = (5001 - (i + 1)).toNat + 1 by omega]; simp only [dF]; rw [if_neg (by rw [cBrk, bI_tr c46]; decide)], hPic, hT0⟩, lv_sub hl [1, 2, 3, 4, 0] rfl⟩ (by dsimp only; omega)
      · refine lv_iload hx hb dX4_order_49 (lv_at hl 4 rfl) ?_
        exact m_iret hx hb hr hlocks dX4_order_51 ⟨rfl, hR⟩ hPic hT0 (by rw [he, show (5001 - i).toNat = (5001 - (i + 1)).toNat + 1 by omega]; simp only [dF]; rw [if_pos (by rw [cBrk, bI_fa c46]; rfl)])
set_option maxHeartbeats 4000000 in
set_option maxRecDepth 100000 in
theorem k_broken (l : Launch) (D : va_G) (g : Nat → ClassId) (am : Nat → Nat) (cd dv vo ab be : Int) (AA : Nat → Nat → Int) (z : bSt) (hz : bOK z) (hR : mR z dv vo AA) (d u : Nat) (mg : Int) (hd : d < bN z) (hu : u < bN z) (hdu : d ≠ u) (hmg : 0 ≤ mg ∧ mg ≤ 10000) (hj : mInj am) : Met l yX4_broken wsX4_broken ({ frames := 3, cells := 0, slots := 0, locals := 66 }) (pu_Pc [.ref (am 0), .int (jI ((d : Int))), .int (jI ((u : Int))), .int (jI (mg))] D vwCl (ty9 g) (fun H => mW D g am cd dv vo ab be AA H)) (mQ D g am (some (.int (jI (dC (cBrk (bCh z d) (bCh z u) mg) 5000 1)))) (fun c n v A _ _ => c = 0 ∧ mR z n v A)) 0 0 (mFr am) := by
  refine Met.ofW (cc := cX4_broken) (maxL := 6) (ret := some .int) (by decide) rfl ?_
  intro p e s m args below meth c s₁ B hml hv
  obtain ⟨rfl, hPic, hK⟩ := hv
  have hx := B.exec
  have hb := B.bytes
  have hr := B.returns
  have hts := atoms_spec (ws := wsX4_broken) B.pre
  have hown : s.vm.findClass RX4 = some m.cls := findClass_of_methodNamed B.named
  have hlocks := B.notSynchronized
  have hm0 := hPic.1
  have hm9 : va_at D vwCl (am 9, .inl (g 0, 8, .inl (fun j => jI (AA 9 j)))) s.heap := hPic.2 9 (by omega) (by omega)
  obtain ⟨e1_d, e2_d, e3_d, e6_d, e7_d, e9_d, e10_d⟩ := hR.2.2 d hd
  have f_d := hz.2.2.1 d (by have := hz.1; omega)
  have hN := hz.1
  obtain ⟨e1_u, e2_u, e3_u, e6_u, e7_u, e9_u, e10_u⟩ := hR.2.2 u hu
  have f_u := hz.2.2.1 u (by have := hz.1; omega)
  have hN := hz.1
  have hdv := hR.1
  have hN := hz.1
  have hl := lv_entry ([.ref (am 0), .int (jI ((d : Int))), .int (jI ((u : Int))), .int (jI (mg))]) (n := 6) (Nat.le_of_ble_eq_true rfl)
  rw [lg_entry_eq]
  generalize (lg_sl ([.ref (am 0), .int (jI ((d : Int))), .int (jI ((u : Int))), .int (jI (mg))]) ++ List.replicate (6 - (lg_sl ([.ref (am 0), .int (jI ((d : Int))), .int (jI ((u : Int))), .int (jI (mg))])).length) Slot.unset).toArray = ls at hl ⊢
  have hl : lv_has ls 6 [(0, .ref (am 0)), (1, .int (jI ((d : Int)))), (2, .int (jI ((u : Int)))), (3, .int (jI (mg)))] := hl
  have hT0 : mTo am s.heap s.heap [] := mTo.rf
  refine lv_aload_n hx hb dX4_broken_0 rfl (lv_at hl 0 rfl) ?_
  refine lv_iload_n hx hb dX4_broken_1 rfl (lv_at hl 1 rfl) ?_
  refine lv_iload_n hx hb dX4_broken_2 rfl (lv_at hl 2 rfl) ?_
  refine lv_iload_n hx hb dX4_broken_3 rfl (lv_at hl 3 rfl) ?_
  refine m_call (va_runV (As := [.int (jI ((d : Int))), .int (jI ((u : Int))), .int (jI (mg))]) (rest := []) ⟨hx, hb, hml, hown, hts⟩ (k_lookOrder l D g am cd dv vo ab be AA z hz hR d u mg hd hu hdu hmg hj) (cwV 3 hts (gd_V kw_519 kw_521 kw_6 kw_16 kcX4_lookOrder) rfl rfl rfl (by decide +kernel) ⟨Nat.le_of_ble_eq_true rfl, Nat.le_of_ble_eq_true rfl⟩) (pu_preV hPic hK rfl hm0) rfl rfl hl.1 rfl (lv_room (Nat.le_of_ble_eq_true rfl)) dX4_broken_4 ⟨Nat.zero_le _, Nat.zero_le _⟩) hT0 (fun H locs cd9 dv9 vo9 AA9 ab9 be9 hPh hPic hT0 => ?_)
  refine W.eq (g2 := F0 m 7 ls []) rfl ?_
  obtain ⟨q1, q2, q3, q4⟩ := hPh
  rw [q1, q2, q3, q4] at hPic
  have hm0 := hPic.1
  have hm9 : va_at D vwCl (am 9, .inl (g 0, 8, .inl (fun j => jI (AA 9 j)))) H := hPic.2 9 (by omega) (by omega)
  refine jv_iconst hx hb dX4_broken_7 ?_
  refine lv_istore (lv' := [(4, .int (jI (0))), (0, .ref (am 0)), (1, .int (jI ((d : Int)))), (2, .int (jI ((u : Int)))), (3, .int (jI (mg)))]) hx hb dX4_broken_8 hl (by decide) rfl (fun ls hl => ?_)
  refine jv_iconst hx hb dX4_broken_10 ?_
  refine lv_istore (lv' := [(5, .int (jI (1))), (4, .int (jI (0))), (0, .ref (am 0)), (1, .int (jI ((d : Int)))), (2, .int (jI ((u : Int)))), (3, .int (jI (mg)))]) hx hb dX4_broken_11 hl (by decide) rfl (fun ls hl => ?_)
  refine jw_loop3 (X := Int × Int × Int × Int) (fun x => (5001 - x.1).toNat) (fun x H L ls => (1 ≤ x.1 ∧ x.1 ≤ 5001 ∧ dC (cBrk (bCh z d) (bCh z u) mg) 5000 1 = x.2.2.2 + dC (cBrk (bCh z d) (bCh z u) mg) (5001 - x.1).toNat x.1 ∧ mW D g am 0 dv vo x.2.1 x.2.2.1 AA H ∧ mTo am s.heap H L) ∧ lv_has ls 6 [(0, .ref (am 0)), (1, .int (jI ((d : Int)))), (2, .int (jI ((u : Int)))), (3, .int (jI (mg))), (4, .int (jI (x.2.2.2))), (5, .int (jI (x.1)))]) ?_ (1, ab9, be9, 0) H locs ls ⟨⟨by dsimp only; omega, by dsimp only; omega, by dsimp only; first | rfl | (rw [Int.zero_add]; rfl), hPic, hT0⟩, lv_sub hl [2, 3, 4, 5, 1, 0] rfl⟩
  clear hl hPic hT0
  intro x H L ls hinv ih
  obtain ⟨i, a1, b1, n⟩ := x
  obtain ⟨⟨hi1, hi2, he, hPic, hT0⟩, hl⟩ := hinv
  dsimp only at hi1 hi2 he hPic
  have hl : lv_has ls 6 [(0, .ref (am 0)), (1, .int (jI ((d : Int)))), (2, .int (jI ((u : Int)))), (3, .int (jI (mg))), (4, .int (jI (n))), (5, .int (jI (i)))] := hl
  have hm0 := hPic.1
  have hm9 : va_at D vwCl (am 9, .inl (g 0, 8, .inl (fun j => jI (AA 9 j)))) H := hPic.2 9 (by omega) (by omega)
  refine lv_iload hx hb dX4_broken_13 (lv_at hl 5 rfl) ?_
  refine jv_sipush hx hb dX4_broken_15 (by decide) ?_
  refine jv_icmp_gt (tgt := 68) hx hb dX4_broken_18 (by decide) (by omega) (by omega) (fun c18 => ?_) (fun c18 => ?_)
  · refine lv_iload hx hb dX4_broken_68 (lv_at hl 4 rfl) ?_
    exact m_iret hx hb hr hlocks dX4_broken_70 ⟨rfl, hR⟩ hPic hT0 (by rw [he, show (5001 - i).toNat = 0 by omega]; simp [dC])
  · refine lv_aload_n hx hb dX4_broken_21 rfl (lv_at hl 0 rfl) ?_
    refine va_get (D := D) (ci := 4) (v := .int (jI (0))) (C := RX4) (T := TX4) (N := 17) hx hb hts (fun w h => List.mem_cons_of_mem _ (uw_X4 w h)) hown hK (j_P1 hm0) 0 rfl rfl 0 (by decide) (hts _ (List.mem_cons_of_mem _ kw_418)) (fun _ h9 => h9) rfl dX4_broken_22 ?_
    refine jv_if_ne (tgt := 68) hx hb dX4_broken_25 (by decide) (by omega) (fun c25 => ?_) (fun c25 => ?_)
    · exact absurd c25 (by decide)
    · refine lv_iload hx hb dX4_broken_28 (lv_at hl 4 rfl) ?_
      refine lv_aload_n hx hb dX4_broken_30 rfl (lv_at hl 0 rfl) ?_
      refine lv_iload_n hx hb dX4_broken_31 rfl (lv_at hl 1 rfl) ?_
      refine lv_aload_n hx hb dX4_broken_32 rfl (lv_at hl 0 rfl) ?_
      refine va_get (D := D) (ci := 4) (v := .ref (am 9)) (C := RX4) (T := TX4) (N := 17) hx hb hts (fun w h => List.mem_cons_of_mem _ (uw_X4 w h)) hown hK (j_P1 hm0) 0 rfl rfl 10 (by decide) (hts _ (List.mem_cons_of_mem _ kw_428)) (fun _ h9 => h9) rfl dX4_broken_33 ?_
      refine lv_iload_n hx hb dX4_broken_36 rfl (lv_at hl 1 rfl) ?_
      refine jv_iald (i := d) hx hb hK hm9 0 rfl (by omega) (by omega) (by decide) dX4_broken_37 ?_
      rw [e9_d]
      refine lv_iload_n hx hb dX4_broken_38 rfl (lv_at hl 2 rfl) ?_
      refine lv_aload_n hx hb dX4_broken_39 rfl (lv_at hl 0 rfl) ?_
      refine va_get (D := D) (ci := 4) (v := .ref (am 9)) (C := RX4) (T := TX4) (N := 17) hx hb hts (fun w h => List.mem_cons_of_mem _ (uw_X4 w h)) hown hK (j_P1 hm0) 0 rfl rfl 10 (by decide) (hts _ (List.mem_cons_of_mem _ kw_428)) (fun _ h9 => h9) rfl dX4_broken_40 ?_
      refine lv_iload_n hx hb dX4_broken_43 rfl (lv_at hl 2 rfl) ?_
      refine jv_iald (i := u) hx hb hK hm9 0 rfl (by omega) (by omega) (by decide) dX4_broken_44 ?_
      rw [e9_u]
      refine lv_iload_n hx hb dX4_broken_45 rfl (lv_at hl 3 rfl) ?_
      refine lv_iload hx hb dX4_broken_46 (lv_at hl 5 rfl) ?_
      refine m_call (va_runV (As := [.int (jI ((d : Int))), .int (jI ((bC z d : Int))), .int (jI ((u : Int))), .int (jI ((bC z u : Int))), .int (jI (mg)), .int (jI (i))]) (rest := [.int (jI (n))]) ⟨hx, hb, hml, hown, hts⟩ (k_isGood l D g am 0 dv vo a1 b1 AA z hz hR d (bC z d) u (bC z u) mg i hd f_d.2.2.1 hu f_u.2.2.1 hmg (by omega) hj) (cwV 6 hts (gd_V kw_523 kw_525 kw_7 kw_16 kcX4_isGood) rfl rfl rfl (by decide +kernel) ⟨Nat.le_of_ble_eq_true rfl, Nat.le_of_ble_eq_true rfl⟩) (pu_preV hPic hK rfl hm0) rfl rfl hl.1 rfl (lv_room (Nat.le_of_ble_eq_true rfl)) dX4_broken_48 ⟨Nat.zero_le _, Nat.zero_le _⟩) hT0 (fun H locs cd9 dv9 vo9 AA9 ab9 be9 hPh hPic hT0 => ?_)
      refine W.eq (g2 := F0 m 51 ls [.int (jI (bI (cWithin (bCh z d) true mg (bCh z u) false i))), .int (jI (n))]) rfl ?_
      obtain ⟨q1, q2, q3, q4⟩ := hPh
      rw [q1, q2, q3, q4] at hPic
      have hm0 := hPic.1
      have hm9 : va_at D vwCl (am 9, .inl (g 0, 8, .inl (fun j => jI (AA 9 j)))) H := hPic.2 9 (by omega) (by omega)
      refine jv_if_eq (tgt := 58) hx hb dX4_broken_51 (by decide) (bI_rng _) (fun c51 => ?_) (fun c51 => ?_)
      · refine jv_iconst hx hb dX4_broken_58 ?_
        refine jv_iadd hx hb dX4_broken_59 ?_
        refine lv_istore (lv' := [(4, .int (jI (n + 1))), (0, .ref (am 0)), (1, .int (jI ((d : Int)))), (2, .int (jI ((u : Int)))), (3, .int (jI (mg))), (5, .int (jI (i)))]) hx hb dX4_broken_60 hl (by decide) rfl (fun ls hl => ?_)
        refine lv_iinc (v := jI (i + 1)) (lv' := [(5, .int (jI (i + 1))), (4, .int (jI (n + 1))), (0, .ref (am 0)), (1, .int (jI ((d : Int)))), (2, .int (jI ((u : Int)))), (3, .int (jI (mg)))]) hx hb dX4_broken_62 hl (k := 5) rfl (jI_add _ _) (by decide) rfl (fun ls hl => ?_)
        refine lv_goto (tgt := 13) hx hb dX4_broken_65 (by decide) ?_
        exact ih (i + 1, ab9, be9, n + 1) H _ ls ⟨⟨by dsimp only; omega, by dsimp only; omega, by dsimp only; rw [he, show (5001 - i).toNat = (5001 - (i + 1)).toNat + 1 by omega]; simp only [dC]; rw [if_pos (by rw [cBrk, bI_fa c51]; rfl)]; omega, hPic, hT0⟩, lv_sub hl [2, 3, 4, 5, 1, 0] rfl⟩ (by dsimp only; omega)
      · refine jv_iconst hx hb dX4_broken_54 ?_
        refine lv_goto (tgt := 59) hx hb dX4_broken_55 (by decide) ?_
        refine jv_iadd hx hb dX4_broken_59 ?_
        refine lv_istore (lv' := [(4, .int (jI (n + 0))), (0, .ref (am 0)), (1, .int (jI ((d : Int)))), (2, .int (jI ((u : Int)))), (3, .int (jI (mg))), (5, .int (jI (i)))]) hx hb dX4_broken_60 hl (by decide) rfl (fun ls hl => ?_)
        refine lv_iinc (v := jI (i + 1)) (lv' := [(5, .int (jI (i + 1))), (4, .int (jI (n + 0))), (0, .ref (am 0)), (1, .int (jI ((d : Int)))), (2, .int (jI ((u : Int)))), (3, .int (jI (mg)))]) hx hb dX4_broken_62 hl (k := 5) rfl (jI_add _ _) (by decide) rfl (fun ls hl => ?_)
        refine lv_goto (tgt := 13) hx hb dX4_broken_65 (by decide) ?_
        exact ih (i + 1, ab9, be9, n + 0) H _ ls ⟨⟨by dsimp only; omega, by dsimp only; omega, by dsimp only; rw [he, show (5001 - i).toNat = (5001 - (i + 1)).toNat + 1 by omega]; simp only [dC]; rw [if_neg (by rw [cBrk, bI_tr c51]; decide)]; omega, hPic, hT0⟩, lv_sub hl [2, 3, 4, 5, 1, 0] rfl⟩ (by dsimp only; omega)
end
section
theorem mU_at {α : Type} (A : Nat → Nat → α) (a k : Nat) (v : α) (b j : Nat) : jUp A a (jUp (A a) k v) b j = if b = a ∧ j = k then v else A b j := by
  by_cases h : b = a ∧ j = k
  · obtain ⟨rfl, rfl⟩ := h
    rw [if_pos ⟨rfl, rfl⟩, jUp2_s]
  · rw [if_neg h]
    exact jUp2_n (by omega)
theorem jUp_at {α : Type} (f : Nat → α) (k : Nat) (v : α) (j : Nat) : jUp f k v j = if j = k then v else f j := rfl
section MR
variable {z : bSt} {dv vo : Int} {AA : Nat → Nat → Int}
theorem mR_C {d o : Nat} (hR : mR z dv vo AA) : mR (zC z d o) dv vo (jUp AA 9 (jUp (AA 9) d (o : Int))) := by
  obtain ⟨h1, h2, h3⟩ := hR
  refine ⟨h1, h2, fun i hi => ?_⟩
  obtain ⟨e1, e2, e3, e6, e7, e9, e10⟩ := h3 i hi
  refine ⟨?_, ?_, fun k hk => ⟨?_, ?_, ?_⟩, ?_, fun j hj => ⟨?_, ?_⟩, ?_, ?_⟩
  · rw [mU_at, if_neg (by omega)]; exact e1
  · rw [mU_at, if_neg (by omega)]; exact e2
  · rw [mU_at, if_neg (by omega)]; exact (e3 k hk).1
  · rw [mU_at, if_neg (by omega)]; exact (e3 k hk).2.1
  · rw [mU_at, if_neg (by omega)]; exact (e3 k hk).2.2
  · rw [mU_at, if_neg (by omega)]; exact e6
  · rw [mU_at, if_neg (by omega)]; exact (e7 j hj).1
  · rw [mU_at, if_neg (by omega)]; exact (e7 j hj).2
  · show _ = ((jUp (bC z) d o i : Nat) : Int)
    rw [mU_at, jUp_at]
    by_cases h : i = d
    · rw [if_pos ⟨rfl, h⟩, if_pos h]
    · rw [if_neg (by omega), if_neg h]; exact e9
  · rw [mU_at, if_neg (by omega)]; exact e10
theorem mR_Z {d : Nat} {v : Int} (hR : mR z dv vo AA) : mR (zZ z d v) dv vo (jUp AA 10 (jUp (AA 10) d v)) := by
  obtain ⟨h1, h2, h3⟩ := hR
  refine ⟨h1, h2, fun i hi => ?_⟩
  obtain ⟨e1, e2, e3, e6, e7, e9, e10⟩ := h3 i hi
  refine ⟨?_, ?_, fun k hk => ⟨?_, ?_, ?_⟩, ?_, fun j hj => ⟨?_, ?_⟩, ?_, ?_⟩
  · rw [mU_at, if_neg (by omega)]; exact e1
  · rw [mU_at, if_neg (by omega)]; exact e2
  · rw [mU_at, if_neg (by omega)]; exact (e3 k hk).1
  · rw [mU_at, if_neg (by omega)]; exact (e3 k hk).2.1
  · rw [mU_at, if_neg (by omega)]; exact (e3 k hk).2.2
  · rw [mU_at, if_neg (by omega)]; exact e6
  · rw [mU_at, if_neg (by omega)]; exact (e7 j hj).1
  · rw [mU_at, if_neg (by omega)]; exact (e7 j hj).2
  · rw [mU_at, if_neg (by omega)]; exact e9
  · show _ = jUp (bZ z) d v i
    rw [mU_at, jUp_at]
    by_cases h : i = d
    · rw [if_pos ⟨rfl, h⟩, if_pos h]
    · rw [if_neg (by omega), if_neg h]; exact e10
theorem mR_V {v : Int} (hR : mR z dv vo AA) : mR (zV z v) dv v AA := ⟨hR.1, rfl, hR.2.2⟩
/-- an option more -/
theorem mR_O {d o : Nat} {sc de : Int} (hz : bOK z) (hR : mR z dv vo AA) (hd : d < bN z) (ho : bO z d = o) (ho4 : o < 4) {A1 A2 A3 : Nat → Nat → Int} (h1 : A1 = jUp AA 7 (jUp (AA 7) (4 * d + o) sc)) (h2 : A2 = jUp A1 8 (jUp (A1 8) (4 * d + o) de)) (h3 : A3 = jUp A2 6 (jUp (A2 6) d ((o : Int) + 1))) : mR (zO (zD (zS z d o sc) d o de) d (o + 1)) dv vo A3 := by
  obtain ⟨r1, r2, r3⟩ := hR
  have hN := hz.1
  have key : ∀ b j, A3 b j = if b = 6 ∧ j = d then (o : Int) + 1 else if b = 8 ∧ j = 4 * d + o then de else if b = 7 ∧ j = 4 * d + o then sc else AA b j := by
    intro b j
    rw [h3, mU_at, h2, mU_at, h1, mU_at]
  refine ⟨r1, r2, fun i hi => ?_⟩
  have hi : i < bN z := hi
  obtain ⟨e1, e2, e3, e6, e7, e9, e10⟩ := r3 i hi
  have f := hz.2.2.1 i (by omega)
  have hS : ∀ j, bS (zO (zD (zS z d o sc) d o de) d (o + 1)) i j = if i = d ∧ j = o then sc else bS z i j := fun j => mU_at (bS z) d o sc i j
  have hD : ∀ j, bD (zO (zD (zS z d o sc) d o de) d (o + 1)) i j = if i = d ∧ j = o then de else bD z i j := fun j => mU_at (bD z) d o de i j
  have hO : bO (zO (zD (zS z d o sc) d o de) d (o + 1)) i = if i = d then o + 1 else bO z i := rfl
  refine ⟨?_, ?_, fun k hk => ⟨?_, ?_, ?_⟩, ?_, fun j hj => ?_, ?_, ?_⟩
  · rw [key, if_neg (by omega), if_neg (by omega), if_neg (by omega)]; exact e1
  · rw [key, if_neg (by omega), if_neg (by omega), if_neg (by omega)]; exact e2
  · rw [key, if_neg (by omega), if_neg (by omega), if_neg (by omega)]; exact (e3 k hk).1
  · rw [key, if_neg (by omega), if_neg (by omega), if_neg (by omega)]; exact (e3 k hk).2.1
  · rw [key, if_neg (by omega), if_neg (by omega), if_neg (by omega)]; exact (e3 k hk).2.2
  · rw [key, hO]
    by_cases h : i = d
    · rw [if_pos ⟨rfl, h⟩, if_pos h]; rfl
    · rw [if_neg (by omega), if_neg (by omega), if_neg (by omega), if_neg h]; exact e6
  · rw [hO] at hj
    rw [hS, hD, key, key]
    by_cases h : i = d ∧ j = o
    · obtain ⟨rfl, rfl⟩ := h
      rw [if_neg (by omega), if_neg (by omega), if_pos ⟨rfl, rfl⟩, if_pos ⟨rfl, rfl⟩, if_neg (by omega), if_pos ⟨rfl, rfl⟩, if_pos ⟨rfl, rfl⟩]
      exact ⟨rfl, rfl⟩
    · have hj2 : j < bO z i := by
        by_cases hid : i = d
        · rw [if_pos hid] at hj; subst hid; omega
        · rw [if_neg hid] at hj; exact hj
      have hne : ¬ (4 * i + j = 4 * d + o) := by omega
      rw [if_neg (by omega), if_neg (by omega), if_neg (by omega), if_neg h, if_neg (by omega), if_neg (by omega), if_neg (by omega), if_neg h]
      exact e7 j hj2
  · rw [key, if_neg (by omega), if_neg (by omega), if_neg (by omega)]; exact e9
  · rw [key, if_neg (by omega), if_neg (by omega), if_neg (by omega)]; exact e10
/-- a point more -/
theorem mR_P {d k : Nat} {pl le mo : Int} (hz : bOK z) (hR : mR z dv vo AA) (hd : d < bN z) (hk : bK z d = k) (hk6 : k < 6) {A1 A2 A3 A4 : Nat → Nat → Int} (h1 : A1 = jUp AA 3 (jUp (AA 3) (6 * d + k) pl)) (h2 : A2 = jUp A1 4 (jUp (A1 4) (6 * d + k) le)) (h3 : A3 = jUp A2 5 (jUp (A2 5) (6 * d + k) mo)) (h4 : A4 = jUp A3 2 (jUp (A3 2) d ((k : Int) + 1))) : mR (zK (zM (zL (zP z d k pl) d k le) d k mo) d (k + 1)) dv vo A4 := by
  obtain ⟨r1, r2, r3⟩ := hR
  have hN := hz.1
  have key : ∀ b j, A4 b j = if b = 2 ∧ j = d then (k : Int) + 1 else if b = 5 ∧ j = 6 * d + k then mo else if b = 4 ∧ j = 6 * d + k then le else if b = 3 ∧ j = 6 * d + k then pl else AA b j := by
    intro b j
    rw [h4, mU_at, h3, mU_at, h2, mU_at, h1, mU_at]
  refine ⟨r1, r2, fun i hi => ?_⟩
  have hi : i < bN z := hi
  obtain ⟨e1, e2, e3, e6, e7, e9, e10⟩ := r3 i hi
  have f := (hz.2.2.1 i (by omega)).2.2.2.2.2 0 (by have := (hz.2.2.1 i (by omega)).1; omega)
  have f6 : bK z i ≤ 6 := f.1
  have hP : ∀ j, bP (zK (zM (zL (zP z d k pl) d k le) d k mo) d (k + 1)) i j = if i = d ∧ j = k then pl else bP z i j := fun j => mU_at (bP z) d k pl i j
  have hL : ∀ j, bL (zK (zM (zL (zP z d k pl) d k le) d k mo) d (k + 1)) i j = if i = d ∧ j = k then le else bL z i j := fun j => mU_at (bL z) d k le i j
  have hM : ∀ j, bM (zK (zM (zL (zP z d k pl) d k le) d k mo) d (k + 1)) i j = if i = d ∧ j = k then mo else bM z i j := fun j => mU_at (bM z) d k mo i j
  have hK : bK (zK (zM (zL (zP z d k pl) d k le) d k mo) d (k + 1)) i = if i = d then k + 1 else bK z i := rfl
  refine ⟨?_, ?_, fun j hj => ?_, ?_, fun j hj => ⟨?_, ?_⟩, ?_, ?_⟩
  · rw [key, if_neg (by omega), if_neg (by omega), if_neg (by omega), if_neg (by omega)]; exact e1
  · rw [key, hK]
    by_cases h : i = d
    · rw [if_pos ⟨rfl, h⟩, if_pos h]; rfl
    · rw [if_neg (by omega), if_neg (by omega), if_neg (by omega), if_neg (by omega), if_neg h]; exact e2
  · rw [hK] at hj
    rw [hP, hL, hM, key, key, key]
    by_cases h : i = d ∧ j = k
    · obtain ⟨rfl, rfl⟩ := h
      rw [if_neg (by omega), if_neg (by omega), if_neg (by omega), if_pos ⟨rfl, rfl⟩, if_pos ⟨rfl, rfl⟩, if_neg (by omega), if_neg (by omega), if_pos ⟨rfl, rfl⟩, if_pos ⟨rfl, rfl⟩, if_neg (by omega), if_pos ⟨rfl, rfl⟩, if_pos ⟨rfl, rfl⟩]
      exact ⟨rfl, rfl, rfl⟩
    · have hj2 : j < bK z i := by
        by_cases hid : i = d
        · rw [if_pos hid] at hj; subst hid; omega
        · rw [if_neg hid] at hj; exact hj
      have hne : ¬ (6 * i + j = 6 * d + k) := by omega
      rw [if_neg (by omega), if_neg (by omega), if_neg (by omega), if_neg (by omega), if_neg h, if_neg (by omega), if_neg (by omega), if_neg (by omega), if_neg (by omega), if_neg h, if_neg (by omega), if_neg (by omega), if_neg (by omega), if_neg (by omega), if_neg h]
      exact e3 j hj2
  · rw [key, if_neg (by omega), if_neg (by omega), if_neg (by omega), if_neg (by omega)]; exact e6
  · rw [key, if_neg (by omega), if_neg (by omega), if_neg (by omega), if_neg (by omega)]; exact (e7 j hj).1
  · rw [key, if_neg (by omega), if_neg (by omega), if_neg (by omega), if_neg (by omega)]; exact (e7 j hj).2
  · rw [key, if_neg (by omega), if_neg (by omega), if_neg (by omega), if_neg (by omega)]; exact e9
  · rw [key, if_neg (by omega), if_neg (by omega), if_neg (by omega), if_neg (by omega)]; exact e10
/-- a device that isn't there yet is as new -/
def bDef (z : bSt) : Prop := ∀ i, bN z ≤ i → i < 8 → bK z i = 0 ∧ bO z i = 1 ∧ bS z i 0 = 100 ∧ bD z i 0 = 0 ∧ bC z i = 0 ∧ bZ z i = 100
/-- a device more -/
theorem mR_D {n : Nat} {uo : Option Nat} (hz : bOK z) (hdf : bDef z) (hR : mR z dv vo AA) (hn : bN z = n) (hn8 : n < 8) {A1 A2 A3 A4 A5 A6 A7 : Nat → Nat → Int} (h1 : A1 = jUp AA 1 (jUp (AA 1) n (upI uo))) (h2 : A2 = jUp A1 2 (jUp (A1 2) n 0)) (h3 : A3 = jUp A2 6 (jUp (A2 6) n 1)) (h4 : A4 = jUp A3 7 (jUp (A3 7) (4 * n) 100)) (h5 : A5 = jUp A4 8 (jUp (A4 8) (4 * n) 0)) (h6 : A6 = jUp A5 9 (jUp (A5 9) n 0)) (h7 : A7 = jUp A6 10 (jUp (A6 10) n 100)) : mR (zN (zU z n uo) (n + 1)) ((n : Int) + 1) vo A7 := by
  obtain ⟨r1, r2, r3⟩ := hR
  have key : ∀ b j, A7 b j = if b = 10 ∧ j = n then 100 else if b = 9 ∧ j = n then 0 else if b = 8 ∧ j = 4 * n then 0 else if b = 7 ∧ j = 4 * n then 100 else if b = 6 ∧ j = n then 1 else if b = 2 ∧ j = n then 0 else if b = 1 ∧ j = n then upI uo else AA b j := by
    intro b j
    rw [h7, mU_at, h6, mU_at, h5, mU_at, h4, mU_at, h3, mU_at, h2, mU_at, h1, mU_at]
  refine ⟨rfl, r2, fun i hi => ?_⟩
  have hi : i < n + 1 := hi
  have hU : bU (zN (zU z n uo) (n + 1)) i = if i = n then uo else bU z i := rfl
  rw [hU]
  show _ ∧ A7 2 i = (bK z i : Int) ∧ (∀ k, k < bK z i → A7 3 (6 * i + k) = bP z i k ∧ A7 4 (6 * i + k) = bL z i k ∧ A7 5 (6 * i + k) = bM z i k) ∧ A7 6 i = (bO z i : Int) ∧ (∀ j, j < bO z i → A7 7 (4 * i + j) = bS z i j ∧ A7 8 (4 * i + j) = bD z i j) ∧ A7 9 i = (bC z i : Int) ∧ A7 10 i = bZ z i
  by_cases h : i = n
  · subst h
    obtain ⟨g1, g2, g3, g4, g5, g6⟩ := hdf i (by omega) hn8
    rw [g1, g2, g5, g6, if_pos rfl]
    refine ⟨by simp [key], by simp [key], fun k hk => by omega, by simp [key], fun j hj => ?_, by simp [key], by simp [key]⟩
    have : j = 0 := by omega
    subst this
    rw [g3, g4]
    exact ⟨by simp [key], by simp [key]⟩
  · obtain ⟨e1, e2, e3, e6, e7, e9, e10⟩ := r3 i (by omega)
    have f := hz.2.2.1 i (by omega)
    rw [if_neg h]
    refine ⟨by simp [key, h, e1], by simp [key, h, e2], fun k hk => by simp [key, e3 k hk], by simp [key, h, e6], fun j hj => ?_, by simp [key, h, e9], by simp [key, h, e10]⟩
    have hne : ¬ (4 * i + j = 4 * n) := by omega
    simp [key, hne, e7 j hj]
end MR
end
section
set_option maxRecDepth 20000 in
theorem kw_425 : (.fieldLink RX4 25 "BreakerOrdersModel" "options" "[I" : Cond) ∈ gAll := g_mem 425 rfl rfl
set_option maxRecDepth 20000 in
theorem kw_429 : (.fieldLink RX4 37 "BreakerOrdersModel" "impedances" "[I" : Cond) ∈ gAll := g_mem 429 rfl rfl
set_option maxRecDepth 20000 in
theorem kw_430 : (.fieldLink RX4 90 "BreakerOrdersModel" "voltage" "I" : Cond) ∈ gAll := g_mem 430 rfl rfl
set_option maxRecDepth 20000 in
theorem kw_551 : (.constant RX4 89 1000000 : Cond) ∈ gAll := g_mem 551 rfl rfl
set_option maxHeartbeats 4000000 in
set_option maxRecDepth 100000 in
theorem k_choose (l : Launch) (D : va_G) (g : Nat → ClassId) (am : Nat → Nat) (cd dv vo ab be : Int) (AA : Nat → Nat → Int) (z : bSt) (hz : bOK z) (hR : mR z dv vo AA) (d o : Nat) (hd : d < bN z) (ho : o < bO z d) (hj : mInj am) : Met l yX4_choose wsX4_choose ({ frames := 2, cells := 0, slots := 0, locals := 43 }) (pu_Pc [.ref (am 0), .int (jI ((d : Int))), .int (jI ((o : Int)))] D vwCl (ty9 g) (fun H => mW D g am cd dv vo ab be AA H)) (mQ D g am (some (.int (jI (bC z d : Int)))) (fun c n v A _ _ => c = 0 ∧ mR (zC z d o) n v A)) 0 0 (mFr am) := by
  refine Met.ofW (cc := cX4_choose) (maxL := 4) (ret := some .int) (by decide) rfl ?_
  intro p e s m args below meth c s₁ B hml hv
  obtain ⟨rfl, hPic, hK⟩ := hv
  have hx := B.exec
  have hb := B.bytes
  have hr := B.returns
  have hts := atoms_spec (ws := wsX4_choose) B.pre
  have hown : s.vm.findClass RX4 = some m.cls := findClass_of_methodNamed B.named
  have hlocks := B.notSynchronized
  have hm0 := hPic.1
  have hm6 : va_at D vwCl (am 6, .inl (g 0, 8, .inl (fun j => jI (AA 6 j)))) s.heap := hPic.2 6 (by omega) (by omega)
  have hm9 : va_at D vwCl (am 9, .inl (g 0, 8, .inl (fun j => jI (AA 9 j)))) s.heap := hPic.2 9 (by omega) (by omega)
  obtain ⟨e1_d, e2_d, e3_d, e6_d, e7_d, e9_d, e10_d⟩ := hR.2.2 d hd
  have f_d := hz.2.2.1 d (by have := hz.1; omega)
  have hN := hz.1
  have hdv := hR.1
  have hN := hz.1
  have hl := lv_entry ([.ref (am 0), .int (jI ((d : Int))), .int (jI ((o : Int)))]) (n := 4) (Nat.le_of_ble_eq_true rfl)
  rw [lg_entry_eq]
  generalize (lg_sl ([.ref (am 0), .int (jI ((d : Int))), .int (jI ((o : Int)))]) ++ List.replicate (4 - (lg_sl ([.ref (am 0), .int (jI ((d : Int))), .int (jI ((o : Int)))])).length) Slot.unset).toArray = ls at hl ⊢
  have hl : lv_has ls 4 [(0, .ref (am 0)), (1, .int (jI ((d : Int)))), (2, .int (jI ((o : Int))))] := hl
  have hT0 : mTo am s.heap s.heap [] := mTo.rf
  refine lv_aload_n hx hb dX4_choose_0 rfl (lv_at hl 0 rfl) ?_
  refine lv_aload_n hx hb dX4_choose_1 rfl (lv_at hl 0 rfl) ?_
  refine lv_iload_n hx hb dX4_choose_2 rfl (lv_at hl 1 rfl) ?_
  refine pu_call1 (va_runV (As := [.int (jI ((d : Int)))]) (rest := [.ref (am 0)]) ⟨hx, hb, hml, hown, hts⟩ (k_isDevice l D g am cd dv vo ab be AA (d : Int) (by omega) (by omega)) (cwV 1 hts (gd_V kw_478 kw_480 kw_3 kw_16 kcX4_isDevice) rfl rfl rfl (by decide +kernel) ⟨Nat.le_of_ble_eq_true rfl, Nat.le_of_ble_eq_true rfl⟩) (pu_preV hPic hK rfl hm0) rfl rfl hl.1 rfl (lv_room (Nat.le_of_ble_eq_true rfl)) dX4_choose_3 ⟨Nat.zero_le _, Nat.zero_le _⟩) ?_
  refine jv_if_eq (tgt := 29) hx hb dX4_choose_6 (by decide) (bI_rng _) (fun c6 => ?_) (fun c6 => ?_)
  · exact absurd (bI_fa c6) (by rw [decide_eq_true (by omega)]; decide)
  · refine lv_iload_n hx hb dX4_choose_9 rfl (lv_at hl 2 rfl) ?_
    refine jv_iconst hx hb dX4_choose_10 ?_
    refine lv_aload_n hx hb dX4_choose_11 rfl (lv_at hl 0 rfl) ?_
    refine va_get (D := D) (ci := 4) (v := .ref (am 6)) (C := RX4) (T := TX4) (N := 17) hx hb hts (fun w h => List.mem_cons_of_mem _ (uw_X4 w h)) hown hK (j_P1 hm0) 0 rfl rfl 7 (by decide) (hts _ (List.mem_cons_of_mem _ kw_425)) (fun _ h9 => h9) rfl dX4_choose_12 ?_
    refine lv_iload_n hx hb dX4_choose_15 rfl (lv_at hl 1 rfl) ?_
    refine jv_iald (i := d) hx hb hK hm6 0 rfl (by omega) (by omega) (by decide) dX4_choose_16 ?_
    rw [e6_d]
    refine jv_iconst hx hb dX4_choose_17 ?_
    refine jv_isub hx hb dX4_choose_18 ?_
    refine pu_call1 (va_runS (As := [.int (jI ((o : Int))), .int (jI (0)), .int (jI ((bO z d : Int) - 1))]) (rest := [.ref (am 0)]) ⟨hx, hb, hml, hown, hts⟩ (k_in l D g (o : Int) 0 ((bO z d : Int) - 1) (by omega) (by omega) (by omega)) (cwS 3 hts (gd_S kw_482 kw_483 kw_16 kcX4_in) rfl rfl rfl (by decide +kernel) ⟨Nat.le_of_ble_eq_true rfl, Nat.le_of_ble_eq_true rfl⟩) (pu_preS trivial hK) rfl rfl hl.1 rfl (lv_room (Nat.le_of_ble_eq_true rfl)) dX4_choose_19 ⟨Nat.zero_le _, Nat.zero_le _⟩) ?_
    refine jv_if_eq (tgt := 29) hx hb dX4_choose_22 (by decide) (bI_rng _) (fun c22 => ?_) (fun c22 => ?_)
    · exact absurd (bI_fa c22) (by rw [decide_eq_true (by omega)]; decide)
    · refine jv_iconst hx hb dX4_choose_25 ?_
      refine lv_goto (tgt := 30) hx hb dX4_choose_26 (by decide) ?_
      refine jv_put (D := D) (ci := 4) (v := .int (jI (0))) (ty := .int) (C := RX4) (T := TX4) (N := 17) hx hb hts (fun w h => List.mem_cons_of_mem _ (uw_X4 w h)) tyX4 tyX4_ok nmX4 hown hK hm0 rfl 0 (by decide) (hts _ (List.mem_cons_of_mem _ kw_418)) (fun _ h9 => h9) rfl (by decide +kernel) rfl rfl (Nat.le_of_ble_eq_true rfl) dX4_choose_30 (fun H f9 hn9 hz9 oq9 => ?_)
      have hPic : mW D g am 0 dv vo ab be AA H := mW_obj hj hPic oq9 hn9
      have hT0 := hT0.put 0 (by omega) hz9 oq9 (f := f9)
      have hm0 := hPic.1
      have hm6 : va_at D vwCl (am 6, .inl (g 0, 8, .inl (fun j => jI (AA 6 j)))) H := hPic.2 6 (by omega) (by omega)
      have hm9 : va_at D vwCl (am 9, .inl (g 0, 8, .inl (fun j => jI (AA 9 j)))) H := hPic.2 9 (by omega) (by omega)
      refine lv_aload_n hx hb dX4_choose_33 rfl (lv_at hl 0 rfl) ?_
      refine va_get (D := D) (ci := 4) (v := .int (jI (0))) (C := RX4) (T := TX4) (N := 17) hx hb hts (fun w h => List.mem_cons_of_mem _ (uw_X4 w h)) hown hK (j_P1 hm0) 0 rfl rfl 0 (by decide) (hts _ (List.mem_cons_of_mem _ kw_418)) (fun _ h9 => h9) rfl dX4_choose_34 ?_
      refine jv_if_le (tgt := 42) hx hb dX4_choose_37 (by decide) (by omega) (fun c37 => ?_) (fun c37 => ?_)
      · refine lv_aload_n hx hb dX4_choose_42 rfl (lv_at hl 0 rfl) ?_
        refine va_get (D := D) (ci := 4) (v := .ref (am 9)) (C := RX4) (T := TX4) (N := 17) hx hb hts (fun w h => List.mem_cons_of_mem _ (uw_X4 w h)) hown hK (j_P1 hm0) 0 rfl rfl 10 (by decide) (hts _ (List.mem_cons_of_mem _ kw_428)) (fun _ h9 => h9) rfl dX4_choose_43 ?_
        refine lv_iload_n hx hb dX4_choose_46 rfl (lv_at hl 1 rfl) ?_
        refine jv_iald (i := d) hx hb hK hm9 0 rfl (by omega) (by omega) (by decide) dX4_choose_47 ?_
        rw [e9_d]
        refine lv_istore_n (lv' := [(3, .int (jI ((bC z d : Int)))), (0, .ref (am 0)), (1, .int (jI ((d : Int)))), (2, .int (jI ((o : Int))))]) hx hb dX4_choose_48 rfl hl (by decide) rfl (fun ls hl => ?_)
        refine lv_aload_n hx hb dX4_choose_49 rfl (lv_at hl 1 rfl) ?_
        refine va_get (D := D) (ci := 4) (v := .ref (am 9)) (C := RX4) (T := TX4) (N := 17) hx hb hts (fun w h => List.mem_cons_of_mem _ (uw_X4 w h)) hown hK (j_P1 hm0) 0 rfl rfl 10 (by decide) (hts _ (List.mem_cons_of_mem _ kw_428)) (fun _ h9 => h9) rfl dX4_choose_50 ?_
        refine lv_iload_n hx hb dX4_choose_53 rfl (lv_at hl 2 rfl) ?_
        refine lv_iload_n hx hb dX4_choose_54 rfl (lv_at hl 3 rfl) ?_
        refine jv_iast (i := d) hx hb hK hm9 0 rfl (by omega) (by omega) (by decide) dX4_choose_55 (fun H f9 hn9 hz9 oq9 => ?_)
        have hPic := mW_arr hj hPic 9 (by omega) (by omega) oq9 hn9
        have hT0 := hT0.put 9 (by omega) hz9 oq9 (f := f9)
        have hm0 := hPic.1
        have hm9 : va_at D vwCl (am 9, .inl (g 0, 8, .inl (fun j => jI ((jUp AA 9 (jUp (AA 9) d ((o : Int)))) 9 j)))) H := hPic.2 9 (by omega) (by omega)
        refine lv_iload_n hx hb dX4_choose_56 rfl (lv_at hl 0 rfl) ?_
        exact m_iret hx hb hr hlocks dX4_choose_57 ⟨rfl, mR_C hR⟩ hPic hT0 (by rfl)
      · exact absurd c37 (by omega)
set_option maxHeartbeats 4000000 in
set_option maxRecDepth 100000 in
theorem k_chosen (l : Launch) (D : va_G) (g : Nat → ClassId) (am : Nat → Nat) (cd dv vo ab be : Int) (AA : Nat → Nat → Int) (z : bSt) (hz : bOK z) (hR : mR z dv vo AA) (d : Nat) (hd : d < bN z) (hj : mInj am) : Met l yX4_chosen wsX4_chosen ({ frames := 2, cells := 0, slots := 0, locals := 43 }) (pu_Pc [.ref (am 0), .int (jI ((d : Int)))] D vwCl (ty9 g) (fun H => mW D g am cd dv vo ab be AA H)) (mQ D g am (some (.int (jI (bC z d : Int)))) (fun c n v A _ _ => c = 0 ∧ mR z n v A)) 0 0 (mFr am) := by
  refine Met.ofW (cc := cX4_chosen) (maxL := 2) (ret := some .int) (by decide) rfl ?_
  intro p e s m args below meth c s₁ B hml hv
  obtain ⟨rfl, hPic, hK⟩ := hv
  have hx := B.exec
  have hb := B.bytes
  have hr := B.returns
  have hts := atoms_spec (ws := wsX4_chosen) B.pre
  have hown : s.vm.findClass RX4 = some m.cls := findClass_of_methodNamed B.named
  have hlocks := B.notSynchronized
  have hm0 := hPic.1
  have hm9 : va_at D vwCl (am 9, .inl (g 0, 8, .inl (fun j => jI (AA 9 j)))) s.heap := hPic.2 9 (by omega) (by omega)
  obtain ⟨e1_d, e2_d, e3_d, e6_d, e7_d, e9_d, e10_d⟩ := hR.2.2 d hd
  have f_d := hz.2.2.1 d (by have := hz.1; omega)
  have hN := hz.1
  have hdv := hR.1
  have hN := hz.1
  have hl := lv_entry ([.ref (am 0), .int (jI ((d : Int)))]) (n := 2) (Nat.le_of_ble_eq_true rfl)
  rw [lg_entry_eq]
  generalize (lg_sl ([.ref (am 0), .int (jI ((d : Int)))]) ++ List.replicate (2 - (lg_sl ([.ref (am 0), .int (jI ((d : Int)))])).length) Slot.unset).toArray = ls at hl ⊢
  have hl : lv_has ls 2 [(0, .ref (am 0)), (1, .int (jI ((d : Int))))] := hl
  have hT0 : mTo am s.heap s.heap [] := mTo.rf
  refine lv_aload_n hx hb dX4_chosen_0 rfl (lv_at hl 0 rfl) ?_
  refine lv_aload_n hx hb dX4_chosen_1 rfl (lv_at hl 0 rfl) ?_
  refine lv_iload_n hx hb dX4_chosen_2 rfl (lv_at hl 1 rfl) ?_
  refine pu_call1 (va_runV (As := [.int (jI ((d : Int)))]) (rest := [.ref (am 0)]) ⟨hx, hb, hml, hown, hts⟩ (k_isDevice l D g am cd dv vo ab be AA (d : Int) (by omega) (by omega)) (cwV 1 hts (gd_V kw_478 kw_480 kw_3 kw_16 kcX4_isDevice) rfl rfl rfl (by decide +kernel) ⟨Nat.le_of_ble_eq_true rfl, Nat.le_of_ble_eq_true rfl⟩) (pu_preV hPic hK rfl hm0) rfl rfl hl.1 rfl (lv_room (Nat.le_of_ble_eq_true rfl)) dX4_chosen_3 ⟨Nat.zero_le _, Nat.zero_le _⟩) ?_
  refine jv_if_eq (tgt := 13) hx hb dX4_chosen_6 (by decide) (bI_rng _) (fun c6 => ?_) (fun c6 => ?_)
  · exact absurd (bI_fa c6) (by rw [decide_eq_true (by omega)]; decide)
  · refine jv_iconst hx hb dX4_chosen_9 ?_
    refine lv_goto (tgt := 14) hx hb dX4_chosen_10 (by decide) ?_
    refine jv_put (D := D) (ci := 4) (v := .int (jI (0))) (ty := .int) (C := RX4) (T := TX4) (N := 17) hx hb hts (fun w h => List.mem_cons_of_mem _ (uw_X4 w h)) tyX4 tyX4_ok nmX4 hown hK hm0 rfl 0 (by decide) (hts _ (List.mem_cons_of_mem _ kw_418)) (fun _ h9 => h9) rfl (by decide +kernel) rfl rfl (Nat.le_of_ble_eq_true rfl) dX4_chosen_14 (fun H f9 hn9 hz9 oq9 => ?_)
    have hPic : mW D g am 0 dv vo ab be AA H := mW_obj hj hPic oq9 hn9
    have hT0 := hT0.put 0 (by omega) hz9 oq9 (f := f9)
    have hm0 := hPic.1
    have hm9 : va_at D vwCl (am 9, .inl (g 0, 8, .inl (fun j => jI (AA 9 j)))) H := hPic.2 9 (by omega) (by omega)
    refine lv_aload_n hx hb dX4_chosen_17 rfl (lv_at hl 0 rfl) ?_
    refine va_get (D := D) (ci := 4) (v := .int (jI (0))) (C := RX4) (T := TX4) (N := 17) hx hb hts (fun w h => List.mem_cons_of_mem _ (uw_X4 w h)) hown hK (j_P1 hm0) 0 rfl rfl 0 (by decide) (hts _ (List.mem_cons_of_mem _ kw_418)) (fun _ h9 => h9) rfl dX4_chosen_18 ?_
    refine jv_if_le (tgt := 28) hx hb dX4_chosen_21 (by decide) (by omega) (fun c21 => ?_) (fun c21 => ?_)
    · refine lv_aload_n hx hb dX4_chosen_28 rfl (lv_at hl 0 rfl) ?_
      refine va_get (D := D) (ci := 4) (v := .ref (am 9)) (C := RX4) (T := TX4) (N := 17) hx hb hts (fun w h => List.mem_cons_of_mem _ (uw_X4 w h)) hown hK (j_P1 hm0) 0 rfl rfl 10 (by decide) (hts _ (List.mem_cons_of_mem _ kw_428)) (fun _ h9 => h9) rfl dX4_chosen_29 ?_
      refine lv_iload_n hx hb dX4_chosen_32 rfl (lv_at hl 1 rfl) ?_
      refine jv_iald (i := d) hx hb hK hm9 0 rfl (by omega) (by omega) (by decide) dX4_chosen_33 ?_
      rw [e9_d]
      exact m_iret hx hb hr hlocks dX4_chosen_34 ⟨rfl, hR⟩ hPic hT0 (by rfl)
    · exact absurd c21 (by omega)
set_option maxHeartbeats 4000000 in
set_option maxRecDepth 100000 in
theorem k_impedance (l : Launch) (D : va_G) (g : Nat → ClassId) (am : Nat → Nat) (cd dv vo ab be : Int) (AA : Nat → Nat → Int) (z : bSt) (hz : bOK z) (hR : mR z dv vo AA) (d : Nat) (v : Int) (hd : d < bN z) (hv : 1 ≤ v ∧ v ≤ 10000) (hj : mInj am) : Met l yX4_impedance wsX4_impedance ({ frames := 2, cells := 0, slots := 0, locals := 43 }) (pu_Pc [.ref (am 0), .int (jI ((d : Int))), .int (jI (v))] D vwCl (ty9 g) (fun H => mW D g am cd dv vo ab be AA H)) (mQ D g am (some (.int (jI (bZ z d)))) (fun c n v9 A _ _ => c = 0 ∧ mR (zZ z d v) n v9 A)) 0 0 (mFr am) := by
  refine Met.ofW (cc := cX4_impedance) (maxL := 4) (ret := some .int) (by decide) rfl ?_
  intro p e s m args below meth c s₁ B hml hv
  obtain ⟨rfl, hPic, hK⟩ := hv
  have hx := B.exec
  have hb := B.bytes
  have hr := B.returns
  have hts := atoms_spec (ws := wsX4_impedance) B.pre
  have hown : s.vm.findClass RX4 = some m.cls := findClass_of_methodNamed B.named
  have hlocks := B.notSynchronized
  have hm0 := hPic.1
  have hm10 : va_at D vwCl (am 10, .inl (g 0, 8, .inl (fun j => jI (AA 10 j)))) s.heap := hPic.2 10 (by omega) (by omega)
  obtain ⟨e1_d, e2_d, e3_d, e6_d, e7_d, e9_d, e10_d⟩ := hR.2.2 d hd
  have f_d := hz.2.2.1 d (by have := hz.1; omega)
  have hN := hz.1
  have hdv := hR.1
  have hN := hz.1
  have hl := lv_entry ([.ref (am 0), .int (jI ((d : Int))), .int (jI (v))]) (n := 4) (Nat.le_of_ble_eq_true rfl)
  rw [lg_entry_eq]
  generalize (lg_sl ([.ref (am 0), .int (jI ((d : Int))), .int (jI (v))]) ++ List.replicate (4 - (lg_sl ([.ref (am 0), .int (jI ((d : Int))), .int (jI (v))])).length) Slot.unset).toArray = ls at hl ⊢
  have hl : lv_has ls 4 [(0, .ref (am 0)), (1, .int (jI ((d : Int)))), (2, .int (jI (v)))] := hl
  have hT0 : mTo am s.heap s.heap [] := mTo.rf
  refine lv_aload_n hx hb dX4_impedance_0 rfl (lv_at hl 0 rfl) ?_
  refine lv_aload_n hx hb dX4_impedance_1 rfl (lv_at hl 0 rfl) ?_
  refine lv_iload_n hx hb dX4_impedance_2 rfl (lv_at hl 1 rfl) ?_
  refine pu_call1 (va_runV (As := [.int (jI ((d : Int)))]) (rest := [.ref (am 0)]) ⟨hx, hb, hml, hown, hts⟩ (k_isDevice l D g am cd dv vo ab be AA (d : Int) (by omega) (by omega)) (cwV 1 hts (gd_V kw_478 kw_480 kw_3 kw_16 kcX4_isDevice) rfl rfl rfl (by decide +kernel) ⟨Nat.le_of_ble_eq_true rfl, Nat.le_of_ble_eq_true rfl⟩) (pu_preV hPic hK rfl hm0) rfl rfl hl.1 rfl (lv_room (Nat.le_of_ble_eq_true rfl)) dX4_impedance_3 ⟨Nat.zero_le _, Nat.zero_le _⟩) ?_
  refine jv_if_eq (tgt := 24) hx hb dX4_impedance_6 (by decide) (bI_rng _) (fun c6 => ?_) (fun c6 => ?_)
  · exact absurd (bI_fa c6) (by rw [decide_eq_true (by omega)]; decide)
  · refine lv_iload_n hx hb dX4_impedance_9 rfl (lv_at hl 2 rfl) ?_
    refine jv_iconst hx hb dX4_impedance_10 ?_
    refine jv_sipush hx hb dX4_impedance_11 (by decide) ?_
    refine pu_call1 (va_runS (As := [.int (jI (v)), .int (jI (1)), .int (jI (10000))]) (rest := [.ref (am 0)]) ⟨hx, hb, hml, hown, hts⟩ (k_in l D g v 1 10000 (by omega) (by omega) (by omega)) (cwS 3 hts (gd_S kw_482 kw_483 kw_16 kcX4_in) rfl rfl rfl (by decide +kernel) ⟨Nat.le_of_ble_eq_true rfl, Nat.le_of_ble_eq_true rfl⟩) (pu_preS trivial hK) rfl rfl hl.1 rfl (lv_room (Nat.le_of_ble_eq_true rfl)) dX4_impedance_14 ⟨Nat.zero_le _, Nat.zero_le _⟩) ?_
    refine jv_if_eq (tgt := 24) hx hb dX4_impedance_17 (by decide) (bI_rng _) (fun c17 => ?_) (fun c17 => ?_)
    · exact absurd (bI_fa c17) (by rw [decide_eq_true (by omega)]; decide)
    · refine jv_iconst hx hb dX4_impedance_20 ?_
      refine lv_goto (tgt := 25) hx hb dX4_impedance_21 (by decide) ?_
      refine jv_put (D := D) (ci := 4) (v := .int (jI (0))) (ty := .int) (C := RX4) (T := TX4) (N := 17) hx hb hts (fun w h => List.mem_cons_of_mem _ (uw_X4 w h)) tyX4 tyX4_ok nmX4 hown hK hm0 rfl 0 (by decide) (hts _ (List.mem_cons_of_mem _ kw_418)) (fun _ h9 => h9) rfl (by decide +kernel) rfl rfl (Nat.le_of_ble_eq_true rfl) dX4_impedance_25 (fun H f9 hn9 hz9 oq9 => ?_)
      have hPic : mW D g am 0 dv vo ab be AA H := mW_obj hj hPic oq9 hn9
      have hT0 := hT0.put 0 (by omega) hz9 oq9 (f := f9)
      have hm0 := hPic.1
      have hm10 : va_at D vwCl (am 10, .inl (g 0, 8, .inl (fun j => jI (AA 10 j)))) H := hPic.2 10 (by omega) (by omega)
      refine lv_aload_n hx hb dX4_impedance_28 rfl (lv_at hl 0 rfl) ?_
      refine va_get (D := D) (ci := 4) (v := .int (jI (0))) (C := RX4) (T := TX4) (N := 17) hx hb hts (fun w h => List.mem_cons_of_mem _ (uw_X4 w h)) hown hK (j_P1 hm0) 0 rfl rfl 0 (by decide) (hts _ (List.mem_cons_of_mem _ kw_418)) (fun _ h9 => h9) rfl dX4_impedance_29 ?_
      refine jv_if_le (tgt := 37) hx hb dX4_impedance_32 (by decide) (by omega) (fun c32 => ?_) (fun c32 => ?_)
      · refine lv_aload_n hx hb dX4_impedance_37 rfl (lv_at hl 0 rfl) ?_
        refine va_get (D := D) (ci := 4) (v := .ref (am 10)) (C := RX4) (T := TX4) (N := 17) hx hb hts (fun w h => List.mem_cons_of_mem _ (uw_X4 w h)) hown hK (j_P1 hm0) 0 rfl rfl 11 (by decide) (hts _ (List.mem_cons_of_mem _ kw_429)) (fun _ h9 => h9) rfl dX4_impedance_38 ?_
        refine lv_iload_n hx hb dX4_impedance_41 rfl (lv_at hl 1 rfl) ?_
        refine jv_iald (i := d) hx hb hK hm10 0 rfl (by omega) (by omega) (by decide) dX4_impedance_42 ?_
        rw [e10_d]
        refine lv_istore_n (lv' := [(3, .int (jI (bZ z d))), (0, .ref (am 0)), (1, .int (jI ((d : Int)))), (2, .int (jI (v)))]) hx hb dX4_impedance_43 rfl hl (by decide) rfl (fun ls hl => ?_)
        refine lv_aload_n hx hb dX4_impedance_44 rfl (lv_at hl 1 rfl) ?_
        refine va_get (D := D) (ci := 4) (v := .ref (am 10)) (C := RX4) (T := TX4) (N := 17) hx hb hts (fun w h => List.mem_cons_of_mem _ (uw_X4 w h)) hown hK (j_P1 hm0) 0 rfl rfl 11 (by decide) (hts _ (List.mem_cons_of_mem _ kw_429)) (fun _ h9 => h9) rfl dX4_impedance_45 ?_
        refine lv_iload_n hx hb dX4_impedance_48 rfl (lv_at hl 2 rfl) ?_
        refine lv_iload_n hx hb dX4_impedance_49 rfl (lv_at hl 3 rfl) ?_
        refine jv_iast (i := d) hx hb hK hm10 0 rfl (by omega) (by omega) (by decide) dX4_impedance_50 (fun H f9 hn9 hz9 oq9 => ?_)
        have hPic := mW_arr hj hPic 10 (by omega) (by omega) oq9 hn9
        have hT0 := hT0.put 10 (by omega) hz9 oq9 (f := f9)
        have hm0 := hPic.1
        have hm10 : va_at D vwCl (am 10, .inl (g 0, 8, .inl (fun j => jI ((jUp AA 10 (jUp (AA 10) d (v))) 10 j)))) H := hPic.2 10 (by omega) (by omega)
        refine lv_iload_n hx hb dX4_impedance_51 rfl (lv_at hl 0 rfl) ?_
        exact m_iret hx hb hr hlocks dX4_impedance_52 ⟨rfl, mR_Z hR⟩ hPic hT0 (by rfl)
      · exact absurd c32 (by omega)
set_option maxHeartbeats 4000000 in
set_option maxRecDepth 100000 in
theorem k_voltage (l : Launch) (D : va_G) (g : Nat → ClassId) (am : Nat → Nat) (cd dv vo ab be : Int) (AA : Nat → Nat → Int) (z : bSt) (hz : bOK z) (hR : mR z dv vo AA) (v : Int) (hv : 0 ≤ v ∧ v ≤ 1000000) (hj : mInj am) : Met l yX4_voltage wsX4_voltage ({ frames := 1, cells := 0, slots := 0, locals := 22 }) (pu_Pc [.ref (am 0), .int (jI (v))] D vwCl (ty9 g) (fun H => mW D g am cd dv vo ab be AA H)) (mQ D g am (some (.int (jI (bV z)))) (fun c n v9 A _ _ => c = 0 ∧ mR (zV z v) n v9 A)) 0 0 (mFr am) := by
  refine Met.ofW (cc := cX4_voltage) (maxL := 3) (ret := some .int) (by decide) rfl ?_
  intro p e s m args below meth c s₁ B hml hv
  obtain ⟨rfl, hPic, hK⟩ := hv
  have hx := B.exec
  have hb := B.bytes
  have hr := B.returns
  have hts := atoms_spec (ws := wsX4_voltage) B.pre
  have hown : s.vm.findClass RX4 = some m.cls := findClass_of_methodNamed B.named
  have hlocks := B.notSynchronized
  have hm0 := hPic.1
  have hm10 : va_at D vwCl (am 10, .inl (g 0, 8, .inl (fun j => jI (AA 10 j)))) s.heap := hPic.2 10 (by omega) (by omega)
  have hdv := hR.1
  have hN := hz.1
  have hl := lv_entry ([.ref (am 0), .int (jI (v))]) (n := 3) (Nat.le_of_ble_eq_true rfl)
  rw [lg_entry_eq]
  generalize (lg_sl ([.ref (am 0), .int (jI (v))]) ++ List.replicate (3 - (lg_sl ([.ref (am 0), .int (jI (v))])).length) Slot.unset).toArray = ls at hl ⊢
  have hl : lv_has ls 3 [(0, .ref (am 0)), (1, .int (jI (v)))] := hl
  have hT0 : mTo am s.heap s.heap [] := mTo.rf
  refine lv_aload_n hx hb dX4_voltage_0 rfl (lv_at hl 0 rfl) ?_
  refine lv_iload_n hx hb dX4_voltage_1 rfl (lv_at hl 1 rfl) ?_
  refine jv_iconst hx hb dX4_voltage_2 ?_
  refine jv_ldc (k := 1000000) hx hb hown (hts _ (List.mem_cons_of_mem _ kw_551)) (by decide) dX4_voltage_3 ?_
  refine pu_call1 (va_runS (As := [.int (jI (v)), .int (jI (0)), .int (jI (1000000))]) (rest := [.ref (am 0)]) ⟨hx, hb, hml, hown, hts⟩ (k_in l D g v 0 1000000 (by omega) (by omega) (by omega)) (cwS 3 hts (gd_S kw_482 kw_483 kw_16 kcX4_in) rfl rfl rfl (by decide +kernel) ⟨Nat.le_of_ble_eq_true rfl, Nat.le_of_ble_eq_true rfl⟩) (pu_preS trivial hK) rfl rfl hl.1 rfl (lv_room (Nat.le_of_ble_eq_true rfl)) dX4_voltage_5 ⟨Nat.zero_le _, Nat.zero_le _⟩) ?_
  refine jv_if_eq (tgt := 15) hx hb dX4_voltage_8 (by decide) (bI_rng _) (fun c8 => ?_) (fun c8 => ?_)
  · exact absurd (bI_fa c8) (by rw [decide_eq_true (by omega)]; decide)
  · refine jv_iconst hx hb dX4_voltage_11 ?_
    refine lv_goto (tgt := 16) hx hb dX4_voltage_12 (by decide) ?_
    refine jv_put (D := D) (ci := 4) (v := .int (jI (0))) (ty := .int) (C := RX4) (T := TX4) (N := 17) hx hb hts (fun w h => List.mem_cons_of_mem _ (uw_X4 w h)) tyX4 tyX4_ok nmX4 hown hK hm0 rfl 0 (by decide) (hts _ (List.mem_cons_of_mem _ kw_418)) (fun _ h9 => h9) rfl (by decide +kernel) rfl rfl (Nat.le_of_ble_eq_true rfl) dX4_voltage_16 (fun H f9 hn9 hz9 oq9 => ?_)
    have hPic : mW D g am 0 dv vo ab be AA H := mW_obj hj hPic oq9 hn9
    have hT0 := hT0.put 0 (by omega) hz9 oq9 (f := f9)
    have hm0 := hPic.1
    have hm10 : va_at D vwCl (am 10, .inl (g 0, 8, .inl (fun j => jI (AA 10 j)))) H := hPic.2 10 (by omega) (by omega)
    refine lv_aload_n hx hb dX4_voltage_19 rfl (lv_at hl 0 rfl) ?_
    refine va_get (D := D) (ci := 4) (v := .int (jI (0))) (C := RX4) (T := TX4) (N := 17) hx hb hts (fun w h => List.mem_cons_of_mem _ (uw_X4 w h)) hown hK (j_P1 hm0) 0 rfl rfl 0 (by decide) (hts _ (List.mem_cons_of_mem _ kw_418)) (fun _ h9 => h9) rfl dX4_voltage_20 ?_
    refine jv_if_le (tgt := 28) hx hb dX4_voltage_23 (by decide) (by omega) (fun c23 => ?_) (fun c23 => ?_)
    · refine lv_aload_n hx hb dX4_voltage_28 rfl (lv_at hl 0 rfl) ?_
      refine va_get (D := D) (ci := 4) (v := .int (jI (vo))) (C := RX4) (T := TX4) (N := 17) hx hb hts (fun w h => List.mem_cons_of_mem _ (uw_X4 w h)) hown hK (j_P1 hm0) 0 rfl rfl 12 (by decide) (hts _ (List.mem_cons_of_mem _ kw_430)) (fun _ h9 => h9) rfl dX4_voltage_29 ?_
      refine lv_istore_n (lv' := [(2, .int (jI (vo))), (0, .ref (am 0)), (1, .int (jI (v)))]) hx hb dX4_voltage_32 rfl hl (by decide) rfl (fun ls hl => ?_)
      refine lv_aload_n hx hb dX4_voltage_33 rfl (lv_at hl 1 rfl) ?_
      refine lv_iload_n hx hb dX4_voltage_34 rfl (lv_at hl 2 rfl) ?_
      refine jv_put (D := D) (ci := 4) (v := .int (jI (v))) (ty := .int) (C := RX4) (T := TX4) (N := 17) hx hb hts (fun w h => List.mem_cons_of_mem _ (uw_X4 w h)) tyX4 tyX4_ok nmX4 hown hK hm0 rfl 12 (by decide) (hts _ (List.mem_cons_of_mem _ kw_430)) (fun _ h9 => h9) rfl (by decide +kernel) rfl rfl (Nat.le_of_ble_eq_true rfl) dX4_voltage_35 (fun H f9 hn9 hz9 oq9 => ?_)
      have hPic : mW D g am 0 dv v ab be AA H := mW_obj hj hPic oq9 hn9
      have hT0 := hT0.put 0 (by omega) hz9 oq9 (f := f9)
      have hm0 := hPic.1
      have hm10 : va_at D vwCl (am 10, .inl (g 0, 8, .inl (fun j => jI (AA 10 j)))) H := hPic.2 10 (by omega) (by omega)
      refine lv_iload_n hx hb dX4_voltage_38 rfl (lv_at hl 0 rfl) ?_
      exact m_iret hx hb hr hlocks dX4_voltage_39 ⟨rfl, mR_V hR⟩ hPic hT0 (by exact hR.2.1)
    · exact absurd c23 (by omega)
set_option maxHeartbeats 4000000 in
set_option maxRecDepth 100000 in
theorem k_option (l : Launch) (D : va_G) (g : Nat → ClassId) (am : Nat → Nat) (cd dv vo ab be : Int) (AA : Nat → Nat → Int) (z : bSt) (hz : bOK z) (hR : mR z dv vo AA) (d o : Nat) (sc de : Int) (hd : d < bN z) (ho : bO z d = o) (ho4 : o < 4) (hsc : 10 ≤ sc ∧ sc ≤ 1000) (hde : 0 ≤ de ∧ de ≤ 10000) (hj : mInj am) : Met l yX4_option wsX4_option ({ frames := 2, cells := 0, slots := 0, locals := 43 }) (pu_Pc [.ref (am 0), .int (jI ((d : Int))), .int (jI (sc)), .int (jI (de))] D vwCl (ty9 g) (fun H => mW D g am cd dv vo ab be AA H)) (mQ D g am (some (.int (jI (o : Int)))) (fun c n v A _ _ => c = 0 ∧ mR (zO (zD (zS z d o sc) d o de) d (o + 1)) n v A)) 0 0 (mFr am) := by
  refine Met.ofW (cc := cX4_option) (maxL := 4) (ret := some .int) (by decide) rfl ?_
  intro p e s m args below meth c s₁ B hml hv
  obtain ⟨rfl, hPic, hK⟩ := hv
  have hx := B.exec
  have hb := B.bytes
  have hr := B.returns
  have hts := atoms_spec (ws := wsX4_option) B.pre
  have hown : s.vm.findClass RX4 = some m.cls := findClass_of_methodNamed B.named
  have hlocks := B.notSynchronized
  have hm0 := hPic.1
  have hm6 : va_at D vwCl (am 6, .inl (g 0, 8, .inl (fun j => jI (AA 6 j)))) s.heap := hPic.2 6 (by omega) (by omega)
  have hm7 : va_at D vwCl (am 7, .inl (g 0, 32, .inl (fun j => jI (AA 7 j)))) s.heap := hPic.2 7 (by omega) (by omega)
  have hm8 : va_at D vwCl (am 8, .inl (g 0, 32, .inl (fun j => jI (AA 8 j)))) s.heap := hPic.2 8 (by omega) (by omega)
  obtain ⟨e1_d, e2_d, e3_d, e6_d, e7_d, e9_d, e10_d⟩ := hR.2.2 d hd
  have f_d := hz.2.2.1 d (by have := hz.1; omega)
  have hN := hz.1
  have hdv := hR.1
  have hN := hz.1
  rw [ho] at e6_d
  have hl := lv_entry ([.ref (am 0), .int (jI ((d : Int))), .int (jI (sc)), .int (jI (de))]) (n := 4) (Nat.le_of_ble_eq_true rfl)
  rw [lg_entry_eq]
  generalize (lg_sl ([.ref (am 0), .int (jI ((d : Int))), .int (jI (sc)), .int (jI (de))]) ++ List.replicate (4 - (lg_sl ([.ref (am 0), .int (jI ((d : Int))), .int (jI (sc)), .int (jI (de))])).length) Slot.unset).toArray = ls at hl ⊢
  have hl : lv_has ls 4 [(0, .ref (am 0)), (1, .int (jI ((d : Int)))), (2, .int (jI (sc))), (3, .int (jI (de)))] := hl
  have hT0 : mTo am s.heap s.heap [] := mTo.rf
  refine lv_aload_n hx hb dX4_option_0 rfl (lv_at hl 0 rfl) ?_
  refine lv_aload_n hx hb dX4_option_1 rfl (lv_at hl 0 rfl) ?_
  refine lv_iload_n hx hb dX4_option_2 rfl (lv_at hl 1 rfl) ?_
  refine pu_call1 (va_runV (As := [.int (jI ((d : Int)))]) (rest := [.ref (am 0)]) ⟨hx, hb, hml, hown, hts⟩ (k_isDevice l D g am cd dv vo ab be AA (d : Int) (by omega) (by omega)) (cwV 1 hts (gd_V kw_478 kw_480 kw_3 kw_16 kcX4_isDevice) rfl rfl rfl (by decide +kernel) ⟨Nat.le_of_ble_eq_true rfl, Nat.le_of_ble_eq_true rfl⟩) (pu_preV hPic hK rfl hm0) rfl rfl hl.1 rfl (lv_room (Nat.le_of_ble_eq_true rfl)) dX4_option_3 ⟨Nat.zero_le _, Nat.zero_le _⟩) ?_
  refine jv_if_eq (tgt := 32) hx hb dX4_option_6 (by decide) (bI_rng _) (fun c6 => ?_) (fun c6 => ?_)
  · exact absurd (bI_fa c6) (by rw [decide_eq_true (by omega)]; decide)
  · refine lv_iload_n hx hb dX4_option_9 rfl (lv_at hl 2 rfl) ?_
    refine jv_bipush hx hb dX4_option_10 (by decide) ?_
    refine jv_sipush hx hb dX4_option_12 (by decide) ?_
    refine pu_call1 (va_runS (As := [.int (jI (sc)), .int (jI (10)), .int (jI (1000))]) (rest := [.ref (am 0)]) ⟨hx, hb, hml, hown, hts⟩ (k_in l D g sc 10 1000 (by omega) (by omega) (by omega)) (cwS 3 hts (gd_S kw_482 kw_483 kw_16 kcX4_in) rfl rfl rfl (by decide +kernel) ⟨Nat.le_of_ble_eq_true rfl, Nat.le_of_ble_eq_true rfl⟩) (pu_preS trivial hK) rfl rfl hl.1 rfl (lv_room (Nat.le_of_ble_eq_true rfl)) dX4_option_15 ⟨Nat.zero_le _, Nat.zero_le _⟩) ?_
    refine jv_if_eq (tgt := 32) hx hb dX4_option_18 (by decide) (bI_rng _) (fun c18 => ?_) (fun c18 => ?_)
    · exact absurd (bI_fa c18) (by rw [decide_eq_true (by omega)]; decide)
    · refine lv_iload_n hx hb dX4_option_21 rfl (lv_at hl 3 rfl) ?_
      refine jv_iconst hx hb dX4_option_22 ?_
      refine jv_sipush hx hb dX4_option_23 (by decide) ?_
      refine pu_call1 (va_runS (As := [.int (jI (de)), .int (jI (0)), .int (jI (10000))]) (rest := [.ref (am 0)]) ⟨hx, hb, hml, hown, hts⟩ (k_in l D g de 0 10000 (by omega) (by omega) (by omega)) (cwS 3 hts (gd_S kw_482 kw_483 kw_16 kcX4_in) rfl rfl rfl (by decide +kernel) ⟨Nat.le_of_ble_eq_true rfl, Nat.le_of_ble_eq_true rfl⟩) (pu_preS trivial hK) rfl rfl hl.1 rfl (lv_room (Nat.le_of_ble_eq_true rfl)) dX4_option_26 ⟨Nat.zero_le _, Nat.zero_le _⟩) ?_
      refine jv_if_ne (tgt := 36) hx hb dX4_option_29 (by decide) (bI_rng _) (fun c29 => ?_) (fun c29 => ?_)
      · refine lv_aload_n hx hb dX4_option_36 rfl (lv_at hl 0 rfl) ?_
        refine va_get (D := D) (ci := 4) (v := .ref (am 6)) (C := RX4) (T := TX4) (N := 17) hx hb hts (fun w h => List.mem_cons_of_mem _ (uw_X4 w h)) hown hK (j_P1 hm0) 0 rfl rfl 7 (by decide) (hts _ (List.mem_cons_of_mem _ kw_425)) (fun _ h9 => h9) rfl dX4_option_37 ?_
        refine lv_iload_n hx hb dX4_option_40 rfl (lv_at hl 1 rfl) ?_
        refine jv_iald (i := d) hx hb hK hm6 0 rfl (by omega) (by omega) (by decide) dX4_option_41 ?_
        rw [e6_d]
        refine jv_iconst hx hb dX4_option_42 ?_
        refine jv_icmp_ne (tgt := 50) hx hb dX4_option_43 (by decide) (by omega) (by omega) (fun c43 => ?_) (fun c43 => ?_)
        · refine jv_iconst hx hb dX4_option_50 ?_
          refine jv_put (D := D) (ci := 4) (v := .int (jI (0))) (ty := .int) (C := RX4) (T := TX4) (N := 17) hx hb hts (fun w h => List.mem_cons_of_mem _ (uw_X4 w h)) tyX4 tyX4_ok nmX4 hown hK hm0 rfl 0 (by decide) (hts _ (List.mem_cons_of_mem _ kw_418)) (fun _ h9 => h9) rfl (by decide +kernel) rfl rfl (Nat.le_of_ble_eq_true rfl) dX4_option_51 (fun H f9 hn9 hz9 oq9 => ?_)
          have hPic : mW D g am 0 dv vo ab be AA H := mW_obj hj hPic oq9 hn9
          have hT0 := hT0.put 0 (by omega) hz9 oq9 (f := f9)
          have hm0 := hPic.1
          have hm6 : va_at D vwCl (am 6, .inl (g 0, 8, .inl (fun j => jI (AA 6 j)))) H := hPic.2 6 (by omega) (by omega)
          have hm7 : va_at D vwCl (am 7, .inl (g 0, 32, .inl (fun j => jI (AA 7 j)))) H := hPic.2 7 (by omega) (by omega)
          have hm8 : va_at D vwCl (am 8, .inl (g 0, 32, .inl (fun j => jI (AA 8 j)))) H := hPic.2 8 (by omega) (by omega)
          refine lv_aload_n hx hb dX4_option_54 rfl (lv_at hl 0 rfl) ?_
          refine va_get (D := D) (ci := 4) (v := .int (jI (0))) (C := RX4) (T := TX4) (N := 17) hx hb hts (fun w h => List.mem_cons_of_mem _ (uw_X4 w h)) hown hK (j_P1 hm0) 0 rfl rfl 0 (by decide) (hts _ (List.mem_cons_of_mem _ kw_418)) (fun _ h9 => h9) rfl dX4_option_55 ?_
          refine jv_if_le (tgt := 63) hx hb dX4_option_58 (by decide) (by omega) (fun c58 => ?_) (fun c58 => ?_)
          · refine lv_aload_n hx hb dX4_option_63 rfl (lv_at hl 0 rfl) ?_
            refine va_get (D := D) (ci := 4) (v := .ref (am 7)) (C := RX4) (T := TX4) (N := 17) hx hb hts (fun w h => List.mem_cons_of_mem _ (uw_X4 w h)) hown hK (j_P1 hm0) 0 rfl rfl 8 (by decide) (hts _ (List.mem_cons_of_mem _ kw_426)) (fun _ h9 => h9) rfl dX4_option_64 ?_
            refine jv_iconst hx hb dX4_option_67 ?_
            refine lv_iload_n hx hb dX4_option_68 rfl (lv_at hl 1 rfl) ?_
            refine jv_imul hx hb dX4_option_69 ?_
            refine lv_aload_n hx hb dX4_option_70 rfl (lv_at hl 0 rfl) ?_
            refine va_get (D := D) (ci := 4) (v := .ref (am 6)) (C := RX4) (T := TX4) (N := 17) hx hb hts (fun w h => List.mem_cons_of_mem _ (uw_X4 w h)) hown hK (j_P1 hm0) 0 rfl rfl 7 (by decide) (hts _ (List.mem_cons_of_mem _ kw_425)) (fun _ h9 => h9) rfl dX4_option_71 ?_
            refine lv_iload_n hx hb dX4_option_74 rfl (lv_at hl 1 rfl) ?_
            refine jv_iald (i := d) hx hb hK hm6 0 rfl (by omega) (by omega) (by decide) dX4_option_75 ?_
            rw [e6_d]
            refine jv_iadd hx hb dX4_option_76 ?_
            refine lv_iload_n hx hb dX4_option_77 rfl (lv_at hl 2 rfl) ?_
            refine jv_iast (i := (4 * d + o)) hx hb hK hm7 0 rfl (by omega) (by omega) (by decide) dX4_option_78 (fun H f9 hn9 hz9 oq9 => ?_)
            have hPic := mW_arr hj hPic 7 (by omega) (by omega) oq9 hn9
            obtain ⟨A1, hA1⟩ : ∃ A9, A9 = jUp AA 7 (jUp (AA 7) (4 * d + o) (sc)) := ⟨_, rfl⟩
            rw [← hA1] at hPic
            have hT0 := hT0.put 7 (by omega) hz9 oq9 (f := f9)
            have hm0 := hPic.1
            have hm6 : va_at D vwCl (am 6, .inl (g 0, 8, .inl (fun j => jI (A1 6 j)))) H := hPic.2 6 (by omega) (by omega)
            have hm7 : va_at D vwCl (am 7, .inl (g 0, 32, .inl (fun j => jI (A1 7 j)))) H := hPic.2 7 (by omega) (by omega)
            have hm8 : va_at D vwCl (am 8, .inl (g 0, 32, .inl (fun j => jI (A1 8 j)))) H := hPic.2 8 (by omega) (by omega)
            have e6_d : A1 6 d = (o : Int) := by rw [hA1, mU_at, if_neg (by omega)]; exact e6_d
            refine lv_aload_n hx hb dX4_option_79 rfl (lv_at hl 0 rfl) ?_
            refine va_get (D := D) (ci := 4) (v := .ref (am 8)) (C := RX4) (T := TX4) (N := 17) hx hb hts (fun w h => List.mem_cons_of_mem _ (uw_X4 w h)) hown hK (j_P1 hm0) 0 rfl rfl 9 (by decide) (hts _ (List.mem_cons_of_mem _ kw_427)) (fun _ h9 => h9) rfl dX4_option_80 ?_
            refine jv_iconst hx hb dX4_option_83 ?_
            refine lv_iload_n hx hb dX4_option_84 rfl (lv_at hl 1 rfl) ?_
            refine jv_imul hx hb dX4_option_85 ?_
            refine lv_aload_n hx hb dX4_option_86 rfl (lv_at hl 0 rfl) ?_
            refine va_get (D := D) (ci := 4) (v := .ref (am 6)) (C := RX4) (T := TX4) (N := 17) hx hb hts (fun w h => List.mem_cons_of_mem _ (uw_X4 w h)) hown hK (j_P1 hm0) 0 rfl rfl 7 (by decide) (hts _ (List.mem_cons_of_mem _ kw_425)) (fun _ h9 => h9) rfl dX4_option_87 ?_
            refine lv_iload_n hx hb dX4_option_90 rfl (lv_at hl 1 rfl) ?_
            refine jv_iald (i := d) hx hb hK hm6 0 rfl (by omega) (by omega) (by decide) dX4_option_91 ?_
            rw [e6_d]
            refine jv_iadd hx hb dX4_option_92 ?_
            refine lv_iload_n hx hb dX4_option_93 rfl (lv_at hl 3 rfl) ?_
            refine jv_iast (i := (4 * d + o)) hx hb hK hm8 0 rfl (by omega) (by omega) (by decide) dX4_option_94 (fun H f9 hn9 hz9 oq9 => ?_)
            have hPic := mW_arr hj hPic 8 (by omega) (by omega) oq9 hn9
            obtain ⟨A2, hA2⟩ : ∃ A9, A9 = jUp A1 8 (jUp (A1 8) (4 * d + o) (de)) := ⟨_, rfl⟩
            rw [← hA2] at hPic
            have hT0 := hT0.put 8 (by omega) hz9 oq9 (f := f9)
            have hm0 := hPic.1
            have hm6 : va_at D vwCl (am 6, .inl (g 0, 8, .inl (fun j => jI (A2 6 j)))) H := hPic.2 6 (by omega) (by omega)
            have hm7 : va_at D vwCl (am 7, .inl (g 0, 32, .inl (fun j => jI (A2 7 j)))) H := hPic.2 7 (by omega) (by omega)
            have hm8 : va_at D vwCl (am 8, .inl (g 0, 32, .inl (fun j => jI (A2 8 j)))) H := hPic.2 8 (by omega) (by omega)
            have e6_d : A2 6 d = (o : Int) := by rw [hA2, mU_at, if_neg (by omega)]; exact e6_d
            refine lv_aload_n hx hb dX4_option_95 rfl (lv_at hl 0 rfl) ?_
            refine va_get (D := D) (ci := 4) (v := .ref (am 6)) (C := RX4) (T := TX4) (N := 17) hx hb hts (fun w h => List.mem_cons_of_mem _ (uw_X4 w h)) hown hK (j_P1 hm0) 0 rfl rfl 7 (by decide) (hts _ (List.mem_cons_of_mem _ kw_425)) (fun _ h9 => h9) rfl dX4_option_96 ?_
            refine lv_iload_n hx hb dX4_option_99 rfl (lv_at hl 1 rfl) ?_
            refine lv_dup2_11 hx hb dX4_option_100 rfl rfl ?_
            refine jv_iald (i := d) hx hb hK hm6 0 rfl (by omega) (by omega) (by decide) dX4_option_101 ?_
            rw [e6_d]
            refine jv_iconst hx hb dX4_option_102 ?_
            refine jv_iadd hx hb dX4_option_103 ?_
            refine jv_iast (i := d) hx hb hK hm6 0 rfl (by omega) (by omega) (by decide) dX4_option_104 (fun H f9 hn9 hz9 oq9 => ?_)
            have hPic := mW_arr hj hPic 6 (by omega) (by omega) oq9 hn9
            obtain ⟨A3, hA3⟩ : ∃ A9, A9 = jUp A2 6 (jUp (A2 6) d ((o : Int) + 1)) := ⟨_, rfl⟩
            rw [← hA3] at hPic
            have hT0 := hT0.put 6 (by omega) hz9 oq9 (f := f9)
            have hm0 := hPic.1
            have hm6 : va_at D vwCl (am 6, .inl (g 0, 8, .inl (fun j => jI (A3 6 j)))) H := hPic.2 6 (by omega) (by omega)
            have e6_d : A3 6 d = (o : Int) + 1 := by rw [hA3, mU_at, if_pos ⟨rfl, rfl⟩]
            refine lv_aload_n hx hb dX4_option_105 rfl (lv_at hl 0 rfl) ?_
            refine va_get (D := D) (ci := 4) (v := .ref (am 6)) (C := RX4) (T := TX4) (N := 17) hx hb hts (fun w h => List.mem_cons_of_mem _ (uw_X4 w h)) hown hK (j_P1 hm0) 0 rfl rfl 7 (by decide) (hts _ (List.mem_cons_of_mem _ kw_425)) (fun _ h9 => h9) rfl dX4_option_106 ?_
            refine lv_iload_n hx hb dX4_option_109 rfl (lv_at hl 1 rfl) ?_
            refine jv_iald (i := d) hx hb hK hm6 0 rfl (by omega) (by omega) (by decide) dX4_option_110 ?_
            rw [e6_d]
            refine jv_iconst hx hb dX4_option_111 ?_
            refine jv_isub hx hb dX4_option_112 ?_
            exact m_iret hx hb hr hlocks dX4_option_113 ⟨rfl, mR_O hz hR hd ho ho4 hA1 hA2 hA3⟩ hPic hT0 (by omega)
          · exact absurd c58 (by omega)
        · exact absurd c43 (by omega)
      · exact absurd (bI_fa c29) (by rw [decide_eq_true (by omega)]; decide)
end
