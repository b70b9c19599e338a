/-- whether a device's least time is not more than any most time on the way -/
def mFst (z : bSt) (I : Int) (e : Nat) : Nat → Option Nat → Bool
  | 0, _ => true
  | _ + 1, none => true
  | k + 1, some j => cWithin (bCh z e) false 0 (bCh z j) true I && mFst z I e k (bU z j)
theorem mFst_none (z : bSt) (I : Int) (e k : Nat) : mFst z I e k none = true := by cases k <;> rfl
theorem mFst_some {z : bSt} {I : Int} {e k j : Nat} (h : j < k) : mFst z I e k (some j) = (cWithin (bCh z e) false 0 (bCh z j) true I && mFst z I e (k - 1) (bU z j)) := by
  cases k with
  | zero => omega
  | succ k => rfl
/-- the reference's count of those that open -/
def mOp (z : bSt) (I : Int) (d : Nat) (kk : Int) : Nat → Option Nat → Int → Int
  | 0, _, _ => -1
  | _ + 1, none, _ => -1
  | k + 1, some j, n => if (mOpen (bCh z j) I && mFst z I j 9 (some d)) = true then (if n = kk then (j : Int) else mOp z I d kk k (bU z j) (n + 1)) else mOp z I d kk k (bU z j) n
theorem mOp_none (z : bSt) (I : Int) (d : Nat) (kk : Int) (k : Nat) (n : Int) : mOp z I d kk k none n = -1 := by cases k <;> rfl
theorem mOp_some {z : bSt} {I : Int} {d : Nat} {kk : Int} {k j : Nat} {n : Int} (h : j < k) : mOp z I d kk k (some j) n = if (mOpen (bCh z j) I && mFst z I j 9 (some d)) = true then (if n = kk then (j : Int) else mOp z I d kk (k - 1) (bU z j) (n + 1)) else mOp z I d kk (k - 1) (bU z j) n := by
  cases k with
  | zero => omega
  | succ k => rfl
theorem cWithin_no {S T : jSet} {mo tm : Bool} {mg I : Int} (h : cPiece T I = -1) : cWithin S mo mg T tm I = true := by rw [cWithin, if_pos h]
theorem cWithin_le {S T : jSet} {mo tm : Bool} {I : Int} (hS : cPiece S I ≠ -1) (hT : cPiece T I ≠ -1) : cWithin S mo 0 T tm I = decide (cTime S mo (cPiece S I) (cParts S (cPiece S I)) I * cParts T (cPiece T I) ≤ cTime T tm (cPiece T I) (cParts T (cPiece T I)) I * cParts S (cPiece S I)) := by
  rw [cWithin, if_neg hT, if_neg hS, Int.zero_mul, Int.add_zero]
theorem cLe_range {S T : jSet} {mo tm : Bool} {I : Int} (hoS : sOK S) (hoT : sOK T) (h1 : cPiece T I ≠ -1) (h2 : cPiece S I ≠ -1) :
    (-9223372036854775808 ≤ cTime S mo (cPiece S I) (cParts S (cPiece S I)) I * cParts T (cPiece T I) ∧ cTime S mo (cPiece S I) (cParts S (cPiece S I)) I * cParts T (cPiece T I) < 9223372036854775808) ∧
    (-9223372036854775808 ≤ cTime T tm (cPiece T I) (cParts T (cPiece T I)) I * cParts S (cPiece S I) ∧ cTime T tm (cPiece T I) (cParts T (cPiece T I)) I * cParts S (cPiece S I) < 9223372036854775808) := by
  have h := cWithin_range (mo := mo) (tm := tm) (mg := 0) hoS hoT (by omega) h1 h2
  rw [Int.zero_mul, Int.add_zero] at h
  exact h
set_option maxRecDepth 20000 in
theorem kw_9 : (.selects RX4 yX4_currentAt yX4_currentAt : Cond) ∈ gAll := g_mem 9 rfl rfl
set_option maxRecDepth 20000 in
theorem kw_10 : (.selects RX4 yX4_isFirst yX4_isFirst : Cond) ∈ gAll := g_mem 10 rfl rfl
set_option maxRecDepth 20000 in
theorem kw_556 : (.methodLink RX4 97 yX4_currentAt : Cond) ∈ gAll := g_mem 556 rfl rfl
set_option maxRecDepth 20000 in
theorem kw_558 : (.instanceMethod yX4_currentAt : Cond) ∈ gAll := g_mem 558 rfl rfl
set_option maxRecDepth 20000 in
theorem kw_560 : (.constantLong RX4 93 1000 : Cond) ∈ gAll := g_mem 560 rfl rfl
set_option maxRecDepth 20000 in
theorem kw_561 : (.constantLong RX4 95 5000 : Cond) ∈ gAll := g_mem 561 rfl rfl
set_option maxRecDepth 20000 in
theorem kw_566 : (.methodLink RX4 101 yX4_isFirst : Cond) ∈ gAll := g_mem 566 rfl rfl
set_option maxRecDepth 20000 in
theorem kw_568 : (.instanceMethod yX4_isFirst : Cond) ∈ gAll := g_mem 568 rfl rfl
set_option maxHeartbeats 4000000 in
set_option maxRecDepth 100000 in
theorem k_currentAt (l : Launch) (D : va_G) (g : Nat → ClassId) (am : Nat → Nat) (cd dv vo ab be : Int) (AA : Nat → Nat → Int) (z : bSt) (hz : bOK z) (hR : mR z dv vo AA) (d : Nat) (hd : d < bN z) : Met l yX4_currentAt wsX4_currentAt ({ frames := 0, cells := 0, slots := 0, locals := 0 }) (pu_Pc [.ref (am 0), .int (jI ((d : Int)))] D vwCl (ty9 g) (fun H => mW D g am cd dv vo ab be AA H)) (pu_Q (some (.int (jI (bShort z d))))) 0 0 (fun _ => False) := by
  refine Met.ofW (cc := cX4_currentAt) (maxL := 6) (ret := some .int) (by decide) rfl ?_
  intro p e s m args below meth c s₁ B hml hv
  obtain ⟨rfl, hPic, hK⟩ := hv
  have hx := B.exec
  have hb := B.bytes
  have hr := B.returns
  have hts := atoms_spec (ws := wsX4_currentAt) B.pre
  have hown : s.vm.findClass RX4 = some m.cls := findClass_of_methodNamed B.named
  have hlocks := B.notSynchronized
  have hm0 := hPic.1
  have hm1 : va_at D vwCl (am 1, .inl (g 0, 8, .inl (fun j => jI (AA 1 j)))) s.heap := hPic.2 1 (by omega) (by omega)
  have hm10 : va_at D vwCl (am 10, .inl (g 0, 8, .inl (fun j => jI (AA 10 j)))) s.heap := hPic.2 10 (by omega) (by omega)
  have hN := hz.1
  have hV := hz.2.1
  have hvo := hR.2.1
  have r1 := bSum_range hz 9 d (by omega) hd
  have hl := lv_entry ([.ref (am 0), .int (jI ((d : Int)))]) (n := 6) (Nat.le_of_ble_eq_true rfl)
  rw [lg_entry_eq]
  generalize (lg_sl ([.ref (am 0), .int (jI ((d : Int)))]) ++ List.replicate (6 - (lg_sl ([.ref (am 0), .int (jI ((d : Int)))])).length) Slot.unset).toArray = ls at hl ⊢
  have hl : lv_has ls 6 [(0, .ref (am 0)), (1, .int (jI ((d : Int))))] := hl
  refine jv_lconst (k := 0) hx hb dX4_currentAt_0 (by decide) ?_
  refine lv_lstore_n (lv' := [(2, .long (jL (0))), (0, .ref (am 0)), (1, .int (jI ((d : Int))))]) hx hb dX4_currentAt_1 rfl hl (by decide) rfl (fun ls hl => ?_)
  refine lv_iload_n hx hb dX4_currentAt_2 rfl (lv_at hl 2 rfl) ?_
  refine lv_istore (lv' := [(4, .int (jI ((d : Int)))), (2, .long (jL (0))), (0, .ref (am 0)), (1, .int (jI ((d : Int))))]) hx hb dX4_currentAt_3 hl (by decide) rfl (fun ls hl => ?_)
  refine jw_loop (X := Option Nat × Int × Nat) (fun x => x.2.2) (fun x ls => ((∀ j, x.1 = some j → j < x.2.2 ∧ j < bN z) ∧ bSum z 9 (some d) = x.2.1 + bSum z x.2.2 x.1) ∧ lv_has ls 6 [(0, .ref (am 0)), (1, .int (jI ((d : Int)))), (2, .long (jL (x.2.1))), (4, .int (jI (upI x.1)))]) ?_ (some d, 0, 9) ls ⟨⟨fun j hj => by cases hj; dsimp only; omega, by simp⟩, lv_sub hl [2, 3, 1, 0] rfl⟩
  intro x ls hinv ih
  obtain ⟨o, sm, k⟩ := x
  obtain ⟨⟨hj, he⟩, hl⟩ := hinv
  dsimp only at hj he
  cases o with
  | none =>
    rw [bSum_none, Int.add_zero] at he
    have hl : lv_has ls 6 [(0, .ref (am 0)), (1, .int (jI ((d : Int)))), (2, .long (jL (sm))), (4, .int (jI ((-1))))] := hl
    refine lv_iload hx hb dX4_currentAt_5 (lv_at hl 3 rfl) ?_
    refine jv_iconst hx hb dX4_currentAt_7 ?_
    refine jv_icmp_eq (tgt := 34) hx hb dX4_currentAt_8 (by decide) (by omega) (by omega) (fun c8 => ?_) (fun c8 => ?_)
    · refine jv_ldc2 (k := 1000) hx hb hown (hts _ (List.mem_cons_of_mem _ kw_560)) (by decide) dX4_currentAt_34 ?_
      refine lv_aload_n hx hb dX4_currentAt_37 rfl (lv_at hl 0 rfl) ?_
      refine va_get (D := D) (ci := 4) (v := .int (jI (vo))) (C := RX4) (T := TX4) (N := 17) hx hb hts (fun w h => List.mem_cons_of_mem _ (uw_X4 w h)) hown hK (j_P1 hm0) 0 rfl rfl 12 (by decide) (hts _ (List.mem_cons_of_mem _ kw_430)) (fun _ h9 => h9) rfl dX4_currentAt_38 ?_
      refine jv_i2l hx hb dX4_currentAt_41 (by omega) ?_
      refine jv_lmul hx hb dX4_currentAt_42 ?_
      refine lv_lload_n hx hb dX4_currentAt_43 rfl (lv_at hl 2 rfl) ?_
      refine jv_ldiv hx hb dX4_currentAt_44 (by omega) (by omega) ?_
      refine lv_lstore (lv' := [(4, .long (jL ((1000 * vo) / sm))), (0, .ref (am 0)), (1, .int (jI ((d : Int)))), (2, .long (jL (sm)))]) hx hb dX4_currentAt_45 hl (by decide) rfl (fun ls hl => ?_)
      have fq1 := Int.ediv_nonneg (show 0 ≤ 1000 * vo by omega) (show 0 ≤ sm by omega)
      have fq2 := Int.ediv_le_self sm (show 0 ≤ 1000 * vo by omega)
      refine lv_lload hx hb dX4_currentAt_47 (lv_at hl 0 rfl) ?_
      refine jv_ldc2 (k := 5000) hx hb hown (hts _ (List.mem_cons_of_mem _ kw_561)) (by decide) dX4_currentAt_49 ?_
      refine jv_lcmp_le (tgt := 62) hx hb dX4_currentAt_52 dX4_currentAt_53 (by decide) (by omega) (by omega) (fun c52 => ?_) (fun c52 => ?_)
      · refine lv_lload hx hb dX4_currentAt_62 (lv_at hl 0 rfl) ?_
        refine jv_l2i hx hb dX4_currentAt_64 ?_
        exact pu_iret hx hb hr hlocks dX4_currentAt_65 (by rw [bShort, he, ← hvo]; omega)
      · refine jv_sipush hx hb dX4_currentAt_56 (by decide) ?_
        refine lv_goto (tgt := 65) hx hb dX4_currentAt_59 (by decide) ?_
        exact pu_iret hx hb hr hlocks dX4_currentAt_65 (by rw [bShort, he, ← hvo]; omega)
    · exact absurd rfl c8
  | some j =>
    obtain ⟨hjk, hjN⟩ := hj j rfl
    have hl : lv_has ls 6 [(0, .ref (am 0)), (1, .int (jI ((d : Int)))), (2, .long (jL (sm))), (4, .int (jI ((j : Int))))] := hl
    obtain ⟨e1_j, -, -, -, -, e9_j, e10_j⟩ := hR.2.2 j hjN
    have f_j := hz.2.2.1 j (by omega)
    refine lv_iload hx hb dX4_currentAt_5 (lv_at hl 3 rfl) ?_
    refine jv_iconst hx hb dX4_currentAt_7 ?_
    refine jv_icmp_eq (tgt := 34) hx hb dX4_currentAt_8 (by decide) (by omega) (by omega) (fun c8 => ?_) (fun c8 => ?_)
    · exact absurd c8 (by omega)
    · refine lv_lload_n hx hb dX4_currentAt_11 rfl (lv_at hl 2 rfl) ?_
      refine lv_aload_n hx hb dX4_currentAt_12 rfl (lv_at hl 0 rfl) ?_
      refine va_get (D := D) (ci := 4) (v := .ref (am 10)) (C := RX4) (T := TX4) (N := 17) hx hb hts (fun w h => List.mem_cons_of_mem _ (uw_X4 w h)) hown hK (j_P1 hm0) 0 rfl rfl 11 (by decide) (hts _ (List.mem_cons_of_mem _ kw_429)) (fun _ h9 => h9) rfl dX4_currentAt_13 ?_
      refine lv_iload hx hb dX4_currentAt_16 (lv_at hl 3 rfl) ?_
      refine jv_iald (i := j) hx hb hK hm10 0 rfl (by omega) (by omega) (by decide) dX4_currentAt_18 ?_
      rw [e10_j]
      refine jv_i2l hx hb dX4_currentAt_19 (by omega) ?_
      refine jv_ladd hx hb dX4_currentAt_20 ?_
      refine lv_lstore_n (lv' := [(2, .long (jL (sm + (bZ z j)))), (0, .ref (am 0)), (1, .int (jI ((d : Int)))), (4, .int (jI ((j : Int))))]) hx hb dX4_currentAt_21 rfl hl (by decide) rfl (fun ls hl => ?_)
      refine lv_aload_n hx hb dX4_currentAt_22 rfl (lv_at hl 1 rfl) ?_
      refine va_get (D := D) (ci := 4) (v := .ref (am 1)) (C := RX4) (T := TX4) (N := 17) hx hb hts (fun w h => List.mem_cons_of_mem _ (uw_X4 w h)) hown hK (j_P1 hm0) 0 rfl rfl 2 (by decide) (hts _ (List.mem_cons_of_mem _ kw_420)) (fun _ h9 => h9) rfl dX4_currentAt_23 ?_
      refine lv_iload hx hb dX4_currentAt_26 (lv_at hl 3 rfl) ?_
      refine jv_iald (i := j) hx hb hK hm1 0 rfl (by omega) (by omega) (by decide) dX4_currentAt_28 ?_
      rw [e1_j]
      refine lv_istore (lv' := [(4, .int (jI (upI (bU z j)))), (2, .long (jL (sm + (bZ z j)))), (0, .ref (am 0)), (1, .int (jI ((d : Int))))]) hx hb dX4_currentAt_29 hl (by decide) rfl (fun ls hl => ?_)
      refine lv_goto (tgt := 5) hx hb dX4_currentAt_31 (by decide) ?_
      exact ih (bU z j, sm + bZ z j, k - 1) ls ⟨⟨fun u hu => by have := hz.2.2.2 j u hjN hu; dsimp only; omega, by dsimp only; rw [he, bSum_some hjk]; omega⟩, lv_sub hl [2, 3, 1, 0] rfl⟩ (by dsimp only; omega)
set_option maxHeartbeats 4000000 in
set_option maxRecDepth 100000 in
theorem k_shortAt (l : Launch) (D : va_G) (g : Nat → ClassId) (am : Nat → Nat) (cd dv vo ab be : Int) (AA : Nat → Nat → Int) (z : bSt) (hz : bOK z) (hR : mR z dv vo AA) (d : Nat) (hd : d < bN z) (hj : mInj am) : Met l yX4_shortAt wsX4_shortAt ({ frames := 2, cells := 0, slots := 0, locals := 43 }) (pu_Pc [.ref (am 0), .int (jI ((d : Int)))] D vwCl (ty9 g) (fun H => mW D g am cd dv vo ab be AA H)) (mQ D g am (some (.int (jI (bShort z d)))) (fun c n v A _ _ => c = 0 ∧ mR z n v A)) 0 0 (mFr am) := by
  refine Met.ofW (cc := cX4_shortAt) (maxL := 2) (ret := some .int) (by decide) rfl ?_
  intro p e s m args below meth c s₁ B hml hv
  obtain ⟨rfl, hPic, hK⟩ := hv
  have hx := B.exec
  have hb := B.bytes
  have hr := B.returns
  have hts := atoms_spec (ws := wsX4_shortAt) B.pre
  have hown : s.vm.findClass RX4 = some m.cls := findClass_of_methodNamed B.named
  have hlocks := B.notSynchronized
  have hm0 := hPic.1
  have hm1 : va_at D vwCl (am 1, .inl (g 0, 8, .inl (fun j => jI (AA 1 j)))) s.heap := hPic.2 1 (by omega) (by omega)
  have hdv := hR.1
  have hN := hz.1
  have hl := lv_entry ([.ref (am 0), .int (jI ((d : Int)))]) (n := 2) (Nat.le_of_ble_eq_true rfl)
  rw [lg_entry_eq]
  generalize (lg_sl ([.ref (am 0), .int (jI ((d : Int)))]) ++ List.replicate (2 - (lg_sl ([.ref (am 0), .int (jI ((d : Int)))])).length) Slot.unset).toArray = ls at hl ⊢
  have hl : lv_has ls 2 [(0, .ref (am 0)), (1, .int (jI ((d : Int))))] := hl
  have hT0 : mTo am s.heap s.heap [] := mTo.rf
  refine lv_aload_n hx hb dX4_shortAt_0 rfl (lv_at hl 0 rfl) ?_
  refine lv_aload_n hx hb dX4_shortAt_1 rfl (lv_at hl 0 rfl) ?_
  refine lv_iload_n hx hb dX4_shortAt_2 rfl (lv_at hl 1 rfl) ?_
  refine pu_call1 (va_runV (As := [.int (jI ((d : Int)))]) (rest := [.ref (am 0)]) ⟨hx, hb, hml, hown, hts⟩ (k_isDevice l D g am cd dv vo ab be AA (d : Int) (by omega) (by omega)) (cwV 1 hts (gd_V kw_478 kw_480 kw_3 kw_16 kcX4_isDevice) rfl rfl rfl (by decide +kernel) ⟨Nat.le_of_ble_eq_true rfl, Nat.le_of_ble_eq_true rfl⟩) (pu_preV hPic hK rfl hm0) rfl rfl hl.1 rfl (lv_room (Nat.le_of_ble_eq_true rfl)) dX4_shortAt_3 ⟨Nat.zero_le _, Nat.zero_le _⟩) ?_
  refine jv_if_eq (tgt := 13) hx hb dX4_shortAt_6 (by decide) (bI_rng _) (fun c6 => ?_) (fun c6 => ?_)
  · exact absurd (bI_fa c6) (by rw [decide_eq_true (by omega)]; decide)
  · refine jv_iconst hx hb dX4_shortAt_9 ?_
    refine lv_goto (tgt := 14) hx hb dX4_shortAt_10 (by decide) ?_
    refine jv_put (D := D) (ci := 4) (v := .int (jI (0))) (ty := .int) (C := RX4) (T := TX4) (N := 17) hx hb hts (fun w h => List.mem_cons_of_mem _ (uw_X4 w h)) tyX4 tyX4_ok nmX4 hown hK hm0 rfl 0 (by decide) (hts _ (List.mem_cons_of_mem _ kw_418)) (fun _ h9 => h9) rfl (by decide +kernel) rfl rfl (Nat.le_of_ble_eq_true rfl) dX4_shortAt_14 (fun H f9 hn9 hz9 oq9 => ?_)
    have hPic : mW D g am 0 dv vo ab be AA H := mW_obj hj hPic oq9 hn9
    have hT0 := hT0.put 0 (by omega) hz9 oq9 (f := f9)
    have hm0 := hPic.1
    have hm1 : va_at D vwCl (am 1, .inl (g 0, 8, .inl (fun j => jI (AA 1 j)))) H := hPic.2 1 (by omega) (by omega)
    refine lv_aload_n hx hb dX4_shortAt_17 rfl (lv_at hl 0 rfl) ?_
    refine va_get (D := D) (ci := 4) (v := .int (jI (0))) (C := RX4) (T := TX4) (N := 17) hx hb hts (fun w h => List.mem_cons_of_mem _ (uw_X4 w h)) hown hK (j_P1 hm0) 0 rfl rfl 0 (by decide) (hts _ (List.mem_cons_of_mem _ kw_418)) (fun _ h9 => h9) rfl dX4_shortAt_18 ?_
    refine jv_if_le (tgt := 28) hx hb dX4_shortAt_21 (by decide) (by omega) (fun c21 => ?_) (fun c21 => ?_)
    · refine lv_aload_n hx hb dX4_shortAt_28 rfl (lv_at hl 0 rfl) ?_
      refine lv_iload_n hx hb dX4_shortAt_29 rfl (lv_at hl 1 rfl) ?_
      refine pu_call1 (va_runV (As := [.int (jI ((d : Int)))]) (rest := []) ⟨hx, hb, hml, hown, hts⟩ (k_currentAt l D g am 0 dv vo ab be AA z hz hR d hd) (cwV 1 hts (gd_V kw_556 kw_558 kw_9 kw_16 kcX4_currentAt) rfl rfl rfl (by decide +kernel) ⟨Nat.le_of_ble_eq_true rfl, Nat.le_of_ble_eq_true rfl⟩) (pu_preV hPic hK rfl hm0) rfl rfl hl.1 rfl (lv_room (Nat.le_of_ble_eq_true rfl)) dX4_shortAt_30 ⟨Nat.zero_le _, Nat.zero_le _⟩) ?_
      exact m_iret hx hb hr hlocks dX4_shortAt_33 ⟨rfl, hR⟩ hPic hT0 (by rfl)
    · exact absurd c21 (by omega)
set_option maxHeartbeats 4000000 in
set_option maxRecDepth 100000 in
theorem k_isFirst (l : Launch) (D : va_G) (g : Nat → ClassId) (am : Nat → Nat) (cd dv vo ab be : Int) (AA : Nat → Nat → Int) (z : bSt) (hz : bOK z) (hR : mR z dv vo AA) (x9 d : Nat) (I : Int) (hx9 : x9 < bN z) (hd : d < bN z) (hI : 0 ≤ I ∧ I ≤ 5000) (hop : mOpen (bCh z x9) I = true) (hj : mInj am) : Met l yX4_isFirst wsX4_isFirst ({ frames := 1, cells := 0, slots := 0, locals := 33 }) (pu_Pc [.ref (am 0), .int (jI ((x9 : Int))), .int (jI ((d : Int))), .int (jI (I))] D vwCl (ty9 g) (fun H => mW D g am cd dv vo ab be AA H)) (mQ D g am (some (.int (jI (bI (mFst z I x9 9 (some d)))))) (fun c n v A _ _ => c = cd ∧ n = dv ∧ v = vo ∧ A = AA)) 0 0 (mFr am) := by
  refine Met.ofW (cc := cX4_isFirst) (maxL := 10) (ret := some .boolean) (by decide) rfl ?_
  intro p e s m args below meth c s₁ B hml hv
  obtain ⟨rfl, hPic, hK⟩ := hv
  have hx := B.exec
  have hb := B.bytes
  have hr := B.returns
  have hts := atoms_spec (ws := wsX4_isFirst) B.pre
  have hown : s.vm.findClass RX4 = some m.cls := findClass_of_methodNamed B.named
  have hlocks := B.notSynchronized
  have hm0 := hPic.1
  have hm9 : va_at D vwCl (am 9, .inl (g 0, 8, .inl (fun j => jI (AA 9 j)))) s.heap := hPic.2 9 (by omega) (by omega)
  have hN := hz.1
  obtain ⟨-, -, -, -, -, e9_x, -⟩ := hR.2.2 x9 hx9
  have f_x := hz.2.2.1 x9 (by omega)
  have okX : sOK (bCh z x9) := f_x.2.2.2.2.2 (bC z x9) f_x.2.2.1
  have pX := (mOpen_piece okX I).mp hop
  have hoX : 0 < bK z x9 ∧ bS z x9 (bC z x9) * bP z x9 0 ≤ 100 * I := of_decide_eq_true hop
  have hl := lv_entry ([.ref (am 0), .int (jI ((x9 : Int))), .int (jI ((d : Int))), .int (jI (I))]) (n := 10) (Nat.le_of_ble_eq_true rfl)
  rw [lg_entry_eq]
  generalize (lg_sl ([.ref (am 0), .int (jI ((x9 : Int))), .int (jI ((d : Int))), .int (jI (I))]) ++ List.replicate (10 - (lg_sl ([.ref (am 0), .int (jI ((x9 : Int))), .int (jI ((d : Int))), .int (jI (I))])).length) Slot.unset).toArray = ls at hl ⊢
  have hl : lv_has ls 10 [(0, .ref (am 0)), (1, .int (jI ((x9 : Int)))), (2, .int (jI ((d : Int)))), (3, .int (jI (I)))] := hl
  have hT0 : mTo am s.heap s.heap [] := mTo.rf
  refine jv_iconst hx hb dX4_isFirst_0 ?_
  refine lv_istore (lv' := [(4, .int (jI (1))), (0, .ref (am 0)), (1, .int (jI ((x9 : Int)))), (2, .int (jI ((d : Int)))), (3, .int (jI (I)))]) hx hb dX4_isFirst_1 hl (by decide) rfl (fun ls hl => ?_)
  refine lv_iload_n hx hb dX4_isFirst_3 rfl (lv_at hl 3 rfl) ?_
  refine lv_istore (lv' := [(5, .int (jI ((d : Int)))), (4, .int (jI (1))), (0, .ref (am 0)), (1, .int (jI ((x9 : Int)))), (2, .int (jI ((d : Int)))), (3, .int (jI (I)))]) hx hb dX4_isFirst_4 hl (by decide) rfl (fun ls hl => ?_)
  refine jw_loop3 (X := Option Nat × Bool × Nat × Int × Int) (fun x => x.2.2.1) (fun x H L ls => ((∀ j, x.1 = some j → j < x.2.2.1 ∧ j < bN z) ∧ mFst z I x9 9 (some d) = (x.2.1 && mFst z I x9 x.2.2.1 x.1) ∧ mW D g am cd dv vo x.2.2.2.1 x.2.2.2.2 AA H ∧ mTo am s.heap H L) ∧ lv_has ls 10 [(0, .ref (am 0)), (1, .int (jI ((x9 : Int)))), (2, .int (jI ((d : Int)))), (3, .int (jI (I))), (4, .int (jI (bI x.2.1))), (5, .int (jI (upI x.1)))]) ?_ (some d, true, 9, ab, be) s.heap [] ls ⟨⟨fun j hj => by cases hj; dsimp only; omega, by simp, hPic, hT0⟩, lv_sub hl [2, 3, 4, 5, 1, 0] rfl⟩
  clear hl hPic hT0
  intro x H L ls hinv ih
  obtain ⟨o, fl, k, a1, b1⟩ := x
  obtain ⟨⟨hj9, he, hPic, hT0⟩, hl⟩ := hinv
  dsimp only at hj9 he hPic
  cases o with
  | none =>
    rw [mFst_none, Bool.and_true] at he
    have hl : lv_has ls 10 [(0, .ref (am 0)), (1, .int (jI ((x9 : Int)))), (2, .int (jI ((d : Int)))), (3, .int (jI (I))), (4, .int (jI (bI fl))), (5, .int (jI ((-1))))] := hl
    have hm0 := hPic.1
    have hm1 : va_at D vwCl (am 1, .inl (g 0, 8, .inl (fun j => jI (AA 1 j)))) H := hPic.2 1 (by omega) (by omega)
    have hm9 : va_at D vwCl (am 9, .inl (g 0, 8, .inl (fun j => jI (AA 9 j)))) H := hPic.2 9 (by omega) (by omega)
    refine lv_iload hx hb dX4_isFirst_6 (lv_at hl 5 rfl) ?_
    refine jv_iconst hx hb dX4_isFirst_8 ?_
    refine jv_icmp_eq (tgt := 111) hx hb dX4_isFirst_9 (by decide) (by omega) (by omega) (fun c9 => ?_) (fun c9 => ?_)
    · refine lv_iload hx hb dX4_isFirst_111 (lv_at hl 4 rfl) ?_
      exact m_zret hx hb hr hlocks dX4_isFirst_113 ⟨rfl, rfl, rfl, rfl⟩ hPic hT0 (by rw [he])
    · exact absurd rfl c9
  | some j =>
    obtain ⟨hjk, hjN⟩ := hj9 j rfl
    obtain ⟨e1_j, -, -, -, -, e9_j, e10_j⟩ := hR.2.2 j hjN
    have f_j := hz.2.2.1 j (by omega)
    have okJ : sOK (bCh z j) := f_j.2.2.2.2.2 (bC z j) f_j.2.2.1
    have hl : lv_has ls 10 [(0, .ref (am 0)), (1, .int (jI ((x9 : Int)))), (2, .int (jI ((d : Int)))), (3, .int (jI (I))), (4, .int (jI (bI fl))), (5, .int (jI ((j : Int))))] := hl
    have hm0 := hPic.1
    have hm1 : va_at D vwCl (am 1, .inl (g 0, 8, .inl (fun j => jI (AA 1 j)))) H := hPic.2 1 (by omega) (by omega)
    have hm9 : va_at D vwCl (am 9, .inl (g 0, 8, .inl (fun j => jI (AA 9 j)))) H := hPic.2 9 (by omega) (by omega)
    refine lv_iload hx hb dX4_isFirst_6 (lv_at hl 5 rfl) ?_
    refine jv_iconst hx hb dX4_isFirst_8 ?_
    refine jv_icmp_eq (tgt := 111) hx hb dX4_isFirst_9 (by decide) (by omega) (by omega) (fun c9 => ?_) (fun c9 => ?_)
    · exact absurd c9 (by omega)
    · refine lv_iload hx hb dX4_isFirst_12 (lv_at hl 4 rfl) ?_
      refine jv_if_eq (tgt := 111) hx hb dX4_isFirst_14 (by decide) (bI_rng _) (fun c14 => ?_) (fun c14 => ?_)
      · have c14 := bI_fa c14
        refine lv_iload hx hb dX4_isFirst_111 (lv_at hl 4 rfl) ?_
        exact m_zret hx hb hr hlocks dX4_isFirst_113 ⟨rfl, rfl, rfl, rfl⟩ hPic hT0 (by rw [he, c14]; rfl)
      · have c14 := bI_tr c14
        refine lv_aload_n hx hb dX4_isFirst_17 rfl (lv_at hl 0 rfl) ?_
        refine lv_iload hx hb dX4_isFirst_18 (lv_at hl 5 rfl) ?_
        refine lv_aload_n hx hb dX4_isFirst_20 rfl (lv_at hl 0 rfl) ?_
        refine va_get (D := D) (ci := 4) (v := .ref (am 9)) (C := RX4) (T := TX4) (N := 17) hx hb hts (fun w h => List.mem_cons_of_mem _ (uw_X4 w h)) hown hK (j_P1 hm0) 0 rfl rfl 10 (by decide) (hts _ (List.mem_cons_of_mem _ kw_428)) (fun _ h9 => h9) rfl dX4_isFirst_21 ?_
        refine lv_iload hx hb dX4_isFirst_24 (lv_at hl 5 rfl) ?_
        refine jv_iald (i := j) hx hb hK hm9 0 rfl (by omega) (by omega) (by decide) dX4_isFirst_26 ?_
        rw [e9_j]
        refine lv_iload_n hx hb dX4_isFirst_27 rfl (lv_at hl 3 rfl) ?_
        refine pu_call1 (va_runV (As := [.int (jI ((j : Int))), .int (jI ((bC z j : Int))), .int (jI (I))]) (rest := []) ⟨hx, hb, hml, hown, hts⟩ (k_opensAt l D g am cd dv vo a1 b1 AA z hz hR j (bC z j) I hjN f_j.2.2.1 (by omega)) (cwV 3 hts (gd_V kw_502 kw_504 kw_4 kw_16 kcX4_opensAt) rfl rfl rfl (by decide +kernel) ⟨Nat.le_of_ble_eq_true rfl, Nat.le_of_ble_eq_true rfl⟩) (pu_preV hPic hK rfl hm0) rfl rfl hl.1 rfl (lv_room (Nat.le_of_ble_eq_true rfl)) dX4_isFirst_28 ⟨Nat.zero_le _, Nat.zero_le _⟩) ?_
        refine jv_if_eq (tgt := 99) hx hb dX4_isFirst_31 (by decide) (bI_rng _) (fun c31 => ?_) (fun c31 => ?_)
        · refine lv_aload_n hx hb dX4_isFirst_99 rfl (lv_at hl 0 rfl) ?_
          refine va_get (D := D) (ci := 4) (v := .ref (am 1)) (C := RX4) (T := TX4) (N := 17) hx hb hts (fun w h => List.mem_cons_of_mem _ (uw_X4 w h)) hown hK (j_P1 hm0) 0 rfl rfl 2 (by decide) (hts _ (List.mem_cons_of_mem _ kw_420)) (fun _ h9 => h9) rfl dX4_isFirst_100 ?_
          refine lv_iload hx hb dX4_isFirst_103 (lv_at hl 5 rfl) ?_
          refine jv_iald (i := j) hx hb hK hm1 0 rfl (by omega) (by omega) (by decide) dX4_isFirst_105 ?_
          rw [e1_j]
          refine lv_istore (lv' := [(5, .int (jI (upI (bU z j)))), (0, .ref (am 0)), (1, .int (jI ((x9 : Int)))), (2, .int (jI ((d : Int)))), (3, .int (jI (I))), (4, .int (jI (bI fl)))]) hx hb dX4_isFirst_106 hl (by decide) rfl (fun ls hl => ?_)
          refine lv_goto (tgt := 6) hx hb dX4_isFirst_108 (by decide) ?_
          exact ih (bU z j, fl, k - 1, a1, b1) H _ ls ⟨⟨fun u hu => by have := hz.2.2.2 j u hjN hu; dsimp only; omega, by dsimp only; rw [he, mFst_some hjk, cWithin_no (mOpen_no okJ (bI_fa c31)), Bool.true_and], hPic, hT0⟩, lv_sub hl [1, 2, 3, 4, 5, 0] rfl⟩ (by dsimp only; omega)
        · have pJ := (mOpen_piece okJ I).mp (bI_tr c31)
          have hoJ : 0 < bK z j ∧ bS z j (bC z j) * bP z j 0 ≤ 100 * I := of_decide_eq_true (bI_tr c31)
          have fW := cLe_range (mo := false) (tm := true) okX okJ (I := I) pJ pX
          refine lv_aload_n hx hb dX4_isFirst_34 rfl (lv_at hl 0 rfl) ?_
          refine lv_iload hx hb dX4_isFirst_35 (lv_at hl 5 rfl) ?_
          refine lv_aload_n hx hb dX4_isFirst_37 rfl (lv_at hl 0 rfl) ?_
          refine va_get (D := D) (ci := 4) (v := .ref (am 9)) (C := RX4) (T := TX4) (N := 17) hx hb hts (fun w h => List.mem_cons_of_mem _ (uw_X4 w h)) hown hK (j_P1 hm0) 0 rfl rfl 10 (by decide) (hts _ (List.mem_cons_of_mem _ kw_428)) (fun _ h9 => h9) rfl dX4_isFirst_38 ?_
          refine lv_iload hx hb dX4_isFirst_41 (lv_at hl 5 rfl) ?_
          refine jv_iald (i := j) hx hb hK hm9 0 rfl (by omega) (by omega) (by decide) dX4_isFirst_43 ?_
          rw [e9_j]
          refine lv_iload_n hx hb dX4_isFirst_44 rfl (lv_at hl 3 rfl) ?_
          refine jv_iconst hx hb dX4_isFirst_45 ?_
          refine m_call (va_runV (As := [.int (jI ((j : Int))), .int (jI ((bC z j : Int))), .int (jI (I)), .int (jI (bI true))]) (rest := []) ⟨hx, hb, hml, hown, hts⟩ (k_reckon l D g am cd dv vo a1 b1 AA z hz hR j (bC z j) I true hjN f_j.2.2.1 hI hoJ hj) (cwV 4 hts (gd_V kw_506 kw_508 kw_5 kw_16 kcX4_reckon) rfl rfl rfl (by decide +kernel) ⟨Nat.le_of_ble_eq_true rfl, Nat.le_of_ble_eq_true rfl⟩) (pu_preV hPic hK rfl hm0) rfl rfl hl.1 rfl (lv_room (Nat.le_of_ble_eq_true rfl)) dX4_isFirst_46 ⟨Nat.zero_le _, Nat.zero_le _⟩) hT0 (fun H locs cd9 dv9 vo9 AA9 ab9 be9 hPh hPic hT0 => ?_)
          refine W.eq (g2 := F0 m 49 ls []) rfl ?_
          obtain ⟨q1, q2, q3, q4, q5, q6⟩ := hPh
          rw [q1, q2, q3, q4, q5, q6] at hPic
          have hm0 := hPic.1
          have hm1 : va_at D vwCl (am 1, .inl (g 0, 8, .inl (fun j => jI (AA 1 j)))) H := hPic.2 1 (by omega) (by omega)
          have hm9 : va_at D vwCl (am 9, .inl (g 0, 8, .inl (fun j => jI (AA 9 j)))) H := hPic.2 9 (by omega) (by omega)
          refine lv_aload_n hx hb dX4_isFirst_49 rfl (lv_at hl 0 rfl) ?_
          refine va_get (D := D) (ci := 4) (v := .long (jL (cTime (bCh z j) true (cPiece (bCh z j) I) (cParts (bCh z j) (cPiece (bCh z j) I)) I))) (C := RX4) (T := TX4) (N := 17) hx hb hts (fun w h => List.mem_cons_of_mem _ (uw_X4 w h)) hown hK (j_P1 hm0) 0 rfl rfl 13 (by decide) (hts _ (List.mem_cons_of_mem _ kw_431)) (fun _ h9 => h9) rfl dX4_isFirst_50 ?_
          refine lv_lstore (lv' := [(6, .long (jL (cTime (bCh z j) true (cPiece (bCh z j) I) (cParts (bCh z j) (cPiece (bCh z j) I)) I))), (0, .ref (am 0)), (1, .int (jI ((x9 : Int)))), (2, .int (jI ((d : Int)))), (3, .int (jI (I))), (4, .int (jI (bI fl))), (5, .int (jI ((j : Int))))]) hx hb dX4_isFirst_53 hl (by decide) rfl (fun ls hl => ?_)
          refine lv_aload_n hx hb dX4_isFirst_55 rfl (lv_at hl 1 rfl) ?_
          refine va_get (D := D) (ci := 4) (v := .long (jL (cParts (bCh z j) (cPiece (bCh z j) I)))) (C := RX4) (T := TX4) (N := 17) hx hb hts (fun w h => List.mem_cons_of_mem _ (uw_X4 w h)) hown hK (j_P1 hm0) 0 rfl rfl 14 (by decide) (hts _ (List.mem_cons_of_mem _ kw_432)) (fun _ h9 => h9) rfl dX4_isFirst_56 ?_
          refine lv_lstore (lv' := [(8, .long (jL (cParts (bCh z j) (cPiece (bCh z j) I)))), (6, .long (jL (cTime (bCh z j) true (cPiece (bCh z j) I) (cParts (bCh z j) (cPiece (bCh z j) I)) I))), (0, .ref (am 0)), (1, .int (jI ((x9 : Int)))), (2, .int (jI ((d : Int)))), (3, .int (jI (I))), (4, .int (jI (bI fl))), (5, .int (jI ((j : Int))))]) hx hb dX4_isFirst_59 hl (by decide) rfl (fun ls hl => ?_)
          refine lv_aload_n hx hb dX4_isFirst_61 rfl (lv_at hl 2 rfl) ?_
          refine lv_iload_n hx hb dX4_isFirst_62 rfl (lv_at hl 3 rfl) ?_
          refine lv_aload_n hx hb dX4_isFirst_63 rfl (lv_at hl 2 rfl) ?_
          refine va_get (D := D) (ci := 4) (v := .ref (am 9)) (C := RX4) (T := TX4) (N := 17) hx hb hts (fun w h => List.mem_cons_of_mem _ (uw_X4 w h)) hown hK (j_P1 hm0) 0 rfl rfl 10 (by decide) (hts _ (List.mem_cons_of_mem _ kw_428)) (fun _ h9 => h9) rfl dX4_isFirst_64 ?_
          refine lv_iload_n hx hb dX4_isFirst_67 rfl (lv_at hl 3 rfl) ?_
          refine jv_iald (i := x9) hx hb hK hm9 0 rfl (by omega) (by omega) (by decide) dX4_isFirst_68 ?_
          rw [e9_x]
          refine lv_iload_n hx hb dX4_isFirst_69 rfl (lv_at hl 5 rfl) ?_
          refine jv_iconst hx hb dX4_isFirst_70 ?_
          refine m_call (va_runV (As := [.int (jI ((x9 : Int))), .int (jI ((bC z x9 : Int))), .int (jI (I)), .int (jI (bI false))]) (rest := []) ⟨hx, hb, hml, hown, hts⟩ (k_reckon l D g am cd dv vo (cTime (bCh z j) true (cPiece (bCh z j) I) (cParts (bCh z j) (cPiece (bCh z j) I)) I) (cParts (bCh z j) (cPiece (bCh z j) I)) AA z hz hR x9 (bC z x9) I false hx9 f_x.2.2.1 hI hoX hj) (cwV 4 hts (gd_V kw_506 kw_508 kw_5 kw_16 kcX4_reckon) rfl rfl rfl (by decide +kernel) ⟨Nat.le_of_ble_eq_true rfl, Nat.le_of_ble_eq_true rfl⟩) (pu_preV hPic hK rfl hm0) rfl rfl hl.1 rfl (lv_room (Nat.le_of_ble_eq_true rfl)) dX4_isFirst_71 ⟨Nat.zero_le _, Nat.zero_le _⟩) hT0 (fun H locs cd9 dv9 vo9 AA9 ab9 be9 hPh hPic hT0 => ?_)
          refine W.eq (g2 := F0 m 74 ls []) rfl ?_
          obtain ⟨q1, q2, q3, q4, q5, q6⟩ := hPh
          rw [q1, q2, q3, q4, q5, q6] at hPic
          have hm0 := hPic.1
          have hm1 : va_at D vwCl (am 1, .inl (g 0, 8, .inl (fun j => jI (AA 1 j)))) H := hPic.2 1 (by omega) (by omega)
          have hm9 : va_at D vwCl (am 9, .inl (g 0, 8, .inl (fun j => jI (AA 9 j)))) H := hPic.2 9 (by omega) (by omega)
          refine lv_aload_n hx hb dX4_isFirst_74 rfl (lv_at hl 2 rfl) ?_
          refine va_get (D := D) (ci := 4) (v := .long (jL (cTime (bCh z x9) false (cPiece (bCh z x9) I) (cParts (bCh z x9) (cPiece (bCh z x9) I)) I))) (C := RX4) (T := TX4) (N := 17) hx hb hts (fun w h => List.mem_cons_of_mem _ (uw_X4 w h)) hown hK (j_P1 hm0) 0 rfl rfl 13 (by decide) (hts _ (List.mem_cons_of_mem _ kw_431)) (fun _ h9 => h9) rfl dX4_isFirst_75 ?_
          refine lv_lload hx hb dX4_isFirst_78 (lv_at hl 0 rfl) ?_
          refine jv_lmul hx hb dX4_isFirst_80 ?_
          refine lv_lload hx hb dX4_isFirst_81 (lv_at hl 1 rfl) ?_
          refine lv_aload_n hx hb dX4_isFirst_83 rfl (lv_at hl 2 rfl) ?_
          refine va_get (D := D) (ci := 4) (v := .long (jL (cParts (bCh z x9) (cPiece (bCh z x9) I)))) (C := RX4) (T := TX4) (N := 17) hx hb hts (fun w h => List.mem_cons_of_mem _ (uw_X4 w h)) hown hK (j_P1 hm0) 0 rfl rfl 14 (by decide) (hts _ (List.mem_cons_of_mem _ kw_432)) (fun _ h9 => h9) rfl dX4_isFirst_84 ?_
          refine jv_lmul hx hb dX4_isFirst_87 ?_
          refine jv_lcmp_gt (tgt := 96) hx hb dX4_isFirst_88 dX4_isFirst_89 (by decide) fW.1 fW.2 (fun c88 => ?_) (fun c88 => ?_)
          · refine jv_iconst hx hb dX4_isFirst_96 ?_
            refine lv_istore (lv' := [(4, .int (jI (0))), (8, .long (jL (cParts (bCh z j) (cPiece (bCh z j) I)))), (6, .long (jL (cTime (bCh z j) true (cPiece (bCh z j) I) (cParts (bCh z j) (cPiece (bCh z j) I)) I))), (0, .ref (am 0)), (1, .int (jI ((x9 : Int)))), (2, .int (jI ((d : Int)))), (3, .int (jI (I))), (5, .int (jI ((j : Int))))]) hx hb dX4_isFirst_97 hl (by decide) rfl (fun ls hl => ?_)
            refine lv_aload_n hx hb dX4_isFirst_99 rfl (lv_at hl 3 rfl) ?_
            refine va_get (D := D) (ci := 4) (v := .ref (am 1)) (C := RX4) (T := TX4) (N := 17) hx hb hts (fun w h => List.mem_cons_of_mem _ (uw_X4 w h)) hown hK (j_P1 hm0) 0 rfl rfl 2 (by decide) (hts _ (List.mem_cons_of_mem _ kw_420)) (fun _ h9 => h9) rfl dX4_isFirst_100 ?_
            refine lv_iload hx hb dX4_isFirst_103 (lv_at hl 7 rfl) ?_
            refine jv_iald (i := j) hx hb hK hm1 0 rfl (by omega) (by omega) (by decide) dX4_isFirst_105 ?_
            rw [e1_j]
            refine lv_istore (lv' := [(5, .int (jI (upI (bU z j)))), (4, .int (jI (0))), (8, .long (jL (cParts (bCh z j) (cPiece (bCh z j) I)))), (6, .long (jL (cTime (bCh z j) true (cPiece (bCh z j) I) (cParts (bCh z j) (cPiece (bCh z j) I)) I))), (0, .ref (am 0)), (1, .int (jI ((x9 : Int)))), (2, .int (jI ((d : Int)))), (3, .int (jI (I)))]) hx hb dX4_isFirst_106 hl (by decide) rfl (fun ls hl => ?_)
            refine lv_goto (tgt := 6) hx hb dX4_isFirst_108 (by decide) ?_
            exact ih (bU z j, false, k - 1, _, _) H _ ls ⟨⟨fun u hu => by have := hz.2.2.2 j u hjN hu; dsimp only; omega, by dsimp only; rw [he, mFst_some hjk, cWithin_le pX pJ, decide_eq_false (by omega), c14, Bool.true_and], hPic, hT0⟩, lv_sub hl [4, 5, 6, 7, 1, 0] rfl⟩ (by dsimp only; omega)
          · refine jv_iconst hx hb dX4_isFirst_92 ?_
            refine lv_goto (tgt := 97) hx hb dX4_isFirst_93 (by decide) ?_
            refine lv_istore (lv' := [(4, .int (jI (1))), (8, .long (jL (cParts (bCh z j) (cPiece (bCh z j) I)))), (6, .long (jL (cTime (bCh z j) true (cPiece (bCh z j) I) (cParts (bCh z j) (cPiece (bCh z j) I)) I))), (0, .ref (am 0)), (1, .int (jI ((x9 : Int)))), (2, .int (jI ((d : Int)))), (3, .int (jI (I))), (5, .int (jI ((j : Int))))]) hx hb dX4_isFirst_97 hl (by decide) rfl (fun ls hl => ?_)
            refine lv_aload_n hx hb dX4_isFirst_99 rfl (lv_at hl 3 rfl) ?_
            refine va_get (D := D) (ci := 4) (v := .ref (am 1)) (C := RX4) (T := TX4) (N := 17) hx hb hts (fun w h => List.mem_cons_of_mem _ (uw_X4 w h)) hown hK (j_P1 hm0) 0 rfl rfl 2 (by decide) (hts _ (List.mem_cons_of_mem _ kw_420)) (fun _ h9 => h9) rfl dX4_isFirst_100 ?_
            refine lv_iload hx hb dX4_isFirst_103 (lv_at hl 7 rfl) ?_
            refine jv_iald (i := j) hx hb hK hm1 0 rfl (by omega) (by omega) (by decide) dX4_isFirst_105 ?_
            rw [e1_j]
            refine lv_istore (lv' := [(5, .int (jI (upI (bU z j)))), (4, .int (jI (1))), (8, .long (jL (cParts (bCh z j) (cPiece (bCh z j) I)))), (6, .long (jL (cTime (bCh z j) true (cPiece (bCh z j) I) (cParts (bCh z j) (cPiece (bCh z j) I)) I))), (0, .ref (am 0)), (1, .int (jI ((x9 : Int)))), (2, .int (jI ((d : Int)))), (3, .int (jI (I)))]) hx hb dX4_isFirst_106 hl (by decide) rfl (fun ls hl => ?_)
            refine lv_goto (tgt := 6) hx hb dX4_isFirst_108 (by decide) ?_
            exact ih (bU z j, true, k - 1, _, _) H _ ls ⟨⟨fun u hu => by have := hz.2.2.2 j u hjN hu; dsimp only; omega, by dsimp only; rw [he, mFst_some hjk, cWithin_le pX pJ, decide_eq_true (by omega), c14, Bool.true_and], hPic, hT0⟩, lv_sub hl [4, 5, 6, 7, 1, 0] rfl⟩ (by dsimp only; omega)
set_option maxHeartbeats 4000000 in
set_option maxRecDepth 100000 in
theorem k_opens (l : Launch) (D : va_G) (g : Nat → ClassId) (am : Nat → Nat) (cd dv vo ab be : Int) (AA : Nat → Nat → Int) (z : bSt) (hz : bOK z) (hR : mR z dv vo AA) (d : Nat) (kk : Int) (hd : d < bN z) (hk : 0 ≤ kk ∧ kk < 2147483648) (hj : mInj am) : Met l yX4_opens wsX4_opens ({ frames := 2, cells := 0, slots := 0, locals := 62 }) (pu_Pc [.ref (am 0), .int (jI ((d : Int))), .int (jI (kk))] D vwCl (ty9 g) (fun H => mW D g am cd dv vo ab be AA H)) (mQ D g am (some (.int (jI (mOp z (bShort z d) d kk 9 (some d) 0)))) (fun c n v A _ _ => c = 0 ∧ mR z n v A)) 0 0 (mFr am) := by
  refine Met.ofW (cc := cX4_opens) (maxL := 6) (ret := some .int) (by decide) rfl ?_
  intro p e s m args below meth c s₁ B hml hv
  obtain ⟨rfl, hPic, hK⟩ := hv
  have hx := B.exec
  have hb := B.bytes
  have hr := B.returns
  have hts := atoms_spec (ws := wsX4_opens) B.pre
  have hown : s.vm.findClass RX4 = some m.cls := findClass_of_methodNamed B.named
  have hlocks := B.notSynchronized
  have hm0 := hPic.1
  have hm1 : va_at D vwCl (am 1, .inl (g 0, 8, .inl (fun j => jI (AA 1 j)))) s.heap := hPic.2 1 (by omega) (by omega)
  have hm9 : va_at D vwCl (am 9, .inl (g 0, 8, .inl (fun j => jI (AA 9 j)))) s.heap := hPic.2 9 (by omega) (by omega)
  have hdv := hR.1
  have hN := hz.1
  have rI := bShort_range hz d hd
  generalize hIe : bShort z d = I at rI ⊢
  have hl := lv_entry ([.ref (am 0), .int (jI ((d : Int))), .int (jI (kk))]) (n := 6) (Nat.le_of_ble_eq_true rfl)
  rw [lg_entry_eq]
  generalize (lg_sl ([.ref (am 0), .int (jI ((d : Int))), .int (jI (kk))]) ++ List.replicate (6 - (lg_sl ([.ref (am 0), .int (jI ((d : Int))), .int (jI (kk))])).length) Slot.unset).toArray = ls at hl ⊢
  have hl : lv_has ls 6 [(0, .ref (am 0)), (1, .int (jI ((d : Int)))), (2, .int (jI (kk)))] := hl
  have hT0 : mTo am s.heap s.heap [] := mTo.rf
  refine lv_aload_n hx hb dX4_opens_0 rfl (lv_at hl 0 rfl) ?_
  refine lv_aload_n hx hb dX4_opens_1 rfl (lv_at hl 0 rfl) ?_
  refine lv_iload_n hx hb dX4_opens_2 rfl (lv_at hl 1 rfl) ?_
  refine pu_call1 (va_runV (As := [.int (jI ((d : Int)))]) (rest := [.ref (am 0)]) ⟨hx, hb, hml, hown, hts⟩ (k_isDevice l D g am cd dv vo ab be AA (d : Int) (by omega) (by omega)) (cwV 1 hts (gd_V kw_478 kw_480 kw_3 kw_16 kcX4_isDevice) rfl rfl rfl (by decide +kernel) ⟨Nat.le_of_ble_eq_true rfl, Nat.le_of_ble_eq_true rfl⟩) (pu_preV hPic hK rfl hm0) rfl rfl hl.1 rfl (lv_room (Nat.le_of_ble_eq_true rfl)) dX4_opens_3 ⟨Nat.zero_le _, Nat.zero_le _⟩) ?_
  refine jv_if_eq (tgt := 17) hx hb dX4_opens_6 (by decide) (bI_rng _) (fun c6 => ?_) (fun c6 => ?_)
  · exact absurd (bI_fa c6) (by rw [decide_eq_true (by omega)]; decide)
  · refine lv_iload_n hx hb dX4_opens_9 rfl (lv_at hl 2 rfl) ?_
    refine jv_if_lt (tgt := 17) hx hb dX4_opens_10 (by decide) (by omega) (fun c10 => ?_) (fun c10 => ?_)
    · exact absurd c10 (by omega)
    · refine jv_iconst hx hb dX4_opens_13 ?_
      refine lv_goto (tgt := 18) hx hb dX4_opens_14 (by decide) ?_
      refine jv_put (D := D) (ci := 4) (v := .int (jI (0))) (ty := .int) (C := RX4) (T := TX4) (N := 17) hx hb hts (fun w h => List.mem_cons_of_mem _ (uw_X4 w h)) tyX4 tyX4_ok nmX4 hown hK hm0 rfl 0 (by decide) (hts _ (List.mem_cons_of_mem _ kw_418)) (fun _ h9 => h9) rfl (by decide +kernel) rfl rfl (Nat.le_of_ble_eq_true rfl) dX4_opens_18 (fun H f9 hn9 hz9 oq9 => ?_)
      have hPic : mW D g am 0 dv vo ab be AA H := mW_obj hj hPic oq9 hn9
      have hT0 := hT0.put 0 (by omega) hz9 oq9 (f := f9)
      have hm0 := hPic.1
      have hm1 : va_at D vwCl (am 1, .inl (g 0, 8, .inl (fun j => jI (AA 1 j)))) H := hPic.2 1 (by omega) (by omega)
      have hm9 : va_at D vwCl (am 9, .inl (g 0, 8, .inl (fun j => jI (AA 9 j)))) H := hPic.2 9 (by omega) (by omega)
      refine lv_aload_n hx hb dX4_opens_21 rfl (lv_at hl 0 rfl) ?_
      refine va_get (D := D) (ci := 4) (v := .int (jI (0))) (C := RX4) (T := TX4) (N := 17) hx hb hts (fun w h => List.mem_cons_of_mem _ (uw_X4 w h)) hown hK (j_P1 hm0) 0 rfl rfl 0 (by decide) (hts _ (List.mem_cons_of_mem _ kw_418)) (fun _ h9 => h9) rfl dX4_opens_22 ?_
      refine jv_if_le (tgt := 30) hx hb dX4_opens_25 (by decide) (by omega) (fun c25 => ?_) (fun c25 => ?_)
      · refine lv_aload_n hx hb dX4_opens_30 rfl (lv_at hl 0 rfl) ?_
        refine lv_iload_n hx hb dX4_opens_31 rfl (lv_at hl 1 rfl) ?_
        refine pu_call1 (va_runV (As := [.int (jI ((d : Int)))]) (rest := []) ⟨hx, hb, hml, hown, hts⟩ (k_currentAt l D g am 0 dv vo ab be AA z hz hR d hd) (cwV 1 hts (gd_V kw_556 kw_558 kw_9 kw_16 kcX4_currentAt) rfl rfl rfl (by decide +kernel) ⟨Nat.le_of_ble_eq_true rfl, Nat.le_of_ble_eq_true rfl⟩) (pu_preV hPic hK rfl hm0) rfl rfl hl.1 rfl (lv_room (Nat.le_of_ble_eq_true rfl)) dX4_opens_32 ⟨Nat.zero_le _, Nat.zero_le _⟩) ?_
        rw [hIe]
        refine lv_istore_n (lv' := [(3, .int (jI (I))), (0, .ref (am 0)), (1, .int (jI ((d : Int)))), (2, .int (jI (kk)))]) hx hb dX4_opens_35 rfl hl (by decide) rfl (fun ls hl => ?_)
        refine jv_iconst hx hb dX4_opens_36 ?_
        refine lv_istore (lv' := [(4, .int (jI (0))), (3, .int (jI (I))), (0, .ref (am 0)), (1, .int (jI ((d : Int)))), (2, .int (jI (kk)))]) hx hb dX4_opens_37 hl (by decide) rfl (fun ls hl => ?_)
        refine lv_iload_n hx hb dX4_opens_39 rfl (lv_at hl 3 rfl) ?_
        refine lv_istore (lv' := [(5, .int (jI ((d : Int)))), (4, .int (jI (0))), (3, .int (jI (I))), (0, .ref (am 0)), (1, .int (jI ((d : Int)))), (2, .int (jI (kk)))]) hx hb dX4_opens_40 hl (by decide) rfl (fun ls hl => ?_)
        refine jw_loop3 (X := Option Nat × Int × Nat × Int × Int) (fun x => x.2.2.1) (fun x H L ls => ((∀ j, x.1 = some j → j < x.2.2.1 ∧ j < bN z) ∧ (0 ≤ x.2.1 ∧ x.2.1 + x.2.2.1 ≤ 9) ∧ mOp z I d kk 9 (some d) 0 = mOp z I d kk x.2.2.1 x.1 x.2.1 ∧ mW D g am 0 dv vo x.2.2.2.1 x.2.2.2.2 AA H ∧ mTo am s.heap H L) ∧ lv_has ls 6 [(0, .ref (am 0)), (1, .int (jI ((d : Int)))), (2, .int (jI (kk))), (3, .int (jI (I))), (4, .int (jI (x.2.1))), (5, .int (jI (upI x.1)))]) ?_ (some d, 0, 9, ab, be) H _ ls ⟨⟨fun j hj => by cases hj; dsimp only; omega, by dsimp only; omega, rfl, hPic, hT0⟩, lv_sub hl [3, 4, 5, 2, 1, 0] rfl⟩
        clear hl hPic hT0
        intro x H L ls hinv ih
        obtain ⟨o, n, k, a1, b1⟩ := x
        obtain ⟨⟨hj9, hn9, he, hPic, hT0⟩, hl⟩ := hinv
        dsimp only at hj9 hn9 he hPic
        cases o with
        | none =>
          rw [mOp_none] at he
          have hl : lv_has ls 6 [(0, .ref (am 0)), (1, .int (jI ((d : Int)))), (2, .int (jI (kk))), (3, .int (jI (I))), (4, .int (jI (n))), (5, .int (jI ((-1))))] := hl
          have hm0 := hPic.1
          have hm1 : va_at D vwCl (am 1, .inl (g 0, 8, .inl (fun j => jI (AA 1 j)))) H := hPic.2 1 (by omega) (by omega)
          have hm9 : va_at D vwCl (am 9, .inl (g 0, 8, .inl (fun j => jI (AA 9 j)))) H := hPic.2 9 (by omega) (by omega)
          refine lv_iload hx hb dX4_opens_42 (lv_at hl 5 rfl) ?_
          refine jv_iconst hx hb dX4_opens_44 ?_
          refine jv_icmp_eq (tgt := 100) hx hb dX4_opens_45 (by decide) (by omega) (by omega) (fun c45 => ?_) (fun c45 => ?_)
          · refine jv_iconst hx hb dX4_opens_100 ?_
            exact m_iret hx hb hr hlocks dX4_opens_101 ⟨rfl, hR⟩ hPic hT0 (by rw [he])
          · exact absurd rfl c45
        | some j =>
          obtain ⟨hjk, hjN⟩ := hj9 j rfl
          obtain ⟨e1_j, -, -, -, -, e9_j, e10_j⟩ := hR.2.2 j hjN
          have f_j := hz.2.2.1 j (by omega)
          have hl : lv_has ls 6 [(0, .ref (am 0)), (1, .int (jI ((d : Int)))), (2, .int (jI (kk))), (3, .int (jI (I))), (4, .int (jI (n))), (5, .int (jI ((j : Int))))] := hl
          have hm0 := hPic.1
          have hm1 : va_at D vwCl (am 1, .inl (g 0, 8, .inl (fun j => jI (AA 1 j)))) H := hPic.2 1 (by omega) (by omega)
          have hm9 : va_at D vwCl (am 9, .inl (g 0, 8, .inl (fun j => jI (AA 9 j)))) H := hPic.2 9 (by omega) (by omega)
          refine lv_iload hx hb dX4_opens_42 (lv_at hl 5 rfl) ?_
          refine jv_iconst hx hb dX4_opens_44 ?_
          refine jv_icmp_eq (tgt := 100) hx hb dX4_opens_45 (by decide) (by omega) (by omega) (fun c45 => ?_) (fun c45 => ?_)
          · exact absurd c45 (by omega)
          · refine lv_aload_n hx hb dX4_opens_48 rfl (lv_at hl 0 rfl) ?_
            refine lv_iload hx hb dX4_opens_49 (lv_at hl 5 rfl) ?_
            refine lv_aload_n hx hb dX4_opens_51 rfl (lv_at hl 0 rfl) ?_
            refine va_get (D := D) (ci := 4) (v := .ref (am 9)) (C := RX4) (T := TX4) (N := 17) hx hb hts (fun w h => List.mem_cons_of_mem _ (uw_X4 w h)) hown hK (j_P1 hm0) 0 rfl rfl 10 (by decide) (hts _ (List.mem_cons_of_mem _ kw_428)) (fun _ h9 => h9) rfl dX4_opens_52 ?_
            refine lv_iload hx hb dX4_opens_55 (lv_at hl 5 rfl) ?_
            refine jv_iald (i := j) hx hb hK hm9 0 rfl (by omega) (by omega) (by decide) dX4_opens_57 ?_
            rw [e9_j]
            refine lv_iload_n hx hb dX4_opens_58 rfl (lv_at hl 3 rfl) ?_
            refine pu_call1 (va_runV (As := [.int (jI ((j : Int))), .int (jI ((bC z j : Int))), .int (jI (I))]) (rest := []) ⟨hx, hb, hml, hown, hts⟩ (k_opensAt l D g am 0 dv vo a1 b1 AA z hz hR j (bC z j) I hjN f_j.2.2.1 (by omega)) (cwV 3 hts (gd_V kw_502 kw_504 kw_4 kw_16 kcX4_opensAt) rfl rfl rfl (by decide +kernel) ⟨Nat.le_of_ble_eq_true rfl, Nat.le_of_ble_eq_true rfl⟩) (pu_preV hPic hK rfl hm0) rfl rfl hl.1 rfl (lv_room (Nat.le_of_ble_eq_true rfl)) dX4_opens_59 ⟨Nat.zero_le _, Nat.zero_le _⟩) ?_
            refine jv_if_eq (tgt := 88) hx hb dX4_opens_62 (by decide) (bI_rng _) (fun c62 => ?_) (fun c62 => ?_)
            · have c62 : mOpen (bCh z j) I = false := bI_fa c62
              refine lv_aload_n hx hb dX4_opens_88 rfl (lv_at hl 0 rfl) ?_
              refine va_get (D := D) (ci := 4) (v := .ref (am 1)) (C := RX4) (T := TX4) (N := 17) hx hb hts (fun w h => List.mem_cons_of_mem _ (uw_X4 w h)) hown hK (j_P1 hm0) 0 rfl rfl 2 (by decide) (hts _ (List.mem_cons_of_mem _ kw_420)) (fun _ h9 => h9) rfl dX4_opens_89 ?_
              refine lv_iload hx hb dX4_opens_92 (lv_at hl 5 rfl) ?_
              refine jv_iald (i := j) hx hb hK hm1 0 rfl (by omega) (by omega) (by decide) dX4_opens_94 ?_
              rw [e1_j]
              refine lv_istore (lv' := [(5, .int (jI (upI (bU z j)))), (0, .ref (am 0)), (1, .int (jI ((d : Int)))), (2, .int (jI (kk))), (3, .int (jI (I))), (4, .int (jI (n)))]) hx hb dX4_opens_95 hl (by decide) rfl (fun ls hl => ?_)
              refine lv_goto (tgt := 42) hx hb dX4_opens_97 (by decide) ?_
              exact ih (bU z j, n, k - 1, a1, b1) H _ ls ⟨⟨fun u hu => by have := hz.2.2.2 j u hjN hu; dsimp only; omega, by dsimp only; omega, by dsimp only; rw [he, mOp_some hjk, c62, Bool.false_and, if_neg (by decide)], hPic, hT0⟩, lv_sub hl [1, 2, 3, 4, 5, 0] rfl⟩ (by dsimp only; omega)
            · have c62 : mOpen (bCh z j) I = true := bI_tr c62
              refine lv_aload_n hx hb dX4_opens_65 rfl (lv_at hl 0 rfl) ?_
              refine lv_iload hx hb dX4_opens_66 (lv_at hl 5 rfl) ?_
              refine lv_iload_n hx hb dX4_opens_68 rfl (lv_at hl 1 rfl) ?_
              refine lv_iload_n hx hb dX4_opens_69 rfl (lv_at hl 3 rfl) ?_
              refine m_call (va_runV (As := [.int (jI ((j : Int))), .int (jI ((d : Int))), .int (jI (I))]) (rest := []) ⟨hx, hb, hml, hown, hts⟩ (k_isFirst l D g am 0 dv vo a1 b1 AA z hz hR j d I hjN hd rI c62 hj) (cwV 3 hts (gd_V kw_566 kw_568 kw_10 kw_16 kcX4_isFirst) rfl rfl rfl (by decide +kernel) ⟨Nat.le_of_ble_eq_true rfl, Nat.le_of_ble_eq_true rfl⟩) (pu_preV hPic hK rfl hm0) rfl rfl hl.1 rfl (lv_room (Nat.le_of_ble_eq_true rfl)) dX4_opens_70 ⟨Nat.zero_le _, Nat.zero_le _⟩) hT0 (fun H locs cd9 dv9 vo9 AA9 ab9 be9 hPh hPic hT0 => ?_)
              refine W.eq (g2 := F0 m 73 ls [.int (jI (bI (mFst z I j 9 (some d))))]) rfl ?_
              obtain ⟨q1, q2, q3, q4⟩ := hPh
              rw [q1, q2, q3, q4] at hPic
              have hm0 := hPic.1
              have hm1 : va_at D vwCl (am 1, .inl (g 0, 8, .inl (fun j => jI (AA 1 j)))) H := hPic.2 1 (by omega) (by omega)
              have hm9 : va_at D vwCl (am 9, .inl (g 0, 8, .inl (fun j => jI (AA 9 j)))) H := hPic.2 9 (by omega) (by omega)
              refine jv_if_eq (tgt := 88) hx hb dX4_opens_73 (by decide) (bI_rng _) (fun c73 => ?_) (fun c73 => ?_)
              · have c73 := bI_fa c73
                refine lv_aload_n hx hb dX4_opens_88 rfl (lv_at hl 0 rfl) ?_
                refine va_get (D := D) (ci := 4) (v := .ref (am 1)) (C := RX4) (T := TX4) (N := 17) hx hb hts (fun w h => List.mem_cons_of_mem _ (uw_X4 w h)) hown hK (j_P1 hm0) 0 rfl rfl 2 (by decide) (hts _ (List.mem_cons_of_mem _ kw_420)) (fun _ h9 => h9) rfl dX4_opens_89 ?_
                refine lv_iload hx hb dX4_opens_92 (lv_at hl 5 rfl) ?_
                refine jv_iald (i := j) hx hb hK hm1 0 rfl (by omega) (by omega) (by decide) dX4_opens_94 ?_
                rw [e1_j]
                refine lv_istore (lv' := [(5, .int (jI (upI (bU z j)))), (0, .ref (am 0)), (1, .int (jI ((d : Int)))), (2, .int (jI (kk))), (3, .int (jI (I))), (4, .int (jI (n)))]) hx hb dX4_opens_95 hl (by decide) rfl (fun ls hl => ?_)
                refine lv_goto (tgt := 42) hx hb dX4_opens_97 (by decide) ?_
                exact ih (bU z j, n, k - 1, ab9, be9) H _ ls ⟨⟨fun u hu => by have := hz.2.2.2 j u hjN hu; dsimp only; omega, by dsimp only; omega, by dsimp only; rw [he, mOp_some hjk, c62, c73, Bool.true_and, if_neg (by decide)], hPic, hT0⟩, lv_sub hl [1, 2, 3, 4, 5, 0] rfl⟩ (by dsimp only; omega)
              · have c73 := bI_tr c73
                refine lv_iload hx hb dX4_opens_76 (lv_at hl 4 rfl) ?_
                refine lv_iload_n hx hb dX4_opens_78 rfl (lv_at hl 2 rfl) ?_
                refine jv_icmp_ne (tgt := 85) hx hb dX4_opens_79 (by decide) (by omega) (by omega) (fun c79 => ?_) (fun c79 => ?_)
                · refine lv_iinc (v := jI (n + 1)) (lv' := [(4, .int (jI (n + 1))), (0, .ref (am 0)), (1, .int (jI ((d : Int)))), (2, .int (jI (kk))), (3, .int (jI (I))), (5, .int (jI ((j : Int))))]) hx hb dX4_opens_85 hl (k := 4) rfl (jI_add _ _) (by decide) rfl (fun ls hl => ?_)
                  refine lv_aload_n hx hb dX4_opens_88 rfl (lv_at hl 1 rfl) ?_
                  refine va_get (D := D) (ci := 4) (v := .ref (am 1)) (C := RX4) (T := TX4) (N := 17) hx hb hts (fun w h => List.mem_cons_of_mem _ (uw_X4 w h)) hown hK (j_P1 hm0) 0 rfl rfl 2 (by decide) (hts _ (List.mem_cons_of_mem _ kw_420)) (fun _ h9 => h9) rfl dX4_opens_89 ?_
                  refine lv_iload hx hb dX4_opens_92 (lv_at hl 5 rfl) ?_
                  refine jv_iald (i := j) hx hb hK hm1 0 rfl (by omega) (by omega) (by decide) dX4_opens_94 ?_
                  rw [e1_j]
                  refine lv_istore (lv' := [(5, .int (jI (upI (bU z j)))), (4, .int (jI (n + 1))), (0, .ref (am 0)), (1, .int (jI ((d : Int)))), (2, .int (jI (kk))), (3, .int (jI (I)))]) hx hb dX4_opens_95 hl (by decide) rfl (fun ls hl => ?_)
                  refine lv_goto (tgt := 42) hx hb dX4_opens_97 (by decide) ?_
                  exact ih (bU z j, n + 1, k - 1, ab9, be9) H _ ls ⟨⟨fun u hu => by have := hz.2.2.2 j u hjN hu; dsimp only; omega, by dsimp only; omega, by dsimp only; rw [he, mOp_some hjk, c62, c73, Bool.true_and, if_pos rfl, if_neg c79], hPic, hT0⟩, lv_sub hl [2, 3, 4, 5, 1, 0] rfl⟩ (by dsimp only; omega)
                · refine lv_iload hx hb dX4_opens_82 (lv_at hl 5 rfl) ?_
                  exact m_iret hx hb hr hlocks dX4_opens_84 ⟨rfl, hR⟩ hPic hT0 (by rw [he, mOp_some hjk, c62, c73, Bool.true_and, if_pos rfl, if_pos c79])
      · exact absurd c25 (by omega)
