set_option maxRecDepth 20000 in
theorem kw_3 : (.selects RX4 yX4_isDevice yX4_isDevice : Cond) ∈ gAll := g_mem 3 rfl rfl
set_option maxRecDepth 20000 in
theorem kw_6 : (.selects RX4 yX4_lookOrder yX4_lookOrder : Cond) ∈ gAll := g_mem 6 rfl rfl
set_option maxRecDepth 20000 in
theorem kw_7 : (.selects RX4 yX4_isGood yX4_isGood : Cond) ∈ gAll := g_mem 7 rfl rfl
set_option maxRecDepth 20000 in
theorem kw_428 : (.fieldLink RX4 34 "BreakerOrdersModel" "chosen" "[I" : Cond) ∈ gAll := g_mem 428 rfl rfl
set_option maxRecDepth 20000 in
theorem kw_478 : (.methodLink RX4 57 yX4_isDevice : Cond) ∈ gAll := g_mem 478 rfl rfl
set_option maxRecDepth 20000 in
theorem kw_480 : (.instanceMethod yX4_isDevice : Cond) ∈ gAll := g_mem 480 rfl rfl
set_option maxRecDepth 20000 in
theorem kw_519 : (.methodLink RX4 78 yX4_lookOrder : Cond) ∈ gAll := g_mem 519 rfl rfl
set_option maxRecDepth 20000 in
theorem kw_521 : (.instanceMethod yX4_lookOrder : Cond) ∈ gAll := g_mem 521 rfl rfl
set_option maxRecDepth 20000 in
theorem kw_523 : (.methodLink RX4 82 yX4_isGood : Cond) ∈ gAll := g_mem 523 rfl rfl
set_option maxRecDepth 20000 in
theorem kw_525 : (.instanceMethod yX4_isGood : Cond) ∈ gAll := g_mem 525 rfl rfl
set_option maxHeartbeats 4000000 in
set_option maxRecDepth 100000 in
theorem k_time (l : Launch) (D : va_G) (g : Nat → ClassId) (am : Nat → Nat) (cd dv vo ab be : Int) (AA : Nat → Nat → Int) (z : bSt) (hz : bOK z) (hR : mR z dv vo AA) (d : Nat) (I : Int) (mo : Bool) (hd : d < bN z) (hI : 1 ≤ I ∧ I ≤ 5000) (hj : mInj am) : Met l yX4_time wsX4_time ({ frames := 2, cells := 0, slots := 0, locals := 43 }) (pu_Pc [.ref (am 0), .int (jI ((d : Int))), .int (jI (I)), .int (jI (bI mo))] D vwCl (ty9 g) (fun H => mW D g am cd dv vo ab be AA H)) (mQ D g am (some (.int (jI (if cPiece (bCh z d) I = -1 then -1 else cWhole (bCh z d) (cPiece (bCh z d) I) I mo)))) (fun c n v A _ _ => c = 0 ∧ mR z n v A)) 0 0 (mFr am) := by
  refine Met.ofW (cc := cX4_time) (maxL := 4) (ret := some .int) (by decide) rfl ?_
  intro p e s m args below meth c s₁ B hml hv
  obtain ⟨rfl, hPic, hK⟩ := hv
  have hx := B.exec
  have hb := B.bytes
  have hr := B.returns
  have hts := atoms_spec (ws := wsX4_time) B.pre
  have hown : s.vm.findClass RX4 = some m.cls := findClass_of_methodNamed B.named
  have hlocks := B.notSynchronized
  have hm0 := hPic.1
  have hm9 : va_at D vwCl (am 9, .inl (g 0, 8, .inl (fun j => jI (AA 9 j)))) s.heap := hPic.2 9 (by omega) (by omega)
  obtain ⟨e1_d, e2_d, e3_d, e6_d, e7_d, e9_d, e10_d⟩ := hR.2.2 d hd
  have f_d := hz.2.2.1 d (by have := hz.1; omega)
  have hN := hz.1
  have hdv := hR.1
  have hN := hz.1
  have okS : sOK (bCh z d) := f_d.2.2.2.2.2 (bC z d) f_d.2.2.1
  have hl := lv_entry ([.ref (am 0), .int (jI ((d : Int))), .int (jI (I)), .int (jI (bI mo))]) (n := 4) (Nat.le_of_ble_eq_true rfl)
  rw [lg_entry_eq]
  generalize (lg_sl ([.ref (am 0), .int (jI ((d : Int))), .int (jI (I)), .int (jI (bI mo))]) ++ List.replicate (4 - (lg_sl ([.ref (am 0), .int (jI ((d : Int))), .int (jI (I)), .int (jI (bI mo))])).length) Slot.unset).toArray = ls at hl ⊢
  have hl : lv_has ls 4 [(0, .ref (am 0)), (1, .int (jI ((d : Int)))), (2, .int (jI (I))), (3, .int (jI (bI mo)))] := hl
  have hT0 : mTo am s.heap s.heap [] := mTo.rf
  refine lv_aload_n hx hb dX4_time_0 rfl (lv_at hl 0 rfl) ?_
  refine lv_aload_n hx hb dX4_time_1 rfl (lv_at hl 0 rfl) ?_
  refine lv_iload_n hx hb dX4_time_2 rfl (lv_at hl 1 rfl) ?_
  refine pu_call1 (va_runV (As := [.int (jI ((d : Int)))]) (rest := [.ref (am 0)]) ⟨hx, hb, hml, hown, hts⟩ (k_isDevice l D g am cd dv vo ab be AA (d : Int) (by omega) (by omega)) (cwV 1 hts (gd_V kw_478 kw_480 kw_3 kw_16 kcX4_isDevice) rfl rfl rfl (by decide +kernel) ⟨Nat.le_of_ble_eq_true rfl, Nat.le_of_ble_eq_true rfl⟩) (pu_preV hPic hK rfl hm0) rfl rfl hl.1 rfl (lv_room (Nat.le_of_ble_eq_true rfl)) dX4_time_3 ⟨Nat.zero_le _, Nat.zero_le _⟩) ?_
  refine jv_if_eq (tgt := 24) hx hb dX4_time_6 (by decide) (bI_rng _) (fun c6 => ?_) (fun c6 => ?_)
  · exact absurd (bI_fa c6) (by rw [decide_eq_true (by omega)]; decide)
  · refine lv_iload_n hx hb dX4_time_9 rfl (lv_at hl 2 rfl) ?_
    refine jv_iconst hx hb dX4_time_10 ?_
    refine jv_sipush hx hb dX4_time_11 (by decide) ?_
    refine pu_call1 (va_runS (As := [.int (jI (I)), .int (jI (1)), .int (jI (5000))]) (rest := [.ref (am 0)]) ⟨hx, hb, hml, hown, hts⟩ (k_in l D g I 1 5000 (by omega) (by omega) (by omega)) (cwS 3 hts (gd_S kw_482 kw_483 kw_16 kcX4_in) rfl rfl rfl (by decide +kernel) ⟨Nat.le_of_ble_eq_true rfl, Nat.le_of_ble_eq_true rfl⟩) (pu_preS trivial hK) rfl rfl hl.1 rfl (lv_room (Nat.le_of_ble_eq_true rfl)) dX4_time_14 ⟨Nat.zero_le _, Nat.zero_le _⟩) ?_
    refine jv_if_eq (tgt := 24) hx hb dX4_time_17 (by decide) (bI_rng _) (fun c17 => ?_) (fun c17 => ?_)
    · exact absurd (bI_fa c17) (by rw [decide_eq_true (by omega)]; decide)
    · refine jv_iconst hx hb dX4_time_20 ?_
      refine lv_goto (tgt := 25) hx hb dX4_time_21 (by decide) ?_
      refine jv_put (D := D) (ci := 4) (v := .int (jI (0))) (ty := .int) (C := RX4) (T := TX4) (N := 17) hx hb hts (fun w h => List.mem_cons_of_mem _ (uw_X4 w h)) tyX4 tyX4_ok nmX4 hown hK hm0 rfl 0 (by decide) (hts _ (List.mem_cons_of_mem _ kw_418)) (fun _ h9 => h9) rfl (by decide +kernel) rfl rfl (Nat.le_of_ble_eq_true rfl) dX4_time_25 (fun H f9 hn9 hz9 oq9 => ?_)
      have hPic : mW D g am 0 dv vo ab be AA H := mW_obj hj hPic oq9 hn9
      have hT0 := hT0.put 0 (by omega) hz9 oq9 (f := f9)
      have hm0 := hPic.1
      have hm9 : va_at D vwCl (am 9, .inl (g 0, 8, .inl (fun j => jI (AA 9 j)))) H := hPic.2 9 (by omega) (by omega)
      refine lv_aload_n hx hb dX4_time_28 rfl (lv_at hl 0 rfl) ?_
      refine va_get (D := D) (ci := 4) (v := .int (jI (0))) (C := RX4) (T := TX4) (N := 17) hx hb hts (fun w h => List.mem_cons_of_mem _ (uw_X4 w h)) hown hK (j_P1 hm0) 0 rfl rfl 0 (by decide) (hts _ (List.mem_cons_of_mem _ kw_418)) (fun _ h9 => h9) rfl dX4_time_29 ?_
      refine jv_if_gt (tgt := 50) hx hb dX4_time_32 (by decide) (by omega) (fun c32 => ?_) (fun c32 => ?_)
      · exact absurd c32 (by omega)
      · refine lv_aload_n hx hb dX4_time_35 rfl (lv_at hl 0 rfl) ?_
        refine lv_iload_n hx hb dX4_time_36 rfl (lv_at hl 1 rfl) ?_
        refine lv_aload_n hx hb dX4_time_37 rfl (lv_at hl 0 rfl) ?_
        refine va_get (D := D) (ci := 4) (v := .ref (am 9)) (C := RX4) (T := TX4) (N := 17) hx hb hts (fun w h => List.mem_cons_of_mem _ (uw_X4 w h)) hown hK (j_P1 hm0) 0 rfl rfl 10 (by decide) (hts _ (List.mem_cons_of_mem _ kw_428)) (fun _ h9 => h9) rfl dX4_time_38 ?_
        refine lv_iload_n hx hb dX4_time_41 rfl (lv_at hl 1 rfl) ?_
        refine jv_iald (i := d) hx hb hK hm9 0 rfl (by omega) (by omega) (by decide) dX4_time_42 ?_
        rw [e9_d]
        refine lv_iload_n hx hb dX4_time_43 rfl (lv_at hl 2 rfl) ?_
        refine pu_call1 (va_runV (As := [.int (jI ((d : Int))), .int (jI ((bC z d : Int))), .int (jI (I))]) (rest := []) ⟨hx, hb, hml, hown, hts⟩ (k_opensAt l D g am 0 dv vo ab be AA z hz hR d (bC z d) I hd f_d.2.2.1 (by omega)) (cwV 3 hts (gd_V kw_502 kw_504 kw_4 kw_16 kcX4_opensAt) rfl rfl rfl (by decide +kernel) ⟨Nat.le_of_ble_eq_true rfl, Nat.le_of_ble_eq_true rfl⟩) (pu_preV hPic hK rfl hm0) rfl rfl hl.1 rfl (lv_room (Nat.le_of_ble_eq_true rfl)) dX4_time_44 ⟨Nat.zero_le _, Nat.zero_le _⟩) ?_
        refine jv_if_ne (tgt := 52) hx hb dX4_time_47 (by decide) (bI_rng _) (fun c47 => ?_) (fun c47 => ?_)
        · have pS := (mOpen_piece okS I).mp (bI_tr c47)
          have hoS : 0 < bK z d ∧ bS z d (bC z d) * bP z d 0 ≤ 100 * I := of_decide_eq_true (bI_tr c47)
          have rP := cPiece_range (bCh z d) I
          have r1 := cParts_range okS (q := cPiece (bCh z d) I) (by omega)
          have r2 := cTime_range okS mo (I := I) (k := (cPiece (bCh z d) I).toNat) (by omega)
          rw [show (((cPiece (bCh z d) I).toNat : Nat) : Int) = cPiece (bCh z d) I by omega] at r2
          refine lv_aload_n hx hb dX4_time_52 rfl (lv_at hl 0 rfl) ?_
          refine lv_iload_n hx hb dX4_time_53 rfl (lv_at hl 1 rfl) ?_
          refine lv_aload_n hx hb dX4_time_54 rfl (lv_at hl 0 rfl) ?_
          refine va_get (D := D) (ci := 4) (v := .ref (am 9)) (C := RX4) (T := TX4) (N := 17) hx hb hts (fun w h => List.mem_cons_of_mem _ (uw_X4 w h)) hown hK (j_P1 hm0) 0 rfl rfl 10 (by decide) (hts _ (List.mem_cons_of_mem _ kw_428)) (fun _ h9 => h9) rfl dX4_time_55 ?_
          refine lv_iload_n hx hb dX4_time_58 rfl (lv_at hl 1 rfl) ?_
          refine jv_iald (i := d) hx hb hK hm9 0 rfl (by omega) (by omega) (by decide) dX4_time_59 ?_
          rw [e9_d]
          refine lv_iload_n hx hb dX4_time_60 rfl (lv_at hl 2 rfl) ?_
          refine lv_iload_n hx hb dX4_time_61 rfl (lv_at hl 3 rfl) ?_
          refine m_call (va_runV (As := [.int (jI ((d : Int))), .int (jI ((bC z d : Int))), .int (jI (I)), .int (jI (bI mo))]) (rest := []) ⟨hx, hb, hml, hown, hts⟩ (k_reckon l D g am 0 dv vo ab be AA z hz hR d (bC z d) I mo hd f_d.2.2.1 (by omega) hoS hj) (cwV 4 hts (gd_V kw_506 kw_508 kw_5 kw_16 kcX4_reckon) rfl rfl rfl (by decide +kernel) ⟨Nat.le_of_ble_eq_true rfl, Nat.le_of_ble_eq_true rfl⟩) (pu_preV hPic hK rfl hm0) rfl rfl hl.1 rfl (lv_room (Nat.le_of_ble_eq_true rfl)) dX4_time_62 ⟨Nat.zero_le _, Nat.zero_le _⟩) hT0 (fun H locs cd9 dv9 vo9 AA9 ab9 be9 hPh hPic hT0 => ?_)
          refine W.eq (g2 := F0 m 65 ls []) rfl ?_
          obtain ⟨q1, q2, q3, q4, q5, q6⟩ := hPh
          rw [q1, q2, q3, q4, q5, q6] at hPic
          have hm0 := hPic.1
          have hm9 : va_at D vwCl (am 9, .inl (g 0, 8, .inl (fun j => jI (AA 9 j)))) H := hPic.2 9 (by omega) (by omega)
          refine lv_aload_n hx hb dX4_time_65 rfl (lv_at hl 0 rfl) ?_
          refine va_get (D := D) (ci := 4) (v := .long (jL (cTime (bCh z d) mo (cPiece (bCh z d) I) (cParts (bCh z d) (cPiece (bCh z d) I)) I))) (C := RX4) (T := TX4) (N := 17) hx hb hts (fun w h => List.mem_cons_of_mem _ (uw_X4 w h)) hown hK (j_P1 hm0) 0 rfl rfl 13 (by decide) (hts _ (List.mem_cons_of_mem _ kw_431)) (fun _ h9 => h9) rfl dX4_time_66 ?_
          refine lv_aload_n hx hb dX4_time_69 rfl (lv_at hl 0 rfl) ?_
          refine va_get (D := D) (ci := 4) (v := .long (jL (cParts (bCh z d) (cPiece (bCh z d) I)))) (C := RX4) (T := TX4) (N := 17) hx hb hts (fun w h => List.mem_cons_of_mem _ (uw_X4 w h)) hown hK (j_P1 hm0) 0 rfl rfl 14 (by decide) (hts _ (List.mem_cons_of_mem _ kw_432)) (fun _ h9 => h9) rfl dX4_time_70 ?_
          refine jv_ldiv hx hb dX4_time_73 (by omega) (by omega) ?_
          refine jv_l2i hx hb dX4_time_74 ?_
          exact m_iret hx hb hr hlocks dX4_time_75 ⟨rfl, hR⟩ hPic hT0 (by rw [if_neg pS, cWhole, if_neg (by omega)])
        · have pS := mOpen_no okS (bI_fa c47)
          refine jv_iconst hx hb dX4_time_50 ?_
          exact m_iret hx hb hr hlocks dX4_time_51 ⟨rfl, hR⟩ hPic hT0 (by rw [if_pos pS])
set_option maxHeartbeats 4000000 in
set_option maxRecDepth 100000 in
theorem k_opensFrom (l : Launch) (D : va_G) (g : Nat → ClassId) (am : Nat → Nat) (cd dv vo ab be : Int) (AA : Nat → Nat → Int) (z : bSt) (hz : bOK z) (hR : mR z dv vo AA) (d : Nat) (hd : d < bN z) (hj : mInj am) : Met l yX4_opensFrom wsX4_opensFrom ({ frames := 2, cells := 0, slots := 0, locals := 43 }) (pu_Pc [.ref (am 0), .int (jI ((d : Int)))] D vwCl (ty9 g) (fun H => mW D g am cd dv vo ab be AA H)) (mQ D g am (some (.int (jI (dF (mOpen (bCh z d)) 5000 1)))) (fun c n v A _ _ => c = 0 ∧ mR z n v A)) 0 0 (mFr am) := by
  refine Met.ofW (cc := cX4_opensFrom) (maxL := 3) (ret := some .int) (by decide) rfl ?_
  intro p e s m args below meth c s₁ B hml hv
  obtain ⟨rfl, hPic, hK⟩ := hv
  have hx := B.exec
  have hb := B.bytes
  have hr := B.returns
  have hts := atoms_spec (ws := wsX4_opensFrom) B.pre
  have hown : s.vm.findClass RX4 = some m.cls := findClass_of_methodNamed B.named
  have hlocks := B.notSynchronized
  have hm0 := hPic.1
  have hm9 : va_at D vwCl (am 9, .inl (g 0, 8, .inl (fun j => jI (AA 9 j)))) s.heap := hPic.2 9 (by omega) (by omega)
  obtain ⟨e1_d, e2_d, e3_d, e6_d, e7_d, e9_d, e10_d⟩ := hR.2.2 d hd
  have f_d := hz.2.2.1 d (by have := hz.1; omega)
  have hN := hz.1
  have hdv := hR.1
  have hN := hz.1
  have hl := lv_entry ([.ref (am 0), .int (jI ((d : Int)))]) (n := 3) (Nat.le_of_ble_eq_true rfl)
  rw [lg_entry_eq]
  generalize (lg_sl ([.ref (am 0), .int (jI ((d : Int)))]) ++ List.replicate (3 - (lg_sl ([.ref (am 0), .int (jI ((d : Int)))])).length) Slot.unset).toArray = ls at hl ⊢
  have hl : lv_has ls 3 [(0, .ref (am 0)), (1, .int (jI ((d : Int))))] := hl
  have hT0 : mTo am s.heap s.heap [] := mTo.rf
  refine lv_aload_n hx hb dX4_opensFrom_0 rfl (lv_at hl 0 rfl) ?_
  refine lv_aload_n hx hb dX4_opensFrom_1 rfl (lv_at hl 0 rfl) ?_
  refine lv_iload_n hx hb dX4_opensFrom_2 rfl (lv_at hl 1 rfl) ?_
  refine pu_call1 (va_runV (As := [.int (jI ((d : Int)))]) (rest := [.ref (am 0)]) ⟨hx, hb, hml, hown, hts⟩ (k_isDevice l D g am cd dv vo ab be AA (d : Int) (by omega) (by omega)) (cwV 1 hts (gd_V kw_478 kw_480 kw_3 kw_16 kcX4_isDevice) rfl rfl rfl (by decide +kernel) ⟨Nat.le_of_ble_eq_true rfl, Nat.le_of_ble_eq_true rfl⟩) (pu_preV hPic hK rfl hm0) rfl rfl hl.1 rfl (lv_room (Nat.le_of_ble_eq_true rfl)) dX4_opensFrom_3 ⟨Nat.zero_le _, Nat.zero_le _⟩) ?_
  refine jv_if_eq (tgt := 13) hx hb dX4_opensFrom_6 (by decide) (bI_rng _) (fun c6 => ?_) (fun c6 => ?_)
  · exact absurd (bI_fa c6) (by rw [decide_eq_true (by omega)]; decide)
  · refine jv_iconst hx hb dX4_opensFrom_9 ?_
    refine lv_goto (tgt := 14) hx hb dX4_opensFrom_10 (by decide) ?_
    refine jv_put (D := D) (ci := 4) (v := .int (jI (0))) (ty := .int) (C := RX4) (T := TX4) (N := 17) hx hb hts (fun w h => List.mem_cons_of_mem _ (uw_X4 w h)) tyX4 tyX4_ok nmX4 hown hK hm0 rfl 0 (by decide) (hts _ (List.mem_cons_of_mem _ kw_418)) (fun _ h9 => h9) rfl (by decide +kernel) rfl rfl (Nat.le_of_ble_eq_true rfl) dX4_opensFrom_14 (fun H f9 hn9 hz9 oq9 => ?_)
    have hPic : mW D g am 0 dv vo ab be AA H := mW_obj hj hPic oq9 hn9
    have hT0 := hT0.put 0 (by omega) hz9 oq9 (f := f9)
    have hm0 := hPic.1
    have hm9 : va_at D vwCl (am 9, .inl (g 0, 8, .inl (fun j => jI (AA 9 j)))) H := hPic.2 9 (by omega) (by omega)
    refine jv_iconst hx hb dX4_opensFrom_17 ?_
    refine lv_istore_n (lv' := [(2, .int (jI (1))), (0, .ref (am 0)), (1, .int (jI ((d : Int))))]) hx hb dX4_opensFrom_18 rfl hl (by decide) rfl (fun ls hl => ?_)
    refine jw_loop (X := Int) (fun i => (5001 - i).toNat) (fun i ls => (1 ≤ i ∧ i ≤ 5001 ∧ dF (mOpen (bCh z d)) 5000 1 = dF (mOpen (bCh z d)) (5001 - i).toNat i) ∧ lv_has ls 3 [(0, .ref (am 0)), (1, .int (jI ((d : Int)))), (2, .int (jI (i)))]) ?_ 1 ls ⟨⟨by omega, by omega, rfl⟩, lv_sub hl [1, 2, 0] rfl⟩
    intro i ls hinv ih
    obtain ⟨⟨hi1, hi2, he⟩, hl⟩ := hinv
    refine lv_iload_n hx hb dX4_opensFrom_19 rfl (lv_at hl 2 rfl) ?_
    refine jv_sipush hx hb dX4_opensFrom_20 (by decide) ?_
    refine jv_icmp_gt (tgt := 56) hx hb dX4_opensFrom_23 (by decide) (by omega) (by omega) (fun c23 => ?_) (fun c23 => ?_)
    · refine jv_iconst hx hb dX4_opensFrom_56 ?_
      exact m_iret hx hb hr hlocks dX4_opensFrom_57 ⟨rfl, hR⟩ hPic hT0 (by rw [he, show (5001 - i).toNat = 0 by omega]; rfl)
    · refine lv_aload_n hx hb dX4_opensFrom_26 rfl (lv_at hl 0 rfl) ?_
      refine va_get (D := D) (ci := 4) (v := .int (jI (0))) (C := RX4) (T := TX4) (N := 17) hx hb hts (fun w h => List.mem_cons_of_mem _ (uw_X4 w h)) hown hK (j_P1 hm0) 0 rfl rfl 0 (by decide) (hts _ (List.mem_cons_of_mem _ kw_418)) (fun _ h9 => h9) rfl dX4_opensFrom_27 ?_
      refine jv_if_ne (tgt := 56) hx hb dX4_opensFrom_30 (by decide) (by omega) (fun c30 => ?_) (fun c30 => ?_)
      · exact absurd c30 (by decide)
      · refine lv_aload_n hx hb dX4_opensFrom_33 rfl (lv_at hl 0 rfl) ?_
        refine lv_iload_n hx hb dX4_opensFrom_34 rfl (lv_at hl 1 rfl) ?_
        refine lv_aload_n hx hb dX4_opensFrom_35 rfl (lv_at hl 0 rfl) ?_
        refine va_get (D := D) (ci := 4) (v := .ref (am 9)) (C := RX4) (T := TX4) (N := 17) hx hb hts (fun w h => List.mem_cons_of_mem _ (uw_X4 w h)) hown hK (j_P1 hm0) 0 rfl rfl 10 (by decide) (hts _ (List.mem_cons_of_mem _ kw_428)) (fun _ h9 => h9) rfl dX4_opensFrom_36 ?_
        refine lv_iload_n hx hb dX4_opensFrom_39 rfl (lv_at hl 1 rfl) ?_
        refine jv_iald (i := d) hx hb hK hm9 0 rfl (by omega) (by omega) (by decide) dX4_opensFrom_40 ?_
        rw [e9_d]
        refine lv_iload_n hx hb dX4_opensFrom_41 rfl (lv_at hl 2 rfl) ?_
        refine pu_call1 (va_runV (As := [.int (jI ((d : Int))), .int (jI ((bC z d : Int))), .int (jI (i))]) (rest := []) ⟨hx, hb, hml, hown, hts⟩ (k_opensAt l D g am 0 dv vo ab be AA z hz hR d (bC z d) i hd f_d.2.2.1 (by omega)) (cwV 3 hts (gd_V kw_502 kw_504 kw_4 kw_16 kcX4_opensAt) rfl rfl rfl (by decide +kernel) ⟨Nat.le_of_ble_eq_true rfl, Nat.le_of_ble_eq_true rfl⟩) (pu_preV hPic hK rfl hm0) rfl rfl hl.1 rfl (lv_room (Nat.le_of_ble_eq_true rfl)) dX4_opensFrom_42 ⟨Nat.zero_le _, Nat.zero_le _⟩) ?_
        refine jv_if_eq (tgt := 50) hx hb dX4_opensFrom_45 (by decide) (bI_rng _) (fun c45 => ?_) (fun c45 => ?_)
        · have c45 : mOpen (bCh z d) i = false := bI_fa c45
          refine lv_iinc (v := jI (i + 1)) (lv' := [(2, .int (jI (i + 1))), (0, .ref (am 0)), (1, .int (jI ((d : Int))))]) hx hb dX4_opensFrom_50 hl (k := 2) rfl (jI_add _ _) (by decide) rfl (fun ls hl => ?_)
          refine lv_goto (tgt := 19) hx hb dX4_opensFrom_53 (by decide) ?_
          exact ih (i + 1) ls ⟨⟨by omega, by omega, by rw [he, show (5001 - i).toNat = (5001 - (i + 1)).toNat + 1 by omega]; simp only [dF]; rw [if_neg (by rw [c45]; decide)]⟩, lv_sub hl [1, 2, 0] rfl⟩ (by omega)
        · have c45 : mOpen (bCh z d) i = true := bI_tr c45
          refine lv_iload_n hx hb dX4_opensFrom_48 rfl (lv_at hl 2 rfl) ?_
          exact m_iret hx hb hr hlocks dX4_opensFrom_49 ⟨rfl, hR⟩ hPic hT0 (by rw [he, show (5001 - i).toNat = (5001 - (i + 1)).toNat + 1 by omega]; simp only [dF]; rw [if_pos c45])
set_option maxHeartbeats 4000000 in
set_option maxRecDepth 100000 in
theorem k_lookOrder (l : Launch) (D : va_G) (g : Nat → ClassId) (am : Nat → Nat) (cd dv vo ab be : Int) (AA : Nat → Nat → Int) (z : bSt) (hz : bOK z) (hR : mR z dv vo AA) (d u : Nat) (mg : Int) (hd : d < bN z) (hu : u < bN z) (hdu : d ≠ u) (hmg : 0 ≤ mg ∧ mg ≤ 10000) (hj : mInj am) : Met l yX4_lookOrder wsX4_lookOrder ({ frames := 2, cells := 0, slots := 0, locals := 43 }) (pu_Pc [.ref (am 0), .int (jI ((d : Int))), .int (jI ((u : Int))), .int (jI (mg))] D vwCl (ty9 g) (fun H => mW D g am cd dv vo ab be AA H)) (mQ D g am none (fun c n v A a b => c = 0 ∧ n = dv ∧ v = vo ∧ A = AA)) 0 0 (mFr am) := by
  refine Met.ofW (cc := cX4_lookOrder) (maxL := 4) (ret := none) (by decide) rfl ?_
  intro p e s m args below meth c s₁ B hml hv
  obtain ⟨rfl, hPic, hK⟩ := hv
  have hx := B.exec
  have hb := B.bytes
  have hr := B.returns
  have hts := atoms_spec (ws := wsX4_lookOrder) B.pre
  have hown : s.vm.findClass RX4 = some m.cls := findClass_of_methodNamed B.named
  have hlocks := B.notSynchronized
  have hm0 := hPic.1
  have hdv := hR.1
  have hN := hz.1
  have hl := lv_entry ([.ref (am 0), .int (jI ((d : Int))), .int (jI ((u : Int))), .int (jI (mg))]) (n := 4) (Nat.le_of_ble_eq_true rfl)
  rw [lg_entry_eq]
  generalize (lg_sl ([.ref (am 0), .int (jI ((d : Int))), .int (jI ((u : Int))), .int (jI (mg))]) ++ List.replicate (4 - (lg_sl ([.ref (am 0), .int (jI ((d : Int))), .int (jI ((u : Int))), .int (jI (mg))])).length) Slot.unset).toArray = ls at hl ⊢
  have hl : lv_has ls 4 [(0, .ref (am 0)), (1, .int (jI ((d : Int)))), (2, .int (jI ((u : Int)))), (3, .int (jI (mg)))] := hl
  have hT0 : mTo am s.heap s.heap [] := mTo.rf
  refine lv_aload_n hx hb dX4_lookOrder_0 rfl (lv_at hl 0 rfl) ?_
  refine lv_aload_n hx hb dX4_lookOrder_1 rfl (lv_at hl 0 rfl) ?_
  refine lv_iload_n hx hb dX4_lookOrder_2 rfl (lv_at hl 1 rfl) ?_
  refine pu_call1 (va_runV (As := [.int (jI ((d : Int)))]) (rest := [.ref (am 0)]) ⟨hx, hb, hml, hown, hts⟩ (k_isDevice l D g am cd dv vo ab be AA (d : Int) (by omega) (by omega)) (cwV 1 hts (gd_V kw_478 kw_480 kw_3 kw_16 kcX4_isDevice) rfl rfl rfl (by decide +kernel) ⟨Nat.le_of_ble_eq_true rfl, Nat.le_of_ble_eq_true rfl⟩) (pu_preV hPic hK rfl hm0) rfl rfl hl.1 rfl (lv_room (Nat.le_of_ble_eq_true rfl)) dX4_lookOrder_3 ⟨Nat.zero_le _, Nat.zero_le _⟩) ?_
  refine jv_if_eq (tgt := 37) hx hb dX4_lookOrder_6 (by decide) (bI_rng _) (fun c6 => ?_) (fun c6 => ?_)
  · exact absurd (bI_fa c6) (by rw [decide_eq_true (by omega)]; decide)
  · refine lv_aload_n hx hb dX4_lookOrder_9 rfl (lv_at hl 0 rfl) ?_
    refine lv_iload_n hx hb dX4_lookOrder_10 rfl (lv_at hl 2 rfl) ?_
    refine pu_call1 (va_runV (As := [.int (jI ((u : Int)))]) (rest := [.ref (am 0)]) ⟨hx, hb, hml, hown, hts⟩ (k_isDevice l D g am cd dv vo ab be AA (u : Int) (by omega) (by omega)) (cwV 1 hts (gd_V kw_478 kw_480 kw_3 kw_16 kcX4_isDevice) rfl rfl rfl (by decide +kernel) ⟨Nat.le_of_ble_eq_true rfl, Nat.le_of_ble_eq_true rfl⟩) (pu_preV hPic hK rfl hm0) rfl rfl hl.1 rfl (lv_room (Nat.le_of_ble_eq_true rfl)) dX4_lookOrder_11 ⟨Nat.zero_le _, Nat.zero_le _⟩) ?_
    refine jv_if_eq (tgt := 37) hx hb dX4_lookOrder_14 (by decide) (bI_rng _) (fun c14 => ?_) (fun c14 => ?_)
    · exact absurd (bI_fa c14) (by rw [decide_eq_true (by omega)]; decide)
    · refine lv_iload_n hx hb dX4_lookOrder_17 rfl (lv_at hl 1 rfl) ?_
      refine lv_iload_n hx hb dX4_lookOrder_18 rfl (lv_at hl 2 rfl) ?_
      refine jv_icmp_eq (tgt := 37) hx hb dX4_lookOrder_19 (by decide) (by omega) (by omega) (fun c19 => ?_) (fun c19 => ?_)
      · exact absurd c19 (by omega)
      · refine lv_iload_n hx hb dX4_lookOrder_22 rfl (lv_at hl 3 rfl) ?_
        refine jv_iconst hx hb dX4_lookOrder_23 ?_
        refine jv_sipush hx hb dX4_lookOrder_24 (by decide) ?_
        refine pu_call1 (va_runS (As := [.int (jI (mg)), .int (jI (0)), .int (jI (10000))]) (rest := [.ref (am 0)]) ⟨hx, hb, hml, hown, hts⟩ (k_in l D g mg 0 10000 (by omega) (by omega) (by omega)) (cwS 3 hts (gd_S kw_482 kw_483 kw_16 kcX4_in) rfl rfl rfl (by decide +kernel) ⟨Nat.le_of_ble_eq_true rfl, Nat.le_of_ble_eq_true rfl⟩) (pu_preS trivial hK) rfl rfl hl.1 rfl (lv_room (Nat.le_of_ble_eq_true rfl)) dX4_lookOrder_27 ⟨Nat.zero_le _, Nat.zero_le _⟩) ?_
        refine jv_if_eq (tgt := 37) hx hb dX4_lookOrder_30 (by decide) (bI_rng _) (fun c30 => ?_) (fun c30 => ?_)
        · exact absurd (bI_fa c30) (by rw [decide_eq_true (by omega)]; decide)
        · refine jv_iconst hx hb dX4_lookOrder_33 ?_
          refine lv_goto (tgt := 38) hx hb dX4_lookOrder_34 (by decide) ?_
          refine jv_put (D := D) (ci := 4) (v := .int (jI (0))) (ty := .int) (C := RX4) (T := TX4) (N := 17) hx hb hts (fun w h => List.mem_cons_of_mem _ (uw_X4 w h)) tyX4 tyX4_ok nmX4 hown hK hm0 rfl 0 (by decide) (hts _ (List.mem_cons_of_mem _ kw_418)) (fun _ h9 => h9) rfl (by decide +kernel) rfl rfl (Nat.le_of_ble_eq_true rfl) dX4_lookOrder_38 (fun H f9 hn9 hz9 oq9 => ?_)
          have hPic : mW D g am 0 dv vo ab be AA H := mW_obj hj hPic oq9 hn9
          have hT0 := hT0.put 0 (by omega) hz9 oq9 (f := f9)
          have hm0 := hPic.1
          have hm9 : va_at D vwCl (am 9, .inl (g 0, 8, .inl (fun j => jI (AA 9 j)))) H := hPic.2 9 (by omega) (by omega)
          exact m_vret hx hb hr hlocks dX4_lookOrder_41 ⟨rfl, rfl, rfl, rfl⟩ hPic hT0
set_option maxHeartbeats 4000000 in
set_option maxRecDepth 100000 in
theorem k_order (l : Launch) (D : va_G) (g : Nat → ClassId) (am : Nat → Nat) (cd dv vo ab be : Int) (AA : Nat → Nat → Int) (z : bSt) (hz : bOK z) (hR : mR z dv vo AA) (d u : Nat) (mg : Int) (hd : d < bN z) (hu : u < bN z) (hdu : d ≠ u) (hmg : 0 ≤ mg ∧ mg ≤ 10000) (hj : mInj am) : Met l yX4_order wsX4_order ({ frames := 3, cells := 0, slots := 0, locals := 66 }) (pu_Pc [.ref (am 0), .int (jI ((d : Int))), .int (jI ((u : Int))), .int (jI (mg))] D vwCl (ty9 g) (fun H => mW D g am cd dv vo ab be AA H)) (mQ D g am (some (.int (jI (dF (cBrk (bCh z d) (bCh z u) mg) 5000 1)))) (fun c n v A _ _ => c = 0 ∧ mR z n v A)) 0 0 (mFr am) := by
  refine Met.ofW (cc := cX4_order) (maxL := 5) (ret := some .int) (by decide) rfl ?_
  intro p e s m args below meth c s₁ B hml hv
  obtain ⟨rfl, hPic, hK⟩ := hv
  have hx := B.exec
  have hb := B.bytes
  have hr := B.returns
  have hts := atoms_spec (ws := wsX4_order) B.pre
  have hown : s.vm.findClass RX4 = some m.cls := findClass_of_methodNamed B.named
  have hlocks := B.notSynchronized
  have hm0 := hPic.1
  have hm9 : va_at D vwCl (am 9, .inl (g 0, 8, .inl (fun j => jI (AA 9 j)))) s.heap := hPic.2 9 (by omega) (by omega)
  obtain ⟨e1_d, e2_d, e3_d, e6_d, e7_d, e9_d, e10_d⟩ := hR.2.2 d hd
  have f_d := hz.2.2.1 d (by have := hz.1; omega)
  have hN := hz.1
  obtain ⟨e1_u, e2_u, e3_u, e6_u, e7_u, e9_u, e10_u⟩ := hR.2.2 u hu
  have f_u := hz.2.2.1 u (by have := hz.1; omega)
  have hN := hz.1
  have hdv := hR.1
  have hN := hz.1
  have hl := lv_entry ([.ref (am 0), .int (jI ((d : Int))), .int (jI ((u : Int))), .int (jI (mg))]) (n := 5) (Nat.le_of_ble_eq_true rfl)
  rw [lg_entry_eq]
  generalize (lg_sl ([.ref (am 0), .int (jI ((d : Int))), .int (jI ((u : Int))), .int (jI (mg))]) ++ List.replicate (5 - (lg_sl ([.ref (am 0), .int (jI ((d : Int))), .int (jI ((u : Int))), .int (jI (mg))])).length) Slot.unset).toArray = ls at hl ⊢
  have hl : lv_has ls 5 [(0, .ref (am 0)), (1, .int (jI ((d : Int)))), (2, .int (jI ((u : Int)))), (3, .int (jI (mg)))] := hl
  have hT0 : mTo am s.heap s.heap [] := mTo.rf
  refine lv_aload_n hx hb dX4_order_0 rfl (lv_at hl 0 rfl) ?_
  refine lv_iload_n hx hb dX4_order_1 rfl (lv_at hl 1 rfl) ?_
  refine lv_iload_n hx hb dX4_order_2 rfl (lv_at hl 2 rfl) ?_
  refine lv_iload_n hx hb dX4_order_3 rfl (lv_at hl 3 rfl) ?_
  refine m_call (va_runV (As := [.int (jI ((d : Int))), .int (jI ((u : Int))), .int (jI (mg))]) (rest := []) ⟨hx, hb, hml, hown, hts⟩ (k_lookOrder l D g am cd dv vo ab be AA z hz hR d u mg hd hu hdu hmg hj) (cwV 3 hts (gd_V kw_519 kw_521 kw_6 kw_16 kcX4_lookOrder) rfl rfl rfl (by decide +kernel) ⟨Nat.le_of_ble_eq_true rfl, Nat.le_of_ble_eq_true rfl⟩) (pu_preV hPic hK rfl hm0) rfl rfl hl.1 rfl (lv_room (Nat.le_of_ble_eq_true rfl)) dX4_order_4 ⟨Nat.zero_le _, Nat.zero_le _⟩) hT0 (fun H locs cd9 dv9 vo9 AA9 ab9 be9 hPh hPic hT0 => ?_)
  refine W.eq (g2 := F0 m 7 ls []) rfl ?_
  obtain ⟨q1, q2, q3, q4⟩ := hPh
  rw [q1, q2, q3, q4] at hPic
  have hm0 := hPic.1
  have hm9 : va_at D vwCl (am 9, .inl (g 0, 8, .inl (fun j => jI (AA 9 j)))) H := hPic.2 9 (by omega) (by omega)
  refine jv_iconst hx hb dX4_order_7 ?_
  refine lv_istore (lv' := [(4, .int (jI (1))), (0, .ref (am 0)), (1, .int (jI ((d : Int)))), (2, .int (jI ((u : Int)))), (3, .int (jI (mg)))]) hx hb dX4_order_8 hl (by decide) rfl (fun ls hl => ?_)
  refine jw_loop3 (X := Int × Int × Int) (fun x => (5001 - x.1).toNat) (fun x H L ls => (1 ≤ x.1 ∧ x.1 ≤ 5001 ∧ dF (cBrk (bCh z d) (bCh z u) mg) 5000 1 = dF (cBrk (bCh z d) (bCh z u) mg) (5001 - x.1).toNat x.1 ∧ mW D g am 0 dv vo x.2.1 x.2.2 AA H ∧ mTo am s.heap H L) ∧ lv_has ls 5 [(0, .ref (am 0)), (1, .int (jI ((d : Int)))), (2, .int (jI ((u : Int)))), (3, .int (jI (mg))), (4, .int (jI (x.1)))]) ?_ (1, ab9, be9) H locs ls ⟨⟨by dsimp only; omega, by dsimp only; omega, by dsimp only; first | rfl | (rw [Int.zero_add]; rfl), hPic, hT0⟩, lv_sub hl [1, 2, 3, 4, 0] rfl⟩
  clear hl hPic hT0
  intro x H L ls hinv ih
  obtain ⟨i, a1, b1⟩ := x
  obtain ⟨⟨hi1, hi2, he, hPic, hT0⟩, hl⟩ := hinv
  dsimp only at hi1 hi2 he hPic
  have hl : lv_has ls 5 [(0, .ref (am 0)), (1, .int (jI ((d : Int)))), (2, .int (jI ((u : Int)))), (3, .int (jI (mg))), (4, .int (jI (i)))] := hl
  have hm0 := hPic.1
  have hm9 : va_at D vwCl (am 9, .inl (g 0, 8, .inl (fun j => jI (AA 9 j)))) H := hPic.2 9 (by omega) (by omega)
  refine lv_iload hx hb dX4_order_10 (lv_at hl 4 rfl) ?_
  refine jv_sipush hx hb dX4_order_12 (by decide) ?_
  refine jv_icmp_gt (tgt := 58) hx hb dX4_order_15 (by decide) (by omega) (by omega) (fun c15 => ?_) (fun c15 => ?_)
  · refine jv_iconst hx hb dX4_order_58 ?_
    exact m_iret hx hb hr hlocks dX4_order_59 ⟨rfl, hR⟩ hPic hT0 (by rw [he, show (5001 - i).toNat = 0 by omega]; rfl)
  · refine lv_aload_n hx hb dX4_order_18 rfl (lv_at hl 0 rfl) ?_
    refine va_get (D := D) (ci := 4) (v := .int (jI (0))) (C := RX4) (T := TX4) (N := 17) hx hb hts (fun w h => List.mem_cons_of_mem _ (uw_X4 w h)) hown hK (j_P1 hm0) 0 rfl rfl 0 (by decide) (hts _ (List.mem_cons_of_mem _ kw_418)) (fun _ h9 => h9) rfl dX4_order_19 ?_
    refine jv_if_ne (tgt := 58) hx hb dX4_order_22 (by decide) (by omega) (fun c22 => ?_) (fun c22 => ?_)
    · exact absurd c22 (by decide)
    · refine lv_aload_n hx hb dX4_order_25 rfl (lv_at hl 0 rfl) ?_
      refine lv_iload_n hx hb dX4_order_26 rfl (lv_at hl 1 rfl) ?_
      refine lv_aload_n hx hb dX4_order_27 rfl (lv_at hl 0 rfl) ?_
      refine va_get (D := D) (ci := 4) (v := .ref (am 9)) (C := RX4) (T := TX4) (N := 17) hx hb hts (fun w h => List.mem_cons_of_mem _ (uw_X4 w h)) hown hK (j_P1 hm0) 0 rfl rfl 10 (by decide) (hts _ (List.mem_cons_of_mem _ kw_428)) (fun _ h9 => h9) rfl dX4_order_28 ?_
      refine lv_iload_n hx hb dX4_order_31 rfl (lv_at hl 1 rfl) ?_
      refine jv_iald (i := d) hx hb hK hm9 0 rfl (by omega) (by omega) (by decide) dX4_order_32 ?_
      rw [e9_d]
      refine lv_iload_n hx hb dX4_order_33 rfl (lv_at hl 2 rfl) ?_
      refine lv_aload_n hx hb dX4_order_34 rfl (lv_at hl 0 rfl) ?_
      refine va_get (D := D) (ci := 4) (v := .ref (am 9)) (C := RX4) (T := TX4) (N := 17) hx hb hts (fun w h => List.mem_cons_of_mem _ (uw_X4 w h)) hown hK (j_P1 hm0) 0 rfl rfl 10 (by decide) (hts _ (List.mem_cons_of_mem _ kw_428)) (fun _ h9 => h9) rfl dX4_order_35 ?_
      refine lv_iload_n hx hb dX4_order_38 rfl (lv_at hl 2 rfl) ?_
      refine jv_iald (i := u) hx hb hK hm9 0 rfl (by omega) (by omega) (by decide) dX4_order_39 ?_
      rw [e9_u]
      refine lv_iload_n hx hb dX4_order_40 rfl (lv_at hl 3 rfl) ?_
      refine lv_iload hx hb dX4_order_41 (lv_at hl 4 rfl) ?_
      refine m_call (va_runV (As := [.int (jI ((d : Int))), .int (jI ((bC z d : Int))), .int (jI ((u : Int))), .int (jI ((bC z u : Int))), .int (jI (mg)), .int (jI (i))]) (rest := []) ⟨hx, hb, hml, hown, hts⟩ (k_isGood l D g am 0 dv vo a1 b1 AA z hz hR d (bC z d) u (bC z u) mg i hd f_d.2.2.1 hu f_u.2.2.1 hmg (by omega) hj) (cwV 6 hts (gd_V kw_523 kw_525 kw_7 kw_16 kcX4_isGood) rfl rfl rfl (by decide +kernel) ⟨Nat.le_of_ble_eq_true rfl, Nat.le_of_ble_eq_true rfl⟩) (pu_preV hPic hK rfl hm0) rfl rfl hl.1 rfl (lv_room (Nat.le_of_ble_eq_true rfl)) dX4_order_43 ⟨Nat.zero_le _, Nat.zero_le _⟩) hT0 (fun H locs cd9 dv9 vo9 AA9 ab9 be9 hPh hPic hT0 => ?_)
      refine W.eq (g2 := F0 m 46 ls [.int (jI (bI (cWithin (bCh z d) true mg (bCh z u) false i)))]) rfl ?_
      obtain ⟨q1, q2, q3, q4⟩ := hPh
      rw [q1, q2, q3, q4] at hPic
      have hm0 := hPic.1
      have hm9 : va_at D vwCl (am 9, .inl (g 0, 8, .inl (fun j => jI (AA 9 j)))) H := hPic.2 9 (by omega) (by omega)
      refine jv_if_ne (tgt := 52) hx hb dX4_order_46 (by decide) (bI_rng _) (fun c46 => ?_) (fun c46 => ?_)
      · refine lv_iinc (v := jI (i + 1)) (lv' := [(4, .int (jI (i + 1))), (0, .ref (am 0)), (1, .int (jI ((d : Int)))), (2, .int (jI ((u : Int)))), (3, .int (jI (mg)))]) hx hb dX4_order_52 hl (k := 4) rfl (jI_add _ _) (by decide) rfl (fun ls hl => ?_)
        refine lv_goto (tgt := 10) hx hb dX4_order_55 (by decide) ?_
        exact ih (i + 1, ab9, be9) H _ ls ⟨⟨by dsimp only; omega, by dsimp only; omega, by dsimp only; rw [he, show (5001 - i).toNat = (5001 - (i + 1)).toNat + 1 by omega]; simp only [dF]; rw [if_neg (by rw [cBrk, bI_tr c46]; decide)], hPic, hT0⟩, lv_sub hl [1, 2, 3, 4, 0] rfl⟩ (by dsimp only; omega)
      · refine lv_iload hx hb dX4_order_49 (lv_at hl 4 rfl) ?_
        exact m_iret hx hb hr hlocks dX4_order_51 ⟨rfl, hR⟩ hPic hT0 (by rw [he, show (5001 - i).toNat = (5001 - (i + 1)).toNat + 1 by omega]; simp only [dF]; rw [if_pos (by rw [cBrk, bI_fa c46]; rfl)])
set_option maxHeartbeats 4000000 in
set_option maxRecDepth 100000 in
theorem k_broken (l : Launch) (D : va_G) (g : Nat → ClassId) (am : Nat → Nat) (cd dv vo ab be : Int) (AA : Nat → Nat → Int) (z : bSt) (hz : bOK z) (hR : mR z dv vo AA) (d u : Nat) (mg : Int) (hd : d < bN z) (hu : u < bN z) (hdu : d ≠ u) (hmg : 0 ≤ mg ∧ mg ≤ 10000) (hj : mInj am) : Met l yX4_broken wsX4_broken ({ frames := 3, cells := 0, slots := 0, locals := 66 }) (pu_Pc [.ref (am 0), .int (jI ((d : Int))), .int (jI ((u : Int))), .int (jI (mg))] D vwCl (ty9 g) (fun H => mW D g am cd dv vo ab be AA H)) (mQ D g am (some (.int (jI (dC (cBrk (bCh z d) (bCh z u) mg) 5000 1)))) (fun c n v A _ _ => c = 0 ∧ mR z n v A)) 0 0 (mFr am) := by
  refine Met.ofW (cc := cX4_broken) (maxL := 6) (ret := some .int) (by decide) rfl ?_
  intro p e s m args below meth c s₁ B hml hv
  obtain ⟨rfl, hPic, hK⟩ := hv
  have hx := B.exec
  have hb := B.bytes
  have hr := B.returns
  have hts := atoms_spec (ws := wsX4_broken) B.pre
  have hown : s.vm.findClass RX4 = some m.cls := findClass_of_methodNamed B.named
  have hlocks := B.notSynchronized
  have hm0 := hPic.1
  have hm9 : va_at D vwCl (am 9, .inl (g 0, 8, .inl (fun j => jI (AA 9 j)))) s.heap := hPic.2 9 (by omega) (by omega)
  obtain ⟨e1_d, e2_d, e3_d, e6_d, e7_d, e9_d, e10_d⟩ := hR.2.2 d hd
  have f_d := hz.2.2.1 d (by have := hz.1; omega)
  have hN := hz.1
  obtain ⟨e1_u, e2_u, e3_u, e6_u, e7_u, e9_u, e10_u⟩ := hR.2.2 u hu
  have f_u := hz.2.2.1 u (by have := hz.1; omega)
  have hN := hz.1
  have hdv := hR.1
  have hN := hz.1
  have hl := lv_entry ([.ref (am 0), .int (jI ((d : Int))), .int (jI ((u : Int))), .int (jI (mg))]) (n := 6) (Nat.le_of_ble_eq_true rfl)
  rw [lg_entry_eq]
  generalize (lg_sl ([.ref (am 0), .int (jI ((d : Int))), .int (jI ((u : Int))), .int (jI (mg))]) ++ List.replicate (6 - (lg_sl ([.ref (am 0), .int (jI ((d : Int))), .int (jI ((u : Int))), .int (jI (mg))])).length) Slot.unset).toArray = ls at hl ⊢
  have hl : lv_has ls 6 [(0, .ref (am 0)), (1, .int (jI ((d : Int)))), (2, .int (jI ((u : Int)))), (3, .int (jI (mg)))] := hl
  have hT0 : mTo am s.heap s.heap [] := mTo.rf
  refine lv_aload_n hx hb dX4_broken_0 rfl (lv_at hl 0 rfl) ?_
  refine lv_iload_n hx hb dX4_broken_1 rfl (lv_at hl 1 rfl) ?_
  refine lv_iload_n hx hb dX4_broken_2 rfl (lv_at hl 2 rfl) ?_
  refine lv_iload_n hx hb dX4_broken_3 rfl (lv_at hl 3 rfl) ?_
  refine m_call (va_runV (As := [.int (jI ((d : Int))), .int (jI ((u : Int))), .int (jI (mg))]) (rest := []) ⟨hx, hb, hml, hown, hts⟩ (k_lookOrder l D g am cd dv vo ab be AA z hz hR d u mg hd hu hdu hmg hj) (cwV 3 hts (gd_V kw_519 kw_521 kw_6 kw_16 kcX4_lookOrder) rfl rfl rfl (by decide +kernel) ⟨Nat.le_of_ble_eq_true rfl, Nat.le_of_ble_eq_true rfl⟩) (pu_preV hPic hK rfl hm0) rfl rfl hl.1 rfl (lv_room (Nat.le_of_ble_eq_true rfl)) dX4_broken_4 ⟨Nat.zero_le _, Nat.zero_le _⟩) hT0 (fun H locs cd9 dv9 vo9 AA9 ab9 be9 hPh hPic hT0 => ?_)
  refine W.eq (g2 := F0 m 7 ls []) rfl ?_
  obtain ⟨q1, q2, q3, q4⟩ := hPh
  rw [q1, q2, q3, q4] at hPic
  have hm0 := hPic.1
  have hm9 : va_at D vwCl (am 9, .inl (g 0, 8, .inl (fun j => jI (AA 9 j)))) H := hPic.2 9 (by omega) (by omega)
  refine jv_iconst hx hb dX4_broken_7 ?_
  refine lv_istore (lv' := [(4, .int (jI (0))), (0, .ref (am 0)), (1, .int (jI ((d : Int)))), (2, .int (jI ((u : Int)))), (3, .int (jI (mg)))]) hx hb dX4_broken_8 hl (by decide) rfl (fun ls hl => ?_)
  refine jv_iconst hx hb dX4_broken_10 ?_
  refine lv_istore (lv' := [(5, .int (jI (1))), (4, .int (jI (0))), (0, .ref (am 0)), (1, .int (jI ((d : Int)))), (2, .int (jI ((u : Int)))), (3, .int (jI (mg)))]) hx hb dX4_broken_11 hl (by decide) rfl (fun ls hl => ?_)
  refine jw_loop3 (X := Int × Int × Int × Int) (fun x => (5001 - x.1).toNat) (fun x H L ls => (1 ≤ x.1 ∧ x.1 ≤ 5001 ∧ dC (cBrk (bCh z d) (bCh z u) mg) 5000 1 = x.2.2.2 + dC (cBrk (bCh z d) (bCh z u) mg) (5001 - x.1).toNat x.1 ∧ mW D g am 0 dv vo x.2.1 x.2.2.1 AA H ∧ mTo am s.heap H L) ∧ lv_has ls 6 [(0, .ref (am 0)), (1, .int (jI ((d : Int)))), (2, .int (jI ((u : Int)))), (3, .int (jI (mg))), (4, .int (jI (x.2.2.2))), (5, .int (jI (x.1)))]) ?_ (1, ab9, be9, 0) H locs ls ⟨⟨by dsimp only; omega, by dsimp only; omega, by dsimp only; first | rfl | (rw [Int.zero_add]; rfl), hPic, hT0⟩, lv_sub hl [2, 3, 4, 5, 1, 0] rfl⟩
  clear hl hPic hT0
  intro x H L ls hinv ih
  obtain ⟨i, a1, b1, n⟩ := x
  obtain ⟨⟨hi1, hi2, he, hPic, hT0⟩, hl⟩ := hinv
  dsimp only at hi1 hi2 he hPic
  have hl : lv_has ls 6 [(0, .ref (am 0)), (1, .int (jI ((d : Int)))), (2, .int (jI ((u : Int)))), (3, .int (jI (mg))), (4, .int (jI (n))), (5, .int (jI (i)))] := hl
  have hm0 := hPic.1
  have hm9 : va_at D vwCl (am 9, .inl (g 0, 8, .inl (fun j => jI (AA 9 j)))) H := hPic.2 9 (by omega) (by omega)
  refine lv_iload hx hb dX4_broken_13 (lv_at hl 5 rfl) ?_
  refine jv_sipush hx hb dX4_broken_15 (by decide) ?_
  refine jv_icmp_gt (tgt := 68) hx hb dX4_broken_18 (by decide) (by omega) (by omega) (fun c18 => ?_) (fun c18 => ?_)
  · refine lv_iload hx hb dX4_broken_68 (lv_at hl 4 rfl) ?_
    exact m_iret hx hb hr hlocks dX4_broken_70 ⟨rfl, hR⟩ hPic hT0 (by rw [he, show (5001 - i).toNat = 0 by omega]; simp [dC])
  · refine lv_aload_n hx hb dX4_broken_21 rfl (lv_at hl 0 rfl) ?_
    refine va_get (D := D) (ci := 4) (v := .int (jI (0))) (C := RX4) (T := TX4) (N := 17) hx hb hts (fun w h => List.mem_cons_of_mem _ (uw_X4 w h)) hown hK (j_P1 hm0) 0 rfl rfl 0 (by decide) (hts _ (List.mem_cons_of_mem _ kw_418)) (fun _ h9 => h9) rfl dX4_broken_22 ?_
    refine jv_if_ne (tgt := 68) hx hb dX4_broken_25 (by decide) (by omega) (fun c25 => ?_) (fun c25 => ?_)
    · exact absurd c25 (by decide)
    · refine lv_iload hx hb dX4_broken_28 (lv_at hl 4 rfl) ?_
      refine lv_aload_n hx hb dX4_broken_30 rfl (lv_at hl 0 rfl) ?_
      refine lv_iload_n hx hb dX4_broken_31 rfl (lv_at hl 1 rfl) ?_
      refine lv_aload_n hx hb dX4_broken_32 rfl (lv_at hl 0 rfl) ?_
      refine va_get (D := D) (ci := 4) (v := .ref (am 9)) (C := RX4) (T := TX4) (N := 17) hx hb hts (fun w h => List.mem_cons_of_mem _ (uw_X4 w h)) hown hK (j_P1 hm0) 0 rfl rfl 10 (by decide) (hts _ (List.mem_cons_of_mem _ kw_428)) (fun _ h9 => h9) rfl dX4_broken_33 ?_
      refine lv_iload_n hx hb dX4_broken_36 rfl (lv_at hl 1 rfl) ?_
      refine jv_iald (i := d) hx hb hK hm9 0 rfl (by omega) (by omega) (by decide) dX4_broken_37 ?_
      rw [e9_d]
      refine lv_iload_n hx hb dX4_broken_38 rfl (lv_at hl 2 rfl) ?_
      refine lv_aload_n hx hb dX4_broken_39 rfl (lv_at hl 0 rfl) ?_
      refine va_get (D := D) (ci := 4) (v := .ref (am 9)) (C := RX4) (T := TX4) (N := 17) hx hb hts (fun w h => List.mem_cons_of_mem _ (uw_X4 w h)) hown hK (j_P1 hm0) 0 rfl rfl 10 (by decide) (hts _ (List.mem_cons_of_mem _ kw_428)) (fun _ h9 => h9) rfl dX4_broken_40 ?_
      refine lv_iload_n hx hb dX4_broken_43 rfl (lv_at hl 2 rfl) ?_
      refine jv_iald (i := u) hx hb hK hm9 0 rfl (by omega) (by omega) (by decide) dX4_broken_44 ?_
      rw [e9_u]
      refine lv_iload_n hx hb dX4_broken_45 rfl (lv_at hl 3 rfl) ?_
      refine lv_iload hx hb dX4_broken_46 (lv_at hl 5 rfl) ?_
      refine m_call (va_runV (As := [.int (jI ((d : Int))), .int (jI ((bC z d : Int))), .int (jI ((u : Int))), .int (jI ((bC z u : Int))), .int (jI (mg)), .int (jI (i))]) (rest := [.int (jI (n))]) ⟨hx, hb, hml, hown, hts⟩ (k_isGood l D g am 0 dv vo a1 b1 AA z hz hR d (bC z d) u (bC z u) mg i hd f_d.2.2.1 hu f_u.2.2.1 hmg (by omega) hj) (cwV 6 hts (gd_V kw_523 kw_525 kw_7 kw_16 kcX4_isGood) rfl rfl rfl (by decide +kernel) ⟨Nat.le_of_ble_eq_true rfl, Nat.le_of_ble_eq_true rfl⟩) (pu_preV hPic hK rfl hm0) rfl rfl hl.1 rfl (lv_room (Nat.le_of_ble_eq_true rfl)) dX4_broken_48 ⟨Nat.zero_le _, Nat.zero_le _⟩) hT0 (fun H locs cd9 dv9 vo9 AA9 ab9 be9 hPh hPic hT0 => ?_)
      refine W.eq (g2 := F0 m 51 ls [.int (jI (bI (cWithin (bCh z d) true mg (bCh z u) false i))), .int (jI (n))]) rfl ?_
      obtain ⟨q1, q2, q3, q4⟩ := hPh
      rw [q1, q2, q3, q4] at hPic
      have hm0 := hPic.1
      have hm9 : va_at D vwCl (am 9, .inl (g 0, 8, .inl (fun j => jI (AA 9 j)))) H := hPic.2 9 (by omega) (by omega)
      refine jv_if_eq (tgt := 58) hx hb dX4_broken_51 (by decide) (bI_rng _) (fun c51 => ?_) (fun c51 => ?_)
      · refine jv_iconst hx hb dX4_broken_58 ?_
        refine jv_iadd hx hb dX4_broken_59 ?_
        refine lv_istore (lv' := [(4, .int (jI (n + 1))), (0, .ref (am 0)), (1, .int (jI ((d : Int)))), (2, .int (jI ((u : Int)))), (3, .int (jI (mg))), (5, .int (jI (i)))]) hx hb dX4_broken_60 hl (by decide) rfl (fun ls hl => ?_)
        refine lv_iinc (v := jI (i + 1)) (lv' := [(5, .int (jI (i + 1))), (4, .int (jI (n + 1))), (0, .ref (am 0)), (1, .int (jI ((d : Int)))), (2, .int (jI ((u : Int)))), (3, .int (jI (mg)))]) hx hb dX4_broken_62 hl (k := 5) rfl (jI_add _ _) (by decide) rfl (fun ls hl => ?_)
        refine lv_goto (tgt := 13) hx hb dX4_broken_65 (by decide) ?_
        exact ih (i + 1, ab9, be9, n + 1) H _ ls ⟨⟨by dsimp only; omega, by dsimp only; omega, by dsimp only; rw [he, show (5001 - i).toNat = (5001 - (i + 1)).toNat + 1 by omega]; simp only [dC]; rw [if_pos (by rw [cBrk, bI_fa c51]; rfl)]; omega, hPic, hT0⟩, lv_sub hl [2, 3, 4, 5, 1, 0] rfl⟩ (by dsimp only; omega)
      · refine jv_iconst hx hb dX4_broken_54 ?_
        refine lv_goto (tgt := 59) hx hb dX4_broken_55 (by decide) ?_
        refine jv_iadd hx hb dX4_broken_59 ?_
        refine lv_istore (lv' := [(4, .int (jI (n + 0))), (0, .ref (am 0)), (1, .int (jI ((d : Int)))), (2, .int (jI ((u : Int)))), (3, .int (jI (mg))), (5, .int (jI (i)))]) hx hb dX4_broken_60 hl (by decide) rfl (fun ls hl => ?_)
        refine lv_iinc (v := jI (i + 1)) (lv' := [(5, .int (jI (i + 1))), (4, .int (jI (n + 0))), (0, .ref (am 0)), (1, .int (jI ((d : Int)))), (2, .int (jI ((u : Int)))), (3, .int (jI (mg)))]) hx hb dX4_broken_62 hl (k := 5) rfl (jI_add _ _) (by decide) rfl (fun ls hl => ?_)
        refine lv_goto (tgt := 13) hx hb dX4_broken_65 (by decide) ?_
        exact ih (i + 1, ab9, be9, n + 0) H _ ls ⟨⟨by dsimp only; omega, by dsimp only; omega, by dsimp only; rw [he, show (5001 - i).toNat = (5001 - (i + 1)).toNat + 1 by omega]; simp only [dC]; rw [if_neg (by rw [cBrk, bI_tr c51]; decide)]; omega, hPic, hT0⟩, lv_sub hl [2, 3, 4, 5, 1, 0] rfl⟩ (by dsimp only; omega)
