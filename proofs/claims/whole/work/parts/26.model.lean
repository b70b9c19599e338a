set_option maxRecDepth 20000 in
theorem kw_425 : (.fieldLink RX4 25 "BreakerOrdersModel" "options" "[I" : Cond) ∈ gAll := g_mem 425 rfl rfl
set_option maxRecDepth 20000 in
theorem kw_429 : (.fieldLink RX4 37 "BreakerOrdersModel" "impedances" "[I" : Cond) ∈ gAll := g_mem 429 rfl rfl
set_option maxRecDepth 20000 in
theorem kw_430 : (.fieldLink RX4 90 "BreakerOrdersModel" "voltage" "I" : Cond) ∈ gAll := g_mem 430 rfl rfl
set_option maxRecDepth 20000 in
theorem kw_551 : (.constant RX4 89 1000000 : Cond) ∈ gAll := g_mem 551 rfl rfl
set_option maxHeartbeats 4000000 in
set_option maxRecDepth 100000 in
theorem k_choose (l : Launch) (D : va_G) (g : Nat → ClassId) (am : Nat → Nat) (cd dv vo ab be : Int) (AA : Nat → Nat → Int) (z : bSt) (hz : bOK z) (hR : mR z dv vo AA) (d o : Nat) (hd : d < bN z) (ho : o < bO z d) (hj : mInj am) : Met l yX4_choose wsX4_choose ({ frames := 2, cells := 0, slots := 0, locals := 43 }) (pu_Pc [.ref (am 0), .int (jI ((d : Int))), .int (jI ((o : Int)))] D vwCl (ty9 g) (fun H => mW D g am cd dv vo ab be AA H)) (mQ D g am (some (.int (jI (bC z d : Int)))) (fun c n v A _ _ => c = 0 ∧ mR (zC z d o) n v A)) 0 0 (mFr am) := by
  refine Met.ofW (cc := cX4_choose) (maxL := 4) (ret := some .int) (by decide) rfl ?_
  intro p e s m args below meth c s₁ B hml hv
  obtain ⟨rfl, hPic, hK⟩ := hv
  have hx := B.exec
  have hb := B.bytes
  have hr := B.returns
  have hts := atoms_spec (ws := wsX4_choose) B.pre
  have hown : s.vm.findClass RX4 = some m.cls := findClass_of_methodNamed B.named
  have hlocks := B.notSynchronized
  have hm0 := hPic.1
  have hm6 : va_at D vwCl (am 6, .inl (g 0, 8, .inl (fun j => jI (AA 6 j)))) s.heap := hPic.2 6 (by omega) (by omega)
  have hm9 : va_at D vwCl (am 9, .inl (g 0, 8, .inl (fun j => jI (AA 9 j)))) s.heap := hPic.2 9 (by omega) (by omega)
  obtain ⟨e1_d, e2_d, e3_d, e6_d, e7_d, e9_d, e10_d⟩ := hR.2.2 d hd
  have f_d := hz.2.2.1 d (by have := hz.1; omega)
  have hN := hz.1
  have hdv := hR.1
  have hN := hz.1
  have hl := lv_entry ([.ref (am 0), .int (jI ((d : Int))), .int (jI ((o : Int)))]) (n := 4) (Nat.le_of_ble_eq_true rfl)
  rw [lg_entry_eq]
  generalize (lg_sl ([.ref (am 0), .int (jI ((d : Int))), .int (jI ((o : Int)))]) ++ List.replicate (4 - (lg_sl ([.ref (am 0), .int (jI ((d : Int))), .int (jI ((o : Int)))])).length) Slot.unset).toArray = ls at hl ⊢
  have hl : lv_has ls 4 [(0, .ref (am 0)), (1, .int (jI ((d : Int)))), (2, .int (jI ((o : Int))))] := hl
  have hT0 : mTo am s.heap s.heap [] := mTo.rf
  refine lv_aload_n hx hb dX4_choose_0 rfl (lv_at hl 0 rfl) ?_
  refine lv_aload_n hx hb dX4_choose_1 rfl (lv_at hl 0 rfl) ?_
  refine lv_iload_n hx hb dX4_choose_2 rfl (lv_at hl 1 rfl) ?_
  refine pu_call1 (va_runV (As := [.int (jI ((d : Int)))]) (rest := [.ref (am 0)]) ⟨hx, hb, hml, hown, hts⟩ (k_isDevice l D g am cd dv vo ab be AA (d : Int) (by omega) (by omega)) (cwV 1 hts (gd_V kw_478 kw_480 kw_3 kw_16 kcX4_isDevice) rfl rfl rfl (by decide +kernel) ⟨Nat.le_of_ble_eq_true rfl, Nat.le_of_ble_eq_true rfl⟩) (pu_preV hPic hK rfl hm0) rfl rfl hl.1 rfl (lv_room (Nat.le_of_ble_eq_true rfl)) dX4_choose_3 ⟨Nat.zero_le _, Nat.zero_le _⟩) ?_
  refine jv_if_eq (tgt := 29) hx hb dX4_choose_6 (by decide) (bI_rng _) (fun c6 => ?_) (fun c6 => ?_)
  · exact absurd (bI_fa c6) (by rw [decide_eq_true (by omega)]; decide)
  · refine lv_iload_n hx hb dX4_choose_9 rfl (lv_at hl 2 rfl) ?_
    refine jv_iconst hx hb dX4_choose_10 ?_
    refine lv_aload_n hx hb dX4_choose_11 rfl (lv_at hl 0 rfl) ?_
    refine va_get (D := D) (ci := 4) (v := .ref (am 6)) (C := RX4) (T := TX4) (N := 17) hx hb hts (fun w h => List.mem_cons_of_mem _ (uw_X4 w h)) hown hK (j_P1 hm0) 0 rfl rfl 7 (by decide) (hts _ (List.mem_cons_of_mem _ kw_425)) (fun _ h9 => h9) rfl dX4_choose_12 ?_
    refine lv_iload_n hx hb dX4_choose_15 rfl (lv_at hl 1 rfl) ?_
    refine jv_iald (i := d) hx hb hK hm6 0 rfl (by omega) (by omega) (by decide) dX4_choose_16 ?_
    rw [e6_d]
    refine jv_iconst hx hb dX4_choose_17 ?_
    refine jv_isub hx hb dX4_choose_18 ?_
    refine pu_call1 (va_runS (As := [.int (jI ((o : Int))), .int (jI (0)), .int (jI ((bO z d : Int) - 1))]) (rest := [.ref (am 0)]) ⟨hx, hb, hml, hown, hts⟩ (k_in l D g (o : Int) 0 ((bO z d : Int) - 1) (by omega) (by omega) (by omega)) (cwS 3 hts (gd_S kw_482 kw_483 kw_16 kcX4_in) rfl rfl rfl (by decide +kernel) ⟨Nat.le_of_ble_eq_true rfl, Nat.le_of_ble_eq_true rfl⟩) (pu_preS trivial hK) rfl rfl hl.1 rfl (lv_room (Nat.le_of_ble_eq_true rfl)) dX4_choose_19 ⟨Nat.zero_le _, Nat.zero_le _⟩) ?_
    refine jv_if_eq (tgt := 29) hx hb dX4_choose_22 (by decide) (bI_rng _) (fun c22 => ?_) (fun c22 => ?_)
    · exact absurd (bI_fa c22) (by rw [decide_eq_true (by omega)]; decide)
    · refine jv_iconst hx hb dX4_choose_25 ?_
      refine lv_goto (tgt := 30) hx hb dX4_choose_26 (by decide) ?_
      refine jv_put (D := D) (ci := 4) (v := .int (jI (0))) (ty := .int) (C := RX4) (T := TX4) (N := 17) hx hb hts (fun w h => List.mem_cons_of_mem _ (uw_X4 w h)) tyX4 tyX4_ok nmX4 hown hK hm0 rfl 0 (by decide) (hts _ (List.mem_cons_of_mem _ kw_418)) (fun _ h9 => h9) rfl (by decide +kernel) rfl rfl (Nat.le_of_ble_eq_true rfl) dX4_choose_30 (fun H f9 hn9 hz9 oq9 => ?_)
      have hPic : mW D g am 0 dv vo ab be AA H := mW_obj hj hPic oq9 hn9
      have hT0 := hT0.put 0 (by omega) hz9 oq9 (f := f9)
      have hm0 := hPic.1
      have hm6 : va_at D vwCl (am 6, .inl (g 0, 8, .inl (fun j => jI (AA 6 j)))) H := hPic.2 6 (by omega) (by omega)
      have hm9 : va_at D vwCl (am 9, .inl (g 0, 8, .inl (fun j => jI (AA 9 j)))) H := hPic.2 9 (by omega) (by omega)
      refine lv_aload_n hx hb dX4_choose_33 rfl (lv_at hl 0 rfl) ?_
      refine va_get (D := D) (ci := 4) (v := .int (jI (0))) (C := RX4) (T := TX4) (N := 17) hx hb hts (fun w h => List.mem_cons_of_mem _ (uw_X4 w h)) hown hK (j_P1 hm0) 0 rfl rfl 0 (by decide) (hts _ (List.mem_cons_of_mem _ kw_418)) (fun _ h9 => h9) rfl dX4_choose_34 ?_
      refine jv_if_le (tgt := 42) hx hb dX4_choose_37 (by decide) (by omega) (fun c37 => ?_) (fun c37 => ?_)
      · refine lv_aload_n hx hb dX4_choose_42 rfl (lv_at hl 0 rfl) ?_
        refine va_get (D := D) (ci := 4) (v := .ref (am 9)) (C := RX4) (T := TX4) (N := 17) hx hb hts (fun w h => List.mem_cons_of_mem _ (uw_X4 w h)) hown hK (j_P1 hm0) 0 rfl rfl 10 (by decide) (hts _ (List.mem_cons_of_mem _ kw_428)) (fun _ h9 => h9) rfl dX4_choose_43 ?_
        refine lv_iload_n hx hb dX4_choose_46 rfl (lv_at hl 1 rfl) ?_
        refine jv_iald (i := d) hx hb hK hm9 0 rfl (by omega) (by omega) (by decide) dX4_choose_47 ?_
        rw [e9_d]
        refine lv_istore_n (lv' := [(3, .int (jI ((bC z d : Int)))), (0, .ref (am 0)), (1, .int (jI ((d : Int)))), (2, .int (jI ((o : Int))))]) hx hb dX4_choose_48 rfl hl (by decide) rfl (fun ls hl => ?_)
        refine lv_aload_n hx hb dX4_choose_49 rfl (lv_at hl 1 rfl) ?_
        refine va_get (D := D) (ci := 4) (v := .ref (am 9)) (C := RX4) (T := TX4) (N := 17) hx hb hts (fun w h => List.mem_cons_of_mem _ (uw_X4 w h)) hown hK (j_P1 hm0) 0 rfl rfl 10 (by decide) (hts _ (List.mem_cons_of_mem _ kw_428)) (fun _ h9 => h9) rfl dX4_choose_50 ?_
        refine lv_iload_n hx hb dX4_choose_53 rfl (lv_at hl 2 rfl) ?_
        refine lv_iload_n hx hb dX4_choose_54 rfl (lv_at hl 3 rfl) ?_
        refine jv_iast (i := d) hx hb hK hm9 0 rfl (by omega) (by omega) (by decide) dX4_choose_55 (fun H f9 hn9 hz9 oq9 => ?_)
        have hPic := mW_arr hj hPic 9 (by omega) (by omega) oq9 hn9
        have hT0 := hT0.put 9 (by omega) hz9 oq9 (f := f9)
        have hm0 := hPic.1
        have hm9 : va_at D vwCl (am 9, .inl (g 0, 8, .inl (fun j => jI ((jUp AA 9 (jUp (AA 9) d ((o : Int)))) 9 j)))) H := hPic.2 9 (by omega) (by omega)
        refine lv_iload_n hx hb dX4_choose_56 rfl (lv_at hl 0 rfl) ?_
        exact m_iret hx hb hr hlocks dX4_choose_57 ⟨rfl, mR_C hR⟩ hPic hT0 (by rfl)
      · exact absurd c37 (by omega)
set_option maxHeartbeats 4000000 in
set_option maxRecDepth 100000 in
theorem k_chosen (l : Launch) (D : va_G) (g : Nat → ClassId) (am : Nat → Nat) (cd dv vo ab be : Int) (AA : Nat → Nat → Int) (z : bSt) (hz : bOK z) (hR : mR z dv vo AA) (d : Nat) (hd : d < bN z) (hj : mInj am) : Met l yX4_chosen wsX4_chosen ({ frames := 2, cells := 0, slots := 0, locals := 43 }) (pu_Pc [.ref (am 0), .int (jI ((d : Int)))] D vwCl (ty9 g) (fun H => mW D g am cd dv vo ab be AA H)) (mQ D g am (some (.int (jI (bC z d : Int)))) (fun c n v A _ _ => c = 0 ∧ mR z n v A)) 0 0 (mFr am) := by
  refine Met.ofW (cc := cX4_chosen) (maxL := 2) (ret := some .int) (by decide) rfl ?_
  intro p e s m args below meth c s₁ B hml hv
  obtain ⟨rfl, hPic, hK⟩ := hv
  have hx := B.exec
  have hb := B.bytes
  have hr := B.returns
  have hts := atoms_spec (ws := wsX4_chosen) B.pre
  have hown : s.vm.findClass RX4 = some m.cls := findClass_of_methodNamed B.named
  have hlocks := B.notSynchronized
  have hm0 := hPic.1
  have hm9 : va_at D vwCl (am 9, .inl (g 0, 8, .inl (fun j => jI (AA 9 j)))) s.heap := hPic.2 9 (by omega) (by omega)
  obtain ⟨e1_d, e2_d, e3_d, e6_d, e7_d, e9_d, e10_d⟩ := hR.2.2 d hd
  have f_d := hz.2.2.1 d (by have := hz.1; omega)
  have hN := hz.1
  have hdv := hR.1
  have hN := hz.1
  have hl := lv_entry ([.ref (am 0), .int (jI ((d : Int)))]) (n := 2) (Nat.le_of_ble_eq_true rfl)
  rw [lg_entry_eq]
  generalize (lg_sl ([.ref (am 0), .int (jI ((d : Int)))]) ++ List.replicate (2 - (lg_sl ([.ref (am 0), .int (jI ((d : Int)))])).length) Slot.unset).toArray = ls at hl ⊢
  have hl : lv_has ls 2 [(0, .ref (am 0)), (1, .int (jI ((d : Int))))] := hl
  have hT0 : mTo am s.heap s.heap [] := mTo.rf
  refine lv_aload_n hx hb dX4_chosen_0 rfl (lv_at hl 0 rfl) ?_
  refine lv_aload_n hx hb dX4_chosen_1 rfl (lv_at hl 0 rfl) ?_
  refine lv_iload_n hx hb dX4_chosen_2 rfl (lv_at hl 1 rfl) ?_
  refine pu_call1 (va_runV (As := [.int (jI ((d : Int)))]) (rest := [.ref (am 0)]) ⟨hx, hb, hml, hown, hts⟩ (k_isDevice l D g am cd dv vo ab be AA (d : Int) (by omega) (by omega)) (cwV 1 hts (gd_V kw_478 kw_480 kw_3 kw_16 kcX4_isDevice) rfl rfl rfl (by decide +kernel) ⟨Nat.le_of_ble_eq_true rfl, Nat.le_of_ble_eq_true rfl⟩) (pu_preV hPic hK rfl hm0) rfl rfl hl.1 rfl (lv_room (Nat.le_of_ble_eq_true rfl)) dX4_chosen_3 ⟨Nat.zero_le _, Nat.zero_le _⟩) ?_
  refine jv_if_eq (tgt := 13) hx hb dX4_chosen_6 (by decide) (bI_rng _) (fun c6 => ?_) (fun c6 => ?_)
  · exact absurd (bI_fa c6) (by rw [decide_eq_true (by omega)]; decide)
  · refine jv_iconst hx hb dX4_chosen_9 ?_
    refine lv_goto (tgt := 14) hx hb dX4_chosen_10 (by decide) ?_
    refine jv_put (D := D) (ci := 4) (v := .int (jI (0))) (ty := .int) (C := RX4) (T := TX4) (N := 17) hx hb hts (fun w h => List.mem_cons_of_mem _ (uw_X4 w h)) tyX4 tyX4_ok nmX4 hown hK hm0 rfl 0 (by decide) (hts _ (List.mem_cons_of_mem _ kw_418)) (fun _ h9 => h9) rfl (by decide +kernel) rfl rfl (Nat.le_of_ble_eq_true rfl) dX4_chosen_14 (fun H f9 hn9 hz9 oq9 => ?_)
    have hPic : mW D g am 0 dv vo ab be AA H := mW_obj hj hPic oq9 hn9
    have hT0 := hT0.put 0 (by omega) hz9 oq9 (f := f9)
    have hm0 := hPic.1
    have hm9 : va_at D vwCl (am 9, .inl (g 0, 8, .inl (fun j => jI (AA 9 j)))) H := hPic.2 9 (by omega) (by omega)
    refine lv_aload_n hx hb dX4_chosen_17 rfl (lv_at hl 0 rfl) ?_
    refine va_get (D := D) (ci := 4) (v := .int (jI (0))) (C := RX4) (T := TX4) (N := 17) hx hb hts (fun w h => List.mem_cons_of_mem _ (uw_X4 w h)) hown hK (j_P1 hm0) 0 rfl rfl 0 (by decide) (hts _ (List.mem_cons_of_mem _ kw_418)) (fun _ h9 => h9) rfl dX4_chosen_18 ?_
    refine jv_if_le (tgt := 28) hx hb dX4_chosen_21 (by decide) (by omega) (fun c21 => ?_) (fun c21 => ?_)
    · refine lv_aload_n hx hb dX4_chosen_28 rfl (lv_at hl 0 rfl) ?_
      refine va_get (D := D) (ci := 4) (v := .ref (am 9)) (C := RX4) (T := TX4) (N := 17) hx hb hts (fun w h => List.mem_cons_of_mem _ (uw_X4 w h)) hown hK (j_P1 hm0) 0 rfl rfl 10 (by decide) (hts _ (List.mem_cons_of_mem _ kw_428)) (fun _ h9 => h9) rfl dX4_chosen_29 ?_
      refine lv_iload_n hx hb dX4_chosen_32 rfl (lv_at hl 1 rfl) ?_
      refine jv_iald (i := d) hx hb hK hm9 0 rfl (by omega) (by omega) (by decide) dX4_chosen_33 ?_
      rw [e9_d]
      exact m_iret hx hb hr hlocks dX4_chosen_34 ⟨rfl, hR⟩ hPic hT0 (by rfl)
    · exact absurd c21 (by omega)
set_option maxHeartbeats 4000000 in
set_option maxRecDepth 100000 in
theorem k_impedance (l : Launch) (D : va_G) (g : Nat → ClassId) (am : Nat → Nat) (cd dv vo ab be : Int) (AA : Nat → Nat → Int) (z : bSt) (hz : bOK z) (hR : mR z dv vo AA) (d : Nat) (v : Int) (hd : d < bN z) (hv : 1 ≤ v ∧ v ≤ 10000) (hj : mInj am) : Met l yX4_impedance wsX4_impedance ({ frames := 2, cells := 0, slots := 0, locals := 43 }) (pu_Pc [.ref (am 0), .int (jI ((d : Int))), .int (jI (v))] D vwCl (ty9 g) (fun H => mW D g am cd dv vo ab be AA H)) (mQ D g am (some (.int (jI (bZ z d)))) (fun c n v9 A _ _ => c = 0 ∧ mR (zZ z d v) n v9 A)) 0 0 (mFr am) := by
  refine Met.ofW (cc := cX4_impedance) (maxL := 4) (ret := some .int) (by decide) rfl ?_
  intro p e s m args below meth c s₁ B hml hv
  obtain ⟨rfl, hPic, hK⟩ := hv
  have hx := B.exec
  have hb := B.bytes
  have hr := B.returns
  have hts := atoms_spec (ws := wsX4_impedance) B.pre
  have hown : s.vm.findClass RX4 = some m.cls := findClass_of_methodNamed B.named
  have hlocks := B.notSynchronized
  have hm0 := hPic.1
  have hm10 : va_at D vwCl (am 10, .inl (g 0, 8, .inl (fun j => jI (AA 10 j)))) s.heap := hPic.2 10 (by omega) (by omega)
  obtain ⟨e1_d, e2_d, e3_d, e6_d, e7_d, e9_d, e10_d⟩ := hR.2.2 d hd
  have f_d := hz.2.2.1 d (by have := hz.1; omega)
  have hN := hz.1
  have hdv := hR.1
  have hN := hz.1
  have hl := lv_entry ([.ref (am 0), .int (jI ((d : Int))), .int (jI (v))]) (n := 4) (Nat.le_of_ble_eq_true rfl)
  rw [lg_entry_eq]
  generalize (lg_sl ([.ref (am 0), .int (jI ((d : Int))), .int (jI (v))]) ++ List.replicate (4 - (lg_sl ([.ref (am 0), .int (jI ((d : Int))), .int (jI (v))])).length) Slot.unset).toArray = ls at hl ⊢
  have hl : lv_has ls 4 [(0, .ref (am 0)), (1, .int (jI ((d : Int)))), (2, .int (jI (v)))] := hl
  have hT0 : mTo am s.heap s.heap [] := mTo.rf
  refine lv_aload_n hx hb dX4_impedance_0 rfl (lv_at hl 0 rfl) ?_
  refine lv_aload_n hx hb dX4_impedance_1 rfl (lv_at hl 0 rfl) ?_
  refine lv_iload_n hx hb dX4_impedance_2 rfl (lv_at hl 1 rfl) ?_
  refine pu_call1 (va_runV (As := [.int (jI ((d : Int)))]) (rest := [.ref (am 0)]) ⟨hx, hb, hml, hown, hts⟩ (k_isDevice l D g am cd dv vo ab be AA (d : Int) (by omega) (by omega)) (cwV 1 hts (gd_V kw_478 kw_480 kw_3 kw_16 kcX4_isDevice) rfl rfl rfl (by decide +kernel) ⟨Nat.le_of_ble_eq_true rfl, Nat.le_of_ble_eq_true rfl⟩) (pu_preV hPic hK rfl hm0) rfl rfl hl.1 rfl (lv_room (Nat.le_of_ble_eq_true rfl)) dX4_impedance_3 ⟨Nat.zero_le _, Nat.zero_le _⟩) ?_
  refine jv_if_eq (tgt := 24) hx hb dX4_impedance_6 (by decide) (bI_rng _) (fun c6 => ?_) (fun c6 => ?_)
  · exact absurd (bI_fa c6) (by rw [decide_eq_true (by omega)]; decide)
  · refine lv_iload_n hx hb dX4_impedance_9 rfl (lv_at hl 2 rfl) ?_
    refine jv_iconst hx hb dX4_impedance_10 ?_
    refine jv_sipush hx hb dX4_impedance_11 (by decide) ?_
    refine pu_call1 (va_runS (As := [.int (jI (v)), .int (jI (1)), .int (jI (10000))]) (rest := [.ref (am 0)]) ⟨hx, hb, hml, hown, hts⟩ (k_in l D g v 1 10000 (by omega) (by omega) (by omega)) (cwS 3 hts (gd_S kw_482 kw_483 kw_16 kcX4_in) rfl rfl rfl (by decide +kernel) ⟨Nat.le_of_ble_eq_true rfl, Nat.le_of_ble_eq_true rfl⟩) (pu_preS trivial hK) rfl rfl hl.1 rfl (lv_room (Nat.le_of_ble_eq_true rfl)) dX4_impedance_14 ⟨Nat.zero_le _, Nat.zero_le _⟩) ?_
    refine jv_if_eq (tgt := 24) hx hb dX4_impedance_17 (by decide) (bI_rng _) (fun c17 => ?_) (fun c17 => ?_)
    · exact absurd (bI_fa c17) (by rw [decide_eq_true (by omega)]; decide)
    · refine jv_iconst hx hb dX4_impedance_20 ?_
      refine lv_goto (tgt := 25) hx hb dX4_impedance_21 (by decide) ?_
      refine jv_put (D := D) (ci := 4) (v := .int (jI (0))) (ty := .int) (C := RX4) (T := TX4) (N := 17) hx hb hts (fun w h => List.mem_cons_of_mem _ (uw_X4 w h)) tyX4 tyX4_ok nmX4 hown hK hm0 rfl 0 (by decide) (hts _ (List.mem_cons_of_mem _ kw_418)) (fun _ h9 => h9) rfl (by decide +kernel) rfl rfl (Nat.le_of_ble_eq_true rfl) dX4_impedance_25 (fun H f9 hn9 hz9 oq9 => ?_)
      have hPic : mW D g am 0 dv vo ab be AA H := mW_obj hj hPic oq9 hn9
      have hT0 := hT0.put 0 (by omega) hz9 oq9 (f := f9)
      have hm0 := hPic.1
      have hm10 : va_at D vwCl (am 10, .inl (g 0, 8, .inl (fun j => jI (AA 10 j)))) H := hPic.2 10 (by omega) (by omega)
      refine lv_aload_n hx hb dX4_impedance_28 rfl (lv_at hl 0 rfl) ?_
      refine va_get (D := D) (ci := 4) (v := .int (jI (0))) (C := RX4) (T := TX4) (N := 17) hx hb hts (fun w h => List.mem_cons_of_mem _ (uw_X4 w h)) hown hK (j_P1 hm0) 0 rfl rfl 0 (by decide) (hts _ (List.mem_cons_of_mem _ kw_418)) (fun _ h9 => h9) rfl dX4_impedance_29 ?_
      refine jv_if_le (tgt := 37) hx hb dX4_impedance_32 (by decide) (by omega) (fun c32 => ?_) (fun c32 => ?_)
      · refine lv_aload_n hx hb dX4_impedance_37 rfl (lv_at hl 0 rfl) ?_
        refine va_get (D := D) (ci := 4) (v := .ref (am 10)) (C := RX4) (T := TX4) (N := 17) hx hb hts (fun w h => List.mem_cons_of_mem _ (uw_X4 w h)) hown hK (j_P1 hm0) 0 rfl rfl 11 (by decide) (hts _ (List.mem_cons_of_mem _ kw_429)) (fun _ h9 => h9) rfl dX4_impedance_38 ?_
        refine lv_iload_n hx hb dX4_impedance_41 rfl (lv_at hl 1 rfl) ?_
        refine jv_iald (i := d) hx hb hK hm10 0 rfl (by omega) (by omega) (by decide) dX4_impedance_42 ?_
        rw [e10_d]
        refine lv_istore_n (lv' := [(3, .int (jI (bZ z d))), (0, .ref (am 0)), (1, .int (jI ((d : Int)))), (2, .int (jI (v)))]) hx hb dX4_impedance_43 rfl hl (by decide) rfl (fun ls hl => ?_)
        refine lv_aload_n hx hb dX4_impedance_44 rfl (lv_at hl 1 rfl) ?_
        refine va_get (D := D) (ci := 4) (v := .ref (am 10)) (C := RX4) (T := TX4) (N := 17) hx hb hts (fun w h => List.mem_cons_of_mem _ (uw_X4 w h)) hown hK (j_P1 hm0) 0 rfl rfl 11 (by decide) (hts _ (List.mem_cons_of_mem _ kw_429)) (fun _ h9 => h9) rfl dX4_impedance_45 ?_
        refine lv_iload_n hx hb dX4_impedance_48 rfl (lv_at hl 2 rfl) ?_
        refine lv_iload_n hx hb dX4_impedance_49 rfl (lv_at hl 3 rfl) ?_
        refine jv_iast (i := d) hx hb hK hm10 0 rfl (by omega) (by omega) (by decide) dX4_impedance_50 (fun H f9 hn9 hz9 oq9 => ?_)
        have hPic := mW_arr hj hPic 10 (by omega) (by omega) oq9 hn9
        have hT0 := hT0.put 10 (by omega) hz9 oq9 (f := f9)
        have hm0 := hPic.1
        have hm10 : va_at D vwCl (am 10, .inl (g 0, 8, .inl (fun j => jI ((jUp AA 10 (jUp (AA 10) d (v))) 10 j)))) H := hPic.2 10 (by omega) (by omega)
        refine lv_iload_n hx hb dX4_impedance_51 rfl (lv_at hl 0 rfl) ?_
        exact m_iret hx hb hr hlocks dX4_impedance_52 ⟨rfl, mR_Z hR⟩ hPic hT0 (by rfl)
      · exact absurd c32 (by omega)
set_option maxHeartbeats 4000000 in
set_option maxRecDepth 100000 in
theorem k_voltage (l : Launch) (D : va_G) (g : Nat → ClassId) (am : Nat → Nat) (cd dv vo ab be : Int) (AA : Nat → Nat → Int) (z : bSt) (hz : bOK z) (hR : mR z dv vo AA) (v : Int) (hv : 0 ≤ v ∧ v ≤ 1000000) (hj : mInj am) : Met l yX4_voltage wsX4_voltage ({ frames := 1, cells := 0, slots := 0, locals := 22 }) (pu_Pc [.ref (am 0), .int (jI (v))] D vwCl (ty9 g) (fun H => mW D g am cd dv vo ab be AA H)) (mQ D g am (some (.int (jI (bV z)))) (fun c n v9 A _ _ => c = 0 ∧ mR (zV z v) n v9 A)) 0 0 (mFr am) := by
  refine Met.ofW (cc := cX4_voltage) (maxL := 3) (ret := some .int) (by decide) rfl ?_
  intro p e s m args below meth c s₁ B hml hv
  obtain ⟨rfl, hPic, hK⟩ := hv
  have hx := B.exec
  have hb := B.bytes
  have hr := B.returns
  have hts := atoms_spec (ws := wsX4_voltage) B.pre
  have hown : s.vm.findClass RX4 = some m.cls := findClass_of_methodNamed B.named
  have hlocks := B.notSynchronized
  have hm0 := hPic.1
  have hm10 : va_at D vwCl (am 10, .inl (g 0, 8, .inl (fun j => jI (AA 10 j)))) s.heap := hPic.2 10 (by omega) (by omega)
  have hdv := hR.1
  have hN := hz.1
  have hl := lv_entry ([.ref (am 0), .int (jI (v))]) (n := 3) (Nat.le_of_ble_eq_true rfl)
  rw [lg_entry_eq]
  generalize (lg_sl ([.ref (am 0), .int (jI (v))]) ++ List.replicate (3 - (lg_sl ([.ref (am 0), .int (jI (v))])).length) Slot.unset).toArray = ls at hl ⊢
  have hl : lv_has ls 3 [(0, .ref (am 0)), (1, .int (jI (v)))] := hl
  have hT0 : mTo am s.heap s.heap [] := mTo.rf
  refine lv_aload_n hx hb dX4_voltage_0 rfl (lv_at hl 0 rfl) ?_
  refine lv_iload_n hx hb dX4_voltage_1 rfl (lv_at hl 1 rfl) ?_
  refine jv_iconst hx hb dX4_voltage_2 ?_
  refine jv_ldc (k := 1000000) hx hb hown (hts _ (List.mem_cons_of_mem _ kw_551)) (by decide) dX4_voltage_3 ?_
  refine pu_call1 (va_runS (As := [.int (jI (v)), .int (jI (0)), .int (jI (1000000))]) (rest := [.ref (am 0)]) ⟨hx, hb, hml, hown, hts⟩ (k_in l D g v 0 1000000 (by omega) (by omega) (by omega)) (cwS 3 hts (gd_S kw_482 kw_483 kw_16 kcX4_in) rfl rfl rfl (by decide +kernel) ⟨Nat.le_of_ble_eq_true rfl, Nat.le_of_ble_eq_true rfl⟩) (pu_preS trivial hK) rfl rfl hl.1 rfl (lv_room (Nat.le_of_ble_eq_true rfl)) dX4_voltage_5 ⟨Nat.zero_le _, Nat.zero_le _⟩) ?_
  refine jv_if_eq (tgt := 15) hx hb dX4_voltage_8 (by decide) (bI_rng _) (fun c8 => ?_) (fun c8 => ?_)
  · exact absurd (bI_fa c8) (by rw [decide_eq_true (by omega)]; decide)
  · refine jv_iconst hx hb dX4_voltage_11 ?_
    refine lv_goto (tgt := 16) hx hb dX4_voltage_12 (by decide) ?_
    refine jv_put (D := D) (ci := 4) (v := .int (jI (0))) (ty := .int) (C := RX4) (T := TX4) (N := 17) hx hb hts (fun w h => List.mem_cons_of_mem _ (uw_X4 w h)) tyX4 tyX4_ok nmX4 hown hK hm0 rfl 0 (by decide) (hts _ (List.mem_cons_of_mem _ kw_418)) (fun _ h9 => h9) rfl (by decide +kernel) rfl rfl (Nat.le_of_ble_eq_true rfl) dX4_voltage_16 (fun H f9 hn9 hz9 oq9 => ?_)
    have hPic : mW D g am 0 dv vo ab be AA H := mW_obj hj hPic oq9 hn9
    have hT0 := hT0.put 0 (by omega) hz9 oq9 (f := f9)
    have hm0 := hPic.1
    have hm10 : va_at D vwCl (am 10, .inl (g 0, 8, .inl (fun j => jI (AA 10 j)))) H := hPic.2 10 (by omega) (by omega)
    refine lv_aload_n hx hb dX4_voltage_19 rfl (lv_at hl 0 rfl) ?_
    refine va_get (D := D) (ci := 4) (v := .int (jI (0))) (C := RX4) (T := TX4) (N := 17) hx hb hts (fun w h => List.mem_cons_of_mem _ (uw_X4 w h)) hown hK (j_P1 hm0) 0 rfl rfl 0 (by decide) (hts _ (List.mem_cons_of_mem _ kw_418)) (fun _ h9 => h9) rfl dX4_voltage_20 ?_
    refine jv_if_le (tgt := 28) hx hb dX4_voltage_23 (by decide) (by omega) (fun c23 => ?_) (fun c23 => ?_)
    · refine lv_aload_n hx hb dX4_voltage_28 rfl (lv_at hl 0 rfl) ?_
      refine va_get (D := D) (ci := 4) (v := .int (jI (vo))) (C := RX4) (T := TX4) (N := 17) hx hb hts (fun w h => List.mem_cons_of_mem _ (uw_X4 w h)) hown hK (j_P1 hm0) 0 rfl rfl 12 (by decide) (hts _ (List.mem_cons_of_mem _ kw_430)) (fun _ h9 => h9) rfl dX4_voltage_29 ?_
      refine lv_istore_n (lv' := [(2, .int (jI (vo))), (0, .ref (am 0)), (1, .int (jI (v)))]) hx hb dX4_voltage_32 rfl hl (by decide) rfl (fun ls hl => ?_)
      refine lv_aload_n hx hb dX4_voltage_33 rfl (lv_at hl 1 rfl) ?_
      refine lv_iload_n hx hb dX4_voltage_34 rfl (lv_at hl 2 rfl) ?_
      refine jv_put (D := D) (ci := 4) (v := .int (jI (v))) (ty := .int) (C := RX4) (T := TX4) (N := 17) hx hb hts (fun w h => List.mem_cons_of_mem _ (uw_X4 w h)) tyX4 tyX4_ok nmX4 hown hK hm0 rfl 12 (by decide) (hts _ (List.mem_cons_of_mem _ kw_430)) (fun _ h9 => h9) rfl (by decide +kernel) rfl rfl (Nat.le_of_ble_eq_true rfl) dX4_voltage_35 (fun H f9 hn9 hz9 oq9 => ?_)
      have hPic : mW D g am 0 dv v ab be AA H := mW_obj hj hPic oq9 hn9
      have hT0 := hT0.put 0 (by omega) hz9 oq9 (f := f9)
      have hm0 := hPic.1
      have hm10 : va_at D vwCl (am 10, .inl (g 0, 8, .inl (fun j => jI (AA 10 j)))) H := hPic.2 10 (by omega) (by omega)
      refine lv_iload_n hx hb dX4_voltage_38 rfl (lv_at hl 0 rfl) ?_
      exact m_iret hx hb hr hlocks dX4_voltage_39 ⟨rfl, mR_V hR⟩ hPic hT0 (by exact hR.2.1)
    · exact absurd c23 (by omega)
set_option maxHeartbeats 4000000 in
set_option maxRecDepth 100000 in
theorem k_option (l : Launch) (D : va_G) (g : Nat → ClassId) (am : Nat → Nat) (cd dv vo ab be : Int) (AA : Nat → Nat → Int) (z : bSt) (hz : bOK z) (hR : mR z dv vo AA) (d o : Nat) (sc de : Int) (hd : d < bN z) (ho : bO z d = o) (ho4 : o < 4) (hsc : 10 ≤ sc ∧ sc ≤ 1000) (hde : 0 ≤ de ∧ de ≤ 10000) (hj : mInj am) : Met l yX4_option wsX4_option ({ frames := 2, cells := 0, slots := 0, locals := 43 }) (pu_Pc [.ref (am 0), .int (jI ((d : Int))), .int (jI (sc)), .int (jI (de))] D vwCl (ty9 g) (fun H => mW D g am cd dv vo ab be AA H)) (mQ D g am (some (.int (jI (o : Int)))) (fun c n v A _ _ => c = 0 ∧ mR (zO (zD (zS z d o sc) d o de) d (o + 1)) n v A)) 0 0 (mFr am) := by
  refine Met.ofW (cc := cX4_option) (maxL := 4) (ret := some .int) (by decide) rfl ?_
  intro p e s m args below meth c s₁ B hml hv
  obtain ⟨rfl, hPic, hK⟩ := hv
  have hx := B.exec
  have hb := B.bytes
  have hr := B.returns
  have hts := atoms_spec (ws := wsX4_option) B.pre
  have hown : s.vm.findClass RX4 = some m.cls := findClass_of_methodNamed B.named
  have hlocks := B.notSynchronized
  have hm0 := hPic.1
  have hm6 : va_at D vwCl (am 6, .inl (g 0, 8, .inl (fun j => jI (AA 6 j)))) s.heap := hPic.2 6 (by omega) (by omega)
  have hm7 : va_at D vwCl (am 7, .inl (g 0, 32, .inl (fun j => jI (AA 7 j)))) s.heap := hPic.2 7 (by omega) (by omega)
  have hm8 : va_at D vwCl (am 8, .inl (g 0, 32, .inl (fun j => jI (AA 8 j)))) s.heap := hPic.2 8 (by omega) (by omega)
  obtain ⟨e1_d, e2_d, e3_d, e6_d, e7_d, e9_d, e10_d⟩ := hR.2.2 d hd
  have f_d := hz.2.2.1 d (by have := hz.1; omega)
  have hN := hz.1
  have hdv := hR.1
  have hN := hz.1
  rw [ho] at e6_d
  have hl := lv_entry ([.ref (am 0), .int (jI ((d : Int))), .int (jI (sc)), .int (jI (de))]) (n := 4) (Nat.le_of_ble_eq_true rfl)
  rw [lg_entry_eq]
  generalize (lg_sl ([.ref (am 0), .int (jI ((d : Int))), .int (jI (sc)), .int (jI (de))]) ++ List.replicate (4 - (lg_sl ([.ref (am 0), .int (jI ((d : Int))), .int (jI (sc)), .int (jI (de))])).length) Slot.unset).toArray = ls at hl ⊢
  have hl : lv_has ls 4 [(0, .ref (am 0)), (1, .int (jI ((d : Int)))), (2, .int (jI (sc))), (3, .int (jI (de)))] := hl
  have hT0 : mTo am s.heap s.heap [] := mTo.rf
  refine lv_aload_n hx hb dX4_option_0 rfl (lv_at hl 0 rfl) ?_
  refine lv_aload_n hx hb dX4_option_1 rfl (lv_at hl 0 rfl) ?_
  refine lv_iload_n hx hb dX4_option_2 rfl (lv_at hl 1 rfl) ?_
  refine pu_call1 (va_runV (As := [.int (jI ((d : Int)))]) (rest := [.ref (am 0)]) ⟨hx, hb, hml, hown, hts⟩ (k_isDevice l D g am cd dv vo ab be AA (d : Int) (by omega) (by omega)) (cwV 1 hts (gd_V kw_478 kw_480 kw_3 kw_16 kcX4_isDevice) rfl rfl rfl (by decide +kernel) ⟨Nat.le_of_ble_eq_true rfl, Nat.le_of_ble_eq_true rfl⟩) (pu_preV hPic hK rfl hm0) rfl rfl hl.1 rfl (lv_room (Nat.le_of_ble_eq_true rfl)) dX4_option_3 ⟨Nat.zero_le _, Nat.zero_le _⟩) ?_
  refine jv_if_eq (tgt := 32) hx hb dX4_option_6 (by decide) (bI_rng _) (fun c6 => ?_) (fun c6 => ?_)
  · exact absurd (bI_fa c6) (by rw [decide_eq_true (by omega)]; decide)
  · refine lv_iload_n hx hb dX4_option_9 rfl (lv_at hl 2 rfl) ?_
    refine jv_bipush hx hb dX4_option_10 (by decide) ?_
    refine jv_sipush hx hb dX4_option_12 (by decide) ?_
    refine pu_call1 (va_runS (As := [.int (jI (sc)), .int (jI (10)), .int (jI (1000))]) (rest := [.ref (am 0)]) ⟨hx, hb, hml, hown, hts⟩ (k_in l D g sc 10 1000 (by omega) (by omega) (by omega)) (cwS 3 hts (gd_S kw_482 kw_483 kw_16 kcX4_in) rfl rfl rfl (by decide +kernel) ⟨Nat.le_of_ble_eq_true rfl, Nat.le_of_ble_eq_true rfl⟩) (pu_preS trivial hK) rfl rfl hl.1 rfl (lv_room (Nat.le_of_ble_eq_true rfl)) dX4_option_15 ⟨Nat.zero_le _, Nat.zero_le _⟩) ?_
    refine jv_if_eq (tgt := 32) hx hb dX4_option_18 (by decide) (bI_rng _) (fun c18 => ?_) (fun c18 => ?_)
    · exact absurd (bI_fa c18) (by rw [decide_eq_true (by omega)]; decide)
    · refine lv_iload_n hx hb dX4_option_21 rfl (lv_at hl 3 rfl) ?_
      refine jv_iconst hx hb dX4_option_22 ?_
      refine jv_sipush hx hb dX4_option_23 (by decide) ?_
      refine pu_call1 (va_runS (As := [.int (jI (de)), .int (jI (0)), .int (jI (10000))]) (rest := [.ref (am 0)]) ⟨hx, hb, hml, hown, hts⟩ (k_in l D g de 0 10000 (by omega) (by omega) (by omega)) (cwS 3 hts (gd_S kw_482 kw_483 kw_16 kcX4_in) rfl rfl rfl (by decide +kernel) ⟨Nat.le_of_ble_eq_true rfl, Nat.le_of_ble_eq_true rfl⟩) (pu_preS trivial hK) rfl rfl hl.1 rfl (lv_room (Nat.le_of_ble_eq_true rfl)) dX4_option_26 ⟨Nat.zero_le _, Nat.zero_le _⟩) ?_
      refine jv_if_ne (tgt := 36) hx hb dX4_option_29 (by decide) (bI_rng _) (fun c29 => ?_) (fun c29 => ?_)
      · refine lv_aload_n hx hb dX4_option_36 rfl (lv_at hl 0 rfl) ?_
        refine va_get (D := D) (ci := 4) (v := .ref (am 6)) (C := RX4) (T := TX4) (N := 17) hx hb hts (fun w h => List.mem_cons_of_mem _ (uw_X4 w h)) hown hK (j_P1 hm0) 0 rfl rfl 7 (by decide) (hts _ (List.mem_cons_of_mem _ kw_425)) (fun _ h9 => h9) rfl dX4_option_37 ?_
        refine lv_iload_n hx hb dX4_option_40 rfl (lv_at hl 1 rfl) ?_
        refine jv_iald (i := d) hx hb hK hm6 0 rfl (by omega) (by omega) (by decide) dX4_option_41 ?_
        rw [e6_d]
        refine jv_iconst hx hb dX4_option_42 ?_
        refine jv_icmp_ne (tgt := 50) hx hb dX4_option_43 (by decide) (by omega) (by omega) (fun c43 => ?_) (fun c43 => ?_)
        · refine jv_iconst hx hb dX4_option_50 ?_
          refine jv_put (D := D) (ci := 4) (v := .int (jI (0))) (ty := .int) (C := RX4) (T := TX4) (N := 17) hx hb hts (fun w h => List.mem_cons_of_mem _ (uw_X4 w h)) tyX4 tyX4_ok nmX4 hown hK hm0 rfl 0 (by decide) (hts _ (List.mem_cons_of_mem _ kw_418)) (fun _ h9 => h9) rfl (by decide +kernel) rfl rfl (Nat.le_of_ble_eq_true rfl) dX4_option_51 (fun H f9 hn9 hz9 oq9 => ?_)
          have hPic : mW D g am 0 dv vo ab be AA H := mW_obj hj hPic oq9 hn9
          have hT0 := hT0.put 0 (by omega) hz9 oq9 (f := f9)
          have hm0 := hPic.1
          have hm6 : va_at D vwCl (am 6, .inl (g 0, 8, .inl (fun j => jI (AA 6 j)))) H := hPic.2 6 (by omega) (by omega)
          have hm7 : va_at D vwCl (am 7, .inl (g 0, 32, .inl (fun j => jI (AA 7 j)))) H := hPic.2 7 (by omega) (by omega)
          have hm8 : va_at D vwCl (am 8, .inl (g 0, 32, .inl (fun j => jI (AA 8 j)))) H := hPic.2 8 (by omega) (by omega)
          refine lv_aload_n hx hb dX4_option_54 rfl (lv_at hl 0 rfl) ?_
          refine va_get (D := D) (ci := 4) (v := .int (jI (0))) (C := RX4) (T := TX4) (N := 17) hx hb hts (fun w h => List.mem_cons_of_mem _ (uw_X4 w h)) hown hK (j_P1 hm0) 0 rfl rfl 0 (by decide) (hts _ (List.mem_cons_of_mem _ kw_418)) (fun _ h9 => h9) rfl dX4_option_55 ?_
          refine jv_if_le (tgt := 63) hx hb dX4_option_58 (by decide) (by omega) (fun c58 => ?_) (fun c58 => ?_)
          · refine lv_aload_n hx hb dX4_option_63 rfl (lv_at hl 0 rfl) ?_
            refine va_get (D := D) (ci := 4) (v := .ref (am 7)) (C := RX4) (T := TX4) (N := 17) hx hb hts (fun w h => List.mem_cons_of_mem _ (uw_X4 w h)) hown hK (j_P1 hm0) 0 rfl rfl 8 (by decide) (hts _ (List.mem_cons_of_mem _ kw_426)) (fun _ h9 => h9) rfl dX4_option_64 ?_
            refine jv_iconst hx hb dX4_option_67 ?_
            refine lv_iload_n hx hb dX4_option_68 rfl (lv_at hl 1 rfl) ?_
            refine jv_imul hx hb dX4_option_69 ?_
            refine lv_aload_n hx hb dX4_option_70 rfl (lv_at hl 0 rfl) ?_
            refine va_get (D := D) (ci := 4) (v := .ref (am 6)) (C := RX4) (T := TX4) (N := 17) hx hb hts (fun w h => List.mem_cons_of_mem _ (uw_X4 w h)) hown hK (j_P1 hm0) 0 rfl rfl 7 (by decide) (hts _ (List.mem_cons_of_mem _ kw_425)) (fun _ h9 => h9) rfl dX4_option_71 ?_
            refine lv_iload_n hx hb dX4_option_74 rfl (lv_at hl 1 rfl) ?_
            refine jv_iald (i := d) hx hb hK hm6 0 rfl (by omega) (by omega) (by decide) dX4_option_75 ?_
            rw [e6_d]
            refine jv_iadd hx hb dX4_option_76 ?_
            refine lv_iload_n hx hb dX4_option_77 rfl (lv_at hl 2 rfl) ?_
            refine jv_iast (i := (4 * d + o)) hx hb hK hm7 0 rfl (by omega) (by omega) (by decide) dX4_option_78 (fun H f9 hn9 hz9 oq9 => ?_)
            have hPic := mW_arr hj hPic 7 (by omega) (by omega) oq9 hn9
            obtain ⟨A1, hA1⟩ : ∃ A9, A9 = jUp AA 7 (jUp (AA 7) (4 * d + o) (sc)) := ⟨_, rfl⟩
            rw [← hA1] at hPic
            have hT0 := hT0.put 7 (by omega) hz9 oq9 (f := f9)
            have hm0 := hPic.1
            have hm6 : va_at D vwCl (am 6, .inl (g 0, 8, .inl (fun j => jI (A1 6 j)))) H := hPic.2 6 (by omega) (by omega)
            have hm7 : va_at D vwCl (am 7, .inl (g 0, 32, .inl (fun j => jI (A1 7 j)))) H := hPic.2 7 (by omega) (by omega)
            have hm8 : va_at D vwCl (am 8, .inl (g 0, 32, .inl (fun j => jI (A1 8 j)))) H := hPic.2 8 (by omega) (by omega)
            have e6_d : A1 6 d = (o : Int) := by rw [hA1, mU_at, if_neg (by omega)]; exact e6_d
            refine lv_aload_n hx hb dX4_option_79 rfl (lv_at hl 0 rfl) ?_
            refine va_get (D := D) (ci := 4) (v := .ref (am 8)) (C := RX4) (T := TX4) (N := 17) hx hb hts (fun w h => List.mem_cons_of_mem _ (uw_X4 w h)) hown hK (j_P1 hm0) 0 rfl rfl 9 (by decide) (hts _ (List.mem_cons_of_mem _ kw_427)) (fun _ h9 => h9) rfl dX4_option_80 ?_
            refine jv_iconst hx hb dX4_option_83 ?_
            refine lv_iload_n hx hb dX4_option_84 rfl (lv_at hl 1 rfl) ?_
            refine jv_imul hx hb dX4_option_85 ?_
            refine lv_aload_n hx hb dX4_option_86 rfl (lv_at hl 0 rfl) ?_
            refine va_get (D := D) (ci := 4) (v := .ref (am 6)) (C := RX4) (T := TX4) (N := 17) hx hb hts (fun w h => List.mem_cons_of_mem _ (uw_X4 w h)) hown hK (j_P1 hm0) 0 rfl rfl 7 (by decide) (hts _ (List.mem_cons_of_mem _ kw_425)) (fun _ h9 => h9) rfl dX4_option_87 ?_
            refine lv_iload_n hx hb dX4_option_90 rfl (lv_at hl 1 rfl) ?_
            refine jv_iald (i := d) hx hb hK hm6 0 rfl (by omega) (by omega) (by decide) dX4_option_91 ?_
            rw [e6_d]
            refine jv_iadd hx hb dX4_option_92 ?_
            refine lv_iload_n hx hb dX4_option_93 rfl (lv_at hl 3 rfl) ?_
            refine jv_iast (i := (4 * d + o)) hx hb hK hm8 0 rfl (by omega) (by omega) (by decide) dX4_option_94 (fun H f9 hn9 hz9 oq9 => ?_)
            have hPic := mW_arr hj hPic 8 (by omega) (by omega) oq9 hn9
            obtain ⟨A2, hA2⟩ : ∃ A9, A9 = jUp A1 8 (jUp (A1 8) (4 * d + o) (de)) := ⟨_, rfl⟩
            rw [← hA2] at hPic
            have hT0 := hT0.put 8 (by omega) hz9 oq9 (f := f9)
            have hm0 := hPic.1
            have hm6 : va_at D vwCl (am 6, .inl (g 0, 8, .inl (fun j => jI (A2 6 j)))) H := hPic.2 6 (by omega) (by omega)
            have hm7 : va_at D vwCl (am 7, .inl (g 0, 32, .inl (fun j => jI (A2 7 j)))) H := hPic.2 7 (by omega) (by omega)
            have hm8 : va_at D vwCl (am 8, .inl (g 0, 32, .inl (fun j => jI (A2 8 j)))) H := hPic.2 8 (by omega) (by omega)
            have e6_d : A2 6 d = (o : Int) := by rw [hA2, mU_at, if_neg (by omega)]; exact e6_d
            refine lv_aload_n hx hb dX4_option_95 rfl (lv_at hl 0 rfl) ?_
            refine va_get (D := D) (ci := 4) (v := .ref (am 6)) (C := RX4) (T := TX4) (N := 17) hx hb hts (fun w h => List.mem_cons_of_mem _ (uw_X4 w h)) hown hK (j_P1 hm0) 0 rfl rfl 7 (by decide) (hts _ (List.mem_cons_of_mem _ kw_425)) (fun _ h9 => h9) rfl dX4_option_96 ?_
            refine lv_iload_n hx hb dX4_option_99 rfl (lv_at hl 1 rfl) ?_
            refine lv_dup2_11 hx hb dX4_option_100 rfl rfl ?_
            refine jv_iald (i := d) hx hb hK hm6 0 rfl (by omega) (by omega) (by decide) dX4_option_101 ?_
            rw [e6_d]
            refine jv_iconst hx hb dX4_option_102 ?_
            refine jv_iadd hx hb dX4_option_103 ?_
            refine jv_iast (i := d) hx hb hK hm6 0 rfl (by omega) (by omega) (by decide) dX4_option_104 (fun H f9 hn9 hz9 oq9 => ?_)
            have hPic := mW_arr hj hPic 6 (by omega) (by omega) oq9 hn9
            obtain ⟨A3, hA3⟩ : ∃ A9, A9 = jUp A2 6 (jUp (A2 6) d ((o : Int) + 1)) := ⟨_, rfl⟩
            rw [← hA3] at hPic
            have hT0 := hT0.put 6 (by omega) hz9 oq9 (f := f9)
            have hm0 := hPic.1
            have hm6 : va_at D vwCl (am 6, .inl (g 0, 8, .inl (fun j => jI (A3 6 j)))) H := hPic.2 6 (by omega) (by omega)
            have e6_d : A3 6 d = (o : Int) + 1 := by rw [hA3, mU_at, if_pos ⟨rfl, rfl⟩]
            refine lv_aload_n hx hb dX4_option_105 rfl (lv_at hl 0 rfl) ?_
            refine va_get (D := D) (ci := 4) (v := .ref (am 6)) (C := RX4) (T := TX4) (N := 17) hx hb hts (fun w h => List.mem_cons_of_mem _ (uw_X4 w h)) hown hK (j_P1 hm0) 0 rfl rfl 7 (by decide) (hts _ (List.mem_cons_of_mem _ kw_425)) (fun _ h9 => h9) rfl dX4_option_106 ?_
            refine lv_iload_n hx hb dX4_option_109 rfl (lv_at hl 1 rfl) ?_
            refine jv_iald (i := d) hx hb hK hm6 0 rfl (by omega) (by omega) (by decide) dX4_option_110 ?_
            rw [e6_d]
            refine jv_iconst hx hb dX4_option_111 ?_
            refine jv_isub hx hb dX4_option_112 ?_
            exact m_iret hx hb hr hlocks dX4_option_113 ⟨rfl, mR_O hz hR hd ho ho4 hA1 hA2 hA3⟩ hPic hT0 (by omega)
          · exact absurd c58 (by omega)
        · exact absurd c43 (by omega)
      · exact absurd (bI_fa c29) (by rw [decide_eq_true (by omega)]; decide)
