set_option maxRecDepth 20000 in
theorem kw_14 : (.initialized RX0 : Cond) ∈ gAll := g_mem 14 rfl rfl
set_option maxRecDepth 20000 in
theorem kw_44 : (.fieldLink RX0 9 "BreakerOrders$Curve" "place" "[I" : Cond) ∈ gAll := g_mem 44 rfl rfl
set_option maxRecDepth 20000 in
theorem kw_46 : (.fieldLink RX3 59 "BreakerOrders$Curve" "place" "[I" : Cond) ∈ gAll := g_mem 46 rfl rfl
set_option maxRecDepth 20000 in
theorem kw_47 : (.fieldLink RX0 15 "BreakerOrders$Curve" "least" "[I" : Cond) ∈ gAll := g_mem 47 rfl rfl
set_option maxRecDepth 20000 in
theorem kw_49 : (.fieldLink RX0 18 "BreakerOrders$Curve" "most" "[I" : Cond) ∈ gAll := g_mem 49 rfl rfl
set_option maxRecDepth 20000 in
theorem kw_51 : (.fieldLink RX0 21 "BreakerOrders$Curve" "points" "I" : Cond) ∈ gAll := g_mem 51 rfl rfl
set_option maxRecDepth 20000 in
theorem kw_53 : (.fieldLink RX3 52 "BreakerOrders$Curve" "points" "I" : Cond) ∈ gAll := g_mem 53 rfl rfl
set_option maxRecDepth 20000 in
theorem kw_73 : (.fieldLink RX3 77 "BreakerOrders$Setting" "scale" "I" : Cond) ∈ gAll := g_mem 73 rfl rfl
set_option maxRecDepth 20000 in
theorem kw_75 : (.fieldLink RX3 82 "BreakerOrders$Setting" "delay" "I" : Cond) ∈ gAll := g_mem 75 rfl rfl
set_option maxRecDepth 20000 in
theorem kw_87 : (.fieldLink RX3 43 "BreakerOrders$Device" "curve" "LBreakerOrders$Curve;" : Cond) ∈ gAll := g_mem 87 rfl rfl
set_option maxRecDepth 20000 in
theorem kw_90 : (.fieldLink RX1 24 "BreakerOrders$Device" "ruledOut" "[Z" : Cond) ∈ gAll := g_mem 90 rfl rfl
set_option maxRecDepth 20000 in
theorem kw_93 : (.fieldLink RX3 120 "BreakerOrders$Device" "firstFor" "[I" : Cond) ∈ gAll := g_mem 93 rfl rfl
set_option maxRecDepth 20000 in
theorem kw_238 : (.constant RX3 51 100000 : Cond) ∈ gAll := g_mem 238 rfl rfl
set_option maxRecDepth 20000 in
theorem kw_241 : (.methodLink RX3 65 yX0_add : Cond) ∈ gAll := g_mem 241 rfl rfl
set_option maxRecDepth 20000 in
theorem kw_242 : (.instanceMethod yX0_add : Cond) ∈ gAll := g_mem 242 rfl rfl
set_option maxRecDepth 20000 in
theorem kw_243 : (.selects RX0 yX0_add yX0_add : Cond) ∈ gAll := g_mem 243 rfl rfl
set_option maxRecDepth 20000 in
theorem kw_353 : (.methodLink RX3 113 yX1_forgetTries : Cond) ∈ gAll := g_mem 353 rfl rfl
set_option maxRecDepth 20000 in
theorem kw_354 : (.instanceMethod yX1_forgetTries : Cond) ∈ gAll := g_mem 354 rfl rfl
set_option maxRecDepth 20000 in
theorem kw_355 : (.selects RX1 yX1_forgetTries yX1_forgetTries : Cond) ∈ gAll := g_mem 355 rfl rfl
set_option maxRecDepth 20000 in
theorem kw_357 : (.methodLink RX3 116 yX3_tryOptions : Cond) ∈ gAll := g_mem 357 rfl rfl
set_option maxRecDepth 20000 in
theorem kw_358 : (.static yX3_tryOptions : Cond) ∈ gAll := g_mem 358 rfl rfl
set_option maxRecDepth 20000 in
theorem kw_360 : (.methodLink RX3 174 yX3_firstFitting : Cond) ∈ gAll := g_mem 360 rfl rfl
set_option maxRecDepth 20000 in
theorem kw_361 : (.static yX3_firstFitting : Cond) ∈ gAll := g_mem 361 rfl rfl
set_option maxRecDepth 20000 in
theorem kw_384 : (.constant RX3 126 1000000 : Cond) ∈ gAll := g_mem 384 rfl rfl
set_option maxHeartbeats 4000000 in
set_option maxRecDepth 100000 in
theorem c_impedance (l : Launch) (D : va_G) (g : Nat → ClassId) (ad : Nat → Nat) (z : bSt) (rl : Nat → Nat → Bool) (ff : Nat → Nat → Int) (hz : bOK z) (hj : bInj ad) (d : Nat) (v : Int) (hd : d < bN z) (hv : 1 ≤ v ∧ v ≤ 10000) : Met l yX3_impedance wsX3_impedance ({ frames := 1, cells := 0, slots := 0, locals := 22 }) (pu_Pc [.ref (ad 0), .int (jI ((d : Int))), .int (jI (v))] D vwCl (ty9 g) (fun H => bW D g ad z rl ff H)) (bQ D g ad (some (.int (jI (bZ z d)))) (zZ z d v) (fun _ _ => True)) 0 0 (bFr ad) := by
  refine Met.ofW (cc := cX3_impedance) (maxL := 5) (ret := some .int) (by decide) rfl ?_
  intro p e s m args below meth c s₁ B hml hv
  obtain ⟨rfl, hPic, hK⟩ := hv
  have hx := B.exec
  have hb := B.bytes
  have hr := B.returns
  have hts := atoms_spec (ws := wsX3_impedance) B.pre
  have hown : s.vm.findClass RX3 = some m.cls := findClass_of_methodNamed B.named
  have hlocks := B.notSynchronized
  have hx0 : va_at D vwCl (ad 0, .inr (3, [.ref (ad 1), .int (jI ((bN z : Int))), .int (jI (bV z))])) s.heap := hPic 0 (by omega)
  have hx1 : va_at D vwCl (ad 1, .inl (g 2, 8, .inr (.inr (.inr (.inr (fun j => some (ad (2 + 12 * j)))))))) s.heap := hPic 1 (by omega)
  have hN := hz.1
  have hd0_d : va_at D vwCl (ad (2 + 12 * d), .inr (1, [.int (jI ((d : Int))), .ref (ad (2 + 12 * d + 1)), .ref (ad (2 + 12 * d + 5)), .ref (ad (2 + 12 * d + 10)), .ref (ad (2 + 12 * d + 11)), va_rf ((bU z d).map (fun u => ad (2 + 12 * u))), .int (jI ((bO z d : Int))), .int (jI ((bC z d : Int))), .int (jI (bZ z d))])) s.heap := bW_at hPic (i := d) (by omega) 0 (by omega)
  have hl := lv_entry ([.ref (ad 0), .int (jI ((d : Int))), .int (jI (v))]) (n := 5) (Nat.le_of_ble_eq_true rfl)
  rw [lg_entry_eq]
  generalize (lg_sl ([.ref (ad 0), .int (jI ((d : Int))), .int (jI (v))]) ++ List.replicate (5 - (lg_sl ([.ref (ad 0), .int (jI ((d : Int))), .int (jI (v))])).length) Slot.unset).toArray = ls at hl ⊢
  have hl : lv_has ls 5 [(0, .ref (ad 0)), (1, .int (jI ((d : Int)))), (2, .int (jI (v)))] := hl
  have hT0 : bTo ad s.heap s.heap [] := bTo.rf
  refine lv_aload_n hx hb dX3_impedance_0 rfl (lv_at hl 0 rfl) ?_
  refine lv_iload_n hx hb dX3_impedance_1 rfl (lv_at hl 1 rfl) ?_
  refine pu_call1 (va_runV (As := [.int (jI ((d : Int)))]) (rest := []) ⟨hx, hb, hml, hown, hts⟩ (c_known l D g ad z rl ff hz d hd) (cwV 1 hts (gd_V kw_140 kw_142 kw_0 kw_12 kcX3_known) rfl rfl rfl (by decide +kernel) ⟨Nat.le_of_ble_eq_true rfl, Nat.le_of_ble_eq_true rfl⟩) (pu_preV hPic hK rfl hx0) rfl rfl hl.1 rfl (lv_room (Nat.le_of_ble_eq_true rfl)) dX3_impedance_2 ⟨Nat.zero_le _, Nat.zero_le _⟩) ?_
  refine lv_astore_n (lv' := [(3, .ref (ad (2 + 12 * d))), (0, .ref (ad 0)), (1, .int (jI ((d : Int)))), (2, .int (jI (v)))]) hx hb dX3_impedance_5 rfl hl (by decide) rfl (fun ls hl => ?_)
  refine lv_iload_n hx hb dX3_impedance_6 rfl (lv_at hl 3 rfl) ?_
  refine jv_iconst hx hb dX3_impedance_7 ?_
  refine jv_sipush hx hb dX3_impedance_8 (by decide) ?_
  refine pu_call (va_runS (As := [.int (jI (v)), .int (jI (1)), .int (jI (10000))]) (rest := []) ⟨hx, hb, hml, hown, hts⟩ (c_demandWithin l D g v 1 10000 (by omega) (by omega) (by omega) (by omega)) (cwS 3 hts (gd_S kw_234 kw_235 kw_12 kcX3_demandWithin) rfl rfl rfl (by decide +kernel) ⟨Nat.le_of_ble_eq_true rfl, Nat.le_of_ble_eq_true rfl⟩) (pu_preS trivial hK) rfl rfl hl.1 rfl (lv_room (Nat.le_of_ble_eq_true rfl)) dX3_impedance_11 ⟨Nat.zero_le _, Nat.zero_le _⟩) ?_
  refine lv_aload_n hx hb dX3_impedance_14 rfl (lv_at hl 0 rfl) ?_
  refine va_get (D := D) (ci := 1) (v := .int (jI (bZ z d))) (C := RX1) (T := TX1) (N := 9) hx hb hts (fun w h => List.mem_cons_of_mem _ (uw_X1 w h)) hown hK (j_P1 hd0_d) 0 rfl rfl 8 (by decide) (hts _ (List.mem_cons_of_mem _ kw_101)) (fun _ h9 => h9) rfl dX3_impedance_15 ?_
  refine lv_istore (lv' := [(4, .int (jI (bZ z d))), (3, .ref (ad (2 + 12 * d))), (0, .ref (ad 0)), (1, .int (jI ((d : Int)))), (2, .int (jI (v)))]) hx hb dX3_impedance_18 hl (by decide) rfl (fun ls hl => ?_)
  refine lv_aload_n hx hb dX3_impedance_20 rfl (lv_at hl 1 rfl) ?_
  refine lv_iload_n hx hb dX3_impedance_21 rfl (lv_at hl 4 rfl) ?_
  refine jv_put (D := D) (ci := 1) (v := .int (jI (v))) (ty := .int) (C := RX1) (T := TX1) (N := 9) hx hb hts (fun w h => List.mem_cons_of_mem _ (uw_X1 w h)) tyX1 tyX1_ok nmX1 hown hK hd0_d rfl 8 (by decide) (hts _ (List.mem_cons_of_mem _ kw_101)) (fun _ h9 => h9) rfl (by decide +kernel) rfl rfl (Nat.le_of_ble_eq_true rfl) dX3_impedance_22 (fun H f9 hn9 hz9 oq9 => ?_)
  have hPic := bX_dev hj hPic (w := zZ z d v) (i := d) (by omega) rfl rfl rfl rfl rfl rfl rfl rfl (fun i2 h2 => ⟨rfl, rfl, rfl, jUp_n h2⟩) rfl rfl rfl (jUp_s _ _ _) oq9 hn9
  have hT0 := hT0.put (2 + 12 * d) (by omega) hz9 oq9 (f := f9)
  refine lv_iload hx hb dX3_impedance_25 (lv_at hl 0 rfl) ?_
  exact b_iret hx hb hr hlocks dX3_impedance_27 trivial hPic hT0 (by rfl)
set_option maxHeartbeats 4000000 in
set_option maxRecDepth 100000 in
theorem c_voltage (l : Launch) (D : va_G) (g : Nat → ClassId) (ad : Nat → Nat) (z : bSt) (rl : Nat → Nat → Bool) (ff : Nat → Nat → Int) (hz : bOK z) (hj : bInj ad) (v : Int) (hv : 0 ≤ v ∧ v ≤ 1000000) : Met l yX3_voltage wsX3_voltage ({ frames := 1, cells := 0, slots := 0, locals := 22 }) (pu_Pc [.ref (ad 0), .int (jI (v))] D vwCl (ty9 g) (fun H => bW D g ad z rl ff H)) (bQ D g ad (some (.int (jI (bV z)))) (zV z v) (fun _ _ => True)) 0 0 (bFr ad) := by
  refine Met.ofW (cc := cX3_voltage) (maxL := 3) (ret := some .int) (by decide) rfl ?_
  intro p e s m args below meth c s₁ B hml hv
  obtain ⟨rfl, hPic, hK⟩ := hv
  have hx := B.exec
  have hb := B.bytes
  have hr := B.returns
  have hts := atoms_spec (ws := wsX3_voltage) B.pre
  have hown : s.vm.findClass RX3 = some m.cls := findClass_of_methodNamed B.named
  have hlocks := B.notSynchronized
  have hx0 : va_at D vwCl (ad 0, .inr (3, [.ref (ad 1), .int (jI ((bN z : Int))), .int (jI (bV z))])) s.heap := hPic 0 (by omega)
  have hx1 : va_at D vwCl (ad 1, .inl (g 2, 8, .inr (.inr (.inr (.inr (fun j => some (ad (2 + 12 * j)))))))) s.heap := hPic 1 (by omega)
  have hN := hz.1
  have hl := lv_entry ([.ref (ad 0), .int (jI (v))]) (n := 3) (Nat.le_of_ble_eq_true rfl)
  rw [lg_entry_eq]
  generalize (lg_sl ([.ref (ad 0), .int (jI (v))]) ++ List.replicate (3 - (lg_sl ([.ref (ad 0), .int (jI (v))])).length) Slot.unset).toArray = ls at hl ⊢
  have hl : lv_has ls 3 [(0, .ref (ad 0)), (1, .int (jI (v)))] := hl
  have hT0 : bTo ad s.heap s.heap [] := bTo.rf
  refine lv_iload_n hx hb dX3_voltage_0 rfl (lv_at hl 1 rfl) ?_
  refine jv_iconst hx hb dX3_voltage_1 ?_
  refine jv_ldc (k := 1000000) hx hb hown (hts _ (List.mem_cons_of_mem _ kw_384)) (by decide) dX3_voltage_2 ?_
  refine pu_call (va_runS (As := [.int (jI (v)), .int (jI (0)), .int (jI (1000000))]) (rest := []) ⟨hx, hb, hml, hown, hts⟩ (c_demandWithin l D g v 0 1000000 (by omega) (by omega) (by omega) (by omega)) (cwS 3 hts (gd_S kw_234 kw_235 kw_12 kcX3_demandWithin) rfl rfl rfl (by decide +kernel) ⟨Nat.le_of_ble_eq_true rfl, Nat.le_of_ble_eq_true rfl⟩) (pu_preS trivial hK) rfl rfl hl.1 rfl (lv_room (Nat.le_of_ble_eq_true rfl)) dX3_voltage_4 ⟨Nat.zero_le _, Nat.zero_le _⟩) ?_
  refine lv_aload_n hx hb dX3_voltage_7 rfl (lv_at hl 0 rfl) ?_
  refine va_get (D := D) (ci := 3) (v := .int (jI (bV z))) (C := RX3) (T := TX3) (N := 3) hx hb hts (fun w h => List.mem_cons_of_mem _ (uw_X3 w h)) hown hK (j_P1 hx0) 0 rfl rfl 2 (by decide) (hts _ (List.mem_cons_of_mem _ kw_123)) (fun _ h9 => h9) rfl dX3_voltage_8 ?_
  refine lv_istore_n (lv' := [(2, .int (jI (bV z))), (0, .ref (ad 0)), (1, .int (jI (v)))]) hx hb dX3_voltage_11 rfl hl (by decide) rfl (fun ls hl => ?_)
  refine lv_aload_n hx hb dX3_voltage_12 rfl (lv_at hl 1 rfl) ?_
  refine lv_iload_n hx hb dX3_voltage_13 rfl (lv_at hl 2 rfl) ?_
  refine jv_put (D := D) (ci := 3) (v := .int (jI (v))) (ty := .int) (C := RX3) (T := TX3) (N := 3) hx hb hts (fun w h => List.mem_cons_of_mem _ (uw_X3 w h)) tyX3 tyX3_ok nmX3 hown hK hx0 rfl 2 (by decide) (hts _ (List.mem_cons_of_mem _ kw_123)) (fun _ h9 => h9) rfl (by decide +kernel) rfl rfl (Nat.le_of_ble_eq_true rfl) dX3_voltage_14 (fun H f9 hn9 hz9 oq9 => ?_)
  have hPic := bX_self hj hPic (w := zV z v) rfl rfl rfl rfl rfl rfl rfl rfl rfl rfl rfl rfl oq9 hn9
  have hT0 := hT0.put (0) (by omega) hz9 oq9 (f := f9)
  refine lv_iload_n hx hb dX3_voltage_17 rfl (lv_at hl 0 rfl) ?_
  exact b_iret hx hb hr hlocks dX3_voltage_18 trivial hPic hT0 (by rfl)
set_option maxHeartbeats 4000000 in
set_option maxRecDepth 100000 in
theorem c_choose (l : Launch) (D : va_G) (g : Nat → ClassId) (ad : Nat → Nat) (z : bSt) (rl : Nat → Nat → Bool) (ff : Nat → Nat → Int) (hz : bOK z) (hj : bInj ad) (d o : Nat) (hd : d < bN z) (ho : o < bO z d) : Met l yX3_choose wsX3_choose ({ frames := 1, cells := 0, slots := 0, locals := 22 }) (pu_Pc [.ref (ad 0), .int (jI ((d : Int))), .int (jI ((o : Int)))] D vwCl (ty9 g) (fun H => bW D g ad z rl ff H)) (bQ D g ad (some (.int (jI (bC z d : Int)))) (zC z d o) (fun _ _ => True)) 0 0 (bFr ad) := by
  refine Met.ofW (cc := cX3_choose) (maxL := 5) (ret := some .int) (by decide) rfl ?_
  intro p e s m args below meth c s₁ B hml hv
  obtain ⟨rfl, hPic, hK⟩ := hv
  have hx := B.exec
  have hb := B.bytes
  have hr := B.returns
  have hts := atoms_spec (ws := wsX3_choose) B.pre
  have hown : s.vm.findClass RX3 = some m.cls := findClass_of_methodNamed B.named
  have hlocks := B.notSynchronized
  have hx0 : va_at D vwCl (ad 0, .inr (3, [.ref (ad 1), .int (jI ((bN z : Int))), .int (jI (bV z))])) s.heap := hPic 0 (by omega)
  have hx1 : va_at D vwCl (ad 1, .inl (g 2, 8, .inr (.inr (.inr (.inr (fun j => some (ad (2 + 12 * j)))))))) s.heap := hPic 1 (by omega)
  have hN := hz.1
  have hd0_d : va_at D vwCl (ad (2 + 12 * d), .inr (1, [.int (jI ((d : Int))), .ref (ad (2 + 12 * d + 1)), .ref (ad (2 + 12 * d + 5)), .ref (ad (2 + 12 * d + 10)), .ref (ad (2 + 12 * d + 11)), va_rf ((bU z d).map (fun u => ad (2 + 12 * u))), .int (jI ((bO z d : Int))), .int (jI ((bC z d : Int))), .int (jI (bZ z d))])) s.heap := bW_at hPic (i := d) (by omega) 0 (by omega)
  have fd := hz.2.2.1 d (by omega)
  have hl := lv_entry ([.ref (ad 0), .int (jI ((d : Int))), .int (jI ((o : Int)))]) (n := 5) (Nat.le_of_ble_eq_true rfl)
  rw [lg_entry_eq]
  generalize (lg_sl ([.ref (ad 0), .int (jI ((d : Int))), .int (jI ((o : Int)))]) ++ List.replicate (5 - (lg_sl ([.ref (ad 0), .int (jI ((d : Int))), .int (jI ((o : Int)))])).length) Slot.unset).toArray = ls at hl ⊢
  have hl : lv_has ls 5 [(0, .ref (ad 0)), (1, .int (jI ((d : Int)))), (2, .int (jI ((o : Int))))] := hl
  have hT0 : bTo ad s.heap s.heap [] := bTo.rf
  refine lv_aload_n hx hb dX3_choose_0 rfl (lv_at hl 0 rfl) ?_
  refine lv_iload_n hx hb dX3_choose_1 rfl (lv_at hl 1 rfl) ?_
  refine pu_call1 (va_runV (As := [.int (jI ((d : Int)))]) (rest := []) ⟨hx, hb, hml, hown, hts⟩ (c_known l D g ad z rl ff hz d hd) (cwV 1 hts (gd_V kw_140 kw_142 kw_0 kw_12 kcX3_known) rfl rfl rfl (by decide +kernel) ⟨Nat.le_of_ble_eq_true rfl, Nat.le_of_ble_eq_true rfl⟩) (pu_preV hPic hK rfl hx0) rfl rfl hl.1 rfl (lv_room (Nat.le_of_ble_eq_true rfl)) dX3_choose_2 ⟨Nat.zero_le _, Nat.zero_le _⟩) ?_
  refine lv_astore_n (lv' := [(3, .ref (ad (2 + 12 * d))), (0, .ref (ad 0)), (1, .int (jI ((d : Int)))), (2, .int (jI ((o : Int))))]) hx hb dX3_choose_5 rfl hl (by decide) rfl (fun ls hl => ?_)
  refine lv_iload_n hx hb dX3_choose_6 rfl (lv_at hl 3 rfl) ?_
  refine jv_iconst hx hb dX3_choose_7 ?_
  refine lv_aload_n hx hb dX3_choose_8 rfl (lv_at hl 0 rfl) ?_
  refine va_get (D := D) (ci := 1) (v := .int (jI ((bO z d : Int)))) (C := RX1) (T := TX1) (N := 9) hx hb hts (fun w h => List.mem_cons_of_mem _ (uw_X1 w h)) hown hK (j_P1 hd0_d) 0 rfl rfl 6 (by decide) (hts _ (List.mem_cons_of_mem _ kw_97)) (fun _ h9 => h9) rfl dX3_choose_9 ?_
  refine jv_iconst hx hb dX3_choose_12 ?_
  refine jv_isub hx hb dX3_choose_13 ?_
  refine pu_call (va_runS (As := [.int (jI ((o : Int))), .int (jI (0)), .int (jI ((bO z d : Int) - 1))]) (rest := []) ⟨hx, hb, hml, hown, hts⟩ (c_demandWithin l D g (o : Int) 0 ((bO z d : Int) - 1) (by omega) (by omega) (by omega) (by omega)) (cwS 3 hts (gd_S kw_234 kw_235 kw_12 kcX3_demandWithin) rfl rfl rfl (by decide +kernel) ⟨Nat.le_of_ble_eq_true rfl, Nat.le_of_ble_eq_true rfl⟩) (pu_preS trivial hK) rfl rfl hl.1 rfl (lv_room (Nat.le_of_ble_eq_true rfl)) dX3_choose_14 ⟨Nat.zero_le _, Nat.zero_le _⟩) ?_
  refine lv_aload_n hx hb dX3_choose_17 rfl (lv_at hl 0 rfl) ?_
  refine va_get (D := D) (ci := 1) (v := .int (jI ((bC z d : Int)))) (C := RX1) (T := TX1) (N := 9) hx hb hts (fun w h => List.mem_cons_of_mem _ (uw_X1 w h)) hown hK (j_P1 hd0_d) 0 rfl rfl 7 (by decide) (hts _ (List.mem_cons_of_mem _ kw_99)) (fun _ h9 => h9) rfl dX3_choose_18 ?_
  refine lv_istore (lv' := [(4, .int (jI ((bC z d : Int)))), (3, .ref (ad (2 + 12 * d))), (0, .ref (ad 0)), (1, .int (jI ((d : Int)))), (2, .int (jI ((o : Int))))]) hx hb dX3_choose_21 hl (by decide) rfl (fun ls hl => ?_)
  refine lv_aload_n hx hb dX3_choose_23 rfl (lv_at hl 1 rfl) ?_
  refine lv_iload_n hx hb dX3_choose_24 rfl (lv_at hl 4 rfl) ?_
  refine jv_put (D := D) (ci := 1) (v := .int (jI ((o : Int)))) (ty := .int) (C := RX1) (T := TX1) (N := 9) hx hb hts (fun w h => List.mem_cons_of_mem _ (uw_X1 w h)) tyX1 tyX1_ok nmX1 hown hK hd0_d rfl 7 (by decide) (hts _ (List.mem_cons_of_mem _ kw_99)) (fun _ h9 => h9) rfl (by decide +kernel) rfl rfl (Nat.le_of_ble_eq_true rfl) dX3_choose_25 (fun H f9 hn9 hz9 oq9 => ?_)
  have hPic := bX_dev hj hPic (w := zC z d o) (i := d) (by omega) rfl rfl rfl rfl rfl rfl rfl rfl (fun i2 h2 => ⟨rfl, rfl, jUp_n h2, rfl⟩) rfl rfl (jUp_s _ _ _) rfl oq9 hn9
  have hT0 := hT0.put (2 + 12 * d) (by omega) hz9 oq9 (f := f9)
  refine lv_iload hx hb dX3_choose_28 (lv_at hl 0 rfl) ?_
  exact b_iret hx hb hr hlocks dX3_choose_30 trivial hPic hT0 (by rfl)
set_option maxHeartbeats 4000000 in
set_option maxRecDepth 100000 in
theorem c_option (l : Launch) (D : va_G) (g : Nat → ClassId) (ad : Nat → Nat) (z : bSt) (rl : Nat → Nat → Bool) (ff : Nat → Nat → Int) (hz : bOK z) (hj : bInj ad) (d o : Nat) (sc de : Int) (hd : d < bN z) (ho : bO z d = o) (ho4 : o < 4) (hsc : 10 ≤ sc ∧ sc ≤ 1000) (hde : 0 ≤ de ∧ de ≤ 10000) : Met l yX3_option wsX3_option ({ frames := 1, cells := 0, slots := 0, locals := 22 }) (pu_Pc [.ref (ad 0), .int (jI ((d : Int))), .int (jI (sc)), .int (jI (de))] D vwCl (ty9 g) (fun H => bW D g ad z rl ff H)) (bQ D g ad (some (.int (jI (o : Int)))) (zO (zD (zS z d o sc) d o de) d (o + 1)) (fun _ _ => True)) 0 0 (bFr ad) := by
  refine Met.ofW (cc := cX3_option) (maxL := 6) (ret := some .int) (by decide) rfl ?_
  intro p e s m args below meth c s₁ B hml hv
  obtain ⟨rfl, hPic, hK⟩ := hv
  have hx := B.exec
  have hb := B.bytes
  have hr := B.returns
  have hts := atoms_spec (ws := wsX3_option) B.pre
  have hown : s.vm.findClass RX3 = some m.cls := findClass_of_methodNamed B.named
  have hlocks := B.notSynchronized
  have hx0 : va_at D vwCl (ad 0, .inr (3, [.ref (ad 1), .int (jI ((bN z : Int))), .int (jI (bV z))])) s.heap := hPic 0 (by omega)
  have hx1 : va_at D vwCl (ad 1, .inl (g 2, 8, .inr (.inr (.inr (.inr (fun j => some (ad (2 + 12 * j)))))))) s.heap := hPic 1 (by omega)
  have hN := hz.1
  have fd := hz.2.2.1 d (by omega)
  have hl := lv_entry ([.ref (ad 0), .int (jI ((d : Int))), .int (jI (sc)), .int (jI (de))]) (n := 6) (Nat.le_of_ble_eq_true rfl)
  rw [lg_entry_eq]
  generalize (lg_sl ([.ref (ad 0), .int (jI ((d : Int))), .int (jI (sc)), .int (jI (de))]) ++ List.replicate (6 - (lg_sl ([.ref (ad 0), .int (jI ((d : Int))), .int (jI (sc)), .int (jI (de))])).length) Slot.unset).toArray = ls at hl ⊢
  have hl : lv_has ls 6 [(0, .ref (ad 0)), (1, .int (jI ((d : Int)))), (2, .int (jI (sc))), (3, .int (jI (de)))] := hl
  have hT0 : bTo ad s.heap s.heap [] := bTo.rf
  have hd0_d : va_at D vwCl (ad (2 + 12 * d), .inr (1, [.int (jI ((d : Int))), .ref (ad (2 + 12 * d + 1)), .ref (ad (2 + 12 * d + 5)), .ref (ad (2 + 12 * d + 10)), .ref (ad (2 + 12 * d + 11)), va_rf ((bU z d).map (fun u => ad (2 + 12 * u))), .int (jI ((bO z d : Int))), .int (jI ((bC z d : Int))), .int (jI (bZ z d))])) s.heap := bW_at hPic (i := d) (by omega) 0 (by omega)
  have hd5_d : va_at D vwCl (ad (2 + 12 * d + 5), .inl (g 3, 4, .inr (.inr (.inr (.inr (fun j => some (ad (2 + 12 * d + 6 + j)))))))) s.heap := bW_at hPic (i := d) (by omega) 5 (by omega)
  have hso : va_at D vwCl (ad (2 + 12 * d + 6 + o), .inr (2, [.ref (ad (2 + 12 * d + 1)), .int (jI (bS z d o)), .int (jI (bD z d o))])) s.heap := bW_sobj hPic (by omega) (by omega)
  rw [ho] at hd0_d
  refine lv_aload_n hx hb dX3_option_0 rfl (lv_at hl 0 rfl) ?_
  refine lv_iload_n hx hb dX3_option_1 rfl (lv_at hl 1 rfl) ?_
  refine pu_call1 (va_runV (As := [.int (jI ((d : Int)))]) (rest := []) ⟨hx, hb, hml, hown, hts⟩ (c_known l D g ad z rl ff hz d hd) (cwV 1 hts (gd_V kw_140 kw_142 kw_0 kw_12 kcX3_known) rfl rfl rfl (by decide +kernel) ⟨Nat.le_of_ble_eq_true rfl, Nat.le_of_ble_eq_true rfl⟩) (pu_preV hPic hK rfl hx0) rfl rfl hl.1 rfl (lv_room (Nat.le_of_ble_eq_true rfl)) dX3_option_2 ⟨Nat.zero_le _, Nat.zero_le _⟩) ?_
  refine lv_astore (lv' := [(4, .ref (ad (2 + 12 * d))), (0, .ref (ad 0)), (1, .int (jI ((d : Int)))), (2, .int (jI (sc))), (3, .int (jI (de)))]) hx hb dX3_option_5 hl (by decide) rfl (fun ls hl => ?_)
  refine lv_iload_n hx hb dX3_option_7 rfl (lv_at hl 3 rfl) ?_
  refine jv_bipush hx hb dX3_option_8 (by decide) ?_
  refine jv_sipush hx hb dX3_option_10 (by decide) ?_
  refine pu_call (va_runS (As := [.int (jI (sc)), .int (jI (10)), .int (jI (1000))]) (rest := []) ⟨hx, hb, hml, hown, hts⟩ (c_demandWithin l D g sc 10 1000 (by omega) (by omega) (by omega) (by omega)) (cwS 3 hts (gd_S kw_234 kw_235 kw_12 kcX3_demandWithin) rfl rfl rfl (by decide +kernel) ⟨Nat.le_of_ble_eq_true rfl, Nat.le_of_ble_eq_true rfl⟩) (pu_preS trivial hK) rfl rfl hl.1 rfl (lv_room (Nat.le_of_ble_eq_true rfl)) dX3_option_13 ⟨Nat.zero_le _, Nat.zero_le _⟩) ?_
  refine lv_iload_n hx hb dX3_option_16 rfl (lv_at hl 4 rfl) ?_
  refine jv_iconst hx hb dX3_option_17 ?_
  refine jv_sipush hx hb dX3_option_18 (by decide) ?_
  refine pu_call (va_runS (As := [.int (jI (de)), .int (jI (0)), .int (jI (10000))]) (rest := []) ⟨hx, hb, hml, hown, hts⟩ (c_demandWithin l D g de 0 10000 (by omega) (by omega) (by omega) (by omega)) (cwS 3 hts (gd_S kw_234 kw_235 kw_12 kcX3_demandWithin) rfl rfl rfl (by decide +kernel) ⟨Nat.le_of_ble_eq_true rfl, Nat.le_of_ble_eq_true rfl⟩) (pu_preS trivial hK) rfl rfl hl.1 rfl (lv_room (Nat.le_of_ble_eq_true rfl)) dX3_option_21 ⟨Nat.zero_le _, Nat.zero_le _⟩) ?_
  refine lv_aload hx hb dX3_option_24 (lv_at hl 0 rfl) ?_
  refine va_get (D := D) (ci := 1) (v := .int (jI ((o : Int)))) (C := RX1) (T := TX1) (N := 9) hx hb hts (fun w h => List.mem_cons_of_mem _ (uw_X1 w h)) hown hK (j_P1 hd0_d) 0 rfl rfl 6 (by decide) (hts _ (List.mem_cons_of_mem _ kw_97)) (fun _ h9 => h9) rfl dX3_option_26 ?_
  refine jv_iconst hx hb dX3_option_29 ?_
  refine jv_icmp_lt (tgt := 43) hx hb dX3_option_30 (by decide) (by omega) (by omega) (fun c30 => ?_) (fun c30 => ?_)
  · refine lv_aload hx hb dX3_option_43 (lv_at hl 0 rfl) ?_
    refine va_get (D := D) (ci := 1) (v := .int (jI ((o : Int)))) (C := RX1) (T := TX1) (N := 9) hx hb hts (fun w h => List.mem_cons_of_mem _ (uw_X1 w h)) hown hK (j_P1 hd0_d) 0 rfl rfl 6 (by decide) (hts _ (List.mem_cons_of_mem _ kw_97)) (fun _ h9 => h9) rfl dX3_option_45 ?_
    refine lv_istore (lv' := [(5, .int (jI ((o : Int)))), (4, .ref (ad (2 + 12 * d))), (0, .ref (ad 0)), (1, .int (jI ((d : Int)))), (2, .int (jI (sc))), (3, .int (jI (de)))]) hx hb dX3_option_48 hl (by decide) rfl (fun ls hl => ?_)
    refine lv_aload hx hb dX3_option_50 (lv_at hl 1 rfl) ?_
    refine va_get (D := D) (ci := 1) (v := .ref (ad (2 + 12 * d + 5))) (C := RX1) (T := TX1) (N := 9) hx hb hts (fun w h => List.mem_cons_of_mem _ (uw_X1 w h)) hown hK (j_P1 hd0_d) 0 rfl rfl 2 (by decide) (hts _ (List.mem_cons_of_mem _ kw_89)) (fun _ h9 => h9) rfl dX3_option_52 ?_
    refine lv_iload hx hb dX3_option_55 (lv_at hl 0 rfl) ?_
    refine jv_aldq (i := o) hx hb hK hd5_d 3 rfl (by omega) (by omega) (by decide) dX3_option_57 ?_
    refine lv_iload_n hx hb dX3_option_58 rfl (lv_at hl 4 rfl) ?_
    refine jv_put (D := D) (ci := 2) (v := .int (jI (sc))) (ty := .int) (C := RX2) (T := TX2) (N := 3) hx hb hts (fun w h => List.mem_cons_of_mem _ (uw_X2 w h)) tyX2 tyX2_ok nmX2 hown hK hso rfl 1 (by decide) (hts _ (List.mem_cons_of_mem _ kw_73)) (fun _ h9 => h9) rfl (by decide +kernel) rfl rfl (Nat.le_of_ble_eq_true rfl) dX3_option_59 (fun H f9 hn9 hz9 oq9 => ?_)
    obtain ⟨w1, hw1⟩ : ∃ w9 : bSt, w9 = zS z d o sc := ⟨_, rfl⟩
    have hPic := bX_sett hj hPic (w := zS z d o sc) (i := d) (j := o) (by omega) ho4 rfl rfl rfl rfl rfl rfl rfl rfl rfl rfl (fun i2 j2 h2 => ⟨jUp2_n h2, rfl⟩) (jUp2_s _ _ _ _) rfl oq9 hn9
    rw [← hw1] at hPic
    have hT0 := hT0.put (2 + 12 * d + 6 + o) (by omega) hz9 oq9 (f := f9)
    have ho_w1 : bO w1 d = o := by rw [hw1]; exact ho
    have hd0_d : va_at D vwCl (ad (2 + 12 * d), .inr (1, [.int (jI ((d : Int))), .ref (ad (2 + 12 * d + 1)), .ref (ad (2 + 12 * d + 5)), .ref (ad (2 + 12 * d + 10)), .ref (ad (2 + 12 * d + 11)), va_rf ((bU w1 d).map (fun u => ad (2 + 12 * u))), .int (jI ((bO w1 d : Int))), .int (jI ((bC w1 d : Int))), .int (jI (bZ w1 d))])) H := bW_at hPic (i := d) (by omega) 0 (by omega)
    have hd5_d : va_at D vwCl (ad (2 + 12 * d + 5), .inl (g 3, 4, .inr (.inr (.inr (.inr (fun j => some (ad (2 + 12 * d + 6 + j)))))))) H := bW_at hPic (i := d) (by omega) 5 (by omega)
    have hso : va_at D vwCl (ad (2 + 12 * d + 6 + o), .inr (2, [.ref (ad (2 + 12 * d + 1)), .int (jI (bS w1 d o)), .int (jI (bD w1 d o))])) H := bW_sobj hPic (by omega) (by omega)
    rw [ho_w1] at hd0_d
    refine lv_aload hx hb dX3_option_62 (lv_at hl 1 rfl) ?_
    refine va_get (D := D) (ci := 1) (v := .ref (ad (2 + 12 * d + 5))) (C := RX1) (T := TX1) (N := 9) hx hb hts (fun w h => List.mem_cons_of_mem _ (uw_X1 w h)) hown hK (j_P1 hd0_d) 0 rfl rfl 2 (by decide) (hts _ (List.mem_cons_of_mem _ kw_89)) (fun _ h9 => h9) rfl dX3_option_64 ?_
    refine lv_iload hx hb dX3_option_67 (lv_at hl 0 rfl) ?_
    refine jv_aldq (i := o) hx hb hK hd5_d 3 rfl (by omega) (by omega) (by decide) dX3_option_69 ?_
    refine lv_iload_n hx hb dX3_option_70 rfl (lv_at hl 5 rfl) ?_
    refine jv_put (D := D) (ci := 2) (v := .int (jI (de))) (ty := .int) (C := RX2) (T := TX2) (N := 3) hx hb hts (fun w h => List.mem_cons_of_mem _ (uw_X2 w h)) tyX2 tyX2_ok nmX2 hown hK hso rfl 2 (by decide) (hts _ (List.mem_cons_of_mem _ kw_75)) (fun _ h9 => h9) rfl (by decide +kernel) rfl rfl (Nat.le_of_ble_eq_true rfl) dX3_option_71 (fun H f9 hn9 hz9 oq9 => ?_)
    obtain ⟨w2, hw2⟩ : ∃ w9 : bSt, w9 = zD w1 d o de := ⟨_, rfl⟩
    have hPic := bX_sett hj hPic (w := zD w1 d o de) (i := d) (j := o) (by omega) ho4 rfl rfl rfl rfl rfl rfl rfl rfl rfl rfl (fun i2 j2 h2 => ⟨rfl, jUp2_n h2⟩) rfl (jUp2_s _ _ _ _) oq9 hn9
    rw [← hw2] at hPic
    have hT0 := hT0.put (2 + 12 * d + 6 + o) (by omega) hz9 oq9 (f := f9)
    have ho_w2 : bO w2 d = o := by rw [hw2]; exact ho_w1
    have hd0_d : va_at D vwCl (ad (2 + 12 * d), .inr (1, [.int (jI ((d : Int))), .ref (ad (2 + 12 * d + 1)), .ref (ad (2 + 12 * d + 5)), .ref (ad (2 + 12 * d + 10)), .ref (ad (2 + 12 * d + 11)), va_rf ((bU w2 d).map (fun u => ad (2 + 12 * u))), .int (jI ((bO w2 d : Int))), .int (jI ((bC w2 d : Int))), .int (jI (bZ w2 d))])) H := bW_at hPic (i := d) (by omega) 0 (by omega)
    have hd5_d : va_at D vwCl (ad (2 + 12 * d + 5), .inl (g 3, 4, .inr (.inr (.inr (.inr (fun j => some (ad (2 + 12 * d + 6 + j)))))))) H := bW_at hPic (i := d) (by omega) 5 (by omega)
    have hso : va_at D vwCl (ad (2 + 12 * d + 6 + o), .inr (2, [.ref (ad (2 + 12 * d + 1)), .int (jI (bS w2 d o)), .int (jI (bD w2 d o))])) H := bW_sobj hPic (by omega) (by omega)
    rw [ho_w2] at hd0_d
    refine lv_aload hx hb dX3_option_74 (lv_at hl 1 rfl) ?_
    refine lv_dup hx hb dX3_option_76 rfl ?_
    refine va_get (D := D) (ci := 1) (v := .int (jI ((o : Int)))) (C := RX1) (T := TX1) (N := 9) hx hb hts (fun w h => List.mem_cons_of_mem _ (uw_X1 w h)) hown hK (j_P1 hd0_d) 0 rfl rfl 6 (by decide) (hts _ (List.mem_cons_of_mem _ kw_97)) (fun _ h9 => h9) rfl dX3_option_77 ?_
    refine jv_iconst hx hb dX3_option_80 ?_
    refine jv_iadd hx hb dX3_option_81 ?_
    refine jv_put (D := D) (ci := 1) (v := .int (jI ((o : Int) + 1))) (ty := .int) (C := RX1) (T := TX1) (N := 9) hx hb hts (fun w h => List.mem_cons_of_mem _ (uw_X1 w h)) tyX1 tyX1_ok nmX1 hown hK hd0_d rfl 6 (by decide) (hts _ (List.mem_cons_of_mem _ kw_97)) (fun _ h9 => h9) rfl (by decide +kernel) rfl rfl (Nat.le_of_ble_eq_true rfl) dX3_option_82 (fun H f9 hn9 hz9 oq9 => ?_)
    obtain ⟨w3, hw3⟩ : ∃ w9 : bSt, w9 = zO w2 d (o + 1) := ⟨_, rfl⟩
    have hPic := bX_dev hj hPic (w := zO w2 d (o + 1)) (i := d) (by omega) rfl rfl rfl rfl rfl rfl rfl rfl (fun i2 h2 => ⟨rfl, jUp_n h2, rfl, rfl⟩) rfl (jUp_s _ _ _) rfl rfl oq9 hn9
    rw [← hw3] at hPic
    have hT0 := hT0.put (2 + 12 * d) (by omega) hz9 oq9 (f := f9)
    refine lv_iload hx hb dX3_option_85 (lv_at hl 0 rfl) ?_
    subst hw3
    subst hw2
    subst hw1
    exact b_iret hx hb hr hlocks dX3_option_87 trivial hPic hT0 (by rfl)
  · exact absurd c30 (by omega)
