set_option maxHeartbeats 4000000 in
set_option maxRecDepth 100000 in
theorem c_chosenSetting (l : Launch) (D : va_G) (g : Nat → ClassId) (ad : Nat → Nat) (z : bSt) (rl : Nat → Nat → Bool) (ff : Nat → Nat → Int) (hz : bOK z) (i : Nat) (hi : i < 8) : Met l yX1_chosenSetting wsX1_chosenSetting ({ frames := 0, cells := 0, slots := 0, locals := 0 }) (pu_Pc [.ref (ad (2 + 12 * i))] D vwCl (ty9 g) (fun H => bW D g ad z rl ff H)) (pu_Q (some (.ref (ad (2 + 12 * i + 6 + bC z i))))) 0 0 (fun _ => False) := by
  refine Met.ofW (cc := cX1_chosenSetting) (maxL := 1) (ret := some (.object "BreakerOrders$Setting")) (by decide) rfl ?_
  intro p e s m args below meth c s₁ B hml hv
  obtain ⟨rfl, hPic, hK⟩ := hv
  have hx := B.exec
  have hb := B.bytes
  have hr := B.returns
  have hts := atoms_spec (ws := wsX1_chosenSetting) B.pre
  have hown : s.vm.findClass RX1 = some m.cls := findClass_of_methodNamed B.named
  have hlocks := B.notSynchronized
  have hd0_i : va_at D vwCl (ad (2 + 12 * i), .inr (1, [.int (jI ((i : Int))), .ref (ad (2 + 12 * i + 1)), .ref (ad (2 + 12 * i + 5)), .ref (ad (2 + 12 * i + 10)), .ref (ad (2 + 12 * i + 11)), va_rf ((bU z i).map (fun u => ad (2 + 12 * u))), .int (jI ((bO z i : Int))), .int (jI ((bC z i : Int))), .int (jI (bZ z i))])) s.heap := bW_at hPic (i := i) hi 0 (by omega)
  have hd5_i : va_at D vwCl (ad (2 + 12 * i + 5), .inl (g 3, 4, .inr (.inr (.inr (.inr (fun j => some (ad (2 + 12 * i + 6 + j)))))))) s.heap := bW_at hPic (i := i) hi 5 (by omega)
  have f1 := hz.2.2.1 i hi
  have hl := lv_entry ([.ref (ad (2 + 12 * i))]) (n := 1) (Nat.le_of_ble_eq_true rfl)
  rw [lg_entry_eq]
  generalize (lg_sl ([.ref (ad (2 + 12 * i))]) ++ List.replicate (1 - (lg_sl ([.ref (ad (2 + 12 * i))])).length) Slot.unset).toArray = ls at hl ⊢
  have hl : lv_has ls 1 [(0, .ref (ad (2 + 12 * i)))] := hl
  refine lv_aload_n hx hb dX1_chosenSetting_0 rfl (lv_at hl 0 rfl) ?_
  refine va_get (D := D) (ci := 1) (v := .ref (ad (2 + 12 * i + 5))) (C := RX1) (T := TX1) (N := 9) hx hb hts (fun w h => List.mem_cons_of_mem _ (uw_X1 w h)) hown hK (j_P1 hd0_i) 0 rfl rfl 2 (by decide) (hts _ (List.mem_cons_of_mem _ kw_88)) (fun _ h9 => h9) rfl dX1_chosenSetting_1 ?_
  refine lv_aload_n hx hb dX1_chosenSetting_4 rfl (lv_at hl 0 rfl) ?_
  refine va_get (D := D) (ci := 1) (v := .int (jI ((bC z i : Int)))) (C := RX1) (T := TX1) (N := 9) hx hb hts (fun w h => List.mem_cons_of_mem _ (uw_X1 w h)) hown hK (j_P1 hd0_i) 0 rfl rfl 7 (by decide) (hts _ (List.mem_cons_of_mem _ kw_98)) (fun _ h9 => h9) rfl dX1_chosenSetting_5 ?_
  refine jv_aldq (i := (bC z i)) hx hb hK hd5_i 3 rfl (by omega) (by omega) (by decide) dX1_chosenSetting_8 ?_
  exact pu_aret hx hb hr hlocks dX1_chosenSetting_9 (by rfl)
set_option maxHeartbeats 4000000 in
set_option maxRecDepth 100000 in
theorem c_known (l : Launch) (D : va_G) (g : Nat → ClassId) (ad : Nat → Nat) (z : bSt) (rl : Nat → Nat → Bool) (ff : Nat → Nat → Int) (hz : bOK z) (d : Nat) (hd : d < bN z) : Met l yX3_known wsX3_known ({ frames := 0, cells := 0, slots := 0, locals := 0 }) (pu_Pc [.ref (ad 0), .int (jI ((d : Int)))] D vwCl (ty9 g) (fun H => bW D g ad z rl ff H)) (pu_Q (some (.ref (ad (2 + 12 * d))))) 0 0 (fun _ => False) := by
  refine Met.ofW (cc := cX3_known) (maxL := 2) (ret := some (.object "BreakerOrders$Device")) (by decide) rfl ?_
  intro p e s m args below meth c s₁ B hml hv
  obtain ⟨rfl, hPic, hK⟩ := hv
  have hx := B.exec
  have hb := B.bytes
  have hr := B.returns
  have hts := atoms_spec (ws := wsX3_known) B.pre
  have hown : s.vm.findClass RX3 = some m.cls := findClass_of_methodNamed B.named
  have hlocks := B.notSynchronized
  have hx0 : va_at D vwCl (ad 0, .inr (3, [.ref (ad 1), .int (jI ((bN z : Int))), .int (jI (bV z))])) s.heap := hPic 0 (by omega)
  have hx1 : va_at D vwCl (ad 1, .inl (g 2, 8, .inr (.inr (.inr (.inr (fun j => some (ad (2 + 12 * j)))))))) s.heap := hPic 1 (by omega)
  have hN := hz.1
  have hl := lv_entry ([.ref (ad 0), .int (jI ((d : Int)))]) (n := 2) (Nat.le_of_ble_eq_true rfl)
  rw [lg_entry_eq]
  generalize (lg_sl ([.ref (ad 0), .int (jI ((d : Int)))]) ++ List.replicate (2 - (lg_sl ([.ref (ad 0), .int (jI ((d : Int)))])).length) Slot.unset).toArray = ls at hl ⊢
  have hl : lv_has ls 2 [(0, .ref (ad 0)), (1, .int (jI ((d : Int))))] := hl
  refine lv_iload_n hx hb dX3_known_0 rfl (lv_at hl 1 rfl) ?_
  refine jv_if_lt (tgt := 12) hx hb dX3_known_1 (by decide) (by omega) (fun c1 => ?_) (fun c1 => ?_)
  · exact absurd c1 (by omega)
  · refine lv_iload_n hx hb dX3_known_4 rfl (lv_at hl 1 rfl) ?_
    refine lv_aload_n hx hb dX3_known_5 rfl (lv_at hl 0 rfl) ?_
    refine va_get (D := D) (ci := 3) (v := .int (jI ((bN z : Int)))) (C := RX3) (T := TX3) (N := 3) hx hb hts (fun w h => List.mem_cons_of_mem _ (uw_X3 w h)) hown hK (j_P1 hx0) 0 rfl rfl 1 (by decide) (hts _ (List.mem_cons_of_mem _ kw_122)) (fun _ h9 => h9) rfl dX3_known_6 ?_
    refine jv_icmp_lt (tgt := 22) hx hb dX3_known_9 (by decide) (by omega) (by omega) (fun c9 => ?_) (fun c9 => ?_)
    · refine lv_aload_n hx hb dX3_known_22 rfl (lv_at hl 0 rfl) ?_
      refine va_get (D := D) (ci := 3) (v := .ref (ad 1)) (C := RX3) (T := TX3) (N := 3) hx hb hts (fun w h => List.mem_cons_of_mem _ (uw_X3 w h)) hown hK (j_P1 hx0) 0 rfl rfl 0 (by decide) (hts _ (List.mem_cons_of_mem _ kw_121)) (fun _ h9 => h9) rfl dX3_known_23 ?_
      refine lv_iload_n hx hb dX3_known_26 rfl (lv_at hl 1 rfl) ?_
      refine jv_aldq (i := d) hx hb hK hx1 2 rfl (by omega) (by omega) (by decide) dX3_known_27 ?_
      exact pu_aret hx hb hr hlocks dX3_known_28 (by rfl)
    · exact absurd c9 (by omega)
set_option maxHeartbeats 4000000 in
set_option maxRecDepth 100000 in
theorem c_demandWithin (l : Launch) (D : va_G) (g : Nat → ClassId) (v lo hi : Int) (hv : -2147483648 ≤ v ∧ v < 2147483648) (hlo : -2147483648 ≤ lo ∧ lo < 2147483648) (hhi : -2147483648 ≤ hi ∧ hi < 2147483648) (h : lo ≤ v ∧ v ≤ hi) : Met l yX3_demandWithin wsX3_demandWithin ({ frames := 0, cells := 0, slots := 0, locals := 0 }) (pu_Pc [.int (jI (v)), .int (jI (lo)), .int (jI (hi))] D vwCl (ty9 g) (fun H => True)) (pu_Q none) 0 0 (fun _ => False) := by
  refine Met.ofW (cc := cX3_demandWithin) (maxL := 3) (ret := none) (by decide) rfl ?_
  intro p e s m args below meth c s₁ B hml hv
  obtain ⟨rfl, hPic, hK⟩ := hv
  have hx := B.exec
  have hb := B.bytes
  have hr := B.returns
  have hts := atoms_spec (ws := wsX3_demandWithin) B.pre
  have hown : s.vm.findClass RX3 = some m.cls := findClass_of_methodNamed B.named
  have hlocks := B.notSynchronized
  have hl := lv_entry ([.int (jI (v)), .int (jI (lo)), .int (jI (hi))]) (n := 3) (Nat.le_of_ble_eq_true rfl)
  rw [lg_entry_eq]
  generalize (lg_sl ([.int (jI (v)), .int (jI (lo)), .int (jI (hi))]) ++ List.replicate (3 - (lg_sl ([.int (jI (v)), .int (jI (lo)), .int (jI (hi))])).length) Slot.unset).toArray = ls at hl ⊢
  have hl : lv_has ls 3 [(0, .int (jI (v))), (1, .int (jI (lo))), (2, .int (jI (hi)))] := hl
  refine lv_iload_n hx hb dX3_demandWithin_0 rfl (lv_at hl 0 rfl) ?_
  refine lv_iload_n hx hb dX3_demandWithin_1 rfl (lv_at hl 1 rfl) ?_
  refine jv_icmp_lt (tgt := 10) hx hb dX3_demandWithin_2 (by decide) (by omega) (by omega) (fun c2 => ?_) (fun c2 => ?_)
  · exact absurd c2 (by omega)
  · refine lv_iload_n hx hb dX3_demandWithin_5 rfl (lv_at hl 0 rfl) ?_
    refine lv_iload_n hx hb dX3_demandWithin_6 rfl (lv_at hl 2 rfl) ?_
    refine jv_icmp_le (tgt := 20) hx hb dX3_demandWithin_7 (by decide) (by omega) (by omega) (fun c7 => ?_) (fun c7 => ?_)
    · exact pu_vret hx hb hr hlocks dX3_demandWithin_20
    · exact absurd c7 (by omega)
set_option maxHeartbeats 4000000 in
set_option maxRecDepth 100000 in
theorem c_demandPair (l : Launch) (D : va_G) (g : Nat → ClassId) (x y mg : Int) (hx9 : -2147483648 ≤ x ∧ x < 2147483648) (hy9 : -2147483648 ≤ y ∧ y < 2147483648) (hxy : x ≠ y) (hmg : 0 ≤ mg ∧ mg ≤ 10000) : Met l yX3_demandPair wsX3_demandPair ({ frames := 1, cells := 0, slots := 0, locals := 22 }) (pu_Pc [.int (jI (x)), .int (jI (y)), .int (jI (mg))] D vwCl (ty9 g) (fun H => True)) (pu_Q none) 0 0 (fun _ => False) := by
  refine Met.ofW (cc := cX3_demandPair) (maxL := 3) (ret := none) (by decide) rfl ?_
  intro p e s m args below meth c s₁ B hml hv
  obtain ⟨rfl, hPic, hK⟩ := hv
  have hx := B.exec
  have hb := B.bytes
  have hr := B.returns
  have hts := atoms_spec (ws := wsX3_demandPair) B.pre
  have hown : s.vm.findClass RX3 = some m.cls := findClass_of_methodNamed B.named
  have hlocks := B.notSynchronized
  have hl := lv_entry ([.int (jI (x)), .int (jI (y)), .int (jI (mg))]) (n := 3) (Nat.le_of_ble_eq_true rfl)
  rw [lg_entry_eq]
  generalize (lg_sl ([.int (jI (x)), .int (jI (y)), .int (jI (mg))]) ++ List.replicate (3 - (lg_sl ([.int (jI (x)), .int (jI (y)), .int (jI (mg))])).length) Slot.unset).toArray = ls at hl ⊢
  have hl : lv_has ls 3 [(0, .int (jI (x))), (1, .int (jI (y))), (2, .int (jI (mg)))] := hl
  refine lv_iload_n hx hb dX3_demandPair_0 rfl (lv_at hl 0 rfl) ?_
  refine lv_iload_n hx hb dX3_demandPair_1 rfl (lv_at hl 1 rfl) ?_
  refine jv_icmp_ne (tgt := 15) hx hb dX3_demandPair_2 (by decide) (by omega) (by omega) (fun c2 => ?_) (fun c2 => ?_)
  · refine lv_iload_n hx hb dX3_demandPair_15 rfl (lv_at hl 2 rfl) ?_
    refine jv_iconst hx hb dX3_demandPair_16 ?_
    refine jv_sipush hx hb dX3_demandPair_17 (by decide) ?_
    refine pu_call (va_runS (As := [.int (jI (mg)), .int (jI (0)), .int (jI (10000))]) (rest := []) ⟨hx, hb, hml, hown, hts⟩ (c_demandWithin l D g mg 0 10000 (by omega) (by omega) (by omega) (by omega)) (cwS 3 hts (gd_S kw_234 kw_235 kw_12 kcX3_demandWithin) rfl rfl rfl (by decide +kernel) ⟨Nat.le_of_ble_eq_true rfl, Nat.le_of_ble_eq_true rfl⟩) (pu_preS trivial hK) rfl rfl hl.1 rfl (lv_room (Nat.le_of_ble_eq_true rfl)) dX3_demandPair_20 ⟨Nat.zero_le _, Nat.zero_le _⟩) ?_
    exact pu_vret hx hb hr hlocks dX3_demandPair_23
  · exact absurd c2 hxy
set_option maxHeartbeats 4000000 in
set_option maxRecDepth 100000 in
theorem c_time (l : Launch) (D : va_G) (g : Nat → ClassId) (ad : Nat → Nat) (z : bSt) (rl : Nat → Nat → Bool) (ff : Nat → Nat → Int) (hz : bOK z) (d : Nat) (I : Int) (mo : Bool) (hd : d < bN z) (hI : 1 ≤ I ∧ I ≤ 5000) : Met l yX3_time wsX3_time ({ frames := 2, cells := 0, slots := 0, locals := 55 }) (pu_Pc [.ref (ad 0), .int (jI ((d : Int))), .int (jI (I)), .int (jI (bI mo))] D vwCl (ty9 g) (fun H => bW D g ad z rl ff H)) (pu_Q (some (.int (jI (if cPiece (bCh z d) I = -1 then -1 else cWhole (bCh z d) (cPiece (bCh z d) I) I mo))))) 0 0 (fun _ => False) := by
  refine Met.ofW (cc := cX3_time) (maxL := 6) (ret := some .int) (by decide) rfl ?_
  intro p e s m args below meth c s₁ B hml hv
  obtain ⟨rfl, hPic, hK⟩ := hv
  have hx := B.exec
  have hb := B.bytes
  have hr := B.returns
  have hts := atoms_spec (ws := wsX3_time) B.pre
  have hown : s.vm.findClass RX3 = some m.cls := findClass_of_methodNamed B.named
  have hlocks := B.notSynchronized
  have hx0 : va_at D vwCl (ad 0, .inr (3, [.ref (ad 1), .int (jI ((bN z : Int))), .int (jI (bV z))])) s.heap := hPic 0 (by omega)
  have hx1 : va_at D vwCl (ad 1, .inl (g 2, 8, .inr (.inr (.inr (.inr (fun j => some (ad (2 + 12 * j)))))))) s.heap := hPic 1 (by omega)
  have hN := hz.1
  have hd0_d : va_at D vwCl (ad (2 + 12 * d), .inr (1, [.int (jI ((d : Int))), .ref (ad (2 + 12 * d + 1)), .ref (ad (2 + 12 * d + 5)), .ref (ad (2 + 12 * d + 10)), .ref (ad (2 + 12 * d + 11)), va_rf ((bU z d).map (fun u => ad (2 + 12 * u))), .int (jI ((bO z d : Int))), .int (jI ((bC z d : Int))), .int (jI (bZ z d))])) s.heap := bW_at hPic (i := d) (by omega) 0 (by omega)
  have f_S := hz.2.2.1 d (by omega)
  have hq_S : sAt D g (ad (2 + 12 * d + 6 + bC z d)) (bCh z d) s.heap := bW_set hPic (by omega) (by omega)
  have ok_S : sOK (bCh z d) := f_S.2.2.2.2.2 (bC z d) f_S.2.2.1
  obtain ⟨ac_S, ap_S, al_S, am_S, h1_S, -⟩ := id hq_S
  have rP := cPiece_range (bCh z d) I
  have nS := ok_S.1
  have hl := lv_entry ([.ref (ad 0), .int (jI ((d : Int))), .int (jI (I)), .int (jI (bI mo))]) (n := 6) (Nat.le_of_ble_eq_true rfl)
  rw [lg_entry_eq]
  generalize (lg_sl ([.ref (ad 0), .int (jI ((d : Int))), .int (jI (I)), .int (jI (bI mo))]) ++ List.replicate (6 - (lg_sl ([.ref (ad 0), .int (jI ((d : Int))), .int (jI (I)), .int (jI (bI mo))])).length) Slot.unset).toArray = ls at hl ⊢
  have hl : lv_has ls 6 [(0, .ref (ad 0)), (1, .int (jI ((d : Int)))), (2, .int (jI (I))), (3, .int (jI (bI mo)))] := hl
  refine lv_aload_n hx hb dX3_time_0 rfl (lv_at hl 0 rfl) ?_
  refine lv_iload_n hx hb dX3_time_1 rfl (lv_at hl 1 rfl) ?_
  refine pu_call1 (va_runV (As := [.int (jI ((d : Int)))]) (rest := []) ⟨hx, hb, hml, hown, hts⟩ (c_known l D g ad z rl ff hz d hd) (cwV 1 hts (gd_V kw_140 kw_142 kw_0 kw_12 kcX3_known) rfl rfl rfl (by decide +kernel) ⟨Nat.le_of_ble_eq_true rfl, Nat.le_of_ble_eq_true rfl⟩) (pu_preV hPic hK rfl hx0) rfl rfl hl.1 rfl (lv_room (Nat.le_of_ble_eq_true rfl)) dX3_time_2 ⟨Nat.zero_le _, Nat.zero_le _⟩) ?_
  refine pu_call1 (va_runV (As := []) (rest := []) ⟨hx, hb, hml, hown, hts⟩ (c_chosenSetting l D g ad z rl ff hz d (by omega)) (cwV 0 hts (gd_V kw_267 kw_268 kw_269 kw_13 kcX1_chosenSetting) rfl rfl rfl (by decide +kernel) ⟨Nat.le_of_ble_eq_true rfl, Nat.le_of_ble_eq_true rfl⟩) (pu_preV hPic hK rfl hd0_d) rfl rfl hl.1 rfl (lv_room (Nat.le_of_ble_eq_true rfl)) dX3_time_5 ⟨Nat.zero_le _, Nat.zero_le _⟩) ?_
  refine lv_astore (lv' := [(4, .ref (ad (2 + 12 * d + 6 + bC z d))), (0, .ref (ad 0)), (1, .int (jI ((d : Int)))), (2, .int (jI (I))), (3, .int (jI (bI mo)))]) hx hb dX3_time_8 hl (by decide) rfl (fun ls hl => ?_)
  refine lv_iload_n hx hb dX3_time_10 rfl (lv_at hl 3 rfl) ?_
  refine jv_iconst hx hb dX3_time_11 ?_
  refine jv_sipush hx hb dX3_time_12 (by decide) ?_
  refine pu_call (va_runS (As := [.int (jI (I)), .int (jI (1)), .int (jI (5000))]) (rest := []) ⟨hx, hb, hml, hown, hts⟩ (c_demandWithin l D g I 1 5000 (by omega) (by omega) (by omega) (by omega)) (cwS 3 hts (gd_S kw_234 kw_235 kw_12 kcX3_demandWithin) rfl rfl rfl (by decide +kernel) ⟨Nat.le_of_ble_eq_true rfl, Nat.le_of_ble_eq_true rfl⟩) (pu_preS trivial hK) rfl rfl hl.1 rfl (lv_room (Nat.le_of_ble_eq_true rfl)) dX3_time_15 ⟨Nat.zero_le _, Nat.zero_le _⟩) ?_
  refine lv_aload hx hb dX3_time_18 (lv_at hl 0 rfl) ?_
  refine lv_iload_n hx hb dX3_time_20 rfl (lv_at hl 3 rfl) ?_
  refine pu_call1 (va_runV (As := [.int (jI (I))]) (rest := []) ⟨hx, hb, hml, hown, hts⟩ (c_pieceAt l D g (ad (2 + 12 * d + 6 + bC z d)) (bCh z d) I ok_S (by omega)) (cwV 1 hts (gd_V kw_271 kw_272 kw_273 kw_15 kcX2_pieceAt) rfl rfl rfl (by decide +kernel) ⟨Nat.le_of_ble_eq_true rfl, Nat.le_of_ble_eq_true rfl⟩) (pu_preV hq_S hK rfl h1_S) rfl rfl hl.1 rfl (lv_room (Nat.le_of_ble_eq_true rfl)) dX3_time_21 ⟨Nat.zero_le _, Nat.zero_le _⟩) ?_
  refine lv_istore (lv' := [(5, .int (jI (cPiece (bCh z d) I))), (4, .ref (ad (2 + 12 * d + 6 + bC z d))), (0, .ref (ad 0)), (1, .int (jI ((d : Int)))), (2, .int (jI (I))), (3, .int (jI (bI mo)))]) hx hb dX3_time_24 hl (by decide) rfl (fun ls hl => ?_)
  refine lv_iload hx hb dX3_time_26 (lv_at hl 0 rfl) ?_
  refine jv_iconst hx hb dX3_time_28 ?_
  refine jv_icmp_ne (tgt := 36) hx hb dX3_time_29 (by decide) (by omega) (by omega) (fun c29 => ?_) (fun c29 => ?_)
  · refine lv_aload hx hb dX3_time_36 (lv_at hl 1 rfl) ?_
    refine lv_iload hx hb dX3_time_38 (lv_at hl 0 rfl) ?_
    refine lv_iload_n hx hb dX3_time_40 rfl (lv_at hl 4 rfl) ?_
    refine lv_iload_n hx hb dX3_time_41 rfl (lv_at hl 5 rfl) ?_
    refine pu_call1 (va_runV (As := [.int (jI (cPiece (bCh z d) I)), .int (jI (I)), .int (jI (bI mo))]) (rest := []) ⟨hx, hb, hml, hown, hts⟩ (c_wholeTime l D g (ad (2 + 12 * d + 6 + bC z d)) (bCh z d) (cPiece (bCh z d) I) I mo ok_S (by omega) rfl (by omega)) (cwV 3 hts (gd_V kw_275 kw_276 kw_277 kw_15 kcX2_wholeTime) rfl rfl rfl (by decide +kernel) ⟨Nat.le_of_ble_eq_true rfl, Nat.le_of_ble_eq_true rfl⟩) (pu_preV hq_S hK rfl h1_S) rfl rfl hl.1 rfl (lv_room (Nat.le_of_ble_eq_true rfl)) dX3_time_42 ⟨Nat.zero_le _, Nat.zero_le _⟩) ?_
    exact pu_iret hx hb hr hlocks dX3_time_45 (by rw [if_neg c29])
  · refine jv_iconst hx hb dX3_time_32 ?_
    refine lv_goto (tgt := 45) hx hb dX3_time_33 (by decide) ?_
    exact pu_iret hx hb hr hlocks dX3_time_45 (by rw [if_pos c29])
set_option maxHeartbeats 4000000 in
set_option maxRecDepth 100000 in
theorem c_opensFrom (l : Launch) (D : va_G) (g : Nat → ClassId) (ad : Nat → Nat) (z : bSt) (rl : Nat → Nat → Bool) (ff : Nat → Nat → Int) (hz : bOK z) (d : Nat) (hd : d < bN z) : Met l yX3_opensFrom wsX3_opensFrom ({ frames := 2, cells := 0, slots := 0, locals := 44 }) (pu_Pc [.ref (ad 0), .int (jI ((d : Int)))] D vwCl (ty9 g) (fun H => bW D g ad z rl ff H)) (pu_Q (some (.int (jI (if 5000 < cStart (bCh z d) 0 then -1 else cStart (bCh z d) 0))))) 0 0 (fun _ => False) := by
  refine Met.ofW (cc := cX3_opensFrom) (maxL := 3) (ret := some .int) (by decide) rfl ?_
  intro p e s m args below meth c s₁ B hml hv
  obtain ⟨rfl, hPic, hK⟩ := hv
  have hx := B.exec
  have hb := B.bytes
  have hr := B.returns
  have hts := atoms_spec (ws := wsX3_opensFrom) B.pre
  have hown : s.vm.findClass RX3 = some m.cls := findClass_of_methodNamed B.named
  have hlocks := B.notSynchronized
  have hx0 : va_at D vwCl (ad 0, .inr (3, [.ref (ad 1), .int (jI ((bN z : Int))), .int (jI (bV z))])) s.heap := hPic 0 (by omega)
  have hx1 : va_at D vwCl (ad 1, .inl (g 2, 8, .inr (.inr (.inr (.inr (fun j => some (ad (2 + 12 * j)))))))) s.heap := hPic 1 (by omega)
  have hN := hz.1
  have hd0_d : va_at D vwCl (ad (2 + 12 * d), .inr (1, [.int (jI ((d : Int))), .ref (ad (2 + 12 * d + 1)), .ref (ad (2 + 12 * d + 5)), .ref (ad (2 + 12 * d + 10)), .ref (ad (2 + 12 * d + 11)), va_rf ((bU z d).map (fun u => ad (2 + 12 * u))), .int (jI ((bO z d : Int))), .int (jI ((bC z d : Int))), .int (jI (bZ z d))])) s.heap := bW_at hPic (i := d) (by omega) 0 (by omega)
  have f_S := hz.2.2.1 d (by omega)
  have hq_S : sAt D g (ad (2 + 12 * d + 6 + bC z d)) (bCh z d) s.heap := bW_set hPic (by omega) (by omega)
  have ok_S : sOK (bCh z d) := f_S.2.2.2.2.2 (bC z d) f_S.2.2.1
  obtain ⟨ac_S, ap_S, al_S, am_S, h1_S, -⟩ := id hq_S
  have r1 := cSb_spec ok_S (I := 0) (by omega) (sN (bCh z d)) 0 (by omega)
  have e1 : cStart (bCh z d) 0 = cSb (bCh z d) 0 (sN (bCh z d)) 0 := rfl
  have hl := lv_entry ([.ref (ad 0), .int (jI ((d : Int)))]) (n := 3) (Nat.le_of_ble_eq_true rfl)
  rw [lg_entry_eq]
  generalize (lg_sl ([.ref (ad 0), .int (jI ((d : Int)))]) ++ List.replicate (3 - (lg_sl ([.ref (ad 0), .int (jI ((d : Int)))])).length) Slot.unset).toArray = ls at hl ⊢
  have hl : lv_has ls 3 [(0, .ref (ad 0)), (1, .int (jI ((d : Int))))] := hl
  refine lv_aload_n hx hb dX3_opensFrom_0 rfl (lv_at hl 0 rfl) ?_
  refine lv_iload_n hx hb dX3_opensFrom_1 rfl (lv_at hl 1 rfl) ?_
  refine pu_call1 (va_runV (As := [.int (jI ((d : Int)))]) (rest := []) ⟨hx, hb, hml, hown, hts⟩ (c_known l D g ad z rl ff hz d hd) (cwV 1 hts (gd_V kw_140 kw_142 kw_0 kw_12 kcX3_known) rfl rfl rfl (by decide +kernel) ⟨Nat.le_of_ble_eq_true rfl, Nat.le_of_ble_eq_true rfl⟩) (pu_preV hPic hK rfl hx0) rfl rfl hl.1 rfl (lv_room (Nat.le_of_ble_eq_true rfl)) dX3_opensFrom_2 ⟨Nat.zero_le _, Nat.zero_le _⟩) ?_
  refine pu_call1 (va_runV (As := []) (rest := []) ⟨hx, hb, hml, hown, hts⟩ (c_chosenSetting l D g ad z rl ff hz d (by omega)) (cwV 0 hts (gd_V kw_267 kw_268 kw_269 kw_13 kcX1_chosenSetting) rfl rfl rfl (by decide +kernel) ⟨Nat.le_of_ble_eq_true rfl, Nat.le_of_ble_eq_true rfl⟩) (pu_preV hPic hK rfl hd0_d) rfl rfl hl.1 rfl (lv_room (Nat.le_of_ble_eq_true rfl)) dX3_opensFrom_5 ⟨Nat.zero_le _, Nat.zero_le _⟩) ?_
  refine jv_iconst hx hb dX3_opensFrom_8 ?_
  refine pu_call1 (va_runV (As := [.int (jI (0))]) (rest := []) ⟨hx, hb, hml, hown, hts⟩ (c_startBehind l D g (ad (2 + 12 * d + 6 + bC z d)) (bCh z d) 0 ok_S (by omega)) (cwV 1 hts (gd_V kw_294 kw_295 kw_296 kw_15 kcX2_startBehind) rfl rfl rfl (by decide +kernel) ⟨Nat.le_of_ble_eq_true rfl, Nat.le_of_ble_eq_true rfl⟩) (pu_preV hq_S hK rfl h1_S) rfl rfl hl.1 rfl (lv_room (Nat.le_of_ble_eq_true rfl)) dX3_opensFrom_9 ⟨Nat.zero_le _, Nat.zero_le _⟩) ?_
  refine lv_istore_n (lv' := [(2, .int (jI (cStart (bCh z d) 0))), (0, .ref (ad 0)), (1, .int (jI ((d : Int))))]) hx hb dX3_opensFrom_12 rfl hl (by decide) rfl (fun ls hl => ?_)
  refine lv_iload_n hx hb dX3_opensFrom_13 rfl (lv_at hl 0 rfl) ?_
  refine jv_sipush hx hb dX3_opensFrom_14 (by decide) ?_
  refine jv_icmp_le (tgt := 24) hx hb dX3_opensFrom_17 (by decide) (by omega) (by omega) (fun c17 => ?_) (fun c17 => ?_)
  · refine lv_iload_n hx hb dX3_opensFrom_24 rfl (lv_at hl 0 rfl) ?_
    exact pu_iret hx hb hr hlocks dX3_opensFrom_25 (by rw [if_neg (by omega)])
  · refine jv_iconst hx hb dX3_opensFrom_20 ?_
    refine lv_goto (tgt := 25) hx hb dX3_opensFrom_21 (by decide) ?_
    exact pu_iret hx hb hr hlocks dX3_opensFrom_25 (by rw [if_pos (by omega)])
set_option maxHeartbeats 4000000 in
set_option maxRecDepth 100000 in
theorem c_order (l : Launch) (D : va_G) (g : Nat → ClassId) (ad : Nat → Nat) (z : bSt) (rl : Nat → Nat → Bool) (ff : Nat → Nat → Int) (hz : bOK z) (d u : Nat) (mg : Int) (hd : d < bN z) (hu : u < bN z) (hdu : d ≠ u) (hmg : 0 ≤ mg ∧ mg ≤ 10000) : Met l yX3_order wsX3_order ({ frames := 5, cells := 0, slots := 0, locals := 140 }) (pu_Pc [.ref (ad 0), .int (jI ((d : Int))), .int (jI ((u : Int))), .int (jI (mg))] D vwCl (ty9 g) (fun H => bW D g ad z rl ff H)) (pu_Q (some (.int (jI (cFb (cBrk (bCh z d) (bCh z u) mg) (cEnd (bCh z d) (bCh z u))))))) 0 0 (fun _ => False) := by
  refine Met.ofW (cc := cX3_order) (maxL := 4) (ret := some .int) (by decide) rfl ?_
  intro p e s m args below meth c s₁ B hml hv
  obtain ⟨rfl, hPic, hK⟩ := hv
  have hx := B.exec
  have hb := B.bytes
  have hr := B.returns
  have hts := atoms_spec (ws := wsX3_order) B.pre
  have hown : s.vm.findClass RX3 = some m.cls := findClass_of_methodNamed B.named
  have hlocks := B.notSynchronized
  have hx0 : va_at D vwCl (ad 0, .inr (3, [.ref (ad 1), .int (jI ((bN z : Int))), .int (jI (bV z))])) s.heap := hPic 0 (by omega)
  have hx1 : va_at D vwCl (ad 1, .inl (g 2, 8, .inr (.inr (.inr (.inr (fun j => some (ad (2 + 12 * j)))))))) s.heap := hPic 1 (by omega)
  have hN := hz.1
  have hd0_d : va_at D vwCl (ad (2 + 12 * d), .inr (1, [.int (jI ((d : Int))), .ref (ad (2 + 12 * d + 1)), .ref (ad (2 + 12 * d + 5)), .ref (ad (2 + 12 * d + 10)), .ref (ad (2 + 12 * d + 11)), va_rf ((bU z d).map (fun u => ad (2 + 12 * u))), .int (jI ((bO z d : Int))), .int (jI ((bC z d : Int))), .int (jI (bZ z d))])) s.heap := bW_at hPic (i := d) (by omega) 0 (by omega)
  have hd0_u : va_at D vwCl (ad (2 + 12 * u), .inr (1, [.int (jI ((u : Int))), .ref (ad (2 + 12 * u + 1)), .ref (ad (2 + 12 * u + 5)), .ref (ad (2 + 12 * u + 10)), .ref (ad (2 + 12 * u + 11)), va_rf ((bU z u).map (fun u => ad (2 + 12 * u))), .int (jI ((bO z u : Int))), .int (jI ((bC z u : Int))), .int (jI (bZ z u))])) s.heap := bW_at hPic (i := u) (by omega) 0 (by omega)
  have f_S := hz.2.2.1 d (by omega)
  have hq_S : sAt D g (ad (2 + 12 * d + 6 + bC z d)) (bCh z d) s.heap := bW_set hPic (by omega) (by omega)
  have ok_S : sOK (bCh z d) := f_S.2.2.2.2.2 (bC z d) f_S.2.2.1
  obtain ⟨ac_S, ap_S, al_S, am_S, h1_S, -⟩ := id hq_S
  have f_T := hz.2.2.1 u (by omega)
  have hq_T : sAt D g (ad (2 + 12 * u + 6 + bC z u)) (bCh z u) s.heap := bW_set hPic (by omega) (by omega)
  have ok_T : sOK (bCh z u) := f_T.2.2.2.2.2 (bC z u) f_T.2.2.1
  obtain ⟨ac_T, ap_T, al_T, am_T, h1_T, -⟩ := id hq_T
  have hl := lv_entry ([.ref (ad 0), .int (jI ((d : Int))), .int (jI ((u : Int))), .int (jI (mg))]) (n := 4) (Nat.le_of_ble_eq_true rfl)
  rw [lg_entry_eq]
  generalize (lg_sl ([.ref (ad 0), .int (jI ((d : Int))), .int (jI ((u : Int))), .int (jI (mg))]) ++ List.replicate (4 - (lg_sl ([.ref (ad 0), .int (jI ((d : Int))), .int (jI ((u : Int))), .int (jI (mg))])).length) Slot.unset).toArray = ls at hl ⊢
  have hl : lv_has ls 4 [(0, .ref (ad 0)), (1, .int (jI ((d : Int)))), (2, .int (jI ((u : Int)))), (3, .int (jI (mg)))] := hl
  refine lv_iload_n hx hb dX3_order_0 rfl (lv_at hl 1 rfl) ?_
  refine lv_iload_n hx hb dX3_order_1 rfl (lv_at hl 2 rfl) ?_
  refine lv_iload_n hx hb dX3_order_2 rfl (lv_at hl 3 rfl) ?_
  refine pu_call (va_runS (As := [.int (jI ((d : Int))), .int (jI ((u : Int))), .int (jI (mg))]) (rest := []) ⟨hx, hb, hml, hown, hts⟩ (c_demandPair l D g (d : Int) (u : Int) mg (by omega) (by omega) (by omega) hmg) (cwS 3 hts (gd_S kw_308 kw_309 kw_12 kcX3_demandPair) rfl rfl rfl (by decide +kernel) ⟨Nat.le_of_ble_eq_true rfl, Nat.le_of_ble_eq_true rfl⟩) (pu_preS trivial hK) rfl rfl hl.1 rfl (lv_room (Nat.le_of_ble_eq_true rfl)) dX3_order_3 ⟨Nat.zero_le _, Nat.zero_le _⟩) ?_
  refine lv_aload_n hx hb dX3_order_6 rfl (lv_at hl 0 rfl) ?_
  refine lv_iload_n hx hb dX3_order_7 rfl (lv_at hl 1 rfl) ?_
  refine pu_call1 (va_runV (As := [.int (jI ((d : Int)))]) (rest := []) ⟨hx, hb, hml, hown, hts⟩ (c_known l D g ad z rl ff hz d hd) (cwV 1 hts (gd_V kw_140 kw_142 kw_0 kw_12 kcX3_known) rfl rfl rfl (by decide +kernel) ⟨Nat.le_of_ble_eq_true rfl, Nat.le_of_ble_eq_true rfl⟩) (pu_preV hPic hK rfl hx0) rfl rfl hl.1 rfl (lv_room (Nat.le_of_ble_eq_true rfl)) dX3_order_8 ⟨Nat.zero_le _, Nat.zero_le _⟩) ?_
  refine pu_call1 (va_runV (As := []) (rest := []) ⟨hx, hb, hml, hown, hts⟩ (c_chosenSetting l D g ad z rl ff hz d (by omega)) (cwV 0 hts (gd_V kw_267 kw_268 kw_269 kw_13 kcX1_chosenSetting) rfl rfl rfl (by decide +kernel) ⟨Nat.le_of_ble_eq_true rfl, Nat.le_of_ble_eq_true rfl⟩) (pu_preV hPic hK rfl hd0_d) rfl rfl hl.1 rfl (lv_room (Nat.le_of_ble_eq_true rfl)) dX3_order_11 ⟨Nat.zero_le _, Nat.zero_le _⟩) ?_
  refine lv_aload_n hx hb dX3_order_14 rfl (lv_at hl 0 rfl) ?_
  refine lv_iload_n hx hb dX3_order_15 rfl (lv_at hl 2 rfl) ?_
  refine pu_call1 (va_runV (As := [.int (jI ((u : Int)))]) (rest := [.ref (ad (2 + 12 * d + 6 + bC z d))]) ⟨hx, hb, hml, hown, hts⟩ (c_known l D g ad z rl ff hz u hu) (cwV 1 hts (gd_V kw_140 kw_142 kw_0 kw_12 kcX3_known) rfl rfl rfl (by decide +kernel) ⟨Nat.le_of_ble_eq_true rfl, Nat.le_of_ble_eq_true rfl⟩) (pu_preV hPic hK rfl hx0) rfl rfl hl.1 rfl (lv_room (Nat.le_of_ble_eq_true rfl)) dX3_order_16 ⟨Nat.zero_le _, Nat.zero_le _⟩) ?_
  refine pu_call1 (va_runV (As := []) (rest := [.ref (ad (2 + 12 * d + 6 + bC z d))]) ⟨hx, hb, hml, hown, hts⟩ (c_chosenSetting l D g ad z rl ff hz u (by omega)) (cwV 0 hts (gd_V kw_267 kw_268 kw_269 kw_13 kcX1_chosenSetting) rfl rfl rfl (by decide +kernel) ⟨Nat.le_of_ble_eq_true rfl, Nat.le_of_ble_eq_true rfl⟩) (pu_preV hPic hK rfl hd0_u) rfl rfl hl.1 rfl (lv_room (Nat.le_of_ble_eq_true rfl)) dX3_order_19 ⟨Nat.zero_le _, Nat.zero_le _⟩) ?_
  refine lv_iload_n hx hb dX3_order_22 rfl (lv_at hl 3 rfl) ?_
  refine pu_call1 (va_runS (As := [.ref (ad (2 + 12 * d + 6 + bC z d)), .ref (ad (2 + 12 * u + 6 + bC z u)), .int (jI (mg))]) (rest := []) ⟨hx, hb, hml, hown, hts⟩ (c_firstBroken l D g (ad (2 + 12 * d + 6 + bC z d)) (ad (2 + 12 * u + 6 + bC z u)) (bCh z d) (bCh z u) mg ok_S ok_T hmg) (cwS 3 hts (gd_S kw_312 kw_313 kw_12 kcX3_firstBroken) rfl rfl rfl (by decide +kernel) ⟨Nat.le_of_ble_eq_true rfl, Nat.le_of_ble_eq_true rfl⟩) (pu_preS ⟨hq_S, hq_T⟩ hK) rfl rfl hl.1 rfl (lv_room (Nat.le_of_ble_eq_true rfl)) dX3_order_23 ⟨Nat.zero_le _, Nat.zero_le _⟩) ?_
  exact pu_iret hx hb hr hlocks dX3_order_26 (by rfl)
set_option maxHeartbeats 4000000 in
set_option maxRecDepth 100000 in
theorem c_broken (l : Launch) (D : va_G) (g : Nat → ClassId) (ad : Nat → Nat) (z : bSt) (rl : Nat → Nat → Bool) (ff : Nat → Nat → Int) (hz : bOK z) (d u : Nat) (mg : Int) (hd : d < bN z) (hu : u < bN z) (hdu : d ≠ u) (hmg : 0 ≤ mg ∧ mg ≤ 10000) : Met l yX3_broken wsX3_broken ({ frames := 6, cells := 0, slots := 0, locals := 170 }) (pu_Pc [.ref (ad 0), .int (jI ((d : Int))), .int (jI ((u : Int))), .int (jI (mg))] D vwCl (ty9 g) (fun H => bW D g ad z rl ff H)) (pu_Q (some (.int (jI (cCnt (cBrk (bCh z d) (bCh z u) mg) (cEnd (bCh z d) (bCh z u)) 13 1 0))))) 0 0 (fun _ => False) := by
  refine Met.ofW (cc := cX3_broken) (maxL := 4) (ret := some .int) (by decide) rfl ?_
  intro p e s m args below meth c s₁ B hml hv
  obtain ⟨rfl, hPic, hK⟩ := hv
  have hx := B.exec
  have hb := B.bytes
  have hr := B.returns
  have hts := atoms_spec (ws := wsX3_broken) B.pre
  have hown : s.vm.findClass RX3 = some m.cls := findClass_of_methodNamed B.named
  have hlocks := B.notSynchronized
  have hx0 : va_at D vwCl (ad 0, .inr (3, [.ref (ad 1), .int (jI ((bN z : Int))), .int (jI (bV z))])) s.heap := hPic 0 (by omega)
  have hx1 : va_at D vwCl (ad 1, .inl (g 2, 8, .inr (.inr (.inr (.inr (fun j => some (ad (2 + 12 * j)))))))) s.heap := hPic 1 (by omega)
  have hN := hz.1
  have hd0_d : va_at D vwCl (ad (2 + 12 * d), .inr (1, [.int (jI ((d : Int))), .ref (ad (2 + 12 * d + 1)), .ref (ad (2 + 12 * d + 5)), .ref (ad (2 + 12 * d + 10)), .ref (ad (2 + 12 * d + 11)), va_rf ((bU z d).map (fun u => ad (2 + 12 * u))), .int (jI ((bO z d : Int))), .int (jI ((bC z d : Int))), .int (jI (bZ z d))])) s.heap := bW_at hPic (i := d) (by omega) 0 (by omega)
  have hd0_u : va_at D vwCl (ad (2 + 12 * u), .inr (1, [.int (jI ((u : Int))), .ref (ad (2 + 12 * u + 1)), .ref (ad (2 + 12 * u + 5)), .ref (ad (2 + 12 * u + 10)), .ref (ad (2 + 12 * u + 11)), va_rf ((bU z u).map (fun u => ad (2 + 12 * u))), .int (jI ((bO z u : Int))), .int (jI ((bC z u : Int))), .int (jI (bZ z u))])) s.heap := bW_at hPic (i := u) (by omega) 0 (by omega)
  have f_S := hz.2.2.1 d (by omega)
  have hq_S : sAt D g (ad (2 + 12 * d + 6 + bC z d)) (bCh z d) s.heap := bW_set hPic (by omega) (by omega)
  have ok_S : sOK (bCh z d) := f_S.2.2.2.2.2 (bC z d) f_S.2.2.1
  obtain ⟨ac_S, ap_S, al_S, am_S, h1_S, -⟩ := id hq_S
  have f_T := hz.2.2.1 u (by omega)
  have hq_T : sAt D g (ad (2 + 12 * u + 6 + bC z u)) (bCh z u) s.heap := bW_set hPic (by omega) (by omega)
  have ok_T : sOK (bCh z u) := f_T.2.2.2.2.2 (bC z u) f_T.2.2.1
  obtain ⟨ac_T, ap_T, al_T, am_T, h1_T, -⟩ := id hq_T
  have hl := lv_entry ([.ref (ad 0), .int (jI ((d : Int))), .int (jI ((u : Int))), .int (jI (mg))]) (n := 4) (Nat.le_of_ble_eq_true rfl)
  rw [lg_entry_eq]
  generalize (lg_sl ([.ref (ad 0), .int (jI ((d : Int))), .int (jI ((u : Int))), .int (jI (mg))]) ++ List.replicate (4 - (lg_sl ([.ref (ad 0), .int (jI ((d : Int))), .int (jI ((u : Int))), .int (jI (mg))])).length) Slot.unset).toArray = ls at hl ⊢
  have hl : lv_has ls 4 [(0, .ref (ad 0)), (1, .int (jI ((d : Int)))), (2, .int (jI ((u : Int)))), (3, .int (jI (mg)))] := hl
  refine lv_iload_n hx hb dX3_broken_0 rfl (lv_at hl 1 rfl) ?_
  refine lv_iload_n hx hb dX3_broken_1 rfl (lv_at hl 2 rfl) ?_
  refine lv_iload_n hx hb dX3_broken_2 rfl (lv_at hl 3 rfl) ?_
  refine pu_call (va_runS (As := [.int (jI ((d : Int))), .int (jI ((u : Int))), .int (jI (mg))]) (rest := []) ⟨hx, hb, hml, hown, hts⟩ (c_demandPair l D g (d : Int) (u : Int) mg (by omega) (by omega) (by omega) hmg) (cwS 3 hts (gd_S kw_308 kw_309 kw_12 kcX3_demandPair) rfl rfl rfl (by decide +kernel) ⟨Nat.le_of_ble_eq_true rfl, Nat.le_of_ble_eq_true rfl⟩) (pu_preS trivial hK) rfl rfl hl.1 rfl (lv_room (Nat.le_of_ble_eq_true rfl)) dX3_broken_3 ⟨Nat.zero_le _, Nat.zero_le _⟩) ?_
  refine lv_aload_n hx hb dX3_broken_6 rfl (lv_at hl 0 rfl) ?_
  refine lv_iload_n hx hb dX3_broken_7 rfl (lv_at hl 1 rfl) ?_
  refine pu_call1 (va_runV (As := [.int (jI ((d : Int)))]) (rest := []) ⟨hx, hb, hml, hown, hts⟩ (c_known l D g ad z rl ff hz d hd) (cwV 1 hts (gd_V kw_140 kw_142 kw_0 kw_12 kcX3_known) rfl rfl rfl (by decide +kernel) ⟨Nat.le_of_ble_eq_true rfl, Nat.le_of_ble_eq_true rfl⟩) (pu_preV hPic hK rfl hx0) rfl rfl hl.1 rfl (lv_room (Nat.le_of_ble_eq_true rfl)) dX3_broken_8 ⟨Nat.zero_le _, Nat.zero_le _⟩) ?_
  refine pu_call1 (va_runV (As := []) (rest := []) ⟨hx, hb, hml, hown, hts⟩ (c_chosenSetting l D g ad z rl ff hz d (by omega)) (cwV 0 hts (gd_V kw_267 kw_268 kw_269 kw_13 kcX1_chosenSetting) rfl rfl rfl (by decide +kernel) ⟨Nat.le_of_ble_eq_true rfl, Nat.le_of_ble_eq_true rfl⟩) (pu_preV hPic hK rfl hd0_d) rfl rfl hl.1 rfl (lv_room (Nat.le_of_ble_eq_true rfl)) dX3_broken_11 ⟨Nat.zero_le _, Nat.zero_le _⟩) ?_
  refine lv_aload_n hx hb dX3_broken_14 rfl (lv_at hl 0 rfl) ?_
  refine lv_iload_n hx hb dX3_broken_15 rfl (lv_at hl 2 rfl) ?_
  refine pu_call1 (va_runV (As := [.int (jI ((u : Int)))]) (rest := [.ref (ad (2 + 12 * d + 6 + bC z d))]) ⟨hx, hb, hml, hown, hts⟩ (c_known l D g ad z rl ff hz u hu) (cwV 1 hts (gd_V kw_140 kw_142 kw_0 kw_12 kcX3_known) rfl rfl rfl (by decide +kernel) ⟨Nat.le_of_ble_eq_true rfl, Nat.le_of_ble_eq_true rfl⟩) (pu_preV hPic hK rfl hx0) rfl rfl hl.1 rfl (lv_room (Nat.le_of_ble_eq_true rfl)) dX3_broken_16 ⟨Nat.zero_le _, Nat.zero_le _⟩) ?_
  refine pu_call1 (va_runV (As := []) (rest := [.ref (ad (2 + 12 * d + 6 + bC z d))]) ⟨hx, hb, hml, hown, hts⟩ (c_chosenSetting l D g ad z rl ff hz u (by omega)) (cwV 0 hts (gd_V kw_267 kw_268 kw_269 kw_13 kcX1_chosenSetting) rfl rfl rfl (by decide +kernel) ⟨Nat.le_of_ble_eq_true rfl, Nat.le_of_ble_eq_true rfl⟩) (pu_preV hPic hK rfl hd0_u) rfl rfl hl.1 rfl (lv_room (Nat.le_of_ble_eq_true rfl)) dX3_broken_19 ⟨Nat.zero_le _, Nat.zero_le _⟩) ?_
  refine lv_iload_n hx hb dX3_broken_22 rfl (lv_at hl 3 rfl) ?_
  refine pu_call1 (va_runS (As := [.ref (ad (2 + 12 * d + 6 + bC z d)), .ref (ad (2 + 12 * u + 6 + bC z u)), .int (jI (mg))]) (rest := []) ⟨hx, hb, hml, hown, hts⟩ (c_countBroken l D g (ad (2 + 12 * d + 6 + bC z d)) (ad (2 + 12 * u + 6 + bC z u)) (bCh z d) (bCh z u) mg ok_S ok_T hmg) (cwS 3 hts (gd_S kw_340 kw_341 kw_12 kcX3_countBroken) rfl rfl rfl (by decide +kernel) ⟨Nat.le_of_ble_eq_true rfl, Nat.le_of_ble_eq_true rfl⟩) (pu_preS ⟨hq_S, hq_T⟩ hK) rfl rfl hl.1 rfl (lv_room (Nat.le_of_ble_eq_true rfl)) dX3_broken_23 ⟨Nat.zero_le _, Nat.zero_le _⟩) ?_
  exact pu_iret hx hb hr hlocks dX3_broken_26 (by rfl)
set_option maxHeartbeats 4000000 in
set_option maxRecDepth 100000 in
theorem c_chosen (l : Launch) (D : va_G) (g : Nat → ClassId) (ad : Nat → Nat) (z : bSt) (rl : Nat → Nat → Bool) (ff : Nat → Nat → Int) (hz : bOK z) (d : Nat) (hd : d < bN z) : Met l yX3_chosen wsX3_chosen ({ frames := 1, cells := 0, slots := 0, locals := 21 }) (pu_Pc [.ref (ad 0), .int (jI ((d : Int)))] D vwCl (ty9 g) (fun H => bW D g ad z rl ff H)) (pu_Q (some (.int (jI (bC z d : Int))))) 0 0 (fun _ => False) := by
  refine Met.ofW (cc := cX3_chosen) (maxL := 2) (ret := some .int) (by decide) rfl ?_
  intro p e s m args below meth c s₁ B hml hv
  obtain ⟨rfl, hPic, hK⟩ := hv
  have hx := B.exec
  have hb := B.bytes
  have hr := B.returns
  have hts := atoms_spec (ws := wsX3_chosen) B.pre
  have hown : s.vm.findClass RX3 = some m.cls := findClass_of_methodNamed B.named
  have hlocks := B.notSynchronized
  have hx0 : va_at D vwCl (ad 0, .inr (3, [.ref (ad 1), .int (jI ((bN z : Int))), .int (jI (bV z))])) s.heap := hPic 0 (by omega)
  have hx1 : va_at D vwCl (ad 1, .inl (g 2, 8, .inr (.inr (.inr (.inr (fun j => some (ad (2 + 12 * j)))))))) s.heap := hPic 1 (by omega)
  have hN := hz.1
  have hd0_d : va_at D vwCl (ad (2 + 12 * d), .inr (1, [.int (jI ((d : Int))), .ref (ad (2 + 12 * d + 1)), .ref (ad (2 + 12 * d + 5)), .ref (ad (2 + 12 * d + 10)), .ref (ad (2 + 12 * d + 11)), va_rf ((bU z d).map (fun u => ad (2 + 12 * u))), .int (jI ((bO z d : Int))), .int (jI ((bC z d : Int))), .int (jI (bZ z d))])) s.heap := bW_at hPic (i := d) (by omega) 0 (by omega)
  have hl := lv_entry ([.ref (ad 0), .int (jI ((d : Int)))]) (n := 2) (Nat.le_of_ble_eq_true rfl)
  rw [lg_entry_eq]
  generalize (lg_sl ([.ref (ad 0), .int (jI ((d : Int)))]) ++ List.replicate (2 - (lg_sl ([.ref (ad 0), .int (jI ((d : Int)))])).length) Slot.unset).toArray = ls at hl ⊢
  have hl : lv_has ls 2 [(0, .ref (ad 0)), (1, .int (jI ((d : Int))))] := hl
  refine lv_aload_n hx hb dX3_chosen_0 rfl (lv_at hl 0 rfl) ?_
  refine lv_iload_n hx hb dX3_chosen_1 rfl (lv_at hl 1 rfl) ?_
  refine pu_call1 (va_runV (As := [.int (jI ((d : Int)))]) (rest := []) ⟨hx, hb, hml, hown, hts⟩ (c_known l D g ad z rl ff hz d hd) (cwV 1 hts (gd_V kw_140 kw_142 kw_0 kw_12 kcX3_known) rfl rfl rfl (by decide +kernel) ⟨Nat.le_of_ble_eq_true rfl, Nat.le_of_ble_eq_true rfl⟩) (pu_preV hPic hK rfl hx0) rfl rfl hl.1 rfl (lv_room (Nat.le_of_ble_eq_true rfl)) dX3_chosen_2 ⟨Nat.zero_le _, Nat.zero_le _⟩) ?_
  refine va_get (D := D) (ci := 1) (v := .int (jI ((bC z d : Int)))) (C := RX1) (T := TX1) (N := 9) hx hb hts (fun w h => List.mem_cons_of_mem _ (uw_X1 w h)) hown hK (j_P1 hd0_d) 0 rfl rfl 7 (by decide) (hts _ (List.mem_cons_of_mem _ kw_99)) (fun _ h9 => h9) rfl dX3_chosen_5 ?_
  exact pu_iret hx hb hr hlocks dX3_chosen_8 (by rfl)
set_option maxHeartbeats 4000000 in
set_option maxRecDepth 100000 in
theorem c_shortCurrent (l : Launch) (D : va_G) (g : Nat → ClassId) (ad : Nat → Nat) (z : bSt) (rl : Nat → Nat → Bool) (ff : Nat → Nat → Int) (hz : bOK z) (i : Nat) (hi : i < bN z) : Met l yX3_shortCurrent wsX3_shortCurrent ({ frames := 1, cells := 0, slots := 0, locals := 21 }) (pu_Pc [.ref (ad 0), .ref (ad (2 + 12 * i))] D vwCl (ty9 g) (fun H => bW D g ad z rl ff H)) (pu_Q (some (.int (jI (bShort z i))))) 0 0 (fun _ => False) := by
  refine Met.ofW (cc := cX3_shortCurrent) (maxL := 5) (ret := some .int) (by decide) rfl ?_
  intro p e s m args below meth c s₁ B hml hv
  obtain ⟨rfl, hPic, hK⟩ := hv
  have hx := B.exec
  have hb := B.bytes
  have hr := B.returns
  have hts := atoms_spec (ws := wsX3_shortCurrent) B.pre
  have hown : s.vm.findClass RX3 = some m.cls := findClass_of_methodNamed B.named
  have hlocks := B.notSynchronized
  have hx0 : va_at D vwCl (ad 0, .inr (3, [.ref (ad 1), .int (jI ((bN z : Int))), .int (jI (bV z))])) s.heap := hPic 0 (by omega)
  have hx1 : va_at D vwCl (ad 1, .inl (g 2, 8, .inr (.inr (.inr (.inr (fun j => some (ad (2 + 12 * j)))))))) s.heap := hPic 1 (by omega)
  have hN := hz.1
  have hV := hz.2.1
  have r1 := bSum_range hz 9 i (by omega) hi
  have hl := lv_entry ([.ref (ad 0), .ref (ad (2 + 12 * i))]) (n := 5) (Nat.le_of_ble_eq_true rfl)
  rw [lg_entry_eq]
  generalize (lg_sl ([.ref (ad 0), .ref (ad (2 + 12 * i))]) ++ List.replicate (5 - (lg_sl ([.ref (ad 0), .ref (ad (2 + 12 * i))])).length) Slot.unset).toArray = ls at hl ⊢
  have hl : lv_has ls 5 [(0, .ref (ad 0)), (1, .ref (ad (2 + 12 * i)))] := hl
  refine jv_lconst (k := 0) hx hb dX3_shortCurrent_0 (by decide) ?_
  refine lv_lstore_n (lv' := [(2, .long (jL (0))), (0, .ref (ad 0)), (1, .ref (ad (2 + 12 * i)))]) hx hb dX3_shortCurrent_1 rfl hl (by decide) rfl (fun ls hl => ?_)
  refine lv_aload_n hx hb dX3_shortCurrent_2 rfl (lv_at hl 2 rfl) ?_
  refine lv_astore (lv' := [(4, .ref (ad (2 + 12 * i))), (2, .long (jL (0))), (0, .ref (ad 0)), (1, .ref (ad (2 + 12 * i)))]) hx hb dX3_shortCurrent_3 hl (by decide) rfl (fun ls hl => ?_)
  refine jw_loop (X := Option Nat × Int × Nat) (fun x => x.2.2) (fun x ls => ((∀ j, x.1 = some j → j < x.2.2 ∧ j < bN z) ∧ bSum z 9 (some i) = x.2.1 + bSum z x.2.2 x.1) ∧ lv_has ls 5 [(0, .ref (ad 0)), (1, .ref (ad (2 + 12 * i))), (2, .long (jL (x.2.1))), (4, va_rf (x.1.map (fun u => ad (2 + 12 * u))))]) ?_ (some i, 0, 9) ls ⟨⟨fun j hj => by cases hj; dsimp only; omega, by simp⟩, lv_sub hl [2, 3, 1, 0] rfl⟩
  intro x ls hinv ih
  obtain ⟨o, sm, k⟩ := x
  obtain ⟨⟨hj, he⟩, hl⟩ := hinv
  dsimp only at hj he
  cases o with
  | none =>
    rw [bSum_none, Int.add_zero] at he
    have hl : lv_has ls 5 [(0, .ref (ad 0)), (1, .ref (ad (2 + 12 * i))), (2, .long (jL (sm))), (4, .null)] := hl
    refine lv_aloadN hx hb dX3_shortCurrent_5 (lv_at hl 3 rfl) ?_
    refine lv_ifnullN (tgt := 29) hx hb dX3_shortCurrent_7 (by decide) ?_
    refine lv_lload_n hx hb dX3_shortCurrent_29 rfl (lv_at hl 2 rfl) ?_
    refine jv_lconst (k := 1) hx hb dX3_shortCurrent_30 (by decide) ?_
    refine jv_lcmp_ge (tgt := 37) hx hb dX3_shortCurrent_31 dX3_shortCurrent_32 (by decide) (by omega) (by omega) (fun c31 => ?_) (fun c31 => ?_)
    · refine jv_ldc2 (k := 5000) hx hb hown (hts _ (List.mem_cons_of_mem _ kw_396)) (by decide) dX3_shortCurrent_37 ?_
      refine jv_ldc2 (k := 1000) hx hb hown (hts _ (List.mem_cons_of_mem _ kw_397)) (by decide) dX3_shortCurrent_40 ?_
      refine lv_aload_n hx hb dX3_shortCurrent_43 rfl (lv_at hl 0 rfl) ?_
      refine va_get (D := D) (ci := 3) (v := .int (jI (bV z))) (C := RX3) (T := TX3) (N := 3) hx hb hts (fun w h => List.mem_cons_of_mem _ (uw_X3 w h)) hown hK (j_P1 hx0) 0 rfl rfl 2 (by decide) (hts _ (List.mem_cons_of_mem _ kw_123)) (fun _ h9 => h9) rfl dX3_shortCurrent_44 ?_
      refine jv_i2l hx hb dX3_shortCurrent_47 (by omega) ?_
      refine jv_lmul hx hb dX3_shortCurrent_48 ?_
      refine lv_lload_n hx hb dX3_shortCurrent_49 rfl (lv_at hl 2 rfl) ?_
      refine jv_ldiv hx hb dX3_shortCurrent_50 (by omega) (by omega) ?_
      have fq1 := Int.ediv_nonneg (show 0 ≤ 1000 * bV z by omega) (show 0 ≤ sm by omega)
      have fq2 := Int.ediv_le_self sm (show 0 ≤ 1000 * bV z by omega)
      refine va_mmin_long hx hb (hml.trans hl.1.symm) hown (hts _ (List.mem_cons_of_mem _ kw_398)) (hts _ (List.mem_cons_of_mem _ kw_399)) (hts _ (List.mem_cons_of_mem _ kw_22)) (hts _ (List.mem_cons_of_mem _ kw_400)) (Nat.le_of_ble_eq_true rfl) (Nat.le_of_ble_eq_true rfl) (Nat.zero_le _) (Nat.zero_le _) dX3_shortCurrent_51 ?_
      rw [jL_min (by omega) (by omega)]
      refine jv_l2i hx hb dX3_shortCurrent_54 ?_
      exact pu_iret hx hb hr hlocks dX3_shortCurrent_55 (by rw [bShort, he])
    · exact absurd c31 (by omega)
  | some j =>
    obtain ⟨hjk, hjN⟩ := hj j rfl
    have hl : lv_has ls 5 [(0, .ref (ad 0)), (1, .ref (ad (2 + 12 * i))), (2, .long (jL (sm))), (4, .ref (ad (2 + 12 * j)))] := hl
    have fj := hz.2.2.1 j (by omega)
    have hd0_j : va_at D vwCl (ad (2 + 12 * j), .inr (1, [.int (jI ((j : Int))), .ref (ad (2 + 12 * j + 1)), .ref (ad (2 + 12 * j + 5)), .ref (ad (2 + 12 * j + 10)), .ref (ad (2 + 12 * j + 11)), va_rf ((bU z j).map (fun u => ad (2 + 12 * u))), .int (jI ((bO z j : Int))), .int (jI ((bC z j : Int))), .int (jI (bZ z j))])) s.heap := bW_at hPic (i := j) (by omega) 0 (by omega)
    refine lv_aload hx hb dX3_shortCurrent_5 (lv_at hl 3 rfl) ?_
    refine lv_ifnull hx hb dX3_shortCurrent_7 ?_
    refine lv_lload_n hx hb dX3_shortCurrent_10 rfl (lv_at hl 2 rfl) ?_
    refine lv_aload hx hb dX3_shortCurrent_11 (lv_at hl 3 rfl) ?_
    refine va_get (D := D) (ci := 1) (v := .int (jI (bZ z j))) (C := RX1) (T := TX1) (N := 9) hx hb hts (fun w h => List.mem_cons_of_mem _ (uw_X1 w h)) hown hK (j_P1 hd0_j) 0 rfl rfl 8 (by decide) (hts _ (List.mem_cons_of_mem _ kw_101)) (fun _ h9 => h9) rfl dX3_shortCurrent_13 ?_
    refine jv_i2l hx hb dX3_shortCurrent_16 (by omega) ?_
    refine jv_ladd hx hb dX3_shortCurrent_17 ?_
    refine lv_lstore_n (lv' := [(2, .long (jL (sm + (bZ z j)))), (0, .ref (ad 0)), (1, .ref (ad (2 + 12 * i))), (4, .ref (ad (2 + 12 * j)))]) hx hb dX3_shortCurrent_18 rfl hl (by decide) rfl (fun ls hl => ?_)
    refine lv_aload hx hb dX3_shortCurrent_19 (lv_at hl 3 rfl) ?_
    refine va_get (D := D) (ci := 1) (v := va_rf ((bU z j).map (fun u => ad (2 + 12 * u)))) (C := RX1) (T := TX1) (N := 9) hx hb hts (fun w h => List.mem_cons_of_mem _ (uw_X1 w h)) hown hK (j_P1 hd0_j) 0 rfl rfl 5 (by decide) (hts _ (List.mem_cons_of_mem _ kw_95)) (fun _ h9 => h9) rfl dX3_shortCurrent_21 ?_
    refine jv_astore (lv' := [(4, va_rf ((bU z j).map (fun u => ad (2 + 12 * u)))), (2, .long (jL (sm + (bZ z j)))), (0, .ref (ad 0)), (1, .ref (ad (2 + 12 * i)))]) hx hb dX3_shortCurrent_24 hl (by decide) rfl (fun ls hl => ?_)
    refine lv_goto (tgt := 5) hx hb dX3_shortCurrent_26 (by decide) ?_
    exact ih (bU z j, sm + bZ z j, k - 1) ls ⟨⟨fun u hu => by have := hz.2.2.2 j u hjN hu; dsimp only; omega, by dsimp only; rw [he, bSum_some hjk]; omega⟩, lv_sub hl [2, 3, 1, 0] rfl⟩ (by dsimp only; omega)
set_option maxHeartbeats 4000000 in
set_option maxRecDepth 100000 in
theorem c_quickestOnWay (l : Launch) (D : va_G) (g : Nat → ClassId) (ad : Nat → Nat) (z : bSt) (rl : Nat → Nat → Bool) (ff : Nat → Nat → Int) (hz : bOK z) (i : Nat) (I : Int) (hi : i < bN z) (hI : 0 ≤ I ∧ I ≤ 5000) : Met l yX3_quickestOnWay wsX3_quickestOnWay ({ frames := 2, cells := 0, slots := 0, locals := 65 }) (pu_Pc [.ref (ad (2 + 12 * i)), .int (jI (I))] D vwCl (ty9 g) (fun H => bW D g ad z rl ff H)) (pu_Q (some (.ref (ad (2 + 12 * (bQk z I 9 (bU z i) i) + 6 + bC z (bQk z I 9 (bU z i) i)))))) 0 0 (fun _ => False) := by
  refine Met.ofW (cc := cX3_quickestOnWay) (maxL := 4) (ret := some (.object "BreakerOrders$Setting")) (by decide) rfl ?_
  intro p e s m args below meth c s₁ B hml hv
  obtain ⟨rfl, hPic, hK⟩ := hv
  have hx := B.exec
  have hb := B.bytes
  have hr := B.returns
  have hts := atoms_spec (ws := wsX3_quickestOnWay) B.pre
  have hown : s.vm.findClass RX3 = some m.cls := findClass_of_methodNamed B.named
  have hlocks := B.notSynchronized
  have hN := hz.1
  have hd0_i : va_at D vwCl (ad (2 + 12 * i), .inr (1, [.int (jI ((i : Int))), .ref (ad (2 + 12 * i + 1)), .ref (ad (2 + 12 * i + 5)), .ref (ad (2 + 12 * i + 10)), .ref (ad (2 + 12 * i + 11)), va_rf ((bU z i).map (fun u => ad (2 + 12 * u))), .int (jI ((bO z i : Int))), .int (jI ((bC z i : Int))), .int (jI (bZ z i))])) s.heap := bW_at hPic (i := i) (by omega) 0 (by omega)
  have hl := lv_entry ([.ref (ad (2 + 12 * i)), .int (jI (I))]) (n := 4) (Nat.le_of_ble_eq_true rfl)
  rw [lg_entry_eq]
  generalize (lg_sl ([.ref (ad (2 + 12 * i)), .int (jI (I))]) ++ List.replicate (4 - (lg_sl ([.ref (ad (2 + 12 * i)), .int (jI (I))])).length) Slot.unset).toArray = ls at hl ⊢
  have hl : lv_has ls 4 [(0, .ref (ad (2 + 12 * i))), (1, .int (jI (I)))] := hl
  refine lv_aload_n hx hb dX3_quickestOnWay_0 rfl (lv_at hl 0 rfl) ?_
  refine pu_call1 (va_runV (As := []) (rest := []) ⟨hx, hb, hml, hown, hts⟩ (c_chosenSetting l D g ad z rl ff hz i (by omega)) (cwV 0 hts (gd_V kw_267 kw_268 kw_269 kw_13 kcX1_chosenSetting) rfl rfl rfl (by decide +kernel) ⟨Nat.le_of_ble_eq_true rfl, Nat.le_of_ble_eq_true rfl⟩) (pu_preV hPic hK rfl hd0_i) rfl rfl hl.1 rfl (lv_room (Nat.le_of_ble_eq_true rfl)) dX3_quickestOnWay_1 ⟨Nat.zero_le _, Nat.zero_le _⟩) ?_
  refine lv_astore_n (lv' := [(2, .ref (ad (2 + 12 * i + 6 + bC z i))), (0, .ref (ad (2 + 12 * i))), (1, .int (jI (I)))]) hx hb dX3_quickestOnWay_4 rfl hl (by decide) rfl (fun ls hl => ?_)
  refine lv_aload_n hx hb dX3_quickestOnWay_5 rfl (lv_at hl 1 rfl) ?_
  refine va_get (D := D) (ci := 1) (v := va_rf ((bU z i).map (fun u => ad (2 + 12 * u)))) (C := RX1) (T := TX1) (N := 9) hx hb hts (fun w h => List.mem_cons_of_mem _ (uw_X1 w h)) hown hK (j_P1 hd0_i) 0 rfl rfl 5 (by decide) (hts _ (List.mem_cons_of_mem _ kw_95)) (fun _ h9 => h9) rfl dX3_quickestOnWay_6 ?_
  refine jv_astore_n (lv' := [(3, va_rf ((bU z i).map (fun u => ad (2 + 12 * u)))), (2, .ref (ad (2 + 12 * i + 6 + bC z i))), (0, .ref (ad (2 + 12 * i))), (1, .int (jI (I)))]) hx hb dX3_quickestOnWay_9 rfl hl (by decide) rfl (fun ls hl => ?_)
  refine jw_loop (X := Option Nat × Nat × Nat) (fun x => x.2.2) (fun x ls => ((∀ j, x.1 = some j → j < x.2.2 ∧ j < bN z) ∧ x.2.1 < bN z ∧ bQk z I 9 (bU z i) i = bQk z I x.2.2 x.1 x.2.1) ∧ lv_has ls 4 [(0, .ref (ad (2 + 12 * i))), (1, .int (jI (I))), (2, .ref (ad (2 + 12 * x.2.1 + 6 + bC z x.2.1))), (3, va_rf (x.1.map (fun u => ad (2 + 12 * u))))]) ?_ (bU z i, i, 9) ls ⟨⟨fun j hj => by have := hz.2.2.2 i j hi hj; dsimp only; omega, hi, rfl⟩, lv_sub hl [2, 3, 1, 0] rfl⟩
  intro x ls hinv ih
  obtain ⟨o, b, k⟩ := x
  obtain ⟨⟨hj, hbN, he⟩, hl⟩ := hinv
  dsimp only at hj hbN he
  cases o with
  | none =>
    rw [bQk_none] at he
    have hl : lv_has ls 4 [(0, .ref (ad (2 + 12 * i))), (1, .int (jI (I))), (2, .ref (ad (2 + 12 * b + 6 + bC z b))), (3, .null)] := hl
    refine lv_aload_nN hx hb dX3_quickestOnWay_10 rfl (lv_at hl 3 rfl) ?_
    refine lv_ifnullN (tgt := 42) hx hb dX3_quickestOnWay_11 (by decide) ?_
    refine lv_aload_n hx hb dX3_quickestOnWay_42 rfl (lv_at hl 2 rfl) ?_
    exact pu_aret hx hb hr hlocks dX3_quickestOnWay_43 (by rw [he])
  | some j =>
    obtain ⟨hjk, hjN⟩ := hj j rfl
    have hl : lv_has ls 4 [(0, .ref (ad (2 + 12 * i))), (1, .int (jI (I))), (2, .ref (ad (2 + 12 * b + 6 + bC z b))), (3, .ref (ad (2 + 12 * j)))] := hl
    have hd0_j : va_at D vwCl (ad (2 + 12 * j), .inr (1, [.int (jI ((j : Int))), .ref (ad (2 + 12 * j + 1)), .ref (ad (2 + 12 * j + 5)), .ref (ad (2 + 12 * j + 10)), .ref (ad (2 + 12 * j + 11)), va_rf ((bU z j).map (fun u => ad (2 + 12 * u))), .int (jI ((bO z j : Int))), .int (jI ((bC z j : Int))), .int (jI (bZ z j))])) s.heap := bW_at hPic (i := j) (by omega) 0 (by omega)
    have f_j := hz.2.2.1 j (by omega)
    have hq_j : sAt D g (ad (2 + 12 * j + 6 + bC z j)) (bCh z j) s.heap := bW_set hPic (by omega) (by omega)
    have ok_j : sOK (bCh z j) := f_j.2.2.2.2.2 (bC z j) f_j.2.2.1
    obtain ⟨ac_j, ap_j, al_j, am_j, h1_j, -⟩ := id hq_j
    have f_b := hz.2.2.1 b (by omega)
    have hq_b : sAt D g (ad (2 + 12 * b + 6 + bC z b)) (bCh z b) s.heap := bW_set hPic (by omega) (by omega)
    have ok_b : sOK (bCh z b) := f_b.2.2.2.2.2 (bC z b) f_b.2.2.1
    obtain ⟨ac_b, ap_b, al_b, am_b, h1_b, -⟩ := id hq_b
    refine lv_aload_n hx hb dX3_quickestOnWay_10 rfl (lv_at hl 3 rfl) ?_
    refine lv_ifnull hx hb dX3_quickestOnWay_11 ?_
    refine lv_aload_n hx hb dX3_quickestOnWay_14 rfl (lv_at hl 3 rfl) ?_
    refine pu_call1 (va_runV (As := []) (rest := []) ⟨hx, hb, hml, hown, hts⟩ (c_chosenSetting l D g ad z rl ff hz j (by omega)) (cwV 0 hts (gd_V kw_267 kw_268 kw_269 kw_13 kcX1_chosenSetting) rfl rfl rfl (by decide +kernel) ⟨Nat.le_of_ble_eq_true rfl, Nat.le_of_ble_eq_true rfl⟩) (pu_preV hPic hK rfl hd0_j) rfl rfl hl.1 rfl (lv_room (Nat.le_of_ble_eq_true rfl)) dX3_quickestOnWay_15 ⟨Nat.zero_le _, Nat.zero_le _⟩) ?_
    refine jv_iconst hx hb dX3_quickestOnWay_18 ?_
    refine jv_iconst hx hb dX3_quickestOnWay_19 ?_
    refine lv_aload_n hx hb dX3_quickestOnWay_20 rfl (lv_at hl 2 rfl) ?_
    refine jv_iconst hx hb dX3_quickestOnWay_21 ?_
    refine lv_iload_n hx hb dX3_quickestOnWay_22 rfl (lv_at hl 1 rfl) ?_
    refine pu_call1 (va_runV (As := [.int (jI (bI true)), .int (jI (0)), .ref (ad (2 + 12 * b + 6 + bC z b)), .int (jI (bI true)), .int (jI (I))]) (rest := []) ⟨hx, hb, hml, hown, hts⟩ (c_isWithin l D g (ad (2 + 12 * j + 6 + bC z j)) (ad (2 + 12 * b + 6 + bC z b)) (bCh z j) (bCh z b) true true 0 I ok_j ok_b (by omega) (by omega)) (cwV 5 hts (gd_V kw_325 kw_326 kw_327 kw_15 kcX2_isWithin) rfl rfl rfl (by decide +kernel) ⟨Nat.le_of_ble_eq_true rfl, Nat.le_of_ble_eq_true rfl⟩) (pu_preV ⟨hq_j, hq_b⟩ hK rfl h1_j) rfl rfl hl.1 rfl (lv_room (Nat.le_of_ble_eq_true rfl)) dX3_quickestOnWay_23 ⟨Nat.zero_le _, Nat.zero_le _⟩) ?_
    refine jv_if_eq (tgt := 34) hx hb dX3_quickestOnWay_26 (by decide) (bI_rng _) (fun c26 => ?_) (fun c26 => ?_)
    · have c26 := bI_fa c26
      refine lv_aload_n hx hb dX3_quickestOnWay_34 rfl (lv_at hl 3 rfl) ?_
      refine va_get (D := D) (ci := 1) (v := va_rf ((bU z j).map (fun u => ad (2 + 12 * u)))) (C := RX1) (T := TX1) (N := 9) hx hb hts (fun w h => List.mem_cons_of_mem _ (uw_X1 w h)) hown hK (j_P1 hd0_j) 0 rfl rfl 5 (by decide) (hts _ (List.mem_cons_of_mem _ kw_95)) (fun _ h9 => h9) rfl dX3_quickestOnWay_35 ?_
      refine jv_astore_n (lv' := [(3, va_rf ((bU z j).map (fun u => ad (2 + 12 * u)))), (0, .ref (ad (2 + 12 * i))), (1, .int (jI (I))), (2, .ref (ad (2 + 12 * b + 6 + bC z b)))]) hx hb dX3_quickestOnWay_38 rfl hl (by decide) rfl (fun ls hl => ?_)
      refine lv_goto (tgt := 10) hx hb dX3_quickestOnWay_39 (by decide) ?_
      exact ih (bU z j, b, k - 1) ls ⟨⟨fun u hu => by have := hz.2.2.2 j u hjN hu; dsimp only; omega, by dsimp only; omega, by dsimp only; rw [he, bQk_some hjk, c26, if_neg (by decide)]⟩, lv_sub hl [1, 2, 3, 0] rfl⟩ (by dsimp only; omega)
    · have c26 := bI_tr c26
      refine lv_aload_n hx hb dX3_quickestOnWay_29 rfl (lv_at hl 3 rfl) ?_
      refine pu_call1 (va_runV (As := []) (rest := []) ⟨hx, hb, hml, hown, hts⟩ (c_chosenSetting l D g ad z rl ff hz j (by omega)) (cwV 0 hts (gd_V kw_267 kw_268 kw_269 kw_13 kcX1_chosenSetting) rfl rfl rfl (by decide +kernel) ⟨Nat.le_of_ble_eq_true rfl, Nat.le_of_ble_eq_true rfl⟩) (pu_preV hPic hK rfl hd0_j) rfl rfl hl.1 rfl (lv_room (Nat.le_of_ble_eq_true rfl)) dX3_quickestOnWay_30 ⟨Nat.zero_le _, Nat.zero_le _⟩) ?_
      refine lv_astore_n (lv' := [(2, .ref (ad (2 + 12 * j + 6 + bC z j))), (0, .ref (ad (2 + 12 * i))), (1, .int (jI (I))), (3, .ref (ad (2 + 12 * j)))]) hx hb dX3_quickestOnWay_33 rfl hl (by decide) rfl (fun ls hl => ?_)
      refine lv_aload_n hx hb dX3_quickestOnWay_34 rfl (lv_at hl 3 rfl) ?_
      refine va_get (D := D) (ci := 1) (v := va_rf ((bU z j).map (fun u => ad (2 + 12 * u)))) (C := RX1) (T := TX1) (N := 9) hx hb hts (fun w h => List.mem_cons_of_mem _ (uw_X1 w h)) hown hK (j_P1 hd0_j) 0 rfl rfl 5 (by decide) (hts _ (List.mem_cons_of_mem _ kw_95)) (fun _ h9 => h9) rfl dX3_quickestOnWay_35 ?_
      refine jv_astore_n (lv' := [(3, va_rf ((bU z j).map (fun u => ad (2 + 12 * u)))), (2, .ref (ad (2 + 12 * j + 6 + bC z j))), (0, .ref (ad (2 + 12 * i))), (1, .int (jI (I)))]) hx hb dX3_quickestOnWay_38 rfl hl (by decide) rfl (fun ls hl => ?_)
      refine lv_goto (tgt := 10) hx hb dX3_quickestOnWay_39 (by decide) ?_
      exact ih (bU z j, j, k - 1) ls ⟨⟨fun u hu => by have := hz.2.2.2 j u hjN hu; dsimp only; omega, by dsimp only; omega, by dsimp only; rw [he, bQk_some hjk, c26, if_pos rfl]⟩, lv_sub hl [2, 3, 1, 0] rfl⟩ (by dsimp only; omega)
set_option maxHeartbeats 4000000 in
set_option maxRecDepth 100000 in
theorem c_shortAt (l : Launch) (D : va_G) (g : Nat → ClassId) (ad : Nat → Nat) (z : bSt) (rl : Nat → Nat → Bool) (ff : Nat → Nat → Int) (hz : bOK z) (d : Nat) (hd : d < bN z) : Met l yX3_shortAt wsX3_shortAt ({ frames := 2, cells := 0, slots := 0, locals := 45 }) (pu_Pc [.ref (ad 0), .int (jI ((d : Int)))] D vwCl (ty9 g) (fun H => bW D g ad z rl ff H)) (pu_Q (some (.int (jI (bShort z d))))) 0 0 (fun _ => False) := by
  refine Met.ofW (cc := cX3_shortAt) (maxL := 2) (ret := some .int) (by decide) rfl ?_
  intro p e s m args below meth c s₁ B hml hv
  obtain ⟨rfl, hPic, hK⟩ := hv
  have hx := B.exec
  have hb := B.bytes
  have hr := B.returns
  have hts := atoms_spec (ws := wsX3_shortAt) B.pre
  have hown : s.vm.findClass RX3 = some m.cls := findClass_of_methodNamed B.named
  have hlocks := B.notSynchronized
  have hx0 : va_at D vwCl (ad 0, .inr (3, [.ref (ad 1), .int (jI ((bN z : Int))), .int (jI (bV z))])) s.heap := hPic 0 (by omega)
  have hx1 : va_at D vwCl (ad 1, .inl (g 2, 8, .inr (.inr (.inr (.inr (fun j => some (ad (2 + 12 * j)))))))) s.heap := hPic 1 (by omega)
  have hN := hz.1
  have hl := lv_entry ([.ref (ad 0), .int (jI ((d : Int)))]) (n := 2) (Nat.le_of_ble_eq_true rfl)
  rw [lg_entry_eq]
  generalize (lg_sl ([.ref (ad 0), .int (jI ((d : Int)))]) ++ List.replicate (2 - (lg_sl ([.ref (ad 0), .int (jI ((d : Int)))])).length) Slot.unset).toArray = ls at hl ⊢
  have hl : lv_has ls 2 [(0, .ref (ad 0)), (1, .int (jI ((d : Int))))] := hl
  refine lv_aload_n hx hb dX3_shortAt_0 rfl (lv_at hl 0 rfl) ?_
  refine lv_aload_n hx hb dX3_shortAt_1 rfl (lv_at hl 0 rfl) ?_
  refine lv_iload_n hx hb dX3_shortAt_2 rfl (lv_at hl 1 rfl) ?_
  refine pu_call1 (va_runV (As := [.int (jI ((d : Int)))]) (rest := [.ref (ad 0)]) ⟨hx, hb, hml, hown, hts⟩ (c_known l D g ad z rl ff hz d hd) (cwV 1 hts (gd_V kw_140 kw_142 kw_0 kw_12 kcX3_known) rfl rfl rfl (by decide +kernel) ⟨Nat.le_of_ble_eq_true rfl, Nat.le_of_ble_eq_true rfl⟩) (pu_preV hPic hK rfl hx0) rfl rfl hl.1 rfl (lv_room (Nat.le_of_ble_eq_true rfl)) dX3_shortAt_3 ⟨Nat.zero_le _, Nat.zero_le _⟩) ?_
  refine pu_call1 (va_runV (As := [.ref (ad (2 + 12 * d))]) (rest := []) ⟨hx, hb, hml, hown, hts⟩ (c_shortCurrent l D g ad z rl ff hz d hd) (cwV 1 hts (gd_V kw_392 kw_394 kw_2 kw_12 kcX3_shortCurrent) rfl rfl rfl (by decide +kernel) ⟨Nat.le_of_ble_eq_true rfl, Nat.le_of_ble_eq_true rfl⟩) (pu_preV hPic hK rfl hx0) rfl rfl hl.1 rfl (lv_room (Nat.le_of_ble_eq_true rfl)) dX3_shortAt_6 ⟨Nat.zero_le _, Nat.zero_le _⟩) ?_
  exact pu_iret hx hb hr hlocks dX3_shortAt_9 (by rfl)
set_option maxHeartbeats 4000000 in
set_option maxRecDepth 100000 in
theorem c_opens (l : Launch) (D : va_G) (g : Nat → ClassId) (ad : Nat → Nat) (z : bSt) (rl : Nat → Nat → Bool) (ff : Nat → Nat → Int) (hz : bOK z) (d : Nat) (kk : Int) (hd : d < bN z) (hk : 0 ≤ kk ∧ kk < 2147483648) : Met l yX3_opens wsX3_opens ({ frames := 3, cells := 0, slots := 0, locals := 88 }) (pu_Pc [.ref (ad 0), .int (jI ((d : Int))), .int (jI (kk))] D vwCl (ty9 g) (fun H => bW D g ad z rl ff H)) (pu_Q (some (.int (jI (if cPiece (bCh z (bQk z (bShort z d) 9 (bU z d) d)) (bShort z d) = -1 then -1 else bOp z (bShort z d) (bQk z (bShort z d) 9 (bU z d) d) 9 (some d) kk))))) 0 0 (fun _ => False) := by
  refine Met.ofW (cc := cX3_opens) (maxL := 8) (ret := some .int) (by decide) rfl ?_
  intro p e s m args below meth c s₁ B hml hv
  obtain ⟨rfl, hPic, hK⟩ := hv
  have hx := B.exec
  have hb := B.bytes
  have hr := B.returns
  have hts := atoms_spec (ws := wsX3_opens) B.pre
  have hown : s.vm.findClass RX3 = some m.cls := findClass_of_methodNamed B.named
  have hlocks := B.notSynchronized
  have hx0 : va_at D vwCl (ad 0, .inr (3, [.ref (ad 1), .int (jI ((bN z : Int))), .int (jI (bV z))])) s.heap := hPic 0 (by omega)
  have hx1 : va_at D vwCl (ad 1, .inl (g 2, 8, .inr (.inr (.inr (.inr (fun j => some (ad (2 + 12 * j)))))))) s.heap := hPic 1 (by omega)
  have hN := hz.1
  have rI := bShort_range hz d hd
  generalize hIe : bShort z d = I at rI ⊢
  have hqN : bQk z I 9 (bU z d) d < bN z := bQk_lt hz 9 (bU z d) d (fun u hu => by have := hz.2.2.2 d u hd hu; omega) hd
  generalize hQe : bQk z I 9 (bU z d) d = b at hqN ⊢
  have f_b := hz.2.2.1 b (by omega)
  have hq_b : sAt D g (ad (2 + 12 * b + 6 + bC z b)) (bCh z b) s.heap := bW_set hPic (by omega) (by omega)
  have ok_b : sOK (bCh z b) := f_b.2.2.2.2.2 (bC z b) f_b.2.2.1
  obtain ⟨ac_b, ap_b, al_b, am_b, h1_b, -⟩ := id hq_b
  have rP := cPiece_range (bCh z b) I
  have nb := ok_b.1
  have hl := lv_entry ([.ref (ad 0), .int (jI ((d : Int))), .int (jI (kk))]) (n := 8) (Nat.le_of_ble_eq_true rfl)
  rw [lg_entry_eq]
  generalize (lg_sl ([.ref (ad 0), .int (jI ((d : Int))), .int (jI (kk))]) ++ List.replicate (8 - (lg_sl ([.ref (ad 0), .int (jI ((d : Int))), .int (jI (kk))])).length) Slot.unset).toArray = ls at hl ⊢
  have hl : lv_has ls 8 [(0, .ref (ad 0)), (1, .int (jI ((d : Int)))), (2, .int (jI (kk)))] := hl
  refine lv_aload_n hx hb dX3_opens_0 rfl (lv_at hl 0 rfl) ?_
  refine lv_iload_n hx hb dX3_opens_1 rfl (lv_at hl 1 rfl) ?_
  refine pu_call1 (va_runV (As := [.int (jI ((d : Int)))]) (rest := []) ⟨hx, hb, hml, hown, hts⟩ (c_known l D g ad z rl ff hz d hd) (cwV 1 hts (gd_V kw_140 kw_142 kw_0 kw_12 kcX3_known) rfl rfl rfl (by decide +kernel) ⟨Nat.le_of_ble_eq_true rfl, Nat.le_of_ble_eq_true rfl⟩) (pu_preV hPic hK rfl hx0) rfl rfl hl.1 rfl (lv_room (Nat.le_of_ble_eq_true rfl)) dX3_opens_2 ⟨Nat.zero_le _, Nat.zero_le _⟩) ?_
  refine lv_astore_n (lv' := [(3, .ref (ad (2 + 12 * d))), (0, .ref (ad 0)), (1, .int (jI ((d : Int)))), (2, .int (jI (kk)))]) hx hb dX3_opens_5 rfl hl (by decide) rfl (fun ls hl => ?_)
  refine lv_iload_n hx hb dX3_opens_6 rfl (lv_at hl 3 rfl) ?_
  refine jv_iconst hx hb dX3_opens_7 ?_
  refine jv_ldc (k := 2147483647) hx hb hown (hts _ (List.mem_cons_of_mem _ kw_408)) (by decide) dX3_opens_8 ?_
  refine pu_call (va_runS (As := [.int (jI (kk)), .int (jI (0)), .int (jI (2147483647))]) (rest := []) ⟨hx, hb, hml, hown, hts⟩ (c_demandWithin l D g kk 0 2147483647 (by omega) (by omega) (by omega) (by omega)) (cwS 3 hts (gd_S kw_234 kw_235 kw_12 kcX3_demandWithin) rfl rfl rfl (by decide +kernel) ⟨Nat.le_of_ble_eq_true rfl, Nat.le_of_ble_eq_true rfl⟩) (pu_preS trivial hK) rfl rfl hl.1 rfl (lv_room (Nat.le_of_ble_eq_true rfl)) dX3_opens_10 ⟨Nat.zero_le _, Nat.zero_le _⟩) ?_
  refine lv_aload_n hx hb dX3_opens_13 rfl (lv_at hl 1 rfl) ?_
  refine lv_aload_n hx hb dX3_opens_14 rfl (lv_at hl 0 rfl) ?_
  refine pu_call1 (va_runV (As := [.ref (ad (2 + 12 * d))]) (rest := []) ⟨hx, hb, hml, hown, hts⟩ (c_shortCurrent l D g ad z rl ff hz d hd) (cwV 1 hts (gd_V kw_392 kw_394 kw_2 kw_12 kcX3_shortCurrent) rfl rfl rfl (by decide +kernel) ⟨Nat.le_of_ble_eq_true rfl, Nat.le_of_ble_eq_true rfl⟩) (pu_preV hPic hK rfl hx0) rfl rfl hl.1 rfl (lv_room (Nat.le_of_ble_eq_true rfl)) dX3_opens_15 ⟨Nat.zero_le _, Nat.zero_le _⟩) ?_
  rw [hIe]
  refine lv_istore (lv' := [(4, .int (jI (I))), (3, .ref (ad (2 + 12 * d))), (0, .ref (ad 0)), (1, .int (jI ((d : Int)))), (2, .int (jI (kk)))]) hx hb dX3_opens_18 hl (by decide) rfl (fun ls hl => ?_)
  refine lv_aload_n hx hb dX3_opens_20 rfl (lv_at hl 1 rfl) ?_
  refine lv_iload hx hb dX3_opens_21 (lv_at hl 0 rfl) ?_
  refine pu_call1 (va_runS (As := [.ref (ad (2 + 12 * d)), .int (jI (I))]) (rest := []) ⟨hx, hb, hml, hown, hts⟩ (c_quickestOnWay l D g ad z rl ff hz d I hd rI) (cwS 2 hts (gd_S kw_409 kw_410 kw_12 kcX3_quickestOnWay) rfl rfl rfl (by decide +kernel) ⟨Nat.le_of_ble_eq_true rfl, Nat.le_of_ble_eq_true rfl⟩) (pu_preS hPic hK) rfl rfl hl.1 rfl (lv_room (Nat.le_of_ble_eq_true rfl)) dX3_opens_23 ⟨Nat.zero_le _, Nat.zero_le _⟩) ?_
  rw [hQe]
  refine lv_astore (lv' := [(5, .ref (ad (2 + 12 * b + 6 + bC z b))), (4, .int (jI (I))), (3, .ref (ad (2 + 12 * d))), (0, .ref (ad 0)), (1, .int (jI ((d : Int)))), (2, .int (jI (kk)))]) hx hb dX3_opens_26 hl (by decide) rfl (fun ls hl => ?_)
  refine lv_aload hx hb dX3_opens_28 (lv_at hl 0 rfl) ?_
  refine lv_iload hx hb dX3_opens_30 (lv_at hl 1 rfl) ?_
  refine pu_call1 (va_runV (As := [.int (jI (I))]) (rest := []) ⟨hx, hb, hml, hown, hts⟩ (c_pieceAt l D g (ad (2 + 12 * b + 6 + bC z b)) (bCh z b) I ok_b rI) (cwV 1 hts (gd_V kw_271 kw_272 kw_273 kw_15 kcX2_pieceAt) rfl rfl rfl (by decide +kernel) ⟨Nat.le_of_ble_eq_true rfl, Nat.le_of_ble_eq_true rfl⟩) (pu_preV hq_b hK rfl h1_b) rfl rfl hl.1 rfl (lv_room (Nat.le_of_ble_eq_true rfl)) dX3_opens_32 ⟨Nat.zero_le _, Nat.zero_le _⟩) ?_
  refine jv_iconst hx hb dX3_opens_35 ?_
  refine jv_icmp_ne (tgt := 41) hx hb dX3_opens_36 (by decide) (by omega) (by omega) (fun c36 => ?_) (fun c36 => ?_)
  · refine lv_iload_n hx hb dX3_opens_41 rfl (lv_at hl 5 rfl) ?_
    refine lv_istore (lv' := [(6, .int (jI (kk))), (5, .ref (ad (2 + 12 * b + 6 + bC z b))), (4, .int (jI (I))), (3, .ref (ad (2 + 12 * d))), (0, .ref (ad 0)), (1, .int (jI ((d : Int)))), (2, .int (jI (kk)))]) hx hb dX3_opens_42 hl (by decide) rfl (fun ls hl => ?_)
    refine lv_aload_n hx hb dX3_opens_44 rfl (lv_at hl 3 rfl) ?_
    refine lv_astore (lv' := [(7, .ref (ad (2 + 12 * d))), (6, .int (jI (kk))), (5, .ref (ad (2 + 12 * b + 6 + bC z b))), (4, .int (jI (I))), (3, .ref (ad (2 + 12 * d))), (0, .ref (ad 0)), (1, .int (jI ((d : Int)))), (2, .int (jI (kk)))]) hx hb dX3_opens_45 hl (by decide) rfl (fun ls hl => ?_)
    rw [if_neg c36]
    refine jw_loop (X := Option Nat × Int × Nat) (fun x => x.2.2) (fun x ls => ((∀ j, x.1 = some j → j < x.2.2 ∧ j < bN z) ∧ (0 ≤ x.2.1 ∧ x.2.1 < 2147483648) ∧ bOp z I b 9 (some d) kk = bOp z I b x.2.2 x.1 x.2.1) ∧ lv_has ls 8 [(0, .ref (ad 0)), (1, .int (jI ((d : Int)))), (2, .int (jI (kk))), (3, .ref (ad (2 + 12 * d))), (4, .int (jI (I))), (5, .ref (ad (2 + 12 * b + 6 + bC z b))), (6, .int (jI (x.2.1))), (7, va_rf (x.1.map (fun u => ad (2 + 12 * u))))]) ?_ (some d, kk, 9) ls ⟨⟨fun j hj => by cases hj; dsimp only; omega, hk, rfl⟩, lv_sub hl [5, 6, 7, 4, 3, 2, 1, 0] rfl⟩
    intro x ls hinv ih
    obtain ⟨o, a, k⟩ := x
    obtain ⟨⟨hj, ha, he⟩, hl⟩ := hinv
    dsimp only at hj ha he
    cases o with
    | none =>
      rw [bOp_none] at he
      have hl : lv_has ls 8 [(0, .ref (ad 0)), (1, .int (jI ((d : Int)))), (2, .int (jI (kk))), (3, .ref (ad (2 + 12 * d))), (4, .int (jI (I))), (5, .ref (ad (2 + 12 * b + 6 + bC z b))), (6, .int (jI (a))), (7, .null)] := hl
      refine lv_aloadN hx hb dX3_opens_47 (lv_at hl 7 rfl) ?_
      refine lv_ifnullN (tgt := 94) hx hb dX3_opens_49 (by decide) ?_
      refine jv_iconst hx hb dX3_opens_94 ?_
      exact pu_iret hx hb hr hlocks dX3_opens_95 (by rw [he])
    | some j =>
      obtain ⟨hjk, hjN⟩ := hj j rfl
      have hl : lv_has ls 8 [(0, .ref (ad 0)), (1, .int (jI ((d : Int)))), (2, .int (jI (kk))), (3, .ref (ad (2 + 12 * d))), (4, .int (jI (I))), (5, .ref (ad (2 + 12 * b + 6 + bC z b))), (6, .int (jI (a))), (7, .ref (ad (2 + 12 * j)))] := hl
      have hd0_j : va_at D vwCl (ad (2 + 12 * j), .inr (1, [.int (jI ((j : Int))), .ref (ad (2 + 12 * j + 1)), .ref (ad (2 + 12 * j + 5)), .ref (ad (2 + 12 * j + 10)), .ref (ad (2 + 12 * j + 11)), va_rf ((bU z j).map (fun u => ad (2 + 12 * u))), .int (jI ((bO z j : Int))), .int (jI ((bC z j : Int))), .int (jI (bZ z j))])) s.heap := bW_at hPic (i := j) (by omega) 0 (by omega)
      have f_j := hz.2.2.1 j (by omega)
      have hq_j : sAt D g (ad (2 + 12 * j + 6 + bC z j)) (bCh z j) s.heap := bW_set hPic (by omega) (by omega)
      have ok_j : sOK (bCh z j) := f_j.2.2.2.2.2 (bC z j) f_j.2.2.1
      obtain ⟨ac_j, ap_j, al_j, am_j, h1_j, -⟩ := id hq_j
      refine lv_aload hx hb dX3_opens_47 (lv_at hl 7 rfl) ?_
      refine lv_ifnull hx hb dX3_opens_49 ?_
      refine lv_aload hx hb dX3_opens_52 (lv_at hl 7 rfl) ?_
      refine pu_call1 (va_runV (As := []) (rest := []) ⟨hx, hb, hml, hown, hts⟩ (c_chosenSetting l D g ad z rl ff hz j (by omega)) (cwV 0 hts (gd_V kw_267 kw_268 kw_269 kw_13 kcX1_chosenSetting) rfl rfl rfl (by decide +kernel) ⟨Nat.le_of_ble_eq_true rfl, Nat.le_of_ble_eq_true rfl⟩) (pu_preV hPic hK rfl hd0_j) rfl rfl hl.1 rfl (lv_room (Nat.le_of_ble_eq_true rfl)) dX3_opens_54 ⟨Nat.zero_le _, Nat.zero_le _⟩) ?_
      refine jv_iconst hx hb dX3_opens_57 ?_
      refine jv_iconst hx hb dX3_opens_58 ?_
      refine lv_aload hx hb dX3_opens_59 (lv_at hl 5 rfl) ?_
      refine jv_iconst hx hb dX3_opens_61 ?_
      refine lv_iload hx hb dX3_opens_62 (lv_at hl 4 rfl) ?_
      refine pu_call1 (va_runV (As := [.int (jI (bI false)), .int (jI (0)), .ref (ad (2 + 12 * b + 6 + bC z b)), .int (jI (bI true)), .int (jI (I))]) (rest := []) ⟨hx, hb, hml, hown, hts⟩ (c_isWithin l D g (ad (2 + 12 * j + 6 + bC z j)) (ad (2 + 12 * b + 6 + bC z b)) (bCh z j) (bCh z b) false true 0 I ok_j ok_b (by omega) (by omega)) (cwV 5 hts (gd_V kw_325 kw_326 kw_327 kw_15 kcX2_isWithin) rfl rfl rfl (by decide +kernel) ⟨Nat.le_of_ble_eq_true rfl, Nat.le_of_ble_eq_true rfl⟩) (pu_preV ⟨hq_j, hq_b⟩ hK rfl h1_j) rfl rfl hl.1 rfl (lv_room (Nat.le_of_ble_eq_true rfl)) dX3_opens_64 ⟨Nat.zero_le _, Nat.zero_le _⟩) ?_
      refine jv_if_eq (tgt := 84) hx hb dX3_opens_67 (by decide) (bI_rng _) (fun c67 => ?_) (fun c67 => ?_)
      · have c67 := bI_fa c67
        refine lv_aload hx hb dX3_opens_84 (lv_at hl 7 rfl) ?_
        refine va_get (D := D) (ci := 1) (v := va_rf ((bU z j).map (fun u => ad (2 + 12 * u)))) (C := RX1) (T := TX1) (N := 9) hx hb hts (fun w h => List.mem_cons_of_mem _ (uw_X1 w h)) hown hK (j_P1 hd0_j) 0 rfl rfl 5 (by decide) (hts _ (List.mem_cons_of_mem _ kw_95)) (fun _ h9 => h9) rfl dX3_opens_86 ?_
        refine jv_astore (lv' := [(7, va_rf ((bU z j).map (fun u => ad (2 + 12 * u)))), (0, .ref (ad 0)), (1, .int (jI ((d : Int)))), (2, .int (jI (kk))), (3, .ref (ad (2 + 12 * d))), (4, .int (jI (I))), (5, .ref (ad (2 + 12 * b + 6 + bC z b))), (6, .int (jI (a)))]) hx hb dX3_opens_89 hl (by decide) rfl (fun ls hl => ?_)
        refine lv_goto (tgt := 47) hx hb dX3_opens_91 (by decide) ?_
        exact ih (bU z j, a, k - 1) ls ⟨⟨fun u hu => by have := hz.2.2.2 j u hjN hu; dsimp only; omega, by dsimp only; omega, by dsimp only; rw [he, bOp_some hjk, c67, if_neg (by decide)]⟩, lv_sub hl [1, 2, 3, 4, 5, 6, 7, 0] rfl⟩ (by dsimp only; omega)
      · have c67 := bI_tr c67
        refine lv_iload hx hb dX3_opens_70 (lv_at hl 6 rfl) ?_
        refine jv_if_ne (tgt := 81) hx hb dX3_opens_72 (by decide) (by omega) (fun c72 => ?_) (fun c72 => ?_)
        · refine lv_iinc (v := jI (a + (-1))) (lv' := [(6, .int (jI (a + (-1)))), (0, .ref (ad 0)), (1, .int (jI ((d : Int)))), (2, .int (jI (kk))), (3, .ref (ad (2 + 12 * d))), (4, .int (jI (I))), (5, .ref (ad (2 + 12 * b + 6 + bC z b))), (7, .ref (ad (2 + 12 * j)))]) hx hb dX3_opens_81 hl (k := 6) rfl (jI_add _ _) (by decide) rfl (fun ls hl => ?_)
          refine lv_aload hx hb dX3_opens_84 (lv_at hl 7 rfl) ?_
          refine va_get (D := D) (ci := 1) (v := va_rf ((bU z j).map (fun u => ad (2 + 12 * u)))) (C := RX1) (T := TX1) (N := 9) hx hb hts (fun w h => List.mem_cons_of_mem _ (uw_X1 w h)) hown hK (j_P1 hd0_j) 0 rfl rfl 5 (by decide) (hts _ (List.mem_cons_of_mem _ kw_95)) (fun _ h9 => h9) rfl dX3_opens_86 ?_
          refine jv_astore (lv' := [(7, va_rf ((bU z j).map (fun u => ad (2 + 12 * u)))), (6, .int (jI (a + (-1)))), (0, .ref (ad 0)), (1, .int (jI ((d : Int)))), (2, .int (jI (kk))), (3, .ref (ad (2 + 12 * d))), (4, .int (jI (I))), (5, .ref (ad (2 + 12 * b + 6 + bC z b)))]) hx hb dX3_opens_89 hl (by decide) rfl (fun ls hl => ?_)
          refine lv_goto (tgt := 47) hx hb dX3_opens_91 (by decide) ?_
          exact ih (bU z j, a + (-1), k - 1) ls ⟨⟨fun u hu => by have := hz.2.2.2 j u hjN hu; dsimp only; omega, by dsimp only; omega, by dsimp only; rw [he, bOp_some hjk, c67, if_pos rfl, if_neg c72]⟩, lv_sub hl [2, 3, 4, 5, 6, 7, 1, 0] rfl⟩ (by dsimp only; omega)
        · refine lv_aload hx hb dX3_opens_75 (lv_at hl 7 rfl) ?_
          refine va_get (D := D) (ci := 1) (v := .int (jI ((j : Int)))) (C := RX1) (T := TX1) (N := 9) hx hb hts (fun w h => List.mem_cons_of_mem _ (uw_X1 w h)) hown hK (j_P1 hd0_j) 0 rfl rfl 0 (by decide) (hts _ (List.mem_cons_of_mem _ kw_85)) (fun _ h9 => h9) rfl dX3_opens_77 ?_
          exact pu_iret hx hb hr hlocks dX3_opens_80 (by rw [he, bOp_some hjk, c67, if_pos rfl, if_pos c72])
  · refine jv_iconst hx hb dX3_opens_39 ?_
    exact pu_iret hx hb hr hlocks dX3_opens_40 (by rw [if_pos c36])
set_option maxHeartbeats 4000000 in
set_option maxRecDepth 100000 in
theorem c_firstFitting0 (l : Launch) (D : va_G) (g : Nat → ClassId) (ad : Nat → Nat) (z : bSt) (rl : Nat → Nat → Bool) (ff : Nat → Nat → Int) (hz : bOK z) (i : Nat) (mg : Int) (hi : i < 8) (hmg : 0 ≤ mg ∧ mg ≤ 10000) : Met l yX3_firstFitting wsX3_firstFitting ({ frames := 4, cells := 0, slots := 0, locals := 113 }) (pu_Pc [.ref (ad (2 + 12 * i)), .null, .int (jI (mg))] D vwCl (ty9 g) (fun H => bW D g ad z rl ff H)) (pu_Q (some (.int (jI (cFit (fun j => !rl i j) (bO z i) 0))))) 0 0 (fun _ => False) := by
  refine Met.ofW (cc := cX3_firstFitting) (maxL := 4) (ret := some .int) (by decide) rfl ?_
  intro p e s m args below meth c s₁ B hml hv
  obtain ⟨rfl, hPic, hK⟩ := hv
  have hx := B.exec
  have hb := B.bytes
  have hr := B.returns
  have hts := atoms_spec (ws := wsX3_firstFitting) B.pre
  have hown : s.vm.findClass RX3 = some m.cls := findClass_of_methodNamed B.named
  have hlocks := B.notSynchronized
  have fi := hz.2.2.1 i hi
  have hd0_i : va_at D vwCl (ad (2 + 12 * i), .inr (1, [.int (jI ((i : Int))), .ref (ad (2 + 12 * i + 1)), .ref (ad (2 + 12 * i + 5)), .ref (ad (2 + 12 * i + 10)), .ref (ad (2 + 12 * i + 11)), va_rf ((bU z i).map (fun u => ad (2 + 12 * u))), .int (jI ((bO z i : Int))), .int (jI ((bC z i : Int))), .int (jI (bZ z i))])) s.heap := bW_at hPic (i := i) hi 0 (by omega)
  have hd5_i : va_at D vwCl (ad (2 + 12 * i + 5), .inl (g 3, 4, .inr (.inr (.inr (.inr (fun j => some (ad (2 + 12 * i + 6 + j)))))))) s.heap := bW_at hPic (i := i) hi 5 (by omega)
  have hd10_i : va_at D vwCl (ad (2 + 12 * i + 10), .inl (g 1, 4, .inl (fun j => jI (bI (rl i j))))) s.heap := bW_at hPic (i := i) hi 10 (by omega)
  have hl := lv_entry ([.ref (ad (2 + 12 * i)), .null, .int (jI (mg))]) (n := 4) (Nat.le_of_ble_eq_true rfl)
  rw [lg_entry_eq]
  generalize (lg_sl ([.ref (ad (2 + 12 * i)), .null, .int (jI (mg))]) ++ List.replicate (4 - (lg_sl ([.ref (ad (2 + 12 * i)), .null, .int (jI (mg))])).length) Slot.unset).toArray = ls at hl ⊢
  have hl : lv_has ls 4 [(0, .ref (ad (2 + 12 * i))), (1, .null), (2, .int (jI (mg)))] := hl
  refine jv_iconst hx hb dX3_firstFitting_0 ?_
  refine lv_istore_n (lv' := [(3, .int (jI (0))), (0, .ref (ad (2 + 12 * i))), (1, .null), (2, .int (jI (mg)))]) hx hb dX3_firstFitting_1 rfl hl (by decide) rfl (fun ls hl => ?_)
  refine jw_loop (X := Nat) (fun j => bO z i - j) (fun j ls => (j ≤ bO z i ∧ cFit (fun j => !rl i j) (bO z i) 0 = cFit (fun j => !rl i j) (bO z i - j) j) ∧ lv_has ls 4 [(0, .ref (ad (2 + 12 * i))), (1, .null), (2, .int (jI (mg))), (3, .int (jI ((j : Int))))]) ?_ 0 ls ⟨⟨Nat.zero_le _, rfl⟩, lv_sub hl [1, 2, 3, 0] rfl⟩
  intro j ls hinv ih
  obtain ⟨⟨hj9, he⟩, hl⟩ := hinv
  refine lv_iload_n hx hb dX3_firstFitting_2 rfl (lv_at hl 3 rfl) ?_
  refine lv_aload_n hx hb dX3_firstFitting_3 rfl (lv_at hl 0 rfl) ?_
  refine va_get (D := D) (ci := 1) (v := .int (jI ((bO z i : Int)))) (C := RX1) (T := TX1) (N := 9) hx hb hts (fun w h => List.mem_cons_of_mem _ (uw_X1 w h)) hown hK (j_P1 hd0_i) 0 rfl rfl 6 (by decide) (hts _ (List.mem_cons_of_mem _ kw_97)) (fun _ h9 => h9) rfl dX3_firstFitting_4 ?_
  refine jv_icmp_ge (tgt := 49) hx hb dX3_firstFitting_7 (by decide) (by omega) (by omega) (fun c7 => ?_) (fun c7 => ?_)
  · refine jv_iconst hx hb dX3_firstFitting_49 ?_
    exact pu_iret hx hb hr hlocks dX3_firstFitting_50 (by rw [he, cFit_end (by omega)])
  · refine lv_aload_n hx hb dX3_firstFitting_10 rfl (lv_at hl 0 rfl) ?_
    refine va_get (D := D) (ci := 1) (v := .ref (ad (2 + 12 * i + 10))) (C := RX1) (T := TX1) (N := 9) hx hb hts (fun w h => List.mem_cons_of_mem _ (uw_X1 w h)) hown hK (j_P1 hd0_i) 0 rfl rfl 3 (by decide) (hts _ (List.mem_cons_of_mem _ kw_91)) (fun _ h9 => h9) rfl dX3_firstFitting_11 ?_
    refine lv_iload_n hx hb dX3_firstFitting_14 rfl (lv_at hl 3 rfl) ?_
    refine jv_zald (i := j) hx hb hK hd10_i 1 rfl (by omega) (by omega) (by decide) dX3_firstFitting_15 ?_
    refine jv_if_eq (tgt := 22) hx hb dX3_firstFitting_16 (by decide) (bI_rng _) (fun c16 => ?_) (fun c16 => ?_)
    · have c16 := bI_fa c16
      refine lv_aload_nN hx hb dX3_firstFitting_22 rfl (lv_at hl 1 rfl) ?_
      refine lv_ifnullN (tgt := 41) hx hb dX3_firstFitting_23 (by decide) ?_
      refine lv_iload_n hx hb dX3_firstFitting_41 rfl (lv_at hl 3 rfl) ?_
      exact pu_iret hx hb hr hlocks dX3_firstFitting_42 (by rw [he, cFit_yes (by omega) (by simp [c16])])
    · have c16 := bI_tr c16
      refine lv_goto (tgt := 43) hx hb dX3_firstFitting_19 (by decide) ?_
      refine lv_iinc (v := jI ((j : Int) + 1)) (lv' := [(3, .int (jI ((j : Int) + 1))), (0, .ref (ad (2 + 12 * i))), (1, .null), (2, .int (jI (mg)))]) hx hb dX3_firstFitting_43 hl (k := 3) rfl (jI_add _ _) (by decide) rfl (fun ls hl => ?_)
      refine lv_goto (tgt := 2) hx hb dX3_firstFitting_46 (by decide) ?_
      exact ih (j + 1) ls ⟨⟨by omega, by rw [he]; exact cFit_no (by omega) (by simp [c16])⟩, lv_sub hl [1, 2, 3, 0] rfl⟩ (by omega)
set_option maxHeartbeats 4000000 in
set_option maxRecDepth 100000 in
theorem c_firstFitting1 (l : Launch) (D : va_G) (g : Nat → ClassId) (ad : Nat → Nat) (z : bSt) (rl : Nat → Nat → Bool) (ff : Nat → Nat → Int) (hz : bOK z) (i u k : Nat) (mg : Int) (hi : i < 8) (hu : u < 8) (hk : k < bO z u) (hmg : 0 ≤ mg ∧ mg ≤ 10000) : Met l yX3_firstFitting wsX3_firstFitting ({ frames := 4, cells := 0, slots := 0, locals := 113 }) (pu_Pc [.ref (ad (2 + 12 * i)), .ref (ad (2 + 12 * u + 6 + k)), .int (jI (mg))] D vwCl (ty9 g) (fun H => bW D g ad z rl ff H)) (pu_Q (some (.int (jI (cFit (fun j => !rl i j && okb z mg i j u k) (bO z i) 0))))) 0 0 (fun _ => False) := by
  refine Met.ofW (cc := cX3_firstFitting) (maxL := 4) (ret := some .int) (by decide) rfl ?_
  intro p e s m args below meth c s₁ B hml hv
  obtain ⟨rfl, hPic, hK⟩ := hv
  have hx := B.exec
  have hb := B.bytes
  have hr := B.returns
  have hts := atoms_spec (ws := wsX3_firstFitting) B.pre
  have hown : s.vm.findClass RX3 = some m.cls := findClass_of_methodNamed B.named
  have hlocks := B.notSynchronized
  have fi := hz.2.2.1 i hi
  have hd0_i : va_at D vwCl (ad (2 + 12 * i), .inr (1, [.int (jI ((i : Int))), .ref (ad (2 + 12 * i + 1)), .ref (ad (2 + 12 * i + 5)), .ref (ad (2 + 12 * i + 10)), .ref (ad (2 + 12 * i + 11)), va_rf ((bU z i).map (fun u => ad (2 + 12 * u))), .int (jI ((bO z i : Int))), .int (jI ((bC z i : Int))), .int (jI (bZ z i))])) s.heap := bW_at hPic (i := i) hi 0 (by omega)
  have hd5_i : va_at D vwCl (ad (2 + 12 * i + 5), .inl (g 3, 4, .inr (.inr (.inr (.inr (fun j => some (ad (2 + 12 * i + 6 + j)))))))) s.heap := bW_at hPic (i := i) hi 5 (by omega)
  have hd10_i : va_at D vwCl (ad (2 + 12 * i + 10), .inl (g 1, 4, .inl (fun j => jI (bI (rl i j))))) s.heap := bW_at hPic (i := i) hi 10 (by omega)
  have fu := hz.2.2.1 u hu
  have hq_T : sAt D g (ad (2 + 12 * u + 6 + k)) (bSet z u k) s.heap := bW_set hPic hu (by omega)
  have ok_T : sOK (bSet z u k) := fu.2.2.2.2.2 k hk
  have hl := lv_entry ([.ref (ad (2 + 12 * i)), .ref (ad (2 + 12 * u + 6 + k)), .int (jI (mg))]) (n := 4) (Nat.le_of_ble_eq_true rfl)
  rw [lg_entry_eq]
  generalize (lg_sl ([.ref (ad (2 + 12 * i)), .ref (ad (2 + 12 * u + 6 + k)), .int (jI (mg))]) ++ List.replicate (4 - (lg_sl ([.ref (ad (2 + 12 * i)), .ref (ad (2 + 12 * u + 6 + k)), .int (jI (mg))])).length) Slot.unset).toArray = ls at hl ⊢
  have hl : lv_has ls 4 [(0, .ref (ad (2 + 12 * i))), (1, .ref (ad (2 + 12 * u + 6 + k))), (2, .int (jI (mg)))] := hl
  refine jv_iconst hx hb dX3_firstFitting_0 ?_
  refine lv_istore_n (lv' := [(3, .int (jI (0))), (0, .ref (ad (2 + 12 * i))), (1, .ref (ad (2 + 12 * u + 6 + k))), (2, .int (jI (mg)))]) hx hb dX3_firstFitting_1 rfl hl (by decide) rfl (fun ls hl => ?_)
  refine jw_loop (X := Nat) (fun j => bO z i - j) (fun j ls => (j ≤ bO z i ∧ cFit (fun j => !rl i j && okb z mg i j u k) (bO z i) 0 = cFit (fun j => !rl i j && okb z mg i j u k) (bO z i - j) j) ∧ lv_has ls 4 [(0, .ref (ad (2 + 12 * i))), (1, .ref (ad (2 + 12 * u + 6 + k))), (2, .int (jI (mg))), (3, .int (jI ((j : Int))))]) ?_ 0 ls ⟨⟨Nat.zero_le _, rfl⟩, lv_sub hl [1, 2, 3, 0] rfl⟩
  intro j ls hinv ih
  obtain ⟨⟨hj9, he⟩, hl⟩ := hinv
  refine lv_iload_n hx hb dX3_firstFitting_2 rfl (lv_at hl 3 rfl) ?_
  refine lv_aload_n hx hb dX3_firstFitting_3 rfl (lv_at hl 0 rfl) ?_
  refine va_get (D := D) (ci := 1) (v := .int (jI ((bO z i : Int)))) (C := RX1) (T := TX1) (N := 9) hx hb hts (fun w h => List.mem_cons_of_mem _ (uw_X1 w h)) hown hK (j_P1 hd0_i) 0 rfl rfl 6 (by decide) (hts _ (List.mem_cons_of_mem _ kw_97)) (fun _ h9 => h9) rfl dX3_firstFitting_4 ?_
  refine jv_icmp_ge (tgt := 49) hx hb dX3_firstFitting_7 (by decide) (by omega) (by omega) (fun c7 => ?_) (fun c7 => ?_)
  · refine jv_iconst hx hb dX3_firstFitting_49 ?_
    exact pu_iret hx hb hr hlocks dX3_firstFitting_50 (by rw [he, cFit_end (by omega)])
  · have hq_S : sAt D g (ad (2 + 12 * i + 6 + j)) (bSet z i j) s.heap := bW_set hPic hi (by omega)
    have ok_S : sOK (bSet z i j) := fi.2.2.2.2.2 j (by omega)
    have rF := cFbs_rng ok_S ok_T mg
    refine lv_aload_n hx hb dX3_firstFitting_10 rfl (lv_at hl 0 rfl) ?_
    refine va_get (D := D) (ci := 1) (v := .ref (ad (2 + 12 * i + 10))) (C := RX1) (T := TX1) (N := 9) hx hb hts (fun w h => List.mem_cons_of_mem _ (uw_X1 w h)) hown hK (j_P1 hd0_i) 0 rfl rfl 3 (by decide) (hts _ (List.mem_cons_of_mem _ kw_91)) (fun _ h9 => h9) rfl dX3_firstFitting_11 ?_
    refine lv_iload_n hx hb dX3_firstFitting_14 rfl (lv_at hl 3 rfl) ?_
    refine jv_zald (i := j) hx hb hK hd10_i 1 rfl (by omega) (by omega) (by decide) dX3_firstFitting_15 ?_
    refine jv_if_eq (tgt := 22) hx hb dX3_firstFitting_16 (by decide) (bI_rng _) (fun c16 => ?_) (fun c16 => ?_)
    · have c16 := bI_fa c16
      refine lv_aload_n hx hb dX3_firstFitting_22 rfl (lv_at hl 1 rfl) ?_
      refine lv_ifnull hx hb dX3_firstFitting_23 ?_
      refine lv_aload_n hx hb dX3_firstFitting_26 rfl (lv_at hl 0 rfl) ?_
      refine va_get (D := D) (ci := 1) (v := .ref (ad (2 + 12 * i + 5))) (C := RX1) (T := TX1) (N := 9) hx hb hts (fun w h => List.mem_cons_of_mem _ (uw_X1 w h)) hown hK (j_P1 hd0_i) 0 rfl rfl 2 (by decide) (hts _ (List.mem_cons_of_mem _ kw_89)) (fun _ h9 => h9) rfl dX3_firstFitting_27 ?_
      refine lv_iload_n hx hb dX3_firstFitting_30 rfl (lv_at hl 3 rfl) ?_
      refine jv_aldq (i := j) hx hb hK hd5_i 3 rfl (by omega) (by omega) (by decide) dX3_firstFitting_31 ?_
      refine lv_aload_n hx hb dX3_firstFitting_32 rfl (lv_at hl 1 rfl) ?_
      refine lv_iload_n hx hb dX3_firstFitting_33 rfl (lv_at hl 2 rfl) ?_
      refine pu_call1 (va_runS (As := [.ref (ad (2 + 12 * i + 6 + j)), .ref (ad (2 + 12 * u + 6 + k)), .int (jI (mg))]) (rest := []) ⟨hx, hb, hml, hown, hts⟩ (c_firstBrokenStretch l D g (ad (2 + 12 * i + 6 + j)) (ad (2 + 12 * u + 6 + k)) (bSet z i j) (bSet z u k) mg ok_S ok_T hmg) (cwS 3 hts (gd_S kw_315 kw_316 kw_12 kcX3_firstBrokenStretch) rfl rfl rfl (by decide +kernel) ⟨Nat.le_of_ble_eq_true rfl, Nat.le_of_ble_eq_true rfl⟩) (pu_preS ⟨hq_S, hq_T⟩ hK) rfl rfl hl.1 rfl (lv_room (Nat.le_of_ble_eq_true rfl)) dX3_firstFitting_34 ⟨Nat.zero_le _, Nat.zero_le _⟩) ?_
      refine jv_iconst hx hb dX3_firstFitting_37 ?_
      refine jv_icmp_ne (tgt := 43) hx hb dX3_firstFitting_38 (by decide) (by omega) (by omega) (fun c38 => ?_) (fun c38 => ?_)
      · refine lv_iinc (v := jI ((j : Int) + 1)) (lv' := [(3, .int (jI ((j : Int) + 1))), (0, .ref (ad (2 + 12 * i))), (1, .ref (ad (2 + 12 * u + 6 + k))), (2, .int (jI (mg)))]) hx hb dX3_firstFitting_43 hl (k := 3) rfl (jI_add _ _) (by decide) rfl (fun ls hl => ?_)
        refine lv_goto (tgt := 2) hx hb dX3_firstFitting_46 (by decide) ?_
        exact ih (j + 1) ls ⟨⟨by omega, by rw [he]; exact cFit_no (by omega) (by simp [okb, c38])⟩, lv_sub hl [1, 2, 3, 0] rfl⟩ (by omega)
      · refine lv_iload_n hx hb dX3_firstFitting_41 rfl (lv_at hl 3 rfl) ?_
        exact pu_iret hx hb hr hlocks dX3_firstFitting_42 (by rw [he, cFit_yes (by omega) (by simp [c16, okb, c38])])
    · have c16 := bI_tr c16
      refine lv_goto (tgt := 43) hx hb dX3_firstFitting_19 (by decide) ?_
      refine lv_iinc (v := jI ((j : Int) + 1)) (lv' := [(3, .int (jI ((j : Int) + 1))), (0, .ref (ad (2 + 12 * i))), (1, .ref (ad (2 + 12 * u + 6 + k))), (2, .int (jI (mg)))]) hx hb dX3_firstFitting_43 hl (k := 3) rfl (jI_add _ _) (by decide) rfl (fun ls hl => ?_)
      refine lv_goto (tgt := 2) hx hb dX3_firstFitting_46 (by decide) ?_
      exact ih (j + 1) ls ⟨⟨by omega, by rw [he]; exact cFit_no (by omega) (by simp [c16])⟩, lv_sub hl [1, 2, 3, 0] rfl⟩ (by omega)
