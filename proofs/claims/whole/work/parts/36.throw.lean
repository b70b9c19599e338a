set_option maxHeartbeats 4000000 in
set_option maxRecDepth 100000 in
theorem x_known (l : Launch) (hl9 : l.stackTraces = false) (D : va_G) (g : Nat → ClassId) (z0 : Nat) (ad : Nat → Nat) (z : bSt) (rl : Nat → Nat → Bool) (ff : Nat → Nat → Int) (hz : bOK z) (d : Int) (h_d : -2147483648 ≤ d ∧ d < 2147483648) (hbad : ¬ (0 ≤ d ∧ d ≤ (bN z : Int) - 1)) : vx_Met l yX3_known wsX3_known ({ frames := 6, cells := 1, slots := 6, locals := 90 }) (px_Pc z0 [.ref (ad 0), .int (jI (d))] D vwCl (ty9 g) (fun H => bW D g ad z rl ff H)) px_F (px_X eIAE) 1 6 (fun _ => False) := by
  refine vx_ofW (cc := cX3_known) (maxL := 2) (ret := some (.object "BreakerOrders$Device")) (by decide) rfl ?_
  intro p e s m args below meth c s₁ B hml hnt hv
  obtain ⟨⟨rfl, hPic, hK⟩, hxT⟩ := hv
  have hx := B.exec
  have hb := B.bytes
  have hts := atoms_spec (ws := wsX3_known) B.pre
  have hown : s.vm.findClass RX3 = some m.cls := findClass_of_methodNamed B.named
  have hlocks := B.notSynchronized
  obtain ⟨sa9, r_0, r_1, r_2, r_3, r_4, r_5, r_6⟩ := hxT.2.2.1
  have hx0 : va_at D vwCl (ad 0, .inr (3, [.ref (ad 1), .int (jI ((bN z : Int))), .int (jI (bV z))])) s.heap := hPic 0 (by omega)
  have hx1 : va_at D vwCl (ad 1, .inl (g 2, 8, .inr (.inr (.inr (.inr (fun j => some (ad (2 + 12 * j)))))))) s.heap := hPic 1 (by omega)
  have hN := hz.1
  have hl := lv_entry ([.ref (ad 0), .int (jI (d))]) (n := 2) (Nat.le_of_ble_eq_true rfl)
  rw [lg_entry_eq]
  generalize (lg_sl ([.ref (ad 0), .int (jI (d))]) ++ List.replicate (2 - (lg_sl ([.ref (ad 0), .int (jI (d))])).length) Slot.unset).toArray = ls at hl ⊢
  have hl : lv_has ls 2 [(0, .ref (ad 0)), (1, .int (jI (d)))] := hl
  refine lv_iload_n hx hb dX3_known_0 rfl (lv_at hl 1 rfl) ?_
  refine jv_if_lt (tgt := 12) hx hb dX3_known_1 (by decide) (by omega) (fun c1 => ?_) (fun c1 => ?_)
  · exact px_throwA hx hb hl9 hown (fun w h => hts w (List.mem_cons_of_mem _ h)) hxT r_0 (hl.1.trans hml.symm) dX3_known_12 dX3_known_15 dX3_known_16 dX3_known_18 dX3_known_21 hnt (Nat.le_of_ble_eq_true rfl) (Nat.le_of_ble_eq_true rfl) (Nat.le_of_ble_eq_true rfl) (Nat.le_of_ble_eq_true rfl) hlocks
  · refine lv_iload_n hx hb dX3_known_4 rfl (lv_at hl 1 rfl) ?_
    refine lv_aload_n hx hb dX3_known_5 rfl (lv_at hl 0 rfl) ?_
    refine va_get (D := D) (ci := 3) (v := .int (jI ((bN z : Int)))) (C := RX3) (T := TX3) (N := 3) hx hb hts (fun w h => List.mem_cons_of_mem _ (uw_X3 w h)) hown hK (j_P1 hx0) 0 rfl rfl 1 (by decide) (hts _ (List.mem_cons_of_mem _ kw_122)) (fun _ h9 => h9) rfl dX3_known_6 ?_
    refine jv_icmp_lt (tgt := 22) hx hb dX3_known_9 (by decide) (by omega) (by omega) (fun c9 => ?_) (fun c9 => ?_)
    · exact absurd c9 (by omega)
    · exact px_throwA hx hb hl9 hown (fun w h => hts w (List.mem_cons_of_mem _ h)) hxT r_0 (hl.1.trans hml.symm) dX3_known_12 dX3_known_15 dX3_known_16 dX3_known_18 dX3_known_21 hnt (Nat.le_of_ble_eq_true rfl) (Nat.le_of_ble_eq_true rfl) (Nat.le_of_ble_eq_true rfl) (Nat.le_of_ble_eq_true rfl) hlocks
set_option maxHeartbeats 4000000 in
set_option maxRecDepth 100000 in
theorem x_demandWithin (l : Launch) (hl9 : l.stackTraces = false) (D : va_G) (g : Nat → ClassId) (z0 : Nat) (v lo hi : Int) (h_v : -2147483648 ≤ v ∧ v < 2147483648) (h_lo : -2147483648 ≤ lo ∧ lo < 2147483648) (h_hi : -2147483648 ≤ hi ∧ hi < 2147483648) (hbad : ¬ (lo ≤ v ∧ v ≤ hi)) : vx_Met l yX3_demandWithin wsX3_demandWithin ({ frames := 6, cells := 1, slots := 6, locals := 90 }) (px_Pc z0 [.int (jI (v)), .int (jI (lo)), .int (jI (hi))] D vwCl (ty9 g) (fun H => True)) px_F (px_X eIAE) 1 6 (fun _ => False) := by
  refine vx_ofW (cc := cX3_demandWithin) (maxL := 3) (ret := none) (by decide) rfl ?_
  intro p e s m args below meth c s₁ B hml hnt hv
  obtain ⟨⟨rfl, hPic, hK⟩, hxT⟩ := hv
  have hx := B.exec
  have hb := B.bytes
  have hts := atoms_spec (ws := wsX3_demandWithin) B.pre
  have hown : s.vm.findClass RX3 = some m.cls := findClass_of_methodNamed B.named
  have hlocks := B.notSynchronized
  obtain ⟨sa9, r_0, r_1, r_2, r_3, r_4, r_5, r_6⟩ := hxT.2.2.1
  have hl := lv_entry ([.int (jI (v)), .int (jI (lo)), .int (jI (hi))]) (n := 3) (Nat.le_of_ble_eq_true rfl)
  rw [lg_entry_eq]
  generalize (lg_sl ([.int (jI (v)), .int (jI (lo)), .int (jI (hi))]) ++ List.replicate (3 - (lg_sl ([.int (jI (v)), .int (jI (lo)), .int (jI (hi))])).length) Slot.unset).toArray = ls at hl ⊢
  have hl : lv_has ls 3 [(0, .int (jI (v))), (1, .int (jI (lo))), (2, .int (jI (hi)))] := hl
  refine lv_iload_n hx hb dX3_demandWithin_0 rfl (lv_at hl 0 rfl) ?_
  refine lv_iload_n hx hb dX3_demandWithin_1 rfl (lv_at hl 1 rfl) ?_
  refine jv_icmp_lt (tgt := 10) hx hb dX3_demandWithin_2 (by decide) (by omega) (by omega) (fun c2 => ?_) (fun c2 => ?_)
  · exact px_throwA hx hb hl9 hown (fun w h => hts w (List.mem_cons_of_mem _ h)) hxT r_1 (hl.1.trans hml.symm) dX3_demandWithin_10 dX3_demandWithin_13 dX3_demandWithin_14 dX3_demandWithin_16 dX3_demandWithin_19 hnt (Nat.le_of_ble_eq_true rfl) (Nat.le_of_ble_eq_true rfl) (Nat.le_of_ble_eq_true rfl) (Nat.le_of_ble_eq_true rfl) hlocks
  · refine lv_iload_n hx hb dX3_demandWithin_5 rfl (lv_at hl 0 rfl) ?_
    refine lv_iload_n hx hb dX3_demandWithin_6 rfl (lv_at hl 2 rfl) ?_
    refine jv_icmp_le (tgt := 20) hx hb dX3_demandWithin_7 (by decide) (by omega) (by omega) (fun c7 => ?_) (fun c7 => ?_)
    · exact absurd c7 (by omega)
    · exact px_throwA hx hb hl9 hown (fun w h => hts w (List.mem_cons_of_mem _ h)) hxT r_1 (hl.1.trans hml.symm) dX3_demandWithin_10 dX3_demandWithin_13 dX3_demandWithin_14 dX3_demandWithin_16 dX3_demandWithin_19 hnt (Nat.le_of_ble_eq_true rfl) (Nat.le_of_ble_eq_true rfl) (Nat.le_of_ble_eq_true rfl) (Nat.le_of_ble_eq_true rfl) hlocks
set_option maxHeartbeats 4000000 in
set_option maxRecDepth 100000 in
theorem x_demandPair (l : Launch) (hl9 : l.stackTraces = false) (D : va_G) (g : Nat → ClassId) (z0 : Nat) (x y mg : Int) (h_x : -2147483648 ≤ x ∧ x < 2147483648) (h_y : -2147483648 ≤ y ∧ y < 2147483648) (h_mg : -2147483648 ≤ mg ∧ mg < 2147483648) (hbad : ¬ (x ≠ y ∧ (0 ≤ mg ∧ mg ≤ 10000))) : vx_Met l yX3_demandPair wsX3_demandPair ({ frames := 7, cells := 1, slots := 6, locals := 112 }) (px_Pc z0 [.int (jI (x)), .int (jI (y)), .int (jI (mg))] D vwCl (ty9 g) (fun H => True)) px_F (px_X eIAE) 1 6 (fun _ => False) := by
  refine vx_ofW (cc := cX3_demandPair) (maxL := 3) (ret := none) (by decide) rfl ?_
  intro p e s m args below meth c s₁ B hml hnt hv
  obtain ⟨⟨rfl, hPic, hK⟩, hxT⟩ := hv
  have hx := B.exec
  have hb := B.bytes
  have hts := atoms_spec (ws := wsX3_demandPair) B.pre
  have hown : s.vm.findClass RX3 = some m.cls := findClass_of_methodNamed B.named
  have hlocks := B.notSynchronized
  obtain ⟨sa9, r_0, r_1, r_2, r_3, r_4, r_5, r_6⟩ := hxT.2.2.1
  have hl := lv_entry ([.int (jI (x)), .int (jI (y)), .int (jI (mg))]) (n := 3) (Nat.le_of_ble_eq_true rfl)
  rw [lg_entry_eq]
  generalize (lg_sl ([.int (jI (x)), .int (jI (y)), .int (jI (mg))]) ++ List.replicate (3 - (lg_sl ([.int (jI (x)), .int (jI (y)), .int (jI (mg))])).length) Slot.unset).toArray = ls at hl ⊢
  have hl : lv_has ls 3 [(0, .int (jI (x))), (1, .int (jI (y))), (2, .int (jI (mg)))] := hl
  refine lv_iload_n hx hb dX3_demandPair_0 rfl (lv_at hl 0 rfl) ?_
  refine lv_iload_n hx hb dX3_demandPair_1 rfl (lv_at hl 1 rfl) ?_
  refine jv_icmp_ne (tgt := 15) hx hb dX3_demandPair_2 (by decide) (by omega) (by omega) (fun c2 => ?_) (fun c2 => ?_)
  · refine lv_iload_n hx hb dX3_demandPair_15 rfl (lv_at hl 2 rfl) ?_
    refine jv_iconst hx hb dX3_demandPair_16 ?_
    refine jv_sipush hx hb dX3_demandPair_17 (by decide) ?_
    by_cases hb20 : 0 ≤ mg ∧ mg ≤ 10000
    · exact absurd hb20 (by omega)
    · exact px_out (vx_runS (As := [.int (jI (mg)), .int (jI (0)), .int (jI (10000))]) (rest := []) ⟨hx, hb, hml, hown, hts⟩ (x_demandWithin l hl9 D g z0 mg 0 10000 (by omega) (by omega) (by omega) hb20) (cwS 3 hts (gd_S kw_234 kw_235 kw_12 kcX3_demandWithin) rfl rfl rfl (by decide +kernel) ⟨Nat.le_of_ble_eq_true rfl, Nat.le_of_ble_eq_true rfl⟩) (px_preS trivial hK hxT) rfl rfl hl.1 rfl (lv_room (Nat.le_of_ble_eq_true rfl)) dX3_demandPair_20 ⟨Nat.le_of_ble_eq_true rfl, Nat.le_of_ble_eq_true rfl⟩) hnt hlocks
  · exact px_throwA hx hb hl9 hown (fun w h => hts w (List.mem_cons_of_mem _ h)) hxT r_2 (hl.1.trans hml.symm) dX3_demandPair_5 dX3_demandPair_8 dX3_demandPair_9 dX3_demandPair_11 dX3_demandPair_14 hnt (Nat.le_of_ble_eq_true rfl) (Nat.le_of_ble_eq_true rfl) (Nat.le_of_ble_eq_true rfl) (Nat.le_of_ble_eq_true rfl) hlocks
set_option maxHeartbeats 4000000 in
set_option maxRecDepth 100000 in
theorem x_device1 (l : Launch) (hl9 : l.stackTraces = false) (D : va_G) (g : Nat → ClassId) (z0 : Nat) (ad : Nat → Nat) (z : bSt) (rl : Nat → Nat → Bool) (ff : Nat → Nat → Int) (hz : bOK z) (u : Int) (h_u : -2147483648 ≤ u ∧ u < 2147483648) (hu1 : u ≠ -1) (hbad : ¬ (0 ≤ u ∧ u ≤ (bN z : Int) - 1)) : vx_Met l yX3_device wsX3_device ({ frames := 7, cells := 1, slots := 6, locals := 111 }) (px_Pc z0 [.ref (ad 0), .int (jI (u))] D vwCl (ty9 g) (fun H => bW D g ad z rl ff H)) px_F (px_X eIAE) 1 6 (fun _ => False) := by
  refine vx_ofW (cc := cX3_device) (maxL := 4) (ret := some .int) (by decide) rfl ?_
  intro p e s m args below meth c s₁ B hml hnt hv
  obtain ⟨⟨rfl, hPic, hK⟩, hxT⟩ := hv
  have hx := B.exec
  have hb := B.bytes
  have hts := atoms_spec (ws := wsX3_device) B.pre
  have hown : s.vm.findClass RX3 = some m.cls := findClass_of_methodNamed B.named
  have hlocks := B.notSynchronized
  obtain ⟨sa9, r_0, r_1, r_2, r_3, r_4, r_5, r_6⟩ := hxT.2.2.1
  have hx0 : va_at D vwCl (ad 0, .inr (3, [.ref (ad 1), .int (jI ((bN z : Int))), .int (jI (bV z))])) s.heap := hPic 0 (by omega)
  have hx1 : va_at D vwCl (ad 1, .inl (g 2, 8, .inr (.inr (.inr (.inr (fun j => some (ad (2 + 12 * j)))))))) s.heap := hPic 1 (by omega)
  have hN := hz.1
  have hl := lv_entry ([.ref (ad 0), .int (jI (u))]) (n := 4) (Nat.le_of_ble_eq_true rfl)
  rw [lg_entry_eq]
  generalize (lg_sl ([.ref (ad 0), .int (jI (u))]) ++ List.replicate (4 - (lg_sl ([.ref (ad 0), .int (jI (u))])).length) Slot.unset).toArray = ls at hl ⊢
  have hl : lv_has ls 4 [(0, .ref (ad 0)), (1, .int (jI (u)))] := hl
  refine lv_iload_n hx hb dX3_device_0 rfl (lv_at hl 1 rfl) ?_
  refine jv_iconst hx hb dX3_device_1 ?_
  refine jv_icmp_ne (tgt := 9) hx hb dX3_device_2 (by decide) (by omega) (by omega) (fun c2 => ?_) (fun c2 => ?_)
  · refine lv_aload_n hx hb dX3_device_9 rfl (lv_at hl 0 rfl) ?_
    refine lv_iload_n hx hb dX3_device_10 rfl (lv_at hl 1 rfl) ?_
    exact px_out (vx_runV (As := [.int (jI (u))]) (rest := []) ⟨hx, hb, hml, hown, hts⟩ (x_known l hl9 D g z0 ad z rl ff hz u h_u hbad) (cwV 1 hts (gd_V kw_140 kw_142 kw_0 kw_12 kcX3_known) rfl rfl rfl (by decide +kernel) ⟨Nat.le_of_ble_eq_true rfl, Nat.le_of_ble_eq_true rfl⟩) (px_preV hPic hK hxT rfl hx0) rfl rfl hl.1 rfl (lv_room (Nat.le_of_ble_eq_true rfl)) dX3_device_11 ⟨Nat.le_of_ble_eq_true rfl, Nat.le_of_ble_eq_true rfl⟩) hnt hlocks
  · exact absurd c2 (by omega)
set_option maxHeartbeats 4000000 in
set_option maxRecDepth 100000 in
theorem x_device2 (l : Launch) (hl9 : l.stackTraces = false) (D : va_G) (g : Nat → ClassId) (z0 : Nat) (ad : Nat → Nat) (z : bSt) (rl : Nat → Nat → Bool) (ff : Nat → Nat → Int) (hz : bOK z) (h8 : bN z = 8) : vx_Met l yX3_device wsX3_device ({ frames := 6, cells := 1, slots := 6, locals := 90 }) (px_Pc z0 [.ref (ad 0), .int (jI ((-1)))] D vwCl (ty9 g) (fun H => bW D g ad z rl ff H)) px_F (px_X eISE) 1 6 (fun _ => False) := by
  refine vx_ofW (cc := cX3_device) (maxL := 4) (ret := some .int) (by decide) rfl ?_
  intro p e s m args below meth c s₁ B hml hnt hv
  obtain ⟨⟨rfl, hPic, hK⟩, hxT⟩ := hv
  have hx := B.exec
  have hb := B.bytes
  have hts := atoms_spec (ws := wsX3_device) B.pre
  have hown : s.vm.findClass RX3 = some m.cls := findClass_of_methodNamed B.named
  have hlocks := B.notSynchronized
  obtain ⟨sa9, r_0, r_1, r_2, r_3, r_4, r_5, r_6⟩ := hxT.2.2.1
  have hx0 : va_at D vwCl (ad 0, .inr (3, [.ref (ad 1), .int (jI ((bN z : Int))), .int (jI (bV z))])) s.heap := hPic 0 (by omega)
  have hx1 : va_at D vwCl (ad 1, .inl (g 2, 8, .inr (.inr (.inr (.inr (fun j => some (ad (2 + 12 * j)))))))) s.heap := hPic 1 (by omega)
  have hN := hz.1
  have hl := lv_entry ([.ref (ad 0), .int (jI ((-1)))]) (n := 4) (Nat.le_of_ble_eq_true rfl)
  rw [lg_entry_eq]
  generalize (lg_sl ([.ref (ad 0), .int (jI ((-1)))]) ++ List.replicate (4 - (lg_sl ([.ref (ad 0), .int (jI ((-1)))])).length) Slot.unset).toArray = ls at hl ⊢
  have hl : lv_has ls 4 [(0, .ref (ad 0)), (1, .int (jI ((-1))))] := hl
  refine lv_iload_n hx hb dX3_device_0 rfl (lv_at hl 1 rfl) ?_
  refine jv_iconst hx hb dX3_device_1 ?_
  refine jv_icmp_ne (tgt := 9) hx hb dX3_device_2 (by decide) (by omega) (by omega) (fun c2 => ?_) (fun c2 => ?_)
  · exact absurd c2 (by omega)
  · refine lv_null hx hb dX3_device_5 ?_
    refine lv_goto (tgt := 14) hx hb dX3_device_6 (by decide) ?_
    refine lv_astore_nN (lv' := [(2, .null), (0, .ref (ad 0)), (1, .int (jI ((-1))))]) hx hb dX3_device_14 rfl hl (by decide) rfl (fun ls hl => ?_)
    refine lv_aload_n hx hb dX3_device_15 rfl (lv_at hl 1 rfl) ?_
    refine va_get (D := D) (ci := 3) (v := .int (jI ((bN z : Int)))) (C := RX3) (T := TX3) (N := 3) hx hb hts (fun w h => List.mem_cons_of_mem _ (uw_X3 w h)) hown hK (j_P1 hx0) 0 rfl rfl 1 (by decide) (hts _ (List.mem_cons_of_mem _ kw_122)) (fun _ h9 => h9) rfl dX3_device_16 ?_
    refine jv_bipush hx hb dX3_device_19 (by decide) ?_
    refine jv_icmp_lt (tgt := 34) hx hb dX3_device_21 (by decide) (by omega) (by omega) (fun c21 => ?_) (fun c21 => ?_)
    · exact absurd c21 (by omega)
    · exact px_throwI hx hb hl9 hown (fun w h => hts w (List.mem_cons_of_mem _ h)) hxT r_3 (hl.1.trans hml.symm) dX3_device_24 dX3_device_27 dX3_device_28 dX3_device_30 dX3_device_33 hnt (Nat.le_of_ble_eq_true rfl) (Nat.le_of_ble_eq_true rfl) (Nat.le_of_ble_eq_true rfl) (Nat.le_of_ble_eq_true rfl) hlocks
set_option maxHeartbeats 4000000 in
set_option maxRecDepth 100000 in
theorem x_device3 (l : Launch) (hl9 : l.stackTraces = false) (D : va_G) (g : Nat → ClassId) (z0 : Nat) (ad : Nat → Nat) (z : bSt) (rl : Nat → Nat → Bool) (ff : Nat → Nat → Int) (hz : bOK z) (u : Nat) (hu : u < bN z) (h8 : bN z = 8) : vx_Met l yX3_device wsX3_device ({ frames := 6, cells := 1, slots := 6, locals := 90 }) (px_Pc z0 [.ref (ad 0), .int (jI ((u : Int)))] D vwCl (ty9 g) (fun H => bW D g ad z rl ff H)) px_F (px_X eISE) 1 6 (fun _ => False) := by
  refine vx_ofW (cc := cX3_device) (maxL := 4) (ret := some .int) (by decide) rfl ?_
  intro p e s m args below meth c s₁ B hml hnt hv
  obtain ⟨⟨rfl, hPic, hK⟩, hxT⟩ := hv
  have hx := B.exec
  have hb := B.bytes
  have hts := atoms_spec (ws := wsX3_device) B.pre
  have hown : s.vm.findClass RX3 = some m.cls := findClass_of_methodNamed B.named
  have hlocks := B.notSynchronized
  obtain ⟨sa9, r_0, r_1, r_2, r_3, r_4, r_5, r_6⟩ := hxT.2.2.1
  have hx0 : va_at D vwCl (ad 0, .inr (3, [.ref (ad 1), .int (jI ((bN z : Int))), .int (jI (bV z))])) s.heap := hPic 0 (by omega)
  have hx1 : va_at D vwCl (ad 1, .inl (g 2, 8, .inr (.inr (.inr (.inr (fun j => some (ad (2 + 12 * j)))))))) s.heap := hPic 1 (by omega)
  have hN := hz.1
  have hl := lv_entry ([.ref (ad 0), .int (jI ((u : Int)))]) (n := 4) (Nat.le_of_ble_eq_true rfl)
  rw [lg_entry_eq]
  generalize (lg_sl ([.ref (ad 0), .int (jI ((u : Int)))]) ++ List.replicate (4 - (lg_sl ([.ref (ad 0), .int (jI ((u : Int)))])).length) Slot.unset).toArray = ls at hl ⊢
  have hl : lv_has ls 4 [(0, .ref (ad 0)), (1, .int (jI ((u : Int))))] := hl
  refine lv_iload_n hx hb dX3_device_0 rfl (lv_at hl 1 rfl) ?_
  refine jv_iconst hx hb dX3_device_1 ?_
  refine jv_icmp_ne (tgt := 9) hx hb dX3_device_2 (by decide) (by omega) (by omega) (fun c2 => ?_) (fun c2 => ?_)
  · refine lv_aload_n hx hb dX3_device_9 rfl (lv_at hl 0 rfl) ?_
    refine lv_iload_n hx hb dX3_device_10 rfl (lv_at hl 1 rfl) ?_
    refine pu_call1 (va_runV (As := [.int (jI ((u : Int)))]) (rest := []) ⟨hx, hb, hml, hown, hts⟩ (c_known l D g ad z rl ff hz u hu) (cwV 1 hts (gd_V kw_140 kw_142 kw_0 kw_12 kcX3_known) rfl rfl rfl (by decide +kernel) ⟨Nat.le_of_ble_eq_true rfl, Nat.le_of_ble_eq_true rfl⟩) (pu_preV hPic hK rfl hx0) rfl rfl hl.1 rfl (lv_room (Nat.le_of_ble_eq_true rfl)) dX3_device_11 ⟨Nat.zero_le _, Nat.zero_le _⟩) ?_
    refine lv_astore_n (lv' := [(2, .ref (ad (2 + 12 * u))), (0, .ref (ad 0)), (1, .int (jI ((u : Int))))]) hx hb dX3_device_14 rfl hl (by decide) rfl (fun ls hl => ?_)
    refine lv_aload_n hx hb dX3_device_15 rfl (lv_at hl 1 rfl) ?_
    refine va_get (D := D) (ci := 3) (v := .int (jI ((bN z : Int)))) (C := RX3) (T := TX3) (N := 3) hx hb hts (fun w h => List.mem_cons_of_mem _ (uw_X3 w h)) hown hK (j_P1 hx0) 0 rfl rfl 1 (by decide) (hts _ (List.mem_cons_of_mem _ kw_122)) (fun _ h9 => h9) rfl dX3_device_16 ?_
    refine jv_bipush hx hb dX3_device_19 (by decide) ?_
    refine jv_icmp_lt (tgt := 34) hx hb dX3_device_21 (by decide) (by omega) (by omega) (fun c21 => ?_) (fun c21 => ?_)
    · exact absurd c21 (by omega)
    · exact px_throwI hx hb hl9 hown (fun w h => hts w (List.mem_cons_of_mem _ h)) hxT r_3 (hl.1.trans hml.symm) dX3_device_24 dX3_device_27 dX3_device_28 dX3_device_30 dX3_device_33 hnt (Nat.le_of_ble_eq_true rfl) (Nat.le_of_ble_eq_true rfl) (Nat.le_of_ble_eq_true rfl) (Nat.le_of_ble_eq_true rfl) hlocks
  · exact absurd c2 (by omega)
set_option maxHeartbeats 4000000 in
set_option maxRecDepth 100000 in
theorem x_point1 (l : Launch) (hl9 : l.stackTraces = false) (D : va_G) (g : Nat → ClassId) (z0 : Nat) (ad : Nat → Nat) (z : bSt) (rl : Nat → Nat → Bool) (ff : Nat → Nat → Int) (hz : bOK z) (d pl le mo : Int) (h_d : -2147483648 ≤ d ∧ d < 2147483648) (hbad : ¬ (0 ≤ d ∧ d ≤ (bN z : Int) - 1)) : vx_Met l yX3_point wsX3_point ({ frames := 7, cells := 1, slots := 6, locals := 111 }) (px_Pc z0 [.ref (ad 0), .int (jI (d)), .int (jI (pl)), .int (jI (le)), .int (jI (mo))] D vwCl (ty9 g) (fun H => bW D g ad z rl ff H)) px_F (px_X eIAE) 1 6 (fun _ => False) := by
  refine vx_ofW (cc := cX3_point) (maxL := 6) (ret := some .int) (by decide) rfl ?_
  intro p e s m args below meth c s₁ B hml hnt hv
  obtain ⟨⟨rfl, hPic, hK⟩, hxT⟩ := hv
  have hx := B.exec
  have hb := B.bytes
  have hts := atoms_spec (ws := wsX3_point) B.pre
  have hown : s.vm.findClass RX3 = some m.cls := findClass_of_methodNamed B.named
  have hlocks := B.notSynchronized
  obtain ⟨sa9, r_0, r_1, r_2, r_3, r_4, r_5, r_6⟩ := hxT.2.2.1
  have hx0 : va_at D vwCl (ad 0, .inr (3, [.ref (ad 1), .int (jI ((bN z : Int))), .int (jI (bV z))])) s.heap := hPic 0 (by omega)
  have hx1 : va_at D vwCl (ad 1, .inl (g 2, 8, .inr (.inr (.inr (.inr (fun j => some (ad (2 + 12 * j)))))))) s.heap := hPic 1 (by omega)
  have hN := hz.1
  have hl := lv_entry ([.ref (ad 0), .int (jI (d)), .int (jI (pl)), .int (jI (le)), .int (jI (mo))]) (n := 6) (Nat.le_of_ble_eq_true rfl)
  rw [lg_entry_eq]
  generalize (lg_sl ([.ref (ad 0), .int (jI (d)), .int (jI (pl)), .int (jI (le)), .int (jI (mo))]) ++ List.replicate (6 - (lg_sl ([.ref (ad 0), .int (jI (d)), .int (jI (pl)), .int (jI (le)), .int (jI (mo))])).length) Slot.unset).toArray = ls at hl ⊢
  have hl : lv_has ls 6 [(0, .ref (ad 0)), (1, .int (jI (d))), (2, .int (jI (pl))), (3, .int (jI (le))), (4, .int (jI (mo)))] := hl
  refine lv_aload_n hx hb dX3_point_0 rfl (lv_at hl 0 rfl) ?_
  refine lv_iload_n hx hb dX3_point_1 rfl (lv_at hl 1 rfl) ?_
  exact px_out (vx_runV (As := [.int (jI (d))]) (rest := []) ⟨hx, hb, hml, hown, hts⟩ (x_known l hl9 D g z0 ad z rl ff hz d h_d hbad) (cwV 1 hts (gd_V kw_140 kw_142 kw_0 kw_12 kcX3_known) rfl rfl rfl (by decide +kernel) ⟨Nat.le_of_ble_eq_true rfl, Nat.le_of_ble_eq_true rfl⟩) (px_preV hPic hK hxT rfl hx0) rfl rfl hl.1 rfl (lv_room (Nat.le_of_ble_eq_true rfl)) dX3_point_2 ⟨Nat.le_of_ble_eq_true rfl, Nat.le_of_ble_eq_true rfl⟩) hnt hlocks
set_option maxHeartbeats 4000000 in
set_option maxRecDepth 100000 in
theorem x_point2 (l : Launch) (hl9 : l.stackTraces = false) (D : va_G) (g : Nat → ClassId) (z0 : Nat) (ad : Nat → Nat) (z : bSt) (rl : Nat → Nat → Bool) (ff : Nat → Nat → Int) (hz : bOK z) (d : Nat) (pl le mo : Int) (hd : d < bN z) (h_pl : -2147483648 ≤ pl ∧ pl < 2147483648) (h_le : -2147483648 ≤ le ∧ le < 2147483648) (h_mo : -2147483648 ≤ mo ∧ mo < 2147483648) (hbad : ¬ ((1 ≤ pl ∧ pl ≤ 5000) ∧ (0 ≤ mo ∧ mo ≤ 100000) ∧ (0 ≤ le ∧ le ≤ mo))) : vx_Met l yX3_point wsX3_point ({ frames := 7, cells := 1, slots := 6, locals := 112 }) (px_Pc z0 [.ref (ad 0), .int (jI ((d : Int))), .int (jI (pl)), .int (jI (le)), .int (jI (mo))] D vwCl (ty9 g) (fun H => bW D g ad z rl ff H)) px_F (px_X eIAE) 1 6 (fun _ => False) := by
  refine vx_ofW (cc := cX3_point) (maxL := 6) (ret := some .int) (by decide) rfl ?_
  intro p e s m args below meth c s₁ B hml hnt hv
  obtain ⟨⟨rfl, hPic, hK⟩, hxT⟩ := hv
  have hx := B.exec
  have hb := B.bytes
  have hts := atoms_spec (ws := wsX3_point) B.pre
  have hown : s.vm.findClass RX3 = some m.cls := findClass_of_methodNamed B.named
  have hlocks := B.notSynchronized
  obtain ⟨sa9, r_0, r_1, r_2, r_3, r_4, r_5, r_6⟩ := hxT.2.2.1
  have hx0 : va_at D vwCl (ad 0, .inr (3, [.ref (ad 1), .int (jI ((bN z : Int))), .int (jI (bV z))])) s.heap := hPic 0 (by omega)
  have hx1 : va_at D vwCl (ad 1, .inl (g 2, 8, .inr (.inr (.inr (.inr (fun j => some (ad (2 + 12 * j)))))))) s.heap := hPic 1 (by omega)
  have hN := hz.1
  have hd0_d : va_at D vwCl (ad (2 + 12 * d), .inr (1, [.int (jI ((d : Int))), .ref (ad (2 + 12 * d + 1)), .ref (ad (2 + 12 * d + 5)), .ref (ad (2 + 12 * d + 10)), .ref (ad (2 + 12 * d + 11)), va_rf ((bU z d).map (fun u => ad (2 + 12 * u))), .int (jI ((bO z d : Int))), .int (jI ((bC z d : Int))), .int (jI (bZ z d))])) s.heap := bW_at hPic (i := d) (by omega) 0 (by omega)
  have hl := lv_entry ([.ref (ad 0), .int (jI ((d : Int))), .int (jI (pl)), .int (jI (le)), .int (jI (mo))]) (n := 6) (Nat.le_of_ble_eq_true rfl)
  rw [lg_entry_eq]
  generalize (lg_sl ([.ref (ad 0), .int (jI ((d : Int))), .int (jI (pl)), .int (jI (le)), .int (jI (mo))]) ++ List.replicate (6 - (lg_sl ([.ref (ad 0), .int (jI ((d : Int))), .int (jI (pl)), .int (jI (le)), .int (jI (mo))])).length) Slot.unset).toArray = ls at hl ⊢
  have hl : lv_has ls 6 [(0, .ref (ad 0)), (1, .int (jI ((d : Int)))), (2, .int (jI (pl))), (3, .int (jI (le))), (4, .int (jI (mo)))] := hl
  refine lv_aload_n hx hb dX3_point_0 rfl (lv_at hl 0 rfl) ?_
  refine lv_iload_n hx hb dX3_point_1 rfl (lv_at hl 1 rfl) ?_
  refine pu_call1 (va_runV (As := [.int (jI ((d : Int)))]) (rest := []) ⟨hx, hb, hml, hown, hts⟩ (c_known l D g ad z rl ff hz d hd) (cwV 1 hts (gd_V kw_140 kw_142 kw_0 kw_12 kcX3_known) rfl rfl rfl (by decide +kernel) ⟨Nat.le_of_ble_eq_true rfl, Nat.le_of_ble_eq_true rfl⟩) (pu_preV hPic hK rfl hx0) rfl rfl hl.1 rfl (lv_room (Nat.le_of_ble_eq_true rfl)) dX3_point_2 ⟨Nat.zero_le _, Nat.zero_le _⟩) ?_
  refine va_get (D := D) (ci := 1) (v := .ref (ad (2 + 12 * d + 1))) (C := RX1) (T := TX1) (N := 9) hx hb hts (fun w h => List.mem_cons_of_mem _ (uw_X1 w h)) hown hK (j_P1 hd0_d) 0 rfl rfl 1 (by decide) (hts _ (List.mem_cons_of_mem _ kw_87)) (fun _ h9 => h9) rfl dX3_point_5 ?_
  refine lv_astore (lv' := [(5, .ref (ad (2 + 12 * d + 1))), (0, .ref (ad 0)), (1, .int (jI ((d : Int)))), (2, .int (jI (pl))), (3, .int (jI (le))), (4, .int (jI (mo)))]) hx hb dX3_point_8 hl (by decide) rfl (fun ls hl => ?_)
  refine lv_iload_n hx hb dX3_point_10 rfl (lv_at hl 3 rfl) ?_
  refine jv_iconst hx hb dX3_point_11 ?_
  refine jv_sipush hx hb dX3_point_12 (by decide) ?_
  by_cases hb15 : 1 ≤ pl ∧ pl ≤ 5000
  · refine pu_call (va_runS (As := [.int (jI (pl)), .int (jI (1)), .int (jI (5000))]) (rest := []) ⟨hx, hb, hml, hown, hts⟩ (c_demandWithin l D g pl 1 5000 (by omega) (by omega) (by omega) (by omega)) (cwS 3 hts (gd_S kw_234 kw_235 kw_12 kcX3_demandWithin) rfl rfl rfl (by decide +kernel) ⟨Nat.le_of_ble_eq_true rfl, Nat.le_of_ble_eq_true rfl⟩) (pu_preS trivial hK) rfl rfl hl.1 rfl (lv_room (Nat.le_of_ble_eq_true rfl)) dX3_point_15 ⟨Nat.zero_le _, Nat.zero_le _⟩) ?_
    refine lv_iload hx hb dX3_point_18 (lv_at hl 5 rfl) ?_
    refine jv_iconst hx hb dX3_point_20 ?_
    refine jv_ldc (k := 100000) hx hb hown (hts _ (List.mem_cons_of_mem _ kw_238)) (by decide) dX3_point_21 ?_
    by_cases hb23 : 0 ≤ mo ∧ mo ≤ 100000
    · refine pu_call (va_runS (As := [.int (jI (mo)), .int (jI (0)), .int (jI (100000))]) (rest := []) ⟨hx, hb, hml, hown, hts⟩ (c_demandWithin l D g mo 0 100000 (by omega) (by omega) (by omega) (by omega)) (cwS 3 hts (gd_S kw_234 kw_235 kw_12 kcX3_demandWithin) rfl rfl rfl (by decide +kernel) ⟨Nat.le_of_ble_eq_true rfl, Nat.le_of_ble_eq_true rfl⟩) (pu_preS trivial hK) rfl rfl hl.1 rfl (lv_room (Nat.le_of_ble_eq_true rfl)) dX3_point_23 ⟨Nat.zero_le _, Nat.zero_le _⟩) ?_
      refine lv_iload_n hx hb dX3_point_26 rfl (lv_at hl 4 rfl) ?_
      refine jv_iconst hx hb dX3_point_27 ?_
      refine lv_iload hx hb dX3_point_28 (lv_at hl 5 rfl) ?_
      by_cases hb30 : 0 ≤ le ∧ le ≤ mo
      · exact absurd hb30 (by omega)
      · exact px_out (vx_runS (As := [.int (jI (le)), .int (jI (0)), .int (jI (mo))]) (rest := []) ⟨hx, hb, hml, hown, hts⟩ (x_demandWithin l hl9 D g z0 le 0 mo (by omega) (by omega) (by omega) hb30) (cwS 3 hts (gd_S kw_234 kw_235 kw_12 kcX3_demandWithin) rfl rfl rfl (by decide +kernel) ⟨Nat.le_of_ble_eq_true rfl, Nat.le_of_ble_eq_true rfl⟩) (px_preS trivial hK hxT) rfl rfl hl.1 rfl (lv_room (Nat.le_of_ble_eq_true rfl)) dX3_point_30 ⟨Nat.le_of_ble_eq_true rfl, Nat.le_of_ble_eq_true rfl⟩) hnt hlocks
    · exact px_out (vx_runS (As := [.int (jI (mo)), .int (jI (0)), .int (jI (100000))]) (rest := []) ⟨hx, hb, hml, hown, hts⟩ (x_demandWithin l hl9 D g z0 mo 0 100000 (by omega) (by omega) (by omega) hb23) (cwS 3 hts (gd_S kw_234 kw_235 kw_12 kcX3_demandWithin) rfl rfl rfl (by decide +kernel) ⟨Nat.le_of_ble_eq_true rfl, Nat.le_of_ble_eq_true rfl⟩) (px_preS trivial hK hxT) rfl rfl hl.1 rfl (lv_room (Nat.le_of_ble_eq_true rfl)) dX3_point_23 ⟨Nat.le_of_ble_eq_true rfl, Nat.le_of_ble_eq_true rfl⟩) hnt hlocks
  · exact px_out (vx_runS (As := [.int (jI (pl)), .int (jI (1)), .int (jI (5000))]) (rest := []) ⟨hx, hb, hml, hown, hts⟩ (x_demandWithin l hl9 D g z0 pl 1 5000 (by omega) (by omega) (by omega) hb15) (cwS 3 hts (gd_S kw_234 kw_235 kw_12 kcX3_demandWithin) rfl rfl rfl (by decide +kernel) ⟨Nat.le_of_ble_eq_true rfl, Nat.le_of_ble_eq_true rfl⟩) (px_preS trivial hK hxT) rfl rfl hl.1 rfl (lv_room (Nat.le_of_ble_eq_true rfl)) dX3_point_15 ⟨Nat.le_of_ble_eq_true rfl, Nat.le_of_ble_eq_true rfl⟩) hnt hlocks
set_option maxHeartbeats 4000000 in
set_option maxRecDepth 100000 in
theorem x_point3 (l : Launch) (hl9 : l.stackTraces = false) (D : va_G) (g : Nat → ClassId) (z0 : Nat) (ad : Nat → Nat) (z : bSt) (rl : Nat → Nat → Bool) (ff : Nat → Nat → Int) (hz : bOK z) (d k : Nat) (pl le mo : Int) (hd : d < bN z) (hk : bK z d = k) (hpl : 1 ≤ pl ∧ pl ≤ 5000) (hle : 0 ≤ le ∧ le ≤ mo) (hmo : mo ≤ 100000) (h2 : k = 6 ∨ (0 < k ∧ pl ≤ bP z d (k - 1))) : vx_Met l yX3_point wsX3_point ({ frames := 6, cells := 1, slots := 6, locals := 90 }) (px_Pc z0 [.ref (ad 0), .int (jI ((d : Int))), .int (jI (pl)), .int (jI (le)), .int (jI (mo))] D vwCl (ty9 g) (fun H => bW D g ad z rl ff H)) px_F (px_X eISE) 1 6 (fun _ => False) := by
  refine vx_ofW (cc := cX3_point) (maxL := 6) (ret := some .int) (by decide) rfl ?_
  intro p e s m args below meth c s₁ B hml hnt hv
  obtain ⟨⟨rfl, hPic, hK⟩, hxT⟩ := hv
  have hx := B.exec
  have hb := B.bytes
  have hts := atoms_spec (ws := wsX3_point) B.pre
  have hown : s.vm.findClass RX3 = some m.cls := findClass_of_methodNamed B.named
  have hlocks := B.notSynchronized
  obtain ⟨sa9, r_0, r_1, r_2, r_3, r_4, r_5, r_6⟩ := hxT.2.2.1
  have hx0 : va_at D vwCl (ad 0, .inr (3, [.ref (ad 1), .int (jI ((bN z : Int))), .int (jI (bV z))])) s.heap := hPic 0 (by omega)
  have hx1 : va_at D vwCl (ad 1, .inl (g 2, 8, .inr (.inr (.inr (.inr (fun j => some (ad (2 + 12 * j)))))))) s.heap := hPic 1 (by omega)
  have hN := hz.1
  have hd0_d : va_at D vwCl (ad (2 + 12 * d), .inr (1, [.int (jI ((d : Int))), .ref (ad (2 + 12 * d + 1)), .ref (ad (2 + 12 * d + 5)), .ref (ad (2 + 12 * d + 10)), .ref (ad (2 + 12 * d + 11)), va_rf ((bU z d).map (fun u => ad (2 + 12 * u))), .int (jI ((bO z d : Int))), .int (jI ((bC z d : Int))), .int (jI (bZ z d))])) s.heap := bW_at hPic (i := d) (by omega) 0 (by omega)
  have hcu : va_at D vwCl (ad (2 + 12 * d + 1), .inr (0, [.ref (ad (2 + 12 * d + 2)), .ref (ad (2 + 12 * d + 3)), .ref (ad (2 + 12 * d + 4)), .int (jI ((bK z d : Int)))])) s.heap := bW_at hPic (i := d) (by omega) 1 (by omega)
  have hpl : va_at D vwCl (ad (2 + 12 * d + 2), .inl (g 0, 6, .inl (fun k9 => jI (bP z d k9)))) s.heap := bW_at hPic (i := d) (by omega) 2 (by omega)
  have hle : va_at D vwCl (ad (2 + 12 * d + 3), .inl (g 0, 6, .inl (fun k9 => jI (bL z d k9)))) s.heap := bW_at hPic (i := d) (by omega) 3 (by omega)
  have hmo : va_at D vwCl (ad (2 + 12 * d + 4), .inl (g 0, 6, .inl (fun k9 => jI (bM z d k9)))) s.heap := bW_at hPic (i := d) (by omega) 4 (by omega)
  rw [hk] at hcu
  have k6 : bK z d ≤ 6 := ((hz.2.2.1 d (by omega)).2.2.2.2.2 0 (by have := (hz.2.2.1 d (by omega)).1; omega)).1
  have fQ : ∀ i, i < bK z d → 1 ≤ bP z d i ∧ bP z d i ≤ 5000 := ((hz.2.2.1 d (by omega)).2.2.2.2.2 0 (by have := (hz.2.2.1 d (by omega)).1; omega)).2.1
  have hl := lv_entry ([.ref (ad 0), .int (jI ((d : Int))), .int (jI (pl)), .int (jI (le)), .int (jI (mo))]) (n := 6) (Nat.le_of_ble_eq_true rfl)
  rw [lg_entry_eq]
  generalize (lg_sl ([.ref (ad 0), .int (jI ((d : Int))), .int (jI (pl)), .int (jI (le)), .int (jI (mo))]) ++ List.replicate (6 - (lg_sl ([.ref (ad 0), .int (jI ((d : Int))), .int (jI (pl)), .int (jI (le)), .int (jI (mo))])).length) Slot.unset).toArray = ls at hl ⊢
  have hl : lv_has ls 6 [(0, .ref (ad 0)), (1, .int (jI ((d : Int)))), (2, .int (jI (pl))), (3, .int (jI (le))), (4, .int (jI (mo)))] := hl
  refine lv_aload_n hx hb dX3_point_0 rfl (lv_at hl 0 rfl) ?_
  refine lv_iload_n hx hb dX3_point_1 rfl (lv_at hl 1 rfl) ?_
  refine pu_call1 (va_runV (As := [.int (jI ((d : Int)))]) (rest := []) ⟨hx, hb, hml, hown, hts⟩ (c_known l D g ad z rl ff hz d hd) (cwV 1 hts (gd_V kw_140 kw_142 kw_0 kw_12 kcX3_known) rfl rfl rfl (by decide +kernel) ⟨Nat.le_of_ble_eq_true rfl, Nat.le_of_ble_eq_true rfl⟩) (pu_preV hPic hK rfl hx0) rfl rfl hl.1 rfl (lv_room (Nat.le_of_ble_eq_true rfl)) dX3_point_2 ⟨Nat.zero_le _, Nat.zero_le _⟩) ?_
  refine va_get (D := D) (ci := 1) (v := .ref (ad (2 + 12 * d + 1))) (C := RX1) (T := TX1) (N := 9) hx hb hts (fun w h => List.mem_cons_of_mem _ (uw_X1 w h)) hown hK (j_P1 hd0_d) 0 rfl rfl 1 (by decide) (hts _ (List.mem_cons_of_mem _ kw_87)) (fun _ h9 => h9) rfl dX3_point_5 ?_
  refine lv_astore (lv' := [(5, .ref (ad (2 + 12 * d + 1))), (0, .ref (ad 0)), (1, .int (jI ((d : Int)))), (2, .int (jI (pl))), (3, .int (jI (le))), (4, .int (jI (mo)))]) hx hb dX3_point_8 hl (by decide) rfl (fun ls hl => ?_)
  refine lv_iload_n hx hb dX3_point_10 rfl (lv_at hl 3 rfl) ?_
  refine jv_iconst hx hb dX3_point_11 ?_
  refine jv_sipush hx hb dX3_point_12 (by decide) ?_
  refine pu_call (va_runS (As := [.int (jI (pl)), .int (jI (1)), .int (jI (5000))]) (rest := []) ⟨hx, hb, hml, hown, hts⟩ (c_demandWithin l D g pl 1 5000 (by omega) (by omega) (by omega) (by omega)) (cwS 3 hts (gd_S kw_234 kw_235 kw_12 kcX3_demandWithin) rfl rfl rfl (by decide +kernel) ⟨Nat.le_of_ble_eq_true rfl, Nat.le_of_ble_eq_true rfl⟩) (pu_preS trivial hK) rfl rfl hl.1 rfl (lv_room (Nat.le_of_ble_eq_true rfl)) dX3_point_15 ⟨Nat.zero_le _, Nat.zero_le _⟩) ?_
  refine lv_iload hx hb dX3_point_18 (lv_at hl 5 rfl) ?_
  refine jv_iconst hx hb dX3_point_20 ?_
  refine jv_ldc (k := 100000) hx hb hown (hts _ (List.mem_cons_of_mem _ kw_238)) (by decide) dX3_point_21 ?_
  refine pu_call (va_runS (As := [.int (jI (mo)), .int (jI (0)), .int (jI (100000))]) (rest := []) ⟨hx, hb, hml, hown, hts⟩ (c_demandWithin l D g mo 0 100000 (by omega) (by omega) (by omega) (by omega)) (cwS 3 hts (gd_S kw_234 kw_235 kw_12 kcX3_demandWithin) rfl rfl rfl (by decide +kernel) ⟨Nat.le_of_ble_eq_true rfl, Nat.le_of_ble_eq_true rfl⟩) (pu_preS trivial hK) rfl rfl hl.1 rfl (lv_room (Nat.le_of_ble_eq_true rfl)) dX3_point_23 ⟨Nat.zero_le _, Nat.zero_le _⟩) ?_
  refine lv_iload_n hx hb dX3_point_26 rfl (lv_at hl 4 rfl) ?_
  refine jv_iconst hx hb dX3_point_27 ?_
  refine lv_iload hx hb dX3_point_28 (lv_at hl 5 rfl) ?_
  refine pu_call (va_runS (As := [.int (jI (le)), .int (jI (0)), .int (jI (mo))]) (rest := []) ⟨hx, hb, hml, hown, hts⟩ (c_demandWithin l D g le 0 mo (by omega) (by omega) (by omega) (by omega)) (cwS 3 hts (gd_S kw_234 kw_235 kw_12 kcX3_demandWithin) rfl rfl rfl (by decide +kernel) ⟨Nat.le_of_ble_eq_true rfl, Nat.le_of_ble_eq_true rfl⟩) (pu_preS trivial hK) rfl rfl hl.1 rfl (lv_room (Nat.le_of_ble_eq_true rfl)) dX3_point_30 ⟨Nat.zero_le _, Nat.zero_le _⟩) ?_
  refine lv_aload hx hb dX3_point_33 (lv_at hl 0 rfl) ?_
  refine va_get (D := D) (ci := 0) (v := .int (jI ((k : Int)))) (C := RX0) (T := TX0) (N := 4) hx hb hts (fun w h => List.mem_cons_of_mem _ (uw_X0 w h)) hown hK (j_P1 hcu) 0 rfl rfl 3 (by decide) (hts _ (List.mem_cons_of_mem _ kw_53)) (fun _ h9 => h9) rfl dX3_point_35 ?_
  refine jv_bipush hx hb dX3_point_38 (by decide) ?_
  refine jv_icmp_lt (tgt := 53) hx hb dX3_point_40 (by decide) (by omega) (by omega) (fun c40 => ?_) (fun c40 => ?_)
  · refine lv_aload hx hb dX3_point_53 (lv_at hl 0 rfl) ?_
    refine va_get (D := D) (ci := 0) (v := .int (jI ((k : Int)))) (C := RX0) (T := TX0) (N := 4) hx hb hts (fun w h => List.mem_cons_of_mem _ (uw_X0 w h)) hown hK (j_P1 hcu) 0 rfl rfl 3 (by decide) (hts _ (List.mem_cons_of_mem _ kw_53)) (fun _ h9 => h9) rfl dX3_point_55 ?_
    refine jv_if_le (tgt := 88) hx hb dX3_point_58 (by decide) (by omega) (fun c58 => ?_) (fun c58 => ?_)
    · exact absurd c58 (by omega)
    · have g3 := fQ (k - 1) (by omega)
      refine lv_aload hx hb dX3_point_61 (lv_at hl 0 rfl) ?_
      refine va_get (D := D) (ci := 0) (v := .ref (ad (2 + 12 * d + 2))) (C := RX0) (T := TX0) (N := 4) hx hb hts (fun w h => List.mem_cons_of_mem _ (uw_X0 w h)) hown hK (j_P1 hcu) 0 rfl rfl 0 (by decide) (hts _ (List.mem_cons_of_mem _ kw_46)) (fun _ h9 => h9) rfl dX3_point_63 ?_
      refine lv_aload hx hb dX3_point_66 (lv_at hl 0 rfl) ?_
      refine va_get (D := D) (ci := 0) (v := .int (jI ((k : Int)))) (C := RX0) (T := TX0) (N := 4) hx hb hts (fun w h => List.mem_cons_of_mem _ (uw_X0 w h)) hown hK (j_P1 hcu) 0 rfl rfl 3 (by decide) (hts _ (List.mem_cons_of_mem _ kw_53)) (fun _ h9 => h9) rfl dX3_point_68 ?_
      refine jv_iconst hx hb dX3_point_71 ?_
      refine jv_isub hx hb dX3_point_72 ?_
      refine jv_iald (i := (k - 1)) hx hb hK hpl 0 rfl (by omega) (by omega) (by decide) dX3_point_73 ?_
      refine lv_iload_n hx hb dX3_point_74 rfl (lv_at hl 3 rfl) ?_
      refine jv_icmp_lt (tgt := 88) hx hb dX3_point_75 (by decide) (by omega) (by omega) (fun c75 => ?_) (fun c75 => ?_)
      · exact absurd c75 (by omega)
      · exact px_throwI hx hb hl9 hown (fun w h => hts w (List.mem_cons_of_mem _ h)) hxT r_5 (hl.1.trans hml.symm) dX3_point_78 dX3_point_81 dX3_point_82 dX3_point_84 dX3_point_87 hnt (Nat.le_of_ble_eq_true rfl) (Nat.le_of_ble_eq_true rfl) (Nat.le_of_ble_eq_true rfl) (Nat.le_of_ble_eq_true rfl) hlocks
  · exact px_throwI hx hb hl9 hown (fun w h => hts w (List.mem_cons_of_mem _ h)) hxT r_4 (hl.1.trans hml.symm) dX3_point_43 dX3_point_46 dX3_point_47 dX3_point_49 dX3_point_52 hnt (Nat.le_of_ble_eq_true rfl) (Nat.le_of_ble_eq_true rfl) (Nat.le_of_ble_eq_true rfl) (Nat.le_of_ble_eq_true rfl) hlocks
set_option maxHeartbeats 4000000 in
set_option maxRecDepth 100000 in
theorem x_option1 (l : Launch) (hl9 : l.stackTraces = false) (D : va_G) (g : Nat → ClassId) (z0 : Nat) (ad : Nat → Nat) (z : bSt) (rl : Nat → Nat → Bool) (ff : Nat → Nat → Int) (hz : bOK z) (d sc de : Int) (h_d : -2147483648 ≤ d ∧ d < 2147483648) (hbad : ¬ (0 ≤ d ∧ d ≤ (bN z : Int) - 1)) : vx_Met l yX3_option wsX3_option ({ frames := 7, cells := 1, slots := 6, locals := 111 }) (px_Pc z0 [.ref (ad 0), .int (jI (d)), .int (jI (sc)), .int (jI (de))] D vwCl (ty9 g) (fun H => bW D g ad z rl ff H)) px_F (px_X eIAE) 1 6 (fun _ => False) := by
  refine vx_ofW (cc := cX3_option) (maxL := 6) (ret := some .int) (by decide) rfl ?_
  intro p e s m args below meth c s₁ B hml hnt hv
  obtain ⟨⟨rfl, hPic, hK⟩, hxT⟩ := hv
  have hx := B.exec
  have hb := B.bytes
  have hts := atoms_spec (ws := wsX3_option) B.pre
  have hown : s.vm.findClass RX3 = some m.cls := findClass_of_methodNamed B.named
  have hlocks := B.notSynchronized
  obtain ⟨sa9, r_0, r_1, r_2, r_3, r_4, r_5, r_6⟩ := hxT.2.2.1
  have hx0 : va_at D vwCl (ad 0, .inr (3, [.ref (ad 1), .int (jI ((bN z : Int))), .int (jI (bV z))])) s.heap := hPic 0 (by omega)
  have hx1 : va_at D vwCl (ad 1, .inl (g 2, 8, .inr (.inr (.inr (.inr (fun j => some (ad (2 + 12 * j)))))))) s.heap := hPic 1 (by omega)
  have hN := hz.1
  have hl := lv_entry ([.ref (ad 0), .int (jI (d)), .int (jI (sc)), .int (jI (de))]) (n := 6) (Nat.le_of_ble_eq_true rfl)
  rw [lg_entry_eq]
  generalize (lg_sl ([.ref (ad 0), .int (jI (d)), .int (jI (sc)), .int (jI (de))]) ++ List.replicate (6 - (lg_sl ([.ref (ad 0), .int (jI (d)), .int (jI (sc)), .int (jI (de))])).length) Slot.unset).toArray = ls at hl ⊢
  have hl : lv_has ls 6 [(0, .ref (ad 0)), (1, .int (jI (d))), (2, .int (jI (sc))), (3, .int (jI (de)))] := hl
  refine lv_aload_n hx hb dX3_option_0 rfl (lv_at hl 0 rfl) ?_
  refine lv_iload_n hx hb dX3_option_1 rfl (lv_at hl 1 rfl) ?_
  exact px_out (vx_runV (As := [.int (jI (d))]) (rest := []) ⟨hx, hb, hml, hown, hts⟩ (x_known l hl9 D g z0 ad z rl ff hz d h_d hbad) (cwV 1 hts (gd_V kw_140 kw_142 kw_0 kw_12 kcX3_known) rfl rfl rfl (by decide +kernel) ⟨Nat.le_of_ble_eq_true rfl, Nat.le_of_ble_eq_true rfl⟩) (px_preV hPic hK hxT rfl hx0) rfl rfl hl.1 rfl (lv_room (Nat.le_of_ble_eq_true rfl)) dX3_option_2 ⟨Nat.le_of_ble_eq_true rfl, Nat.le_of_ble_eq_true rfl⟩) hnt hlocks
set_option maxHeartbeats 4000000 in
set_option maxRecDepth 100000 in
theorem x_option2 (l : Launch) (hl9 : l.stackTraces = false) (D : va_G) (g : Nat → ClassId) (z0 : Nat) (ad : Nat → Nat) (z : bSt) (rl : Nat → Nat → Bool) (ff : Nat → Nat → Int) (hz : bOK z) (d : Nat) (sc de : Int) (hd : d < bN z) (h_sc : -2147483648 ≤ sc ∧ sc < 2147483648) (h_de : -2147483648 ≤ de ∧ de < 2147483648) (hbad : ¬ ((10 ≤ sc ∧ sc ≤ 1000) ∧ (0 ≤ de ∧ de ≤ 10000))) : vx_Met l yX3_option wsX3_option ({ frames := 7, cells := 1, slots := 6, locals := 112 }) (px_Pc z0 [.ref (ad 0), .int (jI ((d : Int))), .int (jI (sc)), .int (jI (de))] D vwCl (ty9 g) (fun H => bW D g ad z rl ff H)) px_F (px_X eIAE) 1 6 (fun _ => False) := by
  refine vx_ofW (cc := cX3_option) (maxL := 6) (ret := some .int) (by decide) rfl ?_
  intro p e s m args below meth c s₁ B hml hnt hv
  obtain ⟨⟨rfl, hPic, hK⟩, hxT⟩ := hv
  have hx := B.exec
  have hb := B.bytes
  have hts := atoms_spec (ws := wsX3_option) B.pre
  have hown : s.vm.findClass RX3 = some m.cls := findClass_of_methodNamed B.named
  have hlocks := B.notSynchronized
  obtain ⟨sa9, r_0, r_1, r_2, r_3, r_4, r_5, r_6⟩ := hxT.2.2.1
  have hx0 : va_at D vwCl (ad 0, .inr (3, [.ref (ad 1), .int (jI ((bN z : Int))), .int (jI (bV z))])) s.heap := hPic 0 (by omega)
  have hx1 : va_at D vwCl (ad 1, .inl (g 2, 8, .inr (.inr (.inr (.inr (fun j => some (ad (2 + 12 * j)))))))) s.heap := hPic 1 (by omega)
  have hN := hz.1
  have hd0_d : va_at D vwCl (ad (2 + 12 * d), .inr (1, [.int (jI ((d : Int))), .ref (ad (2 + 12 * d + 1)), .ref (ad (2 + 12 * d + 5)), .ref (ad (2 + 12 * d + 10)), .ref (ad (2 + 12 * d + 11)), va_rf ((bU z d).map (fun u => ad (2 + 12 * u))), .int (jI ((bO z d : Int))), .int (jI ((bC z d : Int))), .int (jI (bZ z d))])) s.heap := bW_at hPic (i := d) (by omega) 0 (by omega)
  have hl := lv_entry ([.ref (ad 0), .int (jI ((d : Int))), .int (jI (sc)), .int (jI (de))]) (n := 6) (Nat.le_of_ble_eq_true rfl)
  rw [lg_entry_eq]
  generalize (lg_sl ([.ref (ad 0), .int (jI ((d : Int))), .int (jI (sc)), .int (jI (de))]) ++ List.replicate (6 - (lg_sl ([.ref (ad 0), .int (jI ((d : Int))), .int (jI (sc)), .int (jI (de))])).length) Slot.unset).toArray = ls at hl ⊢
  have hl : lv_has ls 6 [(0, .ref (ad 0)), (1, .int (jI ((d : Int)))), (2, .int (jI (sc))), (3, .int (jI (de)))] := hl
  refine lv_aload_n hx hb dX3_option_0 rfl (lv_at hl 0 rfl) ?_
  refine lv_iload_n hx hb dX3_option_1 rfl (lv_at hl 1 rfl) ?_
  refine pu_call1 (va_runV (As := [.int (jI ((d : Int)))]) (rest := []) ⟨hx, hb, hml, hown, hts⟩ (c_known l D g ad z rl ff hz d hd) (cwV 1 hts (gd_V kw_140 kw_142 kw_0 kw_12 kcX3_known) rfl rfl rfl (by decide +kernel) ⟨Nat.le_of_ble_eq_true rfl, Nat.le_of_ble_eq_true rfl⟩) (pu_preV hPic hK rfl hx0) rfl rfl hl.1 rfl (lv_room (Nat.le_of_ble_eq_true rfl)) dX3_option_2 ⟨Nat.zero_le _, Nat.zero_le _⟩) ?_
  refine lv_astore (lv' := [(4, .ref (ad (2 + 12 * d))), (0, .ref (ad 0)), (1, .int (jI ((d : Int)))), (2, .int (jI (sc))), (3, .int (jI (de)))]) hx hb dX3_option_5 hl (by decide) rfl (fun ls hl => ?_)
  refine lv_iload_n hx hb dX3_option_7 rfl (lv_at hl 3 rfl) ?_
  refine jv_bipush hx hb dX3_option_8 (by decide) ?_
  refine jv_sipush hx hb dX3_option_10 (by decide) ?_
  by_cases hb13 : 10 ≤ sc ∧ sc ≤ 1000
  · refine pu_call (va_runS (As := [.int (jI (sc)), .int (jI (10)), .int (jI (1000))]) (rest := []) ⟨hx, hb, hml, hown, hts⟩ (c_demandWithin l D g sc 10 1000 (by omega) (by omega) (by omega) (by omega)) (cwS 3 hts (gd_S kw_234 kw_235 kw_12 kcX3_demandWithin) rfl rfl rfl (by decide +kernel) ⟨Nat.le_of_ble_eq_true rfl, Nat.le_of_ble_eq_true rfl⟩) (pu_preS trivial hK) rfl rfl hl.1 rfl (lv_room (Nat.le_of_ble_eq_true rfl)) dX3_option_13 ⟨Nat.zero_le _, Nat.zero_le _⟩) ?_
    refine lv_iload_n hx hb dX3_option_16 rfl (lv_at hl 4 rfl) ?_
    refine jv_iconst hx hb dX3_option_17 ?_
    refine jv_sipush hx hb dX3_option_18 (by decide) ?_
    by_cases hb21 : 0 ≤ de ∧ de ≤ 10000
    · exact absurd hb21 (by omega)
    · exact px_out (vx_runS (As := [.int (jI (de)), .int (jI (0)), .int (jI (10000))]) (rest := []) ⟨hx, hb, hml, hown, hts⟩ (x_demandWithin l hl9 D g z0 de 0 10000 (by omega) (by omega) (by omega) hb21) (cwS 3 hts (gd_S kw_234 kw_235 kw_12 kcX3_demandWithin) rfl rfl rfl (by decide +kernel) ⟨Nat.le_of_ble_eq_true rfl, Nat.le_of_ble_eq_true rfl⟩) (px_preS trivial hK hxT) rfl rfl hl.1 rfl (lv_room (Nat.le_of_ble_eq_true rfl)) dX3_option_21 ⟨Nat.le_of_ble_eq_true rfl, Nat.le_of_ble_eq_true rfl⟩) hnt hlocks
  · exact px_out (vx_runS (As := [.int (jI (sc)), .int (jI (10)), .int (jI (1000))]) (rest := []) ⟨hx, hb, hml, hown, hts⟩ (x_demandWithin l hl9 D g z0 sc 10 1000 (by omega) (by omega) (by omega) hb13) (cwS 3 hts (gd_S kw_234 kw_235 kw_12 kcX3_demandWithin) rfl rfl rfl (by decide +kernel) ⟨Nat.le_of_ble_eq_true rfl, Nat.le_of_ble_eq_true rfl⟩) (px_preS trivial hK hxT) rfl rfl hl.1 rfl (lv_room (Nat.le_of_ble_eq_true rfl)) dX3_option_13 ⟨Nat.le_of_ble_eq_true rfl, Nat.le_of_ble_eq_true rfl⟩) hnt hlocks
set_option maxHeartbeats 4000000 in
set_option maxRecDepth 100000 in
theorem x_option3 (l : Launch) (hl9 : l.stackTraces = false) (D : va_G) (g : Nat → ClassId) (z0 : Nat) (ad : Nat → Nat) (z : bSt) (rl : Nat → Nat → Bool) (ff : Nat → Nat → Int) (hz : bOK z) (d : Nat) (sc de : Int) (hd : d < bN z) (ho : bO z d = 4) (hsc : 10 ≤ sc ∧ sc ≤ 1000) (hde : 0 ≤ de ∧ de ≤ 10000) : vx_Met l yX3_option wsX3_option ({ frames := 6, cells := 1, slots := 6, locals := 90 }) (px_Pc z0 [.ref (ad 0), .int (jI ((d : Int))), .int (jI (sc)), .int (jI (de))] D vwCl (ty9 g) (fun H => bW D g ad z rl ff H)) px_F (px_X eISE) 1 6 (fun _ => False) := by
  refine vx_ofW (cc := cX3_option) (maxL := 6) (ret := some .int) (by decide) rfl ?_
  intro p e s m args below meth c s₁ B hml hnt hv
  obtain ⟨⟨rfl, hPic, hK⟩, hxT⟩ := hv
  have hx := B.exec
  have hb := B.bytes
  have hts := atoms_spec (ws := wsX3_option) B.pre
  have hown : s.vm.findClass RX3 = some m.cls := findClass_of_methodNamed B.named
  have hlocks := B.notSynchronized
  obtain ⟨sa9, r_0, r_1, r_2, r_3, r_4, r_5, r_6⟩ := hxT.2.2.1
  have hx0 : va_at D vwCl (ad 0, .inr (3, [.ref (ad 1), .int (jI ((bN z : Int))), .int (jI (bV z))])) s.heap := hPic 0 (by omega)
  have hx1 : va_at D vwCl (ad 1, .inl (g 2, 8, .inr (.inr (.inr (.inr (fun j => some (ad (2 + 12 * j)))))))) s.heap := hPic 1 (by omega)
  have hN := hz.1
  have hd0_d : va_at D vwCl (ad (2 + 12 * d), .inr (1, [.int (jI ((d : Int))), .ref (ad (2 + 12 * d + 1)), .ref (ad (2 + 12 * d + 5)), .ref (ad (2 + 12 * d + 10)), .ref (ad (2 + 12 * d + 11)), va_rf ((bU z d).map (fun u => ad (2 + 12 * u))), .int (jI ((bO z d : Int))), .int (jI ((bC z d : Int))), .int (jI (bZ z d))])) s.heap := bW_at hPic (i := d) (by omega) 0 (by omega)
  have hl := lv_entry ([.ref (ad 0), .int (jI ((d : Int))), .int (jI (sc)), .int (jI (de))]) (n := 6) (Nat.le_of_ble_eq_true rfl)
  rw [lg_entry_eq]
  generalize (lg_sl ([.ref (ad 0), .int (jI ((d : Int))), .int (jI (sc)), .int (jI (de))]) ++ List.replicate (6 - (lg_sl ([.ref (ad 0), .int (jI ((d : Int))), .int (jI (sc)), .int (jI (de))])).length) Slot.unset).toArray = ls at hl ⊢
  have hl : lv_has ls 6 [(0, .ref (ad 0)), (1, .int (jI ((d : Int)))), (2, .int (jI (sc))), (3, .int (jI (de)))] := hl
  refine lv_aload_n hx hb dX3_option_0 rfl (lv_at hl 0 rfl) ?_
  refine lv_iload_n hx hb dX3_option_1 rfl (lv_at hl 1 rfl) ?_
  refine pu_call1 (va_runV (As := [.int (jI ((d : Int)))]) (rest := []) ⟨hx, hb, hml, hown, hts⟩ (c_known l D g ad z rl ff hz d hd) (cwV 1 hts (gd_V kw_140 kw_142 kw_0 kw_12 kcX3_known) rfl rfl rfl (by decide +kernel) ⟨Nat.le_of_ble_eq_true rfl, Nat.le_of_ble_eq_true rfl⟩) (pu_preV hPic hK rfl hx0) rfl rfl hl.1 rfl (lv_room (Nat.le_of_ble_eq_true rfl)) dX3_option_2 ⟨Nat.zero_le _, Nat.zero_le _⟩) ?_
  refine lv_astore (lv' := [(4, .ref (ad (2 + 12 * d))), (0, .ref (ad 0)), (1, .int (jI ((d : Int)))), (2, .int (jI (sc))), (3, .int (jI (de)))]) hx hb dX3_option_5 hl (by decide) rfl (fun ls hl => ?_)
  refine lv_iload_n hx hb dX3_option_7 rfl (lv_at hl 3 rfl) ?_
  refine jv_bipush hx hb dX3_option_8 (by decide) ?_
  refine jv_sipush hx hb dX3_option_10 (by decide) ?_
  refine pu_call (va_runS (As := [.int (jI (sc)), .int (jI (10)), .int (jI (1000))]) (rest := []) ⟨hx, hb, hml, hown, hts⟩ (c_demandWithin l D g sc 10 1000 (by omega) (by omega) (by omega) (by omega)) (cwS 3 hts (gd_S kw_234 kw_235 kw_12 kcX3_demandWithin) rfl rfl rfl (by decide +kernel) ⟨Nat.le_of_ble_eq_true rfl, Nat.le_of_ble_eq_true rfl⟩) (pu_preS trivial hK) rfl rfl hl.1 rfl (lv_room (Nat.le_of_ble_eq_true rfl)) dX3_option_13 ⟨Nat.zero_le _, Nat.zero_le _⟩) ?_
  refine lv_iload_n hx hb dX3_option_16 rfl (lv_at hl 4 rfl) ?_
  refine jv_iconst hx hb dX3_option_17 ?_
  refine jv_sipush hx hb dX3_option_18 (by decide) ?_
  refine pu_call (va_runS (As := [.int (jI (de)), .int (jI (0)), .int (jI (10000))]) (rest := []) ⟨hx, hb, hml, hown, hts⟩ (c_demandWithin l D g de 0 10000 (by omega) (by omega) (by omega) (by omega)) (cwS 3 hts (gd_S kw_234 kw_235 kw_12 kcX3_demandWithin) rfl rfl rfl (by decide +kernel) ⟨Nat.le_of_ble_eq_true rfl, Nat.le_of_ble_eq_true rfl⟩) (pu_preS trivial hK) rfl rfl hl.1 rfl (lv_room (Nat.le_of_ble_eq_true rfl)) dX3_option_21 ⟨Nat.zero_le _, Nat.zero_le _⟩) ?_
  refine lv_aload hx hb dX3_option_24 (lv_at hl 0 rfl) ?_
  refine va_get (D := D) (ci := 1) (v := .int (jI ((bO z d : Int)))) (C := RX1) (T := TX1) (N := 9) hx hb hts (fun w h => List.mem_cons_of_mem _ (uw_X1 w h)) hown hK (j_P1 hd0_d) 0 rfl rfl 6 (by decide) (hts _ (List.mem_cons_of_mem _ kw_97)) (fun _ h9 => h9) rfl dX3_option_26 ?_
  refine jv_iconst hx hb dX3_option_29 ?_
  refine jv_icmp_lt (tgt := 43) hx hb dX3_option_30 (by decide) (by omega) (by omega) (fun c30 => ?_) (fun c30 => ?_)
  · exact absurd c30 (by omega)
  · exact px_throwI hx hb hl9 hown (fun w h => hts w (List.mem_cons_of_mem _ h)) hxT r_6 (hl.1.trans hml.symm) dX3_option_33 dX3_option_36 dX3_option_37 dX3_option_39 dX3_option_42 hnt (Nat.le_of_ble_eq_true rfl) (Nat.le_of_ble_eq_true rfl) (Nat.le_of_ble_eq_true rfl) (Nat.le_of_ble_eq_true rfl) hlocks
set_option maxHeartbeats 4000000 in
set_option maxRecDepth 100000 in
theorem x_choose1 (l : Launch) (hl9 : l.stackTraces = false) (D : va_G) (g : Nat → ClassId) (z0 : Nat) (ad : Nat → Nat) (z : bSt) (rl : Nat → Nat → Bool) (ff : Nat → Nat → Int) (hz : bOK z) (d o : Int) (h_d : -2147483648 ≤ d ∧ d < 2147483648) (hbad : ¬ (0 ≤ d ∧ d ≤ (bN z : Int) - 1)) : vx_Met l yX3_choose wsX3_choose ({ frames := 7, cells := 1, slots := 6, locals := 111 }) (px_Pc z0 [.ref (ad 0), .int (jI (d)), .int (jI (o))] D vwCl (ty9 g) (fun H => bW D g ad z rl ff H)) px_F (px_X eIAE) 1 6 (fun _ => False) := by
  refine vx_ofW (cc := cX3_choose) (maxL := 5) (ret := some .int) (by decide) rfl ?_
  intro p e s m args below meth c s₁ B hml hnt hv
  obtain ⟨⟨rfl, hPic, hK⟩, hxT⟩ := hv
  have hx := B.exec
  have hb := B.bytes
  have hts := atoms_spec (ws := wsX3_choose) B.pre
  have hown : s.vm.findClass RX3 = some m.cls := findClass_of_methodNamed B.named
  have hlocks := B.notSynchronized
  obtain ⟨sa9, r_0, r_1, r_2, r_3, r_4, r_5, r_6⟩ := hxT.2.2.1
  have hx0 : va_at D vwCl (ad 0, .inr (3, [.ref (ad 1), .int (jI ((bN z : Int))), .int (jI (bV z))])) s.heap := hPic 0 (by omega)
  have hx1 : va_at D vwCl (ad 1, .inl (g 2, 8, .inr (.inr (.inr (.inr (fun j => some (ad (2 + 12 * j)))))))) s.heap := hPic 1 (by omega)
  have hN := hz.1
  have hl := lv_entry ([.ref (ad 0), .int (jI (d)), .int (jI (o))]) (n := 5) (Nat.le_of_ble_eq_true rfl)
  rw [lg_entry_eq]
  generalize (lg_sl ([.ref (ad 0), .int (jI (d)), .int (jI (o))]) ++ List.replicate (5 - (lg_sl ([.ref (ad 0), .int (jI (d)), .int (jI (o))])).length) Slot.unset).toArray = ls at hl ⊢
  have hl : lv_has ls 5 [(0, .ref (ad 0)), (1, .int (jI (d))), (2, .int (jI (o)))] := hl
  refine lv_aload_n hx hb dX3_choose_0 rfl (lv_at hl 0 rfl) ?_
  refine lv_iload_n hx hb dX3_choose_1 rfl (lv_at hl 1 rfl) ?_
  exact px_out (vx_runV (As := [.int (jI (d))]) (rest := []) ⟨hx, hb, hml, hown, hts⟩ (x_known l hl9 D g z0 ad z rl ff hz d h_d hbad) (cwV 1 hts (gd_V kw_140 kw_142 kw_0 kw_12 kcX3_known) rfl rfl rfl (by decide +kernel) ⟨Nat.le_of_ble_eq_true rfl, Nat.le_of_ble_eq_true rfl⟩) (px_preV hPic hK hxT rfl hx0) rfl rfl hl.1 rfl (lv_room (Nat.le_of_ble_eq_true rfl)) dX3_choose_2 ⟨Nat.le_of_ble_eq_true rfl, Nat.le_of_ble_eq_true rfl⟩) hnt hlocks
set_option maxHeartbeats 4000000 in
set_option maxRecDepth 100000 in
theorem x_choose2 (l : Launch) (hl9 : l.stackTraces = false) (D : va_G) (g : Nat → ClassId) (z0 : Nat) (ad : Nat → Nat) (z : bSt) (rl : Nat → Nat → Bool) (ff : Nat → Nat → Int) (hz : bOK z) (d : Nat) (o : Int) (hd : d < bN z) (h_o : -2147483648 ≤ o ∧ o < 2147483648) (hbad : ¬ (0 ≤ o ∧ o ≤ (bO z d : Int) - 1)) : vx_Met l yX3_choose wsX3_choose ({ frames := 7, cells := 1, slots := 6, locals := 112 }) (px_Pc z0 [.ref (ad 0), .int (jI ((d : Int))), .int (jI (o))] D vwCl (ty9 g) (fun H => bW D g ad z rl ff H)) px_F (px_X eIAE) 1 6 (fun _ => False) := by
  refine vx_ofW (cc := cX3_choose) (maxL := 5) (ret := some .int) (by decide) rfl ?_
  intro p e s m args below meth c s₁ B hml hnt hv
  obtain ⟨⟨rfl, hPic, hK⟩, hxT⟩ := hv
  have hx := B.exec
  have hb := B.bytes
  have hts := atoms_spec (ws := wsX3_choose) B.pre
  have hown : s.vm.findClass RX3 = some m.cls := findClass_of_methodNamed B.named
  have hlocks := B.notSynchronized
  obtain ⟨sa9, r_0, r_1, r_2, r_3, r_4, r_5, r_6⟩ := hxT.2.2.1
  have hx0 : va_at D vwCl (ad 0, .inr (3, [.ref (ad 1), .int (jI ((bN z : Int))), .int (jI (bV z))])) s.heap := hPic 0 (by omega)
  have hx1 : va_at D vwCl (ad 1, .inl (g 2, 8, .inr (.inr (.inr (.inr (fun j => some (ad (2 + 12 * j)))))))) s.heap := hPic 1 (by omega)
  have hN := hz.1
  have hd0_d : va_at D vwCl (ad (2 + 12 * d), .inr (1, [.int (jI ((d : Int))), .ref (ad (2 + 12 * d + 1)), .ref (ad (2 + 12 * d + 5)), .ref (ad (2 + 12 * d + 10)), .ref (ad (2 + 12 * d + 11)), va_rf ((bU z d).map (fun u => ad (2 + 12 * u))), .int (jI ((bO z d : Int))), .int (jI ((bC z d : Int))), .int (jI (bZ z d))])) s.heap := bW_at hPic (i := d) (by omega) 0 (by omega)
  have f_d := hz.2.2.1 d (by omega)
  have hl := lv_entry ([.ref (ad 0), .int (jI ((d : Int))), .int (jI (o))]) (n := 5) (Nat.le_of_ble_eq_true rfl)
  rw [lg_entry_eq]
  generalize (lg_sl ([.ref (ad 0), .int (jI ((d : Int))), .int (jI (o))]) ++ List.replicate (5 - (lg_sl ([.ref (ad 0), .int (jI ((d : Int))), .int (jI (o))])).length) Slot.unset).toArray = ls at hl ⊢
  have hl : lv_has ls 5 [(0, .ref (ad 0)), (1, .int (jI ((d : Int)))), (2, .int (jI (o)))] := hl
  refine lv_aload_n hx hb dX3_choose_0 rfl (lv_at hl 0 rfl) ?_
  refine lv_iload_n hx hb dX3_choose_1 rfl (lv_at hl 1 rfl) ?_
  refine pu_call1 (va_runV (As := [.int (jI ((d : Int)))]) (rest := []) ⟨hx, hb, hml, hown, hts⟩ (c_known l D g ad z rl ff hz d hd) (cwV 1 hts (gd_V kw_140 kw_142 kw_0 kw_12 kcX3_known) rfl rfl rfl (by decide +kernel) ⟨Nat.le_of_ble_eq_true rfl, Nat.le_of_ble_eq_true rfl⟩) (pu_preV hPic hK rfl hx0) rfl rfl hl.1 rfl (lv_room (Nat.le_of_ble_eq_true rfl)) dX3_choose_2 ⟨Nat.zero_le _, Nat.zero_le _⟩) ?_
  refine lv_astore_n (lv' := [(3, .ref (ad (2 + 12 * d))), (0, .ref (ad 0)), (1, .int (jI ((d : Int)))), (2, .int (jI (o)))]) hx hb dX3_choose_5 rfl hl (by decide) rfl (fun ls hl => ?_)
  refine lv_iload_n hx hb dX3_choose_6 rfl (lv_at hl 3 rfl) ?_
  refine jv_iconst hx hb dX3_choose_7 ?_
  refine lv_aload_n hx hb dX3_choose_8 rfl (lv_at hl 0 rfl) ?_
  refine va_get (D := D) (ci := 1) (v := .int (jI ((bO z d : Int)))) (C := RX1) (T := TX1) (N := 9) hx hb hts (fun w h => List.mem_cons_of_mem _ (uw_X1 w h)) hown hK (j_P1 hd0_d) 0 rfl rfl 6 (by decide) (hts _ (List.mem_cons_of_mem _ kw_97)) (fun _ h9 => h9) rfl dX3_choose_9 ?_
  refine jv_iconst hx hb dX3_choose_12 ?_
  refine jv_isub hx hb dX3_choose_13 ?_
  by_cases hb14 : 0 ≤ o ∧ o ≤ ((bO z d : Int) - 1)
  · exact absurd hb14 (by omega)
  · exact px_out (vx_runS (As := [.int (jI (o)), .int (jI (0)), .int (jI ((bO z d : Int) - 1))]) (rest := []) ⟨hx, hb, hml, hown, hts⟩ (x_demandWithin l hl9 D g z0 o 0 ((bO z d : Int) - 1) (by omega) (by omega) (by omega) hb14) (cwS 3 hts (gd_S kw_234 kw_235 kw_12 kcX3_demandWithin) rfl rfl rfl (by decide +kernel) ⟨Nat.le_of_ble_eq_true rfl, Nat.le_of_ble_eq_true rfl⟩) (px_preS trivial hK hxT) rfl rfl hl.1 rfl (lv_room (Nat.le_of_ble_eq_true rfl)) dX3_choose_14 ⟨Nat.le_of_ble_eq_true rfl, Nat.le_of_ble_eq_true rfl⟩) hnt hlocks
set_option maxHeartbeats 4000000 in
set_option maxRecDepth 100000 in
theorem x_time1 (l : Launch) (hl9 : l.stackTraces = false) (D : va_G) (g : Nat → ClassId) (z0 : Nat) (ad : Nat → Nat) (z : bSt) (rl : Nat → Nat → Bool) (ff : Nat → Nat → Int) (hz : bOK z) (d i : Int) (mo : Bool) (h_d : -2147483648 ≤ d ∧ d < 2147483648) (hbad : ¬ (0 ≤ d ∧ d ≤ (bN z : Int) - 1)) : vx_Met l yX3_time wsX3_time ({ frames := 7, cells := 1, slots := 6, locals := 111 }) (px_Pc z0 [.ref (ad 0), .int (jI (d)), .int (jI (i)), .int (jI (bI mo))] D vwCl (ty9 g) (fun H => bW D g ad z rl ff H)) px_F (px_X eIAE) 1 6 (fun _ => False) := by
  refine vx_ofW (cc := cX3_time) (maxL := 6) (ret := some .int) (by decide) rfl ?_
  intro p e s m args below meth c s₁ B hml hnt hv
  obtain ⟨⟨rfl, hPic, hK⟩, hxT⟩ := hv
  have hx := B.exec
  have hb := B.bytes
  have hts := atoms_spec (ws := wsX3_time) B.pre
  have hown : s.vm.findClass RX3 = some m.cls := findClass_of_methodNamed B.named
  have hlocks := B.notSynchronized
  obtain ⟨sa9, r_0, r_1, r_2, r_3, r_4, r_5, r_6⟩ := hxT.2.2.1
  have hx0 : va_at D vwCl (ad 0, .inr (3, [.ref (ad 1), .int (jI ((bN z : Int))), .int (jI (bV z))])) s.heap := hPic 0 (by omega)
  have hx1 : va_at D vwCl (ad 1, .inl (g 2, 8, .inr (.inr (.inr (.inr (fun j => some (ad (2 + 12 * j)))))))) s.heap := hPic 1 (by omega)
  have hN := hz.1
  have hl := lv_entry ([.ref (ad 0), .int (jI (d)), .int (jI (i)), .int (jI (bI mo))]) (n := 6) (Nat.le_of_ble_eq_true rfl)
  rw [lg_entry_eq]
  generalize (lg_sl ([.ref (ad 0), .int (jI (d)), .int (jI (i)), .int (jI (bI mo))]) ++ List.replicate (6 - (lg_sl ([.ref (ad 0), .int (jI (d)), .int (jI (i)), .int (jI (bI mo))])).length) Slot.unset).toArray = ls at hl ⊢
  have hl : lv_has ls 6 [(0, .ref (ad 0)), (1, .int (jI (d))), (2, .int (jI (i))), (3, .int (jI (bI mo)))] := hl
  refine lv_aload_n hx hb dX3_time_0 rfl (lv_at hl 0 rfl) ?_
  refine lv_iload_n hx hb dX3_time_1 rfl (lv_at hl 1 rfl) ?_
  exact px_out (vx_runV (As := [.int (jI (d))]) (rest := []) ⟨hx, hb, hml, hown, hts⟩ (x_known l hl9 D g z0 ad z rl ff hz d h_d hbad) (cwV 1 hts (gd_V kw_140 kw_142 kw_0 kw_12 kcX3_known) rfl rfl rfl (by decide +kernel) ⟨Nat.le_of_ble_eq_true rfl, Nat.le_of_ble_eq_true rfl⟩) (px_preV hPic hK hxT rfl hx0) rfl rfl hl.1 rfl (lv_room (Nat.le_of_ble_eq_true rfl)) dX3_time_2 ⟨Nat.le_of_ble_eq_true rfl, Nat.le_of_ble_eq_true rfl⟩) hnt hlocks
set_option maxHeartbeats 4000000 in
set_option maxRecDepth 100000 in
theorem x_time2 (l : Launch) (hl9 : l.stackTraces = false) (D : va_G) (g : Nat → ClassId) (z0 : Nat) (ad : Nat → Nat) (z : bSt) (rl : Nat → Nat → Bool) (ff : Nat → Nat → Int) (hz : bOK z) (d : Nat) (i : Int) (mo : Bool) (hd : d < bN z) (h_i : -2147483648 ≤ i ∧ i < 2147483648) (hbad : ¬ (1 ≤ i ∧ i ≤ 5000)) : vx_Met l yX3_time wsX3_time ({ frames := 7, cells := 1, slots := 6, locals := 112 }) (px_Pc z0 [.ref (ad 0), .int (jI ((d : Int))), .int (jI (i)), .int (jI (bI mo))] D vwCl (ty9 g) (fun H => bW D g ad z rl ff H)) px_F (px_X eIAE) 1 6 (fun _ => False) := by
  refine vx_ofW (cc := cX3_time) (maxL := 6) (ret := some .int) (by decide) rfl ?_
  intro p e s m args below meth c s₁ B hml hnt hv
  obtain ⟨⟨rfl, hPic, hK⟩, hxT⟩ := hv
  have hx := B.exec
  have hb := B.bytes
  have hts := atoms_spec (ws := wsX3_time) B.pre
  have hown : s.vm.findClass RX3 = some m.cls := findClass_of_methodNamed B.named
  have hlocks := B.notSynchronized
  obtain ⟨sa9, r_0, r_1, r_2, r_3, r_4, r_5, r_6⟩ := hxT.2.2.1
  have hx0 : va_at D vwCl (ad 0, .inr (3, [.ref (ad 1), .int (jI ((bN z : Int))), .int (jI (bV z))])) s.heap := hPic 0 (by omega)
  have hx1 : va_at D vwCl (ad 1, .inl (g 2, 8, .inr (.inr (.inr (.inr (fun j => some (ad (2 + 12 * j)))))))) s.heap := hPic 1 (by omega)
  have hN := hz.1
  have hd0_d : va_at D vwCl (ad (2 + 12 * d), .inr (1, [.int (jI ((d : Int))), .ref (ad (2 + 12 * d + 1)), .ref (ad (2 + 12 * d + 5)), .ref (ad (2 + 12 * d + 10)), .ref (ad (2 + 12 * d + 11)), va_rf ((bU z d).map (fun u => ad (2 + 12 * u))), .int (jI ((bO z d : Int))), .int (jI ((bC z d : Int))), .int (jI (bZ z d))])) s.heap := bW_at hPic (i := d) (by omega) 0 (by omega)
  have hl := lv_entry ([.ref (ad 0), .int (jI ((d : Int))), .int (jI (i)), .int (jI (bI mo))]) (n := 6) (Nat.le_of_ble_eq_true rfl)
  rw [lg_entry_eq]
  generalize (lg_sl ([.ref (ad 0), .int (jI ((d : Int))), .int (jI (i)), .int (jI (bI mo))]) ++ List.replicate (6 - (lg_sl ([.ref (ad 0), .int (jI ((d : Int))), .int (jI (i)), .int (jI (bI mo))])).length) Slot.unset).toArray = ls at hl ⊢
  have hl : lv_has ls 6 [(0, .ref (ad 0)), (1, .int (jI ((d : Int)))), (2, .int (jI (i))), (3, .int (jI (bI mo)))] := hl
  refine lv_aload_n hx hb dX3_time_0 rfl (lv_at hl 0 rfl) ?_
  refine lv_iload_n hx hb dX3_time_1 rfl (lv_at hl 1 rfl) ?_
  refine pu_call1 (va_runV (As := [.int (jI ((d : Int)))]) (rest := []) ⟨hx, hb, hml, hown, hts⟩ (c_known l D g ad z rl ff hz d hd) (cwV 1 hts (gd_V kw_140 kw_142 kw_0 kw_12 kcX3_known) rfl rfl rfl (by decide +kernel) ⟨Nat.le_of_ble_eq_true rfl, Nat.le_of_ble_eq_true rfl⟩) (pu_preV hPic hK rfl hx0) rfl rfl hl.1 rfl (lv_room (Nat.le_of_ble_eq_true rfl)) dX3_time_2 ⟨Nat.zero_le _, Nat.zero_le _⟩) ?_
  refine pu_call1 (va_runV (As := []) (rest := []) ⟨hx, hb, hml, hown, hts⟩ (c_chosenSetting l D g ad z rl ff hz d (by omega)) (cwV 0 hts (gd_V kw_267 kw_268 kw_269 kw_13 kcX1_chosenSetting) rfl rfl rfl (by decide +kernel) ⟨Nat.le_of_ble_eq_true rfl, Nat.le_of_ble_eq_true rfl⟩) (pu_preV hPic hK rfl hd0_d) rfl rfl hl.1 rfl (lv_room (Nat.le_of_ble_eq_true rfl)) dX3_time_5 ⟨Nat.zero_le _, Nat.zero_le _⟩) ?_
  refine lv_astore (lv' := [(4, .ref (ad (2 + 12 * d + 6 + bC z d))), (0, .ref (ad 0)), (1, .int (jI ((d : Int)))), (2, .int (jI (i))), (3, .int (jI (bI mo)))]) hx hb dX3_time_8 hl (by decide) rfl (fun ls hl => ?_)
  refine lv_iload_n hx hb dX3_time_10 rfl (lv_at hl 3 rfl) ?_
  refine jv_iconst hx hb dX3_time_11 ?_
  refine jv_sipush hx hb dX3_time_12 (by decide) ?_
  by_cases hb15 : 1 ≤ i ∧ i ≤ 5000
  · exact absurd hb15 (by omega)
  · exact px_out (vx_runS (As := [.int (jI (i)), .int (jI (1)), .int (jI (5000))]) (rest := []) ⟨hx, hb, hml, hown, hts⟩ (x_demandWithin l hl9 D g z0 i 1 5000 (by omega) (by omega) (by omega) hb15) (cwS 3 hts (gd_S kw_234 kw_235 kw_12 kcX3_demandWithin) rfl rfl rfl (by decide +kernel) ⟨Nat.le_of_ble_eq_true rfl, Nat.le_of_ble_eq_true rfl⟩) (px_preS trivial hK hxT) rfl rfl hl.1 rfl (lv_room (Nat.le_of_ble_eq_true rfl)) dX3_time_15 ⟨Nat.le_of_ble_eq_true rfl, Nat.le_of_ble_eq_true rfl⟩) hnt hlocks
set_option maxHeartbeats 4000000 in
set_option maxRecDepth 100000 in
theorem x_opensFrom (l : Launch) (hl9 : l.stackTraces = false) (D : va_G) (g : Nat → ClassId) (z0 : Nat) (ad : Nat → Nat) (z : bSt) (rl : Nat → Nat → Bool) (ff : Nat → Nat → Int) (hz : bOK z) (d : Int) (h_d : -2147483648 ≤ d ∧ d < 2147483648) (hbad : ¬ (0 ≤ d ∧ d ≤ (bN z : Int) - 1)) : vx_Met l yX3_opensFrom wsX3_opensFrom ({ frames := 7, cells := 1, slots := 6, locals := 111 }) (px_Pc z0 [.ref (ad 0), .int (jI (d))] D vwCl (ty9 g) (fun H => bW D g ad z rl ff H)) px_F (px_X eIAE) 1 6 (fun _ => False) := by
  refine vx_ofW (cc := cX3_opensFrom) (maxL := 3) (ret := some .int) (by decide) rfl ?_
  intro p e s m args below meth c s₁ B hml hnt hv
  obtain ⟨⟨rfl, hPic, hK⟩, hxT⟩ := hv
  have hx := B.exec
  have hb := B.bytes
  have hts := atoms_spec (ws := wsX3_opensFrom) B.pre
  have hown : s.vm.findClass RX3 = some m.cls := findClass_of_methodNamed B.named
  have hlocks := B.notSynchronized
  obtain ⟨sa9, r_0, r_1, r_2, r_3, r_4, r_5, r_6⟩ := hxT.2.2.1
  have hx0 : va_at D vwCl (ad 0, .inr (3, [.ref (ad 1), .int (jI ((bN z : Int))), .int (jI (bV z))])) s.heap := hPic 0 (by omega)
  have hx1 : va_at D vwCl (ad 1, .inl (g 2, 8, .inr (.inr (.inr (.inr (fun j => some (ad (2 + 12 * j)))))))) s.heap := hPic 1 (by omega)
  have hN := hz.1
  have hl := lv_entry ([.ref (ad 0), .int (jI (d))]) (n := 3) (Nat.le_of_ble_eq_true rfl)
  rw [lg_entry_eq]
  generalize (lg_sl ([.ref (ad 0), .int (jI (d))]) ++ List.replicate (3 - (lg_sl ([.ref (ad 0), .int (jI (d))])).length) Slot.unset).toArray = ls at hl ⊢
  have hl : lv_has ls 3 [(0, .ref (ad 0)), (1, .int (jI (d)))] := hl
  refine lv_aload_n hx hb dX3_opensFrom_0 rfl (lv_at hl 0 rfl) ?_
  refine lv_iload_n hx hb dX3_opensFrom_1 rfl (lv_at hl 1 rfl) ?_
  exact px_out (vx_runV (As := [.int (jI (d))]) (rest := []) ⟨hx, hb, hml, hown, hts⟩ (x_known l hl9 D g z0 ad z rl ff hz d h_d hbad) (cwV 1 hts (gd_V kw_140 kw_142 kw_0 kw_12 kcX3_known) rfl rfl rfl (by decide +kernel) ⟨Nat.le_of_ble_eq_true rfl, Nat.le_of_ble_eq_true rfl⟩) (px_preV hPic hK hxT rfl hx0) rfl rfl hl.1 rfl (lv_room (Nat.le_of_ble_eq_true rfl)) dX3_opensFrom_2 ⟨Nat.le_of_ble_eq_true rfl, Nat.le_of_ble_eq_true rfl⟩) hnt hlocks
set_option maxHeartbeats 4000000 in
set_option maxRecDepth 100000 in
theorem x_settle (l : Launch) (hl9 : l.stackTraces = false) (D : va_G) (g : Nat → ClassId) (z0 : Nat) (ad : Nat → Nat) (z : bSt) (rl : Nat → Nat → Bool) (ff : Nat → Nat → Int) (hz : bOK z) (mg : Int) (h_mg : -2147483648 ≤ mg ∧ mg < 2147483648) (hbad : ¬ (0 ≤ mg ∧ mg ≤ 10000)) : vx_Met l yX3_settle wsX3_settle ({ frames := 7, cells := 1, slots := 6, locals := 112 }) (px_Pc z0 [.ref (ad 0), .int (jI (mg))] D vwCl (ty9 g) (fun H => bW D g ad z rl ff H)) px_F (px_X eIAE) 1 6 (fun _ => False) := by
  refine vx_ofW (cc := cX3_settle) (maxL := 4) (ret := some .boolean) (by decide) rfl ?_
  intro p e s m args below meth c s₁ B hml hnt hv
  obtain ⟨⟨rfl, hPic, hK⟩, hxT⟩ := hv
  have hx := B.exec
  have hb := B.bytes
  have hts := atoms_spec (ws := wsX3_settle) B.pre
  have hown : s.vm.findClass RX3 = some m.cls := findClass_of_methodNamed B.named
  have hlocks := B.notSynchronized
  obtain ⟨sa9, r_0, r_1, r_2, r_3, r_4, r_5, r_6⟩ := hxT.2.2.1
  have hx0 : va_at D vwCl (ad 0, .inr (3, [.ref (ad 1), .int (jI ((bN z : Int))), .int (jI (bV z))])) s.heap := hPic 0 (by omega)
  have hx1 : va_at D vwCl (ad 1, .inl (g 2, 8, .inr (.inr (.inr (.inr (fun j => some (ad (2 + 12 * j)))))))) s.heap := hPic 1 (by omega)
  have hN := hz.1
  have hl := lv_entry ([.ref (ad 0), .int (jI (mg))]) (n := 4) (Nat.le_of_ble_eq_true rfl)
  rw [lg_entry_eq]
  generalize (lg_sl ([.ref (ad 0), .int (jI (mg))]) ++ List.replicate (4 - (lg_sl ([.ref (ad 0), .int (jI (mg))])).length) Slot.unset).toArray = ls at hl ⊢
  have hl : lv_has ls 4 [(0, .ref (ad 0)), (1, .int (jI (mg)))] := hl
  refine lv_iload_n hx hb dX3_settle_0 rfl (lv_at hl 1 rfl) ?_
  refine jv_iconst hx hb dX3_settle_1 ?_
  refine jv_sipush hx hb dX3_settle_2 (by decide) ?_
  by_cases hb5 : 0 ≤ mg ∧ mg ≤ 10000
  · exact absurd hb5 (by omega)
  · exact px_out (vx_runS (As := [.int (jI (mg)), .int (jI (0)), .int (jI (10000))]) (rest := []) ⟨hx, hb, hml, hown, hts⟩ (x_demandWithin l hl9 D g z0 mg 0 10000 (by omega) (by omega) (by omega) hb5) (cwS 3 hts (gd_S kw_234 kw_235 kw_12 kcX3_demandWithin) rfl rfl rfl (by decide +kernel) ⟨Nat.le_of_ble_eq_true rfl, Nat.le_of_ble_eq_true rfl⟩) (px_preS trivial hK hxT) rfl rfl hl.1 rfl (lv_room (Nat.le_of_ble_eq_true rfl)) dX3_settle_5 ⟨Nat.le_of_ble_eq_true rfl, Nat.le_of_ble_eq_true rfl⟩) hnt hlocks
set_option maxHeartbeats 4000000 in
set_option maxRecDepth 100000 in
theorem x_chosen (l : Launch) (hl9 : l.stackTraces = false) (D : va_G) (g : Nat → ClassId) (z0 : Nat) (ad : Nat → Nat) (z : bSt) (rl : Nat → Nat → Bool) (ff : Nat → Nat → Int) (hz : bOK z) (d : Int) (h_d : -2147483648 ≤ d ∧ d < 2147483648) (hbad : ¬ (0 ≤ d ∧ d ≤ (bN z : Int) - 1)) : vx_Met l yX3_chosen wsX3_chosen ({ frames := 7, cells := 1, slots := 6, locals := 111 }) (px_Pc z0 [.ref (ad 0), .int (jI (d))] D vwCl (ty9 g) (fun H => bW D g ad z rl ff H)) px_F (px_X eIAE) 1 6 (fun _ => False) := by
  refine vx_ofW (cc := cX3_chosen) (maxL := 2) (ret := some .int) (by decide) rfl ?_
  intro p e s m args below meth c s₁ B hml hnt hv
  obtain ⟨⟨rfl, hPic, hK⟩, hxT⟩ := hv
  have hx := B.exec
  have hb := B.bytes
  have hts := atoms_spec (ws := wsX3_chosen) B.pre
  have hown : s.vm.findClass RX3 = some m.cls := findClass_of_methodNamed B.named
  have hlocks := B.notSynchronized
  obtain ⟨sa9, r_0, r_1, r_2, r_3, r_4, r_5, r_6⟩ := hxT.2.2.1
  have hx0 : va_at D vwCl (ad 0, .inr (3, [.ref (ad 1), .int (jI ((bN z : Int))), .int (jI (bV z))])) s.heap := hPic 0 (by omega)
  have hx1 : va_at D vwCl (ad 1, .inl (g 2, 8, .inr (.inr (.inr (.inr (fun j => some (ad (2 + 12 * j)))))))) s.heap := hPic 1 (by omega)
  have hN := hz.1
  have hl := lv_entry ([.ref (ad 0), .int (jI (d))]) (n := 2) (Nat.le_of_ble_eq_true rfl)
  rw [lg_entry_eq]
  generalize (lg_sl ([.ref (ad 0), .int (jI (d))]) ++ List.replicate (2 - (lg_sl ([.ref (ad 0), .int (jI (d))])).length) Slot.unset).toArray = ls at hl ⊢
  have hl : lv_has ls 2 [(0, .ref (ad 0)), (1, .int (jI (d)))] := hl
  refine lv_aload_n hx hb dX3_chosen_0 rfl (lv_at hl 0 rfl) ?_
  refine lv_iload_n hx hb dX3_chosen_1 rfl (lv_at hl 1 rfl) ?_
  exact px_out (vx_runV (As := [.int (jI (d))]) (rest := []) ⟨hx, hb, hml, hown, hts⟩ (x_known l hl9 D g z0 ad z rl ff hz d h_d hbad) (cwV 1 hts (gd_V kw_140 kw_142 kw_0 kw_12 kcX3_known) rfl rfl rfl (by decide +kernel) ⟨Nat.le_of_ble_eq_true rfl, Nat.le_of_ble_eq_true rfl⟩) (px_preV hPic hK hxT rfl hx0) rfl rfl hl.1 rfl (lv_room (Nat.le_of_ble_eq_true rfl)) dX3_chosen_2 ⟨Nat.le_of_ble_eq_true rfl, Nat.le_of_ble_eq_true rfl⟩) hnt hlocks
set_option maxHeartbeats 4000000 in
set_option maxRecDepth 100000 in
theorem x_impedance1 (l : Launch) (hl9 : l.stackTraces = false) (D : va_G) (g : Nat → ClassId) (z0 : Nat) (ad : Nat → Nat) (z : bSt) (rl : Nat → Nat → Bool) (ff : Nat → Nat → Int) (hz : bOK z) (d i : Int) (h_d : -2147483648 ≤ d ∧ d < 2147483648) (hbad : ¬ (0 ≤ d ∧ d ≤ (bN z : Int) - 1)) : vx_Met l yX3_impedance wsX3_impedance ({ frames := 7, cells := 1, slots := 6, locals := 111 }) (px_Pc z0 [.ref (ad 0), .int (jI (d)), .int (jI (i))] D vwCl (ty9 g) (fun H => bW D g ad z rl ff H)) px_F (px_X eIAE) 1 6 (fun _ => False) := by
  refine vx_ofW (cc := cX3_impedance) (maxL := 5) (ret := some .int) (by decide) rfl ?_
  intro p e s m args below meth c s₁ B hml hnt hv
  obtain ⟨⟨rfl, hPic, hK⟩, hxT⟩ := hv
  have hx := B.exec
  have hb := B.bytes
  have hts := atoms_spec (ws := wsX3_impedance) B.pre
  have hown : s.vm.findClass RX3 = some m.cls := findClass_of_methodNamed B.named
  have hlocks := B.notSynchronized
  obtain ⟨sa9, r_0, r_1, r_2, r_3, r_4, r_5, r_6⟩ := hxT.2.2.1
  have hx0 : va_at D vwCl (ad 0, .inr (3, [.ref (ad 1), .int (jI ((bN z : Int))), .int (jI (bV z))])) s.heap := hPic 0 (by omega)
  have hx1 : va_at D vwCl (ad 1, .inl (g 2, 8, .inr (.inr (.inr (.inr (fun j => some (ad (2 + 12 * j)))))))) s.heap := hPic 1 (by omega)
  have hN := hz.1
  have hl := lv_entry ([.ref (ad 0), .int (jI (d)), .int (jI (i))]) (n := 5) (Nat.le_of_ble_eq_true rfl)
  rw [lg_entry_eq]
  generalize (lg_sl ([.ref (ad 0), .int (jI (d)), .int (jI (i))]) ++ List.replicate (5 - (lg_sl ([.ref (ad 0), .int (jI (d)), .int (jI (i))])).length) Slot.unset).toArray = ls at hl ⊢
  have hl : lv_has ls 5 [(0, .ref (ad 0)), (1, .int (jI (d))), (2, .int (jI (i)))] := hl
  refine lv_aload_n hx hb dX3_impedance_0 rfl (lv_at hl 0 rfl) ?_
  refine lv_iload_n hx hb dX3_impedance_1 rfl (lv_at hl 1 rfl) ?_
  exact px_out (vx_runV (As := [.int (jI (d))]) (rest := []) ⟨hx, hb, hml, hown, hts⟩ (x_known l hl9 D g z0 ad z rl ff hz d h_d hbad) (cwV 1 hts (gd_V kw_140 kw_142 kw_0 kw_12 kcX3_known) rfl rfl rfl (by decide +kernel) ⟨Nat.le_of_ble_eq_true rfl, Nat.le_of_ble_eq_true rfl⟩) (px_preV hPic hK hxT rfl hx0) rfl rfl hl.1 rfl (lv_room (Nat.le_of_ble_eq_true rfl)) dX3_impedance_2 ⟨Nat.le_of_ble_eq_true rfl, Nat.le_of_ble_eq_true rfl⟩) hnt hlocks
set_option maxHeartbeats 4000000 in
set_option maxRecDepth 100000 in
theorem x_impedance2 (l : Launch) (hl9 : l.stackTraces = false) (D : va_G) (g : Nat → ClassId) (z0 : Nat) (ad : Nat → Nat) (z : bSt) (rl : Nat → Nat → Bool) (ff : Nat → Nat → Int) (hz : bOK z) (d : Nat) (i : Int) (hd : d < bN z) (h_i : -2147483648 ≤ i ∧ i < 2147483648) (hbad : ¬ (1 ≤ i ∧ i ≤ 10000)) : vx_Met l yX3_impedance wsX3_impedance ({ frames := 7, cells := 1, slots := 6, locals := 112 }) (px_Pc z0 [.ref (ad 0), .int (jI ((d : Int))), .int (jI (i))] D vwCl (ty9 g) (fun H => bW D g ad z rl ff H)) px_F (px_X eIAE) 1 6 (fun _ => False) := by
  refine vx_ofW (cc := cX3_impedance) (maxL := 5) (ret := some .int) (by decide) rfl ?_
  intro p e s m args below meth c s₁ B hml hnt hv
  obtain ⟨⟨rfl, hPic, hK⟩, hxT⟩ := hv
  have hx := B.exec
  have hb := B.bytes
  have hts := atoms_spec (ws := wsX3_impedance) B.pre
  have hown : s.vm.findClass RX3 = some m.cls := findClass_of_methodNamed B.named
  have hlocks := B.notSynchronized
  obtain ⟨sa9, r_0, r_1, r_2, r_3, r_4, r_5, r_6⟩ := hxT.2.2.1
  have hx0 : va_at D vwCl (ad 0, .inr (3, [.ref (ad 1), .int (jI ((bN z : Int))), .int (jI (bV z))])) s.heap := hPic 0 (by omega)
  have hx1 : va_at D vwCl (ad 1, .inl (g 2, 8, .inr (.inr (.inr (.inr (fun j => some (ad (2 + 12 * j)))))))) s.heap := hPic 1 (by omega)
  have hN := hz.1
  have hd0_d : va_at D vwCl (ad (2 + 12 * d), .inr (1, [.int (jI ((d : Int))), .ref (ad (2 + 12 * d + 1)), .ref (ad (2 + 12 * d + 5)), .ref (ad (2 + 12 * d + 10)), .ref (ad (2 + 12 * d + 11)), va_rf ((bU z d).map (fun u => ad (2 + 12 * u))), .int (jI ((bO z d : Int))), .int (jI ((bC z d : Int))), .int (jI (bZ z d))])) s.heap := bW_at hPic (i := d) (by omega) 0 (by omega)
  have hl := lv_entry ([.ref (ad 0), .int (jI ((d : Int))), .int (jI (i))]) (n := 5) (Nat.le_of_ble_eq_true rfl)
  rw [lg_entry_eq]
  generalize (lg_sl ([.ref (ad 0), .int (jI ((d : Int))), .int (jI (i))]) ++ List.replicate (5 - (lg_sl ([.ref (ad 0), .int (jI ((d : Int))), .int (jI (i))])).length) Slot.unset).toArray = ls at hl ⊢
  have hl : lv_has ls 5 [(0, .ref (ad 0)), (1, .int (jI ((d : Int)))), (2, .int (jI (i)))] := hl
  refine lv_aload_n hx hb dX3_impedance_0 rfl (lv_at hl 0 rfl) ?_
  refine lv_iload_n hx hb dX3_impedance_1 rfl (lv_at hl 1 rfl) ?_
  refine pu_call1 (va_runV (As := [.int (jI ((d : Int)))]) (rest := []) ⟨hx, hb, hml, hown, hts⟩ (c_known l D g ad z rl ff hz d hd) (cwV 1 hts (gd_V kw_140 kw_142 kw_0 kw_12 kcX3_known) rfl rfl rfl (by decide +kernel) ⟨Nat.le_of_ble_eq_true rfl, Nat.le_of_ble_eq_true rfl⟩) (pu_preV hPic hK rfl hx0) rfl rfl hl.1 rfl (lv_room (Nat.le_of_ble_eq_true rfl)) dX3_impedance_2 ⟨Nat.zero_le _, Nat.zero_le _⟩) ?_
  refine lv_astore_n (lv' := [(3, .ref (ad (2 + 12 * d))), (0, .ref (ad 0)), (1, .int (jI ((d : Int)))), (2, .int (jI (i)))]) hx hb dX3_impedance_5 rfl hl (by decide) rfl (fun ls hl => ?_)
  refine lv_iload_n hx hb dX3_impedance_6 rfl (lv_at hl 3 rfl) ?_
  refine jv_iconst hx hb dX3_impedance_7 ?_
  refine jv_sipush hx hb dX3_impedance_8 (by decide) ?_
  by_cases hb11 : 1 ≤ i ∧ i ≤ 10000
  · exact absurd hb11 (by omega)
  · exact px_out (vx_runS (As := [.int (jI (i)), .int (jI (1)), .int (jI (10000))]) (rest := []) ⟨hx, hb, hml, hown, hts⟩ (x_demandWithin l hl9 D g z0 i 1 10000 (by omega) (by omega) (by omega) hb11) (cwS 3 hts (gd_S kw_234 kw_235 kw_12 kcX3_demandWithin) rfl rfl rfl (by decide +kernel) ⟨Nat.le_of_ble_eq_true rfl, Nat.le_of_ble_eq_true rfl⟩) (px_preS trivial hK hxT) rfl rfl hl.1 rfl (lv_room (Nat.le_of_ble_eq_true rfl)) dX3_impedance_11 ⟨Nat.le_of_ble_eq_true rfl, Nat.le_of_ble_eq_true rfl⟩) hnt hlocks
set_option maxHeartbeats 4000000 in
set_option maxRecDepth 100000 in
theorem x_voltage (l : Launch) (hl9 : l.stackTraces = false) (D : va_G) (g : Nat → ClassId) (z0 : Nat) (ad : Nat → Nat) (z : bSt) (rl : Nat → Nat → Bool) (ff : Nat → Nat → Int) (hz : bOK z) (i : Int) (h_i : -2147483648 ≤ i ∧ i < 2147483648) (hbad : ¬ (0 ≤ i ∧ i ≤ 1000000)) : vx_Met l yX3_voltage wsX3_voltage ({ frames := 7, cells := 1, slots := 6, locals := 112 }) (px_Pc z0 [.ref (ad 0), .int (jI (i))] D vwCl (ty9 g) (fun H => bW D g ad z rl ff H)) px_F (px_X eIAE) 1 6 (fun _ => False) := by
  refine vx_ofW (cc := cX3_voltage) (maxL := 3) (ret := some .int) (by decide) rfl ?_
  intro p e s m args below meth c s₁ B hml hnt hv
  obtain ⟨⟨rfl, hPic, hK⟩, hxT⟩ := hv
  have hx := B.exec
  have hb := B.bytes
  have hts := atoms_spec (ws := wsX3_voltage) B.pre
  have hown : s.vm.findClass RX3 = some m.cls := findClass_of_methodNamed B.named
  have hlocks := B.notSynchronized
  obtain ⟨sa9, r_0, r_1, r_2, r_3, r_4, r_5, r_6⟩ := hxT.2.2.1
  have hx0 : va_at D vwCl (ad 0, .inr (3, [.ref (ad 1), .int (jI ((bN z : Int))), .int (jI (bV z))])) s.heap := hPic 0 (by omega)
  have hx1 : va_at D vwCl (ad 1, .inl (g 2, 8, .inr (.inr (.inr (.inr (fun j => some (ad (2 + 12 * j)))))))) s.heap := hPic 1 (by omega)
  have hN := hz.1
  have hl := lv_entry ([.ref (ad 0), .int (jI (i))]) (n := 3) (Nat.le_of_ble_eq_true rfl)
  rw [lg_entry_eq]
  generalize (lg_sl ([.ref (ad 0), .int (jI (i))]) ++ List.replicate (3 - (lg_sl ([.ref (ad 0), .int (jI (i))])).length) Slot.unset).toArray = ls at hl ⊢
  have hl : lv_has ls 3 [(0, .ref (ad 0)), (1, .int (jI (i)))] := hl
  refine lv_iload_n hx hb dX3_voltage_0 rfl (lv_at hl 1 rfl) ?_
  refine jv_iconst hx hb dX3_voltage_1 ?_
  refine jv_ldc (k := 1000000) hx hb hown (hts _ (List.mem_cons_of_mem _ kw_384)) (by decide) dX3_voltage_2 ?_
  by_cases hb4 : 0 ≤ i ∧ i ≤ 1000000
  · exact absurd hb4 (by omega)
  · exact px_out (vx_runS (As := [.int (jI (i)), .int (jI (0)), .int (jI (1000000))]) (rest := []) ⟨hx, hb, hml, hown, hts⟩ (x_demandWithin l hl9 D g z0 i 0 1000000 (by omega) (by omega) (by omega) hb4) (cwS 3 hts (gd_S kw_234 kw_235 kw_12 kcX3_demandWithin) rfl rfl rfl (by decide +kernel) ⟨Nat.le_of_ble_eq_true rfl, Nat.le_of_ble_eq_true rfl⟩) (px_preS trivial hK hxT) rfl rfl hl.1 rfl (lv_room (Nat.le_of_ble_eq_true rfl)) dX3_voltage_4 ⟨Nat.le_of_ble_eq_true rfl, Nat.le_of_ble_eq_true rfl⟩) hnt hlocks
set_option maxHeartbeats 4000000 in
set_option maxRecDepth 100000 in
theorem x_shortAt (l : Launch) (hl9 : l.stackTraces = false) (D : va_G) (g : Nat → ClassId) (z0 : Nat) (ad : Nat → Nat) (z : bSt) (rl : Nat → Nat → Bool) (ff : Nat → Nat → Int) (hz : bOK z) (d : Int) (h_d : -2147483648 ≤ d ∧ d < 2147483648) (hbad : ¬ (0 ≤ d ∧ d ≤ (bN z : Int) - 1)) : vx_Met l yX3_shortAt wsX3_shortAt ({ frames := 7, cells := 1, slots := 6, locals := 111 }) (px_Pc z0 [.ref (ad 0), .int (jI (d))] D vwCl (ty9 g) (fun H => bW D g ad z rl ff H)) px_F (px_X eIAE) 1 6 (fun _ => False) := by
  refine vx_ofW (cc := cX3_shortAt) (maxL := 2) (ret := some .int) (by decide) rfl ?_
  intro p e s m args below meth c s₁ B hml hnt hv
  obtain ⟨⟨rfl, hPic, hK⟩, hxT⟩ := hv
  have hx := B.exec
  have hb := B.bytes
  have hts := atoms_spec (ws := wsX3_shortAt) B.pre
  have hown : s.vm.findClass RX3 = some m.cls := findClass_of_methodNamed B.named
  have hlocks := B.notSynchronized
  obtain ⟨sa9, r_0, r_1, r_2, r_3, r_4, r_5, r_6⟩ := hxT.2.2.1
  have hx0 : va_at D vwCl (ad 0, .inr (3, [.ref (ad 1), .int (jI ((bN z : Int))), .int (jI (bV z))])) s.heap := hPic 0 (by omega)
  have hx1 : va_at D vwCl (ad 1, .inl (g 2, 8, .inr (.inr (.inr (.inr (fun j => some (ad (2 + 12 * j)))))))) s.heap := hPic 1 (by omega)
  have hN := hz.1
  have hl := lv_entry ([.ref (ad 0), .int (jI (d))]) (n := 2) (Nat.le_of_ble_eq_true rfl)
  rw [lg_entry_eq]
  generalize (lg_sl ([.ref (ad 0), .int (jI (d))]) ++ List.replicate (2 - (lg_sl ([.ref (ad 0), .int (jI (d))])).length) Slot.unset).toArray = ls at hl ⊢
  have hl : lv_has ls 2 [(0, .ref (ad 0)), (1, .int (jI (d)))] := hl
  refine lv_aload_n hx hb dX3_shortAt_0 rfl (lv_at hl 0 rfl) ?_
  refine lv_aload_n hx hb dX3_shortAt_1 rfl (lv_at hl 0 rfl) ?_
  refine lv_iload_n hx hb dX3_shortAt_2 rfl (lv_at hl 1 rfl) ?_
  exact px_out (vx_runV (As := [.int (jI (d))]) (rest := [.ref (ad 0)]) ⟨hx, hb, hml, hown, hts⟩ (x_known l hl9 D g z0 ad z rl ff hz d h_d hbad) (cwV 1 hts (gd_V kw_140 kw_142 kw_0 kw_12 kcX3_known) rfl rfl rfl (by decide +kernel) ⟨Nat.le_of_ble_eq_true rfl, Nat.le_of_ble_eq_true rfl⟩) (px_preV hPic hK hxT rfl hx0) rfl rfl hl.1 rfl (lv_room (Nat.le_of_ble_eq_true rfl)) dX3_shortAt_3 ⟨Nat.le_of_ble_eq_true rfl, Nat.le_of_ble_eq_true rfl⟩) hnt hlocks
set_option maxHeartbeats 4000000 in
set_option maxRecDepth 100000 in
theorem x_opens1 (l : Launch) (hl9 : l.stackTraces = false) (D : va_G) (g : Nat → ClassId) (z0 : Nat) (ad : Nat → Nat) (z : bSt) (rl : Nat → Nat → Bool) (ff : Nat → Nat → Int) (hz : bOK z) (d i : Int) (h_d : -2147483648 ≤ d ∧ d < 2147483648) (hbad : ¬ (0 ≤ d ∧ d ≤ (bN z : Int) - 1)) : vx_Met l yX3_opens wsX3_opens ({ frames := 7, cells := 1, slots := 6, locals := 111 }) (px_Pc z0 [.ref (ad 0), .int (jI (d)), .int (jI (i))] D vwCl (ty9 g) (fun H => bW D g ad z rl ff H)) px_F (px_X eIAE) 1 6 (fun _ => False) := by
  refine vx_ofW (cc := cX3_opens) (maxL := 8) (ret := some .int) (by decide) rfl ?_
  intro p e s m args below meth c s₁ B hml hnt hv
  obtain ⟨⟨rfl, hPic, hK⟩, hxT⟩ := hv
  have hx := B.exec
  have hb := B.bytes
  have hts := atoms_spec (ws := wsX3_opens) B.pre
  have hown : s.vm.findClass RX3 = some m.cls := findClass_of_methodNamed B.named
  have hlocks := B.notSynchronized
  obtain ⟨sa9, r_0, r_1, r_2, r_3, r_4, r_5, r_6⟩ := hxT.2.2.1
  have hx0 : va_at D vwCl (ad 0, .inr (3, [.ref (ad 1), .int (jI ((bN z : Int))), .int (jI (bV z))])) s.heap := hPic 0 (by omega)
  have hx1 : va_at D vwCl (ad 1, .inl (g 2, 8, .inr (.inr (.inr (.inr (fun j => some (ad (2 + 12 * j)))))))) s.heap := hPic 1 (by omega)
  have hN := hz.1
  have hl := lv_entry ([.ref (ad 0), .int (jI (d)), .int (jI (i))]) (n := 8) (Nat.le_of_ble_eq_true rfl)
  rw [lg_entry_eq]
  generalize (lg_sl ([.ref (ad 0), .int (jI (d)), .int (jI (i))]) ++ List.replicate (8 - (lg_sl ([.ref (ad 0), .int (jI (d)), .int (jI (i))])).length) Slot.unset).toArray = ls at hl ⊢
  have hl : lv_has ls 8 [(0, .ref (ad 0)), (1, .int (jI (d))), (2, .int (jI (i)))] := hl
  refine lv_aload_n hx hb dX3_opens_0 rfl (lv_at hl 0 rfl) ?_
  refine lv_iload_n hx hb dX3_opens_1 rfl (lv_at hl 1 rfl) ?_
  exact px_out (vx_runV (As := [.int (jI (d))]) (rest := []) ⟨hx, hb, hml, hown, hts⟩ (x_known l hl9 D g z0 ad z rl ff hz d h_d hbad) (cwV 1 hts (gd_V kw_140 kw_142 kw_0 kw_12 kcX3_known) rfl rfl rfl (by decide +kernel) ⟨Nat.le_of_ble_eq_true rfl, Nat.le_of_ble_eq_true rfl⟩) (px_preV hPic hK hxT rfl hx0) rfl rfl hl.1 rfl (lv_room (Nat.le_of_ble_eq_true rfl)) dX3_opens_2 ⟨Nat.le_of_ble_eq_true rfl, Nat.le_of_ble_eq_true rfl⟩) hnt hlocks
set_option maxHeartbeats 4000000 in
set_option maxRecDepth 100000 in
theorem x_opens2 (l : Launch) (hl9 : l.stackTraces = false) (D : va_G) (g : Nat → ClassId) (z0 : Nat) (ad : Nat → Nat) (z : bSt) (rl : Nat → Nat → Bool) (ff : Nat → Nat → Int) (hz : bOK z) (d : Nat) (i : Int) (hd : d < bN z) (h_i : -2147483648 ≤ i ∧ i < 2147483648) (hbad : ¬ 0 ≤ i) : vx_Met l yX3_opens wsX3_opens ({ frames := 7, cells := 1, slots := 6, locals := 112 }) (px_Pc z0 [.ref (ad 0), .int (jI ((d : Int))), .int (jI (i))] D vwCl (ty9 g) (fun H => bW D g ad z rl ff H)) px_F (px_X eIAE) 1 6 (fun _ => False) := by
  refine vx_ofW (cc := cX3_opens) (maxL := 8) (ret := some .int) (by decide) rfl ?_
  intro p e s m args below meth c s₁ B hml hnt hv
  obtain ⟨⟨rfl, hPic, hK⟩, hxT⟩ := hv
  have hx := B.exec
  have hb := B.bytes
  have hts := atoms_spec (ws := wsX3_opens) B.pre
  have hown : s.vm.findClass RX3 = some m.cls := findClass_of_methodNamed B.named
  have hlocks := B.notSynchronized
  obtain ⟨sa9, r_0, r_1, r_2, r_3, r_4, r_5, r_6⟩ := hxT.2.2.1
  have hx0 : va_at D vwCl (ad 0, .inr (3, [.ref (ad 1), .int (jI ((bN z : Int))), .int (jI (bV z))])) s.heap := hPic 0 (by omega)
  have hx1 : va_at D vwCl (ad 1, .inl (g 2, 8, .inr (.inr (.inr (.inr (fun j => some (ad (2 + 12 * j)))))))) s.heap := hPic 1 (by omega)
  have hN := hz.1
  have hd0_d : va_at D vwCl (ad (2 + 12 * d), .inr (1, [.int (jI ((d : Int))), .ref (ad (2 + 12 * d + 1)), .ref (ad (2 + 12 * d + 5)), .ref (ad (2 + 12 * d + 10)), .ref (ad (2 + 12 * d + 11)), va_rf ((bU z d).map (fun u => ad (2 + 12 * u))), .int (jI ((bO z d : Int))), .int (jI ((bC z d : Int))), .int (jI (bZ z d))])) s.heap := bW_at hPic (i := d) (by omega) 0 (by omega)
  have hl := lv_entry ([.ref (ad 0), .int (jI ((d : Int))), .int (jI (i))]) (n := 8) (Nat.le_of_ble_eq_true rfl)
  rw [lg_entry_eq]
  generalize (lg_sl ([.ref (ad 0), .int (jI ((d : Int))), .int (jI (i))]) ++ List.replicate (8 - (lg_sl ([.ref (ad 0), .int (jI ((d : Int))), .int (jI (i))])).length) Slot.unset).toArray = ls at hl ⊢
  have hl : lv_has ls 8 [(0, .ref (ad 0)), (1, .int (jI ((d : Int)))), (2, .int (jI (i)))] := hl
  refine lv_aload_n hx hb dX3_opens_0 rfl (lv_at hl 0 rfl) ?_
  refine lv_iload_n hx hb dX3_opens_1 rfl (lv_at hl 1 rfl) ?_
  refine pu_call1 (va_runV (As := [.int (jI ((d : Int)))]) (rest := []) ⟨hx, hb, hml, hown, hts⟩ (c_known l D g ad z rl ff hz d hd) (cwV 1 hts (gd_V kw_140 kw_142 kw_0 kw_12 kcX3_known) rfl rfl rfl (by decide +kernel) ⟨Nat.le_of_ble_eq_true rfl, Nat.le_of_ble_eq_true rfl⟩) (pu_preV hPic hK rfl hx0) rfl rfl hl.1 rfl (lv_room (Nat.le_of_ble_eq_true rfl)) dX3_opens_2 ⟨Nat.zero_le _, Nat.zero_le _⟩) ?_
  refine lv_astore_n (lv' := [(3, .ref (ad (2 + 12 * d))), (0, .ref (ad 0)), (1, .int (jI ((d : Int)))), (2, .int (jI (i)))]) hx hb dX3_opens_5 rfl hl (by decide) rfl (fun ls hl => ?_)
  refine lv_iload_n hx hb dX3_opens_6 rfl (lv_at hl 3 rfl) ?_
  refine jv_iconst hx hb dX3_opens_7 ?_
  refine jv_ldc (k := 2147483647) hx hb hown (hts _ (List.mem_cons_of_mem _ kw_408)) (by decide) dX3_opens_8 ?_
  by_cases hb10 : 0 ≤ i ∧ i ≤ 2147483647
  · exact absurd hb10 (by omega)
  · exact px_out (vx_runS (As := [.int (jI (i)), .int (jI (0)), .int (jI (2147483647))]) (rest := []) ⟨hx, hb, hml, hown, hts⟩ (x_demandWithin l hl9 D g z0 i 0 2147483647 (by omega) (by omega) (by omega) hb10) (cwS 3 hts (gd_S kw_234 kw_235 kw_12 kcX3_demandWithin) rfl rfl rfl (by decide +kernel) ⟨Nat.le_of_ble_eq_true rfl, Nat.le_of_ble_eq_true rfl⟩) (px_preS trivial hK hxT) rfl rfl hl.1 rfl (lv_room (Nat.le_of_ble_eq_true rfl)) dX3_opens_10 ⟨Nat.le_of_ble_eq_true rfl, Nat.le_of_ble_eq_true rfl⟩) hnt hlocks
set_option maxHeartbeats 4000000 in
set_option maxRecDepth 100000 in
theorem x_order1 (l : Launch) (hl9 : l.stackTraces = false) (D : va_G) (g : Nat → ClassId) (z0 : Nat) (ad : Nat → Nat) (z : bSt) (rl : Nat → Nat → Bool) (ff : Nat → Nat → Int) (hz : bOK z) (d u mg : Int) (h_d : -2147483648 ≤ d ∧ d < 2147483648) (h_u : -2147483648 ≤ u ∧ u < 2147483648) (h_mg : -2147483648 ≤ mg ∧ mg < 2147483648) (hbad : ¬ (d ≠ u ∧ (0 ≤ mg ∧ mg ≤ 10000))) : vx_Met l yX3_order wsX3_order ({ frames := 8, cells := 1, slots := 6, locals := 134 }) (px_Pc z0 [.ref (ad 0), .int (jI (d)), .int (jI (u)), .int (jI (mg))] D vwCl (ty9 g) (fun H => bW D g ad z rl ff H)) px_F (px_X eIAE) 1 6 (fun _ => False) := by
  refine vx_ofW (cc := cX3_order) (maxL := 4) (ret := some .int) (by decide) rfl ?_
  intro p e s m args below meth c s₁ B hml hnt hv
  obtain ⟨⟨rfl, hPic, hK⟩, hxT⟩ := hv
  have hx := B.exec
  have hb := B.bytes
  have hts := atoms_spec (ws := wsX3_order) B.pre
  have hown : s.vm.findClass RX3 = some m.cls := findClass_of_methodNamed B.named
  have hlocks := B.notSynchronized
  obtain ⟨sa9, r_0, r_1, r_2, r_3, r_4, r_5, r_6⟩ := hxT.2.2.1
  have hx0 : va_at D vwCl (ad 0, .inr (3, [.ref (ad 1), .int (jI ((bN z : Int))), .int (jI (bV z))])) s.heap := hPic 0 (by omega)
  have hx1 : va_at D vwCl (ad 1, .inl (g 2, 8, .inr (.inr (.inr (.inr (fun j => some (ad (2 + 12 * j)))))))) s.heap := hPic 1 (by omega)
  have hN := hz.1
  have hl := lv_entry ([.ref (ad 0), .int (jI (d)), .int (jI (u)), .int (jI (mg))]) (n := 4) (Nat.le_of_ble_eq_true rfl)
  rw [lg_entry_eq]
  generalize (lg_sl ([.ref (ad 0), .int (jI (d)), .int (jI (u)), .int (jI (mg))]) ++ List.replicate (4 - (lg_sl ([.ref (ad 0), .int (jI (d)), .int (jI (u)), .int (jI (mg))])).length) Slot.unset).toArray = ls at hl ⊢
  have hl : lv_has ls 4 [(0, .ref (ad 0)), (1, .int (jI (d))), (2, .int (jI (u))), (3, .int (jI (mg)))] := hl
  refine lv_iload_n hx hb dX3_order_0 rfl (lv_at hl 1 rfl) ?_
  refine lv_iload_n hx hb dX3_order_1 rfl (lv_at hl 2 rfl) ?_
  refine lv_iload_n hx hb dX3_order_2 rfl (lv_at hl 3 rfl) ?_
  exact px_out (vx_runS (As := [.int (jI (d)), .int (jI (u)), .int (jI (mg))]) (rest := []) ⟨hx, hb, hml, hown, hts⟩ (x_demandPair l hl9 D g z0 d u mg h_d h_u h_mg hbad) (cwS 3 hts (gd_S kw_308 kw_309 kw_12 kcX3_demandPair) rfl rfl rfl (by decide +kernel) ⟨Nat.le_of_ble_eq_true rfl, Nat.le_of_ble_eq_true rfl⟩) (px_preS trivial hK hxT) rfl rfl hl.1 rfl (lv_room (Nat.le_of_ble_eq_true rfl)) dX3_order_3 ⟨Nat.le_of_ble_eq_true rfl, Nat.le_of_ble_eq_true rfl⟩) hnt hlocks
set_option maxHeartbeats 4000000 in
set_option maxRecDepth 100000 in
theorem x_order2 (l : Launch) (hl9 : l.stackTraces = false) (D : va_G) (g : Nat → ClassId) (z0 : Nat) (ad : Nat → Nat) (z : bSt) (rl : Nat → Nat → Bool) (ff : Nat → Nat → Int) (hz : bOK z) (d u mg : Int) (h_d : -2147483648 ≤ d ∧ d < 2147483648) (h_u : -2147483648 ≤ u ∧ u < 2147483648) (hxy : d ≠ u) (hmg : 0 ≤ mg ∧ mg ≤ 10000) (hbad : ¬ (0 ≤ d ∧ d ≤ (bN z : Int) - 1)) : vx_Met l yX3_order wsX3_order ({ frames := 7, cells := 1, slots := 6, locals := 111 }) (px_Pc z0 [.ref (ad 0), .int (jI (d)), .int (jI (u)), .int (jI (mg))] D vwCl (ty9 g) (fun H => bW D g ad z rl ff H)) px_F (px_X eIAE) 1 6 (fun _ => False) := by
  refine vx_ofW (cc := cX3_order) (maxL := 4) (ret := some .int) (by decide) rfl ?_
  intro p e s m args below meth c s₁ B hml hnt hv
  obtain ⟨⟨rfl, hPic, hK⟩, hxT⟩ := hv
  have hx := B.exec
  have hb := B.bytes
  have hts := atoms_spec (ws := wsX3_order) B.pre
  have hown : s.vm.findClass RX3 = some m.cls := findClass_of_methodNamed B.named
  have hlocks := B.notSynchronized
  obtain ⟨sa9, r_0, r_1, r_2, r_3, r_4, r_5, r_6⟩ := hxT.2.2.1
  have hx0 : va_at D vwCl (ad 0, .inr (3, [.ref (ad 1), .int (jI ((bN z : Int))), .int (jI (bV z))])) s.heap := hPic 0 (by omega)
  have hx1 : va_at D vwCl (ad 1, .inl (g 2, 8, .inr (.inr (.inr (.inr (fun j => some (ad (2 + 12 * j)))))))) s.heap := hPic 1 (by omega)
  have hN := hz.1
  have hl := lv_entry ([.ref (ad 0), .int (jI (d)), .int (jI (u)), .int (jI (mg))]) (n := 4) (Nat.le_of_ble_eq_true rfl)
  rw [lg_entry_eq]
  generalize (lg_sl ([.ref (ad 0), .int (jI (d)), .int (jI (u)), .int (jI (mg))]) ++ List.replicate (4 - (lg_sl ([.ref (ad 0), .int (jI (d)), .int (jI (u)), .int (jI (mg))])).length) Slot.unset).toArray = ls at hl ⊢
  have hl : lv_has ls 4 [(0, .ref (ad 0)), (1, .int (jI (d))), (2, .int (jI (u))), (3, .int (jI (mg)))] := hl
  refine lv_iload_n hx hb dX3_order_0 rfl (lv_at hl 1 rfl) ?_
  refine lv_iload_n hx hb dX3_order_1 rfl (lv_at hl 2 rfl) ?_
  refine lv_iload_n hx hb dX3_order_2 rfl (lv_at hl 3 rfl) ?_
  refine pu_call (va_runS (As := [.int (jI (d)), .int (jI (u)), .int (jI (mg))]) (rest := []) ⟨hx, hb, hml, hown, hts⟩ (c_demandPair l D g d u mg (by omega) (by omega) hxy hmg) (cwS 3 hts (gd_S kw_308 kw_309 kw_12 kcX3_demandPair) rfl rfl rfl (by decide +kernel) ⟨Nat.le_of_ble_eq_true rfl, Nat.le_of_ble_eq_true rfl⟩) (pu_preS trivial hK) rfl rfl hl.1 rfl (lv_room (Nat.le_of_ble_eq_true rfl)) dX3_order_3 ⟨Nat.zero_le _, Nat.zero_le _⟩) ?_
  refine lv_aload_n hx hb dX3_order_6 rfl (lv_at hl 0 rfl) ?_
  refine lv_iload_n hx hb dX3_order_7 rfl (lv_at hl 1 rfl) ?_
  exact px_out (vx_runV (As := [.int (jI (d))]) (rest := []) ⟨hx, hb, hml, hown, hts⟩ (x_known l hl9 D g z0 ad z rl ff hz d h_d hbad) (cwV 1 hts (gd_V kw_140 kw_142 kw_0 kw_12 kcX3_known) rfl rfl rfl (by decide +kernel) ⟨Nat.le_of_ble_eq_true rfl, Nat.le_of_ble_eq_true rfl⟩) (px_preV hPic hK hxT rfl hx0) rfl rfl hl.1 rfl (lv_room (Nat.le_of_ble_eq_true rfl)) dX3_order_8 ⟨Nat.le_of_ble_eq_true rfl, Nat.le_of_ble_eq_true rfl⟩) hnt hlocks
set_option maxHeartbeats 4000000 in
set_option maxRecDepth 100000 in
theorem x_order3 (l : Launch) (hl9 : l.stackTraces = false) (D : va_G) (g : Nat → ClassId) (z0 : Nat) (ad : Nat → Nat) (z : bSt) (rl : Nat → Nat → Bool) (ff : Nat → Nat → Int) (hz : bOK z) (d : Nat) (u mg : Int) (hd : d < bN z) (h_u : -2147483648 ≤ u ∧ u < 2147483648) (hxy : (d : Int) ≠ u) (hmg : 0 ≤ mg ∧ mg ≤ 10000) (hbad : ¬ (0 ≤ u ∧ u ≤ (bN z : Int) - 1)) : vx_Met l yX3_order wsX3_order ({ frames := 7, cells := 1, slots := 6, locals := 111 }) (px_Pc z0 [.ref (ad 0), .int (jI ((d : Int))), .int (jI (u)), .int (jI (mg))] D vwCl (ty9 g) (fun H => bW D g ad z rl ff H)) px_F (px_X eIAE) 1 6 (fun _ => False) := by
  refine vx_ofW (cc := cX3_order) (maxL := 4) (ret := some .int) (by decide) rfl ?_
  intro p e s m args below meth c s₁ B hml hnt hv
  obtain ⟨⟨rfl, hPic, hK⟩, hxT⟩ := hv
  have hx := B.exec
  have hb := B.bytes
  have hts := atoms_spec (ws := wsX3_order) B.pre
  have hown : s.vm.findClass RX3 = some m.cls := findClass_of_methodNamed B.named
  have hlocks := B.notSynchronized
  obtain ⟨sa9, r_0, r_1, r_2, r_3, r_4, r_5, r_6⟩ := hxT.2.2.1
  have hx0 : va_at D vwCl (ad 0, .inr (3, [.ref (ad 1), .int (jI ((bN z : Int))), .int (jI (bV z))])) s.heap := hPic 0 (by omega)
  have hx1 : va_at D vwCl (ad 1, .inl (g 2, 8, .inr (.inr (.inr (.inr (fun j => some (ad (2 + 12 * j)))))))) s.heap := hPic 1 (by omega)
  have hN := hz.1
  have hd0_d : va_at D vwCl (ad (2 + 12 * d), .inr (1, [.int (jI ((d : Int))), .ref (ad (2 + 12 * d + 1)), .ref (ad (2 + 12 * d + 5)), .ref (ad (2 + 12 * d + 10)), .ref (ad (2 + 12 * d + 11)), va_rf ((bU z d).map (fun u => ad (2 + 12 * u))), .int (jI ((bO z d : Int))), .int (jI ((bC z d : Int))), .int (jI (bZ z d))])) s.heap := bW_at hPic (i := d) (by omega) 0 (by omega)
  have hl := lv_entry ([.ref (ad 0), .int (jI ((d : Int))), .int (jI (u)), .int (jI (mg))]) (n := 4) (Nat.le_of_ble_eq_true rfl)
  rw [lg_entry_eq]
  generalize (lg_sl ([.ref (ad 0), .int (jI ((d : Int))), .int (jI (u)), .int (jI (mg))]) ++ List.replicate (4 - (lg_sl ([.ref (ad 0), .int (jI ((d : Int))), .int (jI (u)), .int (jI (mg))])).length) Slot.unset).toArray = ls at hl ⊢
  have hl : lv_has ls 4 [(0, .ref (ad 0)), (1, .int (jI ((d : Int)))), (2, .int (jI (u))), (3, .int (jI (mg)))] := hl
  refine lv_iload_n hx hb dX3_order_0 rfl (lv_at hl 1 rfl) ?_
  refine lv_iload_n hx hb dX3_order_1 rfl (lv_at hl 2 rfl) ?_
  refine lv_iload_n hx hb dX3_order_2 rfl (lv_at hl 3 rfl) ?_
  refine pu_call (va_runS (As := [.int (jI ((d : Int))), .int (jI (u)), .int (jI (mg))]) (rest := []) ⟨hx, hb, hml, hown, hts⟩ (c_demandPair l D g (d : Int) u mg (by omega) (by omega) hxy hmg) (cwS 3 hts (gd_S kw_308 kw_309 kw_12 kcX3_demandPair) rfl rfl rfl (by decide +kernel) ⟨Nat.le_of_ble_eq_true rfl, Nat.le_of_ble_eq_true rfl⟩) (pu_preS trivial hK) rfl rfl hl.1 rfl (lv_room (Nat.le_of_ble_eq_true rfl)) dX3_order_3 ⟨Nat.zero_le _, Nat.zero_le _⟩) ?_
  refine lv_aload_n hx hb dX3_order_6 rfl (lv_at hl 0 rfl) ?_
  refine lv_iload_n hx hb dX3_order_7 rfl (lv_at hl 1 rfl) ?_
  refine pu_call1 (va_runV (As := [.int (jI ((d : Int)))]) (rest := []) ⟨hx, hb, hml, hown, hts⟩ (c_known l D g ad z rl ff hz d hd) (cwV 1 hts (gd_V kw_140 kw_142 kw_0 kw_12 kcX3_known) rfl rfl rfl (by decide +kernel) ⟨Nat.le_of_ble_eq_true rfl, Nat.le_of_ble_eq_true rfl⟩) (pu_preV hPic hK rfl hx0) rfl rfl hl.1 rfl (lv_room (Nat.le_of_ble_eq_true rfl)) dX3_order_8 ⟨Nat.zero_le _, Nat.zero_le _⟩) ?_
  refine pu_call1 (va_runV (As := []) (rest := []) ⟨hx, hb, hml, hown, hts⟩ (c_chosenSetting l D g ad z rl ff hz d (by omega)) (cwV 0 hts (gd_V kw_267 kw_268 kw_269 kw_13 kcX1_chosenSetting) rfl rfl rfl (by decide +kernel) ⟨Nat.le_of_ble_eq_true rfl, Nat.le_of_ble_eq_true rfl⟩) (pu_preV hPic hK rfl hd0_d) rfl rfl hl.1 rfl (lv_room (Nat.le_of_ble_eq_true rfl)) dX3_order_11 ⟨Nat.zero_le _, Nat.zero_le _⟩) ?_
  refine lv_aload_n hx hb dX3_order_14 rfl (lv_at hl 0 rfl) ?_
  refine lv_iload_n hx hb dX3_order_15 rfl (lv_at hl 2 rfl) ?_
  exact px_out (vx_runV (As := [.int (jI (u))]) (rest := [.ref (ad (2 + 12 * d + 6 + bC z d))]) ⟨hx, hb, hml, hown, hts⟩ (x_known l hl9 D g z0 ad z rl ff hz u h_u hbad) (cwV 1 hts (gd_V kw_140 kw_142 kw_0 kw_12 kcX3_known) rfl rfl rfl (by decide +kernel) ⟨Nat.le_of_ble_eq_true rfl, Nat.le_of_ble_eq_true rfl⟩) (px_preV hPic hK hxT rfl hx0) rfl rfl hl.1 rfl (lv_room (Nat.le_of_ble_eq_true rfl)) dX3_order_16 ⟨Nat.le_of_ble_eq_true rfl, Nat.le_of_ble_eq_true rfl⟩) hnt hlocks
set_option maxHeartbeats 4000000 in
set_option maxRecDepth 100000 in
theorem x_broken1 (l : Launch) (hl9 : l.stackTraces = false) (D : va_G) (g : Nat → ClassId) (z0 : Nat) (ad : Nat → Nat) (z : bSt) (rl : Nat → Nat → Bool) (ff : Nat → Nat → Int) (hz : bOK z) (d u mg : Int) (h_d : -2147483648 ≤ d ∧ d < 2147483648) (h_u : -2147483648 ≤ u ∧ u < 2147483648) (h_mg : -2147483648 ≤ mg ∧ mg < 2147483648) (hbad : ¬ (d ≠ u ∧ (0 ≤ mg ∧ mg ≤ 10000))) : vx_Met l yX3_broken wsX3_broken ({ frames := 8, cells := 1, slots := 6, locals := 134 }) (px_Pc z0 [.ref (ad 0), .int (jI (d)), .int (jI (u)), .int (jI (mg))] D vwCl (ty9 g) (fun H => bW D g ad z rl ff H)) px_F (px_X eIAE) 1 6 (fun _ => False) := by
  refine vx_ofW (cc := cX3_broken) (maxL := 4) (ret := some .int) (by decide) rfl ?_
  intro p e s m args below meth c s₁ B hml hnt hv
  obtain ⟨⟨rfl, hPic, hK⟩, hxT⟩ := hv
  have hx := B.exec
  have hb := B.bytes
  have hts := atoms_spec (ws := wsX3_broken) B.pre
  have hown : s.vm.findClass RX3 = some m.cls := findClass_of_methodNamed B.named
  have hlocks := B.notSynchronized
  obtain ⟨sa9, r_0, r_1, r_2, r_3, r_4, r_5, r_6⟩ := hxT.2.2.1
  have hx0 : va_at D vwCl (ad 0, .inr (3, [.ref (ad 1), .int (jI ((bN z : Int))), .int (jI (bV z))])) s.heap := hPic 0 (by omega)
  have hx1 : va_at D vwCl (ad 1, .inl (g 2, 8, .inr (.inr (.inr (.inr (fun j => some (ad (2 + 12 * j)))))))) s.heap := hPic 1 (by omega)
  have hN := hz.1
  have hl := lv_entry ([.ref (ad 0), .int (jI (d)), .int (jI (u)), .int (jI (mg))]) (n := 4) (Nat.le_of_ble_eq_true rfl)
  rw [lg_entry_eq]
  generalize (lg_sl ([.ref (ad 0), .int (jI (d)), .int (jI (u)), .int (jI (mg))]) ++ List.replicate (4 - (lg_sl ([.ref (ad 0), .int (jI (d)), .int (jI (u)), .int (jI (mg))])).length) Slot.unset).toArray = ls at hl ⊢
  have hl : lv_has ls 4 [(0, .ref (ad 0)), (1, .int (jI (d))), (2, .int (jI (u))), (3, .int (jI (mg)))] := hl
  refine lv_iload_n hx hb dX3_broken_0 rfl (lv_at hl 1 rfl) ?_
  refine lv_iload_n hx hb dX3_broken_1 rfl (lv_at hl 2 rfl) ?_
  refine lv_iload_n hx hb dX3_broken_2 rfl (lv_at hl 3 rfl) ?_
  exact px_out (vx_runS (As := [.int (jI (d)), .int (jI (u)), .int (jI (mg))]) (rest := []) ⟨hx, hb, hml, hown, hts⟩ (x_demandPair l hl9 D g z0 d u mg h_d h_u h_mg hbad) (cwS 3 hts (gd_S kw_308 kw_309 kw_12 kcX3_demandPair) rfl rfl rfl (by decide +kernel) ⟨Nat.le_of_ble_eq_true rfl, Nat.le_of_ble_eq_true rfl⟩) (px_preS trivial hK hxT) rfl rfl hl.1 rfl (lv_room (Nat.le_of_ble_eq_true rfl)) dX3_broken_3 ⟨Nat.le_of_ble_eq_true rfl, Nat.le_of_ble_eq_true rfl⟩) hnt hlocks
set_option maxHeartbeats 4000000 in
set_option maxRecDepth 100000 in
theorem x_broken2 (l : Launch) (hl9 : l.stackTraces = false) (D : va_G) (g : Nat → ClassId) (z0 : Nat) (ad : Nat → Nat) (z : bSt) (rl : Nat → Nat → Bool) (ff : Nat → Nat → Int) (hz : bOK z) (d u mg : Int) (h_d : -2147483648 ≤ d ∧ d < 2147483648) (h_u : -2147483648 ≤ u ∧ u < 2147483648) (hxy : d ≠ u) (hmg : 0 ≤ mg ∧ mg ≤ 10000) (hbad : ¬ (0 ≤ d ∧ d ≤ (bN z : Int) - 1)) : vx_Met l yX3_broken wsX3_broken ({ frames := 7, cells := 1, slots := 6, locals := 111 }) (px_Pc z0 [.ref (ad 0), .int (jI (d)), .int (jI (u)), .int (jI (mg))] D vwCl (ty9 g) (fun H => bW D g ad z rl ff H)) px_F (px_X eIAE) 1 6 (fun _ => False) := by
  refine vx_ofW (cc := cX3_broken) (maxL := 4) (ret := some .int) (by decide) rfl ?_
  intro p e s m args below meth c s₁ B hml hnt hv
  obtain ⟨⟨rfl, hPic, hK⟩, hxT⟩ := hv
  have hx := B.exec
  have hb := B.bytes
  have hts := atoms_spec (ws := wsX3_broken) B.pre
  have hown : s.vm.findClass RX3 = some m.cls := findClass_of_methodNamed B.named
  have hlocks := B.notSynchronized
  obtain ⟨sa9, r_0, r_1, r_2, r_3, r_4, r_5, r_6⟩ := hxT.2.2.1
  have hx0 : va_at D vwCl (ad 0, .inr (3, [.ref (ad 1), .int (jI ((bN z : Int))), .int (jI (bV z))])) s.heap := hPic 0 (by omega)
  have hx1 : va_at D vwCl (ad 1, .inl (g 2, 8, .inr (.inr (.inr (.inr (fun j => some (ad (2 + 12 * j)))))))) s.heap := hPic 1 (by omega)
  have hN := hz.1
  have hl := lv_entry ([.ref (ad 0), .int (jI (d)), .int (jI (u)), .int (jI (mg))]) (n := 4) (Nat.le_of_ble_eq_true rfl)
  rw [lg_entry_eq]
  generalize (lg_sl ([.ref (ad 0), .int (jI (d)), .int (jI (u)), .int (jI (mg))]) ++ List.replicate (4 - (lg_sl ([.ref (ad 0), .int (jI (d)), .int (jI (u)), .int (jI (mg))])).length) Slot.unset).toArray = ls at hl ⊢
  have hl : lv_has ls 4 [(0, .ref (ad 0)), (1, .int (jI (d))), (2, .int (jI (u))), (3, .int (jI (mg)))] := hl
  refine lv_iload_n hx hb dX3_broken_0 rfl (lv_at hl 1 rfl) ?_
  refine lv_iload_n hx hb dX3_broken_1 rfl (lv_at hl 2 rfl) ?_
  refine lv_iload_n hx hb dX3_broken_2 rfl (lv_at hl 3 rfl) ?_
  refine pu_call (va_runS (As := [.int (jI (d)), .int (jI (u)), .int (jI (mg))]) (rest := []) ⟨hx, hb, hml, hown, hts⟩ (c_demandPair l D g d u mg (by omega) (by omega) hxy hmg) (cwS 3 hts (gd_S kw_308 kw_309 kw_12 kcX3_demandPair) rfl rfl rfl (by decide +kernel) ⟨Nat.le_of_ble_eq_true rfl, Nat.le_of_ble_eq_true rfl⟩) (pu_preS trivial hK) rfl rfl hl.1 rfl (lv_room (Nat.le_of_ble_eq_true rfl)) dX3_broken_3 ⟨Nat.zero_le _, Nat.zero_le _⟩) ?_
  refine lv_aload_n hx hb dX3_broken_6 rfl (lv_at hl 0 rfl) ?_
  refine lv_iload_n hx hb dX3_broken_7 rfl (lv_at hl 1 rfl) ?_
  exact px_out (vx_runV (As := [.int (jI (d))]) (rest := []) ⟨hx, hb, hml, hown, hts⟩ (x_known l hl9 D g z0 ad z rl ff hz d h_d hbad) (cwV 1 hts (gd_V kw_140 kw_142 kw_0 kw_12 kcX3_known) rfl rfl rfl (by decide +kernel) ⟨Nat.le_of_ble_eq_true rfl, Nat.le_of_ble_eq_true rfl⟩) (px_preV hPic hK hxT rfl hx0) rfl rfl hl.1 rfl (lv_room (Nat.le_of_ble_eq_true rfl)) dX3_broken_8 ⟨Nat.le_of_ble_eq_true rfl, Nat.le_of_ble_eq_true rfl⟩) hnt hlocks
set_option maxHeartbeats 4000000 in
set_option maxRecDepth 100000 in
theorem x_broken3 (l : Launch) (hl9 : l.stackTraces = false) (D : va_G) (g : Nat → ClassId) (z0 : Nat) (ad : Nat → Nat) (z : bSt) (rl : Nat → Nat → Bool) (ff : Nat → Nat → Int) (hz : bOK z) (d : Nat) (u mg : Int) (hd : d < bN z) (h_u : -2147483648 ≤ u ∧ u < 2147483648) (hxy : (d : Int) ≠ u) (hmg : 0 ≤ mg ∧ mg ≤ 10000) (hbad : ¬ (0 ≤ u ∧ u ≤ (bN z : Int) - 1)) : vx_Met l yX3_broken wsX3_broken ({ frames := 7, cells := 1, slots := 6, locals := 111 }) (px_Pc z0 [.ref (ad 0), .int (jI ((d : Int))), .int (jI (u)), .int (jI (mg))] D vwCl (ty9 g) (fun H => bW D g ad z rl ff H)) px_F (px_X eIAE) 1 6 (fun _ => False) := by
  refine vx_ofW (cc := cX3_broken) (maxL := 4) (ret := some .int) (by decide) rfl ?_
  intro p e s m args below meth c s₁ B hml hnt hv
  obtain ⟨⟨rfl, hPic, hK⟩, hxT⟩ := hv
  have hx := B.exec
  have hb := B.bytes
  have hts := atoms_spec (ws := wsX3_broken) B.pre
  have hown : s.vm.findClass RX3 = some m.cls := findClass_of_methodNamed B.named
  have hlocks := B.notSynchronized
  obtain ⟨sa9, r_0, r_1, r_2, r_3, r_4, r_5, r_6⟩ := hxT.2.2.1
  have hx0 : va_at D vwCl (ad 0, .inr (3, [.ref (ad 1), .int (jI ((bN z : Int))), .int (jI (bV z))])) s.heap := hPic 0 (by omega)
  have hx1 : va_at D vwCl (ad 1, .inl (g 2, 8, .inr (.inr (.inr (.inr (fun j => some (ad (2 + 12 * j)))))))) s.heap := hPic 1 (by omega)
  have hN := hz.1
  have hd0_d : va_at D vwCl (ad (2 + 12 * d), .inr (1, [.int (jI ((d : Int))), .ref (ad (2 + 12 * d + 1)), .ref (ad (2 + 12 * d + 5)), .ref (ad (2 + 12 * d + 10)), .ref (ad (2 + 12 * d + 11)), va_rf ((bU z d).map (fun u => ad (2 + 12 * u))), .int (jI ((bO z d : Int))), .int (jI ((bC z d : Int))), .int (jI (bZ z d))])) s.heap := bW_at hPic (i := d) (by omega) 0 (by omega)
  have hl := lv_entry ([.ref (ad 0), .int (jI ((d : Int))), .int (jI (u)), .int (jI (mg))]) (n := 4) (Nat.le_of_ble_eq_true rfl)
  rw [lg_entry_eq]
  generalize (lg_sl ([.ref (ad 0), .int (jI ((d : Int))), .int (jI (u)), .int (jI (mg))]) ++ List.replicate (4 - (lg_sl ([.ref (ad 0), .int (jI ((d : Int))), .int (jI (u)), .int (jI (mg))])).length) Slot.unset).toArray = ls at hl ⊢
  have hl : lv_has ls 4 [(0, .ref (ad 0)), (1, .int (jI ((d : Int)))), (2, .int (jI (u))), (3, .int (jI (mg)))] := hl
  refine lv_iload_n hx hb dX3_broken_0 rfl (lv_at hl 1 rfl) ?_
  refine lv_iload_n hx hb dX3_broken_1 rfl (lv_at hl 2 rfl) ?_
  refine lv_iload_n hx hb dX3_broken_2 rfl (lv_at hl 3 rfl) ?_
  refine pu_call (va_runS (As := [.int (jI ((d : Int))), .int (jI (u)), .int (jI (mg))]) (rest := []) ⟨hx, hb, hml, hown, hts⟩ (c_demandPair l D g (d : Int) u mg (by omega) (by omega) hxy hmg) (cwS 3 hts (gd_S kw_308 kw_309 kw_12 kcX3_demandPair) rfl rfl rfl (by decide +kernel) ⟨Nat.le_of_ble_eq_true rfl, Nat.le_of_ble_eq_true rfl⟩) (pu_preS trivial hK) rfl rfl hl.1 rfl (lv_room (Nat.le_of_ble_eq_true rfl)) dX3_broken_3 ⟨Nat.zero_le _, Nat.zero_le _⟩) ?_
  refine lv_aload_n hx hb dX3_broken_6 rfl (lv_at hl 0 rfl) ?_
  refine lv_iload_n hx hb dX3_broken_7 rfl (lv_at hl 1 rfl) ?_
  refine pu_call1 (va_runV (As := [.int (jI ((d : Int)))]) (rest := []) ⟨hx, hb, hml, hown, hts⟩ (c_known l D g ad z rl ff hz d hd) (cwV 1 hts (gd_V kw_140 kw_142 kw_0 kw_12 kcX3_known) rfl rfl rfl (by decide +kernel) ⟨Nat.le_of_ble_eq_true rfl, Nat.le_of_ble_eq_true rfl⟩) (pu_preV hPic hK rfl hx0) rfl rfl hl.1 rfl (lv_room (Nat.le_of_ble_eq_true rfl)) dX3_broken_8 ⟨Nat.zero_le _, Nat.zero_le _⟩) ?_
  refine pu_call1 (va_runV (As := []) (rest := []) ⟨hx, hb, hml, hown, hts⟩ (c_chosenSetting l D g ad z rl ff hz d (by omega)) (cwV 0 hts (gd_V kw_267 kw_268 kw_269 kw_13 kcX1_chosenSetting) rfl rfl rfl (by decide +kernel) ⟨Nat.le_of_ble_eq_true rfl, Nat.le_of_ble_eq_true rfl⟩) (pu_preV hPic hK rfl hd0_d) rfl rfl hl.1 rfl (lv_room (Nat.le_of_ble_eq_true rfl)) dX3_broken_11 ⟨Nat.zero_le _, Nat.zero_le _⟩) ?_
  refine lv_aload_n hx hb dX3_broken_14 rfl (lv_at hl 0 rfl) ?_
  refine lv_iload_n hx hb dX3_broken_15 rfl (lv_at hl 2 rfl) ?_
  exact px_out (vx_runV (As := [.int (jI (u))]) (rest := [.ref (ad (2 + 12 * d + 6 + bC z d))]) ⟨hx, hb, hml, hown, hts⟩ (x_known l hl9 D g z0 ad z rl ff hz u h_u hbad) (cwV 1 hts (gd_V kw_140 kw_142 kw_0 kw_12 kcX3_known) rfl rfl rfl (by decide +kernel) ⟨Nat.le_of_ble_eq_true rfl, Nat.le_of_ble_eq_true rfl⟩) (px_preV hPic hK hxT rfl hx0) rfl rfl hl.1 rfl (lv_room (Nat.le_of_ble_eq_true rfl)) dX3_broken_16 ⟨Nat.le_of_ble_eq_true rfl, Nat.le_of_ble_eq_true rfl⟩) hnt hlocks
