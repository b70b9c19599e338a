set_option maxRecDepth 20000 in
theorem kw_134 : (.classLink RL 13 eIAE : Cond) ∈ gAll := g_mem 134 rfl rfl
set_option maxRecDepth 20000 in
theorem kw_135 : (.classLink RL 15 eISE : Cond) ∈ gAll := g_mem 135 rfl rfl
set_option maxRecDepth 20000 in
theorem kw_136 : (.methodLink RL 7 yX3_device : Cond) ∈ gAll := g_mem 136 rfl rfl
set_option maxRecDepth 20000 in
theorem kw_137 : (.instanceMethod yX3_device : Cond) ∈ gAll := g_mem 137 rfl rfl
set_option maxRecDepth 20000 in
theorem kw_138 : (.selects RX3 yX3_device yX3_device : Cond) ∈ gAll := g_mem 138 rfl rfl
set_option maxRecDepth 20000 in
theorem kw_230 : (.methodLink RL 17 yX3_point : Cond) ∈ gAll := g_mem 230 rfl rfl
set_option maxRecDepth 20000 in
theorem kw_231 : (.instanceMethod yX3_point : Cond) ∈ gAll := g_mem 231 rfl rfl
set_option maxRecDepth 20000 in
theorem kw_232 : (.selects RX3 yX3_point yX3_point : Cond) ∈ gAll := g_mem 232 rfl rfl
set_option maxRecDepth 20000 in
theorem kw_248 : (.methodLink RL 21 yX3_option : Cond) ∈ gAll := g_mem 248 rfl rfl
set_option maxRecDepth 20000 in
theorem kw_249 : (.instanceMethod yX3_option : Cond) ∈ gAll := g_mem 249 rfl rfl
set_option maxRecDepth 20000 in
theorem kw_250 : (.selects RX3 yX3_option yX3_option : Cond) ∈ gAll := g_mem 250 rfl rfl
set_option maxRecDepth 20000 in
theorem kw_256 : (.methodLink RL 25 yX3_choose : Cond) ∈ gAll := g_mem 256 rfl rfl
set_option maxRecDepth 20000 in
theorem kw_257 : (.instanceMethod yX3_choose : Cond) ∈ gAll := g_mem 257 rfl rfl
set_option maxRecDepth 20000 in
theorem kw_258 : (.selects RX3 yX3_choose yX3_choose : Cond) ∈ gAll := g_mem 258 rfl rfl
set_option maxRecDepth 20000 in
theorem kw_263 : (.methodLink RL 29 yX3_time : Cond) ∈ gAll := g_mem 263 rfl rfl
set_option maxRecDepth 20000 in
theorem kw_264 : (.instanceMethod yX3_time : Cond) ∈ gAll := g_mem 264 rfl rfl
set_option maxRecDepth 20000 in
theorem kw_265 : (.selects RX3 yX3_time yX3_time : Cond) ∈ gAll := g_mem 265 rfl rfl
set_option maxRecDepth 20000 in
theorem kw_290 : (.methodLink RL 33 yX3_opensFrom : Cond) ∈ gAll := g_mem 290 rfl rfl
set_option maxRecDepth 20000 in
theorem kw_291 : (.instanceMethod yX3_opensFrom : Cond) ∈ gAll := g_mem 291 rfl rfl
set_option maxRecDepth 20000 in
theorem kw_292 : (.selects RX3 yX3_opensFrom yX3_opensFrom : Cond) ∈ gAll := g_mem 292 rfl rfl
set_option maxRecDepth 20000 in
theorem kw_304 : (.methodLink RL 36 yX3_order : Cond) ∈ gAll := g_mem 304 rfl rfl
set_option maxRecDepth 20000 in
theorem kw_305 : (.instanceMethod yX3_order : Cond) ∈ gAll := g_mem 305 rfl rfl
set_option maxRecDepth 20000 in
theorem kw_306 : (.selects RX3 yX3_order yX3_order : Cond) ∈ gAll := g_mem 306 rfl rfl
set_option maxRecDepth 20000 in
theorem kw_336 : (.methodLink RL 39 yX3_broken : Cond) ∈ gAll := g_mem 336 rfl rfl
set_option maxRecDepth 20000 in
theorem kw_337 : (.instanceMethod yX3_broken : Cond) ∈ gAll := g_mem 337 rfl rfl
set_option maxRecDepth 20000 in
theorem kw_338 : (.selects RX3 yX3_broken yX3_broken : Cond) ∈ gAll := g_mem 338 rfl rfl
set_option maxRecDepth 20000 in
theorem kw_349 : (.methodLink RL 42 yX3_settle : Cond) ∈ gAll := g_mem 349 rfl rfl
set_option maxRecDepth 20000 in
theorem kw_350 : (.instanceMethod yX3_settle : Cond) ∈ gAll := g_mem 350 rfl rfl
set_option maxRecDepth 20000 in
theorem kw_351 : (.selects RX3 yX3_settle yX3_settle : Cond) ∈ gAll := g_mem 351 rfl rfl
set_option maxRecDepth 20000 in
theorem kw_366 : (.methodLink RL 46 yX3_chosen : Cond) ∈ gAll := g_mem 366 rfl rfl
set_option maxRecDepth 20000 in
theorem kw_367 : (.instanceMethod yX3_chosen : Cond) ∈ gAll := g_mem 367 rfl rfl
set_option maxRecDepth 20000 in
theorem kw_368 : (.selects RX3 yX3_chosen yX3_chosen : Cond) ∈ gAll := g_mem 368 rfl rfl
set_option maxRecDepth 20000 in
theorem kw_373 : (.methodLink RL 49 yX3_impedance : Cond) ∈ gAll := g_mem 373 rfl rfl
set_option maxRecDepth 20000 in
theorem kw_374 : (.instanceMethod yX3_impedance : Cond) ∈ gAll := g_mem 374 rfl rfl
set_option maxRecDepth 20000 in
theorem kw_375 : (.selects RX3 yX3_impedance yX3_impedance : Cond) ∈ gAll := g_mem 375 rfl rfl
set_option maxRecDepth 20000 in
theorem kw_380 : (.methodLink RL 52 yX3_voltage : Cond) ∈ gAll := g_mem 380 rfl rfl
set_option maxRecDepth 20000 in
theorem kw_381 : (.instanceMethod yX3_voltage : Cond) ∈ gAll := g_mem 381 rfl rfl
set_option maxRecDepth 20000 in
theorem kw_382 : (.selects RX3 yX3_voltage yX3_voltage : Cond) ∈ gAll := g_mem 382 rfl rfl
set_option maxRecDepth 20000 in
theorem kw_388 : (.methodLink RL 55 yX3_shortAt : Cond) ∈ gAll := g_mem 388 rfl rfl
set_option maxRecDepth 20000 in
theorem kw_389 : (.instanceMethod yX3_shortAt : Cond) ∈ gAll := g_mem 389 rfl rfl
set_option maxRecDepth 20000 in
theorem kw_390 : (.selects RX3 yX3_shortAt yX3_shortAt : Cond) ∈ gAll := g_mem 390 rfl rfl
set_option maxRecDepth 20000 in
theorem kw_404 : (.methodLink RL 58 yX3_opens : Cond) ∈ gAll := g_mem 404 rfl rfl
set_option maxRecDepth 20000 in
theorem kw_405 : (.instanceMethod yX3_opens : Cond) ∈ gAll := g_mem 405 rfl rfl
set_option maxRecDepth 20000 in
theorem kw_406 : (.selects RX3 yX3_opens yX3_opens : Cond) ∈ gAll := g_mem 406 rfl rfl
set_option maxHeartbeats 4000000 in
set_option maxRecDepth 100000 in
theorem w_device0 (l : Launch) (hl9 : l.stackTraces = false) (D : va_G) (g : Nat → ClassId) (z0 : Nat) (ad : Nat → Nat) (z : bSt) (rl : Nat → Nat → Bool) (ff : Nat → Nat → Int) (hz : bOK z) (hj : bInj ad) (ao : Nat) (v0 : Int) (hao : ∀ q, q < 98 → ao ≠ ad q) (n : Nat) (hn : bN z = n) (hn8 : n < 8) : Met l yL_device wsL_device ({ frames := 2, cells := 1, slots := 6, locals := 44 }) (lPc z0 [.ref (ad 0), .int (jI ((-1))), .ref ao] D g ad ao z rl ff v0) (lQ D g ad ao (zN (zU z n none) (n + 1)) 0 (n : Int)) 1 6 (lFr ad ao) := by
  refine j_ofWH (cc := cL_device) (maxL := 4) (ret := some .int) (hh := [(0, 9, 12, 13), (0, 9, 15, 15)]) (by decide) rfl ?_
  intro p e s m args below meth c s₁ B hml hv
  obtain ⟨⟨rfl, ⟨hPic, hout⟩, hK⟩, hxT⟩ := hv
  have hx := B.exec
  have hb := B.bytes
  have hr := B.returns
  have hts := atoms_spec (ws := wsL_device) B.pre
  have hown : s.vm.findClass RL = some m.cls := findClass_of_methodNamed B.named
  have hlocks := B.notSynchronized
  have htab : c.exceptionTable.toList = tableOf [(0, 9, 12, 13), (0, 9, 15, 15)] := vx_table (x := yL_device) (y := yL_device) (bytes := cL_device) (maxL' := 4) (ret' := some .int) B (hts wL_device (List.mem_cons_self (a := wL_device) (l := gAll)))
  have hx0 : va_at D vwCl (ad 0, .inr (3, [.ref (ad 1), .int (jI (bN z : Int)), .int (jI (bV z))])) s.heap := hPic 0 (by omega)
  have hl := lv_entry ([.ref (ad 0), .int (jI ((-1))), .ref ao]) (n := 4) (Nat.le_of_ble_eq_true rfl)
  rw [lg_entry_eq]
  generalize (lg_sl ([.ref (ad 0), .int (jI ((-1))), .ref ao]) ++ List.replicate (4 - (lg_sl ([.ref (ad 0), .int (jI ((-1))), .ref ao])).length) Slot.unset).toArray = ls at hl ⊢
  have hl : lv_has ls 4 [(0, .ref (ad 0)), (1, .int (jI ((-1)))), (2, .ref ao)] := hl
  refine W.widen (Nat.zero_le 1) (Nat.zero_le 6) ?_
  refine lv_aload_n hx hb dL_device_0 rfl (lv_at hl 2 rfl) ?_
  refine jv_iconst hx hb dL_device_1 ?_
  refine lv_aload_n hx hb dL_device_2 rfl (lv_at hl 0 rfl) ?_
  refine lv_iload_n hx hb dL_device_3 rfl (lv_at hl 1 rfl) ?_
  refine b_call (va_runV (As := [.int (jI ((-1)))]) (rest := [.int (jI (0)), .ref ao]) ⟨hx, hb, hml, hown, hts⟩ (c_device0 l D g ad z rl ff hz hj n hn hn8) (cwV 1 hts (gd_V kw_136 kw_137 kw_138 kw_12 kcX3_device) rfl rfl rfl (by decide +kernel) ⟨Nat.le_of_ble_eq_true rfl, Nat.le_of_ble_eq_true rfl⟩) (pu_preV hPic hK rfl hx0) rfl rfl hl.1 rfl (lv_room (Nat.le_of_ble_eq_true rfl)) dL_device_4 ⟨Nat.le_of_ble_eq_true rfl, Nat.le_of_ble_eq_true rfl⟩) bTo.rf (fun H locs rl9 ff9 hPh hPic hT9 => ?_)
  have hout := hout.kept (hT9.2.1 ao (fun h9 => by obtain ⟨r9, h1, h2⟩ := h9; exact hao r9 h1 h2))
  have hTl : lTo ad ao s.heap H locs := lTo.of hT9
  refine W.eq (g2 := F0 m 7 ls [.int (jI ((n : Int))), .int (jI (0)), .ref ao]) rfl ?_
  rw [← jI_cn ((n : Int))]
  refine jv_i2l hx hb dL_device_7 (cn_rng _) ?_
  refine jv_last (i := 0) (gg := fun _ => v0) hx hb hK hout 4 rfl rfl (by decide) (by decide) dL_device_8 (fun H f9 hn9 hz9 oq9 => ?_)
  have hout : va_at D vwCl (ao, oC g (cn ((n : Int)))) H := va_lcongr (fun j hj => by rw [show j = 0 by omega, jUp_s]) hn9
  have hPic := bW_kept hPic (fun q hq => oq9 _ (fun e9 => hao q hq e9.symm))
  have hTl := hTl.put hz9 oq9 (f := f9)
  refine lv_goto (tgt := 18) hx hb dL_device_9 (by decide) ?_
  refine jv_iconst hx hb dL_device_18 ?_
  exact l_iret hx hb hr hlocks dL_device_19 rfl hPic hout (fun _ => rfl) hTl
set_option maxHeartbeats 4000000 in
set_option maxRecDepth 100000 in
theorem w_device1 (l : Launch) (hl9 : l.stackTraces = false) (D : va_G) (g : Nat → ClassId) (z0 : Nat) (ad : Nat → Nat) (z : bSt) (rl : Nat → Nat → Bool) (ff : Nat → Nat → Int) (hz : bOK z) (hj : bInj ad) (ao : Nat) (v0 : Int) (hao : ∀ q, q < 98 → ao ≠ ad q) (n u : Nat) (hu : u < n) (hn : bN z = n) (hn8 : n < 8) : Met l yL_device wsL_device ({ frames := 2, cells := 1, slots := 6, locals := 44 }) (lPc z0 [.ref (ad 0), .int (jI ((u : Int))), .ref ao] D g ad ao z rl ff v0) (lQ D g ad ao (zN (zU z n (some u)) (n + 1)) 0 (n : Int)) 1 6 (lFr ad ao) := by
  refine j_ofWH (cc := cL_device) (maxL := 4) (ret := some .int) (hh := [(0, 9, 12, 13), (0, 9, 15, 15)]) (by decide) rfl ?_
  intro p e s m args below meth c s₁ B hml hv
  obtain ⟨⟨rfl, ⟨hPic, hout⟩, hK⟩, hxT⟩ := hv
  have hx := B.exec
  have hb := B.bytes
  have hr := B.returns
  have hts := atoms_spec (ws := wsL_device) B.pre
  have hown : s.vm.findClass RL = some m.cls := findClass_of_methodNamed B.named
  have hlocks := B.notSynchronized
  have htab : c.exceptionTable.toList = tableOf [(0, 9, 12, 13), (0, 9, 15, 15)] := vx_table (x := yL_device) (y := yL_device) (bytes := cL_device) (maxL' := 4) (ret' := some .int) B (hts wL_device (List.mem_cons_self (a := wL_device) (l := gAll)))
  have hx0 : va_at D vwCl (ad 0, .inr (3, [.ref (ad 1), .int (jI (bN z : Int)), .int (jI (bV z))])) s.heap := hPic 0 (by omega)
  have hl := lv_entry ([.ref (ad 0), .int (jI ((u : Int))), .ref ao]) (n := 4) (Nat.le_of_ble_eq_true rfl)
  rw [lg_entry_eq]
  generalize (lg_sl ([.ref (ad 0), .int (jI ((u : Int))), .ref ao]) ++ List.replicate (4 - (lg_sl ([.ref (ad 0), .int (jI ((u : Int))), .ref ao])).length) Slot.unset).toArray = ls at hl ⊢
  have hl : lv_has ls 4 [(0, .ref (ad 0)), (1, .int (jI ((u : Int)))), (2, .ref ao)] := hl
  refine W.widen (Nat.zero_le 1) (Nat.zero_le 6) ?_
  refine lv_aload_n hx hb dL_device_0 rfl (lv_at hl 2 rfl) ?_
  refine jv_iconst hx hb dL_device_1 ?_
  refine lv_aload_n hx hb dL_device_2 rfl (lv_at hl 0 rfl) ?_
  refine lv_iload_n hx hb dL_device_3 rfl (lv_at hl 1 rfl) ?_
  refine b_call (va_runV (As := [.int (jI ((u : Int)))]) (rest := [.int (jI (0)), .ref ao]) ⟨hx, hb, hml, hown, hts⟩ (c_device1 l D g ad z rl ff hz hj n u hu hn hn8) (cwV 1 hts (gd_V kw_136 kw_137 kw_138 kw_12 kcX3_device) rfl rfl rfl (by decide +kernel) ⟨Nat.le_of_ble_eq_true rfl, Nat.le_of_ble_eq_true rfl⟩) (pu_preV hPic hK rfl hx0) rfl rfl hl.1 rfl (lv_room (Nat.le_of_ble_eq_true rfl)) dL_device_4 ⟨Nat.le_of_ble_eq_true rfl, Nat.le_of_ble_eq_true rfl⟩) bTo.rf (fun H locs rl9 ff9 hPh hPic hT9 => ?_)
  have hout := hout.kept (hT9.2.1 ao (fun h9 => by obtain ⟨r9, h1, h2⟩ := h9; exact hao r9 h1 h2))
  have hTl : lTo ad ao s.heap H locs := lTo.of hT9
  refine W.eq (g2 := F0 m 7 ls [.int (jI ((n : Int))), .int (jI (0)), .ref ao]) rfl ?_
  rw [← jI_cn ((n : Int))]
  refine jv_i2l hx hb dL_device_7 (cn_rng _) ?_
  refine jv_last (i := 0) (gg := fun _ => v0) hx hb hK hout 4 rfl rfl (by decide) (by decide) dL_device_8 (fun H f9 hn9 hz9 oq9 => ?_)
  have hout : va_at D vwCl (ao, oC g (cn ((n : Int)))) H := va_lcongr (fun j hj => by rw [show j = 0 by omega, jUp_s]) hn9
  have hPic := bW_kept hPic (fun q hq => oq9 _ (fun e9 => hao q hq e9.symm))
  have hTl := hTl.put hz9 oq9 (f := f9)
  refine lv_goto (tgt := 18) hx hb dL_device_9 (by decide) ?_
  refine jv_iconst hx hb dL_device_18 ?_
  exact l_iret hx hb hr hlocks dL_device_19 rfl hPic hout (fun _ => rfl) hTl
set_option maxHeartbeats 4000000 in
set_option maxRecDepth 100000 in
theorem w_device2 (l : Launch) (hl9 : l.stackTraces = false) (D : va_G) (g : Nat → ClassId) (z0 : Nat) (ad : Nat → Nat) (z : bSt) (rl : Nat → Nat → Bool) (ff : Nat → Nat → Int) (hz : bOK z) (hj : bInj ad) (ao : Nat) (v0 : Int) (hao : ∀ q, q < 98 → ao ≠ ad q) (u : Int) (h_u : -2147483648 ≤ u ∧ u < 2147483648) (hu1 : u ≠ -1) (hbad : ¬ (0 ≤ u ∧ u ≤ (bN z : Int) - 1)) : Met l yL_device wsL_device ({ frames := 8, cells := 1, slots := 6, locals := 134 }) (lPc z0 [.ref (ad 0), .int (jI (u)), .ref ao] D g ad ao z rl ff v0) (lQ D g ad ao z 1 0) 1 6 (lFr ad ao) := by
  refine j_ofWH (cc := cL_device) (maxL := 4) (ret := some .int) (hh := [(0, 9, 12, 13), (0, 9, 15, 15)]) (by decide) rfl ?_
  intro p e s m args below meth c s₁ B hml hv
  obtain ⟨⟨rfl, ⟨hPic, hout⟩, hK⟩, hxT⟩ := hv
  have hx := B.exec
  have hb := B.bytes
  have hr := B.returns
  have hts := atoms_spec (ws := wsL_device) B.pre
  have hown : s.vm.findClass RL = some m.cls := findClass_of_methodNamed B.named
  have hlocks := B.notSynchronized
  have htab : c.exceptionTable.toList = tableOf [(0, 9, 12, 13), (0, 9, 15, 15)] := vx_table (x := yL_device) (y := yL_device) (bytes := cL_device) (maxL' := 4) (ret' := some .int) B (hts wL_device (List.mem_cons_self (a := wL_device) (l := gAll)))
  have hx0 : va_at D vwCl (ad 0, .inr (3, [.ref (ad 1), .int (jI (bN z : Int)), .int (jI (bV z))])) s.heap := hPic 0 (by omega)
  have hl := lv_entry ([.ref (ad 0), .int (jI (u)), .ref ao]) (n := 4) (Nat.le_of_ble_eq_true rfl)
  rw [lg_entry_eq]
  generalize (lg_sl ([.ref (ad 0), .int (jI (u)), .ref ao]) ++ List.replicate (4 - (lg_sl ([.ref (ad 0), .int (jI (u)), .ref ao])).length) Slot.unset).toArray = ls at hl ⊢
  have hl : lv_has ls 4 [(0, .ref (ad 0)), (1, .int (jI (u))), (2, .ref ao)] := hl
  refine lv_aload_n hx hb dL_device_0 rfl (lv_at hl 2 rfl) ?_
  refine jv_iconst hx hb dL_device_1 ?_
  refine lv_aload_n hx hb dL_device_2 rfl (lv_at hl 0 rfl) ?_
  refine lv_iload_n hx hb dL_device_3 rfl (lv_at hl 1 rfl) ?_
  refine px_catch (vx_runV (As := [.int (jI (u))]) (rest := [.int (jI (0)), .ref ao]) ⟨hx, hb, hml, hown, hts⟩ (x_device1 l hl9 D g z0 ad z rl ff hz u h_u hu1 hbad) (cwV 1 hts (gd_V kw_136 kw_137 kw_138 kw_12 kcX3_device) rfl rfl rfl (by decide +kernel) ⟨Nat.le_of_ble_eq_true rfl, Nat.le_of_ble_eq_true rfl⟩) (px_preV hPic hK hxT rfl hx0) rfl rfl hl.1 rfl (lv_room (Nat.le_of_ble_eq_true rfl)) dL_device_4 ⟨Nat.le_of_ble_eq_true rfl, Nat.le_of_ble_eq_true rfl⟩) (fun ce q9 H g1 g2 g3 g4 g5 => ?_)
  have hout := hout.kept (g5 ao hout.lt)
  have hPic := bW_kept hPic (fun q hq => g5 _ (bW_lt hPic hq))
  have hTl : lTo ad ao s.heap H [] := ⟨g4, fun q h1 _ => g5 q h1, fun _ h => nomatch h⟩
  refine vx_catch (name := eIAE) hown [] ⟨0, 9, 12, 13⟩ [⟨0, 9, 15, 15⟩] (htab.trans rfl) (fun z9 h9 => nomatch h9) rfl (by decide) (hts _ (List.mem_cons_of_mem _ kw_134)) (hxT.2.1.1.use rfl) g1 g2 g3 ?_
  refine W.eq (g2 := F0 m 12 ls [.ref q9]) rfl ?_
  refine lv_astore_n (lv' := [(3, .ref q9), (0, .ref (ad 0)), (1, .int (jI (u))), (2, .ref ao)]) hx hb dL_device_12 rfl hl (by decide) rfl (fun ls hl => ?_)
  refine jv_iconst hx hb dL_device_13 ?_
  exact l_iret hx hb hr hlocks dL_device_14 rfl hPic hout (fun h9 => absurd h9 (by decide)) hTl
set_option maxHeartbeats 4000000 in
set_option maxRecDepth 100000 in
theorem w_device3 (l : Launch) (hl9 : l.stackTraces = false) (D : va_G) (g : Nat → ClassId) (z0 : Nat) (ad : Nat → Nat) (z : bSt) (rl : Nat → Nat → Bool) (ff : Nat → Nat → Int) (hz : bOK z) (hj : bInj ad) (ao : Nat) (v0 : Int) (hao : ∀ q, q < 98 → ao ≠ ad q) (h8 : bN z = 8) : Met l yL_device wsL_device ({ frames := 7, cells := 1, slots := 6, locals := 113 }) (lPc z0 [.ref (ad 0), .int (jI ((-1))), .ref ao] D g ad ao z rl ff v0) (lQ D g ad ao z 2 0) 1 6 (lFr ad ao) := by
  refine j_ofWH (cc := cL_device) (maxL := 4) (ret := some .int) (hh := [(0, 9, 12, 13), (0, 9, 15, 15)]) (by decide) rfl ?_
  intro p e s m args below meth c s₁ B hml hv
  obtain ⟨⟨rfl, ⟨hPic, hout⟩, hK⟩, hxT⟩ := hv
  have hx := B.exec
  have hb := B.bytes
  have hr := B.returns
  have hts := atoms_spec (ws := wsL_device) B.pre
  have hown : s.vm.findClass RL = some m.cls := findClass_of_methodNamed B.named
  have hlocks := B.notSynchronized
  have htab : c.exceptionTable.toList = tableOf [(0, 9, 12, 13), (0, 9, 15, 15)] := vx_table (x := yL_device) (y := yL_device) (bytes := cL_device) (maxL' := 4) (ret' := some .int) B (hts wL_device (List.mem_cons_self (a := wL_device) (l := gAll)))
  have hx0 : va_at D vwCl (ad 0, .inr (3, [.ref (ad 1), .int (jI (bN z : Int)), .int (jI (bV z))])) s.heap := hPic 0 (by omega)
  have hl := lv_entry ([.ref (ad 0), .int (jI ((-1))), .ref ao]) (n := 4) (Nat.le_of_ble_eq_true rfl)
  rw [lg_entry_eq]
  generalize (lg_sl ([.ref (ad 0), .int (jI ((-1))), .ref ao]) ++ List.replicate (4 - (lg_sl ([.ref (ad 0), .int (jI ((-1))), .ref ao])).length) Slot.unset).toArray = ls at hl ⊢
  have hl : lv_has ls 4 [(0, .ref (ad 0)), (1, .int (jI ((-1)))), (2, .ref ao)] := hl
  refine lv_aload_n hx hb dL_device_0 rfl (lv_at hl 2 rfl) ?_
  refine jv_iconst hx hb dL_device_1 ?_
  refine lv_aload_n hx hb dL_device_2 rfl (lv_at hl 0 rfl) ?_
  refine lv_iload_n hx hb dL_device_3 rfl (lv_at hl 1 rfl) ?_
  refine px_catch (vx_runV (As := [.int (jI ((-1)))]) (rest := [.int (jI (0)), .ref ao]) ⟨hx, hb, hml, hown, hts⟩ (x_device2 l hl9 D g z0 ad z rl ff hz h8) (cwV 1 hts (gd_V kw_136 kw_137 kw_138 kw_12 kcX3_device) rfl rfl rfl (by decide +kernel) ⟨Nat.le_of_ble_eq_true rfl, Nat.le_of_ble_eq_true rfl⟩) (px_preV hPic hK hxT rfl hx0) rfl rfl hl.1 rfl (lv_room (Nat.le_of_ble_eq_true rfl)) dL_device_4 ⟨Nat.le_of_ble_eq_true rfl, Nat.le_of_ble_eq_true rfl⟩) (fun ce q9 H g1 g2 g3 g4 g5 => ?_)
  have hout := hout.kept (g5 ao hout.lt)
  have hPic := bW_kept hPic (fun q hq => g5 _ (bW_lt hPic hq))
  have hTl : lTo ad ao s.heap H [] := ⟨g4, fun q h1 _ => g5 q h1, fun _ h => nomatch h⟩
  refine vx_catch (name := eISE) hown [⟨0, 9, 12, 13⟩] ⟨0, 9, 15, 15⟩ [] (htab.trans rfl) (fun z9 h9 => by rw [List.mem_singleton.mp h9]; exact Or.inr ⟨by decide, eIAE, (hts _ (List.mem_cons_of_mem _ kw_134)), hxT.2.2.2⟩) rfl (by decide) (hts _ (List.mem_cons_of_mem _ kw_135)) (hxT.2.1.2.1.use rfl) g1 g2 g3 ?_
  refine W.eq (g2 := F0 m 15 ls [.ref q9]) rfl ?_
  refine lv_astore_n (lv' := [(3, .ref q9), (0, .ref (ad 0)), (1, .int (jI ((-1)))), (2, .ref ao)]) hx hb dL_device_15 rfl hl (by decide) rfl (fun ls hl => ?_)
  refine jv_iconst hx hb dL_device_16 ?_
  exact l_iret hx hb hr hlocks dL_device_17 rfl hPic hout (fun h9 => absurd h9 (by decide)) hTl
set_option maxHeartbeats 4000000 in
set_option maxRecDepth 100000 in
theorem w_device4 (l : Launch) (hl9 : l.stackTraces = false) (D : va_G) (g : Nat → ClassId) (z0 : Nat) (ad : Nat → Nat) (z : bSt) (rl : Nat → Nat → Bool) (ff : Nat → Nat → Int) (hz : bOK z) (hj : bInj ad) (ao : Nat) (v0 : Int) (hao : ∀ q, q < 98 → ao ≠ ad q) (u : Nat) (hu : u < bN z) (h8 : bN z = 8) : Met l yL_device wsL_device ({ frames := 7, cells := 1, slots := 6, locals := 113 }) (lPc z0 [.ref (ad 0), .int (jI ((u : Int))), .ref ao] D g ad ao z rl ff v0) (lQ D g ad ao z 2 0) 1 6 (lFr ad ao) := by
  refine j_ofWH (cc := cL_device) (maxL := 4) (ret := some .int) (hh := [(0, 9, 12, 13), (0, 9, 15, 15)]) (by decide) rfl ?_
  intro p e s m args below meth c s₁ B hml hv
  obtain ⟨⟨rfl, ⟨hPic, hout⟩, hK⟩, hxT⟩ := hv
  have hx := B.exec
  have hb := B.bytes
  have hr := B.returns
  have hts := atoms_spec (ws := wsL_device) B.pre
  have hown : s.vm.findClass RL = some m.cls := findClass_of_methodNamed B.named
  have hlocks := B.notSynchronized
  have htab : c.exceptionTable.toList = tableOf [(0, 9, 12, 13), (0, 9, 15, 15)] := vx_table (x := yL_device) (y := yL_device) (bytes := cL_device) (maxL' := 4) (ret' := some .int) B (hts wL_device (List.mem_cons_self (a := wL_device) (l := gAll)))
  have hx0 : va_at D vwCl (ad 0, .inr (3, [.ref (ad 1), .int (jI (bN z : Int)), .int (jI (bV z))])) s.heap := hPic 0 (by omega)
  have hl := lv_entry ([.ref (ad 0), .int (jI ((u : Int))), .ref ao]) (n := 4) (Nat.le_of_ble_eq_true rfl)
  rw [lg_entry_eq]
  generalize (lg_sl ([.ref (ad 0), .int (jI ((u : Int))), .ref ao]) ++ List.replicate (4 - (lg_sl ([.ref (ad 0), .int (jI ((u : Int))), .ref ao])).length) Slot.unset).toArray = ls at hl ⊢
  have hl : lv_has ls 4 [(0, .ref (ad 0)), (1, .int (jI ((u : Int)))), (2, .ref ao)] := hl
  refine lv_aload_n hx hb dL_device_0 rfl (lv_at hl 2 rfl) ?_
  refine jv_iconst hx hb dL_device_1 ?_
  refine lv_aload_n hx hb dL_device_2 rfl (lv_at hl 0 rfl) ?_
  refine lv_iload_n hx hb dL_device_3 rfl (lv_at hl 1 rfl) ?_
  refine px_catch (vx_runV (As := [.int (jI ((u : Int)))]) (rest := [.int (jI (0)), .ref ao]) ⟨hx, hb, hml, hown, hts⟩ (x_device3 l hl9 D g z0 ad z rl ff hz u hu h8) (cwV 1 hts (gd_V kw_136 kw_137 kw_138 kw_12 kcX3_device) rfl rfl rfl (by decide +kernel) ⟨Nat.le_of_ble_eq_true rfl, Nat.le_of_ble_eq_true rfl⟩) (px_preV hPic hK hxT rfl hx0) rfl rfl hl.1 rfl (lv_room (Nat.le_of_ble_eq_true rfl)) dL_device_4 ⟨Nat.le_of_ble_eq_true rfl, Nat.le_of_ble_eq_true rfl⟩) (fun ce q9 H g1 g2 g3 g4 g5 => ?_)
  have hout := hout.kept (g5 ao hout.lt)
  have hPic := bW_kept hPic (fun q hq => g5 _ (bW_lt hPic hq))
  have hTl : lTo ad ao s.heap H [] := ⟨g4, fun q h1 _ => g5 q h1, fun _ h => nomatch h⟩
  refine vx_catch (name := eISE) hown [⟨0, 9, 12, 13⟩] ⟨0, 9, 15, 15⟩ [] (htab.trans rfl) (fun z9 h9 => by rw [List.mem_singleton.mp h9]; exact Or.inr ⟨by decide, eIAE, (hts _ (List.mem_cons_of_mem _ kw_134)), hxT.2.2.2⟩) rfl (by decide) (hts _ (List.mem_cons_of_mem _ kw_135)) (hxT.2.1.2.1.use rfl) g1 g2 g3 ?_
  refine W.eq (g2 := F0 m 15 ls [.ref q9]) rfl ?_
  refine lv_astore_n (lv' := [(3, .ref q9), (0, .ref (ad 0)), (1, .int (jI ((u : Int)))), (2, .ref ao)]) hx hb dL_device_15 rfl hl (by decide) rfl (fun ls hl => ?_)
  refine jv_iconst hx hb dL_device_16 ?_
  exact l_iret hx hb hr hlocks dL_device_17 rfl hPic hout (fun h9 => absurd h9 (by decide)) hTl
set_option maxHeartbeats 4000000 in
set_option maxRecDepth 100000 in
theorem w_point0 (l : Launch) (hl9 : l.stackTraces = false) (D : va_G) (g : Nat → ClassId) (z0 : Nat) (ad : Nat → Nat) (z : bSt) (rl : Nat → Nat → Bool) (ff : Nat → Nat → Int) (hz : bOK z) (hj : bInj ad) (ao : Nat) (v0 : Int) (hao : ∀ q, q < 98 → ao ≠ ad q) (d k : Nat) (pl le mo : Int) (hd : d < bN z) (hk : bK z d = k) (hk6 : k < 6) (hpl : 1 ≤ pl ∧ pl ≤ 5000) (hle : 0 ≤ le ∧ le ≤ mo) (hmo : mo ≤ 100000) (hlast : k = 0 ∨ (bP z d (k - 1) < pl ∧ 1 ≤ bP z d (k - 1))) : Met l yL_point wsL_point ({ frames := 2, cells := 1, slots := 6, locals := 48 }) (lPc z0 [.ref (ad 0), .int (jI ((d : Int))), .int (jI (pl)), .int (jI (le)), .int (jI (mo)), .ref ao] D g ad ao z rl ff v0) (lQ D g ad ao (zK (zM (zL (zP z d k pl) d k le) d k mo) d (k + 1)) 0 ((k + 1 : Nat) : Int)) 1 6 (lFr ad ao) := by
  refine j_ofWH (cc := cL_point) (maxL := 7) (ret := some .int) (hh := [(0, 14, 17, 13), (0, 14, 21, 15)]) (by decide) rfl ?_
  intro p e s m args below meth c s₁ B hml hv
  obtain ⟨⟨rfl, ⟨hPic, hout⟩, hK⟩, hxT⟩ := hv
  have hx := B.exec
  have hb := B.bytes
  have hr := B.returns
  have hts := atoms_spec (ws := wsL_point) B.pre
  have hown : s.vm.findClass RL = some m.cls := findClass_of_methodNamed B.named
  have hlocks := B.notSynchronized
  have htab : c.exceptionTable.toList = tableOf [(0, 14, 17, 13), (0, 14, 21, 15)] := vx_table (x := yL_point) (y := yL_point) (bytes := cL_point) (maxL' := 7) (ret' := some .int) B (hts wL_point (List.mem_cons_self (a := wL_point) (l := gAll)))
  have hx0 : va_at D vwCl (ad 0, .inr (3, [.ref (ad 1), .int (jI (bN z : Int)), .int (jI (bV z))])) s.heap := hPic 0 (by omega)
  have hl := lv_entry ([.ref (ad 0), .int (jI ((d : Int))), .int (jI (pl)), .int (jI (le)), .int (jI (mo)), .ref ao]) (n := 7) (Nat.le_of_ble_eq_true rfl)
  rw [lg_entry_eq]
  generalize (lg_sl ([.ref (ad 0), .int (jI ((d : Int))), .int (jI (pl)), .int (jI (le)), .int (jI (mo)), .ref ao]) ++ List.replicate (7 - (lg_sl ([.ref (ad 0), .int (jI ((d : Int))), .int (jI (pl)), .int (jI (le)), .int (jI (mo)), .ref ao])).length) Slot.unset).toArray = ls at hl ⊢
  have hl : lv_has ls 7 [(0, .ref (ad 0)), (1, .int (jI ((d : Int)))), (2, .int (jI (pl))), (3, .int (jI (le))), (4, .int (jI (mo))), (5, .ref ao)] := hl
  refine W.widen (Nat.zero_le 1) (Nat.zero_le 6) ?_
  refine lv_aload hx hb dL_point_0 (lv_at hl 5 rfl) ?_
  refine jv_iconst hx hb dL_point_2 ?_
  refine lv_aload_n hx hb dL_point_3 rfl (lv_at hl 0 rfl) ?_
  refine lv_iload_n hx hb dL_point_4 rfl (lv_at hl 1 rfl) ?_
  refine lv_iload_n hx hb dL_point_5 rfl (lv_at hl 2 rfl) ?_
  refine lv_iload_n hx hb dL_point_6 rfl (lv_at hl 3 rfl) ?_
  refine lv_iload hx hb dL_point_7 (lv_at hl 4 rfl) ?_
  refine b_call (va_runV (As := [.int (jI ((d : Int))), .int (jI (pl)), .int (jI (le)), .int (jI (mo))]) (rest := [.int (jI (0)), .ref ao]) ⟨hx, hb, hml, hown, hts⟩ (c_point l D g ad z rl ff hz hj d k pl le mo hd hk hk6 hpl hle hmo hlast) (cwV 4 hts (gd_V kw_230 kw_231 kw_232 kw_12 kcX3_point) rfl rfl rfl (by decide +kernel) ⟨Nat.le_of_ble_eq_true rfl, Nat.le_of_ble_eq_true rfl⟩) (pu_preV hPic hK rfl hx0) rfl rfl hl.1 rfl (lv_room (Nat.le_of_ble_eq_true rfl)) dL_point_9 ⟨Nat.le_of_ble_eq_true rfl, Nat.le_of_ble_eq_true rfl⟩) bTo.rf (fun H locs rl9 ff9 hPh hPic hT9 => ?_)
  have hout := hout.kept (hT9.2.1 ao (fun h9 => by obtain ⟨r9, h1, h2⟩ := h9; exact hao r9 h1 h2))
  have hTl : lTo ad ao s.heap H locs := lTo.of hT9
  refine W.eq (g2 := F0 m 12 ls [.int (jI (((k + 1 : Nat) : Int))), .int (jI (0)), .ref ao]) rfl ?_
  rw [← jI_cn (((k + 1 : Nat) : Int))]
  refine jv_i2l hx hb dL_point_12 (cn_rng _) ?_
  refine jv_last (i := 0) (gg := fun _ => v0) hx hb hK hout 4 rfl rfl (by decide) (by decide) dL_point_13 (fun H f9 hn9 hz9 oq9 => ?_)
  have hout : va_at D vwCl (ao, oC g (cn (((k + 1 : Nat) : Int)))) H := va_lcongr (fun j hj => by rw [show j = 0 by omega, jUp_s]) hn9
  have hPic := bW_kept hPic (fun q hq => oq9 _ (fun e9 => hao q hq e9.symm))
  have hTl := hTl.put hz9 oq9 (f := f9)
  refine lv_goto (tgt := 25) hx hb dL_point_14 (by decide) ?_
  refine jv_iconst hx hb dL_point_25 ?_
  exact l_iret hx hb hr hlocks dL_point_26 rfl hPic hout (fun _ => rfl) hTl
set_option maxHeartbeats 4000000 in
set_option maxRecDepth 100000 in
theorem w_point1 (l : Launch) (hl9 : l.stackTraces = false) (D : va_G) (g : Nat → ClassId) (z0 : Nat) (ad : Nat → Nat) (z : bSt) (rl : Nat → Nat → Bool) (ff : Nat → Nat → Int) (hz : bOK z) (hj : bInj ad) (ao : Nat) (v0 : Int) (hao : ∀ q, q < 98 → ao ≠ ad q) (d pl le mo : Int) (h_d : -2147483648 ≤ d ∧ d < 2147483648) (hbad : ¬ (0 ≤ d ∧ d ≤ (bN z : Int) - 1)) : Met l yL_point wsL_point ({ frames := 8, cells := 1, slots := 6, locals := 136 }) (lPc z0 [.ref (ad 0), .int (jI (d)), .int (jI (pl)), .int (jI (le)), .int (jI (mo)), .ref ao] D g ad ao z rl ff v0) (lQ D g ad ao z 1 0) 1 6 (lFr ad ao) := by
  refine j_ofWH (cc := cL_point) (maxL := 7) (ret := some .int) (hh := [(0, 14, 17, 13), (0, 14, 21, 15)]) (by decide) rfl ?_
  intro p e s m args below meth c s₁ B hml hv
  obtain ⟨⟨rfl, ⟨hPic, hout⟩, hK⟩, hxT⟩ := hv
  have hx := B.exec
  have hb := B.bytes
  have hr := B.returns
  have hts := atoms_spec (ws := wsL_point) B.pre
  have hown : s.vm.findClass RL = some m.cls := findClass_of_methodNamed B.named
  have hlocks := B.notSynchronized
  have htab : c.exceptionTable.toList = tableOf [(0, 14, 17, 13), (0, 14, 21, 15)] := vx_table (x := yL_point) (y := yL_point) (bytes := cL_point) (maxL' := 7) (ret' := some .int) B (hts wL_point (List.mem_cons_self (a := wL_point) (l := gAll)))
  have hx0 : va_at D vwCl (ad 0, .inr (3, [.ref (ad 1), .int (jI (bN z : Int)), .int (jI (bV z))])) s.heap := hPic 0 (by omega)
  have hl := lv_entry ([.ref (ad 0), .int (jI (d)), .int (jI (pl)), .int (jI (le)), .int (jI (mo)), .ref ao]) (n := 7) (Nat.le_of_ble_eq_true rfl)
  rw [lg_entry_eq]
  generalize (lg_sl ([.ref (ad 0), .int (jI (d)), .int (jI (pl)), .int (jI (le)), .int (jI (mo)), .ref ao]) ++ List.replicate (7 - (lg_sl ([.ref (ad 0), .int (jI (d)), .int (jI (pl)), .int (jI (le)), .int (jI (mo)), .ref ao])).length) Slot.unset).toArray = ls at hl ⊢
  have hl : lv_has ls 7 [(0, .ref (ad 0)), (1, .int (jI (d))), (2, .int (jI (pl))), (3, .int (jI (le))), (4, .int (jI (mo))), (5, .ref ao)] := hl
  refine lv_aload hx hb dL_point_0 (lv_at hl 5 rfl) ?_
  refine jv_iconst hx hb dL_point_2 ?_
  refine lv_aload_n hx hb dL_point_3 rfl (lv_at hl 0 rfl) ?_
  refine lv_iload_n hx hb dL_point_4 rfl (lv_at hl 1 rfl) ?_
  refine lv_iload_n hx hb dL_point_5 rfl (lv_at hl 2 rfl) ?_
  refine lv_iload_n hx hb dL_point_6 rfl (lv_at hl 3 rfl) ?_
  refine lv_iload hx hb dL_point_7 (lv_at hl 4 rfl) ?_
  refine px_catch (vx_runV (As := [.int (jI (d)), .int (jI (pl)), .int (jI (le)), .int (jI (mo))]) (rest := [.int (jI (0)), .ref ao]) ⟨hx, hb, hml, hown, hts⟩ (x_point1 l hl9 D g z0 ad z rl ff hz d pl le mo h_d hbad) (cwV 4 hts (gd_V kw_230 kw_231 kw_232 kw_12 kcX3_point) rfl rfl rfl (by decide +kernel) ⟨Nat.le_of_ble_eq_true rfl, Nat.le_of_ble_eq_true rfl⟩) (px_preV hPic hK hxT rfl hx0) rfl rfl hl.1 rfl (lv_room (Nat.le_of_ble_eq_true rfl)) dL_point_9 ⟨Nat.le_of_ble_eq_true rfl, Nat.le_of_ble_eq_true rfl⟩) (fun ce q9 H g1 g2 g3 g4 g5 => ?_)
  have hout := hout.kept (g5 ao hout.lt)
  have hPic := bW_kept hPic (fun q hq => g5 _ (bW_lt hPic hq))
  have hTl : lTo ad ao s.heap H [] := ⟨g4, fun q h1 _ => g5 q h1, fun _ h => nomatch h⟩
  refine vx_catch (name := eIAE) hown [] ⟨0, 14, 17, 13⟩ [⟨0, 14, 21, 15⟩] (htab.trans rfl) (fun z9 h9 => nomatch h9) rfl (by decide) (hts _ (List.mem_cons_of_mem _ kw_134)) (hxT.2.1.1.use rfl) g1 g2 g3 ?_
  refine W.eq (g2 := F0 m 17 ls [.ref q9]) rfl ?_
  refine lv_astore (lv' := [(6, .ref q9), (0, .ref (ad 0)), (1, .int (jI (d))), (2, .int (jI (pl))), (3, .int (jI (le))), (4, .int (jI (mo))), (5, .ref ao)]) hx hb dL_point_17 hl (by decide) rfl (fun ls hl => ?_)
  refine jv_iconst hx hb dL_point_19 ?_
  exact l_iret hx hb hr hlocks dL_point_20 rfl hPic hout (fun h9 => absurd h9 (by decide)) hTl
set_option maxHeartbeats 4000000 in
set_option maxRecDepth 100000 in
theorem w_point2 (l : Launch) (hl9 : l.stackTraces = false) (D : va_G) (g : Nat → ClassId) (z0 : Nat) (ad : Nat → Nat) (z : bSt) (rl : Nat → Nat → Bool) (ff : Nat → Nat → Int) (hz : bOK z) (hj : bInj ad) (ao : Nat) (v0 : Int) (hao : ∀ q, q < 98 → ao ≠ ad q) (d : Nat) (pl le mo : Int) (hd : d < bN z) (h_pl : -2147483648 ≤ pl ∧ pl < 2147483648) (h_le : -2147483648 ≤ le ∧ le < 2147483648) (h_mo : -2147483648 ≤ mo ∧ mo < 2147483648) (hbad : ¬ ((1 ≤ pl ∧ pl ≤ 5000) ∧ (0 ≤ mo ∧ mo ≤ 100000) ∧ (0 ≤ le ∧ le ≤ mo))) : Met l yL_point wsL_point ({ frames := 8, cells := 1, slots := 6, locals := 137 }) (lPc z0 [.ref (ad 0), .int (jI ((d : Int))), .int (jI (pl)), .int (jI (le)), .int (jI (mo)), .ref ao] D g ad ao z rl ff v0) (lQ D g ad ao z 1 0) 1 6 (lFr ad ao) := by
  refine j_ofWH (cc := cL_point) (maxL := 7) (ret := some .int) (hh := [(0, 14, 17, 13), (0, 14, 21, 15)]) (by decide) rfl ?_
  intro p e s m args below meth c s₁ B hml hv
  obtain ⟨⟨rfl, ⟨hPic, hout⟩, hK⟩, hxT⟩ := hv
  have hx := B.exec
  have hb := B.bytes
  have hr := B.returns
  have hts := atoms_spec (ws := wsL_point) B.pre
  have hown : s.vm.findClass RL = some m.cls := findClass_of_methodNamed B.named
  have hlocks := B.notSynchronized
  have htab : c.exceptionTable.toList = tableOf [(0, 14, 17, 13), (0, 14, 21, 15)] := vx_table (x := yL_point) (y := yL_point) (bytes := cL_point) (maxL' := 7) (ret' := some .int) B (hts wL_point (List.mem_cons_self (a := wL_point) (l := gAll)))
  have hx0 : va_at D vwCl (ad 0, .inr (3, [.ref (ad 1), .int (jI (bN z : Int)), .int (jI (bV z))])) s.heap := hPic 0 (by omega)
  have hl := lv_entry ([.ref (ad 0), .int (jI ((d : Int))), .int (jI (pl)), .int (jI (le)), .int (jI (mo)), .ref ao]) (n := 7) (Nat.le_of_ble_eq_true rfl)
  rw [lg_entry_eq]
  generalize (lg_sl ([.ref (ad 0), .int (jI ((d : Int))), .int (jI (pl)), .int (jI (le)), .int (jI (mo)), .ref ao]) ++ List.replicate (7 - (lg_sl ([.ref (ad 0), .int (jI ((d : Int))), .int (jI (pl)), .int (jI (le)), .int (jI (mo)), .ref ao])).length) Slot.unset).toArray = ls at hl ⊢
  have hl : lv_has ls 7 [(0, .ref (ad 0)), (1, .int (jI ((d : Int)))), (2, .int (jI (pl))), (3, .int (jI (le))), (4, .int (jI (mo))), (5, .ref ao)] := hl
  refine lv_aload hx hb dL_point_0 (lv_at hl 5 rfl) ?_
  refine jv_iconst hx hb dL_point_2 ?_
  refine lv_aload_n hx hb dL_point_3 rfl (lv_at hl 0 rfl) ?_
  refine lv_iload_n hx hb dL_point_4 rfl (lv_at hl 1 rfl) ?_
  refine lv_iload_n hx hb dL_point_5 rfl (lv_at hl 2 rfl) ?_
  refine lv_iload_n hx hb dL_point_6 rfl (lv_at hl 3 rfl) ?_
  refine lv_iload hx hb dL_point_7 (lv_at hl 4 rfl) ?_
  refine px_catch (vx_runV (As := [.int (jI ((d : Int))), .int (jI (pl)), .int (jI (le)), .int (jI (mo))]) (rest := [.int (jI (0)), .ref ao]) ⟨hx, hb, hml, hown, hts⟩ (x_point2 l hl9 D g z0 ad z rl ff hz d pl le mo hd h_pl h_le h_mo hbad) (cwV 4 hts (gd_V kw_230 kw_231 kw_232 kw_12 kcX3_point) rfl rfl rfl (by decide +kernel) ⟨Nat.le_of_ble_eq_true rfl, Nat.le_of_ble_eq_true rfl⟩) (px_preV hPic hK hxT rfl hx0) rfl rfl hl.1 rfl (lv_room (Nat.le_of_ble_eq_true rfl)) dL_point_9 ⟨Nat.le_of_ble_eq_true rfl, Nat.le_of_ble_eq_true rfl⟩) (fun ce q9 H g1 g2 g3 g4 g5 => ?_)
  have hout := hout.kept (g5 ao hout.lt)
  have hPic := bW_kept hPic (fun q hq => g5 _ (bW_lt hPic hq))
  have hTl : lTo ad ao s.heap H [] := ⟨g4, fun q h1 _ => g5 q h1, fun _ h => nomatch h⟩
  refine vx_catch (name := eIAE) hown [] ⟨0, 14, 17, 13⟩ [⟨0, 14, 21, 15⟩] (htab.trans rfl) (fun z9 h9 => nomatch h9) rfl (by decide) (hts _ (List.mem_cons_of_mem _ kw_134)) (hxT.2.1.1.use rfl) g1 g2 g3 ?_
  refine W.eq (g2 := F0 m 17 ls [.ref q9]) rfl ?_
  refine lv_astore (lv' := [(6, .ref q9), (0, .ref (ad 0)), (1, .int (jI ((d : Int)))), (2, .int (jI (pl))), (3, .int (jI (le))), (4, .int (jI (mo))), (5, .ref ao)]) hx hb dL_point_17 hl (by decide) rfl (fun ls hl => ?_)
  refine jv_iconst hx hb dL_point_19 ?_
  exact l_iret hx hb hr hlocks dL_point_20 rfl hPic hout (fun h9 => absurd h9 (by decide)) hTl
set_option maxHeartbeats 4000000 in
set_option maxRecDepth 100000 in
theorem w_point3 (l : Launch) (hl9 : l.stackTraces = false) (D : va_G) (g : Nat → ClassId) (z0 : Nat) (ad : Nat → Nat) (z : bSt) (rl : Nat → Nat → Bool) (ff : Nat → Nat → Int) (hz : bOK z) (hj : bInj ad) (ao : Nat) (v0 : Int) (hao : ∀ q, q < 98 → ao ≠ ad q) (d k : Nat) (pl le mo : Int) (hd : d < bN z) (hk : bK z d = k) (hpl : 1 ≤ pl ∧ pl ≤ 5000) (hle : 0 ≤ le ∧ le ≤ mo) (hmo : mo ≤ 100000) (h2 : k = 6 ∨ (0 < k ∧ pl ≤ bP z d (k - 1))) : Met l yL_point wsL_point ({ frames := 7, cells := 1, slots := 6, locals := 115 }) (lPc z0 [.ref (ad 0), .int (jI ((d : Int))), .int (jI (pl)), .int (jI (le)), .int (jI (mo)), .ref ao] D g ad ao z rl ff v0) (lQ D g ad ao z 2 0) 1 6 (lFr ad ao) := by
  refine j_ofWH (cc := cL_point) (maxL := 7) (ret := some .int) (hh := [(0, 14, 17, 13), (0, 14, 21, 15)]) (by decide) rfl ?_
  intro p e s m args below meth c s₁ B hml hv
  obtain ⟨⟨rfl, ⟨hPic, hout⟩, hK⟩, hxT⟩ := hv
  have hx := B.exec
  have hb := B.bytes
  have hr := B.returns
  have hts := atoms_spec (ws := wsL_point) B.pre
  have hown : s.vm.findClass RL = some m.cls := findClass_of_methodNamed B.named
  have hlocks := B.notSynchronized
  have htab : c.exceptionTable.toList = tableOf [(0, 14, 17, 13), (0, 14, 21, 15)] := vx_table (x := yL_point) (y := yL_point) (bytes := cL_point) (maxL' := 7) (ret' := some .int) B (hts wL_point (List.mem_cons_self (a := wL_point) (l := gAll)))
  have hx0 : va_at D vwCl (ad 0, .inr (3, [.ref (ad 1), .int (jI (bN z : Int)), .int (jI (bV z))])) s.heap := hPic 0 (by omega)
  have hl := lv_entry ([.ref (ad 0), .int (jI ((d : Int))), .int (jI (pl)), .int (jI (le)), .int (jI (mo)), .ref ao]) (n := 7) (Nat.le_of_ble_eq_true rfl)
  rw [lg_entry_eq]
  generalize (lg_sl ([.ref (ad 0), .int (jI ((d : Int))), .int (jI (pl)), .int (jI (le)), .int (jI (mo)), .ref ao]) ++ List.replicate (7 - (lg_sl ([.ref (ad 0), .int (jI ((d : Int))), .int (jI (pl)), .int (jI (le)), .int (jI (mo)), .ref ao])).length) Slot.unset).toArray = ls at hl ⊢
  have hl : lv_has ls 7 [(0, .ref (ad 0)), (1, .int (jI ((d : Int)))), (2, .int (jI (pl))), (3, .int (jI (le))), (4, .int (jI (mo))), (5, .ref ao)] := hl
  refine lv_aload hx hb dL_point_0 (lv_at hl 5 rfl) ?_
  refine jv_iconst hx hb dL_point_2 ?_
  refine lv_aload_n hx hb dL_point_3 rfl (lv_at hl 0 rfl) ?_
  refine lv_iload_n hx hb dL_point_4 rfl (lv_at hl 1 rfl) ?_
  refine lv_iload_n hx hb dL_point_5 rfl (lv_at hl 2 rfl) ?_
  refine lv_iload_n hx hb dL_point_6 rfl (lv_at hl 3 rfl) ?_
  refine lv_iload hx hb dL_point_7 (lv_at hl 4 rfl) ?_
  refine px_catch (vx_runV (As := [.int (jI ((d : Int))), .int (jI (pl)), .int (jI (le)), .int (jI (mo))]) (rest := [.int (jI (0)), .ref ao]) ⟨hx, hb, hml, hown, hts⟩ (x_point3 l hl9 D g z0 ad z rl ff hz d k pl le mo hd hk hpl hle hmo h2) (cwV 4 hts (gd_V kw_230 kw_231 kw_232 kw_12 kcX3_point) rfl rfl rfl (by decide +kernel) ⟨Nat.le_of_ble_eq_true rfl, Nat.le_of_ble_eq_true rfl⟩) (px_preV hPic hK hxT rfl hx0) rfl rfl hl.1 rfl (lv_room (Nat.le_of_ble_eq_true rfl)) dL_point_9 ⟨Nat.le_of_ble_eq_true rfl, Nat.le_of_ble_eq_true rfl⟩) (fun ce q9 H g1 g2 g3 g4 g5 => ?_)
  have hout := hout.kept (g5 ao hout.lt)
  have hPic := bW_kept hPic (fun q hq => g5 _ (bW_lt hPic hq))
  have hTl : lTo ad ao s.heap H [] := ⟨g4, fun q h1 _ => g5 q h1, fun _ h => nomatch h⟩
  refine vx_catch (name := eISE) hown [⟨0, 14, 17, 13⟩] ⟨0, 14, 21, 15⟩ [] (htab.trans rfl) (fun z9 h9 => by rw [List.mem_singleton.mp h9]; exact Or.inr ⟨by decide, eIAE, (hts _ (List.mem_cons_of_mem _ kw_134)), hxT.2.2.2⟩) rfl (by decide) (hts _ (List.mem_cons_of_mem _ kw_135)) (hxT.2.1.2.1.use rfl) g1 g2 g3 ?_
  refine W.eq (g2 := F0 m 21 ls [.ref q9]) rfl ?_
  refine lv_astore (lv' := [(6, .ref q9), (0, .ref (ad 0)), (1, .int (jI ((d : Int)))), (2, .int (jI (pl))), (3, .int (jI (le))), (4, .int (jI (mo))), (5, .ref ao)]) hx hb dL_point_21 hl (by decide) rfl (fun ls hl => ?_)
  refine jv_iconst hx hb dL_point_23 ?_
  exact l_iret hx hb hr hlocks dL_point_24 rfl hPic hout (fun h9 => absurd h9 (by decide)) hTl
set_option maxHeartbeats 4000000 in
set_option maxRecDepth 100000 in
theorem w_option0 (l : Launch) (hl9 : l.stackTraces = false) (D : va_G) (g : Nat → ClassId) (z0 : Nat) (ad : Nat → Nat) (z : bSt) (rl : Nat → Nat → Bool) (ff : Nat → Nat → Int) (hz : bOK z) (hj : bInj ad) (ao : Nat) (v0 : Int) (hao : ∀ q, q < 98 → ao ≠ ad q) (d o : Nat) (sc de : Int) (hd : d < bN z) (ho : bO z d = o) (ho4 : o < 4) (hsc : 10 ≤ sc ∧ sc ≤ 1000) (hde : 0 ≤ de ∧ de ≤ 10000) : Met l yL_option wsL_option ({ frames := 2, cells := 1, slots := 6, locals := 47 }) (lPc z0 [.ref (ad 0), .int (jI ((d : Int))), .int (jI (sc)), .int (jI (de)), .ref ao] D g ad ao z rl ff v0) (lQ D g ad ao (zO (zD (zS z d o sc) d o de) d (o + 1)) 0 (o : Int)) 1 6 (lFr ad ao) := by
  refine j_ofWH (cc := cL_option) (maxL := 6) (ret := some .int) (hh := [(0, 12, 15, 13), (0, 12, 19, 15)]) (by decide) rfl ?_
  intro p e s m args below meth c s₁ B hml hv
  obtain ⟨⟨rfl, ⟨hPic, hout⟩, hK⟩, hxT⟩ := hv
  have hx := B.exec
  have hb := B.bytes
  have hr := B.returns
  have hts := atoms_spec (ws := wsL_option) B.pre
  have hown : s.vm.findClass RL = some m.cls := findClass_of_methodNamed B.named
  have hlocks := B.notSynchronized
  have htab : c.exceptionTable.toList = tableOf [(0, 12, 15, 13), (0, 12, 19, 15)] := vx_table (x := yL_option) (y := yL_option) (bytes := cL_option) (maxL' := 6) (ret' := some .int) B (hts wL_option (List.mem_cons_self (a := wL_option) (l := gAll)))
  have hx0 : va_at D vwCl (ad 0, .inr (3, [.ref (ad 1), .int (jI (bN z : Int)), .int (jI (bV z))])) s.heap := hPic 0 (by omega)
  have hl := lv_entry ([.ref (ad 0), .int (jI ((d : Int))), .int (jI (sc)), .int (jI (de)), .ref ao]) (n := 6) (Nat.le_of_ble_eq_true rfl)
  rw [lg_entry_eq]
  generalize (lg_sl ([.ref (ad 0), .int (jI ((d : Int))), .int (jI (sc)), .int (jI (de)), .ref ao]) ++ List.replicate (6 - (lg_sl ([.ref (ad 0), .int (jI ((d : Int))), .int (jI (sc)), .int (jI (de)), .ref ao])).length) Slot.unset).toArray = ls at hl ⊢
  have hl : lv_has ls 6 [(0, .ref (ad 0)), (1, .int (jI ((d : Int)))), (2, .int (jI (sc))), (3, .int (jI (de))), (4, .ref ao)] := hl
  refine W.widen (Nat.zero_le 1) (Nat.zero_le 6) ?_
  refine lv_aload hx hb dL_option_0 (lv_at hl 4 rfl) ?_
  refine jv_iconst hx hb dL_option_2 ?_
  refine lv_aload_n hx hb dL_option_3 rfl (lv_at hl 0 rfl) ?_
  refine lv_iload_n hx hb dL_option_4 rfl (lv_at hl 1 rfl) ?_
  refine lv_iload_n hx hb dL_option_5 rfl (lv_at hl 2 rfl) ?_
  refine lv_iload_n hx hb dL_option_6 rfl (lv_at hl 3 rfl) ?_
  refine b_call (va_runV (As := [.int (jI ((d : Int))), .int (jI (sc)), .int (jI (de))]) (rest := [.int (jI (0)), .ref ao]) ⟨hx, hb, hml, hown, hts⟩ (c_option l D g ad z rl ff hz hj d o sc de hd ho ho4 hsc hde) (cwV 3 hts (gd_V kw_248 kw_249 kw_250 kw_12 kcX3_option) rfl rfl rfl (by decide +kernel) ⟨Nat.le_of_ble_eq_true rfl, Nat.le_of_ble_eq_true rfl⟩) (pu_preV hPic hK rfl hx0) rfl rfl hl.1 rfl (lv_room (Nat.le_of_ble_eq_true rfl)) dL_option_7 ⟨Nat.le_of_ble_eq_true rfl, Nat.le_of_ble_eq_true rfl⟩) bTo.rf (fun H locs rl9 ff9 hPh hPic hT9 => ?_)
  have hout := hout.kept (hT9.2.1 ao (fun h9 => by obtain ⟨r9, h1, h2⟩ := h9; exact hao r9 h1 h2))
  have hTl : lTo ad ao s.heap H locs := lTo.of hT9
  refine W.eq (g2 := F0 m 10 ls [.int (jI ((o : Int))), .int (jI (0)), .ref ao]) rfl ?_
  rw [← jI_cn ((o : Int))]
  refine jv_i2l hx hb dL_option_10 (cn_rng _) ?_
  refine jv_last (i := 0) (gg := fun _ => v0) hx hb hK hout 4 rfl rfl (by decide) (by decide) dL_option_11 (fun H f9 hn9 hz9 oq9 => ?_)
  have hout : va_at D vwCl (ao, oC g (cn ((o : Int)))) H := va_lcongr (fun j hj => by rw [show j = 0 by omega, jUp_s]) hn9
  have hPic := bW_kept hPic (fun q hq => oq9 _ (fun e9 => hao q hq e9.symm))
  have hTl := hTl.put hz9 oq9 (f := f9)
  refine lv_goto (tgt := 23) hx hb dL_option_12 (by decide) ?_
  refine jv_iconst hx hb dL_option_23 ?_
  exact l_iret hx hb hr hlocks dL_option_24 rfl hPic hout (fun _ => rfl) hTl
set_option maxHeartbeats 4000000 in
set_option maxRecDepth 100000 in
theorem w_option1 (l : Launch) (hl9 : l.stackTraces = false) (D : va_G) (g : Nat → ClassId) (z0 : Nat) (ad : Nat → Nat) (z : bSt) (rl : Nat → Nat → Bool) (ff : Nat → Nat → Int) (hz : bOK z) (hj : bInj ad) (ao : Nat) (v0 : Int) (hao : ∀ q, q < 98 → ao ≠ ad q) (d sc de : Int) (h_d : -2147483648 ≤ d ∧ d < 2147483648) (hbad : ¬ (0 ≤ d ∧ d ≤ (bN z : Int) - 1)) : Met l yL_option wsL_option ({ frames := 8, cells := 1, slots := 6, locals := 136 }) (lPc z0 [.ref (ad 0), .int (jI (d)), .int (jI (sc)), .int (jI (de)), .ref ao] D g ad ao z rl ff v0) (lQ D g ad ao z 1 0) 1 6 (lFr ad ao) := by
  refine j_ofWH (cc := cL_option) (maxL := 6) (ret := some .int) (hh := [(0, 12, 15, 13), (0, 12, 19, 15)]) (by decide) rfl ?_
  intro p e s m args below meth c s₁ B hml hv
  obtain ⟨⟨rfl, ⟨hPic, hout⟩, hK⟩, hxT⟩ := hv
  have hx := B.exec
  have hb := B.bytes
  have hr := B.returns
  have hts := atoms_spec (ws := wsL_option) B.pre
  have hown : s.vm.findClass RL = some m.cls := findClass_of_methodNamed B.named
  have hlocks := B.notSynchronized
  have htab : c.exceptionTable.toList = tableOf [(0, 12, 15, 13), (0, 12, 19, 15)] := vx_table (x := yL_option) (y := yL_option) (bytes := cL_option) (maxL' := 6) (ret' := some .int) B (hts wL_option (List.mem_cons_self (a := wL_option) (l := gAll)))
  have hx0 : va_at D vwCl (ad 0, .inr (3, [.ref (ad 1), .int (jI (bN z : Int)), .int (jI (bV z))])) s.heap := hPic 0 (by omega)
  have hl := lv_entry ([.ref (ad 0), .int (jI (d)), .int (jI (sc)), .int (jI (de)), .ref ao]) (n := 6) (Nat.le_of_ble_eq_true rfl)
  rw [lg_entry_eq]
  generalize (lg_sl ([.ref (ad 0), .int (jI (d)), .int (jI (sc)), .int (jI (de)), .ref ao]) ++ List.replicate (6 - (lg_sl ([.ref (ad 0), .int (jI (d)), .int (jI (sc)), .int (jI (de)), .ref ao])).length) Slot.unset).toArray = ls at hl ⊢
  have hl : lv_has ls 6 [(0, .ref (ad 0)), (1, .int (jI (d))), (2, .int (jI (sc))), (3, .int (jI (de))), (4, .ref ao)] := hl
  refine lv_aload hx hb dL_option_0 (lv_at hl 4 rfl) ?_
  refine jv_iconst hx hb dL_option_2 ?_
  refine lv_aload_n hx hb dL_option_3 rfl (lv_at hl 0 rfl) ?_
  refine lv_iload_n hx hb dL_option_4 rfl (lv_at hl 1 rfl) ?_
  refine lv_iload_n hx hb dL_option_5 rfl (lv_at hl 2 rfl) ?_
  refine lv_iload_n hx hb dL_option_6 rfl (lv_at hl 3 rfl) ?_
  refine px_catch (vx_runV (As := [.int (jI (d)), .int (jI (sc)), .int (jI (de))]) (rest := [.int (jI (0)), .ref ao]) ⟨hx, hb, hml, hown, hts⟩ (x_option1 l hl9 D g z0 ad z rl ff hz d sc de h_d hbad) (cwV 3 hts (gd_V kw_248 kw_249 kw_250 kw_12 kcX3_option) rfl rfl rfl (by decide +kernel) ⟨Nat.le_of_ble_eq_true rfl, Nat.le_of_ble_eq_true rfl⟩) (px_preV hPic hK hxT rfl hx0) rfl rfl hl.1 rfl (lv_room (Nat.le_of_ble_eq_true rfl)) dL_option_7 ⟨Nat.le_of_ble_eq_true rfl, Nat.le_of_ble_eq_true rfl⟩) (fun ce q9 H g1 g2 g3 g4 g5 => ?_)
  have hout := hout.kept (g5 ao hout.lt)
  have hPic := bW_kept hPic (fun q hq => g5 _ (bW_lt hPic hq))
  have hTl : lTo ad ao s.heap H [] := ⟨g4, fun q h1 _ => g5 q h1, fun _ h => nomatch h⟩
  refine vx_catch (name := eIAE) hown [] ⟨0, 12, 15, 13⟩ [⟨0, 12, 19, 15⟩] (htab.trans rfl) (fun z9 h9 => nomatch h9) rfl (by decide) (hts _ (List.mem_cons_of_mem _ kw_134)) (hxT.2.1.1.use rfl) g1 g2 g3 ?_
  refine W.eq (g2 := F0 m 15 ls [.ref q9]) rfl ?_
  refine lv_astore (lv' := [(5, .ref q9), (0, .ref (ad 0)), (1, .int (jI (d))), (2, .int (jI (sc))), (3, .int (jI (de))), (4, .ref ao)]) hx hb dL_option_15 hl (by decide) rfl (fun ls hl => ?_)
  refine jv_iconst hx hb dL_option_17 ?_
  exact l_iret hx hb hr hlocks dL_option_18 rfl hPic hout (fun h9 => absurd h9 (by decide)) hTl
set_option maxHeartbeats 4000000 in
set_option maxRecDepth 100000 in
theorem w_option2 (l : Launch) (hl9 : l.stackTraces = false) (D : va_G) (g : Nat → ClassId) (z0 : Nat) (ad : Nat → Nat) (z : bSt) (rl : Nat → Nat → Bool) (ff : Nat → Nat → Int) (hz : bOK z) (hj : bInj ad) (ao : Nat) (v0 : Int) (hao : ∀ q, q < 98 → ao ≠ ad q) (d : Nat) (sc de : Int) (hd : d < bN z) (h_sc : -2147483648 ≤ sc ∧ sc < 2147483648) (h_de : -2147483648 ≤ de ∧ de < 2147483648) (hbad : ¬ ((10 ≤ sc ∧ sc ≤ 1000) ∧ (0 ≤ de ∧ de ≤ 10000))) : Met l yL_option wsL_option ({ frames := 8, cells := 1, slots := 6, locals := 137 }) (lPc z0 [.ref (ad 0), .int (jI ((d : Int))), .int (jI (sc)), .int (jI (de)), .ref ao] D g ad ao z rl ff v0) (lQ D g ad ao z 1 0) 1 6 (lFr ad ao) := by
  refine j_ofWH (cc := cL_option) (maxL := 6) (ret := some .int) (hh := [(0, 12, 15, 13), (0, 12, 19, 15)]) (by decide) rfl ?_
  intro p e s m args below meth c s₁ B hml hv
  obtain ⟨⟨rfl, ⟨hPic, hout⟩, hK⟩, hxT⟩ := hv
  have hx := B.exec
  have hb := B.bytes
  have hr := B.returns
  have hts := atoms_spec (ws := wsL_option) B.pre
  have hown : s.vm.findClass RL = some m.cls := findClass_of_methodNamed B.named
  have hlocks := B.notSynchronized
  have htab : c.exceptionTable.toList = tableOf [(0, 12, 15, 13), (0, 12, 19, 15)] := vx_table (x := yL_option) (y := yL_option) (bytes := cL_option) (maxL' := 6) (ret' := some .int) B (hts wL_option (List.mem_cons_self (a := wL_option) (l := gAll)))
  have hx0 : va_at D vwCl (ad 0, .inr (3, [.ref (ad 1), .int (jI (bN z : Int)), .int (jI (bV z))])) s.heap := hPic 0 (by omega)
  have hl := lv_entry ([.ref (ad 0), .int (jI ((d : Int))), .int (jI (sc)), .int (jI (de)), .ref ao]) (n := 6) (Nat.le_of_ble_eq_true rfl)
  rw [lg_entry_eq]
  generalize (lg_sl ([.ref (ad 0), .int (jI ((d : Int))), .int (jI (sc)), .int (jI (de)), .ref ao]) ++ List.replicate (6 - (lg_sl ([.ref (ad 0), .int (jI ((d : Int))), .int (jI (sc)), .int (jI (de)), .ref ao])).length) Slot.unset).toArray = ls at hl ⊢
  have hl : lv_has ls 6 [(0, .ref (ad 0)), (1, .int (jI ((d : Int)))), (2, .int (jI (sc))), (3, .int (jI (de))), (4, .ref ao)] := hl
  refine lv_aload hx hb dL_option_0 (lv_at hl 4 rfl) ?_
  refine jv_iconst hx hb dL_option_2 ?_
  refine lv_aload_n hx hb dL_option_3 rfl (lv_at hl 0 rfl) ?_
  refine lv_iload_n hx hb dL_option_4 rfl (lv_at hl 1 rfl) ?_
  refine lv_iload_n hx hb dL_option_5 rfl (lv_at hl 2 rfl) ?_
  refine lv_iload_n hx hb dL_option_6 rfl (lv_at hl 3 rfl) ?_
  refine px_catch (vx_runV (As := [.int (jI ((d : Int))), .int (jI (sc)), .int (jI (de))]) (rest := [.int (jI (0)), .ref ao]) ⟨hx, hb, hml, hown, hts⟩ (x_option2 l hl9 D g z0 ad z rl ff hz d sc de hd h_sc h_de hbad) (cwV 3 hts (gd_V kw_248 kw_249 kw_250 kw_12 kcX3_option) rfl rfl rfl (by decide +kernel) ⟨Nat.le_of_ble_eq_true rfl, Nat.le_of_ble_eq_true rfl⟩) (px_preV hPic hK hxT rfl hx0) rfl rfl hl.1 rfl (lv_room (Nat.le_of_ble_eq_true rfl)) dL_option_7 ⟨Nat.le_of_ble_eq_true rfl, Nat.le_of_ble_eq_true rfl⟩) (fun ce q9 H g1 g2 g3 g4 g5 => ?_)
  have hout := hout.kept (g5 ao hout.lt)
  have hPic := bW_kept hPic (fun q hq => g5 _ (bW_lt hPic hq))
  have hTl : lTo ad ao s.heap H [] := ⟨g4, fun q h1 _ => g5 q h1, fun _ h => nomatch h⟩
  refine vx_catch (name := eIAE) hown [] ⟨0, 12, 15, 13⟩ [⟨0, 12, 19, 15⟩] (htab.trans rfl) (fun z9 h9 => nomatch h9) rfl (by decide) (hts _ (List.mem_cons_of_mem _ kw_134)) (hxT.2.1.1.use rfl) g1 g2 g3 ?_
  refine W.eq (g2 := F0 m 15 ls [.ref q9]) rfl ?_
  refine lv_astore (lv' := [(5, .ref q9), (0, .ref (ad 0)), (1, .int (jI ((d : Int)))), (2, .int (jI (sc))), (3, .int (jI (de))), (4, .ref ao)]) hx hb dL_option_15 hl (by decide) rfl (fun ls hl => ?_)
  refine jv_iconst hx hb dL_option_17 ?_
  exact l_iret hx hb hr hlocks dL_option_18 rfl hPic hout (fun h9 => absurd h9 (by decide)) hTl
set_option maxHeartbeats 4000000 in
set_option maxRecDepth 100000 in
theorem w_option3 (l : Launch) (hl9 : l.stackTraces = false) (D : va_G) (g : Nat → ClassId) (z0 : Nat) (ad : Nat → Nat) (z : bSt) (rl : Nat → Nat → Bool) (ff : Nat → Nat → Int) (hz : bOK z) (hj : bInj ad) (ao : Nat) (v0 : Int) (hao : ∀ q, q < 98 → ao ≠ ad q) (d : Nat) (sc de : Int) (hd : d < bN z) (ho : bO z d = 4) (hsc : 10 ≤ sc ∧ sc ≤ 1000) (hde : 0 ≤ de ∧ de ≤ 10000) : Met l yL_option wsL_option ({ frames := 7, cells := 1, slots := 6, locals := 115 }) (lPc z0 [.ref (ad 0), .int (jI ((d : Int))), .int (jI (sc)), .int (jI (de)), .ref ao] D g ad ao z rl ff v0) (lQ D g ad ao z 2 0) 1 6 (lFr ad ao) := by
  refine j_ofWH (cc := cL_option) (maxL := 6) (ret := some .int) (hh := [(0, 12, 15, 13), (0, 12, 19, 15)]) (by decide) rfl ?_
  intro p e s m args below meth c s₁ B hml hv
  obtain ⟨⟨rfl, ⟨hPic, hout⟩, hK⟩, hxT⟩ := hv
  have hx := B.exec
  have hb := B.bytes
  have hr := B.returns
  have hts := atoms_spec (ws := wsL_option) B.pre
  have hown : s.vm.findClass RL = some m.cls := findClass_of_methodNamed B.named
  have hlocks := B.notSynchronized
  have htab : c.exceptionTable.toList = tableOf [(0, 12, 15, 13), (0, 12, 19, 15)] := vx_table (x := yL_option) (y := yL_option) (bytes := cL_option) (maxL' := 6) (ret' := some .int) B (hts wL_option (List.mem_cons_self (a := wL_option) (l := gAll)))
  have hx0 : va_at D vwCl (ad 0, .inr (3, [.ref (ad 1), .int (jI (bN z : Int)), .int (jI (bV z))])) s.heap := hPic 0 (by omega)
  have hl := lv_entry ([.ref (ad 0), .int (jI ((d : Int))), .int (jI (sc)), .int (jI (de)), .ref ao]) (n := 6) (Nat.le_of_ble_eq_true rfl)
  rw [lg_entry_eq]
  generalize (lg_sl ([.ref (ad 0), .int (jI ((d : Int))), .int (jI (sc)), .int (jI (de)), .ref ao]) ++ List.replicate (6 - (lg_sl ([.ref (ad 0), .int (jI ((d : Int))), .int (jI (sc)), .int (jI (de)), .ref ao])).length) Slot.unset).toArray = ls at hl ⊢
  have hl : lv_has ls 6 [(0, .ref (ad 0)), (1, .int (jI ((d : Int)))), (2, .int (jI (sc))), (3, .int (jI (de))), (4, .ref ao)] := hl
  refine lv_aload hx hb dL_option_0 (lv_at hl 4 rfl) ?_
  refine jv_iconst hx hb dL_option_2 ?_
  refine lv_aload_n hx hb dL_option_3 rfl (lv_at hl 0 rfl) ?_
  refine lv_iload_n hx hb dL_option_4 rfl (lv_at hl 1 rfl) ?_
  refine lv_iload_n hx hb dL_option_5 rfl (lv_at hl 2 rfl) ?_
  refine lv_iload_n hx hb dL_option_6 rfl (lv_at hl 3 rfl) ?_
  refine px_catch (vx_runV (As := [.int (jI ((d : Int))), .int (jI (sc)), .int (jI (de))]) (rest := [.int (jI (0)), .ref ao]) ⟨hx, hb, hml, hown, hts⟩ (x_option3 l hl9 D g z0 ad z rl ff hz d sc de hd ho hsc hde) (cwV 3 hts (gd_V kw_248 kw_249 kw_250 kw_12 kcX3_option) rfl rfl rfl (by decide +kernel) ⟨Nat.le_of_ble_eq_true rfl, Nat.le_of_ble_eq_true rfl⟩) (px_preV hPic hK hxT rfl hx0) rfl rfl hl.1 rfl (lv_room (Nat.le_of_ble_eq_true rfl)) dL_option_7 ⟨Nat.le_of_ble_eq_true rfl, Nat.le_of_ble_eq_true rfl⟩) (fun ce q9 H g1 g2 g3 g4 g5 => ?_)
  have hout := hout.kept (g5 ao hout.lt)
  have hPic := bW_kept hPic (fun q hq => g5 _ (bW_lt hPic hq))
  have hTl : lTo ad ao s.heap H [] := ⟨g4, fun q h1 _ => g5 q h1, fun _ h => nomatch h⟩
  refine vx_catch (name := eISE) hown [⟨0, 12, 15, 13⟩] ⟨0, 12, 19, 15⟩ [] (htab.trans rfl) (fun z9 h9 => by rw [List.mem_singleton.mp h9]; exact Or.inr ⟨by decide, eIAE, (hts _ (List.mem_cons_of_mem _ kw_134)), hxT.2.2.2⟩) rfl (by decide) (hts _ (List.mem_cons_of_mem _ kw_135)) (hxT.2.1.2.1.use rfl) g1 g2 g3 ?_
  refine W.eq (g2 := F0 m 19 ls [.ref q9]) rfl ?_
  refine lv_astore (lv' := [(5, .ref q9), (0, .ref (ad 0)), (1, .int (jI ((d : Int)))), (2, .int (jI (sc))), (3, .int (jI (de))), (4, .ref ao)]) hx hb dL_option_19 hl (by decide) rfl (fun ls hl => ?_)
  refine jv_iconst hx hb dL_option_21 ?_
  exact l_iret hx hb hr hlocks dL_option_22 rfl hPic hout (fun h9 => absurd h9 (by decide)) hTl
set_option maxHeartbeats 4000000 in
set_option maxRecDepth 100000 in
theorem w_choose0 (l : Launch) (hl9 : l.stackTraces = false) (D : va_G) (g : Nat → ClassId) (z0 : Nat) (ad : Nat → Nat) (z : bSt) (rl : Nat → Nat → Bool) (ff : Nat → Nat → Int) (hz : bOK z) (hj : bInj ad) (ao : Nat) (v0 : Int) (hao : ∀ q, q < 98 → ao ≠ ad q) (d o : Nat) (hd : d < bN z) (ho : o < bO z d) : Met l yL_choose wsL_choose ({ frames := 2, cells := 1, slots := 6, locals := 46 }) (lPc z0 [.ref (ad 0), .int (jI ((d : Int))), .int (jI ((o : Int))), .ref ao] D g ad ao z rl ff v0) (lQ D g ad ao (zC z d o) 0 (bC z d : Int)) 1 6 (lFr ad ao) := by
  refine j_ofWH (cc := cL_choose) (maxL := 5) (ret := some .int) (hh := [(0, 10, 13, 13)]) (by decide) rfl ?_
  intro p e s m args below meth c s₁ B hml hv
  obtain ⟨⟨rfl, ⟨hPic, hout⟩, hK⟩, hxT⟩ := hv
  have hx := B.exec
  have hb := B.bytes
  have hr := B.returns
  have hts := atoms_spec (ws := wsL_choose) B.pre
  have hown : s.vm.findClass RL = some m.cls := findClass_of_methodNamed B.named
  have hlocks := B.notSynchronized
  have htab : c.exceptionTable.toList = tableOf [(0, 10, 13, 13)] := vx_table (x := yL_choose) (y := yL_choose) (bytes := cL_choose) (maxL' := 5) (ret' := some .int) B (hts wL_choose (List.mem_cons_self (a := wL_choose) (l := gAll)))
  have hx0 : va_at D vwCl (ad 0, .inr (3, [.ref (ad 1), .int (jI (bN z : Int)), .int (jI (bV z))])) s.heap := hPic 0 (by omega)
  have hl := lv_entry ([.ref (ad 0), .int (jI ((d : Int))), .int (jI ((o : Int))), .ref ao]) (n := 5) (Nat.le_of_ble_eq_true rfl)
  rw [lg_entry_eq]
  generalize (lg_sl ([.ref (ad 0), .int (jI ((d : Int))), .int (jI ((o : Int))), .ref ao]) ++ List.replicate (5 - (lg_sl ([.ref (ad 0), .int (jI ((d : Int))), .int (jI ((o : Int))), .ref ao])).length) Slot.unset).toArray = ls at hl ⊢
  have hl : lv_has ls 5 [(0, .ref (ad 0)), (1, .int (jI ((d : Int)))), (2, .int (jI ((o : Int)))), (3, .ref ao)] := hl
  refine W.widen (Nat.zero_le 1) (Nat.zero_le 6) ?_
  refine lv_aload_n hx hb dL_choose_0 rfl (lv_at hl 3 rfl) ?_
  refine jv_iconst hx hb dL_choose_1 ?_
  refine lv_aload_n hx hb dL_choose_2 rfl (lv_at hl 0 rfl) ?_
  refine lv_iload_n hx hb dL_choose_3 rfl (lv_at hl 1 rfl) ?_
  refine lv_iload_n hx hb dL_choose_4 rfl (lv_at hl 2 rfl) ?_
  refine b_call (va_runV (As := [.int (jI ((d : Int))), .int (jI ((o : Int)))]) (rest := [.int (jI (0)), .ref ao]) ⟨hx, hb, hml, hown, hts⟩ (c_choose l D g ad z rl ff hz hj d o hd ho) (cwV 2 hts (gd_V kw_256 kw_257 kw_258 kw_12 kcX3_choose) rfl rfl rfl (by decide +kernel) ⟨Nat.le_of_ble_eq_true rfl, Nat.le_of_ble_eq_true rfl⟩) (pu_preV hPic hK rfl hx0) rfl rfl hl.1 rfl (lv_room (Nat.le_of_ble_eq_true rfl)) dL_choose_5 ⟨Nat.le_of_ble_eq_true rfl, Nat.le_of_ble_eq_true rfl⟩) bTo.rf (fun H locs rl9 ff9 hPh hPic hT9 => ?_)
  have hout := hout.kept (hT9.2.1 ao (fun h9 => by obtain ⟨r9, h1, h2⟩ := h9; exact hao r9 h1 h2))
  have hTl : lTo ad ao s.heap H locs := lTo.of hT9
  refine W.eq (g2 := F0 m 8 ls [.int (jI ((bC z d : Int))), .int (jI (0)), .ref ao]) rfl ?_
  rw [← jI_cn ((bC z d : Int))]
  refine jv_i2l hx hb dL_choose_8 (cn_rng _) ?_
  refine jv_last (i := 0) (gg := fun _ => v0) hx hb hK hout 4 rfl rfl (by decide) (by decide) dL_choose_9 (fun H f9 hn9 hz9 oq9 => ?_)
  have hout : va_at D vwCl (ao, oC g (cn ((bC z d : Int)))) H := va_lcongr (fun j hj => by rw [show j = 0 by omega, jUp_s]) hn9
  have hPic := bW_kept hPic (fun q hq => oq9 _ (fun e9 => hao q hq e9.symm))
  have hTl := hTl.put hz9 oq9 (f := f9)
  refine lv_goto (tgt := 17) hx hb dL_choose_10 (by decide) ?_
  refine jv_iconst hx hb dL_choose_17 ?_
  exact l_iret hx hb hr hlocks dL_choose_18 rfl hPic hout (fun _ => rfl) hTl
set_option maxHeartbeats 4000000 in
set_option maxRecDepth 100000 in
theorem w_choose1 (l : Launch) (hl9 : l.stackTraces = false) (D : va_G) (g : Nat → ClassId) (z0 : Nat) (ad : Nat → Nat) (z : bSt) (rl : Nat → Nat → Bool) (ff : Nat → Nat → Int) (hz : bOK z) (hj : bInj ad) (ao : Nat) (v0 : Int) (hao : ∀ q, q < 98 → ao ≠ ad q) (d o : Int) (h_d : -2147483648 ≤ d ∧ d < 2147483648) (hbad : ¬ (0 ≤ d ∧ d ≤ (bN z : Int) - 1)) : Met l yL_choose wsL_choose ({ frames := 8, cells := 1, slots := 6, locals := 135 }) (lPc z0 [.ref (ad 0), .int (jI (d)), .int (jI (o)), .ref ao] D g ad ao z rl ff v0) (lQ D g ad ao z 1 0) 1 6 (lFr ad ao) := by
  refine j_ofWH (cc := cL_choose) (maxL := 5) (ret := some .int) (hh := [(0, 10, 13, 13)]) (by decide) rfl ?_
  intro p e s m args below meth c s₁ B hml hv
  obtain ⟨⟨rfl, ⟨hPic, hout⟩, hK⟩, hxT⟩ := hv
  have hx := B.exec
  have hb := B.bytes
  have hr := B.returns
  have hts := atoms_spec (ws := wsL_choose) B.pre
  have hown : s.vm.findClass RL = some m.cls := findClass_of_methodNamed B.named
  have hlocks := B.notSynchronized
  have htab : c.exceptionTable.toList = tableOf [(0, 10, 13, 13)] := vx_table (x := yL_choose) (y := yL_choose) (bytes := cL_choose) (maxL' := 5) (ret' := some .int) B (hts wL_choose (List.mem_cons_self (a := wL_choose) (l := gAll)))
  have hx0 : va_at D vwCl (ad 0, .inr (3, [.ref (ad 1), .int (jI (bN z : Int)), .int (jI (bV z))])) s.heap := hPic 0 (by omega)
  have hl := lv_entry ([.ref (ad 0), .int (jI (d)), .int (jI (o)), .ref ao]) (n := 5) (Nat.le_of_ble_eq_true rfl)
  rw [lg_entry_eq]
  generalize (lg_sl ([.ref (ad 0), .int (jI (d)), .int (jI (o)), .ref ao]) ++ List.replicate (5 - (lg_sl ([.ref (ad 0), .int (jI (d)), .int (jI (o)), .ref ao])).length) Slot.unset).toArray = ls at hl ⊢
  have hl : lv_has ls 5 [(0, .ref (ad 0)), (1, .int (jI (d))), (2, .int (jI (o))), (3, .ref ao)] := hl
  refine lv_aload_n hx hb dL_choose_0 rfl (lv_at hl 3 rfl) ?_
  refine jv_iconst hx hb dL_choose_1 ?_
  refine lv_aload_n hx hb dL_choose_2 rfl (lv_at hl 0 rfl) ?_
  refine lv_iload_n hx hb dL_choose_3 rfl (lv_at hl 1 rfl) ?_
  refine lv_iload_n hx hb dL_choose_4 rfl (lv_at hl 2 rfl) ?_
  refine px_catch (vx_runV (As := [.int (jI (d)), .int (jI (o))]) (rest := [.int (jI (0)), .ref ao]) ⟨hx, hb, hml, hown, hts⟩ (x_choose1 l hl9 D g z0 ad z rl ff hz d o h_d hbad) (cwV 2 hts (gd_V kw_256 kw_257 kw_258 kw_12 kcX3_choose) rfl rfl rfl (by decide +kernel) ⟨Nat.le_of_ble_eq_true rfl, Nat.le_of_ble_eq_true rfl⟩) (px_preV hPic hK hxT rfl hx0) rfl rfl hl.1 rfl (lv_room (Nat.le_of_ble_eq_true rfl)) dL_choose_5 ⟨Nat.le_of_ble_eq_true rfl, Nat.le_of_ble_eq_true rfl⟩) (fun ce q9 H g1 g2 g3 g4 g5 => ?_)
  have hout := hout.kept (g5 ao hout.lt)
  have hPic := bW_kept hPic (fun q hq => g5 _ (bW_lt hPic hq))
  have hTl : lTo ad ao s.heap H [] := ⟨g4, fun q h1 _ => g5 q h1, fun _ h => nomatch h⟩
  refine vx_catch (name := eIAE) hown [] ⟨0, 10, 13, 13⟩ [] (htab.trans rfl) (fun z9 h9 => nomatch h9) rfl (by decide) (hts _ (List.mem_cons_of_mem _ kw_134)) (hxT.2.1.1.use rfl) g1 g2 g3 ?_
  refine W.eq (g2 := F0 m 13 ls [.ref q9]) rfl ?_
  refine lv_astore (lv' := [(4, .ref q9), (0, .ref (ad 0)), (1, .int (jI (d))), (2, .int (jI (o))), (3, .ref ao)]) hx hb dL_choose_13 hl (by decide) rfl (fun ls hl => ?_)
  refine jv_iconst hx hb dL_choose_15 ?_
  exact l_iret hx hb hr hlocks dL_choose_16 rfl hPic hout (fun h9 => absurd h9 (by decide)) hTl
set_option maxHeartbeats 4000000 in
set_option maxRecDepth 100000 in
theorem w_choose2 (l : Launch) (hl9 : l.stackTraces = false) (D : va_G) (g : Nat → ClassId) (z0 : Nat) (ad : Nat → Nat) (z : bSt) (rl : Nat → Nat → Bool) (ff : Nat → Nat → Int) (hz : bOK z) (hj : bInj ad) (ao : Nat) (v0 : Int) (hao : ∀ q, q < 98 → ao ≠ ad q) (d : Nat) (o : Int) (hd : d < bN z) (h_o : -2147483648 ≤ o ∧ o < 2147483648) (hbad : ¬ (0 ≤ o ∧ o ≤ (bO z d : Int) - 1)) : Met l yL_choose wsL_choose ({ frames := 8, cells := 1, slots := 6, locals := 136 }) (lPc z0 [.ref (ad 0), .int (jI ((d : Int))), .int (jI (o)), .ref ao] D g ad ao z rl ff v0) (lQ D g ad ao z 1 0) 1 6 (lFr ad ao) := by
  refine j_ofWH (cc := cL_choose) (maxL := 5) (ret := some .int) (hh := [(0, 10, 13, 13)]) (by decide) rfl ?_
  intro p e s m args below meth c s₁ B hml hv
  obtain ⟨⟨rfl, ⟨hPic, hout⟩, hK⟩, hxT⟩ := hv
  have hx := B.exec
  have hb := B.bytes
  have hr := B.returns
  have hts := atoms_spec (ws := wsL_choose) B.pre
  have hown : s.vm.findClass RL = some m.cls := findClass_of_methodNamed B.named
  have hlocks := B.notSynchronized
  have htab : c.exceptionTable.toList = tableOf [(0, 10, 13, 13)] := vx_table (x := yL_choose) (y := yL_choose) (bytes := cL_choose) (maxL' := 5) (ret' := some .int) B (hts wL_choose (List.mem_cons_self (a := wL_choose) (l := gAll)))
  have hx0 : va_at D vwCl (ad 0, .inr (3, [.ref (ad 1), .int (jI (bN z : Int)), .int (jI (bV z))])) s.heap := hPic 0 (by omega)
  have hl := lv_entry ([.ref (ad 0), .int (jI ((d : Int))), .int (jI (o)), .ref ao]) (n := 5) (Nat.le_of_ble_eq_true rfl)
  rw [lg_entry_eq]
  generalize (lg_sl ([.ref (ad 0), .int (jI ((d : Int))), .int (jI (o)), .ref ao]) ++ List.replicate (5 - (lg_sl ([.ref (ad 0), .int (jI ((d : Int))), .int (jI (o)), .ref ao])).length) Slot.unset).toArray = ls at hl ⊢
  have hl : lv_has ls 5 [(0, .ref (ad 0)), (1, .int (jI ((d : Int)))), (2, .int (jI (o))), (3, .ref ao)] := hl
  refine lv_aload_n hx hb dL_choose_0 rfl (lv_at hl 3 rfl) ?_
  refine jv_iconst hx hb dL_choose_1 ?_
  refine lv_aload_n hx hb dL_choose_2 rfl (lv_at hl 0 rfl) ?_
  refine lv_iload_n hx hb dL_choose_3 rfl (lv_at hl 1 rfl) ?_
  refine lv_iload_n hx hb dL_choose_4 rfl (lv_at hl 2 rfl) ?_
  refine px_catch (vx_runV (As := [.int (jI ((d : Int))), .int (jI (o))]) (rest := [.int (jI (0)), .ref ao]) ⟨hx, hb, hml, hown, hts⟩ (x_choose2 l hl9 D g z0 ad z rl ff hz d o hd h_o hbad) (cwV 2 hts (gd_V kw_256 kw_257 kw_258 kw_12 kcX3_choose) rfl rfl rfl (by decide +kernel) ⟨Nat.le_of_ble_eq_true rfl, Nat.le_of_ble_eq_true rfl⟩) (px_preV hPic hK hxT rfl hx0) rfl rfl hl.1 rfl (lv_room (Nat.le_of_ble_eq_true rfl)) dL_choose_5 ⟨Nat.le_of_ble_eq_true rfl, Nat.le_of_ble_eq_true rfl⟩) (fun ce q9 H g1 g2 g3 g4 g5 => ?_)
  have hout := hout.kept (g5 ao hout.lt)
  have hPic := bW_kept hPic (fun q hq => g5 _ (bW_lt hPic hq))
  have hTl : lTo ad ao s.heap H [] := ⟨g4, fun q h1 _ => g5 q h1, fun _ h => nomatch h⟩
  refine vx_catch (name := eIAE) hown [] ⟨0, 10, 13, 13⟩ [] (htab.trans rfl) (fun z9 h9 => nomatch h9) rfl (by decide) (hts _ (List.mem_cons_of_mem _ kw_134)) (hxT.2.1.1.use rfl) g1 g2 g3 ?_
  refine W.eq (g2 := F0 m 13 ls [.ref q9]) rfl ?_
  refine lv_astore (lv' := [(4, .ref q9), (0, .ref (ad 0)), (1, .int (jI ((d : Int)))), (2, .int (jI (o))), (3, .ref ao)]) hx hb dL_choose_13 hl (by decide) rfl (fun ls hl => ?_)
  refine jv_iconst hx hb dL_choose_15 ?_
  exact l_iret hx hb hr hlocks dL_choose_16 rfl hPic hout (fun h9 => absurd h9 (by decide)) hTl
set_option maxHeartbeats 4000000 in
set_option maxRecDepth 100000 in
theorem w_time0 (l : Launch) (hl9 : l.stackTraces = false) (D : va_G) (g : Nat → ClassId) (z0 : Nat) (ad : Nat → Nat) (z : bSt) (rl : Nat → Nat → Bool) (ff : Nat → Nat → Int) (hz : bOK z) (hj : bInj ad) (ao : Nat) (v0 : Int) (hao : ∀ q, q < 98 → ao ≠ ad q) (d : Nat) (i : Int) (mo : Bool) (hd : d < bN z) (hI : 1 ≤ i ∧ i ≤ 5000) : Met l yL_time wsL_time ({ frames := 3, cells := 1, slots := 6, locals := 80 }) (lPc z0 [.ref (ad 0), .int (jI ((d : Int))), .int (jI (i)), .int (jI (bI mo)), .ref ao] D g ad ao z rl ff v0) (lQ D g ad ao z 0 (if cPiece (bCh z d) i = -1 then -1 else cWhole (bCh z d) (cPiece (bCh z d) i) i mo)) 1 6 (lFr ad ao) := by
  refine j_ofWH (cc := cL_time) (maxL := 6) (ret := some .int) (hh := [(0, 12, 15, 13)]) (by decide) rfl ?_
  intro p e s m args below meth c s₁ B hml hv
  obtain ⟨⟨rfl, ⟨hPic, hout⟩, hK⟩, hxT⟩ := hv
  have hx := B.exec
  have hb := B.bytes
  have hr := B.returns
  have hts := atoms_spec (ws := wsL_time) B.pre
  have hown : s.vm.findClass RL = some m.cls := findClass_of_methodNamed B.named
  have hlocks := B.notSynchronized
  have htab : c.exceptionTable.toList = tableOf [(0, 12, 15, 13)] := vx_table (x := yL_time) (y := yL_time) (bytes := cL_time) (maxL' := 6) (ret' := some .int) B (hts wL_time (List.mem_cons_self (a := wL_time) (l := gAll)))
  have hx0 : va_at D vwCl (ad 0, .inr (3, [.ref (ad 1), .int (jI (bN z : Int)), .int (jI (bV z))])) s.heap := hPic 0 (by omega)
  have hl := lv_entry ([.ref (ad 0), .int (jI ((d : Int))), .int (jI (i)), .int (jI (bI mo)), .ref ao]) (n := 6) (Nat.le_of_ble_eq_true rfl)
  rw [lg_entry_eq]
  generalize (lg_sl ([.ref (ad 0), .int (jI ((d : Int))), .int (jI (i)), .int (jI (bI mo)), .ref ao]) ++ List.replicate (6 - (lg_sl ([.ref (ad 0), .int (jI ((d : Int))), .int (jI (i)), .int (jI (bI mo)), .ref ao])).length) Slot.unset).toArray = ls at hl ⊢
  have hl : lv_has ls 6 [(0, .ref (ad 0)), (1, .int (jI ((d : Int)))), (2, .int (jI (i))), (3, .int (jI (bI mo))), (4, .ref ao)] := hl
  refine W.widen (Nat.zero_le 1) (Nat.zero_le 6) ?_
  refine lv_aload hx hb dL_time_0 (lv_at hl 4 rfl) ?_
  refine jv_iconst hx hb dL_time_2 ?_
  refine lv_aload_n hx hb dL_time_3 rfl (lv_at hl 0 rfl) ?_
  refine lv_iload_n hx hb dL_time_4 rfl (lv_at hl 1 rfl) ?_
  refine lv_iload_n hx hb dL_time_5 rfl (lv_at hl 2 rfl) ?_
  refine lv_iload_n hx hb dL_time_6 rfl (lv_at hl 3 rfl) ?_
  refine pu_call1 (va_runV (As := [.int (jI ((d : Int))), .int (jI (i)), .int (jI (bI mo))]) (rest := [.int (jI (0)), .ref ao]) ⟨hx, hb, hml, hown, hts⟩ (c_time l D g ad z rl ff hz d i mo hd hI) (cwV 3 hts (gd_V kw_263 kw_264 kw_265 kw_12 kcX3_time) rfl rfl rfl (by decide +kernel) ⟨Nat.le_of_ble_eq_true rfl, Nat.le_of_ble_eq_true rfl⟩) (pu_preV hPic hK rfl hx0) rfl rfl hl.1 rfl (lv_room (Nat.le_of_ble_eq_true rfl)) dL_time_7 ⟨Nat.le_of_ble_eq_true rfl, Nat.le_of_ble_eq_true rfl⟩) ?_
  have hTl : lTo ad ao s.heap s.heap [] := lTo.rf
  rw [← jI_cn (if cPiece (bCh z d) i = -1 then -1 else cWhole (bCh z d) (cPiece (bCh z d) i) i mo)]
  refine jv_i2l hx hb dL_time_10 (cn_rng _) ?_
  refine jv_last (i := 0) (gg := fun _ => v0) hx hb hK hout 4 rfl rfl (by decide) (by decide) dL_time_11 (fun H f9 hn9 hz9 oq9 => ?_)
  have hout : va_at D vwCl (ao, oC g (cn (if cPiece (bCh z d) i = -1 then -1 else cWhole (bCh z d) (cPiece (bCh z d) i) i mo))) H := va_lcongr (fun j hj => by rw [show j = 0 by omega, jUp_s]) hn9
  have hPic := bW_kept hPic (fun q hq => oq9 _ (fun e9 => hao q hq e9.symm))
  have hTl := hTl.put hz9 oq9 (f := f9)
  refine lv_goto (tgt := 19) hx hb dL_time_12 (by decide) ?_
  refine jv_iconst hx hb dL_time_19 ?_
  exact l_iret hx hb hr hlocks dL_time_20 rfl hPic hout (fun _ => rfl) hTl
set_option maxHeartbeats 4000000 in
set_option maxRecDepth 100000 in
theorem w_time1 (l : Launch) (hl9 : l.stackTraces = false) (D : va_G) (g : Nat → ClassId) (z0 : Nat) (ad : Nat → Nat) (z : bSt) (rl : Nat → Nat → Bool) (ff : Nat → Nat → Int) (hz : bOK z) (hj : bInj ad) (ao : Nat) (v0 : Int) (hao : ∀ q, q < 98 → ao ≠ ad q) (d i : Int) (mo : Bool) (h_d : -2147483648 ≤ d ∧ d < 2147483648) (hbad : ¬ (0 ≤ d ∧ d ≤ (bN z : Int) - 1)) : Met l yL_time wsL_time ({ frames := 8, cells := 1, slots := 6, locals := 136 }) (lPc z0 [.ref (ad 0), .int (jI (d)), .int (jI (i)), .int (jI (bI mo)), .ref ao] D g ad ao z rl ff v0) (lQ D g ad ao z 1 0) 1 6 (lFr ad ao) := by
  refine j_ofWH (cc := cL_time) (maxL := 6) (ret := some .int) (hh := [(0, 12, 15, 13)]) (by decide) rfl ?_
  intro p e s m args below meth c s₁ B hml hv
  obtain ⟨⟨rfl, ⟨hPic, hout⟩, hK⟩, hxT⟩ := hv
  have hx := B.exec
  have hb := B.bytes
  have hr := B.returns
  have hts := atoms_spec (ws := wsL_time) B.pre
  have hown : s.vm.findClass RL = some m.cls := findClass_of_methodNamed B.named
  have hlocks := B.notSynchronized
  have htab : c.exceptionTable.toList = tableOf [(0, 12, 15, 13)] := vx_table (x := yL_time) (y := yL_time) (bytes := cL_time) (maxL' := 6) (ret' := some .int) B (hts wL_time (List.mem_cons_self (a := wL_time) (l := gAll)))
  have hx0 : va_at D vwCl (ad 0, .inr (3, [.ref (ad 1), .int (jI (bN z : Int)), .int (jI (bV z))])) s.heap := hPic 0 (by omega)
  have hl := lv_entry ([.ref (ad 0), .int (jI (d)), .int (jI (i)), .int (jI (bI mo)), .ref ao]) (n := 6) (Nat.le_of_ble_eq_true rfl)
  rw [lg_entry_eq]
  generalize (lg_sl ([.ref (ad 0), .int (jI (d)), .int (jI (i)), .int (jI (bI mo)), .ref ao]) ++ List.replicate (6 - (lg_sl ([.ref (ad 0), .int (jI (d)), .int (jI (i)), .int (jI (bI mo)), .ref ao])).length) Slot.unset).toArray = ls at hl ⊢
  have hl : lv_has ls 6 [(0, .ref (ad 0)), (1, .int (jI (d))), (2, .int (jI (i))), (3, .int (jI (bI mo))), (4, .ref ao)] := hl
  refine lv_aload hx hb dL_time_0 (lv_at hl 4 rfl) ?_
  refine jv_iconst hx hb dL_time_2 ?_
  refine lv_aload_n hx hb dL_time_3 rfl (lv_at hl 0 rfl) ?_
  refine lv_iload_n hx hb dL_time_4 rfl (lv_at hl 1 rfl) ?_
  refine lv_iload_n hx hb dL_time_5 rfl (lv_at hl 2 rfl) ?_
  refine lv_iload_n hx hb dL_time_6 rfl (lv_at hl 3 rfl) ?_
  refine px_catch (vx_runV (As := [.int (jI (d)), .int (jI (i)), .int (jI (bI mo))]) (rest := [.int (jI (0)), .ref ao]) ⟨hx, hb, hml, hown, hts⟩ (x_time1 l hl9 D g z0 ad z rl ff hz d i mo h_d hbad) (cwV 3 hts (gd_V kw_263 kw_264 kw_265 kw_12 kcX3_time) rfl rfl rfl (by decide +kernel) ⟨Nat.le_of_ble_eq_true rfl, Nat.le_of_ble_eq_true rfl⟩) (px_preV hPic hK hxT rfl hx0) rfl rfl hl.1 rfl (lv_room (Nat.le_of_ble_eq_true rfl)) dL_time_7 ⟨Nat.le_of_ble_eq_true rfl, Nat.le_of_ble_eq_true rfl⟩) (fun ce q9 H g1 g2 g3 g4 g5 => ?_)
  have hout := hout.kept (g5 ao hout.lt)
  have hPic := bW_kept hPic (fun q hq => g5 _ (bW_lt hPic hq))
  have hTl : lTo ad ao s.heap H [] := ⟨g4, fun q h1 _ => g5 q h1, fun _ h => nomatch h⟩
  refine vx_catch (name := eIAE) hown [] ⟨0, 12, 15, 13⟩ [] (htab.trans rfl) (fun z9 h9 => nomatch h9) rfl (by decide) (hts _ (List.mem_cons_of_mem _ kw_134)) (hxT.2.1.1.use rfl) g1 g2 g3 ?_
  refine W.eq (g2 := F0 m 15 ls [.ref q9]) rfl ?_
  refine lv_astore (lv' := [(5, .ref q9), (0, .ref (ad 0)), (1, .int (jI (d))), (2, .int (jI (i))), (3, .int (jI (bI mo))), (4, .ref ao)]) hx hb dL_time_15 hl (by decide) rfl (fun ls hl => ?_)
  refine jv_iconst hx hb dL_time_17 ?_
  exact l_iret hx hb hr hlocks dL_time_18 rfl hPic hout (fun h9 => absurd h9 (by decide)) hTl
set_option maxHeartbeats 4000000 in
set_option maxRecDepth 100000 in
theorem w_time2 (l : Launch) (hl9 : l.stackTraces = false) (D : va_G) (g : Nat → ClassId) (z0 : Nat) (ad : Nat → Nat) (z : bSt) (rl : Nat → Nat → Bool) (ff : Nat → Nat → Int) (hz : bOK z) (hj : bInj ad) (ao : Nat) (v0 : Int) (hao : ∀ q, q < 98 → ao ≠ ad q) (d : Nat) (i : Int) (mo : Bool) (hd : d < bN z) (h_i : -2147483648 ≤ i ∧ i < 2147483648) (hbad : ¬ (1 ≤ i ∧ i ≤ 5000)) : Met l yL_time wsL_time ({ frames := 8, cells := 1, slots := 6, locals := 137 }) (lPc z0 [.ref (ad 0), .int (jI ((d : Int))), .int (jI (i)), .int (jI (bI mo)), .ref ao] D g ad ao z rl ff v0) (lQ D g ad ao z 1 0) 1 6 (lFr ad ao) := by
  refine j_ofWH (cc := cL_time) (maxL := 6) (ret := some .int) (hh := [(0, 12, 15, 13)]) (by decide) rfl ?_
  intro p e s m args below meth c s₁ B hml hv
  obtain ⟨⟨rfl, ⟨hPic, hout⟩, hK⟩, hxT⟩ := hv
  have hx := B.exec
  have hb := B.bytes
  have hr := B.returns
  have hts := atoms_spec (ws := wsL_time) B.pre
  have hown : s.vm.findClass RL = some m.cls := findClass_of_methodNamed B.named
  have hlocks := B.notSynchronized
  have htab : c.exceptionTable.toList = tableOf [(0, 12, 15, 13)] := vx_table (x := yL_time) (y := yL_time) (bytes := cL_time) (maxL' := 6) (ret' := some .int) B (hts wL_time (List.mem_cons_self (a := wL_time) (l := gAll)))
  have hx0 : va_at D vwCl (ad 0, .inr (3, [.ref (ad 1), .int (jI (bN z : Int)), .int (jI (bV z))])) s.heap := hPic 0 (by omega)
  have hl := lv_entry ([.ref (ad 0), .int (jI ((d : Int))), .int (jI (i)), .int (jI (bI mo)), .ref ao]) (n := 6) (Nat.le_of_ble_eq_true rfl)
  rw [lg_entry_eq]
  generalize (lg_sl ([.ref (ad 0), .int (jI ((d : Int))), .int (jI (i)), .int (jI (bI mo)), .ref ao]) ++ List.replicate (6 - (lg_sl ([.ref (ad 0), .int (jI ((d : Int))), .int (jI (i)), .int (jI (bI mo)), .ref ao])).length) Slot.unset).toArray = ls at hl ⊢
  have hl : lv_has ls 6 [(0, .ref (ad 0)), (1, .int (jI ((d : Int)))), (2, .int (jI (i))), (3, .int (jI (bI mo))), (4, .ref ao)] := hl
  refine lv_aload hx hb dL_time_0 (lv_at hl 4 rfl) ?_
  refine jv_iconst hx hb dL_time_2 ?_
  refine lv_aload_n hx hb dL_time_3 rfl (lv_at hl 0 rfl) ?_
  refine lv_iload_n hx hb dL_time_4 rfl (lv_at hl 1 rfl) ?_
  refine lv_iload_n hx hb dL_time_5 rfl (lv_at hl 2 rfl) ?_
  refine lv_iload_n hx hb dL_time_6 rfl (lv_at hl 3 rfl) ?_
  refine px_catch (vx_runV (As := [.int (jI ((d : Int))), .int (jI (i)), .int (jI (bI mo))]) (rest := [.int (jI (0)), .ref ao]) ⟨hx, hb, hml, hown, hts⟩ (x_time2 l hl9 D g z0 ad z rl ff hz d i mo hd h_i hbad) (cwV 3 hts (gd_V kw_263 kw_264 kw_265 kw_12 kcX3_time) rfl rfl rfl (by decide +kernel) ⟨Nat.le_of_ble_eq_true rfl, Nat.le_of_ble_eq_true rfl⟩) (px_preV hPic hK hxT rfl hx0) rfl rfl hl.1 rfl (lv_room (Nat.le_of_ble_eq_true rfl)) dL_time_7 ⟨Nat.le_of_ble_eq_true rfl, Nat.le_of_ble_eq_true rfl⟩) (fun ce q9 H g1 g2 g3 g4 g5 => ?_)
  have hout := hout.kept (g5 ao hout.lt)
  have hPic := bW_kept hPic (fun q hq => g5 _ (bW_lt hPic hq))
  have hTl : lTo ad ao s.heap H [] := ⟨g4, fun q h1 _ => g5 q h1, fun _ h => nomatch h⟩
  refine vx_catch (name := eIAE) hown [] ⟨0, 12, 15, 13⟩ [] (htab.trans rfl) (fun z9 h9 => nomatch h9) rfl (by decide) (hts _ (List.mem_cons_of_mem _ kw_134)) (hxT.2.1.1.use rfl) g1 g2 g3 ?_
  refine W.eq (g2 := F0 m 15 ls [.ref q9]) rfl ?_
  refine lv_astore (lv' := [(5, .ref q9), (0, .ref (ad 0)), (1, .int (jI ((d : Int)))), (2, .int (jI (i))), (3, .int (jI (bI mo))), (4, .ref ao)]) hx hb dL_time_15 hl (by decide) rfl (fun ls hl => ?_)
  refine jv_iconst hx hb dL_time_17 ?_
  exact l_iret hx hb hr hlocks dL_time_18 rfl hPic hout (fun h9 => absurd h9 (by decide)) hTl
set_option maxHeartbeats 4000000 in
set_option maxRecDepth 100000 in
theorem w_opensFrom0 (l : Launch) (hl9 : l.stackTraces = false) (D : va_G) (g : Nat → ClassId) (z0 : Nat) (ad : Nat → Nat) (z : bSt) (rl : Nat → Nat → Bool) (ff : Nat → Nat → Int) (hz : bOK z) (hj : bInj ad) (ao : Nat) (v0 : Int) (hao : ∀ q, q < 98 → ao ≠ ad q) (d : Nat) (hd : d < bN z) : Met l yL_opensFrom wsL_opensFrom ({ frames := 3, cells := 1, slots := 6, locals := 66 }) (lPc z0 [.ref (ad 0), .int (jI ((d : Int))), .ref ao] D g ad ao z rl ff v0) (lQ D g ad ao z 0 (if 5000 < cStart (bCh z d) 0 then -1 else cStart (bCh z d) 0)) 1 6 (lFr ad ao) := by
  refine j_ofWH (cc := cL_opensFrom) (maxL := 4) (ret := some .int) (hh := [(0, 9, 12, 13)]) (by decide) rfl ?_
  intro p e s m args below meth c s₁ B hml hv
  obtain ⟨⟨rfl, ⟨hPic, hout⟩, hK⟩, hxT⟩ := hv
  have hx := B.exec
  have hb := B.bytes
  have hr := B.returns
  have hts := atoms_spec (ws := wsL_opensFrom) B.pre
  have hown : s.vm.findClass RL = some m.cls := findClass_of_methodNamed B.named
  have hlocks := B.notSynchronized
  have htab : c.exceptionTable.toList = tableOf [(0, 9, 12, 13)] := vx_table (x := yL_opensFrom) (y := yL_opensFrom) (bytes := cL_opensFrom) (maxL' := 4) (ret' := some .int) B (hts wL_opensFrom (List.mem_cons_self (a := wL_opensFrom) (l := gAll)))
  have hx0 : va_at D vwCl (ad 0, .inr (3, [.ref (ad 1), .int (jI (bN z : Int)), .int (jI (bV z))])) s.heap := hPic 0 (by omega)
  have hl := lv_entry ([.ref (ad 0), .int (jI ((d : Int))), .ref ao]) (n := 4) (Nat.le_of_ble_eq_true rfl)
  rw [lg_entry_eq]
  generalize (lg_sl ([.ref (ad 0), .int (jI ((d : Int))), .ref ao]) ++ List.replicate (4 - (lg_sl ([.ref (ad 0), .int (jI ((d : Int))), .ref ao])).length) Slot.unset).toArray = ls at hl ⊢
  have hl : lv_has ls 4 [(0, .ref (ad 0)), (1, .int (jI ((d : Int)))), (2, .ref ao)] := hl
  refine W.widen (Nat.zero_le 1) (Nat.zero_le 6) ?_
  refine lv_aload_n hx hb dL_opensFrom_0 rfl (lv_at hl 2 rfl) ?_
  refine jv_iconst hx hb dL_opensFrom_1 ?_
  refine lv_aload_n hx hb dL_opensFrom_2 rfl (lv_at hl 0 rfl) ?_
  refine lv_iload_n hx hb dL_opensFrom_3 rfl (lv_at hl 1 rfl) ?_
  refine pu_call1 (va_runV (As := [.int (jI ((d : Int)))]) (rest := [.int (jI (0)), .ref ao]) ⟨hx, hb, hml, hown, hts⟩ (c_opensFrom l D g ad z rl ff hz d hd) (cwV 1 hts (gd_V kw_290 kw_291 kw_292 kw_12 kcX3_opensFrom) rfl rfl rfl (by decide +kernel) ⟨Nat.le_of_ble_eq_true rfl, Nat.le_of_ble_eq_true rfl⟩) (pu_preV hPic hK rfl hx0) rfl rfl hl.1 rfl (lv_room (Nat.le_of_ble_eq_true rfl)) dL_opensFrom_4 ⟨Nat.le_of_ble_eq_true rfl, Nat.le_of_ble_eq_true rfl⟩) ?_
  have hTl : lTo ad ao s.heap s.heap [] := lTo.rf
  rw [← jI_cn (if 5000 < cStart (bCh z d) 0 then -1 else cStart (bCh z d) 0)]
  refine jv_i2l hx hb dL_opensFrom_7 (cn_rng _) ?_
  refine jv_last (i := 0) (gg := fun _ => v0) hx hb hK hout 4 rfl rfl (by decide) (by decide) dL_opensFrom_8 (fun H f9 hn9 hz9 oq9 => ?_)
  have hout : va_at D vwCl (ao, oC g (cn (if 5000 < cStart (bCh z d) 0 then -1 else cStart (bCh z d) 0))) H := va_lcongr (fun j hj => by rw [show j = 0 by omega, jUp_s]) hn9
  have hPic := bW_kept hPic (fun q hq => oq9 _ (fun e9 => hao q hq e9.symm))
  have hTl := hTl.put hz9 oq9 (f := f9)
  refine lv_goto (tgt := 15) hx hb dL_opensFrom_9 (by decide) ?_
  refine jv_iconst hx hb dL_opensFrom_15 ?_
  exact l_iret hx hb hr hlocks dL_opensFrom_16 rfl hPic hout (fun _ => rfl) hTl
set_option maxHeartbeats 4000000 in
set_option maxRecDepth 100000 in
theorem w_opensFrom1 (l : Launch) (hl9 : l.stackTraces = false) (D : va_G) (g : Nat → ClassId) (z0 : Nat) (ad : Nat → Nat) (z : bSt) (rl : Nat → Nat → Bool) (ff : Nat → Nat → Int) (hz : bOK z) (hj : bInj ad) (ao : Nat) (v0 : Int) (hao : ∀ q, q < 98 → ao ≠ ad q) (d : Int) (h_d : -2147483648 ≤ d ∧ d < 2147483648) (hbad : ¬ (0 ≤ d ∧ d ≤ (bN z : Int) - 1)) : Met l yL_opensFrom wsL_opensFrom ({ frames := 8, cells := 1, slots := 6, locals := 133 }) (lPc z0 [.ref (ad 0), .int (jI (d)), .ref ao] D g ad ao z rl ff v0) (lQ D g ad ao z 1 0) 1 6 (lFr ad ao) := by
  refine j_ofWH (cc := cL_opensFrom) (maxL := 4) (ret := some .int) (hh := [(0, 9, 12, 13)]) (by decide) rfl ?_
  intro p e s m args below meth c s₁ B hml hv
  obtain ⟨⟨rfl, ⟨hPic, hout⟩, hK⟩, hxT⟩ := hv
  have hx := B.exec
  have hb := B.bytes
  have hr := B.returns
  have hts := atoms_spec (ws := wsL_opensFrom) B.pre
  have hown : s.vm.findClass RL = some m.cls := findClass_of_methodNamed B.named
  have hlocks := B.notSynchronized
  have htab : c.exceptionTable.toList = tableOf [(0, 9, 12, 13)] := vx_table (x := yL_opensFrom) (y := yL_opensFrom) (bytes := cL_opensFrom) (maxL' := 4) (ret' := some .int) B (hts wL_opensFrom (List.mem_cons_self (a := wL_opensFrom) (l := gAll)))
  have hx0 : va_at D vwCl (ad 0, .inr (3, [.ref (ad 1), .int (jI (bN z : Int)), .int (jI (bV z))])) s.heap := hPic 0 (by omega)
  have hl := lv_entry ([.ref (ad 0), .int (jI (d)), .ref ao]) (n := 4) (Nat.le_of_ble_eq_true rfl)
  rw [lg_entry_eq]
  generalize (lg_sl ([.ref (ad 0), .int (jI (d)), .ref ao]) ++ List.replicate (4 - (lg_sl ([.ref (ad 0), .int (jI (d)), .ref ao])).length) Slot.unset).toArray = ls at hl ⊢
  have hl : lv_has ls 4 [(0, .ref (ad 0)), (1, .int (jI (d))), (2, .ref ao)] := hl
  refine lv_aload_n hx hb dL_opensFrom_0 rfl (lv_at hl 2 rfl) ?_
  refine jv_iconst hx hb dL_opensFrom_1 ?_
  refine lv_aload_n hx hb dL_opensFrom_2 rfl (lv_at hl 0 rfl) ?_
  refine lv_iload_n hx hb dL_opensFrom_3 rfl (lv_at hl 1 rfl) ?_
  refine px_catch (vx_runV (As := [.int (jI (d))]) (rest := [.int (jI (0)), .ref ao]) ⟨hx, hb, hml, hown, hts⟩ (x_opensFrom l hl9 D g z0 ad z rl ff hz d h_d hbad) (cwV 1 hts (gd_V kw_290 kw_291 kw_292 kw_12 kcX3_opensFrom) rfl rfl rfl (by decide +kernel) ⟨Nat.le_of_ble_eq_true rfl, Nat.le_of_ble_eq_true rfl⟩) (px_preV hPic hK hxT rfl hx0) rfl rfl hl.1 rfl (lv_room (Nat.le_of_ble_eq_true rfl)) dL_opensFrom_4 ⟨Nat.le_of_ble_eq_true rfl, Nat.le_of_ble_eq_true rfl⟩) (fun ce q9 H g1 g2 g3 g4 g5 => ?_)
  have hout := hout.kept (g5 ao hout.lt)
  have hPic := bW_kept hPic (fun q hq => g5 _ (bW_lt hPic hq))
  have hTl : lTo ad ao s.heap H [] := ⟨g4, fun q h1 _ => g5 q h1, fun _ h => nomatch h⟩
  refine vx_catch (name := eIAE) hown [] ⟨0, 9, 12, 13⟩ [] (htab.trans rfl) (fun z9 h9 => nomatch h9) rfl (by decide) (hts _ (List.mem_cons_of_mem _ kw_134)) (hxT.2.1.1.use rfl) g1 g2 g3 ?_
  refine W.eq (g2 := F0 m 12 ls [.ref q9]) rfl ?_
  refine lv_astore_n (lv' := [(3, .ref q9), (0, .ref (ad 0)), (1, .int (jI (d))), (2, .ref ao)]) hx hb dL_opensFrom_12 rfl hl (by decide) rfl (fun ls hl => ?_)
  refine jv_iconst hx hb dL_opensFrom_13 ?_
  exact l_iret hx hb hr hlocks dL_opensFrom_14 rfl hPic hout (fun h9 => absurd h9 (by decide)) hTl
set_option maxHeartbeats 4000000 in
set_option maxRecDepth 100000 in
theorem w_settle0 (l : Launch) (hl9 : l.stackTraces = false) (D : va_G) (g : Nat → ClassId) (z0 : Nat) (ad : Nat → Nat) (z : bSt) (rl : Nat → Nat → Bool) (ff : Nat → Nat → Int) (hz : bOK z) (hj : bInj ad) (ao : Nat) (v0 : Int) (hao : ∀ q, q < 98 → ao ≠ ad q) (mg : Int) (hmg : 0 ≤ mg ∧ mg ≤ 10000) (hE : ∃ i, i < bN z ∧ bU z i = none ∧ cF0 (bN z) (bU z) (bO z) (okf z mg) i = -1) : Met l yL_settle wsL_settle ({ frames := 7, cells := 1, slots := 6, locals := 182 }) (lPc z0 [.ref (ad 0), .int (jI (mg)), .ref ao] D g ad ao z rl ff v0) (lQ D g ad ao z 0 (bI false)) 1 6 (lFr ad ao) := by
  refine j_ofWH (cc := cL_settle) (maxL := 4) (ret := some .int) (hh := [(0, 16, 19, 13)]) (by decide) rfl ?_
  intro p e s m args below meth c s₁ B hml hv
  obtain ⟨⟨rfl, ⟨hPic, hout⟩, hK⟩, hxT⟩ := hv
  have hx := B.exec
  have hb := B.bytes
  have hr := B.returns
  have hts := atoms_spec (ws := wsL_settle) B.pre
  have hown : s.vm.findClass RL = some m.cls := findClass_of_methodNamed B.named
  have hlocks := B.notSynchronized
  have htab : c.exceptionTable.toList = tableOf [(0, 16, 19, 13)] := vx_table (x := yL_settle) (y := yL_settle) (bytes := cL_settle) (maxL' := 4) (ret' := some .int) B (hts wL_settle (List.mem_cons_self (a := wL_settle) (l := gAll)))
  have hx0 : va_at D vwCl (ad 0, .inr (3, [.ref (ad 1), .int (jI (bN z : Int)), .int (jI (bV z))])) s.heap := hPic 0 (by omega)
  have hl := lv_entry ([.ref (ad 0), .int (jI (mg)), .ref ao]) (n := 4) (Nat.le_of_ble_eq_true rfl)
  rw [lg_entry_eq]
  generalize (lg_sl ([.ref (ad 0), .int (jI (mg)), .ref ao]) ++ List.replicate (4 - (lg_sl ([.ref (ad 0), .int (jI (mg)), .ref ao])).length) Slot.unset).toArray = ls at hl ⊢
  have hl : lv_has ls 4 [(0, .ref (ad 0)), (1, .int (jI (mg))), (2, .ref ao)] := hl
  refine W.widen (Nat.zero_le 1) (Nat.zero_le 6) ?_
  refine lv_aload_n hx hb dL_settle_0 rfl (lv_at hl 2 rfl) ?_
  refine jv_iconst hx hb dL_settle_1 ?_
  refine lv_aload_n hx hb dL_settle_2 rfl (lv_at hl 0 rfl) ?_
  refine lv_iload_n hx hb dL_settle_3 rfl (lv_at hl 1 rfl) ?_
  refine b_call (va_runV (As := [.int (jI (mg))]) (rest := [.int (jI (0)), .ref ao]) ⟨hx, hb, hml, hown, hts⟩ (c_settle0 l D g ad z rl ff hz hj mg hmg hE) (cwV 1 hts (gd_V kw_349 kw_350 kw_351 kw_12 kcX3_settle) rfl rfl rfl (by decide +kernel) ⟨Nat.le_of_ble_eq_true rfl, Nat.le_of_ble_eq_true rfl⟩) (pu_preV hPic hK rfl hx0) rfl rfl hl.1 rfl (lv_room (Nat.le_of_ble_eq_true rfl)) dL_settle_4 ⟨Nat.le_of_ble_eq_true rfl, Nat.le_of_ble_eq_true rfl⟩) bTo.rf (fun H locs rl9 ff9 hPh hPic hT9 => ?_)
  have hout := hout.kept (hT9.2.1 ao (fun h9 => by obtain ⟨r9, h1, h2⟩ := h9; exact hao r9 h1 h2))
  have hTl : lTo ad ao s.heap H locs := lTo.of hT9
  refine W.eq (g2 := F0 m 7 ls [.int (jI (bI false)), .int (jI (0)), .ref ao]) rfl ?_
  refine jv_if_eq (tgt := 14) hx hb dL_settle_7 (by decide) (bI_rng _) (fun c7 => ?_) (fun c7 => ?_)
  · refine jv_lconst (k := 0) hx hb dL_settle_14 (by decide) ?_
    refine jv_last (i := 0) (gg := fun _ => v0) hx hb hK hout 4 rfl rfl (by decide) (by decide) dL_settle_15 (fun H f9 hn9 hz9 oq9 => ?_)
    have hout : va_at D vwCl (ao, oC g (0)) H := va_lcongr (fun j hj => by rw [show j = 0 by omega, jUp_s]) hn9
    have hPic := bW_kept hPic (fun q hq => oq9 _ (fun e9 => hao q hq e9.symm))
    have hTl := hTl.put hz9 oq9 (f := f9)
    refine lv_goto (tgt := 22) hx hb dL_settle_16 (by decide) ?_
    refine jv_iconst hx hb dL_settle_22 ?_
    exact l_iret hx hb hr hlocks dL_settle_23 rfl hPic hout (fun _ => by decide) hTl
  · exact absurd c7 (by decide)
set_option maxHeartbeats 4000000 in
set_option maxRecDepth 100000 in
theorem w_settle1 (l : Launch) (hl9 : l.stackTraces = false) (D : va_G) (g : Nat → ClassId) (z0 : Nat) (ad : Nat → Nat) (z : bSt) (rl : Nat → Nat → Bool) (ff : Nat → Nat → Int) (hz : bOK z) (hj : bInj ad) (ao : Nat) (v0 : Int) (hao : ∀ q, q < 98 → ao ≠ ad q) (mg : Int) (hmg : 0 ≤ mg ∧ mg ≤ 10000) (hA : ∀ i, i < bN z → bU z i = none → cF0 (bN z) (bU z) (bO z) (okf z mg) i ≠ -1) (pk : Nat → Nat) (hp0 : ∀ i, i < bN z → bU z i = none → cF0 (bN z) (bU z) (bO z) (okf z mg) i = (pk i : Int)) (hpk : ∀ i u, i < bN z → bU z i = some u → cFk (bN z) (bU z) (bO z) (okf z mg) i (pk u) = (pk i : Int)) (hpo : ∀ i, i < bN z → pk i < bO z i) : Met l yL_settle wsL_settle ({ frames := 7, cells := 1, slots := 6, locals := 182 }) (lPc z0 [.ref (ad 0), .int (jI (mg)), .ref ao] D g ad ao z rl ff v0) (lQ D g ad ao (zCs z (bN z) pk) 0 (bI true)) 1 6 (lFr ad ao) := by
  refine j_ofWH (cc := cL_settle) (maxL := 4) (ret := some .int) (hh := [(0, 16, 19, 13)]) (by decide) rfl ?_
  intro p e s m args below meth c s₁ B hml hv
  obtain ⟨⟨rfl, ⟨hPic, hout⟩, hK⟩, hxT⟩ := hv
  have hx := B.exec
  have hb := B.bytes
  have hr := B.returns
  have hts := atoms_spec (ws := wsL_settle) B.pre
  have hown : s.vm.findClass RL = some m.cls := findClass_of_methodNamed B.named
  have hlocks := B.notSynchronized
  have htab : c.exceptionTable.toList = tableOf [(0, 16, 19, 13)] := vx_table (x := yL_settle) (y := yL_settle) (bytes := cL_settle) (maxL' := 4) (ret' := some .int) B (hts wL_settle (List.mem_cons_self (a := wL_settle) (l := gAll)))
  have hx0 : va_at D vwCl (ad 0, .inr (3, [.ref (ad 1), .int (jI (bN z : Int)), .int (jI (bV z))])) s.heap := hPic 0 (by omega)
  have hl := lv_entry ([.ref (ad 0), .int (jI (mg)), .ref ao]) (n := 4) (Nat.le_of_ble_eq_true rfl)
  rw [lg_entry_eq]
  generalize (lg_sl ([.ref (ad 0), .int (jI (mg)), .ref ao]) ++ List.replicate (4 - (lg_sl ([.ref (ad 0), .int (jI (mg)), .ref ao])).length) Slot.unset).toArray = ls at hl ⊢
  have hl : lv_has ls 4 [(0, .ref (ad 0)), (1, .int (jI (mg))), (2, .ref ao)] := hl
  refine W.widen (Nat.zero_le 1) (Nat.zero_le 6) ?_
  refine lv_aload_n hx hb dL_settle_0 rfl (lv_at hl 2 rfl) ?_
  refine jv_iconst hx hb dL_settle_1 ?_
  refine lv_aload_n hx hb dL_settle_2 rfl (lv_at hl 0 rfl) ?_
  refine lv_iload_n hx hb dL_settle_3 rfl (lv_at hl 1 rfl) ?_
  refine b_call (va_runV (As := [.int (jI (mg))]) (rest := [.int (jI (0)), .ref ao]) ⟨hx, hb, hml, hown, hts⟩ (c_settle1 l D g ad z rl ff hz hj mg hmg hA pk hp0 hpk hpo) (cwV 1 hts (gd_V kw_349 kw_350 kw_351 kw_12 kcX3_settle) rfl rfl rfl (by decide +kernel) ⟨Nat.le_of_ble_eq_true rfl, Nat.le_of_ble_eq_true rfl⟩) (pu_preV hPic hK rfl hx0) rfl rfl hl.1 rfl (lv_room (Nat.le_of_ble_eq_true rfl)) dL_settle_4 ⟨Nat.le_of_ble_eq_true rfl, Nat.le_of_ble_eq_true rfl⟩) bTo.rf (fun H locs rl9 ff9 hPh hPic hT9 => ?_)
  have hout := hout.kept (hT9.2.1 ao (fun h9 => by obtain ⟨r9, h1, h2⟩ := h9; exact hao r9 h1 h2))
  have hTl : lTo ad ao s.heap H locs := lTo.of hT9
  refine W.eq (g2 := F0 m 7 ls [.int (jI (bI true)), .int (jI (0)), .ref ao]) rfl ?_
  refine jv_if_eq (tgt := 14) hx hb dL_settle_7 (by decide) (bI_rng _) (fun c7 => ?_) (fun c7 => ?_)
  · exact absurd c7 (by decide)
  · refine jv_lconst (k := 1) hx hb dL_settle_10 (by decide) ?_
    refine lv_goto (tgt := 15) hx hb dL_settle_11 (by decide) ?_
    refine jv_last (i := 0) (gg := fun _ => v0) hx hb hK hout 4 rfl rfl (by decide) (by decide) dL_settle_15 (fun H f9 hn9 hz9 oq9 => ?_)
    have hout : va_at D vwCl (ao, oC g (1)) H := va_lcongr (fun j hj => by rw [show j = 0 by omega, jUp_s]) hn9
    have hPic := bW_kept hPic (fun q hq => oq9 _ (fun e9 => hao q hq e9.symm))
    have hTl := hTl.put hz9 oq9 (f := f9)
    refine lv_goto (tgt := 22) hx hb dL_settle_16 (by decide) ?_
    refine jv_iconst hx hb dL_settle_22 ?_
    exact l_iret hx hb hr hlocks dL_settle_23 rfl hPic hout (fun _ => by decide) hTl
set_option maxHeartbeats 4000000 in
set_option maxRecDepth 100000 in
theorem w_settle2 (l : Launch) (hl9 : l.stackTraces = false) (D : va_G) (g : Nat → ClassId) (z0 : Nat) (ad : Nat → Nat) (z : bSt) (rl : Nat → Nat → Bool) (ff : Nat → Nat → Int) (hz : bOK z) (hj : bInj ad) (ao : Nat) (v0 : Int) (hao : ∀ q, q < 98 → ao ≠ ad q) (mg : Int) (h_mg : -2147483648 ≤ mg ∧ mg < 2147483648) (hbad : ¬ (0 ≤ mg ∧ mg ≤ 10000)) : Met l yL_settle wsL_settle ({ frames := 8, cells := 1, slots := 6, locals := 135 }) (lPc z0 [.ref (ad 0), .int (jI (mg)), .ref ao] D g ad ao z rl ff v0) (lQ D g ad ao z 1 0) 1 6 (lFr ad ao) := by
  refine j_ofWH (cc := cL_settle) (maxL := 4) (ret := some .int) (hh := [(0, 16, 19, 13)]) (by decide) rfl ?_
  intro p e s m args below meth c s₁ B hml hv
  obtain ⟨⟨rfl, ⟨hPic, hout⟩, hK⟩, hxT⟩ := hv
  have hx := B.exec
  have hb := B.bytes
  have hr := B.returns
  have hts := atoms_spec (ws := wsL_settle) B.pre
  have hown : s.vm.findClass RL = some m.cls := findClass_of_methodNamed B.named
  have hlocks := B.notSynchronized
  have htab : c.exceptionTable.toList = tableOf [(0, 16, 19, 13)] := vx_table (x := yL_settle) (y := yL_settle) (bytes := cL_settle) (maxL' := 4) (ret' := some .int) B (hts wL_settle (List.mem_cons_self (a := wL_settle) (l := gAll)))
  have hx0 : va_at D vwCl (ad 0, .inr (3, [.ref (ad 1), .int (jI (bN z : Int)), .int (jI (bV z))])) s.heap := hPic 0 (by omega)
  have hl := lv_entry ([.ref (ad 0), .int (jI (mg)), .ref ao]) (n := 4) (Nat.le_of_ble_eq_true rfl)
  rw [lg_entry_eq]
  generalize (lg_sl ([.ref (ad 0), .int (jI (mg)), .ref ao]) ++ List.replicate (4 - (lg_sl ([.ref (ad 0), .int (jI (mg)), .ref ao])).length) Slot.unset).toArray = ls at hl ⊢
  have hl : lv_has ls 4 [(0, .ref (ad 0)), (1, .int (jI (mg))), (2, .ref ao)] := hl
  refine lv_aload_n hx hb dL_settle_0 rfl (lv_at hl 2 rfl) ?_
  refine jv_iconst hx hb dL_settle_1 ?_
  refine lv_aload_n hx hb dL_settle_2 rfl (lv_at hl 0 rfl) ?_
  refine lv_iload_n hx hb dL_settle_3 rfl (lv_at hl 1 rfl) ?_
  refine px_catch (vx_runV (As := [.int (jI (mg))]) (rest := [.int (jI (0)), .ref ao]) ⟨hx, hb, hml, hown, hts⟩ (x_settle l hl9 D g z0 ad z rl ff hz mg h_mg hbad) (cwV 1 hts (gd_V kw_349 kw_350 kw_351 kw_12 kcX3_settle) rfl rfl rfl (by decide +kernel) ⟨Nat.le_of_ble_eq_true rfl, Nat.le_of_ble_eq_true rfl⟩) (px_preV hPic hK hxT rfl hx0) rfl rfl hl.1 rfl (lv_room (Nat.le_of_ble_eq_true rfl)) dL_settle_4 ⟨Nat.le_of_ble_eq_true rfl, Nat.le_of_ble_eq_true rfl⟩) (fun ce q9 H g1 g2 g3 g4 g5 => ?_)
  have hout := hout.kept (g5 ao hout.lt)
  have hPic := bW_kept hPic (fun q hq => g5 _ (bW_lt hPic hq))
  have hTl : lTo ad ao s.heap H [] := ⟨g4, fun q h1 _ => g5 q h1, fun _ h => nomatch h⟩
  refine vx_catch (name := eIAE) hown [] ⟨0, 16, 19, 13⟩ [] (htab.trans rfl) (fun z9 h9 => nomatch h9) rfl (by decide) (hts _ (List.mem_cons_of_mem _ kw_134)) (hxT.2.1.1.use rfl) g1 g2 g3 ?_
  refine W.eq (g2 := F0 m 19 ls [.ref q9]) rfl ?_
  refine lv_astore_n (lv' := [(3, .ref q9), (0, .ref (ad 0)), (1, .int (jI (mg))), (2, .ref ao)]) hx hb dL_settle_19 rfl hl (by decide) rfl (fun ls hl => ?_)
  refine jv_iconst hx hb dL_settle_20 ?_
  exact l_iret hx hb hr hlocks dL_settle_21 rfl hPic hout (fun h9 => absurd h9 (by decide)) hTl
set_option maxHeartbeats 4000000 in
set_option maxRecDepth 100000 in
theorem w_chosen0 (l : Launch) (hl9 : l.stackTraces = false) (D : va_G) (g : Nat → ClassId) (z0 : Nat) (ad : Nat → Nat) (z : bSt) (rl : Nat → Nat → Bool) (ff : Nat → Nat → Int) (hz : bOK z) (hj : bInj ad) (ao : Nat) (v0 : Int) (hao : ∀ q, q < 98 → ao ≠ ad q) (d : Nat) (hd : d < bN z) : Met l yL_chosen wsL_chosen ({ frames := 2, cells := 1, slots := 6, locals := 42 }) (lPc z0 [.ref (ad 0), .int (jI ((d : Int))), .ref ao] D g ad ao z rl ff v0) (lQ D g ad ao z 0 (bC z d : Int)) 1 6 (lFr ad ao) := by
  refine j_ofWH (cc := cL_chosen) (maxL := 4) (ret := some .int) (hh := [(0, 9, 12, 13)]) (by decide) rfl ?_
  intro p e s m args below meth c s₁ B hml hv
  obtain ⟨⟨rfl, ⟨hPic, hout⟩, hK⟩, hxT⟩ := hv
  have hx := B.exec
  have hb := B.bytes
  have hr := B.returns
  have hts := atoms_spec (ws := wsL_chosen) B.pre
  have hown : s.vm.findClass RL = some m.cls := findClass_of_methodNamed B.named
  have hlocks := B.notSynchronized
  have htab : c.exceptionTable.toList = tableOf [(0, 9, 12, 13)] := vx_table (x := yL_chosen) (y := yL_chosen) (bytes := cL_chosen) (maxL' := 4) (ret' := some .int) B (hts wL_chosen (List.mem_cons_self (a := wL_chosen) (l := gAll)))
  have hx0 : va_at D vwCl (ad 0, .inr (3, [.ref (ad 1), .int (jI (bN z : Int)), .int (jI (bV z))])) s.heap := hPic 0 (by omega)
  have hl := lv_entry ([.ref (ad 0), .int (jI ((d : Int))), .ref ao]) (n := 4) (Nat.le_of_ble_eq_true rfl)
  rw [lg_entry_eq]
  generalize (lg_sl ([.ref (ad 0), .int (jI ((d : Int))), .ref ao]) ++ List.replicate (4 - (lg_sl ([.ref (ad 0), .int (jI ((d : Int))), .ref ao])).length) Slot.unset).toArray = ls at hl ⊢
  have hl : lv_has ls 4 [(0, .ref (ad 0)), (1, .int (jI ((d : Int)))), (2, .ref ao)] := hl
  refine W.widen (Nat.zero_le 1) (Nat.zero_le 6) ?_
  refine lv_aload_n hx hb dL_chosen_0 rfl (lv_at hl 2 rfl) ?_
  refine jv_iconst hx hb dL_chosen_1 ?_
  refine lv_aload_n hx hb dL_chosen_2 rfl (lv_at hl 0 rfl) ?_
  refine lv_iload_n hx hb dL_chosen_3 rfl (lv_at hl 1 rfl) ?_
  refine pu_call1 (va_runV (As := [.int (jI ((d : Int)))]) (rest := [.int (jI (0)), .ref ao]) ⟨hx, hb, hml, hown, hts⟩ (c_chosen l D g ad z rl ff hz d hd) (cwV 1 hts (gd_V kw_366 kw_367 kw_368 kw_12 kcX3_chosen) rfl rfl rfl (by decide +kernel) ⟨Nat.le_of_ble_eq_true rfl, Nat.le_of_ble_eq_true rfl⟩) (pu_preV hPic hK rfl hx0) rfl rfl hl.1 rfl (lv_room (Nat.le_of_ble_eq_true rfl)) dL_chosen_4 ⟨Nat.le_of_ble_eq_true rfl, Nat.le_of_ble_eq_true rfl⟩) ?_
  have hTl : lTo ad ao s.heap s.heap [] := lTo.rf
  rw [← jI_cn ((bC z d : Int))]
  refine jv_i2l hx hb dL_chosen_7 (cn_rng _) ?_
  refine jv_last (i := 0) (gg := fun _ => v0) hx hb hK hout 4 rfl rfl (by decide) (by decide) dL_chosen_8 (fun H f9 hn9 hz9 oq9 => ?_)
  have hout : va_at D vwCl (ao, oC g (cn ((bC z d : Int)))) H := va_lcongr (fun j hj => by rw [show j = 0 by omega, jUp_s]) hn9
  have hPic := bW_kept hPic (fun q hq => oq9 _ (fun e9 => hao q hq e9.symm))
  have hTl := hTl.put hz9 oq9 (f := f9)
  refine lv_goto (tgt := 15) hx hb dL_chosen_9 (by decide) ?_
  refine jv_iconst hx hb dL_chosen_15 ?_
  exact l_iret hx hb hr hlocks dL_chosen_16 rfl hPic hout (fun _ => rfl) hTl
set_option maxHeartbeats 4000000 in
set_option maxRecDepth 100000 in
theorem w_chosen1 (l : Launch) (hl9 : l.stackTraces = false) (D : va_G) (g : Nat → ClassId) (z0 : Nat) (ad : Nat → Nat) (z : bSt) (rl : Nat → Nat → Bool) (ff : Nat → Nat → Int) (hz : bOK z) (hj : bInj ad) (ao : Nat) (v0 : Int) (hao : ∀ q, q < 98 → ao ≠ ad q) (d : Int) (h_d : -2147483648 ≤ d ∧ d < 2147483648) (hbad : ¬ (0 ≤ d ∧ d ≤ (bN z : Int) - 1)) : Met l yL_chosen wsL_chosen ({ frames := 8, cells := 1, slots := 6, locals := 132 }) (lPc z0 [.ref (ad 0), .int (jI (d)), .ref ao] D g ad ao z rl ff v0) (lQ D g ad ao z 1 0) 1 6 (lFr ad ao) := by
  refine j_ofWH (cc := cL_chosen) (maxL := 4) (ret := some .int) (hh := [(0, 9, 12, 13)]) (by decide) rfl ?_
  intro p e s m args below meth c s₁ B hml hv
  obtain ⟨⟨rfl, ⟨hPic, hout⟩, hK⟩, hxT⟩ := hv
  have hx := B.exec
  have hb := B.bytes
  have hr := B.returns
  have hts := atoms_spec (ws := wsL_chosen) B.pre
  have hown : s.vm.findClass RL = some m.cls := findClass_of_methodNamed B.named
  have hlocks := B.notSynchronized
  have htab : c.exceptionTable.toList = tableOf [(0, 9, 12, 13)] := vx_table (x := yL_chosen) (y := yL_chosen) (bytes := cL_chosen) (maxL' := 4) (ret' := some .int) B (hts wL_chosen (List.mem_cons_self (a := wL_chosen) (l := gAll)))
  have hx0 : va_at D vwCl (ad 0, .inr (3, [.ref (ad 1), .int (jI (bN z : Int)), .int (jI (bV z))])) s.heap := hPic 0 (by omega)
  have hl := lv_entry ([.ref (ad 0), .int (jI (d)), .ref ao]) (n := 4) (Nat.le_of_ble_eq_true rfl)
  rw [lg_entry_eq]
  generalize (lg_sl ([.ref (ad 0), .int (jI (d)), .ref ao]) ++ List.replicate (4 - (lg_sl ([.ref (ad 0), .int (jI (d)), .ref ao])).length) Slot.unset).toArray = ls at hl ⊢
  have hl : lv_has ls 4 [(0, .ref (ad 0)), (1, .int (jI (d))), (2, .ref ao)] := hl
  refine lv_aload_n hx hb dL_chosen_0 rfl (lv_at hl 2 rfl) ?_
  refine jv_iconst hx hb dL_chosen_1 ?_
  refine lv_aload_n hx hb dL_chosen_2 rfl (lv_at hl 0 rfl) ?_
  refine lv_iload_n hx hb dL_chosen_3 rfl (lv_at hl 1 rfl) ?_
  refine px_catch (vx_runV (As := [.int (jI (d))]) (rest := [.int (jI (0)), .ref ao]) ⟨hx, hb, hml, hown, hts⟩ (x_chosen l hl9 D g z0 ad z rl ff hz d h_d hbad) (cwV 1 hts (gd_V kw_366 kw_367 kw_368 kw_12 kcX3_chosen) rfl rfl rfl (by decide +kernel) ⟨Nat.le_of_ble_eq_true rfl, Nat.le_of_ble_eq_true rfl⟩) (px_preV hPic hK hxT rfl hx0) rfl rfl hl.1 rfl (lv_room (Nat.le_of_ble_eq_true rfl)) dL_chosen_4 ⟨Nat.le_of_ble_eq_true rfl, Nat.le_of_ble_eq_true rfl⟩) (fun ce q9 H g1 g2 g3 g4 g5 => ?_)
  have hout := hout.kept (g5 ao hout.lt)
  have hPic := bW_kept hPic (fun q hq => g5 _ (bW_lt hPic hq))
  have hTl : lTo ad ao s.heap H [] := ⟨g4, fun q h1 _ => g5 q h1, fun _ h => nomatch h⟩
  refine vx_catch (name := eIAE) hown [] ⟨0, 9, 12, 13⟩ [] (htab.trans rfl) (fun z9 h9 => nomatch h9) rfl (by decide) (hts _ (List.mem_cons_of_mem _ kw_134)) (hxT.2.1.1.use rfl) g1 g2 g3 ?_
  refine W.eq (g2 := F0 m 12 ls [.ref q9]) rfl ?_
  refine lv_astore_n (lv' := [(3, .ref q9), (0, .ref (ad 0)), (1, .int (jI (d))), (2, .ref ao)]) hx hb dL_chosen_12 rfl hl (by decide) rfl (fun ls hl => ?_)
  refine jv_iconst hx hb dL_chosen_13 ?_
  exact l_iret hx hb hr hlocks dL_chosen_14 rfl hPic hout (fun h9 => absurd h9 (by decide)) hTl
set_option maxHeartbeats 4000000 in
set_option maxRecDepth 100000 in
theorem w_impedance0 (l : Launch) (hl9 : l.stackTraces = false) (D : va_G) (g : Nat → ClassId) (z0 : Nat) (ad : Nat → Nat) (z : bSt) (rl : Nat → Nat → Bool) (ff : Nat → Nat → Int) (hz : bOK z) (hj : bInj ad) (ao : Nat) (v0 : Int) (hao : ∀ q, q < 98 → ao ≠ ad q) (d : Nat) (i : Int) (hd : d < bN z) (hi : 1 ≤ i ∧ i ≤ 10000) : Met l yL_impedance wsL_impedance ({ frames := 2, cells := 1, slots := 6, locals := 46 }) (lPc z0 [.ref (ad 0), .int (jI ((d : Int))), .int (jI (i)), .ref ao] D g ad ao z rl ff v0) (lQ D g ad ao (zZ z d i) 0 (bZ z d)) 1 6 (lFr ad ao) := by
  refine j_ofWH (cc := cL_impedance) (maxL := 5) (ret := some .int) (hh := [(0, 10, 13, 13)]) (by decide) rfl ?_
  intro p e s m args below meth c s₁ B hml hv
  obtain ⟨⟨rfl, ⟨hPic, hout⟩, hK⟩, hxT⟩ := hv
  have hx := B.exec
  have hb := B.bytes
  have hr := B.returns
  have hts := atoms_spec (ws := wsL_impedance) B.pre
  have hown : s.vm.findClass RL = some m.cls := findClass_of_methodNamed B.named
  have hlocks := B.notSynchronized
  have htab : c.exceptionTable.toList = tableOf [(0, 10, 13, 13)] := vx_table (x := yL_impedance) (y := yL_impedance) (bytes := cL_impedance) (maxL' := 5) (ret' := some .int) B (hts wL_impedance (List.mem_cons_self (a := wL_impedance) (l := gAll)))
  have hx0 : va_at D vwCl (ad 0, .inr (3, [.ref (ad 1), .int (jI (bN z : Int)), .int (jI (bV z))])) s.heap := hPic 0 (by omega)
  have hl := lv_entry ([.ref (ad 0), .int (jI ((d : Int))), .int (jI (i)), .ref ao]) (n := 5) (Nat.le_of_ble_eq_true rfl)
  rw [lg_entry_eq]
  generalize (lg_sl ([.ref (ad 0), .int (jI ((d : Int))), .int (jI (i)), .ref ao]) ++ List.replicate (5 - (lg_sl ([.ref (ad 0), .int (jI ((d : Int))), .int (jI (i)), .ref ao])).length) Slot.unset).toArray = ls at hl ⊢
  have hl : lv_has ls 5 [(0, .ref (ad 0)), (1, .int (jI ((d : Int)))), (2, .int (jI (i))), (3, .ref ao)] := hl
  refine W.widen (Nat.zero_le 1) (Nat.zero_le 6) ?_
  refine lv_aload_n hx hb dL_impedance_0 rfl (lv_at hl 3 rfl) ?_
  refine jv_iconst hx hb dL_impedance_1 ?_
  refine lv_aload_n hx hb dL_impedance_2 rfl (lv_at hl 0 rfl) ?_
  refine lv_iload_n hx hb dL_impedance_3 rfl (lv_at hl 1 rfl) ?_
  refine lv_iload_n hx hb dL_impedance_4 rfl (lv_at hl 2 rfl) ?_
  refine b_call (va_runV (As := [.int (jI ((d : Int))), .int (jI (i))]) (rest := [.int (jI (0)), .ref ao]) ⟨hx, hb, hml, hown, hts⟩ (c_impedance l D g ad z rl ff hz hj d i hd hi) (cwV 2 hts (gd_V kw_373 kw_374 kw_375 kw_12 kcX3_impedance) rfl rfl rfl (by decide +kernel) ⟨Nat.le_of_ble_eq_true rfl, Nat.le_of_ble_eq_true rfl⟩) (pu_preV hPic hK rfl hx0) rfl rfl hl.1 rfl (lv_room (Nat.le_of_ble_eq_true rfl)) dL_impedance_5 ⟨Nat.le_of_ble_eq_true rfl, Nat.le_of_ble_eq_true rfl⟩) bTo.rf (fun H locs rl9 ff9 hPh hPic hT9 => ?_)
  have hout := hout.kept (hT9.2.1 ao (fun h9 => by obtain ⟨r9, h1, h2⟩ := h9; exact hao r9 h1 h2))
  have hTl : lTo ad ao s.heap H locs := lTo.of hT9
  refine W.eq (g2 := F0 m 8 ls [.int (jI (bZ z d)), .int (jI (0)), .ref ao]) rfl ?_
  rw [← jI_cn (bZ z d)]
  refine jv_i2l hx hb dL_impedance_8 (cn_rng _) ?_
  refine jv_last (i := 0) (gg := fun _ => v0) hx hb hK hout 4 rfl rfl (by decide) (by decide) dL_impedance_9 (fun H f9 hn9 hz9 oq9 => ?_)
  have hout : va_at D vwCl (ao, oC g (cn (bZ z d))) H := va_lcongr (fun j hj => by rw [show j = 0 by omega, jUp_s]) hn9
  have hPic := bW_kept hPic (fun q hq => oq9 _ (fun e9 => hao q hq e9.symm))
  have hTl := hTl.put hz9 oq9 (f := f9)
  refine lv_goto (tgt := 17) hx hb dL_impedance_10 (by decide) ?_
  refine jv_iconst hx hb dL_impedance_17 ?_
  exact l_iret hx hb hr hlocks dL_impedance_18 rfl hPic hout (fun _ => rfl) hTl
set_option maxHeartbeats 4000000 in
set_option maxRecDepth 100000 in
theorem w_impedance1 (l : Launch) (hl9 : l.stackTraces = false) (D : va_G) (g : Nat → ClassId) (z0 : Nat) (ad : Nat → Nat) (z : bSt) (rl : Nat → Nat → Bool) (ff : Nat → Nat → Int) (hz : bOK z) (hj : bInj ad) (ao : Nat) (v0 : Int) (hao : ∀ q, q < 98 → ao ≠ ad q) (d i : Int) (h_d : -2147483648 ≤ d ∧ d < 2147483648) (hbad : ¬ (0 ≤ d ∧ d ≤ (bN z : Int) - 1)) : Met l yL_impedance wsL_impedance ({ frames := 8, cells := 1, slots := 6, locals := 135 }) (lPc z0 [.ref (ad 0), .int (jI (d)), .int (jI (i)), .ref ao] D g ad ao z rl ff v0) (lQ D g ad ao z 1 0) 1 6 (lFr ad ao) := by
  refine j_ofWH (cc := cL_impedance) (maxL := 5) (ret := some .int) (hh := [(0, 10, 13, 13)]) (by decide) rfl ?_
  intro p e s m args below meth c s₁ B hml hv
  obtain ⟨⟨rfl, ⟨hPic, hout⟩, hK⟩, hxT⟩ := hv
  have hx := B.exec
  have hb := B.bytes
  have hr := B.returns
  have hts := atoms_spec (ws := wsL_impedance) B.pre
  have hown : s.vm.findClass RL = some m.cls := findClass_of_methodNamed B.named
  have hlocks := B.notSynchronized
  have htab : c.exceptionTable.toList = tableOf [(0, 10, 13, 13)] := vx_table (x := yL_impedance) (y := yL_impedance) (bytes := cL_impedance) (maxL' := 5) (ret' := some .int) B (hts wL_impedance (List.mem_cons_self (a := wL_impedance) (l := gAll)))
  have hx0 : va_at D vwCl (ad 0, .inr (3, [.ref (ad 1), .int (jI (bN z : Int)), .int (jI (bV z))])) s.heap := hPic 0 (by omega)
  have hl := lv_entry ([.ref (ad 0), .int (jI (d)), .int (jI (i)), .ref ao]) (n := 5) (Nat.le_of_ble_eq_true rfl)
  rw [lg_entry_eq]
  generalize (lg_sl ([.ref (ad 0), .int (jI (d)), .int (jI (i)), .ref ao]) ++ List.replicate (5 - (lg_sl ([.ref (ad 0), .int (jI (d)), .int (jI (i)), .ref ao])).length) Slot.unset).toArray = ls at hl ⊢
  have hl : lv_has ls 5 [(0, .ref (ad 0)), (1, .int (jI (d))), (2, .int (jI (i))), (3, .ref ao)] := hl
  refine lv_aload_n hx hb dL_impedance_0 rfl (lv_at hl 3 rfl) ?_
  refine jv_iconst hx hb dL_impedance_1 ?_
  refine lv_aload_n hx hb dL_impedance_2 rfl (lv_at hl 0 rfl) ?_
  refine lv_iload_n hx hb dL_impedance_3 rfl (lv_at hl 1 rfl) ?_
  refine lv_iload_n hx hb dL_impedance_4 rfl (lv_at hl 2 rfl) ?_
  refine px_catch (vx_runV (As := [.int (jI (d)), .int (jI (i))]) (rest := [.int (jI (0)), .ref ao]) ⟨hx, hb, hml, hown, hts⟩ (x_impedance1 l hl9 D g z0 ad z rl ff hz d i h_d hbad) (cwV 2 hts (gd_V kw_373 kw_374 kw_375 kw_12 kcX3_impedance) rfl rfl rfl (by decide +kernel) ⟨Nat.le_of_ble_eq_true rfl, Nat.le_of_ble_eq_true rfl⟩) (px_preV hPic hK hxT rfl hx0) rfl rfl hl.1 rfl (lv_room (Nat.le_of_ble_eq_true rfl)) dL_impedance_5 ⟨Nat.le_of_ble_eq_true rfl, Nat.le_of_ble_eq_true rfl⟩) (fun ce q9 H g1 g2 g3 g4 g5 => ?_)
  have hout := hout.kept (g5 ao hout.lt)
  have hPic := bW_kept hPic (fun q hq => g5 _ (bW_lt hPic hq))
  have hTl : lTo ad ao s.heap H [] := ⟨g4, fun q h1 _ => g5 q h1, fun _ h => nomatch h⟩
  refine vx_catch (name := eIAE) hown [] ⟨0, 10, 13, 13⟩ [] (htab.trans rfl) (fun z9 h9 => nomatch h9) rfl (by decide) (hts _ (List.mem_cons_of_mem _ kw_134)) (hxT.2.1.1.use rfl) g1 g2 g3 ?_
  refine W.eq (g2 := F0 m 13 ls [.ref q9]) rfl ?_
  refine lv_astore (lv' := [(4, .ref q9), (0, .ref (ad 0)), (1, .int (jI (d))), (2, .int (jI (i))), (3, .ref ao)]) hx hb dL_impedance_13 hl (by decide) rfl (fun ls hl => ?_)
  refine jv_iconst hx hb dL_impedance_15 ?_
  exact l_iret hx hb hr hlocks dL_impedance_16 rfl hPic hout (fun h9 => absurd h9 (by decide)) hTl
set_option maxHeartbeats 4000000 in
set_option maxRecDepth 100000 in
theorem w_impedance2 (l : Launch) (hl9 : l.stackTraces = false) (D : va_G) (g : Nat → ClassId) (z0 : Nat) (ad : Nat → Nat) (z : bSt) (rl : Nat → Nat → Bool) (ff : Nat → Nat → Int) (hz : bOK z) (hj : bInj ad) (ao : Nat) (v0 : Int) (hao : ∀ q, q < 98 → ao ≠ ad q) (d : Nat) (i : Int) (hd : d < bN z) (h_i : -2147483648 ≤ i ∧ i < 2147483648) (hbad : ¬ (1 ≤ i ∧ i ≤ 10000)) : Met l yL_impedance wsL_impedance ({ frames := 8, cells := 1, slots := 6, locals := 136 }) (lPc z0 [.ref (ad 0), .int (jI ((d : Int))), .int (jI (i)), .ref ao] D g ad ao z rl ff v0) (lQ D g ad ao z 1 0) 1 6 (lFr ad ao) := by
  refine j_ofWH (cc := cL_impedance) (maxL := 5) (ret := some .int) (hh := [(0, 10, 13, 13)]) (by decide) rfl ?_
  intro p e s m args below meth c s₁ B hml hv
  obtain ⟨⟨rfl, ⟨hPic, hout⟩, hK⟩, hxT⟩ := hv
  have hx := B.exec
  have hb := B.bytes
  have hr := B.returns
  have hts := atoms_spec (ws := wsL_impedance) B.pre
  have hown : s.vm.findClass RL = some m.cls := findClass_of_methodNamed B.named
  have hlocks := B.notSynchronized
  have htab : c.exceptionTable.toList = tableOf [(0, 10, 13, 13)] := vx_table (x := yL_impedance) (y := yL_impedance) (bytes := cL_impedance) (maxL' := 5) (ret' := some .int) B (hts wL_impedance (List.mem_cons_self (a := wL_impedance) (l := gAll)))
  have hx0 : va_at D vwCl (ad 0, .inr (3, [.ref (ad 1), .int (jI (bN z : Int)), .int (jI (bV z))])) s.heap := hPic 0 (by omega)
  have hl := lv_entry ([.ref (ad 0), .int (jI ((d : Int))), .int (jI (i)), .ref ao]) (n := 5) (Nat.le_of_ble_eq_true rfl)
  rw [lg_entry_eq]
  generalize (lg_sl ([.ref (ad 0), .int (jI ((d : Int))), .int (jI (i)), .ref ao]) ++ List.replicate (5 - (lg_sl ([.ref (ad 0), .int (jI ((d : Int))), .int (jI (i)), .ref ao])).length) Slot.unset).toArray = ls at hl ⊢
  have hl : lv_has ls 5 [(0, .ref (ad 0)), (1, .int (jI ((d : Int)))), (2, .int (jI (i))), (3, .ref ao)] := hl
  refine lv_aload_n hx hb dL_impedance_0 rfl (lv_at hl 3 rfl) ?_
  refine jv_iconst hx hb dL_impedance_1 ?_
  refine lv_aload_n hx hb dL_impedance_2 rfl (lv_at hl 0 rfl) ?_
  refine lv_iload_n hx hb dL_impedance_3 rfl (lv_at hl 1 rfl) ?_
  refine lv_iload_n hx hb dL_impedance_4 rfl (lv_at hl 2 rfl) ?_
  refine px_catch (vx_runV (As := [.int (jI ((d : Int))), .int (jI (i))]) (rest := [.int (jI (0)), .ref ao]) ⟨hx, hb, hml, hown, hts⟩ (x_impedance2 l hl9 D g z0 ad z rl ff hz d i hd h_i hbad) (cwV 2 hts (gd_V kw_373 kw_374 kw_375 kw_12 kcX3_impedance) rfl rfl rfl (by decide +kernel) ⟨Nat.le_of_ble_eq_true rfl, Nat.le_of_ble_eq_true rfl⟩) (px_preV hPic hK hxT rfl hx0) rfl rfl hl.1 rfl (lv_room (Nat.le_of_ble_eq_true rfl)) dL_impedance_5 ⟨Nat.le_of_ble_eq_true rfl, Nat.le_of_ble_eq_true rfl⟩) (fun ce q9 H g1 g2 g3 g4 g5 => ?_)
  have hout := hout.kept (g5 ao hout.lt)
  have hPic := bW_kept hPic (fun q hq => g5 _ (bW_lt hPic hq))
  have hTl : lTo ad ao s.heap H [] := ⟨g4, fun q h1 _ => g5 q h1, fun _ h => nomatch h⟩
  refine vx_catch (name := eIAE) hown [] ⟨0, 10, 13, 13⟩ [] (htab.trans rfl) (fun z9 h9 => nomatch h9) rfl (by decide) (hts _ (List.mem_cons_of_mem _ kw_134)) (hxT.2.1.1.use rfl) g1 g2 g3 ?_
  refine W.eq (g2 := F0 m 13 ls [.ref q9]) rfl ?_
  refine lv_astore (lv' := [(4, .ref q9), (0, .ref (ad 0)), (1, .int (jI ((d : Int)))), (2, .int (jI (i))), (3, .ref ao)]) hx hb dL_impedance_13 hl (by decide) rfl (fun ls hl => ?_)
  refine jv_iconst hx hb dL_impedance_15 ?_
  exact l_iret hx hb hr hlocks dL_impedance_16 rfl hPic hout (fun h9 => absurd h9 (by decide)) hTl
set_option maxHeartbeats 4000000 in
set_option maxRecDepth 100000 in
theorem w_voltage0 (l : Launch) (hl9 : l.stackTraces = false) (D : va_G) (g : Nat → ClassId) (z0 : Nat) (ad : Nat → Nat) (z : bSt) (rl : Nat → Nat → Bool) (ff : Nat → Nat → Int) (hz : bOK z) (hj : bInj ad) (ao : Nat) (v0 : Int) (hao : ∀ q, q < 98 → ao ≠ ad q) (i : Int) (hi : 0 ≤ i ∧ i ≤ 1000000) : Met l yL_voltage wsL_voltage ({ frames := 2, cells := 1, slots := 6, locals := 44 }) (lPc z0 [.ref (ad 0), .int (jI (i)), .ref ao] D g ad ao z rl ff v0) (lQ D g ad ao (zV z i) 0 (bV z)) 1 6 (lFr ad ao) := by
  refine j_ofWH (cc := cL_voltage) (maxL := 4) (ret := some .int) (hh := [(0, 9, 12, 13)]) (by decide) rfl ?_
  intro p e s m args below meth c s₁ B hml hv
  obtain ⟨⟨rfl, ⟨hPic, hout⟩, hK⟩, hxT⟩ := hv
  have hx := B.exec
  have hb := B.bytes
  have hr := B.returns
  have hts := atoms_spec (ws := wsL_voltage) B.pre
  have hown : s.vm.findClass RL = some m.cls := findClass_of_methodNamed B.named
  have hlocks := B.notSynchronized
  have htab : c.exceptionTable.toList = tableOf [(0, 9, 12, 13)] := vx_table (x := yL_voltage) (y := yL_voltage) (bytes := cL_voltage) (maxL' := 4) (ret' := some .int) B (hts wL_voltage (List.mem_cons_self (a := wL_voltage) (l := gAll)))
  have hx0 : va_at D vwCl (ad 0, .inr (3, [.ref (ad 1), .int (jI (bN z : Int)), .int (jI (bV z))])) s.heap := hPic 0 (by omega)
  have hl := lv_entry ([.ref (ad 0), .int (jI (i)), .ref ao]) (n := 4) (Nat.le_of_ble_eq_true rfl)
  rw [lg_entry_eq]
  generalize (lg_sl ([.ref (ad 0), .int (jI (i)), .ref ao]) ++ List.replicate (4 - (lg_sl ([.ref (ad 0), .int (jI (i)), .ref ao])).length) Slot.unset).toArray = ls at hl ⊢
  have hl : lv_has ls 4 [(0, .ref (ad 0)), (1, .int (jI (i))), (2, .ref ao)] := hl
  refine W.widen (Nat.zero_le 1) (Nat.zero_le 6) ?_
  refine lv_aload_n hx hb dL_voltage_0 rfl (lv_at hl 2 rfl) ?_
  refine jv_iconst hx hb dL_voltage_1 ?_
  refine lv_aload_n hx hb dL_voltage_2 rfl (lv_at hl 0 rfl) ?_
  refine lv_iload_n hx hb dL_voltage_3 rfl (lv_at hl 1 rfl) ?_
  refine b_call (va_runV (As := [.int (jI (i))]) (rest := [.int (jI (0)), .ref ao]) ⟨hx, hb, hml, hown, hts⟩ (c_voltage l D g ad z rl ff hz hj i hi) (cwV 1 hts (gd_V kw_380 kw_381 kw_382 kw_12 kcX3_voltage) rfl rfl rfl (by decide +kernel) ⟨Nat.le_of_ble_eq_true rfl, Nat.le_of_ble_eq_true rfl⟩) (pu_preV hPic hK rfl hx0) rfl rfl hl.1 rfl (lv_room (Nat.le_of_ble_eq_true rfl)) dL_voltage_4 ⟨Nat.le_of_ble_eq_true rfl, Nat.le_of_ble_eq_true rfl⟩) bTo.rf (fun H locs rl9 ff9 hPh hPic hT9 => ?_)
  have hout := hout.kept (hT9.2.1 ao (fun h9 => by obtain ⟨r9, h1, h2⟩ := h9; exact hao r9 h1 h2))
  have hTl : lTo ad ao s.heap H locs := lTo.of hT9
  refine W.eq (g2 := F0 m 7 ls [.int (jI (bV z)), .int (jI (0)), .ref ao]) rfl ?_
  rw [← jI_cn (bV z)]
  refine jv_i2l hx hb dL_voltage_7 (cn_rng _) ?_
  refine jv_last (i := 0) (gg := fun _ => v0) hx hb hK hout 4 rfl rfl (by decide) (by decide) dL_voltage_8 (fun H f9 hn9 hz9 oq9 => ?_)
  have hout : va_at D vwCl (ao, oC g (cn (bV z))) H := va_lcongr (fun j hj => by rw [show j = 0 by omega, jUp_s]) hn9
  have hPic := bW_kept hPic (fun q hq => oq9 _ (fun e9 => hao q hq e9.symm))
  have hTl := hTl.put hz9 oq9 (f := f9)
  refine lv_goto (tgt := 15) hx hb dL_voltage_9 (by decide) ?_
  refine jv_iconst hx hb dL_voltage_15 ?_
  exact l_iret hx hb hr hlocks dL_voltage_16 rfl hPic hout (fun _ => rfl) hTl
set_option maxHeartbeats 4000000 in
set_option maxRecDepth 100000 in
theorem w_voltage1 (l : Launch) (hl9 : l.stackTraces = false) (D : va_G) (g : Nat → ClassId) (z0 : Nat) (ad : Nat → Nat) (z : bSt) (rl : Nat → Nat → Bool) (ff : Nat → Nat → Int) (hz : bOK z) (hj : bInj ad) (ao : Nat) (v0 : Int) (hao : ∀ q, q < 98 → ao ≠ ad q) (i : Int) (h_i : -2147483648 ≤ i ∧ i < 2147483648) (hbad : ¬ (0 ≤ i ∧ i ≤ 1000000)) : Met l yL_voltage wsL_voltage ({ frames := 8, cells := 1, slots := 6, locals := 134 }) (lPc z0 [.ref (ad 0), .int (jI (i)), .ref ao] D g ad ao z rl ff v0) (lQ D g ad ao z 1 0) 1 6 (lFr ad ao) := by
  refine j_ofWH (cc := cL_voltage) (maxL := 4) (ret := some .int) (hh := [(0, 9, 12, 13)]) (by decide) rfl ?_
  intro p e s m args below meth c s₁ B hml hv
  obtain ⟨⟨rfl, ⟨hPic, hout⟩, hK⟩, hxT⟩ := hv
  have hx := B.exec
  have hb := B.bytes
  have hr := B.returns
  have hts := atoms_spec (ws := wsL_voltage) B.pre
  have hown : s.vm.findClass RL = some m.cls := findClass_of_methodNamed B.named
  have hlocks := B.notSynchronized
  have htab : c.exceptionTable.toList = tableOf [(0, 9, 12, 13)] := vx_table (x := yL_voltage) (y := yL_voltage) (bytes := cL_voltage) (maxL' := 4) (ret' := some .int) B (hts wL_voltage (List.mem_cons_self (a := wL_voltage) (l := gAll)))
  have hx0 : va_at D vwCl (ad 0, .inr (3, [.ref (ad 1), .int (jI (bN z : Int)), .int (jI (bV z))])) s.heap := hPic 0 (by omega)
  have hl := lv_entry ([.ref (ad 0), .int (jI (i)), .ref ao]) (n := 4) (Nat.le_of_ble_eq_true rfl)
  rw [lg_entry_eq]
  generalize (lg_sl ([.ref (ad 0), .int (jI (i)), .ref ao]) ++ List.replicate (4 - (lg_sl ([.ref (ad 0), .int (jI (i)), .ref ao])).length) Slot.unset).toArray = ls at hl ⊢
  have hl : lv_has ls 4 [(0, .ref (ad 0)), (1, .int (jI (i))), (2, .ref ao)] := hl
  refine lv_aload_n hx hb dL_voltage_0 rfl (lv_at hl 2 rfl) ?_
  refine jv_iconst hx hb dL_voltage_1 ?_
  refine lv_aload_n hx hb dL_voltage_2 rfl (lv_at hl 0 rfl) ?_
  refine lv_iload_n hx hb dL_voltage_3 rfl (lv_at hl 1 rfl) ?_
  refine px_catch (vx_runV (As := [.int (jI (i))]) (rest := [.int (jI (0)), .ref ao]) ⟨hx, hb, hml, hown, hts⟩ (x_voltage l hl9 D g z0 ad z rl ff hz i h_i hbad) (cwV 1 hts (gd_V kw_380 kw_381 kw_382 kw_12 kcX3_voltage) rfl rfl rfl (by decide +kernel) ⟨Nat.le_of_ble_eq_true rfl, Nat.le_of_ble_eq_true rfl⟩) (px_preV hPic hK hxT rfl hx0) rfl rfl hl.1 rfl (lv_room (Nat.le_of_ble_eq_true rfl)) dL_voltage_4 ⟨Nat.le_of_ble_eq_true rfl, Nat.le_of_ble_eq_true rfl⟩) (fun ce q9 H g1 g2 g3 g4 g5 => ?_)
  have hout := hout.kept (g5 ao hout.lt)
  have hPic := bW_kept hPic (fun q hq => g5 _ (bW_lt hPic hq))
  have hTl : lTo ad ao s.heap H [] := ⟨g4, fun q h1 _ => g5 q h1, fun _ h => nomatch h⟩
  refine vx_catch (name := eIAE) hown [] ⟨0, 9, 12, 13⟩ [] (htab.trans rfl) (fun z9 h9 => nomatch h9) rfl (by decide) (hts _ (List.mem_cons_of_mem _ kw_134)) (hxT.2.1.1.use rfl) g1 g2 g3 ?_
  refine W.eq (g2 := F0 m 12 ls [.ref q9]) rfl ?_
  refine lv_astore_n (lv' := [(3, .ref q9), (0, .ref (ad 0)), (1, .int (jI (i))), (2, .ref ao)]) hx hb dL_voltage_12 rfl hl (by decide) rfl (fun ls hl => ?_)
  refine jv_iconst hx hb dL_voltage_13 ?_
  exact l_iret hx hb hr hlocks dL_voltage_14 rfl hPic hout (fun h9 => absurd h9 (by decide)) hTl
set_option maxHeartbeats 4000000 in
set_option maxRecDepth 100000 in
theorem w_shortAt0 (l : Launch) (hl9 : l.stackTraces = false) (D : va_G) (g : Nat → ClassId) (z0 : Nat) (ad : Nat → Nat) (z : bSt) (rl : Nat → Nat → Bool) (ff : Nat → Nat → Int) (hz : bOK z) (hj : bInj ad) (ao : Nat) (v0 : Int) (hao : ∀ q, q < 98 → ao ≠ ad q) (d : Nat) (hd : d < bN z) : Met l yL_shortAt wsL_shortAt ({ frames := 3, cells := 1, slots := 6, locals := 66 }) (lPc z0 [.ref (ad 0), .int (jI ((d : Int))), .ref ao] D g ad ao z rl ff v0) (lQ D g ad ao z 0 (bShort z d)) 1 6 (lFr ad ao) := by
  refine j_ofWH (cc := cL_shortAt) (maxL := 4) (ret := some .int) (hh := [(0, 9, 12, 13)]) (by decide) rfl ?_
  intro p e s m args below meth c s₁ B hml hv
  obtain ⟨⟨rfl, ⟨hPic, hout⟩, hK⟩, hxT⟩ := hv
  have hx := B.exec
  have hb := B.bytes
  have hr := B.returns
  have hts := atoms_spec (ws := wsL_shortAt) B.pre
  have hown : s.vm.findClass RL = some m.cls := findClass_of_methodNamed B.named
  have hlocks := B.notSynchronized
  have htab : c.exceptionTable.toList = tableOf [(0, 9, 12, 13)] := vx_table (x := yL_shortAt) (y := yL_shortAt) (bytes := cL_shortAt) (maxL' := 4) (ret' := some .int) B (hts wL_shortAt (List.mem_cons_self (a := wL_shortAt) (l := gAll)))
  have hx0 : va_at D vwCl (ad 0, .inr (3, [.ref (ad 1), .int (jI (bN z : Int)), .int (jI (bV z))])) s.heap := hPic 0 (by omega)
  have hl := lv_entry ([.ref (ad 0), .int (jI ((d : Int))), .ref ao]) (n := 4) (Nat.le_of_ble_eq_true rfl)
  rw [lg_entry_eq]
  generalize (lg_sl ([.ref (ad 0), .int (jI ((d : Int))), .ref ao]) ++ List.replicate (4 - (lg_sl ([.ref (ad 0), .int (jI ((d : Int))), .ref ao])).length) Slot.unset).toArray = ls at hl ⊢
  have hl : lv_has ls 4 [(0, .ref (ad 0)), (1, .int (jI ((d : Int)))), (2, .ref ao)] := hl
  refine W.widen (Nat.zero_le 1) (Nat.zero_le 6) ?_
  refine lv_aload_n hx hb dL_shortAt_0 rfl (lv_at hl 2 rfl) ?_
  refine jv_iconst hx hb dL_shortAt_1 ?_
  refine lv_aload_n hx hb dL_shortAt_2 rfl (lv_at hl 0 rfl) ?_
  refine lv_iload_n hx hb dL_shortAt_3 rfl (lv_at hl 1 rfl) ?_
  refine pu_call1 (va_runV (As := [.int (jI ((d : Int)))]) (rest := [.int (jI (0)), .ref ao]) ⟨hx, hb, hml, hown, hts⟩ (c_shortAt l D g ad z rl ff hz d hd) (cwV 1 hts (gd_V kw_388 kw_389 kw_390 kw_12 kcX3_shortAt) rfl rfl rfl (by decide +kernel) ⟨Nat.le_of_ble_eq_true rfl, Nat.le_of_ble_eq_true rfl⟩) (pu_preV hPic hK rfl hx0) rfl rfl hl.1 rfl (lv_room (Nat.le_of_ble_eq_true rfl)) dL_shortAt_4 ⟨Nat.le_of_ble_eq_true rfl, Nat.le_of_ble_eq_true rfl⟩) ?_
  have hTl : lTo ad ao s.heap s.heap [] := lTo.rf
  rw [← jI_cn (bShort z d)]
  refine jv_i2l hx hb dL_shortAt_7 (cn_rng _) ?_
  refine jv_last (i := 0) (gg := fun _ => v0) hx hb hK hout 4 rfl rfl (by decide) (by decide) dL_shortAt_8 (fun H f9 hn9 hz9 oq9 => ?_)
  have hout : va_at D vwCl (ao, oC g (cn (bShort z d))) H := va_lcongr (fun j hj => by rw [show j = 0 by omega, jUp_s]) hn9
  have hPic := bW_kept hPic (fun q hq => oq9 _ (fun e9 => hao q hq e9.symm))
  have hTl := hTl.put hz9 oq9 (f := f9)
  refine lv_goto (tgt := 15) hx hb dL_shortAt_9 (by decide) ?_
  refine jv_iconst hx hb dL_shortAt_15 ?_
  exact l_iret hx hb hr hlocks dL_shortAt_16 rfl hPic hout (fun _ => rfl) hTl
set_option maxHeartbeats 4000000 in
set_option maxRecDepth 100000 in
theorem w_shortAt1 (l : Launch) (hl9 : l.stackTraces = false) (D : va_G) (g : Nat → ClassId) (z0 : Nat) (ad : Nat → Nat) (z : bSt) (rl : Nat → Nat → Bool) (ff : Nat → Nat → Int) (hz : bOK z) (hj : bInj ad) (ao : Nat) (v0 : Int) (hao : ∀ q, q < 98 → ao ≠ ad q) (d : Int) (h_d : -2147483648 ≤ d ∧ d < 2147483648) (hbad : ¬ (0 ≤ d ∧ d ≤ (bN z : Int) - 1)) : Met l yL_shortAt wsL_shortAt ({ frames := 8, cells := 1, slots := 6, locals := 132 }) (lPc z0 [.ref (ad 0), .int (jI (d)), .ref ao] D g ad ao z rl ff v0) (lQ D g ad ao z 1 0) 1 6 (lFr ad ao) := by
  refine j_ofWH (cc := cL_shortAt) (maxL := 4) (ret := some .int) (hh := [(0, 9, 12, 13)]) (by decide) rfl ?_
  intro p e s m args below meth c s₁ B hml hv
  obtain ⟨⟨rfl, ⟨hPic, hout⟩, hK⟩, hxT⟩ := hv
  have hx := B.exec
  have hb := B.bytes
  have hr := B.returns
  have hts := atoms_spec (ws := wsL_shortAt) B.pre
  have hown : s.vm.findClass RL = some m.cls := findClass_of_methodNamed B.named
  have hlocks := B.notSynchronized
  have htab : c.exceptionTable.toList = tableOf [(0, 9, 12, 13)] := vx_table (x := yL_shortAt) (y := yL_shortAt) (bytes := cL_shortAt) (maxL' := 4) (ret' := some .int) B (hts wL_shortAt (List.mem_cons_self (a := wL_shortAt) (l := gAll)))
  have hx0 : va_at D vwCl (ad 0, .inr (3, [.ref (ad 1), .int (jI (bN z : Int)), .int (jI (bV z))])) s.heap := hPic 0 (by omega)
  have hl := lv_entry ([.ref (ad 0), .int (jI (d)), .ref ao]) (n := 4) (Nat.le_of_ble_eq_true rfl)
  rw [lg_entry_eq]
  generalize (lg_sl ([.ref (ad 0), .int (jI (d)), .ref ao]) ++ List.replicate (4 - (lg_sl ([.ref (ad 0), .int (jI (d)), .ref ao])).length) Slot.unset).toArray = ls at hl ⊢
  have hl : lv_has ls 4 [(0, .ref (ad 0)), (1, .int (jI (d))), (2, .ref ao)] := hl
  refine lv_aload_n hx hb dL_shortAt_0 rfl (lv_at hl 2 rfl) ?_
  refine jv_iconst hx hb dL_shortAt_1 ?_
  refine lv_aload_n hx hb dL_shortAt_2 rfl (lv_at hl 0 rfl) ?_
  refine lv_iload_n hx hb dL_shortAt_3 rfl (lv_at hl 1 rfl) ?_
  refine px_catch (vx_runV (As := [.int (jI (d))]) (rest := [.int (jI (0)), .ref ao]) ⟨hx, hb, hml, hown, hts⟩ (x_shortAt l hl9 D g z0 ad z rl ff hz d h_d hbad) (cwV 1 hts (gd_V kw_388 kw_389 kw_390 kw_12 kcX3_shortAt) rfl rfl rfl (by decide +kernel) ⟨Nat.le_of_ble_eq_true rfl, Nat.le_of_ble_eq_true rfl⟩) (px_preV hPic hK hxT rfl hx0) rfl rfl hl.1 rfl (lv_room (Nat.le_of_ble_eq_true rfl)) dL_shortAt_4 ⟨Nat.le_of_ble_eq_true rfl, Nat.le_of_ble_eq_true rfl⟩) (fun ce q9 H g1 g2 g3 g4 g5 => ?_)
  have hout := hout.kept (g5 ao hout.lt)
  have hPic := bW_kept hPic (fun q hq => g5 _ (bW_lt hPic hq))
  have hTl : lTo ad ao s.heap H [] := ⟨g4, fun q h1 _ => g5 q h1, fun _ h => nomatch h⟩
  refine vx_catch (name := eIAE) hown [] ⟨0, 9, 12, 13⟩ [] (htab.trans rfl) (fun z9 h9 => nomatch h9) rfl (by decide) (hts _ (List.mem_cons_of_mem _ kw_134)) (hxT.2.1.1.use rfl) g1 g2 g3 ?_
  refine W.eq (g2 := F0 m 12 ls [.ref q9]) rfl ?_
  refine lv_astore_n (lv' := [(3, .ref q9), (0, .ref (ad 0)), (1, .int (jI (d))), (2, .ref ao)]) hx hb dL_shortAt_12 rfl hl (by decide) rfl (fun ls hl => ?_)
  refine jv_iconst hx hb dL_shortAt_13 ?_
  exact l_iret hx hb hr hlocks dL_shortAt_14 rfl hPic hout (fun h9 => absurd h9 (by decide)) hTl
set_option maxHeartbeats 4000000 in
set_option maxRecDepth 100000 in
theorem w_opens0 (l : Launch) (hl9 : l.stackTraces = false) (D : va_G) (g : Nat → ClassId) (z0 : Nat) (ad : Nat → Nat) (z : bSt) (rl : Nat → Nat → Bool) (ff : Nat → Nat → Int) (hz : bOK z) (hj : bInj ad) (ao : Nat) (v0 : Int) (hao : ∀ q, q < 98 → ao ≠ ad q) (d : Nat) (i : Int) (hd : d < bN z) (hi : 0 ≤ i ∧ i < 2147483648) : Met l yL_opens wsL_opens ({ frames := 4, cells := 1, slots := 6, locals := 115 }) (lPc z0 [.ref (ad 0), .int (jI ((d : Int))), .int (jI (i)), .ref ao] D g ad ao z rl ff v0) (lQ D g ad ao z 0 (if cPiece (bCh z (bQk z (bShort z d) 9 (bU z d) d)) (bShort z d) = -1 then -1 else bOp z (bShort z d) (bQk z (bShort z d) 9 (bU z d) d) 9 (some d) i)) 1 6 (lFr ad ao) := by
  refine j_ofWH (cc := cL_opens) (maxL := 5) (ret := some .int) (hh := [(0, 10, 13, 13)]) (by decide) rfl ?_
  intro p e s m args below meth c s₁ B hml hv
  obtain ⟨⟨rfl, ⟨hPic, hout⟩, hK⟩, hxT⟩ := hv
  have hx := B.exec
  have hb := B.bytes
  have hr := B.returns
  have hts := atoms_spec (ws := wsL_opens) B.pre
  have hown : s.vm.findClass RL = some m.cls := findClass_of_methodNamed B.named
  have hlocks := B.notSynchronized
  have htab : c.exceptionTable.toList = tableOf [(0, 10, 13, 13)] := vx_table (x := yL_opens) (y := yL_opens) (bytes := cL_opens) (maxL' := 5) (ret' := some .int) B (hts wL_opens (List.mem_cons_self (a := wL_opens) (l := gAll)))
  have hx0 : va_at D vwCl (ad 0, .inr (3, [.ref (ad 1), .int (jI (bN z : Int)), .int (jI (bV z))])) s.heap := hPic 0 (by omega)
  have hl := lv_entry ([.ref (ad 0), .int (jI ((d : Int))), .int (jI (i)), .ref ao]) (n := 5) (Nat.le_of_ble_eq_true rfl)
  rw [lg_entry_eq]
  generalize (lg_sl ([.ref (ad 0), .int (jI ((d : Int))), .int (jI (i)), .ref ao]) ++ List.replicate (5 - (lg_sl ([.ref (ad 0), .int (jI ((d : Int))), .int (jI (i)), .ref ao])).length) Slot.unset).toArray = ls at hl ⊢
  have hl : lv_has ls 5 [(0, .ref (ad 0)), (1, .int (jI ((d : Int)))), (2, .int (jI (i))), (3, .ref ao)] := hl
  refine W.widen (Nat.zero_le 1) (Nat.zero_le 6) ?_
  refine lv_aload_n hx hb dL_opens_0 rfl (lv_at hl 3 rfl) ?_
  refine jv_iconst hx hb dL_opens_1 ?_
  refine lv_aload_n hx hb dL_opens_2 rfl (lv_at hl 0 rfl) ?_
  refine lv_iload_n hx hb dL_opens_3 rfl (lv_at hl 1 rfl) ?_
  refine lv_iload_n hx hb dL_opens_4 rfl (lv_at hl 2 rfl) ?_
  refine pu_call1 (va_runV (As := [.int (jI ((d : Int))), .int (jI (i))]) (rest := [.int (jI (0)), .ref ao]) ⟨hx, hb, hml, hown, hts⟩ (c_opens l D g ad z rl ff hz d i hd hi) (cwV 2 hts (gd_V kw_404 kw_405 kw_406 kw_12 kcX3_opens) rfl rfl rfl (by decide +kernel) ⟨Nat.le_of_ble_eq_true rfl, Nat.le_of_ble_eq_true rfl⟩) (pu_preV hPic hK rfl hx0) rfl rfl hl.1 rfl (lv_room (Nat.le_of_ble_eq_true rfl)) dL_opens_5 ⟨Nat.le_of_ble_eq_true rfl, Nat.le_of_ble_eq_true rfl⟩) ?_
  have hTl : lTo ad ao s.heap s.heap [] := lTo.rf
  rw [← jI_cn (if cPiece (bCh z (bQk z (bShort z d) 9 (bU z d) d)) (bShort z d) = -1 then -1 else bOp z (bShort z d) (bQk z (bShort z d) 9 (bU z d) d) 9 (some d) i)]
  refine jv_i2l hx hb dL_opens_8 (cn_rng _) ?_
  refine jv_last (i := 0) (gg := fun _ => v0) hx hb hK hout 4 rfl rfl (by decide) (by decide) dL_opens_9 (fun H f9 hn9 hz9 oq9 => ?_)
  have hout : va_at D vwCl (ao, oC g (cn (if cPiece (bCh z (bQk z (bShort z d) 9 (bU z d) d)) (bShort z d) = -1 then -1 else bOp z (bShort z d) (bQk z (bShort z d) 9 (bU z d) d) 9 (some d) i))) H := va_lcongr (fun j hj => by rw [show j = 0 by omega, jUp_s]) hn9
  have hPic := bW_kept hPic (fun q hq => oq9 _ (fun e9 => hao q hq e9.symm))
  have hTl := hTl.put hz9 oq9 (f := f9)
  refine lv_goto (tgt := 17) hx hb dL_opens_10 (by decide) ?_
  refine jv_iconst hx hb dL_opens_17 ?_
  exact l_iret hx hb hr hlocks dL_opens_18 rfl hPic hout (fun _ => rfl) hTl
set_option maxHeartbeats 4000000 in
set_option maxRecDepth 100000 in
theorem w_opens1 (l : Launch) (hl9 : l.stackTraces = false) (D : va_G) (g : Nat → ClassId) (z0 : Nat) (ad : Nat → Nat) (z : bSt) (rl : Nat → Nat → Bool) (ff : Nat → Nat → Int) (hz : bOK z) (hj : bInj ad) (ao : Nat) (v0 : Int) (hao : ∀ q, q < 98 → ao ≠ ad q) (d i : Int) (h_d : -2147483648 ≤ d ∧ d < 2147483648) (hbad : ¬ (0 ≤ d ∧ d ≤ (bN z : Int) - 1)) : Met l yL_opens wsL_opens ({ frames := 8, cells := 1, slots := 6, locals := 138 }) (lPc z0 [.ref (ad 0), .int (jI (d)), .int (jI (i)), .ref ao] D g ad ao z rl ff v0) (lQ D g ad ao z 1 0) 1 6 (lFr ad ao) := by
  refine j_ofWH (cc := cL_opens) (maxL := 5) (ret := some .int) (hh := [(0, 10, 13, 13)]) (by decide) rfl ?_
  intro p e s m args below meth c s₁ B hml hv
  obtain ⟨⟨rfl, ⟨hPic, hout⟩, hK⟩, hxT⟩ := hv
  have hx := B.exec
  have hb := B.bytes
  have hr := B.returns
  have hts := atoms_spec (ws := wsL_opens) B.pre
  have hown : s.vm.findClass RL = some m.cls := findClass_of_methodNamed B.named
  have hlocks := B.notSynchronized
  have htab : c.exceptionTable.toList = tableOf [(0, 10, 13, 13)] := vx_table (x := yL_opens) (y := yL_opens) (bytes := cL_opens) (maxL' := 5) (ret' := some .int) B (hts wL_opens (List.mem_cons_self (a := wL_opens) (l := gAll)))
  have hx0 : va_at D vwCl (ad 0, .inr (3, [.ref (ad 1), .int (jI (bN z : Int)), .int (jI (bV z))])) s.heap := hPic 0 (by omega)
  have hl := lv_entry ([.ref (ad 0), .int (jI (d)), .int (jI (i)), .ref ao]) (n := 5) (Nat.le_of_ble_eq_true rfl)
  rw [lg_entry_eq]
  generalize (lg_sl ([.ref (ad 0), .int (jI (d)), .int (jI (i)), .ref ao]) ++ List.replicate (5 - (lg_sl ([.ref (ad 0), .int (jI (d)), .int (jI (i)), .ref ao])).length) Slot.unset).toArray = ls at hl ⊢
  have hl : lv_has ls 5 [(0, .ref (ad 0)), (1, .int (jI (d))), (2, .int (jI (i))), (3, .ref ao)] := hl
  refine lv_aload_n hx hb dL_opens_0 rfl (lv_at hl 3 rfl) ?_
  refine jv_iconst hx hb dL_opens_1 ?_
  refine lv_aload_n hx hb dL_opens_2 rfl (lv_at hl 0 rfl) ?_
  refine lv_iload_n hx hb dL_opens_3 rfl (lv_at hl 1 rfl) ?_
  refine lv_iload_n hx hb dL_opens_4 rfl (lv_at hl 2 rfl) ?_
  refine px_catch (vx_runV (As := [.int (jI (d)), .int (jI (i))]) (rest := [.int (jI (0)), .ref ao]) ⟨hx, hb, hml, hown, hts⟩ (x_opens1 l hl9 D g z0 ad z rl ff hz d i h_d hbad) (cwV 2 hts (gd_V kw_404 kw_405 kw_406 kw_12 kcX3_opens) rfl rfl rfl (by decide +kernel) ⟨Nat.le_of_ble_eq_true rfl, Nat.le_of_ble_eq_true rfl⟩) (px_preV hPic hK hxT rfl hx0) rfl rfl hl.1 rfl (lv_room (Nat.le_of_ble_eq_true rfl)) dL_opens_5 ⟨Nat.le_of_ble_eq_true rfl, Nat.le_of_ble_eq_true rfl⟩) (fun ce q9 H g1 g2 g3 g4 g5 => ?_)
  have hout := hout.kept (g5 ao hout.lt)
  have hPic := bW_kept hPic (fun q hq => g5 _ (bW_lt hPic hq))
  have hTl : lTo ad ao s.heap H [] := ⟨g4, fun q h1 _ => g5 q h1, fun _ h => nomatch h⟩
  refine vx_catch (name := eIAE) hown [] ⟨0, 10, 13, 13⟩ [] (htab.trans rfl) (fun z9 h9 => nomatch h9) rfl (by decide) (hts _ (List.mem_cons_of_mem _ kw_134)) (hxT.2.1.1.use rfl) g1 g2 g3 ?_
  refine W.eq (g2 := F0 m 13 ls [.ref q9]) rfl ?_
  refine lv_astore (lv' := [(4, .ref q9), (0, .ref (ad 0)), (1, .int (jI (d))), (2, .int (jI (i))), (3, .ref ao)]) hx hb dL_opens_13 hl (by decide) rfl (fun ls hl => ?_)
  refine jv_iconst hx hb dL_opens_15 ?_
  exact l_iret hx hb hr hlocks dL_opens_16 rfl hPic hout (fun h9 => absurd h9 (by decide)) hTl
set_option maxHeartbeats 4000000 in
set_option maxRecDepth 100000 in
theorem w_opens2 (l : Launch) (hl9 : l.stackTraces = false) (D : va_G) (g : Nat → ClassId) (z0 : Nat) (ad : Nat → Nat) (z : bSt) (rl : Nat → Nat → Bool) (ff : Nat → Nat → Int) (hz : bOK z) (hj : bInj ad) (ao : Nat) (v0 : Int) (hao : ∀ q, q < 98 → ao ≠ ad q) (d : Nat) (i : Int) (hd : d < bN z) (h_i : -2147483648 ≤ i ∧ i < 2147483648) (hbad : ¬ 0 ≤ i) : Met l yL_opens wsL_opens ({ frames := 8, cells := 1, slots := 6, locals := 139 }) (lPc z0 [.ref (ad 0), .int (jI ((d : Int))), .int (jI (i)), .ref ao] D g ad ao z rl ff v0) (lQ D g ad ao z 1 0) 1 6 (lFr ad ao) := by
  refine j_ofWH (cc := cL_opens) (maxL := 5) (ret := some .int) (hh := [(0, 10, 13, 13)]) (by decide) rfl ?_
  intro p e s m args below meth c s₁ B hml hv
  obtain ⟨⟨rfl, ⟨hPic, hout⟩, hK⟩, hxT⟩ := hv
  have hx := B.exec
  have hb := B.bytes
  have hr := B.returns
  have hts := atoms_spec (ws := wsL_opens) B.pre
  have hown : s.vm.findClass RL = some m.cls := findClass_of_methodNamed B.named
  have hlocks := B.notSynchronized
  have htab : c.exceptionTable.toList = tableOf [(0, 10, 13, 13)] := vx_table (x := yL_opens) (y := yL_opens) (bytes := cL_opens) (maxL' := 5) (ret' := some .int) B (hts wL_opens (List.mem_cons_self (a := wL_opens) (l := gAll)))
  have hx0 : va_at D vwCl (ad 0, .inr (3, [.ref (ad 1), .int (jI (bN z : Int)), .int (jI (bV z))])) s.heap := hPic 0 (by omega)
  have hl := lv_entry ([.ref (ad 0), .int (jI ((d : Int))), .int (jI (i)), .ref ao]) (n := 5) (Nat.le_of_ble_eq_true rfl)
  rw [lg_entry_eq]
  generalize (lg_sl ([.ref (ad 0), .int (jI ((d : Int))), .int (jI (i)), .ref ao]) ++ List.replicate (5 - (lg_sl ([.ref (ad 0), .int (jI ((d : Int))), .int (jI (i)), .ref ao])).length) Slot.unset).toArray = ls at hl ⊢
  have hl : lv_has ls 5 [(0, .ref (ad 0)), (1, .int (jI ((d : Int)))), (2, .int (jI (i))), (3, .ref ao)] := hl
  refine lv_aload_n hx hb dL_opens_0 rfl (lv_at hl 3 rfl) ?_
  refine jv_iconst hx hb dL_opens_1 ?_
  refine lv_aload_n hx hb dL_opens_2 rfl (lv_at hl 0 rfl) ?_
  refine lv_iload_n hx hb dL_opens_3 rfl (lv_at hl 1 rfl) ?_
  refine lv_iload_n hx hb dL_opens_4 rfl (lv_at hl 2 rfl) ?_
  refine px_catch (vx_runV (As := [.int (jI ((d : Int))), .int (jI (i))]) (rest := [.int (jI (0)), .ref ao]) ⟨hx, hb, hml, hown, hts⟩ (x_opens2 l hl9 D g z0 ad z rl ff hz d i hd h_i hbad) (cwV 2 hts (gd_V kw_404 kw_405 kw_406 kw_12 kcX3_opens) rfl rfl rfl (by decide +kernel) ⟨Nat.le_of_ble_eq_true rfl, Nat.le_of_ble_eq_true rfl⟩) (px_preV hPic hK hxT rfl hx0) rfl rfl hl.1 rfl (lv_room (Nat.le_of_ble_eq_true rfl)) dL_opens_5 ⟨Nat.le_of_ble_eq_true rfl, Nat.le_of_ble_eq_true rfl⟩) (fun ce q9 H g1 g2 g3 g4 g5 => ?_)
  have hout := hout.kept (g5 ao hout.lt)
  have hPic := bW_kept hPic (fun q hq => g5 _ (bW_lt hPic hq))
  have hTl : lTo ad ao s.heap H [] := ⟨g4, fun q h1 _ => g5 q h1, fun _ h => nomatch h⟩
  refine vx_catch (name := eIAE) hown [] ⟨0, 10, 13, 13⟩ [] (htab.trans rfl) (fun z9 h9 => nomatch h9) rfl (by decide) (hts _ (List.mem_cons_of_mem _ kw_134)) (hxT.2.1.1.use rfl) g1 g2 g3 ?_
  refine W.eq (g2 := F0 m 13 ls [.ref q9]) rfl ?_
  refine lv_astore (lv' := [(4, .ref q9), (0, .ref (ad 0)), (1, .int (jI ((d : Int)))), (2, .int (jI (i))), (3, .ref ao)]) hx hb dL_opens_13 hl (by decide) rfl (fun ls hl => ?_)
  refine jv_iconst hx hb dL_opens_15 ?_
  exact l_iret hx hb hr hlocks dL_opens_16 rfl hPic hout (fun h9 => absurd h9 (by decide)) hTl
set_option maxHeartbeats 4000000 in
set_option maxRecDepth 100000 in
theorem w_order0 (l : Launch) (hl9 : l.stackTraces = false) (D : va_G) (g : Nat → ClassId) (z0 : Nat) (ad : Nat → Nat) (z : bSt) (rl : Nat → Nat → Bool) (ff : Nat → Nat → Int) (hz : bOK z) (hj : bInj ad) (ao : Nat) (v0 : Int) (hao : ∀ q, q < 98 → ao ≠ ad q) (d u : Nat) (mg : Int) (hd : d < bN z) (hu : u < bN z) (hdu : d ≠ u) (hmg : 0 ≤ mg ∧ mg ≤ 10000) : Met l yL_order wsL_order ({ frames := 6, cells := 1, slots := 6, locals := 163 }) (lPc z0 [.ref (ad 0), .int (jI ((d : Int))), .int (jI ((u : Int))), .int (jI (mg)), .ref ao] D g ad ao z rl ff v0) (lQ D g ad ao z 0 (cFb (cBrk (bCh z d) (bCh z u) mg) (cEnd (bCh z d) (bCh z u)))) 1 6 (lFr ad ao) := by
  refine j_ofWH (cc := cL_order) (maxL := 6) (ret := some .int) (hh := [(0, 12, 15, 13)]) (by decide) rfl ?_
  intro p e s m args below meth c s₁ B hml hv
  obtain ⟨⟨rfl, ⟨hPic, hout⟩, hK⟩, hxT⟩ := hv
  have hx := B.exec
  have hb := B.bytes
  have hr := B.returns
  have hts := atoms_spec (ws := wsL_order) B.pre
  have hown : s.vm.findClass RL = some m.cls := findClass_of_methodNamed B.named
  have hlocks := B.notSynchronized
  have htab : c.exceptionTable.toList = tableOf [(0, 12, 15, 13)] := vx_table (x := yL_order) (y := yL_order) (bytes := cL_order) (maxL' := 6) (ret' := some .int) B (hts wL_order (List.mem_cons_self (a := wL_order) (l := gAll)))
  have hx0 : va_at D vwCl (ad 0, .inr (3, [.ref (ad 1), .int (jI (bN z : Int)), .int (jI (bV z))])) s.heap := hPic 0 (by omega)
  have hl := lv_entry ([.ref (ad 0), .int (jI ((d : Int))), .int (jI ((u : Int))), .int (jI (mg)), .ref ao]) (n := 6) (Nat.le_of_ble_eq_true rfl)
  rw [lg_entry_eq]
  generalize (lg_sl ([.ref (ad 0), .int (jI ((d : Int))), .int (jI ((u : Int))), .int (jI (mg)), .ref ao]) ++ List.replicate (6 - (lg_sl ([.ref (ad 0), .int (jI ((d : Int))), .int (jI ((u : Int))), .int (jI (mg)), .ref ao])).length) Slot.unset).toArray = ls at hl ⊢
  have hl : lv_has ls 6 [(0, .ref (ad 0)), (1, .int (jI ((d : Int)))), (2, .int (jI ((u : Int)))), (3, .int (jI (mg))), (4, .ref ao)] := hl
  refine W.widen (Nat.zero_le 1) (Nat.zero_le 6) ?_
  refine lv_aload hx hb dL_order_0 (lv_at hl 4 rfl) ?_
  refine jv_iconst hx hb dL_order_2 ?_
  refine lv_aload_n hx hb dL_order_3 rfl (lv_at hl 0 rfl) ?_
  refine lv_iload_n hx hb dL_order_4 rfl (lv_at hl 1 rfl) ?_
  refine lv_iload_n hx hb dL_order_5 rfl (lv_at hl 2 rfl) ?_
  refine lv_iload_n hx hb dL_order_6 rfl (lv_at hl 3 rfl) ?_
  refine pu_call1 (va_runV (As := [.int (jI ((d : Int))), .int (jI ((u : Int))), .int (jI (mg))]) (rest := [.int (jI (0)), .ref ao]) ⟨hx, hb, hml, hown, hts⟩ (c_order l D g ad z rl ff hz d u mg hd hu hdu hmg) (cwV 3 hts (gd_V kw_304 kw_305 kw_306 kw_12 kcX3_order) rfl rfl rfl (by decide +kernel) ⟨Nat.le_of_ble_eq_true rfl, Nat.le_of_ble_eq_true rfl⟩) (pu_preV hPic hK rfl hx0) rfl rfl hl.1 rfl (lv_room (Nat.le_of_ble_eq_true rfl)) dL_order_7 ⟨Nat.le_of_ble_eq_true rfl, Nat.le_of_ble_eq_true rfl⟩) ?_
  have hTl : lTo ad ao s.heap s.heap [] := lTo.rf
  rw [← jI_cn (cFb (cBrk (bCh z d) (bCh z u) mg) (cEnd (bCh z d) (bCh z u)))]
  refine jv_i2l hx hb dL_order_10 (cn_rng _) ?_
  refine jv_last (i := 0) (gg := fun _ => v0) hx hb hK hout 4 rfl rfl (by decide) (by decide) dL_order_11 (fun H f9 hn9 hz9 oq9 => ?_)
  have hout : va_at D vwCl (ao, oC g (cn (cFb (cBrk (bCh z d) (bCh z u) mg) (cEnd (bCh z d) (bCh z u))))) H := va_lcongr (fun j hj => by rw [show j = 0 by omega, jUp_s]) hn9
  have hPic := bW_kept hPic (fun q hq => oq9 _ (fun e9 => hao q hq e9.symm))
  have hTl := hTl.put hz9 oq9 (f := f9)
  refine lv_goto (tgt := 19) hx hb dL_order_12 (by decide) ?_
  refine jv_iconst hx hb dL_order_19 ?_
  exact l_iret hx hb hr hlocks dL_order_20 rfl hPic hout (fun _ => rfl) hTl
set_option maxHeartbeats 4000000 in
set_option maxRecDepth 100000 in
theorem w_order1 (l : Launch) (hl9 : l.stackTraces = false) (D : va_G) (g : Nat → ClassId) (z0 : Nat) (ad : Nat → Nat) (z : bSt) (rl : Nat → Nat → Bool) (ff : Nat → Nat → Int) (hz : bOK z) (hj : bInj ad) (ao : Nat) (v0 : Int) (hao : ∀ q, q < 98 → ao ≠ ad q) (d u mg : Int) (h_d : -2147483648 ≤ d ∧ d < 2147483648) (h_u : -2147483648 ≤ u ∧ u < 2147483648) (h_mg : -2147483648 ≤ mg ∧ mg < 2147483648) (hbad : ¬ (d ≠ u ∧ (0 ≤ mg ∧ mg ≤ 10000))) : Met l yL_order wsL_order ({ frames := 9, cells := 1, slots := 6, locals := 157 }) (lPc z0 [.ref (ad 0), .int (jI (d)), .int (jI (u)), .int (jI (mg)), .ref ao] D g ad ao z rl ff v0) (lQ D g ad ao z 1 0) 1 6 (lFr ad ao) := by
  refine j_ofWH (cc := cL_order) (maxL := 6) (ret := some .int) (hh := [(0, 12, 15, 13)]) (by decide) rfl ?_
  intro p e s m args below meth c s₁ B hml hv
  obtain ⟨⟨rfl, ⟨hPic, hout⟩, hK⟩, hxT⟩ := hv
  have hx := B.exec
  have hb := B.bytes
  have hr := B.returns
  have hts := atoms_spec (ws := wsL_order) B.pre
  have hown : s.vm.findClass RL = some m.cls := findClass_of_methodNamed B.named
  have hlocks := B.notSynchronized
  have htab : c.exceptionTable.toList = tableOf [(0, 12, 15, 13)] := vx_table (x := yL_order) (y := yL_order) (bytes := cL_order) (maxL' := 6) (ret' := some .int) B (hts wL_order (List.mem_cons_self (a := wL_order) (l := gAll)))
  have hx0 : va_at D vwCl (ad 0, .inr (3, [.ref (ad 1), .int (jI (bN z : Int)), .int (jI (bV z))])) s.heap := hPic 0 (by omega)
  have hl := lv_entry ([.ref (ad 0), .int (jI (d)), .int (jI (u)), .int (jI (mg)), .ref ao]) (n := 6) (Nat.le_of_ble_eq_true rfl)
  rw [lg_entry_eq]
  generalize (lg_sl ([.ref (ad 0), .int (jI (d)), .int (jI (u)), .int (jI (mg)), .ref ao]) ++ List.replicate (6 - (lg_sl ([.ref (ad 0), .int (jI (d)), .int (jI (u)), .int (jI (mg)), .ref ao])).length) Slot.unset).toArray = ls at hl ⊢
  have hl : lv_has ls 6 [(0, .ref (ad 0)), (1, .int (jI (d))), (2, .int (jI (u))), (3, .int (jI (mg))), (4, .ref ao)] := hl
  refine lv_aload hx hb dL_order_0 (lv_at hl 4 rfl) ?_
  refine jv_iconst hx hb dL_order_2 ?_
  refine lv_aload_n hx hb dL_order_3 rfl (lv_at hl 0 rfl) ?_
  refine lv_iload_n hx hb dL_order_4 rfl (lv_at hl 1 rfl) ?_
  refine lv_iload_n hx hb dL_order_5 rfl (lv_at hl 2 rfl) ?_
  refine lv_iload_n hx hb dL_order_6 rfl (lv_at hl 3 rfl) ?_
  refine px_catch (vx_runV (As := [.int (jI (d)), .int (jI (u)), .int (jI (mg))]) (rest := [.int (jI (0)), .ref ao]) ⟨hx, hb, hml, hown, hts⟩ (x_order1 l hl9 D g z0 ad z rl ff hz d u mg h_d h_u h_mg hbad) (cwV 3 hts (gd_V kw_304 kw_305 kw_306 kw_12 kcX3_order) rfl rfl rfl (by decide +kernel) ⟨Nat.le_of_ble_eq_true rfl, Nat.le_of_ble_eq_true rfl⟩) (px_preV hPic hK hxT rfl hx0) rfl rfl hl.1 rfl (lv_room (Nat.le_of_ble_eq_true rfl)) dL_order_7 ⟨Nat.le_of_ble_eq_true rfl, Nat.le_of_ble_eq_true rfl⟩) (fun ce q9 H g1 g2 g3 g4 g5 => ?_)
  have hout := hout.kept (g5 ao hout.lt)
  have hPic := bW_kept hPic (fun q hq => g5 _ (bW_lt hPic hq))
  have hTl : lTo ad ao s.heap H [] := ⟨g4, fun q h1 _ => g5 q h1, fun _ h => nomatch h⟩
  refine vx_catch (name := eIAE) hown [] ⟨0, 12, 15, 13⟩ [] (htab.trans rfl) (fun z9 h9 => nomatch h9) rfl (by decide) (hts _ (List.mem_cons_of_mem _ kw_134)) (hxT.2.1.1.use rfl) g1 g2 g3 ?_
  refine W.eq (g2 := F0 m 15 ls [.ref q9]) rfl ?_
  refine lv_astore (lv' := [(5, .ref q9), (0, .ref (ad 0)), (1, .int (jI (d))), (2, .int (jI (u))), (3, .int (jI (mg))), (4, .ref ao)]) hx hb dL_order_15 hl (by decide) rfl (fun ls hl => ?_)
  refine jv_iconst hx hb dL_order_17 ?_
  exact l_iret hx hb hr hlocks dL_order_18 rfl hPic hout (fun h9 => absurd h9 (by decide)) hTl
set_option maxHeartbeats 4000000 in
set_option maxRecDepth 100000 in
theorem w_order2 (l : Launch) (hl9 : l.stackTraces = false) (D : va_G) (g : Nat → ClassId) (z0 : Nat) (ad : Nat → Nat) (z : bSt) (rl : Nat → Nat → Bool) (ff : Nat → Nat → Int) (hz : bOK z) (hj : bInj ad) (ao : Nat) (v0 : Int) (hao : ∀ q, q < 98 → ao ≠ ad q) (d u mg : Int) (h_d : -2147483648 ≤ d ∧ d < 2147483648) (h_u : -2147483648 ≤ u ∧ u < 2147483648) (hxy : d ≠ u) (hmg : 0 ≤ mg ∧ mg ≤ 10000) (hbad : ¬ (0 ≤ d ∧ d ≤ (bN z : Int) - 1)) : Met l yL_order wsL_order ({ frames := 8, cells := 1, slots := 6, locals := 134 }) (lPc z0 [.ref (ad 0), .int (jI (d)), .int (jI (u)), .int (jI (mg)), .ref ao] D g ad ao z rl ff v0) (lQ D g ad ao z 1 0) 1 6 (lFr ad ao) := by
  refine j_ofWH (cc := cL_order) (maxL := 6) (ret := some .int) (hh := [(0, 12, 15, 13)]) (by decide) rfl ?_
  intro p e s m args below meth c s₁ B hml hv
  obtain ⟨⟨rfl, ⟨hPic, hout⟩, hK⟩, hxT⟩ := hv
  have hx := B.exec
  have hb := B.bytes
  have hr := B.returns
  have hts := atoms_spec (ws := wsL_order) B.pre
  have hown : s.vm.findClass RL = some m.cls := findClass_of_methodNamed B.named
  have hlocks := B.notSynchronized
  have htab : c.exceptionTable.toList = tableOf [(0, 12, 15, 13)] := vx_table (x := yL_order) (y := yL_order) (bytes := cL_order) (maxL' := 6) (ret' := some .int) B (hts wL_order (List.mem_cons_self (a := wL_order) (l := gAll)))
  have hx0 : va_at D vwCl (ad 0, .inr (3, [.ref (ad 1), .int (jI (bN z : Int)), .int (jI (bV z))])) s.heap := hPic 0 (by omega)
  have hl := lv_entry ([.ref (ad 0), .int (jI (d)), .int (jI (u)), .int (jI (mg)), .ref ao]) (n := 6) (Nat.le_of_ble_eq_true rfl)
  rw [lg_entry_eq]
  generalize (lg_sl ([.ref (ad 0), .int (jI (d)), .int (jI (u)), .int (jI (mg)), .ref ao]) ++ List.replicate (6 - (lg_sl ([.ref (ad 0), .int (jI (d)), .int (jI (u)), .int (jI (mg)), .ref ao])).length) Slot.unset).toArray = ls at hl ⊢
  have hl : lv_has ls 6 [(0, .ref (ad 0)), (1, .int (jI (d))), (2, .int (jI (u))), (3, .int (jI (mg))), (4, .ref ao)] := hl
  refine lv_aload hx hb dL_order_0 (lv_at hl 4 rfl) ?_
  refine jv_iconst hx hb dL_order_2 ?_
  refine lv_aload_n hx hb dL_order_3 rfl (lv_at hl 0 rfl) ?_
  refine lv_iload_n hx hb dL_order_4 rfl (lv_at hl 1 rfl) ?_
  refine lv_iload_n hx hb dL_order_5 rfl (lv_at hl 2 rfl) ?_
  refine lv_iload_n hx hb dL_order_6 rfl (lv_at hl 3 rfl) ?_
  refine px_catch (vx_runV (As := [.int (jI (d)), .int (jI (u)), .int (jI (mg))]) (rest := [.int (jI (0)), .ref ao]) ⟨hx, hb, hml, hown, hts⟩ (x_order2 l hl9 D g z0 ad z rl ff hz d u mg h_d h_u hxy hmg hbad) (cwV 3 hts (gd_V kw_304 kw_305 kw_306 kw_12 kcX3_order) rfl rfl rfl (by decide +kernel) ⟨Nat.le_of_ble_eq_true rfl, Nat.le_of_ble_eq_true rfl⟩) (px_preV hPic hK hxT rfl hx0) rfl rfl hl.1 rfl (lv_room (Nat.le_of_ble_eq_true rfl)) dL_order_7 ⟨Nat.le_of_ble_eq_true rfl, Nat.le_of_ble_eq_true rfl⟩) (fun ce q9 H g1 g2 g3 g4 g5 => ?_)
  have hout := hout.kept (g5 ao hout.lt)
  have hPic := bW_kept hPic (fun q hq => g5 _ (bW_lt hPic hq))
  have hTl : lTo ad ao s.heap H [] := ⟨g4, fun q h1 _ => g5 q h1, fun _ h => nomatch h⟩
  refine vx_catch (name := eIAE) hown [] ⟨0, 12, 15, 13⟩ [] (htab.trans rfl) (fun z9 h9 => nomatch h9) rfl (by decide) (hts _ (List.mem_cons_of_mem _ kw_134)) (hxT.2.1.1.use rfl) g1 g2 g3 ?_
  refine W.eq (g2 := F0 m 15 ls [.ref q9]) rfl ?_
  refine lv_astore (lv' := [(5, .ref q9), (0, .ref (ad 0)), (1, .int (jI (d))), (2, .int (jI (u))), (3, .int (jI (mg))), (4, .ref ao)]) hx hb dL_order_15 hl (by decide) rfl (fun ls hl => ?_)
  refine jv_iconst hx hb dL_order_17 ?_
  exact l_iret hx hb hr hlocks dL_order_18 rfl hPic hout (fun h9 => absurd h9 (by decide)) hTl
set_option maxHeartbeats 4000000 in
set_option maxRecDepth 100000 in
theorem w_order3 (l : Launch) (hl9 : l.stackTraces = false) (D : va_G) (g : Nat → ClassId) (z0 : Nat) (ad : Nat → Nat) (z : bSt) (rl : Nat → Nat → Bool) (ff : Nat → Nat → Int) (hz : bOK z) (hj : bInj ad) (ao : Nat) (v0 : Int) (hao : ∀ q, q < 98 → ao ≠ ad q) (d : Nat) (u mg : Int) (hd : d < bN z) (h_u : -2147483648 ≤ u ∧ u < 2147483648) (hxy : (d : Int) ≠ u) (hmg : 0 ≤ mg ∧ mg ≤ 10000) (hbad : ¬ (0 ≤ u ∧ u ≤ (bN z : Int) - 1)) : Met l yL_order wsL_order ({ frames := 8, cells := 1, slots := 6, locals := 134 }) (lPc z0 [.ref (ad 0), .int (jI ((d : Int))), .int (jI (u)), .int (jI (mg)), .ref ao] D g ad ao z rl ff v0) (lQ D g ad ao z 1 0) 1 6 (lFr ad ao) := by
  refine j_ofWH (cc := cL_order) (maxL := 6) (ret := some .int) (hh := [(0, 12, 15, 13)]) (by decide) rfl ?_
  intro p e s m args below meth c s₁ B hml hv
  obtain ⟨⟨rfl, ⟨hPic, hout⟩, hK⟩, hxT⟩ := hv
  have hx := B.exec
  have hb := B.bytes
  have hr := B.returns
  have hts := atoms_spec (ws := wsL_order) B.pre
  have hown : s.vm.findClass RL = some m.cls := findClass_of_methodNamed B.named
  have hlocks := B.notSynchronized
  have htab : c.exceptionTable.toList = tableOf [(0, 12, 15, 13)] := vx_table (x := yL_order) (y := yL_order) (bytes := cL_order) (maxL' := 6) (ret' := some .int) B (hts wL_order (List.mem_cons_self (a := wL_order) (l := gAll)))
  have hx0 : va_at D vwCl (ad 0, .inr (3, [.ref (ad 1), .int (jI (bN z : Int)), .int (jI (bV z))])) s.heap := hPic 0 (by omega)
  have hl := lv_entry ([.ref (ad 0), .int (jI ((d : Int))), .int (jI (u)), .int (jI (mg)), .ref ao]) (n := 6) (Nat.le_of_ble_eq_true rfl)
  rw [lg_entry_eq]
  generalize (lg_sl ([.ref (ad 0), .int (jI ((d : Int))), .int (jI (u)), .int (jI (mg)), .ref ao]) ++ List.replicate (6 - (lg_sl ([.ref (ad 0), .int (jI ((d : Int))), .int (jI (u)), .int (jI (mg)), .ref ao])).length) Slot.unset).toArray = ls at hl ⊢
  have hl : lv_has ls 6 [(0, .ref (ad 0)), (1, .int (jI ((d : Int)))), (2, .int (jI (u))), (3, .int (jI (mg))), (4, .ref ao)] := hl
  refine lv_aload hx hb dL_order_0 (lv_at hl 4 rfl) ?_
  refine jv_iconst hx hb dL_order_2 ?_
  refine lv_aload_n hx hb dL_order_3 rfl (lv_at hl 0 rfl) ?_
  refine lv_iload_n hx hb dL_order_4 rfl (lv_at hl 1 rfl) ?_
  refine lv_iload_n hx hb dL_order_5 rfl (lv_at hl 2 rfl) ?_
  refine lv_iload_n hx hb dL_order_6 rfl (lv_at hl 3 rfl) ?_
  refine px_catch (vx_runV (As := [.int (jI ((d : Int))), .int (jI (u)), .int (jI (mg))]) (rest := [.int (jI (0)), .ref ao]) ⟨hx, hb, hml, hown, hts⟩ (x_order3 l hl9 D g z0 ad z rl ff hz d u mg hd h_u hxy hmg hbad) (cwV 3 hts (gd_V kw_304 kw_305 kw_306 kw_12 kcX3_order) rfl rfl rfl (by decide +kernel) ⟨Nat.le_of_ble_eq_true rfl, Nat.le_of_ble_eq_true rfl⟩) (px_preV hPic hK hxT rfl hx0) rfl rfl hl.1 rfl (lv_room (Nat.le_of_ble_eq_true rfl)) dL_order_7 ⟨Nat.le_of_ble_eq_true rfl, Nat.le_of_ble_eq_true rfl⟩) (fun ce q9 H g1 g2 g3 g4 g5 => ?_)
  have hout := hout.kept (g5 ao hout.lt)
  have hPic := bW_kept hPic (fun q hq => g5 _ (bW_lt hPic hq))
  have hTl : lTo ad ao s.heap H [] := ⟨g4, fun q h1 _ => g5 q h1, fun _ h => nomatch h⟩
  refine vx_catch (name := eIAE) hown [] ⟨0, 12, 15, 13⟩ [] (htab.trans rfl) (fun z9 h9 => nomatch h9) rfl (by decide) (hts _ (List.mem_cons_of_mem _ kw_134)) (hxT.2.1.1.use rfl) g1 g2 g3 ?_
  refine W.eq (g2 := F0 m 15 ls [.ref q9]) rfl ?_
  refine lv_astore (lv' := [(5, .ref q9), (0, .ref (ad 0)), (1, .int (jI ((d : Int)))), (2, .int (jI (u))), (3, .int (jI (mg))), (4, .ref ao)]) hx hb dL_order_15 hl (by decide) rfl (fun ls hl => ?_)
  refine jv_iconst hx hb dL_order_17 ?_
  exact l_iret hx hb hr hlocks dL_order_18 rfl hPic hout (fun h9 => absurd h9 (by decide)) hTl
set_option maxHeartbeats 4000000 in
set_option maxRecDepth 100000 in
theorem w_broken0 (l : Launch) (hl9 : l.stackTraces = false) (D : va_G) (g : Nat → ClassId) (z0 : Nat) (ad : Nat → Nat) (z : bSt) (rl : Nat → Nat → Bool) (ff : Nat → Nat → Int) (hz : bOK z) (hj : bInj ad) (ao : Nat) (v0 : Int) (hao : ∀ q, q < 98 → ao ≠ ad q) (d u : Nat) (mg : Int) (hd : d < bN z) (hu : u < bN z) (hdu : d ≠ u) (hmg : 0 ≤ mg ∧ mg ≤ 10000) : Met l yL_broken wsL_broken ({ frames := 7, cells := 1, slots := 6, locals := 193 }) (lPc z0 [.ref (ad 0), .int (jI ((d : Int))), .int (jI ((u : Int))), .int (jI (mg)), .ref ao] D g ad ao z rl ff v0) (lQ D g ad ao z 0 (cCnt (cBrk (bCh z d) (bCh z u) mg) (cEnd (bCh z d) (bCh z u)) 13 1 0)) 1 6 (lFr ad ao) := by
  refine j_ofWH (cc := cL_broken) (maxL := 6) (ret := some .int) (hh := [(0, 12, 15, 13)]) (by decide) rfl ?_
  intro p e s m args below meth c s₁ B hml hv
  obtain ⟨⟨rfl, ⟨hPic, hout⟩, hK⟩, hxT⟩ := hv
  have hx := B.exec
  have hb := B.bytes
  have hr := B.returns
  have hts := atoms_spec (ws := wsL_broken) B.pre
  have hown : s.vm.findClass RL = some m.cls := findClass_of_methodNamed B.named
  have hlocks := B.notSynchronized
  have htab : c.exceptionTable.toList = tableOf [(0, 12, 15, 13)] := vx_table (x := yL_broken) (y := yL_broken) (bytes := cL_broken) (maxL' := 6) (ret' := some .int) B (hts wL_broken (List.mem_cons_self (a := wL_broken) (l := gAll)))
  have hx0 : va_at D vwCl (ad 0, .inr (3, [.ref (ad 1), .int (jI (bN z : Int)), .int (jI (bV z))])) s.heap := hPic 0 (by omega)
  have hl := lv_entry ([.ref (ad 0), .int (jI ((d : Int))), .int (jI ((u : Int))), .int (jI (mg)), .ref ao]) (n := 6) (Nat.le_of_ble_eq_true rfl)
  rw [lg_entry_eq]
  generalize (lg_sl ([.ref (ad 0), .int (jI ((d : Int))), .int (jI ((u : Int))), .int (jI (mg)), .ref ao]) ++ List.replicate (6 - (lg_sl ([.ref (ad 0), .int (jI ((d : Int))), .int (jI ((u : Int))), .int (jI (mg)), .ref ao])).length) Slot.unset).toArray = ls at hl ⊢
  have hl : lv_has ls 6 [(0, .ref (ad 0)), (1, .int (jI ((d : Int)))), (2, .int (jI ((u : Int)))), (3, .int (jI (mg))), (4, .ref ao)] := hl
  refine W.widen (Nat.zero_le 1) (Nat.zero_le 6) ?_
  refine lv_aload hx hb dL_broken_0 (lv_at hl 4 rfl) ?_
  refine jv_iconst hx hb dL_broken_2 ?_
  refine lv_aload_n hx hb dL_broken_3 rfl (lv_at hl 0 rfl) ?_
  refine lv_iload_n hx hb dL_broken_4 rfl (lv_at hl 1 rfl) ?_
  refine lv_iload_n hx hb dL_broken_5 rfl (lv_at hl 2 rfl) ?_
  refine lv_iload_n hx hb dL_broken_6 rfl (lv_at hl 3 rfl) ?_
  refine pu_call1 (va_runV (As := [.int (jI ((d : Int))), .int (jI ((u : Int))), .int (jI (mg))]) (rest := [.int (jI (0)), .ref ao]) ⟨hx, hb, hml, hown, hts⟩ (c_broken l D g ad z rl ff hz d u mg hd hu hdu hmg) (cwV 3 hts (gd_V kw_336 kw_337 kw_338 kw_12 kcX3_broken) rfl rfl rfl (by decide +kernel) ⟨Nat.le_of_ble_eq_true rfl, Nat.le_of_ble_eq_true rfl⟩) (pu_preV hPic hK rfl hx0) rfl rfl hl.1 rfl (lv_room (Nat.le_of_ble_eq_true rfl)) dL_broken_7 ⟨Nat.le_of_ble_eq_true rfl, Nat.le_of_ble_eq_true rfl⟩) ?_
  have hTl : lTo ad ao s.heap s.heap [] := lTo.rf
  rw [← jI_cn (cCnt (cBrk (bCh z d) (bCh z u) mg) (cEnd (bCh z d) (bCh z u)) 13 1 0)]
  refine jv_i2l hx hb dL_broken_10 (cn_rng _) ?_
  refine jv_last (i := 0) (gg := fun _ => v0) hx hb hK hout 4 rfl rfl (by decide) (by decide) dL_broken_11 (fun H f9 hn9 hz9 oq9 => ?_)
  have hout : va_at D vwCl (ao, oC g (cn (cCnt (cBrk (bCh z d) (bCh z u) mg) (cEnd (bCh z d) (bCh z u)) 13 1 0))) H := va_lcongr (fun j hj => by rw [show j = 0 by omega, jUp_s]) hn9
  have hPic := bW_kept hPic (fun q hq => oq9 _ (fun e9 => hao q hq e9.symm))
  have hTl := hTl.put hz9 oq9 (f := f9)
  refine lv_goto (tgt := 19) hx hb dL_broken_12 (by decide) ?_
  refine jv_iconst hx hb dL_broken_19 ?_
  exact l_iret hx hb hr hlocks dL_broken_20 rfl hPic hout (fun _ => rfl) hTl
set_option maxHeartbeats 4000000 in
set_option maxRecDepth 100000 in
theorem w_broken1 (l : Launch) (hl9 : l.stackTraces = false) (D : va_G) (g : Nat → ClassId) (z0 : Nat) (ad : Nat → Nat) (z : bSt) (rl : Nat → Nat → Bool) (ff : Nat → Nat → Int) (hz : bOK z) (hj : bInj ad) (ao : Nat) (v0 : Int) (hao : ∀ q, q < 98 → ao ≠ ad q) (d u mg : Int) (h_d : -2147483648 ≤ d ∧ d < 2147483648) (h_u : -2147483648 ≤ u ∧ u < 2147483648) (h_mg : -2147483648 ≤ mg ∧ mg < 2147483648) (hbad : ¬ (d ≠ u ∧ (0 ≤ mg ∧ mg ≤ 10000))) : Met l yL_broken wsL_broken ({ frames := 9, cells := 1, slots := 6, locals := 157 }) (lPc z0 [.ref (ad 0), .int (jI (d)), .int (jI (u)), .int (jI (mg)), .ref ao] D g ad ao z rl ff v0) (lQ D g ad ao z 1 0) 1 6 (lFr ad ao) := by
  refine j_ofWH (cc := cL_broken) (maxL := 6) (ret := some .int) (hh := [(0, 12, 15, 13)]) (by decide) rfl ?_
  intro p e s m args below meth c s₁ B hml hv
  obtain ⟨⟨rfl, ⟨hPic, hout⟩, hK⟩, hxT⟩ := hv
  have hx := B.exec
  have hb := B.bytes
  have hr := B.returns
  have hts := atoms_spec (ws := wsL_broken) B.pre
  have hown : s.vm.findClass RL = some m.cls := findClass_of_methodNamed B.named
  have hlocks := B.notSynchronized
  have htab : c.exceptionTable.toList = tableOf [(0, 12, 15, 13)] := vx_table (x := yL_broken) (y := yL_broken) (bytes := cL_broken) (maxL' := 6) (ret' := some .int) B (hts wL_broken (List.mem_cons_self (a := wL_broken) (l := gAll)))
  have hx0 : va_at D vwCl (ad 0, .inr (3, [.ref (ad 1), .int (jI (bN z : Int)), .int (jI (bV z))])) s.heap := hPic 0 (by omega)
  have hl := lv_entry ([.ref (ad 0), .int (jI (d)), .int (jI (u)), .int (jI (mg)), .ref ao]) (n := 6) (Nat.le_of_ble_eq_true rfl)
  rw [lg_entry_eq]
  generalize (lg_sl ([.ref (ad 0), .int (jI (d)), .int (jI (u)), .int (jI (mg)), .ref ao]) ++ List.replicate (6 - (lg_sl ([.ref (ad 0), .int (jI (d)), .int (jI (u)), .int (jI (mg)), .ref ao])).length) Slot.unset).toArray = ls at hl ⊢
  have hl : lv_has ls 6 [(0, .ref (ad 0)), (1, .int (jI (d))), (2, .int (jI (u))), (3, .int (jI (mg))), (4, .ref ao)] := hl
  refine lv_aload hx hb dL_broken_0 (lv_at hl 4 rfl) ?_
  refine jv_iconst hx hb dL_broken_2 ?_
  refine lv_aload_n hx hb dL_broken_3 rfl (lv_at hl 0 rfl) ?_
  refine lv_iload_n hx hb dL_broken_4 rfl (lv_at hl 1 rfl) ?_
  refine lv_iload_n hx hb dL_broken_5 rfl (lv_at hl 2 rfl) ?_
  refine lv_iload_n hx hb dL_broken_6 rfl (lv_at hl 3 rfl) ?_
  refine px_catch (vx_runV (As := [.int (jI (d)), .int (jI (u)), .int (jI (mg))]) (rest := [.int (jI (0)), .ref ao]) ⟨hx, hb, hml, hown, hts⟩ (x_broken1 l hl9 D g z0 ad z rl ff hz d u mg h_d h_u h_mg hbad) (cwV 3 hts (gd_V kw_336 kw_337 kw_338 kw_12 kcX3_broken) rfl rfl rfl (by decide +kernel) ⟨Nat.le_of_ble_eq_true rfl, Nat.le_of_ble_eq_true rfl⟩) (px_preV hPic hK hxT rfl hx0) rfl rfl hl.1 rfl (lv_room (Nat.le_of_ble_eq_true rfl)) dL_broken_7 ⟨Nat.le_of_ble_eq_true rfl, Nat.le_of_ble_eq_true rfl⟩) (fun ce q9 H g1 g2 g3 g4 g5 => ?_)
  have hout := hout.kept (g5 ao hout.lt)
  have hPic := bW_kept hPic (fun q hq => g5 _ (bW_lt hPic hq))
  have hTl : lTo ad ao s.heap H [] := ⟨g4, fun q h1 _ => g5 q h1, fun _ h => nomatch h⟩
  refine vx_catch (name := eIAE) hown [] ⟨0, 12, 15, 13⟩ [] (htab.trans rfl) (fun z9 h9 => nomatch h9) rfl (by decide) (hts _ (List.mem_cons_of_mem _ kw_134)) (hxT.2.1.1.use rfl) g1 g2 g3 ?_
  refine W.eq (g2 := F0 m 15 ls [.ref q9]) rfl ?_
  refine lv_astore (lv' := [(5, .ref q9), (0, .ref (ad 0)), (1, .int (jI (d))), (2, .int (jI (u))), (3, .int (jI (mg))), (4, .ref ao)]) hx hb dL_broken_15 hl (by decide) rfl (fun ls hl => ?_)
  refine jv_iconst hx hb dL_broken_17 ?_
  exact l_iret hx hb hr hlocks dL_broken_18 rfl hPic hout (fun h9 => absurd h9 (by decide)) hTl
set_option maxHeartbeats 4000000 in
set_option maxRecDepth 100000 in
theorem w_broken2 (l : Launch) (hl9 : l.stackTraces = false) (D : va_G) (g : Nat → ClassId) (z0 : Nat) (ad : Nat → Nat) (z : bSt) (rl : Nat → Nat → Bool) (ff : Nat → Nat → Int) (hz : bOK z) (hj : bInj ad) (ao : Nat) (v0 : Int) (hao : ∀ q, q < 98 → ao ≠ ad q) (d u mg : Int) (h_d : -2147483648 ≤ d ∧ d < 2147483648) (h_u : -2147483648 ≤ u ∧ u < 2147483648) (hxy : d ≠ u) (hmg : 0 ≤ mg ∧ mg ≤ 10000) (hbad : ¬ (0 ≤ d ∧ d ≤ (bN z : Int) - 1)) : Met l yL_broken wsL_broken ({ frames := 8, cells := 1, slots := 6, locals := 134 }) (lPc z0 [.ref (ad 0), .int (jI (d)), .int (jI (u)), .int (jI (mg)), .ref ao] D g ad ao z rl ff v0) (lQ D g ad ao z 1 0) 1 6 (lFr ad ao) := by
  refine j_ofWH (cc := cL_broken) (maxL := 6) (ret := some .int) (hh := [(0, 12, 15, 13)]) (by decide) rfl ?_
  intro p e s m args below meth c s₁ B hml hv
  obtain ⟨⟨rfl, ⟨hPic, hout⟩, hK⟩, hxT⟩ := hv
  have hx := B.exec
  have hb := B.bytes
  have hr := B.returns
  have hts := atoms_spec (ws := wsL_broken) B.pre
  have hown : s.vm.findClass RL = some m.cls := findClass_of_methodNamed B.named
  have hlocks := B.notSynchronized
  have htab : c.exceptionTable.toList = tableOf [(0, 12, 15, 13)] := vx_table (x := yL_broken) (y := yL_broken) (bytes := cL_broken) (maxL' := 6) (ret' := some .int) B (hts wL_broken (List.mem_cons_self (a := wL_broken) (l := gAll)))
  have hx0 : va_at D vwCl (ad 0, .inr (3, [.ref (ad 1), .int (jI (bN z : Int)), .int (jI (bV z))])) s.heap := hPic 0 (by omega)
  have hl := lv_entry ([.ref (ad 0), .int (jI (d)), .int (jI (u)), .int (jI (mg)), .ref ao]) (n := 6) (Nat.le_of_ble_eq_true rfl)
  rw [lg_entry_eq]
  generalize (lg_sl ([.ref (ad 0), .int (jI (d)), .int (jI (u)), .int (jI (mg)), .ref ao]) ++ List.replicate (6 - (lg_sl ([.ref (ad 0), .int (jI (d)), .int (jI (u)), .int (jI (mg)), .ref ao])).length) Slot.unset).toArray = ls at hl ⊢
  have hl : lv_has ls 6 [(0, .ref (ad 0)), (1, .int (jI (d))), (2, .int (jI (u))), (3, .int (jI (mg))), (4, .ref ao)] := hl
  refine lv_aload hx hb dL_broken_0 (lv_at hl 4 rfl) ?_
  refine jv_iconst hx hb dL_broken_2 ?_
  refine lv_aload_n hx hb dL_broken_3 rfl (lv_at hl 0 rfl) ?_
  refine lv_iload_n hx hb dL_broken_4 rfl (lv_at hl 1 rfl) ?_
  refine lv_iload_n hx hb dL_broken_5 rfl (lv_at hl 2 rfl) ?_
  refine lv_iload_n hx hb dL_broken_6 rfl (lv_at hl 3 rfl) ?_
  refine px_catch (vx_runV (As := [.int (jI (d)), .int (jI (u)), .int (jI (mg))]) (rest := [.int (jI (0)), .ref ao]) ⟨hx, hb, hml, hown, hts⟩ (x_broken2 l hl9 D g z0 ad z rl ff hz d u mg h_d h_u hxy hmg hbad) (cwV 3 hts (gd_V kw_336 kw_337 kw_338 kw_12 kcX3_broken) rfl rfl rfl (by decide +kernel) ⟨Nat.le_of_ble_eq_true rfl, Nat.le_of_ble_eq_true rfl⟩) (px_preV hPic hK hxT rfl hx0) rfl rfl hl.1 rfl (lv_room (Nat.le_of_ble_eq_true rfl)) dL_broken_7 ⟨Nat.le_of_ble_eq_true rfl, Nat.le_of_ble_eq_true rfl⟩) (fun ce q9 H g1 g2 g3 g4 g5 => ?_)
  have hout := hout.kept (g5 ao hout.lt)
  have hPic := bW_kept hPic (fun q hq => g5 _ (bW_lt hPic hq))
  have hTl : lTo ad ao s.heap H [] := ⟨g4, fun q h1 _ => g5 q h1, fun _ h => nomatch h⟩
  refine vx_catch (name := eIAE) hown [] ⟨0, 12, 15, 13⟩ [] (htab.trans rfl) (fun z9 h9 => nomatch h9) rfl (by decide) (hts _ (List.mem_cons_of_mem _ kw_134)) (hxT.2.1.1.use rfl) g1 g2 g3 ?_
  refine W.eq (g2 := F0 m 15 ls [.ref q9]) rfl ?_
  refine lv_astore (lv' := [(5, .ref q9), (0, .ref (ad 0)), (1, .int (jI (d))), (2, .int (jI (u))), (3, .int (jI (mg))), (4, .ref ao)]) hx hb dL_broken_15 hl (by decide) rfl (fun ls hl => ?_)
  refine jv_iconst hx hb dL_broken_17 ?_
  exact l_iret hx hb hr hlocks dL_broken_18 rfl hPic hout (fun h9 => absurd h9 (by decide)) hTl
set_option maxHeartbeats 4000000 in
set_option maxRecDepth 100000 in
theorem w_broken3 (l : Launch) (hl9 : l.stackTraces = false) (D : va_G) (g : Nat → ClassId) (z0 : Nat) (ad : Nat → Nat) (z : bSt) (rl : Nat → Nat → Bool) (ff : Nat → Nat → Int) (hz : bOK z) (hj : bInj ad) (ao : Nat) (v0 : Int) (hao : ∀ q, q < 98 → ao ≠ ad q) (d : Nat) (u mg : Int) (hd : d < bN z) (h_u : -2147483648 ≤ u ∧ u < 2147483648) (hxy : (d : Int) ≠ u) (hmg : 0 ≤ mg ∧ mg ≤ 10000) (hbad : ¬ (0 ≤ u ∧ u ≤ (bN z : Int) - 1)) : Met l yL_broken wsL_broken ({ frames := 8, cells := 1, slots := 6, locals := 134 }) (lPc z0 [.ref (ad 0), .int (jI ((d : Int))), .int (jI (u)), .int (jI (mg)), .ref ao] D g ad ao z rl ff v0) (lQ D g ad ao z 1 0) 1 6 (lFr ad ao) := by
  refine j_ofWH (cc := cL_broken) (maxL := 6) (ret := some .int) (hh := [(0, 12, 15, 13)]) (by decide) rfl ?_
  intro p e s m args below meth c s₁ B hml hv
  obtain ⟨⟨rfl, ⟨hPic, hout⟩, hK⟩, hxT⟩ := hv
  have hx := B.exec
  have hb := B.bytes
  have hr := B.returns
  have hts := atoms_spec (ws := wsL_broken) B.pre
  have hown : s.vm.findClass RL = some m.cls := findClass_of_methodNamed B.named
  have hlocks := B.notSynchronized
  have htab : c.exceptionTable.toList = tableOf [(0, 12, 15, 13)] := vx_table (x := yL_broken) (y := yL_broken) (bytes := cL_broken) (maxL' := 6) (ret' := some .int) B (hts wL_broken (List.mem_cons_self (a := wL_broken) (l := gAll)))
  have hx0 : va_at D vwCl (ad 0, .inr (3, [.ref (ad 1), .int (jI (bN z : Int)), .int (jI (bV z))])) s.heap := hPic 0 (by omega)
  have hl := lv_entry ([.ref (ad 0), .int (jI ((d : Int))), .int (jI (u)), .int (jI (mg)), .ref ao]) (n := 6) (Nat.le_of_ble_eq_true rfl)
  rw [lg_entry_eq]
  generalize (lg_sl ([.ref (ad 0), .int (jI ((d : Int))), .int (jI (u)), .int (jI (mg)), .ref ao]) ++ List.replicate (6 - (lg_sl ([.ref (ad 0), .int (jI ((d : Int))), .int (jI (u)), .int (jI (mg)), .ref ao])).length) Slot.unset).toArray = ls at hl ⊢
  have hl : lv_has ls 6 [(0, .ref (ad 0)), (1, .int (jI ((d : Int)))), (2, .int (jI (u))), (3, .int (jI (mg))), (4, .ref ao)] := hl
  refine lv_aload hx hb dL_broken_0 (lv_at hl 4 rfl) ?_
  refine jv_iconst hx hb dL_broken_2 ?_
  refine lv_aload_n hx hb dL_broken_3 rfl (lv_at hl 0 rfl) ?_
  refine lv_iload_n hx hb dL_broken_4 rfl (lv_at hl 1 rfl) ?_
  refine lv_iload_n hx hb dL_broken_5 rfl (lv_at hl 2 rfl) ?_
  refine lv_iload_n hx hb dL_broken_6 rfl (lv_at hl 3 rfl) ?_
  refine px_catch (vx_runV (As := [.int (jI ((d : Int))), .int (jI (u)), .int (jI (mg))]) (rest := [.int (jI (0)), .ref ao]) ⟨hx, hb, hml, hown, hts⟩ (x_broken3 l hl9 D g z0 ad z rl ff hz d u mg hd h_u hxy hmg hbad) (cwV 3 hts (gd_V kw_336 kw_337 kw_338 kw_12 kcX3_broken) rfl rfl rfl (by decide +kernel) ⟨Nat.le_of_ble_eq_true rfl, Nat.le_of_ble_eq_true rfl⟩) (px_preV hPic hK hxT rfl hx0) rfl rfl hl.1 rfl (lv_room (Nat.le_of_ble_eq_true rfl)) dL_broken_7 ⟨Nat.le_of_ble_eq_true rfl, Nat.le_of_ble_eq_true rfl⟩) (fun ce q9 H g1 g2 g3 g4 g5 => ?_)
  have hout := hout.kept (g5 ao hout.lt)
  have hPic := bW_kept hPic (fun q hq => g5 _ (bW_lt hPic hq))
  have hTl : lTo ad ao s.heap H [] := ⟨g4, fun q h1 _ => g5 q h1, fun _ h => nomatch h⟩
  refine vx_catch (name := eIAE) hown [] ⟨0, 12, 15, 13⟩ [] (htab.trans rfl) (fun z9 h9 => nomatch h9) rfl (by decide) (hts _ (List.mem_cons_of_mem _ kw_134)) (hxT.2.1.1.use rfl) g1 g2 g3 ?_
  refine W.eq (g2 := F0 m 15 ls [.ref q9]) rfl ?_
  refine lv_astore (lv' := [(5, .ref q9), (0, .ref (ad 0)), (1, .int (jI ((d : Int)))), (2, .int (jI (u))), (3, .int (jI (mg))), (4, .ref ao)]) hx hb dL_broken_15 hl (by decide) rfl (fun ls hl => ?_)
  refine jv_iconst hx hb dL_broken_17 ?_
  exact l_iret hx hb hr hlocks dL_broken_18 rfl hPic hout (fun h9 => absurd h9 (by decide)) hTl
