set_option maxRecDepth 20000 in
theorem kw_29 : (.instanceMethod Lib.objectInit : Cond) ∈ gAll := g_mem 29 rfl rfl
set_option maxRecDepth 20000 in
theorem kw_30 : (.code Lib.objectInit ⟨#[0xb1]⟩ 1 none : Cond) ∈ gAll := g_mem 30 rfl rfl
set_option maxRecDepth 20000 in
theorem kw_37 : (.methodLink RX1 3 Lib.objectInit : Cond) ∈ gAll := g_mem 37 rfl rfl
set_option maxRecDepth 20000 in
theorem kw_38 : (.classLink RX1 9 RX0 : Cond) ∈ gAll := g_mem 38 rfl rfl
set_option maxRecDepth 20000 in
theorem kw_39 : (.instantiable RX0 4 : Cond) ∈ gAll := g_mem 39 rfl rfl
set_option maxRecDepth 20000 in
theorem kw_41 : (.instanceMethod yX0_init : Cond) ∈ gAll := g_mem 41 rfl rfl
set_option maxRecDepth 20000 in
theorem kw_43 : (.methodLink RX0 3 Lib.objectInit : Cond) ∈ gAll := g_mem 43 rfl rfl
set_option maxRecDepth 20000 in
theorem kw_63 : (.arrayClass .int : Cond) ∈ gAll := g_mem 63 rfl rfl
set_option maxRecDepth 20000 in
theorem kw_64 : (.classLink RX1 18 "BreakerOrders$Setting" : Cond) ∈ gAll := g_mem 64 rfl rfl
set_option maxRecDepth 20000 in
theorem kw_66 : (.instantiable RX2 3 : Cond) ∈ gAll := g_mem 66 rfl rfl
set_option maxRecDepth 20000 in
theorem kw_67 : (.methodLink RX1 49 yX2_init : Cond) ∈ gAll := g_mem 67 rfl rfl
set_option maxRecDepth 20000 in
theorem kw_68 : (.instanceMethod yX2_init : Cond) ∈ gAll := g_mem 68 rfl rfl
set_option maxRecDepth 20000 in
theorem kw_70 : (.methodLink RX2 3 Lib.objectInit : Cond) ∈ gAll := g_mem 70 rfl rfl
set_option maxRecDepth 20000 in
theorem kw_83 : (.arrayClass .boolean : Cond) ∈ gAll := g_mem 83 rfl rfl
set_option maxRecDepth 20000 in
theorem kw_84 : (.fieldLink RX1 46 "BreakerOrders$Device" "number" "I" : Cond) ∈ gAll := g_mem 84 rfl rfl
set_option maxRecDepth 20000 in
theorem kw_86 : (.fieldLink RX1 12 "BreakerOrders$Device" "curve" "LBreakerOrders$Curve;" : Cond) ∈ gAll := g_mem 86 rfl rfl
set_option maxRecDepth 20000 in
theorem kw_92 : (.fieldLink RX1 28 "BreakerOrders$Device" "firstFor" "[I" : Cond) ∈ gAll := g_mem 92 rfl rfl
set_option maxRecDepth 20000 in
theorem kw_94 : (.fieldLink RX1 32 "BreakerOrders$Device" "above" "LBreakerOrders$Device;" : Cond) ∈ gAll := g_mem 94 rfl rfl
set_option maxRecDepth 20000 in
theorem kw_96 : (.fieldLink RX1 36 "BreakerOrders$Device" "options" "I" : Cond) ∈ gAll := g_mem 96 rfl rfl
set_option maxRecDepth 20000 in
theorem kw_100 : (.fieldLink RX1 43 "BreakerOrders$Device" "impedance" "I" : Cond) ∈ gAll := g_mem 100 rfl rfl
set_option maxHeartbeats 8000000 in
set_option maxRecDepth 100000 in
theorem n_X0 (l : Launch) (D : va_G) (g : Nat → ClassId) (b h : Nat) (hbh : b < h) : Met l yX0_init wsX0_init ({ frames := 1, cells := 3, slots := 18, locals := 18 }) (nPc [.ref b] D g h (fun H => va_at D vwCl (b, .inr (0, [.null, .null, .null, .int (jI 0)])) H)) (nQ b h 3 (fun H => va_at D vwCl (b, .inr (0, [.ref h, .ref (h + 1), .ref (h + 2), .int (jI 0)])) H ∧ va_at D vwCl (h, .inl (g 0, 6, .inl (fun _ => jI 0))) H ∧ va_at D vwCl (h + 1, .inl (g 0, 6, .inl (fun _ => jI 0))) H ∧ va_at D vwCl (h + 2, .inl (g 0, 6, .inl (fun _ => jI 0))) H)) 3 18 (nFr b h) := by
  refine Met.ofW (cc := cX0_init) (maxL := 1) (ret := none) (by decide) rfl ?_
  intro p e s m args below meth c s₁ B hml hv
  obtain ⟨⟨rfl, ⟨hsz, hPic⟩, hK⟩, hnT⟩ := hv
  have hx := B.exec
  have hb := B.bytes
  have hr := B.returns
  have hts := atoms_spec (ws := wsX0_init) B.pre
  have hown : s.vm.findClass RX0 = some m.cls := findClass_of_methodNamed B.named
  have hin : meth.name = "<init>" := (name_of_methodNamed B.named B.method).1
  have hlocks := B.notSynchronized
  have hl := lv_entry ([.ref b]) (n := 1) (Nat.le_of_ble_eq_true rfl)
  rw [lg_entry_eq]
  generalize (lg_sl ([.ref b]) ++ List.replicate (1 - (lg_sl ([.ref b])).length) Slot.unset).toArray = ls at hl ⊢
  have hl : lv_has ls 1 [(0, .ref b)] := hl
  have hF : nF b h s.heap s.heap [] 0 := nF.rf hsz
  refine lv_aload_n hx hb dX0_init_0 rfl (lv_at hl 0 rfl) ?_
  refine W.objInit hx hb hown (hts _ (List.mem_cons_of_mem _ kw_43)) (hts _ (List.mem_cons_of_mem _ kw_29)) (hts _ (List.mem_cons_of_mem _ kw_30)) rfl (by rw [hml]; exact hl.1) rfl dX0_init_1 (Nat.le_of_ble_eq_true rfl) (Nat.le_of_ble_eq_true rfl) ?_
  refine W.eq (g2 := F0 m 4 ls []) rfl ?_
  refine lv_aload_n hx hb dX0_init_4 rfl (lv_at hl 0 rfl) ?_
  refine jv_bipush hx hb dX0_init_5 (by decide) ?_
  refine jn_newi (h := h) (N' := 6) hx hb (hts _ (List.mem_cons_of_mem _ kw_63)) hK 0 rfl rfl (by decide) hsz (Nat.le_of_ble_eq_true rfl) (Nat.le_of_ble_eq_true rfl) dX0_init_7 (fun H n9 z9 o9 => ?_)
  replace hPic := hPic.kept (o9 _ (by omega))
  replace hF := hF.made (by omega) z9 o9
  have hA0 : va_at D vwCl (h, .inl (g 0, 6, .inl (fun _ => jI 0))) H := n9
  replace hsz : H.size = (h + 1) := by omega
  clear n9 z9 o9
  refine jv_putF (D := D) (ci := 0) (v := .ref h) (ty := .array .int) (C := RX0) (T := TX0) (N := 4) hx hb hts (fun w h => List.mem_cons_of_mem _ (uw_X0 w h)) tyX0 tyX0_ok nmX0 hown hK hPic rfl 0 (by decide) (hts _ (List.mem_cons_of_mem _ kw_44)) (fun _ h9 => h9) rfl hin rfl (by decide +kernel) rfl rfl (Nat.le_of_ble_eq_true rfl) dX0_init_9 (fun H f9 hn9 hz9 oq9 => ?_)
  replace hA0 := hA0.kept (oq9 _ (by omega))
  replace hPic : va_at D vwCl (b, .inr (0, [.ref h, .null, .null, .int (jI 0)])) H := hn9
  replace hF := hF.put (by omega) hz9 oq9 (f := f9)
  replace hsz : H.size = (h + 1) := by omega
  clear hn9 hz9 oq9
  refine lv_aload_n hx hb dX0_init_12 rfl (lv_at hl 0 rfl) ?_
  refine jv_bipush hx hb dX0_init_13 (by decide) ?_
  refine jn_newi (h := (h + 1)) (N' := 6) hx hb (hts _ (List.mem_cons_of_mem _ kw_63)) hK 0 rfl rfl (by decide) hsz (Nat.le_of_ble_eq_true rfl) (Nat.le_of_ble_eq_true rfl) dX0_init_15 (fun H n9 z9 o9 => ?_)
  replace hPic := hPic.kept (o9 _ (by omega))
  replace hA0 := hA0.kept (o9 _ (by omega))
  replace hF := hF.made (by omega) z9 o9
  have hA1 : va_at D vwCl ((h + 1), .inl (g 0, 6, .inl (fun _ => jI 0))) H := n9
  replace hsz : H.size = (h + 2) := by omega
  clear n9 z9 o9
  refine jv_putF (D := D) (ci := 0) (v := .ref (h + 1)) (ty := .array .int) (C := RX0) (T := TX0) (N := 4) hx hb hts (fun w h => List.mem_cons_of_mem _ (uw_X0 w h)) tyX0 tyX0_ok nmX0 hown hK hPic rfl 1 (by decide) (hts _ (List.mem_cons_of_mem _ kw_47)) (fun _ h9 => h9) rfl hin rfl (by decide +kernel) rfl rfl (Nat.le_of_ble_eq_true rfl) dX0_init_17 (fun H f9 hn9 hz9 oq9 => ?_)
  replace hA0 := hA0.kept (oq9 _ (by omega))
  replace hA1 := hA1.kept (oq9 _ (by omega))
  replace hPic : va_at D vwCl (b, .inr (0, [.ref h, .ref (h + 1), .null, .int (jI 0)])) H := hn9
  replace hF := hF.put (by omega) hz9 oq9 (f := f9)
  replace hsz : H.size = (h + 2) := by omega
  clear hn9 hz9 oq9
  refine lv_aload_n hx hb dX0_init_20 rfl (lv_at hl 0 rfl) ?_
  refine jv_bipush hx hb dX0_init_21 (by decide) ?_
  refine jn_newi (h := (h + 2)) (N' := 6) hx hb (hts _ (List.mem_cons_of_mem _ kw_63)) hK 0 rfl rfl (by decide) hsz (Nat.le_of_ble_eq_true rfl) (Nat.le_of_ble_eq_true rfl) dX0_init_23 (fun H n9 z9 o9 => ?_)
  replace hPic := hPic.kept (o9 _ (by omega))
  replace hA0 := hA0.kept (o9 _ (by omega))
  replace hA1 := hA1.kept (o9 _ (by omega))
  replace hF := hF.made (by omega) z9 o9
  have hA2 : va_at D vwCl ((h + 2), .inl (g 0, 6, .inl (fun _ => jI 0))) H := n9
  replace hsz : H.size = (h + 3) := by omega
  clear n9 z9 o9
  refine jv_putF (D := D) (ci := 0) (v := .ref (h + 2)) (ty := .array .int) (C := RX0) (T := TX0) (N := 4) hx hb hts (fun w h => List.mem_cons_of_mem _ (uw_X0 w h)) tyX0 tyX0_ok nmX0 hown hK hPic rfl 2 (by decide) (hts _ (List.mem_cons_of_mem _ kw_49)) (fun _ h9 => h9) rfl hin rfl (by decide +kernel) rfl rfl (Nat.le_of_ble_eq_true rfl) dX0_init_25 (fun H f9 hn9 hz9 oq9 => ?_)
  replace hA0 := hA0.kept (oq9 _ (by omega))
  replace hA1 := hA1.kept (oq9 _ (by omega))
  replace hA2 := hA2.kept (oq9 _ (by omega))
  replace hPic : va_at D vwCl (b, .inr (0, [.ref h, .ref (h + 1), .ref (h + 2), .int (jI 0)])) H := hn9
  replace hF := hF.put (by omega) hz9 oq9 (f := f9)
  replace hsz : H.size = (h + 3) := by omega
  clear hn9 hz9 oq9
  refine lv_aload_n hx hb dX0_init_28 rfl (lv_at hl 0 rfl) ?_
  refine jv_iconst hx hb dX0_init_29 ?_
  refine jv_put (D := D) (ci := 0) (v := .int (jI (0))) (ty := .int) (C := RX0) (T := TX0) (N := 4) hx hb hts (fun w h => List.mem_cons_of_mem _ (uw_X0 w h)) tyX0 tyX0_ok nmX0 hown hK hPic rfl 3 (by decide) (hts _ (List.mem_cons_of_mem _ kw_51)) (fun _ h9 => h9) rfl (by decide +kernel) rfl rfl (Nat.le_of_ble_eq_true rfl) dX0_init_30 (fun H f9 hn9 hz9 oq9 => ?_)
  replace hA0 := hA0.kept (oq9 _ (by omega))
  replace hA1 := hA1.kept (oq9 _ (by omega))
  replace hA2 := hA2.kept (oq9 _ (by omega))
  replace hPic : va_at D vwCl (b, .inr (0, [.ref h, .ref (h + 1), .ref (h + 2), .int (jI (0))])) H := hn9
  replace hF := hF.put (by omega) hz9 oq9 (f := f9)
  replace hsz : H.size = (h + 3) := by omega
  clear hn9 hz9 oq9
  exact n_vret hx hb hr hlocks dX0_init_33 ⟨hPic, hA0, hA1, hA2⟩ hF
set_option maxHeartbeats 8000000 in
set_option maxRecDepth 100000 in
theorem n_X2 (l : Launch) (D : va_G) (g : Nat → ClassId) (b h ac : Nat) : Met l yX2_init wsX2_init ({ frames := 1, cells := 0, slots := 0, locals := 18 }) (nPc [.ref b, .ref ac] D g h (fun H => va_at D vwCl (b, .inr (2, [.null, .int (jI 0), .int (jI 0)])) H)) (nQ b h 0 (fun H => va_at D vwCl (b, .inr (2, [.ref ac, .int (jI 100), .int (jI 0)])) H)) 0 0 (nFr b h) := by
  refine Met.ofW (cc := cX2_init) (maxL := 2) (ret := none) (by decide) rfl ?_
  intro p e s m args below meth c s₁ B hml hv
  obtain ⟨⟨rfl, ⟨hsz, hPic⟩, hK⟩, hnT⟩ := hv
  have hx := B.exec
  have hb := B.bytes
  have hr := B.returns
  have hts := atoms_spec (ws := wsX2_init) B.pre
  have hown : s.vm.findClass RX2 = some m.cls := findClass_of_methodNamed B.named
  have hin : meth.name = "<init>" := (name_of_methodNamed B.named B.method).1
  have hlocks := B.notSynchronized
  have hl := lv_entry ([.ref b, .ref ac]) (n := 2) (Nat.le_of_ble_eq_true rfl)
  rw [lg_entry_eq]
  generalize (lg_sl ([.ref b, .ref ac]) ++ List.replicate (2 - (lg_sl ([.ref b, .ref ac])).length) Slot.unset).toArray = ls at hl ⊢
  have hl : lv_has ls 2 [(0, .ref b), (1, .ref ac)] := hl
  have hF : nF b h s.heap s.heap [] 0 := nF.rf hsz
  refine lv_aload_n hx hb dX2_init_0 rfl (lv_at hl 0 rfl) ?_
  refine W.objInit hx hb hown (hts _ (List.mem_cons_of_mem _ kw_70)) (hts _ (List.mem_cons_of_mem _ kw_29)) (hts _ (List.mem_cons_of_mem _ kw_30)) rfl (by rw [hml]; exact hl.1) rfl dX2_init_1 (Nat.le_of_ble_eq_true rfl) (Nat.le_of_ble_eq_true rfl) ?_
  refine W.eq (g2 := F0 m 4 ls []) rfl ?_
  refine lv_aload_n hx hb dX2_init_4 rfl (lv_at hl 0 rfl) ?_
  refine jv_bipush hx hb dX2_init_5 (by decide) ?_
  refine jv_put (D := D) (ci := 2) (v := .int (jI (100))) (ty := .int) (C := RX2) (T := TX2) (N := 3) hx hb hts (fun w h => List.mem_cons_of_mem _ (uw_X2 w h)) tyX2 tyX2_ok nmX2 hown hK hPic rfl 1 (by decide) (hts _ (List.mem_cons_of_mem _ kw_72)) (fun _ h9 => h9) rfl (by decide +kernel) rfl rfl (Nat.le_of_ble_eq_true rfl) dX2_init_7 (fun H f9 hn9 hz9 oq9 => ?_)
  replace hPic : va_at D vwCl (b, .inr (2, [.null, .int (jI (100)), .int (jI 0)])) H := hn9
  replace hF := hF.put (by omega) hz9 oq9 (f := f9)
  replace hsz : H.size = h := by omega
  clear hn9 hz9 oq9
  refine lv_aload_n hx hb dX2_init_10 rfl (lv_at hl 0 rfl) ?_
  refine jv_iconst hx hb dX2_init_11 ?_
  refine jv_put (D := D) (ci := 2) (v := .int (jI (0))) (ty := .int) (C := RX2) (T := TX2) (N := 3) hx hb hts (fun w h => List.mem_cons_of_mem _ (uw_X2 w h)) tyX2 tyX2_ok nmX2 hown hK hPic rfl 2 (by decide) (hts _ (List.mem_cons_of_mem _ kw_74)) (fun _ h9 => h9) rfl (by decide +kernel) rfl rfl (Nat.le_of_ble_eq_true rfl) dX2_init_12 (fun H f9 hn9 hz9 oq9 => ?_)
  replace hPic : va_at D vwCl (b, .inr (2, [.null, .int (jI (100)), .int (jI (0))])) H := hn9
  replace hF := hF.put (by omega) hz9 oq9 (f := f9)
  replace hsz : H.size = h := by omega
  clear hn9 hz9 oq9
  refine lv_aload_n hx hb dX2_init_15 rfl (lv_at hl 0 rfl) ?_
  refine lv_aload_n hx hb dX2_init_16 rfl (lv_at hl 1 rfl) ?_
  refine jv_putF (D := D) (ci := 2) (v := .ref ac) (ty := .object "BreakerOrders$Curve") (C := RX2) (T := TX2) (N := 3) hx hb hts (fun w h => List.mem_cons_of_mem _ (uw_X2 w h)) tyX2 tyX2_ok nmX2 hown hK hPic rfl 0 (by decide) (hts _ (List.mem_cons_of_mem _ kw_71)) (fun _ h9 => h9) rfl hin rfl (by decide +kernel) rfl rfl (Nat.le_of_ble_eq_true rfl) dX2_init_17 (fun H f9 hn9 hz9 oq9 => ?_)
  replace hPic : va_at D vwCl (b, .inr (2, [.ref ac, .int (jI (100)), .int (jI (0))])) H := hn9
  replace hF := hF.put (by omega) hz9 oq9 (f := f9)
  replace hsz : H.size = h := by omega
  clear hn9 hz9 oq9
  exact n_vret hx hb hr hlocks dX2_init_20 hPic hF
set_option maxHeartbeats 8000000 in
set_option maxRecDepth 100000 in
theorem n_X1 (l : Launch) (D : va_G) (g : Nat → ClassId) (b i : Nat) : Met l yX1_init wsX1_init ({ frames := 2, cells := 11, slots := 46, locals := 39 }) (nPc [.ref b, .int (jI ((i : Int)))] D g (b + 1) (fun H => va_at D vwCl (b, .inr (1, [.int (jI 0), .null, .null, .null, .null, .null, .int (jI 0), .int (jI 0), .int (jI 0)])) H)) (nQ b (b + 1) 11 (fun H => dvP D g b i H)) 11 46 (nFr b (b + 1)) := by
  refine Met.ofW (cc := cX1_init) (maxL := 3) (ret := none) (by decide) rfl ?_
  intro p e s m args below meth c s₁ B hml hv
  obtain ⟨⟨rfl, ⟨hsz, hPic⟩, hK⟩, hnT⟩ := hv
  have hx := B.exec
  have hb := B.bytes
  have hr := B.returns
  have hts := atoms_spec (ws := wsX1_init) B.pre
  have hown : s.vm.findClass RX1 = some m.cls := findClass_of_methodNamed B.named
  have hin : meth.name = "<init>" := (name_of_methodNamed B.named B.method).1
  have hlocks := B.notSynchronized
  have hl := lv_entry ([.ref b, .int (jI ((i : Int)))]) (n := 3) (Nat.le_of_ble_eq_true rfl)
  rw [lg_entry_eq]
  generalize (lg_sl ([.ref b, .int (jI ((i : Int)))]) ++ List.replicate (3 - (lg_sl ([.ref b, .int (jI ((i : Int)))])).length) Slot.unset).toArray = ls at hl ⊢
  have hl : lv_has ls 3 [(0, .ref b), (1, .int (jI ((i : Int))))] := hl
  have hF : nF b (b + 1) s.heap s.heap [] 0 := nF.rf hsz
  refine lv_aload_n hx hb dX1_init_0 rfl (lv_at hl 0 rfl) ?_
  refine W.objInit hx hb hown (hts _ (List.mem_cons_of_mem _ kw_37)) (hts _ (List.mem_cons_of_mem _ kw_29)) (hts _ (List.mem_cons_of_mem _ kw_30)) rfl (by rw [hml]; exact hl.1) rfl dX1_init_1 (Nat.le_of_ble_eq_true rfl) (Nat.le_of_ble_eq_true rfl) ?_
  refine W.eq (g2 := F0 m 4 ls []) rfl ?_
  refine lv_aload_n hx hb dX1_init_4 rfl (lv_at hl 0 rfl) ?_
  refine jn_new (h := (b + 1)) (ci := 0) (fs := [.null, .null, .null, .int (jI 0)]) (C := RX0) (T := TX0) (N := 4) hx hb hts (fun w h => List.mem_cons_of_mem _ (uw_X0 w h)) tyX0 tyX0_ok hown (hts _ (List.mem_cons_of_mem _ kw_38)) (hts _ (List.mem_cons_of_mem _ kw_39)) (hts _ (List.mem_cons_of_mem _ kw_14)) hK rfl (fun j hj => by rcases (show j = 0 ∨ j = 1 ∨ j = 2 ∨ j = 3 by omega) with rfl | rfl | rfl | rfl <;> rfl) hsz (Nat.le_of_ble_eq_true rfl) (Nat.le_of_ble_eq_true rfl) dX1_init_5 (fun H n9 z9 o9 => ?_)
  replace hPic := hPic.kept (o9 _ (by omega))
  replace hF := hF.made (by omega) z9 o9
  have hC : va_at D vwCl ((b + 1), .inr (0, [.null, .null, .null, .int (jI 0)])) H := n9
  replace hsz : H.size = (b + 2) := by omega
  clear n9 z9 o9
  refine lv_dup hx hb dX1_init_8 rfl ?_
  refine n_call (va_runIN (As := []) (rest := [.ref (b + 1), .ref b]) ⟨hx, hb, hml, hown, hts⟩ (n_X0 l D g (b + 1) (b + 2) (by omega)) ⟨va_cnB (host := RX3) 0 hts (gd_0 gd_c (gd_k kcX0_init)) rfl rfl rfl hnT.2.2 (hts _ (List.mem_cons_of_mem _ kw_14)) (by decide +kernel) ⟨Nat.le_of_ble_eq_true rfl, Nat.le_of_ble_eq_true rfl⟩, rfl, hts _ (List.mem_cons_of_mem _ kw_41)⟩ (n_pre (h := (b + 2)) hsz hC hK hnT) rfl rfl hl.1 rfl (lv_room (Nat.le_of_ble_eq_true rfl)) dX1_init_9 ⟨Nat.le_of_ble_eq_true rfl, Nat.le_of_ble_eq_true rfl⟩) hF (by omega) (by omega) (fun H locs hP o9 hF => ?_)
  replace hPic := hPic.kept (o9 _ (by omega) (by omega))
  replace hsz : H.size = (b + 5) := by have := hF.1; omega
  obtain ⟨hC, hA0, hA1, hA2⟩ := hP
  clear o9
  refine jv_putF (D := D) (ci := 1) (v := .ref (b + 1)) (ty := .object "BreakerOrders$Curve") (C := RX1) (T := TX1) (N := 9) hx hb hts (fun w h => List.mem_cons_of_mem _ (uw_X1 w h)) tyX1 tyX1_ok nmX1 hown hK hPic rfl 1 (by decide) (hts _ (List.mem_cons_of_mem _ kw_86)) (fun _ h9 => h9) rfl hin rfl (by decide +kernel) rfl rfl (Nat.le_of_ble_eq_true rfl) dX1_init_12 (fun H f9 hn9 hz9 oq9 => ?_)
  replace hC := hC.kept (oq9 _ (by omega))
  replace hA0 := hA0.kept (oq9 _ (by omega))
  replace hA1 := hA1.kept (oq9 _ (by omega))
  replace hA2 := hA2.kept (oq9 _ (by omega))
  replace hPic : va_at D vwCl (b, .inr (1, [.int (jI 0), .ref (b + 1), .null, .null, .null, .null, .int (jI 0), .int (jI 0), .int (jI 0)])) H := hn9
  replace hF := hF.put (by omega) hz9 oq9 (f := f9)
  replace hsz : H.size = (b + 5) := by omega
  clear hn9 hz9 oq9
  refine lv_aload_n hx hb dX1_init_15 rfl (lv_at hl 0 rfl) ?_
  refine jv_iconst hx hb dX1_init_16 ?_
  refine jn_newq (h := (b + 5)) (N' := 4) hx hb hown (hts _ (List.mem_cons_of_mem _ kw_64)) hnT.2.1 hK 3 rfl rfl (by decide) hsz (Nat.le_of_ble_eq_true rfl) (Nat.le_of_ble_eq_true rfl) dX1_init_17 (fun H n9 z9 o9 => ?_)
  replace hPic := hPic.kept (o9 _ (by omega))
  replace hC := hC.kept (o9 _ (by omega))
  replace hA0 := hA0.kept (o9 _ (by omega))
  replace hA1 := hA1.kept (o9 _ (by omega))
  replace hA2 := hA2.kept (o9 _ (by omega))
  replace hF := hF.made (by omega) z9 o9
  have hT : va_at D vwCl ((b + 5), .inl (g 3, 4, .inr (.inr (.inr (.inr (fun _ => none)))))) H := n9
  replace hsz : H.size = (b + 6) := by omega
  clear n9 z9 o9
  refine jv_putF (D := D) (ci := 1) (v := .ref (b + 5)) (ty := .array (.object "BreakerOrders$Setting")) (C := RX1) (T := TX1) (N := 9) hx hb hts (fun w h => List.mem_cons_of_mem _ (uw_X1 w h)) tyX1 tyX1_ok nmX1 hown hK hPic rfl 2 (by decide) (hts _ (List.mem_cons_of_mem _ kw_88)) (fun _ h9 => h9) rfl hin rfl (by decide +kernel) rfl rfl (Nat.le_of_ble_eq_true rfl) dX1_init_20 (fun H f9 hn9 hz9 oq9 => ?_)
  replace hC := hC.kept (oq9 _ (by omega))
  replace hA0 := hA0.kept (oq9 _ (by omega))
  replace hA1 := hA1.kept (oq9 _ (by omega))
  replace hA2 := hA2.kept (oq9 _ (by omega))
  replace hT := hT.kept (oq9 _ (by omega))
  replace hPic : va_at D vwCl (b, .inr (1, [.int (jI 0), .ref (b + 1), .ref (b + 5), .null, .null, .null, .int (jI 0), .int (jI 0), .int (jI 0)])) H := hn9
  replace hF := hF.put (by omega) hz9 oq9 (f := f9)
  replace hsz : H.size = (b + 6) := by omega
  clear hn9 hz9 oq9
  refine lv_aload_n hx hb dX1_init_23 rfl (lv_at hl 0 rfl) ?_
  refine jv_iconst hx hb dX1_init_24 ?_
  refine jn_newz (h := (b + 6)) (N' := 4) hx hb (hts _ (List.mem_cons_of_mem _ kw_83)) hK 1 rfl rfl (by decide) hsz (Nat.le_of_ble_eq_true rfl) (Nat.le_of_ble_eq_true rfl) dX1_init_25 (fun H n9 z9 o9 => ?_)
  replace hPic := hPic.kept (o9 _ (by omega))
  replace hC := hC.kept (o9 _ (by omega))
  replace hA0 := hA0.kept (o9 _ (by omega))
  replace hA1 := hA1.kept (o9 _ (by omega))
  replace hA2 := hA2.kept (o9 _ (by omega))
  replace hT := hT.kept (o9 _ (by omega))
  replace hF := hF.made (by omega) z9 o9
  have hR : va_at D vwCl ((b + 6), .inl (g 1, 4, .inl (fun _ => jI 0))) H := n9
  replace hsz : H.size = (b + 7) := by omega
  clear n9 z9 o9
  refine jv_putF (D := D) (ci := 1) (v := .ref (b + 6)) (ty := .array .boolean) (C := RX1) (T := TX1) (N := 9) hx hb hts (fun w h => List.mem_cons_of_mem _ (uw_X1 w h)) tyX1 tyX1_ok nmX1 hown hK hPic rfl 3 (by decide) (hts _ (List.mem_cons_of_mem _ kw_90)) (fun _ h9 => h9) rfl hin rfl (by decide +kernel) rfl rfl (Nat.le_of_ble_eq_true rfl) dX1_init_27 (fun H f9 hn9 hz9 oq9 => ?_)
  replace hC := hC.kept (oq9 _ (by omega))
  replace hA0 := hA0.kept (oq9 _ (by omega))
  replace hA1 := hA1.kept (oq9 _ (by omega))
  replace hA2 := hA2.kept (oq9 _ (by omega))
  replace hT := hT.kept (oq9 _ (by omega))
  replace hR := hR.kept (oq9 _ (by omega))
  replace hPic : va_at D vwCl (b, .inr (1, [.int (jI 0), .ref (b + 1), .ref (b + 5), .ref (b + 6), .null, .null, .int (jI 0), .int (jI 0), .int (jI 0)])) H := hn9
  replace hF := hF.put (by omega) hz9 oq9 (f := f9)
  replace hsz : H.size = (b + 7) := by omega
  clear hn9 hz9 oq9
  refine lv_aload_n hx hb dX1_init_30 rfl (lv_at hl 0 rfl) ?_
  refine jv_iconst hx hb dX1_init_31 ?_
  refine jn_newi (h := (b + 7)) (N' := 4) hx hb (hts _ (List.mem_cons_of_mem _ kw_63)) hK 0 rfl rfl (by decide) hsz (Nat.le_of_ble_eq_true rfl) (Nat.le_of_ble_eq_true rfl) dX1_init_32 (fun H n9 z9 o9 => ?_)
  replace hPic := hPic.kept (o9 _ (by omega))
  replace hC := hC.kept (o9 _ (by omega))
  replace hA0 := hA0.kept (o9 _ (by omega))
  replace hA1 := hA1.kept (o9 _ (by omega))
  replace hA2 := hA2.kept (o9 _ (by omega))
  replace hT := hT.kept (o9 _ (by omega))
  replace hR := hR.kept (o9 _ (by omega))
  replace hF := hF.made (by omega) z9 o9
  have hG : va_at D vwCl ((b + 7), .inl (g 0, 4, .inl (fun _ => jI 0))) H := n9
  replace hsz : H.size = (b + 8) := by omega
  clear n9 z9 o9
  refine jv_putF (D := D) (ci := 1) (v := .ref (b + 7)) (ty := .array .int) (C := RX1) (T := TX1) (N := 9) hx hb hts (fun w h => List.mem_cons_of_mem _ (uw_X1 w h)) tyX1 tyX1_ok nmX1 hown hK hPic rfl 4 (by decide) (hts _ (List.mem_cons_of_mem _ kw_92)) (fun _ h9 => h9) rfl hin rfl (by decide +kernel) rfl rfl (Nat.le_of_ble_eq_true rfl) dX1_init_34 (fun H f9 hn9 hz9 oq9 => ?_)
  replace hC := hC.kept (oq9 _ (by omega))
  replace hA0 := hA0.kept (oq9 _ (by omega))
  replace hA1 := hA1.kept (oq9 _ (by omega))
  replace hA2 := hA2.kept (oq9 _ (by omega))
  replace hT := hT.kept (oq9 _ (by omega))
  replace hR := hR.kept (oq9 _ (by omega))
  replace hG := hG.kept (oq9 _ (by omega))
  replace hPic : va_at D vwCl (b, .inr (1, [.int (jI 0), .ref (b + 1), .ref (b + 5), .ref (b + 6), .ref (b + 7), .null, .int (jI 0), .int (jI 0), .int (jI 0)])) H := hn9
  replace hF := hF.put (by omega) hz9 oq9 (f := f9)
  replace hsz : H.size = (b + 8) := by omega
  clear hn9 hz9 oq9
  refine lv_aload_n hx hb dX1_init_37 rfl (lv_at hl 0 rfl) ?_
  refine lv_null hx hb dX1_init_38 ?_
  refine jv_put (D := D) (ci := 1) (v := .null) (ty := .object "BreakerOrders$Device") (C := RX1) (T := TX1) (N := 9) hx hb hts (fun w h => List.mem_cons_of_mem _ (uw_X1 w h)) tyX1 tyX1_ok nmX1 hown hK hPic rfl 5 (by decide) (hts _ (List.mem_cons_of_mem _ kw_94)) (fun _ h9 => h9) rfl (by decide +kernel) rfl rfl (Nat.le_of_ble_eq_true rfl) dX1_init_39 (fun H f9 hn9 hz9 oq9 => ?_)
  replace hC := hC.kept (oq9 _ (by omega))
  replace hA0 := hA0.kept (oq9 _ (by omega))
  replace hA1 := hA1.kept (oq9 _ (by omega))
  replace hA2 := hA2.kept (oq9 _ (by omega))
  replace hT := hT.kept (oq9 _ (by omega))
  replace hR := hR.kept (oq9 _ (by omega))
  replace hG := hG.kept (oq9 _ (by omega))
  replace hPic : va_at D vwCl (b, .inr (1, [.int (jI 0), .ref (b + 1), .ref (b + 5), .ref (b + 6), .ref (b + 7), .null, .int (jI 0), .int (jI 0), .int (jI 0)])) H := hn9
  replace hF := hF.put (by omega) hz9 oq9 (f := f9)
  replace hsz : H.size = (b + 8) := by omega
  clear hn9 hz9 oq9
  refine lv_aload_n hx hb dX1_init_42 rfl (lv_at hl 0 rfl) ?_
  refine jv_iconst hx hb dX1_init_43 ?_
  refine jv_put (D := D) (ci := 1) (v := .int (jI (1))) (ty := .int) (C := RX1) (T := TX1) (N := 9) hx hb hts (fun w h => List.mem_cons_of_mem _ (uw_X1 w h)) tyX1 tyX1_ok nmX1 hown hK hPic rfl 6 (by decide) (hts _ (List.mem_cons_of_mem _ kw_96)) (fun _ h9 => h9) rfl (by decide +kernel) rfl rfl (Nat.le_of_ble_eq_true rfl) dX1_init_44 (fun H f9 hn9 hz9 oq9 => ?_)
  replace hC := hC.kept (oq9 _ (by omega))
  replace hA0 := hA0.kept (oq9 _ (by omega))
  replace hA1 := hA1.kept (oq9 _ (by omega))
  replace hA2 := hA2.kept (oq9 _ (by omega))
  replace hT := hT.kept (oq9 _ (by omega))
  replace hR := hR.kept (oq9 _ (by omega))
  replace hG := hG.kept (oq9 _ (by omega))
  replace hPic : va_at D vwCl (b, .inr (1, [.int (jI 0), .ref (b + 1), .ref (b + 5), .ref (b + 6), .ref (b + 7), .null, .int (jI (1)), .int (jI 0), .int (jI 0)])) H := hn9
  replace hF := hF.put (by omega) hz9 oq9 (f := f9)
  replace hsz : H.size = (b + 8) := by omega
  clear hn9 hz9 oq9
  refine lv_aload_n hx hb dX1_init_47 rfl (lv_at hl 0 rfl) ?_
  refine jv_iconst hx hb dX1_init_48 ?_
  refine jv_put (D := D) (ci := 1) (v := .int (jI (0))) (ty := .int) (C := RX1) (T := TX1) (N := 9) hx hb hts (fun w h => List.mem_cons_of_mem _ (uw_X1 w h)) tyX1 tyX1_ok nmX1 hown hK hPic rfl 7 (by decide) (hts _ (List.mem_cons_of_mem _ kw_98)) (fun _ h9 => h9) rfl (by decide +kernel) rfl rfl (Nat.le_of_ble_eq_true rfl) dX1_init_49 (fun H f9 hn9 hz9 oq9 => ?_)
  replace hC := hC.kept (oq9 _ (by omega))
  replace hA0 := hA0.kept (oq9 _ (by omega))
  replace hA1 := hA1.kept (oq9 _ (by omega))
  replace hA2 := hA2.kept (oq9 _ (by omega))
  replace hT := hT.kept (oq9 _ (by omega))
  replace hR := hR.kept (oq9 _ (by omega))
  replace hG := hG.kept (oq9 _ (by omega))
  replace hPic : va_at D vwCl (b, .inr (1, [.int (jI 0), .ref (b + 1), .ref (b + 5), .ref (b + 6), .ref (b + 7), .null, .int (jI (1)), .int (jI (0)), .int (jI 0)])) H := hn9
  replace hF := hF.put (by omega) hz9 oq9 (f := f9)
  replace hsz : H.size = (b + 8) := by omega
  clear hn9 hz9 oq9
  refine lv_aload_n hx hb dX1_init_52 rfl (lv_at hl 0 rfl) ?_
  refine jv_bipush hx hb dX1_init_53 (by decide) ?_
  refine jv_put (D := D) (ci := 1) (v := .int (jI (100))) (ty := .int) (C := RX1) (T := TX1) (N := 9) hx hb hts (fun w h => List.mem_cons_of_mem _ (uw_X1 w h)) tyX1 tyX1_ok nmX1 hown hK hPic rfl 8 (by decide) (hts _ (List.mem_cons_of_mem _ kw_100)) (fun _ h9 => h9) rfl (by decide +kernel) rfl rfl (Nat.le_of_ble_eq_true rfl) dX1_init_55 (fun H f9 hn9 hz9 oq9 => ?_)
  replace hC := hC.kept (oq9 _ (by omega))
  replace hA0 := hA0.kept (oq9 _ (by omega))
  replace hA1 := hA1.kept (oq9 _ (by omega))
  replace hA2 := hA2.kept (oq9 _ (by omega))
  replace hT := hT.kept (oq9 _ (by omega))
  replace hR := hR.kept (oq9 _ (by omega))
  replace hG := hG.kept (oq9 _ (by omega))
  replace hPic : va_at D vwCl (b, .inr (1, [.int (jI 0), .ref (b + 1), .ref (b + 5), .ref (b + 6), .ref (b + 7), .null, .int (jI (1)), .int (jI (0)), .int (jI (100))])) H := hn9
  replace hF := hF.put (by omega) hz9 oq9 (f := f9)
  replace hsz : H.size = (b + 8) := by omega
  clear hn9 hz9 oq9
  refine lv_aload_n hx hb dX1_init_58 rfl (lv_at hl 0 rfl) ?_
  refine lv_iload_n hx hb dX1_init_59 rfl (lv_at hl 1 rfl) ?_
  refine jv_putF (D := D) (ci := 1) (v := .int (jI ((i : Int)))) (ty := .int) (C := RX1) (T := TX1) (N := 9) hx hb hts (fun w h => List.mem_cons_of_mem _ (uw_X1 w h)) tyX1 tyX1_ok nmX1 hown hK hPic rfl 0 (by decide) (hts _ (List.mem_cons_of_mem _ kw_84)) (fun _ h9 => h9) rfl hin rfl (by decide +kernel) rfl rfl (Nat.le_of_ble_eq_true rfl) dX1_init_60 (fun H f9 hn9 hz9 oq9 => ?_)
  replace hC := hC.kept (oq9 _ (by omega))
  replace hA0 := hA0.kept (oq9 _ (by omega))
  replace hA1 := hA1.kept (oq9 _ (by omega))
  replace hA2 := hA2.kept (oq9 _ (by omega))
  replace hT := hT.kept (oq9 _ (by omega))
  replace hR := hR.kept (oq9 _ (by omega))
  replace hG := hG.kept (oq9 _ (by omega))
  replace hPic : va_at D vwCl (b, .inr (1, [.int (jI ((i : Int))), .ref (b + 1), .ref (b + 5), .ref (b + 6), .ref (b + 7), .null, .int (jI (1)), .int (jI (0)), .int (jI (100))])) H := hn9
  replace hF := hF.put (by omega) hz9 oq9 (f := f9)
  replace hsz : H.size = (b + 8) := by omega
  clear hn9 hz9 oq9
  refine jv_iconst hx hb dX1_init_63 ?_
  refine lv_istore_n (lv' := [(2, .int (jI (0))), (0, .ref b), (1, .int (jI ((i : Int))))]) hx hb dX1_init_64 rfl hl (by decide) rfl (fun ls hl => ?_)
  have hl : lv_has ls 3 [(2, .int (jI (0))), (0, .ref b), (1, .int (jI ((i : Int))))] := hl
  refine lv_iload_n hx hb dX1_init_65 rfl (lv_at hl 0 rfl) ?_
  refine jv_iconst hx hb dX1_init_66 ?_
  refine jv_icmp_ge (tgt := 93) hx hb dX1_init_67 (by decide) (by omega) (by omega) (fun c67 => ?_) (fun c67 => ?_)
  · exact absurd c67 (by decide)
  · refine lv_aload_n hx hb dX1_init_70 rfl (lv_at hl 1 rfl) ?_
    refine va_get (D := D) (ci := 1) (v := .ref (b + 5)) (C := RX1) (T := TX1) (N := 9) hx hb hts (fun w h => List.mem_cons_of_mem _ (uw_X1 w h)) hown hK (j_P1 hPic) 0 rfl rfl 2 (by decide) (hts _ (List.mem_cons_of_mem _ kw_88)) (fun _ h9 => h9) rfl dX1_init_71 ?_
    refine lv_iload_n hx hb dX1_init_74 rfl (lv_at hl 0 rfl) ?_
    refine jn_new (h := (b + 8)) (ci := 2) (fs := [.null, .int (jI 0), .int (jI 0)]) (C := RX2) (T := TX2) (N := 3) hx hb hts (fun w h => List.mem_cons_of_mem _ (uw_X2 w h)) tyX2 tyX2_ok hown (hts _ (List.mem_cons_of_mem _ kw_64)) (hts _ (List.mem_cons_of_mem _ kw_66)) (hts _ (List.mem_cons_of_mem _ kw_15)) hK rfl (fun j hj => by rcases (show j = 0 ∨ j = 1 ∨ j = 2 by omega) with rfl | rfl | rfl <;> rfl) hsz (Nat.le_of_ble_eq_true rfl) (Nat.le_of_ble_eq_true rfl) dX1_init_75 (fun H n9 z9 o9 => ?_)
    replace hPic := hPic.kept (o9 _ (by omega))
    replace hC := hC.kept (o9 _ (by omega))
    replace hA0 := hA0.kept (o9 _ (by omega))
    replace hA1 := hA1.kept (o9 _ (by omega))
    replace hA2 := hA2.kept (o9 _ (by omega))
    replace hT := hT.kept (o9 _ (by omega))
    replace hR := hR.kept (o9 _ (by omega))
    replace hG := hG.kept (o9 _ (by omega))
    replace hF := hF.made (by omega) z9 o9
    have hS0 : va_at D vwCl ((b + 8), .inr (2, [.null, .int (jI 0), .int (jI 0)])) H := n9
    replace hsz : H.size = (b + 9) := by omega
    clear n9 z9 o9
    refine lv_dup hx hb dX1_init_78 rfl ?_
    refine lv_aload_n hx hb dX1_init_79 rfl (lv_at hl 1 rfl) ?_
    refine va_get (D := D) (ci := 1) (v := .ref (b + 1)) (C := RX1) (T := TX1) (N := 9) hx hb hts (fun w h => List.mem_cons_of_mem _ (uw_X1 w h)) hown hK (j_P1 hPic) 0 rfl rfl 1 (by decide) (hts _ (List.mem_cons_of_mem _ kw_86)) (fun _ h9 => h9) rfl dX1_init_80 ?_
    refine n_call (va_runI (As := [.ref (b + 1)]) (rest := [.ref (b + 8), .int (jI (0)), .ref (b + 5)]) ⟨hx, hb, hml, hown, hts⟩ (n_X2 l D g (b + 8) (b + 9) (b + 1)) (cwI 1 hts (gd_0 gd_c (gd_k kcX2_init)) rfl rfl rfl (hts _ (List.mem_cons_of_mem _ kw_15)) (hts _ (List.mem_cons_of_mem _ kw_67)) (hts _ (List.mem_cons_of_mem _ kw_68)) rfl (by decide +kernel) ⟨Nat.le_of_ble_eq_true rfl, Nat.le_of_ble_eq_true rfl⟩) (n_pre (h := (b + 9)) hsz hS0 hK hnT) rfl rfl hl.1 rfl (lv_room (Nat.le_of_ble_eq_true rfl)) dX1_init_83 ⟨Nat.le_of_ble_eq_true rfl, Nat.le_of_ble_eq_true rfl⟩) hF (by omega) (by omega) (fun H locs hP o9 hF => ?_)
    replace hPic := hPic.kept (o9 _ (by omega) (by omega))
    replace hC := hC.kept (o9 _ (by omega) (by omega))
    replace hA0 := hA0.kept (o9 _ (by omega) (by omega))
    replace hA1 := hA1.kept (o9 _ (by omega) (by omega))
    replace hA2 := hA2.kept (o9 _ (by omega) (by omega))
    replace hT := hT.kept (o9 _ (by omega) (by omega))
    replace hR := hR.kept (o9 _ (by omega) (by omega))
    replace hG := hG.kept (o9 _ (by omega) (by omega))
    replace hsz : H.size = (b + 9) := by have := hF.1; omega
    have hS0 : va_at D vwCl ((b + 8), .inr (2, [.ref (b + 1), .int (jI 100), .int (jI 0)])) H := hP
    clear o9
    refine jv_astq (i := 0) (ci := 2) hx hb hK hT 3 rfl hS0 rfl rfl (by decide) (by decide) dX1_init_86 (fun H f9 hn9 hz9 oq9 => ?_)
    replace hPic := hPic.kept (oq9 _ (by omega))
    replace hC := hC.kept (oq9 _ (by omega))
    replace hA0 := hA0.kept (oq9 _ (by omega))
    replace hA1 := hA1.kept (oq9 _ (by omega))
    replace hA2 := hA2.kept (oq9 _ (by omega))
    replace hR := hR.kept (oq9 _ (by omega))
    replace hG := hG.kept (oq9 _ (by omega))
    replace hS0 := hS0.kept (oq9 _ (by omega))
    replace hT : va_at D vwCl (b + 5, .inl (g 3, 4, .inr (.inr (.inr (.inr (jUp (fun _ => none) 0 (some (b + 8)))))))) H := hn9
    replace hF := hF.put (by omega) hz9 oq9 (f := f9)
    replace hsz : H.size = (b + 9) := by omega
    clear hn9 hz9 oq9
    refine lv_iinc (v := jI (0 + 1)) (lv' := [(2, .int (jI (0 + 1))), (0, .ref b), (1, .int (jI ((i : Int))))]) hx hb dX1_init_87 hl (k := 0) rfl (jI_add _ _) (by decide) rfl (fun ls hl => ?_)
    refine lv_goto (tgt := 65) hx hb dX1_init_90 (by decide) ?_
    have hl : lv_has ls 3 [(2, .int (jI (1))), (0, .ref b), (1, .int (jI ((i : Int))))] := hl
    refine lv_iload_n hx hb dX1_init_65 rfl (lv_at hl 0 rfl) ?_
    refine jv_iconst hx hb dX1_init_66 ?_
    refine jv_icmp_ge (tgt := 93) hx hb dX1_init_67 (by decide) (by omega) (by omega) (fun c67 => ?_) (fun c67 => ?_)
    · exact absurd c67 (by decide)
    · refine lv_aload_n hx hb dX1_init_70 rfl (lv_at hl 1 rfl) ?_
      refine va_get (D := D) (ci := 1) (v := .ref (b + 5)) (C := RX1) (T := TX1) (N := 9) hx hb hts (fun w h => List.mem_cons_of_mem _ (uw_X1 w h)) hown hK (j_P1 hPic) 0 rfl rfl 2 (by decide) (hts _ (List.mem_cons_of_mem _ kw_88)) (fun _ h9 => h9) rfl dX1_init_71 ?_
      refine lv_iload_n hx hb dX1_init_74 rfl (lv_at hl 0 rfl) ?_
      refine jn_new (h := (b + 9)) (ci := 2) (fs := [.null, .int (jI 0), .int (jI 0)]) (C := RX2) (T := TX2) (N := 3) hx hb hts (fun w h => List.mem_cons_of_mem _ (uw_X2 w h)) tyX2 tyX2_ok hown (hts _ (List.mem_cons_of_mem _ kw_64)) (hts _ (List.mem_cons_of_mem _ kw_66)) (hts _ (List.mem_cons_of_mem _ kw_15)) hK rfl (fun j hj => by rcases (show j = 0 ∨ j = 1 ∨ j = 2 by omega) with rfl | rfl | rfl <;> rfl) hsz (Nat.le_of_ble_eq_true rfl) (Nat.le_of_ble_eq_true rfl) dX1_init_75 (fun H n9 z9 o9 => ?_)
      replace hPic := hPic.kept (o9 _ (by omega))
      replace hC := hC.kept (o9 _ (by omega))
      replace hA0 := hA0.kept (o9 _ (by omega))
      replace hA1 := hA1.kept (o9 _ (by omega))
      replace hA2 := hA2.kept (o9 _ (by omega))
      replace hT := hT.kept (o9 _ (by omega))
      replace hR := hR.kept (o9 _ (by omega))
      replace hG := hG.kept (o9 _ (by omega))
      replace hS0 := hS0.kept (o9 _ (by omega))
      replace hF := hF.made (by omega) z9 o9
      have hS1 : va_at D vwCl ((b + 9), .inr (2, [.null, .int (jI 0), .int (jI 0)])) H := n9
      replace hsz : H.size = (b + 10) := by omega
      clear n9 z9 o9
      refine lv_dup hx hb dX1_init_78 rfl ?_
      refine lv_aload_n hx hb dX1_init_79 rfl (lv_at hl 1 rfl) ?_
      refine va_get (D := D) (ci := 1) (v := .ref (b + 1)) (C := RX1) (T := TX1) (N := 9) hx hb hts (fun w h => List.mem_cons_of_mem _ (uw_X1 w h)) hown hK (j_P1 hPic) 0 rfl rfl 1 (by decide) (hts _ (List.mem_cons_of_mem _ kw_86)) (fun _ h9 => h9) rfl dX1_init_80 ?_
      refine n_call (va_runI (As := [.ref (b + 1)]) (rest := [.ref (b + 9), .int (jI (1)), .ref (b + 5)]) ⟨hx, hb, hml, hown, hts⟩ (n_X2 l D g (b + 9) (b + 10) (b + 1)) (cwI 1 hts (gd_0 gd_c (gd_k kcX2_init)) rfl rfl rfl (hts _ (List.mem_cons_of_mem _ kw_15)) (hts _ (List.mem_cons_of_mem _ kw_67)) (hts _ (List.mem_cons_of_mem _ kw_68)) rfl (by decide +kernel) ⟨Nat.le_of_ble_eq_true rfl, Nat.le_of_ble_eq_true rfl⟩) (n_pre (h := (b + 10)) hsz hS1 hK hnT) rfl rfl hl.1 rfl (lv_room (Nat.le_of_ble_eq_true rfl)) dX1_init_83 ⟨Nat.le_of_ble_eq_true rfl, Nat.le_of_ble_eq_true rfl⟩) hF (by omega) (by omega) (fun H locs hP o9 hF => ?_)
      replace hPic := hPic.kept (o9 _ (by omega) (by omega))
      replace hC := hC.kept (o9 _ (by omega) (by omega))
      replace hA0 := hA0.kept (o9 _ (by omega) (by omega))
      replace hA1 := hA1.kept (o9 _ (by omega) (by omega))
      replace hA2 := hA2.kept (o9 _ (by omega) (by omega))
      replace hT := hT.kept (o9 _ (by omega) (by omega))
      replace hR := hR.kept (o9 _ (by omega) (by omega))
      replace hG := hG.kept (o9 _ (by omega) (by omega))
      replace hS0 := hS0.kept (o9 _ (by omega) (by omega))
      replace hsz : H.size = (b + 10) := by have := hF.1; omega
      have hS1 : va_at D vwCl ((b + 9), .inr (2, [.ref (b + 1), .int (jI 100), .int (jI 0)])) H := hP
      clear o9
      refine jv_astq (i := 1) (ci := 2) hx hb hK hT 3 rfl hS1 rfl rfl (by decide) (by decide) dX1_init_86 (fun H f9 hn9 hz9 oq9 => ?_)
      replace hPic := hPic.kept (oq9 _ (by omega))
      replace hC := hC.kept (oq9 _ (by omega))
      replace hA0 := hA0.kept (oq9 _ (by omega))
      replace hA1 := hA1.kept (oq9 _ (by omega))
      replace hA2 := hA2.kept (oq9 _ (by omega))
      replace hR := hR.kept (oq9 _ (by omega))
      replace hG := hG.kept (oq9 _ (by omega))
      replace hS0 := hS0.kept (oq9 _ (by omega))
      replace hS1 := hS1.kept (oq9 _ (by omega))
      replace hT : va_at D vwCl (b + 5, .inl (g 3, 4, .inr (.inr (.inr (.inr (jUp (jUp (fun _ => none) 0 (some (b + 8))) 1 (some (b + 9)))))))) H := hn9
      replace hF := hF.put (by omega) hz9 oq9 (f := f9)
      replace hsz : H.size = (b + 10) := by omega
      clear hn9 hz9 oq9
      refine lv_iinc (v := jI (1 + 1)) (lv' := [(2, .int (jI (1 + 1))), (0, .ref b), (1, .int (jI ((i : Int))))]) hx hb dX1_init_87 hl (k := 0) rfl (jI_add _ _) (by decide) rfl (fun ls hl => ?_)
      refine lv_goto (tgt := 65) hx hb dX1_init_90 (by decide) ?_
      have hl : lv_has ls 3 [(2, .int (jI (2))), (0, .ref b), (1, .int (jI ((i : Int))))] := hl
      refine lv_iload_n hx hb dX1_init_65 rfl (lv_at hl 0 rfl) ?_
      refine jv_iconst hx hb dX1_init_66 ?_
      refine jv_icmp_ge (tgt := 93) hx hb dX1_init_67 (by decide) (by omega) (by omega) (fun c67 => ?_) (fun c67 => ?_)
      · exact absurd c67 (by decide)
      · refine lv_aload_n hx hb dX1_init_70 rfl (lv_at hl 1 rfl) ?_
        refine va_get (D := D) (ci := 1) (v := .ref (b + 5)) (C := RX1) (T := TX1) (N := 9) hx hb hts (fun w h => List.mem_cons_of_mem _ (uw_X1 w h)) hown hK (j_P1 hPic) 0 rfl rfl 2 (by decide) (hts _ (List.mem_cons_of_mem _ kw_88)) (fun _ h9 => h9) rfl dX1_init_71 ?_
        refine lv_iload_n hx hb dX1_init_74 rfl (lv_at hl 0 rfl) ?_
        refine jn_new (h := (b + 10)) (ci := 2) (fs := [.null, .int (jI 0), .int (jI 0)]) (C := RX2) (T := TX2) (N := 3) hx hb hts (fun w h => List.mem_cons_of_mem _ (uw_X2 w h)) tyX2 tyX2_ok hown (hts _ (List.mem_cons_of_mem _ kw_64)) (hts _ (List.mem_cons_of_mem _ kw_66)) (hts _ (List.mem_cons_of_mem _ kw_15)) hK rfl (fun j hj => by rcases (show j = 0 ∨ j = 1 ∨ j = 2 by omega) with rfl | rfl | rfl <;> rfl) hsz (Nat.le_of_ble_eq_true rfl) (Nat.le_of_ble_eq_true rfl) dX1_init_75 (fun H n9 z9 o9 => ?_)
        replace hPic := hPic.kept (o9 _ (by omega))
        replace hC := hC.kept (o9 _ (by omega))
        replace hA0 := hA0.kept (o9 _ (by omega))
        replace hA1 := hA1.kept (o9 _ (by omega))
        replace hA2 := hA2.kept (o9 _ (by omega))
        replace hT := hT.kept (o9 _ (by omega))
        replace hR := hR.kept (o9 _ (by omega))
        replace hG := hG.kept (o9 _ (by omega))
        replace hS0 := hS0.kept (o9 _ (by omega))
        replace hS1 := hS1.kept (o9 _ (by omega))
        replace hF := hF.made (by omega) z9 o9
        have hS2 : va_at D vwCl ((b + 10), .inr (2, [.null, .int (jI 0), .int (jI 0)])) H := n9
        replace hsz : H.size = (b + 11) := by omega
        clear n9 z9 o9
        refine lv_dup hx hb dX1_init_78 rfl ?_
        refine lv_aload_n hx hb dX1_init_79 rfl (lv_at hl 1 rfl) ?_
        refine va_get (D := D) (ci := 1) (v := .ref (b + 1)) (C := RX1) (T := TX1) (N := 9) hx hb hts (fun w h => List.mem_cons_of_mem _ (uw_X1 w h)) hown hK (j_P1 hPic) 0 rfl rfl 1 (by decide) (hts _ (List.mem_cons_of_mem _ kw_86)) (fun _ h9 => h9) rfl dX1_init_80 ?_
        refine n_call (va_runI (As := [.ref (b + 1)]) (rest := [.ref (b + 10), .int (jI (2)), .ref (b + 5)]) ⟨hx, hb, hml, hown, hts⟩ (n_X2 l D g (b + 10) (b + 11) (b + 1)) (cwI 1 hts (gd_0 gd_c (gd_k kcX2_init)) rfl rfl rfl (hts _ (List.mem_cons_of_mem _ kw_15)) (hts _ (List.mem_cons_of_mem _ kw_67)) (hts _ (List.mem_cons_of_mem _ kw_68)) rfl (by decide +kernel) ⟨Nat.le_of_ble_eq_true rfl, Nat.le_of_ble_eq_true rfl⟩) (n_pre (h := (b + 11)) hsz hS2 hK hnT) rfl rfl hl.1 rfl (lv_room (Nat.le_of_ble_eq_true rfl)) dX1_init_83 ⟨Nat.le_of_ble_eq_true rfl, Nat.le_of_ble_eq_true rfl⟩) hF (by omega) (by omega) (fun H locs hP o9 hF => ?_)
        replace hPic := hPic.kept (o9 _ (by omega) (by omega))
        replace hC := hC.kept (o9 _ (by omega) (by omega))
        replace hA0 := hA0.kept (o9 _ (by omega) (by omega))
        replace hA1 := hA1.kept (o9 _ (by omega) (by omega))
        replace hA2 := hA2.kept (o9 _ (by omega) (by omega))
        replace hT := hT.kept (o9 _ (by omega) (by omega))
        replace hR := hR.kept (o9 _ (by omega) (by omega))
        replace hG := hG.kept (o9 _ (by omega) (by omega))
        replace hS0 := hS0.kept (o9 _ (by omega) (by omega))
        replace hS1 := hS1.kept (o9 _ (by omega) (by omega))
        replace hsz : H.size = (b + 11) := by have := hF.1; omega
        have hS2 : va_at D vwCl ((b + 10), .inr (2, [.ref (b + 1), .int (jI 100), .int (jI 0)])) H := hP
        clear o9
        refine jv_astq (i := 2) (ci := 2) hx hb hK hT 3 rfl hS2 rfl rfl (by decide) (by decide) dX1_init_86 (fun H f9 hn9 hz9 oq9 => ?_)
        replace hPic := hPic.kept (oq9 _ (by omega))
        replace hC := hC.kept (oq9 _ (by omega))
        replace hA0 := hA0.kept (oq9 _ (by omega))
        replace hA1 := hA1.kept (oq9 _ (by omega))
        replace hA2 := hA2.kept (oq9 _ (by omega))
        replace hR := hR.kept (oq9 _ (by omega))
        replace hG := hG.kept (oq9 _ (by omega))
        replace hS0 := hS0.kept (oq9 _ (by omega))
        replace hS1 := hS1.kept (oq9 _ (by omega))
        replace hS2 := hS2.kept (oq9 _ (by omega))
        replace hT : va_at D vwCl (b + 5, .inl (g 3, 4, .inr (.inr (.inr (.inr (jUp (jUp (jUp (fun _ => none) 0 (some (b + 8))) 1 (some (b + 9))) 2 (some (b + 10)))))))) H := hn9
        replace hF := hF.put (by omega) hz9 oq9 (f := f9)
        replace hsz : H.size = (b + 11) := by omega
        clear hn9 hz9 oq9
        refine lv_iinc (v := jI (2 + 1)) (lv' := [(2, .int (jI (2 + 1))), (0, .ref b), (1, .int (jI ((i : Int))))]) hx hb dX1_init_87 hl (k := 0) rfl (jI_add _ _) (by decide) rfl (fun ls hl => ?_)
        refine lv_goto (tgt := 65) hx hb dX1_init_90 (by decide) ?_
        have hl : lv_has ls 3 [(2, .int (jI (3))), (0, .ref b), (1, .int (jI ((i : Int))))] := hl
        refine lv_iload_n hx hb dX1_init_65 rfl (lv_at hl 0 rfl) ?_
        refine jv_iconst hx hb dX1_init_66 ?_
        refine jv_icmp_ge (tgt := 93) hx hb dX1_init_67 (by decide) (by omega) (by omega) (fun c67 => ?_) (fun c67 => ?_)
        · exact absurd c67 (by decide)
        · refine lv_aload_n hx hb dX1_init_70 rfl (lv_at hl 1 rfl) ?_
          refine va_get (D := D) (ci := 1) (v := .ref (b + 5)) (C := RX1) (T := TX1) (N := 9) hx hb hts (fun w h => List.mem_cons_of_mem _ (uw_X1 w h)) hown hK (j_P1 hPic) 0 rfl rfl 2 (by decide) (hts _ (List.mem_cons_of_mem _ kw_88)) (fun _ h9 => h9) rfl dX1_init_71 ?_
          refine lv_iload_n hx hb dX1_init_74 rfl (lv_at hl 0 rfl) ?_
          refine jn_new (h := (b + 11)) (ci := 2) (fs := [.null, .int (jI 0), .int (jI 0)]) (C := RX2) (T := TX2) (N := 3) hx hb hts (fun w h => List.mem_cons_of_mem _ (uw_X2 w h)) tyX2 tyX2_ok hown (hts _ (List.mem_cons_of_mem _ kw_64)) (hts _ (List.mem_cons_of_mem _ kw_66)) (hts _ (List.mem_cons_of_mem _ kw_15)) hK rfl (fun j hj => by rcases (show j = 0 ∨ j = 1 ∨ j = 2 by omega) with rfl | rfl | rfl <;> rfl) hsz (Nat.le_of_ble_eq_true rfl) (Nat.le_of_ble_eq_true rfl) dX1_init_75 (fun H n9 z9 o9 => ?_)
          replace hPic := hPic.kept (o9 _ (by omega))
          replace hC := hC.kept (o9 _ (by omega))
          replace hA0 := hA0.kept (o9 _ (by omega))
          replace hA1 := hA1.kept (o9 _ (by omega))
          replace hA2 := hA2.kept (o9 _ (by omega))
          replace hT := hT.kept (o9 _ (by omega))
          replace hR := hR.kept (o9 _ (by omega))
          replace hG := hG.kept (o9 _ (by omega))
          replace hS0 := hS0.kept (o9 _ (by omega))
          replace hS1 := hS1.kept (o9 _ (by omega))
          replace hS2 := hS2.kept (o9 _ (by omega))
          replace hF := hF.made (by omega) z9 o9
          have hS3 : va_at D vwCl ((b + 11), .inr (2, [.null, .int (jI 0), .int (jI 0)])) H := n9
          replace hsz : H.size = (b + 12) := by omega
          clear n9 z9 o9
          refine lv_dup hx hb dX1_init_78 rfl ?_
          refine lv_aload_n hx hb dX1_init_79 rfl (lv_at hl 1 rfl) ?_
          refine va_get (D := D) (ci := 1) (v := .ref (b + 1)) (C := RX1) (T := TX1) (N := 9) hx hb hts (fun w h => List.mem_cons_of_mem _ (uw_X1 w h)) hown hK (j_P1 hPic) 0 rfl rfl 1 (by decide) (hts _ (List.mem_cons_of_mem _ kw_86)) (fun _ h9 => h9) rfl dX1_init_80 ?_
          refine n_call (va_runI (As := [.ref (b + 1)]) (rest := [.ref (b + 11), .int (jI (3)), .ref (b + 5)]) ⟨hx, hb, hml, hown, hts⟩ (n_X2 l D g (b + 11) (b + 12) (b + 1)) (cwI 1 hts (gd_0 gd_c (gd_k kcX2_init)) rfl rfl rfl (hts _ (List.mem_cons_of_mem _ kw_15)) (hts _ (List.mem_cons_of_mem _ kw_67)) (hts _ (List.mem_cons_of_mem _ kw_68)) rfl (by decide +kernel) ⟨Nat.le_of_ble_eq_true rfl, Nat.le_of_ble_eq_true rfl⟩) (n_pre (h := (b + 12)) hsz hS3 hK hnT) rfl rfl hl.1 rfl (lv_room (Nat.le_of_ble_eq_true rfl)) dX1_init_83 ⟨Nat.le_of_ble_eq_true rfl, Nat.le_of_ble_eq_true rfl⟩) hF (by omega) (by omega) (fun H locs hP o9 hF => ?_)
          replace hPic := hPic.kept (o9 _ (by omega) (by omega))
          replace hC := hC.kept (o9 _ (by omega) (by omega))
          replace hA0 := hA0.kept (o9 _ (by omega) (by omega))
          replace hA1 := hA1.kept (o9 _ (by omega) (by omega))
          replace hA2 := hA2.kept (o9 _ (by omega) (by omega))
          replace hT := hT.kept (o9 _ (by omega) (by omega))
          replace hR := hR.kept (o9 _ (by omega) (by omega))
          replace hG := hG.kept (o9 _ (by omega) (by omega))
          replace hS0 := hS0.kept (o9 _ (by omega) (by omega))
          replace hS1 := hS1.kept (o9 _ (by omega) (by omega))
          replace hS2 := hS2.kept (o9 _ (by omega) (by omega))
          replace hsz : H.size = (b + 12) := by have := hF.1; omega
          have hS3 : va_at D vwCl ((b + 11), .inr (2, [.ref (b + 1), .int (jI 100), .int (jI 0)])) H := hP
          clear o9
          refine jv_astq (i := 3) (ci := 2) hx hb hK hT 3 rfl hS3 rfl rfl (by decide) (by decide) dX1_init_86 (fun H f9 hn9 hz9 oq9 => ?_)
          replace hPic := hPic.kept (oq9 _ (by omega))
          replace hC := hC.kept (oq9 _ (by omega))
          replace hA0 := hA0.kept (oq9 _ (by omega))
          replace hA1 := hA1.kept (oq9 _ (by omega))
          replace hA2 := hA2.kept (oq9 _ (by omega))
          replace hR := hR.kept (oq9 _ (by omega))
          replace hG := hG.kept (oq9 _ (by omega))
          replace hS0 := hS0.kept (oq9 _ (by omega))
          replace hS1 := hS1.kept (oq9 _ (by omega))
          replace hS2 := hS2.kept (oq9 _ (by omega))
          replace hS3 := hS3.kept (oq9 _ (by omega))
          replace hT : va_at D vwCl (b + 5, .inl (g 3, 4, .inr (.inr (.inr (.inr (jUp (jUp (jUp (jUp (fun _ => none) 0 (some (b + 8))) 1 (some (b + 9))) 2 (some (b + 10))) 3 (some (b + 11)))))))) H := hn9
          replace hF := hF.put (by omega) hz9 oq9 (f := f9)
          replace hsz : H.size = (b + 12) := by omega
          clear hn9 hz9 oq9
          refine lv_iinc (v := jI (3 + 1)) (lv' := [(2, .int (jI (3 + 1))), (0, .ref b), (1, .int (jI ((i : Int))))]) hx hb dX1_init_87 hl (k := 0) rfl (jI_add _ _) (by decide) rfl (fun ls hl => ?_)
          refine lv_goto (tgt := 65) hx hb dX1_init_90 (by decide) ?_
          have hl : lv_has ls 3 [(2, .int (jI (4))), (0, .ref b), (1, .int (jI ((i : Int))))] := hl
          refine lv_iload_n hx hb dX1_init_65 rfl (lv_at hl 0 rfl) ?_
          refine jv_iconst hx hb dX1_init_66 ?_
          refine jv_icmp_ge (tgt := 93) hx hb dX1_init_67 (by decide) (by omega) (by omega) (fun c67 => ?_) (fun c67 => ?_)
          · exact n_vret hx hb hr hlocks dX1_init_93 (fun r hr => by rcases (show r = 0 ∨ r = 1 ∨ r = 2 ∨ r = 3 ∨ r = 4 ∨ r = 5 ∨ r = 6 ∨ r = 7 ∨ r = 8 ∨ r = 9 ∨ r = 10 ∨ r = 11 by omega) with rfl | rfl | rfl | rfl | rfl | rfl | rfl | rfl | rfl | rfl | rfl | rfl; (· exact hPic); (· exact hC); (· exact hA0); (· exact hA1); (· exact hA2); (· exact va_qcongr (fun j hj => by rcases (show j = 0 ∨ j = 1 ∨ j = 2 ∨ j = 3 by omega) with rfl | rfl | rfl | rfl <;> rfl) hT); (· exact hS0); (· exact hS1); (· exact hS2); (· exact hS3); (· exact hR); (· exact hG)) hF
          · exact absurd c67 (by decide)
