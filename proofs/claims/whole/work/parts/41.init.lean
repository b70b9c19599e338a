set_option maxRecDepth 20000 in
theorem kw_28 : (.methodLink RX3 3 Lib.objectInit : Cond) ∈ gAll := g_mem 28 rfl rfl
set_option maxRecDepth 20000 in
theorem kw_31 : (.classLink RX3 9 "BreakerOrders$Device" : Cond) ∈ gAll := g_mem 31 rfl rfl
set_option maxRecDepth 20000 in
theorem kw_33 : (.instantiable RX1 9 : Cond) ∈ gAll := g_mem 33 rfl rfl
set_option maxRecDepth 20000 in
theorem kw_34 : (.methodLink RX3 22 yX1_init : Cond) ∈ gAll := g_mem 34 rfl rfl
set_option maxRecDepth 20000 in
theorem kw_35 : (.instanceMethod yX1_init : Cond) ∈ gAll := g_mem 35 rfl rfl
set_option maxHeartbeats 8000000 in
set_option maxRecDepth 100000 in
theorem n_X3 (l : Launch) (D : va_G) (g : Nat → ClassId) (b h : Nat) (hbh : b < h) : Met l yX3_init wsX3_init ({ frames := 3, cells := 97, slots := 448, locals := 61 }) (nPc [.ref b] D g h (fun H => va_at D vwCl (b, .inr (3, [.null, .int (jI 0), .int (jI 0)])) H)) (nQ b h 97 (fun H => bW D g (nAd b h) zI (fun _ _ => false) (fun _ _ => 0) H)) 97 448 (nFr b h) := by
  refine Met.ofW (cc := cX3_init) (maxL := 2) (ret := none) (by decide) rfl ?_
  intro p e s m args below meth c s₁ B hml hv
  obtain ⟨⟨rfl, ⟨hsz, hPic⟩, hK⟩, hnT⟩ := hv
  have hx := B.exec
  have hb := B.bytes
  have hr := B.returns
  have hts := atoms_spec (ws := wsX3_init) B.pre
  have hown : s.vm.findClass RX3 = some m.cls := findClass_of_methodNamed B.named
  have hin : meth.name = "<init>" := (name_of_methodNamed B.named B.method).1
  have hlocks := B.notSynchronized
  have hl := lv_entry ([.ref b]) (n := 2) (Nat.le_of_ble_eq_true rfl)
  rw [lg_entry_eq]
  generalize (lg_sl ([.ref b]) ++ List.replicate (2 - (lg_sl ([.ref b])).length) Slot.unset).toArray = ls at hl ⊢
  have hl : lv_has ls 2 [(0, .ref b)] := hl
  have hF : nF b h s.heap s.heap [] 0 := nF.rf hsz
  refine lv_aload_n hx hb dX3_init_0 rfl (lv_at hl 0 rfl) ?_
  refine W.objInit hx hb hown (hts _ (List.mem_cons_of_mem _ kw_28)) (hts _ (List.mem_cons_of_mem _ kw_29)) (hts _ (List.mem_cons_of_mem _ kw_30)) rfl (by rw [hml]; exact hl.1) rfl dX3_init_1 (Nat.le_of_ble_eq_true rfl) (Nat.le_of_ble_eq_true rfl) ?_
  refine W.eq (g2 := F0 m 4 ls []) rfl ?_
  refine lv_aload_n hx hb dX3_init_4 rfl (lv_at hl 0 rfl) ?_
  refine jv_bipush hx hb dX3_init_5 (by decide) ?_
  refine jn_newq (h := h) (N' := 8) hx hb hown (hts _ (List.mem_cons_of_mem _ kw_31)) hnT.1 hK 2 rfl rfl (by decide) hsz (Nat.le_of_ble_eq_true rfl) (Nat.le_of_ble_eq_true rfl) dX3_init_7 (fun H n9 z9 o9 => ?_)
  replace hPic := hPic.kept (o9 _ (by omega))
  replace hF := hF.made (by omega) z9 o9
  have hT : va_at D vwCl (h, .inl (g 2, 8, .inr (.inr (.inr (.inr (fun _ => none)))))) H := n9
  replace hsz : H.size = (h + 1) := by omega
  clear n9 z9 o9
  refine jv_putF (D := D) (ci := 3) (v := .ref h) (ty := .array (.object "BreakerOrders$Device")) (C := RX3) (T := TX3) (N := 3) hx hb hts (fun w h => List.mem_cons_of_mem _ (uw_X3 w h)) tyX3 tyX3_ok nmX3 hown hK hPic rfl 0 (by decide) (hts _ (List.mem_cons_of_mem _ kw_121)) (fun _ h9 => h9) rfl hin rfl (by decide +kernel) rfl rfl (Nat.le_of_ble_eq_true rfl) dX3_init_10 (fun H f9 hn9 hz9 oq9 => ?_)
  replace hT := hT.kept (oq9 _ (by omega))
  replace hPic : va_at D vwCl (b, .inr (3, [.ref h, .int (jI 0), .int (jI 0)])) H := hn9
  replace hF := hF.put (by omega) hz9 oq9 (f := f9)
  replace hsz : H.size = (h + 1) := by omega
  clear hn9 hz9 oq9
  refine lv_aload_n hx hb dX3_init_13 rfl (lv_at hl 0 rfl) ?_
  refine jv_iconst hx hb dX3_init_14 ?_
  refine jv_put (D := D) (ci := 3) (v := .int (jI (0))) (ty := .int) (C := RX3) (T := TX3) (N := 3) hx hb hts (fun w h => List.mem_cons_of_mem _ (uw_X3 w h)) tyX3 tyX3_ok nmX3 hown hK hPic rfl 1 (by decide) (hts _ (List.mem_cons_of_mem _ kw_122)) (fun _ h9 => h9) rfl (by decide +kernel) rfl rfl (Nat.le_of_ble_eq_true rfl) dX3_init_15 (fun H f9 hn9 hz9 oq9 => ?_)
  replace hT := hT.kept (oq9 _ (by omega))
  replace hPic : va_at D vwCl (b, .inr (3, [.ref h, .int (jI (0)), .int (jI 0)])) H := hn9
  replace hF := hF.put (by omega) hz9 oq9 (f := f9)
  replace hsz : H.size = (h + 1) := by omega
  clear hn9 hz9 oq9
  refine lv_aload_n hx hb dX3_init_18 rfl (lv_at hl 0 rfl) ?_
  refine jv_iconst hx hb dX3_init_19 ?_
  refine jv_put (D := D) (ci := 3) (v := .int (jI (0))) (ty := .int) (C := RX3) (T := TX3) (N := 3) hx hb hts (fun w h => List.mem_cons_of_mem _ (uw_X3 w h)) tyX3 tyX3_ok nmX3 hown hK hPic rfl 2 (by decide) (hts _ (List.mem_cons_of_mem _ kw_123)) (fun _ h9 => h9) rfl (by decide +kernel) rfl rfl (Nat.le_of_ble_eq_true rfl) dX3_init_20 (fun H f9 hn9 hz9 oq9 => ?_)
  replace hT := hT.kept (oq9 _ (by omega))
  replace hPic : va_at D vwCl (b, .inr (3, [.ref h, .int (jI (0)), .int (jI (0))])) H := hn9
  replace hF := hF.put (by omega) hz9 oq9 (f := f9)
  replace hsz : H.size = (h + 1) := by omega
  clear hn9 hz9 oq9
  refine jv_iconst hx hb dX3_init_23 ?_
  refine lv_istore_n (lv' := [(1, .int (jI (0))), (0, .ref b)]) hx hb dX3_init_24 rfl hl (by decide) rfl (fun ls hl => ?_)
  have hl : lv_has ls 2 [(1, .int (jI (0))), (0, .ref b)] := hl
  refine lv_iload_n hx hb dX3_init_25 rfl (lv_at hl 0 rfl) ?_
  refine jv_bipush hx hb dX3_init_26 (by decide) ?_
  refine jv_icmp_ge (tgt := 51) hx hb dX3_init_28 (by decide) (by omega) (by omega) (fun c28 => ?_) (fun c28 => ?_)
  · exact absurd c28 (by decide)
  · refine lv_aload_n hx hb dX3_init_31 rfl (lv_at hl 1 rfl) ?_
    refine va_get (D := D) (ci := 3) (v := .ref h) (C := RX3) (T := TX3) (N := 3) hx hb hts (fun w h => List.mem_cons_of_mem _ (uw_X3 w h)) hown hK (j_P1 hPic) 0 rfl rfl 0 (by decide) (hts _ (List.mem_cons_of_mem _ kw_121)) (fun _ h9 => h9) rfl dX3_init_32 ?_
    refine lv_iload_n hx hb dX3_init_35 rfl (lv_at hl 0 rfl) ?_
    refine jn_new (h := (h + 1)) (ci := 1) (fs := [.int (jI 0), .null, .null, .null, .null, .null, .int (jI 0), .int (jI 0), .int (jI 0)]) (C := RX1) (T := TX1) (N := 9) hx hb hts (fun w h => List.mem_cons_of_mem _ (uw_X1 w h)) tyX1 tyX1_ok hown (hts _ (List.mem_cons_of_mem _ kw_31)) (hts _ (List.mem_cons_of_mem _ kw_33)) (hts _ (List.mem_cons_of_mem _ kw_13)) hK rfl (fun j hj => by rcases (show j = 0 ∨ j = 1 ∨ j = 2 ∨ j = 3 ∨ j = 4 ∨ j = 5 ∨ j = 6 ∨ j = 7 ∨ j = 8 by omega) with rfl | rfl | rfl | rfl | rfl | rfl | rfl | rfl | rfl <;> rfl) hsz (Nat.le_of_ble_eq_true rfl) (Nat.le_of_ble_eq_true rfl) dX3_init_36 (fun H n9 z9 o9 => ?_)
    replace hPic := hPic.kept (o9 _ (by omega))
    replace hT := hT.kept (o9 _ (by omega))
    replace hF := hF.made (by omega) z9 o9
    have hO0 : va_at D vwCl ((h + 1), .inr (1, [.int (jI 0), .null, .null, .null, .null, .null, .int (jI 0), .int (jI 0), .int (jI 0)])) H := n9
    replace hsz : H.size = (h + 2) := by omega
    clear n9 z9 o9
    refine lv_dup hx hb dX3_init_39 rfl ?_
    refine lv_iload_n hx hb dX3_init_40 rfl (lv_at hl 0 rfl) ?_
    refine n_call (va_runI (As := [.int (jI (0))]) (rest := [.ref (h + 1), .int (jI (0)), .ref h]) ⟨hx, hb, hml, hown, hts⟩ (n_X1 l D g (h + 1) 0) (cwI 1 hts (gd_0 gd_c (gd_k kcX1_init)) rfl rfl rfl (hts _ (List.mem_cons_of_mem _ kw_13)) (hts _ (List.mem_cons_of_mem _ kw_34)) (hts _ (List.mem_cons_of_mem _ kw_35)) rfl (by decide +kernel) ⟨Nat.le_of_ble_eq_true rfl, Nat.le_of_ble_eq_true rfl⟩) (n_pre (h := (h + 2)) hsz hO0 hK hnT) rfl rfl hl.1 rfl (lv_room (Nat.le_of_ble_eq_true rfl)) dX3_init_41 ⟨Nat.le_of_ble_eq_true rfl, Nat.le_of_ble_eq_true rfl⟩) hF (by omega) (by omega) (fun H locs hP o9 hF => ?_)
    replace hPic := hPic.kept (o9 _ (by omega) (by omega))
    replace hT := hT.kept (o9 _ (by omega) (by omega))
    replace hsz : H.size = (h + 13) := by have := hF.1; omega
    have hD0 : dvP D g (h + 1) 0 H := hP
    clear o9
    refine jv_astq (i := 0) (ci := 1) hx hb hK hT 2 rfl hD0.obj rfl rfl (by decide) (by decide) dX3_init_44 (fun H f9 hn9 hz9 oq9 => ?_)
    replace hPic := hPic.kept (oq9 _ (by omega))
    replace hD0 := hD0.kept (fun q h1 h2 => oq9 q (by omega))
    replace hT : va_at D vwCl (h, .inl (g 2, 8, .inr (.inr (.inr (.inr (jUp (fun _ => none) 0 (some (h + 1)))))))) H := hn9
    replace hF := hF.put (by omega) hz9 oq9 (f := f9)
    replace hsz : H.size = (h + 13) := by omega
    clear hn9 hz9 oq9
    refine lv_iinc (v := jI (0 + 1)) (lv' := [(1, .int (jI (0 + 1))), (0, .ref b)]) hx hb dX3_init_45 hl (k := 0) rfl (jI_add _ _) (by decide) rfl (fun ls hl => ?_)
    refine lv_goto (tgt := 25) hx hb dX3_init_48 (by decide) ?_
    have hl : lv_has ls 2 [(1, .int (jI (1))), (0, .ref b)] := hl
    refine lv_iload_n hx hb dX3_init_25 rfl (lv_at hl 0 rfl) ?_
    refine jv_bipush hx hb dX3_init_26 (by decide) ?_
    refine jv_icmp_ge (tgt := 51) hx hb dX3_init_28 (by decide) (by omega) (by omega) (fun c28 => ?_) (fun c28 => ?_)
    · exact absurd c28 (by decide)
    · refine lv_aload_n hx hb dX3_init_31 rfl (lv_at hl 1 rfl) ?_
      refine va_get (D := D) (ci := 3) (v := .ref h) (C := RX3) (T := TX3) (N := 3) hx hb hts (fun w h => List.mem_cons_of_mem _ (uw_X3 w h)) hown hK (j_P1 hPic) 0 rfl rfl 0 (by decide) (hts _ (List.mem_cons_of_mem _ kw_121)) (fun _ h9 => h9) rfl dX3_init_32 ?_
      refine lv_iload_n hx hb dX3_init_35 rfl (lv_at hl 0 rfl) ?_
      refine jn_new (h := (h + 13)) (ci := 1) (fs := [.int (jI 0), .null, .null, .null, .null, .null, .int (jI 0), .int (jI 0), .int (jI 0)]) (C := RX1) (T := TX1) (N := 9) hx hb hts (fun w h => List.mem_cons_of_mem _ (uw_X1 w h)) tyX1 tyX1_ok hown (hts _ (List.mem_cons_of_mem _ kw_31)) (hts _ (List.mem_cons_of_mem _ kw_33)) (hts _ (List.mem_cons_of_mem _ kw_13)) hK rfl (fun j hj => by rcases (show j = 0 ∨ j = 1 ∨ j = 2 ∨ j = 3 ∨ j = 4 ∨ j = 5 ∨ j = 6 ∨ j = 7 ∨ j = 8 by omega) with rfl | rfl | rfl | rfl | rfl | rfl | rfl | rfl | rfl <;> rfl) hsz (Nat.le_of_ble_eq_true rfl) (Nat.le_of_ble_eq_true rfl) dX3_init_36 (fun H n9 z9 o9 => ?_)
      replace hPic := hPic.kept (o9 _ (by omega))
      replace hT := hT.kept (o9 _ (by omega))
      replace hD0 := hD0.kept (fun q h1 h2 => o9 q (by omega))
      replace hF := hF.made (by omega) z9 o9
      have hO1 : va_at D vwCl ((h + 13), .inr (1, [.int (jI 0), .null, .null, .null, .null, .null, .int (jI 0), .int (jI 0), .int (jI 0)])) H := n9
      replace hsz : H.size = (h + 14) := by omega
      clear n9 z9 o9
      refine lv_dup hx hb dX3_init_39 rfl ?_
      refine lv_iload_n hx hb dX3_init_40 rfl (lv_at hl 0 rfl) ?_
      refine n_call (va_runI (As := [.int (jI (1))]) (rest := [.ref (h + 13), .int (jI (1)), .ref h]) ⟨hx, hb, hml, hown, hts⟩ (n_X1 l D g (h + 13) 1) (cwI 1 hts (gd_0 gd_c (gd_k kcX1_init)) rfl rfl rfl (hts _ (List.mem_cons_of_mem _ kw_13)) (hts _ (List.mem_cons_of_mem _ kw_34)) (hts _ (List.mem_cons_of_mem _ kw_35)) rfl (by decide +kernel) ⟨Nat.le_of_ble_eq_true rfl, Nat.le_of_ble_eq_true rfl⟩) (n_pre (h := (h + 14)) hsz hO1 hK hnT) rfl rfl hl.1 rfl (lv_room (Nat.le_of_ble_eq_true rfl)) dX3_init_41 ⟨Nat.le_of_ble_eq_true rfl, Nat.le_of_ble_eq_true rfl⟩) hF (by omega) (by omega) (fun H locs hP o9 hF => ?_)
      replace hPic := hPic.kept (o9 _ (by omega) (by omega))
      replace hT := hT.kept (o9 _ (by omega) (by omega))
      replace hD0 := hD0.kept (fun q h1 h2 => o9 q (by omega) (by omega))
      replace hsz : H.size = (h + 25) := by have := hF.1; omega
      have hD1 : dvP D g (h + 13) 1 H := hP
      clear o9
      refine jv_astq (i := 1) (ci := 1) hx hb hK hT 2 rfl hD1.obj rfl rfl (by decide) (by decide) dX3_init_44 (fun H f9 hn9 hz9 oq9 => ?_)
      replace hPic := hPic.kept (oq9 _ (by omega))
      replace hD0 := hD0.kept (fun q h1 h2 => oq9 q (by omega))
      replace hD1 := hD1.kept (fun q h1 h2 => oq9 q (by omega))
      replace hT : va_at D vwCl (h, .inl (g 2, 8, .inr (.inr (.inr (.inr (jUp (jUp (fun _ => none) 0 (some (h + 1))) 1 (some (h + 13)))))))) H := hn9
      replace hF := hF.put (by omega) hz9 oq9 (f := f9)
      replace hsz : H.size = (h + 25) := by omega
      clear hn9 hz9 oq9
      refine lv_iinc (v := jI (1 + 1)) (lv' := [(1, .int (jI (1 + 1))), (0, .ref b)]) hx hb dX3_init_45 hl (k := 0) rfl (jI_add _ _) (by decide) rfl (fun ls hl => ?_)
      refine lv_goto (tgt := 25) hx hb dX3_init_48 (by decide) ?_
      have hl : lv_has ls 2 [(1, .int (jI (2))), (0, .ref b)] := hl
      refine lv_iload_n hx hb dX3_init_25 rfl (lv_at hl 0 rfl) ?_
      refine jv_bipush hx hb dX3_init_26 (by decide) ?_
      refine jv_icmp_ge (tgt := 51) hx hb dX3_init_28 (by decide) (by omega) (by omega) (fun c28 => ?_) (fun c28 => ?_)
      · exact absurd c28 (by decide)
      · refine lv_aload_n hx hb dX3_init_31 rfl (lv_at hl 1 rfl) ?_
        refine va_get (D := D) (ci := 3) (v := .ref h) (C := RX3) (T := TX3) (N := 3) hx hb hts (fun w h => List.mem_cons_of_mem _ (uw_X3 w h)) hown hK (j_P1 hPic) 0 rfl rfl 0 (by decide) (hts _ (List.mem_cons_of_mem _ kw_121)) (fun _ h9 => h9) rfl dX3_init_32 ?_
        refine lv_iload_n hx hb dX3_init_35 rfl (lv_at hl 0 rfl) ?_
        refine jn_new (h := (h + 25)) (ci := 1) (fs := [.int (jI 0), .null, .null, .null, .null, .null, .int (jI 0), .int (jI 0), .int (jI 0)]) (C := RX1) (T := TX1) (N := 9) hx hb hts (fun w h => List.mem_cons_of_mem _ (uw_X1 w h)) tyX1 tyX1_ok hown (hts _ (List.mem_cons_of_mem _ kw_31)) (hts _ (List.mem_cons_of_mem _ kw_33)) (hts _ (List.mem_cons_of_mem _ kw_13)) hK rfl (fun j hj => by rcases (show j = 0 ∨ j = 1 ∨ j = 2 ∨ j = 3 ∨ j = 4 ∨ j = 5 ∨ j = 6 ∨ j = 7 ∨ j = 8 by omega) with rfl | rfl | rfl | rfl | rfl | rfl | rfl | rfl | rfl <;> rfl) hsz (Nat.le_of_ble_eq_true rfl) (Nat.le_of_ble_eq_true rfl) dX3_init_36 (fun H n9 z9 o9 => ?_)
        replace hPic := hPic.kept (o9 _ (by omega))
        replace hT := hT.kept (o9 _ (by omega))
        replace hD0 := hD0.kept (fun q h1 h2 => o9 q (by omega))
        replace hD1 := hD1.kept (fun q h1 h2 => o9 q (by omega))
        replace hF := hF.made (by omega) z9 o9
        have hO2 : va_at D vwCl ((h + 25), .inr (1, [.int (jI 0), .null, .null, .null, .null, .null, .int (jI 0), .int (jI 0), .int (jI 0)])) H := n9
        replace hsz : H.size = (h + 26) := by omega
        clear n9 z9 o9
        refine lv_dup hx hb dX3_init_39 rfl ?_
        refine lv_iload_n hx hb dX3_init_40 rfl (lv_at hl 0 rfl) ?_
        refine n_call (va_runI (As := [.int (jI (2))]) (rest := [.ref (h + 25), .int (jI (2)), .ref h]) ⟨hx, hb, hml, hown, hts⟩ (n_X1 l D g (h + 25) 2) (cwI 1 hts (gd_0 gd_c (gd_k kcX1_init)) rfl rfl rfl (hts _ (List.mem_cons_of_mem _ kw_13)) (hts _ (List.mem_cons_of_mem _ kw_34)) (hts _ (List.mem_cons_of_mem _ kw_35)) rfl (by decide +kernel) ⟨Nat.le_of_ble_eq_true rfl, Nat.le_of_ble_eq_true rfl⟩) (n_pre (h := (h + 26)) hsz hO2 hK hnT) rfl rfl hl.1 rfl (lv_room (Nat.le_of_ble_eq_true rfl)) dX3_init_41 ⟨Nat.le_of_ble_eq_true rfl, Nat.le_of_ble_eq_true rfl⟩) hF (by omega) (by omega) (fun H locs hP o9 hF => ?_)
        replace hPic := hPic.kept (o9 _ (by omega) (by omega))
        replace hT := hT.kept (o9 _ (by omega) (by omega))
        replace hD0 := hD0.kept (fun q h1 h2 => o9 q (by omega) (by omega))
        replace hD1 := hD1.kept (fun q h1 h2 => o9 q (by omega) (by omega))
        replace hsz : H.size = (h + 37) := by have := hF.1; omega
        have hD2 : dvP D g (h + 25) 2 H := hP
        clear o9
        refine jv_astq (i := 2) (ci := 1) hx hb hK hT 2 rfl hD2.obj rfl rfl (by decide) (by decide) dX3_init_44 (fun H f9 hn9 hz9 oq9 => ?_)
        replace hPic := hPic.kept (oq9 _ (by omega))
        replace hD0 := hD0.kept (fun q h1 h2 => oq9 q (by omega))
        replace hD1 := hD1.kept (fun q h1 h2 => oq9 q (by omega))
        replace hD2 := hD2.kept (fun q h1 h2 => oq9 q (by omega))
        replace hT : va_at D vwCl (h, .inl (g 2, 8, .inr (.inr (.inr (.inr (jUp (jUp (jUp (fun _ => none) 0 (some (h + 1))) 1 (some (h + 13))) 2 (some (h + 25)))))))) H := hn9
        replace hF := hF.put (by omega) hz9 oq9 (f := f9)
        replace hsz : H.size = (h + 37) := by omega
        clear hn9 hz9 oq9
        refine lv_iinc (v := jI (2 + 1)) (lv' := [(1, .int (jI (2 + 1))), (0, .ref b)]) hx hb dX3_init_45 hl (k := 0) rfl (jI_add _ _) (by decide) rfl (fun ls hl => ?_)
        refine lv_goto (tgt := 25) hx hb dX3_init_48 (by decide) ?_
        have hl : lv_has ls 2 [(1, .int (jI (3))), (0, .ref b)] := hl
        refine lv_iload_n hx hb dX3_init_25 rfl (lv_at hl 0 rfl) ?_
        refine jv_bipush hx hb dX3_init_26 (by decide) ?_
        refine jv_icmp_ge (tgt := 51) hx hb dX3_init_28 (by decide) (by omega) (by omega) (fun c28 => ?_) (fun c28 => ?_)
        · exact absurd c28 (by decide)
        · refine lv_aload_n hx hb dX3_init_31 rfl (lv_at hl 1 rfl) ?_
          refine va_get (D := D) (ci := 3) (v := .ref h) (C := RX3) (T := TX3) (N := 3) hx hb hts (fun w h => List.mem_cons_of_mem _ (uw_X3 w h)) hown hK (j_P1 hPic) 0 rfl rfl 0 (by decide) (hts _ (List.mem_cons_of_mem _ kw_121)) (fun _ h9 => h9) rfl dX3_init_32 ?_
          refine lv_iload_n hx hb dX3_init_35 rfl (lv_at hl 0 rfl) ?_
          refine jn_new (h := (h + 37)) (ci := 1) (fs := [.int (jI 0), .null, .null, .null, .null, .null, .int (jI 0), .int (jI 0), .int (jI 0)]) (C := RX1) (T := TX1) (N := 9) hx hb hts (fun w h => List.mem_cons_of_mem _ (uw_X1 w h)) tyX1 tyX1_ok hown (hts _ (List.mem_cons_of_mem _ kw_31)) (hts _ (List.mem_cons_of_mem _ kw_33)) (hts _ (List.mem_cons_of_mem _ kw_13)) hK rfl (fun j hj => by rcases (show j = 0 ∨ j = 1 ∨ j = 2 ∨ j = 3 ∨ j = 4 ∨ j = 5 ∨ j = 6 ∨ j = 7 ∨ j = 8 by omega) with rfl | rfl | rfl | rfl | rfl | rfl | rfl | rfl | rfl <;> rfl) hsz (Nat.le_of_ble_eq_true rfl) (Nat.le_of_ble_eq_true rfl) dX3_init_36 (fun H n9 z9 o9 => ?_)
          replace hPic := hPic.kept (o9 _ (by omega))
          replace hT := hT.kept (o9 _ (by omega))
          replace hD0 := hD0.kept (fun q h1 h2 => o9 q (by omega))
          replace hD1 := hD1.kept (fun q h1 h2 => o9 q (by omega))
          replace hD2 := hD2.kept (fun q h1 h2 => o9 q (by omega))
          replace hF := hF.made (by omega) z9 o9
          have hO3 : va_at D vwCl ((h + 37), .inr (1, [.int (jI 0), .null, .null, .null, .null, .null, .int (jI 0), .int (jI 0), .int (jI 0)])) H := n9
          replace hsz : H.size = (h + 38) := by omega
          clear n9 z9 o9
          refine lv_dup hx hb dX3_init_39 rfl ?_
          refine lv_iload_n hx hb dX3_init_40 rfl (lv_at hl 0 rfl) ?_
          refine n_call (va_runI (As := [.int (jI (3))]) (rest := [.ref (h + 37), .int (jI (3)), .ref h]) ⟨hx, hb, hml, hown, hts⟩ (n_X1 l D g (h + 37) 3) (cwI 1 hts (gd_0 gd_c (gd_k kcX1_init)) rfl rfl rfl (hts _ (List.mem_cons_of_mem _ kw_13)) (hts _ (List.mem_cons_of_mem _ kw_34)) (hts _ (List.mem_cons_of_mem _ kw_35)) rfl (by decide +kernel) ⟨Nat.le_of_ble_eq_true rfl, Nat.le_of_ble_eq_true rfl⟩) (n_pre (h := (h + 38)) hsz hO3 hK hnT) rfl rfl hl.1 rfl (lv_room (Nat.le_of_ble_eq_true rfl)) dX3_init_41 ⟨Nat.le_of_ble_eq_true rfl, Nat.le_of_ble_eq_true rfl⟩) hF (by omega) (by omega) (fun H locs hP o9 hF => ?_)
          replace hPic := hPic.kept (o9 _ (by omega) (by omega))
          replace hT := hT.kept (o9 _ (by omega) (by omega))
          replace hD0 := hD0.kept (fun q h1 h2 => o9 q (by omega) (by omega))
          replace hD1 := hD1.kept (fun q h1 h2 => o9 q (by omega) (by omega))
          replace hD2 := hD2.kept (fun q h1 h2 => o9 q (by omega) (by omega))
          replace hsz : H.size = (h + 49) := by have := hF.1; omega
          have hD3 : dvP D g (h + 37) 3 H := hP
          clear o9
          refine jv_astq (i := 3) (ci := 1) hx hb hK hT 2 rfl hD3.obj rfl rfl (by decide) (by decide) dX3_init_44 (fun H f9 hn9 hz9 oq9 => ?_)
          replace hPic := hPic.kept (oq9 _ (by omega))
          replace hD0 := hD0.kept (fun q h1 h2 => oq9 q (by omega))
          replace hD1 := hD1.kept (fun q h1 h2 => oq9 q (by omega))
          replace hD2 := hD2.kept (fun q h1 h2 => oq9 q (by omega))
          replace hD3 := hD3.kept (fun q h1 h2 => oq9 q (by omega))
          replace hT : va_at D vwCl (h, .inl (g 2, 8, .inr (.inr (.inr (.inr (jUp (jUp (jUp (jUp (fun _ => none) 0 (some (h + 1))) 1 (some (h + 13))) 2 (some (h + 25))) 3 (some (h + 37)))))))) H := hn9
          replace hF := hF.put (by omega) hz9 oq9 (f := f9)
          replace hsz : H.size = (h + 49) := by omega
          clear hn9 hz9 oq9
          refine lv_iinc (v := jI (3 + 1)) (lv' := [(1, .int (jI (3 + 1))), (0, .ref b)]) hx hb dX3_init_45 hl (k := 0) rfl (jI_add _ _) (by decide) rfl (fun ls hl => ?_)
          refine lv_goto (tgt := 25) hx hb dX3_init_48 (by decide) ?_
          have hl : lv_has ls 2 [(1, .int (jI (4))), (0, .ref b)] := hl
          refine lv_iload_n hx hb dX3_init_25 rfl (lv_at hl 0 rfl) ?_
          refine jv_bipush hx hb dX3_init_26 (by decide) ?_
          refine jv_icmp_ge (tgt := 51) hx hb dX3_init_28 (by decide) (by omega) (by omega) (fun c28 => ?_) (fun c28 => ?_)
          · exact absurd c28 (by decide)
          · refine lv_aload_n hx hb dX3_init_31 rfl (lv_at hl 1 rfl) ?_
            refine va_get (D := D) (ci := 3) (v := .ref h) (C := RX3) (T := TX3) (N := 3) hx hb hts (fun w h => List.mem_cons_of_mem _ (uw_X3 w h)) hown hK (j_P1 hPic) 0 rfl rfl 0 (by decide) (hts _ (List.mem_cons_of_mem _ kw_121)) (fun _ h9 => h9) rfl dX3_init_32 ?_
            refine lv_iload_n hx hb dX3_init_35 rfl (lv_at hl 0 rfl) ?_
            refine jn_new (h := (h + 49)) (ci := 1) (fs := [.int (jI 0), .null, .null, .null, .null, .null, .int (jI 0), .int (jI 0), .int (jI 0)]) (C := RX1) (T := TX1) (N := 9) hx hb hts (fun w h => List.mem_cons_of_mem _ (uw_X1 w h)) tyX1 tyX1_ok hown (hts _ (List.mem_cons_of_mem _ kw_31)) (hts _ (List.mem_cons_of_mem _ kw_33)) (hts _ (List.mem_cons_of_mem _ kw_13)) hK rfl (fun j hj => by rcases (show j = 0 ∨ j = 1 ∨ j = 2 ∨ j = 3 ∨ j = 4 ∨ j = 5 ∨ j = 6 ∨ j = 7 ∨ j = 8 by omega) with rfl | rfl | rfl | rfl | rfl | rfl | rfl | rfl | rfl <;> rfl) hsz (Nat.le_of_ble_eq_true rfl) (Nat.le_of_ble_eq_true rfl) dX3_init_36 (fun H n9 z9 o9 => ?_)
            replace hPic := hPic.kept (o9 _ (by omega))
            replace hT := hT.kept (o9 _ (by omega))
            replace hD0 := hD0.kept (fun q h1 h2 => o9 q (by omega))
            replace hD1 := hD1.kept (fun q h1 h2 => o9 q (by omega))
            replace hD2 := hD2.kept (fun q h1 h2 => o9 q (by omega))
            replace hD3 := hD3.kept (fun q h1 h2 => o9 q (by omega))
            replace hF := hF.made (by omega) z9 o9
            have hO4 : va_at D vwCl ((h + 49), .inr (1, [.int (jI 0), .null, .null, .null, .null, .null, .int (jI 0), .int (jI 0), .int (jI 0)])) H := n9
            replace hsz : H.size = (h + 50) := by omega
            clear n9 z9 o9
            refine lv_dup hx hb dX3_init_39 rfl ?_
            refine lv_iload_n hx hb dX3_init_40 rfl (lv_at hl 0 rfl) ?_
            refine n_call (va_runI (As := [.int (jI (4))]) (rest := [.ref (h + 49), .int (jI (4)), .ref h]) ⟨hx, hb, hml, hown, hts⟩ (n_X1 l D g (h + 49) 4) (cwI 1 hts (gd_0 gd_c (gd_k kcX1_init)) rfl rfl rfl (hts _ (List.mem_cons_of_mem _ kw_13)) (hts _ (List.mem_cons_of_mem _ kw_34)) (hts _ (List.mem_cons_of_mem _ kw_35)) rfl (by decide +kernel) ⟨Nat.le_of_ble_eq_true rfl, Nat.le_of_ble_eq_true rfl⟩) (n_pre (h := (h + 50)) hsz hO4 hK hnT) rfl rfl hl.1 rfl (lv_room (Nat.le_of_ble_eq_true rfl)) dX3_init_41 ⟨Nat.le_of_ble_eq_true rfl, Nat.le_of_ble_eq_true rfl⟩) hF (by omega) (by omega) (fun H locs hP o9 hF => ?_)
            replace hPic := hPic.kept (o9 _ (by omega) (by omega))
            replace hT := hT.kept (o9 _ (by omega) (by omega))
            replace hD0 := hD0.kept (fun q h1 h2 => o9 q (by omega) (by omega))
            replace hD1 := hD1.kept (fun q h1 h2 => o9 q (by omega) (by omega))
            replace hD2 := hD2.kept (fun q h1 h2 => o9 q (by omega) (by omega))
            replace hD3 := hD3.kept (fun q h1 h2 => o9 q (by omega) (by omega))
            replace hsz : H.size = (h + 61) := by have := hF.1; omega
            have hD4 : dvP D g (h + 49) 4 H := hP
            clear o9
            refine jv_astq (i := 4) (ci := 1) hx hb hK hT 2 rfl hD4.obj rfl rfl (by decide) (by decide) dX3_init_44 (fun H f9 hn9 hz9 oq9 => ?_)
            replace hPic := hPic.kept (oq9 _ (by omega))
            replace hD0 := hD0.kept (fun q h1 h2 => oq9 q (by omega))
            replace hD1 := hD1.kept (fun q h1 h2 => oq9 q (by omega))
            replace hD2 := hD2.kept (fun q h1 h2 => oq9 q (by omega))
            replace hD3 := hD3.kept (fun q h1 h2 => oq9 q (by omega))
            replace hD4 := hD4.kept (fun q h1 h2 => oq9 q (by omega))
            replace hT : va_at D vwCl (h, .inl (g 2, 8, .inr (.inr (.inr (.inr (jUp (jUp (jUp (jUp (jUp (fun _ => none) 0 (some (h + 1))) 1 (some (h + 13))) 2 (some (h + 25))) 3 (some (h + 37))) 4 (some (h + 49)))))))) H := hn9
            replace hF := hF.put (by omega) hz9 oq9 (f := f9)
            replace hsz : H.size = (h + 61) := by omega
            clear hn9 hz9 oq9
            refine lv_iinc (v := jI (4 + 1)) (lv' := [(1, .int (jI (4 + 1))), (0, .ref b)]) hx hb dX3_init_45 hl (k := 0) rfl (jI_add _ _) (by decide) rfl (fun ls hl => ?_)
            refine lv_goto (tgt := 25) hx hb dX3_init_48 (by decide) ?_
            have hl : lv_has ls 2 [(1, .int (jI (5))), (0, .ref b)] := hl
            refine lv_iload_n hx hb dX3_init_25 rfl (lv_at hl 0 rfl) ?_
            refine jv_bipush hx hb dX3_init_26 (by decide) ?_
            refine jv_icmp_ge (tgt := 51) hx hb dX3_init_28 (by decide) (by omega) (by omega) (fun c28 => ?_) (fun c28 => ?_)
            · exact absurd c28 (by decide)
            · refine lv_aload_n hx hb dX3_init_31 rfl (lv_at hl 1 rfl) ?_
              refine va_get (D := D) (ci := 3) (v := .ref h) (C := RX3) (T := TX3) (N := 3) hx hb hts (fun w h => List.mem_cons_of_mem _ (uw_X3 w h)) hown hK (j_P1 hPic) 0 rfl rfl 0 (by decide) (hts _ (List.mem_cons_of_mem _ kw_121)) (fun _ h9 => h9) rfl dX3_init_32 ?_
              refine lv_iload_n hx hb dX3_init_35 rfl (lv_at hl 0 rfl) ?_
              refine jn_new (h := (h + 61)) (ci := 1) (fs := [.int (jI 0), .null, .null, .null, .null, .null, .int (jI 0), .int (jI 0), .int (jI 0)]) (C := RX1) (T := TX1) (N := 9) hx hb hts (fun w h => List.mem_cons_of_mem _ (uw_X1 w h)) tyX1 tyX1_ok hown (hts _ (List.mem_cons_of_mem _ kw_31)) (hts _ (List.mem_cons_of_mem _ kw_33)) (hts _ (List.mem_cons_of_mem _ kw_13)) hK rfl (fun j hj => by rcases (show j = 0 ∨ j = 1 ∨ j = 2 ∨ j = 3 ∨ j = 4 ∨ j = 5 ∨ j = 6 ∨ j = 7 ∨ j = 8 by omega) with rfl | rfl | rfl | rfl | rfl | rfl | rfl | rfl | rfl <;> rfl) hsz (Nat.le_of_ble_eq_true rfl) (Nat.le_of_ble_eq_true rfl) dX3_init_36 (fun H n9 z9 o9 => ?_)
              replace hPic := hPic.kept (o9 _ (by omega))
              replace hT := hT.kept (o9 _ (by omega))
              replace hD0 := hD0.kept (fun q h1 h2 => o9 q (by omega))
              replace hD1 := hD1.kept (fun q h1 h2 => o9 q (by omega))
              replace hD2 := hD2.kept (fun q h1 h2 => o9 q (by omega))
              replace hD3 := hD3.kept (fun q h1 h2 => o9 q (by omega))
              replace hD4 := hD4.kept (fun q h1 h2 => o9 q (by omega))
              replace hF := hF.made (by omega) z9 o9
              have hO5 : va_at D vwCl ((h + 61), .inr (1, [.int (jI 0), .null, .null, .null, .null, .null, .int (jI 0), .int (jI 0), .int (jI 0)])) H := n9
              replace hsz : H.size = (h + 62) := by omega
              clear n9 z9 o9
              refine lv_dup hx hb dX3_init_39 rfl ?_
              refine lv_iload_n hx hb dX3_init_40 rfl (lv_at hl 0 rfl) ?_
              refine n_call (va_runI (As := [.int (jI (5))]) (rest := [.ref (h + 61), .int (jI (5)), .ref h]) ⟨hx, hb, hml, hown, hts⟩ (n_X1 l D g (h + 61) 5) (cwI 1 hts (gd_0 gd_c (gd_k kcX1_init)) rfl rfl rfl (hts _ (List.mem_cons_of_mem _ kw_13)) (hts _ (List.mem_cons_of_mem _ kw_34)) (hts _ (List.mem_cons_of_mem _ kw_35)) rfl (by decide +kernel) ⟨Nat.le_of_ble_eq_true rfl, Nat.le_of_ble_eq_true rfl⟩) (n_pre (h := (h + 62)) hsz hO5 hK hnT) rfl rfl hl.1 rfl (lv_room (Nat.le_of_ble_eq_true rfl)) dX3_init_41 ⟨Nat.le_of_ble_eq_true rfl, Nat.le_of_ble_eq_true rfl⟩) hF (by omega) (by omega) (fun H locs hP o9 hF => ?_)
              replace hPic := hPic.kept (o9 _ (by omega) (by omega))
              replace hT := hT.kept (o9 _ (by omega) (by omega))
              replace hD0 := hD0.kept (fun q h1 h2 => o9 q (by omega) (by omega))
              replace hD1 := hD1.kept (fun q h1 h2 => o9 q (by omega) (by omega))
              replace hD2 := hD2.kept (fun q h1 h2 => o9 q (by omega) (by omega))
              replace hD3 := hD3.kept (fun q h1 h2 => o9 q (by omega) (by omega))
              replace hD4 := hD4.kept (fun q h1 h2 => o9 q (by omega) (by omega))
              replace hsz : H.size = (h + 73) := by have := hF.1; omega
              have hD5 : dvP D g (h + 61) 5 H := hP
              clear o9
              refine jv_astq (i := 5) (ci := 1) hx hb hK hT 2 rfl hD5.obj rfl rfl (by decide) (by decide) dX3_init_44 (fun H f9 hn9 hz9 oq9 => ?_)
              replace hPic := hPic.kept (oq9 _ (by omega))
              replace hD0 := hD0.kept (fun q h1 h2 => oq9 q (by omega))
              replace hD1 := hD1.kept (fun q h1 h2 => oq9 q (by omega))
              replace hD2 := hD2.kept (fun q h1 h2 => oq9 q (by omega))
              replace hD3 := hD3.kept (fun q h1 h2 => oq9 q (by omega))
              replace hD4 := hD4.kept (fun q h1 h2 => oq9 q (by omega))
              replace hD5 := hD5.kept (fun q h1 h2 => oq9 q (by omega))
              replace hT : va_at D vwCl (h, .inl (g 2, 8, .inr (.inr (.inr (.inr (jUp (jUp (jUp (jUp (jUp (jUp (fun _ => none) 0 (some (h + 1))) 1 (some (h + 13))) 2 (some (h + 25))) 3 (some (h + 37))) 4 (some (h + 49))) 5 (some (h + 61)))))))) H := hn9
              replace hF := hF.put (by omega) hz9 oq9 (f := f9)
              replace hsz : H.size = (h + 73) := by omega
              clear hn9 hz9 oq9
              refine lv_iinc (v := jI (5 + 1)) (lv' := [(1, .int (jI (5 + 1))), (0, .ref b)]) hx hb dX3_init_45 hl (k := 0) rfl (jI_add _ _) (by decide) rfl (fun ls hl => ?_)
              refine lv_goto (tgt := 25) hx hb dX3_init_48 (by decide) ?_
              have hl : lv_has ls 2 [(1, .int (jI (6))), (0, .ref b)] := hl
              refine lv_iload_n hx hb dX3_init_25 rfl (lv_at hl 0 rfl) ?_
              refine jv_bipush hx hb dX3_init_26 (by decide) ?_
              refine jv_icmp_ge (tgt := 51) hx hb dX3_init_28 (by decide) (by omega) (by omega) (fun c28 => ?_) (fun c28 => ?_)
              · exact absurd c28 (by decide)
              · refine lv_aload_n hx hb dX3_init_31 rfl (lv_at hl 1 rfl) ?_
                refine va_get (D := D) (ci := 3) (v := .ref h) (C := RX3) (T := TX3) (N := 3) hx hb hts (fun w h => List.mem_cons_of_mem _ (uw_X3 w h)) hown hK (j_P1 hPic) 0 rfl rfl 0 (by decide) (hts _ (List.mem_cons_of_mem _ kw_121)) (fun _ h9 => h9) rfl dX3_init_32 ?_
                refine lv_iload_n hx hb dX3_init_35 rfl (lv_at hl 0 rfl) ?_
                refine jn_new (h := (h + 73)) (ci := 1) (fs := [.int (jI 0), .null, .null, .null, .null, .null, .int (jI 0), .int (jI 0), .int (jI 0)]) (C := RX1) (T := TX1) (N := 9) hx hb hts (fun w h => List.mem_cons_of_mem _ (uw_X1 w h)) tyX1 tyX1_ok hown (hts _ (List.mem_cons_of_mem _ kw_31)) (hts _ (List.mem_cons_of_mem _ kw_33)) (hts _ (List.mem_cons_of_mem _ kw_13)) hK rfl (fun j hj => by rcases (show j = 0 ∨ j = 1 ∨ j = 2 ∨ j = 3 ∨ j = 4 ∨ j = 5 ∨ j = 6 ∨ j = 7 ∨ j = 8 by omega) with rfl | rfl | rfl | rfl | rfl | rfl | rfl | rfl | rfl <;> rfl) hsz (Nat.le_of_ble_eq_true rfl) (Nat.le_of_ble_eq_true rfl) dX3_init_36 (fun H n9 z9 o9 => ?_)
                replace hPic := hPic.kept (o9 _ (by omega))
                replace hT := hT.kept (o9 _ (by omega))
                replace hD0 := hD0.kept (fun q h1 h2 => o9 q (by omega))
                replace hD1 := hD1.kept (fun q h1 h2 => o9 q (by omega))
                replace hD2 := hD2.kept (fun q h1 h2 => o9 q (by omega))
                replace hD3 := hD3.kept (fun q h1 h2 => o9 q (by omega))
                replace hD4 := hD4.kept (fun q h1 h2 => o9 q (by omega))
                replace hD5 := hD5.kept (fun q h1 h2 => o9 q (by omega))
                replace hF := hF.made (by omega) z9 o9
                have hO6 : va_at D vwCl ((h + 73), .inr (1, [.int (jI 0), .null, .null, .null, .null, .null, .int (jI 0), .int (jI 0), .int (jI 0)])) H := n9
                replace hsz : H.size = (h + 74) := by omega
                clear n9 z9 o9
                refine lv_dup hx hb dX3_init_39 rfl ?_
                refine lv_iload_n hx hb dX3_init_40 rfl (lv_at hl 0 rfl) ?_
                refine n_call (va_runI (As := [.int (jI (6))]) (rest := [.ref (h + 73), .int (jI (6)), .ref h]) ⟨hx, hb, hml, hown, hts⟩ (n_X1 l D g (h + 73) 6) (cwI 1 hts (gd_0 gd_c (gd_k kcX1_init)) rfl rfl rfl (hts _ (List.mem_cons_of_mem _ kw_13)) (hts _ (List.mem_cons_of_mem _ kw_34)) (hts _ (List.mem_cons_of_mem _ kw_35)) rfl (by decide +kernel) ⟨Nat.le_of_ble_eq_true rfl, Nat.le_of_ble_eq_true rfl⟩) (n_pre (h := (h + 74)) hsz hO6 hK hnT) rfl rfl hl.1 rfl (lv_room (Nat.le_of_ble_eq_true rfl)) dX3_init_41 ⟨Nat.le_of_ble_eq_true rfl, Nat.le_of_ble_eq_true rfl⟩) hF (by omega) (by omega) (fun H locs hP o9 hF => ?_)
                replace hPic := hPic.kept (o9 _ (by omega) (by omega))
                replace hT := hT.kept (o9 _ (by omega) (by omega))
                replace hD0 := hD0.kept (fun q h1 h2 => o9 q (by omega) (by omega))
                replace hD1 := hD1.kept (fun q h1 h2 => o9 q (by omega) (by omega))
                replace hD2 := hD2.kept (fun q h1 h2 => o9 q (by omega) (by omega))
                replace hD3 := hD3.kept (fun q h1 h2 => o9 q (by omega) (by omega))
                replace hD4 := hD4.kept (fun q h1 h2 => o9 q (by omega) (by omega))
                replace hD5 := hD5.kept (fun q h1 h2 => o9 q (by omega) (by omega))
                replace hsz : H.size = (h + 85) := by have := hF.1; omega
                have hD6 : dvP D g (h + 73) 6 H := hP
                clear o9
                refine jv_astq (i := 6) (ci := 1) hx hb hK hT 2 rfl hD6.obj rfl rfl (by decide) (by decide) dX3_init_44 (fun H f9 hn9 hz9 oq9 => ?_)
                replace hPic := hPic.kept (oq9 _ (by omega))
                replace hD0 := hD0.kept (fun q h1 h2 => oq9 q (by omega))
                replace hD1 := hD1.kept (fun q h1 h2 => oq9 q (by omega))
                replace hD2 := hD2.kept (fun q h1 h2 => oq9 q (by omega))
                replace hD3 := hD3.kept (fun q h1 h2 => oq9 q (by omega))
                replace hD4 := hD4.kept (fun q h1 h2 => oq9 q (by omega))
                replace hD5 := hD5.kept (fun q h1 h2 => oq9 q (by omega))
                replace hD6 := hD6.kept (fun q h1 h2 => oq9 q (by omega))
                replace hT : va_at D vwCl (h, .inl (g 2, 8, .inr (.inr (.inr (.inr (jUp (jUp (jUp (jUp (jUp (jUp (jUp (fun _ => none) 0 (some (h + 1))) 1 (some (h + 13))) 2 (some (h + 25))) 3 (some (h + 37))) 4 (some (h + 49))) 5 (some (h + 61))) 6 (some (h + 73)))))))) H := hn9
                replace hF := hF.put (by omega) hz9 oq9 (f := f9)
                replace hsz : H.size = (h + 85) := by omega
                clear hn9 hz9 oq9
                refine lv_iinc (v := jI (6 + 1)) (lv' := [(1, .int (jI (6 + 1))), (0, .ref b)]) hx hb dX3_init_45 hl (k := 0) rfl (jI_add _ _) (by decide) rfl (fun ls hl => ?_)
                refine lv_goto (tgt := 25) hx hb dX3_init_48 (by decide) ?_
                have hl : lv_has ls 2 [(1, .int (jI (7))), (0, .ref b)] := hl
                refine lv_iload_n hx hb dX3_init_25 rfl (lv_at hl 0 rfl) ?_
                refine jv_bipush hx hb dX3_init_26 (by decide) ?_
                refine jv_icmp_ge (tgt := 51) hx hb dX3_init_28 (by decide) (by omega) (by omega) (fun c28 => ?_) (fun c28 => ?_)
                · exact absurd c28 (by decide)
                · refine lv_aload_n hx hb dX3_init_31 rfl (lv_at hl 1 rfl) ?_
                  refine va_get (D := D) (ci := 3) (v := .ref h) (C := RX3) (T := TX3) (N := 3) hx hb hts (fun w h => List.mem_cons_of_mem _ (uw_X3 w h)) hown hK (j_P1 hPic) 0 rfl rfl 0 (by decide) (hts _ (List.mem_cons_of_mem _ kw_121)) (fun _ h9 => h9) rfl dX3_init_32 ?_
                  refine lv_iload_n hx hb dX3_init_35 rfl (lv_at hl 0 rfl) ?_
                  refine jn_new (h := (h + 85)) (ci := 1) (fs := [.int (jI 0), .null, .null, .null, .null, .null, .int (jI 0), .int (jI 0), .int (jI 0)]) (C := RX1) (T := TX1) (N := 9) hx hb hts (fun w h => List.mem_cons_of_mem _ (uw_X1 w h)) tyX1 tyX1_ok hown (hts _ (List.mem_cons_of_mem _ kw_31)) (hts _ (List.mem_cons_of_mem _ kw_33)) (hts _ (List.mem_cons_of_mem _ kw_13)) hK rfl (fun j hj => by rcases (show j = 0 ∨ j = 1 ∨ j = 2 ∨ j = 3 ∨ j = 4 ∨ j = 5 ∨ j = 6 ∨ j = 7 ∨ j = 8 by omega) with rfl | rfl | rfl | rfl | rfl | rfl | rfl | rfl | rfl <;> rfl) hsz (Nat.le_of_ble_eq_true rfl) (Nat.le_of_ble_eq_true rfl) dX3_init_36 (fun H n9 z9 o9 => ?_)
                  replace hPic := hPic.kept (o9 _ (by omega))
                  replace hT := hT.kept (o9 _ (by omega))
                  replace hD0 := hD0.kept (fun q h1 h2 => o9 q (by omega))
                  replace hD1 := hD1.kept (fun q h1 h2 => o9 q (by omega))
                  replace hD2 := hD2.kept (fun q h1 h2 => o9 q (by omega))
                  replace hD3 := hD3.kept (fun q h1 h2 => o9 q (by omega))
                  replace hD4 := hD4.kept (fun q h1 h2 => o9 q (by omega))
                  replace hD5 := hD5.kept (fun q h1 h2 => o9 q (by omega))
                  replace hD6 := hD6.kept (fun q h1 h2 => o9 q (by omega))
                  replace hF := hF.made (by omega) z9 o9
                  have hO7 : va_at D vwCl ((h + 85), .inr (1, [.int (jI 0), .null, .null, .null, .null, .null, .int (jI 0), .int (jI 0), .int (jI 0)])) H := n9
                  replace hsz : H.size = (h + 86) := by omega
                  clear n9 z9 o9
                  refine lv_dup hx hb dX3_init_39 rfl ?_
                  refine lv_iload_n hx hb dX3_init_40 rfl (lv_at hl 0 rfl) ?_
                  refine n_call (va_runI (As := [.int (jI (7))]) (rest := [.ref (h + 85), .int (jI (7)), .ref h]) ⟨hx, hb, hml, hown, hts⟩ (n_X1 l D g (h + 85) 7) (cwI 1 hts (gd_0 gd_c (gd_k kcX1_init)) rfl rfl rfl (hts _ (List.mem_cons_of_mem _ kw_13)) (hts _ (List.mem_cons_of_mem _ kw_34)) (hts _ (List.mem_cons_of_mem _ kw_35)) rfl (by decide +kernel) ⟨Nat.le_of_ble_eq_true rfl, Nat.le_of_ble_eq_true rfl⟩) (n_pre (h := (h + 86)) hsz hO7 hK hnT) rfl rfl hl.1 rfl (lv_room (Nat.le_of_ble_eq_true rfl)) dX3_init_41 ⟨Nat.le_of_ble_eq_true rfl, Nat.le_of_ble_eq_true rfl⟩) hF (by omega) (by omega) (fun H locs hP o9 hF => ?_)
                  replace hPic := hPic.kept (o9 _ (by omega) (by omega))
                  replace hT := hT.kept (o9 _ (by omega) (by omega))
                  replace hD0 := hD0.kept (fun q h1 h2 => o9 q (by omega) (by omega))
                  replace hD1 := hD1.kept (fun q h1 h2 => o9 q (by omega) (by omega))
                  replace hD2 := hD2.kept (fun q h1 h2 => o9 q (by omega) (by omega))
                  replace hD3 := hD3.kept (fun q h1 h2 => o9 q (by omega) (by omega))
                  replace hD4 := hD4.kept (fun q h1 h2 => o9 q (by omega) (by omega))
                  replace hD5 := hD5.kept (fun q h1 h2 => o9 q (by omega) (by omega))
                  replace hD6 := hD6.kept (fun q h1 h2 => o9 q (by omega) (by omega))
                  replace hsz : H.size = (h + 97) := by have := hF.1; omega
                  have hD7 : dvP D g (h + 85) 7 H := hP
                  clear o9
                  refine jv_astq (i := 7) (ci := 1) hx hb hK hT 2 rfl hD7.obj rfl rfl (by decide) (by decide) dX3_init_44 (fun H f9 hn9 hz9 oq9 => ?_)
                  replace hPic := hPic.kept (oq9 _ (by omega))
                  replace hD0 := hD0.kept (fun q h1 h2 => oq9 q (by omega))
                  replace hD1 := hD1.kept (fun q h1 h2 => oq9 q (by omega))
                  replace hD2 := hD2.kept (fun q h1 h2 => oq9 q (by omega))
                  replace hD3 := hD3.kept (fun q h1 h2 => oq9 q (by omega))
                  replace hD4 := hD4.kept (fun q h1 h2 => oq9 q (by omega))
                  replace hD5 := hD5.kept (fun q h1 h2 => oq9 q (by omega))
                  replace hD6 := hD6.kept (fun q h1 h2 => oq9 q (by omega))
                  replace hD7 := hD7.kept (fun q h1 h2 => oq9 q (by omega))
                  replace hT : va_at D vwCl (h, .inl (g 2, 8, .inr (.inr (.inr (.inr (jUp (jUp (jUp (jUp (jUp (jUp (jUp (jUp (fun _ => none) 0 (some (h + 1))) 1 (some (h + 13))) 2 (some (h + 25))) 3 (some (h + 37))) 4 (some (h + 49))) 5 (some (h + 61))) 6 (some (h + 73))) 7 (some (h + 85)))))))) H := hn9
                  replace hF := hF.put (by omega) hz9 oq9 (f := f9)
                  replace hsz : H.size = (h + 97) := by omega
                  clear hn9 hz9 oq9
                  refine lv_iinc (v := jI (7 + 1)) (lv' := [(1, .int (jI (7 + 1))), (0, .ref b)]) hx hb dX3_init_45 hl (k := 0) rfl (jI_add _ _) (by decide) rfl (fun ls hl => ?_)
                  refine lv_goto (tgt := 25) hx hb dX3_init_48 (by decide) ?_
                  have hl : lv_has ls 2 [(1, .int (jI (8))), (0, .ref b)] := hl
                  refine lv_iload_n hx hb dX3_init_25 rfl (lv_at hl 0 rfl) ?_
                  refine jv_bipush hx hb dX3_init_26 (by decide) ?_
                  refine jv_icmp_ge (tgt := 51) hx hb dX3_init_28 (by decide) (by omega) (by omega) (fun c28 => ?_) (fun c28 => ?_)
                  · exact n_vret hx hb hr hlocks dX3_init_51 (bW_new hPic hT (fun j hj => by rcases (show j = 0 ∨ j = 1 ∨ j = 2 ∨ j = 3 ∨ j = 4 ∨ j = 5 ∨ j = 6 ∨ j = 7 by omega) with rfl | rfl | rfl | rfl | rfl | rfl | rfl | rfl <;> rfl) (fun i hi => by rcases (show i = 0 ∨ i = 1 ∨ i = 2 ∨ i = 3 ∨ i = 4 ∨ i = 5 ∨ i = 6 ∨ i = 7 by omega) with rfl | rfl | rfl | rfl | rfl | rfl | rfl | rfl; (· exact hD0); (· exact hD1); (· exact hD2); (· exact hD3); (· exact hD4); (· exact hD5); (· exact hD6); (· exact hD7))) hF
                  · exact absurd c28 (by decide)
