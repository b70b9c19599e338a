def nAm (b h a : Nat) : Nat := if a = 0 then b else h + (a - 1)
theorem nAm_inj {b h : Nat} (hb : b < h) : mInj (nAm b h) := by
  intro p q hp hq he
  unfold nAm at he
  by_cases p0 : p = 0
  · by_cases q0 : q = 0
    · omega
    · rw [if_pos p0, if_neg q0] at he; omega
  · rw [if_neg p0] at he
    by_cases q0 : q = 0
    · rw [if_pos q0] at he; omega
    · rw [if_neg q0] at he; omega
theorem nAm_rng {b h q : Nat} (hq : q < 13) : nAm b h q = b ∨ (h ≤ nAm b h q ∧ nAm b h q < h + 12) := by
  unfold nAm
  by_cases h0 : q = 0
  · rw [if_pos h0]; exact Or.inl rfl
  · rw [if_neg h0]; exact Or.inr ⟨by omega, by omega⟩
set_option maxRecDepth 20000 in
theorem kw_417 : (.methodLink RX4 1 Lib.objectInit : Cond) ∈ gAll := g_mem 417 rfl rfl
set_option maxHeartbeats 8000000 in
set_option maxRecDepth 100000 in
theorem n_X4 (l : Launch) (D : va_G) (g : Nat → ClassId) (b h : Nat) (hbh : b < h) : Met l yX4_init wsX4_init ({ frames := 1, cells := 12, slots := 384, locals := 18 }) (nPc [.ref b] D g h (fun H => va_at D vwCl (b, .inr (4, [.int (jI 0), .int (jI 0), .null, .null, .null, .null, .null, .null, .null, .null, .null, .null, .int (jI 0), .long (jL 0), .long (jL 0), .null, .null])) H)) (nQ b h 12 (fun H => mW D g (nAm b h) 0 0 0 0 0 (fun _ _ => 0) H)) 12 384 (nFr b h) := by
  refine Met.ofW (cc := cX4_init) (maxL := 1) (ret := none) (by decide) rfl ?_
  intro p e s m args below meth c s₁ B hml hv
  obtain ⟨⟨rfl, ⟨hsz, hPic⟩, hK⟩, hnT⟩ := hv
  have hx := B.exec
  have hb := B.bytes
  have hr := B.returns
  have hts := atoms_spec (ws := wsX4_init) B.pre
  have hown : s.vm.findClass RX4 = some m.cls := findClass_of_methodNamed B.named
  have hin : meth.name = "<init>" := (name_of_methodNamed B.named B.method).1
  have hlocks := B.notSynchronized
  have hl := lv_entry ([.ref b]) (n := 1) (Nat.le_of_ble_eq_true rfl)
  rw [lg_entry_eq]
  generalize (lg_sl ([.ref b]) ++ List.replicate (1 - (lg_sl ([.ref b])).length) Slot.unset).toArray = ls at hl ⊢
  have hl : lv_has ls 1 [(0, .ref b)] := hl
  have hF : nF b h s.heap s.heap [] 0 := nF.rf hsz
  refine lv_aload_n hx hb dX4_init_0 rfl (lv_at hl 0 rfl) ?_
  refine W.objInit hx hb hown (hts _ (List.mem_cons_of_mem _ kw_417)) (hts _ (List.mem_cons_of_mem _ kw_29)) (hts _ (List.mem_cons_of_mem _ kw_30)) rfl (by rw [hml]; exact hl.1) rfl dX4_init_1 (Nat.le_of_ble_eq_true rfl) (Nat.le_of_ble_eq_true rfl) ?_
  refine W.eq (g2 := F0 m 4 ls []) rfl ?_
  refine lv_aload_n hx hb dX4_init_4 rfl (lv_at hl 0 rfl) ?_
  refine jv_bipush hx hb dX4_init_5 (by decide) ?_
  refine jn_newi (h := h) (N' := 8) hx hb (hts _ (List.mem_cons_of_mem _ kw_63)) hK 0 rfl rfl (by decide) hsz (Nat.le_of_ble_eq_true rfl) (Nat.le_of_ble_eq_true rfl) dX4_init_7 (fun H n9 z9 o9 => ?_)
  replace hPic := hPic.kept (o9 _ (by omega))
  replace hF := hF.made (by omega) z9 o9
  have hA0 : va_at D vwCl (h, .inl (g 0, 8, .inl (fun _ => jI 0))) H := n9
  replace hsz : H.size = (h + 1) := by omega
  clear n9 z9 o9
  refine jv_putF (D := D) (ci := 4) (v := .ref h) (ty := .array .int) (C := RX4) (T := TX4) (N := 17) hx hb hts (fun w h => List.mem_cons_of_mem _ (uw_X4 w h)) tyX4 tyX4_ok nmX4 hown hK hPic rfl 2 (by decide) (hts _ (List.mem_cons_of_mem _ kw_420)) (fun _ h9 => h9) rfl hin rfl (by decide +kernel) rfl rfl (Nat.le_of_ble_eq_true rfl) dX4_init_9 (fun H f9 hn9 hz9 oq9 => ?_)
  replace hA0 := hA0.kept (oq9 _ (by omega))
  replace hPic : va_at D vwCl (b, .inr (4, [.int (jI 0), .int (jI 0), .ref h, .null, .null, .null, .null, .null, .null, .null, .null, .null, .int (jI 0), .long (jL 0), .long (jL 0), .null, .null])) H := hn9
  replace hF := hF.put (by omega) hz9 oq9 (f := f9)
  replace hsz : H.size = (h + 1) := by omega
  clear hn9 hz9 oq9
  refine lv_aload_n hx hb dX4_init_12 rfl (lv_at hl 0 rfl) ?_
  refine jv_bipush hx hb dX4_init_13 (by decide) ?_
  refine jn_newi (h := (h + 1)) (N' := 8) hx hb (hts _ (List.mem_cons_of_mem _ kw_63)) hK 0 rfl rfl (by decide) hsz (Nat.le_of_ble_eq_true rfl) (Nat.le_of_ble_eq_true rfl) dX4_init_15 (fun H n9 z9 o9 => ?_)
  replace hPic := hPic.kept (o9 _ (by omega))
  replace hA0 := hA0.kept (o9 _ (by omega))
  replace hF := hF.made (by omega) z9 o9
  have hA1 : va_at D vwCl ((h + 1), .inl (g 0, 8, .inl (fun _ => jI 0))) H := n9
  replace hsz : H.size = (h + 2) := by omega
  clear n9 z9 o9
  refine jv_putF (D := D) (ci := 4) (v := .ref (h + 1)) (ty := .array .int) (C := RX4) (T := TX4) (N := 17) hx hb hts (fun w h => List.mem_cons_of_mem _ (uw_X4 w h)) tyX4 tyX4_ok nmX4 hown hK hPic rfl 3 (by decide) (hts _ (List.mem_cons_of_mem _ kw_421)) (fun _ h9 => h9) rfl hin rfl (by decide +kernel) rfl rfl (Nat.le_of_ble_eq_true rfl) dX4_init_17 (fun H f9 hn9 hz9 oq9 => ?_)
  replace hA0 := hA0.kept (oq9 _ (by omega))
  replace hA1 := hA1.kept (oq9 _ (by omega))
  replace hPic : va_at D vwCl (b, .inr (4, [.int (jI 0), .int (jI 0), .ref h, .ref (h + 1), .null, .null, .null, .null, .null, .null, .null, .null, .int (jI 0), .long (jL 0), .long (jL 0), .null, .null])) H := hn9
  replace hF := hF.put (by omega) hz9 oq9 (f := f9)
  replace hsz : H.size = (h + 2) := by omega
  clear hn9 hz9 oq9
  refine lv_aload_n hx hb dX4_init_20 rfl (lv_at hl 0 rfl) ?_
  refine jv_bipush hx hb dX4_init_21 (by decide) ?_
  refine jn_newi (h := (h + 2)) (N' := 48) hx hb (hts _ (List.mem_cons_of_mem _ kw_63)) hK 0 rfl rfl (by decide) hsz (Nat.le_of_ble_eq_true rfl) (Nat.le_of_ble_eq_true rfl) dX4_init_23 (fun H n9 z9 o9 => ?_)
  replace hPic := hPic.kept (o9 _ (by omega))
  replace hA0 := hA0.kept (o9 _ (by omega))
  replace hA1 := hA1.kept (o9 _ (by omega))
  replace hF := hF.made (by omega) z9 o9
  have hA2 : va_at D vwCl ((h + 2), .inl (g 0, 48, .inl (fun _ => jI 0))) H := n9
  replace hsz : H.size = (h + 3) := by omega
  clear n9 z9 o9
  refine jv_putF (D := D) (ci := 4) (v := .ref (h + 2)) (ty := .array .int) (C := RX4) (T := TX4) (N := 17) hx hb hts (fun w h => List.mem_cons_of_mem _ (uw_X4 w h)) tyX4 tyX4_ok nmX4 hown hK hPic rfl 4 (by decide) (hts _ (List.mem_cons_of_mem _ kw_422)) (fun _ h9 => h9) rfl hin rfl (by decide +kernel) rfl rfl (Nat.le_of_ble_eq_true rfl) dX4_init_25 (fun H f9 hn9 hz9 oq9 => ?_)
  replace hA0 := hA0.kept (oq9 _ (by omega))
  replace hA1 := hA1.kept (oq9 _ (by omega))
  replace hA2 := hA2.kept (oq9 _ (by omega))
  replace hPic : va_at D vwCl (b, .inr (4, [.int (jI 0), .int (jI 0), .ref h, .ref (h + 1), .ref (h + 2), .null, .null, .null, .null, .null, .null, .null, .int (jI 0), .long (jL 0), .long (jL 0), .null, .null])) H := hn9
  replace hF := hF.put (by omega) hz9 oq9 (f := f9)
  replace hsz : H.size = (h + 3) := by omega
  clear hn9 hz9 oq9
  refine lv_aload_n hx hb dX4_init_28 rfl (lv_at hl 0 rfl) ?_
  refine jv_bipush hx hb dX4_init_29 (by decide) ?_
  refine jn_newi (h := (h + 3)) (N' := 48) hx hb (hts _ (List.mem_cons_of_mem _ kw_63)) hK 0 rfl rfl (by decide) hsz (Nat.le_of_ble_eq_true rfl) (Nat.le_of_ble_eq_true rfl) dX4_init_31 (fun H n9 z9 o9 => ?_)
  replace hPic := hPic.kept (o9 _ (by omega))
  replace hA0 := hA0.kept (o9 _ (by omega))
  replace hA1 := hA1.kept (o9 _ (by omega))
  replace hA2 := hA2.kept (o9 _ (by omega))
  replace hF := hF.made (by omega) z9 o9
  have hA3 : va_at D vwCl ((h + 3), .inl (g 0, 48, .inl (fun _ => jI 0))) H := n9
  replace hsz : H.size = (h + 4) := by omega
  clear n9 z9 o9
  refine jv_putF (D := D) (ci := 4) (v := .ref (h + 3)) (ty := .array .int) (C := RX4) (T := TX4) (N := 17) hx hb hts (fun w h => List.mem_cons_of_mem _ (uw_X4 w h)) tyX4 tyX4_ok nmX4 hown hK hPic rfl 5 (by decide) (hts _ (List.mem_cons_of_mem _ kw_423)) (fun _ h9 => h9) rfl hin rfl (by decide +kernel) rfl rfl (Nat.le_of_ble_eq_true rfl) dX4_init_33 (fun H f9 hn9 hz9 oq9 => ?_)
  replace hA0 := hA0.kept (oq9 _ (by omega))
  replace hA1 := hA1.kept (oq9 _ (by omega))
  replace hA2 := hA2.kept (oq9 _ (by omega))
  replace hA3 := hA3.kept (oq9 _ (by omega))
  replace hPic : va_at D vwCl (b, .inr (4, [.int (jI 0), .int (jI 0), .ref h, .ref (h + 1), .ref (h + 2), .ref (h + 3), .null, .null, .null, .null, .null, .null, .int (jI 0), .long (jL 0), .long (jL 0), .null, .null])) H := hn9
  replace hF := hF.put (by omega) hz9 oq9 (f := f9)
  replace hsz : H.size = (h + 4) := by omega
  clear hn9 hz9 oq9
  refine lv_aload_n hx hb dX4_init_36 rfl (lv_at hl 0 rfl) ?_
  refine jv_bipush hx hb dX4_init_37 (by decide) ?_
  refine jn_newi (h := (h + 4)) (N' := 48) hx hb (hts _ (List.mem_cons_of_mem _ kw_63)) hK 0 rfl rfl (by decide) hsz (Nat.le_of_ble_eq_true rfl) (Nat.le_of_ble_eq_true rfl) dX4_init_39 (fun H n9 z9 o9 => ?_)
  replace hPic := hPic.kept (o9 _ (by omega))
  replace hA0 := hA0.kept (o9 _ (by omega))
  replace hA1 := hA1.kept (o9 _ (by omega))
  replace hA2 := hA2.kept (o9 _ (by omega))
  replace hA3 := hA3.kept (o9 _ (by omega))
  replace hF := hF.made (by omega) z9 o9
  have hA4 : va_at D vwCl ((h + 4), .inl (g 0, 48, .inl (fun _ => jI 0))) H := n9
  replace hsz : H.size = (h + 5) := by omega
  clear n9 z9 o9
  refine jv_putF (D := D) (ci := 4) (v := .ref (h + 4)) (ty := .array .int) (C := RX4) (T := TX4) (N := 17) hx hb hts (fun w h => List.mem_cons_of_mem _ (uw_X4 w h)) tyX4 tyX4_ok nmX4 hown hK hPic rfl 6 (by decide) (hts _ (List.mem_cons_of_mem _ kw_424)) (fun _ h9 => h9) rfl hin rfl (by decide +kernel) rfl rfl (Nat.le_of_ble_eq_true rfl) dX4_init_41 (fun H f9 hn9 hz9 oq9 => ?_)
  replace hA0 := hA0.kept (oq9 _ (by omega))
  replace hA1 := hA1.kept (oq9 _ (by omega))
  replace hA2 := hA2.kept (oq9 _ (by omega))
  replace hA3 := hA3.kept (oq9 _ (by omega))
  replace hA4 := hA4.kept (oq9 _ (by omega))
  replace hPic : va_at D vwCl (b, .inr (4, [.int (jI 0), .int (jI 0), .ref h, .ref (h + 1), .ref (h + 2), .ref (h + 3), .ref (h + 4), .null, .null, .null, .null, .null, .int (jI 0), .long (jL 0), .long (jL 0), .null, .null])) H := hn9
  replace hF := hF.put (by omega) hz9 oq9 (f := f9)
  replace hsz : H.size = (h + 5) := by omega
  clear hn9 hz9 oq9
  refine lv_aload_n hx hb dX4_init_44 rfl (lv_at hl 0 rfl) ?_
  refine jv_bipush hx hb dX4_init_45 (by decide) ?_
  refine jn_newi (h := (h + 5)) (N' := 8) hx hb (hts _ (List.mem_cons_of_mem _ kw_63)) hK 0 rfl rfl (by decide) hsz (Nat.le_of_ble_eq_true rfl) (Nat.le_of_ble_eq_true rfl) dX4_init_47 (fun H n9 z9 o9 => ?_)
  replace hPic := hPic.kept (o9 _ (by omega))
  replace hA0 := hA0.kept (o9 _ (by omega))
  replace hA1 := hA1.kept (o9 _ (by omega))
  replace hA2 := hA2.kept (o9 _ (by omega))
  replace hA3 := hA3.kept (o9 _ (by omega))
  replace hA4 := hA4.kept (o9 _ (by omega))
  replace hF := hF.made (by omega) z9 o9
  have hA5 : va_at D vwCl ((h + 5), .inl (g 0, 8, .inl (fun _ => jI 0))) H := n9
  replace hsz : H.size = (h + 6) := by omega
  clear n9 z9 o9
  refine jv_putF (D := D) (ci := 4) (v := .ref (h + 5)) (ty := .array .int) (C := RX4) (T := TX4) (N := 17) hx hb hts (fun w h => List.mem_cons_of_mem _ (uw_X4 w h)) tyX4 tyX4_ok nmX4 hown hK hPic rfl 7 (by decide) (hts _ (List.mem_cons_of_mem _ kw_425)) (fun _ h9 => h9) rfl hin rfl (by decide +kernel) rfl rfl (Nat.le_of_ble_eq_true rfl) dX4_init_49 (fun H f9 hn9 hz9 oq9 => ?_)
  replace hA0 := hA0.kept (oq9 _ (by omega))
  replace hA1 := hA1.kept (oq9 _ (by omega))
  replace hA2 := hA2.kept (oq9 _ (by omega))
  replace hA3 := hA3.kept (oq9 _ (by omega))
  replace hA4 := hA4.kept (oq9 _ (by omega))
  replace hA5 := hA5.kept (oq9 _ (by omega))
  replace hPic : va_at D vwCl (b, .inr (4, [.int (jI 0), .int (jI 0), .ref h, .ref (h + 1), .ref (h + 2), .ref (h + 3), .ref (h + 4), .ref (h + 5), .null, .null, .null, .null, .int (jI 0), .long (jL 0), .long (jL 0), .null, .null])) H := hn9
  replace hF := hF.put (by omega) hz9 oq9 (f := f9)
  replace hsz : H.size = (h + 6) := by omega
  clear hn9 hz9 oq9
  refine lv_aload_n hx hb dX4_init_52 rfl (lv_at hl 0 rfl) ?_
  refine jv_bipush hx hb dX4_init_53 (by decide) ?_
  refine jn_newi (h := (h + 6)) (N' := 32) hx hb (hts _ (List.mem_cons_of_mem _ kw_63)) hK 0 rfl rfl (by decide) hsz (Nat.le_of_ble_eq_true rfl) (Nat.le_of_ble_eq_true rfl) dX4_init_55 (fun H n9 z9 o9 => ?_)
  replace hPic := hPic.kept (o9 _ (by omega))
  replace hA0 := hA0.kept (o9 _ (by omega))
  replace hA1 := hA1.kept (o9 _ (by omega))
  replace hA2 := hA2.kept (o9 _ (by omega))
  replace hA3 := hA3.kept (o9 _ (by omega))
  replace hA4 := hA4.kept (o9 _ (by omega))
  replace hA5 := hA5.kept (o9 _ (by omega))
  replace hF := hF.made (by omega) z9 o9
  have hA6 : va_at D vwCl ((h + 6), .inl (g 0, 32, .inl (fun _ => jI 0))) H := n9
  replace hsz : H.size = (h + 7) := by omega
  clear n9 z9 o9
  refine jv_putF (D := D) (ci := 4) (v := .ref (h + 6)) (ty := .array .int) (C := RX4) (T := TX4) (N := 17) hx hb hts (fun w h => List.mem_cons_of_mem _ (uw_X4 w h)) tyX4 tyX4_ok nmX4 hown hK hPic rfl 8 (by decide) (hts _ (List.mem_cons_of_mem _ kw_426)) (fun _ h9 => h9) rfl hin rfl (by decide +kernel) rfl rfl (Nat.le_of_ble_eq_true rfl) dX4_init_57 (fun H f9 hn9 hz9 oq9 => ?_)
  replace hA0 := hA0.kept (oq9 _ (by omega))
  replace hA1 := hA1.kept (oq9 _ (by omega))
  replace hA2 := hA2.kept (oq9 _ (by omega))
  replace hA3 := hA3.kept (oq9 _ (by omega))
  replace hA4 := hA4.kept (oq9 _ (by omega))
  replace hA5 := hA5.kept (oq9 _ (by omega))
  replace hA6 := hA6.kept (oq9 _ (by omega))
  replace hPic : va_at D vwCl (b, .inr (4, [.int (jI 0), .int (jI 0), .ref h, .ref (h + 1), .ref (h + 2), .ref (h + 3), .ref (h + 4), .ref (h + 5), .ref (h + 6), .null, .null, .null, .int (jI 0), .long (jL 0), .long (jL 0), .null, .null])) H := hn9
  replace hF := hF.put (by omega) hz9 oq9 (f := f9)
  replace hsz : H.size = (h + 7) := by omega
  clear hn9 hz9 oq9
  refine lv_aload_n hx hb dX4_init_60 rfl (lv_at hl 0 rfl) ?_
  refine jv_bipush hx hb dX4_init_61 (by decide) ?_
  refine jn_newi (h := (h + 7)) (N' := 32) hx hb (hts _ (List.mem_cons_of_mem _ kw_63)) hK 0 rfl rfl (by decide) hsz (Nat.le_of_ble_eq_true rfl) (Nat.le_of_ble_eq_true rfl) dX4_init_63 (fun H n9 z9 o9 => ?_)
  replace hPic := hPic.kept (o9 _ (by omega))
  replace hA0 := hA0.kept (o9 _ (by omega))
  replace hA1 := hA1.kept (o9 _ (by omega))
  replace hA2 := hA2.kept (o9 _ (by omega))
  replace hA3 := hA3.kept (o9 _ (by omega))
  replace hA4 := hA4.kept (o9 _ (by omega))
  replace hA5 := hA5.kept (o9 _ (by omega))
  replace hA6 := hA6.kept (o9 _ (by omega))
  replace hF := hF.made (by omega) z9 o9
  have hA7 : va_at D vwCl ((h + 7), .inl (g 0, 32, .inl (fun _ => jI 0))) H := n9
  replace hsz : H.size = (h + 8) := by omega
  clear n9 z9 o9
  refine jv_putF (D := D) (ci := 4) (v := .ref (h + 7)) (ty := .array .int) (C := RX4) (T := TX4) (N := 17) hx hb hts (fun w h => List.mem_cons_of_mem _ (uw_X4 w h)) tyX4 tyX4_ok nmX4 hown hK hPic rfl 9 (by decide) (hts _ (List.mem_cons_of_mem _ kw_427)) (fun _ h9 => h9) rfl hin rfl (by decide +kernel) rfl rfl (Nat.le_of_ble_eq_true rfl) dX4_init_65 (fun H f9 hn9 hz9 oq9 => ?_)
  replace hA0 := hA0.kept (oq9 _ (by omega))
  replace hA1 := hA1.kept (oq9 _ (by omega))
  replace hA2 := hA2.kept (oq9 _ (by omega))
  replace hA3 := hA3.kept (oq9 _ (by omega))
  replace hA4 := hA4.kept (oq9 _ (by omega))
  replace hA5 := hA5.kept (oq9 _ (by omega))
  replace hA6 := hA6.kept (oq9 _ (by omega))
  replace hA7 := hA7.kept (oq9 _ (by omega))
  replace hPic : va_at D vwCl (b, .inr (4, [.int (jI 0), .int (jI 0), .ref h, .ref (h + 1), .ref (h + 2), .ref (h + 3), .ref (h + 4), .ref (h + 5), .ref (h + 6), .ref (h + 7), .null, .null, .int (jI 0), .long (jL 0), .long (jL 0), .null, .null])) H := hn9
  replace hF := hF.put (by omega) hz9 oq9 (f := f9)
  replace hsz : H.size = (h + 8) := by omega
  clear hn9 hz9 oq9
  refine lv_aload_n hx hb dX4_init_68 rfl (lv_at hl 0 rfl) ?_
  refine jv_bipush hx hb dX4_init_69 (by decide) ?_
  refine jn_newi (h := (h + 8)) (N' := 8) hx hb (hts _ (List.mem_cons_of_mem _ kw_63)) hK 0 rfl rfl (by decide) hsz (Nat.le_of_ble_eq_true rfl) (Nat.le_of_ble_eq_true rfl) dX4_init_71 (fun H n9 z9 o9 => ?_)
  replace hPic := hPic.kept (o9 _ (by omega))
  replace hA0 := hA0.kept (o9 _ (by omega))
  replace hA1 := hA1.kept (o9 _ (by omega))
  replace hA2 := hA2.kept (o9 _ (by omega))
  replace hA3 := hA3.kept (o9 _ (by omega))
  replace hA4 := hA4.kept (o9 _ (by omega))
  replace hA5 := hA5.kept (o9 _ (by omega))
  replace hA6 := hA6.kept (o9 _ (by omega))
  replace hA7 := hA7.kept (o9 _ (by omega))
  replace hF := hF.made (by omega) z9 o9
  have hA8 : va_at D vwCl ((h + 8), .inl (g 0, 8, .inl (fun _ => jI 0))) H := n9
  replace hsz : H.size = (h + 9) := by omega
  clear n9 z9 o9
  refine jv_putF (D := D) (ci := 4) (v := .ref (h + 8)) (ty := .array .int) (C := RX4) (T := TX4) (N := 17) hx hb hts (fun w h => List.mem_cons_of_mem _ (uw_X4 w h)) tyX4 tyX4_ok nmX4 hown hK hPic rfl 10 (by decide) (hts _ (List.mem_cons_of_mem _ kw_428)) (fun _ h9 => h9) rfl hin rfl (by decide +kernel) rfl rfl (Nat.le_of_ble_eq_true rfl) dX4_init_73 (fun H f9 hn9 hz9 oq9 => ?_)
  replace hA0 := hA0.kept (oq9 _ (by omega))
  replace hA1 := hA1.kept (oq9 _ (by omega))
  replace hA2 := hA2.kept (oq9 _ (by omega))
  replace hA3 := hA3.kept (oq9 _ (by omega))
  replace hA4 := hA4.kept (oq9 _ (by omega))
  replace hA5 := hA5.kept (oq9 _ (by omega))
  replace hA6 := hA6.kept (oq9 _ (by omega))
  replace hA7 := hA7.kept (oq9 _ (by omega))
  replace hA8 := hA8.kept (oq9 _ (by omega))
  replace hPic : va_at D vwCl (b, .inr (4, [.int (jI 0), .int (jI 0), .ref h, .ref (h + 1), .ref (h + 2), .ref (h + 3), .ref (h + 4), .ref (h + 5), .ref (h + 6), .ref (h + 7), .ref (h + 8), .null, .int (jI 0), .long (jL 0), .long (jL 0), .null, .null])) H := hn9
  replace hF := hF.put (by omega) hz9 oq9 (f := f9)
  replace hsz : H.size = (h + 9) := by omega
  clear hn9 hz9 oq9
  refine lv_aload_n hx hb dX4_init_76 rfl (lv_at hl 0 rfl) ?_
  refine jv_bipush hx hb dX4_init_77 (by decide) ?_
  refine jn_newi (h := (h + 9)) (N' := 8) hx hb (hts _ (List.mem_cons_of_mem _ kw_63)) hK 0 rfl rfl (by decide) hsz (Nat.le_of_ble_eq_true rfl) (Nat.le_of_ble_eq_true rfl) dX4_init_79 (fun H n9 z9 o9 => ?_)
  replace hPic := hPic.kept (o9 _ (by omega))
  replace hA0 := hA0.kept (o9 _ (by omega))
  replace hA1 := hA1.kept (o9 _ (by omega))
  replace hA2 := hA2.kept (o9 _ (by omega))
  replace hA3 := hA3.kept (o9 _ (by omega))
  replace hA4 := hA4.kept (o9 _ (by omega))
  replace hA5 := hA5.kept (o9 _ (by omega))
  replace hA6 := hA6.kept (o9 _ (by omega))
  replace hA7 := hA7.kept (o9 _ (by omega))
  replace hA8 := hA8.kept (o9 _ (by omega))
  replace hF := hF.made (by omega) z9 o9
  have hA9 : va_at D vwCl ((h + 9), .inl (g 0, 8, .inl (fun _ => jI 0))) H := n9
  replace hsz : H.size = (h + 10) := by omega
  clear n9 z9 o9
  refine jv_putF (D := D) (ci := 4) (v := .ref (h + 9)) (ty := .array .int) (C := RX4) (T := TX4) (N := 17) hx hb hts (fun w h => List.mem_cons_of_mem _ (uw_X4 w h)) tyX4 tyX4_ok nmX4 hown hK hPic rfl 11 (by decide) (hts _ (List.mem_cons_of_mem _ kw_429)) (fun _ h9 => h9) rfl hin rfl (by decide +kernel) rfl rfl (Nat.le_of_ble_eq_true rfl) dX4_init_81 (fun H f9 hn9 hz9 oq9 => ?_)
  replace hA0 := hA0.kept (oq9 _ (by omega))
  replace hA1 := hA1.kept (oq9 _ (by omega))
  replace hA2 := hA2.kept (oq9 _ (by omega))
  replace hA3 := hA3.kept (oq9 _ (by omega))
  replace hA4 := hA4.kept (oq9 _ (by omega))
  replace hA5 := hA5.kept (oq9 _ (by omega))
  replace hA6 := hA6.kept (oq9 _ (by omega))
  replace hA7 := hA7.kept (oq9 _ (by omega))
  replace hA8 := hA8.kept (oq9 _ (by omega))
  replace hA9 := hA9.kept (oq9 _ (by omega))
  replace hPic : va_at D vwCl (b, .inr (4, [.int (jI 0), .int (jI 0), .ref h, .ref (h + 1), .ref (h + 2), .ref (h + 3), .ref (h + 4), .ref (h + 5), .ref (h + 6), .ref (h + 7), .ref (h + 8), .ref (h + 9), .int (jI 0), .long (jL 0), .long (jL 0), .null, .null])) H := hn9
  replace hF := hF.put (by omega) hz9 oq9 (f := f9)
  replace hsz : H.size = (h + 10) := by omega
  clear hn9 hz9 oq9
  refine lv_aload_n hx hb dX4_init_84 rfl (lv_at hl 0 rfl) ?_
  refine jv_sipush hx hb dX4_init_85 (by decide) ?_
  refine jn_newi (h := (h + 10)) (N' := 128) hx hb (hts _ (List.mem_cons_of_mem _ kw_63)) hK 0 rfl rfl (by decide) hsz (Nat.le_of_ble_eq_true rfl) (Nat.le_of_ble_eq_true rfl) dX4_init_88 (fun H n9 z9 o9 => ?_)
  replace hPic := hPic.kept (o9 _ (by omega))
  replace hA0 := hA0.kept (o9 _ (by omega))
  replace hA1 := hA1.kept (o9 _ (by omega))
  replace hA2 := hA2.kept (o9 _ (by omega))
  replace hA3 := hA3.kept (o9 _ (by omega))
  replace hA4 := hA4.kept (o9 _ (by omega))
  replace hA5 := hA5.kept (o9 _ (by omega))
  replace hA6 := hA6.kept (o9 _ (by omega))
  replace hA7 := hA7.kept (o9 _ (by omega))
  replace hA8 := hA8.kept (o9 _ (by omega))
  replace hA9 := hA9.kept (o9 _ (by omega))
  replace hF := hF.made (by omega) z9 o9
  have hA10 : va_at D vwCl ((h + 10), .inl (g 0, 128, .inl (fun _ => jI 0))) H := n9
  replace hsz : H.size = (h + 11) := by omega
  clear n9 z9 o9
  refine jv_putF (D := D) (ci := 4) (v := .ref (h + 10)) (ty := .array .int) (C := RX4) (T := TX4) (N := 17) hx hb hts (fun w h => List.mem_cons_of_mem _ (uw_X4 w h)) tyX4 tyX4_ok nmX4 hown hK hPic rfl 15 (by decide) (hts _ (List.mem_cons_of_mem _ kw_433)) (fun _ h9 => h9) rfl hin rfl (by decide +kernel) rfl rfl (Nat.le_of_ble_eq_true rfl) dX4_init_90 (fun H f9 hn9 hz9 oq9 => ?_)
  replace hA0 := hA0.kept (oq9 _ (by omega))
  replace hA1 := hA1.kept (oq9 _ (by omega))
  replace hA2 := hA2.kept (oq9 _ (by omega))
  replace hA3 := hA3.kept (oq9 _ (by omega))
  replace hA4 := hA4.kept (oq9 _ (by omega))
  replace hA5 := hA5.kept (oq9 _ (by omega))
  replace hA6 := hA6.kept (oq9 _ (by omega))
  replace hA7 := hA7.kept (oq9 _ (by omega))
  replace hA8 := hA8.kept (oq9 _ (by omega))
  replace hA9 := hA9.kept (oq9 _ (by omega))
  replace hA10 := hA10.kept (oq9 _ (by omega))
  replace hPic : va_at D vwCl (b, .inr (4, [.int (jI 0), .int (jI 0), .ref h, .ref (h + 1), .ref (h + 2), .ref (h + 3), .ref (h + 4), .ref (h + 5), .ref (h + 6), .ref (h + 7), .ref (h + 8), .ref (h + 9), .int (jI 0), .long (jL 0), .long (jL 0), .ref (h + 10), .null])) H := hn9
  replace hF := hF.put (by omega) hz9 oq9 (f := f9)
  replace hsz : H.size = (h + 11) := by omega
  clear hn9 hz9 oq9
  refine lv_aload_n hx hb dX4_init_93 rfl (lv_at hl 0 rfl) ?_
  refine jv_bipush hx hb dX4_init_94 (by decide) ?_
  refine jn_newi (h := (h + 11)) (N' := 8) hx hb (hts _ (List.mem_cons_of_mem _ kw_63)) hK 0 rfl rfl (by decide) hsz (Nat.le_of_ble_eq_true rfl) (Nat.le_of_ble_eq_true rfl) dX4_init_96 (fun H n9 z9 o9 => ?_)
  replace hPic := hPic.kept (o9 _ (by omega))
  replace hA0 := hA0.kept (o9 _ (by omega))
  replace hA1 := hA1.kept (o9 _ (by omega))
  replace hA2 := hA2.kept (o9 _ (by omega))
  replace hA3 := hA3.kept (o9 _ (by omega))
  replace hA4 := hA4.kept (o9 _ (by omega))
  replace hA5 := hA5.kept (o9 _ (by omega))
  replace hA6 := hA6.kept (o9 _ (by omega))
  replace hA7 := hA7.kept (o9 _ (by omega))
  replace hA8 := hA8.kept (o9 _ (by omega))
  replace hA9 := hA9.kept (o9 _ (by omega))
  replace hA10 := hA10.kept (o9 _ (by omega))
  replace hF := hF.made (by omega) z9 o9
  have hA11 : va_at D vwCl ((h + 11), .inl (g 0, 8, .inl (fun _ => jI 0))) H := n9
  replace hsz : H.size = (h + 12) := by omega
  clear n9 z9 o9
  refine jv_putF (D := D) (ci := 4) (v := .ref (h + 11)) (ty := .array .int) (C := RX4) (T := TX4) (N := 17) hx hb hts (fun w h => List.mem_cons_of_mem _ (uw_X4 w h)) tyX4 tyX4_ok nmX4 hown hK hPic rfl 16 (by decide) (hts _ (List.mem_cons_of_mem _ kw_434)) (fun _ h9 => h9) rfl hin rfl (by decide +kernel) rfl rfl (Nat.le_of_ble_eq_true rfl) dX4_init_98 (fun H f9 hn9 hz9 oq9 => ?_)
  replace hA0 := hA0.kept (oq9 _ (by omega))
  replace hA1 := hA1.kept (oq9 _ (by omega))
  replace hA2 := hA2.kept (oq9 _ (by omega))
  replace hA3 := hA3.kept (oq9 _ (by omega))
  replace hA4 := hA4.kept (oq9 _ (by omega))
  replace hA5 := hA5.kept (oq9 _ (by omega))
  replace hA6 := hA6.kept (oq9 _ (by omega))
  replace hA7 := hA7.kept (oq9 _ (by omega))
  replace hA8 := hA8.kept (oq9 _ (by omega))
  replace hA9 := hA9.kept (oq9 _ (by omega))
  replace hA10 := hA10.kept (oq9 _ (by omega))
  replace hA11 := hA11.kept (oq9 _ (by omega))
  replace hPic : va_at D vwCl (b, .inr (4, [.int (jI 0), .int (jI 0), .ref h, .ref (h + 1), .ref (h + 2), .ref (h + 3), .ref (h + 4), .ref (h + 5), .ref (h + 6), .ref (h + 7), .ref (h + 8), .ref (h + 9), .int (jI 0), .long (jL 0), .long (jL 0), .ref (h + 10), .ref (h + 11)])) H := hn9
  replace hF := hF.put (by omega) hz9 oq9 (f := f9)
  replace hsz : H.size = (h + 12) := by omega
  clear hn9 hz9 oq9
  exact n_vret hx hb hr hlocks dX4_init_101 ⟨hPic, fun a h1 h2 => by rcases (show a = 1 ∨ a = 2 ∨ a = 3 ∨ a = 4 ∨ a = 5 ∨ a = 6 ∨ a = 7 ∨ a = 8 ∨ a = 9 ∨ a = 10 ∨ a = 11 ∨ a = 12 by omega) with rfl | rfl | rfl | rfl | rfl | rfl | rfl | rfl | rfl | rfl | rfl | rfl; (· exact hA0); (· exact hA1); (· exact hA2); (· exact hA3); (· exact hA4); (· exact hA5); (· exact hA6); (· exact hA7); (· exact hA8); (· exact hA9); (· exact hA10); (· exact hA11)⟩ hF
