set_option maxRecDepth 20000 in
theorem kw_23 : (.classLink RL 8 RX3 : Cond) ∈ gAll := g_mem 23 rfl rfl
set_option maxRecDepth 20000 in
theorem kw_24 : (.instantiable RX3 3 : Cond) ∈ gAll := g_mem 24 rfl rfl
set_option maxRecDepth 20000 in
theorem kw_25 : (.methodLink RL 61 yX3_init : Cond) ∈ gAll := g_mem 25 rfl rfl
set_option maxRecDepth 20000 in
theorem kw_26 : (.instanceMethod yX3_init : Cond) ∈ gAll := g_mem 26 rfl rfl
set_option maxRecDepth 20000 in
theorem kw_412 : (.classLink RL 62 RX4 : Cond) ∈ gAll := g_mem 412 rfl rfl
set_option maxRecDepth 20000 in
theorem kw_413 : (.instantiable RX4 17 : Cond) ∈ gAll := g_mem 413 rfl rfl
set_option maxRecDepth 20000 in
theorem kw_414 : (.methodLink RL 64 yX4_init : Cond) ∈ gAll := g_mem 414 rfl rfl
set_option maxRecDepth 20000 in
theorem kw_415 : (.instanceMethod yX4_init : Cond) ∈ gAll := g_mem 415 rfl rfl
set_option maxRecDepth 20000 in
theorem kw_570 : (.arrayClass .long : Cond) ∈ gAll := g_mem 570 rfl rfl
set_option maxHeartbeats 8000000 in
set_option maxRecDepth 100000 in
theorem whole_start {p : Program} {e : Env} {s : State} {m : MethodId} {below : List Frame} {meth : Method} {c : Code} (l : Launch) (hl9 : l.stackTraces = false) {b L : Nat} {xs : Nat → Int32} (hL : L ≤ 2560) (C0 : lw_At p s m meth c b L xs) : W p l e room_1 s m #[Value.ref b] below meth c s.heap [] 0 0 (lw_Z below #[Value.ref b] s) (entryFrame m ([Value.ref b] : List Value).toArray 7) := by
  obtain ⟨hx, hb, hr, hml, hown, htt, hX0, hbl, hlocks, hgv⟩ := id C0
  obtain ⟨D, g, hK⟩ := st_K htt
  obtain ⟨hxT, hnT⟩ := st_T htt hgv hK
  have hts : ∀ w ∈ wL_device :: gAll, w.before #[Value.ref b] s = true := fun w h => htt w (g_tbl (gd_k kcL_device w h))
  have hown : s.vm.findClass RL = some m.cls := hown
  obtain ⟨z0, hsz⟩ : ∃ z0, s.heap.size = z0 := ⟨_, rfl⟩
  have hz0 := hsz
  rw [hsz] at hxT hbl
  have G : lG l p s m c b L xs D g z0 := ⟨hl9, hx, hb, hml, hown, hts, hK, hxT, hX0, hbl, hL⟩
  have hF : nF z0 z0 s.heap s.heap [] 0 := nF.rf hsz
  have hl := lv_entry ([.ref b]) (n := 7) (Nat.le_of_ble_eq_true rfl)
  rw [lg_entry_eq]
  generalize (lg_sl ([.ref b]) ++ List.replicate (7 - (lg_sl ([.ref b])).length) Slot.unset).toArray = ls at hl ⊢
  have hl : lv_has ls 7 [(0, .ref b)] := hl
  refine jn_new (h := z0) (ci := 3) (fs := [.null, .int (jI 0), .int (jI 0)]) (C := RX3) (T := TX3) (N := 3) hx hb hts (fun w h => List.mem_cons_of_mem _ (uw_X3 w h)) tyX3 tyX3_ok hown (hts _ (List.mem_cons_of_mem _ kw_23)) (hts _ (List.mem_cons_of_mem _ kw_24)) (hts _ (List.mem_cons_of_mem _ kw_12)) hK rfl (fun j hj => by rcases (show j = 0 ∨ j = 1 ∨ j = 2 by omega) with rfl | rfl | rfl <;> rfl) hsz (Nat.le_of_ble_eq_true rfl) (Nat.le_of_ble_eq_true rfl) dL_law_0 (fun H n9 z9 o9 => ?_)
  replace hF := hF.made (by omega) z9 o9
  have hB : va_at D vwCl (z0, .inr (3, [.null, .int (jI 0), .int (jI 0)])) H := n9
  replace hsz : H.size = (z0 + 1) := by omega
  clear n9 z9 o9
  refine lv_dup hx hb dL_law_3 rfl ?_
  refine n_call (va_runI (As := []) (rest := [.ref z0]) ⟨hx, hb, hml, hown, hts⟩ (n_X3 l D g z0 (z0 + 1) (by omega)) (cwI 0 hts (gd_0 gd_c (gd_k kcX3_init)) rfl rfl rfl (hts _ (List.mem_cons_of_mem _ kw_12)) (hts _ (List.mem_cons_of_mem _ kw_25)) (hts _ (List.mem_cons_of_mem _ kw_26)) rfl (by decide +kernel) ⟨Nat.le_of_ble_eq_true rfl, Nat.le_of_ble_eq_true rfl⟩) (n_pre (h := (z0 + 1)) hsz hB hK hnT) rfl rfl hl.1 rfl (lv_room (Nat.le_of_ble_eq_true rfl)) dL_law_4 ⟨Nat.le_of_ble_eq_true rfl, Nat.le_of_ble_eq_true rfl⟩) hF (by omega) (by omega) (fun H locs hP o9 hF => ?_)
  replace hsz : H.size = (z0 + 98) := by have := hF.1; omega
  have hBW : bW D g (nAd z0 (z0 + 1)) zI (fun _ _ => false) (fun _ _ => 0) H := hP
  clear o9
  refine lv_astore_n (lv' := [(1, .ref z0), (0, .ref b)]) hx hb dL_law_7 rfl hl (by decide) rfl (fun ls hl => ?_)
  refine jn_new (h := (z0 + 98)) (ci := 4) (fs := [.int (jI 0), .int (jI 0), .null, .null, .null, .null, .null, .null, .null, .null, .null, .null, .int (jI 0), .long (jL 0), .long (jL 0), .null, .null]) (C := RX4) (T := TX4) (N := 17) hx hb hts (fun w h => List.mem_cons_of_mem _ (uw_X4 w h)) tyX4 tyX4_ok hown (hts _ (List.mem_cons_of_mem _ kw_412)) (hts _ (List.mem_cons_of_mem _ kw_413)) (hts _ (List.mem_cons_of_mem _ kw_16)) hK rfl (fun j hj => by rcases (show j = 0 ∨ j = 1 ∨ j = 2 ∨ j = 3 ∨ j = 4 ∨ j = 5 ∨ j = 6 ∨ j = 7 ∨ j = 8 ∨ j = 9 ∨ j = 10 ∨ j = 11 ∨ j = 12 ∨ j = 13 ∨ j = 14 ∨ j = 15 ∨ j = 16 by omega) with rfl | rfl | rfl | rfl | rfl | rfl | rfl | rfl | rfl | rfl | rfl | rfl | rfl | rfl | rfl | rfl | rfl <;> rfl) hsz (Nat.le_of_ble_eq_true rfl) (Nat.le_of_ble_eq_true rfl) dL_law_8 (fun H n9 z9 o9 => ?_)
  replace hBW := bW_kept hBW (fun q hq => o9 _ (by have := nAd_z (z0 := z0) hq; omega))
  replace hF := hF.made (by omega) z9 o9
  have hM : va_at D vwCl ((z0 + 98), .inr (4, [.int (jI 0), .int (jI 0), .null, .null, .null, .null, .null, .null, .null, .null, .null, .null, .int (jI 0), .long (jL 0), .long (jL 0), .null, .null])) H := n9
  replace hsz : H.size = (z0 + 99) := by omega
  clear n9 z9 o9
  refine lv_dup hx hb dL_law_11 rfl ?_
  refine n_call (va_runI (As := []) (rest := [.ref (z0 + 98)]) ⟨hx, hb, hml, hown, hts⟩ (n_X4 l D g (z0 + 98) (z0 + 99) (by omega)) (cwI 0 hts (gd_0 gd_c (gd_k kcX4_init)) rfl rfl rfl (hts _ (List.mem_cons_of_mem _ kw_16)) (hts _ (List.mem_cons_of_mem _ kw_414)) (hts _ (List.mem_cons_of_mem _ kw_415)) rfl (by decide +kernel) ⟨Nat.le_of_ble_eq_true rfl, Nat.le_of_ble_eq_true rfl⟩) (n_pre (h := (z0 + 99)) hsz hM hK hnT) rfl rfl hl.1 rfl (lv_room (Nat.le_of_ble_eq_true rfl)) dL_law_12 ⟨Nat.le_of_ble_eq_true rfl, Nat.le_of_ble_eq_true rfl⟩) hF (by omega) (by omega) (fun H locs hP o9 hF => ?_)
  replace hBW := bW_kept hBW (fun q hq => o9 _ (by have := nAd_z (z0 := z0) hq; omega) (by have := nAd_z (z0 := z0) hq; omega))
  replace hsz : H.size = (z0 + 111) := by have := hF.1; omega
  have hMW : mW D g (nAm (z0 + 98) (z0 + 99)) 0 0 0 0 0 (fun _ _ => 0) H := hP
  clear o9
  refine lv_astore_n (lv' := [(2, .ref (z0 + 98)), (1, .ref z0), (0, .ref b)]) hx hb dL_law_15 rfl hl (by decide) rfl (fun ls hl => ?_)
  refine jv_iconst hx hb dL_law_16 ?_
  refine jn_newl (h := (z0 + 111)) (N' := 1) hx hb (hts _ (List.mem_cons_of_mem _ kw_570)) hK 4 rfl rfl (by decide) hsz (Nat.le_of_ble_eq_true rfl) (Nat.le_of_ble_eq_true rfl) dL_law_17 (fun H n9 z9 o9 => ?_)
  replace hBW := bW_kept hBW (fun q hq => o9 _ (by have := nAd_z (z0 := z0) hq; omega))
  replace hMW := mW_kept hMW (fun r hr => o9 _ (by have := nAm_z (z0 := z0) hr; omega))
  replace hF := hF.made (by omega) z9 o9
  have hO : va_at D vwCl ((z0 + 111), .inl (g 4, 1, .inr (.inl (fun _ => jL 0)))) H := n9
  replace hsz : H.size = (z0 + 112) := by omega
  clear n9 z9 o9
  refine lv_astore_n (lv' := [(3, .ref (z0 + 111)), (2, .ref (z0 + 98)), (1, .ref z0), (0, .ref b)]) hx hb dL_law_19 rfl hl (by decide) rfl (fun ls hl => ?_)
  refine jv_iconst hx hb dL_law_20 ?_
  refine lv_istore (lv' := [(4, .int (jI (0))), (3, .ref (z0 + 111)), (2, .ref (z0 + 98)), (1, .ref z0), (0, .ref b)]) hx hb dL_law_21 hl (by decide) rfl (fun ls hl => ?_)
  refine lo_loop p l e s m below meth c b L xs D g z0 hz0 G hr hlocks H _ _ _ ls ⟨zI, fun _ _ => false, fun _ _ => 0, 0, 0, 0, 0, 0, 0, fun _ _ => 0, ⟨zI_ok, zI_def, ⟨rfl, rfl, fun i hi => absurd hi (Nat.not_lt_zero _)⟩⟩, ⟨hBW, hO, hMW, by omega, fun q hq => hF.2.1 q hq (by omega), fun y hy => ?_⟩, ⟨Nat.le_of_ble_eq_true rfl, Nat.le_of_ble_eq_true rfl, by omega⟩, ?_⟩
  · rcases hF.2.2 y hy with h9 | h9
    · exact Nat.le_of_eq h9.symm
    · exact h9
  · exact lv_sub hl [4, 3, 2, 1, 0] rfl
