set_option maxHeartbeats 4000000 in
set_option maxRecDepth 100000 in
theorem c_add (l : Launch) (D : va_G) (g : Nat → ClassId) (ad : Nat → Nat) (z : bSt) (rl : Nat → Nat → Bool) (ff : Nat → Nat → Int) (hz : bOK z) (hj : bInj ad) (i k : Nat) (pl le mo : Int) (hi : i < 8) (hk : bK z i = k) (hk6 : k < 6) : Met l yX0_add wsX0_add ({ frames := 0, cells := 0, slots := 0, locals := 0 }) (pu_Pc [.ref (ad (2 + 12 * i + 1)), .int (jI (pl)), .int (jI (le)), .int (jI (mo))] D vwCl (ty9 g) (fun H => bW D g ad z rl ff H)) (bQ D g ad none (zK (zM (zL (zP z i k pl) i k le) i k mo) i (k + 1)) (fun _ _ => True)) 0 0 (bFr ad) := by
  refine Met.ofW (cc := cX0_add) (maxL := 4) (ret := none) (by decide) rfl ?_
  intro p e s m args below meth c s₁ B hml hv
  obtain ⟨rfl, hPic, hK⟩ := hv
  have hx := B.exec
  have hb := B.bytes
  have hr := B.returns
  have hts := atoms_spec (ws := wsX0_add) B.pre
  have hown : s.vm.findClass RX0 = some m.cls := findClass_of_methodNamed B.named
  have hlocks := B.notSynchronized
  have hl := lv_entry ([.ref (ad (2 + 12 * i + 1)), .int (jI (pl)), .int (jI (le)), .int (jI (mo))]) (n := 4) (Nat.le_of_ble_eq_true rfl)
  rw [lg_entry_eq]
  generalize (lg_sl ([.ref (ad (2 + 12 * i + 1)), .int (jI (pl)), .int (jI (le)), .int (jI (mo))]) ++ List.replicate (4 - (lg_sl ([.ref (ad (2 + 12 * i + 1)), .int (jI (pl)), .int (jI (le)), .int (jI (mo))])).length) Slot.unset).toArray = ls at hl ⊢
  have hl : lv_has ls 4 [(0, .ref (ad (2 + 12 * i + 1))), (1, .int (jI (pl))), (2, .int (jI (le))), (3, .int (jI (mo)))] := hl
  have hT0 : bTo ad s.heap s.heap [] := bTo.rf
  have hcu : va_at D vwCl (ad (2 + 12 * i + 1), .inr (0, [.ref (ad (2 + 12 * i + 2)), .ref (ad (2 + 12 * i + 3)), .ref (ad (2 + 12 * i + 4)), .int (jI ((bK z i : Int)))])) s.heap := bW_at hPic (i := i) (by omega) 1 (by omega)
  have hpl : va_at D vwCl (ad (2 + 12 * i + 2), .inl (g 0, 6, .inl (fun k9 => jI (bP z i k9)))) s.heap := bW_at hPic (i := i) (by omega) 2 (by omega)
  have hle : va_at D vwCl (ad (2 + 12 * i + 3), .inl (g 0, 6, .inl (fun k9 => jI (bL z i k9)))) s.heap := bW_at hPic (i := i) (by omega) 3 (by omega)
  have hmo : va_at D vwCl (ad (2 + 12 * i + 4), .inl (g 0, 6, .inl (fun k9 => jI (bM z i k9)))) s.heap := bW_at hPic (i := i) (by omega) 4 (by omega)
  rw [hk] at hcu
  refine lv_aload_n hx hb dX0_add_0 rfl (lv_at hl 0 rfl) ?_
  refine va_get (D := D) (ci := 0) (v := .int (jI ((k : Int)))) (C := RX0) (T := TX0) (N := 4) hx hb hts (fun w h => List.mem_cons_of_mem _ (uw_X0 w h)) hown hK (j_P1 hcu) 0 rfl rfl 3 (by decide) (hts _ (List.mem_cons_of_mem _ kw_51)) (fun _ h9 => h9) rfl dX0_add_1 ?_
  refine jv_bipush hx hb dX0_add_4 (by decide) ?_
  refine jv_icmp_ge (tgt := 49) hx hb dX0_add_6 (by decide) (by omega) (by omega) (fun c6 => ?_) (fun c6 => ?_)
  · exact absurd c6 (by omega)
  · refine lv_aload_n hx hb dX0_add_9 rfl (lv_at hl 0 rfl) ?_
    refine va_get (D := D) (ci := 0) (v := .ref (ad (2 + 12 * i + 2))) (C := RX0) (T := TX0) (N := 4) hx hb hts (fun w h => List.mem_cons_of_mem _ (uw_X0 w h)) hown hK (j_P1 hcu) 0 rfl rfl 0 (by decide) (hts _ (List.mem_cons_of_mem _ kw_44)) (fun _ h9 => h9) rfl dX0_add_10 ?_
    refine lv_aload_n hx hb dX0_add_13 rfl (lv_at hl 0 rfl) ?_
    refine va_get (D := D) (ci := 0) (v := .int (jI ((k : Int)))) (C := RX0) (T := TX0) (N := 4) hx hb hts (fun w h => List.mem_cons_of_mem _ (uw_X0 w h)) hown hK (j_P1 hcu) 0 rfl rfl 3 (by decide) (hts _ (List.mem_cons_of_mem _ kw_51)) (fun _ h9 => h9) rfl dX0_add_14 ?_
    refine lv_iload_n hx hb dX0_add_17 rfl (lv_at hl 1 rfl) ?_
    refine jv_iast (i := k) hx hb hK hpl 0 rfl (by omega) (by omega) (by decide) dX0_add_18 (fun H f9 hn9 hz9 oq9 => ?_)
    obtain ⟨w1, hw1⟩ : ∃ w9 : bSt, w9 = zP z i k pl := ⟨_, rfl⟩
    have hPic := bX_pl hj hPic (w := zP z i k pl) (i := i) hi rfl rfl rfl rfl rfl rfl rfl rfl rfl rfl rfl (fun i2 h2 => jUp_n h2) (jUp_s _ _ _) oq9 hn9
    rw [← hw1] at hPic
    have hT0 := hT0.put (2 + 12 * i + 2) (by omega) hz9 oq9 (f := f9)
    have hk_w1 : bK w1 i = k := by rw [hw1]; exact hk
    have hcu : va_at D vwCl (ad (2 + 12 * i + 1), .inr (0, [.ref (ad (2 + 12 * i + 2)), .ref (ad (2 + 12 * i + 3)), .ref (ad (2 + 12 * i + 4)), .int (jI ((bK w1 i : Int)))])) H := bW_at hPic (i := i) (by omega) 1 (by omega)
    have hpl : va_at D vwCl (ad (2 + 12 * i + 2), .inl (g 0, 6, .inl (fun k9 => jI (bP w1 i k9)))) H := bW_at hPic (i := i) (by omega) 2 (by omega)
    have hle : va_at D vwCl (ad (2 + 12 * i + 3), .inl (g 0, 6, .inl (fun k9 => jI (bL w1 i k9)))) H := bW_at hPic (i := i) (by omega) 3 (by omega)
    have hmo : va_at D vwCl (ad (2 + 12 * i + 4), .inl (g 0, 6, .inl (fun k9 => jI (bM w1 i k9)))) H := bW_at hPic (i := i) (by omega) 4 (by omega)
    rw [hk_w1] at hcu
    refine lv_aload_n hx hb dX0_add_19 rfl (lv_at hl 0 rfl) ?_
    refine va_get (D := D) (ci := 0) (v := .ref (ad (2 + 12 * i + 3))) (C := RX0) (T := TX0) (N := 4) hx hb hts (fun w h => List.mem_cons_of_mem _ (uw_X0 w h)) hown hK (j_P1 hcu) 0 rfl rfl 1 (by decide) (hts _ (List.mem_cons_of_mem _ kw_47)) (fun _ h9 => h9) rfl dX0_add_20 ?_
    refine lv_aload_n hx hb dX0_add_23 rfl (lv_at hl 0 rfl) ?_
    refine va_get (D := D) (ci := 0) (v := .int (jI ((k : Int)))) (C := RX0) (T := TX0) (N := 4) hx hb hts (fun w h => List.mem_cons_of_mem _ (uw_X0 w h)) hown hK (j_P1 hcu) 0 rfl rfl 3 (by decide) (hts _ (List.mem_cons_of_mem _ kw_51)) (fun _ h9 => h9) rfl dX0_add_24 ?_
    refine lv_iload_n hx hb dX0_add_27 rfl (lv_at hl 2 rfl) ?_
    refine jv_iast (i := k) hx hb hK hle 0 rfl (by omega) (by omega) (by decide) dX0_add_28 (fun H f9 hn9 hz9 oq9 => ?_)
    obtain ⟨w2, hw2⟩ : ∃ w9 : bSt, w9 = zL w1 i k le := ⟨_, rfl⟩
    have hPic := bX_le hj hPic (w := zL w1 i k le) (i := i) hi rfl rfl rfl rfl rfl rfl rfl rfl rfl rfl rfl (fun i2 h2 => jUp_n h2) (jUp_s _ _ _) oq9 hn9
    rw [← hw2] at hPic
    have hT0 := hT0.put (2 + 12 * i + 3) (by omega) hz9 oq9 (f := f9)
    have hk_w2 : bK w2 i = k := by rw [hw2]; exact hk_w1
    have hcu : va_at D vwCl (ad (2 + 12 * i + 1), .inr (0, [.ref (ad (2 + 12 * i + 2)), .ref (ad (2 + 12 * i + 3)), .ref (ad (2 + 12 * i + 4)), .int (jI ((bK w2 i : Int)))])) H := bW_at hPic (i := i) (by omega) 1 (by omega)
    have hpl : va_at D vwCl (ad (2 + 12 * i + 2), .inl (g 0, 6, .inl (fun k9 => jI (bP w2 i k9)))) H := bW_at hPic (i := i) (by omega) 2 (by omega)
    have hle : va_at D vwCl (ad (2 + 12 * i + 3), .inl (g 0, 6, .inl (fun k9 => jI (bL w2 i k9)))) H := bW_at hPic (i := i) (by omega) 3 (by omega)
    have hmo : va_at D vwCl (ad (2 + 12 * i + 4), .inl (g 0, 6, .inl (fun k9 => jI (bM w2 i k9)))) H := bW_at hPic (i := i) (by omega) 4 (by omega)
    rw [hk_w2] at hcu
    refine lv_aload_n hx hb dX0_add_29 rfl (lv_at hl 0 rfl) ?_
    refine va_get (D := D) (ci := 0) (v := .ref (ad (2 + 12 * i + 4))) (C := RX0) (T := TX0) (N := 4) hx hb hts (fun w h => List.mem_cons_of_mem _ (uw_X0 w h)) hown hK (j_P1 hcu) 0 rfl rfl 2 (by decide) (hts _ (List.mem_cons_of_mem _ kw_49)) (fun _ h9 => h9) rfl dX0_add_30 ?_
    refine lv_aload_n hx hb dX0_add_33 rfl (lv_at hl 0 rfl) ?_
    refine va_get (D := D) (ci := 0) (v := .int (jI ((k : Int)))) (C := RX0) (T := TX0) (N := 4) hx hb hts (fun w h => List.mem_cons_of_mem _ (uw_X0 w h)) hown hK (j_P1 hcu) 0 rfl rfl 3 (by decide) (hts _ (List.mem_cons_of_mem _ kw_51)) (fun _ h9 => h9) rfl dX0_add_34 ?_
    refine lv_iload_n hx hb dX0_add_37 rfl (lv_at hl 3 rfl) ?_
    refine jv_iast (i := k) hx hb hK hmo 0 rfl (by omega) (by omega) (by decide) dX0_add_38 (fun H f9 hn9 hz9 oq9 => ?_)
    obtain ⟨w3, hw3⟩ : ∃ w9 : bSt, w9 = zM w2 i k mo := ⟨_, rfl⟩
    have hPic := bX_mo hj hPic (w := zM w2 i k mo) (i := i) hi rfl rfl rfl rfl rfl rfl rfl rfl rfl rfl rfl (fun i2 h2 => jUp_n h2) (jUp_s _ _ _) oq9 hn9
    rw [← hw3] at hPic
    have hT0 := hT0.put (2 + 12 * i + 4) (by omega) hz9 oq9 (f := f9)
    have hk_w3 : bK w3 i = k := by rw [hw3]; exact hk_w2
    have hcu : va_at D vwCl (ad (2 + 12 * i + 1), .inr (0, [.ref (ad (2 + 12 * i + 2)), .ref (ad (2 + 12 * i + 3)), .ref (ad (2 + 12 * i + 4)), .int (jI ((bK w3 i : Int)))])) H := bW_at hPic (i := i) (by omega) 1 (by omega)
    have hpl : va_at D vwCl (ad (2 + 12 * i + 2), .inl (g 0, 6, .inl (fun k9 => jI (bP w3 i k9)))) H := bW_at hPic (i := i) (by omega) 2 (by omega)
    have hle : va_at D vwCl (ad (2 + 12 * i + 3), .inl (g 0, 6, .inl (fun k9 => jI (bL w3 i k9)))) H := bW_at hPic (i := i) (by omega) 3 (by omega)
    have hmo : va_at D vwCl (ad (2 + 12 * i + 4), .inl (g 0, 6, .inl (fun k9 => jI (bM w3 i k9)))) H := bW_at hPic (i := i) (by omega) 4 (by omega)
    rw [hk_w3] at hcu
    refine lv_aload_n hx hb dX0_add_39 rfl (lv_at hl 0 rfl) ?_
    refine lv_dup hx hb dX0_add_40 rfl ?_
    refine va_get (D := D) (ci := 0) (v := .int (jI ((k : Int)))) (C := RX0) (T := TX0) (N := 4) hx hb hts (fun w h => List.mem_cons_of_mem _ (uw_X0 w h)) hown hK (j_P1 hcu) 0 rfl rfl 3 (by decide) (hts _ (List.mem_cons_of_mem _ kw_51)) (fun _ h9 => h9) rfl dX0_add_41 ?_
    refine jv_iconst hx hb dX0_add_44 ?_
    refine jv_iadd hx hb dX0_add_45 ?_
    refine jv_put (D := D) (ci := 0) (v := .int (jI ((k : Int) + 1))) (ty := .int) (C := RX0) (T := TX0) (N := 4) hx hb hts (fun w h => List.mem_cons_of_mem _ (uw_X0 w h)) tyX0 tyX0_ok nmX0 hown hK hcu rfl 3 (by decide) (hts _ (List.mem_cons_of_mem _ kw_51)) (fun _ h9 => h9) rfl (by decide +kernel) rfl rfl (Nat.le_of_ble_eq_true rfl) dX0_add_46 (fun H f9 hn9 hz9 oq9 => ?_)
    obtain ⟨w4, hw4⟩ : ∃ w9 : bSt, w9 = zK w3 i (k + 1) := ⟨_, rfl⟩
    have hPic := bX_cur hj hPic (w := zK w3 i (k + 1)) (i := i) hi rfl rfl rfl rfl rfl rfl rfl rfl rfl rfl rfl (fun i2 h2 => jUp_n h2) (jUp_s _ _ _) oq9 hn9
    rw [← hw4] at hPic
    have hT0 := hT0.put (2 + 12 * i + 1) (by omega) hz9 oq9 (f := f9)
    subst hw4
    subst hw3
    subst hw2
    subst hw1
    exact b_vret hx hb hr hlocks dX0_add_49 trivial hPic hT0
set_option maxHeartbeats 4000000 in
set_option maxRecDepth 100000 in
theorem c_point (l : Launch) (D : va_G) (g : Nat → ClassId) (ad : Nat → Nat) (z : bSt) (rl : Nat → Nat → Bool) (ff : Nat → Nat → Int) (hz : bOK z) (hj : bInj ad) (d k : Nat) (pl le mo : Int) (hd : d < bN z) (hk : bK z d = k) (hk6 : k < 6) (hpl : 1 ≤ pl ∧ pl ≤ 5000) (hle : 0 ≤ le ∧ le ≤ mo) (hmo : mo ≤ 100000) (hlast : k = 0 ∨ (bP z d (k - 1) < pl ∧ 1 ≤ bP z d (k - 1))) : Met l yX3_point wsX3_point ({ frames := 1, cells := 0, slots := 0, locals := 23 }) (pu_Pc [.ref (ad 0), .int (jI ((d : Int))), .int (jI (pl)), .int (jI (le)), .int (jI (mo))] D vwCl (ty9 g) (fun H => bW D g ad z rl ff H)) (bQ D g ad (some (.int (jI ((k + 1 : Nat) : Int)))) (zK (zM (zL (zP z d k pl) d k le) d k mo) d (k + 1)) (fun _ _ => True)) 0 0 (bFr ad) := by
  refine Met.ofW (cc := cX3_point) (maxL := 6) (ret := some .int) (by decide) rfl ?_
  intro p e s m args below meth c s₁ B hml hv
  obtain ⟨rfl, hPic, hK⟩ := hv
  have hx := B.exec
  have hb := B.bytes
  have hr := B.returns
  have hts := atoms_spec (ws := wsX3_point) B.pre
  have hown : s.vm.findClass RX3 = some m.cls := findClass_of_methodNamed B.named
  have hlocks := B.notSynchronized
  have hx0 : va_at D vwCl (ad 0, .inr (3, [.ref (ad 1), .int (jI ((bN z : Int))), .int (jI (bV z))])) s.heap := hPic 0 (by omega)
  have hx1 : va_at D vwCl (ad 1, .inl (g 2, 8, .inr (.inr (.inr (.inr (fun j => some (ad (2 + 12 * j)))))))) s.heap := hPic 1 (by omega)
  have hN := hz.1
  have hd0_d : va_at D vwCl (ad (2 + 12 * d), .inr (1, [.int (jI ((d : Int))), .ref (ad (2 + 12 * d + 1)), .ref (ad (2 + 12 * d + 5)), .ref (ad (2 + 12 * d + 10)), .ref (ad (2 + 12 * d + 11)), va_rf ((bU z d).map (fun u => ad (2 + 12 * u))), .int (jI ((bO z d : Int))), .int (jI ((bC z d : Int))), .int (jI (bZ z d))])) s.heap := bW_at hPic (i := d) (by omega) 0 (by omega)
  have hcu : va_at D vwCl (ad (2 + 12 * d + 1), .inr (0, [.ref (ad (2 + 12 * d + 2)), .ref (ad (2 + 12 * d + 3)), .ref (ad (2 + 12 * d + 4)), .int (jI ((bK z d : Int)))])) s.heap := bW_at hPic (i := d) (by omega) 1 (by omega)
  have hpl : va_at D vwCl (ad (2 + 12 * d + 2), .inl (g 0, 6, .inl (fun k9 => jI (bP z d k9)))) s.heap := bW_at hPic (i := d) (by omega) 2 (by omega)
  have hle : va_at D vwCl (ad (2 + 12 * d + 3), .inl (g 0, 6, .inl (fun k9 => jI (bL z d k9)))) s.heap := bW_at hPic (i := d) (by omega) 3 (by omega)
  have hmo : va_at D vwCl (ad (2 + 12 * d + 4), .inl (g 0, 6, .inl (fun k9 => jI (bM z d k9)))) s.heap := bW_at hPic (i := d) (by omega) 4 (by omega)
  rw [hk] at hcu
  have hl := lv_entry ([.ref (ad 0), .int (jI ((d : Int))), .int (jI (pl)), .int (jI (le)), .int (jI (mo))]) (n := 6) (Nat.le_of_ble_eq_true rfl)
  rw [lg_entry_eq]
  generalize (lg_sl ([.ref (ad 0), .int (jI ((d : Int))), .int (jI (pl)), .int (jI (le)), .int (jI (mo))]) ++ List.replicate (6 - (lg_sl ([.ref (ad 0), .int (jI ((d : Int))), .int (jI (pl)), .int (jI (le)), .int (jI (mo))])).length) Slot.unset).toArray = ls at hl ⊢
  have hl : lv_has ls 6 [(0, .ref (ad 0)), (1, .int (jI ((d : Int)))), (2, .int (jI (pl))), (3, .int (jI (le))), (4, .int (jI (mo)))] := hl
  have hT0 : bTo ad s.heap s.heap [] := bTo.rf
  refine lv_aload_n hx hb dX3_point_0 rfl (lv_at hl 0 rfl) ?_
  refine lv_iload_n hx hb dX3_point_1 rfl (lv_at hl 1 rfl) ?_
  refine pu_call1 (va_runV (As := [.int (jI ((d : Int)))]) (rest := []) ⟨hx, hb, hml, hown, hts⟩ (c_known l D g ad z rl ff hz d hd) (cwV 1 hts (gd_V kw_140 kw_142 kw_0 kw_12 kcX3_known) rfl rfl rfl (by decide +kernel) ⟨Nat.le_of_ble_eq_true rfl, Nat.le_of_ble_eq_true rfl⟩) (pu_preV hPic hK rfl hx0) rfl rfl hl.1 rfl (lv_room (Nat.le_of_ble_eq_true rfl)) dX3_point_2 ⟨Nat.zero_le _, Nat.zero_le _⟩) ?_
  refine va_get (D := D) (ci := 1) (v := .ref (ad (2 + 12 * d + 1))) (C := RX1) (T := TX1) (N := 9) hx hb hts (fun w h => List.mem_cons_of_mem _ (uw_X1 w h)) hown hK (j_P1 hd0_d) 0 rfl rfl 1 (by decide) (hts _ (List.mem_cons_of_mem _ kw_87)) (fun _ h9 => h9) rfl dX3_point_5 ?_
  refine lv_astore (lv' := [(5, .ref (ad (2 + 12 * d + 1))), (0, .ref (ad 0)), (1, .int (jI ((d : Int)))), (2, .int (jI (pl))), (3, .int (jI (le))), (4, .int (jI (mo)))]) hx hb dX3_point_8 hl (by decide) rfl (fun ls hl => ?_)
  refine lv_iload_n hx hb dX3_point_10 rfl (lv_at hl 3 rfl) ?_
  refine jv_iconst hx hb dX3_point_11 ?_
  refine jv_sipush hx hb dX3_point_12 (by decide) ?_
  refine pu_call (va_runS (As := [.int (jI (pl)), .int (jI (1)), .int (jI (5000))]) (rest := []) ⟨hx, hb, hml, hown, hts⟩ (c_demandWithin l D g pl 1 5000 (by omega) (by omega) (by omega) (by omega)) (cwS 3 hts (gd_S kw_234 kw_235 kw_12 kcX3_demandWithin) rfl rfl rfl (by decide +kernel) ⟨Nat.le_of_ble_eq_true rfl, Nat.le_of_ble_eq_true rfl⟩) (pu_preS trivial hK) rfl rfl hl.1 rfl (lv_room (Nat.le_of_ble_eq_true rfl)) dX3_point_15 ⟨Nat.zero_le _, Nat.zero_le _⟩) ?_
  refine lv_iload hx hb dX3_point_18 (lv_at hl 5 rfl) ?_
  refine jv_iconst hx hb dX3_point_20 ?_
  refine jv_ldc (k := 100000) hx hb hown (hts _ (List.mem_cons_of_mem _ kw_238)) (by decide) dX3_point_21 ?_
  refine pu_call (va_runS (As := [.int (jI (mo)), .int (jI (0)), .int (jI (100000))]) (rest := []) ⟨hx, hb, hml, hown, hts⟩ (c_demandWithin l D g mo 0 100000 (by omega) (by omega) (by omega) (by omega)) (cwS 3 hts (gd_S kw_234 kw_235 kw_12 kcX3_demandWithin) rfl rfl rfl (by decide +kernel) ⟨Nat.le_of_ble_eq_true rfl, Nat.le_of_ble_eq_true rfl⟩) (pu_preS trivial hK) rfl rfl hl.1 rfl (lv_room (Nat.le_of_ble_eq_true rfl)) dX3_point_23 ⟨Nat.zero_le _, Nat.zero_le _⟩) ?_
  refine lv_iload_n hx hb dX3_point_26 rfl (lv_at hl 4 rfl) ?_
  refine jv_iconst hx hb dX3_point_27 ?_
  refine lv_iload hx hb dX3_point_28 (lv_at hl 5 rfl) ?_
  refine pu_call (va_runS (As := [.int (jI (le)), .int (jI (0)), .int (jI (mo))]) (rest := []) ⟨hx, hb, hml, hown, hts⟩ (c_demandWithin l D g le 0 mo (by omega) (by omega) (by omega) (by omega)) (cwS 3 hts (gd_S kw_234 kw_235 kw_12 kcX3_demandWithin) rfl rfl rfl (by decide +kernel) ⟨Nat.le_of_ble_eq_true rfl, Nat.le_of_ble_eq_true rfl⟩) (pu_preS trivial hK) rfl rfl hl.1 rfl (lv_room (Nat.le_of_ble_eq_true rfl)) dX3_point_30 ⟨Nat.zero_le _, Nat.zero_le _⟩) ?_
  refine lv_aload hx hb dX3_point_33 (lv_at hl 0 rfl) ?_
  refine va_get (D := D) (ci := 0) (v := .int (jI ((k : Int)))) (C := RX0) (T := TX0) (N := 4) hx hb hts (fun w h => List.mem_cons_of_mem _ (uw_X0 w h)) hown hK (j_P1 hcu) 0 rfl rfl 3 (by decide) (hts _ (List.mem_cons_of_mem _ kw_53)) (fun _ h9 => h9) rfl dX3_point_35 ?_
  refine jv_bipush hx hb dX3_point_38 (by decide) ?_
  refine jv_icmp_lt (tgt := 53) hx hb dX3_point_40 (by decide) (by omega) (by omega) (fun c40 => ?_) (fun c40 => ?_)
  · refine lv_aload hx hb dX3_point_53 (lv_at hl 0 rfl) ?_
    refine va_get (D := D) (ci := 0) (v := .int (jI ((k : Int)))) (C := RX0) (T := TX0) (N := 4) hx hb hts (fun w h => List.mem_cons_of_mem _ (uw_X0 w h)) hown hK (j_P1 hcu) 0 rfl rfl 3 (by decide) (hts _ (List.mem_cons_of_mem _ kw_53)) (fun _ h9 => h9) rfl dX3_point_55 ?_
    refine jv_if_le (tgt := 88) hx hb dX3_point_58 (by decide) (by omega) (fun c58 => ?_) (fun c58 => ?_)
    · refine lv_aload hx hb dX3_point_88 (lv_at hl 0 rfl) ?_
      refine lv_iload_n hx hb dX3_point_90 rfl (lv_at hl 3 rfl) ?_
      refine lv_iload_n hx hb dX3_point_91 rfl (lv_at hl 4 rfl) ?_
      refine lv_iload hx hb dX3_point_92 (lv_at hl 5 rfl) ?_
      refine b_call (va_runV (As := [.int (jI (pl)), .int (jI (le)), .int (jI (mo))]) (rest := []) ⟨hx, hb, hml, hown, hts⟩ (c_add l D g ad z rl ff hz hj d k pl le mo (by omega) hk hk6) (cwV 3 hts (gd_V kw_241 kw_242 kw_243 kw_14 kcX0_add) rfl rfl rfl (by decide +kernel) ⟨Nat.le_of_ble_eq_true rfl, Nat.le_of_ble_eq_true rfl⟩) (pu_preV hPic hK rfl hcu) rfl rfl hl.1 rfl (lv_room (Nat.le_of_ble_eq_true rfl)) dX3_point_94 ⟨Nat.zero_le _, Nat.zero_le _⟩) hT0 (fun H locs rl ff hPh hPic hT0 => ?_)
      refine W.eq (g2 := F0 m 97 ls []) rfl ?_
      obtain ⟨w4, hw4⟩ : ∃ w9 : bSt, w9 = (zK (zM (zL (zP z d k pl) d k le) d k mo) d (k + 1)) := ⟨_, rfl⟩
      rw [← hw4] at hPic
      have hk4 : bK w4 d = k + 1 := by rw [hw4]; exact jUp_s _ _ _
      have hcu : va_at D vwCl (ad (2 + 12 * d + 1), .inr (0, [.ref (ad (2 + 12 * d + 2)), .ref (ad (2 + 12 * d + 3)), .ref (ad (2 + 12 * d + 4)), .int (jI ((bK w4 d : Int)))])) H := bW_at hPic (i := d) (by omega) 1 (by omega)
      rw [hk4] at hcu
      refine lv_aload hx hb dX3_point_97 (lv_at hl 0 rfl) ?_
      refine va_get (D := D) (ci := 0) (v := .int (jI (((k + 1 : Nat) : Int)))) (C := RX0) (T := TX0) (N := 4) hx hb hts (fun w h => List.mem_cons_of_mem _ (uw_X0 w h)) hown hK (j_P1 hcu) 0 rfl rfl 3 (by decide) (hts _ (List.mem_cons_of_mem _ kw_53)) (fun _ h9 => h9) rfl dX3_point_99 ?_
      subst hw4
      exact b_iret hx hb hr hlocks dX3_point_102 trivial hPic hT0 (by rfl)
    · refine lv_aload hx hb dX3_point_61 (lv_at hl 0 rfl) ?_
      refine va_get (D := D) (ci := 0) (v := .ref (ad (2 + 12 * d + 2))) (C := RX0) (T := TX0) (N := 4) hx hb hts (fun w h => List.mem_cons_of_mem _ (uw_X0 w h)) hown hK (j_P1 hcu) 0 rfl rfl 0 (by decide) (hts _ (List.mem_cons_of_mem _ kw_46)) (fun _ h9 => h9) rfl dX3_point_63 ?_
      refine lv_aload hx hb dX3_point_66 (lv_at hl 0 rfl) ?_
      refine va_get (D := D) (ci := 0) (v := .int (jI ((k : Int)))) (C := RX0) (T := TX0) (N := 4) hx hb hts (fun w h => List.mem_cons_of_mem _ (uw_X0 w h)) hown hK (j_P1 hcu) 0 rfl rfl 3 (by decide) (hts _ (List.mem_cons_of_mem _ kw_53)) (fun _ h9 => h9) rfl dX3_point_68 ?_
      refine jv_iconst hx hb dX3_point_71 ?_
      refine jv_isub hx hb dX3_point_72 ?_
      refine jv_iald (i := (k - 1)) hx hb hK hpl 0 rfl (by omega) (by omega) (by decide) dX3_point_73 ?_
      refine lv_iload_n hx hb dX3_point_74 rfl (lv_at hl 3 rfl) ?_
      refine jv_icmp_lt (tgt := 88) hx hb dX3_point_75 (by decide) (by omega) (by omega) (fun c75 => ?_) (fun c75 => ?_)
      · refine lv_aload hx hb dX3_point_88 (lv_at hl 0 rfl) ?_
        refine lv_iload_n hx hb dX3_point_90 rfl (lv_at hl 3 rfl) ?_
        refine lv_iload_n hx hb dX3_point_91 rfl (lv_at hl 4 rfl) ?_
        refine lv_iload hx hb dX3_point_92 (lv_at hl 5 rfl) ?_
        refine b_call (va_runV (As := [.int (jI (pl)), .int (jI (le)), .int (jI (mo))]) (rest := []) ⟨hx, hb, hml, hown, hts⟩ (c_add l D g ad z rl ff hz hj d k pl le mo (by omega) hk hk6) (cwV 3 hts (gd_V kw_241 kw_242 kw_243 kw_14 kcX0_add) rfl rfl rfl (by decide +kernel) ⟨Nat.le_of_ble_eq_true rfl, Nat.le_of_ble_eq_true rfl⟩) (pu_preV hPic hK rfl hcu) rfl rfl hl.1 rfl (lv_room (Nat.le_of_ble_eq_true rfl)) dX3_point_94 ⟨Nat.zero_le _, Nat.zero_le _⟩) hT0 (fun H locs rl ff hPh hPic hT0 => ?_)
        refine W.eq (g2 := F0 m 97 ls []) rfl ?_
        obtain ⟨w4, hw4⟩ : ∃ w9 : bSt, w9 = (zK (zM (zL (zP z d k pl) d k le) d k mo) d (k + 1)) := ⟨_, rfl⟩
        rw [← hw4] at hPic
        have hk4 : bK w4 d = k + 1 := by rw [hw4]; exact jUp_s _ _ _
        have hcu : va_at D vwCl (ad (2 + 12 * d + 1), .inr (0, [.ref (ad (2 + 12 * d + 2)), .ref (ad (2 + 12 * d + 3)), .ref (ad (2 + 12 * d + 4)), .int (jI ((bK w4 d : Int)))])) H := bW_at hPic (i := d) (by omega) 1 (by omega)
        rw [hk4] at hcu
        refine lv_aload hx hb dX3_point_97 (lv_at hl 0 rfl) ?_
        refine va_get (D := D) (ci := 0) (v := .int (jI (((k + 1 : Nat) : Int)))) (C := RX0) (T := TX0) (N := 4) hx hb hts (fun w h => List.mem_cons_of_mem _ (uw_X0 w h)) hown hK (j_P1 hcu) 0 rfl rfl 3 (by decide) (hts _ (List.mem_cons_of_mem _ kw_53)) (fun _ h9 => h9) rfl dX3_point_99 ?_
        subst hw4
        exact b_iret hx hb hr hlocks dX3_point_102 trivial hPic hT0 (by rfl)
      · exact absurd c75 (by omega)
  · exact absurd c40 (by omega)
set_option maxHeartbeats 4000000 in
set_option maxRecDepth 100000 in
theorem c_device0 (l : Launch) (D : va_G) (g : Nat → ClassId) (ad : Nat → Nat) (z : bSt) (rl : Nat → Nat → Bool) (ff : Nat → Nat → Int) (hz : bOK z) (hj : bInj ad) (n : Nat) (hn : bN z = n) (hn8 : n < 8) : Met l yX3_device wsX3_device ({ frames := 1, cells := 0, slots := 0, locals := 21 }) (pu_Pc [.ref (ad 0), .int (jI ((-1)))] D vwCl (ty9 g) (fun H => bW D g ad z rl ff H)) (bQ D g ad (some (.int (jI (n : Int)))) (zN (zU z n none) (n + 1)) (fun _ _ => True)) 0 0 (bFr ad) := by
  refine Met.ofW (cc := cX3_device) (maxL := 4) (ret := some .int) (by decide) rfl ?_
  intro p e s m args below meth c s₁ B hml hv
  obtain ⟨rfl, hPic, hK⟩ := hv
  have hx := B.exec
  have hb := B.bytes
  have hr := B.returns
  have hts := atoms_spec (ws := wsX3_device) B.pre
  have hown : s.vm.findClass RX3 = some m.cls := findClass_of_methodNamed B.named
  have hlocks := B.notSynchronized
  have hx0 : va_at D vwCl (ad 0, .inr (3, [.ref (ad 1), .int (jI ((bN z : Int))), .int (jI (bV z))])) s.heap := hPic 0 (by omega)
  have hx1 : va_at D vwCl (ad 1, .inl (g 2, 8, .inr (.inr (.inr (.inr (fun j => some (ad (2 + 12 * j)))))))) s.heap := hPic 1 (by omega)
  have hN := hz.1
  rw [hn] at hx0
  have hd0_n : va_at D vwCl (ad (2 + 12 * n), .inr (1, [.int (jI ((n : Int))), .ref (ad (2 + 12 * n + 1)), .ref (ad (2 + 12 * n + 5)), .ref (ad (2 + 12 * n + 10)), .ref (ad (2 + 12 * n + 11)), va_rf ((bU z n).map (fun u => ad (2 + 12 * u))), .int (jI ((bO z n : Int))), .int (jI ((bC z n : Int))), .int (jI (bZ z n))])) s.heap := bW_at hPic (i := n) (by omega) 0 (by omega)
  have hl := lv_entry ([.ref (ad 0), .int (jI ((-1)))]) (n := 4) (Nat.le_of_ble_eq_true rfl)
  rw [lg_entry_eq]
  generalize (lg_sl ([.ref (ad 0), .int (jI ((-1)))]) ++ List.replicate (4 - (lg_sl ([.ref (ad 0), .int (jI ((-1)))])).length) Slot.unset).toArray = ls at hl ⊢
  have hl : lv_has ls 4 [(0, .ref (ad 0)), (1, .int (jI ((-1))))] := hl
  have hT0 : bTo ad s.heap s.heap [] := bTo.rf
  refine lv_iload_n hx hb dX3_device_0 rfl (lv_at hl 1 rfl) ?_
  refine jv_iconst hx hb dX3_device_1 ?_
  refine jv_icmp_ne (tgt := 9) hx hb dX3_device_2 (by decide) (by omega) (by omega) (fun c2 => ?_) (fun c2 => ?_)
  · exact absurd c2 (by decide)
  · refine lv_null hx hb dX3_device_5 ?_
    refine lv_goto (tgt := 14) hx hb dX3_device_6 (by decide) ?_
    refine lv_astore_nN (lv' := [(2, .null), (0, .ref (ad 0)), (1, .int (jI ((-1))))]) hx hb dX3_device_14 rfl hl (by decide) rfl (fun ls hl => ?_)
    refine lv_aload_n hx hb dX3_device_15 rfl (lv_at hl 1 rfl) ?_
    refine va_get (D := D) (ci := 3) (v := .int (jI ((n : Int)))) (C := RX3) (T := TX3) (N := 3) hx hb hts (fun w h => List.mem_cons_of_mem _ (uw_X3 w h)) hown hK (j_P1 hx0) 0 rfl rfl 1 (by decide) (hts _ (List.mem_cons_of_mem _ kw_122)) (fun _ h9 => h9) rfl dX3_device_16 ?_
    refine jv_bipush hx hb dX3_device_19 (by decide) ?_
    refine jv_icmp_lt (tgt := 34) hx hb dX3_device_21 (by decide) (by omega) (by omega) (fun c21 => ?_) (fun c21 => ?_)
    · refine lv_aload_n hx hb dX3_device_34 rfl (lv_at hl 1 rfl) ?_
      refine va_get (D := D) (ci := 3) (v := .ref (ad 1)) (C := RX3) (T := TX3) (N := 3) hx hb hts (fun w h => List.mem_cons_of_mem _ (uw_X3 w h)) hown hK (j_P1 hx0) 0 rfl rfl 0 (by decide) (hts _ (List.mem_cons_of_mem _ kw_121)) (fun _ h9 => h9) rfl dX3_device_35 ?_
      refine lv_aload_n hx hb dX3_device_38 rfl (lv_at hl 1 rfl) ?_
      refine va_get (D := D) (ci := 3) (v := .int (jI ((n : Int)))) (C := RX3) (T := TX3) (N := 3) hx hb hts (fun w h => List.mem_cons_of_mem _ (uw_X3 w h)) hown hK (j_P1 hx0) 0 rfl rfl 1 (by decide) (hts _ (List.mem_cons_of_mem _ kw_122)) (fun _ h9 => h9) rfl dX3_device_39 ?_
      refine jv_aldq (i := n) hx hb hK hx1 2 rfl (by omega) (by omega) (by decide) dX3_device_42 ?_
      refine lv_astore_n (lv' := [(3, .ref (ad (2 + 12 * n))), (2, .null), (0, .ref (ad 0)), (1, .int (jI ((-1))))]) hx hb dX3_device_43 rfl hl (by decide) rfl (fun ls hl => ?_)
      refine lv_aload_n hx hb dX3_device_44 rfl (lv_at hl 0 rfl) ?_
      refine lv_aload_nN hx hb dX3_device_45 rfl (lv_at hl 1 rfl) ?_
      refine jv_put (D := D) (ci := 1) (v := .null) (ty := .object "BreakerOrders$Device") (C := RX1) (T := TX1) (N := 9) hx hb hts (fun w h => List.mem_cons_of_mem _ (uw_X1 w h)) tyX1 tyX1_ok nmX1 hown hK hd0_n rfl 5 (by decide) (hts _ (List.mem_cons_of_mem _ kw_95)) (fun _ h9 => h9) rfl (by decide +kernel) rfl rfl (Nat.le_of_ble_eq_true rfl) dX3_device_46 (fun H f9 hn9 hz9 oq9 => ?_)
      obtain ⟨w1, hw1⟩ : ∃ w9 : bSt, w9 = (zU z n none) := ⟨_, rfl⟩
      have hPic := bX_dev hj hPic (w := (zU z n none)) (i := n) (by omega) rfl rfl rfl rfl rfl rfl rfl rfl (fun i2 h2 => ⟨jUp_n h2, rfl, rfl, rfl⟩) (jUp_s _ _ _) rfl rfl rfl oq9 hn9
      rw [← hw1] at hPic
      have hT0 := hT0.put (2 + 12 * n) (by omega) hz9 oq9 (f := f9)
      have hn1 : bN w1 = n := by rw [hw1]; exact hn
      have hx0 : va_at D vwCl (ad 0, .inr (3, [.ref (ad 1), .int (jI ((bN w1 : Int))), .int (jI (bV w1))])) H := hPic 0 (by omega)
      have hx1 : va_at D vwCl (ad 1, .inl (g 2, 8, .inr (.inr (.inr (.inr (fun j => some (ad (2 + 12 * j)))))))) H := hPic 1 (by omega)
      have hd0_n : va_at D vwCl (ad (2 + 12 * n), .inr (1, [.int (jI ((n : Int))), .ref (ad (2 + 12 * n + 1)), .ref (ad (2 + 12 * n + 5)), .ref (ad (2 + 12 * n + 10)), .ref (ad (2 + 12 * n + 11)), va_rf ((bU w1 n).map (fun u => ad (2 + 12 * u))), .int (jI ((bO w1 n : Int))), .int (jI ((bC w1 n : Int))), .int (jI (bZ w1 n))])) H := bW_at hPic (i := n) (by omega) 0 (by omega)
      rw [hn1] at hx0
      refine lv_aload_n hx hb dX3_device_49 rfl (lv_at hl 2 rfl) ?_
      refine lv_dup hx hb dX3_device_50 rfl ?_
      refine va_get (D := D) (ci := 3) (v := .int (jI ((n : Int)))) (C := RX3) (T := TX3) (N := 3) hx hb hts (fun w h => List.mem_cons_of_mem _ (uw_X3 w h)) hown hK (j_P1 hx0) 0 rfl rfl 1 (by decide) (hts _ (List.mem_cons_of_mem _ kw_122)) (fun _ h9 => h9) rfl dX3_device_51 ?_
      refine jv_iconst hx hb dX3_device_54 ?_
      refine jv_iadd hx hb dX3_device_55 ?_
      refine jv_put (D := D) (ci := 3) (v := .int (jI ((n : Int) + 1))) (ty := .int) (C := RX3) (T := TX3) (N := 3) hx hb hts (fun w h => List.mem_cons_of_mem _ (uw_X3 w h)) tyX3 tyX3_ok nmX3 hown hK hx0 rfl 1 (by decide) (hts _ (List.mem_cons_of_mem _ kw_122)) (fun _ h9 => h9) rfl (by decide +kernel) rfl rfl (Nat.le_of_ble_eq_true rfl) dX3_device_56 (fun H f9 hn9 hz9 oq9 => ?_)
      obtain ⟨w2, hw2⟩ : ∃ w9 : bSt, w9 = zN w1 (n + 1) := ⟨_, rfl⟩
      have hPic := bX_self hj hPic (w := zN w1 (n + 1)) rfl rfl rfl rfl rfl rfl rfl rfl rfl rfl (a := n + 1) rfl rfl oq9 hn9
      rw [← hw2] at hPic
      have hT0 := hT0.put (0) (by omega) hz9 oq9 (f := f9)
      have hd0_n : va_at D vwCl (ad (2 + 12 * n), .inr (1, [.int (jI ((n : Int))), .ref (ad (2 + 12 * n + 1)), .ref (ad (2 + 12 * n + 5)), .ref (ad (2 + 12 * n + 10)), .ref (ad (2 + 12 * n + 11)), va_rf ((bU w2 n).map (fun u => ad (2 + 12 * u))), .int (jI ((bO w2 n : Int))), .int (jI ((bC w2 n : Int))), .int (jI (bZ w2 n))])) H := bW_at hPic (i := n) (by omega) 0 (by omega)
      refine lv_aload_n hx hb dX3_device_59 rfl (lv_at hl 0 rfl) ?_
      refine va_get (D := D) (ci := 1) (v := .int (jI ((n : Int)))) (C := RX1) (T := TX1) (N := 9) hx hb hts (fun w h => List.mem_cons_of_mem _ (uw_X1 w h)) hown hK (j_P1 hd0_n) 0 rfl rfl 0 (by decide) (hts _ (List.mem_cons_of_mem _ kw_85)) (fun _ h9 => h9) rfl dX3_device_60 ?_
      subst hw2
      subst hw1
      exact b_iret hx hb hr hlocks dX3_device_63 trivial hPic hT0 (by rfl)
    · exact absurd c21 (by omega)
set_option maxHeartbeats 4000000 in
set_option maxRecDepth 100000 in
theorem c_device1 (l : Launch) (D : va_G) (g : Nat → ClassId) (ad : Nat → Nat) (z : bSt) (rl : Nat → Nat → Bool) (ff : Nat → Nat → Int) (hz : bOK z) (hj : bInj ad) (n u : Nat) (hu : u < n) (hn : bN z = n) (hn8 : n < 8) : Met l yX3_device wsX3_device ({ frames := 1, cells := 0, slots := 0, locals := 21 }) (pu_Pc [.ref (ad 0), .int (jI ((u : Int)))] D vwCl (ty9 g) (fun H => bW D g ad z rl ff H)) (bQ D g ad (some (.int (jI (n : Int)))) (zN (zU z n (some u)) (n + 1)) (fun _ _ => True)) 0 0 (bFr ad) := by
  refine Met.ofW (cc := cX3_device) (maxL := 4) (ret := some .int) (by decide) rfl ?_
  intro p e s m args below meth c s₁ B hml hv
  obtain ⟨rfl, hPic, hK⟩ := hv
  have hx := B.exec
  have hb := B.bytes
  have hr := B.returns
  have hts := atoms_spec (ws := wsX3_device) B.pre
  have hown : s.vm.findClass RX3 = some m.cls := findClass_of_methodNamed B.named
  have hlocks := B.notSynchronized
  have hx0 : va_at D vwCl (ad 0, .inr (3, [.ref (ad 1), .int (jI ((bN z : Int))), .int (jI (bV z))])) s.heap := hPic 0 (by omega)
  have hx1 : va_at D vwCl (ad 1, .inl (g 2, 8, .inr (.inr (.inr (.inr (fun j => some (ad (2 + 12 * j)))))))) s.heap := hPic 1 (by omega)
  have hN := hz.1
  rw [hn] at hx0
  have hd0_n : va_at D vwCl (ad (2 + 12 * n), .inr (1, [.int (jI ((n : Int))), .ref (ad (2 + 12 * n + 1)), .ref (ad (2 + 12 * n + 5)), .ref (ad (2 + 12 * n + 10)), .ref (ad (2 + 12 * n + 11)), va_rf ((bU z n).map (fun u => ad (2 + 12 * u))), .int (jI ((bO z n : Int))), .int (jI ((bC z n : Int))), .int (jI (bZ z n))])) s.heap := bW_at hPic (i := n) (by omega) 0 (by omega)
  have hl := lv_entry ([.ref (ad 0), .int (jI ((u : Int)))]) (n := 4) (Nat.le_of_ble_eq_true rfl)
  rw [lg_entry_eq]
  generalize (lg_sl ([.ref (ad 0), .int (jI ((u : Int)))]) ++ List.replicate (4 - (lg_sl ([.ref (ad 0), .int (jI ((u : Int)))])).length) Slot.unset).toArray = ls at hl ⊢
  have hl : lv_has ls 4 [(0, .ref (ad 0)), (1, .int (jI ((u : Int))))] := hl
  have hT0 : bTo ad s.heap s.heap [] := bTo.rf
  refine lv_iload_n hx hb dX3_device_0 rfl (lv_at hl 1 rfl) ?_
  refine jv_iconst hx hb dX3_device_1 ?_
  refine jv_icmp_ne (tgt := 9) hx hb dX3_device_2 (by decide) (by omega) (by omega) (fun c2 => ?_) (fun c2 => ?_)
  · refine lv_aload_n hx hb dX3_device_9 rfl (lv_at hl 0 rfl) ?_
    refine lv_iload_n hx hb dX3_device_10 rfl (lv_at hl 1 rfl) ?_
    refine pu_call1 (va_runV (As := [.int (jI ((u : Int)))]) (rest := []) ⟨hx, hb, hml, hown, hts⟩ (c_known l D g ad z rl ff hz u (by omega)) (cwV 1 hts (gd_V kw_140 kw_142 kw_0 kw_12 kcX3_known) rfl rfl rfl (by decide +kernel) ⟨Nat.le_of_ble_eq_true rfl, Nat.le_of_ble_eq_true rfl⟩) (pu_preV hPic hK rfl hx0) rfl rfl hl.1 rfl (lv_room (Nat.le_of_ble_eq_true rfl)) dX3_device_11 ⟨Nat.zero_le _, Nat.zero_le _⟩) ?_
    refine lv_astore_n (lv' := [(2, .ref (ad (2 + 12 * u))), (0, .ref (ad 0)), (1, .int (jI ((u : Int))))]) hx hb dX3_device_14 rfl hl (by decide) rfl (fun ls hl => ?_)
    refine lv_aload_n hx hb dX3_device_15 rfl (lv_at hl 1 rfl) ?_
    refine va_get (D := D) (ci := 3) (v := .int (jI ((n : Int)))) (C := RX3) (T := TX3) (N := 3) hx hb hts (fun w h => List.mem_cons_of_mem _ (uw_X3 w h)) hown hK (j_P1 hx0) 0 rfl rfl 1 (by decide) (hts _ (List.mem_cons_of_mem _ kw_122)) (fun _ h9 => h9) rfl dX3_device_16 ?_
    refine jv_bipush hx hb dX3_device_19 (by decide) ?_
    refine jv_icmp_lt (tgt := 34) hx hb dX3_device_21 (by decide) (by omega) (by omega) (fun c21 => ?_) (fun c21 => ?_)
    · refine lv_aload_n hx hb dX3_device_34 rfl (lv_at hl 1 rfl) ?_
      refine va_get (D := D) (ci := 3) (v := .ref (ad 1)) (C := RX3) (T := TX3) (N := 3) hx hb hts (fun w h => List.mem_cons_of_mem _ (uw_X3 w h)) hown hK (j_P1 hx0) 0 rfl rfl 0 (by decide) (hts _ (List.mem_cons_of_mem _ kw_121)) (fun _ h9 => h9) rfl dX3_device_35 ?_
      refine lv_aload_n hx hb dX3_device_38 rfl (lv_at hl 1 rfl) ?_
      refine va_get (D := D) (ci := 3) (v := .int (jI ((n : Int)))) (C := RX3) (T := TX3) (N := 3) hx hb hts (fun w h => List.mem_cons_of_mem _ (uw_X3 w h)) hown hK (j_P1 hx0) 0 rfl rfl 1 (by decide) (hts _ (List.mem_cons_of_mem _ kw_122)) (fun _ h9 => h9) rfl dX3_device_39 ?_
      refine jv_aldq (i := n) hx hb hK hx1 2 rfl (by omega) (by omega) (by decide) dX3_device_42 ?_
      refine lv_astore_n (lv' := [(3, .ref (ad (2 + 12 * n))), (2, .ref (ad (2 + 12 * u))), (0, .ref (ad 0)), (1, .int (jI ((u : Int))))]) hx hb dX3_device_43 rfl hl (by decide) rfl (fun ls hl => ?_)
      refine lv_aload_n hx hb dX3_device_44 rfl (lv_at hl 0 rfl) ?_
      refine lv_aload_n hx hb dX3_device_45 rfl (lv_at hl 1 rfl) ?_
      refine jv_put (D := D) (ci := 1) (v := .ref (ad (2 + 12 * u))) (ty := .object "BreakerOrders$Device") (C := RX1) (T := TX1) (N := 9) hx hb hts (fun w h => List.mem_cons_of_mem _ (uw_X1 w h)) tyX1 tyX1_ok nmX1 hown hK hd0_n rfl 5 (by decide) (hts _ (List.mem_cons_of_mem _ kw_95)) (fun _ h9 => h9) rfl (by decide +kernel) rfl rfl (Nat.le_of_ble_eq_true rfl) dX3_device_46 (fun H f9 hn9 hz9 oq9 => ?_)
      obtain ⟨w1, hw1⟩ : ∃ w9 : bSt, w9 = (zU z n (some u)) := ⟨_, rfl⟩
      have hPic := bX_dev hj hPic (w := (zU z n (some u))) (i := n) (by omega) rfl rfl rfl rfl rfl rfl rfl rfl (fun i2 h2 => ⟨jUp_n h2, rfl, rfl, rfl⟩) (jUp_s _ _ _) rfl rfl rfl oq9 hn9
      rw [← hw1] at hPic
      have hT0 := hT0.put (2 + 12 * n) (by omega) hz9 oq9 (f := f9)
      have hn1 : bN w1 = n := by rw [hw1]; exact hn
      have hx0 : va_at D vwCl (ad 0, .inr (3, [.ref (ad 1), .int (jI ((bN w1 : Int))), .int (jI (bV w1))])) H := hPic 0 (by omega)
      have hx1 : va_at D vwCl (ad 1, .inl (g 2, 8, .inr (.inr (.inr (.inr (fun j => some (ad (2 + 12 * j)))))))) H := hPic 1 (by omega)
      have hd0_n : va_at D vwCl (ad (2 + 12 * n), .inr (1, [.int (jI ((n : Int))), .ref (ad (2 + 12 * n + 1)), .ref (ad (2 + 12 * n + 5)), .ref (ad (2 + 12 * n + 10)), .ref (ad (2 + 12 * n + 11)), va_rf ((bU w1 n).map (fun u => ad (2 + 12 * u))), .int (jI ((bO w1 n : Int))), .int (jI ((bC w1 n : Int))), .int (jI (bZ w1 n))])) H := bW_at hPic (i := n) (by omega) 0 (by omega)
      rw [hn1] at hx0
      refine lv_aload_n hx hb dX3_device_49 rfl (lv_at hl 2 rfl) ?_
      refine lv_dup hx hb dX3_device_50 rfl ?_
      refine va_get (D := D) (ci := 3) (v := .int (jI ((n : Int)))) (C := RX3) (T := TX3) (N := 3) hx hb hts (fun w h => List.mem_cons_of_mem _ (uw_X3 w h)) hown hK (j_P1 hx0) 0 rfl rfl 1 (by decide) (hts _ (List.mem_cons_of_mem _ kw_122)) (fun _ h9 => h9) rfl dX3_device_51 ?_
      refine jv_iconst hx hb dX3_device_54 ?_
      refine jv_iadd hx hb dX3_device_55 ?_
      refine jv_put (D := D) (ci := 3) (v := .int (jI ((n : Int) + 1))) (ty := .int) (C := RX3) (T := TX3) (N := 3) hx hb hts (fun w h => List.mem_cons_of_mem _ (uw_X3 w h)) tyX3 tyX3_ok nmX3 hown hK hx0 rfl 1 (by decide) (hts _ (List.mem_cons_of_mem _ kw_122)) (fun _ h9 => h9) rfl (by decide +kernel) rfl rfl (Nat.le_of_ble_eq_true rfl) dX3_device_56 (fun H f9 hn9 hz9 oq9 => ?_)
      obtain ⟨w2, hw2⟩ : ∃ w9 : bSt, w9 = zN w1 (n + 1) := ⟨_, rfl⟩
      have hPic := bX_self hj hPic (w := zN w1 (n + 1)) rfl rfl rfl rfl rfl rfl rfl rfl rfl rfl (a := n + 1) rfl rfl oq9 hn9
      rw [← hw2] at hPic
      have hT0 := hT0.put (0) (by omega) hz9 oq9 (f := f9)
      have hd0_n : va_at D vwCl (ad (2 + 12 * n), .inr (1, [.int (jI ((n : Int))), .ref (ad (2 + 12 * n + 1)), .ref (ad (2 + 12 * n + 5)), .ref (ad (2 + 12 * n + 10)), .ref (ad (2 + 12 * n + 11)), va_rf ((bU w2 n).map (fun u => ad (2 + 12 * u))), .int (jI ((bO w2 n : Int))), .int (jI ((bC w2 n : Int))), .int (jI (bZ w2 n))])) H := bW_at hPic (i := n) (by omega) 0 (by omega)
      refine lv_aload_n hx hb dX3_device_59 rfl (lv_at hl 0 rfl) ?_
      refine va_get (D := D) (ci := 1) (v := .int (jI ((n : Int)))) (C := RX1) (T := TX1) (N := 9) hx hb hts (fun w h => List.mem_cons_of_mem _ (uw_X1 w h)) hown hK (j_P1 hd0_n) 0 rfl rfl 0 (by decide) (hts _ (List.mem_cons_of_mem _ kw_85)) (fun _ h9 => h9) rfl dX3_device_60 ?_
      subst hw2
      subst hw1
      exact b_iret hx hb hr hlocks dX3_device_63 trivial hPic hT0 (by rfl)
    · exact absurd c21 (by omega)
  · exact absurd c2 (by omega)
