set_option maxHeartbeats 4000000 in
set_option maxRecDepth 100000 in
theorem c_isBrokenAt (l : Launch) (D : va_G) (g : Nat → ClassId) (a b : Nat) (S T : jSet) (mg : Int) (I : Int) (hoS : sOK S) (hoT : sOK T) (hmg : 0 ≤ mg ∧ mg ≤ 10000) (hI : 0 ≤ I ∧ I ≤ 5000) : Met l yX3_isBrokenAt wsX3_isBrokenAt ({ frames := 2, cells := 0, slots := 0, locals := 65 }) (pu_Pc [.ref a, .ref b, .int (jI (mg)), .int (jI (I))] D vwCl (ty9 g) (fun H => sAt D g a S H ∧ sAt D g b T H)) (pu_Q (some (.int (jI (bI (cBrk S T mg I)))))) 0 0 (fun _ => False) := by
  refine Met.ofW (cc := cX3_isBrokenAt) (maxL := 4) (ret := some .boolean) (by decide) rfl ?_
  intro p e s m args below meth c s₁ B hml hv
  obtain ⟨rfl, hPic, hK⟩ := hv
  have hx := B.exec
  have hb := B.bytes
  have hr := B.returns
  have hts := atoms_spec (ws := wsX3_isBrokenAt) B.pre
  have hown : s.vm.findClass RX3 = some m.cls := findClass_of_methodNamed B.named
  have hlocks := B.notSynchronized
  obtain ⟨ac_S, ap_S, al_S, am_S, h1_S, h2_S, h3_S, h4_S, h5_S⟩ := id hPic.1
  obtain ⟨ac_T, ap_T, al_T, am_T, h1_T, h2_T, h3_T, h4_T, h5_T⟩ := id hPic.2
  have hl := lv_entry ([.ref a, .ref b, .int (jI (mg)), .int (jI (I))]) (n := 4) (Nat.le_of_ble_eq_true rfl)
  rw [lg_entry_eq]
  generalize (lg_sl ([.ref a, .ref b, .int (jI (mg)), .int (jI (I))]) ++ List.replicate (4 - (lg_sl ([.ref a, .ref b, .int (jI (mg)), .int (jI (I))])).length) Slot.unset).toArray = ls at hl ⊢
  have hl : lv_has ls 4 [(0, .ref a), (1, .ref b), (2, .int (jI (mg))), (3, .int (jI (I)))] := hl
  refine lv_aload_n hx hb dX3_isBrokenAt_0 rfl (lv_at hl 0 rfl) ?_
  refine jv_iconst hx hb dX3_isBrokenAt_1 ?_
  refine lv_iload_n hx hb dX3_isBrokenAt_2 rfl (lv_at hl 2 rfl) ?_
  refine lv_aload_n hx hb dX3_isBrokenAt_3 rfl (lv_at hl 1 rfl) ?_
  refine jv_iconst hx hb dX3_isBrokenAt_4 ?_
  refine lv_iload_n hx hb dX3_isBrokenAt_5 rfl (lv_at hl 3 rfl) ?_
  refine pu_call1 (va_runV (As := [.int (jI (bI true)), .int (jI (mg)), .ref b, .int (jI (bI false)), .int (jI (I))]) (rest := []) ⟨hx, hb, hml, hown, hts⟩ (c_isWithin l D g a b S T true false mg I hoS hoT hmg hI) (cwV 5 hts (gd_V kw_325 kw_326 kw_327 kw_15 kcX2_isWithin) rfl rfl rfl (by decide +kernel) ⟨Nat.le_of_ble_eq_true rfl, Nat.le_of_ble_eq_true rfl⟩) (pu_preV hPic hK rfl h1_S) rfl rfl hl.1 rfl (lv_room (Nat.le_of_ble_eq_true rfl)) dX3_isBrokenAt_6 ⟨Nat.zero_le _, Nat.zero_le _⟩) ?_
  refine jv_if_ne (tgt := 16) hx hb dX3_isBrokenAt_9 (by decide) (bI_rng _) (fun c9 => ?_) (fun c9 => ?_)
  · refine jv_iconst hx hb dX3_isBrokenAt_16 ?_
    exact pu_zret hx hb hr hlocks dX3_isBrokenAt_17 (by rw [cBrk, bI_tr c9]; rfl)
  · refine jv_iconst hx hb dX3_isBrokenAt_12 ?_
    refine lv_goto (tgt := 17) hx hb dX3_isBrokenAt_13 (by decide) ?_
    exact pu_zret hx hb hr hlocks dX3_isBrokenAt_17 (by rw [cBrk, bI_fa c9]; rfl)
set_option maxHeartbeats 4000000 in
set_option maxRecDepth 100000 in
theorem c_stretchEnd (l : Launch) (D : va_G) (g : Nat → ClassId) (a b : Nat) (S T : jSet) (f : Int) (hoS : sOK S) (hoT : sOK T) (hf : 0 ≤ f ∧ f ≤ 5000) : Met l yX3_stretchEnd wsX3_stretchEnd ({ frames := 2, cells := 0, slots := 0, locals := 44 }) (pu_Pc [.ref a, .ref b, .int (jI (f))] D vwCl (ty9 g) (fun H => sAt D g a S H ∧ sAt D g b T H)) (pu_Q (some (.int (jI (cEnd S T f))))) 0 0 (fun _ => False) := by
  refine Met.ofW (cc := cX3_stretchEnd) (maxL := 3) (ret := some .int) (by decide) rfl ?_
  intro p e s m args below meth c s₁ B hml hv
  obtain ⟨rfl, hPic, hK⟩ := hv
  have hx := B.exec
  have hb := B.bytes
  have hr := B.returns
  have hts := atoms_spec (ws := wsX3_stretchEnd) B.pre
  have hown : s.vm.findClass RX3 = some m.cls := findClass_of_methodNamed B.named
  have hlocks := B.notSynchronized
  obtain ⟨ac_S, ap_S, al_S, am_S, h1_S, h2_S, h3_S, h4_S, h5_S⟩ := id hPic.1
  obtain ⟨ac_T, ap_T, al_T, am_T, h1_T, h2_T, h3_T, h4_T, h5_T⟩ := id hPic.2
  have r1 := cSb_spec hoS (I := f) (by omega) (sN S) 0 (by omega)
  have r2 := cSb_spec hoT (I := f) (by omega) (sN T) 0 (by omega)
  have e1 : cStart S f = cSb S f (sN S) 0 := rfl
  have e2 : cStart T f = cSb T f (sN T) 0 := rfl
  have hl := lv_entry ([.ref a, .ref b, .int (jI (f))]) (n := 3) (Nat.le_of_ble_eq_true rfl)
  rw [lg_entry_eq]
  generalize (lg_sl ([.ref a, .ref b, .int (jI (f))]) ++ List.replicate (3 - (lg_sl ([.ref a, .ref b, .int (jI (f))])).length) Slot.unset).toArray = ls at hl ⊢
  have hl : lv_has ls 3 [(0, .ref a), (1, .ref b), (2, .int (jI (f)))] := hl
  refine lv_aload_n hx hb dX3_stretchEnd_0 rfl (lv_at hl 0 rfl) ?_
  refine lv_iload_n hx hb dX3_stretchEnd_1 rfl (lv_at hl 2 rfl) ?_
  refine pu_call1 (va_runV (As := [.int (jI (f))]) (rest := []) ⟨hx, hb, hml, hown, hts⟩ (c_startBehind l D g a S f hoS hf) (cwV 1 hts (gd_V kw_294 kw_295 kw_296 kw_15 kcX2_startBehind) rfl rfl rfl (by decide +kernel) ⟨Nat.le_of_ble_eq_true rfl, Nat.le_of_ble_eq_true rfl⟩) (pu_preV hPic.1 hK rfl h1_S) rfl rfl hl.1 rfl (lv_room (Nat.le_of_ble_eq_true rfl)) dX3_stretchEnd_2 ⟨Nat.zero_le _, Nat.zero_le _⟩) ?_
  refine lv_aload_n hx hb dX3_stretchEnd_5 rfl (lv_at hl 1 rfl) ?_
  refine lv_iload_n hx hb dX3_stretchEnd_6 rfl (lv_at hl 2 rfl) ?_
  refine pu_call1 (va_runV (As := [.int (jI (f))]) (rest := [.int (jI (cStart S f))]) ⟨hx, hb, hml, hown, hts⟩ (c_startBehind l D g b T f hoT hf) (cwV 1 hts (gd_V kw_294 kw_295 kw_296 kw_15 kcX2_startBehind) rfl rfl rfl (by decide +kernel) ⟨Nat.le_of_ble_eq_true rfl, Nat.le_of_ble_eq_true rfl⟩) (pu_preV hPic.2 hK rfl h1_T) rfl rfl hl.1 rfl (lv_room (Nat.le_of_ble_eq_true rfl)) dX3_stretchEnd_7 ⟨Nat.zero_le _, Nat.zero_le _⟩) ?_
  refine va_mmin hx hb (hml.trans hl.1.symm) hown (hts _ (List.mem_cons_of_mem _ kw_321)) (hts _ (List.mem_cons_of_mem _ kw_299)) (hts _ (List.mem_cons_of_mem _ kw_22)) (hts _ (List.mem_cons_of_mem _ kw_300)) (Nat.le_of_ble_eq_true rfl) (Nat.le_of_ble_eq_true rfl) (Nat.zero_le _) (Nat.zero_le _) dX3_stretchEnd_10 ?_
  rw [jI_min (by omega) (by omega)]
  refine jv_iconst hx hb dX3_stretchEnd_13 ?_
  refine jv_isub hx hb dX3_stretchEnd_14 ?_
  exact pu_iret hx hb hr hlocks dX3_stretchEnd_15 (by rfl)
set_option maxHeartbeats 4000000 in
set_option maxRecDepth 100000 in
theorem c_turnIn (l : Launch) (D : va_G) (g : Nat → ClassId) (a b : Nat) (S T : jSet) (mg : Int) (f en : Int) (hoS : sOK S) (hoT : sOK T) (hmg : 0 ≤ mg ∧ mg ≤ 10000) (hf : 0 ≤ f ∧ f ≤ en ∧ en ≤ 5000) : Met l yX3_turnIn wsX3_turnIn ({ frames := 3, cells := 0, slots := 0, locals := 88 }) (pu_Pc [.ref a, .ref b, .int (jI (mg)), .int (jI (f)), .int (jI (en))] D vwCl (ty9 g) (fun H => sAt D g a S H ∧ sAt D g b T H)) (pu_Q (some (.int (jI (cTurnIn (cBrk S T mg) f en))))) 0 0 (fun _ => False) := by
  refine Met.ofW (cc := cX3_turnIn) (maxL := 10) (ret := some .int) (by decide) rfl ?_
  intro p e s m args below meth c s₁ B hml hv
  obtain ⟨rfl, hPic, hK⟩ := hv
  have hx := B.exec
  have hb := B.bytes
  have hr := B.returns
  have hts := atoms_spec (ws := wsX3_turnIn) B.pre
  have hown : s.vm.findClass RX3 = some m.cls := findClass_of_methodNamed B.named
  have hlocks := B.notSynchronized
  obtain ⟨ac_S, ap_S, al_S, am_S, h1_S, h2_S, h3_S, h4_S, h5_S⟩ := id hPic.1
  obtain ⟨ac_T, ap_T, al_T, am_T, h1_T, h2_T, h3_T, h4_T, h5_T⟩ := id hPic.2
  have hl := lv_entry ([.ref a, .ref b, .int (jI (mg)), .int (jI (f)), .int (jI (en))]) (n := 10) (Nat.le_of_ble_eq_true rfl)
  rw [lg_entry_eq]
  generalize (lg_sl ([.ref a, .ref b, .int (jI (mg)), .int (jI (f)), .int (jI (en))]) ++ List.replicate (10 - (lg_sl ([.ref a, .ref b, .int (jI (mg)), .int (jI (f)), .int (jI (en))])).length) Slot.unset).toArray = ls at hl ⊢
  have hl : lv_has ls 10 [(0, .ref a), (1, .ref b), (2, .int (jI (mg))), (3, .int (jI (f))), (4, .int (jI (en)))] := hl
  refine lv_aload_n hx hb dX3_turnIn_0 rfl (lv_at hl 0 rfl) ?_
  refine lv_aload_n hx hb dX3_turnIn_1 rfl (lv_at hl 1 rfl) ?_
  refine lv_iload_n hx hb dX3_turnIn_2 rfl (lv_at hl 2 rfl) ?_
  refine lv_iload hx hb dX3_turnIn_3 (lv_at hl 4 rfl) ?_
  refine pu_call1 (va_runS (As := [.ref a, .ref b, .int (jI (mg)), .int (jI (en))]) (rest := []) ⟨hx, hb, hml, hown, hts⟩ (c_isBrokenAt l D g a b S T mg en hoS hoT hmg (by omega)) (cwS 4 hts (gd_S kw_322 kw_323 kw_12 kcX3_isBrokenAt) rfl rfl rfl (by decide +kernel) ⟨Nat.le_of_ble_eq_true rfl, Nat.le_of_ble_eq_true rfl⟩) (pu_preS hPic hK) rfl rfl hl.1 rfl (lv_room (Nat.le_of_ble_eq_true rfl)) dX3_turnIn_5 ⟨Nat.zero_le _, Nat.zero_le _⟩) ?_
  refine lv_istore (lv' := [(5, .int (jI (bI (cBrk S T mg en)))), (0, .ref a), (1, .ref b), (2, .int (jI (mg))), (3, .int (jI (f))), (4, .int (jI (en)))]) hx hb dX3_turnIn_8 hl (by decide) rfl (fun ls hl => ?_)
  refine lv_iload_n hx hb dX3_turnIn_10 rfl (lv_at hl 4 rfl) ?_
  refine lv_istore (lv' := [(6, .int (jI (f))), (5, .int (jI (bI (cBrk S T mg en)))), (0, .ref a), (1, .ref b), (2, .int (jI (mg))), (3, .int (jI (f))), (4, .int (jI (en)))]) hx hb dX3_turnIn_11 hl (by decide) rfl (fun ls hl => ?_)
  refine lv_iload hx hb dX3_turnIn_13 (lv_at hl 6 rfl) ?_
  refine lv_istore (lv' := [(7, .int (jI (en))), (6, .int (jI (f))), (5, .int (jI (bI (cBrk S T mg en)))), (0, .ref a), (1, .ref b), (2, .int (jI (mg))), (3, .int (jI (f))), (4, .int (jI (en)))]) hx hb dX3_turnIn_15 hl (by decide) rfl (fun ls hl => ?_)
  refine jv_iconst hx hb dX3_turnIn_17 ?_
  refine lv_istore (lv' := [(8, .int (jI (0))), (7, .int (jI (en))), (6, .int (jI (f))), (5, .int (jI (bI (cBrk S T mg en)))), (0, .ref a), (1, .ref b), (2, .int (jI (mg))), (3, .int (jI (f))), (4, .int (jI (en)))]) hx hb dX3_turnIn_18 hl (by decide) rfl (fun ls hl => ?_)
  refine jw_loop (X := Int × Int × Nat) (fun z => 13 - z.2.2) (fun z ls => (z.2.2 ≤ 13 ∧ 0 ≤ z.1 ∧ z.1 ≤ z.2.1 ∧ z.2.1 ≤ 5000 ∧ cTurnIn (cBrk S T mg) f en = cTurn (cBrk S T mg) (cBrk S T mg en) (13 - z.2.2) z.1 z.2.1) ∧ lv_has ls 10 [(0, .ref a), (1, .ref b), (2, .int (jI (mg))), (3, .int (jI (f))), (4, .int (jI (en))), (5, .int (jI (bI (cBrk S T mg en)))), (6, .int (jI (z.1))), (7, .int (jI (z.2.1))), (8, .int (jI ((z.2.2 : Int))))]) ?_ (f, en, 0) ls ⟨⟨by dsimp only; omega, by dsimp only; omega, by dsimp only; omega, by dsimp only; omega, rfl⟩, lv_sub hl [4, 5, 6, 7, 8, 3, 2, 1, 0] rfl⟩
  intro z ls hinv ih
  obtain ⟨bb, tt, i⟩ := z
  obtain ⟨⟨h13, hb0, hbt, ht5, he⟩, hl⟩ := hinv
  dsimp only at h13 hb0 hbt ht5 he
  have hl : lv_has ls 10 [(0, .ref a), (1, .ref b), (2, .int (jI (mg))), (3, .int (jI (f))), (4, .int (jI (en))), (5, .int (jI (bI (cBrk S T mg en)))), (6, .int (jI (bb))), (7, .int (jI (tt))), (8, .int (jI ((i : Int))))] := hl
  refine lv_iload hx hb dX3_turnIn_20 (lv_at hl 8 rfl) ?_
  refine jv_bipush hx hb dX3_turnIn_22 (by decide) ?_
  refine jv_icmp_ge (tgt := 75) hx hb dX3_turnIn_24 (by decide) (by omega) (by omega) (fun c24 => ?_) (fun c24 => ?_)
  · refine lv_iload hx hb dX3_turnIn_75 (lv_at hl 7 rfl) ?_
    exact pu_iret hx hb hr hlocks dX3_turnIn_77 (by rw [he, show 13 - i = 0 by omega]; rfl)
  · refine lv_iload hx hb dX3_turnIn_27 (lv_at hl 7 rfl) ?_
    refine lv_iload hx hb dX3_turnIn_29 (lv_at hl 6 rfl) ?_
    refine jv_isub hx hb dX3_turnIn_31 ?_
    refine jv_iconst hx hb dX3_turnIn_32 ?_
    refine jv_icmp_le (tgt := 75) hx hb dX3_turnIn_33 (by decide) (by omega) (by omega) (fun c33 => ?_) (fun c33 => ?_)
    · refine lv_iload hx hb dX3_turnIn_75 (lv_at hl 7 rfl) ?_
      exact pu_iret hx hb hr hlocks dX3_turnIn_77 (by rw [he, show 13 - i = (12 - i) + 1 by omega]; simp only [cTurn]; rw [if_pos (by omega)])
    · refine lv_iload hx hb dX3_turnIn_36 (lv_at hl 6 rfl) ?_
      refine lv_iload hx hb dX3_turnIn_38 (lv_at hl 7 rfl) ?_
      refine jv_iadd hx hb dX3_turnIn_40 ?_
      refine jv_iconst hx hb dX3_turnIn_41 ?_
      refine jv_idiv hx hb dX3_turnIn_42 (by omega) (by omega) ?_
      refine lv_istore (lv' := [(9, .int (jI ((bb + tt) / 2))), (0, .ref a), (1, .ref b), (2, .int (jI (mg))), (3, .int (jI (f))), (4, .int (jI (en))), (5, .int (jI (bI (cBrk S T mg en)))), (6, .int (jI (bb))), (7, .int (jI (tt))), (8, .int (jI ((i : Int))))]) hx hb dX3_turnIn_43 hl (by decide) rfl (fun ls hl => ?_)
      refine lv_aload_n hx hb dX3_turnIn_45 rfl (lv_at hl 1 rfl) ?_
      refine lv_aload_n hx hb dX3_turnIn_46 rfl (lv_at hl 2 rfl) ?_
      refine lv_iload_n hx hb dX3_turnIn_47 rfl (lv_at hl 3 rfl) ?_
      refine lv_iload hx hb dX3_turnIn_48 (lv_at hl 0 rfl) ?_
      refine pu_call1 (va_runS (As := [.ref a, .ref b, .int (jI (mg)), .int (jI ((bb + tt) / 2))]) (rest := []) ⟨hx, hb, hml, hown, hts⟩ (c_isBrokenAt l D g a b S T mg ((bb + tt) / 2) hoS hoT hmg (by omega)) (cwS 4 hts (gd_S kw_322 kw_323 kw_12 kcX3_isBrokenAt) rfl rfl rfl (by decide +kernel) ⟨Nat.le_of_ble_eq_true rfl, Nat.le_of_ble_eq_true rfl⟩) (pu_preS hPic hK) rfl rfl hl.1 rfl (lv_room (Nat.le_of_ble_eq_true rfl)) dX3_turnIn_50 ⟨Nat.zero_le _, Nat.zero_le _⟩) ?_
      refine lv_iload hx hb dX3_turnIn_53 (lv_at hl 6 rfl) ?_
      refine jv_icmp_ne (tgt := 65) hx hb dX3_turnIn_55 (by decide) (bI_rng _) (bI_rng _) (fun c55 => ?_) (fun c55 => ?_)
      · have c55 := bI_nj c55
        refine lv_iload hx hb dX3_turnIn_65 (lv_at hl 0 rfl) ?_
        refine lv_istore (lv' := [(6, .int (jI ((bb + tt) / 2))), (9, .int (jI ((bb + tt) / 2))), (0, .ref a), (1, .ref b), (2, .int (jI (mg))), (3, .int (jI (f))), (4, .int (jI (en))), (5, .int (jI (bI (cBrk S T mg en)))), (7, .int (jI (tt))), (8, .int (jI ((i : Int))))]) hx hb dX3_turnIn_67 hl (by decide) rfl (fun ls hl => ?_)
        refine lv_iinc (v := jI ((i : Int) + 1)) (lv' := [(8, .int (jI ((i : Int) + 1))), (6, .int (jI ((bb + tt) / 2))), (9, .int (jI ((bb + tt) / 2))), (0, .ref a), (1, .ref b), (2, .int (jI (mg))), (3, .int (jI (f))), (4, .int (jI (en))), (5, .int (jI (bI (cBrk S T mg en)))), (7, .int (jI (tt)))]) hx hb dX3_turnIn_69 hl (k := 9) rfl (jI_add _ _) (by decide) rfl (fun ls hl => ?_)
        refine lv_goto (tgt := 20) hx hb dX3_turnIn_72 (by decide) ?_
        exact ih ((bb + tt) / 2, tt, i + 1) ls ⟨⟨by dsimp only; omega, by dsimp only; omega, by dsimp only; omega, by dsimp only; omega, by dsimp only; rw [he, show 13 - i = (13 - (i + 1)) + 1 by omega]; simp only [cTurn]; rw [if_neg (by omega), if_neg c55]⟩, lv_sub hl [3, 4, 5, 6, 7, 8, 1, 9, 0] rfl⟩ (by dsimp only; omega)
      · have c55 := bI_ij c55
        refine lv_iload hx hb dX3_turnIn_58 (lv_at hl 0 rfl) ?_
        refine lv_istore (lv' := [(7, .int (jI ((bb + tt) / 2))), (9, .int (jI ((bb + tt) / 2))), (0, .ref a), (1, .ref b), (2, .int (jI (mg))), (3, .int (jI (f))), (4, .int (jI (en))), (5, .int (jI (bI (cBrk S T mg en)))), (6, .int (jI (bb))), (8, .int (jI ((i : Int))))]) hx hb dX3_turnIn_60 hl (by decide) rfl (fun ls hl => ?_)
        refine lv_goto (tgt := 69) hx hb dX3_turnIn_62 (by decide) ?_
        refine lv_iinc (v := jI ((i : Int) + 1)) (lv' := [(8, .int (jI ((i : Int) + 1))), (7, .int (jI ((bb + tt) / 2))), (9, .int (jI ((bb + tt) / 2))), (0, .ref a), (1, .ref b), (2, .int (jI (mg))), (3, .int (jI (f))), (4, .int (jI (en))), (5, .int (jI (bI (cBrk S T mg en)))), (6, .int (jI (bb)))]) hx hb dX3_turnIn_69 hl (k := 9) rfl (jI_add _ _) (by decide) rfl (fun ls hl => ?_)
        refine lv_goto (tgt := 20) hx hb dX3_turnIn_72 (by decide) ?_
        exact ih (bb, (bb + tt) / 2, i + 1) ls ⟨⟨by dsimp only; omega, by dsimp only; omega, by dsimp only; omega, by dsimp only; omega, by dsimp only; rw [he, show 13 - i = (13 - (i + 1)) + 1 by omega]; simp only [cTurn]; rw [if_neg (by omega), if_pos c55]⟩, lv_sub hl [3, 4, 5, 6, 7, 8, 9, 1, 0] rfl⟩ (by dsimp only; omega)
set_option maxHeartbeats 4000000 in
set_option maxRecDepth 100000 in
theorem c_firstBrokenStretch (l : Launch) (D : va_G) (g : Nat → ClassId) (a b : Nat) (S T : jSet) (mg : Int) (hoS : sOK S) (hoT : sOK T) (hmg : 0 ≤ mg ∧ mg ≤ 10000) : Met l yX3_firstBrokenStretch wsX3_firstBrokenStretch ({ frames := 3, cells := 0, slots := 0, locals := 88 }) (pu_Pc [.ref a, .ref b, .int (jI (mg))] D vwCl (ty9 g) (fun H => sAt D g a S H ∧ sAt D g b T H)) (pu_Q (some (.int (jI (cFbs (cBrk S T mg) (cEnd S T) 13 1))))) 0 0 (fun _ => False) := by
  refine Met.ofW (cc := cX3_firstBrokenStretch) (maxL := 6) (ret := some .int) (by decide) rfl ?_
  intro p e s m args below meth c s₁ B hml hv
  obtain ⟨rfl, hPic, hK⟩ := hv
  have hx := B.exec
  have hb := B.bytes
  have hr := B.returns
  have hts := atoms_spec (ws := wsX3_firstBrokenStretch) B.pre
  have hown : s.vm.findClass RX3 = some m.cls := findClass_of_methodNamed B.named
  have hlocks := B.notSynchronized
  obtain ⟨ac_S, ap_S, al_S, am_S, h1_S, h2_S, h3_S, h4_S, h5_S⟩ := id hPic.1
  obtain ⟨ac_T, ap_T, al_T, am_T, h1_T, h2_T, h3_T, h4_T, h5_T⟩ := id hPic.2
  have hl := lv_entry ([.ref a, .ref b, .int (jI (mg))]) (n := 6) (Nat.le_of_ble_eq_true rfl)
  rw [lg_entry_eq]
  generalize (lg_sl ([.ref a, .ref b, .int (jI (mg))]) ++ List.replicate (6 - (lg_sl ([.ref a, .ref b, .int (jI (mg))])).length) Slot.unset).toArray = ls at hl ⊢
  have hl : lv_has ls 6 [(0, .ref a), (1, .ref b), (2, .int (jI (mg)))] := hl
  refine jv_iconst hx hb dX3_firstBrokenStretch_0 ?_
  refine lv_istore_n (lv' := [(3, .int (jI (1))), (0, .ref a), (1, .ref b), (2, .int (jI (mg)))]) hx hb dX3_firstBrokenStretch_1 rfl hl (by decide) rfl (fun ls hl => ?_)
  refine jv_iconst hx hb dX3_firstBrokenStretch_2 ?_
  refine lv_istore (lv' := [(4, .int (jI (0))), (3, .int (jI (1))), (0, .ref a), (1, .ref b), (2, .int (jI (mg)))]) hx hb dX3_firstBrokenStretch_3 hl (by decide) rfl (fun ls hl => ?_)
  refine jw_loop (X := Int × Nat) (fun z => 13 - z.2) (fun z ls => (z.2 ≤ 13 ∧ 1 ≤ z.1 ∧ z.1 ≤ 5001 ∧ cFbs (cBrk S T mg) (cEnd S T) 13 1 = cFbs (cBrk S T mg) (cEnd S T) (13 - z.2) z.1) ∧ lv_has ls 6 [(0, .ref a), (1, .ref b), (2, .int (jI (mg))), (3, .int (jI (z.1))), (4, .int (jI ((z.2 : Int))))]) ?_ (1, 0) ls ⟨⟨by dsimp only; omega, by dsimp only; omega, by dsimp only; omega, rfl⟩, lv_sub hl [2, 3, 4, 1, 0] rfl⟩
  intro z ls hinv ih
  obtain ⟨f, i⟩ := z
  obtain ⟨⟨h13, hf1, hf2, he⟩, hl⟩ := hinv
  dsimp only at h13 hf1 hf2 he
  have hl : lv_has ls 6 [(0, .ref a), (1, .ref b), (2, .int (jI (mg))), (3, .int (jI (f))), (4, .int (jI ((i : Int))))] := hl
  refine lv_iload hx hb dX3_firstBrokenStretch_5 (lv_at hl 4 rfl) ?_
  refine jv_bipush hx hb dX3_firstBrokenStretch_7 (by decide) ?_
  refine jv_icmp_ge (tgt := 61) hx hb dX3_firstBrokenStretch_9 (by decide) (by omega) (by omega) (fun c9 => ?_) (fun c9 => ?_)
  · refine jv_iconst hx hb dX3_firstBrokenStretch_61 ?_
    exact pu_iret hx hb hr hlocks dX3_firstBrokenStretch_62 (by rw [he, show 13 - i = 0 by omega]; rfl)
  · refine lv_iload_n hx hb dX3_firstBrokenStretch_12 rfl (lv_at hl 3 rfl) ?_
    refine jv_sipush hx hb dX3_firstBrokenStretch_13 (by decide) ?_
    refine jv_icmp_gt (tgt := 61) hx hb dX3_firstBrokenStretch_16 (by decide) (by omega) (by omega) (fun c16 => ?_) (fun c16 => ?_)
    · refine jv_iconst hx hb dX3_firstBrokenStretch_61 ?_
      exact pu_iret hx hb hr hlocks dX3_firstBrokenStretch_62 (by rw [he, show 13 - i = (12 - i) + 1 by omega]; simp only [cFbs]; rw [if_pos (by omega)])
    · have fE := cEnd_range hoS hoT (f := f) (by omega)
      refine lv_aload_n hx hb dX3_firstBrokenStretch_19 rfl (lv_at hl 0 rfl) ?_
      refine lv_aload_n hx hb dX3_firstBrokenStretch_20 rfl (lv_at hl 1 rfl) ?_
      refine lv_iload_n hx hb dX3_firstBrokenStretch_21 rfl (lv_at hl 3 rfl) ?_
      refine pu_call1 (va_runS (As := [.ref a, .ref b, .int (jI (f))]) (rest := []) ⟨hx, hb, hml, hown, hts⟩ (c_stretchEnd l D g a b S T f hoS hoT (by omega)) (cwS 3 hts (gd_S kw_318 kw_319 kw_12 kcX3_stretchEnd) rfl rfl rfl (by decide +kernel) ⟨Nat.le_of_ble_eq_true rfl, Nat.le_of_ble_eq_true rfl⟩) (pu_preS hPic hK) rfl rfl hl.1 rfl (lv_room (Nat.le_of_ble_eq_true rfl)) dX3_firstBrokenStretch_22 ⟨Nat.zero_le _, Nat.zero_le _⟩) ?_
      refine lv_istore (lv' := [(5, .int (jI (cEnd S T f))), (0, .ref a), (1, .ref b), (2, .int (jI (mg))), (3, .int (jI (f))), (4, .int (jI ((i : Int))))]) hx hb dX3_firstBrokenStretch_25 hl (by decide) rfl (fun ls hl => ?_)
      refine lv_aload_n hx hb dX3_firstBrokenStretch_27 rfl (lv_at hl 1 rfl) ?_
      refine lv_aload_n hx hb dX3_firstBrokenStretch_28 rfl (lv_at hl 2 rfl) ?_
      refine lv_iload_n hx hb dX3_firstBrokenStretch_29 rfl (lv_at hl 3 rfl) ?_
      refine lv_iload_n hx hb dX3_firstBrokenStretch_30 rfl (lv_at hl 4 rfl) ?_
      refine pu_call1 (va_runS (As := [.ref a, .ref b, .int (jI (mg)), .int (jI (f))]) (rest := []) ⟨hx, hb, hml, hown, hts⟩ (c_isBrokenAt l D g a b S T mg f hoS hoT hmg (by omega)) (cwS 4 hts (gd_S kw_322 kw_323 kw_12 kcX3_isBrokenAt) rfl rfl rfl (by decide +kernel) ⟨Nat.le_of_ble_eq_true rfl, Nat.le_of_ble_eq_true rfl⟩) (pu_preS hPic hK) rfl rfl hl.1 rfl (lv_room (Nat.le_of_ble_eq_true rfl)) dX3_firstBrokenStretch_31 ⟨Nat.zero_le _, Nat.zero_le _⟩) ?_
      refine jv_if_ne (tgt := 48) hx hb dX3_firstBrokenStretch_34 (by decide) (bI_rng _) (fun c34 => ?_) (fun c34 => ?_)
      · have c34 := bI_tr c34
        refine lv_iload_n hx hb dX3_firstBrokenStretch_48 rfl (lv_at hl 4 rfl) ?_
        exact pu_iret hx hb hr hlocks dX3_firstBrokenStretch_49 (by rw [he, show 13 - i = (13 - (i + 1)) + 1 by omega]; simp only [cFbs]; rw [if_neg (by omega), if_pos c34])
      · have c34 := bI_fa c34
        refine lv_aload_n hx hb dX3_firstBrokenStretch_37 rfl (lv_at hl 1 rfl) ?_
        refine lv_aload_n hx hb dX3_firstBrokenStretch_38 rfl (lv_at hl 2 rfl) ?_
        refine lv_iload_n hx hb dX3_firstBrokenStretch_39 rfl (lv_at hl 3 rfl) ?_
        refine lv_iload hx hb dX3_firstBrokenStretch_40 (lv_at hl 0 rfl) ?_
        refine pu_call1 (va_runS (As := [.ref a, .ref b, .int (jI (mg)), .int (jI (cEnd S T f))]) (rest := []) ⟨hx, hb, hml, hown, hts⟩ (c_isBrokenAt l D g a b S T mg (cEnd S T f) hoS hoT hmg (by omega)) (cwS 4 hts (gd_S kw_322 kw_323 kw_12 kcX3_isBrokenAt) rfl rfl rfl (by decide +kernel) ⟨Nat.le_of_ble_eq_true rfl, Nat.le_of_ble_eq_true rfl⟩) (pu_preS hPic hK) rfl rfl hl.1 rfl (lv_room (Nat.le_of_ble_eq_true rfl)) dX3_firstBrokenStretch_42 ⟨Nat.zero_le _, Nat.zero_le _⟩) ?_
        refine jv_if_eq (tgt := 50) hx hb dX3_firstBrokenStretch_45 (by decide) (bI_rng _) (fun c45 => ?_) (fun c45 => ?_)
        · have c45 := bI_fa c45
          refine lv_iload hx hb dX3_firstBrokenStretch_50 (lv_at hl 0 rfl) ?_
          refine jv_iconst hx hb dX3_firstBrokenStretch_52 ?_
          refine jv_iadd hx hb dX3_firstBrokenStretch_53 ?_
          refine lv_istore_n (lv' := [(3, .int (jI ((cEnd S T f) + 1))), (5, .int (jI (cEnd S T f))), (0, .ref a), (1, .ref b), (2, .int (jI (mg))), (4, .int (jI ((i : Int))))]) hx hb dX3_firstBrokenStretch_54 rfl hl (by decide) rfl (fun ls hl => ?_)
          refine lv_iinc (v := jI ((i : Int) + 1)) (lv' := [(4, .int (jI ((i : Int) + 1))), (3, .int (jI ((cEnd S T f) + 1))), (5, .int (jI (cEnd S T f))), (0, .ref a), (1, .ref b), (2, .int (jI (mg)))]) hx hb dX3_firstBrokenStretch_55 hl (k := 5) rfl (jI_add _ _) (by decide) rfl (fun ls hl => ?_)
          refine lv_goto (tgt := 5) hx hb dX3_firstBrokenStretch_58 (by decide) ?_
          exact ih (cEnd S T f + 1, i + 1) ls ⟨⟨by dsimp only; omega, by dsimp only; omega, by dsimp only; omega, by dsimp only; rw [he, show 13 - i = (13 - (i + 1)) + 1 by omega]; simp only [cFbs]; rw [if_neg (by omega), if_neg (by rw [c34]; decide), if_neg (by rw [c45]; decide)]⟩, lv_sub hl [3, 4, 5, 1, 0] rfl⟩ (by dsimp only; omega)
        · have c45 := bI_tr c45
          refine lv_iload_n hx hb dX3_firstBrokenStretch_48 rfl (lv_at hl 4 rfl) ?_
          exact pu_iret hx hb hr hlocks dX3_firstBrokenStretch_49 (by rw [he, show 13 - i = (13 - (i + 1)) + 1 by omega]; simp only [cFbs]; rw [if_neg (by omega), if_neg (by rw [c34]; decide), if_pos c45])
set_option maxHeartbeats 4000000 in
set_option maxRecDepth 100000 in
theorem c_firstBroken (l : Launch) (D : va_G) (g : Nat → ClassId) (a b : Nat) (S T : jSet) (mg : Int) (hoS : sOK S) (hoT : sOK T) (hmg : 0 ≤ mg ∧ mg ≤ 10000) : Met l yX3_firstBroken wsX3_firstBroken ({ frames := 4, cells := 0, slots := 0, locals := 117 }) (pu_Pc [.ref a, .ref b, .int (jI (mg))] D vwCl (ty9 g) (fun H => sAt D g a S H ∧ sAt D g b T H)) (pu_Q (some (.int (jI (cFb (cBrk S T mg) (cEnd S T)))))) 0 0 (fun _ => False) := by
  refine Met.ofW (cc := cX3_firstBroken) (maxL := 4) (ret := some .int) (by decide) rfl ?_
  intro p e s m args below meth c s₁ B hml hv
  obtain ⟨rfl, hPic, hK⟩ := hv
  have hx := B.exec
  have hb := B.bytes
  have hr := B.returns
  have hts := atoms_spec (ws := wsX3_firstBroken) B.pre
  have hown : s.vm.findClass RX3 = some m.cls := findClass_of_methodNamed B.named
  have hlocks := B.notSynchronized
  obtain ⟨ac_S, ap_S, al_S, am_S, h1_S, h2_S, h3_S, h4_S, h5_S⟩ := id hPic.1
  obtain ⟨ac_T, ap_T, al_T, am_T, h1_T, h2_T, h3_T, h4_T, h5_T⟩ := id hPic.2
  have rF : cFbs (cBrk S T mg) (cEnd S T) 13 1 = -1 ∨ (1 ≤ cFbs (cBrk S T mg) (cEnd S T) 13 1 ∧ cFbs (cBrk S T mg) (cEnd S T) 13 1 ≤ 5000) := by
    rcases cFbs_all hoS hoT mg with ⟨b1, -⟩ | ⟨g, b1, b2, b3, -⟩
    · exact Or.inl b1
    · exact Or.inr (by rw [b3]; exact ⟨b1, b2⟩)
  generalize hF : cFbs (cBrk S T mg) (cEnd S T) 13 1 = F at rF
  have hl := lv_entry ([.ref a, .ref b, .int (jI (mg))]) (n := 4) (Nat.le_of_ble_eq_true rfl)
  rw [lg_entry_eq]
  generalize (lg_sl ([.ref a, .ref b, .int (jI (mg))]) ++ List.replicate (4 - (lg_sl ([.ref a, .ref b, .int (jI (mg))])).length) Slot.unset).toArray = ls at hl ⊢
  have hl : lv_has ls 4 [(0, .ref a), (1, .ref b), (2, .int (jI (mg)))] := hl
  refine lv_aload_n hx hb dX3_firstBroken_0 rfl (lv_at hl 0 rfl) ?_
  refine lv_aload_n hx hb dX3_firstBroken_1 rfl (lv_at hl 1 rfl) ?_
  refine lv_iload_n hx hb dX3_firstBroken_2 rfl (lv_at hl 2 rfl) ?_
  refine pu_call1 (va_runS (As := [.ref a, .ref b, .int (jI (mg))]) (rest := []) ⟨hx, hb, hml, hown, hts⟩ (c_firstBrokenStretch l D g a b S T mg hoS hoT hmg) (cwS 3 hts (gd_S kw_315 kw_316 kw_12 kcX3_firstBrokenStretch) rfl rfl rfl (by decide +kernel) ⟨Nat.le_of_ble_eq_true rfl, Nat.le_of_ble_eq_true rfl⟩) (pu_preS hPic hK) rfl rfl hl.1 rfl (lv_room (Nat.le_of_ble_eq_true rfl)) dX3_firstBroken_3 ⟨Nat.zero_le _, Nat.zero_le _⟩) ?_
  rw [hF]
  refine lv_istore_n (lv' := [(3, .int (jI (F))), (0, .ref a), (1, .ref b), (2, .int (jI (mg)))]) hx hb dX3_firstBroken_6 rfl hl (by decide) rfl (fun ls hl => ?_)
  refine lv_iload_n hx hb dX3_firstBroken_7 rfl (lv_at hl 0 rfl) ?_
  refine jv_iconst hx hb dX3_firstBroken_8 ?_
  refine jv_icmp_eq (tgt := 22) hx hb dX3_firstBroken_9 (by decide) (by omega) (by omega) (fun c9 => ?_) (fun c9 => ?_)
  · refine lv_iload_n hx hb dX3_firstBroken_22 rfl (lv_at hl 0 rfl) ?_
    exact pu_iret hx hb hr hlocks dX3_firstBroken_23 (by rw [cFb, hF, if_pos c9]; exact c9)
  · have fE := cEnd_range hoS hoT (f := F) (by omega)
    refine lv_aload_n hx hb dX3_firstBroken_12 rfl (lv_at hl 1 rfl) ?_
    refine lv_aload_n hx hb dX3_firstBroken_13 rfl (lv_at hl 2 rfl) ?_
    refine lv_iload_n hx hb dX3_firstBroken_14 rfl (lv_at hl 3 rfl) ?_
    refine lv_iload_n hx hb dX3_firstBroken_15 rfl (lv_at hl 0 rfl) ?_
    refine pu_call1 (va_runS (As := [.ref a, .ref b, .int (jI (mg)), .int (jI (F))]) (rest := []) ⟨hx, hb, hml, hown, hts⟩ (c_isBrokenAt l D g a b S T mg F hoS hoT hmg (by omega)) (cwS 4 hts (gd_S kw_322 kw_323 kw_12 kcX3_isBrokenAt) rfl rfl rfl (by decide +kernel) ⟨Nat.le_of_ble_eq_true rfl, Nat.le_of_ble_eq_true rfl⟩) (pu_preS hPic hK) rfl rfl hl.1 rfl (lv_room (Nat.le_of_ble_eq_true rfl)) dX3_firstBroken_16 ⟨Nat.zero_le _, Nat.zero_le _⟩) ?_
    refine jv_if_eq (tgt := 24) hx hb dX3_firstBroken_19 (by decide) (bI_rng _) (fun c19 => ?_) (fun c19 => ?_)
    · have c19 := bI_fa c19
      refine lv_aload_n hx hb dX3_firstBroken_24 rfl (lv_at hl 1 rfl) ?_
      refine lv_aload_n hx hb dX3_firstBroken_25 rfl (lv_at hl 2 rfl) ?_
      refine lv_iload_n hx hb dX3_firstBroken_26 rfl (lv_at hl 3 rfl) ?_
      refine lv_iload_n hx hb dX3_firstBroken_27 rfl (lv_at hl 0 rfl) ?_
      refine lv_aload_n hx hb dX3_firstBroken_28 rfl (lv_at hl 1 rfl) ?_
      refine lv_aload_n hx hb dX3_firstBroken_29 rfl (lv_at hl 2 rfl) ?_
      refine lv_iload_n hx hb dX3_firstBroken_30 rfl (lv_at hl 0 rfl) ?_
      refine pu_call1 (va_runS (As := [.ref a, .ref b, .int (jI (F))]) (rest := [.int (jI (F)), .int (jI (mg)), .ref b, .ref a]) ⟨hx, hb, hml, hown, hts⟩ (c_stretchEnd l D g a b S T F hoS hoT (by omega)) (cwS 3 hts (gd_S kw_318 kw_319 kw_12 kcX3_stretchEnd) rfl rfl rfl (by decide +kernel) ⟨Nat.le_of_ble_eq_true rfl, Nat.le_of_ble_eq_true rfl⟩) (pu_preS hPic hK) rfl rfl hl.1 rfl (lv_room (Nat.le_of_ble_eq_true rfl)) dX3_firstBroken_31 ⟨Nat.zero_le _, Nat.zero_le _⟩) ?_
      refine pu_call1 (va_runS (As := [.ref a, .ref b, .int (jI (mg)), .int (jI (F)), .int (jI (cEnd S T F))]) (rest := []) ⟨hx, hb, hml, hown, hts⟩ (c_turnIn l D g a b S T mg F (cEnd S T F) hoS hoT hmg (by omega)) (cwS 5 hts (gd_S kw_330 kw_331 kw_12 kcX3_turnIn) rfl rfl rfl (by decide +kernel) ⟨Nat.le_of_ble_eq_true rfl, Nat.le_of_ble_eq_true rfl⟩) (pu_preS hPic hK) rfl rfl hl.1 rfl (lv_room (Nat.le_of_ble_eq_true rfl)) dX3_firstBroken_34 ⟨Nat.zero_le _, Nat.zero_le _⟩) ?_
      exact pu_iret hx hb hr hlocks dX3_firstBroken_37 (by rw [cFb, hF, if_neg c9, if_neg (by rw [c19]; decide)])
    · have c19 := bI_tr c19
      refine lv_iload_n hx hb dX3_firstBroken_22 rfl (lv_at hl 0 rfl) ?_
      exact pu_iret hx hb hr hlocks dX3_firstBroken_23 (by rw [cFb, hF, if_neg c9, if_pos c19])
set_option maxHeartbeats 4000000 in
set_option maxRecDepth 100000 in
theorem c_countBrokenIn (l : Launch) (D : va_G) (g : Nat → ClassId) (a b : Nat) (S T : jSet) (mg : Int) (f en : Int) (hoS : sOK S) (hoT : sOK T) (hmg : 0 ≤ mg ∧ mg ≤ 10000) (hf : 0 ≤ f ∧ f ≤ en ∧ en ≤ 5000) : Met l yX3_countBrokenIn wsX3_countBrokenIn ({ frames := 4, cells := 0, slots := 0, locals := 117 }) (pu_Pc [.ref a, .ref b, .int (jI (mg)), .int (jI (f)), .int (jI (en))] D vwCl (ty9 g) (fun H => sAt D g a S H ∧ sAt D g b T H)) (pu_Q (some (.int (jI (cCi (cBrk S T mg) f en))))) 0 0 (fun _ => False) := by
  refine Met.ofW (cc := cX3_countBrokenIn) (maxL := 8) (ret := some .int) (by decide) rfl ?_
  intro p e s m args below meth c s₁ B hml hv
  obtain ⟨rfl, hPic, hK⟩ := hv
  have hx := B.exec
  have hb := B.bytes
  have hr := B.returns
  have hts := atoms_spec (ws := wsX3_countBrokenIn) B.pre
  have hown : s.vm.findClass RX3 = some m.cls := findClass_of_methodNamed B.named
  have hlocks := B.notSynchronized
  obtain ⟨ac_S, ap_S, al_S, am_S, h1_S, h2_S, h3_S, h4_S, h5_S⟩ := id hPic.1
  obtain ⟨ac_T, ap_T, al_T, am_T, h1_T, h2_T, h3_T, h4_T, h5_T⟩ := id hPic.2
  have hl := lv_entry ([.ref a, .ref b, .int (jI (mg)), .int (jI (f)), .int (jI (en))]) (n := 8) (Nat.le_of_ble_eq_true rfl)
  rw [lg_entry_eq]
  generalize (lg_sl ([.ref a, .ref b, .int (jI (mg)), .int (jI (f)), .int (jI (en))]) ++ List.replicate (8 - (lg_sl ([.ref a, .ref b, .int (jI (mg)), .int (jI (f)), .int (jI (en))])).length) Slot.unset).toArray = ls at hl ⊢
  have hl : lv_has ls 8 [(0, .ref a), (1, .ref b), (2, .int (jI (mg))), (3, .int (jI (f))), (4, .int (jI (en)))] := hl
  refine lv_aload_n hx hb dX3_countBrokenIn_0 rfl (lv_at hl 0 rfl) ?_
  refine lv_aload_n hx hb dX3_countBrokenIn_1 rfl (lv_at hl 1 rfl) ?_
  refine lv_iload_n hx hb dX3_countBrokenIn_2 rfl (lv_at hl 2 rfl) ?_
  refine lv_iload_n hx hb dX3_countBrokenIn_3 rfl (lv_at hl 3 rfl) ?_
  refine pu_call1 (va_runS (As := [.ref a, .ref b, .int (jI (mg)), .int (jI (f))]) (rest := []) ⟨hx, hb, hml, hown, hts⟩ (c_isBrokenAt l D g a b S T mg f hoS hoT hmg (by omega)) (cwS 4 hts (gd_S kw_322 kw_323 kw_12 kcX3_isBrokenAt) rfl rfl rfl (by decide +kernel) ⟨Nat.le_of_ble_eq_true rfl, Nat.le_of_ble_eq_true rfl⟩) (pu_preS hPic hK) rfl rfl hl.1 rfl (lv_room (Nat.le_of_ble_eq_true rfl)) dX3_countBrokenIn_4 ⟨Nat.zero_le _, Nat.zero_le _⟩) ?_
  refine lv_istore (lv' := [(5, .int (jI (bI (cBrk S T mg f)))), (0, .ref a), (1, .ref b), (2, .int (jI (mg))), (3, .int (jI (f))), (4, .int (jI (en)))]) hx hb dX3_countBrokenIn_7 hl (by decide) rfl (fun ls hl => ?_)
  refine lv_aload_n hx hb dX3_countBrokenIn_9 rfl (lv_at hl 1 rfl) ?_
  refine lv_aload_n hx hb dX3_countBrokenIn_10 rfl (lv_at hl 2 rfl) ?_
  refine lv_iload_n hx hb dX3_countBrokenIn_11 rfl (lv_at hl 3 rfl) ?_
  refine lv_iload hx hb dX3_countBrokenIn_12 (lv_at hl 5 rfl) ?_
  refine pu_call1 (va_runS (As := [.ref a, .ref b, .int (jI (mg)), .int (jI (en))]) (rest := []) ⟨hx, hb, hml, hown, hts⟩ (c_isBrokenAt l D g a b S T mg en hoS hoT hmg (by omega)) (cwS 4 hts (gd_S kw_322 kw_323 kw_12 kcX3_isBrokenAt) rfl rfl rfl (by decide +kernel) ⟨Nat.le_of_ble_eq_true rfl, Nat.le_of_ble_eq_true rfl⟩) (pu_preS hPic hK) rfl rfl hl.1 rfl (lv_room (Nat.le_of_ble_eq_true rfl)) dX3_countBrokenIn_14 ⟨Nat.zero_le _, Nat.zero_le _⟩) ?_
  refine lv_istore (lv' := [(6, .int (jI (bI (cBrk S T mg en)))), (5, .int (jI (bI (cBrk S T mg f)))), (0, .ref a), (1, .ref b), (2, .int (jI (mg))), (3, .int (jI (f))), (4, .int (jI (en)))]) hx hb dX3_countBrokenIn_17 hl (by decide) rfl (fun ls hl => ?_)
  refine lv_iload hx hb dX3_countBrokenIn_19 (lv_at hl 1 rfl) ?_
  refine lv_iload hx hb dX3_countBrokenIn_21 (lv_at hl 0 rfl) ?_
  refine jv_icmp_ne (tgt := 42) hx hb dX3_countBrokenIn_23 (by decide) (bI_rng _) (bI_rng _) (fun c23 => ?_) (fun c23 => ?_)
  · have c23 := bI_nj c23
    refine lv_aload_n hx hb dX3_countBrokenIn_42 rfl (lv_at hl 2 rfl) ?_
    refine lv_aload_n hx hb dX3_countBrokenIn_43 rfl (lv_at hl 3 rfl) ?_
    refine lv_iload_n hx hb dX3_countBrokenIn_44 rfl (lv_at hl 4 rfl) ?_
    refine lv_iload_n hx hb dX3_countBrokenIn_45 rfl (lv_at hl 5 rfl) ?_
    refine lv_iload hx hb dX3_countBrokenIn_46 (lv_at hl 6 rfl) ?_
    refine pu_call1 (va_runS (As := [.ref a, .ref b, .int (jI (mg)), .int (jI (f)), .int (jI (en))]) (rest := []) ⟨hx, hb, hml, hown, hts⟩ (c_turnIn l D g a b S T mg f en hoS hoT hmg hf) (cwS 5 hts (gd_S kw_330 kw_331 kw_12 kcX3_turnIn) rfl rfl rfl (by decide +kernel) ⟨Nat.le_of_ble_eq_true rfl, Nat.le_of_ble_eq_true rfl⟩) (pu_preS hPic hK) rfl rfl hl.1 rfl (lv_room (Nat.le_of_ble_eq_true rfl)) dX3_countBrokenIn_48 ⟨Nat.zero_le _, Nat.zero_le _⟩) ?_
    refine lv_istore (lv' := [(7, .int (jI (cTurnIn (cBrk S T mg) f en))), (6, .int (jI (bI (cBrk S T mg en)))), (5, .int (jI (bI (cBrk S T mg f)))), (0, .ref a), (1, .ref b), (2, .int (jI (mg))), (3, .int (jI (f))), (4, .int (jI (en)))]) hx hb dX3_countBrokenIn_51 hl (by decide) rfl (fun ls hl => ?_)
    refine lv_iload hx hb dX3_countBrokenIn_53 (lv_at hl 2 rfl) ?_
    refine jv_if_eq (tgt := 65) hx hb dX3_countBrokenIn_55 (by decide) (bI_rng _) (fun c55 => ?_) (fun c55 => ?_)
    · have c55 := bI_fa c55
      refine lv_iload hx hb dX3_countBrokenIn_65 (lv_at hl 7 rfl) ?_
      refine lv_iload hx hb dX3_countBrokenIn_67 (lv_at hl 0 rfl) ?_
      refine jv_isub hx hb dX3_countBrokenIn_69 ?_
      refine jv_iconst hx hb dX3_countBrokenIn_70 ?_
      refine jv_iadd hx hb dX3_countBrokenIn_71 ?_
      exact pu_iret hx hb hr hlocks dX3_countBrokenIn_72 (by rw [cCi, if_neg c23, if_neg (by rw [c55]; decide)])
    · have c55 := bI_tr c55
      refine lv_iload hx hb dX3_countBrokenIn_58 (lv_at hl 0 rfl) ?_
      refine lv_iload_n hx hb dX3_countBrokenIn_60 rfl (lv_at hl 6 rfl) ?_
      refine jv_isub hx hb dX3_countBrokenIn_61 ?_
      refine lv_goto (tgt := 72) hx hb dX3_countBrokenIn_62 (by decide) ?_
      exact pu_iret hx hb hr hlocks dX3_countBrokenIn_72 (by rw [cCi, if_neg c23, if_pos c55])
  · have c23 := bI_ij c23
    refine lv_iload hx hb dX3_countBrokenIn_26 (lv_at hl 1 rfl) ?_
    refine jv_if_eq (tgt := 40) hx hb dX3_countBrokenIn_28 (by decide) (bI_rng _) (fun c28 => ?_) (fun c28 => ?_)
    · have c28 := bI_fa c28
      refine jv_iconst hx hb dX3_countBrokenIn_40 ?_
      exact pu_iret hx hb hr hlocks dX3_countBrokenIn_41 (by rw [cCi, if_pos c23, if_neg (by rw [c28]; decide)])
    · have c28 := bI_tr c28
      refine lv_iload hx hb dX3_countBrokenIn_31 (lv_at hl 6 rfl) ?_
      refine lv_iload_n hx hb dX3_countBrokenIn_33 rfl (lv_at hl 5 rfl) ?_
      refine jv_isub hx hb dX3_countBrokenIn_34 ?_
      refine jv_iconst hx hb dX3_countBrokenIn_35 ?_
      refine jv_iadd hx hb dX3_countBrokenIn_36 ?_
      refine lv_goto (tgt := 41) hx hb dX3_countBrokenIn_37 (by decide) ?_
      exact pu_iret hx hb hr hlocks dX3_countBrokenIn_41 (by rw [cCi, if_pos c23, if_pos c28])
set_option maxHeartbeats 4000000 in
set_option maxRecDepth 100000 in
theorem c_countBroken (l : Launch) (D : va_G) (g : Nat → ClassId) (a b : Nat) (S T : jSet) (mg : Int) (hoS : sOK S) (hoT : sOK T) (hmg : 0 ≤ mg ∧ mg ≤ 10000) : Met l yX3_countBroken wsX3_countBroken ({ frames := 5, cells := 0, slots := 0, locals := 144 }) (pu_Pc [.ref a, .ref b, .int (jI (mg))] D vwCl (ty9 g) (fun H => sAt D g a S H ∧ sAt D g b T H)) (pu_Q (some (.int (jI (cCnt (cBrk S T mg) (cEnd S T) 13 1 0))))) 0 0 (fun _ => False) := by
  refine Met.ofW (cc := cX3_countBroken) (maxL := 7) (ret := some .int) (by decide) rfl ?_
  intro p e s m args below meth c s₁ B hml hv
  obtain ⟨rfl, hPic, hK⟩ := hv
  have hx := B.exec
  have hb := B.bytes
  have hr := B.returns
  have hts := atoms_spec (ws := wsX3_countBroken) B.pre
  have hown : s.vm.findClass RX3 = some m.cls := findClass_of_methodNamed B.named
  have hlocks := B.notSynchronized
  obtain ⟨ac_S, ap_S, al_S, am_S, h1_S, h2_S, h3_S, h4_S, h5_S⟩ := id hPic.1
  obtain ⟨ac_T, ap_T, al_T, am_T, h1_T, h2_T, h3_T, h4_T, h5_T⟩ := id hPic.2
  have hl := lv_entry ([.ref a, .ref b, .int (jI (mg))]) (n := 7) (Nat.le_of_ble_eq_true rfl)
  rw [lg_entry_eq]
  generalize (lg_sl ([.ref a, .ref b, .int (jI (mg))]) ++ List.replicate (7 - (lg_sl ([.ref a, .ref b, .int (jI (mg))])).length) Slot.unset).toArray = ls at hl ⊢
  have hl : lv_has ls 7 [(0, .ref a), (1, .ref b), (2, .int (jI (mg)))] := hl
  refine jv_iconst hx hb dX3_countBroken_0 ?_
  refine lv_istore_n (lv' := [(3, .int (jI (0))), (0, .ref a), (1, .ref b), (2, .int (jI (mg)))]) hx hb dX3_countBroken_1 rfl hl (by decide) rfl (fun ls hl => ?_)
  refine jv_iconst hx hb dX3_countBroken_2 ?_
  refine lv_istore (lv' := [(4, .int (jI (1))), (3, .int (jI (0))), (0, .ref a), (1, .ref b), (2, .int (jI (mg)))]) hx hb dX3_countBroken_3 hl (by decide) rfl (fun ls hl => ?_)
  refine jv_iconst hx hb dX3_countBroken_5 ?_
  refine lv_istore (lv' := [(5, .int (jI (0))), (4, .int (jI (1))), (3, .int (jI (0))), (0, .ref a), (1, .ref b), (2, .int (jI (mg)))]) hx hb dX3_countBroken_6 hl (by decide) rfl (fun ls hl => ?_)
  refine jw_loop (X := Int × Int × Nat) (fun z => 13 - z.2.2) (fun z ls => (z.2.2 ≤ 13 ∧ 1 ≤ z.2.1 ∧ z.2.1 ≤ 5001 ∧ cCnt (cBrk S T mg) (cEnd S T) 13 1 0 = cCnt (cBrk S T mg) (cEnd S T) (13 - z.2.2) z.2.1 z.1) ∧ lv_has ls 7 [(0, .ref a), (1, .ref b), (2, .int (jI (mg))), (3, .int (jI (z.1))), (4, .int (jI (z.2.1))), (5, .int (jI ((z.2.2 : Int))))]) ?_ (0, 1, 0) ls ⟨⟨by dsimp only; omega, by dsimp only; omega, by dsimp only; omega, rfl⟩, lv_sub hl [3, 4, 5, 2, 1, 0] rfl⟩
  intro z ls hinv ih
  obtain ⟨sm, f, i⟩ := z
  obtain ⟨⟨h13, hf1, hf2, he⟩, hl⟩ := hinv
  dsimp only at h13 hf1 hf2 he
  have hl : lv_has ls 7 [(0, .ref a), (1, .ref b), (2, .int (jI (mg))), (3, .int (jI (sm))), (4, .int (jI (f))), (5, .int (jI ((i : Int))))] := hl
  refine lv_iload hx hb dX3_countBroken_8 (lv_at hl 5 rfl) ?_
  refine jv_bipush hx hb dX3_countBroken_10 (by decide) ?_
  refine jv_icmp_ge (tgt := 57) hx hb dX3_countBroken_12 (by decide) (by omega) (by omega) (fun c12 => ?_) (fun c12 => ?_)
  · refine lv_iload_n hx hb dX3_countBroken_57 rfl (lv_at hl 3 rfl) ?_
    exact pu_iret hx hb hr hlocks dX3_countBroken_58 (by rw [he, show 13 - i = 0 by omega]; rfl)
  · refine lv_iload hx hb dX3_countBroken_15 (lv_at hl 4 rfl) ?_
    refine jv_sipush hx hb dX3_countBroken_17 (by decide) ?_
    refine jv_icmp_gt (tgt := 57) hx hb dX3_countBroken_20 (by decide) (by omega) (by omega) (fun c20 => ?_) (fun c20 => ?_)
    · refine lv_iload_n hx hb dX3_countBroken_57 rfl (lv_at hl 3 rfl) ?_
      exact pu_iret hx hb hr hlocks dX3_countBroken_58 (by rw [he, show 13 - i = (12 - i) + 1 by omega]; simp only [cCnt]; rw [if_pos (by omega)])
    · have fE := cEnd_range hoS hoT (f := f) (by omega)
      refine lv_aload_n hx hb dX3_countBroken_23 rfl (lv_at hl 0 rfl) ?_
      refine lv_aload_n hx hb dX3_countBroken_24 rfl (lv_at hl 1 rfl) ?_
      refine lv_iload hx hb dX3_countBroken_25 (lv_at hl 4 rfl) ?_
      refine pu_call1 (va_runS (As := [.ref a, .ref b, .int (jI (f))]) (rest := []) ⟨hx, hb, hml, hown, hts⟩ (c_stretchEnd l D g a b S T f hoS hoT (by omega)) (cwS 3 hts (gd_S kw_318 kw_319 kw_12 kcX3_stretchEnd) rfl rfl rfl (by decide +kernel) ⟨Nat.le_of_ble_eq_true rfl, Nat.le_of_ble_eq_true rfl⟩) (pu_preS hPic hK) rfl rfl hl.1 rfl (lv_room (Nat.le_of_ble_eq_true rfl)) dX3_countBroken_27 ⟨Nat.zero_le _, Nat.zero_le _⟩) ?_
      refine lv_istore (lv' := [(6, .int (jI (cEnd S T f))), (0, .ref a), (1, .ref b), (2, .int (jI (mg))), (3, .int (jI (sm))), (4, .int (jI (f))), (5, .int (jI ((i : Int))))]) hx hb dX3_countBroken_30 hl (by decide) rfl (fun ls hl => ?_)
      refine lv_iload_n hx hb dX3_countBroken_32 rfl (lv_at hl 4 rfl) ?_
      refine lv_aload_n hx hb dX3_countBroken_33 rfl (lv_at hl 1 rfl) ?_
      refine lv_aload_n hx hb dX3_countBroken_34 rfl (lv_at hl 2 rfl) ?_
      refine lv_iload_n hx hb dX3_countBroken_35 rfl (lv_at hl 3 rfl) ?_
      refine lv_iload hx hb dX3_countBroken_36 (lv_at hl 5 rfl) ?_
      refine lv_iload hx hb dX3_countBroken_38 (lv_at hl 0 rfl) ?_
      refine pu_call1 (va_runS (As := [.ref a, .ref b, .int (jI (mg)), .int (jI (f)), .int (jI (cEnd S T f))]) (rest := [.int (jI (sm))]) ⟨hx, hb, hml, hown, hts⟩ (c_countBrokenIn l D g a b S T mg f (cEnd S T f) hoS hoT hmg (by omega)) (cwS 5 hts (gd_S kw_343 kw_344 kw_12 kcX3_countBrokenIn) rfl rfl rfl (by decide +kernel) ⟨Nat.le_of_ble_eq_true rfl, Nat.le_of_ble_eq_true rfl⟩) (pu_preS hPic hK) rfl rfl hl.1 rfl (lv_room (Nat.le_of_ble_eq_true rfl)) dX3_countBroken_40 ⟨Nat.zero_le _, Nat.zero_le _⟩) ?_
      refine jv_iadd hx hb dX3_countBroken_43 ?_
      refine lv_istore_n (lv' := [(3, .int (jI (sm + (cCi (cBrk S T mg) f (cEnd S T f))))), (6, .int (jI (cEnd S T f))), (0, .ref a), (1, .ref b), (2, .int (jI (mg))), (4, .int (jI (f))), (5, .int (jI ((i : Int))))]) hx hb dX3_countBroken_44 rfl hl (by decide) rfl (fun ls hl => ?_)
      refine lv_iload hx hb dX3_countBroken_45 (lv_at hl 1 rfl) ?_
      refine jv_iconst hx hb dX3_countBroken_47 ?_
      refine jv_iadd hx hb dX3_countBroken_48 ?_
      refine lv_istore (lv' := [(4, .int (jI ((cEnd S T f) + 1))), (3, .int (jI (sm + (cCi (cBrk S T mg) f (cEnd S T f))))), (6, .int (jI (cEnd S T f))), (0, .ref a), (1, .ref b), (2, .int (jI (mg))), (5, .int (jI ((i : Int))))]) hx hb dX3_countBroken_49 hl (by decide) rfl (fun ls hl => ?_)
      refine lv_iinc (v := jI ((i : Int) + 1)) (lv' := [(5, .int (jI ((i : Int) + 1))), (4, .int (jI ((cEnd S T f) + 1))), (3, .int (jI (sm + (cCi (cBrk S T mg) f (cEnd S T f))))), (6, .int (jI (cEnd S T f))), (0, .ref a), (1, .ref b), (2, .int (jI (mg)))]) hx hb dX3_countBroken_51 hl (k := 6) rfl (jI_add _ _) (by decide) rfl (fun ls hl => ?_)
      refine lv_goto (tgt := 8) hx hb dX3_countBroken_54 (by decide) ?_
      exact ih (sm + cCi (cBrk S T mg) f (cEnd S T f), cEnd S T f + 1, i + 1) ls ⟨⟨by dsimp only; omega, by dsimp only; omega, by dsimp only; omega, by dsimp only; rw [he, show 13 - i = (13 - (i + 1)) + 1 by omega]; simp only [cCnt]; rw [if_neg (by omega)]⟩, lv_sub hl [4, 5, 6, 2, 1, 0] rfl⟩ (by dsimp only; omega)
