set_option maxHeartbeats 4000000 in
set_option maxRecDepth 100000 in
theorem c_pieceAt (l : Launch) (D : va_G) (g : Nat → ClassId) (a : Nat) (S : jSet) (I : Int) (hok : sOK S) (hI : 0 ≤ I ∧ I ≤ 5000) : Met l yX2_pieceAt wsX2_pieceAt ({ frames := 0, cells := 0, slots := 0, locals := 0 }) (pu_Pc [.ref a, .int (jI (I))] D vwCl (ty9 g) (fun H => sAt D g a S H)) (pu_Q (some (.int (jI (cPiece S I))))) 0 0 (fun _ => False) := by
  refine Met.ofW (cc := cX2_pieceAt) (maxL := 4) (ret := some .int) (by decide) rfl ?_
  intro p e s m args below meth c s₁ B hml hv
  obtain ⟨rfl, hPic, hK⟩ := hv
  have hx := B.exec
  have hb := B.bytes
  have hr := B.returns
  have hts := atoms_spec (ws := wsX2_pieceAt) B.pre
  have hown : s.vm.findClass RX2 = some m.cls := findClass_of_methodNamed B.named
  have hlocks := B.notSynchronized
  obtain ⟨ac_S, ap_S, al_S, am_S, h1_S, h2_S, h3_S, h4_S, h5_S⟩ := id hPic
  have hn := hok.1
  have hl := lv_entry ([.ref a, .int (jI (I))]) (n := 4) (Nat.le_of_ble_eq_true rfl)
  rw [lg_entry_eq]
  generalize (lg_sl ([.ref a, .int (jI (I))]) ++ List.replicate (4 - (lg_sl ([.ref a, .int (jI (I))])).length) Slot.unset).toArray = ls at hl ⊢
  have hl : lv_has ls 4 [(0, .ref a), (1, .int (jI (I)))] := hl
  refine jv_iconst hx hb dX2_pieceAt_0 ?_
  refine lv_istore_n (lv' := [(2, .int (jI ((-1)))), (0, .ref a), (1, .int (jI (I)))]) hx hb dX2_pieceAt_1 rfl hl (by decide) rfl (fun ls hl => ?_)
  refine jv_iconst hx hb dX2_pieceAt_2 ?_
  refine lv_istore_n (lv' := [(3, .int (jI (0))), (2, .int (jI ((-1)))), (0, .ref a), (1, .int (jI (I)))]) hx hb dX2_pieceAt_3 rfl hl (by decide) rfl (fun ls hl => ?_)
  refine jw_loop (X := Nat) (fun i => sN S - i) (fun i ls => i ≤ sN S ∧ lv_has ls 4 [(0, .ref a), (1, .int (jI (I))), (2, .int (jI (cPc S I i))), (3, .int (jI ((i : Int))))]) ?_ 0 ls ⟨Nat.zero_le _, lv_sub hl [2, 3, 1, 0] rfl⟩
  intro i ls hinv ih
  obtain ⟨hi, hl⟩ := hinv
  refine lv_iload_n hx hb dX2_pieceAt_4 rfl (lv_at hl 3 rfl) ?_
  refine lv_aload_n hx hb dX2_pieceAt_5 rfl (lv_at hl 0 rfl) ?_
  refine va_get (D := D) (ci := 2) (v := .ref ac_S) (C := RX2) (T := TX2) (N := 3) hx hb hts (fun w h => List.mem_cons_of_mem _ (uw_X2 w h)) hown hK (j_P1 h1_S) 0 rfl rfl 0 (by decide) (hts _ (List.mem_cons_of_mem _ kw_71)) (fun _ h9 => h9) rfl dX2_pieceAt_6 ?_
  refine va_get (D := D) (ci := 0) (v := .int (jI ((sN S : Int)))) (C := RX0) (T := TX0) (N := 4) hx hb hts (fun w h => List.mem_cons_of_mem _ (uw_X0 w h)) hown hK (j_P1 h2_S) 0 rfl rfl 3 (by decide) (hts _ (List.mem_cons_of_mem _ kw_52)) (fun _ h9 => h9) rfl dX2_pieceAt_9 ?_
  refine jv_icmp_ge (tgt := 44) hx hb dX2_pieceAt_12 (by decide) (by omega) (by omega) (fun c12 => ?_) (fun c12 => ?_)
  · refine lv_iload_n hx hb dX2_pieceAt_44 rfl (lv_at hl 2 rfl) ?_
    exact pu_iret hx hb hr hlocks dX2_pieceAt_45 (by rw [cPiece, show i = sN S by omega])
  · have f1 := sOK_pl hok (i := i) (by omega)
    refine jv_bipush hx hb dX2_pieceAt_15 (by decide) ?_
    refine lv_iload_n hx hb dX2_pieceAt_17 rfl (lv_at hl 1 rfl) ?_
    refine jv_imul hx hb dX2_pieceAt_18 ?_
    refine lv_aload_n hx hb dX2_pieceAt_19 rfl (lv_at hl 0 rfl) ?_
    refine va_get (D := D) (ci := 2) (v := .int (jI (sS S))) (C := RX2) (T := TX2) (N := 3) hx hb hts (fun w h => List.mem_cons_of_mem _ (uw_X2 w h)) hown hK (j_P1 h1_S) 0 rfl rfl 1 (by decide) (hts _ (List.mem_cons_of_mem _ kw_72)) (fun _ h9 => h9) rfl dX2_pieceAt_20 ?_
    refine lv_aload_n hx hb dX2_pieceAt_23 rfl (lv_at hl 0 rfl) ?_
    refine va_get (D := D) (ci := 2) (v := .ref ac_S) (C := RX2) (T := TX2) (N := 3) hx hb hts (fun w h => List.mem_cons_of_mem _ (uw_X2 w h)) hown hK (j_P1 h1_S) 0 rfl rfl 0 (by decide) (hts _ (List.mem_cons_of_mem _ kw_71)) (fun _ h9 => h9) rfl dX2_pieceAt_24 ?_
    refine va_get (D := D) (ci := 0) (v := .ref ap_S) (C := RX0) (T := TX0) (N := 4) hx hb hts (fun w h => List.mem_cons_of_mem _ (uw_X0 w h)) hown hK (j_P1 h2_S) 0 rfl rfl 0 (by decide) (hts _ (List.mem_cons_of_mem _ kw_45)) (fun _ h9 => h9) rfl dX2_pieceAt_27 ?_
    refine lv_iload_n hx hb dX2_pieceAt_30 rfl (lv_at hl 3 rfl) ?_
    refine jv_iald (i := i) hx hb hK h3_S 0 rfl (by omega) (by omega) (by decide) dX2_pieceAt_31 ?_
    refine jv_imul hx hb dX2_pieceAt_32 ?_
    refine jv_icmp_lt (tgt := 38) hx hb dX2_pieceAt_33 (by decide) (by omega) (by omega) (fun c33 => ?_) (fun c33 => ?_)
    · refine lv_iinc (v := jI ((i : Int) + 1)) (lv' := [(3, .int (jI ((i : Int) + 1))), (0, .ref a), (1, .int (jI (I))), (2, .int (jI (cPc S I i)))]) hx hb dX2_pieceAt_38 hl (k := 3) rfl (jI_add _ _) (by decide) rfl (fun ls hl => ?_)
      refine lv_goto (tgt := 4) hx hb dX2_pieceAt_41 (by decide) ?_
      have e9 : cPc S I (i + 1) = cPc S I i := by simp only [cPc]; rw [if_neg (by omega)]
      exact ih (i + 1) ls ⟨by omega, by rw [e9]; exact lv_sub hl [1, 2, 3, 0] rfl⟩ (by omega)
    · refine lv_iload_n hx hb dX2_pieceAt_36 rfl (lv_at hl 3 rfl) ?_
      refine lv_istore_n (lv' := [(2, .int (jI ((i : Int)))), (0, .ref a), (1, .int (jI (I))), (3, .int (jI ((i : Int))))]) hx hb dX2_pieceAt_37 rfl hl (by decide) rfl (fun ls hl => ?_)
      refine lv_iinc (v := jI ((i : Int) + 1)) (lv' := [(3, .int (jI ((i : Int) + 1))), (2, .int (jI ((i : Int)))), (0, .ref a), (1, .int (jI (I)))]) hx hb dX2_pieceAt_38 hl (k := 3) rfl (jI_add _ _) (by decide) rfl (fun ls hl => ?_)
      refine lv_goto (tgt := 4) hx hb dX2_pieceAt_41 (by decide) ?_
      have e9 : cPc S I (i + 1) = (i : Int) := by simp only [cPc]; rw [if_pos (by omega)]
      exact ih (i + 1) ls ⟨by omega, by rw [e9]; exact lv_sub hl [2, 3, 1, 0] rfl⟩ (by omega)
set_option maxHeartbeats 4000000 in
set_option maxRecDepth 100000 in
theorem c_startBehind (l : Launch) (D : va_G) (g : Nat → ClassId) (a : Nat) (S : jSet) (I : Int) (hok : sOK S) (hI : 0 ≤ I ∧ I ≤ 5000) : Met l yX2_startBehind wsX2_startBehind ({ frames := 1, cells := 0, slots := 0, locals := 21 }) (pu_Pc [.ref a, .int (jI (I))] D vwCl (ty9 g) (fun H => sAt D g a S H)) (pu_Q (some (.int (jI (cStart S I))))) 0 0 (fun _ => False) := by
  refine Met.ofW (cc := cX2_startBehind) (maxL := 4) (ret := some .int) (by decide) rfl ?_
  intro p e s m args below meth c s₁ B hml hv
  obtain ⟨rfl, hPic, hK⟩ := hv
  have hx := B.exec
  have hb := B.bytes
  have hr := B.returns
  have hts := atoms_spec (ws := wsX2_startBehind) B.pre
  have hown : s.vm.findClass RX2 = some m.cls := findClass_of_methodNamed B.named
  have hlocks := B.notSynchronized
  obtain ⟨ac_S, ap_S, al_S, am_S, h1_S, h2_S, h3_S, h4_S, h5_S⟩ := id hPic
  have hn := hok.1
  have hl := lv_entry ([.ref a, .int (jI (I))]) (n := 4) (Nat.le_of_ble_eq_true rfl)
  rw [lg_entry_eq]
  generalize (lg_sl ([.ref a, .int (jI (I))]) ++ List.replicate (4 - (lg_sl ([.ref a, .int (jI (I))])).length) Slot.unset).toArray = ls at hl ⊢
  have hl : lv_has ls 4 [(0, .ref a), (1, .int (jI (I)))] := hl
  refine jv_iconst hx hb dX2_startBehind_0 ?_
  refine lv_istore_n (lv' := [(2, .int (jI (0))), (0, .ref a), (1, .int (jI (I)))]) hx hb dX2_startBehind_1 rfl hl (by decide) rfl (fun ls hl => ?_)
  refine jw_loop (X := Nat) (fun i => sN S - i) (fun i ls => (i ≤ sN S ∧ cStart S I = cSb S I (sN S - i) i) ∧ lv_has ls 4 [(0, .ref a), (1, .int (jI (I))), (2, .int (jI ((i : Int))))]) ?_ 0 ls ⟨⟨Nat.zero_le _, rfl⟩, lv_sub hl [1, 2, 0] rfl⟩
  intro i ls hinv ih
  obtain ⟨⟨hi, he⟩, hl⟩ := hinv
  refine lv_iload_n hx hb dX2_startBehind_2 rfl (lv_at hl 2 rfl) ?_
  refine lv_aload_n hx hb dX2_startBehind_3 rfl (lv_at hl 0 rfl) ?_
  refine va_get (D := D) (ci := 2) (v := .ref ac_S) (C := RX2) (T := TX2) (N := 3) hx hb hts (fun w h => List.mem_cons_of_mem _ (uw_X2 w h)) hown hK (j_P1 h1_S) 0 rfl rfl 0 (by decide) (hts _ (List.mem_cons_of_mem _ kw_71)) (fun _ h9 => h9) rfl dX2_startBehind_4 ?_
  refine va_get (D := D) (ci := 0) (v := .int (jI ((sN S : Int)))) (C := RX0) (T := TX0) (N := 4) hx hb hts (fun w h => List.mem_cons_of_mem _ (uw_X0 w h)) hown hK (j_P1 h2_S) 0 rfl rfl 3 (by decide) (hts _ (List.mem_cons_of_mem _ kw_52)) (fun _ h9 => h9) rfl dX2_startBehind_7 ?_
  refine jv_icmp_ge (tgt := 55) hx hb dX2_startBehind_10 (by decide) (by omega) (by omega) (fun c10 => ?_) (fun c10 => ?_)
  · refine jv_sipush hx hb dX2_startBehind_55 (by decide) ?_
    exact pu_iret hx hb hr hlocks dX2_startBehind_58 (by rw [he, show sN S - i = 0 by omega]; rfl)
  · have f1 := sOK_pl hok (i := i) (by omega)
    refine lv_aload_n hx hb dX2_startBehind_13 rfl (lv_at hl 0 rfl) ?_
    refine va_get (D := D) (ci := 2) (v := .int (jI (sS S))) (C := RX2) (T := TX2) (N := 3) hx hb hts (fun w h => List.mem_cons_of_mem _ (uw_X2 w h)) hown hK (j_P1 h1_S) 0 rfl rfl 1 (by decide) (hts _ (List.mem_cons_of_mem _ kw_72)) (fun _ h9 => h9) rfl dX2_startBehind_14 ?_
    refine lv_aload_n hx hb dX2_startBehind_17 rfl (lv_at hl 0 rfl) ?_
    refine va_get (D := D) (ci := 2) (v := .ref ac_S) (C := RX2) (T := TX2) (N := 3) hx hb hts (fun w h => List.mem_cons_of_mem _ (uw_X2 w h)) hown hK (j_P1 h1_S) 0 rfl rfl 0 (by decide) (hts _ (List.mem_cons_of_mem _ kw_71)) (fun _ h9 => h9) rfl dX2_startBehind_18 ?_
    refine va_get (D := D) (ci := 0) (v := .ref ap_S) (C := RX0) (T := TX0) (N := 4) hx hb hts (fun w h => List.mem_cons_of_mem _ (uw_X0 w h)) hown hK (j_P1 h2_S) 0 rfl rfl 0 (by decide) (hts _ (List.mem_cons_of_mem _ kw_45)) (fun _ h9 => h9) rfl dX2_startBehind_21 ?_
    refine lv_iload_n hx hb dX2_startBehind_24 rfl (lv_at hl 2 rfl) ?_
    refine jv_iald (i := i) hx hb hK h3_S 0 rfl (by omega) (by omega) (by decide) dX2_startBehind_25 ?_
    refine jv_imul hx hb dX2_startBehind_26 ?_
    refine jv_bipush hx hb dX2_startBehind_27 (by decide) ?_
    refine jv_iadd hx hb dX2_startBehind_29 ?_
    refine jv_iconst hx hb dX2_startBehind_30 ?_
    refine jv_isub hx hb dX2_startBehind_31 ?_
    refine jv_bipush hx hb dX2_startBehind_32 (by decide) ?_
    refine jv_idiv hx hb dX2_startBehind_34 (by omega) (by omega) ?_
    refine lv_istore_n (lv' := [(3, .int (jI (((((sS S) * (sP S i)) + 100) - 1) / 100))), (0, .ref a), (1, .int (jI (I))), (2, .int (jI ((i : Int))))]) hx hb dX2_startBehind_35 rfl hl (by decide) rfl (fun ls hl => ?_)
    refine lv_iload_n hx hb dX2_startBehind_36 rfl (lv_at hl 0 rfl) ?_
    refine lv_iload_n hx hb dX2_startBehind_37 rfl (lv_at hl 2 rfl) ?_
    refine jv_icmp_le (tgt := 49) hx hb dX2_startBehind_38 (by decide) (by omega) (by omega) (fun c38 => ?_) (fun c38 => ?_)
    · refine lv_iinc (v := jI ((i : Int) + 1)) (lv' := [(2, .int (jI ((i : Int) + 1))), (3, .int (jI (((((sS S) * (sP S i)) + 100) - 1) / 100))), (0, .ref a), (1, .int (jI (I)))]) hx hb dX2_startBehind_49 hl (k := 3) rfl (jI_add _ _) (by decide) rfl (fun ls hl => ?_)
      refine lv_goto (tgt := 2) hx hb dX2_startBehind_52 (by decide) ?_
      exact ih (i + 1) ls ⟨⟨by omega, by rw [he, show sN S - i = (sN S - (i + 1)) + 1 by omega]; simp only [cSb]; rw [if_neg (by unfold cSt; omega)]⟩, lv_sub hl [2, 3, 0] rfl⟩ (by omega)
    · refine lv_iload_n hx hb dX2_startBehind_41 rfl (lv_at hl 0 rfl) ?_
      refine jv_sipush hx hb dX2_startBehind_42 (by decide) ?_
      refine va_mmin hx hb (hml.trans hl.1.symm) hown (hts _ (List.mem_cons_of_mem _ kw_298)) (hts _ (List.mem_cons_of_mem _ kw_299)) (hts _ (List.mem_cons_of_mem _ kw_22)) (hts _ (List.mem_cons_of_mem _ kw_300)) (Nat.le_of_ble_eq_true rfl) (Nat.le_of_ble_eq_true rfl) (Nat.zero_le _) (Nat.zero_le _) dX2_startBehind_45 ?_
      rw [jI_min (by omega) (by omega)]
      exact pu_iret hx hb hr hlocks dX2_startBehind_48 (by rw [he, show sN S - i = (sN S - (i + 1)) + 1 by omega]; simp only [cSb]; rw [if_pos (by unfold cSt; omega)]; rfl)
set_option maxHeartbeats 4000000 in
set_option maxRecDepth 100000 in
theorem c_partsOn (l : Launch) (D : va_G) (g : Nat → ClassId) (a : Nat) (S : jSet) (q : Int) (hok : sOK S) (hq : -1 ≤ q ∧ q < sN S) : Met l yX2_partsOn wsX2_partsOn ({ frames := 0, cells := 0, slots := 0, locals := 0 }) (pu_Pc [.ref a, .int (jI (q))] D vwCl (ty9 g) (fun H => sAt D g a S H)) (pu_Q (some (.long (jL (cParts S q))))) 0 0 (fun _ => False) := by
  refine Met.ofW (cc := cX2_partsOn) (maxL := 2) (ret := some .long) (by decide) rfl ?_
  intro p e s m args below meth c s₁ B hml hv
  obtain ⟨rfl, hPic, hK⟩ := hv
  have hx := B.exec
  have hb := B.bytes
  have hr := B.returns
  have hts := atoms_spec (ws := wsX2_partsOn) B.pre
  have hown : s.vm.findClass RX2 = some m.cls := findClass_of_methodNamed B.named
  have hlocks := B.notSynchronized
  obtain ⟨ac_S, ap_S, al_S, am_S, h1_S, h2_S, h3_S, h4_S, h5_S⟩ := id hPic
  have hn := hok.1
  have hs := hok.2.2.2.2.1
  have hl := lv_entry ([.ref a, .int (jI (q))]) (n := 2) (Nat.le_of_ble_eq_true rfl)
  rw [lg_entry_eq]
  generalize (lg_sl ([.ref a, .int (jI (q))]) ++ List.replicate (2 - (lg_sl ([.ref a, .int (jI (q))])).length) Slot.unset).toArray = ls at hl ⊢
  have hl : lv_has ls 2 [(0, .ref a), (1, .int (jI (q)))] := hl
  refine lv_iload_n hx hb dX2_partsOn_0 rfl (lv_at hl 1 rfl) ?_
  refine jv_if_lt (tgt := 17) hx hb dX2_partsOn_1 (by decide) (by omega) (fun c1 => ?_) (fun c1 => ?_)
  · refine jv_lconst (k := 1) hx hb dX2_partsOn_17 (by decide) ?_
    exact pu_lret hx hb hr hlocks dX2_partsOn_18 (by rw [cParts, if_pos (by omega)])
  · refine lv_iload_n hx hb dX2_partsOn_4 rfl (lv_at hl 1 rfl) ?_
    refine jv_iconst hx hb dX2_partsOn_5 ?_
    refine jv_iadd hx hb dX2_partsOn_6 ?_
    refine lv_aload_n hx hb dX2_partsOn_7 rfl (lv_at hl 0 rfl) ?_
    refine va_get (D := D) (ci := 2) (v := .ref ac_S) (C := RX2) (T := TX2) (N := 3) hx hb hts (fun w h => List.mem_cons_of_mem _ (uw_X2 w h)) hown hK (j_P1 h1_S) 0 rfl rfl 0 (by decide) (hts _ (List.mem_cons_of_mem _ kw_71)) (fun _ h9 => h9) rfl dX2_partsOn_8 ?_
    refine va_get (D := D) (ci := 0) (v := .int (jI ((sN S : Int)))) (C := RX0) (T := TX0) (N := 4) hx hb hts (fun w h => List.mem_cons_of_mem _ (uw_X0 w h)) hown hK (j_P1 h2_S) 0 rfl rfl 3 (by decide) (hts _ (List.mem_cons_of_mem _ kw_52)) (fun _ h9 => h9) rfl dX2_partsOn_11 ?_
    refine jv_icmp_lt (tgt := 19) hx hb dX2_partsOn_14 (by decide) (by omega) (by omega) (fun c14 => ?_) (fun c14 => ?_)
    · have f1 := hok.2.1 q.toNat (by omega)
      have f2 := hok.2.1 (q.toNat + 1) (by omega)
      refine lv_aload_n hx hb dX2_partsOn_19 rfl (lv_at hl 0 rfl) ?_
      refine va_get (D := D) (ci := 2) (v := .int (jI (sS S))) (C := RX2) (T := TX2) (N := 3) hx hb hts (fun w h => List.mem_cons_of_mem _ (uw_X2 w h)) hown hK (j_P1 h1_S) 0 rfl rfl 1 (by decide) (hts _ (List.mem_cons_of_mem _ kw_72)) (fun _ h9 => h9) rfl dX2_partsOn_20 ?_
      refine jv_i2l hx hb dX2_partsOn_23 (by omega) ?_
      refine lv_aload_n hx hb dX2_partsOn_24 rfl (lv_at hl 0 rfl) ?_
      refine va_get (D := D) (ci := 2) (v := .ref ac_S) (C := RX2) (T := TX2) (N := 3) hx hb hts (fun w h => List.mem_cons_of_mem _ (uw_X2 w h)) hown hK (j_P1 h1_S) 0 rfl rfl 0 (by decide) (hts _ (List.mem_cons_of_mem _ kw_71)) (fun _ h9 => h9) rfl dX2_partsOn_25 ?_
      refine va_get (D := D) (ci := 0) (v := .ref ap_S) (C := RX0) (T := TX0) (N := 4) hx hb hts (fun w h => List.mem_cons_of_mem _ (uw_X0 w h)) hown hK (j_P1 h2_S) 0 rfl rfl 0 (by decide) (hts _ (List.mem_cons_of_mem _ kw_45)) (fun _ h9 => h9) rfl dX2_partsOn_28 ?_
      refine lv_iload_n hx hb dX2_partsOn_31 rfl (lv_at hl 1 rfl) ?_
      refine jv_iconst hx hb dX2_partsOn_32 ?_
      refine jv_iadd hx hb dX2_partsOn_33 ?_
      refine jv_iald (i := (q.toNat + 1)) hx hb hK h3_S 0 rfl (by omega) (by omega) (by decide) dX2_partsOn_34 ?_
      refine lv_aload_n hx hb dX2_partsOn_35 rfl (lv_at hl 0 rfl) ?_
      refine va_get (D := D) (ci := 2) (v := .ref ac_S) (C := RX2) (T := TX2) (N := 3) hx hb hts (fun w h => List.mem_cons_of_mem _ (uw_X2 w h)) hown hK (j_P1 h1_S) 0 rfl rfl 0 (by decide) (hts _ (List.mem_cons_of_mem _ kw_71)) (fun _ h9 => h9) rfl dX2_partsOn_36 ?_
      refine va_get (D := D) (ci := 0) (v := .ref ap_S) (C := RX0) (T := TX0) (N := 4) hx hb hts (fun w h => List.mem_cons_of_mem _ (uw_X0 w h)) hown hK (j_P1 h2_S) 0 rfl rfl 0 (by decide) (hts _ (List.mem_cons_of_mem _ kw_45)) (fun _ h9 => h9) rfl dX2_partsOn_39 ?_
      refine lv_iload_n hx hb dX2_partsOn_42 rfl (lv_at hl 1 rfl) ?_
      refine jv_iald (i := q.toNat) hx hb hK h3_S 0 rfl (by omega) (by omega) (by decide) dX2_partsOn_43 ?_
      refine jv_isub hx hb dX2_partsOn_44 ?_
      refine jv_i2l hx hb dX2_partsOn_45 (by omega) ?_
      refine jv_lmul hx hb dX2_partsOn_46 ?_
      exact pu_lret hx hb hr hlocks dX2_partsOn_47 (by rw [cParts, if_neg (by omega)])
    · refine jv_lconst (k := 1) hx hb dX2_partsOn_17 (by decide) ?_
      exact pu_lret hx hb hr hlocks dX2_partsOn_18 (by rw [cParts, if_pos (by omega)])
set_option maxHeartbeats 4000000 in
set_option maxRecDepth 100000 in
theorem c_timeInParts (l : Launch) (D : va_G) (g : Nat → ClassId) (a : Nat) (S : jSet) (q r I : Int) (mo : Bool) (hok : sOK S) (hq : 0 ≤ q ∧ q < sN S) (hI : 0 ≤ I ∧ I ≤ 5000) : Met l yX2_timeInParts wsX2_timeInParts ({ frames := 0, cells := 0, slots := 0, locals := 0 }) (pu_Pc [.ref a, .int (jI (q)), .long (jL (r)), .int (jI (I)), .int (jI (bI mo))] D vwCl (ty9 g) (fun H => sAt D g a S H)) (pu_Q (some (.long (jL (cTime S mo q r I))))) 0 0 (fun _ => False) := by
  refine Met.ofW (cc := cX2_timeInParts) (maxL := 11) (ret := some .long) (by decide) rfl ?_
  intro p e s m args below meth c s₁ B hml hv
  obtain ⟨rfl, hPic, hK⟩ := hv
  have hx := B.exec
  have hb := B.bytes
  have hr := B.returns
  have hts := atoms_spec (ws := wsX2_timeInParts) B.pre
  have hown : s.vm.findClass RX2 = some m.cls := findClass_of_methodNamed B.named
  have hlocks := B.notSynchronized
  obtain ⟨ac_S, ap_S, al_S, am_S, h1_S, h2_S, h3_S, h4_S, h5_S⟩ := id hPic
  have hn := hok.1
  have hs := hok.2.2.2.2.1
  have hd := hok.2.2.2.2.2
  have f1 := hok.2.2.1 q.toNat mo (by omega)
  have f3 := sOK_pl hok (i := q.toNat) (by omega)
  have hl := lv_entry ([.ref a, .int (jI (q)), .long (jL (r)), .int (jI (I)), .int (jI (bI mo))]) (n := 11) (Nat.le_of_ble_eq_true rfl)
  rw [lg_entry_eq]
  generalize (lg_sl ([.ref a, .int (jI (q)), .long (jL (r)), .int (jI (I)), .int (jI (bI mo))]) ++ List.replicate (11 - (lg_sl ([.ref a, .int (jI (q)), .long (jL (r)), .int (jI (I)), .int (jI (bI mo))])).length) Slot.unset).toArray = ls at hl ⊢
  have hl : lv_has ls 11 [(0, .ref a), (1, .int (jI (q))), (2, .long (jL (r))), (4, .int (jI (I))), (5, .int (jI (bI mo)))] := hl
  cases mo
  · refine lv_iload hx hb dX2_timeInParts_0 (lv_at hl 4 rfl) ?_
    refine jv_if_eq (tgt := 15) hx hb dX2_timeInParts_2 (by decide) (by decide) (fun c2 => ?_) (fun c2 => ?_)
    · refine lv_aload_n hx hb dX2_timeInParts_15 rfl (lv_at hl 0 rfl) ?_
      refine va_get (D := D) (ci := 2) (v := .ref ac_S) (C := RX2) (T := TX2) (N := 3) hx hb hts (fun w h => List.mem_cons_of_mem _ (uw_X2 w h)) hown hK (j_P1 h1_S) 0 rfl rfl 0 (by decide) (hts _ (List.mem_cons_of_mem _ kw_71)) (fun _ h9 => h9) rfl dX2_timeInParts_16 ?_
      refine va_get (D := D) (ci := 0) (v := .ref al_S) (C := RX0) (T := TX0) (N := 4) hx hb hts (fun w h => List.mem_cons_of_mem _ (uw_X0 w h)) hown hK (j_P1 h2_S) 0 rfl rfl 1 (by decide) (hts _ (List.mem_cons_of_mem _ kw_48)) (fun _ h9 => h9) rfl dX2_timeInParts_19 ?_
      refine lv_astore (lv' := [(6, .ref al_S), (0, .ref a), (1, .int (jI (q))), (2, .long (jL (r))), (4, .int (jI (I))), (5, .int (jI (bI false)))]) hx hb dX2_timeInParts_22 hl (by decide) rfl (fun ls hl => ?_)
      refine lv_aload hx hb dX2_timeInParts_24 (lv_at hl 0 rfl) ?_
      refine lv_iload_n hx hb dX2_timeInParts_26 rfl (lv_at hl 2 rfl) ?_
      refine jv_iald (i := q.toNat) hx hb hK h4_S 0 rfl (by omega) (by omega) (by decide) dX2_timeInParts_27 ?_
      refine lv_aload_n hx hb dX2_timeInParts_28 rfl (lv_at hl 1 rfl) ?_
      refine va_get (D := D) (ci := 2) (v := .int (jI (sD S))) (C := RX2) (T := TX2) (N := 3) hx hb hts (fun w h => List.mem_cons_of_mem _ (uw_X2 w h)) hown hK (j_P1 h1_S) 0 rfl rfl 2 (by decide) (hts _ (List.mem_cons_of_mem _ kw_74)) (fun _ h9 => h9) rfl dX2_timeInParts_29 ?_
      refine jv_iadd hx hb dX2_timeInParts_32 ?_
      refine jv_i2l hx hb dX2_timeInParts_33 (by omega) ?_
      refine lv_lload_n hx hb dX2_timeInParts_34 rfl (lv_at hl 3 rfl) ?_
      refine jv_lmul hx hb dX2_timeInParts_35 ?_
      refine lv_lstore (lv' := [(7, .long (jL (((sT S false q.toNat) + (sD S)) * r))), (6, .ref al_S), (0, .ref a), (1, .int (jI (q))), (2, .long (jL (r))), (4, .int (jI (I))), (5, .int (jI (bI false)))]) hx hb dX2_timeInParts_36 hl (by decide) rfl (fun ls hl => ?_)
      refine lv_iload_n hx hb dX2_timeInParts_38 rfl (lv_at hl 3 rfl) ?_
      refine jv_iconst hx hb dX2_timeInParts_39 ?_
      refine jv_iadd hx hb dX2_timeInParts_40 ?_
      refine lv_aload_n hx hb dX2_timeInParts_41 rfl (lv_at hl 2 rfl) ?_
      refine va_get (D := D) (ci := 2) (v := .ref ac_S) (C := RX2) (T := TX2) (N := 3) hx hb hts (fun w h => List.mem_cons_of_mem _ (uw_X2 w h)) hown hK (j_P1 h1_S) 0 rfl rfl 0 (by decide) (hts _ (List.mem_cons_of_mem _ kw_71)) (fun _ h9 => h9) rfl dX2_timeInParts_42 ?_
      refine va_get (D := D) (ci := 0) (v := .int (jI ((sN S : Int)))) (C := RX0) (T := TX0) (N := 4) hx hb hts (fun w h => List.mem_cons_of_mem _ (uw_X0 w h)) hown hK (j_P1 h2_S) 0 rfl rfl 3 (by decide) (hts _ (List.mem_cons_of_mem _ kw_52)) (fun _ h9 => h9) rfl dX2_timeInParts_45 ?_
      refine jv_icmp_lt (tgt := 54) hx hb dX2_timeInParts_48 (by decide) (by omega) (by omega) (fun c48 => ?_) (fun c48 => ?_)
      · have f4 := hok.2.2.1 (q.toNat + 1) false (by omega)
        refine lv_aload hx hb dX2_timeInParts_54 (lv_at hl 1 rfl) ?_
        refine lv_iload_n hx hb dX2_timeInParts_56 rfl (lv_at hl 3 rfl) ?_
        refine jv_iconst hx hb dX2_timeInParts_57 ?_
        refine jv_iadd hx hb dX2_timeInParts_58 ?_
        refine jv_iald (i := (q.toNat + 1)) hx hb hK h4_S 0 rfl (by omega) (by omega) (by decide) dX2_timeInParts_59 ?_
        refine lv_aload hx hb dX2_timeInParts_60 (lv_at hl 1 rfl) ?_
        refine lv_iload_n hx hb dX2_timeInParts_62 rfl (lv_at hl 3 rfl) ?_
        refine jv_iald (i := q.toNat) hx hb hK h4_S 0 rfl (by omega) (by omega) (by decide) dX2_timeInParts_63 ?_
        refine jv_isub hx hb dX2_timeInParts_64 ?_
        refine jv_i2l hx hb dX2_timeInParts_65 (by omega) ?_
        refine lv_lstore (lv' := [(9, .long (jL ((sT S false (q.toNat + 1)) - (sT S false q.toNat)))), (7, .long (jL (((sT S false q.toNat) + (sD S)) * r))), (6, .ref al_S), (0, .ref a), (1, .int (jI (q))), (2, .long (jL (r))), (4, .int (jI (I))), (5, .int (jI (bI false)))]) hx hb dX2_timeInParts_66 hl (by decide) rfl (fun ls hl => ?_)
        refine lv_lload hx hb dX2_timeInParts_68 (lv_at hl 1 rfl) ?_
        refine lv_lload hx hb dX2_timeInParts_70 (lv_at hl 0 rfl) ?_
        refine jv_bipush hx hb dX2_timeInParts_72 (by decide) ?_
        refine lv_iload hx hb dX2_timeInParts_74 (lv_at hl 6 rfl) ?_
        refine jv_imul hx hb dX2_timeInParts_76 ?_
        refine lv_aload_n hx hb dX2_timeInParts_77 rfl (lv_at hl 3 rfl) ?_
        refine va_get (D := D) (ci := 2) (v := .int (jI (sS S))) (C := RX2) (T := TX2) (N := 3) hx hb hts (fun w h => List.mem_cons_of_mem _ (uw_X2 w h)) hown hK (j_P1 h1_S) 0 rfl rfl 1 (by decide) (hts _ (List.mem_cons_of_mem _ kw_72)) (fun _ h9 => h9) rfl dX2_timeInParts_78 ?_
        refine lv_aload_n hx hb dX2_timeInParts_81 rfl (lv_at hl 3 rfl) ?_
        refine va_get (D := D) (ci := 2) (v := .ref ac_S) (C := RX2) (T := TX2) (N := 3) hx hb hts (fun w h => List.mem_cons_of_mem _ (uw_X2 w h)) hown hK (j_P1 h1_S) 0 rfl rfl 0 (by decide) (hts _ (List.mem_cons_of_mem _ kw_71)) (fun _ h9 => h9) rfl dX2_timeInParts_82 ?_
        refine va_get (D := D) (ci := 0) (v := .ref ap_S) (C := RX0) (T := TX0) (N := 4) hx hb hts (fun w h => List.mem_cons_of_mem _ (uw_X0 w h)) hown hK (j_P1 h2_S) 0 rfl rfl 0 (by decide) (hts _ (List.mem_cons_of_mem _ kw_45)) (fun _ h9 => h9) rfl dX2_timeInParts_85 ?_
        refine lv_iload_n hx hb dX2_timeInParts_88 rfl (lv_at hl 4 rfl) ?_
        refine jv_iald (i := q.toNat) hx hb hK h3_S 0 rfl (by omega) (by omega) (by decide) dX2_timeInParts_89 ?_
        refine jv_imul hx hb dX2_timeInParts_90 ?_
        refine jv_isub hx hb dX2_timeInParts_91 ?_
        refine jv_i2l hx hb dX2_timeInParts_92 (by omega) ?_
        refine jv_lmul hx hb dX2_timeInParts_93 ?_
        refine jv_ladd hx hb dX2_timeInParts_94 ?_
        exact pu_lret hx hb hr hlocks dX2_timeInParts_95 (by rw [cTime, if_neg (by omega)])
      · refine lv_lload hx hb dX2_timeInParts_51 (lv_at hl 0 rfl) ?_
        exact pu_lret hx hb hr hlocks dX2_timeInParts_53 (by rw [cTime, if_pos (by omega)])
    · exact absurd c2 (by decide)
  · refine lv_iload hx hb dX2_timeInParts_0 (lv_at hl 4 rfl) ?_
    refine jv_if_eq (tgt := 15) hx hb dX2_timeInParts_2 (by decide) (by decide) (fun c2 => ?_) (fun c2 => ?_)
    · exact absurd c2 (by decide)
    · refine lv_aload_n hx hb dX2_timeInParts_5 rfl (lv_at hl 0 rfl) ?_
      refine va_get (D := D) (ci := 2) (v := .ref ac_S) (C := RX2) (T := TX2) (N := 3) hx hb hts (fun w h => List.mem_cons_of_mem _ (uw_X2 w h)) hown hK (j_P1 h1_S) 0 rfl rfl 0 (by decide) (hts _ (List.mem_cons_of_mem _ kw_71)) (fun _ h9 => h9) rfl dX2_timeInParts_6 ?_
      refine va_get (D := D) (ci := 0) (v := .ref am_S) (C := RX0) (T := TX0) (N := 4) hx hb hts (fun w h => List.mem_cons_of_mem _ (uw_X0 w h)) hown hK (j_P1 h2_S) 0 rfl rfl 2 (by decide) (hts _ (List.mem_cons_of_mem _ kw_50)) (fun _ h9 => h9) rfl dX2_timeInParts_9 ?_
      refine lv_goto (tgt := 22) hx hb dX2_timeInParts_12 (by decide) ?_
      refine lv_astore (lv' := [(6, .ref am_S), (0, .ref a), (1, .int (jI (q))), (2, .long (jL (r))), (4, .int (jI (I))), (5, .int (jI (bI true)))]) hx hb dX2_timeInParts_22 hl (by decide) rfl (fun ls hl => ?_)
      refine lv_aload hx hb dX2_timeInParts_24 (lv_at hl 0 rfl) ?_
      refine lv_iload_n hx hb dX2_timeInParts_26 rfl (lv_at hl 2 rfl) ?_
      refine jv_iald (i := q.toNat) hx hb hK h5_S 0 rfl (by omega) (by omega) (by decide) dX2_timeInParts_27 ?_
      refine lv_aload_n hx hb dX2_timeInParts_28 rfl (lv_at hl 1 rfl) ?_
      refine va_get (D := D) (ci := 2) (v := .int (jI (sD S))) (C := RX2) (T := TX2) (N := 3) hx hb hts (fun w h => List.mem_cons_of_mem _ (uw_X2 w h)) hown hK (j_P1 h1_S) 0 rfl rfl 2 (by decide) (hts _ (List.mem_cons_of_mem _ kw_74)) (fun _ h9 => h9) rfl dX2_timeInParts_29 ?_
      refine jv_iadd hx hb dX2_timeInParts_32 ?_
      refine jv_i2l hx hb dX2_timeInParts_33 (by omega) ?_
      refine lv_lload_n hx hb dX2_timeInParts_34 rfl (lv_at hl 3 rfl) ?_
      refine jv_lmul hx hb dX2_timeInParts_35 ?_
      refine lv_lstore (lv' := [(7, .long (jL (((sT S true q.toNat) + (sD S)) * r))), (6, .ref am_S), (0, .ref a), (1, .int (jI (q))), (2, .long (jL (r))), (4, .int (jI (I))), (5, .int (jI (bI true)))]) hx hb dX2_timeInParts_36 hl (by decide) rfl (fun ls hl => ?_)
      refine lv_iload_n hx hb dX2_timeInParts_38 rfl (lv_at hl 3 rfl) ?_
      refine jv_iconst hx hb dX2_timeInParts_39 ?_
      refine jv_iadd hx hb dX2_timeInParts_40 ?_
      refine lv_aload_n hx hb dX2_timeInParts_41 rfl (lv_at hl 2 rfl) ?_
      refine va_get (D := D) (ci := 2) (v := .ref ac_S) (C := RX2) (T := TX2) (N := 3) hx hb hts (fun w h => List.mem_cons_of_mem _ (uw_X2 w h)) hown hK (j_P1 h1_S) 0 rfl rfl 0 (by decide) (hts _ (List.mem_cons_of_mem _ kw_71)) (fun _ h9 => h9) rfl dX2_timeInParts_42 ?_
      refine va_get (D := D) (ci := 0) (v := .int (jI ((sN S : Int)))) (C := RX0) (T := TX0) (N := 4) hx hb hts (fun w h => List.mem_cons_of_mem _ (uw_X0 w h)) hown hK (j_P1 h2_S) 0 rfl rfl 3 (by decide) (hts _ (List.mem_cons_of_mem _ kw_52)) (fun _ h9 => h9) rfl dX2_timeInParts_45 ?_
      refine jv_icmp_lt (tgt := 54) hx hb dX2_timeInParts_48 (by decide) (by omega) (by omega) (fun c48 => ?_) (fun c48 => ?_)
      · have f4 := hok.2.2.1 (q.toNat + 1) true (by omega)
        refine lv_aload hx hb dX2_timeInParts_54 (lv_at hl 1 rfl) ?_
        refine lv_iload_n hx hb dX2_timeInParts_56 rfl (lv_at hl 3 rfl) ?_
        refine jv_iconst hx hb dX2_timeInParts_57 ?_
        refine jv_iadd hx hb dX2_timeInParts_58 ?_
        refine jv_iald (i := (q.toNat + 1)) hx hb hK h5_S 0 rfl (by omega) (by omega) (by decide) dX2_timeInParts_59 ?_
        refine lv_aload hx hb dX2_timeInParts_60 (lv_at hl 1 rfl) ?_
        refine lv_iload_n hx hb dX2_timeInParts_62 rfl (lv_at hl 3 rfl) ?_
        refine jv_iald (i := q.toNat) hx hb hK h5_S 0 rfl (by omega) (by omega) (by decide) dX2_timeInParts_63 ?_
        refine jv_isub hx hb dX2_timeInParts_64 ?_
        refine jv_i2l hx hb dX2_timeInParts_65 (by omega) ?_
        refine lv_lstore (lv' := [(9, .long (jL ((sT S true (q.toNat + 1)) - (sT S true q.toNat)))), (7, .long (jL (((sT S true q.toNat) + (sD S)) * r))), (6, .ref am_S), (0, .ref a), (1, .int (jI (q))), (2, .long (jL (r))), (4, .int (jI (I))), (5, .int (jI (bI true)))]) hx hb dX2_timeInParts_66 hl (by decide) rfl (fun ls hl => ?_)
        refine lv_lload hx hb dX2_timeInParts_68 (lv_at hl 1 rfl) ?_
        refine lv_lload hx hb dX2_timeInParts_70 (lv_at hl 0 rfl) ?_
        refine jv_bipush hx hb dX2_timeInParts_72 (by decide) ?_
        refine lv_iload hx hb dX2_timeInParts_74 (lv_at hl 6 rfl) ?_
        refine jv_imul hx hb dX2_timeInParts_76 ?_
        refine lv_aload_n hx hb dX2_timeInParts_77 rfl (lv_at hl 3 rfl) ?_
        refine va_get (D := D) (ci := 2) (v := .int (jI (sS S))) (C := RX2) (T := TX2) (N := 3) hx hb hts (fun w h => List.mem_cons_of_mem _ (uw_X2 w h)) hown hK (j_P1 h1_S) 0 rfl rfl 1 (by decide) (hts _ (List.mem_cons_of_mem _ kw_72)) (fun _ h9 => h9) rfl dX2_timeInParts_78 ?_
        refine lv_aload_n hx hb dX2_timeInParts_81 rfl (lv_at hl 3 rfl) ?_
        refine va_get (D := D) (ci := 2) (v := .ref ac_S) (C := RX2) (T := TX2) (N := 3) hx hb hts (fun w h => List.mem_cons_of_mem _ (uw_X2 w h)) hown hK (j_P1 h1_S) 0 rfl rfl 0 (by decide) (hts _ (List.mem_cons_of_mem _ kw_71)) (fun _ h9 => h9) rfl dX2_timeInParts_82 ?_
        refine va_get (D := D) (ci := 0) (v := .ref ap_S) (C := RX0) (T := TX0) (N := 4) hx hb hts (fun w h => List.mem_cons_of_mem _ (uw_X0 w h)) hown hK (j_P1 h2_S) 0 rfl rfl 0 (by decide) (hts _ (List.mem_cons_of_mem _ kw_45)) (fun _ h9 => h9) rfl dX2_timeInParts_85 ?_
        refine lv_iload_n hx hb dX2_timeInParts_88 rfl (lv_at hl 4 rfl) ?_
        refine jv_iald (i := q.toNat) hx hb hK h3_S 0 rfl (by omega) (by omega) (by decide) dX2_timeInParts_89 ?_
        refine jv_imul hx hb dX2_timeInParts_90 ?_
        refine jv_isub hx hb dX2_timeInParts_91 ?_
        refine jv_i2l hx hb dX2_timeInParts_92 (by omega) ?_
        refine jv_lmul hx hb dX2_timeInParts_93 ?_
        refine jv_ladd hx hb dX2_timeInParts_94 ?_
        exact pu_lret hx hb hr hlocks dX2_timeInParts_95 (by rw [cTime, if_neg (by omega)])
      · refine lv_lload hx hb dX2_timeInParts_51 (lv_at hl 0 rfl) ?_
        exact pu_lret hx hb hr hlocks dX2_timeInParts_53 (by rw [cTime, if_pos (by omega)])
set_option maxHeartbeats 4000000 in
set_option maxRecDepth 100000 in
theorem c_wholeTime (l : Launch) (D : va_G) (g : Nat → ClassId) (a : Nat) (S : jSet) (q I : Int) (mo : Bool) (hok : sOK S) (hq : 0 ≤ q) (hp : cPiece S I = q) (hI : 0 ≤ I ∧ I ≤ 5000) : Met l yX2_wholeTime wsX2_wholeTime ({ frames := 1, cells := 0, slots := 0, locals := 30 }) (pu_Pc [.ref a, .int (jI (q)), .int (jI (I)), .int (jI (bI mo))] D vwCl (ty9 g) (fun H => sAt D g a S H)) (pu_Q (some (.int (jI (cWhole S q I mo))))) 0 0 (fun _ => False) := by
  refine Met.ofW (cc := cX2_wholeTime) (maxL := 6) (ret := some .int) (by decide) rfl ?_
  intro p e s m args below meth c s₁ B hml hv
  obtain ⟨rfl, hPic, hK⟩ := hv
  have hx := B.exec
  have hb := B.bytes
  have hr := B.returns
  have hts := atoms_spec (ws := wsX2_wholeTime) B.pre
  have hown : s.vm.findClass RX2 = some m.cls := findClass_of_methodNamed B.named
  have hlocks := B.notSynchronized
  obtain ⟨ac_S, ap_S, al_S, am_S, h1_S, h2_S, h3_S, h4_S, h5_S⟩ := id hPic
  have hq2 := cPiece_range S I
  have f1 := cParts_range hok (q := q) (by omega)
  have f2 := cTime_range hok mo (I := I) (k := q.toNat) (by omega)
  rw [show ((q.toNat : Nat) : Int) = q by omega] at f2
  have hl := lv_entry ([.ref a, .int (jI (q)), .int (jI (I)), .int (jI (bI mo))]) (n := 6) (Nat.le_of_ble_eq_true rfl)
  rw [lg_entry_eq]
  generalize (lg_sl ([.ref a, .int (jI (q)), .int (jI (I)), .int (jI (bI mo))]) ++ List.replicate (6 - (lg_sl ([.ref a, .int (jI (q)), .int (jI (I)), .int (jI (bI mo))])).length) Slot.unset).toArray = ls at hl ⊢
  have hl : lv_has ls 6 [(0, .ref a), (1, .int (jI (q))), (2, .int (jI (I))), (3, .int (jI (bI mo)))] := hl
  refine lv_aload_n hx hb dX2_wholeTime_0 rfl (lv_at hl 0 rfl) ?_
  refine lv_iload_n hx hb dX2_wholeTime_1 rfl (lv_at hl 1 rfl) ?_
  refine pu_call1 (va_runV (As := [.int (jI (q))]) (rest := []) ⟨hx, hb, hml, hown, hts⟩ (c_partsOn l D g a S q hok (by omega)) (cwV 1 hts (gd_V kw_279 kw_280 kw_281 kw_15 kcX2_partsOn) rfl rfl rfl (by decide +kernel) ⟨Nat.le_of_ble_eq_true rfl, Nat.le_of_ble_eq_true rfl⟩) (pu_preV hPic hK rfl h1_S) rfl rfl hl.1 rfl (lv_room (Nat.le_of_ble_eq_true rfl)) dX2_wholeTime_2 ⟨Nat.zero_le _, Nat.zero_le _⟩) ?_
  refine lv_lstore (lv' := [(4, .long (jL (cParts S q))), (0, .ref a), (1, .int (jI (q))), (2, .int (jI (I))), (3, .int (jI (bI mo)))]) hx hb dX2_wholeTime_5 hl (by decide) rfl (fun ls hl => ?_)
  refine lv_lload hx hb dX2_wholeTime_7 (lv_at hl 0 rfl) ?_
  refine jv_lconst (k := 1) hx hb dX2_wholeTime_9 (by decide) ?_
  refine jv_lcmp_ge (tgt := 18) hx hb dX2_wholeTime_10 dX2_wholeTime_11 (by decide) (by omega) (by omega) (fun c10 => ?_) (fun c10 => ?_)
  · refine lv_aload_n hx hb dX2_wholeTime_18 rfl (lv_at hl 1 rfl) ?_
    refine lv_iload_n hx hb dX2_wholeTime_19 rfl (lv_at hl 2 rfl) ?_
    refine lv_lload hx hb dX2_wholeTime_20 (lv_at hl 0 rfl) ?_
    refine lv_iload_n hx hb dX2_wholeTime_22 rfl (lv_at hl 3 rfl) ?_
    refine lv_iload_n hx hb dX2_wholeTime_23 rfl (lv_at hl 4 rfl) ?_
    refine pu_call1 (va_runV (As := [.int (jI (q)), .long (jL (cParts S q)), .int (jI (I)), .int (jI (bI mo))]) (rest := []) ⟨hx, hb, hml, hown, hts⟩ (c_timeInParts l D g a S q (cParts S q) I mo hok (by omega) hI) (cwV 4 hts (gd_V kw_283 kw_284 kw_285 kw_15 kcX2_timeInParts) rfl rfl rfl (by decide +kernel) ⟨Nat.le_of_ble_eq_true rfl, Nat.le_of_ble_eq_true rfl⟩) (pu_preV hPic hK rfl h1_S) rfl rfl hl.1 rfl (lv_room (Nat.le_of_ble_eq_true rfl)) dX2_wholeTime_24 ⟨Nat.zero_le _, Nat.zero_le _⟩) ?_
    refine lv_lload hx hb dX2_wholeTime_27 (lv_at hl 0 rfl) ?_
    refine jv_ldiv hx hb dX2_wholeTime_29 (by omega) (by omega) ?_
    refine jv_l2i hx hb dX2_wholeTime_30 ?_
    exact pu_iret hx hb hr hlocks dX2_wholeTime_31 (by rw [cWhole, if_neg (by omega)])
  · exact absurd c10 (by omega)
set_option maxHeartbeats 4000000 in
set_option maxRecDepth 100000 in
theorem c_isWithin (l : Launch) (D : va_G) (g : Nat → ClassId) (a b : Nat) (S T : jSet) (mo tm : Bool) (mg I : Int) (hoS : sOK S) (hoT : sOK T) (hmg : 0 ≤ mg ∧ mg ≤ 10000) (hI : 0 ≤ I ∧ I ≤ 5000) : Met l yX2_isWithin wsX2_isWithin ({ frames := 1, cells := 0, slots := 0, locals := 30 }) (pu_Pc [.ref a, .int (jI (bI mo)), .int (jI (mg)), .ref b, .int (jI (bI tm)), .int (jI (I))] D vwCl (ty9 g) (fun H => sAt D g a S H ∧ sAt D g b T H)) (pu_Q (some (.int (jI (bI (cWithin S mo mg T tm I)))))) 0 0 (fun _ => False) := by
  refine Met.ofW (cc := cX2_isWithin) (maxL := 16) (ret := some .boolean) (by decide) rfl ?_
  intro p e s m args below meth c s₁ B hml hv
  obtain ⟨rfl, hPic, hK⟩ := hv
  have hx := B.exec
  have hb := B.bytes
  have hr := B.returns
  have hts := atoms_spec (ws := wsX2_isWithin) B.pre
  have hown : s.vm.findClass RX2 = some m.cls := findClass_of_methodNamed B.named
  have hlocks := B.notSynchronized
  obtain ⟨ac_S, ap_S, al_S, am_S, h1_S, h2_S, h3_S, h4_S, h5_S⟩ := id hPic.1
  obtain ⟨ac_T, ap_T, al_T, am_T, h1_T, h2_T, h3_T, h4_T, h5_T⟩ := id hPic.2
  have rS := cPiece_range S I
  have rT := cPiece_range T I
  have nS := hoS.1
  have nT := hoT.1
  have hl := lv_entry ([.ref a, .int (jI (bI mo)), .int (jI (mg)), .ref b, .int (jI (bI tm)), .int (jI (I))]) (n := 16) (Nat.le_of_ble_eq_true rfl)
  rw [lg_entry_eq]
  generalize (lg_sl ([.ref a, .int (jI (bI mo)), .int (jI (mg)), .ref b, .int (jI (bI tm)), .int (jI (I))]) ++ List.replicate (16 - (lg_sl ([.ref a, .int (jI (bI mo)), .int (jI (mg)), .ref b, .int (jI (bI tm)), .int (jI (I))])).length) Slot.unset).toArray = ls at hl ⊢
  have hl : lv_has ls 16 [(0, .ref a), (1, .int (jI (bI mo))), (2, .int (jI (mg))), (3, .ref b), (4, .int (jI (bI tm))), (5, .int (jI (I)))] := hl
  refine lv_aload_n hx hb dX2_isWithin_0 rfl (lv_at hl 3 rfl) ?_
  refine lv_iload hx hb dX2_isWithin_1 (lv_at hl 5 rfl) ?_
  refine pu_call1 (va_runV (As := [.int (jI (I))]) (rest := []) ⟨hx, hb, hml, hown, hts⟩ (c_pieceAt l D g b T I hoT hI) (cwV 1 hts (gd_V kw_329 kw_272 kw_273 kw_15 kcX2_pieceAt) rfl rfl rfl (by decide +kernel) ⟨Nat.le_of_ble_eq_true rfl, Nat.le_of_ble_eq_true rfl⟩) (pu_preV hPic.2 hK rfl h1_T) rfl rfl hl.1 rfl (lv_room (Nat.le_of_ble_eq_true rfl)) dX2_isWithin_3 ⟨Nat.zero_le _, Nat.zero_le _⟩) ?_
  refine lv_istore (lv' := [(6, .int (jI (cPiece T I))), (0, .ref a), (1, .int (jI (bI mo))), (2, .int (jI (mg))), (3, .ref b), (4, .int (jI (bI tm))), (5, .int (jI (I)))]) hx hb dX2_isWithin_6 hl (by decide) rfl (fun ls hl => ?_)
  refine lv_iload hx hb dX2_isWithin_8 (lv_at hl 0 rfl) ?_
  refine jv_iconst hx hb dX2_isWithin_10 ?_
  refine jv_icmp_ne (tgt := 16) hx hb dX2_isWithin_11 (by decide) (by omega) (by omega) (fun c11 => ?_) (fun c11 => ?_)
  · refine lv_aload_n hx hb dX2_isWithin_16 rfl (lv_at hl 1 rfl) ?_
    refine lv_iload hx hb dX2_isWithin_17 (lv_at hl 6 rfl) ?_
    refine pu_call1 (va_runV (As := [.int (jI (I))]) (rest := []) ⟨hx, hb, hml, hown, hts⟩ (c_pieceAt l D g a S I hoS hI) (cwV 1 hts (gd_V kw_329 kw_272 kw_273 kw_15 kcX2_pieceAt) rfl rfl rfl (by decide +kernel) ⟨Nat.le_of_ble_eq_true rfl, Nat.le_of_ble_eq_true rfl⟩) (pu_preV hPic.1 hK rfl h1_S) rfl rfl hl.1 rfl (lv_room (Nat.le_of_ble_eq_true rfl)) dX2_isWithin_19 ⟨Nat.zero_le _, Nat.zero_le _⟩) ?_
    refine lv_istore (lv' := [(7, .int (jI (cPiece S I))), (6, .int (jI (cPiece T I))), (0, .ref a), (1, .int (jI (bI mo))), (2, .int (jI (mg))), (3, .ref b), (4, .int (jI (bI tm))), (5, .int (jI (I)))]) hx hb dX2_isWithin_22 hl (by decide) rfl (fun ls hl => ?_)
    refine lv_iload hx hb dX2_isWithin_24 (lv_at hl 0 rfl) ?_
    refine jv_iconst hx hb dX2_isWithin_26 ?_
    refine jv_icmp_ne (tgt := 32) hx hb dX2_isWithin_27 (by decide) (by omega) (by omega) (fun c27 => ?_) (fun c27 => ?_)
    · have fW := cWithin_range (mo := mo) (tm := tm) hoS hoT hmg (I := I) c11 c27
      refine lv_aload_n hx hb dX2_isWithin_32 rfl (lv_at hl 2 rfl) ?_
      refine lv_iload hx hb dX2_isWithin_33 (lv_at hl 0 rfl) ?_
      refine pu_call1 (va_runV (As := [.int (jI (cPiece S I))]) (rest := []) ⟨hx, hb, hml, hown, hts⟩ (c_partsOn l D g a S (cPiece S I) hoS (by omega)) (cwV 1 hts (gd_V kw_279 kw_280 kw_281 kw_15 kcX2_partsOn) rfl rfl rfl (by decide +kernel) ⟨Nat.le_of_ble_eq_true rfl, Nat.le_of_ble_eq_true rfl⟩) (pu_preV hPic.1 hK rfl h1_S) rfl rfl hl.1 rfl (lv_room (Nat.le_of_ble_eq_true rfl)) dX2_isWithin_35 ⟨Nat.zero_le _, Nat.zero_le _⟩) ?_
      refine lv_lstore (lv' := [(8, .long (jL (cParts S (cPiece S I)))), (7, .int (jI (cPiece S I))), (6, .int (jI (cPiece T I))), (0, .ref a), (1, .int (jI (bI mo))), (2, .int (jI (mg))), (3, .ref b), (4, .int (jI (bI tm))), (5, .int (jI (I)))]) hx hb dX2_isWithin_38 hl (by decide) rfl (fun ls hl => ?_)
      refine lv_aload_n hx hb dX2_isWithin_40 rfl (lv_at hl 6 rfl) ?_
      refine lv_iload hx hb dX2_isWithin_41 (lv_at hl 2 rfl) ?_
      refine pu_call1 (va_runV (As := [.int (jI (cPiece T I))]) (rest := []) ⟨hx, hb, hml, hown, hts⟩ (c_partsOn l D g b T (cPiece T I) hoT (by omega)) (cwV 1 hts (gd_V kw_279 kw_280 kw_281 kw_15 kcX2_partsOn) rfl rfl rfl (by decide +kernel) ⟨Nat.le_of_ble_eq_true rfl, Nat.le_of_ble_eq_true rfl⟩) (pu_preV hPic.2 hK rfl h1_T) rfl rfl hl.1 rfl (lv_room (Nat.le_of_ble_eq_true rfl)) dX2_isWithin_43 ⟨Nat.zero_le _, Nat.zero_le _⟩) ?_
      refine lv_lstore (lv' := [(10, .long (jL (cParts T (cPiece T I)))), (8, .long (jL (cParts S (cPiece S I)))), (7, .int (jI (cPiece S I))), (6, .int (jI (cPiece T I))), (0, .ref a), (1, .int (jI (bI mo))), (2, .int (jI (mg))), (3, .ref b), (4, .int (jI (bI tm))), (5, .int (jI (I)))]) hx hb dX2_isWithin_46 hl (by decide) rfl (fun ls hl => ?_)
      refine lv_aload_n hx hb dX2_isWithin_48 rfl (lv_at hl 4 rfl) ?_
      refine lv_iload hx hb dX2_isWithin_49 (lv_at hl 2 rfl) ?_
      refine lv_lload hx hb dX2_isWithin_51 (lv_at hl 1 rfl) ?_
      refine lv_iload hx hb dX2_isWithin_53 (lv_at hl 9 rfl) ?_
      refine lv_iload_n hx hb dX2_isWithin_55 rfl (lv_at hl 5 rfl) ?_
      refine pu_call1 (va_runV (As := [.int (jI (cPiece S I)), .long (jL (cParts S (cPiece S I))), .int (jI (I)), .int (jI (bI mo))]) (rest := []) ⟨hx, hb, hml, hown, hts⟩ (c_timeInParts l D g a S (cPiece S I) (cParts S (cPiece S I)) I mo hoS (by omega) hI) (cwV 4 hts (gd_V kw_283 kw_284 kw_285 kw_15 kcX2_timeInParts) rfl rfl rfl (by decide +kernel) ⟨Nat.le_of_ble_eq_true rfl, Nat.le_of_ble_eq_true rfl⟩) (pu_preV hPic.1 hK rfl h1_S) rfl rfl hl.1 rfl (lv_room (Nat.le_of_ble_eq_true rfl)) dX2_isWithin_56 ⟨Nat.zero_le _, Nat.zero_le _⟩) ?_
      refine lv_iload_n hx hb dX2_isWithin_59 rfl (lv_at hl 6 rfl) ?_
      refine jv_i2l hx hb dX2_isWithin_60 (by omega) ?_
      refine lv_lload hx hb dX2_isWithin_61 (lv_at hl 1 rfl) ?_
      refine jv_lmul hx hb dX2_isWithin_63 ?_
      refine jv_ladd hx hb dX2_isWithin_64 ?_
      refine lv_lstore (lv' := [(12, .long (jL ((cTime S mo (cPiece S I) (cParts S (cPiece S I)) I) + (mg * (cParts S (cPiece S I)))))), (10, .long (jL (cParts T (cPiece T I)))), (8, .long (jL (cParts S (cPiece S I)))), (7, .int (jI (cPiece S I))), (6, .int (jI (cPiece T I))), (0, .ref a), (1, .int (jI (bI mo))), (2, .int (jI (mg))), (3, .ref b), (4, .int (jI (bI tm))), (5, .int (jI (I)))]) hx hb dX2_isWithin_65 hl (by decide) rfl (fun ls hl => ?_)
      refine lv_aload_n hx hb dX2_isWithin_67 rfl (lv_at hl 8 rfl) ?_
      refine lv_iload hx hb dX2_isWithin_68 (lv_at hl 4 rfl) ?_
      refine lv_lload hx hb dX2_isWithin_70 (lv_at hl 1 rfl) ?_
      refine lv_iload hx hb dX2_isWithin_72 (lv_at hl 10 rfl) ?_
      refine lv_iload hx hb dX2_isWithin_74 (lv_at hl 9 rfl) ?_
      refine pu_call1 (va_runV (As := [.int (jI (cPiece T I)), .long (jL (cParts T (cPiece T I))), .int (jI (I)), .int (jI (bI tm))]) (rest := []) ⟨hx, hb, hml, hown, hts⟩ (c_timeInParts l D g b T (cPiece T I) (cParts T (cPiece T I)) I tm hoT (by omega) hI) (cwV 4 hts (gd_V kw_283 kw_284 kw_285 kw_15 kcX2_timeInParts) rfl rfl rfl (by decide +kernel) ⟨Nat.le_of_ble_eq_true rfl, Nat.le_of_ble_eq_true rfl⟩) (pu_preV hPic.2 hK rfl h1_T) rfl rfl hl.1 rfl (lv_room (Nat.le_of_ble_eq_true rfl)) dX2_isWithin_76 ⟨Nat.zero_le _, Nat.zero_le _⟩) ?_
      refine lv_lstore (lv' := [(14, .long (jL (cTime T tm (cPiece T I) (cParts T (cPiece T I)) I))), (12, .long (jL ((cTime S mo (cPiece S I) (cParts S (cPiece S I)) I) + (mg * (cParts S (cPiece S I)))))), (10, .long (jL (cParts T (cPiece T I)))), (8, .long (jL (cParts S (cPiece S I)))), (7, .int (jI (cPiece S I))), (6, .int (jI (cPiece T I))), (0, .ref a), (1, .int (jI (bI mo))), (2, .int (jI (mg))), (3, .ref b), (4, .int (jI (bI tm))), (5, .int (jI (I)))]) hx hb dX2_isWithin_79 hl (by decide) rfl (fun ls hl => ?_)
      refine lv_lload hx hb dX2_isWithin_81 (lv_at hl 1 rfl) ?_
      refine lv_lload hx hb dX2_isWithin_83 (lv_at hl 2 rfl) ?_
      refine jv_lmul hx hb dX2_isWithin_85 ?_
      refine lv_lload hx hb dX2_isWithin_86 (lv_at hl 0 rfl) ?_
      refine lv_lload hx hb dX2_isWithin_88 (lv_at hl 3 rfl) ?_
      refine jv_lmul hx hb dX2_isWithin_90 ?_
      refine jv_lcmp_gt (tgt := 99) hx hb dX2_isWithin_91 dX2_isWithin_92 (by decide) fW.1 fW.2 (fun c91 => ?_) (fun c91 => ?_)
      · refine jv_iconst hx hb dX2_isWithin_99 ?_
        exact pu_zret hx hb hr hlocks dX2_isWithin_100 (by rw [cWithin, if_neg c11, if_neg c27, decide_eq_false (by omega)]; rfl)
      · refine jv_iconst hx hb dX2_isWithin_95 ?_
        refine lv_goto (tgt := 100) hx hb dX2_isWithin_96 (by decide) ?_
        exact pu_zret hx hb hr hlocks dX2_isWithin_100 (by rw [cWithin, if_neg c11, if_neg c27, decide_eq_true (by omega)]; rfl)
    · refine jv_iconst hx hb dX2_isWithin_30 ?_
      exact pu_zret hx hb hr hlocks dX2_isWithin_31 (by rw [cWithin, if_neg c11, if_pos c27]; rfl)
  · refine jv_iconst hx hb dX2_isWithin_14 ?_
    exact pu_zret hx hb hr hlocks dX2_isWithin_15 (by rw [cWithin, if_pos c11]; rfl)
