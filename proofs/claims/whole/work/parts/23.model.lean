theorem mOpen_no {S : jSet} (h : sOK S) {I : Int} (h1 : mOpen S I = false) : cPiece S I = -1 := by
  apply Classical.byContradiction
  intro hn
  rw [(mOpen_piece h I).mpr hn] at h1
  cases h1
set_option maxHeartbeats 4000000 in
set_option maxRecDepth 100000 in
theorem k_isGood (l : Launch) (D : va_G) (g : Nat → ClassId) (am : Nat → Nat) (cd dv vo ab be : Int) (AA : Nat → Nat → Int) (z : bSt) (hz : bOK z) (hR : mR z dv vo AA) (d o u q : Nat) (mg I : Int) (hd : d < bN z) (ho : o < bO z d) (hu : u < bN z) (hq : q < bO z u) (hmg : 0 ≤ mg ∧ mg ≤ 10000) (hI : 0 ≤ I ∧ I ≤ 5000) (hj : mInj am) : Met l yX4_isGood wsX4_isGood ({ frames := 1, cells := 0, slots := 0, locals := 33 }) (pu_Pc [.ref (am 0), .int (jI ((d : Int))), .int (jI ((o : Int))), .int (jI ((u : Int))), .int (jI ((q : Int))), .int (jI (mg)), .int (jI (I))] D vwCl (ty9 g) (fun H => mW D g am cd dv vo ab be AA H)) (mQ D g am (some (.int (jI (bI (cWithin (bSet z d o) true mg (bSet z u q) false I))))) (fun c n v A _ _ => c = cd ∧ n = dv ∧ v = vo ∧ A = AA)) 0 0 (mFr am) := by
  refine Met.ofW (cc := cX4_isGood) (maxL := 11) (ret := some .boolean) (by decide) rfl ?_
  intro p e s m args below meth c s₁ B hml hv
  obtain ⟨rfl, hPic, hK⟩ := hv
  have hx := B.exec
  have hb := B.bytes
  have hr := B.returns
  have hts := atoms_spec (ws := wsX4_isGood) B.pre
  have hown : s.vm.findClass RX4 = some m.cls := findClass_of_methodNamed B.named
  have hlocks := B.notSynchronized
  have hm0 := hPic.1
  have hN := hz.1
  have okS : sOK (bSet z d o) := (hz.2.2.1 d (by omega)).2.2.2.2.2 o ho
  have okT : sOK (bSet z u q) := (hz.2.2.1 u (by omega)).2.2.2.2.2 q hq
  have hl := lv_entry ([.ref (am 0), .int (jI ((d : Int))), .int (jI ((o : Int))), .int (jI ((u : Int))), .int (jI ((q : Int))), .int (jI (mg)), .int (jI (I))]) (n := 11) (Nat.le_of_ble_eq_true rfl)
  rw [lg_entry_eq]
  generalize (lg_sl ([.ref (am 0), .int (jI ((d : Int))), .int (jI ((o : Int))), .int (jI ((u : Int))), .int (jI ((q : Int))), .int (jI (mg)), .int (jI (I))]) ++ List.replicate (11 - (lg_sl ([.ref (am 0), .int (jI ((d : Int))), .int (jI ((o : Int))), .int (jI ((u : Int))), .int (jI ((q : Int))), .int (jI (mg)), .int (jI (I))])).length) Slot.unset).toArray = ls at hl ⊢
  have hl : lv_has ls 11 [(0, .ref (am 0)), (1, .int (jI ((d : Int)))), (2, .int (jI ((o : Int)))), (3, .int (jI ((u : Int)))), (4, .int (jI ((q : Int)))), (5, .int (jI (mg))), (6, .int (jI (I)))] := hl
  have hT0 : mTo am s.heap s.heap [] := mTo.rf
  refine lv_aload_n hx hb dX4_isGood_0 rfl (lv_at hl 0 rfl) ?_
  refine lv_iload_n hx hb dX4_isGood_1 rfl (lv_at hl 3 rfl) ?_
  refine lv_iload hx hb dX4_isGood_2 (lv_at hl 4 rfl) ?_
  refine lv_iload hx hb dX4_isGood_4 (lv_at hl 6 rfl) ?_
  refine pu_call1 (va_runV (As := [.int (jI ((u : Int))), .int (jI ((q : Int))), .int (jI (I))]) (rest := []) ⟨hx, hb, hml, hown, hts⟩ (k_opensAt l D g am cd dv vo ab be AA z hz hR u q I hu hq (by omega)) (cwV 3 hts (gd_V kw_502 kw_504 kw_4 kw_16 kcX4_opensAt) rfl rfl rfl (by decide +kernel) ⟨Nat.le_of_ble_eq_true rfl, Nat.le_of_ble_eq_true rfl⟩) (pu_preV hPic hK rfl hm0) rfl rfl hl.1 rfl (lv_room (Nat.le_of_ble_eq_true rfl)) dX4_isGood_6 ⟨Nat.zero_le _, Nat.zero_le _⟩) ?_
  refine jv_if_ne (tgt := 14) hx hb dX4_isGood_9 (by decide) (bI_rng _) (fun c9 => ?_) (fun c9 => ?_)
  · have pT := (mOpen_piece okT I).mp (bI_tr c9)
    have hoT : 0 < bK z u ∧ bS z u q * bP z u 0 ≤ 100 * I := of_decide_eq_true (bI_tr c9)
    refine lv_aload_n hx hb dX4_isGood_14 rfl (lv_at hl 0 rfl) ?_
    refine lv_iload_n hx hb dX4_isGood_15 rfl (lv_at hl 1 rfl) ?_
    refine lv_iload_n hx hb dX4_isGood_16 rfl (lv_at hl 2 rfl) ?_
    refine lv_iload hx hb dX4_isGood_17 (lv_at hl 6 rfl) ?_
    refine pu_call1 (va_runV (As := [.int (jI ((d : Int))), .int (jI ((o : Int))), .int (jI (I))]) (rest := []) ⟨hx, hb, hml, hown, hts⟩ (k_opensAt l D g am cd dv vo ab be AA z hz hR d o I hd ho (by omega)) (cwV 3 hts (gd_V kw_502 kw_504 kw_4 kw_16 kcX4_opensAt) rfl rfl rfl (by decide +kernel) ⟨Nat.le_of_ble_eq_true rfl, Nat.le_of_ble_eq_true rfl⟩) (pu_preV hPic hK rfl hm0) rfl rfl hl.1 rfl (lv_room (Nat.le_of_ble_eq_true rfl)) dX4_isGood_19 ⟨Nat.zero_le _, Nat.zero_le _⟩) ?_
    refine jv_if_ne (tgt := 27) hx hb dX4_isGood_22 (by decide) (bI_rng _) (fun c22 => ?_) (fun c22 => ?_)
    · have pS := (mOpen_piece okS I).mp (bI_tr c22)
      have hoS : 0 < bK z d ∧ bS z d o * bP z d 0 ≤ 100 * I := of_decide_eq_true (bI_tr c22)
      have fW := cWithin_range (mo := true) (tm := false) okS okT hmg (I := I) pT pS
      refine lv_aload_n hx hb dX4_isGood_27 rfl (lv_at hl 0 rfl) ?_
      refine lv_iload_n hx hb dX4_isGood_28 rfl (lv_at hl 1 rfl) ?_
      refine lv_iload_n hx hb dX4_isGood_29 rfl (lv_at hl 2 rfl) ?_
      refine lv_iload hx hb dX4_isGood_30 (lv_at hl 6 rfl) ?_
      refine jv_iconst hx hb dX4_isGood_32 ?_
      refine m_call (va_runV (As := [.int (jI ((d : Int))), .int (jI ((o : Int))), .int (jI (I)), .int (jI (bI true))]) (rest := []) ⟨hx, hb, hml, hown, hts⟩ (k_reckon l D g am cd dv vo ab be AA z hz hR d o I true hd ho hI hoS hj) (cwV 4 hts (gd_V kw_506 kw_508 kw_5 kw_16 kcX4_reckon) rfl rfl rfl (by decide +kernel) ⟨Nat.le_of_ble_eq_true rfl, Nat.le_of_ble_eq_true rfl⟩) (pu_preV hPic hK rfl hm0) rfl rfl hl.1 rfl (lv_room (Nat.le_of_ble_eq_true rfl)) dX4_isGood_33 ⟨Nat.zero_le _, Nat.zero_le _⟩) hT0 (fun H locs cd9 dv9 vo9 AA9 ab9 be9 hPh hPic hT0 => ?_)
      refine W.eq (g2 := F0 m 36 ls []) rfl ?_
      obtain ⟨q1, q2, q3, q4, q5, q6⟩ := hPh
      rw [q1, q2, q3, q4, q5, q6] at hPic
      have hm0 := hPic.1
      have hm1 : va_at D vwCl (am 1, .inl (g 0, 8, .inl (fun j => jI (AA 1 j)))) H := hPic.2 1 (by omega) (by omega)
      refine lv_aload_n hx hb dX4_isGood_36 rfl (lv_at hl 0 rfl) ?_
      refine va_get (D := D) (ci := 4) (v := .long (jL (cTime (bSet z d o) true (cPiece (bSet z d o) I) (cParts (bSet z d o) (cPiece (bSet z d o) I)) I))) (C := RX4) (T := TX4) (N := 17) hx hb hts (fun w h => List.mem_cons_of_mem _ (uw_X4 w h)) hown hK (j_P1 hm0) 0 rfl rfl 13 (by decide) (hts _ (List.mem_cons_of_mem _ kw_431)) (fun _ h9 => h9) rfl dX4_isGood_37 ?_
      refine lv_iload hx hb dX4_isGood_40 (lv_at hl 5 rfl) ?_
      refine jv_i2l hx hb dX4_isGood_42 (by omega) ?_
      refine lv_aload_n hx hb dX4_isGood_43 rfl (lv_at hl 0 rfl) ?_
      refine va_get (D := D) (ci := 4) (v := .long (jL (cParts (bSet z d o) (cPiece (bSet z d o) I)))) (C := RX4) (T := TX4) (N := 17) hx hb hts (fun w h => List.mem_cons_of_mem _ (uw_X4 w h)) hown hK (j_P1 hm0) 0 rfl rfl 14 (by decide) (hts _ (List.mem_cons_of_mem _ kw_432)) (fun _ h9 => h9) rfl dX4_isGood_44 ?_
      refine jv_lmul hx hb dX4_isGood_47 ?_
      refine jv_ladd hx hb dX4_isGood_48 ?_
      refine lv_lstore (lv' := [(7, .long (jL ((cTime (bSet z d o) true (cPiece (bSet z d o) I) (cParts (bSet z d o) (cPiece (bSet z d o) I)) I) + (mg * (cParts (bSet z d o) (cPiece (bSet z d o) I)))))), (0, .ref (am 0)), (1, .int (jI ((d : Int)))), (2, .int (jI ((o : Int)))), (3, .int (jI ((u : Int)))), (4, .int (jI ((q : Int)))), (5, .int (jI (mg))), (6, .int (jI (I)))]) hx hb dX4_isGood_49 hl (by decide) rfl (fun ls hl => ?_)
      refine lv_aload_n hx hb dX4_isGood_51 rfl (lv_at hl 1 rfl) ?_
      refine va_get (D := D) (ci := 4) (v := .long (jL (cParts (bSet z d o) (cPiece (bSet z d o) I)))) (C := RX4) (T := TX4) (N := 17) hx hb hts (fun w h => List.mem_cons_of_mem _ (uw_X4 w h)) hown hK (j_P1 hm0) 0 rfl rfl 14 (by decide) (hts _ (List.mem_cons_of_mem _ kw_432)) (fun _ h9 => h9) rfl dX4_isGood_52 ?_
      refine lv_lstore (lv' := [(9, .long (jL (cParts (bSet z d o) (cPiece (bSet z d o) I)))), (7, .long (jL ((cTime (bSet z d o) true (cPiece (bSet z d o) I) (cParts (bSet z d o) (cPiece (bSet z d o) I)) I) + (mg * (cParts (bSet z d o) (cPiece (bSet z d o) I)))))), (0, .ref (am 0)), (1, .int (jI ((d : Int)))), (2, .int (jI ((o : Int)))), (3, .int (jI ((u : Int)))), (4, .int (jI ((q : Int)))), (5, .int (jI (mg))), (6, .int (jI (I)))]) hx hb dX4_isGood_55 hl (by decide) rfl (fun ls hl => ?_)
      refine lv_aload_n hx hb dX4_isGood_57 rfl (lv_at hl 2 rfl) ?_
      refine lv_iload_n hx hb dX4_isGood_58 rfl (lv_at hl 5 rfl) ?_
      refine lv_iload hx hb dX4_isGood_59 (lv_at hl 6 rfl) ?_
      refine lv_iload hx hb dX4_isGood_61 (lv_at hl 8 rfl) ?_
      refine jv_iconst hx hb dX4_isGood_63 ?_
      refine m_call (va_runV (As := [.int (jI ((u : Int))), .int (jI ((q : Int))), .int (jI (I)), .int (jI (bI false))]) (rest := []) ⟨hx, hb, hml, hown, hts⟩ (k_reckon l D g am cd dv vo (cTime (bSet z d o) true (cPiece (bSet z d o) I) (cParts (bSet z d o) (cPiece (bSet z d o) I)) I) (cParts (bSet z d o) (cPiece (bSet z d o) I)) AA z hz hR u q I false hu hq hI hoT hj) (cwV 4 hts (gd_V kw_506 kw_508 kw_5 kw_16 kcX4_reckon) rfl rfl rfl (by decide +kernel) ⟨Nat.le_of_ble_eq_true rfl, Nat.le_of_ble_eq_true rfl⟩) (pu_preV hPic hK rfl hm0) rfl rfl hl.1 rfl (lv_room (Nat.le_of_ble_eq_true rfl)) dX4_isGood_64 ⟨Nat.zero_le _, Nat.zero_le _⟩) hT0 (fun H locs cd9 dv9 vo9 AA9 ab9 be9 hPh hPic hT0 => ?_)
      refine W.eq (g2 := F0 m 67 ls []) rfl ?_
      obtain ⟨q1, q2, q3, q4, q5, q6⟩ := hPh
      rw [q1, q2, q3, q4, q5, q6] at hPic
      have hm0 := hPic.1
      have hm1 : va_at D vwCl (am 1, .inl (g 0, 8, .inl (fun j => jI (AA 1 j)))) H := hPic.2 1 (by omega) (by omega)
      refine lv_lload hx hb dX4_isGood_67 (lv_at hl 1 rfl) ?_
      refine lv_aload_n hx hb dX4_isGood_69 rfl (lv_at hl 2 rfl) ?_
      refine va_get (D := D) (ci := 4) (v := .long (jL (cParts (bSet z u q) (cPiece (bSet z u q) I)))) (C := RX4) (T := TX4) (N := 17) hx hb hts (fun w h => List.mem_cons_of_mem _ (uw_X4 w h)) hown hK (j_P1 hm0) 0 rfl rfl 14 (by decide) (hts _ (List.mem_cons_of_mem _ kw_432)) (fun _ h9 => h9) rfl dX4_isGood_70 ?_
      refine jv_lmul hx hb dX4_isGood_73 ?_
      refine lv_aload_n hx hb dX4_isGood_74 rfl (lv_at hl 2 rfl) ?_
      refine va_get (D := D) (ci := 4) (v := .long (jL (cTime (bSet z u q) false (cPiece (bSet z u q) I) (cParts (bSet z u q) (cPiece (bSet z u q) I)) I))) (C := RX4) (T := TX4) (N := 17) hx hb hts (fun w h => List.mem_cons_of_mem _ (uw_X4 w h)) hown hK (j_P1 hm0) 0 rfl rfl 13 (by decide) (hts _ (List.mem_cons_of_mem _ kw_431)) (fun _ h9 => h9) rfl dX4_isGood_75 ?_
      refine lv_lload hx hb dX4_isGood_78 (lv_at hl 0 rfl) ?_
      refine jv_lmul hx hb dX4_isGood_80 ?_
      refine jv_lcmp_gt (tgt := 89) hx hb dX4_isGood_81 dX4_isGood_82 (by decide) fW.1 fW.2 (fun c81 => ?_) (fun c81 => ?_)
      · refine jv_iconst hx hb dX4_isGood_89 ?_
        exact m_zret hx hb hr hlocks dX4_isGood_90 ⟨rfl, rfl, rfl, rfl⟩ hPic hT0 (by rw [cWithin, if_neg pT, if_neg pS, decide_eq_false (by omega)]; rfl)
      · refine jv_iconst hx hb dX4_isGood_85 ?_
        refine lv_goto (tgt := 90) hx hb dX4_isGood_86 (by decide) ?_
        exact m_zret hx hb hr hlocks dX4_isGood_90 ⟨rfl, rfl, rfl, rfl⟩ hPic hT0 (by rw [cWithin, if_neg pT, if_neg pS, decide_eq_true (by omega)]; rfl)
    · have pS := mOpen_no okS (bI_fa c22)
      refine jv_iconst hx hb dX4_isGood_25 ?_
      exact m_zret hx hb hr hlocks dX4_isGood_26 ⟨rfl, rfl, rfl, rfl⟩ hPic hT0 (by rw [cWithin, if_neg pT, if_pos pS]; rfl)
  · have pT := mOpen_no okT (bI_fa c9)
    refine jv_iconst hx hb dX4_isGood_12 ?_
    exact m_zret hx hb hr hlocks dX4_isGood_13 ⟨rfl, rfl, rfl, rfl⟩ hPic hT0 (by rw [cWithin, if_pos pT]; rfl)
