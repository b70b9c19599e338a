set_option maxHeartbeats 4000000 in
set_option maxRecDepth 100000 in
theorem b_device1 (l : Launch) (D : va_G) (g : Nat → ClassId) (am : Nat → Nat) (cd dv vo ab be : Int) (AA : Nat → Nat → Int) (z : bSt) (hz : bOK z) (hR : mR z dv vo AA) (u : Int) (h_u : -2147483648 ≤ u ∧ u < 2147483648) (hbad : ¬ (u = -1 ∨ (0 ≤ u ∧ u ≤ dv - 1))) (hj : mInj am) : Met l yX4_device wsX4_device ({ frames := 2, cells := 0, slots := 0, locals := 43 }) (pu_Pc [.ref (am 0), .int (jI (u))] D vwCl (ty9 g) (fun H => mW D g am cd dv vo ab be AA H)) (mQ D g am (some (.int (jI (0)))) (fun c n v A _ _ => c = 1 ∧ mR z n v A)) 0 0 (mFr am) := by
  refine Met.ofW (cc := cX4_device) (maxL := 2) (ret := some .int) (by decide) rfl ?_
  intro p e s m args below meth c s₁ B hml hv
  obtain ⟨rfl, hPic, hK⟩ := hv
  have hx := B.exec
  have hb := B.bytes
  have hr := B.returns
  have hts := atoms_spec (ws := wsX4_device) B.pre
  have hown : s.vm.findClass RX4 = some m.cls := findClass_of_methodNamed B.named
  have hlocks := B.notSynchronized
  have hm0 := hPic.1
  have hm1 : va_at D vwCl (am 1, .inl (g 0, 8, .inl (fun j => jI (AA 1 j)))) s.heap := hPic.2 1 (by omega) (by omega)
  have hdv := hR.1
  have hN := hz.1
  have hl := lv_entry ([.ref (am 0), .int (jI (u))]) (n := 2) (Nat.le_of_ble_eq_true rfl)
  rw [lg_entry_eq]
  generalize (lg_sl ([.ref (am 0), .int (jI (u))]) ++ List.replicate (2 - (lg_sl ([.ref (am 0), .int (jI (u))])).length) Slot.unset).toArray = ls at hl ⊢
  have hl : lv_has ls 2 [(0, .ref (am 0)), (1, .int (jI (u)))] := hl
  have hT0 : mTo am s.heap s.heap [] := mTo.rf
  refine lv_aload_n hx hb dX4_device_0 rfl (lv_at hl 0 rfl) ?_
  refine lv_iload_n hx hb dX4_device_1 rfl (lv_at hl 1 rfl) ?_
  refine jv_iconst hx hb dX4_device_2 ?_
  refine jv_icmp_eq (tgt := 18) hx hb dX4_device_3 (by decide) (by omega) (by omega) (fun c3 => ?_) (fun c3 => ?_)
  · exact absurd c3 (by omega)
  · refine lv_aload_n hx hb dX4_device_6 rfl (lv_at hl 0 rfl) ?_
    refine lv_iload_n hx hb dX4_device_7 rfl (lv_at hl 1 rfl) ?_
    refine pu_call1 (va_runV (As := [.int (jI (u))]) (rest := [.ref (am 0)]) ⟨hx, hb, hml, hown, hts⟩ (k_isDevice l D g am cd dv vo ab be AA u (by omega) (by omega)) (cwV 1 hts (gd_V kw_478 kw_480 kw_3 kw_16 kcX4_isDevice) rfl rfl rfl (by decide +kernel) ⟨Nat.le_of_ble_eq_true rfl, Nat.le_of_ble_eq_true rfl⟩) (pu_preV hPic hK rfl hm0) rfl rfl hl.1 rfl (lv_room (Nat.le_of_ble_eq_true rfl)) dX4_device_8 ⟨Nat.zero_le _, Nat.zero_le _⟩) ?_
    refine jv_if_ne (tgt := 18) hx hb dX4_device_11 (by decide) (bI_rng _) (fun c11 => ?_) (fun c11 => ?_)
    · exact absurd (of_decide_eq_true (bI_tr c11)) (by omega)
    · have c11 := of_decide_eq_false (bI_fa c11)
      refine jv_iconst hx hb dX4_device_14 ?_
      refine lv_goto (tgt := 32) hx hb dX4_device_15 (by decide) ?_
      refine jv_put (D := D) (ci := 4) (v := .int (jI (1))) (ty := .int) (C := RX4) (T := TX4) (N := 17) hx hb hts (fun w h => List.mem_cons_of_mem _ (uw_X4 w h)) tyX4 tyX4_ok nmX4 hown hK hm0 rfl 0 (by decide) (hts _ (List.mem_cons_of_mem _ kw_418)) (fun _ h9 => h9) rfl (by decide +kernel) rfl rfl (Nat.le_of_ble_eq_true rfl) dX4_device_32 (fun H f9 hn9 hz9 oq9 => ?_)
      have hPic : mW D g am 1 dv vo ab be AA H := mW_obj hj hPic oq9 hn9
      have hT0 := hT0.put 0 (by omega) hz9 oq9 (f := f9)
      have hm0 := hPic.1
      have hm1 : va_at D vwCl (am 1, .inl (g 0, 8, .inl (fun j => jI (AA 1 j)))) H := hPic.2 1 (by omega) (by omega)
      refine lv_aload_n hx hb dX4_device_35 rfl (lv_at hl 0 rfl) ?_
      refine va_get (D := D) (ci := 4) (v := .int (jI (1))) (C := RX4) (T := TX4) (N := 17) hx hb hts (fun w h => List.mem_cons_of_mem _ (uw_X4 w h)) hown hK (j_P1 hm0) 0 rfl rfl 0 (by decide) (hts _ (List.mem_cons_of_mem _ kw_418)) (fun _ h9 => h9) rfl dX4_device_36 ?_
      refine jv_if_le (tgt := 44) hx hb dX4_device_39 (by decide) (by omega) (fun c39 => ?_) (fun c39 => ?_)
      · exact absurd c39 (by omega)
      · refine jv_iconst hx hb dX4_device_42 ?_
        exact m_iret hx hb hr hlocks dX4_device_43 ⟨rfl, hR⟩ hPic hT0 (by rfl)
set_option maxHeartbeats 4000000 in
set_option maxRecDepth 100000 in
theorem b_device2 (l : Launch) (D : va_G) (g : Nat → ClassId) (am : Nat → Nat) (cd dv vo ab be : Int) (AA : Nat → Nat → Int) (z : bSt) (hz : bOK z) (hR : mR z dv vo AA) (u : Int) (h_u : -2147483648 ≤ u ∧ u < 2147483648) (hgd : u = -1 ∨ (0 ≤ u ∧ u ≤ dv - 1)) (h8 : dv = 8) (hj : mInj am) : Met l yX4_device wsX4_device ({ frames := 2, cells := 0, slots := 0, locals := 43 }) (pu_Pc [.ref (am 0), .int (jI (u))] D vwCl (ty9 g) (fun H => mW D g am cd dv vo ab be AA H)) (mQ D g am (some (.int (jI (0)))) (fun c n v A _ _ => c = 2 ∧ mR z n v A)) 0 0 (mFr am) := by
  refine Met.ofW (cc := cX4_device) (maxL := 2) (ret := some .int) (by decide) rfl ?_
  intro p e s m args below meth c s₁ B hml hv
  obtain ⟨rfl, hPic, hK⟩ := hv
  have hx := B.exec
  have hb := B.bytes
  have hr := B.returns
  have hts := atoms_spec (ws := wsX4_device) B.pre
  have hown : s.vm.findClass RX4 = some m.cls := findClass_of_methodNamed B.named
  have hlocks := B.notSynchronized
  have hm0 := hPic.1
  have hm1 : va_at D vwCl (am 1, .inl (g 0, 8, .inl (fun j => jI (AA 1 j)))) s.heap := hPic.2 1 (by omega) (by omega)
  have hdv := hR.1
  have hN := hz.1
  have hl := lv_entry ([.ref (am 0), .int (jI (u))]) (n := 2) (Nat.le_of_ble_eq_true rfl)
  rw [lg_entry_eq]
  generalize (lg_sl ([.ref (am 0), .int (jI (u))]) ++ List.replicate (2 - (lg_sl ([.ref (am 0), .int (jI (u))])).length) Slot.unset).toArray = ls at hl ⊢
  have hl : lv_has ls 2 [(0, .ref (am 0)), (1, .int (jI (u)))] := hl
  have hT0 : mTo am s.heap s.heap [] := mTo.rf
  refine lv_aload_n hx hb dX4_device_0 rfl (lv_at hl 0 rfl) ?_
  refine lv_iload_n hx hb dX4_device_1 rfl (lv_at hl 1 rfl) ?_
  refine jv_iconst hx hb dX4_device_2 ?_
  refine jv_icmp_eq (tgt := 18) hx hb dX4_device_3 (by decide) (by omega) (by omega) (fun c3 => ?_) (fun c3 => ?_)
  · refine lv_aload_n hx hb dX4_device_18 rfl (lv_at hl 0 rfl) ?_
    refine va_get (D := D) (ci := 4) (v := .int (jI (dv))) (C := RX4) (T := TX4) (N := 17) hx hb hts (fun w h => List.mem_cons_of_mem _ (uw_X4 w h)) hown hK (j_P1 hm0) 0 rfl rfl 1 (by decide) (hts _ (List.mem_cons_of_mem _ kw_419)) (fun _ h9 => h9) rfl dX4_device_19 ?_
    refine jv_bipush hx hb dX4_device_22 (by decide) ?_
    refine jv_icmp_ne (tgt := 31) hx hb dX4_device_24 (by decide) (by omega) (by omega) (fun c24 => ?_) (fun c24 => ?_)
    · exact absurd c24 (by omega)
    · refine jv_iconst hx hb dX4_device_27 ?_
      refine lv_goto (tgt := 32) hx hb dX4_device_28 (by decide) ?_
      refine jv_put (D := D) (ci := 4) (v := .int (jI (2))) (ty := .int) (C := RX4) (T := TX4) (N := 17) hx hb hts (fun w h => List.mem_cons_of_mem _ (uw_X4 w h)) tyX4 tyX4_ok nmX4 hown hK hm0 rfl 0 (by decide) (hts _ (List.mem_cons_of_mem _ kw_418)) (fun _ h9 => h9) rfl (by decide +kernel) rfl rfl (Nat.le_of_ble_eq_true rfl) dX4_device_32 (fun H f9 hn9 hz9 oq9 => ?_)
      have hPic : mW D g am 2 dv vo ab be AA H := mW_obj hj hPic oq9 hn9
      have hT0 := hT0.put 0 (by omega) hz9 oq9 (f := f9)
      have hm0 := hPic.1
      have hm1 : va_at D vwCl (am 1, .inl (g 0, 8, .inl (fun j => jI (AA 1 j)))) H := hPic.2 1 (by omega) (by omega)
      refine lv_aload_n hx hb dX4_device_35 rfl (lv_at hl 0 rfl) ?_
      refine va_get (D := D) (ci := 4) (v := .int (jI (2))) (C := RX4) (T := TX4) (N := 17) hx hb hts (fun w h => List.mem_cons_of_mem _ (uw_X4 w h)) hown hK (j_P1 hm0) 0 rfl rfl 0 (by decide) (hts _ (List.mem_cons_of_mem _ kw_418)) (fun _ h9 => h9) rfl dX4_device_36 ?_
      refine jv_if_le (tgt := 44) hx hb dX4_device_39 (by decide) (by omega) (fun c39 => ?_) (fun c39 => ?_)
      · exact absurd c39 (by omega)
      · refine jv_iconst hx hb dX4_device_42 ?_
        exact m_iret hx hb hr hlocks dX4_device_43 ⟨rfl, hR⟩ hPic hT0 (by rfl)
  · refine lv_aload_n hx hb dX4_device_6 rfl (lv_at hl 0 rfl) ?_
    refine lv_iload_n hx hb dX4_device_7 rfl (lv_at hl 1 rfl) ?_
    refine pu_call1 (va_runV (As := [.int (jI (u))]) (rest := [.ref (am 0)]) ⟨hx, hb, hml, hown, hts⟩ (k_isDevice l D g am cd dv vo ab be AA u (by omega) (by omega)) (cwV 1 hts (gd_V kw_478 kw_480 kw_3 kw_16 kcX4_isDevice) rfl rfl rfl (by decide +kernel) ⟨Nat.le_of_ble_eq_true rfl, Nat.le_of_ble_eq_true rfl⟩) (pu_preV hPic hK rfl hm0) rfl rfl hl.1 rfl (lv_room (Nat.le_of_ble_eq_true rfl)) dX4_device_8 ⟨Nat.zero_le _, Nat.zero_le _⟩) ?_
    refine jv_if_ne (tgt := 18) hx hb dX4_device_11 (by decide) (bI_rng _) (fun c11 => ?_) (fun c11 => ?_)
    · have c11 := of_decide_eq_true (bI_tr c11)
      refine lv_aload_n hx hb dX4_device_18 rfl (lv_at hl 0 rfl) ?_
      refine va_get (D := D) (ci := 4) (v := .int (jI (dv))) (C := RX4) (T := TX4) (N := 17) hx hb hts (fun w h => List.mem_cons_of_mem _ (uw_X4 w h)) hown hK (j_P1 hm0) 0 rfl rfl 1 (by decide) (hts _ (List.mem_cons_of_mem _ kw_419)) (fun _ h9 => h9) rfl dX4_device_19 ?_
      refine jv_bipush hx hb dX4_device_22 (by decide) ?_
      refine jv_icmp_ne (tgt := 31) hx hb dX4_device_24 (by decide) (by omega) (by omega) (fun c24 => ?_) (fun c24 => ?_)
      · exact absurd c24 (by omega)
      · refine jv_iconst hx hb dX4_device_27 ?_
        refine lv_goto (tgt := 32) hx hb dX4_device_28 (by decide) ?_
        refine jv_put (D := D) (ci := 4) (v := .int (jI (2))) (ty := .int) (C := RX4) (T := TX4) (N := 17) hx hb hts (fun w h => List.mem_cons_of_mem _ (uw_X4 w h)) tyX4 tyX4_ok nmX4 hown hK hm0 rfl 0 (by decide) (hts _ (List.mem_cons_of_mem _ kw_418)) (fun _ h9 => h9) rfl (by decide +kernel) rfl rfl (Nat.le_of_ble_eq_true rfl) dX4_device_32 (fun H f9 hn9 hz9 oq9 => ?_)
        have hPic : mW D g am 2 dv vo ab be AA H := mW_obj hj hPic oq9 hn9
        have hT0 := hT0.put 0 (by omega) hz9 oq9 (f := f9)
        have hm0 := hPic.1
        have hm1 : va_at D vwCl (am 1, .inl (g 0, 8, .inl (fun j => jI (AA 1 j)))) H := hPic.2 1 (by omega) (by omega)
        refine lv_aload_n hx hb dX4_device_35 rfl (lv_at hl 0 rfl) ?_
        refine va_get (D := D) (ci := 4) (v := .int (jI (2))) (C := RX4) (T := TX4) (N := 17) hx hb hts (fun w h => List.mem_cons_of_mem _ (uw_X4 w h)) hown hK (j_P1 hm0) 0 rfl rfl 0 (by decide) (hts _ (List.mem_cons_of_mem _ kw_418)) (fun _ h9 => h9) rfl dX4_device_36 ?_
        refine jv_if_le (tgt := 44) hx hb dX4_device_39 (by decide) (by omega) (fun c39 => ?_) (fun c39 => ?_)
        · exact absurd c39 (by omega)
        · refine jv_iconst hx hb dX4_device_42 ?_
          exact m_iret hx hb hr hlocks dX4_device_43 ⟨rfl, hR⟩ hPic hT0 (by rfl)
    · exact absurd (of_decide_eq_false (bI_fa c11)) (by omega)
set_option maxHeartbeats 4000000 in
set_option maxRecDepth 100000 in
theorem b_point1 (l : Launch) (D : va_G) (g : Nat → ClassId) (am : Nat → Nat) (cd dv vo ab be : Int) (AA : Nat → Nat → Int) (z : bSt) (hz : bOK z) (hR : mR z dv vo AA) (d pl le mo : Int) (h_d : -2147483648 ≤ d ∧ d < 2147483648) (h_pl : -2147483648 ≤ pl ∧ pl < 2147483648) (h_le : -2147483648 ≤ le ∧ le < 2147483648) (h_mo : -2147483648 ≤ mo ∧ mo < 2147483648) (hbad : ¬ ((0 ≤ d ∧ d ≤ dv - 1) ∧ (1 ≤ pl ∧ pl ≤ 5000) ∧ (0 ≤ le ∧ le ≤ 100000) ∧ (0 ≤ mo ∧ mo ≤ 100000) ∧ le ≤ mo)) (hj : mInj am) : Met l yX4_point wsX4_point ({ frames := 2, cells := 0, slots := 0, locals := 43 }) (pu_Pc [.ref (am 0), .int (jI (d)), .int (jI (pl)), .int (jI (le)), .int (jI (mo))] D vwCl (ty9 g) (fun H => mW D g am cd dv vo ab be AA H)) (mQ D g am (some (.int (jI (0)))) (fun c n v A _ _ => c = 1 ∧ mR z n v A)) 0 0 (mFr am) := by
  refine Met.ofW (cc := cX4_point) (maxL := 7) (ret := some .int) (by decide) rfl ?_
  intro p e s m args below meth c s₁ B hml hv
  obtain ⟨rfl, hPic, hK⟩ := hv
  have hx := B.exec
  have hb := B.bytes
  have hr := B.returns
  have hts := atoms_spec (ws := wsX4_point) B.pre
  have hown : s.vm.findClass RX4 = some m.cls := findClass_of_methodNamed B.named
  have hlocks := B.notSynchronized
  have hm0 := hPic.1
  have hm1 : va_at D vwCl (am 1, .inl (g 0, 8, .inl (fun j => jI (AA 1 j)))) s.heap := hPic.2 1 (by omega) (by omega)
  have hdv := hR.1
  have hN := hz.1
  have hl := lv_entry ([.ref (am 0), .int (jI (d)), .int (jI (pl)), .int (jI (le)), .int (jI (mo))]) (n := 7) (Nat.le_of_ble_eq_true rfl)
  rw [lg_entry_eq]
  generalize (lg_sl ([.ref (am 0), .int (jI (d)), .int (jI (pl)), .int (jI (le)), .int (jI (mo))]) ++ List.replicate (7 - (lg_sl ([.ref (am 0), .int (jI (d)), .int (jI (pl)), .int (jI (le)), .int (jI (mo))])).length) Slot.unset).toArray = ls at hl ⊢
  have hl : lv_has ls 7 [(0, .ref (am 0)), (1, .int (jI (d))), (2, .int (jI (pl))), (3, .int (jI (le))), (4, .int (jI (mo)))] := hl
  have hT0 : mTo am s.heap s.heap [] := mTo.rf
  refine lv_aload_n hx hb dX4_point_0 rfl (lv_at hl 0 rfl) ?_
  refine lv_iload_n hx hb dX4_point_1 rfl (lv_at hl 1 rfl) ?_
  refine pu_call1 (va_runV (As := [.int (jI (d))]) (rest := []) ⟨hx, hb, hml, hown, hts⟩ (k_isDevice l D g am cd dv vo ab be AA d (by omega) (by omega)) (cwV 1 hts (gd_V kw_478 kw_480 kw_3 kw_16 kcX4_isDevice) rfl rfl rfl (by decide +kernel) ⟨Nat.le_of_ble_eq_true rfl, Nat.le_of_ble_eq_true rfl⟩) (pu_preV hPic hK rfl hm0) rfl rfl hl.1 rfl (lv_room (Nat.le_of_ble_eq_true rfl)) dX4_point_2 ⟨Nat.zero_le _, Nat.zero_le _⟩) ?_
  refine jv_if_eq (tgt := 50) hx hb dX4_point_5 (by decide) (bI_rng _) (fun c5 => ?_) (fun c5 => ?_)
  · have c5 := of_decide_eq_false (bI_fa c5)
    refine jv_iconst hx hb dX4_point_50 ?_
    refine lv_istore (lv' := [(5, .int (jI (0))), (0, .ref (am 0)), (1, .int (jI (d))), (2, .int (jI (pl))), (3, .int (jI (le))), (4, .int (jI (mo)))]) hx hb dX4_point_51 hl (by decide) rfl (fun ls hl => ?_)
    refine lv_aload_n hx hb dX4_point_53 rfl (lv_at hl 1 rfl) ?_
    refine lv_iload hx hb dX4_point_54 (lv_at hl 0 rfl) ?_
    refine jv_if_ne (tgt := 63) hx hb dX4_point_56 (by decide) (by omega) (fun c56 => ?_) (fun c56 => ?_)
    · exact absurd c56 (by omega)
    · refine jv_iconst hx hb dX4_point_59 ?_
      refine lv_goto (tgt := 110) hx hb dX4_point_60 (by decide) ?_
      refine jv_put (D := D) (ci := 4) (v := .int (jI (1))) (ty := .int) (C := RX4) (T := TX4) (N := 17) hx hb hts (fun w h => List.mem_cons_of_mem _ (uw_X4 w h)) tyX4 tyX4_ok nmX4 hown hK hm0 rfl 0 (by decide) (hts _ (List.mem_cons_of_mem _ kw_418)) (fun _ h9 => h9) rfl (by decide +kernel) rfl rfl (Nat.le_of_ble_eq_true rfl) dX4_point_110 (fun H f9 hn9 hz9 oq9 => ?_)
      have hPic : mW D g am 1 dv vo ab be AA H := mW_obj hj hPic oq9 hn9
      have hT0 := hT0.put 0 (by omega) hz9 oq9 (f := f9)
      have hm0 := hPic.1
      have hm1 : va_at D vwCl (am 1, .inl (g 0, 8, .inl (fun j => jI (AA 1 j)))) H := hPic.2 1 (by omega) (by omega)
      refine lv_aload_n hx hb dX4_point_113 rfl (lv_at hl 1 rfl) ?_
      refine va_get (D := D) (ci := 4) (v := .int (jI (1))) (C := RX4) (T := TX4) (N := 17) hx hb hts (fun w h => List.mem_cons_of_mem _ (uw_X4 w h)) hown hK (j_P1 hm0) 0 rfl rfl 0 (by decide) (hts _ (List.mem_cons_of_mem _ kw_418)) (fun _ h9 => h9) rfl dX4_point_114 ?_
      refine jv_if_le (tgt := 122) hx hb dX4_point_117 (by decide) (by omega) (fun c117 => ?_) (fun c117 => ?_)
      · exact absurd c117 (by omega)
      · refine jv_iconst hx hb dX4_point_120 ?_
        exact m_iret hx hb hr hlocks dX4_point_121 ⟨rfl, hR⟩ hPic hT0 (by rfl)
  · have c5 := of_decide_eq_true (bI_tr c5)
    refine lv_iload_n hx hb dX4_point_8 rfl (lv_at hl 2 rfl) ?_
    refine jv_iconst hx hb dX4_point_9 ?_
    refine jv_sipush hx hb dX4_point_10 (by decide) ?_
    refine pu_call1 (va_runS (As := [.int (jI (pl)), .int (jI (1)), .int (jI (5000))]) (rest := []) ⟨hx, hb, hml, hown, hts⟩ (k_in l D g pl 1 5000 (by omega) (by omega) (by omega)) (cwS 3 hts (gd_S kw_482 kw_483 kw_16 kcX4_in) rfl rfl rfl (by decide +kernel) ⟨Nat.le_of_ble_eq_true rfl, Nat.le_of_ble_eq_true rfl⟩) (pu_preS trivial hK) rfl rfl hl.1 rfl (lv_room (Nat.le_of_ble_eq_true rfl)) dX4_point_13 ⟨Nat.zero_le _, Nat.zero_le _⟩) ?_
    refine jv_if_eq (tgt := 50) hx hb dX4_point_16 (by decide) (bI_rng _) (fun c16 => ?_) (fun c16 => ?_)
    · have c16 := of_decide_eq_false (bI_fa c16)
      refine jv_iconst hx hb dX4_point_50 ?_
      refine lv_istore (lv' := [(5, .int (jI (0))), (0, .ref (am 0)), (1, .int (jI (d))), (2, .int (jI (pl))), (3, .int (jI (le))), (4, .int (jI (mo)))]) hx hb dX4_point_51 hl (by decide) rfl (fun ls hl => ?_)
      refine lv_aload_n hx hb dX4_point_53 rfl (lv_at hl 1 rfl) ?_
      refine lv_iload hx hb dX4_point_54 (lv_at hl 0 rfl) ?_
      refine jv_if_ne (tgt := 63) hx hb dX4_point_56 (by decide) (by omega) (fun c56 => ?_) (fun c56 => ?_)
      · exact absurd c56 (by omega)
      · refine jv_iconst hx hb dX4_point_59 ?_
        refine lv_goto (tgt := 110) hx hb dX4_point_60 (by decide) ?_
        refine jv_put (D := D) (ci := 4) (v := .int (jI (1))) (ty := .int) (C := RX4) (T := TX4) (N := 17) hx hb hts (fun w h => List.mem_cons_of_mem _ (uw_X4 w h)) tyX4 tyX4_ok nmX4 hown hK hm0 rfl 0 (by decide) (hts _ (List.mem_cons_of_mem _ kw_418)) (fun _ h9 => h9) rfl (by decide +kernel) rfl rfl (Nat.le_of_ble_eq_true rfl) dX4_point_110 (fun H f9 hn9 hz9 oq9 => ?_)
        have hPic : mW D g am 1 dv vo ab be AA H := mW_obj hj hPic oq9 hn9
        have hT0 := hT0.put 0 (by omega) hz9 oq9 (f := f9)
        have hm0 := hPic.1
        have hm1 : va_at D vwCl (am 1, .inl (g 0, 8, .inl (fun j => jI (AA 1 j)))) H := hPic.2 1 (by omega) (by omega)
        refine lv_aload_n hx hb dX4_point_113 rfl (lv_at hl 1 rfl) ?_
        refine va_get (D := D) (ci := 4) (v := .int (jI (1))) (C := RX4) (T := TX4) (N := 17) hx hb hts (fun w h => List.mem_cons_of_mem _ (uw_X4 w h)) hown hK (j_P1 hm0) 0 rfl rfl 0 (by decide) (hts _ (List.mem_cons_of_mem _ kw_418)) (fun _ h9 => h9) rfl dX4_point_114 ?_
        refine jv_if_le (tgt := 122) hx hb dX4_point_117 (by decide) (by omega) (fun c117 => ?_) (fun c117 => ?_)
        · exact absurd c117 (by omega)
        · refine jv_iconst hx hb dX4_point_120 ?_
          exact m_iret hx hb hr hlocks dX4_point_121 ⟨rfl, hR⟩ hPic hT0 (by rfl)
    · have c16 := of_decide_eq_true (bI_tr c16)
      refine lv_iload_n hx hb dX4_point_19 rfl (lv_at hl 3 rfl) ?_
      refine jv_iconst hx hb dX4_point_20 ?_
      refine jv_ldc (k := 100000) hx hb hown (hts _ (List.mem_cons_of_mem _ kw_489)) (by decide) dX4_point_21 ?_
      refine pu_call1 (va_runS (As := [.int (jI (le)), .int (jI (0)), .int (jI (100000))]) (rest := []) ⟨hx, hb, hml, hown, hts⟩ (k_in l D g le 0 100000 (by omega) (by omega) (by omega)) (cwS 3 hts (gd_S kw_482 kw_483 kw_16 kcX4_in) rfl rfl rfl (by decide +kernel) ⟨Nat.le_of_ble_eq_true rfl, Nat.le_of_ble_eq_true rfl⟩) (pu_preS trivial hK) rfl rfl hl.1 rfl (lv_room (Nat.le_of_ble_eq_true rfl)) dX4_point_23 ⟨Nat.zero_le _, Nat.zero_le _⟩) ?_
      refine jv_if_eq (tgt := 50) hx hb dX4_point_26 (by decide) (bI_rng _) (fun c26 => ?_) (fun c26 => ?_)
      · have c26 := of_decide_eq_false (bI_fa c26)
        refine jv_iconst hx hb dX4_point_50 ?_
        refine lv_istore (lv' := [(5, .int (jI (0))), (0, .ref (am 0)), (1, .int (jI (d))), (2, .int (jI (pl))), (3, .int (jI (le))), (4, .int (jI (mo)))]) hx hb dX4_point_51 hl (by decide) rfl (fun ls hl => ?_)
        refine lv_aload_n hx hb dX4_point_53 rfl (lv_at hl 1 rfl) ?_
        refine lv_iload hx hb dX4_point_54 (lv_at hl 0 rfl) ?_
        refine jv_if_ne (tgt := 63) hx hb dX4_point_56 (by decide) (by omega) (fun c56 => ?_) (fun c56 => ?_)
        · exact absurd c56 (by omega)
        · refine jv_iconst hx hb dX4_point_59 ?_
          refine lv_goto (tgt := 110) hx hb dX4_point_60 (by decide) ?_
          refine jv_put (D := D) (ci := 4) (v := .int (jI (1))) (ty := .int) (C := RX4) (T := TX4) (N := 17) hx hb hts (fun w h => List.mem_cons_of_mem _ (uw_X4 w h)) tyX4 tyX4_ok nmX4 hown hK hm0 rfl 0 (by decide) (hts _ (List.mem_cons_of_mem _ kw_418)) (fun _ h9 => h9) rfl (by decide +kernel) rfl rfl (Nat.le_of_ble_eq_true rfl) dX4_point_110 (fun H f9 hn9 hz9 oq9 => ?_)
          have hPic : mW D g am 1 dv vo ab be AA H := mW_obj hj hPic oq9 hn9
          have hT0 := hT0.put 0 (by omega) hz9 oq9 (f := f9)
          have hm0 := hPic.1
          have hm1 : va_at D vwCl (am 1, .inl (g 0, 8, .inl (fun j => jI (AA 1 j)))) H := hPic.2 1 (by omega) (by omega)
          refine lv_aload_n hx hb dX4_point_113 rfl (lv_at hl 1 rfl) ?_
          refine va_get (D := D) (ci := 4) (v := .int (jI (1))) (C := RX4) (T := TX4) (N := 17) hx hb hts (fun w h => List.mem_cons_of_mem _ (uw_X4 w h)) hown hK (j_P1 hm0) 0 rfl rfl 0 (by decide) (hts _ (List.mem_cons_of_mem _ kw_418)) (fun _ h9 => h9) rfl dX4_point_114 ?_
          refine jv_if_le (tgt := 122) hx hb dX4_point_117 (by decide) (by omega) (fun c117 => ?_) (fun c117 => ?_)
          · exact absurd c117 (by omega)
          · refine jv_iconst hx hb dX4_point_120 ?_
            exact m_iret hx hb hr hlocks dX4_point_121 ⟨rfl, hR⟩ hPic hT0 (by rfl)
      · have c26 := of_decide_eq_true (bI_tr c26)
        refine lv_iload hx hb dX4_point_29 (lv_at hl 4 rfl) ?_
        refine jv_iconst hx hb dX4_point_31 ?_
        refine jv_ldc (k := 100000) hx hb hown (hts _ (List.mem_cons_of_mem _ kw_489)) (by decide) dX4_point_32 ?_
        refine pu_call1 (va_runS (As := [.int (jI (mo)), .int (jI (0)), .int (jI (100000))]) (rest := []) ⟨hx, hb, hml, hown, hts⟩ (k_in l D g mo 0 100000 (by omega) (by omega) (by omega)) (cwS 3 hts (gd_S kw_482 kw_483 kw_16 kcX4_in) rfl rfl rfl (by decide +kernel) ⟨Nat.le_of_ble_eq_true rfl, Nat.le_of_ble_eq_true rfl⟩) (pu_preS trivial hK) rfl rfl hl.1 rfl (lv_room (Nat.le_of_ble_eq_true rfl)) dX4_point_34 ⟨Nat.zero_le _, Nat.zero_le _⟩) ?_
        refine jv_if_eq (tgt := 50) hx hb dX4_point_37 (by decide) (bI_rng _) (fun c37 => ?_) (fun c37 => ?_)
        · have c37 := of_decide_eq_false (bI_fa c37)
          refine jv_iconst hx hb dX4_point_50 ?_
          refine lv_istore (lv' := [(5, .int (jI (0))), (0, .ref (am 0)), (1, .int (jI (d))), (2, .int (jI (pl))), (3, .int (jI (le))), (4, .int (jI (mo)))]) hx hb dX4_point_51 hl (by decide) rfl (fun ls hl => ?_)
          refine lv_aload_n hx hb dX4_point_53 rfl (lv_at hl 1 rfl) ?_
          refine lv_iload hx hb dX4_point_54 (lv_at hl 0 rfl) ?_
          refine jv_if_ne (tgt := 63) hx hb dX4_point_56 (by decide) (by omega) (fun c56 => ?_) (fun c56 => ?_)
          · exact absurd c56 (by omega)
          · refine jv_iconst hx hb dX4_point_59 ?_
            refine lv_goto (tgt := 110) hx hb dX4_point_60 (by decide) ?_
            refine jv_put (D := D) (ci := 4) (v := .int (jI (1))) (ty := .int) (C := RX4) (T := TX4) (N := 17) hx hb hts (fun w h => List.mem_cons_of_mem _ (uw_X4 w h)) tyX4 tyX4_ok nmX4 hown hK hm0 rfl 0 (by decide) (hts _ (List.mem_cons_of_mem _ kw_418)) (fun _ h9 => h9) rfl (by decide +kernel) rfl rfl (Nat.le_of_ble_eq_true rfl) dX4_point_110 (fun H f9 hn9 hz9 oq9 => ?_)
            have hPic : mW D g am 1 dv vo ab be AA H := mW_obj hj hPic oq9 hn9
            have hT0 := hT0.put 0 (by omega) hz9 oq9 (f := f9)
            have hm0 := hPic.1
            have hm1 : va_at D vwCl (am 1, .inl (g 0, 8, .inl (fun j => jI (AA 1 j)))) H := hPic.2 1 (by omega) (by omega)
            refine lv_aload_n hx hb dX4_point_113 rfl (lv_at hl 1 rfl) ?_
            refine va_get (D := D) (ci := 4) (v := .int (jI (1))) (C := RX4) (T := TX4) (N := 17) hx hb hts (fun w h => List.mem_cons_of_mem _ (uw_X4 w h)) hown hK (j_P1 hm0) 0 rfl rfl 0 (by decide) (hts _ (List.mem_cons_of_mem _ kw_418)) (fun _ h9 => h9) rfl dX4_point_114 ?_
            refine jv_if_le (tgt := 122) hx hb dX4_point_117 (by decide) (by omega) (fun c117 => ?_) (fun c117 => ?_)
            · exact absurd c117 (by omega)
            · refine jv_iconst hx hb dX4_point_120 ?_
              exact m_iret hx hb hr hlocks dX4_point_121 ⟨rfl, hR⟩ hPic hT0 (by rfl)
        · have c37 := of_decide_eq_true (bI_tr c37)
          refine lv_iload_n hx hb dX4_point_40 rfl (lv_at hl 3 rfl) ?_
          refine lv_iload hx hb dX4_point_41 (lv_at hl 4 rfl) ?_
          refine jv_icmp_gt (tgt := 50) hx hb dX4_point_43 (by decide) (by omega) (by omega) (fun c43 => ?_) (fun c43 => ?_)
          · refine jv_iconst hx hb dX4_point_50 ?_
            refine lv_istore (lv' := [(5, .int (jI (0))), (0, .ref (am 0)), (1, .int (jI (d))), (2, .int (jI (pl))), (3, .int (jI (le))), (4, .int (jI (mo)))]) hx hb dX4_point_51 hl (by decide) rfl (fun ls hl => ?_)
            refine lv_aload_n hx hb dX4_point_53 rfl (lv_at hl 1 rfl) ?_
            refine lv_iload hx hb dX4_point_54 (lv_at hl 0 rfl) ?_
            refine jv_if_ne (tgt := 63) hx hb dX4_point_56 (by decide) (by omega) (fun c56 => ?_) (fun c56 => ?_)
            · exact absurd c56 (by omega)
            · refine jv_iconst hx hb dX4_point_59 ?_
              refine lv_goto (tgt := 110) hx hb dX4_point_60 (by decide) ?_
              refine jv_put (D := D) (ci := 4) (v := .int (jI (1))) (ty := .int) (C := RX4) (T := TX4) (N := 17) hx hb hts (fun w h => List.mem_cons_of_mem _ (uw_X4 w h)) tyX4 tyX4_ok nmX4 hown hK hm0 rfl 0 (by decide) (hts _ (List.mem_cons_of_mem _ kw_418)) (fun _ h9 => h9) rfl (by decide +kernel) rfl rfl (Nat.le_of_ble_eq_true rfl) dX4_point_110 (fun H f9 hn9 hz9 oq9 => ?_)
              have hPic : mW D g am 1 dv vo ab be AA H := mW_obj hj hPic oq9 hn9
              have hT0 := hT0.put 0 (by omega) hz9 oq9 (f := f9)
              have hm0 := hPic.1
              have hm1 : va_at D vwCl (am 1, .inl (g 0, 8, .inl (fun j => jI (AA 1 j)))) H := hPic.2 1 (by omega) (by omega)
              refine lv_aload_n hx hb dX4_point_113 rfl (lv_at hl 1 rfl) ?_
              refine va_get (D := D) (ci := 4) (v := .int (jI (1))) (C := RX4) (T := TX4) (N := 17) hx hb hts (fun w h => List.mem_cons_of_mem _ (uw_X4 w h)) hown hK (j_P1 hm0) 0 rfl rfl 0 (by decide) (hts _ (List.mem_cons_of_mem _ kw_418)) (fun _ h9 => h9) rfl dX4_point_114 ?_
              refine jv_if_le (tgt := 122) hx hb dX4_point_117 (by decide) (by omega) (fun c117 => ?_) (fun c117 => ?_)
              · exact absurd c117 (by omega)
              · refine jv_iconst hx hb dX4_point_120 ?_
                exact m_iret hx hb hr hlocks dX4_point_121 ⟨rfl, hR⟩ hPic hT0 (by rfl)
          · exact absurd c43 (by omega)
set_option maxHeartbeats 4000000 in
set_option maxRecDepth 100000 in
theorem b_point2 (l : Launch) (D : va_G) (g : Nat → ClassId) (am : Nat → Nat) (cd dv vo ab be : Int) (AA : Nat → Nat → Int) (z : bSt) (hz : bOK z) (hR : mR z dv vo AA) (d k : Nat) (pl le mo : Int) (hd : d < bN z) (hk : bK z d = k) (hpl : 1 ≤ pl ∧ pl ≤ 5000) (hle : 0 ≤ le ∧ le ≤ mo) (hmo : mo ≤ 100000) (h2 : k = 6 ∨ (0 < k ∧ pl ≤ bP z d (k - 1))) (hj : mInj am) : Met l yX4_point wsX4_point ({ frames := 2, cells := 0, slots := 0, locals := 43 }) (pu_Pc [.ref (am 0), .int (jI ((d : Int))), .int (jI (pl)), .int (jI (le)), .int (jI (mo))] D vwCl (ty9 g) (fun H => mW D g am cd dv vo ab be AA H)) (mQ D g am (some (.int (jI (0)))) (fun c n v A _ _ => c = 2 ∧ mR z n v A)) 0 0 (mFr am) := by
  refine Met.ofW (cc := cX4_point) (maxL := 7) (ret := some .int) (by decide) rfl ?_
  intro p e s m args below meth c s₁ B hml hv
  obtain ⟨rfl, hPic, hK⟩ := hv
  have hx := B.exec
  have hb := B.bytes
  have hr := B.returns
  have hts := atoms_spec (ws := wsX4_point) B.pre
  have hown : s.vm.findClass RX4 = some m.cls := findClass_of_methodNamed B.named
  have hlocks := B.notSynchronized
  have hm0 := hPic.1
  have hm2 : va_at D vwCl (am 2, .inl (g 0, 8, .inl (fun j => jI (AA 2 j)))) s.heap := hPic.2 2 (by omega) (by omega)
  have hm3 : va_at D vwCl (am 3, .inl (g 0, 48, .inl (fun j => jI (AA 3 j)))) s.heap := hPic.2 3 (by omega) (by omega)
  have hdv := hR.1
  have hN := hz.1
  obtain ⟨e1_d, e2_d, e3_d, e6_d, e7_d, e9_d, e10_d⟩ := hR.2.2 d hd
  have f_d := hz.2.2.1 d (by have := hz.1; omega)
  have hN := hz.1
  rw [hk] at e2_d
  have k6 : bK z d ≤ 6 := (f_d.2.2.2.2.2 0 (by omega)).1
  have fQ : ∀ i, i < bK z d → 1 ≤ bP z d i ∧ bP z d i ≤ 5000 := (f_d.2.2.2.2.2 0 (by omega)).2.1
  have hl := lv_entry ([.ref (am 0), .int (jI ((d : Int))), .int (jI (pl)), .int (jI (le)), .int (jI (mo))]) (n := 7) (Nat.le_of_ble_eq_true rfl)
  rw [lg_entry_eq]
  generalize (lg_sl ([.ref (am 0), .int (jI ((d : Int))), .int (jI (pl)), .int (jI (le)), .int (jI (mo))]) ++ List.replicate (7 - (lg_sl ([.ref (am 0), .int (jI ((d : Int))), .int (jI (pl)), .int (jI (le)), .int (jI (mo))])).length) Slot.unset).toArray = ls at hl ⊢
  have hl : lv_has ls 7 [(0, .ref (am 0)), (1, .int (jI ((d : Int)))), (2, .int (jI (pl))), (3, .int (jI (le))), (4, .int (jI (mo)))] := hl
  have hT0 : mTo am s.heap s.heap [] := mTo.rf
  refine lv_aload_n hx hb dX4_point_0 rfl (lv_at hl 0 rfl) ?_
  refine lv_iload_n hx hb dX4_point_1 rfl (lv_at hl 1 rfl) ?_
  refine pu_call1 (va_runV (As := [.int (jI ((d : Int)))]) (rest := []) ⟨hx, hb, hml, hown, hts⟩ (k_isDevice l D g am cd dv vo ab be AA (d : Int) (by omega) (by omega)) (cwV 1 hts (gd_V kw_478 kw_480 kw_3 kw_16 kcX4_isDevice) rfl rfl rfl (by decide +kernel) ⟨Nat.le_of_ble_eq_true rfl, Nat.le_of_ble_eq_true rfl⟩) (pu_preV hPic hK rfl hm0) rfl rfl hl.1 rfl (lv_room (Nat.le_of_ble_eq_true rfl)) dX4_point_2 ⟨Nat.zero_le _, Nat.zero_le _⟩) ?_
  refine jv_if_eq (tgt := 50) hx hb dX4_point_5 (by decide) (bI_rng _) (fun c5 => ?_) (fun c5 => ?_)
  · exact absurd (of_decide_eq_false (bI_fa c5)) (by omega)
  · have c5 := of_decide_eq_true (bI_tr c5)
    refine lv_iload_n hx hb dX4_point_8 rfl (lv_at hl 2 rfl) ?_
    refine jv_iconst hx hb dX4_point_9 ?_
    refine jv_sipush hx hb dX4_point_10 (by decide) ?_
    refine pu_call1 (va_runS (As := [.int (jI (pl)), .int (jI (1)), .int (jI (5000))]) (rest := []) ⟨hx, hb, hml, hown, hts⟩ (k_in l D g pl 1 5000 (by omega) (by omega) (by omega)) (cwS 3 hts (gd_S kw_482 kw_483 kw_16 kcX4_in) rfl rfl rfl (by decide +kernel) ⟨Nat.le_of_ble_eq_true rfl, Nat.le_of_ble_eq_true rfl⟩) (pu_preS trivial hK) rfl rfl hl.1 rfl (lv_room (Nat.le_of_ble_eq_true rfl)) dX4_point_13 ⟨Nat.zero_le _, Nat.zero_le _⟩) ?_
    refine jv_if_eq (tgt := 50) hx hb dX4_point_16 (by decide) (bI_rng _) (fun c16 => ?_) (fun c16 => ?_)
    · exact absurd (of_decide_eq_false (bI_fa c16)) (by omega)
    · have c16 := of_decide_eq_true (bI_tr c16)
      refine lv_iload_n hx hb dX4_point_19 rfl (lv_at hl 3 rfl) ?_
      refine jv_iconst hx hb dX4_point_20 ?_
      refine jv_ldc (k := 100000) hx hb hown (hts _ (List.mem_cons_of_mem _ kw_489)) (by decide) dX4_point_21 ?_
      refine pu_call1 (va_runS (As := [.int (jI (le)), .int (jI (0)), .int (jI (100000))]) (rest := []) ⟨hx, hb, hml, hown, hts⟩ (k_in l D g le 0 100000 (by omega) (by omega) (by omega)) (cwS 3 hts (gd_S kw_482 kw_483 kw_16 kcX4_in) rfl rfl rfl (by decide +kernel) ⟨Nat.le_of_ble_eq_true rfl, Nat.le_of_ble_eq_true rfl⟩) (pu_preS trivial hK) rfl rfl hl.1 rfl (lv_room (Nat.le_of_ble_eq_true rfl)) dX4_point_23 ⟨Nat.zero_le _, Nat.zero_le _⟩) ?_
      refine jv_if_eq (tgt := 50) hx hb dX4_point_26 (by decide) (bI_rng _) (fun c26 => ?_) (fun c26 => ?_)
      · exact absurd (of_decide_eq_false (bI_fa c26)) (by omega)
      · have c26 := of_decide_eq_true (bI_tr c26)
        refine lv_iload hx hb dX4_point_29 (lv_at hl 4 rfl) ?_
        refine jv_iconst hx hb dX4_point_31 ?_
        refine jv_ldc (k := 100000) hx hb hown (hts _ (List.mem_cons_of_mem _ kw_489)) (by decide) dX4_point_32 ?_
        refine pu_call1 (va_runS (As := [.int (jI (mo)), .int (jI (0)), .int (jI (100000))]) (rest := []) ⟨hx, hb, hml, hown, hts⟩ (k_in l D g mo 0 100000 (by omega) (by omega) (by omega)) (cwS 3 hts (gd_S kw_482 kw_483 kw_16 kcX4_in) rfl rfl rfl (by decide +kernel) ⟨Nat.le_of_ble_eq_true rfl, Nat.le_of_ble_eq_true rfl⟩) (pu_preS trivial hK) rfl rfl hl.1 rfl (lv_room (Nat.le_of_ble_eq_true rfl)) dX4_point_34 ⟨Nat.zero_le _, Nat.zero_le _⟩) ?_
        refine jv_if_eq (tgt := 50) hx hb dX4_point_37 (by decide) (bI_rng _) (fun c37 => ?_) (fun c37 => ?_)
        · exact absurd (of_decide_eq_false (bI_fa c37)) (by omega)
        · have c37 := of_decide_eq_true (bI_tr c37)
          refine lv_iload_n hx hb dX4_point_40 rfl (lv_at hl 3 rfl) ?_
          refine lv_iload hx hb dX4_point_41 (lv_at hl 4 rfl) ?_
          refine jv_icmp_gt (tgt := 50) hx hb dX4_point_43 (by decide) (by omega) (by omega) (fun c43 => ?_) (fun c43 => ?_)
          · exact absurd c43 (by omega)
          · refine jv_iconst hx hb dX4_point_46 ?_
            refine lv_goto (tgt := 51) hx hb dX4_point_47 (by decide) ?_
            refine lv_istore (lv' := [(5, .int (jI (1))), (0, .ref (am 0)), (1, .int (jI ((d : Int)))), (2, .int (jI (pl))), (3, .int (jI (le))), (4, .int (jI (mo)))]) hx hb dX4_point_51 hl (by decide) rfl (fun ls hl => ?_)
            refine lv_aload_n hx hb dX4_point_53 rfl (lv_at hl 1 rfl) ?_
            refine lv_iload hx hb dX4_point_54 (lv_at hl 0 rfl) ?_
            refine jv_if_ne (tgt := 63) hx hb dX4_point_56 (by decide) (by omega) (fun c56 => ?_) (fun c56 => ?_)
            · refine lv_aload_n hx hb dX4_point_63 rfl (lv_at hl 1 rfl) ?_
              refine va_get (D := D) (ci := 4) (v := .ref (am 2)) (C := RX4) (T := TX4) (N := 17) hx hb hts (fun w h => List.mem_cons_of_mem _ (uw_X4 w h)) hown hK (j_P1 hm0) 0 rfl rfl 3 (by decide) (hts _ (List.mem_cons_of_mem _ kw_421)) (fun _ h9 => h9) rfl dX4_point_64 ?_
              refine lv_iload_n hx hb dX4_point_67 rfl (lv_at hl 2 rfl) ?_
              refine jv_iald (i := d) hx hb hK hm2 0 rfl (by omega) (by omega) (by decide) dX4_point_68 ?_
              rw [e2_d]
              refine jv_bipush hx hb dX4_point_69 (by decide) ?_
              refine jv_icmp_eq (tgt := 105) hx hb dX4_point_71 (by decide) (by omega) (by omega) (fun c71 => ?_) (fun c71 => ?_)
              · refine jv_iconst hx hb dX4_point_105 ?_
                refine lv_goto (tgt := 110) hx hb dX4_point_106 (by decide) ?_
                refine jv_put (D := D) (ci := 4) (v := .int (jI (2))) (ty := .int) (C := RX4) (T := TX4) (N := 17) hx hb hts (fun w h => List.mem_cons_of_mem _ (uw_X4 w h)) tyX4 tyX4_ok nmX4 hown hK hm0 rfl 0 (by decide) (hts _ (List.mem_cons_of_mem _ kw_418)) (fun _ h9 => h9) rfl (by decide +kernel) rfl rfl (Nat.le_of_ble_eq_true rfl) dX4_point_110 (fun H f9 hn9 hz9 oq9 => ?_)
                have hPic : mW D g am 2 dv vo ab be AA H := mW_obj hj hPic oq9 hn9
                have hT0 := hT0.put 0 (by omega) hz9 oq9 (f := f9)
                have hm0 := hPic.1
                have hm1 : va_at D vwCl (am 1, .inl (g 0, 8, .inl (fun j => jI (AA 1 j)))) H := hPic.2 1 (by omega) (by omega)
                refine lv_aload_n hx hb dX4_point_113 rfl (lv_at hl 1 rfl) ?_
                refine va_get (D := D) (ci := 4) (v := .int (jI (2))) (C := RX4) (T := TX4) (N := 17) hx hb hts (fun w h => List.mem_cons_of_mem _ (uw_X4 w h)) hown hK (j_P1 hm0) 0 rfl rfl 0 (by decide) (hts _ (List.mem_cons_of_mem _ kw_418)) (fun _ h9 => h9) rfl dX4_point_114 ?_
                refine jv_if_le (tgt := 122) hx hb dX4_point_117 (by decide) (by omega) (fun c117 => ?_) (fun c117 => ?_)
                · exact absurd c117 (by omega)
                · refine jv_iconst hx hb dX4_point_120 ?_
                  exact m_iret hx hb hr hlocks dX4_point_121 ⟨rfl, hR⟩ hPic hT0 (by rfl)
              · refine lv_aload_n hx hb dX4_point_74 rfl (lv_at hl 1 rfl) ?_
                refine va_get (D := D) (ci := 4) (v := .ref (am 2)) (C := RX4) (T := TX4) (N := 17) hx hb hts (fun w h => List.mem_cons_of_mem _ (uw_X4 w h)) hown hK (j_P1 hm0) 0 rfl rfl 3 (by decide) (hts _ (List.mem_cons_of_mem _ kw_421)) (fun _ h9 => h9) rfl dX4_point_75 ?_
                refine lv_iload_n hx hb dX4_point_78 rfl (lv_at hl 2 rfl) ?_
                refine jv_iald (i := d) hx hb hK hm2 0 rfl (by omega) (by omega) (by decide) dX4_point_79 ?_
                rw [e2_d]
                refine jv_if_le (tgt := 109) hx hb dX4_point_80 (by decide) (by omega) (fun c80 => ?_) (fun c80 => ?_)
                · exact absurd c80 (by omega)
                · have s3 : AA 3 (6 * d + (k - 1)) = bP z d (k - 1) := (e3_d (k - 1) (by omega)).1
                  have g3 := fQ (k - 1) (by omega)
                  refine lv_aload_n hx hb dX4_point_83 rfl (lv_at hl 1 rfl) ?_
                  refine va_get (D := D) (ci := 4) (v := .ref (am 3)) (C := RX4) (T := TX4) (N := 17) hx hb hts (fun w h => List.mem_cons_of_mem _ (uw_X4 w h)) hown hK (j_P1 hm0) 0 rfl rfl 4 (by decide) (hts _ (List.mem_cons_of_mem _ kw_422)) (fun _ h9 => h9) rfl dX4_point_84 ?_
                  refine jv_bipush hx hb dX4_point_87 (by decide) ?_
                  refine lv_iload_n hx hb dX4_point_89 rfl (lv_at hl 2 rfl) ?_
                  refine jv_imul hx hb dX4_point_90 ?_
                  refine lv_aload_n hx hb dX4_point_91 rfl (lv_at hl 1 rfl) ?_
                  refine va_get (D := D) (ci := 4) (v := .ref (am 2)) (C := RX4) (T := TX4) (N := 17) hx hb hts (fun w h => List.mem_cons_of_mem _ (uw_X4 w h)) hown hK (j_P1 hm0) 0 rfl rfl 3 (by decide) (hts _ (List.mem_cons_of_mem _ kw_421)) (fun _ h9 => h9) rfl dX4_point_92 ?_
                  refine lv_iload_n hx hb dX4_point_95 rfl (lv_at hl 2 rfl) ?_
                  refine jv_iald (i := d) hx hb hK hm2 0 rfl (by omega) (by omega) (by decide) dX4_point_96 ?_
                  rw [e2_d]
                  refine jv_iadd hx hb dX4_point_97 ?_
                  refine jv_iconst hx hb dX4_point_98 ?_
                  refine jv_isub hx hb dX4_point_99 ?_
                  refine jv_iald (i := (6 * d + (k - 1))) hx hb hK hm3 0 rfl (by omega) (by omega) (by decide) dX4_point_100 ?_
                  rw [s3]
                  refine lv_iload_n hx hb dX4_point_101 rfl (lv_at hl 3 rfl) ?_
                  refine jv_icmp_lt (tgt := 109) hx hb dX4_point_102 (by decide) (by omega) (by omega) (fun c102 => ?_) (fun c102 => ?_)
                  · exact absurd c102 (by omega)
                  · refine jv_iconst hx hb dX4_point_105 ?_
                    refine lv_goto (tgt := 110) hx hb dX4_point_106 (by decide) ?_
                    refine jv_put (D := D) (ci := 4) (v := .int (jI (2))) (ty := .int) (C := RX4) (T := TX4) (N := 17) hx hb hts (fun w h => List.mem_cons_of_mem _ (uw_X4 w h)) tyX4 tyX4_ok nmX4 hown hK hm0 rfl 0 (by decide) (hts _ (List.mem_cons_of_mem _ kw_418)) (fun _ h9 => h9) rfl (by decide +kernel) rfl rfl (Nat.le_of_ble_eq_true rfl) dX4_point_110 (fun H f9 hn9 hz9 oq9 => ?_)
                    have hPic : mW D g am 2 dv vo ab be AA H := mW_obj hj hPic oq9 hn9
                    have hT0 := hT0.put 0 (by omega) hz9 oq9 (f := f9)
                    have hm0 := hPic.1
                    have hm1 : va_at D vwCl (am 1, .inl (g 0, 8, .inl (fun j => jI (AA 1 j)))) H := hPic.2 1 (by omega) (by omega)
                    refine lv_aload_n hx hb dX4_point_113 rfl (lv_at hl 1 rfl) ?_
                    refine va_get (D := D) (ci := 4) (v := .int (jI (2))) (C := RX4) (T := TX4) (N := 17) hx hb hts (fun w h => List.mem_cons_of_mem _ (uw_X4 w h)) hown hK (j_P1 hm0) 0 rfl rfl 0 (by decide) (hts _ (List.mem_cons_of_mem _ kw_418)) (fun _ h9 => h9) rfl dX4_point_114 ?_
                    refine jv_if_le (tgt := 122) hx hb dX4_point_117 (by decide) (by omega) (fun c117 => ?_) (fun c117 => ?_)
                    · exact absurd c117 (by omega)
                    · refine jv_iconst hx hb dX4_point_120 ?_
                      exact m_iret hx hb hr hlocks dX4_point_121 ⟨rfl, hR⟩ hPic hT0 (by rfl)
            · exact absurd c56 (by omega)
set_option maxHeartbeats 4000000 in
set_option maxRecDepth 100000 in
theorem b_option1 (l : Launch) (D : va_G) (g : Nat → ClassId) (am : Nat → Nat) (cd dv vo ab be : Int) (AA : Nat → Nat → Int) (z : bSt) (hz : bOK z) (hR : mR z dv vo AA) (d sc de : Int) (h_d : -2147483648 ≤ d ∧ d < 2147483648) (h_sc : -2147483648 ≤ sc ∧ sc < 2147483648) (h_de : -2147483648 ≤ de ∧ de < 2147483648) (hbad : ¬ ((0 ≤ d ∧ d ≤ dv - 1) ∧ (10 ≤ sc ∧ sc ≤ 1000) ∧ (0 ≤ de ∧ de ≤ 10000))) (hj : mInj am) : Met l yX4_option wsX4_option ({ frames := 2, cells := 0, slots := 0, locals := 43 }) (pu_Pc [.ref (am 0), .int (jI (d)), .int (jI (sc)), .int (jI (de))] D vwCl (ty9 g) (fun H => mW D g am cd dv vo ab be AA H)) (mQ D g am (some (.int (jI (0)))) (fun c n v A _ _ => c = 1 ∧ mR z n v A)) 0 0 (mFr am) := by
  refine Met.ofW (cc := cX4_option) (maxL := 4) (ret := some .int) (by decide) rfl ?_
  intro p e s m args below meth c s₁ B hml hv
  obtain ⟨rfl, hPic, hK⟩ := hv
  have hx := B.exec
  have hb := B.bytes
  have hr := B.returns
  have hts := atoms_spec (ws := wsX4_option) B.pre
  have hown : s.vm.findClass RX4 = some m.cls := findClass_of_methodNamed B.named
  have hlocks := B.notSynchronized
  have hm0 := hPic.1
  have hm1 : va_at D vwCl (am 1, .inl (g 0, 8, .inl (fun j => jI (AA 1 j)))) s.heap := hPic.2 1 (by omega) (by omega)
  have hdv := hR.1
  have hN := hz.1
  have hl := lv_entry ([.ref (am 0), .int (jI (d)), .int (jI (sc)), .int (jI (de))]) (n := 4) (Nat.le_of_ble_eq_true rfl)
  rw [lg_entry_eq]
  generalize (lg_sl ([.ref (am 0), .int (jI (d)), .int (jI (sc)), .int (jI (de))]) ++ List.replicate (4 - (lg_sl ([.ref (am 0), .int (jI (d)), .int (jI (sc)), .int (jI (de))])).length) Slot.unset).toArray = ls at hl ⊢
  have hl : lv_has ls 4 [(0, .ref (am 0)), (1, .int (jI (d))), (2, .int (jI (sc))), (3, .int (jI (de)))] := hl
  have hT0 : mTo am s.heap s.heap [] := mTo.rf
  refine lv_aload_n hx hb dX4_option_0 rfl (lv_at hl 0 rfl) ?_
  refine lv_aload_n hx hb dX4_option_1 rfl (lv_at hl 0 rfl) ?_
  refine lv_iload_n hx hb dX4_option_2 rfl (lv_at hl 1 rfl) ?_
  refine pu_call1 (va_runV (As := [.int (jI (d))]) (rest := [.ref (am 0)]) ⟨hx, hb, hml, hown, hts⟩ (k_isDevice l D g am cd dv vo ab be AA d (by omega) (by omega)) (cwV 1 hts (gd_V kw_478 kw_480 kw_3 kw_16 kcX4_isDevice) rfl rfl rfl (by decide +kernel) ⟨Nat.le_of_ble_eq_true rfl, Nat.le_of_ble_eq_true rfl⟩) (pu_preV hPic hK rfl hm0) rfl rfl hl.1 rfl (lv_room (Nat.le_of_ble_eq_true rfl)) dX4_option_3 ⟨Nat.zero_le _, Nat.zero_le _⟩) ?_
  refine jv_if_eq (tgt := 32) hx hb dX4_option_6 (by decide) (bI_rng _) (fun c6 => ?_) (fun c6 => ?_)
  · have c6 := of_decide_eq_false (bI_fa c6)
    refine jv_iconst hx hb dX4_option_32 ?_
    refine lv_goto (tgt := 51) hx hb dX4_option_33 (by decide) ?_
    refine jv_put (D := D) (ci := 4) (v := .int (jI (1))) (ty := .int) (C := RX4) (T := TX4) (N := 17) hx hb hts (fun w h => List.mem_cons_of_mem _ (uw_X4 w h)) tyX4 tyX4_ok nmX4 hown hK hm0 rfl 0 (by decide) (hts _ (List.mem_cons_of_mem _ kw_418)) (fun _ h9 => h9) rfl (by decide +kernel) rfl rfl (Nat.le_of_ble_eq_true rfl) dX4_option_51 (fun H f9 hn9 hz9 oq9 => ?_)
    have hPic : mW D g am 1 dv vo ab be AA H := mW_obj hj hPic oq9 hn9
    have hT0 := hT0.put 0 (by omega) hz9 oq9 (f := f9)
    have hm0 := hPic.1
    have hm1 : va_at D vwCl (am 1, .inl (g 0, 8, .inl (fun j => jI (AA 1 j)))) H := hPic.2 1 (by omega) (by omega)
    refine lv_aload_n hx hb dX4_option_54 rfl (lv_at hl 0 rfl) ?_
    refine va_get (D := D) (ci := 4) (v := .int (jI (1))) (C := RX4) (T := TX4) (N := 17) hx hb hts (fun w h => List.mem_cons_of_mem _ (uw_X4 w h)) hown hK (j_P1 hm0) 0 rfl rfl 0 (by decide) (hts _ (List.mem_cons_of_mem _ kw_418)) (fun _ h9 => h9) rfl dX4_option_55 ?_
    refine jv_if_le (tgt := 63) hx hb dX4_option_58 (by decide) (by omega) (fun c58 => ?_) (fun c58 => ?_)
    · exact absurd c58 (by omega)
    · refine jv_iconst hx hb dX4_option_61 ?_
      exact m_iret hx hb hr hlocks dX4_option_62 ⟨rfl, hR⟩ hPic hT0 (by rfl)
  · have c6 := of_decide_eq_true (bI_tr c6)
    refine lv_iload_n hx hb dX4_option_9 rfl (lv_at hl 2 rfl) ?_
    refine jv_bipush hx hb dX4_option_10 (by decide) ?_
    refine jv_sipush hx hb dX4_option_12 (by decide) ?_
    refine pu_call1 (va_runS (As := [.int (jI (sc)), .int (jI (10)), .int (jI (1000))]) (rest := [.ref (am 0)]) ⟨hx, hb, hml, hown, hts⟩ (k_in l D g sc 10 1000 (by omega) (by omega) (by omega)) (cwS 3 hts (gd_S kw_482 kw_483 kw_16 kcX4_in) rfl rfl rfl (by decide +kernel) ⟨Nat.le_of_ble_eq_true rfl, Nat.le_of_ble_eq_true rfl⟩) (pu_preS trivial hK) rfl rfl hl.1 rfl (lv_room (Nat.le_of_ble_eq_true rfl)) dX4_option_15 ⟨Nat.zero_le _, Nat.zero_le _⟩) ?_
    refine jv_if_eq (tgt := 32) hx hb dX4_option_18 (by decide) (bI_rng _) (fun c18 => ?_) (fun c18 => ?_)
    · have c18 := of_decide_eq_false (bI_fa c18)
      refine jv_iconst hx hb dX4_option_32 ?_
      refine lv_goto (tgt := 51) hx hb dX4_option_33 (by decide) ?_
      refine jv_put (D := D) (ci := 4) (v := .int (jI (1))) (ty := .int) (C := RX4) (T := TX4) (N := 17) hx hb hts (fun w h => List.mem_cons_of_mem _ (uw_X4 w h)) tyX4 tyX4_ok nmX4 hown hK hm0 rfl 0 (by decide) (hts _ (List.mem_cons_of_mem _ kw_418)) (fun _ h9 => h9) rfl (by decide +kernel) rfl rfl (Nat.le_of_ble_eq_true rfl) dX4_option_51 (fun H f9 hn9 hz9 oq9 => ?_)
      have hPic : mW D g am 1 dv vo ab be AA H := mW_obj hj hPic oq9 hn9
      have hT0 := hT0.put 0 (by omega) hz9 oq9 (f := f9)
      have hm0 := hPic.1
      have hm1 : va_at D vwCl (am 1, .inl (g 0, 8, .inl (fun j => jI (AA 1 j)))) H := hPic.2 1 (by omega) (by omega)
      refine lv_aload_n hx hb dX4_option_54 rfl (lv_at hl 0 rfl) ?_
      refine va_get (D := D) (ci := 4) (v := .int (jI (1))) (C := RX4) (T := TX4) (N := 17) hx hb hts (fun w h => List.mem_cons_of_mem _ (uw_X4 w h)) hown hK (j_P1 hm0) 0 rfl rfl 0 (by decide) (hts _ (List.mem_cons_of_mem _ kw_418)) (fun _ h9 => h9) rfl dX4_option_55 ?_
      refine jv_if_le (tgt := 63) hx hb dX4_option_58 (by decide) (by omega) (fun c58 => ?_) (fun c58 => ?_)
      · exact absurd c58 (by omega)
      · refine jv_iconst hx hb dX4_option_61 ?_
        exact m_iret hx hb hr hlocks dX4_option_62 ⟨rfl, hR⟩ hPic hT0 (by rfl)
    · have c18 := of_decide_eq_true (bI_tr c18)
      refine lv_iload_n hx hb dX4_option_21 rfl (lv_at hl 3 rfl) ?_
      refine jv_iconst hx hb dX4_option_22 ?_
      refine jv_sipush hx hb dX4_option_23 (by decide) ?_
      refine pu_call1 (va_runS (As := [.int (jI (de)), .int (jI (0)), .int (jI (10000))]) (rest := [.ref (am 0)]) ⟨hx, hb, hml, hown, hts⟩ (k_in l D g de 0 10000 (by omega) (by omega) (by omega)) (cwS 3 hts (gd_S kw_482 kw_483 kw_16 kcX4_in) rfl rfl rfl (by decide +kernel) ⟨Nat.le_of_ble_eq_true rfl, Nat.le_of_ble_eq_true rfl⟩) (pu_preS trivial hK) rfl rfl hl.1 rfl (lv_room (Nat.le_of_ble_eq_true rfl)) dX4_option_26 ⟨Nat.zero_le _, Nat.zero_le _⟩) ?_
      refine jv_if_ne (tgt := 36) hx hb dX4_option_29 (by decide) (bI_rng _) (fun c29 => ?_) (fun c29 => ?_)
      · exact absurd (of_decide_eq_true (bI_tr c29)) (by omega)
      · have c29 := of_decide_eq_false (bI_fa c29)
        refine jv_iconst hx hb dX4_option_32 ?_
        refine lv_goto (tgt := 51) hx hb dX4_option_33 (by decide) ?_
        refine jv_put (D := D) (ci := 4) (v := .int (jI (1))) (ty := .int) (C := RX4) (T := TX4) (N := 17) hx hb hts (fun w h => List.mem_cons_of_mem _ (uw_X4 w h)) tyX4 tyX4_ok nmX4 hown hK hm0 rfl 0 (by decide) (hts _ (List.mem_cons_of_mem _ kw_418)) (fun _ h9 => h9) rfl (by decide +kernel) rfl rfl (Nat.le_of_ble_eq_true rfl) dX4_option_51 (fun H f9 hn9 hz9 oq9 => ?_)
        have hPic : mW D g am 1 dv vo ab be AA H := mW_obj hj hPic oq9 hn9
        have hT0 := hT0.put 0 (by omega) hz9 oq9 (f := f9)
        have hm0 := hPic.1
        have hm1 : va_at D vwCl (am 1, .inl (g 0, 8, .inl (fun j => jI (AA 1 j)))) H := hPic.2 1 (by omega) (by omega)
        refine lv_aload_n hx hb dX4_option_54 rfl (lv_at hl 0 rfl) ?_
        refine va_get (D := D) (ci := 4) (v := .int (jI (1))) (C := RX4) (T := TX4) (N := 17) hx hb hts (fun w h => List.mem_cons_of_mem _ (uw_X4 w h)) hown hK (j_P1 hm0) 0 rfl rfl 0 (by decide) (hts _ (List.mem_cons_of_mem _ kw_418)) (fun _ h9 => h9) rfl dX4_option_55 ?_
        refine jv_if_le (tgt := 63) hx hb dX4_option_58 (by decide) (by omega) (fun c58 => ?_) (fun c58 => ?_)
        · exact absurd c58 (by omega)
        · refine jv_iconst hx hb dX4_option_61 ?_
          exact m_iret hx hb hr hlocks dX4_option_62 ⟨rfl, hR⟩ hPic hT0 (by rfl)
set_option maxHeartbeats 4000000 in
set_option maxRecDepth 100000 in
theorem b_option2 (l : Launch) (D : va_G) (g : Nat → ClassId) (am : Nat → Nat) (cd dv vo ab be : Int) (AA : Nat → Nat → Int) (z : bSt) (hz : bOK z) (hR : mR z dv vo AA) (d : Nat) (sc de : Int) (hd : d < bN z) (ho : bO z d = 4) (hsc : 10 ≤ sc ∧ sc ≤ 1000) (hde : 0 ≤ de ∧ de ≤ 10000) (hj : mInj am) : Met l yX4_option wsX4_option ({ frames := 2, cells := 0, slots := 0, locals := 43 }) (pu_Pc [.ref (am 0), .int (jI ((d : Int))), .int (jI (sc)), .int (jI (de))] D vwCl (ty9 g) (fun H => mW D g am cd dv vo ab be AA H)) (mQ D g am (some (.int (jI (0)))) (fun c n v A _ _ => c = 2 ∧ mR z n v A)) 0 0 (mFr am) := by
  refine Met.ofW (cc := cX4_option) (maxL := 4) (ret := some .int) (by decide) rfl ?_
  intro p e s m args below meth c s₁ B hml hv
  obtain ⟨rfl, hPic, hK⟩ := hv
  have hx := B.exec
  have hb := B.bytes
  have hr := B.returns
  have hts := atoms_spec (ws := wsX4_option) B.pre
  have hown : s.vm.findClass RX4 = some m.cls := findClass_of_methodNamed B.named
  have hlocks := B.notSynchronized
  have hm0 := hPic.1
  have hm6 : va_at D vwCl (am 6, .inl (g 0, 8, .inl (fun j => jI (AA 6 j)))) s.heap := hPic.2 6 (by omega) (by omega)
  have hdv := hR.1
  have hN := hz.1
  obtain ⟨e1_d, e2_d, e3_d, e6_d, e7_d, e9_d, e10_d⟩ := hR.2.2 d hd
  have f_d := hz.2.2.1 d (by have := hz.1; omega)
  have hN := hz.1
  rw [ho] at e6_d
  have hl := lv_entry ([.ref (am 0), .int (jI ((d : Int))), .int (jI (sc)), .int (jI (de))]) (n := 4) (Nat.le_of_ble_eq_true rfl)
  rw [lg_entry_eq]
  generalize (lg_sl ([.ref (am 0), .int (jI ((d : Int))), .int (jI (sc)), .int (jI (de))]) ++ List.replicate (4 - (lg_sl ([.ref (am 0), .int (jI ((d : Int))), .int (jI (sc)), .int (jI (de))])).length) Slot.unset).toArray = ls at hl ⊢
  have hl : lv_has ls 4 [(0, .ref (am 0)), (1, .int (jI ((d : Int)))), (2, .int (jI (sc))), (3, .int (jI (de)))] := hl
  have hT0 : mTo am s.heap s.heap [] := mTo.rf
  refine lv_aload_n hx hb dX4_option_0 rfl (lv_at hl 0 rfl) ?_
  refine lv_aload_n hx hb dX4_option_1 rfl (lv_at hl 0 rfl) ?_
  refine lv_iload_n hx hb dX4_option_2 rfl (lv_at hl 1 rfl) ?_
  refine pu_call1 (va_runV (As := [.int (jI ((d : Int)))]) (rest := [.ref (am 0)]) ⟨hx, hb, hml, hown, hts⟩ (k_isDevice l D g am cd dv vo ab be AA (d : Int) (by omega) (by omega)) (cwV 1 hts (gd_V kw_478 kw_480 kw_3 kw_16 kcX4_isDevice) rfl rfl rfl (by decide +kernel) ⟨Nat.le_of_ble_eq_true rfl, Nat.le_of_ble_eq_true rfl⟩) (pu_preV hPic hK rfl hm0) rfl rfl hl.1 rfl (lv_room (Nat.le_of_ble_eq_true rfl)) dX4_option_3 ⟨Nat.zero_le _, Nat.zero_le _⟩) ?_
  refine jv_if_eq (tgt := 32) hx hb dX4_option_6 (by decide) (bI_rng _) (fun c6 => ?_) (fun c6 => ?_)
  · exact absurd (of_decide_eq_false (bI_fa c6)) (by omega)
  · have c6 := of_decide_eq_true (bI_tr c6)
    refine lv_iload_n hx hb dX4_option_9 rfl (lv_at hl 2 rfl) ?_
    refine jv_bipush hx hb dX4_option_10 (by decide) ?_
    refine jv_sipush hx hb dX4_option_12 (by decide) ?_
    refine pu_call1 (va_runS (As := [.int (jI (sc)), .int (jI (10)), .int (jI (1000))]) (rest := [.ref (am 0)]) ⟨hx, hb, hml, hown, hts⟩ (k_in l D g sc 10 1000 (by omega) (by omega) (by omega)) (cwS 3 hts (gd_S kw_482 kw_483 kw_16 kcX4_in) rfl rfl rfl (by decide +kernel) ⟨Nat.le_of_ble_eq_true rfl, Nat.le_of_ble_eq_true rfl⟩) (pu_preS trivial hK) rfl rfl hl.1 rfl (lv_room (Nat.le_of_ble_eq_true rfl)) dX4_option_15 ⟨Nat.zero_le _, Nat.zero_le _⟩) ?_
    refine jv_if_eq (tgt := 32) hx hb dX4_option_18 (by decide) (bI_rng _) (fun c18 => ?_) (fun c18 => ?_)
    · exact absurd (of_decide_eq_false (bI_fa c18)) (by omega)
    · have c18 := of_decide_eq_true (bI_tr c18)
      refine lv_iload_n hx hb dX4_option_21 rfl (lv_at hl 3 rfl) ?_
      refine jv_iconst hx hb dX4_option_22 ?_
      refine jv_sipush hx hb dX4_option_23 (by decide) ?_
      refine pu_call1 (va_runS (As := [.int (jI (de)), .int (jI (0)), .int (jI (10000))]) (rest := [.ref (am 0)]) ⟨hx, hb, hml, hown, hts⟩ (k_in l D g de 0 10000 (by omega) (by omega) (by omega)) (cwS 3 hts (gd_S kw_482 kw_483 kw_16 kcX4_in) rfl rfl rfl (by decide +kernel) ⟨Nat.le_of_ble_eq_true rfl, Nat.le_of_ble_eq_true rfl⟩) (pu_preS trivial hK) rfl rfl hl.1 rfl (lv_room (Nat.le_of_ble_eq_true rfl)) dX4_option_26 ⟨Nat.zero_le _, Nat.zero_le _⟩) ?_
      refine jv_if_ne (tgt := 36) hx hb dX4_option_29 (by decide) (bI_rng _) (fun c29 => ?_) (fun c29 => ?_)
      · have c29 := of_decide_eq_true (bI_tr c29)
        refine lv_aload_n hx hb dX4_option_36 rfl (lv_at hl 0 rfl) ?_
        refine va_get (D := D) (ci := 4) (v := .ref (am 6)) (C := RX4) (T := TX4) (N := 17) hx hb hts (fun w h => List.mem_cons_of_mem _ (uw_X4 w h)) hown hK (j_P1 hm0) 0 rfl rfl 7 (by decide) (hts _ (List.mem_cons_of_mem _ kw_425)) (fun _ h9 => h9) rfl dX4_option_37 ?_
        refine lv_iload_n hx hb dX4_option_40 rfl (lv_at hl 1 rfl) ?_
        refine jv_iald (i := d) hx hb hK hm6 0 rfl (by omega) (by omega) (by decide) dX4_option_41 ?_
        rw [e6_d]
        refine jv_iconst hx hb dX4_option_42 ?_
        refine jv_icmp_ne (tgt := 50) hx hb dX4_option_43 (by decide) (by omega) (by omega) (fun c43 => ?_) (fun c43 => ?_)
        · exact absurd c43 (by omega)
        · refine jv_iconst hx hb dX4_option_46 ?_
          refine lv_goto (tgt := 51) hx hb dX4_option_47 (by decide) ?_
          refine jv_put (D := D) (ci := 4) (v := .int (jI (2))) (ty := .int) (C := RX4) (T := TX4) (N := 17) hx hb hts (fun w h => List.mem_cons_of_mem _ (uw_X4 w h)) tyX4 tyX4_ok nmX4 hown hK hm0 rfl 0 (by decide) (hts _ (List.mem_cons_of_mem _ kw_418)) (fun _ h9 => h9) rfl (by decide +kernel) rfl rfl (Nat.le_of_ble_eq_true rfl) dX4_option_51 (fun H f9 hn9 hz9 oq9 => ?_)
          have hPic : mW D g am 2 dv vo ab be AA H := mW_obj hj hPic oq9 hn9
          have hT0 := hT0.put 0 (by omega) hz9 oq9 (f := f9)
          have hm0 := hPic.1
          have hm6 : va_at D vwCl (am 6, .inl (g 0, 8, .inl (fun j => jI (AA 6 j)))) H := hPic.2 6 (by omega) (by omega)
          refine lv_aload_n hx hb dX4_option_54 rfl (lv_at hl 0 rfl) ?_
          refine va_get (D := D) (ci := 4) (v := .int (jI (2))) (C := RX4) (T := TX4) (N := 17) hx hb hts (fun w h => List.mem_cons_of_mem _ (uw_X4 w h)) hown hK (j_P1 hm0) 0 rfl rfl 0 (by decide) (hts _ (List.mem_cons_of_mem _ kw_418)) (fun _ h9 => h9) rfl dX4_option_55 ?_
          refine jv_if_le (tgt := 63) hx hb dX4_option_58 (by decide) (by omega) (fun c58 => ?_) (fun c58 => ?_)
          · exact absurd c58 (by omega)
          · refine jv_iconst hx hb dX4_option_61 ?_
            exact m_iret hx hb hr hlocks dX4_option_62 ⟨rfl, hR⟩ hPic hT0 (by rfl)
      · exact absurd (of_decide_eq_false (bI_fa c29)) (by omega)
set_option maxHeartbeats 4000000 in
set_option maxRecDepth 100000 in
theorem b_choose1 (l : Launch) (D : va_G) (g : Nat → ClassId) (am : Nat → Nat) (cd dv vo ab be : Int) (AA : Nat → Nat → Int) (z : bSt) (hz : bOK z) (hR : mR z dv vo AA) (d o : Int) (h_d : -2147483648 ≤ d ∧ d < 2147483648) (h_o : -2147483648 ≤ o ∧ o < 2147483648) (hbad : ¬ (0 ≤ d ∧ d ≤ dv - 1)) (hj : mInj am) : Met l yX4_choose wsX4_choose ({ frames := 2, cells := 0, slots := 0, locals := 43 }) (pu_Pc [.ref (am 0), .int (jI (d)), .int (jI (o))] D vwCl (ty9 g) (fun H => mW D g am cd dv vo ab be AA H)) (mQ D g am (some (.int (jI (0)))) (fun c n v A _ _ => c = 1 ∧ mR z n v A)) 0 0 (mFr am) := by
  refine Met.ofW (cc := cX4_choose) (maxL := 4) (ret := some .int) (by decide) rfl ?_
  intro p e s m args below meth c s₁ B hml hv
  obtain ⟨rfl, hPic, hK⟩ := hv
  have hx := B.exec
  have hb := B.bytes
  have hr := B.returns
  have hts := atoms_spec (ws := wsX4_choose) B.pre
  have hown : s.vm.findClass RX4 = some m.cls := findClass_of_methodNamed B.named
  have hlocks := B.notSynchronized
  have hm0 := hPic.1
  have hm1 : va_at D vwCl (am 1, .inl (g 0, 8, .inl (fun j => jI (AA 1 j)))) s.heap := hPic.2 1 (by omega) (by omega)
  have hdv := hR.1
  have hN := hz.1
  have hl := lv_entry ([.ref (am 0), .int (jI (d)), .int (jI (o))]) (n := 4) (Nat.le_of_ble_eq_true rfl)
  rw [lg_entry_eq]
  generalize (lg_sl ([.ref (am 0), .int (jI (d)), .int (jI (o))]) ++ List.replicate (4 - (lg_sl ([.ref (am 0), .int (jI (d)), .int (jI (o))])).length) Slot.unset).toArray = ls at hl ⊢
  have hl : lv_has ls 4 [(0, .ref (am 0)), (1, .int (jI (d))), (2, .int (jI (o)))] := hl
  have hT0 : mTo am s.heap s.heap [] := mTo.rf
  refine lv_aload_n hx hb dX4_choose_0 rfl (lv_at hl 0 rfl) ?_
  refine lv_aload_n hx hb dX4_choose_1 rfl (lv_at hl 0 rfl) ?_
  refine lv_iload_n hx hb dX4_choose_2 rfl (lv_at hl 1 rfl) ?_
  refine pu_call1 (va_runV (As := [.int (jI (d))]) (rest := [.ref (am 0)]) ⟨hx, hb, hml, hown, hts⟩ (k_isDevice l D g am cd dv vo ab be AA d (by omega) (by omega)) (cwV 1 hts (gd_V kw_478 kw_480 kw_3 kw_16 kcX4_isDevice) rfl rfl rfl (by decide +kernel) ⟨Nat.le_of_ble_eq_true rfl, Nat.le_of_ble_eq_true rfl⟩) (pu_preV hPic hK rfl hm0) rfl rfl hl.1 rfl (lv_room (Nat.le_of_ble_eq_true rfl)) dX4_choose_3 ⟨Nat.zero_le _, Nat.zero_le _⟩) ?_
  refine jv_if_eq (tgt := 29) hx hb dX4_choose_6 (by decide) (bI_rng _) (fun c6 => ?_) (fun c6 => ?_)
  · have c6 := of_decide_eq_false (bI_fa c6)
    refine jv_iconst hx hb dX4_choose_29 ?_
    refine jv_put (D := D) (ci := 4) (v := .int (jI (1))) (ty := .int) (C := RX4) (T := TX4) (N := 17) hx hb hts (fun w h => List.mem_cons_of_mem _ (uw_X4 w h)) tyX4 tyX4_ok nmX4 hown hK hm0 rfl 0 (by decide) (hts _ (List.mem_cons_of_mem _ kw_418)) (fun _ h9 => h9) rfl (by decide +kernel) rfl rfl (Nat.le_of_ble_eq_true rfl) dX4_choose_30 (fun H f9 hn9 hz9 oq9 => ?_)
    have hPic : mW D g am 1 dv vo ab be AA H := mW_obj hj hPic oq9 hn9
    have hT0 := hT0.put 0 (by omega) hz9 oq9 (f := f9)
    have hm0 := hPic.1
    have hm1 : va_at D vwCl (am 1, .inl (g 0, 8, .inl (fun j => jI (AA 1 j)))) H := hPic.2 1 (by omega) (by omega)
    refine lv_aload_n hx hb dX4_choose_33 rfl (lv_at hl 0 rfl) ?_
    refine va_get (D := D) (ci := 4) (v := .int (jI (1))) (C := RX4) (T := TX4) (N := 17) hx hb hts (fun w h => List.mem_cons_of_mem _ (uw_X4 w h)) hown hK (j_P1 hm0) 0 rfl rfl 0 (by decide) (hts _ (List.mem_cons_of_mem _ kw_418)) (fun _ h9 => h9) rfl dX4_choose_34 ?_
    refine jv_if_le (tgt := 42) hx hb dX4_choose_37 (by decide) (by omega) (fun c37 => ?_) (fun c37 => ?_)
    · exact absurd c37 (by omega)
    · refine jv_iconst hx hb dX4_choose_40 ?_
      exact m_iret hx hb hr hlocks dX4_choose_41 ⟨rfl, hR⟩ hPic hT0 (by rfl)
  · exact absurd (of_decide_eq_true (bI_tr c6)) (by omega)
set_option maxHeartbeats 4000000 in
set_option maxRecDepth 100000 in
theorem b_choose2 (l : Launch) (D : va_G) (g : Nat → ClassId) (am : Nat → Nat) (cd dv vo ab be : Int) (AA : Nat → Nat → Int) (z : bSt) (hz : bOK z) (hR : mR z dv vo AA) (d : Nat) (o : Int) (hd : d < bN z) (h_o : -2147483648 ≤ o ∧ o < 2147483648) (hbad : ¬ (0 ≤ o ∧ o ≤ (bO z d : Int) - 1)) (hj : mInj am) : Met l yX4_choose wsX4_choose ({ frames := 2, cells := 0, slots := 0, locals := 43 }) (pu_Pc [.ref (am 0), .int (jI ((d : Int))), .int (jI (o))] D vwCl (ty9 g) (fun H => mW D g am cd dv vo ab be AA H)) (mQ D g am (some (.int (jI (0)))) (fun c n v A _ _ => c = 1 ∧ mR z n v A)) 0 0 (mFr am) := by
  refine Met.ofW (cc := cX4_choose) (maxL := 4) (ret := some .int) (by decide) rfl ?_
  intro p e s m args below meth c s₁ B hml hv
  obtain ⟨rfl, hPic, hK⟩ := hv
  have hx := B.exec
  have hb := B.bytes
  have hr := B.returns
  have hts := atoms_spec (ws := wsX4_choose) B.pre
  have hown : s.vm.findClass RX4 = some m.cls := findClass_of_methodNamed B.named
  have hlocks := B.notSynchronized
  have hm0 := hPic.1
  have hm6 : va_at D vwCl (am 6, .inl (g 0, 8, .inl (fun j => jI (AA 6 j)))) s.heap := hPic.2 6 (by omega) (by omega)
  have hdv := hR.1
  have hN := hz.1
  obtain ⟨e1_d, e2_d, e3_d, e6_d, e7_d, e9_d, e10_d⟩ := hR.2.2 d hd
  have f_d := hz.2.2.1 d (by have := hz.1; omega)
  have hN := hz.1
  have hl := lv_entry ([.ref (am 0), .int (jI ((d : Int))), .int (jI (o))]) (n := 4) (Nat.le_of_ble_eq_true rfl)
  rw [lg_entry_eq]
  generalize (lg_sl ([.ref (am 0), .int (jI ((d : Int))), .int (jI (o))]) ++ List.replicate (4 - (lg_sl ([.ref (am 0), .int (jI ((d : Int))), .int (jI (o))])).length) Slot.unset).toArray = ls at hl ⊢
  have hl : lv_has ls 4 [(0, .ref (am 0)), (1, .int (jI ((d : Int)))), (2, .int (jI (o)))] := hl
  have hT0 : mTo am s.heap s.heap [] := mTo.rf
  refine lv_aload_n hx hb dX4_choose_0 rfl (lv_at hl 0 rfl) ?_
  refine lv_aload_n hx hb dX4_choose_1 rfl (lv_at hl 0 rfl) ?_
  refine lv_iload_n hx hb dX4_choose_2 rfl (lv_at hl 1 rfl) ?_
  refine pu_call1 (va_runV (As := [.int (jI ((d : Int)))]) (rest := [.ref (am 0)]) ⟨hx, hb, hml, hown, hts⟩ (k_isDevice l D g am cd dv vo ab be AA (d : Int) (by omega) (by omega)) (cwV 1 hts (gd_V kw_478 kw_480 kw_3 kw_16 kcX4_isDevice) rfl rfl rfl (by decide +kernel) ⟨Nat.le_of_ble_eq_true rfl, Nat.le_of_ble_eq_true rfl⟩) (pu_preV hPic hK rfl hm0) rfl rfl hl.1 rfl (lv_room (Nat.le_of_ble_eq_true rfl)) dX4_choose_3 ⟨Nat.zero_le _, Nat.zero_le _⟩) ?_
  refine jv_if_eq (tgt := 29) hx hb dX4_choose_6 (by decide) (bI_rng _) (fun c6 => ?_) (fun c6 => ?_)
  · exact absurd (of_decide_eq_false (bI_fa c6)) (by omega)
  · have c6 := of_decide_eq_true (bI_tr c6)
    refine lv_iload_n hx hb dX4_choose_9 rfl (lv_at hl 2 rfl) ?_
    refine jv_iconst hx hb dX4_choose_10 ?_
    refine lv_aload_n hx hb dX4_choose_11 rfl (lv_at hl 0 rfl) ?_
    refine va_get (D := D) (ci := 4) (v := .ref (am 6)) (C := RX4) (T := TX4) (N := 17) hx hb hts (fun w h => List.mem_cons_of_mem _ (uw_X4 w h)) hown hK (j_P1 hm0) 0 rfl rfl 7 (by decide) (hts _ (List.mem_cons_of_mem _ kw_425)) (fun _ h9 => h9) rfl dX4_choose_12 ?_
    refine lv_iload_n hx hb dX4_choose_15 rfl (lv_at hl 1 rfl) ?_
    refine jv_iald (i := d) hx hb hK hm6 0 rfl (by omega) (by omega) (by decide) dX4_choose_16 ?_
    rw [e6_d]
    refine jv_iconst hx hb dX4_choose_17 ?_
    refine jv_isub hx hb dX4_choose_18 ?_
    refine pu_call1 (va_runS (As := [.int (jI (o)), .int (jI (0)), .int (jI ((bO z d : Int) - 1))]) (rest := [.ref (am 0)]) ⟨hx, hb, hml, hown, hts⟩ (k_in l D g o 0 ((bO z d : Int) - 1) (by omega) (by omega) (by omega)) (cwS 3 hts (gd_S kw_482 kw_483 kw_16 kcX4_in) rfl rfl rfl (by decide +kernel) ⟨Nat.le_of_ble_eq_true rfl, Nat.le_of_ble_eq_true rfl⟩) (pu_preS trivial hK) rfl rfl hl.1 rfl (lv_room (Nat.le_of_ble_eq_true rfl)) dX4_choose_19 ⟨Nat.zero_le _, Nat.zero_le _⟩) ?_
    refine jv_if_eq (tgt := 29) hx hb dX4_choose_22 (by decide) (bI_rng _) (fun c22 => ?_) (fun c22 => ?_)
    · have c22 := of_decide_eq_false (bI_fa c22)
      refine jv_iconst hx hb dX4_choose_29 ?_
      refine jv_put (D := D) (ci := 4) (v := .int (jI (1))) (ty := .int) (C := RX4) (T := TX4) (N := 17) hx hb hts (fun w h => List.mem_cons_of_mem _ (uw_X4 w h)) tyX4 tyX4_ok nmX4 hown hK hm0 rfl 0 (by decide) (hts _ (List.mem_cons_of_mem _ kw_418)) (fun _ h9 => h9) rfl (by decide +kernel) rfl rfl (Nat.le_of_ble_eq_true rfl) dX4_choose_30 (fun H f9 hn9 hz9 oq9 => ?_)
      have hPic : mW D g am 1 dv vo ab be AA H := mW_obj hj hPic oq9 hn9
      have hT0 := hT0.put 0 (by omega) hz9 oq9 (f := f9)
      have hm0 := hPic.1
      have hm6 : va_at D vwCl (am 6, .inl (g 0, 8, .inl (fun j => jI (AA 6 j)))) H := hPic.2 6 (by omega) (by omega)
      refine lv_aload_n hx hb dX4_choose_33 rfl (lv_at hl 0 rfl) ?_
      refine va_get (D := D) (ci := 4) (v := .int (jI (1))) (C := RX4) (T := TX4) (N := 17) hx hb hts (fun w h => List.mem_cons_of_mem _ (uw_X4 w h)) hown hK (j_P1 hm0) 0 rfl rfl 0 (by decide) (hts _ (List.mem_cons_of_mem _ kw_418)) (fun _ h9 => h9) rfl dX4_choose_34 ?_
      refine jv_if_le (tgt := 42) hx hb dX4_choose_37 (by decide) (by omega) (fun c37 => ?_) (fun c37 => ?_)
      · exact absurd c37 (by omega)
      · refine jv_iconst hx hb dX4_choose_40 ?_
        exact m_iret hx hb hr hlocks dX4_choose_41 ⟨rfl, hR⟩ hPic hT0 (by rfl)
    · exact absurd (of_decide_eq_true (bI_tr c22)) (by omega)
set_option maxHeartbeats 4000000 in
set_option maxRecDepth 100000 in
theorem b_time (l : Launch) (D : va_G) (g : Nat → ClassId) (am : Nat → Nat) (cd dv vo ab be : Int) (AA : Nat → Nat → Int) (z : bSt) (hz : bOK z) (hR : mR z dv vo AA) (d i : Int) (mo : Bool) (h_d : -2147483648 ≤ d ∧ d < 2147483648) (h_i : -2147483648 ≤ i ∧ i < 2147483648) (hbad : ¬ ((0 ≤ d ∧ d ≤ dv - 1) ∧ (1 ≤ i ∧ i ≤ 5000))) (hj : mInj am) : Met l yX4_time wsX4_time ({ frames := 2, cells := 0, slots := 0, locals := 43 }) (pu_Pc [.ref (am 0), .int (jI (d)), .int (jI (i)), .int (jI (bI mo))] D vwCl (ty9 g) (fun H => mW D g am cd dv vo ab be AA H)) (mQ D g am (some (.int (jI ((-1))))) (fun c n v A _ _ => c = 1 ∧ mR z n v A)) 0 0 (mFr am) := by
  refine Met.ofW (cc := cX4_time) (maxL := 4) (ret := some .int) (by decide) rfl ?_
  intro p e s m args below meth c s₁ B hml hv
  obtain ⟨rfl, hPic, hK⟩ := hv
  have hx := B.exec
  have hb := B.bytes
  have hr := B.returns
  have hts := atoms_spec (ws := wsX4_time) B.pre
  have hown : s.vm.findClass RX4 = some m.cls := findClass_of_methodNamed B.named
  have hlocks := B.notSynchronized
  have hm0 := hPic.1
  have hm1 : va_at D vwCl (am 1, .inl (g 0, 8, .inl (fun j => jI (AA 1 j)))) s.heap := hPic.2 1 (by omega) (by omega)
  have hdv := hR.1
  have hN := hz.1
  have hl := lv_entry ([.ref (am 0), .int (jI (d)), .int (jI (i)), .int (jI (bI mo))]) (n := 4) (Nat.le_of_ble_eq_true rfl)
  rw [lg_entry_eq]
  generalize (lg_sl ([.ref (am 0), .int (jI (d)), .int (jI (i)), .int (jI (bI mo))]) ++ List.replicate (4 - (lg_sl ([.ref (am 0), .int (jI (d)), .int (jI (i)), .int (jI (bI mo))])).length) Slot.unset).toArray = ls at hl ⊢
  have hl : lv_has ls 4 [(0, .ref (am 0)), (1, .int (jI (d))), (2, .int (jI (i))), (3, .int (jI (bI mo)))] := hl
  have hT0 : mTo am s.heap s.heap [] := mTo.rf
  refine lv_aload_n hx hb dX4_time_0 rfl (lv_at hl 0 rfl) ?_
  refine lv_aload_n hx hb dX4_time_1 rfl (lv_at hl 0 rfl) ?_
  refine lv_iload_n hx hb dX4_time_2 rfl (lv_at hl 1 rfl) ?_
  refine pu_call1 (va_runV (As := [.int (jI (d))]) (rest := [.ref (am 0)]) ⟨hx, hb, hml, hown, hts⟩ (k_isDevice l D g am cd dv vo ab be AA d (by omega) (by omega)) (cwV 1 hts (gd_V kw_478 kw_480 kw_3 kw_16 kcX4_isDevice) rfl rfl rfl (by decide +kernel) ⟨Nat.le_of_ble_eq_true rfl, Nat.le_of_ble_eq_true rfl⟩) (pu_preV hPic hK rfl hm0) rfl rfl hl.1 rfl (lv_room (Nat.le_of_ble_eq_true rfl)) dX4_time_3 ⟨Nat.zero_le _, Nat.zero_le _⟩) ?_
  refine jv_if_eq (tgt := 24) hx hb dX4_time_6 (by decide) (bI_rng _) (fun c6 => ?_) (fun c6 => ?_)
  · have c6 := of_decide_eq_false (bI_fa c6)
    refine jv_iconst hx hb dX4_time_24 ?_
    refine jv_put (D := D) (ci := 4) (v := .int (jI (1))) (ty := .int) (C := RX4) (T := TX4) (N := 17) hx hb hts (fun w h => List.mem_cons_of_mem _ (uw_X4 w h)) tyX4 tyX4_ok nmX4 hown hK hm0 rfl 0 (by decide) (hts _ (List.mem_cons_of_mem _ kw_418)) (fun _ h9 => h9) rfl (by decide +kernel) rfl rfl (Nat.le_of_ble_eq_true rfl) dX4_time_25 (fun H f9 hn9 hz9 oq9 => ?_)
    have hPic : mW D g am 1 dv vo ab be AA H := mW_obj hj hPic oq9 hn9
    have hT0 := hT0.put 0 (by omega) hz9 oq9 (f := f9)
    have hm0 := hPic.1
    have hm1 : va_at D vwCl (am 1, .inl (g 0, 8, .inl (fun j => jI (AA 1 j)))) H := hPic.2 1 (by omega) (by omega)
    refine lv_aload_n hx hb dX4_time_28 rfl (lv_at hl 0 rfl) ?_
    refine va_get (D := D) (ci := 4) (v := .int (jI (1))) (C := RX4) (T := TX4) (N := 17) hx hb hts (fun w h => List.mem_cons_of_mem _ (uw_X4 w h)) hown hK (j_P1 hm0) 0 rfl rfl 0 (by decide) (hts _ (List.mem_cons_of_mem _ kw_418)) (fun _ h9 => h9) rfl dX4_time_29 ?_
    refine jv_if_gt (tgt := 50) hx hb dX4_time_32 (by decide) (by omega) (fun c32 => ?_) (fun c32 => ?_)
    · refine jv_iconst hx hb dX4_time_50 ?_
      exact m_iret hx hb hr hlocks dX4_time_51 ⟨rfl, hR⟩ hPic hT0 (by rfl)
    · exact absurd c32 (by omega)
  · have c6 := of_decide_eq_true (bI_tr c6)
    refine lv_iload_n hx hb dX4_time_9 rfl (lv_at hl 2 rfl) ?_
    refine jv_iconst hx hb dX4_time_10 ?_
    refine jv_sipush hx hb dX4_time_11 (by decide) ?_
    refine pu_call1 (va_runS (As := [.int (jI (i)), .int (jI (1)), .int (jI (5000))]) (rest := [.ref (am 0)]) ⟨hx, hb, hml, hown, hts⟩ (k_in l D g i 1 5000 (by omega) (by omega) (by omega)) (cwS 3 hts (gd_S kw_482 kw_483 kw_16 kcX4_in) rfl rfl rfl (by decide +kernel) ⟨Nat.le_of_ble_eq_true rfl, Nat.le_of_ble_eq_true rfl⟩) (pu_preS trivial hK) rfl rfl hl.1 rfl (lv_room (Nat.le_of_ble_eq_true rfl)) dX4_time_14 ⟨Nat.zero_le _, Nat.zero_le _⟩) ?_
    refine jv_if_eq (tgt := 24) hx hb dX4_time_17 (by decide) (bI_rng _) (fun c17 => ?_) (fun c17 => ?_)
    · have c17 := of_decide_eq_false (bI_fa c17)
      refine jv_iconst hx hb dX4_time_24 ?_
      refine jv_put (D := D) (ci := 4) (v := .int (jI (1))) (ty := .int) (C := RX4) (T := TX4) (N := 17) hx hb hts (fun w h => List.mem_cons_of_mem _ (uw_X4 w h)) tyX4 tyX4_ok nmX4 hown hK hm0 rfl 0 (by decide) (hts _ (List.mem_cons_of_mem _ kw_418)) (fun _ h9 => h9) rfl (by decide +kernel) rfl rfl (Nat.le_of_ble_eq_true rfl) dX4_time_25 (fun H f9 hn9 hz9 oq9 => ?_)
      have hPic : mW D g am 1 dv vo ab be AA H := mW_obj hj hPic oq9 hn9
      have hT0 := hT0.put 0 (by omega) hz9 oq9 (f := f9)
      have hm0 := hPic.1
      have hm1 : va_at D vwCl (am 1, .inl (g 0, 8, .inl (fun j => jI (AA 1 j)))) H := hPic.2 1 (by omega) (by omega)
      refine lv_aload_n hx hb dX4_time_28 rfl (lv_at hl 0 rfl) ?_
      refine va_get (D := D) (ci := 4) (v := .int (jI (1))) (C := RX4) (T := TX4) (N := 17) hx hb hts (fun w h => List.mem_cons_of_mem _ (uw_X4 w h)) hown hK (j_P1 hm0) 0 rfl rfl 0 (by decide) (hts _ (List.mem_cons_of_mem _ kw_418)) (fun _ h9 => h9) rfl dX4_time_29 ?_
      refine jv_if_gt (tgt := 50) hx hb dX4_time_32 (by decide) (by omega) (fun c32 => ?_) (fun c32 => ?_)
      · refine jv_iconst hx hb dX4_time_50 ?_
        exact m_iret hx hb hr hlocks dX4_time_51 ⟨rfl, hR⟩ hPic hT0 (by rfl)
      · exact absurd c32 (by omega)
    · exact absurd (of_decide_eq_true (bI_tr c17)) (by omega)
set_option maxHeartbeats 4000000 in
set_option maxRecDepth 100000 in
theorem b_opensFrom (l : Launch) (D : va_G) (g : Nat → ClassId) (am : Nat → Nat) (cd dv vo ab be : Int) (AA : Nat → Nat → Int) (z : bSt) (hz : bOK z) (hR : mR z dv vo AA) (d : Int) (h_d : -2147483648 ≤ d ∧ d < 2147483648) (hbad : ¬ (0 ≤ d ∧ d ≤ dv - 1)) (hj : mInj am) : Met l yX4_opensFrom wsX4_opensFrom ({ frames := 2, cells := 0, slots := 0, locals := 43 }) (pu_Pc [.ref (am 0), .int (jI (d))] D vwCl (ty9 g) (fun H => mW D g am cd dv vo ab be AA H)) (mQ D g am (some (.int (jI ((-1))))) (fun c n v A _ _ => c = 1 ∧ mR z n v A)) 0 0 (mFr am) := by
  refine Met.ofW (cc := cX4_opensFrom) (maxL := 3) (ret := some .int) (by decide) rfl ?_
  intro p e s m args below meth c s₁ B hml hv
  obtain ⟨rfl, hPic, hK⟩ := hv
  have hx := B.exec
  have hb := B.bytes
  have hr := B.returns
  have hts := atoms_spec (ws := wsX4_opensFrom) B.pre
  have hown : s.vm.findClass RX4 = some m.cls := findClass_of_methodNamed B.named
  have hlocks := B.notSynchronized
  have hm0 := hPic.1
  have hm1 : va_at D vwCl (am 1, .inl (g 0, 8, .inl (fun j => jI (AA 1 j)))) s.heap := hPic.2 1 (by omega) (by omega)
  have hdv := hR.1
  have hN := hz.1
  have hl := lv_entry ([.ref (am 0), .int (jI (d))]) (n := 3) (Nat.le_of_ble_eq_true rfl)
  rw [lg_entry_eq]
  generalize (lg_sl ([.ref (am 0), .int (jI (d))]) ++ List.replicate (3 - (lg_sl ([.ref (am 0), .int (jI (d))])).length) Slot.unset).toArray = ls at hl ⊢
  have hl : lv_has ls 3 [(0, .ref (am 0)), (1, .int (jI (d)))] := hl
  have hT0 : mTo am s.heap s.heap [] := mTo.rf
  refine lv_aload_n hx hb dX4_opensFrom_0 rfl (lv_at hl 0 rfl) ?_
  refine lv_aload_n hx hb dX4_opensFrom_1 rfl (lv_at hl 0 rfl) ?_
  refine lv_iload_n hx hb dX4_opensFrom_2 rfl (lv_at hl 1 rfl) ?_
  refine pu_call1 (va_runV (As := [.int (jI (d))]) (rest := [.ref (am 0)]) ⟨hx, hb, hml, hown, hts⟩ (k_isDevice l D g am cd dv vo ab be AA d (by omega) (by omega)) (cwV 1 hts (gd_V kw_478 kw_480 kw_3 kw_16 kcX4_isDevice) rfl rfl rfl (by decide +kernel) ⟨Nat.le_of_ble_eq_true rfl, Nat.le_of_ble_eq_true rfl⟩) (pu_preV hPic hK rfl hm0) rfl rfl hl.1 rfl (lv_room (Nat.le_of_ble_eq_true rfl)) dX4_opensFrom_3 ⟨Nat.zero_le _, Nat.zero_le _⟩) ?_
  refine jv_if_eq (tgt := 13) hx hb dX4_opensFrom_6 (by decide) (bI_rng _) (fun c6 => ?_) (fun c6 => ?_)
  · have c6 := of_decide_eq_false (bI_fa c6)
    refine jv_iconst hx hb dX4_opensFrom_13 ?_
    refine jv_put (D := D) (ci := 4) (v := .int (jI (1))) (ty := .int) (C := RX4) (T := TX4) (N := 17) hx hb hts (fun w h => List.mem_cons_of_mem _ (uw_X4 w h)) tyX4 tyX4_ok nmX4 hown hK hm0 rfl 0 (by decide) (hts _ (List.mem_cons_of_mem _ kw_418)) (fun _ h9 => h9) rfl (by decide +kernel) rfl rfl (Nat.le_of_ble_eq_true rfl) dX4_opensFrom_14 (fun H f9 hn9 hz9 oq9 => ?_)
    have hPic : mW D g am 1 dv vo ab be AA H := mW_obj hj hPic oq9 hn9
    have hT0 := hT0.put 0 (by omega) hz9 oq9 (f := f9)
    have hm0 := hPic.1
    have hm1 : va_at D vwCl (am 1, .inl (g 0, 8, .inl (fun j => jI (AA 1 j)))) H := hPic.2 1 (by omega) (by omega)
    refine jv_iconst hx hb dX4_opensFrom_17 ?_
    refine lv_istore_n (lv' := [(2, .int (jI (1))), (0, .ref (am 0)), (1, .int (jI (d)))]) hx hb dX4_opensFrom_18 rfl hl (by decide) rfl (fun ls hl => ?_)
    refine lv_iload_n hx hb dX4_opensFrom_19 rfl (lv_at hl 0 rfl) ?_
    refine jv_sipush hx hb dX4_opensFrom_20 (by decide) ?_
    refine jv_icmp_gt (tgt := 56) hx hb dX4_opensFrom_23 (by decide) (by omega) (by omega) (fun c23 => ?_) (fun c23 => ?_)
    · exact absurd c23 (by omega)
    · refine lv_aload_n hx hb dX4_opensFrom_26 rfl (lv_at hl 1 rfl) ?_
      refine va_get (D := D) (ci := 4) (v := .int (jI (1))) (C := RX4) (T := TX4) (N := 17) hx hb hts (fun w h => List.mem_cons_of_mem _ (uw_X4 w h)) hown hK (j_P1 hm0) 0 rfl rfl 0 (by decide) (hts _ (List.mem_cons_of_mem _ kw_418)) (fun _ h9 => h9) rfl dX4_opensFrom_27 ?_
      refine jv_if_ne (tgt := 56) hx hb dX4_opensFrom_30 (by decide) (by omega) (fun c30 => ?_) (fun c30 => ?_)
      · refine jv_iconst hx hb dX4_opensFrom_56 ?_
        exact m_iret hx hb hr hlocks dX4_opensFrom_57 ⟨rfl, hR⟩ hPic hT0 (by rfl)
      · exact absurd c30 (by omega)
  · exact absurd (of_decide_eq_true (bI_tr c6)) (by omega)
set_option maxHeartbeats 4000000 in
set_option maxRecDepth 100000 in
theorem b_lookOrder (l : Launch) (D : va_G) (g : Nat → ClassId) (am : Nat → Nat) (cd dv vo ab be : Int) (AA : Nat → Nat → Int) (z : bSt) (hz : bOK z) (hR : mR z dv vo AA) (d u mg : Int) (h_d : -2147483648 ≤ d ∧ d < 2147483648) (h_u : -2147483648 ≤ u ∧ u < 2147483648) (h_mg : -2147483648 ≤ mg ∧ mg < 2147483648) (hbad : ¬ ((0 ≤ d ∧ d ≤ dv - 1) ∧ (0 ≤ u ∧ u ≤ dv - 1) ∧ d ≠ u ∧ (0 ≤ mg ∧ mg ≤ 10000))) (hj : mInj am) : Met l yX4_lookOrder wsX4_lookOrder ({ frames := 2, cells := 0, slots := 0, locals := 43 }) (pu_Pc [.ref (am 0), .int (jI (d)), .int (jI (u)), .int (jI (mg))] D vwCl (ty9 g) (fun H => mW D g am cd dv vo ab be AA H)) (mQ D g am none (fun c n v A a b => c = 1 ∧ n = dv ∧ v = vo ∧ A = AA)) 0 0 (mFr am) := by
  refine Met.ofW (cc := cX4_lookOrder) (maxL := 4) (ret := none) (by decide) rfl ?_
  intro p e s m args below meth c s₁ B hml hv
  obtain ⟨rfl, hPic, hK⟩ := hv
  have hx := B.exec
  have hb := B.bytes
  have hr := B.returns
  have hts := atoms_spec (ws := wsX4_lookOrder) B.pre
  have hown : s.vm.findClass RX4 = some m.cls := findClass_of_methodNamed B.named
  have hlocks := B.notSynchronized
  have hm0 := hPic.1
  have hm1 : va_at D vwCl (am 1, .inl (g 0, 8, .inl (fun j => jI (AA 1 j)))) s.heap := hPic.2 1 (by omega) (by omega)
  have hdv := hR.1
  have hN := hz.1
  have hl := lv_entry ([.ref (am 0), .int (jI (d)), .int (jI (u)), .int (jI (mg))]) (n := 4) (Nat.le_of_ble_eq_true rfl)
  rw [lg_entry_eq]
  generalize (lg_sl ([.ref (am 0), .int (jI (d)), .int (jI (u)), .int (jI (mg))]) ++ List.replicate (4 - (lg_sl ([.ref (am 0), .int (jI (d)), .int (jI (u)), .int (jI (mg))])).length) Slot.unset).toArray = ls at hl ⊢
  have hl : lv_has ls 4 [(0, .ref (am 0)), (1, .int (jI (d))), (2, .int (jI (u))), (3, .int (jI (mg)))] := hl
  have hT0 : mTo am s.heap s.heap [] := mTo.rf
  refine lv_aload_n hx hb dX4_lookOrder_0 rfl (lv_at hl 0 rfl) ?_
  refine lv_aload_n hx hb dX4_lookOrder_1 rfl (lv_at hl 0 rfl) ?_
  refine lv_iload_n hx hb dX4_lookOrder_2 rfl (lv_at hl 1 rfl) ?_
  refine pu_call1 (va_runV (As := [.int (jI (d))]) (rest := [.ref (am 0)]) ⟨hx, hb, hml, hown, hts⟩ (k_isDevice l D g am cd dv vo ab be AA d (by omega) (by omega)) (cwV 1 hts (gd_V kw_478 kw_480 kw_3 kw_16 kcX4_isDevice) rfl rfl rfl (by decide +kernel) ⟨Nat.le_of_ble_eq_true rfl, Nat.le_of_ble_eq_true rfl⟩) (pu_preV hPic hK rfl hm0) rfl rfl hl.1 rfl (lv_room (Nat.le_of_ble_eq_true rfl)) dX4_lookOrder_3 ⟨Nat.zero_le _, Nat.zero_le _⟩) ?_
  refine jv_if_eq (tgt := 37) hx hb dX4_lookOrder_6 (by decide) (bI_rng _) (fun c6 => ?_) (fun c6 => ?_)
  · have c6 := of_decide_eq_false (bI_fa c6)
    refine jv_iconst hx hb dX4_lookOrder_37 ?_
    refine jv_put (D := D) (ci := 4) (v := .int (jI (1))) (ty := .int) (C := RX4) (T := TX4) (N := 17) hx hb hts (fun w h => List.mem_cons_of_mem _ (uw_X4 w h)) tyX4 tyX4_ok nmX4 hown hK hm0 rfl 0 (by decide) (hts _ (List.mem_cons_of_mem _ kw_418)) (fun _ h9 => h9) rfl (by decide +kernel) rfl rfl (Nat.le_of_ble_eq_true rfl) dX4_lookOrder_38 (fun H f9 hn9 hz9 oq9 => ?_)
    have hPic : mW D g am 1 dv vo ab be AA H := mW_obj hj hPic oq9 hn9
    have hT0 := hT0.put 0 (by omega) hz9 oq9 (f := f9)
    have hm0 := hPic.1
    have hm1 : va_at D vwCl (am 1, .inl (g 0, 8, .inl (fun j => jI (AA 1 j)))) H := hPic.2 1 (by omega) (by omega)
    exact m_vret hx hb hr hlocks dX4_lookOrder_41 ⟨rfl, rfl, rfl, rfl⟩ hPic hT0
  · have c6 := of_decide_eq_true (bI_tr c6)
    refine lv_aload_n hx hb dX4_lookOrder_9 rfl (lv_at hl 0 rfl) ?_
    refine lv_iload_n hx hb dX4_lookOrder_10 rfl (lv_at hl 2 rfl) ?_
    refine pu_call1 (va_runV (As := [.int (jI (u))]) (rest := [.ref (am 0)]) ⟨hx, hb, hml, hown, hts⟩ (k_isDevice l D g am cd dv vo ab be AA u (by omega) (by omega)) (cwV 1 hts (gd_V kw_478 kw_480 kw_3 kw_16 kcX4_isDevice) rfl rfl rfl (by decide +kernel) ⟨Nat.le_of_ble_eq_true rfl, Nat.le_of_ble_eq_true rfl⟩) (pu_preV hPic hK rfl hm0) rfl rfl hl.1 rfl (lv_room (Nat.le_of_ble_eq_true rfl)) dX4_lookOrder_11 ⟨Nat.zero_le _, Nat.zero_le _⟩) ?_
    refine jv_if_eq (tgt := 37) hx hb dX4_lookOrder_14 (by decide) (bI_rng _) (fun c14 => ?_) (fun c14 => ?_)
    · have c14 := of_decide_eq_false (bI_fa c14)
      refine jv_iconst hx hb dX4_lookOrder_37 ?_
      refine jv_put (D := D) (ci := 4) (v := .int (jI (1))) (ty := .int) (C := RX4) (T := TX4) (N := 17) hx hb hts (fun w h => List.mem_cons_of_mem _ (uw_X4 w h)) tyX4 tyX4_ok nmX4 hown hK hm0 rfl 0 (by decide) (hts _ (List.mem_cons_of_mem _ kw_418)) (fun _ h9 => h9) rfl (by decide +kernel) rfl rfl (Nat.le_of_ble_eq_true rfl) dX4_lookOrder_38 (fun H f9 hn9 hz9 oq9 => ?_)
      have hPic : mW D g am 1 dv vo ab be AA H := mW_obj hj hPic oq9 hn9
      have hT0 := hT0.put 0 (by omega) hz9 oq9 (f := f9)
      have hm0 := hPic.1
      have hm1 : va_at D vwCl (am 1, .inl (g 0, 8, .inl (fun j => jI (AA 1 j)))) H := hPic.2 1 (by omega) (by omega)
      exact m_vret hx hb hr hlocks dX4_lookOrder_41 ⟨rfl, rfl, rfl, rfl⟩ hPic hT0
    · have c14 := of_decide_eq_true (bI_tr c14)
      refine lv_iload_n hx hb dX4_lookOrder_17 rfl (lv_at hl 1 rfl) ?_
      refine lv_iload_n hx hb dX4_lookOrder_18 rfl (lv_at hl 2 rfl) ?_
      refine jv_icmp_eq (tgt := 37) hx hb dX4_lookOrder_19 (by decide) (by omega) (by omega) (fun c19 => ?_) (fun c19 => ?_)
      · refine jv_iconst hx hb dX4_lookOrder_37 ?_
        refine jv_put (D := D) (ci := 4) (v := .int (jI (1))) (ty := .int) (C := RX4) (T := TX4) (N := 17) hx hb hts (fun w h => List.mem_cons_of_mem _ (uw_X4 w h)) tyX4 tyX4_ok nmX4 hown hK hm0 rfl 0 (by decide) (hts _ (List.mem_cons_of_mem _ kw_418)) (fun _ h9 => h9) rfl (by decide +kernel) rfl rfl (Nat.le_of_ble_eq_true rfl) dX4_lookOrder_38 (fun H f9 hn9 hz9 oq9 => ?_)
        have hPic : mW D g am 1 dv vo ab be AA H := mW_obj hj hPic oq9 hn9
        have hT0 := hT0.put 0 (by omega) hz9 oq9 (f := f9)
        have hm0 := hPic.1
        have hm1 : va_at D vwCl (am 1, .inl (g 0, 8, .inl (fun j => jI (AA 1 j)))) H := hPic.2 1 (by omega) (by omega)
        exact m_vret hx hb hr hlocks dX4_lookOrder_41 ⟨rfl, rfl, rfl, rfl⟩ hPic hT0
      · refine lv_iload_n hx hb dX4_lookOrder_22 rfl (lv_at hl 3 rfl) ?_
        refine jv_iconst hx hb dX4_lookOrder_23 ?_
        refine jv_sipush hx hb dX4_lookOrder_24 (by decide) ?_
        refine pu_call1 (va_runS (As := [.int (jI (mg)), .int (jI (0)), .int (jI (10000))]) (rest := [.ref (am 0)]) ⟨hx, hb, hml, hown, hts⟩ (k_in l D g mg 0 10000 (by omega) (by omega) (by omega)) (cwS 3 hts (gd_S kw_482 kw_483 kw_16 kcX4_in) rfl rfl rfl (by decide +kernel) ⟨Nat.le_of_ble_eq_true rfl, Nat.le_of_ble_eq_true rfl⟩) (pu_preS trivial hK) rfl rfl hl.1 rfl (lv_room (Nat.le_of_ble_eq_true rfl)) dX4_lookOrder_27 ⟨Nat.zero_le _, Nat.zero_le _⟩) ?_
        refine jv_if_eq (tgt := 37) hx hb dX4_lookOrder_30 (by decide) (bI_rng _) (fun c30 => ?_) (fun c30 => ?_)
        · have c30 := of_decide_eq_false (bI_fa c30)
          refine jv_iconst hx hb dX4_lookOrder_37 ?_
          refine jv_put (D := D) (ci := 4) (v := .int (jI (1))) (ty := .int) (C := RX4) (T := TX4) (N := 17) hx hb hts (fun w h => List.mem_cons_of_mem _ (uw_X4 w h)) tyX4 tyX4_ok nmX4 hown hK hm0 rfl 0 (by decide) (hts _ (List.mem_cons_of_mem _ kw_418)) (fun _ h9 => h9) rfl (by decide +kernel) rfl rfl (Nat.le_of_ble_eq_true rfl) dX4_lookOrder_38 (fun H f9 hn9 hz9 oq9 => ?_)
          have hPic : mW D g am 1 dv vo ab be AA H := mW_obj hj hPic oq9 hn9
          have hT0 := hT0.put 0 (by omega) hz9 oq9 (f := f9)
          have hm0 := hPic.1
          have hm1 : va_at D vwCl (am 1, .inl (g 0, 8, .inl (fun j => jI (AA 1 j)))) H := hPic.2 1 (by omega) (by omega)
          exact m_vret hx hb hr hlocks dX4_lookOrder_41 ⟨rfl, rfl, rfl, rfl⟩ hPic hT0
        · exact absurd (of_decide_eq_true (bI_tr c30)) (by omega)
set_option maxHeartbeats 4000000 in
set_option maxRecDepth 100000 in
theorem b_settle (l : Launch) (D : va_G) (g : Nat → ClassId) (am : Nat → Nat) (cd dv vo ab be : Int) (AA : Nat → Nat → Int) (z : bSt) (hz : bOK z) (hR : mR z dv vo AA) (mg : Int) (h_mg : -2147483648 ≤ mg ∧ mg < 2147483648) (hbad : ¬ (0 ≤ mg ∧ mg ≤ 10000)) (hj : mInj am) : Met l yX4_settle wsX4_settle ({ frames := 2, cells := 0, slots := 0, locals := 43 }) (pu_Pc [.ref (am 0), .int (jI (mg))] D vwCl (ty9 g) (fun H => mW D g am cd dv vo ab be AA H)) (mQ D g am (some (.int (jI (bI false)))) (fun c n v A _ _ => c = 1 ∧ mR z n v A)) 0 0 (mFr am) := by
  refine Met.ofW (cc := cX4_settle) (maxL := 4) (ret := some .boolean) (by decide) rfl ?_
  intro p e s m args below meth c s₁ B hml hv
  obtain ⟨rfl, hPic, hK⟩ := hv
  have hx := B.exec
  have hb := B.bytes
  have hr := B.returns
  have hts := atoms_spec (ws := wsX4_settle) B.pre
  have hown : s.vm.findClass RX4 = some m.cls := findClass_of_methodNamed B.named
  have hlocks := B.notSynchronized
  have hm0 := hPic.1
  have hm1 : va_at D vwCl (am 1, .inl (g 0, 8, .inl (fun j => jI (AA 1 j)))) s.heap := hPic.2 1 (by omega) (by omega)
  have hdv := hR.1
  have hN := hz.1
  have hl := lv_entry ([.ref (am 0), .int (jI (mg))]) (n := 4) (Nat.le_of_ble_eq_true rfl)
  rw [lg_entry_eq]
  generalize (lg_sl ([.ref (am 0), .int (jI (mg))]) ++ List.replicate (4 - (lg_sl ([.ref (am 0), .int (jI (mg))])).length) Slot.unset).toArray = ls at hl ⊢
  have hl : lv_has ls 4 [(0, .ref (am 0)), (1, .int (jI (mg)))] := hl
  have hT0 : mTo am s.heap s.heap [] := mTo.rf
  refine lv_aload_n hx hb dX4_settle_0 rfl (lv_at hl 0 rfl) ?_
  refine lv_iload_n hx hb dX4_settle_1 rfl (lv_at hl 1 rfl) ?_
  refine jv_iconst hx hb dX4_settle_2 ?_
  refine jv_sipush hx hb dX4_settle_3 (by decide) ?_
  refine pu_call1 (va_runS (As := [.int (jI (mg)), .int (jI (0)), .int (jI (10000))]) (rest := [.ref (am 0)]) ⟨hx, hb, hml, hown, hts⟩ (k_in l D g mg 0 10000 (by omega) (by omega) (by omega)) (cwS 3 hts (gd_S kw_482 kw_483 kw_16 kcX4_in) rfl rfl rfl (by decide +kernel) ⟨Nat.le_of_ble_eq_true rfl, Nat.le_of_ble_eq_true rfl⟩) (pu_preS trivial hK) rfl rfl hl.1 rfl (lv_room (Nat.le_of_ble_eq_true rfl)) dX4_settle_6 ⟨Nat.zero_le _, Nat.zero_le _⟩) ?_
  refine jv_if_eq (tgt := 16) hx hb dX4_settle_9 (by decide) (bI_rng _) (fun c9 => ?_) (fun c9 => ?_)
  · have c9 := of_decide_eq_false (bI_fa c9)
    refine jv_iconst hx hb dX4_settle_16 ?_
    refine jv_put (D := D) (ci := 4) (v := .int (jI (1))) (ty := .int) (C := RX4) (T := TX4) (N := 17) hx hb hts (fun w h => List.mem_cons_of_mem _ (uw_X4 w h)) tyX4 tyX4_ok nmX4 hown hK hm0 rfl 0 (by decide) (hts _ (List.mem_cons_of_mem _ kw_418)) (fun _ h9 => h9) rfl (by decide +kernel) rfl rfl (Nat.le_of_ble_eq_true rfl) dX4_settle_17 (fun H f9 hn9 hz9 oq9 => ?_)
    have hPic : mW D g am 1 dv vo ab be AA H := mW_obj hj hPic oq9 hn9
    have hT0 := hT0.put 0 (by omega) hz9 oq9 (f := f9)
    have hm0 := hPic.1
    have hm1 : va_at D vwCl (am 1, .inl (g 0, 8, .inl (fun j => jI (AA 1 j)))) H := hPic.2 1 (by omega) (by omega)
    refine lv_aload_n hx hb dX4_settle_20 rfl (lv_at hl 0 rfl) ?_
    refine va_get (D := D) (ci := 4) (v := .int (jI (1))) (C := RX4) (T := TX4) (N := 17) hx hb hts (fun w h => List.mem_cons_of_mem _ (uw_X4 w h)) hown hK (j_P1 hm0) 0 rfl rfl 0 (by decide) (hts _ (List.mem_cons_of_mem _ kw_418)) (fun _ h9 => h9) rfl dX4_settle_21 ?_
    refine jv_if_le (tgt := 29) hx hb dX4_settle_24 (by decide) (by omega) (fun c24 => ?_) (fun c24 => ?_)
    · exact absurd c24 (by omega)
    · refine jv_iconst hx hb dX4_settle_27 ?_
      exact m_zret hx hb hr hlocks dX4_settle_28 ⟨rfl, hR⟩ hPic hT0 (by rfl)
  · exact absurd (of_decide_eq_true (bI_tr c9)) (by omega)
set_option maxHeartbeats 4000000 in
set_option maxRecDepth 100000 in
theorem b_chosen (l : Launch) (D : va_G) (g : Nat → ClassId) (am : Nat → Nat) (cd dv vo ab be : Int) (AA : Nat → Nat → Int) (z : bSt) (hz : bOK z) (hR : mR z dv vo AA) (d : Int) (h_d : -2147483648 ≤ d ∧ d < 2147483648) (hbad : ¬ (0 ≤ d ∧ d ≤ dv - 1)) (hj : mInj am) : Met l yX4_chosen wsX4_chosen ({ frames := 2, cells := 0, slots := 0, locals := 43 }) (pu_Pc [.ref (am 0), .int (jI (d))] D vwCl (ty9 g) (fun H => mW D g am cd dv vo ab be AA H)) (mQ D g am (some (.int (jI (0)))) (fun c n v A _ _ => c = 1 ∧ mR z n v A)) 0 0 (mFr am) := by
  refine Met.ofW (cc := cX4_chosen) (maxL := 2) (ret := some .int) (by decide) rfl ?_
  intro p e s m args below meth c s₁ B hml hv
  obtain ⟨rfl, hPic, hK⟩ := hv
  have hx := B.exec
  have hb := B.bytes
  have hr := B.returns
  have hts := atoms_spec (ws := wsX4_chosen) B.pre
  have hown : s.vm.findClass RX4 = some m.cls := findClass_of_methodNamed B.named
  have hlocks := B.notSynchronized
  have hm0 := hPic.1
  have hm1 : va_at D vwCl (am 1, .inl (g 0, 8, .inl (fun j => jI (AA 1 j)))) s.heap := hPic.2 1 (by omega) (by omega)
  have hdv := hR.1
  have hN := hz.1
  have hl := lv_entry ([.ref (am 0), .int (jI (d))]) (n := 2) (Nat.le_of_ble_eq_true rfl)
  rw [lg_entry_eq]
  generalize (lg_sl ([.ref (am 0), .int (jI (d))]) ++ List.replicate (2 - (lg_sl ([.ref (am 0), .int (jI (d))])).length) Slot.unset).toArray = ls at hl ⊢
  have hl : lv_has ls 2 [(0, .ref (am 0)), (1, .int (jI (d)))] := hl
  have hT0 : mTo am s.heap s.heap [] := mTo.rf
  refine lv_aload_n hx hb dX4_chosen_0 rfl (lv_at hl 0 rfl) ?_
  refine lv_aload_n hx hb dX4_chosen_1 rfl (lv_at hl 0 rfl) ?_
  refine lv_iload_n hx hb dX4_chosen_2 rfl (lv_at hl 1 rfl) ?_
  refine pu_call1 (va_runV (As := [.int (jI (d))]) (rest := [.ref (am 0)]) ⟨hx, hb, hml, hown, hts⟩ (k_isDevice l D g am cd dv vo ab be AA d (by omega) (by omega)) (cwV 1 hts (gd_V kw_478 kw_480 kw_3 kw_16 kcX4_isDevice) rfl rfl rfl (by decide +kernel) ⟨Nat.le_of_ble_eq_true rfl, Nat.le_of_ble_eq_true rfl⟩) (pu_preV hPic hK rfl hm0) rfl rfl hl.1 rfl (lv_room (Nat.le_of_ble_eq_true rfl)) dX4_chosen_3 ⟨Nat.zero_le _, Nat.zero_le _⟩) ?_
  refine jv_if_eq (tgt := 13) hx hb dX4_chosen_6 (by decide) (bI_rng _) (fun c6 => ?_) (fun c6 => ?_)
  · have c6 := of_decide_eq_false (bI_fa c6)
    refine jv_iconst hx hb dX4_chosen_13 ?_
    refine jv_put (D := D) (ci := 4) (v := .int (jI (1))) (ty := .int) (C := RX4) (T := TX4) (N := 17) hx hb hts (fun w h => List.mem_cons_of_mem _ (uw_X4 w h)) tyX4 tyX4_ok nmX4 hown hK hm0 rfl 0 (by decide) (hts _ (List.mem_cons_of_mem _ kw_418)) (fun _ h9 => h9) rfl (by decide +kernel) rfl rfl (Nat.le_of_ble_eq_true rfl) dX4_chosen_14 (fun H f9 hn9 hz9 oq9 => ?_)
    have hPic : mW D g am 1 dv vo ab be AA H := mW_obj hj hPic oq9 hn9
    have hT0 := hT0.put 0 (by omega) hz9 oq9 (f := f9)
    have hm0 := hPic.1
    have hm1 : va_at D vwCl (am 1, .inl (g 0, 8, .inl (fun j => jI (AA 1 j)))) H := hPic.2 1 (by omega) (by omega)
    refine lv_aload_n hx hb dX4_chosen_17 rfl (lv_at hl 0 rfl) ?_
    refine va_get (D := D) (ci := 4) (v := .int (jI (1))) (C := RX4) (T := TX4) (N := 17) hx hb hts (fun w h => List.mem_cons_of_mem _ (uw_X4 w h)) hown hK (j_P1 hm0) 0 rfl rfl 0 (by decide) (hts _ (List.mem_cons_of_mem _ kw_418)) (fun _ h9 => h9) rfl dX4_chosen_18 ?_
    refine jv_if_le (tgt := 28) hx hb dX4_chosen_21 (by decide) (by omega) (fun c21 => ?_) (fun c21 => ?_)
    · exact absurd c21 (by omega)
    · refine jv_iconst hx hb dX4_chosen_24 ?_
      refine lv_goto (tgt := 34) hx hb dX4_chosen_25 (by decide) ?_
      exact m_iret hx hb hr hlocks dX4_chosen_34 ⟨rfl, hR⟩ hPic hT0 (by rfl)
  · exact absurd (of_decide_eq_true (bI_tr c6)) (by omega)
set_option maxHeartbeats 4000000 in
set_option maxRecDepth 100000 in
theorem b_impedance (l : Launch) (D : va_G) (g : Nat → ClassId) (am : Nat → Nat) (cd dv vo ab be : Int) (AA : Nat → Nat → Int) (z : bSt) (hz : bOK z) (hR : mR z dv vo AA) (d i : Int) (h_d : -2147483648 ≤ d ∧ d < 2147483648) (h_i : -2147483648 ≤ i ∧ i < 2147483648) (hbad : ¬ ((0 ≤ d ∧ d ≤ dv - 1) ∧ (1 ≤ i ∧ i ≤ 10000))) (hj : mInj am) : Met l yX4_impedance wsX4_impedance ({ frames := 2, cells := 0, slots := 0, locals := 43 }) (pu_Pc [.ref (am 0), .int (jI (d)), .int (jI (i))] D vwCl (ty9 g) (fun H => mW D g am cd dv vo ab be AA H)) (mQ D g am (some (.int (jI (0)))) (fun c n v A _ _ => c = 1 ∧ mR z n v A)) 0 0 (mFr am) := by
  refine Met.ofW (cc := cX4_impedance) (maxL := 4) (ret := some .int) (by decide) rfl ?_
  intro p e s m args below meth c s₁ B hml hv
  obtain ⟨rfl, hPic, hK⟩ := hv
  have hx := B.exec
  have hb := B.bytes
  have hr := B.returns
  have hts := atoms_spec (ws := wsX4_impedance) B.pre
  have hown : s.vm.findClass RX4 = some m.cls := findClass_of_methodNamed B.named
  have hlocks := B.notSynchronized
  have hm0 := hPic.1
  have hm1 : va_at D vwCl (am 1, .inl (g 0, 8, .inl (fun j => jI (AA 1 j)))) s.heap := hPic.2 1 (by omega) (by omega)
  have hdv := hR.1
  have hN := hz.1
  have hl := lv_entry ([.ref (am 0), .int (jI (d)), .int (jI (i))]) (n := 4) (Nat.le_of_ble_eq_true rfl)
  rw [lg_entry_eq]
  generalize (lg_sl ([.ref (am 0), .int (jI (d)), .int (jI (i))]) ++ List.replicate (4 - (lg_sl ([.ref (am 0), .int (jI (d)), .int (jI (i))])).length) Slot.unset).toArray = ls at hl ⊢
  have hl : lv_has ls 4 [(0, .ref (am 0)), (1, .int (jI (d))), (2, .int (jI (i)))] := hl
  have hT0 : mTo am s.heap s.heap [] := mTo.rf
  refine lv_aload_n hx hb dX4_impedance_0 rfl (lv_at hl 0 rfl) ?_
  refine lv_aload_n hx hb dX4_impedance_1 rfl (lv_at hl 0 rfl) ?_
  refine lv_iload_n hx hb dX4_impedance_2 rfl (lv_at hl 1 rfl) ?_
  refine pu_call1 (va_runV (As := [.int (jI (d))]) (rest := [.ref (am 0)]) ⟨hx, hb, hml, hown, hts⟩ (k_isDevice l D g am cd dv vo ab be AA d (by omega) (by omega)) (cwV 1 hts (gd_V kw_478 kw_480 kw_3 kw_16 kcX4_isDevice) rfl rfl rfl (by decide +kernel) ⟨Nat.le_of_ble_eq_true rfl, Nat.le_of_ble_eq_true rfl⟩) (pu_preV hPic hK rfl hm0) rfl rfl hl.1 rfl (lv_room (Nat.le_of_ble_eq_true rfl)) dX4_impedance_3 ⟨Nat.zero_le _, Nat.zero_le _⟩) ?_
  refine jv_if_eq (tgt := 24) hx hb dX4_impedance_6 (by decide) (bI_rng _) (fun c6 => ?_) (fun c6 => ?_)
  · have c6 := of_decide_eq_false (bI_fa c6)
    refine jv_iconst hx hb dX4_impedance_24 ?_
    refine jv_put (D := D) (ci := 4) (v := .int (jI (1))) (ty := .int) (C := RX4) (T := TX4) (N := 17) hx hb hts (fun w h => List.mem_cons_of_mem _ (uw_X4 w h)) tyX4 tyX4_ok nmX4 hown hK hm0 rfl 0 (by decide) (hts _ (List.mem_cons_of_mem _ kw_418)) (fun _ h9 => h9) rfl (by decide +kernel) rfl rfl (Nat.le_of_ble_eq_true rfl) dX4_impedance_25 (fun H f9 hn9 hz9 oq9 => ?_)
    have hPic : mW D g am 1 dv vo ab be AA H := mW_obj hj hPic oq9 hn9
    have hT0 := hT0.put 0 (by omega) hz9 oq9 (f := f9)
    have hm0 := hPic.1
    have hm1 : va_at D vwCl (am 1, .inl (g 0, 8, .inl (fun j => jI (AA 1 j)))) H := hPic.2 1 (by omega) (by omega)
    refine lv_aload_n hx hb dX4_impedance_28 rfl (lv_at hl 0 rfl) ?_
    refine va_get (D := D) (ci := 4) (v := .int (jI (1))) (C := RX4) (T := TX4) (N := 17) hx hb hts (fun w h => List.mem_cons_of_mem _ (uw_X4 w h)) hown hK (j_P1 hm0) 0 rfl rfl 0 (by decide) (hts _ (List.mem_cons_of_mem _ kw_418)) (fun _ h9 => h9) rfl dX4_impedance_29 ?_
    refine jv_if_le (tgt := 37) hx hb dX4_impedance_32 (by decide) (by omega) (fun c32 => ?_) (fun c32 => ?_)
    · exact absurd c32 (by omega)
    · refine jv_iconst hx hb dX4_impedance_35 ?_
      exact m_iret hx hb hr hlocks dX4_impedance_36 ⟨rfl, hR⟩ hPic hT0 (by rfl)
  · have c6 := of_decide_eq_true (bI_tr c6)
    refine lv_iload_n hx hb dX4_impedance_9 rfl (lv_at hl 2 rfl) ?_
    refine jv_iconst hx hb dX4_impedance_10 ?_
    refine jv_sipush hx hb dX4_impedance_11 (by decide) ?_
    refine pu_call1 (va_runS (As := [.int (jI (i)), .int (jI (1)), .int (jI (10000))]) (rest := [.ref (am 0)]) ⟨hx, hb, hml, hown, hts⟩ (k_in l D g i 1 10000 (by omega) (by omega) (by omega)) (cwS 3 hts (gd_S kw_482 kw_483 kw_16 kcX4_in) rfl rfl rfl (by decide +kernel) ⟨Nat.le_of_ble_eq_true rfl, Nat.le_of_ble_eq_true rfl⟩) (pu_preS trivial hK) rfl rfl hl.1 rfl (lv_room (Nat.le_of_ble_eq_true rfl)) dX4_impedance_14 ⟨Nat.zero_le _, Nat.zero_le _⟩) ?_
    refine jv_if_eq (tgt := 24) hx hb dX4_impedance_17 (by decide) (bI_rng _) (fun c17 => ?_) (fun c17 => ?_)
    · have c17 := of_decide_eq_false (bI_fa c17)
      refine jv_iconst hx hb dX4_impedance_24 ?_
      refine jv_put (D := D) (ci := 4) (v := .int (jI (1))) (ty := .int) (C := RX4) (T := TX4) (N := 17) hx hb hts (fun w h => List.mem_cons_of_mem _ (uw_X4 w h)) tyX4 tyX4_ok nmX4 hown hK hm0 rfl 0 (by decide) (hts _ (List.mem_cons_of_mem _ kw_418)) (fun _ h9 => h9) rfl (by decide +kernel) rfl rfl (Nat.le_of_ble_eq_true rfl) dX4_impedance_25 (fun H f9 hn9 hz9 oq9 => ?_)
      have hPic : mW D g am 1 dv vo ab be AA H := mW_obj hj hPic oq9 hn9
      have hT0 := hT0.put 0 (by omega) hz9 oq9 (f := f9)
      have hm0 := hPic.1
      have hm1 : va_at D vwCl (am 1, .inl (g 0, 8, .inl (fun j => jI (AA 1 j)))) H := hPic.2 1 (by omega) (by omega)
      refine lv_aload_n hx hb dX4_impedance_28 rfl (lv_at hl 0 rfl) ?_
      refine va_get (D := D) (ci := 4) (v := .int (jI (1))) (C := RX4) (T := TX4) (N := 17) hx hb hts (fun w h => List.mem_cons_of_mem _ (uw_X4 w h)) hown hK (j_P1 hm0) 0 rfl rfl 0 (by decide) (hts _ (List.mem_cons_of_mem _ kw_418)) (fun _ h9 => h9) rfl dX4_impedance_29 ?_
      refine jv_if_le (tgt := 37) hx hb dX4_impedance_32 (by decide) (by omega) (fun c32 => ?_) (fun c32 => ?_)
      · exact absurd c32 (by omega)
      · refine jv_iconst hx hb dX4_impedance_35 ?_
        exact m_iret hx hb hr hlocks dX4_impedance_36 ⟨rfl, hR⟩ hPic hT0 (by rfl)
    · exact absurd (of_decide_eq_true (bI_tr c17)) (by omega)
set_option maxHeartbeats 4000000 in
set_option maxRecDepth 100000 in
theorem b_voltage (l : Launch) (D : va_G) (g : Nat → ClassId) (am : Nat → Nat) (cd dv vo ab be : Int) (AA : Nat → Nat → Int) (z : bSt) (hz : bOK z) (hR : mR z dv vo AA) (i : Int) (h_i : -2147483648 ≤ i ∧ i < 2147483648) (hbad : ¬ (0 ≤ i ∧ i ≤ 1000000)) (hj : mInj am) : Met l yX4_voltage wsX4_voltage ({ frames := 2, cells := 0, slots := 0, locals := 43 }) (pu_Pc [.ref (am 0), .int (jI (i))] D vwCl (ty9 g) (fun H => mW D g am cd dv vo ab be AA H)) (mQ D g am (some (.int (jI (0)))) (fun c n v A _ _ => c = 1 ∧ mR z n v A)) 0 0 (mFr am) := by
  refine Met.ofW (cc := cX4_voltage) (maxL := 3) (ret := some .int) (by decide) rfl ?_
  intro p e s m args below meth c s₁ B hml hv
  obtain ⟨rfl, hPic, hK⟩ := hv
  have hx := B.exec
  have hb := B.bytes
  have hr := B.returns
  have hts := atoms_spec (ws := wsX4_voltage) B.pre
  have hown : s.vm.findClass RX4 = some m.cls := findClass_of_methodNamed B.named
  have hlocks := B.notSynchronized
  have hm0 := hPic.1
  have hm1 : va_at D vwCl (am 1, .inl (g 0, 8, .inl (fun j => jI (AA 1 j)))) s.heap := hPic.2 1 (by omega) (by omega)
  have hdv := hR.1
  have hN := hz.1
  have hl := lv_entry ([.ref (am 0), .int (jI (i))]) (n := 3) (Nat.le_of_ble_eq_true rfl)
  rw [lg_entry_eq]
  generalize (lg_sl ([.ref (am 0), .int (jI (i))]) ++ List.replicate (3 - (lg_sl ([.ref (am 0), .int (jI (i))])).length) Slot.unset).toArray = ls at hl ⊢
  have hl : lv_has ls 3 [(0, .ref (am 0)), (1, .int (jI (i)))] := hl
  have hT0 : mTo am s.heap s.heap [] := mTo.rf
  refine lv_aload_n hx hb dX4_voltage_0 rfl (lv_at hl 0 rfl) ?_
  refine lv_iload_n hx hb dX4_voltage_1 rfl (lv_at hl 1 rfl) ?_
  refine jv_iconst hx hb dX4_voltage_2 ?_
  refine jv_ldc (k := 1000000) hx hb hown (hts _ (List.mem_cons_of_mem _ kw_551)) (by decide) dX4_voltage_3 ?_
  refine pu_call1 (va_runS (As := [.int (jI (i)), .int (jI (0)), .int (jI (1000000))]) (rest := [.ref (am 0)]) ⟨hx, hb, hml, hown, hts⟩ (k_in l D g i 0 1000000 (by omega) (by omega) (by omega)) (cwS 3 hts (gd_S kw_482 kw_483 kw_16 kcX4_in) rfl rfl rfl (by decide +kernel) ⟨Nat.le_of_ble_eq_true rfl, Nat.le_of_ble_eq_true rfl⟩) (pu_preS trivial hK) rfl rfl hl.1 rfl (lv_room (Nat.le_of_ble_eq_true rfl)) dX4_voltage_5 ⟨Nat.zero_le _, Nat.zero_le _⟩) ?_
  refine jv_if_eq (tgt := 15) hx hb dX4_voltage_8 (by decide) (bI_rng _) (fun c8 => ?_) (fun c8 => ?_)
  · have c8 := of_decide_eq_false (bI_fa c8)
    refine jv_iconst hx hb dX4_voltage_15 ?_
    refine jv_put (D := D) (ci := 4) (v := .int (jI (1))) (ty := .int) (C := RX4) (T := TX4) (N := 17) hx hb hts (fun w h => List.mem_cons_of_mem _ (uw_X4 w h)) tyX4 tyX4_ok nmX4 hown hK hm0 rfl 0 (by decide) (hts _ (List.mem_cons_of_mem _ kw_418)) (fun _ h9 => h9) rfl (by decide +kernel) rfl rfl (Nat.le_of_ble_eq_true rfl) dX4_voltage_16 (fun H f9 hn9 hz9 oq9 => ?_)
    have hPic : mW D g am 1 dv vo ab be AA H := mW_obj hj hPic oq9 hn9
    have hT0 := hT0.put 0 (by omega) hz9 oq9 (f := f9)
    have hm0 := hPic.1
    have hm1 : va_at D vwCl (am 1, .inl (g 0, 8, .inl (fun j => jI (AA 1 j)))) H := hPic.2 1 (by omega) (by omega)
    refine lv_aload_n hx hb dX4_voltage_19 rfl (lv_at hl 0 rfl) ?_
    refine va_get (D := D) (ci := 4) (v := .int (jI (1))) (C := RX4) (T := TX4) (N := 17) hx hb hts (fun w h => List.mem_cons_of_mem _ (uw_X4 w h)) hown hK (j_P1 hm0) 0 rfl rfl 0 (by decide) (hts _ (List.mem_cons_of_mem _ kw_418)) (fun _ h9 => h9) rfl dX4_voltage_20 ?_
    refine jv_if_le (tgt := 28) hx hb dX4_voltage_23 (by decide) (by omega) (fun c23 => ?_) (fun c23 => ?_)
    · exact absurd c23 (by omega)
    · refine jv_iconst hx hb dX4_voltage_26 ?_
      exact m_iret hx hb hr hlocks dX4_voltage_27 ⟨rfl, hR⟩ hPic hT0 (by rfl)
  · exact absurd (of_decide_eq_true (bI_tr c8)) (by omega)
set_option maxHeartbeats 4000000 in
set_option maxRecDepth 100000 in
theorem b_shortAt (l : Launch) (D : va_G) (g : Nat → ClassId) (am : Nat → Nat) (cd dv vo ab be : Int) (AA : Nat → Nat → Int) (z : bSt) (hz : bOK z) (hR : mR z dv vo AA) (d : Int) (h_d : -2147483648 ≤ d ∧ d < 2147483648) (hbad : ¬ (0 ≤ d ∧ d ≤ dv - 1)) (hj : mInj am) : Met l yX4_shortAt wsX4_shortAt ({ frames := 2, cells := 0, slots := 0, locals := 43 }) (pu_Pc [.ref (am 0), .int (jI (d))] D vwCl (ty9 g) (fun H => mW D g am cd dv vo ab be AA H)) (mQ D g am (some (.int (jI (0)))) (fun c n v A _ _ => c = 1 ∧ mR z n v A)) 0 0 (mFr am) := by
  refine Met.ofW (cc := cX4_shortAt) (maxL := 2) (ret := some .int) (by decide) rfl ?_
  intro p e s m args below meth c s₁ B hml hv
  obtain ⟨rfl, hPic, hK⟩ := hv
  have hx := B.exec
  have hb := B.bytes
  have hr := B.returns
  have hts := atoms_spec (ws := wsX4_shortAt) B.pre
  have hown : s.vm.findClass RX4 = some m.cls := findClass_of_methodNamed B.named
  have hlocks := B.notSynchronized
  have hm0 := hPic.1
  have hm1 : va_at D vwCl (am 1, .inl (g 0, 8, .inl (fun j => jI (AA 1 j)))) s.heap := hPic.2 1 (by omega) (by omega)
  have hdv := hR.1
  have hN := hz.1
  have hl := lv_entry ([.ref (am 0), .int (jI (d))]) (n := 2) (Nat.le_of_ble_eq_true rfl)
  rw [lg_entry_eq]
  generalize (lg_sl ([.ref (am 0), .int (jI (d))]) ++ List.replicate (2 - (lg_sl ([.ref (am 0), .int (jI (d))])).length) Slot.unset).toArray = ls at hl ⊢
  have hl : lv_has ls 2 [(0, .ref (am 0)), (1, .int (jI (d)))] := hl
  have hT0 : mTo am s.heap s.heap [] := mTo.rf
  refine lv_aload_n hx hb dX4_shortAt_0 rfl (lv_at hl 0 rfl) ?_
  refine lv_aload_n hx hb dX4_shortAt_1 rfl (lv_at hl 0 rfl) ?_
  refine lv_iload_n hx hb dX4_shortAt_2 rfl (lv_at hl 1 rfl) ?_
  refine pu_call1 (va_runV (As := [.int (jI (d))]) (rest := [.ref (am 0)]) ⟨hx, hb, hml, hown, hts⟩ (k_isDevice l D g am cd dv vo ab be AA d (by omega) (by omega)) (cwV 1 hts (gd_V kw_478 kw_480 kw_3 kw_16 kcX4_isDevice) rfl rfl rfl (by decide +kernel) ⟨Nat.le_of_ble_eq_true rfl, Nat.le_of_ble_eq_true rfl⟩) (pu_preV hPic hK rfl hm0) rfl rfl hl.1 rfl (lv_room (Nat.le_of_ble_eq_true rfl)) dX4_shortAt_3 ⟨Nat.zero_le _, Nat.zero_le _⟩) ?_
  refine jv_if_eq (tgt := 13) hx hb dX4_shortAt_6 (by decide) (bI_rng _) (fun c6 => ?_) (fun c6 => ?_)
  · have c6 := of_decide_eq_false (bI_fa c6)
    refine jv_iconst hx hb dX4_shortAt_13 ?_
    refine jv_put (D := D) (ci := 4) (v := .int (jI (1))) (ty := .int) (C := RX4) (T := TX4) (N := 17) hx hb hts (fun w h => List.mem_cons_of_mem _ (uw_X4 w h)) tyX4 tyX4_ok nmX4 hown hK hm0 rfl 0 (by decide) (hts _ (List.mem_cons_of_mem _ kw_418)) (fun _ h9 => h9) rfl (by decide +kernel) rfl rfl (Nat.le_of_ble_eq_true rfl) dX4_shortAt_14 (fun H f9 hn9 hz9 oq9 => ?_)
    have hPic : mW D g am 1 dv vo ab be AA H := mW_obj hj hPic oq9 hn9
    have hT0 := hT0.put 0 (by omega) hz9 oq9 (f := f9)
    have hm0 := hPic.1
    have hm1 : va_at D vwCl (am 1, .inl (g 0, 8, .inl (fun j => jI (AA 1 j)))) H := hPic.2 1 (by omega) (by omega)
    refine lv_aload_n hx hb dX4_shortAt_17 rfl (lv_at hl 0 rfl) ?_
    refine va_get (D := D) (ci := 4) (v := .int (jI (1))) (C := RX4) (T := TX4) (N := 17) hx hb hts (fun w h => List.mem_cons_of_mem _ (uw_X4 w h)) hown hK (j_P1 hm0) 0 rfl rfl 0 (by decide) (hts _ (List.mem_cons_of_mem _ kw_418)) (fun _ h9 => h9) rfl dX4_shortAt_18 ?_
    refine jv_if_le (tgt := 28) hx hb dX4_shortAt_21 (by decide) (by omega) (fun c21 => ?_) (fun c21 => ?_)
    · exact absurd c21 (by omega)
    · refine jv_iconst hx hb dX4_shortAt_24 ?_
      refine lv_goto (tgt := 33) hx hb dX4_shortAt_25 (by decide) ?_
      exact m_iret hx hb hr hlocks dX4_shortAt_33 ⟨rfl, hR⟩ hPic hT0 (by rfl)
  · exact absurd (of_decide_eq_true (bI_tr c6)) (by omega)
set_option maxHeartbeats 4000000 in
set_option maxRecDepth 100000 in
theorem b_opens (l : Launch) (D : va_G) (g : Nat → ClassId) (am : Nat → Nat) (cd dv vo ab be : Int) (AA : Nat → Nat → Int) (z : bSt) (hz : bOK z) (hR : mR z dv vo AA) (d i : Int) (h_d : -2147483648 ≤ d ∧ d < 2147483648) (h_i : -2147483648 ≤ i ∧ i < 2147483648) (hbad : ¬ ((0 ≤ d ∧ d ≤ dv - 1) ∧ 0 ≤ i)) (hj : mInj am) : Met l yX4_opens wsX4_opens ({ frames := 2, cells := 0, slots := 0, locals := 43 }) (pu_Pc [.ref (am 0), .int (jI (d)), .int (jI (i))] D vwCl (ty9 g) (fun H => mW D g am cd dv vo ab be AA H)) (mQ D g am (some (.int (jI (0)))) (fun c n v A _ _ => c = 1 ∧ mR z n v A)) 0 0 (mFr am) := by
  refine Met.ofW (cc := cX4_opens) (maxL := 6) (ret := some .int) (by decide) rfl ?_
  intro p e s m args below meth c s₁ B hml hv
  obtain ⟨rfl, hPic, hK⟩ := hv
  have hx := B.exec
  have hb := B.bytes
  have hr := B.returns
  have hts := atoms_spec (ws := wsX4_opens) B.pre
  have hown : s.vm.findClass RX4 = some m.cls := findClass_of_methodNamed B.named
  have hlocks := B.notSynchronized
  have hm0 := hPic.1
  have hm1 : va_at D vwCl (am 1, .inl (g 0, 8, .inl (fun j => jI (AA 1 j)))) s.heap := hPic.2 1 (by omega) (by omega)
  have hdv := hR.1
  have hN := hz.1
  have hl := lv_entry ([.ref (am 0), .int (jI (d)), .int (jI (i))]) (n := 6) (Nat.le_of_ble_eq_true rfl)
  rw [lg_entry_eq]
  generalize (lg_sl ([.ref (am 0), .int (jI (d)), .int (jI (i))]) ++ List.replicate (6 - (lg_sl ([.ref (am 0), .int (jI (d)), .int (jI (i))])).length) Slot.unset).toArray = ls at hl ⊢
  have hl : lv_has ls 6 [(0, .ref (am 0)), (1, .int (jI (d))), (2, .int (jI (i)))] := hl
  have hT0 : mTo am s.heap s.heap [] := mTo.rf
  refine lv_aload_n hx hb dX4_opens_0 rfl (lv_at hl 0 rfl) ?_
  refine lv_aload_n hx hb dX4_opens_1 rfl (lv_at hl 0 rfl) ?_
  refine lv_iload_n hx hb dX4_opens_2 rfl (lv_at hl 1 rfl) ?_
  refine pu_call1 (va_runV (As := [.int (jI (d))]) (rest := [.ref (am 0)]) ⟨hx, hb, hml, hown, hts⟩ (k_isDevice l D g am cd dv vo ab be AA d (by omega) (by omega)) (cwV 1 hts (gd_V kw_478 kw_480 kw_3 kw_16 kcX4_isDevice) rfl rfl rfl (by decide +kernel) ⟨Nat.le_of_ble_eq_true rfl, Nat.le_of_ble_eq_true rfl⟩) (pu_preV hPic hK rfl hm0) rfl rfl hl.1 rfl (lv_room (Nat.le_of_ble_eq_true rfl)) dX4_opens_3 ⟨Nat.zero_le _, Nat.zero_le _⟩) ?_
  refine jv_if_eq (tgt := 17) hx hb dX4_opens_6 (by decide) (bI_rng _) (fun c6 => ?_) (fun c6 => ?_)
  · have c6 := of_decide_eq_false (bI_fa c6)
    refine jv_iconst hx hb dX4_opens_17 ?_
    refine jv_put (D := D) (ci := 4) (v := .int (jI (1))) (ty := .int) (C := RX4) (T := TX4) (N := 17) hx hb hts (fun w h => List.mem_cons_of_mem _ (uw_X4 w h)) tyX4 tyX4_ok nmX4 hown hK hm0 rfl 0 (by decide) (hts _ (List.mem_cons_of_mem _ kw_418)) (fun _ h9 => h9) rfl (by decide +kernel) rfl rfl (Nat.le_of_ble_eq_true rfl) dX4_opens_18 (fun H f9 hn9 hz9 oq9 => ?_)
    have hPic : mW D g am 1 dv vo ab be AA H := mW_obj hj hPic oq9 hn9
    have hT0 := hT0.put 0 (by omega) hz9 oq9 (f := f9)
    have hm0 := hPic.1
    have hm1 : va_at D vwCl (am 1, .inl (g 0, 8, .inl (fun j => jI (AA 1 j)))) H := hPic.2 1 (by omega) (by omega)
    refine lv_aload_n hx hb dX4_opens_21 rfl (lv_at hl 0 rfl) ?_
    refine va_get (D := D) (ci := 4) (v := .int (jI (1))) (C := RX4) (T := TX4) (N := 17) hx hb hts (fun w h => List.mem_cons_of_mem _ (uw_X4 w h)) hown hK (j_P1 hm0) 0 rfl rfl 0 (by decide) (hts _ (List.mem_cons_of_mem _ kw_418)) (fun _ h9 => h9) rfl dX4_opens_22 ?_
    refine jv_if_le (tgt := 30) hx hb dX4_opens_25 (by decide) (by omega) (fun c25 => ?_) (fun c25 => ?_)
    · exact absurd c25 (by omega)
    · refine jv_iconst hx hb dX4_opens_28 ?_
      exact m_iret hx hb hr hlocks dX4_opens_29 ⟨rfl, hR⟩ hPic hT0 (by rfl)
  · have c6 := of_decide_eq_true (bI_tr c6)
    refine lv_iload_n hx hb dX4_opens_9 rfl (lv_at hl 2 rfl) ?_
    refine jv_if_lt (tgt := 17) hx hb dX4_opens_10 (by decide) (by omega) (fun c10 => ?_) (fun c10 => ?_)
    · refine jv_iconst hx hb dX4_opens_17 ?_
      refine jv_put (D := D) (ci := 4) (v := .int (jI (1))) (ty := .int) (C := RX4) (T := TX4) (N := 17) hx hb hts (fun w h => List.mem_cons_of_mem _ (uw_X4 w h)) tyX4 tyX4_ok nmX4 hown hK hm0 rfl 0 (by decide) (hts _ (List.mem_cons_of_mem _ kw_418)) (fun _ h9 => h9) rfl (by decide +kernel) rfl rfl (Nat.le_of_ble_eq_true rfl) dX4_opens_18 (fun H f9 hn9 hz9 oq9 => ?_)
      have hPic : mW D g am 1 dv vo ab be AA H := mW_obj hj hPic oq9 hn9
      have hT0 := hT0.put 0 (by omega) hz9 oq9 (f := f9)
      have hm0 := hPic.1
      have hm1 : va_at D vwCl (am 1, .inl (g 0, 8, .inl (fun j => jI (AA 1 j)))) H := hPic.2 1 (by omega) (by omega)
      refine lv_aload_n hx hb dX4_opens_21 rfl (lv_at hl 0 rfl) ?_
      refine va_get (D := D) (ci := 4) (v := .int (jI (1))) (C := RX4) (T := TX4) (N := 17) hx hb hts (fun w h => List.mem_cons_of_mem _ (uw_X4 w h)) hown hK (j_P1 hm0) 0 rfl rfl 0 (by decide) (hts _ (List.mem_cons_of_mem _ kw_418)) (fun _ h9 => h9) rfl dX4_opens_22 ?_
      refine jv_if_le (tgt := 30) hx hb dX4_opens_25 (by decide) (by omega) (fun c25 => ?_) (fun c25 => ?_)
      · exact absurd c25 (by omega)
      · refine jv_iconst hx hb dX4_opens_28 ?_
        exact m_iret hx hb hr hlocks dX4_opens_29 ⟨rfl, hR⟩ hPic hT0 (by rfl)
    · exact absurd c10 (by omega)
set_option maxHeartbeats 4000000 in
set_option maxRecDepth 100000 in
theorem b_order (l : Launch) (D : va_G) (g : Nat → ClassId) (am : Nat → Nat) (cd dv vo ab be : Int) (AA : Nat → Nat → Int) (z : bSt) (hz : bOK z) (hR : mR z dv vo AA) (d u mg : Int) (h_d : -2147483648 ≤ d ∧ d < 2147483648) (h_u : -2147483648 ≤ u ∧ u < 2147483648) (h_mg : -2147483648 ≤ mg ∧ mg < 2147483648) (hbad : ¬ ((0 ≤ d ∧ d ≤ dv - 1) ∧ (0 ≤ u ∧ u ≤ dv - 1) ∧ d ≠ u ∧ (0 ≤ mg ∧ mg ≤ 10000))) (hj : mInj am) : Met l yX4_order wsX4_order ({ frames := 3, cells := 0, slots := 0, locals := 66 }) (pu_Pc [.ref (am 0), .int (jI (d)), .int (jI (u)), .int (jI (mg))] D vwCl (ty9 g) (fun H => mW D g am cd dv vo ab be AA H)) (mQ D g am (some (.int (jI ((-1))))) (fun c n v A _ _ => c = 1 ∧ mR z n v A)) 0 0 (mFr am) := by
  refine Met.ofW (cc := cX4_order) (maxL := 5) (ret := some .int) (by decide) rfl ?_
  intro p e s m args below meth c s₁ B hml hv
  obtain ⟨rfl, hPic, hK⟩ := hv
  have hx := B.exec
  have hb := B.bytes
  have hr := B.returns
  have hts := atoms_spec (ws := wsX4_order) B.pre
  have hown : s.vm.findClass RX4 = some m.cls := findClass_of_methodNamed B.named
  have hlocks := B.notSynchronized
  have hm0 := hPic.1
  have hm1 : va_at D vwCl (am 1, .inl (g 0, 8, .inl (fun j => jI (AA 1 j)))) s.heap := hPic.2 1 (by omega) (by omega)
  have hdv := hR.1
  have hN := hz.1
  have hl := lv_entry ([.ref (am 0), .int (jI (d)), .int (jI (u)), .int (jI (mg))]) (n := 5) (Nat.le_of_ble_eq_true rfl)
  rw [lg_entry_eq]
  generalize (lg_sl ([.ref (am 0), .int (jI (d)), .int (jI (u)), .int (jI (mg))]) ++ List.replicate (5 - (lg_sl ([.ref (am 0), .int (jI (d)), .int (jI (u)), .int (jI (mg))])).length) Slot.unset).toArray = ls at hl ⊢
  have hl : lv_has ls 5 [(0, .ref (am 0)), (1, .int (jI (d))), (2, .int (jI (u))), (3, .int (jI (mg)))] := hl
  have hT0 : mTo am s.heap s.heap [] := mTo.rf
  refine lv_aload_n hx hb dX4_order_0 rfl (lv_at hl 0 rfl) ?_
  refine lv_iload_n hx hb dX4_order_1 rfl (lv_at hl 1 rfl) ?_
  refine lv_iload_n hx hb dX4_order_2 rfl (lv_at hl 2 rfl) ?_
  refine lv_iload_n hx hb dX4_order_3 rfl (lv_at hl 3 rfl) ?_
  refine m_call (va_runV (As := [.int (jI (d)), .int (jI (u)), .int (jI (mg))]) (rest := []) ⟨hx, hb, hml, hown, hts⟩ (b_lookOrder l D g am cd dv vo ab be AA z hz hR d u mg h_d h_u h_mg hbad hj) (cwV 3 hts (gd_V kw_519 kw_521 kw_6 kw_16 kcX4_lookOrder) rfl rfl rfl (by decide +kernel) ⟨Nat.le_of_ble_eq_true rfl, Nat.le_of_ble_eq_true rfl⟩) (pu_preV hPic hK rfl hm0) rfl rfl hl.1 rfl (lv_room (Nat.le_of_ble_eq_true rfl)) dX4_order_4 ⟨Nat.zero_le _, Nat.zero_le _⟩) hT0 (fun H locs cd9 dv9 vo9 AA9 ab9 be9 hPh hPic hT0 => ?_)
  refine W.eq (g2 := F0 m 7 ls []) rfl ?_
  obtain ⟨q1, q2, q3, q4⟩ := hPh
  rw [q1, q2, q3, q4] at hPic
  have hm0 := hPic.1
  have hm1 : va_at D vwCl (am 1, .inl (g 0, 8, .inl (fun j => jI (AA 1 j)))) H := hPic.2 1 (by omega) (by omega)
  refine jv_iconst hx hb dX4_order_7 ?_
  refine lv_istore (lv' := [(4, .int (jI (1))), (0, .ref (am 0)), (1, .int (jI (d))), (2, .int (jI (u))), (3, .int (jI (mg)))]) hx hb dX4_order_8 hl (by decide) rfl (fun ls hl => ?_)
  refine lv_iload hx hb dX4_order_10 (lv_at hl 0 rfl) ?_
  refine jv_sipush hx hb dX4_order_12 (by decide) ?_
  refine jv_icmp_gt (tgt := 58) hx hb dX4_order_15 (by decide) (by omega) (by omega) (fun c15 => ?_) (fun c15 => ?_)
  · exact absurd c15 (by omega)
  · refine lv_aload_n hx hb dX4_order_18 rfl (lv_at hl 1 rfl) ?_
    refine va_get (D := D) (ci := 4) (v := .int (jI (1))) (C := RX4) (T := TX4) (N := 17) hx hb hts (fun w h => List.mem_cons_of_mem _ (uw_X4 w h)) hown hK (j_P1 hm0) 0 rfl rfl 0 (by decide) (hts _ (List.mem_cons_of_mem _ kw_418)) (fun _ h9 => h9) rfl dX4_order_19 ?_
    refine jv_if_ne (tgt := 58) hx hb dX4_order_22 (by decide) (by omega) (fun c22 => ?_) (fun c22 => ?_)
    · refine jv_iconst hx hb dX4_order_58 ?_
      exact m_iret hx hb hr hlocks dX4_order_59 ⟨rfl, hR⟩ hPic hT0 (by rfl)
    · exact absurd c22 (by omega)
set_option maxHeartbeats 4000000 in
set_option maxRecDepth 100000 in
theorem b_broken (l : Launch) (D : va_G) (g : Nat → ClassId) (am : Nat → Nat) (cd dv vo ab be : Int) (AA : Nat → Nat → Int) (z : bSt) (hz : bOK z) (hR : mR z dv vo AA) (d u mg : Int) (h_d : -2147483648 ≤ d ∧ d < 2147483648) (h_u : -2147483648 ≤ u ∧ u < 2147483648) (h_mg : -2147483648 ≤ mg ∧ mg < 2147483648) (hbad : ¬ ((0 ≤ d ∧ d ≤ dv - 1) ∧ (0 ≤ u ∧ u ≤ dv - 1) ∧ d ≠ u ∧ (0 ≤ mg ∧ mg ≤ 10000))) (hj : mInj am) : Met l yX4_broken wsX4_broken ({ frames := 3, cells := 0, slots := 0, locals := 66 }) (pu_Pc [.ref (am 0), .int (jI (d)), .int (jI (u)), .int (jI (mg))] D vwCl (ty9 g) (fun H => mW D g am cd dv vo ab be AA H)) (mQ D g am (some (.int (jI (0)))) (fun c n v A _ _ => c = 1 ∧ mR z n v A)) 0 0 (mFr am) := by
  refine Met.ofW (cc := cX4_broken) (maxL := 6) (ret := some .int) (by decide) rfl ?_
  intro p e s m args below meth c s₁ B hml hv
  obtain ⟨rfl, hPic, hK⟩ := hv
  have hx := B.exec
  have hb := B.bytes
  have hr := B.returns
  have hts := atoms_spec (ws := wsX4_broken) B.pre
  have hown : s.vm.findClass RX4 = some m.cls := findClass_of_methodNamed B.named
  have hlocks := B.notSynchronized
  have hm0 := hPic.1
  have hm1 : va_at D vwCl (am 1, .inl (g 0, 8, .inl (fun j => jI (AA 1 j)))) s.heap := hPic.2 1 (by omega) (by omega)
  have hdv := hR.1
  have hN := hz.1
  have hl := lv_entry ([.ref (am 0), .int (jI (d)), .int (jI (u)), .int (jI (mg))]) (n := 6) (Nat.le_of_ble_eq_true rfl)
  rw [lg_entry_eq]
  generalize (lg_sl ([.ref (am 0), .int (jI (d)), .int (jI (u)), .int (jI (mg))]) ++ List.replicate (6 - (lg_sl ([.ref (am 0), .int (jI (d)), .int (jI (u)), .int (jI (mg))])).length) Slot.unset).toArray = ls at hl ⊢
  have hl : lv_has ls 6 [(0, .ref (am 0)), (1, .int (jI (d))), (2, .int (jI (u))), (3, .int (jI (mg)))] := hl
  have hT0 : mTo am s.heap s.heap [] := mTo.rf
  refine lv_aload_n hx hb dX4_broken_0 rfl (lv_at hl 0 rfl) ?_
  refine lv_iload_n hx hb dX4_broken_1 rfl (lv_at hl 1 rfl) ?_
  refine lv_iload_n hx hb dX4_broken_2 rfl (lv_at hl 2 rfl) ?_
  refine lv_iload_n hx hb dX4_broken_3 rfl (lv_at hl 3 rfl) ?_
  refine m_call (va_runV (As := [.int (jI (d)), .int (jI (u)), .int (jI (mg))]) (rest := []) ⟨hx, hb, hml, hown, hts⟩ (b_lookOrder l D g am cd dv vo ab be AA z hz hR d u mg h_d h_u h_mg hbad hj) (cwV 3 hts (gd_V kw_519 kw_521 kw_6 kw_16 kcX4_lookOrder) rfl rfl rfl (by decide +kernel) ⟨Nat.le_of_ble_eq_true rfl, Nat.le_of_ble_eq_true rfl⟩) (pu_preV hPic hK rfl hm0) rfl rfl hl.1 rfl (lv_room (Nat.le_of_ble_eq_true rfl)) dX4_broken_4 ⟨Nat.zero_le _, Nat.zero_le _⟩) hT0 (fun H locs cd9 dv9 vo9 AA9 ab9 be9 hPh hPic hT0 => ?_)
  refine W.eq (g2 := F0 m 7 ls []) rfl ?_
  obtain ⟨q1, q2, q3, q4⟩ := hPh
  rw [q1, q2, q3, q4] at hPic
  have hm0 := hPic.1
  have hm1 : va_at D vwCl (am 1, .inl (g 0, 8, .inl (fun j => jI (AA 1 j)))) H := hPic.2 1 (by omega) (by omega)
  refine jv_iconst hx hb dX4_broken_7 ?_
  refine lv_istore (lv' := [(4, .int (jI (0))), (0, .ref (am 0)), (1, .int (jI (d))), (2, .int (jI (u))), (3, .int (jI (mg)))]) hx hb dX4_broken_8 hl (by decide) rfl (fun ls hl => ?_)
  refine jv_iconst hx hb dX4_broken_10 ?_
  refine lv_istore (lv' := [(5, .int (jI (1))), (4, .int (jI (0))), (0, .ref (am 0)), (1, .int (jI (d))), (2, .int (jI (u))), (3, .int (jI (mg)))]) hx hb dX4_broken_11 hl (by decide) rfl (fun ls hl => ?_)
  refine lv_iload hx hb dX4_broken_13 (lv_at hl 0 rfl) ?_
  refine jv_sipush hx hb dX4_broken_15 (by decide) ?_
  refine jv_icmp_gt (tgt := 68) hx hb dX4_broken_18 (by decide) (by omega) (by omega) (fun c18 => ?_) (fun c18 => ?_)
  · exact absurd c18 (by omega)
  · refine lv_aload_n hx hb dX4_broken_21 rfl (lv_at hl 2 rfl) ?_
    refine va_get (D := D) (ci := 4) (v := .int (jI (1))) (C := RX4) (T := TX4) (N := 17) hx hb hts (fun w h => List.mem_cons_of_mem _ (uw_X4 w h)) hown hK (j_P1 hm0) 0 rfl rfl 0 (by decide) (hts _ (List.mem_cons_of_mem _ kw_418)) (fun _ h9 => h9) rfl dX4_broken_22 ?_
    refine jv_if_ne (tgt := 68) hx hb dX4_broken_25 (by decide) (by omega) (fun c25 => ?_) (fun c25 => ?_)
    · refine lv_iload hx hb dX4_broken_68 (lv_at hl 1 rfl) ?_
      exact m_iret hx hb hr hlocks dX4_broken_70 ⟨rfl, hR⟩ hPic hT0 (by rfl)
    · exact absurd c25 (by omega)
