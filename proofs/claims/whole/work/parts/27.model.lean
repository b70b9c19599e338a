set_option maxRecDepth 20000 in
theorem kw_420 : (.fieldLink RX4 7 "BreakerOrdersModel" "uppers" "[I" : Cond) ∈ gAll := g_mem 420 rfl rfl
set_option maxRecDepth 20000 in
theorem kw_489 : (.constant RX4 61 100000 : Cond) ∈ gAll := g_mem 489 rfl rfl
set_option maxHeartbeats 4000000 in
set_option maxRecDepth 100000 in
theorem k_point (l : Launch) (D : va_G) (g : Nat → ClassId) (am : Nat → Nat) (cd dv vo ab be : Int) (AA : Nat → Nat → Int) (z : bSt) (hz : bOK z) (hR : mR z dv vo AA) (d k : Nat) (pl le mo : Int) (hd : d < bN z) (hk : bK z d = k) (hk6 : k < 6) (hpl : 1 ≤ pl ∧ pl ≤ 5000) (hle : 0 ≤ le ∧ le ≤ mo) (hmo : mo ≤ 100000) (hlast : k = 0 ∨ (bP z d (k - 1) < pl ∧ 1 ≤ bP z d (k - 1))) (hj : mInj am) : Met l yX4_point wsX4_point ({ frames := 2, cells := 0, slots := 0, locals := 43 }) (pu_Pc [.ref (am 0), .int (jI ((d : Int))), .int (jI (pl)), .int (jI (le)), .int (jI (mo))] D vwCl (ty9 g) (fun H => mW D g am cd dv vo ab be AA H)) (mQ D g am (some (.int (jI ((k + 1 : Nat) : Int)))) (fun c n v A _ _ => c = 0 ∧ mR (zK (zM (zL (zP z d k pl) d k le) d k mo) d (k + 1)) n v A)) 0 0 (mFr am) := by
  refine Met.ofW (cc := cX4_point) (maxL := 7) (ret := some .int) (by decide) rfl ?_
  intro p e s m args below meth c s₁ B hml hv
  obtain ⟨rfl, hPic, hK⟩ := hv
  have hx := B.exec
  have hb := B.bytes
  have hr := B.returns
  have hts := atoms_spec (ws := wsX4_point) B.pre
  have hown : s.vm.findClass RX4 = some m.cls := findClass_of_methodNamed B.named
  have hlocks := B.notSynchronized
  have hm0 := hPic.1
  have hm2 : va_at D vwCl (am 2, .inl (g 0, 8, .inl (fun j => jI (AA 2 j)))) s.heap := hPic.2 2 (by omega) (by omega)
  have hm3 : va_at D vwCl (am 3, .inl (g 0, 48, .inl (fun j => jI (AA 3 j)))) s.heap := hPic.2 3 (by omega) (by omega)
  have hm4 : va_at D vwCl (am 4, .inl (g 0, 48, .inl (fun j => jI (AA 4 j)))) s.heap := hPic.2 4 (by omega) (by omega)
  have hm5 : va_at D vwCl (am 5, .inl (g 0, 48, .inl (fun j => jI (AA 5 j)))) s.heap := hPic.2 5 (by omega) (by omega)
  obtain ⟨e1_d, e2_d, e3_d, e6_d, e7_d, e9_d, e10_d⟩ := hR.2.2 d hd
  have f_d := hz.2.2.1 d (by have := hz.1; omega)
  have hN := hz.1
  have hdv := hR.1
  have hN := hz.1
  rw [hk] at e2_d
  have hl := lv_entry ([.ref (am 0), .int (jI ((d : Int))), .int (jI (pl)), .int (jI (le)), .int (jI (mo))]) (n := 7) (Nat.le_of_ble_eq_true rfl)
  rw [lg_entry_eq]
  generalize (lg_sl ([.ref (am 0), .int (jI ((d : Int))), .int (jI (pl)), .int (jI (le)), .int (jI (mo))]) ++ List.replicate (7 - (lg_sl ([.ref (am 0), .int (jI ((d : Int))), .int (jI (pl)), .int (jI (le)), .int (jI (mo))])).length) Slot.unset).toArray = ls at hl ⊢
  have hl : lv_has ls 7 [(0, .ref (am 0)), (1, .int (jI ((d : Int)))), (2, .int (jI (pl))), (3, .int (jI (le))), (4, .int (jI (mo)))] := hl
  have hT0 : mTo am s.heap s.heap [] := mTo.rf
  refine lv_aload_n hx hb dX4_point_0 rfl (lv_at hl 0 rfl) ?_
  refine lv_iload_n hx hb dX4_point_1 rfl (lv_at hl 1 rfl) ?_
  refine pu_call1 (va_runV (As := [.int (jI ((d : Int)))]) (rest := []) ⟨hx, hb, hml, hown, hts⟩ (k_isDevice l D g am cd dv vo ab be AA (d : Int) (by omega) (by omega)) (cwV 1 hts (gd_V kw_478 kw_480 kw_3 kw_16 kcX4_isDevice) rfl rfl rfl (by decide +kernel) ⟨Nat.le_of_ble_eq_true rfl, Nat.le_of_ble_eq_true rfl⟩) (pu_preV hPic hK rfl hm0) rfl rfl hl.1 rfl (lv_room (Nat.le_of_ble_eq_true rfl)) dX4_point_2 ⟨Nat.zero_le _, Nat.zero_le _⟩) ?_
  refine jv_if_eq (tgt := 50) hx hb dX4_point_5 (by decide) (bI_rng _) (fun c5 => ?_) (fun c5 => ?_)
  · exact absurd (bI_fa c5) (by rw [decide_eq_true (by omega)]; decide)
  · refine lv_iload_n hx hb dX4_point_8 rfl (lv_at hl 2 rfl) ?_
    refine jv_iconst hx hb dX4_point_9 ?_
    refine jv_sipush hx hb dX4_point_10 (by decide) ?_
    refine pu_call1 (va_runS (As := [.int (jI (pl)), .int (jI (1)), .int (jI (5000))]) (rest := []) ⟨hx, hb, hml, hown, hts⟩ (k_in l D g pl 1 5000 (by omega) (by omega) (by omega)) (cwS 3 hts (gd_S kw_482 kw_483 kw_16 kcX4_in) rfl rfl rfl (by decide +kernel) ⟨Nat.le_of_ble_eq_true rfl, Nat.le_of_ble_eq_true rfl⟩) (pu_preS trivial hK) rfl rfl hl.1 rfl (lv_room (Nat.le_of_ble_eq_true rfl)) dX4_point_13 ⟨Nat.zero_le _, Nat.zero_le _⟩) ?_
    refine jv_if_eq (tgt := 50) hx hb dX4_point_16 (by decide) (bI_rng _) (fun c16 => ?_) (fun c16 => ?_)
    · exact absurd (bI_fa c16) (by rw [decide_eq_true (by omega)]; decide)
    · refine lv_iload_n hx hb dX4_point_19 rfl (lv_at hl 3 rfl) ?_
      refine jv_iconst hx hb dX4_point_20 ?_
      refine jv_ldc (k := 100000) hx hb hown (hts _ (List.mem_cons_of_mem _ kw_489)) (by decide) dX4_point_21 ?_
      refine pu_call1 (va_runS (As := [.int (jI (le)), .int (jI (0)), .int (jI (100000))]) (rest := []) ⟨hx, hb, hml, hown, hts⟩ (k_in l D g le 0 100000 (by omega) (by omega) (by omega)) (cwS 3 hts (gd_S kw_482 kw_483 kw_16 kcX4_in) rfl rfl rfl (by decide +kernel) ⟨Nat.le_of_ble_eq_true rfl, Nat.le_of_ble_eq_true rfl⟩) (pu_preS trivial hK) rfl rfl hl.1 rfl (lv_room (Nat.le_of_ble_eq_true rfl)) dX4_point_23 ⟨Nat.zero_le _, Nat.zero_le _⟩) ?_
      refine jv_if_eq (tgt := 50) hx hb dX4_point_26 (by decide) (bI_rng _) (fun c26 => ?_) (fun c26 => ?_)
      · exact absurd (bI_fa c26) (by rw [decide_eq_true (by omega)]; decide)
      · refine lv_iload hx hb dX4_point_29 (lv_at hl 4 rfl) ?_
        refine jv_iconst hx hb dX4_point_31 ?_
        refine jv_ldc (k := 100000) hx hb hown (hts _ (List.mem_cons_of_mem _ kw_489)) (by decide) dX4_point_32 ?_
        refine pu_call1 (va_runS (As := [.int (jI (mo)), .int (jI (0)), .int (jI (100000))]) (rest := []) ⟨hx, hb, hml, hown, hts⟩ (k_in l D g mo 0 100000 (by omega) (by omega) (by omega)) (cwS 3 hts (gd_S kw_482 kw_483 kw_16 kcX4_in) rfl rfl rfl (by decide +kernel) ⟨Nat.le_of_ble_eq_true rfl, Nat.le_of_ble_eq_true rfl⟩) (pu_preS trivial hK) rfl rfl hl.1 rfl (lv_room (Nat.le_of_ble_eq_true rfl)) dX4_point_34 ⟨Nat.zero_le _, Nat.zero_le _⟩) ?_
        refine jv_if_eq (tgt := 50) hx hb dX4_point_37 (by decide) (bI_rng _) (fun c37 => ?_) (fun c37 => ?_)
        · exact absurd (bI_fa c37) (by rw [decide_eq_true (by omega)]; decide)
        · refine lv_iload_n hx hb dX4_point_40 rfl (lv_at hl 3 rfl) ?_
          refine lv_iload hx hb dX4_point_41 (lv_at hl 4 rfl) ?_
          refine jv_icmp_gt (tgt := 50) hx hb dX4_point_43 (by decide) (by omega) (by omega) (fun c43 => ?_) (fun c43 => ?_)
          · exact absurd c43 (by omega)
          · refine jv_iconst hx hb dX4_point_46 ?_
            refine lv_goto (tgt := 51) hx hb dX4_point_47 (by decide) ?_
            refine lv_istore (lv' := [(5, .int (jI (1))), (0, .ref (am 0)), (1, .int (jI ((d : Int)))), (2, .int (jI (pl))), (3, .int (jI (le))), (4, .int (jI (mo)))]) hx hb dX4_point_51 hl (by decide) rfl (fun ls hl => ?_)
            refine lv_aload_n hx hb dX4_point_53 rfl (lv_at hl 1 rfl) ?_
            refine lv_iload hx hb dX4_point_54 (lv_at hl 0 rfl) ?_
            refine jv_if_ne (tgt := 63) hx hb dX4_point_56 (by decide) (by omega) (fun c56 => ?_) (fun c56 => ?_)
            · refine lv_aload_n hx hb dX4_point_63 rfl (lv_at hl 1 rfl) ?_
              refine va_get (D := D) (ci := 4) (v := .ref (am 2)) (C := RX4) (T := TX4) (N := 17) hx hb hts (fun w h => List.mem_cons_of_mem _ (uw_X4 w h)) hown hK (j_P1 hm0) 0 rfl rfl 3 (by decide) (hts _ (List.mem_cons_of_mem _ kw_421)) (fun _ h9 => h9) rfl dX4_point_64 ?_
              refine lv_iload_n hx hb dX4_point_67 rfl (lv_at hl 2 rfl) ?_
              refine jv_iald (i := d) hx hb hK hm2 0 rfl (by omega) (by omega) (by decide) dX4_point_68 ?_
              rw [e2_d]
              refine jv_bipush hx hb dX4_point_69 (by decide) ?_
              refine jv_icmp_eq (tgt := 105) hx hb dX4_point_71 (by decide) (by omega) (by omega) (fun c71 => ?_) (fun c71 => ?_)
              · exact absurd c71 (by omega)
              · refine lv_aload_n hx hb dX4_point_74 rfl (lv_at hl 1 rfl) ?_
                refine va_get (D := D) (ci := 4) (v := .ref (am 2)) (C := RX4) (T := TX4) (N := 17) hx hb hts (fun w h => List.mem_cons_of_mem _ (uw_X4 w h)) hown hK (j_P1 hm0) 0 rfl rfl 3 (by decide) (hts _ (List.mem_cons_of_mem _ kw_421)) (fun _ h9 => h9) rfl dX4_point_75 ?_
                refine lv_iload_n hx hb dX4_point_78 rfl (lv_at hl 2 rfl) ?_
                refine jv_iald (i := d) hx hb hK hm2 0 rfl (by omega) (by omega) (by decide) dX4_point_79 ?_
                rw [e2_d]
                refine jv_if_le (tgt := 109) hx hb dX4_point_80 (by decide) (by omega) (fun c80 => ?_) (fun c80 => ?_)
                · refine jv_iconst hx hb dX4_point_109 ?_
                  refine jv_put (D := D) (ci := 4) (v := .int (jI (0))) (ty := .int) (C := RX4) (T := TX4) (N := 17) hx hb hts (fun w h => List.mem_cons_of_mem _ (uw_X4 w h)) tyX4 tyX4_ok nmX4 hown hK hm0 rfl 0 (by decide) (hts _ (List.mem_cons_of_mem _ kw_418)) (fun _ h9 => h9) rfl (by decide +kernel) rfl rfl (Nat.le_of_ble_eq_true rfl) dX4_point_110 (fun H f9 hn9 hz9 oq9 => ?_)
                  have hPic : mW D g am 0 dv vo ab be AA H := mW_obj hj hPic oq9 hn9
                  have hT0 := hT0.put 0 (by omega) hz9 oq9 (f := f9)
                  have hm0 := hPic.1
                  have hm2 : va_at D vwCl (am 2, .inl (g 0, 8, .inl (fun j => jI (AA 2 j)))) H := hPic.2 2 (by omega) (by omega)
                  have hm3 : va_at D vwCl (am 3, .inl (g 0, 48, .inl (fun j => jI (AA 3 j)))) H := hPic.2 3 (by omega) (by omega)
                  have hm4 : va_at D vwCl (am 4, .inl (g 0, 48, .inl (fun j => jI (AA 4 j)))) H := hPic.2 4 (by omega) (by omega)
                  have hm5 : va_at D vwCl (am 5, .inl (g 0, 48, .inl (fun j => jI (AA 5 j)))) H := hPic.2 5 (by omega) (by omega)
                  refine lv_aload_n hx hb dX4_point_113 rfl (lv_at hl 1 rfl) ?_
                  refine va_get (D := D) (ci := 4) (v := .int (jI (0))) (C := RX4) (T := TX4) (N := 17) hx hb hts (fun w h => List.mem_cons_of_mem _ (uw_X4 w h)) hown hK (j_P1 hm0) 0 rfl rfl 0 (by decide) (hts _ (List.mem_cons_of_mem _ kw_418)) (fun _ h9 => h9) rfl dX4_point_114 ?_
                  refine jv_if_le (tgt := 122) hx hb dX4_point_117 (by decide) (by omega) (fun c117 => ?_) (fun c117 => ?_)
                  · refine jv_bipush hx hb dX4_point_122 (by decide) ?_
                    refine lv_iload_n hx hb dX4_point_124 rfl (lv_at hl 2 rfl) ?_
                    refine jv_imul hx hb dX4_point_125 ?_
                    refine lv_aload_n hx hb dX4_point_126 rfl (lv_at hl 1 rfl) ?_
                    refine va_get (D := D) (ci := 4) (v := .ref (am 2)) (C := RX4) (T := TX4) (N := 17) hx hb hts (fun w h => List.mem_cons_of_mem _ (uw_X4 w h)) hown hK (j_P1 hm0) 0 rfl rfl 3 (by decide) (hts _ (List.mem_cons_of_mem _ kw_421)) (fun _ h9 => h9) rfl dX4_point_127 ?_
                    refine lv_iload_n hx hb dX4_point_130 rfl (lv_at hl 2 rfl) ?_
                    refine jv_iald (i := d) hx hb hK hm2 0 rfl (by omega) (by omega) (by decide) dX4_point_131 ?_
                    rw [e2_d]
                    refine jv_iadd hx hb dX4_point_132 ?_
                    refine lv_istore (lv' := [(6, .int (jI ((6 * (d : Int)) + (k : Int)))), (5, .int (jI (1))), (0, .ref (am 0)), (1, .int (jI ((d : Int)))), (2, .int (jI (pl))), (3, .int (jI (le))), (4, .int (jI (mo)))]) hx hb dX4_point_133 hl (by decide) rfl (fun ls hl => ?_)
                    refine lv_aload_n hx hb dX4_point_135 rfl (lv_at hl 2 rfl) ?_
                    refine va_get (D := D) (ci := 4) (v := .ref (am 3)) (C := RX4) (T := TX4) (N := 17) hx hb hts (fun w h => List.mem_cons_of_mem _ (uw_X4 w h)) hown hK (j_P1 hm0) 0 rfl rfl 4 (by decide) (hts _ (List.mem_cons_of_mem _ kw_422)) (fun _ h9 => h9) rfl dX4_point_136 ?_
                    refine lv_iload hx hb dX4_point_139 (lv_at hl 0 rfl) ?_
                    refine lv_iload_n hx hb dX4_point_141 rfl (lv_at hl 4 rfl) ?_
                    refine jv_iast (i := (6 * d + k)) hx hb hK hm3 0 rfl (by omega) (by omega) (by decide) dX4_point_142 (fun H f9 hn9 hz9 oq9 => ?_)
                    have hPic := mW_arr hj hPic 3 (by omega) (by omega) oq9 hn9
                    obtain ⟨A1, hA1⟩ : ∃ A9, A9 = jUp AA 3 (jUp (AA 3) (6 * d + k) (pl)) := ⟨_, rfl⟩
                    rw [← hA1] at hPic
                    have hT0 := hT0.put 3 (by omega) hz9 oq9 (f := f9)
                    have hm0 := hPic.1
                    have hm2 : va_at D vwCl (am 2, .inl (g 0, 8, .inl (fun j => jI (A1 2 j)))) H := hPic.2 2 (by omega) (by omega)
                    have hm3 : va_at D vwCl (am 3, .inl (g 0, 48, .inl (fun j => jI (A1 3 j)))) H := hPic.2 3 (by omega) (by omega)
                    have hm4 : va_at D vwCl (am 4, .inl (g 0, 48, .inl (fun j => jI (A1 4 j)))) H := hPic.2 4 (by omega) (by omega)
                    have hm5 : va_at D vwCl (am 5, .inl (g 0, 48, .inl (fun j => jI (A1 5 j)))) H := hPic.2 5 (by omega) (by omega)
                    have e2_d : A1 2 d = (k : Int) := by rw [hA1, mU_at, if_neg (by omega)]; exact e2_d
                    refine lv_aload_n hx hb dX4_point_143 rfl (lv_at hl 2 rfl) ?_
                    refine va_get (D := D) (ci := 4) (v := .ref (am 4)) (C := RX4) (T := TX4) (N := 17) hx hb hts (fun w h => List.mem_cons_of_mem _ (uw_X4 w h)) hown hK (j_P1 hm0) 0 rfl rfl 5 (by decide) (hts _ (List.mem_cons_of_mem _ kw_423)) (fun _ h9 => h9) rfl dX4_point_144 ?_
                    refine lv_iload hx hb dX4_point_147 (lv_at hl 0 rfl) ?_
                    refine lv_iload_n hx hb dX4_point_149 rfl (lv_at hl 5 rfl) ?_
                    refine jv_iast (i := (6 * d + k)) hx hb hK hm4 0 rfl (by omega) (by omega) (by decide) dX4_point_150 (fun H f9 hn9 hz9 oq9 => ?_)
                    have hPic := mW_arr hj hPic 4 (by omega) (by omega) oq9 hn9
                    obtain ⟨A2, hA2⟩ : ∃ A9, A9 = jUp A1 4 (jUp (A1 4) (6 * d + k) (le)) := ⟨_, rfl⟩
                    rw [← hA2] at hPic
                    have hT0 := hT0.put 4 (by omega) hz9 oq9 (f := f9)
                    have hm0 := hPic.1
                    have hm2 : va_at D vwCl (am 2, .inl (g 0, 8, .inl (fun j => jI (A2 2 j)))) H := hPic.2 2 (by omega) (by omega)
                    have hm3 : va_at D vwCl (am 3, .inl (g 0, 48, .inl (fun j => jI (A2 3 j)))) H := hPic.2 3 (by omega) (by omega)
                    have hm4 : va_at D vwCl (am 4, .inl (g 0, 48, .inl (fun j => jI (A2 4 j)))) H := hPic.2 4 (by omega) (by omega)
                    have hm5 : va_at D vwCl (am 5, .inl (g 0, 48, .inl (fun j => jI (A2 5 j)))) H := hPic.2 5 (by omega) (by omega)
                    have e2_d : A2 2 d = (k : Int) := by rw [hA2, mU_at, if_neg (by omega)]; exact e2_d
                    refine lv_aload_n hx hb dX4_point_151 rfl (lv_at hl 2 rfl) ?_
                    refine va_get (D := D) (ci := 4) (v := .ref (am 5)) (C := RX4) (T := TX4) (N := 17) hx hb hts (fun w h => List.mem_cons_of_mem _ (uw_X4 w h)) hown hK (j_P1 hm0) 0 rfl rfl 6 (by decide) (hts _ (List.mem_cons_of_mem _ kw_424)) (fun _ h9 => h9) rfl dX4_point_152 ?_
                    refine lv_iload hx hb dX4_point_155 (lv_at hl 0 rfl) ?_
                    refine lv_iload hx hb dX4_point_157 (lv_at hl 6 rfl) ?_
                    refine jv_iast (i := (6 * d + k)) hx hb hK hm5 0 rfl (by omega) (by omega) (by decide) dX4_point_159 (fun H f9 hn9 hz9 oq9 => ?_)
                    have hPic := mW_arr hj hPic 5 (by omega) (by omega) oq9 hn9
                    obtain ⟨A3, hA3⟩ : ∃ A9, A9 = jUp A2 5 (jUp (A2 5) (6 * d + k) (mo)) := ⟨_, rfl⟩
                    rw [← hA3] at hPic
                    have hT0 := hT0.put 5 (by omega) hz9 oq9 (f := f9)
                    have hm0 := hPic.1
                    have hm2 : va_at D vwCl (am 2, .inl (g 0, 8, .inl (fun j => jI (A3 2 j)))) H := hPic.2 2 (by omega) (by omega)
                    have hm3 : va_at D vwCl (am 3, .inl (g 0, 48, .inl (fun j => jI (A3 3 j)))) H := hPic.2 3 (by omega) (by omega)
                    have hm4 : va_at D vwCl (am 4, .inl (g 0, 48, .inl (fun j => jI (A3 4 j)))) H := hPic.2 4 (by omega) (by omega)
                    have hm5 : va_at D vwCl (am 5, .inl (g 0, 48, .inl (fun j => jI (A3 5 j)))) H := hPic.2 5 (by omega) (by omega)
                    have e2_d : A3 2 d = (k : Int) := by rw [hA3, mU_at, if_neg (by omega)]; exact e2_d
                    refine lv_aload_n hx hb dX4_point_160 rfl (lv_at hl 2 rfl) ?_
                    refine va_get (D := D) (ci := 4) (v := .ref (am 2)) (C := RX4) (T := TX4) (N := 17) hx hb hts (fun w h => List.mem_cons_of_mem _ (uw_X4 w h)) hown hK (j_P1 hm0) 0 rfl rfl 3 (by decide) (hts _ (List.mem_cons_of_mem _ kw_421)) (fun _ h9 => h9) rfl dX4_point_161 ?_
                    refine lv_iload_n hx hb dX4_point_164 rfl (lv_at hl 3 rfl) ?_
                    refine lv_dup2_11 hx hb dX4_point_165 rfl rfl ?_
                    refine jv_iald (i := d) hx hb hK hm2 0 rfl (by omega) (by omega) (by decide) dX4_point_166 ?_
                    rw [e2_d]
                    refine jv_iconst hx hb dX4_point_167 ?_
                    refine jv_iadd hx hb dX4_point_168 ?_
                    refine jv_iast (i := d) hx hb hK hm2 0 rfl (by omega) (by omega) (by decide) dX4_point_169 (fun H f9 hn9 hz9 oq9 => ?_)
                    have hPic := mW_arr hj hPic 2 (by omega) (by omega) oq9 hn9
                    obtain ⟨A4, hA4⟩ : ∃ A9, A9 = jUp A3 2 (jUp (A3 2) d ((k : Int) + 1)) := ⟨_, rfl⟩
                    rw [← hA4] at hPic
                    have hT0 := hT0.put 2 (by omega) hz9 oq9 (f := f9)
                    have hm0 := hPic.1
                    have hm2 : va_at D vwCl (am 2, .inl (g 0, 8, .inl (fun j => jI (A4 2 j)))) H := hPic.2 2 (by omega) (by omega)
                    have e2_d : A4 2 d = (k : Int) + 1 := by rw [hA4, mU_at, if_pos ⟨rfl, rfl⟩]
                    refine lv_aload_n hx hb dX4_point_170 rfl (lv_at hl 2 rfl) ?_
                    refine va_get (D := D) (ci := 4) (v := .ref (am 2)) (C := RX4) (T := TX4) (N := 17) hx hb hts (fun w h => List.mem_cons_of_mem _ (uw_X4 w h)) hown hK (j_P1 hm0) 0 rfl rfl 3 (by decide) (hts _ (List.mem_cons_of_mem _ kw_421)) (fun _ h9 => h9) rfl dX4_point_171 ?_
                    refine lv_iload_n hx hb dX4_point_174 rfl (lv_at hl 3 rfl) ?_
                    refine jv_iald (i := d) hx hb hK hm2 0 rfl (by omega) (by omega) (by decide) dX4_point_175 ?_
                    rw [e2_d]
                    exact m_iret hx hb hr hlocks dX4_point_176 ⟨rfl, mR_P hz hR hd hk hk6 hA1 hA2 hA3 hA4⟩ hPic hT0 (by omega)
                  · exact absurd c117 (by omega)
                · have s3 : AA 3 (6 * d + (k - 1)) = bP z d (k - 1) := (e3_d (k - 1) (by omega)).1
                  refine lv_aload_n hx hb dX4_point_83 rfl (lv_at hl 1 rfl) ?_
                  refine va_get (D := D) (ci := 4) (v := .ref (am 3)) (C := RX4) (T := TX4) (N := 17) hx hb hts (fun w h => List.mem_cons_of_mem _ (uw_X4 w h)) hown hK (j_P1 hm0) 0 rfl rfl 4 (by decide) (hts _ (List.mem_cons_of_mem _ kw_422)) (fun _ h9 => h9) rfl dX4_point_84 ?_
                  refine jv_bipush hx hb dX4_point_87 (by decide) ?_
                  refine lv_iload_n hx hb dX4_point_89 rfl (lv_at hl 2 rfl) ?_
                  refine jv_imul hx hb dX4_point_90 ?_
                  refine lv_aload_n hx hb dX4_point_91 rfl (lv_at hl 1 rfl) ?_
                  refine va_get (D := D) (ci := 4) (v := .ref (am 2)) (C := RX4) (T := TX4) (N := 17) hx hb hts (fun w h => List.mem_cons_of_mem _ (uw_X4 w h)) hown hK (j_P1 hm0) 0 rfl rfl 3 (by decide) (hts _ (List.mem_cons_of_mem _ kw_421)) (fun _ h9 => h9) rfl dX4_point_92 ?_
                  refine lv_iload_n hx hb dX4_point_95 rfl (lv_at hl 2 rfl) ?_
                  refine jv_iald (i := d) hx hb hK hm2 0 rfl (by omega) (by omega) (by decide) dX4_point_96 ?_
                  rw [e2_d]
                  refine jv_iadd hx hb dX4_point_97 ?_
                  refine jv_iconst hx hb dX4_point_98 ?_
                  refine jv_isub hx hb dX4_point_99 ?_
                  refine jv_iald (i := (6 * d + (k - 1))) hx hb hK hm3 0 rfl (by omega) (by omega) (by decide) dX4_point_100 ?_
                  rw [s3]
                  refine lv_iload_n hx hb dX4_point_101 rfl (lv_at hl 3 rfl) ?_
                  refine jv_icmp_lt (tgt := 109) hx hb dX4_point_102 (by decide) (by omega) (by omega) (fun c102 => ?_) (fun c102 => ?_)
                  · refine jv_iconst hx hb dX4_point_109 ?_
                    refine jv_put (D := D) (ci := 4) (v := .int (jI (0))) (ty := .int) (C := RX4) (T := TX4) (N := 17) hx hb hts (fun w h => List.mem_cons_of_mem _ (uw_X4 w h)) tyX4 tyX4_ok nmX4 hown hK hm0 rfl 0 (by decide) (hts _ (List.mem_cons_of_mem _ kw_418)) (fun _ h9 => h9) rfl (by decide +kernel) rfl rfl (Nat.le_of_ble_eq_true rfl) dX4_point_110 (fun H f9 hn9 hz9 oq9 => ?_)
                    have hPic : mW D g am 0 dv vo ab be AA H := mW_obj hj hPic oq9 hn9
                    have hT0 := hT0.put 0 (by omega) hz9 oq9 (f := f9)
                    have hm0 := hPic.1
                    have hm2 : va_at D vwCl (am 2, .inl (g 0, 8, .inl (fun j => jI (AA 2 j)))) H := hPic.2 2 (by omega) (by omega)
                    have hm3 : va_at D vwCl (am 3, .inl (g 0, 48, .inl (fun j => jI (AA 3 j)))) H := hPic.2 3 (by omega) (by omega)
                    have hm4 : va_at D vwCl (am 4, .inl (g 0, 48, .inl (fun j => jI (AA 4 j)))) H := hPic.2 4 (by omega) (by omega)
                    have hm5 : va_at D vwCl (am 5, .inl (g 0, 48, .inl (fun j => jI (AA 5 j)))) H := hPic.2 5 (by omega) (by omega)
                    refine lv_aload_n hx hb dX4_point_113 rfl (lv_at hl 1 rfl) ?_
                    refine va_get (D := D) (ci := 4) (v := .int (jI (0))) (C := RX4) (T := TX4) (N := 17) hx hb hts (fun w h => List.mem_cons_of_mem _ (uw_X4 w h)) hown hK (j_P1 hm0) 0 rfl rfl 0 (by decide) (hts _ (List.mem_cons_of_mem _ kw_418)) (fun _ h9 => h9) rfl dX4_point_114 ?_
                    refine jv_if_le (tgt := 122) hx hb dX4_point_117 (by decide) (by omega) (fun c117 => ?_) (fun c117 => ?_)
                    · refine jv_bipush hx hb dX4_point_122 (by decide) ?_
                      refine lv_iload_n hx hb dX4_point_124 rfl (lv_at hl 2 rfl) ?_
                      refine jv_imul hx hb dX4_point_125 ?_
                      refine lv_aload_n hx hb dX4_point_126 rfl (lv_at hl 1 rfl) ?_
                      refine va_get (D := D) (ci := 4) (v := .ref (am 2)) (C := RX4) (T := TX4) (N := 17) hx hb hts (fun w h => List.mem_cons_of_mem _ (uw_X4 w h)) hown hK (j_P1 hm0) 0 rfl rfl 3 (by decide) (hts _ (List.mem_cons_of_mem _ kw_421)) (fun _ h9 => h9) rfl dX4_point_127 ?_
                      refine lv_iload_n hx hb dX4_point_130 rfl (lv_at hl 2 rfl) ?_
                      refine jv_iald (i := d) hx hb hK hm2 0 rfl (by omega) (by omega) (by decide) dX4_point_131 ?_
                      rw [e2_d]
                      refine jv_iadd hx hb dX4_point_132 ?_
                      refine lv_istore (lv' := [(6, .int (jI ((6 * (d : Int)) + (k : Int)))), (5, .int (jI (1))), (0, .ref (am 0)), (1, .int (jI ((d : Int)))), (2, .int (jI (pl))), (3, .int (jI (le))), (4, .int (jI (mo)))]) hx hb dX4_point_133 hl (by decide) rfl (fun ls hl => ?_)
                      refine lv_aload_n hx hb dX4_point_135 rfl (lv_at hl 2 rfl) ?_
                      refine va_get (D := D) (ci := 4) (v := .ref (am 3)) (C := RX4) (T := TX4) (N := 17) hx hb hts (fun w h => List.mem_cons_of_mem _ (uw_X4 w h)) hown hK (j_P1 hm0) 0 rfl rfl 4 (by decide) (hts _ (List.mem_cons_of_mem _ kw_422)) (fun _ h9 => h9) rfl dX4_point_136 ?_
                      refine lv_iload hx hb dX4_point_139 (lv_at hl 0 rfl) ?_
                      refine lv_iload_n hx hb dX4_point_141 rfl (lv_at hl 4 rfl) ?_
                      refine jv_iast (i := (6 * d + k)) hx hb hK hm3 0 rfl (by omega) (by omega) (by decide) dX4_point_142 (fun H f9 hn9 hz9 oq9 => ?_)
                      have hPic := mW_arr hj hPic 3 (by omega) (by omega) oq9 hn9
                      obtain ⟨A1, hA1⟩ : ∃ A9, A9 = jUp AA 3 (jUp (AA 3) (6 * d + k) (pl)) := ⟨_, rfl⟩
                      rw [← hA1] at hPic
                      have hT0 := hT0.put 3 (by omega) hz9 oq9 (f := f9)
                      have hm0 := hPic.1
                      have hm2 : va_at D vwCl (am 2, .inl (g 0, 8, .inl (fun j => jI (A1 2 j)))) H := hPic.2 2 (by omega) (by omega)
                      have hm3 : va_at D vwCl (am 3, .inl (g 0, 48, .inl (fun j => jI (A1 3 j)))) H := hPic.2 3 (by omega) (by omega)
                      have hm4 : va_at D vwCl (am 4, .inl (g 0, 48, .inl (fun j => jI (A1 4 j)))) H := hPic.2 4 (by omega) (by omega)
                      have hm5 : va_at D vwCl (am 5, .inl (g 0, 48, .inl (fun j => jI (A1 5 j)))) H := hPic.2 5 (by omega) (by omega)
                      have e2_d : A1 2 d = (k : Int) := by rw [hA1, mU_at, if_neg (by omega)]; exact e2_d
                      refine lv_aload_n hx hb dX4_point_143 rfl (lv_at hl 2 rfl) ?_
                      refine va_get (D := D) (ci := 4) (v := .ref (am 4)) (C := RX4) (T := TX4) (N := 17) hx hb hts (fun w h => List.mem_cons_of_mem _ (uw_X4 w h)) hown hK (j_P1 hm0) 0 rfl rfl 5 (by decide) (hts _ (List.mem_cons_of_mem _ kw_423)) (fun _ h9 => h9) rfl dX4_point_144 ?_
                      refine lv_iload hx hb dX4_point_147 (lv_at hl 0 rfl) ?_
                      refine lv_iload_n hx hb dX4_point_149 rfl (lv_at hl 5 rfl) ?_
                      refine jv_iast (i := (6 * d + k)) hx hb hK hm4 0 rfl (by omega) (by omega) (by decide) dX4_point_150 (fun H f9 hn9 hz9 oq9 => ?_)
                      have hPic := mW_arr hj hPic 4 (by omega) (by omega) oq9 hn9
                      obtain ⟨A2, hA2⟩ : ∃ A9, A9 = jUp A1 4 (jUp (A1 4) (6 * d + k) (le)) := ⟨_, rfl⟩
                      rw [← hA2] at hPic
                      have hT0 := hT0.put 4 (by omega) hz9 oq9 (f := f9)
                      have hm0 := hPic.1
                      have hm2 : va_at D vwCl (am 2, .inl (g 0, 8, .inl (fun j => jI (A2 2 j)))) H := hPic.2 2 (by omega) (by omega)
                      have hm3 : va_at D vwCl (am 3, .inl (g 0, 48, .inl (fun j => jI (A2 3 j)))) H := hPic.2 3 (by omega) (by omega)
                      have hm4 : va_at D vwCl (am 4, .inl (g 0, 48, .inl (fun j => jI (A2 4 j)))) H := hPic.2 4 (by omega) (by omega)
                      have hm5 : va_at D vwCl (am 5, .inl (g 0, 48, .inl (fun j => jI (A2 5 j)))) H := hPic.2 5 (by omega) (by omega)
                      have e2_d : A2 2 d = (k : Int) := by rw [hA2, mU_at, if_neg (by omega)]; exact e2_d
                      refine lv_aload_n hx hb dX4_point_151 rfl (lv_at hl 2 rfl) ?_
                      refine va_get (D := D) (ci := 4) (v := .ref (am 5)) (C := RX4) (T := TX4) (N := 17) hx hb hts (fun w h => List.mem_cons_of_mem _ (uw_X4 w h)) hown hK (j_P1 hm0) 0 rfl rfl 6 (by decide) (hts _ (List.mem_cons_of_mem _ kw_424)) (fun _ h9 => h9) rfl dX4_point_152 ?_
                      refine lv_iload hx hb dX4_point_155 (lv_at hl 0 rfl) ?_
                      refine lv_iload hx hb dX4_point_157 (lv_at hl 6 rfl) ?_
                      refine jv_iast (i := (6 * d + k)) hx hb hK hm5 0 rfl (by omega) (by omega) (by decide) dX4_point_159 (fun H f9 hn9 hz9 oq9 => ?_)
                      have hPic := mW_arr hj hPic 5 (by omega) (by omega) oq9 hn9
                      obtain ⟨A3, hA3⟩ : ∃ A9, A9 = jUp A2 5 (jUp (A2 5) (6 * d + k) (mo)) := ⟨_, rfl⟩
                      rw [← hA3] at hPic
                      have hT0 := hT0.put 5 (by omega) hz9 oq9 (f := f9)
                      have hm0 := hPic.1
                      have hm2 : va_at D vwCl (am 2, .inl (g 0, 8, .inl (fun j => jI (A3 2 j)))) H := hPic.2 2 (by omega) (by omega)
                      have hm3 : va_at D vwCl (am 3, .inl (g 0, 48, .inl (fun j => jI (A3 3 j)))) H := hPic.2 3 (by omega) (by omega)
                      have hm4 : va_at D vwCl (am 4, .inl (g 0, 48, .inl (fun j => jI (A3 4 j)))) H := hPic.2 4 (by omega) (by omega)
                      have hm5 : va_at D vwCl (am 5, .inl (g 0, 48, .inl (fun j => jI (A3 5 j)))) H := hPic.2 5 (by omega) (by omega)
                      have e2_d : A3 2 d = (k : Int) := by rw [hA3, mU_at, if_neg (by omega)]; exact e2_d
                      refine lv_aload_n hx hb dX4_point_160 rfl (lv_at hl 2 rfl) ?_
                      refine va_get (D := D) (ci := 4) (v := .ref (am 2)) (C := RX4) (T := TX4) (N := 17) hx hb hts (fun w h => List.mem_cons_of_mem _ (uw_X4 w h)) hown hK (j_P1 hm0) 0 rfl rfl 3 (by decide) (hts _ (List.mem_cons_of_mem _ kw_421)) (fun _ h9 => h9) rfl dX4_point_161 ?_
                      refine lv_iload_n hx hb dX4_point_164 rfl (lv_at hl 3 rfl) ?_
                      refine lv_dup2_11 hx hb dX4_point_165 rfl rfl ?_
                      refine jv_iald (i := d) hx hb hK hm2 0 rfl (by omega) (by omega) (by decide) dX4_point_166 ?_
                      rw [e2_d]
                      refine jv_iconst hx hb dX4_point_167 ?_
                      refine jv_iadd hx hb dX4_point_168 ?_
                      refine jv_iast (i := d) hx hb hK hm2 0 rfl (by omega) (by omega) (by decide) dX4_point_169 (fun H f9 hn9 hz9 oq9 => ?_)
                      have hPic := mW_arr hj hPic 2 (by omega) (by omega) oq9 hn9
                      obtain ⟨A4, hA4⟩ : ∃ A9, A9 = jUp A3 2 (jUp (A3 2) d ((k : Int) + 1)) := ⟨_, rfl⟩
                      rw [← hA4] at hPic
                      have hT0 := hT0.put 2 (by omega) hz9 oq9 (f := f9)
                      have hm0 := hPic.1
                      have hm2 : va_at D vwCl (am 2, .inl (g 0, 8, .inl (fun j => jI (A4 2 j)))) H := hPic.2 2 (by omega) (by omega)
                      have e2_d : A4 2 d = (k : Int) + 1 := by rw [hA4, mU_at, if_pos ⟨rfl, rfl⟩]
                      refine lv_aload_n hx hb dX4_point_170 rfl (lv_at hl 2 rfl) ?_
                      refine va_get (D := D) (ci := 4) (v := .ref (am 2)) (C := RX4) (T := TX4) (N := 17) hx hb hts (fun w h => List.mem_cons_of_mem _ (uw_X4 w h)) hown hK (j_P1 hm0) 0 rfl rfl 3 (by decide) (hts _ (List.mem_cons_of_mem _ kw_421)) (fun _ h9 => h9) rfl dX4_point_171 ?_
                      refine lv_iload_n hx hb dX4_point_174 rfl (lv_at hl 3 rfl) ?_
                      refine jv_iald (i := d) hx hb hK hm2 0 rfl (by omega) (by omega) (by decide) dX4_point_175 ?_
                      rw [e2_d]
                      exact m_iret hx hb hr hlocks dX4_point_176 ⟨rfl, mR_P hz hR hd hk hk6 hA1 hA2 hA3 hA4⟩ hPic hT0 (by omega)
                    · exact absurd c117 (by omega)
                  · exact absurd c102 (by omega)
            · exact absurd c56 (by decide)
set_option maxHeartbeats 4000000 in
set_option maxRecDepth 100000 in
theorem k_device0 (l : Launch) (D : va_G) (g : Nat → ClassId) (am : Nat → Nat) (cd dv vo ab be : Int) (AA : Nat → Nat → Int) (z : bSt) (hz : bOK z) (hR : mR z dv vo AA) (hdf : bDef z) (n : Nat) (hn : bN z = n) (hn8 : n < 8) (hj : mInj am) : Met l yX4_device wsX4_device ({ frames := 2, cells := 0, slots := 0, locals := 43 }) (pu_Pc [.ref (am 0), .int (jI ((-1)))] D vwCl (ty9 g) (fun H => mW D g am cd dv vo ab be AA H)) (mQ D g am (some (.int (jI (n : Int)))) (fun c n9 v A _ _ => c = 0 ∧ mR (zN (zU z n none) (n + 1)) n9 v A)) 0 0 (mFr am) := by
  refine Met.ofW (cc := cX4_device) (maxL := 2) (ret := some .int) (by decide) rfl ?_
  intro p e s m args below meth c s₁ B hml hv
  obtain ⟨rfl, hPic, hK⟩ := hv
  have hx := B.exec
  have hb := B.bytes
  have hr := B.returns
  have hts := atoms_spec (ws := wsX4_device) B.pre
  have hown : s.vm.findClass RX4 = some m.cls := findClass_of_methodNamed B.named
  have hlocks := B.notSynchronized
  have hdv : dv = (n : Int) := by rw [hR.1, hn]
  subst hdv
  have hm0 := hPic.1
  have hm1 : va_at D vwCl (am 1, .inl (g 0, 8, .inl (fun j => jI (AA 1 j)))) s.heap := hPic.2 1 (by omega) (by omega)
  have hm2 : va_at D vwCl (am 2, .inl (g 0, 8, .inl (fun j => jI (AA 2 j)))) s.heap := hPic.2 2 (by omega) (by omega)
  have hm6 : va_at D vwCl (am 6, .inl (g 0, 8, .inl (fun j => jI (AA 6 j)))) s.heap := hPic.2 6 (by omega) (by omega)
  have hm7 : va_at D vwCl (am 7, .inl (g 0, 32, .inl (fun j => jI (AA 7 j)))) s.heap := hPic.2 7 (by omega) (by omega)
  have hm8 : va_at D vwCl (am 8, .inl (g 0, 32, .inl (fun j => jI (AA 8 j)))) s.heap := hPic.2 8 (by omega) (by omega)
  have hm9 : va_at D vwCl (am 9, .inl (g 0, 8, .inl (fun j => jI (AA 9 j)))) s.heap := hPic.2 9 (by omega) (by omega)
  have hm10 : va_at D vwCl (am 10, .inl (g 0, 8, .inl (fun j => jI (AA 10 j)))) s.heap := hPic.2 10 (by omega) (by omega)
  have hl := lv_entry ([.ref (am 0), .int (jI ((-1)))]) (n := 2) (Nat.le_of_ble_eq_true rfl)
  rw [lg_entry_eq]
  generalize (lg_sl ([.ref (am 0), .int (jI ((-1)))]) ++ List.replicate (2 - (lg_sl ([.ref (am 0), .int (jI ((-1)))])).length) Slot.unset).toArray = ls at hl ⊢
  have hl : lv_has ls 2 [(0, .ref (am 0)), (1, .int (jI ((-1))))] := hl
  have hT0 : mTo am s.heap s.heap [] := mTo.rf
  refine lv_aload_n hx hb dX4_device_0 rfl (lv_at hl 0 rfl) ?_
  refine lv_iload_n hx hb dX4_device_1 rfl (lv_at hl 1 rfl) ?_
  refine jv_iconst hx hb dX4_device_2 ?_
  refine jv_icmp_eq (tgt := 18) hx hb dX4_device_3 (by decide) (by omega) (by omega) (fun c3 => ?_) (fun c3 => ?_)
  · refine lv_aload_n hx hb dX4_device_18 rfl (lv_at hl 0 rfl) ?_
    refine va_get (D := D) (ci := 4) (v := .int (jI ((n : Int)))) (C := RX4) (T := TX4) (N := 17) hx hb hts (fun w h => List.mem_cons_of_mem _ (uw_X4 w h)) hown hK (j_P1 hm0) 0 rfl rfl 1 (by decide) (hts _ (List.mem_cons_of_mem _ kw_419)) (fun _ h9 => h9) rfl dX4_device_19 ?_
    refine jv_bipush hx hb dX4_device_22 (by decide) ?_
    refine jv_icmp_ne (tgt := 31) hx hb dX4_device_24 (by decide) (by omega) (by omega) (fun c24 => ?_) (fun c24 => ?_)
    · refine jv_iconst hx hb dX4_device_31 ?_
      refine jv_put (D := D) (ci := 4) (v := .int (jI (0))) (ty := .int) (C := RX4) (T := TX4) (N := 17) hx hb hts (fun w h => List.mem_cons_of_mem _ (uw_X4 w h)) tyX4 tyX4_ok nmX4 hown hK hm0 rfl 0 (by decide) (hts _ (List.mem_cons_of_mem _ kw_418)) (fun _ h9 => h9) rfl (by decide +kernel) rfl rfl (Nat.le_of_ble_eq_true rfl) dX4_device_32 (fun H f9 hn9 hz9 oq9 => ?_)
      have hPic : mW D g am 0 (n : Int) vo ab be AA H := mW_obj hj hPic oq9 hn9
      have hT0 := hT0.put 0 (by omega) hz9 oq9 (f := f9)
      have hm0 := hPic.1
      have hm1 : va_at D vwCl (am 1, .inl (g 0, 8, .inl (fun j => jI (AA 1 j)))) H := hPic.2 1 (by omega) (by omega)
      have hm2 : va_at D vwCl (am 2, .inl (g 0, 8, .inl (fun j => jI (AA 2 j)))) H := hPic.2 2 (by omega) (by omega)
      have hm6 : va_at D vwCl (am 6, .inl (g 0, 8, .inl (fun j => jI (AA 6 j)))) H := hPic.2 6 (by omega) (by omega)
      have hm7 : va_at D vwCl (am 7, .inl (g 0, 32, .inl (fun j => jI (AA 7 j)))) H := hPic.2 7 (by omega) (by omega)
      have hm8 : va_at D vwCl (am 8, .inl (g 0, 32, .inl (fun j => jI (AA 8 j)))) H := hPic.2 8 (by omega) (by omega)
      have hm9 : va_at D vwCl (am 9, .inl (g 0, 8, .inl (fun j => jI (AA 9 j)))) H := hPic.2 9 (by omega) (by omega)
      have hm10 : va_at D vwCl (am 10, .inl (g 0, 8, .inl (fun j => jI (AA 10 j)))) H := hPic.2 10 (by omega) (by omega)
      refine lv_aload_n hx hb dX4_device_35 rfl (lv_at hl 0 rfl) ?_
      refine va_get (D := D) (ci := 4) (v := .int (jI (0))) (C := RX4) (T := TX4) (N := 17) hx hb hts (fun w h => List.mem_cons_of_mem _ (uw_X4 w h)) hown hK (j_P1 hm0) 0 rfl rfl 0 (by decide) (hts _ (List.mem_cons_of_mem _ kw_418)) (fun _ h9 => h9) rfl dX4_device_36 ?_
      refine jv_if_le (tgt := 44) hx hb dX4_device_39 (by decide) (by omega) (fun c39 => ?_) (fun c39 => ?_)
      · refine lv_aload_n hx hb dX4_device_44 rfl (lv_at hl 0 rfl) ?_
        refine va_get (D := D) (ci := 4) (v := .ref (am 1)) (C := RX4) (T := TX4) (N := 17) hx hb hts (fun w h => List.mem_cons_of_mem _ (uw_X4 w h)) hown hK (j_P1 hm0) 0 rfl rfl 2 (by decide) (hts _ (List.mem_cons_of_mem _ kw_420)) (fun _ h9 => h9) rfl dX4_device_45 ?_
        refine lv_aload_n hx hb dX4_device_48 rfl (lv_at hl 0 rfl) ?_
        refine va_get (D := D) (ci := 4) (v := .int (jI ((n : Int)))) (C := RX4) (T := TX4) (N := 17) hx hb hts (fun w h => List.mem_cons_of_mem _ (uw_X4 w h)) hown hK (j_P1 hm0) 0 rfl rfl 1 (by decide) (hts _ (List.mem_cons_of_mem _ kw_419)) (fun _ h9 => h9) rfl dX4_device_49 ?_
        refine lv_iload_n hx hb dX4_device_52 rfl (lv_at hl 1 rfl) ?_
        refine jv_iast (i := n) hx hb hK hm1 0 rfl (by omega) (by omega) (by decide) dX4_device_53 (fun H f9 hn9 hz9 oq9 => ?_)
        have hPic := mW_arr hj hPic 1 (by omega) (by omega) oq9 hn9
        obtain ⟨A1, hA1⟩ : ∃ A9, A9 = jUp AA 1 (jUp (AA 1) n ((-1))) := ⟨_, rfl⟩
        rw [← hA1] at hPic
        have hT0 := hT0.put 1 (by omega) hz9 oq9 (f := f9)
        have hm0 := hPic.1
        have hm1 : va_at D vwCl (am 1, .inl (g 0, 8, .inl (fun j => jI (A1 1 j)))) H := hPic.2 1 (by omega) (by omega)
        have hm2 : va_at D vwCl (am 2, .inl (g 0, 8, .inl (fun j => jI (A1 2 j)))) H := hPic.2 2 (by omega) (by omega)
        have hm6 : va_at D vwCl (am 6, .inl (g 0, 8, .inl (fun j => jI (A1 6 j)))) H := hPic.2 6 (by omega) (by omega)
        have hm7 : va_at D vwCl (am 7, .inl (g 0, 32, .inl (fun j => jI (A1 7 j)))) H := hPic.2 7 (by omega) (by omega)
        have hm8 : va_at D vwCl (am 8, .inl (g 0, 32, .inl (fun j => jI (A1 8 j)))) H := hPic.2 8 (by omega) (by omega)
        have hm9 : va_at D vwCl (am 9, .inl (g 0, 8, .inl (fun j => jI (A1 9 j)))) H := hPic.2 9 (by omega) (by omega)
        have hm10 : va_at D vwCl (am 10, .inl (g 0, 8, .inl (fun j => jI (A1 10 j)))) H := hPic.2 10 (by omega) (by omega)
        refine lv_aload_n hx hb dX4_device_54 rfl (lv_at hl 0 rfl) ?_
        refine va_get (D := D) (ci := 4) (v := .ref (am 2)) (C := RX4) (T := TX4) (N := 17) hx hb hts (fun w h => List.mem_cons_of_mem _ (uw_X4 w h)) hown hK (j_P1 hm0) 0 rfl rfl 3 (by decide) (hts _ (List.mem_cons_of_mem _ kw_421)) (fun _ h9 => h9) rfl dX4_device_55 ?_
        refine lv_aload_n hx hb dX4_device_58 rfl (lv_at hl 0 rfl) ?_
        refine va_get (D := D) (ci := 4) (v := .int (jI ((n : Int)))) (C := RX4) (T := TX4) (N := 17) hx hb hts (fun w h => List.mem_cons_of_mem _ (uw_X4 w h)) hown hK (j_P1 hm0) 0 rfl rfl 1 (by decide) (hts _ (List.mem_cons_of_mem _ kw_419)) (fun _ h9 => h9) rfl dX4_device_59 ?_
        refine jv_iconst hx hb dX4_device_62 ?_
        refine jv_iast (i := n) hx hb hK hm2 0 rfl (by omega) (by omega) (by decide) dX4_device_63 (fun H f9 hn9 hz9 oq9 => ?_)
        have hPic := mW_arr hj hPic 2 (by omega) (by omega) oq9 hn9
        obtain ⟨A2, hA2⟩ : ∃ A9, A9 = jUp A1 2 (jUp (A1 2) n (0)) := ⟨_, rfl⟩
        rw [← hA2] at hPic
        have hT0 := hT0.put 2 (by omega) hz9 oq9 (f := f9)
        have hm0 := hPic.1
        have hm1 : va_at D vwCl (am 1, .inl (g 0, 8, .inl (fun j => jI (A2 1 j)))) H := hPic.2 1 (by omega) (by omega)
        have hm2 : va_at D vwCl (am 2, .inl (g 0, 8, .inl (fun j => jI (A2 2 j)))) H := hPic.2 2 (by omega) (by omega)
        have hm6 : va_at D vwCl (am 6, .inl (g 0, 8, .inl (fun j => jI (A2 6 j)))) H := hPic.2 6 (by omega) (by omega)
        have hm7 : va_at D vwCl (am 7, .inl (g 0, 32, .inl (fun j => jI (A2 7 j)))) H := hPic.2 7 (by omega) (by omega)
        have hm8 : va_at D vwCl (am 8, .inl (g 0, 32, .inl (fun j => jI (A2 8 j)))) H := hPic.2 8 (by omega) (by omega)
        have hm9 : va_at D vwCl (am 9, .inl (g 0, 8, .inl (fun j => jI (A2 9 j)))) H := hPic.2 9 (by omega) (by omega)
        have hm10 : va_at D vwCl (am 10, .inl (g 0, 8, .inl (fun j => jI (A2 10 j)))) H := hPic.2 10 (by omega) (by omega)
        refine lv_aload_n hx hb dX4_device_64 rfl (lv_at hl 0 rfl) ?_
        refine va_get (D := D) (ci := 4) (v := .ref (am 6)) (C := RX4) (T := TX4) (N := 17) hx hb hts (fun w h => List.mem_cons_of_mem _ (uw_X4 w h)) hown hK (j_P1 hm0) 0 rfl rfl 7 (by decide) (hts _ (List.mem_cons_of_mem _ kw_425)) (fun _ h9 => h9) rfl dX4_device_65 ?_
        refine lv_aload_n hx hb dX4_device_68 rfl (lv_at hl 0 rfl) ?_
        refine va_get (D := D) (ci := 4) (v := .int (jI ((n : Int)))) (C := RX4) (T := TX4) (N := 17) hx hb hts (fun w h => List.mem_cons_of_mem _ (uw_X4 w h)) hown hK (j_P1 hm0) 0 rfl rfl 1 (by decide) (hts _ (List.mem_cons_of_mem _ kw_419)) (fun _ h9 => h9) rfl dX4_device_69 ?_
        refine jv_iconst hx hb dX4_device_72 ?_
        refine jv_iast (i := n) hx hb hK hm6 0 rfl (by omega) (by omega) (by decide) dX4_device_73 (fun H f9 hn9 hz9 oq9 => ?_)
        have hPic := mW_arr hj hPic 6 (by omega) (by omega) oq9 hn9
        obtain ⟨A3, hA3⟩ : ∃ A9, A9 = jUp A2 6 (jUp (A2 6) n (1)) := ⟨_, rfl⟩
        rw [← hA3] at hPic
        have hT0 := hT0.put 6 (by omega) hz9 oq9 (f := f9)
        have hm0 := hPic.1
        have hm1 : va_at D vwCl (am 1, .inl (g 0, 8, .inl (fun j => jI (A3 1 j)))) H := hPic.2 1 (by omega) (by omega)
        have hm2 : va_at D vwCl (am 2, .inl (g 0, 8, .inl (fun j => jI (A3 2 j)))) H := hPic.2 2 (by omega) (by omega)
        have hm6 : va_at D vwCl (am 6, .inl (g 0, 8, .inl (fun j => jI (A3 6 j)))) H := hPic.2 6 (by omega) (by omega)
        have hm7 : va_at D vwCl (am 7, .inl (g 0, 32, .inl (fun j => jI (A3 7 j)))) H := hPic.2 7 (by omega) (by omega)
        have hm8 : va_at D vwCl (am 8, .inl (g 0, 32, .inl (fun j => jI (A3 8 j)))) H := hPic.2 8 (by omega) (by omega)
        have hm9 : va_at D vwCl (am 9, .inl (g 0, 8, .inl (fun j => jI (A3 9 j)))) H := hPic.2 9 (by omega) (by omega)
        have hm10 : va_at D vwCl (am 10, .inl (g 0, 8, .inl (fun j => jI (A3 10 j)))) H := hPic.2 10 (by omega) (by omega)
        refine lv_aload_n hx hb dX4_device_74 rfl (lv_at hl 0 rfl) ?_
        refine va_get (D := D) (ci := 4) (v := .ref (am 7)) (C := RX4) (T := TX4) (N := 17) hx hb hts (fun w h => List.mem_cons_of_mem _ (uw_X4 w h)) hown hK (j_P1 hm0) 0 rfl rfl 8 (by decide) (hts _ (List.mem_cons_of_mem _ kw_426)) (fun _ h9 => h9) rfl dX4_device_75 ?_
        refine jv_iconst hx hb dX4_device_78 ?_
        refine lv_aload_n hx hb dX4_device_79 rfl (lv_at hl 0 rfl) ?_
        refine va_get (D := D) (ci := 4) (v := .int (jI ((n : Int)))) (C := RX4) (T := TX4) (N := 17) hx hb hts (fun w h => List.mem_cons_of_mem _ (uw_X4 w h)) hown hK (j_P1 hm0) 0 rfl rfl 1 (by decide) (hts _ (List.mem_cons_of_mem _ kw_419)) (fun _ h9 => h9) rfl dX4_device_80 ?_
        refine jv_imul hx hb dX4_device_83 ?_
        refine jv_bipush hx hb dX4_device_84 (by decide) ?_
        refine jv_iast (i := (4 * n)) hx hb hK hm7 0 rfl (by omega) (by omega) (by decide) dX4_device_86 (fun H f9 hn9 hz9 oq9 => ?_)
        have hPic := mW_arr hj hPic 7 (by omega) (by omega) oq9 hn9
        obtain ⟨A4, hA4⟩ : ∃ A9, A9 = jUp A3 7 (jUp (A3 7) (4 * n) (100)) := ⟨_, rfl⟩
        rw [← hA4] at hPic
        have hT0 := hT0.put 7 (by omega) hz9 oq9 (f := f9)
        have hm0 := hPic.1
        have hm1 : va_at D vwCl (am 1, .inl (g 0, 8, .inl (fun j => jI (A4 1 j)))) H := hPic.2 1 (by omega) (by omega)
        have hm2 : va_at D vwCl (am 2, .inl (g 0, 8, .inl (fun j => jI (A4 2 j)))) H := hPic.2 2 (by omega) (by omega)
        have hm6 : va_at D vwCl (am 6, .inl (g 0, 8, .inl (fun j => jI (A4 6 j)))) H := hPic.2 6 (by omega) (by omega)
        have hm7 : va_at D vwCl (am 7, .inl (g 0, 32, .inl (fun j => jI (A4 7 j)))) H := hPic.2 7 (by omega) (by omega)
        have hm8 : va_at D vwCl (am 8, .inl (g 0, 32, .inl (fun j => jI (A4 8 j)))) H := hPic.2 8 (by omega) (by omega)
        have hm9 : va_at D vwCl (am 9, .inl (g 0, 8, .inl (fun j => jI (A4 9 j)))) H := hPic.2 9 (by omega) (by omega)
        have hm10 : va_at D vwCl (am 10, .inl (g 0, 8, .inl (fun j => jI (A4 10 j)))) H := hPic.2 10 (by omega) (by omega)
        refine lv_aload_n hx hb dX4_device_87 rfl (lv_at hl 0 rfl) ?_
        refine va_get (D := D) (ci := 4) (v := .ref (am 8)) (C := RX4) (T := TX4) (N := 17) hx hb hts (fun w h => List.mem_cons_of_mem _ (uw_X4 w h)) hown hK (j_P1 hm0) 0 rfl rfl 9 (by decide) (hts _ (List.mem_cons_of_mem _ kw_427)) (fun _ h9 => h9) rfl dX4_device_88 ?_
        refine jv_iconst hx hb dX4_device_91 ?_
        refine lv_aload_n hx hb dX4_device_92 rfl (lv_at hl 0 rfl) ?_
        refine va_get (D := D) (ci := 4) (v := .int (jI ((n : Int)))) (C := RX4) (T := TX4) (N := 17) hx hb hts (fun w h => List.mem_cons_of_mem _ (uw_X4 w h)) hown hK (j_P1 hm0) 0 rfl rfl 1 (by decide) (hts _ (List.mem_cons_of_mem _ kw_419)) (fun _ h9 => h9) rfl dX4_device_93 ?_
        refine jv_imul hx hb dX4_device_96 ?_
        refine jv_iconst hx hb dX4_device_97 ?_
        refine jv_iast (i := (4 * n)) hx hb hK hm8 0 rfl (by omega) (by omega) (by decide) dX4_device_98 (fun H f9 hn9 hz9 oq9 => ?_)
        have hPic := mW_arr hj hPic 8 (by omega) (by omega) oq9 hn9
        obtain ⟨A5, hA5⟩ : ∃ A9, A9 = jUp A4 8 (jUp (A4 8) (4 * n) (0)) := ⟨_, rfl⟩
        rw [← hA5] at hPic
        have hT0 := hT0.put 8 (by omega) hz9 oq9 (f := f9)
        have hm0 := hPic.1
        have hm1 : va_at D vwCl (am 1, .inl (g 0, 8, .inl (fun j => jI (A5 1 j)))) H := hPic.2 1 (by omega) (by omega)
        have hm2 : va_at D vwCl (am 2, .inl (g 0, 8, .inl (fun j => jI (A5 2 j)))) H := hPic.2 2 (by omega) (by omega)
        have hm6 : va_at D vwCl (am 6, .inl (g 0, 8, .inl (fun j => jI (A5 6 j)))) H := hPic.2 6 (by omega) (by omega)
        have hm7 : va_at D vwCl (am 7, .inl (g 0, 32, .inl (fun j => jI (A5 7 j)))) H := hPic.2 7 (by omega) (by omega)
        have hm8 : va_at D vwCl (am 8, .inl (g 0, 32, .inl (fun j => jI (A5 8 j)))) H := hPic.2 8 (by omega) (by omega)
        have hm9 : va_at D vwCl (am 9, .inl (g 0, 8, .inl (fun j => jI (A5 9 j)))) H := hPic.2 9 (by omega) (by omega)
        have hm10 : va_at D vwCl (am 10, .inl (g 0, 8, .inl (fun j => jI (A5 10 j)))) H := hPic.2 10 (by omega) (by omega)
        refine lv_aload_n hx hb dX4_device_99 rfl (lv_at hl 0 rfl) ?_
        refine va_get (D := D) (ci := 4) (v := .ref (am 9)) (C := RX4) (T := TX4) (N := 17) hx hb hts (fun w h => List.mem_cons_of_mem _ (uw_X4 w h)) hown hK (j_P1 hm0) 0 rfl rfl 10 (by decide) (hts _ (List.mem_cons_of_mem _ kw_428)) (fun _ h9 => h9) rfl dX4_device_100 ?_
        refine lv_aload_n hx hb dX4_device_103 rfl (lv_at hl 0 rfl) ?_
        refine va_get (D := D) (ci := 4) (v := .int (jI ((n : Int)))) (C := RX4) (T := TX4) (N := 17) hx hb hts (fun w h => List.mem_cons_of_mem _ (uw_X4 w h)) hown hK (j_P1 hm0) 0 rfl rfl 1 (by decide) (hts _ (List.mem_cons_of_mem _ kw_419)) (fun _ h9 => h9) rfl dX4_device_104 ?_
        refine jv_iconst hx hb dX4_device_107 ?_
        refine jv_iast (i := n) hx hb hK hm9 0 rfl (by omega) (by omega) (by decide) dX4_device_108 (fun H f9 hn9 hz9 oq9 => ?_)
        have hPic := mW_arr hj hPic 9 (by omega) (by omega) oq9 hn9
        obtain ⟨A6, hA6⟩ : ∃ A9, A9 = jUp A5 9 (jUp (A5 9) n (0)) := ⟨_, rfl⟩
        rw [← hA6] at hPic
        have hT0 := hT0.put 9 (by omega) hz9 oq9 (f := f9)
        have hm0 := hPic.1
        have hm1 : va_at D vwCl (am 1, .inl (g 0, 8, .inl (fun j => jI (A6 1 j)))) H := hPic.2 1 (by omega) (by omega)
        have hm2 : va_at D vwCl (am 2, .inl (g 0, 8, .inl (fun j => jI (A6 2 j)))) H := hPic.2 2 (by omega) (by omega)
        have hm6 : va_at D vwCl (am 6, .inl (g 0, 8, .inl (fun j => jI (A6 6 j)))) H := hPic.2 6 (by omega) (by omega)
        have hm7 : va_at D vwCl (am 7, .inl (g 0, 32, .inl (fun j => jI (A6 7 j)))) H := hPic.2 7 (by omega) (by omega)
        have hm8 : va_at D vwCl (am 8, .inl (g 0, 32, .inl (fun j => jI (A6 8 j)))) H := hPic.2 8 (by omega) (by omega)
        have hm9 : va_at D vwCl (am 9, .inl (g 0, 8, .inl (fun j => jI (A6 9 j)))) H := hPic.2 9 (by omega) (by omega)
        have hm10 : va_at D vwCl (am 10, .inl (g 0, 8, .inl (fun j => jI (A6 10 j)))) H := hPic.2 10 (by omega) (by omega)
        refine lv_aload_n hx hb dX4_device_109 rfl (lv_at hl 0 rfl) ?_
        refine va_get (D := D) (ci := 4) (v := .ref (am 10)) (C := RX4) (T := TX4) (N := 17) hx hb hts (fun w h => List.mem_cons_of_mem _ (uw_X4 w h)) hown hK (j_P1 hm0) 0 rfl rfl 11 (by decide) (hts _ (List.mem_cons_of_mem _ kw_429)) (fun _ h9 => h9) rfl dX4_device_110 ?_
        refine lv_aload_n hx hb dX4_device_113 rfl (lv_at hl 0 rfl) ?_
        refine va_get (D := D) (ci := 4) (v := .int (jI ((n : Int)))) (C := RX4) (T := TX4) (N := 17) hx hb hts (fun w h => List.mem_cons_of_mem _ (uw_X4 w h)) hown hK (j_P1 hm0) 0 rfl rfl 1 (by decide) (hts _ (List.mem_cons_of_mem _ kw_419)) (fun _ h9 => h9) rfl dX4_device_114 ?_
        refine jv_bipush hx hb dX4_device_117 (by decide) ?_
        refine jv_iast (i := n) hx hb hK hm10 0 rfl (by omega) (by omega) (by decide) dX4_device_119 (fun H f9 hn9 hz9 oq9 => ?_)
        have hPic := mW_arr hj hPic 10 (by omega) (by omega) oq9 hn9
        obtain ⟨A7, hA7⟩ : ∃ A9, A9 = jUp A6 10 (jUp (A6 10) n (100)) := ⟨_, rfl⟩
        rw [← hA7] at hPic
        have hT0 := hT0.put 10 (by omega) hz9 oq9 (f := f9)
        have hm0 := hPic.1
        have hm1 : va_at D vwCl (am 1, .inl (g 0, 8, .inl (fun j => jI (A7 1 j)))) H := hPic.2 1 (by omega) (by omega)
        have hm2 : va_at D vwCl (am 2, .inl (g 0, 8, .inl (fun j => jI (A7 2 j)))) H := hPic.2 2 (by omega) (by omega)
        have hm6 : va_at D vwCl (am 6, .inl (g 0, 8, .inl (fun j => jI (A7 6 j)))) H := hPic.2 6 (by omega) (by omega)
        have hm7 : va_at D vwCl (am 7, .inl (g 0, 32, .inl (fun j => jI (A7 7 j)))) H := hPic.2 7 (by omega) (by omega)
        have hm8 : va_at D vwCl (am 8, .inl (g 0, 32, .inl (fun j => jI (A7 8 j)))) H := hPic.2 8 (by omega) (by omega)
        have hm9 : va_at D vwCl (am 9, .inl (g 0, 8, .inl (fun j => jI (A7 9 j)))) H := hPic.2 9 (by omega) (by omega)
        have hm10 : va_at D vwCl (am 10, .inl (g 0, 8, .inl (fun j => jI (A7 10 j)))) H := hPic.2 10 (by omega) (by omega)
        refine lv_aload_n hx hb dX4_device_120 rfl (lv_at hl 0 rfl) ?_
        refine lv_dup hx hb dX4_device_121 rfl ?_
        refine va_get (D := D) (ci := 4) (v := .int (jI ((n : Int)))) (C := RX4) (T := TX4) (N := 17) hx hb hts (fun w h => List.mem_cons_of_mem _ (uw_X4 w h)) hown hK (j_P1 hm0) 0 rfl rfl 1 (by decide) (hts _ (List.mem_cons_of_mem _ kw_419)) (fun _ h9 => h9) rfl dX4_device_122 ?_
        refine jv_iconst hx hb dX4_device_125 ?_
        refine jv_iadd hx hb dX4_device_126 ?_
        refine jv_put (D := D) (ci := 4) (v := .int (jI ((n : Int) + 1))) (ty := .int) (C := RX4) (T := TX4) (N := 17) hx hb hts (fun w h => List.mem_cons_of_mem _ (uw_X4 w h)) tyX4 tyX4_ok nmX4 hown hK hm0 rfl 1 (by decide) (hts _ (List.mem_cons_of_mem _ kw_419)) (fun _ h9 => h9) rfl (by decide +kernel) rfl rfl (Nat.le_of_ble_eq_true rfl) dX4_device_127 (fun H f9 hn9 hz9 oq9 => ?_)
        have hPic : mW D g am 0 ((n : Int) + 1) vo ab be A7 H := mW_obj hj hPic oq9 hn9
        have hT0 := hT0.put 0 (by omega) hz9 oq9 (f := f9)
        have hm0 := hPic.1
        have hm1 : va_at D vwCl (am 1, .inl (g 0, 8, .inl (fun j => jI (A7 1 j)))) H := hPic.2 1 (by omega) (by omega)
        refine lv_aload_n hx hb dX4_device_130 rfl (lv_at hl 0 rfl) ?_
        refine va_get (D := D) (ci := 4) (v := .int (jI ((n : Int) + 1))) (C := RX4) (T := TX4) (N := 17) hx hb hts (fun w h => List.mem_cons_of_mem _ (uw_X4 w h)) hown hK (j_P1 hm0) 0 rfl rfl 1 (by decide) (hts _ (List.mem_cons_of_mem _ kw_419)) (fun _ h9 => h9) rfl dX4_device_131 ?_
        refine jv_iconst hx hb dX4_device_134 ?_
        refine jv_isub hx hb dX4_device_135 ?_
        exact m_iret hx hb hr hlocks dX4_device_136 ⟨rfl, mR_D (uo := none) hz hdf hR hn hn8 hA1 hA2 hA3 hA4 hA5 hA6 hA7⟩ hPic hT0 (by omega)
      · exact absurd c39 (by omega)
    · exact absurd c24 (by omega)
  · exact absurd c3 (by decide)
set_option maxHeartbeats 4000000 in
set_option maxRecDepth 100000 in
theorem k_device1 (l : Launch) (D : va_G) (g : Nat → ClassId) (am : Nat → Nat) (cd dv vo ab be : Int) (AA : Nat → Nat → Int) (z : bSt) (hz : bOK z) (hR : mR z dv vo AA) (hdf : bDef z) (n u : Nat) (hu : u < n) (hn : bN z = n) (hn8 : n < 8) (hj : mInj am) : Met l yX4_device wsX4_device ({ frames := 2, cells := 0, slots := 0, locals := 43 }) (pu_Pc [.ref (am 0), .int (jI ((u : Int)))] D vwCl (ty9 g) (fun H => mW D g am cd dv vo ab be AA H)) (mQ D g am (some (.int (jI (n : Int)))) (fun c n9 v A _ _ => c = 0 ∧ mR (zN (zU z n (some u)) (n + 1)) n9 v A)) 0 0 (mFr am) := by
  refine Met.ofW (cc := cX4_device) (maxL := 2) (ret := some .int) (by decide) rfl ?_
  intro p e s m args below meth c s₁ B hml hv
  obtain ⟨rfl, hPic, hK⟩ := hv
  have hx := B.exec
  have hb := B.bytes
  have hr := B.returns
  have hts := atoms_spec (ws := wsX4_device) B.pre
  have hown : s.vm.findClass RX4 = some m.cls := findClass_of_methodNamed B.named
  have hlocks := B.notSynchronized
  have hdv : dv = (n : Int) := by rw [hR.1, hn]
  subst hdv
  have hm0 := hPic.1
  have hm1 : va_at D vwCl (am 1, .inl (g 0, 8, .inl (fun j => jI (AA 1 j)))) s.heap := hPic.2 1 (by omega) (by omega)
  have hm2 : va_at D vwCl (am 2, .inl (g 0, 8, .inl (fun j => jI (AA 2 j)))) s.heap := hPic.2 2 (by omega) (by omega)
  have hm6 : va_at D vwCl (am 6, .inl (g 0, 8, .inl (fun j => jI (AA 6 j)))) s.heap := hPic.2 6 (by omega) (by omega)
  have hm7 : va_at D vwCl (am 7, .inl (g 0, 32, .inl (fun j => jI (AA 7 j)))) s.heap := hPic.2 7 (by omega) (by omega)
  have hm8 : va_at D vwCl (am 8, .inl (g 0, 32, .inl (fun j => jI (AA 8 j)))) s.heap := hPic.2 8 (by omega) (by omega)
  have hm9 : va_at D vwCl (am 9, .inl (g 0, 8, .inl (fun j => jI (AA 9 j)))) s.heap := hPic.2 9 (by omega) (by omega)
  have hm10 : va_at D vwCl (am 10, .inl (g 0, 8, .inl (fun j => jI (AA 10 j)))) s.heap := hPic.2 10 (by omega) (by omega)
  have hl := lv_entry ([.ref (am 0), .int (jI ((u : Int)))]) (n := 2) (Nat.le_of_ble_eq_true rfl)
  rw [lg_entry_eq]
  generalize (lg_sl ([.ref (am 0), .int (jI ((u : Int)))]) ++ List.replicate (2 - (lg_sl ([.ref (am 0), .int (jI ((u : Int)))])).length) Slot.unset).toArray = ls at hl ⊢
  have hl : lv_has ls 2 [(0, .ref (am 0)), (1, .int (jI ((u : Int))))] := hl
  have hT0 : mTo am s.heap s.heap [] := mTo.rf
  refine lv_aload_n hx hb dX4_device_0 rfl (lv_at hl 0 rfl) ?_
  refine lv_iload_n hx hb dX4_device_1 rfl (lv_at hl 1 rfl) ?_
  refine jv_iconst hx hb dX4_device_2 ?_
  refine jv_icmp_eq (tgt := 18) hx hb dX4_device_3 (by decide) (by omega) (by omega) (fun c3 => ?_) (fun c3 => ?_)
  · exact absurd c3 (by omega)
  · refine lv_aload_n hx hb dX4_device_6 rfl (lv_at hl 0 rfl) ?_
    refine lv_iload_n hx hb dX4_device_7 rfl (lv_at hl 1 rfl) ?_
    refine pu_call1 (va_runV (As := [.int (jI ((u : Int)))]) (rest := [.ref (am 0)]) ⟨hx, hb, hml, hown, hts⟩ (k_isDevice l D g am cd (n : Int) vo ab be AA (u : Int) (by omega) (by omega)) (cwV 1 hts (gd_V kw_478 kw_480 kw_3 kw_16 kcX4_isDevice) rfl rfl rfl (by decide +kernel) ⟨Nat.le_of_ble_eq_true rfl, Nat.le_of_ble_eq_true rfl⟩) (pu_preV hPic hK rfl hm0) rfl rfl hl.1 rfl (lv_room (Nat.le_of_ble_eq_true rfl)) dX4_device_8 ⟨Nat.zero_le _, Nat.zero_le _⟩) ?_
    refine jv_if_ne (tgt := 18) hx hb dX4_device_11 (by decide) (bI_rng _) (fun c11 => ?_) (fun c11 => ?_)
    · refine lv_aload_n hx hb dX4_device_18 rfl (lv_at hl 0 rfl) ?_
      refine va_get (D := D) (ci := 4) (v := .int (jI ((n : Int)))) (C := RX4) (T := TX4) (N := 17) hx hb hts (fun w h => List.mem_cons_of_mem _ (uw_X4 w h)) hown hK (j_P1 hm0) 0 rfl rfl 1 (by decide) (hts _ (List.mem_cons_of_mem _ kw_419)) (fun _ h9 => h9) rfl dX4_device_19 ?_
      refine jv_bipush hx hb dX4_device_22 (by decide) ?_
      refine jv_icmp_ne (tgt := 31) hx hb dX4_device_24 (by decide) (by omega) (by omega) (fun c24 => ?_) (fun c24 => ?_)
      · refine jv_iconst hx hb dX4_device_31 ?_
        refine jv_put (D := D) (ci := 4) (v := .int (jI (0))) (ty := .int) (C := RX4) (T := TX4) (N := 17) hx hb hts (fun w h => List.mem_cons_of_mem _ (uw_X4 w h)) tyX4 tyX4_ok nmX4 hown hK hm0 rfl 0 (by decide) (hts _ (List.mem_cons_of_mem _ kw_418)) (fun _ h9 => h9) rfl (by decide +kernel) rfl rfl (Nat.le_of_ble_eq_true rfl) dX4_device_32 (fun H f9 hn9 hz9 oq9 => ?_)
        have hPic : mW D g am 0 (n : Int) vo ab be AA H := mW_obj hj hPic oq9 hn9
        have hT0 := hT0.put 0 (by omega) hz9 oq9 (f := f9)
        have hm0 := hPic.1
        have hm1 : va_at D vwCl (am 1, .inl (g 0, 8, .inl (fun j => jI (AA 1 j)))) H := hPic.2 1 (by omega) (by omega)
        have hm2 : va_at D vwCl (am 2, .inl (g 0, 8, .inl (fun j => jI (AA 2 j)))) H := hPic.2 2 (by omega) (by omega)
        have hm6 : va_at D vwCl (am 6, .inl (g 0, 8, .inl (fun j => jI (AA 6 j)))) H := hPic.2 6 (by omega) (by omega)
        have hm7 : va_at D vwCl (am 7, .inl (g 0, 32, .inl (fun j => jI (AA 7 j)))) H := hPic.2 7 (by omega) (by omega)
        have hm8 : va_at D vwCl (am 8, .inl (g 0, 32, .inl (fun j => jI (AA 8 j)))) H := hPic.2 8 (by omega) (by omega)
        have hm9 : va_at D vwCl (am 9, .inl (g 0, 8, .inl (fun j => jI (AA 9 j)))) H := hPic.2 9 (by omega) (by omega)
        have hm10 : va_at D vwCl (am 10, .inl (g 0, 8, .inl (fun j => jI (AA 10 j)))) H := hPic.2 10 (by omega) (by omega)
        refine lv_aload_n hx hb dX4_device_35 rfl (lv_at hl 0 rfl) ?_
        refine va_get (D := D) (ci := 4) (v := .int (jI (0))) (C := RX4) (T := TX4) (N := 17) hx hb hts (fun w h => List.mem_cons_of_mem _ (uw_X4 w h)) hown hK (j_P1 hm0) 0 rfl rfl 0 (by decide) (hts _ (List.mem_cons_of_mem _ kw_418)) (fun _ h9 => h9) rfl dX4_device_36 ?_
        refine jv_if_le (tgt := 44) hx hb dX4_device_39 (by decide) (by omega) (fun c39 => ?_) (fun c39 => ?_)
        · refine lv_aload_n hx hb dX4_device_44 rfl (lv_at hl 0 rfl) ?_
          refine va_get (D := D) (ci := 4) (v := .ref (am 1)) (C := RX4) (T := TX4) (N := 17) hx hb hts (fun w h => List.mem_cons_of_mem _ (uw_X4 w h)) hown hK (j_P1 hm0) 0 rfl rfl 2 (by decide) (hts _ (List.mem_cons_of_mem _ kw_420)) (fun _ h9 => h9) rfl dX4_device_45 ?_
          refine lv_aload_n hx hb dX4_device_48 rfl (lv_at hl 0 rfl) ?_
          refine va_get (D := D) (ci := 4) (v := .int (jI ((n : Int)))) (C := RX4) (T := TX4) (N := 17) hx hb hts (fun w h => List.mem_cons_of_mem _ (uw_X4 w h)) hown hK (j_P1 hm0) 0 rfl rfl 1 (by decide) (hts _ (List.mem_cons_of_mem _ kw_419)) (fun _ h9 => h9) rfl dX4_device_49 ?_
          refine lv_iload_n hx hb dX4_device_52 rfl (lv_at hl 1 rfl) ?_
          refine jv_iast (i := n) hx hb hK hm1 0 rfl (by omega) (by omega) (by decide) dX4_device_53 (fun H f9 hn9 hz9 oq9 => ?_)
          have hPic := mW_arr hj hPic 1 (by omega) (by omega) oq9 hn9
          obtain ⟨A1, hA1⟩ : ∃ A9, A9 = jUp AA 1 (jUp (AA 1) n ((u : Int))) := ⟨_, rfl⟩
          rw [← hA1] at hPic
          have hT0 := hT0.put 1 (by omega) hz9 oq9 (f := f9)
          have hm0 := hPic.1
          have hm1 : va_at D vwCl (am 1, .inl (g 0, 8, .inl (fun j => jI (A1 1 j)))) H := hPic.2 1 (by omega) (by omega)
          have hm2 : va_at D vwCl (am 2, .inl (g 0, 8, .inl (fun j => jI (A1 2 j)))) H := hPic.2 2 (by omega) (by omega)
          have hm6 : va_at D vwCl (am 6, .inl (g 0, 8, .inl (fun j => jI (A1 6 j)))) H := hPic.2 6 (by omega) (by omega)
          have hm7 : va_at D vwCl (am 7, .inl (g 0, 32, .inl (fun j => jI (A1 7 j)))) H := hPic.2 7 (by omega) (by omega)
          have hm8 : va_at D vwCl (am 8, .inl (g 0, 32, .inl (fun j => jI (A1 8 j)))) H := hPic.2 8 (by omega) (by omega)
          have hm9 : va_at D vwCl (am 9, .inl (g 0, 8, .inl (fun j => jI (A1 9 j)))) H := hPic.2 9 (by omega) (by omega)
          have hm10 : va_at D vwCl (am 10, .inl (g 0, 8, .inl (fun j => jI (A1 10 j)))) H := hPic.2 10 (by omega) (by omega)
          refine lv_aload_n hx hb dX4_device_54 rfl (lv_at hl 0 rfl) ?_
          refine va_get (D := D) (ci := 4) (v := .ref (am 2)) (C := RX4) (T := TX4) (N := 17) hx hb hts (fun w h => List.mem_cons_of_mem _ (uw_X4 w h)) hown hK (j_P1 hm0) 0 rfl rfl 3 (by decide) (hts _ (List.mem_cons_of_mem _ kw_421)) (fun _ h9 => h9) rfl dX4_device_55 ?_
          refine lv_aload_n hx hb dX4_device_58 rfl (lv_at hl 0 rfl) ?_
          refine va_get (D := D) (ci := 4) (v := .int (jI ((n : Int)))) (C := RX4) (T := TX4) (N := 17) hx hb hts (fun w h => List.mem_cons_of_mem _ (uw_X4 w h)) hown hK (j_P1 hm0) 0 rfl rfl 1 (by decide) (hts _ (List.mem_cons_of_mem _ kw_419)) (fun _ h9 => h9) rfl dX4_device_59 ?_
          refine jv_iconst hx hb dX4_device_62 ?_
          refine jv_iast (i := n) hx hb hK hm2 0 rfl (by omega) (by omega) (by decide) dX4_device_63 (fun H f9 hn9 hz9 oq9 => ?_)
          have hPic := mW_arr hj hPic 2 (by omega) (by omega) oq9 hn9
          obtain ⟨A2, hA2⟩ : ∃ A9, A9 = jUp A1 2 (jUp (A1 2) n (0)) := ⟨_, rfl⟩
          rw [← hA2] at hPic
          have hT0 := hT0.put 2 (by omega) hz9 oq9 (f := f9)
          have hm0 := hPic.1
          have hm1 : va_at D vwCl (am 1, .inl (g 0, 8, .inl (fun j => jI (A2 1 j)))) H := hPic.2 1 (by omega) (by omega)
          have hm2 : va_at D vwCl (am 2, .inl (g 0, 8, .inl (fun j => jI (A2 2 j)))) H := hPic.2 2 (by omega) (by omega)
          have hm6 : va_at D vwCl (am 6, .inl (g 0, 8, .inl (fun j => jI (A2 6 j)))) H := hPic.2 6 (by omega) (by omega)
          have hm7 : va_at D vwCl (am 7, .inl (g 0, 32, .inl (fun j => jI (A2 7 j)))) H := hPic.2 7 (by omega) (by omega)
          have hm8 : va_at D vwCl (am 8, .inl (g 0, 32, .inl (fun j => jI (A2 8 j)))) H := hPic.2 8 (by omega) (by omega)
          have hm9 : va_at D vwCl (am 9, .inl (g 0, 8, .inl (fun j => jI (A2 9 j)))) H := hPic.2 9 (by omega) (by omega)
          have hm10 : va_at D vwCl (am 10, .inl (g 0, 8, .inl (fun j => jI (A2 10 j)))) H := hPic.2 10 (by omega) (by omega)
          refine lv_aload_n hx hb dX4_device_64 rfl (lv_at hl 0 rfl) ?_
          refine va_get (D := D) (ci := 4) (v := .ref (am 6)) (C := RX4) (T := TX4) (N := 17) hx hb hts (fun w h => List.mem_cons_of_mem _ (uw_X4 w h)) hown hK (j_P1 hm0) 0 rfl rfl 7 (by decide) (hts _ (List.mem_cons_of_mem _ kw_425)) (fun _ h9 => h9) rfl dX4_device_65 ?_
          refine lv_aload_n hx hb dX4_device_68 rfl (lv_at hl 0 rfl) ?_
          refine va_get (D := D) (ci := 4) (v := .int (jI ((n : Int)))) (C := RX4) (T := TX4) (N := 17) hx hb hts (fun w h => List.mem_cons_of_mem _ (uw_X4 w h)) hown hK (j_P1 hm0) 0 rfl rfl 1 (by decide) (hts _ (List.mem_cons_of_mem _ kw_419)) (fun _ h9 => h9) rfl dX4_device_69 ?_
          refine jv_iconst hx hb dX4_device_72 ?_
          refine jv_iast (i := n) hx hb hK hm6 0 rfl (by omega) (by omega) (by decide) dX4_device_73 (fun H f9 hn9 hz9 oq9 => ?_)
          have hPic := mW_arr hj hPic 6 (by omega) (by omega) oq9 hn9
          obtain ⟨A3, hA3⟩ : ∃ A9, A9 = jUp A2 6 (jUp (A2 6) n (1)) := ⟨_, rfl⟩
          rw [← hA3] at hPic
          have hT0 := hT0.put 6 (by omega) hz9 oq9 (f := f9)
          have hm0 := hPic.1
          have hm1 : va_at D vwCl (am 1, .inl (g 0, 8, .inl (fun j => jI (A3 1 j)))) H := hPic.2 1 (by omega) (by omega)
          have hm2 : va_at D vwCl (am 2, .inl (g 0, 8, .inl (fun j => jI (A3 2 j)))) H := hPic.2 2 (by omega) (by omega)
          have hm6 : va_at D vwCl (am 6, .inl (g 0, 8, .inl (fun j => jI (A3 6 j)))) H := hPic.2 6 (by omega) (by omega)
          have hm7 : va_at D vwCl (am 7, .inl (g 0, 32, .inl (fun j => jI (A3 7 j)))) H := hPic.2 7 (by omega) (by omega)
          have hm8 : va_at D vwCl (am 8, .inl (g 0, 32, .inl (fun j => jI (A3 8 j)))) H := hPic.2 8 (by omega) (by omega)
          have hm9 : va_at D vwCl (am 9, .inl (g 0, 8, .inl (fun j => jI (A3 9 j)))) H := hPic.2 9 (by omega) (by omega)
          have hm10 : va_at D vwCl (am 10, .inl (g 0, 8, .inl (fun j => jI (A3 10 j)))) H := hPic.2 10 (by omega) (by omega)
          refine lv_aload_n hx hb dX4_device_74 rfl (lv_at hl 0 rfl) ?_
          refine va_get (D := D) (ci := 4) (v := .ref (am 7)) (C := RX4) (T := TX4) (N := 17) hx hb hts (fun w h => List.mem_cons_of_mem _ (uw_X4 w h)) hown hK (j_P1 hm0) 0 rfl rfl 8 (by decide) (hts _ (List.mem_cons_of_mem _ kw_426)) (fun _ h9 => h9) rfl dX4_device_75 ?_
          refine jv_iconst hx hb dX4_device_78 ?_
          refine lv_aload_n hx hb dX4_device_79 rfl (lv_at hl 0 rfl) ?_
          refine va_get (D := D) (ci := 4) (v := .int (jI ((n : Int)))) (C := RX4) (T := TX4) (N := 17) hx hb hts (fun w h => List.mem_cons_of_mem _ (uw_X4 w h)) hown hK (j_P1 hm0) 0 rfl rfl 1 (by decide) (hts _ (List.mem_cons_of_mem _ kw_419)) (fun _ h9 => h9) rfl dX4_device_80 ?_
          refine jv_imul hx hb dX4_device_83 ?_
          refine jv_bipush hx hb dX4_device_84 (by decide) ?_
          refine jv_iast (i := (4 * n)) hx hb hK hm7 0 rfl (by omega) (by omega) (by decide) dX4_device_86 (fun H f9 hn9 hz9 oq9 => ?_)
          have hPic := mW_arr hj hPic 7 (by omega) (by omega) oq9 hn9
          obtain ⟨A4, hA4⟩ : ∃ A9, A9 = jUp A3 7 (jUp (A3 7) (4 * n) (100)) := ⟨_, rfl⟩
          rw [← hA4] at hPic
          have hT0 := hT0.put 7 (by omega) hz9 oq9 (f := f9)
          have hm0 := hPic.1
          have hm1 : va_at D vwCl (am 1, .inl (g 0, 8, .inl (fun j => jI (A4 1 j)))) H := hPic.2 1 (by omega) (by omega)
          have hm2 : va_at D vwCl (am 2, .inl (g 0, 8, .inl (fun j => jI (A4 2 j)))) H := hPic.2 2 (by omega) (by omega)
          have hm6 : va_at D vwCl (am 6, .inl (g 0, 8, .inl (fun j => jI (A4 6 j)))) H := hPic.2 6 (by omega) (by omega)
          have hm7 : va_at D vwCl (am 7, .inl (g 0, 32, .inl (fun j => jI (A4 7 j)))) H := hPic.2 7 (by omega) (by omega)
          have hm8 : va_at D vwCl (am 8, .inl (g 0, 32, .inl (fun j => jI (A4 8 j)))) H := hPic.2 8 (by omega) (by omega)
          have hm9 : va_at D vwCl (am 9, .inl (g 0, 8, .inl (fun j => jI (A4 9 j)))) H := hPic.2 9 (by omega) (by omega)
          have hm10 : va_at D vwCl (am 10, .inl (g 0, 8, .inl (fun j => jI (A4 10 j)))) H := hPic.2 10 (by omega) (by omega)
          refine lv_aload_n hx hb dX4_device_87 rfl (lv_at hl 0 rfl) ?_
          refine va_get (D := D) (ci := 4) (v := .ref (am 8)) (C := RX4) (T := TX4) (N := 17) hx hb hts (fun w h => List.mem_cons_of_mem _ (uw_X4 w h)) hown hK (j_P1 hm0) 0 rfl rfl 9 (by decide) (hts _ (List.mem_cons_of_mem _ kw_427)) (fun _ h9 => h9) rfl dX4_device_88 ?_
          refine jv_iconst hx hb dX4_device_91 ?_
          refine lv_aload_n hx hb dX4_device_92 rfl (lv_at hl 0 rfl) ?_
          refine va_get (D := D) (ci := 4) (v := .int (jI ((n : Int)))) (C := RX4) (T := TX4) (N := 17) hx hb hts (fun w h => List.mem_cons_of_mem _ (uw_X4 w h)) hown hK (j_P1 hm0) 0 rfl rfl 1 (by decide) (hts _ (List.mem_cons_of_mem _ kw_419)) (fun _ h9 => h9) rfl dX4_device_93 ?_
          refine jv_imul hx hb dX4_device_96 ?_
          refine jv_iconst hx hb dX4_device_97 ?_
          refine jv_iast (i := (4 * n)) hx hb hK hm8 0 rfl (by omega) (by omega) (by decide) dX4_device_98 (fun H f9 hn9 hz9 oq9 => ?_)
          have hPic := mW_arr hj hPic 8 (by omega) (by omega) oq9 hn9
          obtain ⟨A5, hA5⟩ : ∃ A9, A9 = jUp A4 8 (jUp (A4 8) (4 * n) (0)) := ⟨_, rfl⟩
          rw [← hA5] at hPic
          have hT0 := hT0.put 8 (by omega) hz9 oq9 (f := f9)
          have hm0 := hPic.1
          have hm1 : va_at D vwCl (am 1, .inl (g 0, 8, .inl (fun j => jI (A5 1 j)))) H := hPic.2 1 (by omega) (by omega)
          have hm2 : va_at D vwCl (am 2, .inl (g 0, 8, .inl (fun j => jI (A5 2 j)))) H := hPic.2 2 (by omega) (by omega)
          have hm6 : va_at D vwCl (am 6, .inl (g 0, 8, .inl (fun j => jI (A5 6 j)))) H := hPic.2 6 (by omega) (by omega)
          have hm7 : va_at D vwCl (am 7, .inl (g 0, 32, .inl (fun j => jI (A5 7 j)))) H := hPic.2 7 (by omega) (by omega)
          have hm8 : va_at D vwCl (am 8, .inl (g 0, 32, .inl (fun j => jI (A5 8 j)))) H := hPic.2 8 (by omega) (by omega)
          have hm9 : va_at D vwCl (am 9, .inl (g 0, 8, .inl (fun j => jI (A5 9 j)))) H := hPic.2 9 (by omega) (by omega)
          have hm10 : va_at D vwCl (am 10, .inl (g 0, 8, .inl (fun j => jI (A5 10 j)))) H := hPic.2 10 (by omega) (by omega)
          refine lv_aload_n hx hb dX4_device_99 rfl (lv_at hl 0 rfl) ?_
          refine va_get (D := D) (ci := 4) (v := .ref (am 9)) (C := RX4) (T := TX4) (N := 17) hx hb hts (fun w h => List.mem_cons_of_mem _ (uw_X4 w h)) hown hK (j_P1 hm0) 0 rfl rfl 10 (by decide) (hts _ (List.mem_cons_of_mem _ kw_428)) (fun _ h9 => h9) rfl dX4_device_100 ?_
          refine lv_aload_n hx hb dX4_device_103 rfl (lv_at hl 0 rfl) ?_
          refine va_get (D := D) (ci := 4) (v := .int (jI ((n : Int)))) (C := RX4) (T := TX4) (N := 17) hx hb hts (fun w h => List.mem_cons_of_mem _ (uw_X4 w h)) hown hK (j_P1 hm0) 0 rfl rfl 1 (by decide) (hts _ (List.mem_cons_of_mem _ kw_419)) (fun _ h9 => h9) rfl dX4_device_104 ?_
          refine jv_iconst hx hb dX4_device_107 ?_
          refine jv_iast (i := n) hx hb hK hm9 0 rfl (by omega) (by omega) (by decide) dX4_device_108 (fun H f9 hn9 hz9 oq9 => ?_)
          have hPic := mW_arr hj hPic 9 (by omega) (by omega) oq9 hn9
          obtain ⟨A6, hA6⟩ : ∃ A9, A9 = jUp A5 9 (jUp (A5 9) n (0)) := ⟨_, rfl⟩
          rw [← hA6] at hPic
          have hT0 := hT0.put 9 (by omega) hz9 oq9 (f := f9)
          have hm0 := hPic.1
          have hm1 : va_at D vwCl (am 1, .inl (g 0, 8, .inl (fun j => jI (A6 1 j)))) H := hPic.2 1 (by omega) (by omega)
          have hm2 : va_at D vwCl (am 2, .inl (g 0, 8, .inl (fun j => jI (A6 2 j)))) H := hPic.2 2 (by omega) (by omega)
          have hm6 : va_at D vwCl (am 6, .inl (g 0, 8, .inl (fun j => jI (A6 6 j)))) H := hPic.2 6 (by omega) (by omega)
          have hm7 : va_at D vwCl (am 7, .inl (g 0, 32, .inl (fun j => jI (A6 7 j)))) H := hPic.2 7 (by omega) (by omega)
          have hm8 : va_at D vwCl (am 8, .inl (g 0, 32, .inl (fun j => jI (A6 8 j)))) H := hPic.2 8 (by omega) (by omega)
          have hm9 : va_at D vwCl (am 9, .inl (g 0, 8, .inl (fun j => jI (A6 9 j)))) H := hPic.2 9 (by omega) (by omega)
          have hm10 : va_at D vwCl (am 10, .inl (g 0, 8, .inl (fun j => jI (A6 10 j)))) H := hPic.2 10 (by omega) (by omega)
          refine lv_aload_n hx hb dX4_device_109 rfl (lv_at hl 0 rfl) ?_
          refine va_get (D := D) (ci := 4) (v := .ref (am 10)) (C := RX4) (T := TX4) (N := 17) hx hb hts (fun w h => List.mem_cons_of_mem _ (uw_X4 w h)) hown hK (j_P1 hm0) 0 rfl rfl 11 (by decide) (hts _ (List.mem_cons_of_mem _ kw_429)) (fun _ h9 => h9) rfl dX4_device_110 ?_
          refine lv_aload_n hx hb dX4_device_113 rfl (lv_at hl 0 rfl) ?_
          refine va_get (D := D) (ci := 4) (v := .int (jI ((n : Int)))) (C := RX4) (T := TX4) (N := 17) hx hb hts (fun w h => List.mem_cons_of_mem _ (uw_X4 w h)) hown hK (j_P1 hm0) 0 rfl rfl 1 (by decide) (hts _ (List.mem_cons_of_mem _ kw_419)) (fun _ h9 => h9) rfl dX4_device_114 ?_
          refine jv_bipush hx hb dX4_device_117 (by decide) ?_
          refine jv_iast (i := n) hx hb hK hm10 0 rfl (by omega) (by omega) (by decide) dX4_device_119 (fun H f9 hn9 hz9 oq9 => ?_)
          have hPic := mW_arr hj hPic 10 (by omega) (by omega) oq9 hn9
          obtain ⟨A7, hA7⟩ : ∃ A9, A9 = jUp A6 10 (jUp (A6 10) n (100)) := ⟨_, rfl⟩
          rw [← hA7] at hPic
          have hT0 := hT0.put 10 (by omega) hz9 oq9 (f := f9)
          have hm0 := hPic.1
          have hm1 : va_at D vwCl (am 1, .inl (g 0, 8, .inl (fun j => jI (A7 1 j)))) H := hPic.2 1 (by omega) (by omega)
          have hm2 : va_at D vwCl (am 2, .inl (g 0, 8, .inl (fun j => jI (A7 2 j)))) H := hPic.2 2 (by omega) (by omega)
          have hm6 : va_at D vwCl (am 6, .inl (g 0, 8, .inl (fun j => jI (A7 6 j)))) H := hPic.2 6 (by omega) (by omega)
          have hm7 : va_at D vwCl (am 7, .inl (g 0, 32, .inl (fun j => jI (A7 7 j)))) H := hPic.2 7 (by omega) (by omega)
          have hm8 : va_at D vwCl (am 8, .inl (g 0, 32, .inl (fun j => jI (A7 8 j)))) H := hPic.2 8 (by omega) (by omega)
          have hm9 : va_at D vwCl (am 9, .inl (g 0, 8, .inl (fun j => jI (A7 9 j)))) H := hPic.2 9 (by omega) (by omega)
          have hm10 : va_at D vwCl (am 10, .inl (g 0, 8, .inl (fun j => jI (A7 10 j)))) H := hPic.2 10 (by omega) (by omega)
          refine lv_aload_n hx hb dX4_device_120 rfl (lv_at hl 0 rfl) ?_
          refine lv_dup hx hb dX4_device_121 rfl ?_
          refine va_get (D := D) (ci := 4) (v := .int (jI ((n : Int)))) (C := RX4) (T := TX4) (N := 17) hx hb hts (fun w h => List.mem_cons_of_mem _ (uw_X4 w h)) hown hK (j_P1 hm0) 0 rfl rfl 1 (by decide) (hts _ (List.mem_cons_of_mem _ kw_419)) (fun _ h9 => h9) rfl dX4_device_122 ?_
          refine jv_iconst hx hb dX4_device_125 ?_
          refine jv_iadd hx hb dX4_device_126 ?_
          refine jv_put (D := D) (ci := 4) (v := .int (jI ((n : Int) + 1))) (ty := .int) (C := RX4) (T := TX4) (N := 17) hx hb hts (fun w h => List.mem_cons_of_mem _ (uw_X4 w h)) tyX4 tyX4_ok nmX4 hown hK hm0 rfl 1 (by decide) (hts _ (List.mem_cons_of_mem _ kw_419)) (fun _ h9 => h9) rfl (by decide +kernel) rfl rfl (Nat.le_of_ble_eq_true rfl) dX4_device_127 (fun H f9 hn9 hz9 oq9 => ?_)
          have hPic : mW D g am 0 ((n : Int) + 1) vo ab be A7 H := mW_obj hj hPic oq9 hn9
          have hT0 := hT0.put 0 (by omega) hz9 oq9 (f := f9)
          have hm0 := hPic.1
          have hm1 : va_at D vwCl (am 1, .inl (g 0, 8, .inl (fun j => jI (A7 1 j)))) H := hPic.2 1 (by omega) (by omega)
          refine lv_aload_n hx hb dX4_device_130 rfl (lv_at hl 0 rfl) ?_
          refine va_get (D := D) (ci := 4) (v := .int (jI ((n : Int) + 1))) (C := RX4) (T := TX4) (N := 17) hx hb hts (fun w h => List.mem_cons_of_mem _ (uw_X4 w h)) hown hK (j_P1 hm0) 0 rfl rfl 1 (by decide) (hts _ (List.mem_cons_of_mem _ kw_419)) (fun _ h9 => h9) rfl dX4_device_131 ?_
          refine jv_iconst hx hb dX4_device_134 ?_
          refine jv_isub hx hb dX4_device_135 ?_
          exact m_iret hx hb hr hlocks dX4_device_136 ⟨rfl, mR_D (uo := (some u)) hz hdf hR hn hn8 hA1 hA2 hA3 hA4 hA5 hA6 hA7⟩ hPic hT0 (by omega)
        · exact absurd c39 (by omega)
      · exact absurd c24 (by omega)
    · exact absurd (bI_fa c11) (by rw [decide_eq_true (by omega)]; decide)
