set_option maxRecDepth 20000 in
theorem kw_433 : (.fieldLink RX4 40 "BreakerOrdersModel" "fits" "[I" : Cond) ∈ gAll := g_mem 433 rfl rfl
set_option maxRecDepth 20000 in
theorem kw_434 : (.fieldLink RX4 43 "BreakerOrdersModel" "tried" "[I" : Cond) ∈ gAll := g_mem 434 rfl rfl
set_option maxHeartbeats 4000000 in
set_option maxRecDepth 100000 in
theorem k_fits0 (l : Launch) (D : va_G) (g : Nat → ClassId) (am : Nat → Nat) (cd dv vo ab be : Int) (AA : Nat → Nat → Int) (z : bSt) (hz : bOK z) (hR : mR z dv vo AA) (d : Nat) (mg : Int) (hd : d < bN z) (hU : bU z d = none) (hj : mInj am) : Met l yX4_fits wsX4_fits ({ frames := 2, cells := 0, slots := 0, locals := 63 }) (pu_Pc [.ref (am 0), .int (jI ((d : Int))), .int (jI (mg))] D vwCl (ty9 g) (fun H => mW D g am cd dv vo ab be AA H)) (mQ D g am (some (.int (jI (bI true)))) (fun c n v A _ _ => c = cd ∧ n = dv ∧ v = vo ∧ A = AA)) 0 0 (mFr am) := by
  refine Met.ofW (cc := cX4_fits) (maxL := 6) (ret := some .boolean) (by decide) rfl ?_
  intro p e s m args below meth c s₁ B hml hv
  obtain ⟨rfl, hPic, hK⟩ := hv
  have hx := B.exec
  have hb := B.bytes
  have hr := B.returns
  have hts := atoms_spec (ws := wsX4_fits) B.pre
  have hown : s.vm.findClass RX4 = some m.cls := findClass_of_methodNamed B.named
  have hlocks := B.notSynchronized
  have hm0 := hPic.1
  have hm1 : va_at D vwCl (am 1, .inl (g 0, 8, .inl (fun j => jI (AA 1 j)))) s.heap := hPic.2 1 (by omega) (by omega)
  obtain ⟨e1_d, -⟩ := hR.2.2 d hd
  rw [hU] at e1_d
  have hN := hz.1
  have hl := lv_entry ([.ref (am 0), .int (jI ((d : Int))), .int (jI (mg))]) (n := 6) (Nat.le_of_ble_eq_true rfl)
  rw [lg_entry_eq]
  generalize (lg_sl ([.ref (am 0), .int (jI ((d : Int))), .int (jI (mg))]) ++ List.replicate (6 - (lg_sl ([.ref (am 0), .int (jI ((d : Int))), .int (jI (mg))])).length) Slot.unset).toArray = ls at hl ⊢
  have hl : lv_has ls 6 [(0, .ref (am 0)), (1, .int (jI ((d : Int)))), (2, .int (jI (mg)))] := hl
  have hT0 : mTo am s.heap s.heap [] := mTo.rf
  refine lv_aload_n hx hb dX4_fits_0 rfl (lv_at hl 0 rfl) ?_
  refine va_get (D := D) (ci := 4) (v := .ref (am 1)) (C := RX4) (T := TX4) (N := 17) hx hb hts (fun w h => List.mem_cons_of_mem _ (uw_X4 w h)) hown hK (j_P1 hm0) 0 rfl rfl 2 (by decide) (hts _ (List.mem_cons_of_mem _ kw_420)) (fun _ h9 => h9) rfl dX4_fits_1 ?_
  refine lv_iload_n hx hb dX4_fits_4 rfl (lv_at hl 1 rfl) ?_
  refine jv_iald (i := d) hx hb hK hm1 0 rfl (by omega) (by omega) (by decide) dX4_fits_5 ?_
  rw [e1_d, upI]
  refine jv_iconst hx hb dX4_fits_6 ?_
  refine jv_icmp_ne (tgt := 12) hx hb dX4_fits_7 (by decide) (by omega) (by omega) (fun c7 => ?_) (fun c7 => ?_)
  · exact absurd rfl c7
  · refine jv_iconst hx hb dX4_fits_10 ?_
    exact m_zret hx hb hr hlocks dX4_fits_11 ⟨rfl, rfl, rfl, rfl⟩ hPic hT0 (by rfl)
set_option maxHeartbeats 4000000 in
set_option maxRecDepth 100000 in
theorem k_fits1 (l : Launch) (D : va_G) (g : Nat → ClassId) (am : Nat → Nat) (cd dv vo ab be : Int) (AA : Nat → Nat → Int) (z : bSt) (hz : bOK z) (hR : mR z dv vo AA) (d u j k : Nat) (mg : Int) (hd : d < bN z) (hU : bU z d = some u) (hmg : 0 ≤ mg ∧ mg ≤ 10000) (hmem : mMem z mg (AA 11)) (ht1 : AA 12 d = (j : Int)) (ht2 : AA 12 u = (k : Int)) (hjo : j < bO z d) (hko : k < bO z u) (hj : mInj am) : Met l yX4_fits wsX4_fits ({ frames := 2, cells := 0, slots := 0, locals := 63 }) (pu_Pc [.ref (am 0), .int (jI ((d : Int))), .int (jI (mg))] D vwCl (ty9 g) (fun H => mW D g am cd dv vo ab be AA H)) (mQ D g am (some (.int (jI (bI (okb z mg d j u k))))) (fun c n v A _ _ => c = cd ∧ n = dv ∧ v = vo ∧ (∀ a, a ≠ 11 → A a = AA a) ∧ mMem z mg (A 11))) 0 0 (mFr am) := by
  refine Met.ofW (cc := cX4_fits) (maxL := 6) (ret := some .boolean) (by decide) rfl ?_
  intro p e s m args below meth c s₁ B hml hv
  obtain ⟨rfl, hPic, hK⟩ := hv
  have hx := B.exec
  have hb := B.bytes
  have hr := B.returns
  have hts := atoms_spec (ws := wsX4_fits) B.pre
  have hown : s.vm.findClass RX4 = some m.cls := findClass_of_methodNamed B.named
  have hlocks := B.notSynchronized
  have hm0 := hPic.1
  have hm1 : va_at D vwCl (am 1, .inl (g 0, 8, .inl (fun j => jI (AA 1 j)))) s.heap := hPic.2 1 (by omega) (by omega)
  have hm11 : va_at D vwCl (am 11, .inl (g 0, 128, .inl (fun j => jI (AA 11 j)))) s.heap := hPic.2 11 (by omega) (by omega)
  have hm12 : va_at D vwCl (am 12, .inl (g 0, 8, .inl (fun j => jI (AA 12 j)))) s.heap := hPic.2 12 (by omega) (by omega)
  obtain ⟨e1_d, -⟩ := hR.2.2 d hd
  rw [hU] at e1_d
  have e1_d : AA 1 d = (u : Int) := e1_d
  have hN := hz.1
  have f_d := hz.2.2.1 d (by omega)
  have hu := hz.2.2.2 d u hd hU
  have f_u := hz.2.2.1 u (by omega)
  have hm := hmem d j u k hd hU hjo hko
  have okS := f_d.2.2.2.2.2 j hjo
  have okT := f_u.2.2.2.2.2 k hko
  have hl := lv_entry ([.ref (am 0), .int (jI ((d : Int))), .int (jI (mg))]) (n := 6) (Nat.le_of_ble_eq_true rfl)
  rw [lg_entry_eq]
  generalize (lg_sl ([.ref (am 0), .int (jI ((d : Int))), .int (jI (mg))]) ++ List.replicate (6 - (lg_sl ([.ref (am 0), .int (jI ((d : Int))), .int (jI (mg))])).length) Slot.unset).toArray = ls at hl ⊢
  have hl : lv_has ls 6 [(0, .ref (am 0)), (1, .int (jI ((d : Int)))), (2, .int (jI (mg)))] := hl
  have hT0 : mTo am s.heap s.heap [] := mTo.rf
  refine lv_aload_n hx hb dX4_fits_0 rfl (lv_at hl 0 rfl) ?_
  refine va_get (D := D) (ci := 4) (v := .ref (am 1)) (C := RX4) (T := TX4) (N := 17) hx hb hts (fun w h => List.mem_cons_of_mem _ (uw_X4 w h)) hown hK (j_P1 hm0) 0 rfl rfl 2 (by decide) (hts _ (List.mem_cons_of_mem _ kw_420)) (fun _ h9 => h9) rfl dX4_fits_1 ?_
  refine lv_iload_n hx hb dX4_fits_4 rfl (lv_at hl 1 rfl) ?_
  refine jv_iald (i := d) hx hb hK hm1 0 rfl (by omega) (by omega) (by decide) dX4_fits_5 ?_
  rw [e1_d]
  refine jv_iconst hx hb dX4_fits_6 ?_
  refine jv_icmp_ne (tgt := 12) hx hb dX4_fits_7 (by decide) (by omega) (by omega) (fun c7 => ?_) (fun c7 => ?_)
  · refine jv_bipush hx hb dX4_fits_12 (by decide) ?_
    refine lv_iload_n hx hb dX4_fits_14 rfl (lv_at hl 1 rfl) ?_
    refine jv_imul hx hb dX4_fits_15 ?_
    refine jv_iconst hx hb dX4_fits_16 ?_
    refine lv_aload_n hx hb dX4_fits_17 rfl (lv_at hl 0 rfl) ?_
    refine va_get (D := D) (ci := 4) (v := .ref (am 12)) (C := RX4) (T := TX4) (N := 17) hx hb hts (fun w h => List.mem_cons_of_mem _ (uw_X4 w h)) hown hK (j_P1 hm0) 0 rfl rfl 16 (by decide) (hts _ (List.mem_cons_of_mem _ kw_434)) (fun _ h9 => h9) rfl dX4_fits_18 ?_
    refine lv_iload_n hx hb dX4_fits_21 rfl (lv_at hl 1 rfl) ?_
    refine jv_iald (i := d) hx hb hK hm12 0 rfl (by omega) (by omega) (by decide) dX4_fits_22 ?_
    rw [ht1]
    refine jv_imul hx hb dX4_fits_23 ?_
    refine jv_iadd hx hb dX4_fits_24 ?_
    refine lv_aload_n hx hb dX4_fits_25 rfl (lv_at hl 0 rfl) ?_
    refine va_get (D := D) (ci := 4) (v := .ref (am 12)) (C := RX4) (T := TX4) (N := 17) hx hb hts (fun w h => List.mem_cons_of_mem _ (uw_X4 w h)) hown hK (j_P1 hm0) 0 rfl rfl 16 (by decide) (hts _ (List.mem_cons_of_mem _ kw_434)) (fun _ h9 => h9) rfl dX4_fits_26 ?_
    refine lv_aload_n hx hb dX4_fits_29 rfl (lv_at hl 0 rfl) ?_
    refine va_get (D := D) (ci := 4) (v := .ref (am 1)) (C := RX4) (T := TX4) (N := 17) hx hb hts (fun w h => List.mem_cons_of_mem _ (uw_X4 w h)) hown hK (j_P1 hm0) 0 rfl rfl 2 (by decide) (hts _ (List.mem_cons_of_mem _ kw_420)) (fun _ h9 => h9) rfl dX4_fits_30 ?_
    refine lv_iload_n hx hb dX4_fits_33 rfl (lv_at hl 1 rfl) ?_
    refine jv_iald (i := d) hx hb hK hm1 0 rfl (by omega) (by omega) (by decide) dX4_fits_34 ?_
    rw [e1_d]
    refine jv_iald (i := u) hx hb hK hm12 0 rfl (by omega) (by omega) (by decide) dX4_fits_35 ?_
    rw [ht2]
    refine jv_iadd hx hb dX4_fits_36 ?_
    refine lv_istore_n (lv' := [(3, .int (jI (((16 * (d : Int)) + (4 * (j : Int))) + (k : Int)))), (0, .ref (am 0)), (1, .int (jI ((d : Int)))), (2, .int (jI (mg)))]) hx hb dX4_fits_37 rfl hl (by decide) rfl (fun ls hl => ?_)
    refine lv_aload_n hx hb dX4_fits_38 rfl (lv_at hl 1 rfl) ?_
    refine va_get (D := D) (ci := 4) (v := .ref (am 11)) (C := RX4) (T := TX4) (N := 17) hx hb hts (fun w h => List.mem_cons_of_mem _ (uw_X4 w h)) hown hK (j_P1 hm0) 0 rfl rfl 15 (by decide) (hts _ (List.mem_cons_of_mem _ kw_433)) (fun _ h9 => h9) rfl dX4_fits_39 ?_
    refine lv_iload_n hx hb dX4_fits_42 rfl (lv_at hl 0 rfl) ?_
    refine jv_iald (i := (16 * d + 4 * j + k)) hx hb hK hm11 0 rfl (by omega) (by omega) (by decide) dX4_fits_43 ?_
    refine jv_if_ne (tgt := 121) hx hb dX4_fits_44 (by decide) (by rcases hm with h9 | h9 <;> rw [h9] <;> (try split) <;> decide) (fun c44 => ?_) (fun c44 => ?_)
    · refine lv_aload_n hx hb dX4_fits_121 rfl (lv_at hl 1 rfl) ?_
      refine va_get (D := D) (ci := 4) (v := .ref (am 11)) (C := RX4) (T := TX4) (N := 17) hx hb hts (fun w h => List.mem_cons_of_mem _ (uw_X4 w h)) hown hK (j_P1 hm0) 0 rfl rfl 15 (by decide) (hts _ (List.mem_cons_of_mem _ kw_433)) (fun _ h9 => h9) rfl dX4_fits_122 ?_
      refine lv_iload_n hx hb dX4_fits_125 rfl (lv_at hl 0 rfl) ?_
      refine jv_iald (i := (16 * d + 4 * j + k)) hx hb hK hm11 0 rfl (by omega) (by omega) (by decide) dX4_fits_126 ?_
      refine jv_iconst hx hb dX4_fits_127 ?_
      refine jv_icmp_ne (tgt := 135) hx hb dX4_fits_128 (by decide) (by first | decide | (rcases hm with h9 | h9 <;> rw [h9] <;> (try split) <;> decide)) (by decide) (fun c128 => ?_) (fun c128 => ?_)
      · refine jv_iconst hx hb dX4_fits_135 ?_
        exact m_zret hx hb hr hlocks dX4_fits_136 ⟨rfl, rfl, rfl, fun _ _ => rfl, hmem⟩ hPic hT0 (by rcases hm with h9 | h9; (· exact absurd h9 c44); (· cases hb9 : okb z mg d j u k with | true => rw [hb9] at h9; exact absurd h9 c128 | false => rfl))
      · refine jv_iconst hx hb dX4_fits_131 ?_
        refine lv_goto (tgt := 136) hx hb dX4_fits_132 (by decide) ?_
        exact m_zret hx hb hr hlocks dX4_fits_136 ⟨rfl, rfl, rfl, fun _ _ => rfl, hmem⟩ hPic hT0 (by rcases hm with h9 | h9; (· exact absurd h9 c44); (· cases hb9 : okb z mg d j u k with | true => rfl | false => rw [hb9] at h9; exact absurd (c128.symm.trans h9) (by decide)))
    · refine jv_iconst hx hb dX4_fits_47 ?_
      refine lv_istore (lv' := [(4, .int (jI (1))), (3, .int (jI (((16 * (d : Int)) + (4 * (j : Int))) + (k : Int)))), (0, .ref (am 0)), (1, .int (jI ((d : Int)))), (2, .int (jI (mg)))]) hx hb dX4_fits_48 hl (by decide) rfl (fun ls hl => ?_)
      refine jv_iconst hx hb dX4_fits_50 ?_
      refine lv_istore (lv' := [(5, .int (jI (1))), (4, .int (jI (1))), (3, .int (jI (((16 * (d : Int)) + (4 * (j : Int))) + (k : Int)))), (0, .ref (am 0)), (1, .int (jI ((d : Int)))), (2, .int (jI (mg)))]) hx hb dX4_fits_51 hl (by decide) rfl (fun ls hl => ?_)
      refine jw_loop3 (X := Int × Bool × Int × Int) (fun x => (5001 - x.1).toNat) (fun x H L ls => (1 ≤ x.1 ∧ x.1 ≤ 5001 ∧ (x.2.1 = true → ∀ I, 1 ≤ I → I < x.1 → cWithin (bSet z d j) true mg (bSet z u k) false I = true) ∧ (x.2.1 = false → okb z mg d j u k = false) ∧ mW D g am cd dv vo x.2.2.1 x.2.2.2 AA H ∧ mTo am s.heap H L) ∧ lv_has ls 6 [(0, .ref (am 0)), (1, .int (jI ((d : Int)))), (2, .int (jI (mg))), (3, .int (jI (((16 * (d : Int)) + (4 * (j : Int))) + (k : Int)))), (4, .int (jI (bI x.2.1))), (5, .int (jI (x.1)))]) ?_ (1, true, ab, be) s.heap [] ls ⟨⟨by dsimp only; omega, by dsimp only; omega, fun _ I h1 h2 => absurd h2 (by dsimp only; omega), fun h => Bool.noConfusion h, hPic, hT0⟩, lv_sub hl [3, 4, 5, 2, 1, 0] rfl⟩
      clear hl hPic hT0
      intro x H L ls hinv ih
      obtain ⟨i, al, a1, b1⟩ := x
      obtain ⟨⟨hi1, hi2, hal, hnot, hPic, hT0⟩, hl⟩ := hinv
      dsimp only at hi1 hi2 hal hnot hPic
      have hl : lv_has ls 6 [(0, .ref (am 0)), (1, .int (jI ((d : Int)))), (2, .int (jI (mg))), (3, .int (jI (((16 * (d : Int)) + (4 * (j : Int))) + (k : Int)))), (4, .int (jI (bI al))), (5, .int (jI (i)))] := hl
      have hm0 := hPic.1
      have hm1 : va_at D vwCl (am 1, .inl (g 0, 8, .inl (fun j => jI (AA 1 j)))) H := hPic.2 1 (by omega) (by omega)
      have hm11 : va_at D vwCl (am 11, .inl (g 0, 128, .inl (fun j => jI (AA 11 j)))) H := hPic.2 11 (by omega) (by omega)
      have hm12 : va_at D vwCl (am 12, .inl (g 0, 8, .inl (fun j => jI (AA 12 j)))) H := hPic.2 12 (by omega) (by omega)
      refine lv_iload hx hb dX4_fits_53 (lv_at hl 5 rfl) ?_
      refine jv_sipush hx hb dX4_fits_55 (by decide) ?_
      refine jv_icmp_gt (tgt := 105) hx hb dX4_fits_58 (by decide) (by omega) (by omega) (fun c58 => ?_) (fun c58 => ?_)
      · refine lv_aload_n hx hb dX4_fits_105 rfl (lv_at hl 0 rfl) ?_
        refine va_get (D := D) (ci := 4) (v := .ref (am 11)) (C := RX4) (T := TX4) (N := 17) hx hb hts (fun w h => List.mem_cons_of_mem _ (uw_X4 w h)) hown hK (j_P1 hm0) 0 rfl rfl 15 (by decide) (hts _ (List.mem_cons_of_mem _ kw_433)) (fun _ h9 => h9) rfl dX4_fits_106 ?_
        refine lv_iload_n hx hb dX4_fits_109 rfl (lv_at hl 3 rfl) ?_
        refine lv_iload hx hb dX4_fits_110 (lv_at hl 4 rfl) ?_
        refine jv_if_eq (tgt := 119) hx hb dX4_fits_112 (by decide) (bI_rng _) (fun c112 => ?_) (fun c112 => ?_)
        · have c112 := bI_fa c112
          refine jv_iconst hx hb dX4_fits_119 ?_
          refine jv_iast (i := (16 * d + 4 * j + k)) hx hb hK hm11 0 rfl (by omega) (by omega) (by decide) dX4_fits_120 (fun H f9 hn9 hz9 oq9 => ?_)
          have hPic := mW_arr hj hPic 11 (by omega) (by omega) oq9 hn9
          obtain ⟨A1, hA1⟩ : ∃ A9, A9 = jUp AA 11 (jUp (AA 11) (16 * d + 4 * j + k) (2)) := ⟨_, rfl⟩
          rw [← hA1] at hPic
          have hT0 := hT0.put 11 (by omega) hz9 oq9 (f := f9)
          have hm0 := hPic.1
          have hm11 : va_at D vwCl (am 11, .inl (g 0, 128, .inl (fun j => jI (A1 11 j)))) H := hPic.2 11 (by omega) (by omega)
          have hAt : A1 11 (16 * d + 4 * j + k) = 2 := by rw [hA1, mU_at, if_pos ⟨rfl, rfl⟩]
          refine lv_aload_n hx hb dX4_fits_121 rfl (lv_at hl 0 rfl) ?_
          refine va_get (D := D) (ci := 4) (v := .ref (am 11)) (C := RX4) (T := TX4) (N := 17) hx hb hts (fun w h => List.mem_cons_of_mem _ (uw_X4 w h)) hown hK (j_P1 hm0) 0 rfl rfl 15 (by decide) (hts _ (List.mem_cons_of_mem _ kw_433)) (fun _ h9 => h9) rfl dX4_fits_122 ?_
          refine lv_iload_n hx hb dX4_fits_125 rfl (lv_at hl 3 rfl) ?_
          refine jv_iald (i := (16 * d + 4 * j + k)) hx hb hK hm11 0 rfl (by omega) (by omega) (by decide) dX4_fits_126 ?_
          rw [hAt]
          refine jv_iconst hx hb dX4_fits_127 ?_
          refine jv_icmp_ne (tgt := 135) hx hb dX4_fits_128 (by decide) (by first | decide | (rcases hm with h9 | h9 <;> rw [h9] <;> (try split) <;> decide)) (by decide) (fun c128 => ?_) (fun c128 => ?_)
          · refine jv_iconst hx hb dX4_fits_135 ?_
            have hv9 : okb z mg d j u k = false := hnot c112
            have hA11 : A1 11 = jUp (AA 11) (16 * d + 4 * j + k) 2 := by rw [hA1, jUp_s]
            exact m_zret hx hb hr hlocks dX4_fits_136 ⟨rfl, rfl, rfl, fun a ha => by rw [hA1, jUp_n ha], by rw [hA11]; exact mMem_put hz hmem hd hU hjo hko (by rw [hv9]; rfl)⟩ hPic hT0 (by rw [hv9]; rfl)
          · exact absurd c128 (by decide)
        · have c112 := bI_tr c112
          refine jv_iconst hx hb dX4_fits_115 ?_
          refine lv_goto (tgt := 120) hx hb dX4_fits_116 (by decide) ?_
          refine jv_iast (i := (16 * d + 4 * j + k)) hx hb hK hm11 0 rfl (by omega) (by omega) (by decide) dX4_fits_120 (fun H f9 hn9 hz9 oq9 => ?_)
          have hPic := mW_arr hj hPic 11 (by omega) (by omega) oq9 hn9
          obtain ⟨A1, hA1⟩ : ∃ A9, A9 = jUp AA 11 (jUp (AA 11) (16 * d + 4 * j + k) (1)) := ⟨_, rfl⟩
          rw [← hA1] at hPic
          have hT0 := hT0.put 11 (by omega) hz9 oq9 (f := f9)
          have hm0 := hPic.1
          have hm11 : va_at D vwCl (am 11, .inl (g 0, 128, .inl (fun j => jI (A1 11 j)))) H := hPic.2 11 (by omega) (by omega)
          have hAt : A1 11 (16 * d + 4 * j + k) = 1 := by rw [hA1, mU_at, if_pos ⟨rfl, rfl⟩]
          refine lv_aload_n hx hb dX4_fits_121 rfl (lv_at hl 0 rfl) ?_
          refine va_get (D := D) (ci := 4) (v := .ref (am 11)) (C := RX4) (T := TX4) (N := 17) hx hb hts (fun w h => List.mem_cons_of_mem _ (uw_X4 w h)) hown hK (j_P1 hm0) 0 rfl rfl 15 (by decide) (hts _ (List.mem_cons_of_mem _ kw_433)) (fun _ h9 => h9) rfl dX4_fits_122 ?_
          refine lv_iload_n hx hb dX4_fits_125 rfl (lv_at hl 3 rfl) ?_
          refine jv_iald (i := (16 * d + 4 * j + k)) hx hb hK hm11 0 rfl (by omega) (by omega) (by decide) dX4_fits_126 ?_
          rw [hAt]
          refine jv_iconst hx hb dX4_fits_127 ?_
          refine jv_icmp_ne (tgt := 135) hx hb dX4_fits_128 (by decide) (by first | decide | (rcases hm with h9 | h9 <;> rw [h9] <;> (try split) <;> decide)) (by decide) (fun c128 => ?_) (fun c128 => ?_)
          · exact absurd rfl c128
          · refine jv_iconst hx hb dX4_fits_131 ?_
            refine lv_goto (tgt := 136) hx hb dX4_fits_132 (by decide) ?_
            have hv9 : okb z mg d j u k = true := okb_all okS okT (fun I h1 h2 => hal c112 I h1 (by omega))
            have hA11 : A1 11 = jUp (AA 11) (16 * d + 4 * j + k) 1 := by rw [hA1, jUp_s]
            exact m_zret hx hb hr hlocks dX4_fits_136 ⟨rfl, rfl, rfl, fun a ha => by rw [hA1, jUp_n ha], by rw [hA11]; exact mMem_put hz hmem hd hU hjo hko (by rw [hv9]; rfl)⟩ hPic hT0 (by rw [hv9]; rfl)
      · refine lv_iload hx hb dX4_fits_61 (lv_at hl 4 rfl) ?_
        refine jv_if_eq (tgt := 105) hx hb dX4_fits_63 (by decide) (bI_rng _) (fun c63 => ?_) (fun c63 => ?_)
        · have c63 := bI_fa c63
          refine lv_aload_n hx hb dX4_fits_105 rfl (lv_at hl 0 rfl) ?_
          refine va_get (D := D) (ci := 4) (v := .ref (am 11)) (C := RX4) (T := TX4) (N := 17) hx hb hts (fun w h => List.mem_cons_of_mem _ (uw_X4 w h)) hown hK (j_P1 hm0) 0 rfl rfl 15 (by decide) (hts _ (List.mem_cons_of_mem _ kw_433)) (fun _ h9 => h9) rfl dX4_fits_106 ?_
          refine lv_iload_n hx hb dX4_fits_109 rfl (lv_at hl 3 rfl) ?_
          refine lv_iload hx hb dX4_fits_110 (lv_at hl 4 rfl) ?_
          refine jv_if_eq (tgt := 119) hx hb dX4_fits_112 (by decide) (bI_rng _) (fun c112 => ?_) (fun c112 => ?_)
          · have c112 := bI_fa c112
            refine jv_iconst hx hb dX4_fits_119 ?_
            refine jv_iast (i := (16 * d + 4 * j + k)) hx hb hK hm11 0 rfl (by omega) (by omega) (by decide) dX4_fits_120 (fun H f9 hn9 hz9 oq9 => ?_)
            have hPic := mW_arr hj hPic 11 (by omega) (by omega) oq9 hn9
            obtain ⟨A1, hA1⟩ : ∃ A9, A9 = jUp AA 11 (jUp (AA 11) (16 * d + 4 * j + k) (2)) := ⟨_, rfl⟩
            rw [← hA1] at hPic
            have hT0 := hT0.put 11 (by omega) hz9 oq9 (f := f9)
            have hm0 := hPic.1
            have hm11 : va_at D vwCl (am 11, .inl (g 0, 128, .inl (fun j => jI (A1 11 j)))) H := hPic.2 11 (by omega) (by omega)
            have hAt : A1 11 (16 * d + 4 * j + k) = 2 := by rw [hA1, mU_at, if_pos ⟨rfl, rfl⟩]
            refine lv_aload_n hx hb dX4_fits_121 rfl (lv_at hl 0 rfl) ?_
            refine va_get (D := D) (ci := 4) (v := .ref (am 11)) (C := RX4) (T := TX4) (N := 17) hx hb hts (fun w h => List.mem_cons_of_mem _ (uw_X4 w h)) hown hK (j_P1 hm0) 0 rfl rfl 15 (by decide) (hts _ (List.mem_cons_of_mem _ kw_433)) (fun _ h9 => h9) rfl dX4_fits_122 ?_
            refine lv_iload_n hx hb dX4_fits_125 rfl (lv_at hl 3 rfl) ?_
            refine jv_iald (i := (16 * d + 4 * j + k)) hx hb hK hm11 0 rfl (by omega) (by omega) (by decide) dX4_fits_126 ?_
            rw [hAt]
            refine jv_iconst hx hb dX4_fits_127 ?_
            refine jv_icmp_ne (tgt := 135) hx hb dX4_fits_128 (by decide) (by first | decide | (rcases hm with h9 | h9 <;> rw [h9] <;> (try split) <;> decide)) (by decide) (fun c128 => ?_) (fun c128 => ?_)
            · refine jv_iconst hx hb dX4_fits_135 ?_
              have hv9 : okb z mg d j u k = false := hnot c112
              have hA11 : A1 11 = jUp (AA 11) (16 * d + 4 * j + k) 2 := by rw [hA1, jUp_s]
              exact m_zret hx hb hr hlocks dX4_fits_136 ⟨rfl, rfl, rfl, fun a ha => by rw [hA1, jUp_n ha], by rw [hA11]; exact mMem_put hz hmem hd hU hjo hko (by rw [hv9]; rfl)⟩ hPic hT0 (by rw [hv9]; rfl)
            · exact absurd c128 (by decide)
          · exact absurd (bI_tr c112) (by rw [c63]; decide)
        · have c63 := bI_tr c63
          refine lv_aload_n hx hb dX4_fits_66 rfl (lv_at hl 0 rfl) ?_
          refine lv_iload_n hx hb dX4_fits_67 rfl (lv_at hl 1 rfl) ?_
          refine lv_aload_n hx hb dX4_fits_68 rfl (lv_at hl 0 rfl) ?_
          refine va_get (D := D) (ci := 4) (v := .ref (am 12)) (C := RX4) (T := TX4) (N := 17) hx hb hts (fun w h => List.mem_cons_of_mem _ (uw_X4 w h)) hown hK (j_P1 hm0) 0 rfl rfl 16 (by decide) (hts _ (List.mem_cons_of_mem _ kw_434)) (fun _ h9 => h9) rfl dX4_fits_69 ?_
          refine lv_iload_n hx hb dX4_fits_72 rfl (lv_at hl 1 rfl) ?_
          refine jv_iald (i := d) hx hb hK hm12 0 rfl (by omega) (by omega) (by decide) dX4_fits_73 ?_
          rw [ht1]
          refine lv_aload_n hx hb dX4_fits_74 rfl (lv_at hl 0 rfl) ?_
          refine va_get (D := D) (ci := 4) (v := .ref (am 1)) (C := RX4) (T := TX4) (N := 17) hx hb hts (fun w h => List.mem_cons_of_mem _ (uw_X4 w h)) hown hK (j_P1 hm0) 0 rfl rfl 2 (by decide) (hts _ (List.mem_cons_of_mem _ kw_420)) (fun _ h9 => h9) rfl dX4_fits_75 ?_
          refine lv_iload_n hx hb dX4_fits_78 rfl (lv_at hl 1 rfl) ?_
          refine jv_iald (i := d) hx hb hK hm1 0 rfl (by omega) (by omega) (by decide) dX4_fits_79 ?_
          rw [e1_d]
          refine lv_aload_n hx hb dX4_fits_80 rfl (lv_at hl 0 rfl) ?_
          refine va_get (D := D) (ci := 4) (v := .ref (am 12)) (C := RX4) (T := TX4) (N := 17) hx hb hts (fun w h => List.mem_cons_of_mem _ (uw_X4 w h)) hown hK (j_P1 hm0) 0 rfl rfl 16 (by decide) (hts _ (List.mem_cons_of_mem _ kw_434)) (fun _ h9 => h9) rfl dX4_fits_81 ?_
          refine lv_aload_n hx hb dX4_fits_84 rfl (lv_at hl 0 rfl) ?_
          refine va_get (D := D) (ci := 4) (v := .ref (am 1)) (C := RX4) (T := TX4) (N := 17) hx hb hts (fun w h => List.mem_cons_of_mem _ (uw_X4 w h)) hown hK (j_P1 hm0) 0 rfl rfl 2 (by decide) (hts _ (List.mem_cons_of_mem _ kw_420)) (fun _ h9 => h9) rfl dX4_fits_85 ?_
          refine lv_iload_n hx hb dX4_fits_88 rfl (lv_at hl 1 rfl) ?_
          refine jv_iald (i := d) hx hb hK hm1 0 rfl (by omega) (by omega) (by decide) dX4_fits_89 ?_
          rw [e1_d]
          refine jv_iald (i := u) hx hb hK hm12 0 rfl (by omega) (by omega) (by decide) dX4_fits_90 ?_
          rw [ht2]
          refine lv_iload_n hx hb dX4_fits_91 rfl (lv_at hl 2 rfl) ?_
          refine lv_iload hx hb dX4_fits_92 (lv_at hl 5 rfl) ?_
          refine m_call (va_runV (As := [.int (jI ((d : Int))), .int (jI ((j : Int))), .int (jI ((u : Int))), .int (jI ((k : Int))), .int (jI (mg)), .int (jI (i))]) (rest := []) ⟨hx, hb, hml, hown, hts⟩ (k_isGood l D g am cd dv vo a1 b1 AA z hz hR d j u k mg i hd hjo (by omega) hko hmg (by omega) hj) (cwV 6 hts (gd_V kw_523 kw_525 kw_7 kw_16 kcX4_isGood) rfl rfl rfl (by decide +kernel) ⟨Nat.le_of_ble_eq_true rfl, Nat.le_of_ble_eq_true rfl⟩) (pu_preV hPic hK rfl hm0) rfl rfl hl.1 rfl (lv_room (Nat.le_of_ble_eq_true rfl)) dX4_fits_94 ⟨Nat.zero_le _, Nat.zero_le _⟩) hT0 (fun H locs cd9 dv9 vo9 AA9 ab9 be9 hPh hPic hT0 => ?_)
          refine W.eq (g2 := F0 m 97 ls [.int (jI (bI (cWithin (bSet z d j) true mg (bSet z u k) false i)))]) rfl ?_
          obtain ⟨q1, q2, q3, q4⟩ := hPh
          rw [q1, q2, q3, q4] at hPic
          have hm0 := hPic.1
          have hm1 : va_at D vwCl (am 1, .inl (g 0, 8, .inl (fun j => jI (AA 1 j)))) H := hPic.2 1 (by omega) (by omega)
          have hm11 : va_at D vwCl (am 11, .inl (g 0, 128, .inl (fun j => jI (AA 11 j)))) H := hPic.2 11 (by omega) (by omega)
          have hm12 : va_at D vwCl (am 12, .inl (g 0, 8, .inl (fun j => jI (AA 12 j)))) H := hPic.2 12 (by omega) (by omega)
          refine lv_istore (lv' := [(4, .int (jI (bI (cWithin (bSet z d j) true mg (bSet z u k) false i)))), (0, .ref (am 0)), (1, .int (jI ((d : Int)))), (2, .int (jI (mg))), (3, .int (jI (((16 * (d : Int)) + (4 * (j : Int))) + (k : Int)))), (5, .int (jI (i)))]) hx hb dX4_fits_97 hl (by decide) rfl (fun ls hl => ?_)
          refine lv_iinc (v := jI (i + 1)) (lv' := [(5, .int (jI (i + 1))), (4, .int (jI (bI (cWithin (bSet z d j) true mg (bSet z u k) false i)))), (0, .ref (am 0)), (1, .int (jI ((d : Int)))), (2, .int (jI (mg))), (3, .int (jI (((16 * (d : Int)) + (4 * (j : Int))) + (k : Int))))]) hx hb dX4_fits_99 hl (k := 5) rfl (jI_add _ _) (by decide) rfl (fun ls hl => ?_)
          refine lv_goto (tgt := 53) hx hb dX4_fits_102 (by decide) ?_
          exact ih (i + 1, cWithin (bSet z d j) true mg (bSet z u k) false i, ab9, be9) H _ ls ⟨⟨by dsimp only; omega, by dsimp only; omega, fun h I h1 h2 => by dsimp only at h h2; by_cases hIi : I = i; (· rw [hIi]; exact h); (· exact hal c63 I h1 (by omega)), fun h => okb_not okS okT (I := i) (by omega) h, hPic, hT0⟩, lv_sub hl [2, 3, 4, 5, 1, 0] rfl⟩ (by dsimp only; omega)
  · exact absurd c7 (by omega)
