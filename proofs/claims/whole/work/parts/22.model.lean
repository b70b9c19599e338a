theorem mReck_last {S : jSet} {I : Int} {j : Nat} {mo : Bool} (hq : cPiece S I = (j : Int)) (hl : (sN S : Int) ≤ (j : Int) + 1) : sT S mo j + 1 * sD S = cTime S mo (cPiece S I) (cParts S (cPiece S I)) I ∧ 1 = cParts S (cPiece S I) := by
  have e : cParts S (cPiece S I) = 1 := by rw [hq, cParts, if_pos (Or.inr hl)]
  refine ⟨?_, e.symm⟩
  rw [e, hq, cTime, if_pos hl]
  simp
theorem mReck_mid {S : jSet} {I : Int} {j : Nat} {mo : Bool} (hq : cPiece S I = (j : Int)) (hl : (j : Int) + 1 < (sN S : Int)) :
    sT S mo j * (sS S * (sP S (j + 1) - sP S j)) + (sT S mo (j + 1) - sT S mo j) * (100 * I - sS S * sP S j) + sS S * (sP S (j + 1) - sP S j) * sD S = cTime S mo (cPiece S I) (cParts S (cPiece S I)) I ∧ sS S * (sP S (j + 1) - sP S j) = cParts S (cPiece S I) := by
  have e : cParts S (cPiece S I) = sS S * (sP S (j + 1) - sP S j) := by rw [hq, cParts, if_neg (by omega)]; simp
  refine ⟨?_, e.symm⟩
  rw [e, hq, cTime, if_neg (by omega)]
  simp only [Int.toNat_natCast]
  generalize sS S * (sP S (j + 1) - sP S j) = r
  rw [Int.add_mul, Int.mul_comm r (sD S)]
  omega
theorem mPiece_of {S : jSet} (h : sOK S) {I : Int} {j : Nat} (hj : j < sN S) (h1 : sS S * sP S j ≤ 100 * I) (h2 : ∀ i, j < i → i < sN S → 100 * I < sS S * sP S i) : cPiece S I = (j : Int) := by
  rcases cPc_spec S I (sN S) with ⟨a1, a2⟩ | ⟨k, a1, a2, a3, a4⟩
  · have := a2 j hj
    omega
  · have : k = j := by
      rcases Nat.lt_trichotomy k j with q | q | q
      · have := a4 j q hj; omega
      · exact q
      · have := h2 k q a1; omega
    rw [cPiece, a2, this]
set_option maxRecDepth 20000 in
theorem kw_4 : (.selects RX4 yX4_opensAt yX4_opensAt : Cond) ∈ gAll := g_mem 4 rfl rfl
set_option maxRecDepth 20000 in
theorem kw_5 : (.selects RX4 yX4_reckon yX4_reckon : Cond) ∈ gAll := g_mem 5 rfl rfl
set_option maxRecDepth 20000 in
theorem kw_16 : (.initialized RX4 : Cond) ∈ gAll := g_mem 16 rfl rfl
set_option maxRecDepth 20000 in
theorem kw_418 : (.fieldLink RX4 46 "BreakerOrdersModel" "code" "I" : Cond) ∈ gAll := g_mem 418 rfl rfl
set_option maxRecDepth 20000 in
theorem kw_419 : (.fieldLink RX4 50 "BreakerOrdersModel" "devices" "I" : Cond) ∈ gAll := g_mem 419 rfl rfl
set_option maxRecDepth 20000 in
theorem kw_421 : (.fieldLink RX4 13 "BreakerOrdersModel" "points" "[I" : Cond) ∈ gAll := g_mem 421 rfl rfl
set_option maxRecDepth 20000 in
theorem kw_422 : (.fieldLink RX4 16 "BreakerOrdersModel" "places" "[I" : Cond) ∈ gAll := g_mem 422 rfl rfl
set_option maxRecDepth 20000 in
theorem kw_423 : (.fieldLink RX4 19 "BreakerOrdersModel" "leasts" "[I" : Cond) ∈ gAll := g_mem 423 rfl rfl
set_option maxRecDepth 20000 in
theorem kw_424 : (.fieldLink RX4 22 "BreakerOrdersModel" "mosts" "[I" : Cond) ∈ gAll := g_mem 424 rfl rfl
set_option maxRecDepth 20000 in
theorem kw_426 : (.fieldLink RX4 28 "BreakerOrdersModel" "scales" "[I" : Cond) ∈ gAll := g_mem 426 rfl rfl
set_option maxRecDepth 20000 in
theorem kw_427 : (.fieldLink RX4 31 "BreakerOrdersModel" "delays" "[I" : Cond) ∈ gAll := g_mem 427 rfl rfl
set_option maxRecDepth 20000 in
theorem kw_431 : (.fieldLink RX4 64 "BreakerOrdersModel" "above" "J" : Cond) ∈ gAll := g_mem 431 rfl rfl
set_option maxRecDepth 20000 in
theorem kw_432 : (.fieldLink RX4 68 "BreakerOrdersModel" "below" "J" : Cond) ∈ gAll := g_mem 432 rfl rfl
set_option maxRecDepth 20000 in
theorem kw_482 : (.methodLink RX4 53 yX4_in : Cond) ∈ gAll := g_mem 482 rfl rfl
set_option maxRecDepth 20000 in
theorem kw_483 : (.static yX4_in : Cond) ∈ gAll := g_mem 483 rfl rfl
set_option maxRecDepth 20000 in
theorem kw_502 : (.methodLink RX4 71 yX4_opensAt : Cond) ∈ gAll := g_mem 502 rfl rfl
set_option maxRecDepth 20000 in
theorem kw_504 : (.instanceMethod yX4_opensAt : Cond) ∈ gAll := g_mem 504 rfl rfl
set_option maxRecDepth 20000 in
theorem kw_506 : (.methodLink RX4 74 yX4_reckon : Cond) ∈ gAll := g_mem 506 rfl rfl
set_option maxRecDepth 20000 in
theorem kw_508 : (.instanceMethod yX4_reckon : Cond) ∈ gAll := g_mem 508 rfl rfl
set_option maxRecDepth 20000 in
theorem kw_510 : (.constantLong RX4 62 100 : Cond) ∈ gAll := g_mem 510 rfl rfl
set_option maxHeartbeats 4000000 in
set_option maxRecDepth 100000 in
theorem k_in (l : Launch) (D : va_G) (g : Nat → ClassId) (v lo hi : Int) (hv : -2147483648 ≤ v ∧ v < 2147483648) (hlo : -2147483648 ≤ lo ∧ lo < 2147483648) (hhi : -2147483648 ≤ hi ∧ hi < 2147483648) : Met l yX4_in wsX4_in ({ frames := 0, cells := 0, slots := 0, locals := 0 }) (pu_Pc [.int (jI (v)), .int (jI (lo)), .int (jI (hi))] D vwCl (ty9 g) (fun H => True)) (pu_Q (some (.int (jI (bI (decide (lo ≤ v ∧ v ≤ hi))))))) 0 0 (fun _ => False) := by
  refine Met.ofW (cc := cX4_in) (maxL := 3) (ret := some .boolean) (by decide) rfl ?_
  intro p e s m args below meth c s₁ B hml hv
  obtain ⟨rfl, hPic, hK⟩ := hv
  have hx := B.exec
  have hb := B.bytes
  have hr := B.returns
  have hts := atoms_spec (ws := wsX4_in) B.pre
  have hown : s.vm.findClass RX4 = some m.cls := findClass_of_methodNamed B.named
  have hlocks := B.notSynchronized
  have hl := lv_entry ([.int (jI (v)), .int (jI (lo)), .int (jI (hi))]) (n := 3) (Nat.le_of_ble_eq_true rfl)
  rw [lg_entry_eq]
  generalize (lg_sl ([.int (jI (v)), .int (jI (lo)), .int (jI (hi))]) ++ List.replicate (3 - (lg_sl ([.int (jI (v)), .int (jI (lo)), .int (jI (hi))])).length) Slot.unset).toArray = ls at hl ⊢
  have hl : lv_has ls 3 [(0, .int (jI (v))), (1, .int (jI (lo))), (2, .int (jI (hi)))] := hl
  refine lv_iload_n hx hb dX4_in_0 rfl (lv_at hl 0 rfl) ?_
  refine lv_iload_n hx hb dX4_in_1 rfl (lv_at hl 1 rfl) ?_
  refine jv_icmp_lt (tgt := 14) hx hb dX4_in_2 (by decide) (by omega) (by omega) (fun c2 => ?_) (fun c2 => ?_)
  · refine jv_iconst hx hb dX4_in_14 ?_
    exact pu_zret hx hb hr hlocks dX4_in_15 (by rw [decide_eq_false (by omega)]; rfl)
  · refine lv_iload_n hx hb dX4_in_5 rfl (lv_at hl 0 rfl) ?_
    refine lv_iload_n hx hb dX4_in_6 rfl (lv_at hl 2 rfl) ?_
    refine jv_icmp_gt (tgt := 14) hx hb dX4_in_7 (by decide) (by omega) (by omega) (fun c7 => ?_) (fun c7 => ?_)
    · refine jv_iconst hx hb dX4_in_14 ?_
      exact pu_zret hx hb hr hlocks dX4_in_15 (by rw [decide_eq_false (by omega)]; rfl)
    · refine jv_iconst hx hb dX4_in_10 ?_
      refine lv_goto (tgt := 15) hx hb dX4_in_11 (by decide) ?_
      exact pu_zret hx hb hr hlocks dX4_in_15 (by rw [decide_eq_true (by omega)]; rfl)
set_option maxHeartbeats 4000000 in
set_option maxRecDepth 100000 in
theorem k_isDevice (l : Launch) (D : va_G) (g : Nat → ClassId) (am : Nat → Nat) (cd dv vo ab be : Int) (AA : Nat → Nat → Int) (d : Int) (hd : -2147483648 ≤ d ∧ d < 2147483648) (hdv : 0 ≤ dv ∧ dv ≤ 8) : Met l yX4_isDevice wsX4_isDevice ({ frames := 1, cells := 0, slots := 0, locals := 22 }) (pu_Pc [.ref (am 0), .int (jI (d))] D vwCl (ty9 g) (fun H => mW D g am cd dv vo ab be AA H)) (pu_Q (some (.int (jI (bI (decide (0 ≤ d ∧ d ≤ dv - 1))))))) 0 0 (fun _ => False) := by
  refine Met.ofW (cc := cX4_isDevice) (maxL := 2) (ret := some .boolean) (by decide) rfl ?_
  intro p e s m args below meth c s₁ B hml hv
  obtain ⟨rfl, hPic, hK⟩ := hv
  have hx := B.exec
  have hb := B.bytes
  have hr := B.returns
  have hts := atoms_spec (ws := wsX4_isDevice) B.pre
  have hown : s.vm.findClass RX4 = some m.cls := findClass_of_methodNamed B.named
  have hlocks := B.notSynchronized
  have hm0 := hPic.1
  have hl := lv_entry ([.ref (am 0), .int (jI (d))]) (n := 2) (Nat.le_of_ble_eq_true rfl)
  rw [lg_entry_eq]
  generalize (lg_sl ([.ref (am 0), .int (jI (d))]) ++ List.replicate (2 - (lg_sl ([.ref (am 0), .int (jI (d))])).length) Slot.unset).toArray = ls at hl ⊢
  have hl : lv_has ls 2 [(0, .ref (am 0)), (1, .int (jI (d)))] := hl
  refine lv_iload_n hx hb dX4_isDevice_0 rfl (lv_at hl 1 rfl) ?_
  refine jv_iconst hx hb dX4_isDevice_1 ?_
  refine lv_aload_n hx hb dX4_isDevice_2 rfl (lv_at hl 0 rfl) ?_
  refine va_get (D := D) (ci := 4) (v := .int (jI (dv))) (C := RX4) (T := TX4) (N := 17) hx hb hts (fun w h => List.mem_cons_of_mem _ (uw_X4 w h)) hown hK (j_P1 hm0) 0 rfl rfl 1 (by decide) (hts _ (List.mem_cons_of_mem _ kw_419)) (fun _ h9 => h9) rfl dX4_isDevice_3 ?_
  refine jv_iconst hx hb dX4_isDevice_6 ?_
  refine jv_isub hx hb dX4_isDevice_7 ?_
  refine pu_call1 (va_runS (As := [.int (jI (d)), .int (jI (0)), .int (jI (dv - 1))]) (rest := []) ⟨hx, hb, hml, hown, hts⟩ (k_in l D g d 0 (dv - 1) (by omega) (by omega) (by omega)) (cwS 3 hts (gd_S kw_482 kw_483 kw_16 kcX4_in) rfl rfl rfl (by decide +kernel) ⟨Nat.le_of_ble_eq_true rfl, Nat.le_of_ble_eq_true rfl⟩) (pu_preS trivial hK) rfl rfl hl.1 rfl (lv_room (Nat.le_of_ble_eq_true rfl)) dX4_isDevice_8 ⟨Nat.zero_le _, Nat.zero_le _⟩) ?_
  exact pu_zret hx hb hr hlocks dX4_isDevice_11 (by rfl)
set_option maxHeartbeats 4000000 in
set_option maxRecDepth 100000 in
theorem k_thrown (l : Launch) (D : va_G) (g : Nat → ClassId) (am : Nat → Nat) (cd dv vo ab be : Int) (AA : Nat → Nat → Int) : Met l yX4_thrown wsX4_thrown ({ frames := 0, cells := 0, slots := 0, locals := 0 }) (pu_Pc [.ref (am 0)] D vwCl (ty9 g) (fun H => mW D g am cd dv vo ab be AA H)) (pu_Q (some (.int (jI cd)))) 0 0 (fun _ => False) := by
  refine Met.ofW (cc := cX4_thrown) (maxL := 1) (ret := some .int) (by decide) rfl ?_
  intro p e s m args below meth c s₁ B hml hv
  obtain ⟨rfl, hPic, hK⟩ := hv
  have hx := B.exec
  have hb := B.bytes
  have hr := B.returns
  have hts := atoms_spec (ws := wsX4_thrown) B.pre
  have hown : s.vm.findClass RX4 = some m.cls := findClass_of_methodNamed B.named
  have hlocks := B.notSynchronized
  have hm0 := hPic.1
  have hl := lv_entry ([.ref (am 0)]) (n := 1) (Nat.le_of_ble_eq_true rfl)
  rw [lg_entry_eq]
  generalize (lg_sl ([.ref (am 0)]) ++ List.replicate (1 - (lg_sl ([.ref (am 0)])).length) Slot.unset).toArray = ls at hl ⊢
  have hl : lv_has ls 1 [(0, .ref (am 0))] := hl
  refine lv_aload_n hx hb dX4_thrown_0 rfl (lv_at hl 0 rfl) ?_
  refine va_get (D := D) (ci := 4) (v := .int (jI (cd))) (C := RX4) (T := TX4) (N := 17) hx hb hts (fun w h => List.mem_cons_of_mem _ (uw_X4 w h)) hown hK (j_P1 hm0) 0 rfl rfl 0 (by decide) (hts _ (List.mem_cons_of_mem _ kw_418)) (fun _ h9 => h9) rfl dX4_thrown_1 ?_
  exact pu_iret hx hb hr hlocks dX4_thrown_4 (by rfl)
set_option maxHeartbeats 4000000 in
set_option maxRecDepth 100000 in
theorem k_opensAt (l : Launch) (D : va_G) (g : Nat → ClassId) (am : Nat → Nat) (cd dv vo ab be : Int) (AA : Nat → Nat → Int) (z : bSt) (hz : bOK z) (hR : mR z dv vo AA) (d o : Nat) (I : Int) (hd : d < bN z) (ho : o < bO z d) (hI : 0 ≤ I ∧ I ≤ 5000) : Met l yX4_opensAt wsX4_opensAt ({ frames := 0, cells := 0, slots := 0, locals := 0 }) (pu_Pc [.ref (am 0), .int (jI ((d : Int))), .int (jI ((o : Int))), .int (jI (I))] D vwCl (ty9 g) (fun H => mW D g am cd dv vo ab be AA H)) (pu_Q (some (.int (jI (bI (mOpen (bSet z d o) I)))))) 0 0 (fun _ => False) := by
  refine Met.ofW (cc := cX4_opensAt) (maxL := 4) (ret := some .boolean) (by decide) rfl ?_
  intro p e s m args below meth c s₁ B hml hv
  obtain ⟨rfl, hPic, hK⟩ := hv
  have hx := B.exec
  have hb := B.bytes
  have hr := B.returns
  have hts := atoms_spec (ws := wsX4_opensAt) B.pre
  have hown : s.vm.findClass RX4 = some m.cls := findClass_of_methodNamed B.named
  have hlocks := B.notSynchronized
  have hm0 := hPic.1
  have hm2 : va_at D vwCl (am 2, .inl (g 0, 8, .inl (fun j => jI (AA 2 j)))) s.heap := hPic.2 2 (by omega) (by omega)
  have hm3 : va_at D vwCl (am 3, .inl (g 0, 48, .inl (fun j => jI (AA 3 j)))) s.heap := hPic.2 3 (by omega) (by omega)
  have hm7 : va_at D vwCl (am 7, .inl (g 0, 32, .inl (fun j => jI (AA 7 j)))) s.heap := hPic.2 7 (by omega) (by omega)
  obtain ⟨e1_d, e2_d, e3_d, e6_d, e7_d, e9_d, e10_d⟩ := hR.2.2 d hd
  have f_d := hz.2.2.1 d (by have := hz.1; omega)
  have hN := hz.1
  have ok := f_d.2.2.2.2.2 o ho
  have s7 := e7_d o ho
  have nK : bK z d ≤ 6 := ok.1
  have hl := lv_entry ([.ref (am 0), .int (jI ((d : Int))), .int (jI ((o : Int))), .int (jI (I))]) (n := 4) (Nat.le_of_ble_eq_true rfl)
  rw [lg_entry_eq]
  generalize (lg_sl ([.ref (am 0), .int (jI ((d : Int))), .int (jI ((o : Int))), .int (jI (I))]) ++ List.replicate (4 - (lg_sl ([.ref (am 0), .int (jI ((d : Int))), .int (jI ((o : Int))), .int (jI (I))])).length) Slot.unset).toArray = ls at hl ⊢
  have hl : lv_has ls 4 [(0, .ref (am 0)), (1, .int (jI ((d : Int)))), (2, .int (jI ((o : Int)))), (3, .int (jI (I)))] := hl
  refine lv_aload_n hx hb dX4_opensAt_0 rfl (lv_at hl 0 rfl) ?_
  refine va_get (D := D) (ci := 4) (v := .ref (am 2)) (C := RX4) (T := TX4) (N := 17) hx hb hts (fun w h => List.mem_cons_of_mem _ (uw_X4 w h)) hown hK (j_P1 hm0) 0 rfl rfl 3 (by decide) (hts _ (List.mem_cons_of_mem _ kw_421)) (fun _ h9 => h9) rfl dX4_opensAt_1 ?_
  refine lv_iload_n hx hb dX4_opensAt_4 rfl (lv_at hl 1 rfl) ?_
  refine jv_iald (i := d) hx hb hK hm2 0 rfl (by omega) (by omega) (by decide) dX4_opensAt_5 ?_
  rw [e2_d]
  refine jv_if_le (tgt := 40) hx hb dX4_opensAt_6 (by decide) (by omega) (fun c6 => ?_) (fun c6 => ?_)
  · refine jv_iconst hx hb dX4_opensAt_40 ?_
    exact pu_zret hx hb hr hlocks dX4_opensAt_41 (by show (0 : Int) = bI (decide (0 < bK z d ∧ bS z d o * bP z d 0 ≤ 100 * I)); rw [decide_eq_false (by omega)]; rfl)
  · have s3 : AA 3 (6 * d) = bP z d 0 := (e3_d 0 (by omega)).1
    have f3 : 10 ≤ bS z d o * bP z d 0 ∧ bS z d o * bP z d 0 ≤ 5000000 := sOK_pl ok (i := 0) (show 0 < bK z d by omega)
    refine jv_bipush hx hb dX4_opensAt_9 (by decide) ?_
    refine lv_iload_n hx hb dX4_opensAt_11 rfl (lv_at hl 3 rfl) ?_
    refine jv_imul hx hb dX4_opensAt_12 ?_
    refine lv_aload_n hx hb dX4_opensAt_13 rfl (lv_at hl 0 rfl) ?_
    refine va_get (D := D) (ci := 4) (v := .ref (am 7)) (C := RX4) (T := TX4) (N := 17) hx hb hts (fun w h => List.mem_cons_of_mem _ (uw_X4 w h)) hown hK (j_P1 hm0) 0 rfl rfl 8 (by decide) (hts _ (List.mem_cons_of_mem _ kw_426)) (fun _ h9 => h9) rfl dX4_opensAt_14 ?_
    refine jv_iconst hx hb dX4_opensAt_17 ?_
    refine lv_iload_n hx hb dX4_opensAt_18 rfl (lv_at hl 1 rfl) ?_
    refine jv_imul hx hb dX4_opensAt_19 ?_
    refine lv_iload_n hx hb dX4_opensAt_20 rfl (lv_at hl 2 rfl) ?_
    refine jv_iadd hx hb dX4_opensAt_21 ?_
    refine jv_iald (i := (4 * d + o)) hx hb hK hm7 0 rfl (by omega) (by omega) (by decide) dX4_opensAt_22 ?_
    rw [s7.1]
    refine lv_aload_n hx hb dX4_opensAt_23 rfl (lv_at hl 0 rfl) ?_
    refine va_get (D := D) (ci := 4) (v := .ref (am 3)) (C := RX4) (T := TX4) (N := 17) hx hb hts (fun w h => List.mem_cons_of_mem _ (uw_X4 w h)) hown hK (j_P1 hm0) 0 rfl rfl 4 (by decide) (hts _ (List.mem_cons_of_mem _ kw_422)) (fun _ h9 => h9) rfl dX4_opensAt_24 ?_
    refine jv_bipush hx hb dX4_opensAt_27 (by decide) ?_
    refine lv_iload_n hx hb dX4_opensAt_29 rfl (lv_at hl 1 rfl) ?_
    refine jv_imul hx hb dX4_opensAt_30 ?_
    refine jv_iald (i := (6 * d)) hx hb hK hm3 0 rfl (by omega) (by omega) (by decide) dX4_opensAt_31 ?_
    rw [s3]
    refine jv_imul hx hb dX4_opensAt_32 ?_
    refine jv_icmp_lt (tgt := 40) hx hb dX4_opensAt_33 (by decide) (by omega) (by omega) (fun c33 => ?_) (fun c33 => ?_)
    · refine jv_iconst hx hb dX4_opensAt_40 ?_
      exact pu_zret hx hb hr hlocks dX4_opensAt_41 (by show (0 : Int) = bI (decide (0 < bK z d ∧ bS z d o * bP z d 0 ≤ 100 * I)); rw [decide_eq_false (by omega)]; rfl)
    · refine jv_iconst hx hb dX4_opensAt_36 ?_
      refine lv_goto (tgt := 41) hx hb dX4_opensAt_37 (by decide) ?_
      exact pu_zret hx hb hr hlocks dX4_opensAt_41 (by show (1 : Int) = bI (decide (0 < bK z d ∧ bS z d o * bP z d 0 ≤ 100 * I)); rw [decide_eq_true (by omega)]; rfl)
set_option maxHeartbeats 4000000 in
set_option maxRecDepth 100000 in
theorem k_reckon (l : Launch) (D : va_G) (g : Nat → ClassId) (am : Nat → Nat) (cd dv vo ab be : Int) (AA : Nat → Nat → Int) (z : bSt) (hz : bOK z) (hR : mR z dv vo AA) (d o : Nat) (I : Int) (mo : Bool) (hd : d < bN z) (ho : o < bO z d) (hI : 0 ≤ I ∧ I ≤ 5000) (hop : 0 < bK z d ∧ bS z d o * bP z d 0 ≤ 100 * I) (hj : mInj am) : Met l yX4_reckon wsX4_reckon ({ frames := 0, cells := 0, slots := 0, locals := 0 }) (pu_Pc [.ref (am 0), .int (jI ((d : Int))), .int (jI ((o : Int))), .int (jI (I)), .int (jI (bI mo))] D vwCl (ty9 g) (fun H => mW D g am cd dv vo ab be AA H)) (mQ D g am none (fun c n v A a b => c = cd ∧ n = dv ∧ v = vo ∧ A = AA ∧ a = cTime (bSet z d o) mo (cPiece (bSet z d o) I) (cParts (bSet z d o) (cPiece (bSet z d o) I)) I ∧ b = cParts (bSet z d o) (cPiece (bSet z d o) I))) 0 0 (mFr am) := by
  refine Met.ofW (cc := cX4_reckon) (maxL := 14) (ret := none) (by decide) rfl ?_
  intro p e s m args below meth c s₁ B hml hv
  obtain ⟨rfl, hPic, hK⟩ := hv
  have hx := B.exec
  have hb := B.bytes
  have hr := B.returns
  have hts := atoms_spec (ws := wsX4_reckon) B.pre
  have hown : s.vm.findClass RX4 = some m.cls := findClass_of_methodNamed B.named
  have hlocks := B.notSynchronized
  have hm0 := hPic.1
  have hm1 : va_at D vwCl (am 1, .inl (g 0, 8, .inl (fun j => jI (AA 1 j)))) s.heap := hPic.2 1 (by omega) (by omega)
  have hm2 : va_at D vwCl (am 2, .inl (g 0, 8, .inl (fun j => jI (AA 2 j)))) s.heap := hPic.2 2 (by omega) (by omega)
  have hm3 : va_at D vwCl (am 3, .inl (g 0, 48, .inl (fun j => jI (AA 3 j)))) s.heap := hPic.2 3 (by omega) (by omega)
  have hm4 : va_at D vwCl (am 4, .inl (g 0, 48, .inl (fun j => jI (AA 4 j)))) s.heap := hPic.2 4 (by omega) (by omega)
  have hm5 : va_at D vwCl (am 5, .inl (g 0, 48, .inl (fun j => jI (AA 5 j)))) s.heap := hPic.2 5 (by omega) (by omega)
  have hm6 : va_at D vwCl (am 6, .inl (g 0, 8, .inl (fun j => jI (AA 6 j)))) s.heap := hPic.2 6 (by omega) (by omega)
  have hm7 : va_at D vwCl (am 7, .inl (g 0, 32, .inl (fun j => jI (AA 7 j)))) s.heap := hPic.2 7 (by omega) (by omega)
  have hm8 : va_at D vwCl (am 8, .inl (g 0, 32, .inl (fun j => jI (AA 8 j)))) s.heap := hPic.2 8 (by omega) (by omega)
  have hm9 : va_at D vwCl (am 9, .inl (g 0, 8, .inl (fun j => jI (AA 9 j)))) s.heap := hPic.2 9 (by omega) (by omega)
  have hm10 : va_at D vwCl (am 10, .inl (g 0, 8, .inl (fun j => jI (AA 10 j)))) s.heap := hPic.2 10 (by omega) (by omega)
  have hm11 : va_at D vwCl (am 11, .inl (g 0, 128, .inl (fun j => jI (AA 11 j)))) s.heap := hPic.2 11 (by omega) (by omega)
  have hm12 : va_at D vwCl (am 12, .inl (g 0, 8, .inl (fun j => jI (AA 12 j)))) s.heap := hPic.2 12 (by omega) (by omega)
  obtain ⟨e1_d, e2_d, e3_d, e6_d, e7_d, e9_d, e10_d⟩ := hR.2.2 d hd
  have f_d := hz.2.2.1 d (by have := hz.1; omega)
  have hN := hz.1
  have ok := f_d.2.2.2.2.2 o ho
  have s7 := e7_d o ho
  have nK : bK z d ≤ 6 := ok.1
  have fS : 10 ≤ bS z d o ∧ bS z d o ≤ 1000 := ok.2.2.2.2.1
  have fD : 0 ≤ bD z d o ∧ bD z d o ≤ 10000 := ok.2.2.2.2.2
  have fT : ∀ i mo, i < bK z d → 0 ≤ sT (bSet z d o) mo i ∧ sT (bSet z d o) mo i ≤ 100000 := ok.2.2.1
  have fP : ∀ i, i < bK z d → 10 ≤ bS z d o * bP z d i ∧ bS z d o * bP z d i ≤ 5000000 := fun i hi => sOK_pl ok hi
  have fQ : ∀ i, i < bK z d → 1 ≤ bP z d i ∧ bP z d i ≤ 5000 := ok.2.1
  have hl := lv_entry ([.ref (am 0), .int (jI ((d : Int))), .int (jI ((o : Int))), .int (jI (I)), .int (jI (bI mo))]) (n := 14) (Nat.le_of_ble_eq_true rfl)
  rw [lg_entry_eq]
  generalize (lg_sl ([.ref (am 0), .int (jI ((d : Int))), .int (jI ((o : Int))), .int (jI (I)), .int (jI (bI mo))]) ++ List.replicate (14 - (lg_sl ([.ref (am 0), .int (jI ((d : Int))), .int (jI ((o : Int))), .int (jI (I)), .int (jI (bI mo))])).length) Slot.unset).toArray = ls at hl ⊢
  have hl : lv_has ls 14 [(0, .ref (am 0)), (1, .int (jI ((d : Int)))), (2, .int (jI ((o : Int)))), (3, .int (jI (I))), (4, .int (jI (bI mo)))] := hl
  have hT0 : mTo am s.heap s.heap [] := mTo.rf
  cases mo
  · refine lv_aload_n hx hb dX4_reckon_0 rfl (lv_at hl 0 rfl) ?_
    refine va_get (D := D) (ci := 4) (v := .ref (am 7)) (C := RX4) (T := TX4) (N := 17) hx hb hts (fun w h => List.mem_cons_of_mem _ (uw_X4 w h)) hown hK (j_P1 hm0) 0 rfl rfl 8 (by decide) (hts _ (List.mem_cons_of_mem _ kw_426)) (fun _ h9 => h9) rfl dX4_reckon_1 ?_
    refine jv_iconst hx hb dX4_reckon_4 ?_
    refine lv_iload_n hx hb dX4_reckon_5 rfl (lv_at hl 1 rfl) ?_
    refine jv_imul hx hb dX4_reckon_6 ?_
    refine lv_iload_n hx hb dX4_reckon_7 rfl (lv_at hl 2 rfl) ?_
    refine jv_iadd hx hb dX4_reckon_8 ?_
    refine jv_iald (i := (4 * d + o)) hx hb hK hm7 0 rfl (by omega) (by omega) (by decide) dX4_reckon_9 ?_
    rw [s7.1]
    refine jv_i2l hx hb dX4_reckon_10 (by omega) ?_
    refine lv_lstore (lv' := [(5, .long (jL (bS z d o))), (0, .ref (am 0)), (1, .int (jI ((d : Int)))), (2, .int (jI ((o : Int)))), (3, .int (jI (I))), (4, .int (jI (bI false)))]) hx hb dX4_reckon_11 hl (by decide) rfl (fun ls hl => ?_)
    refine jv_ldc2 (k := 100) hx hb hown (hts _ (List.mem_cons_of_mem _ kw_510)) (by decide) dX4_reckon_13 ?_
    refine lv_iload_n hx hb dX4_reckon_16 rfl (lv_at hl 4 rfl) ?_
    refine jv_i2l hx hb dX4_reckon_17 (by omega) ?_
    refine jv_lmul hx hb dX4_reckon_18 ?_
    refine lv_lstore (lv' := [(7, .long (jL (100 * I))), (5, .long (jL (bS z d o))), (0, .ref (am 0)), (1, .int (jI ((d : Int)))), (2, .int (jI ((o : Int)))), (3, .int (jI (I))), (4, .int (jI (bI false)))]) hx hb dX4_reckon_19 hl (by decide) rfl (fun ls hl => ?_)
    refine jv_bipush hx hb dX4_reckon_21 (by decide) ?_
    refine lv_iload_n hx hb dX4_reckon_23 rfl (lv_at hl 3 rfl) ?_
    refine jv_imul hx hb dX4_reckon_24 ?_
    refine lv_aload_n hx hb dX4_reckon_25 rfl (lv_at hl 2 rfl) ?_
    refine va_get (D := D) (ci := 4) (v := .ref (am 2)) (C := RX4) (T := TX4) (N := 17) hx hb hts (fun w h => List.mem_cons_of_mem _ (uw_X4 w h)) hown hK (j_P1 hm0) 0 rfl rfl 3 (by decide) (hts _ (List.mem_cons_of_mem _ kw_421)) (fun _ h9 => h9) rfl dX4_reckon_26 ?_
    refine lv_iload_n hx hb dX4_reckon_29 rfl (lv_at hl 3 rfl) ?_
    refine jv_iald (i := d) hx hb hK hm2 0 rfl (by omega) (by omega) (by decide) dX4_reckon_30 ?_
    rw [e2_d]
    refine jv_iadd hx hb dX4_reckon_31 ?_
    refine jv_iconst hx hb dX4_reckon_32 ?_
    refine jv_isub hx hb dX4_reckon_33 ?_
    refine lv_istore (lv' := [(9, .int (jI (((6 * (d : Int)) + (bK z d : Int)) - 1))), (7, .long (jL (100 * I))), (5, .long (jL (bS z d o))), (0, .ref (am 0)), (1, .int (jI ((d : Int)))), (2, .int (jI ((o : Int)))), (3, .int (jI (I))), (4, .int (jI (bI false)))]) hx hb dX4_reckon_34 hl (by decide) rfl (fun ls hl => ?_)
    refine jw_loop (X := Nat) (fun j => j) (fun j ls => (j < bK z d ∧ ∀ i, j < i → i < bK z d → 100 * I < bS z d o * bP z d i) ∧ lv_has ls 14 [(0, .ref (am 0)), (1, .int (jI ((d : Int)))), (2, .int (jI ((o : Int)))), (3, .int (jI (I))), (4, .int (jI (bI false))), (5, .long (jL (bS z d o))), (7, .long (jL (100 * I))), (9, .int (jI ((6 * (d : Int)) + (j : Int))))]) ?_ (bK z d - 1) ls ⟨⟨by omega, fun i h1 h2 => by omega⟩, by rw [show (6 * (d : Int)) + ((bK z d - 1 : Nat) : Int) = ((6 * (d : Int)) + (bK z d : Int)) - 1 by omega]; exact lv_sub hl [3, 4, 5, 6, 7, 2, 1, 0] rfl⟩
    intro j ls hinv ih
    obtain ⟨⟨hjn, hjx⟩, hl⟩ := hinv
    have s3 : AA 3 (6 * d + j) = bP z d j := (e3_d j hjn).1
    have s4 : AA 4 (6 * d + j) = bL z d j := (e3_d j hjn).2.1
    have s5 : AA 5 (6 * d + j) = bM z d j := (e3_d j hjn).2.2
    have fj := fP j hjn
    have gj := fQ j hjn
    have tj : 0 ≤ bL z d j ∧ bL z d j ≤ 100000 := fT j false hjn
    refine lv_lload hx hb dX4_reckon_36 (lv_at hl 6 rfl) ?_
    refine lv_lload hx hb dX4_reckon_38 (lv_at hl 5 rfl) ?_
    refine lv_aload_n hx hb dX4_reckon_40 rfl (lv_at hl 0 rfl) ?_
    refine va_get (D := D) (ci := 4) (v := .ref (am 3)) (C := RX4) (T := TX4) (N := 17) hx hb hts (fun w h => List.mem_cons_of_mem _ (uw_X4 w h)) hown hK (j_P1 hm0) 0 rfl rfl 4 (by decide) (hts _ (List.mem_cons_of_mem _ kw_422)) (fun _ h9 => h9) rfl dX4_reckon_41 ?_
    refine lv_iload hx hb dX4_reckon_44 (lv_at hl 7 rfl) ?_
    refine jv_iald (i := (6 * d + j)) hx hb hK hm3 0 rfl (by omega) (by omega) (by decide) dX4_reckon_46 ?_
    rw [s3]
    refine jv_i2l hx hb dX4_reckon_47 (by omega) ?_
    refine jv_lmul hx hb dX4_reckon_48 ?_
    refine jv_lcmp_ge (tgt := 59) hx hb dX4_reckon_49 dX4_reckon_50 (by decide) (by omega) (by omega) (fun c49 => ?_) (fun c49 => ?_)
    · have hq : cPiece (bSet z d o) I = (j : Int) := mPiece_of ok hjn c49 hjx
      refine lv_iload hx hb dX4_reckon_59 (lv_at hl 4 rfl) ?_
      refine jv_if_eq (tgt := 75) hx hb dX4_reckon_61 (by decide) (by decide) (fun c61 => ?_) (fun c61 => ?_)
      · refine lv_aload_n hx hb dX4_reckon_75 rfl (lv_at hl 0 rfl) ?_
        refine va_get (D := D) (ci := 4) (v := .ref (am 4)) (C := RX4) (T := TX4) (N := 17) hx hb hts (fun w h => List.mem_cons_of_mem _ (uw_X4 w h)) hown hK (j_P1 hm0) 0 rfl rfl 5 (by decide) (hts _ (List.mem_cons_of_mem _ kw_423)) (fun _ h9 => h9) rfl dX4_reckon_76 ?_
        refine lv_iload hx hb dX4_reckon_79 (lv_at hl 7 rfl) ?_
        refine jv_iald (i := (6 * d + j)) hx hb hK hm4 0 rfl (by omega) (by omega) (by decide) dX4_reckon_81 ?_
        rw [s4]
        refine jv_i2l hx hb dX4_reckon_82 (by omega) ?_
        refine lv_lstore (lv' := [(10, .long (jL (bL z d j))), (0, .ref (am 0)), (1, .int (jI ((d : Int)))), (2, .int (jI ((o : Int)))), (3, .int (jI (I))), (4, .int (jI (bI false))), (5, .long (jL (bS z d o))), (7, .long (jL (100 * I))), (9, .int (jI ((6 * (d : Int)) + (j : Int))))]) hx hb dX4_reckon_83 hl (by decide) rfl (fun ls hl => ?_)
        refine lv_aload_n hx hb dX4_reckon_85 rfl (lv_at hl 1 rfl) ?_
        refine lv_lload hx hb dX4_reckon_86 (lv_at hl 0 rfl) ?_
        refine jv_put (D := D) (ci := 4) (v := .long (jL (bL z d j))) (ty := .long) (C := RX4) (T := TX4) (N := 17) hx hb hts (fun w h => List.mem_cons_of_mem _ (uw_X4 w h)) tyX4 tyX4_ok nmX4 hown hK hm0 rfl 13 (by decide) (hts _ (List.mem_cons_of_mem _ kw_431)) (fun _ h9 => h9) rfl (by decide +kernel) rfl rfl (Nat.le_of_ble_eq_true rfl) dX4_reckon_88 (fun H f9 hn9 hz9 oq9 => ?_)
        have hPic : mW D g am cd dv vo (bL z d j) be AA H := mW_obj hj hPic oq9 hn9
        have hT0 := hT0.put 0 (by omega) hz9 oq9 (f := f9)
        have hm0 := hPic.1
        have hm1 : va_at D vwCl (am 1, .inl (g 0, 8, .inl (fun j => jI (AA 1 j)))) H := hPic.2 1 (by omega) (by omega)
        have hm2 : va_at D vwCl (am 2, .inl (g 0, 8, .inl (fun j => jI (AA 2 j)))) H := hPic.2 2 (by omega) (by omega)
        have hm3 : va_at D vwCl (am 3, .inl (g 0, 48, .inl (fun j => jI (AA 3 j)))) H := hPic.2 3 (by omega) (by omega)
        have hm4 : va_at D vwCl (am 4, .inl (g 0, 48, .inl (fun j => jI (AA 4 j)))) H := hPic.2 4 (by omega) (by omega)
        have hm5 : va_at D vwCl (am 5, .inl (g 0, 48, .inl (fun j => jI (AA 5 j)))) H := hPic.2 5 (by omega) (by omega)
        have hm6 : va_at D vwCl (am 6, .inl (g 0, 8, .inl (fun j => jI (AA 6 j)))) H := hPic.2 6 (by omega) (by omega)
        have hm7 : va_at D vwCl (am 7, .inl (g 0, 32, .inl (fun j => jI (AA 7 j)))) H := hPic.2 7 (by omega) (by omega)
        have hm8 : va_at D vwCl (am 8, .inl (g 0, 32, .inl (fun j => jI (AA 8 j)))) H := hPic.2 8 (by omega) (by omega)
        have hm9 : va_at D vwCl (am 9, .inl (g 0, 8, .inl (fun j => jI (AA 9 j)))) H := hPic.2 9 (by omega) (by omega)
        have hm10 : va_at D vwCl (am 10, .inl (g 0, 8, .inl (fun j => jI (AA 10 j)))) H := hPic.2 10 (by omega) (by omega)
        have hm11 : va_at D vwCl (am 11, .inl (g 0, 128, .inl (fun j => jI (AA 11 j)))) H := hPic.2 11 (by omega) (by omega)
        have hm12 : va_at D vwCl (am 12, .inl (g 0, 8, .inl (fun j => jI (AA 12 j)))) H := hPic.2 12 (by omega) (by omega)
        refine lv_aload_n hx hb dX4_reckon_91 rfl (lv_at hl 1 rfl) ?_
        refine jv_lconst (k := 1) hx hb dX4_reckon_92 (by decide) ?_
        refine jv_put (D := D) (ci := 4) (v := .long (jL (1))) (ty := .long) (C := RX4) (T := TX4) (N := 17) hx hb hts (fun w h => List.mem_cons_of_mem _ (uw_X4 w h)) tyX4 tyX4_ok nmX4 hown hK hm0 rfl 14 (by decide) (hts _ (List.mem_cons_of_mem _ kw_432)) (fun _ h9 => h9) rfl (by decide +kernel) rfl rfl (Nat.le_of_ble_eq_true rfl) dX4_reckon_93 (fun H f9 hn9 hz9 oq9 => ?_)
        have hPic : mW D g am cd dv vo (bL z d j) 1 AA H := mW_obj hj hPic oq9 hn9
        have hT0 := hT0.put 0 (by omega) hz9 oq9 (f := f9)
        have hm0 := hPic.1
        have hm1 : va_at D vwCl (am 1, .inl (g 0, 8, .inl (fun j => jI (AA 1 j)))) H := hPic.2 1 (by omega) (by omega)
        have hm2 : va_at D vwCl (am 2, .inl (g 0, 8, .inl (fun j => jI (AA 2 j)))) H := hPic.2 2 (by omega) (by omega)
        have hm3 : va_at D vwCl (am 3, .inl (g 0, 48, .inl (fun j => jI (AA 3 j)))) H := hPic.2 3 (by omega) (by omega)
        have hm4 : va_at D vwCl (am 4, .inl (g 0, 48, .inl (fun j => jI (AA 4 j)))) H := hPic.2 4 (by omega) (by omega)
        have hm5 : va_at D vwCl (am 5, .inl (g 0, 48, .inl (fun j => jI (AA 5 j)))) H := hPic.2 5 (by omega) (by omega)
        have hm6 : va_at D vwCl (am 6, .inl (g 0, 8, .inl (fun j => jI (AA 6 j)))) H := hPic.2 6 (by omega) (by omega)
        have hm7 : va_at D vwCl (am 7, .inl (g 0, 32, .inl (fun j => jI (AA 7 j)))) H := hPic.2 7 (by omega) (by omega)
        have hm8 : va_at D vwCl (am 8, .inl (g 0, 32, .inl (fun j => jI (AA 8 j)))) H := hPic.2 8 (by omega) (by omega)
        have hm9 : va_at D vwCl (am 9, .inl (g 0, 8, .inl (fun j => jI (AA 9 j)))) H := hPic.2 9 (by omega) (by omega)
        have hm10 : va_at D vwCl (am 10, .inl (g 0, 8, .inl (fun j => jI (AA 10 j)))) H := hPic.2 10 (by omega) (by omega)
        have hm11 : va_at D vwCl (am 11, .inl (g 0, 128, .inl (fun j => jI (AA 11 j)))) H := hPic.2 11 (by omega) (by omega)
        have hm12 : va_at D vwCl (am 12, .inl (g 0, 8, .inl (fun j => jI (AA 12 j)))) H := hPic.2 12 (by omega) (by omega)
        refine lv_iload hx hb dX4_reckon_96 (lv_at hl 8 rfl) ?_
        refine jv_bipush hx hb dX4_reckon_98 (by decide) ?_
        refine lv_iload_n hx hb dX4_reckon_100 rfl (lv_at hl 2 rfl) ?_
        refine jv_imul hx hb dX4_reckon_101 ?_
        refine lv_aload_n hx hb dX4_reckon_102 rfl (lv_at hl 1 rfl) ?_
        refine va_get (D := D) (ci := 4) (v := .ref (am 2)) (C := RX4) (T := TX4) (N := 17) hx hb hts (fun w h => List.mem_cons_of_mem _ (uw_X4 w h)) hown hK (j_P1 hm0) 0 rfl rfl 3 (by decide) (hts _ (List.mem_cons_of_mem _ kw_421)) (fun _ h9 => h9) rfl dX4_reckon_103 ?_
        refine lv_iload_n hx hb dX4_reckon_106 rfl (lv_at hl 2 rfl) ?_
        refine jv_iald (i := d) hx hb hK hm2 0 rfl (by omega) (by omega) (by decide) dX4_reckon_107 ?_
        rw [e2_d]
        refine jv_iadd hx hb dX4_reckon_108 ?_
        refine jv_iconst hx hb dX4_reckon_109 ?_
        refine jv_isub hx hb dX4_reckon_110 ?_
        refine jv_icmp_ge (tgt := 201) hx hb dX4_reckon_111 (by decide) (by omega) (by omega) (fun c111 => ?_) (fun c111 => ?_)
        · refine lv_aload_n hx hb dX4_reckon_201 rfl (lv_at hl 1 rfl) ?_
          refine lv_dup hx hb dX4_reckon_202 rfl ?_
          refine va_get (D := D) (ci := 4) (v := .long (jL (bL z d j))) (C := RX4) (T := TX4) (N := 17) hx hb hts (fun w h => List.mem_cons_of_mem _ (uw_X4 w h)) hown hK (j_P1 hm0) 0 rfl rfl 13 (by decide) (hts _ (List.mem_cons_of_mem _ kw_431)) (fun _ h9 => h9) rfl dX4_reckon_203 ?_
          refine lv_aload_n hx hb dX4_reckon_206 rfl (lv_at hl 1 rfl) ?_
          refine va_get (D := D) (ci := 4) (v := .long (jL (1))) (C := RX4) (T := TX4) (N := 17) hx hb hts (fun w h => List.mem_cons_of_mem _ (uw_X4 w h)) hown hK (j_P1 hm0) 0 rfl rfl 14 (by decide) (hts _ (List.mem_cons_of_mem _ kw_432)) (fun _ h9 => h9) rfl dX4_reckon_207 ?_
          refine lv_aload_n hx hb dX4_reckon_210 rfl (lv_at hl 1 rfl) ?_
          refine va_get (D := D) (ci := 4) (v := .ref (am 8)) (C := RX4) (T := TX4) (N := 17) hx hb hts (fun w h => List.mem_cons_of_mem _ (uw_X4 w h)) hown hK (j_P1 hm0) 0 rfl rfl 9 (by decide) (hts _ (List.mem_cons_of_mem _ kw_427)) (fun _ h9 => h9) rfl dX4_reckon_211 ?_
          refine jv_iconst hx hb dX4_reckon_214 ?_
          refine lv_iload_n hx hb dX4_reckon_215 rfl (lv_at hl 2 rfl) ?_
          refine jv_imul hx hb dX4_reckon_216 ?_
          refine lv_iload_n hx hb dX4_reckon_217 rfl (lv_at hl 3 rfl) ?_
          refine jv_iadd hx hb dX4_reckon_218 ?_
          refine jv_iald (i := (4 * d + o)) hx hb hK hm8 0 rfl (by omega) (by omega) (by decide) dX4_reckon_219 ?_
          rw [s7.2]
          refine jv_i2l hx hb dX4_reckon_220 (by omega) ?_
          refine jv_lmul hx hb dX4_reckon_221 ?_
          refine jv_ladd hx hb dX4_reckon_222 ?_
          refine jv_put (D := D) (ci := 4) (v := .long (jL ((bL z d j) + (1 * (bD z d o))))) (ty := .long) (C := RX4) (T := TX4) (N := 17) hx hb hts (fun w h => List.mem_cons_of_mem _ (uw_X4 w h)) tyX4 tyX4_ok nmX4 hown hK hm0 rfl 13 (by decide) (hts _ (List.mem_cons_of_mem _ kw_431)) (fun _ h9 => h9) rfl (by decide +kernel) rfl rfl (Nat.le_of_ble_eq_true rfl) dX4_reckon_223 (fun H f9 hn9 hz9 oq9 => ?_)
          have hPic : mW D g am cd dv vo ((bL z d j) + (1 * (bD z d o))) 1 AA H := mW_obj hj hPic oq9 hn9
          have hT0 := hT0.put 0 (by omega) hz9 oq9 (f := f9)
          have hm0 := hPic.1
          have hm1 : va_at D vwCl (am 1, .inl (g 0, 8, .inl (fun j => jI (AA 1 j)))) H := hPic.2 1 (by omega) (by omega)
          have hm2 : va_at D vwCl (am 2, .inl (g 0, 8, .inl (fun j => jI (AA 2 j)))) H := hPic.2 2 (by omega) (by omega)
          have hm3 : va_at D vwCl (am 3, .inl (g 0, 48, .inl (fun j => jI (AA 3 j)))) H := hPic.2 3 (by omega) (by omega)
          have hm4 : va_at D vwCl (am 4, .inl (g 0, 48, .inl (fun j => jI (AA 4 j)))) H := hPic.2 4 (by omega) (by omega)
          have hm5 : va_at D vwCl (am 5, .inl (g 0, 48, .inl (fun j => jI (AA 5 j)))) H := hPic.2 5 (by omega) (by omega)
          have hm6 : va_at D vwCl (am 6, .inl (g 0, 8, .inl (fun j => jI (AA 6 j)))) H := hPic.2 6 (by omega) (by omega)
          have hm7 : va_at D vwCl (am 7, .inl (g 0, 32, .inl (fun j => jI (AA 7 j)))) H := hPic.2 7 (by omega) (by omega)
          have hm8 : va_at D vwCl (am 8, .inl (g 0, 32, .inl (fun j => jI (AA 8 j)))) H := hPic.2 8 (by omega) (by omega)
          have hm9 : va_at D vwCl (am 9, .inl (g 0, 8, .inl (fun j => jI (AA 9 j)))) H := hPic.2 9 (by omega) (by omega)
          have hm10 : va_at D vwCl (am 10, .inl (g 0, 8, .inl (fun j => jI (AA 10 j)))) H := hPic.2 10 (by omega) (by omega)
          have hm11 : va_at D vwCl (am 11, .inl (g 0, 128, .inl (fun j => jI (AA 11 j)))) H := hPic.2 11 (by omega) (by omega)
          have hm12 : va_at D vwCl (am 12, .inl (g 0, 8, .inl (fun j => jI (AA 12 j)))) H := hPic.2 12 (by omega) (by omega)
          exact m_vret hx hb hr hlocks dX4_reckon_226 ⟨rfl, rfl, rfl, rfl, (mReck_last (mo := false) hq (show (bK z d : Int) ≤ (j : Int) + 1 by omega)).1, (mReck_last (mo := false) hq (show (bK z d : Int) ≤ (j : Int) + 1 by omega)).2⟩ hPic hT0
        · have n3 : AA 3 (6 * d + j + 1) = bP z d (j + 1) := (e3_d (j + 1) (by omega)).1
          have n4 : AA 4 (6 * d + j + 1) = bL z d (j + 1) := (e3_d (j + 1) (by omega)).2.1
          have n5 : AA 5 (6 * d + j + 1) = bM z d (j + 1) := (e3_d (j + 1) (by omega)).2.2
          have tn : 0 ≤ bL z d (j + 1) ∧ bL z d (j + 1) ≤ 100000 := fT (j + 1) false (by omega)
          have gn := fQ (j + 1) (by omega)
          refine lv_iload hx hb dX4_reckon_114 (lv_at hl 5 rfl) ?_
          refine jv_if_eq (tgt := 132) hx hb dX4_reckon_116 (by decide) (by decide) (fun c116 => ?_) (fun c116 => ?_)
          · refine lv_aload_n hx hb dX4_reckon_132 rfl (lv_at hl 1 rfl) ?_
            refine va_get (D := D) (ci := 4) (v := .ref (am 4)) (C := RX4) (T := TX4) (N := 17) hx hb hts (fun w h => List.mem_cons_of_mem _ (uw_X4 w h)) hown hK (j_P1 hm0) 0 rfl rfl 5 (by decide) (hts _ (List.mem_cons_of_mem _ kw_423)) (fun _ h9 => h9) rfl dX4_reckon_133 ?_
            refine lv_iload hx hb dX4_reckon_136 (lv_at hl 8 rfl) ?_
            refine jv_iconst hx hb dX4_reckon_138 ?_
            refine jv_iadd hx hb dX4_reckon_139 ?_
            refine jv_iald (i := (6 * d + j + 1)) hx hb hK hm4 0 rfl (by omega) (by omega) (by decide) dX4_reckon_140 ?_
            rw [n4]
            refine jv_i2l hx hb dX4_reckon_141 (by omega) ?_
            refine lv_lstore (lv' := [(12, .long (jL (bL z d (j + 1)))), (10, .long (jL (bL z d j))), (0, .ref (am 0)), (1, .int (jI ((d : Int)))), (2, .int (jI ((o : Int)))), (3, .int (jI (I))), (4, .int (jI (bI false))), (5, .long (jL (bS z d o))), (7, .long (jL (100 * I))), (9, .int (jI ((6 * (d : Int)) + (j : Int))))]) hx hb dX4_reckon_142 hl (by decide) rfl (fun ls hl => ?_)
            refine lv_aload_n hx hb dX4_reckon_144 rfl (lv_at hl 2 rfl) ?_
            refine lv_lload hx hb dX4_reckon_145 (lv_at hl 7 rfl) ?_
            refine lv_aload_n hx hb dX4_reckon_147 rfl (lv_at hl 2 rfl) ?_
            refine va_get (D := D) (ci := 4) (v := .ref (am 3)) (C := RX4) (T := TX4) (N := 17) hx hb hts (fun w h => List.mem_cons_of_mem _ (uw_X4 w h)) hown hK (j_P1 hm0) 0 rfl rfl 4 (by decide) (hts _ (List.mem_cons_of_mem _ kw_422)) (fun _ h9 => h9) rfl dX4_reckon_148 ?_
            refine lv_iload hx hb dX4_reckon_151 (lv_at hl 9 rfl) ?_
            refine jv_iconst hx hb dX4_reckon_153 ?_
            refine jv_iadd hx hb dX4_reckon_154 ?_
            refine jv_iald (i := (6 * d + j + 1)) hx hb hK hm3 0 rfl (by omega) (by omega) (by decide) dX4_reckon_155 ?_
            rw [n3]
            refine lv_aload_n hx hb dX4_reckon_156 rfl (lv_at hl 2 rfl) ?_
            refine va_get (D := D) (ci := 4) (v := .ref (am 3)) (C := RX4) (T := TX4) (N := 17) hx hb hts (fun w h => List.mem_cons_of_mem _ (uw_X4 w h)) hown hK (j_P1 hm0) 0 rfl rfl 4 (by decide) (hts _ (List.mem_cons_of_mem _ kw_422)) (fun _ h9 => h9) rfl dX4_reckon_157 ?_
            refine lv_iload hx hb dX4_reckon_160 (lv_at hl 9 rfl) ?_
            refine jv_iald (i := (6 * d + j)) hx hb hK hm3 0 rfl (by omega) (by omega) (by decide) dX4_reckon_162 ?_
            rw [s3]
            refine jv_isub hx hb dX4_reckon_163 ?_
            refine jv_i2l hx hb dX4_reckon_164 (by omega) ?_
            refine jv_lmul hx hb dX4_reckon_165 ?_
            refine jv_put (D := D) (ci := 4) (v := .long (jL ((bS z d o) * ((bP z d (j + 1)) - (bP z d j))))) (ty := .long) (C := RX4) (T := TX4) (N := 17) hx hb hts (fun w h => List.mem_cons_of_mem _ (uw_X4 w h)) tyX4 tyX4_ok nmX4 hown hK hm0 rfl 14 (by decide) (hts _ (List.mem_cons_of_mem _ kw_432)) (fun _ h9 => h9) rfl (by decide +kernel) rfl rfl (Nat.le_of_ble_eq_true rfl) dX4_reckon_166 (fun H f9 hn9 hz9 oq9 => ?_)
            have hPic : mW D g am cd dv vo (bL z d j) ((bS z d o) * ((bP z d (j + 1)) - (bP z d j))) AA H := mW_obj hj hPic oq9 hn9
            have hT0 := hT0.put 0 (by omega) hz9 oq9 (f := f9)
            have hm0 := hPic.1
            have hm1 : va_at D vwCl (am 1, .inl (g 0, 8, .inl (fun j => jI (AA 1 j)))) H := hPic.2 1 (by omega) (by omega)
            have hm2 : va_at D vwCl (am 2, .inl (g 0, 8, .inl (fun j => jI (AA 2 j)))) H := hPic.2 2 (by omega) (by omega)
            have hm3 : va_at D vwCl (am 3, .inl (g 0, 48, .inl (fun j => jI (AA 3 j)))) H := hPic.2 3 (by omega) (by omega)
            have hm4 : va_at D vwCl (am 4, .inl (g 0, 48, .inl (fun j => jI (AA 4 j)))) H := hPic.2 4 (by omega) (by omega)
            have hm5 : va_at D vwCl (am 5, .inl (g 0, 48, .inl (fun j => jI (AA 5 j)))) H := hPic.2 5 (by omega) (by omega)
            have hm6 : va_at D vwCl (am 6, .inl (g 0, 8, .inl (fun j => jI (AA 6 j)))) H := hPic.2 6 (by omega) (by omega)
            have hm7 : va_at D vwCl (am 7, .inl (g 0, 32, .inl (fun j => jI (AA 7 j)))) H := hPic.2 7 (by omega) (by omega)
            have hm8 : va_at D vwCl (am 8, .inl (g 0, 32, .inl (fun j => jI (AA 8 j)))) H := hPic.2 8 (by omega) (by omega)
            have hm9 : va_at D vwCl (am 9, .inl (g 0, 8, .inl (fun j => jI (AA 9 j)))) H := hPic.2 9 (by omega) (by omega)
            have hm10 : va_at D vwCl (am 10, .inl (g 0, 8, .inl (fun j => jI (AA 10 j)))) H := hPic.2 10 (by omega) (by omega)
            have hm11 : va_at D vwCl (am 11, .inl (g 0, 128, .inl (fun j => jI (AA 11 j)))) H := hPic.2 11 (by omega) (by omega)
            have hm12 : va_at D vwCl (am 12, .inl (g 0, 8, .inl (fun j => jI (AA 12 j)))) H := hPic.2 12 (by omega) (by omega)
            refine lv_aload_n hx hb dX4_reckon_169 rfl (lv_at hl 2 rfl) ?_
            refine lv_lload hx hb dX4_reckon_170 (lv_at hl 1 rfl) ?_
            refine lv_aload_n hx hb dX4_reckon_172 rfl (lv_at hl 2 rfl) ?_
            refine va_get (D := D) (ci := 4) (v := .long (jL ((bS z d o) * ((bP z d (j + 1)) - (bP z d j))))) (C := RX4) (T := TX4) (N := 17) hx hb hts (fun w h => List.mem_cons_of_mem _ (uw_X4 w h)) hown hK (j_P1 hm0) 0 rfl rfl 14 (by decide) (hts _ (List.mem_cons_of_mem _ kw_432)) (fun _ h9 => h9) rfl dX4_reckon_173 ?_
            refine jv_lmul hx hb dX4_reckon_176 ?_
            refine lv_lload hx hb dX4_reckon_177 (lv_at hl 0 rfl) ?_
            refine lv_lload hx hb dX4_reckon_179 (lv_at hl 1 rfl) ?_
            refine jv_lsub hx hb dX4_reckon_181 ?_
            refine lv_lload hx hb dX4_reckon_182 (lv_at hl 8 rfl) ?_
            refine lv_lload hx hb dX4_reckon_184 (lv_at hl 7 rfl) ?_
            refine lv_aload_n hx hb dX4_reckon_186 rfl (lv_at hl 2 rfl) ?_
            refine va_get (D := D) (ci := 4) (v := .ref (am 3)) (C := RX4) (T := TX4) (N := 17) hx hb hts (fun w h => List.mem_cons_of_mem _ (uw_X4 w h)) hown hK (j_P1 hm0) 0 rfl rfl 4 (by decide) (hts _ (List.mem_cons_of_mem _ kw_422)) (fun _ h9 => h9) rfl dX4_reckon_187 ?_
            refine lv_iload hx hb dX4_reckon_190 (lv_at hl 9 rfl) ?_
            refine jv_iald (i := (6 * d + j)) hx hb hK hm3 0 rfl (by omega) (by omega) (by decide) dX4_reckon_192 ?_
            rw [s3]
            refine jv_i2l hx hb dX4_reckon_193 (by omega) ?_
            refine jv_lmul hx hb dX4_reckon_194 ?_
            refine jv_lsub hx hb dX4_reckon_195 ?_
            refine jv_lmul hx hb dX4_reckon_196 ?_
            refine jv_ladd hx hb dX4_reckon_197 ?_
            refine jv_put (D := D) (ci := 4) (v := .long (jL (((bL z d j) * ((bS z d o) * ((bP z d (j + 1)) - (bP z d j)))) + (((bL z d (j + 1)) - (bL z d j)) * ((100 * I) - ((bS z d o) * (bP z d j))))))) (ty := .long) (C := RX4) (T := TX4) (N := 17) hx hb hts (fun w h => List.mem_cons_of_mem _ (uw_X4 w h)) tyX4 tyX4_ok nmX4 hown hK hm0 rfl 13 (by decide) (hts _ (List.mem_cons_of_mem _ kw_431)) (fun _ h9 => h9) rfl (by decide +kernel) rfl rfl (Nat.le_of_ble_eq_true rfl) dX4_reckon_198 (fun H f9 hn9 hz9 oq9 => ?_)
            have hPic : mW D g am cd dv vo (((bL z d j) * ((bS z d o) * ((bP z d (j + 1)) - (bP z d j)))) + (((bL z d (j + 1)) - (bL z d j)) * ((100 * I) - ((bS z d o) * (bP z d j))))) ((bS z d o) * ((bP z d (j + 1)) - (bP z d j))) AA H := mW_obj hj hPic oq9 hn9
            have hT0 := hT0.put 0 (by omega) hz9 oq9 (f := f9)
            have hm0 := hPic.1
            have hm1 : va_at D vwCl (am 1, .inl (g 0, 8, .inl (fun j => jI (AA 1 j)))) H := hPic.2 1 (by omega) (by omega)
            have hm2 : va_at D vwCl (am 2, .inl (g 0, 8, .inl (fun j => jI (AA 2 j)))) H := hPic.2 2 (by omega) (by omega)
            have hm3 : va_at D vwCl (am 3, .inl (g 0, 48, .inl (fun j => jI (AA 3 j)))) H := hPic.2 3 (by omega) (by omega)
            have hm4 : va_at D vwCl (am 4, .inl (g 0, 48, .inl (fun j => jI (AA 4 j)))) H := hPic.2 4 (by omega) (by omega)
            have hm5 : va_at D vwCl (am 5, .inl (g 0, 48, .inl (fun j => jI (AA 5 j)))) H := hPic.2 5 (by omega) (by omega)
            have hm6 : va_at D vwCl (am 6, .inl (g 0, 8, .inl (fun j => jI (AA 6 j)))) H := hPic.2 6 (by omega) (by omega)
            have hm7 : va_at D vwCl (am 7, .inl (g 0, 32, .inl (fun j => jI (AA 7 j)))) H := hPic.2 7 (by omega) (by omega)
            have hm8 : va_at D vwCl (am 8, .inl (g 0, 32, .inl (fun j => jI (AA 8 j)))) H := hPic.2 8 (by omega) (by omega)
            have hm9 : va_at D vwCl (am 9, .inl (g 0, 8, .inl (fun j => jI (AA 9 j)))) H := hPic.2 9 (by omega) (by omega)
            have hm10 : va_at D vwCl (am 10, .inl (g 0, 8, .inl (fun j => jI (AA 10 j)))) H := hPic.2 10 (by omega) (by omega)
            have hm11 : va_at D vwCl (am 11, .inl (g 0, 128, .inl (fun j => jI (AA 11 j)))) H := hPic.2 11 (by omega) (by omega)
            have hm12 : va_at D vwCl (am 12, .inl (g 0, 8, .inl (fun j => jI (AA 12 j)))) H := hPic.2 12 (by omega) (by omega)
            refine lv_aload_n hx hb dX4_reckon_201 rfl (lv_at hl 2 rfl) ?_
            refine lv_dup hx hb dX4_reckon_202 rfl ?_
            refine va_get (D := D) (ci := 4) (v := .long (jL (((bL z d j) * ((bS z d o) * ((bP z d (j + 1)) - (bP z d j)))) + (((bL z d (j + 1)) - (bL z d j)) * ((100 * I) - ((bS z d o) * (bP z d j))))))) (C := RX4) (T := TX4) (N := 17) hx hb hts (fun w h => List.mem_cons_of_mem _ (uw_X4 w h)) hown hK (j_P1 hm0) 0 rfl rfl 13 (by decide) (hts _ (List.mem_cons_of_mem _ kw_431)) (fun _ h9 => h9) rfl dX4_reckon_203 ?_
            refine lv_aload_n hx hb dX4_reckon_206 rfl (lv_at hl 2 rfl) ?_
            refine va_get (D := D) (ci := 4) (v := .long (jL ((bS z d o) * ((bP z d (j + 1)) - (bP z d j))))) (C := RX4) (T := TX4) (N := 17) hx hb hts (fun w h => List.mem_cons_of_mem _ (uw_X4 w h)) hown hK (j_P1 hm0) 0 rfl rfl 14 (by decide) (hts _ (List.mem_cons_of_mem _ kw_432)) (fun _ h9 => h9) rfl dX4_reckon_207 ?_
            refine lv_aload_n hx hb dX4_reckon_210 rfl (lv_at hl 2 rfl) ?_
            refine va_get (D := D) (ci := 4) (v := .ref (am 8)) (C := RX4) (T := TX4) (N := 17) hx hb hts (fun w h => List.mem_cons_of_mem _ (uw_X4 w h)) hown hK (j_P1 hm0) 0 rfl rfl 9 (by decide) (hts _ (List.mem_cons_of_mem _ kw_427)) (fun _ h9 => h9) rfl dX4_reckon_211 ?_
            refine jv_iconst hx hb dX4_reckon_214 ?_
            refine lv_iload_n hx hb dX4_reckon_215 rfl (lv_at hl 3 rfl) ?_
            refine jv_imul hx hb dX4_reckon_216 ?_
            refine lv_iload_n hx hb dX4_reckon_217 rfl (lv_at hl 4 rfl) ?_
            refine jv_iadd hx hb dX4_reckon_218 ?_
            refine jv_iald (i := (4 * d + o)) hx hb hK hm8 0 rfl (by omega) (by omega) (by decide) dX4_reckon_219 ?_
            rw [s7.2]
            refine jv_i2l hx hb dX4_reckon_220 (by omega) ?_
            refine jv_lmul hx hb dX4_reckon_221 ?_
            refine jv_ladd hx hb dX4_reckon_222 ?_
            refine jv_put (D := D) (ci := 4) (v := .long (jL ((((bL z d j) * ((bS z d o) * ((bP z d (j + 1)) - (bP z d j)))) + (((bL z d (j + 1)) - (bL z d j)) * ((100 * I) - ((bS z d o) * (bP z d j))))) + (((bS z d o) * ((bP z d (j + 1)) - (bP z d j))) * (bD z d o))))) (ty := .long) (C := RX4) (T := TX4) (N := 17) hx hb hts (fun w h => List.mem_cons_of_mem _ (uw_X4 w h)) tyX4 tyX4_ok nmX4 hown hK hm0 rfl 13 (by decide) (hts _ (List.mem_cons_of_mem _ kw_431)) (fun _ h9 => h9) rfl (by decide +kernel) rfl rfl (Nat.le_of_ble_eq_true rfl) dX4_reckon_223 (fun H f9 hn9 hz9 oq9 => ?_)
            have hPic : mW D g am cd dv vo ((((bL z d j) * ((bS z d o) * ((bP z d (j + 1)) - (bP z d j)))) + (((bL z d (j + 1)) - (bL z d j)) * ((100 * I) - ((bS z d o) * (bP z d j))))) + (((bS z d o) * ((bP z d (j + 1)) - (bP z d j))) * (bD z d o))) ((bS z d o) * ((bP z d (j + 1)) - (bP z d j))) AA H := mW_obj hj hPic oq9 hn9
            have hT0 := hT0.put 0 (by omega) hz9 oq9 (f := f9)
            have hm0 := hPic.1
            have hm1 : va_at D vwCl (am 1, .inl (g 0, 8, .inl (fun j => jI (AA 1 j)))) H := hPic.2 1 (by omega) (by omega)
            have hm2 : va_at D vwCl (am 2, .inl (g 0, 8, .inl (fun j => jI (AA 2 j)))) H := hPic.2 2 (by omega) (by omega)
            have hm3 : va_at D vwCl (am 3, .inl (g 0, 48, .inl (fun j => jI (AA 3 j)))) H := hPic.2 3 (by omega) (by omega)
            have hm4 : va_at D vwCl (am 4, .inl (g 0, 48, .inl (fun j => jI (AA 4 j)))) H := hPic.2 4 (by omega) (by omega)
            have hm5 : va_at D vwCl (am 5, .inl (g 0, 48, .inl (fun j => jI (AA 5 j)))) H := hPic.2 5 (by omega) (by omega)
            have hm6 : va_at D vwCl (am 6, .inl (g 0, 8, .inl (fun j => jI (AA 6 j)))) H := hPic.2 6 (by omega) (by omega)
            have hm7 : va_at D vwCl (am 7, .inl (g 0, 32, .inl (fun j => jI (AA 7 j)))) H := hPic.2 7 (by omega) (by omega)
            have hm8 : va_at D vwCl (am 8, .inl (g 0, 32, .inl (fun j => jI (AA 8 j)))) H := hPic.2 8 (by omega) (by omega)
            have hm9 : va_at D vwCl (am 9, .inl (g 0, 8, .inl (fun j => jI (AA 9 j)))) H := hPic.2 9 (by omega) (by omega)
            have hm10 : va_at D vwCl (am 10, .inl (g 0, 8, .inl (fun j => jI (AA 10 j)))) H := hPic.2 10 (by omega) (by omega)
            have hm11 : va_at D vwCl (am 11, .inl (g 0, 128, .inl (fun j => jI (AA 11 j)))) H := hPic.2 11 (by omega) (by omega)
            have hm12 : va_at D vwCl (am 12, .inl (g 0, 8, .inl (fun j => jI (AA 12 j)))) H := hPic.2 12 (by omega) (by omega)
            exact m_vret hx hb hr hlocks dX4_reckon_226 ⟨rfl, rfl, rfl, rfl, (mReck_mid (mo := false) hq (show (j : Int) + 1 < (bK z d : Int) by omega)).1, (mReck_mid (mo := false) hq (show (j : Int) + 1 < (bK z d : Int) by omega)).2⟩ hPic hT0
          · exact absurd c116 (by decide)
      · exact absurd c61 (by decide)
    · refine lv_iinc (v := jI (((6 * (d : Int)) + (j : Int)) + (-1))) (lv' := [(9, .int (jI (((6 * (d : Int)) + (j : Int)) + (-1)))), (0, .ref (am 0)), (1, .int (jI ((d : Int)))), (2, .int (jI ((o : Int)))), (3, .int (jI (I))), (4, .int (jI (bI false))), (5, .long (jL (bS z d o))), (7, .long (jL (100 * I)))]) hx hb dX4_reckon_53 hl (k := 7) rfl (jI_add _ _) (by decide) rfl (fun ls hl => ?_)
      refine lv_goto (tgt := 36) hx hb dX4_reckon_56 (by decide) ?_
      have hj0 : j ≠ 0 := fun h => by subst h; omega
      exact ih (j - 1) ls ⟨⟨by omega, fun i h1 h2 => by by_cases hij : i = j; (· subst hij; exact c49); (· exact hjx i (by omega) h2)⟩, by rw [show (6 * (d : Int)) + ((j - 1 : Nat) : Int) = ((6 * (d : Int)) + (j : Int)) + (-1) by omega]; exact lv_sub hl [1, 2, 3, 4, 5, 6, 7, 0] rfl⟩ (by omega)
  · refine lv_aload_n hx hb dX4_reckon_0 rfl (lv_at hl 0 rfl) ?_
    refine va_get (D := D) (ci := 4) (v := .ref (am 7)) (C := RX4) (T := TX4) (N := 17) hx hb hts (fun w h => List.mem_cons_of_mem _ (uw_X4 w h)) hown hK (j_P1 hm0) 0 rfl rfl 8 (by decide) (hts _ (List.mem_cons_of_mem _ kw_426)) (fun _ h9 => h9) rfl dX4_reckon_1 ?_
    refine jv_iconst hx hb dX4_reckon_4 ?_
    refine lv_iload_n hx hb dX4_reckon_5 rfl (lv_at hl 1 rfl) ?_
    refine jv_imul hx hb dX4_reckon_6 ?_
    refine lv_iload_n hx hb dX4_reckon_7 rfl (lv_at hl 2 rfl) ?_
    refine jv_iadd hx hb dX4_reckon_8 ?_
    refine jv_iald (i := (4 * d + o)) hx hb hK hm7 0 rfl (by omega) (by omega) (by decide) dX4_reckon_9 ?_
    rw [s7.1]
    refine jv_i2l hx hb dX4_reckon_10 (by omega) ?_
    refine lv_lstore (lv' := [(5, .long (jL (bS z d o))), (0, .ref (am 0)), (1, .int (jI ((d : Int)))), (2, .int (jI ((o : Int)))), (3, .int (jI (I))), (4, .int (jI (bI true)))]) hx hb dX4_reckon_11 hl (by decide) rfl (fun ls hl => ?_)
    refine jv_ldc2 (k := 100) hx hb hown (hts _ (List.mem_cons_of_mem _ kw_510)) (by decide) dX4_reckon_13 ?_
    refine lv_iload_n hx hb dX4_reckon_16 rfl (lv_at hl 4 rfl) ?_
    refine jv_i2l hx hb dX4_reckon_17 (by omega) ?_
    refine jv_lmul hx hb dX4_reckon_18 ?_
    refine lv_lstore (lv' := [(7, .long (jL (100 * I))), (5, .long (jL (bS z d o))), (0, .ref (am 0)), (1, .int (jI ((d : Int)))), (2, .int (jI ((o : Int)))), (3, .int (jI (I))), (4, .int (jI (bI true)))]) hx hb dX4_reckon_19 hl (by decide) rfl (fun ls hl => ?_)
    refine jv_bipush hx hb dX4_reckon_21 (by decide) ?_
    refine lv_iload_n hx hb dX4_reckon_23 rfl (lv_at hl 3 rfl) ?_
    refine jv_imul hx hb dX4_reckon_24 ?_
    refine lv_aload_n hx hb dX4_reckon_25 rfl (lv_at hl 2 rfl) ?_
    refine va_get (D := D) (ci := 4) (v := .ref (am 2)) (C := RX4) (T := TX4) (N := 17) hx hb hts (fun w h => List.mem_cons_of_mem _ (uw_X4 w h)) hown hK (j_P1 hm0) 0 rfl rfl 3 (by decide) (hts _ (List.mem_cons_of_mem _ kw_421)) (fun _ h9 => h9) rfl dX4_reckon_26 ?_
    refine lv_iload_n hx hb dX4_reckon_29 rfl (lv_at hl 3 rfl) ?_
    refine jv_iald (i := d) hx hb hK hm2 0 rfl (by omega) (by omega) (by decide) dX4_reckon_30 ?_
    rw [e2_d]
    refine jv_iadd hx hb dX4_reckon_31 ?_
    refine jv_iconst hx hb dX4_reckon_32 ?_
    refine jv_isub hx hb dX4_reckon_33 ?_
    refine lv_istore (lv' := [(9, .int (jI (((6 * (d : Int)) + (bK z d : Int)) - 1))), (7, .long (jL (100 * I))), (5, .long (jL (bS z d o))), (0, .ref (am 0)), (1, .int (jI ((d : Int)))), (2, .int (jI ((o : Int)))), (3, .int (jI (I))), (4, .int (jI (bI true)))]) hx hb dX4_reckon_34 hl (by decide) rfl (fun ls hl => ?_)
    refine jw_loop (X := Nat) (fun j => j) (fun j ls => (j < bK z d ∧ ∀ i, j < i → i < bK z d → 100 * I < bS z d o * bP z d i) ∧ lv_has ls 14 [(0, .ref (am 0)), (1, .int (jI ((d : Int)))), (2, .int (jI ((o : Int)))), (3, .int (jI (I))), (4, .int (jI (bI true))), (5, .long (jL (bS z d o))), (7, .long (jL (100 * I))), (9, .int (jI ((6 * (d : Int)) + (j : Int))))]) ?_ (bK z d - 1) ls ⟨⟨by omega, fun i h1 h2 => by omega⟩, by rw [show (6 * (d : Int)) + ((bK z d - 1 : Nat) : Int) = ((6 * (d : Int)) + (bK z d : Int)) - 1 by omega]; exact lv_sub hl [3, 4, 5, 6, 7, 2, 1, 0] rfl⟩
    intro j ls hinv ih
    obtain ⟨⟨hjn, hjx⟩, hl⟩ := hinv
    have s3 : AA 3 (6 * d + j) = bP z d j := (e3_d j hjn).1
    have s4 : AA 4 (6 * d + j) = bL z d j := (e3_d j hjn).2.1
    have s5 : AA 5 (6 * d + j) = bM z d j := (e3_d j hjn).2.2
    have fj := fP j hjn
    have gj := fQ j hjn
    have tj : 0 ≤ bM z d j ∧ bM z d j ≤ 100000 := fT j true hjn
    refine lv_lload hx hb dX4_reckon_36 (lv_at hl 6 rfl) ?_
    refine lv_lload hx hb dX4_reckon_38 (lv_at hl 5 rfl) ?_
    refine lv_aload_n hx hb dX4_reckon_40 rfl (lv_at hl 0 rfl) ?_
    refine va_get (D := D) (ci := 4) (v := .ref (am 3)) (C := RX4) (T := TX4) (N := 17) hx hb hts (fun w h => List.mem_cons_of_mem _ (uw_X4 w h)) hown hK (j_P1 hm0) 0 rfl rfl 4 (by decide) (hts _ (List.mem_cons_of_mem _ kw_422)) (fun _ h9 => h9) rfl dX4_reckon_41 ?_
    refine lv_iload hx hb dX4_reckon_44 (lv_at hl 7 rfl) ?_
    refine jv_iald (i := (6 * d + j)) hx hb hK hm3 0 rfl (by omega) (by omega) (by decide) dX4_reckon_46 ?_
    rw [s3]
    refine jv_i2l hx hb dX4_reckon_47 (by omega) ?_
    refine jv_lmul hx hb dX4_reckon_48 ?_
    refine jv_lcmp_ge (tgt := 59) hx hb dX4_reckon_49 dX4_reckon_50 (by decide) (by omega) (by omega) (fun c49 => ?_) (fun c49 => ?_)
    · have hq : cPiece (bSet z d o) I = (j : Int) := mPiece_of ok hjn c49 hjx
      refine lv_iload hx hb dX4_reckon_59 (lv_at hl 4 rfl) ?_
      refine jv_if_eq (tgt := 75) hx hb dX4_reckon_61 (by decide) (by decide) (fun c61 => ?_) (fun c61 => ?_)
      · exact absurd c61 (by decide)
      · refine lv_aload_n hx hb dX4_reckon_64 rfl (lv_at hl 0 rfl) ?_
        refine va_get (D := D) (ci := 4) (v := .ref (am 5)) (C := RX4) (T := TX4) (N := 17) hx hb hts (fun w h => List.mem_cons_of_mem _ (uw_X4 w h)) hown hK (j_P1 hm0) 0 rfl rfl 6 (by decide) (hts _ (List.mem_cons_of_mem _ kw_424)) (fun _ h9 => h9) rfl dX4_reckon_65 ?_
        refine lv_iload hx hb dX4_reckon_68 (lv_at hl 7 rfl) ?_
        refine jv_iald (i := (6 * d + j)) hx hb hK hm5 0 rfl (by omega) (by omega) (by decide) dX4_reckon_70 ?_
        rw [s5]
        refine jv_i2l hx hb dX4_reckon_71 (by omega) ?_
        refine lv_goto (tgt := 83) hx hb dX4_reckon_72 (by decide) ?_
        refine lv_lstore (lv' := [(10, .long (jL (bM z d j))), (0, .ref (am 0)), (1, .int (jI ((d : Int)))), (2, .int (jI ((o : Int)))), (3, .int (jI (I))), (4, .int (jI (bI true))), (5, .long (jL (bS z d o))), (7, .long (jL (100 * I))), (9, .int (jI ((6 * (d : Int)) + (j : Int))))]) hx hb dX4_reckon_83 hl (by decide) rfl (fun ls hl => ?_)
        refine lv_aload_n hx hb dX4_reckon_85 rfl (lv_at hl 1 rfl) ?_
        refine lv_lload hx hb dX4_reckon_86 (lv_at hl 0 rfl) ?_
        refine jv_put (D := D) (ci := 4) (v := .long (jL (bM z d j))) (ty := .long) (C := RX4) (T := TX4) (N := 17) hx hb hts (fun w h => List.mem_cons_of_mem _ (uw_X4 w h)) tyX4 tyX4_ok nmX4 hown hK hm0 rfl 13 (by decide) (hts _ (List.mem_cons_of_mem _ kw_431)) (fun _ h9 => h9) rfl (by decide +kernel) rfl rfl (Nat.le_of_ble_eq_true rfl) dX4_reckon_88 (fun H f9 hn9 hz9 oq9 => ?_)
        have hPic : mW D g am cd dv vo (bM z d j) be AA H := mW_obj hj hPic oq9 hn9
        have hT0 := hT0.put 0 (by omega) hz9 oq9 (f := f9)
        have hm0 := hPic.1
        have hm1 : va_at D vwCl (am 1, .inl (g 0, 8, .inl (fun j => jI (AA 1 j)))) H := hPic.2 1 (by omega) (by omega)
        have hm2 : va_at D vwCl (am 2, .inl (g 0, 8, .inl (fun j => jI (AA 2 j)))) H := hPic.2 2 (by omega) (by omega)
        have hm3 : va_at D vwCl (am 3, .inl (g 0, 48, .inl (fun j => jI (AA 3 j)))) H := hPic.2 3 (by omega) (by omega)
        have hm4 : va_at D vwCl (am 4, .inl (g 0, 48, .inl (fun j => jI (AA 4 j)))) H := hPic.2 4 (by omega) (by omega)
        have hm5 : va_at D vwCl (am 5, .inl (g 0, 48, .inl (fun j => jI (AA 5 j)))) H := hPic.2 5 (by omega) (by omega)
        have hm6 : va_at D vwCl (am 6, .inl (g 0, 8, .inl (fun j => jI (AA 6 j)))) H := hPic.2 6 (by omega) (by omega)
        have hm7 : va_at D vwCl (am 7, .inl (g 0, 32, .inl (fun j => jI (AA 7 j)))) H := hPic.2 7 (by omega) (by omega)
        have hm8 : va_at D vwCl (am 8, .inl (g 0, 32, .inl (fun j => jI (AA 8 j)))) H := hPic.2 8 (by omega) (by omega)
        have hm9 : va_at D vwCl (am 9, .inl (g 0, 8, .inl (fun j => jI (AA 9 j)))) H := hPic.2 9 (by omega) (by omega)
        have hm10 : va_at D vwCl (am 10, .inl (g 0, 8, .inl (fun j => jI (AA 10 j)))) H := hPic.2 10 (by omega) (by omega)
        have hm11 : va_at D vwCl (am 11, .inl (g 0, 128, .inl (fun j => jI (AA 11 j)))) H := hPic.2 11 (by omega) (by omega)
        have hm12 : va_at D vwCl (am 12, .inl (g 0, 8, .inl (fun j => jI (AA 12 j)))) H := hPic.2 12 (by omega) (by omega)
        refine lv_aload_n hx hb dX4_reckon_91 rfl (lv_at hl 1 rfl) ?_
        refine jv_lconst (k := 1) hx hb dX4_reckon_92 (by decide) ?_
        refine jv_put (D := D) (ci := 4) (v := .long (jL (1))) (ty := .long) (C := RX4) (T := TX4) (N := 17) hx hb hts (fun w h => List.mem_cons_of_mem _ (uw_X4 w h)) tyX4 tyX4_ok nmX4 hown hK hm0 rfl 14 (by decide) (hts _ (List.mem_cons_of_mem _ kw_432)) (fun _ h9 => h9) rfl (by decide +kernel) rfl rfl (Nat.le_of_ble_eq_true rfl) dX4_reckon_93 (fun H f9 hn9 hz9 oq9 => ?_)
        have hPic : mW D g am cd dv vo (bM z d j) 1 AA H := mW_obj hj hPic oq9 hn9
        have hT0 := hT0.put 0 (by omega) hz9 oq9 (f := f9)
        have hm0 := hPic.1
        have hm1 : va_at D vwCl (am 1, .inl (g 0, 8, .inl (fun j => jI (AA 1 j)))) H := hPic.2 1 (by omega) (by omega)
        have hm2 : va_at D vwCl (am 2, .inl (g 0, 8, .inl (fun j => jI (AA 2 j)))) H := hPic.2 2 (by omega) (by omega)
        have hm3 : va_at D vwCl (am 3, .inl (g 0, 48, .inl (fun j => jI (AA 3 j)))) H := hPic.2 3 (by omega) (by omega)
        have hm4 : va_at D vwCl (am 4, .inl (g 0, 48, .inl (fun j => jI (AA 4 j)))) H := hPic.2 4 (by omega) (by omega)
        have hm5 : va_at D vwCl (am 5, .inl (g 0, 48, .inl (fun j => jI (AA 5 j)))) H := hPic.2 5 (by omega) (by omega)
        have hm6 : va_at D vwCl (am 6, .inl (g 0, 8, .inl (fun j => jI (AA 6 j)))) H := hPic.2 6 (by omega) (by omega)
        have hm7 : va_at D vwCl (am 7, .inl (g 0, 32, .inl (fun j => jI (AA 7 j)))) H := hPic.2 7 (by omega) (by omega)
        have hm8 : va_at D vwCl (am 8, .inl (g 0, 32, .inl (fun j => jI (AA 8 j)))) H := hPic.2 8 (by omega) (by omega)
        have hm9 : va_at D vwCl (am 9, .inl (g 0, 8, .inl (fun j => jI (AA 9 j)))) H := hPic.2 9 (by omega) (by omega)
        have hm10 : va_at D vwCl (am 10, .inl (g 0, 8, .inl (fun j => jI (AA 10 j)))) H := hPic.2 10 (by omega) (by omega)
        have hm11 : va_at D vwCl (am 11, .inl (g 0, 128, .inl (fun j => jI (AA 11 j)))) H := hPic.2 11 (by omega) (by omega)
        have hm12 : va_at D vwCl (am 12, .inl (g 0, 8, .inl (fun j => jI (AA 12 j)))) H := hPic.2 12 (by omega) (by omega)
        refine lv_iload hx hb dX4_reckon_96 (lv_at hl 8 rfl) ?_
        refine jv_bipush hx hb dX4_reckon_98 (by decide) ?_
        refine lv_iload_n hx hb dX4_reckon_100 rfl (lv_at hl 2 rfl) ?_
        refine jv_imul hx hb dX4_reckon_101 ?_
        refine lv_aload_n hx hb dX4_reckon_102 rfl (lv_at hl 1 rfl) ?_
        refine va_get (D := D) (ci := 4) (v := .ref (am 2)) (C := RX4) (T := TX4) (N := 17) hx hb hts (fun w h => List.mem_cons_of_mem _ (uw_X4 w h)) hown hK (j_P1 hm0) 0 rfl rfl 3 (by decide) (hts _ (List.mem_cons_of_mem _ kw_421)) (fun _ h9 => h9) rfl dX4_reckon_103 ?_
        refine lv_iload_n hx hb dX4_reckon_106 rfl (lv_at hl 2 rfl) ?_
        refine jv_iald (i := d) hx hb hK hm2 0 rfl (by omega) (by omega) (by decide) dX4_reckon_107 ?_
        rw [e2_d]
        refine jv_iadd hx hb dX4_reckon_108 ?_
        refine jv_iconst hx hb dX4_reckon_109 ?_
        refine jv_isub hx hb dX4_reckon_110 ?_
        refine jv_icmp_ge (tgt := 201) hx hb dX4_reckon_111 (by decide) (by omega) (by omega) (fun c111 => ?_) (fun c111 => ?_)
        · refine lv_aload_n hx hb dX4_reckon_201 rfl (lv_at hl 1 rfl) ?_
          refine lv_dup hx hb dX4_reckon_202 rfl ?_
          refine va_get (D := D) (ci := 4) (v := .long (jL (bM z d j))) (C := RX4) (T := TX4) (N := 17) hx hb hts (fun w h => List.mem_cons_of_mem _ (uw_X4 w h)) hown hK (j_P1 hm0) 0 rfl rfl 13 (by decide) (hts _ (List.mem_cons_of_mem _ kw_431)) (fun _ h9 => h9) rfl dX4_reckon_203 ?_
          refine lv_aload_n hx hb dX4_reckon_206 rfl (lv_at hl 1 rfl) ?_
          refine va_get (D := D) (ci := 4) (v := .long (jL (1))) (C := RX4) (T := TX4) (N := 17) hx hb hts (fun w h => List.mem_cons_of_mem _ (uw_X4 w h)) hown hK (j_P1 hm0) 0 rfl rfl 14 (by decide) (hts _ (List.mem_cons_of_mem _ kw_432)) (fun _ h9 => h9) rfl dX4_reckon_207 ?_
          refine lv_aload_n hx hb dX4_reckon_210 rfl (lv_at hl 1 rfl) ?_
          refine va_get (D := D) (ci := 4) (v := .ref (am 8)) (C := RX4) (T := TX4) (N := 17) hx hb hts (fun w h => List.mem_cons_of_mem _ (uw_X4 w h)) hown hK (j_P1 hm0) 0 rfl rfl 9 (by decide) (hts _ (List.mem_cons_of_mem _ kw_427)) (fun _ h9 => h9) rfl dX4_reckon_211 ?_
          refine jv_iconst hx hb dX4_reckon_214 ?_
          refine lv_iload_n hx hb dX4_reckon_215 rfl (lv_at hl 2 rfl) ?_
          refine jv_imul hx hb dX4_reckon_216 ?_
          refine lv_iload_n hx hb dX4_reckon_217 rfl (lv_at hl 3 rfl) ?_
          refine jv_iadd hx hb dX4_reckon_218 ?_
          refine jv_iald (i := (4 * d + o)) hx hb hK hm8 0 rfl (by omega) (by omega) (by decide) dX4_reckon_219 ?_
          rw [s7.2]
          refine jv_i2l hx hb dX4_reckon_220 (by omega) ?_
          refine jv_lmul hx hb dX4_reckon_221 ?_
          refine jv_ladd hx hb dX4_reckon_222 ?_
          refine jv_put (D := D) (ci := 4) (v := .long (jL ((bM z d j) + (1 * (bD z d o))))) (ty := .long) (C := RX4) (T := TX4) (N := 17) hx hb hts (fun w h => List.mem_cons_of_mem _ (uw_X4 w h)) tyX4 tyX4_ok nmX4 hown hK hm0 rfl 13 (by decide) (hts _ (List.mem_cons_of_mem _ kw_431)) (fun _ h9 => h9) rfl (by decide +kernel) rfl rfl (Nat.le_of_ble_eq_true rfl) dX4_reckon_223 (fun H f9 hn9 hz9 oq9 => ?_)
          have hPic : mW D g am cd dv vo ((bM z d j) + (1 * (bD z d o))) 1 AA H := mW_obj hj hPic oq9 hn9
          have hT0 := hT0.put 0 (by omega) hz9 oq9 (f := f9)
          have hm0 := hPic.1
          have hm1 : va_at D vwCl (am 1, .inl (g 0, 8, .inl (fun j => jI (AA 1 j)))) H := hPic.2 1 (by omega) (by omega)
          have hm2 : va_at D vwCl (am 2, .inl (g 0, 8, .inl (fun j => jI (AA 2 j)))) H := hPic.2 2 (by omega) (by omega)
          have hm3 : va_at D vwCl (am 3, .inl (g 0, 48, .inl (fun j => jI (AA 3 j)))) H := hPic.2 3 (by omega) (by omega)
          have hm4 : va_at D vwCl (am 4, .inl (g 0, 48, .inl (fun j => jI (AA 4 j)))) H := hPic.2 4 (by omega) (by omega)
          have hm5 : va_at D vwCl (am 5, .inl (g 0, 48, .inl (fun j => jI (AA 5 j)))) H := hPic.2 5 (by omega) (by omega)
          have hm6 : va_at D vwCl (am 6, .inl (g 0, 8, .inl (fun j => jI (AA 6 j)))) H := hPic.2 6 (by omega) (by omega)
          have hm7 : va_at D vwCl (am 7, .inl (g 0, 32, .inl (fun j => jI (AA 7 j)))) H := hPic.2 7 (by omega) (by omega)
          have hm8 : va_at D vwCl (am 8, .inl (g 0, 32, .inl (fun j => jI (AA 8 j)))) H := hPic.2 8 (by omega) (by omega)
          have hm9 : va_at D vwCl (am 9, .inl (g 0, 8, .inl (fun j => jI (AA 9 j)))) H := hPic.2 9 (by omega) (by omega)
          have hm10 : va_at D vwCl (am 10, .inl (g 0, 8, .inl (fun j => jI (AA 10 j)))) H := hPic.2 10 (by omega) (by omega)
          have hm11 : va_at D vwCl (am 11, .inl (g 0, 128, .inl (fun j => jI (AA 11 j)))) H := hPic.2 11 (by omega) (by omega)
          have hm12 : va_at D vwCl (am 12, .inl (g 0, 8, .inl (fun j => jI (AA 12 j)))) H := hPic.2 12 (by omega) (by omega)
          exact m_vret hx hb hr hlocks dX4_reckon_226 ⟨rfl, rfl, rfl, rfl, (mReck_last (mo := true) hq (show (bK z d : Int) ≤ (j : Int) + 1 by omega)).1, (mReck_last (mo := true) hq (show (bK z d : Int) ≤ (j : Int) + 1 by omega)).2⟩ hPic hT0
        · have n3 : AA 3 (6 * d + j + 1) = bP z d (j + 1) := (e3_d (j + 1) (by omega)).1
          have n4 : AA 4 (6 * d + j + 1) = bL z d (j + 1) := (e3_d (j + 1) (by omega)).2.1
          have n5 : AA 5 (6 * d + j + 1) = bM z d (j + 1) := (e3_d (j + 1) (by omega)).2.2
          have tn : 0 ≤ bM z d (j + 1) ∧ bM z d (j + 1) ≤ 100000 := fT (j + 1) true (by omega)
          have gn := fQ (j + 1) (by omega)
          refine lv_iload hx hb dX4_reckon_114 (lv_at hl 5 rfl) ?_
          refine jv_if_eq (tgt := 132) hx hb dX4_reckon_116 (by decide) (by decide) (fun c116 => ?_) (fun c116 => ?_)
          · exact absurd c116 (by decide)
          · refine lv_aload_n hx hb dX4_reckon_119 rfl (lv_at hl 1 rfl) ?_
            refine va_get (D := D) (ci := 4) (v := .ref (am 5)) (C := RX4) (T := TX4) (N := 17) hx hb hts (fun w h => List.mem_cons_of_mem _ (uw_X4 w h)) hown hK (j_P1 hm0) 0 rfl rfl 6 (by decide) (hts _ (List.mem_cons_of_mem _ kw_424)) (fun _ h9 => h9) rfl dX4_reckon_120 ?_
            refine lv_iload hx hb dX4_reckon_123 (lv_at hl 8 rfl) ?_
            refine jv_iconst hx hb dX4_reckon_125 ?_
            refine jv_iadd hx hb dX4_reckon_126 ?_
            refine jv_iald (i := (6 * d + j + 1)) hx hb hK hm5 0 rfl (by omega) (by omega) (by decide) dX4_reckon_127 ?_
            rw [n5]
            refine jv_i2l hx hb dX4_reckon_128 (by omega) ?_
            refine lv_goto (tgt := 142) hx hb dX4_reckon_129 (by decide) ?_
            refine lv_lstore (lv' := [(12, .long (jL (bM z d (j + 1)))), (10, .long (jL (bM z d j))), (0, .ref (am 0)), (1, .int (jI ((d : Int)))), (2, .int (jI ((o : Int)))), (3, .int (jI (I))), (4, .int (jI (bI true))), (5, .long (jL (bS z d o))), (7, .long (jL (100 * I))), (9, .int (jI ((6 * (d : Int)) + (j : Int))))]) hx hb dX4_reckon_142 hl (by decide) rfl (fun ls hl => ?_)
            refine lv_aload_n hx hb dX4_reckon_144 rfl (lv_at hl 2 rfl) ?_
            refine lv_lload hx hb dX4_reckon_145 (lv_at hl 7 rfl) ?_
            refine lv_aload_n hx hb dX4_reckon_147 rfl (lv_at hl 2 rfl) ?_
            refine va_get (D := D) (ci := 4) (v := .ref (am 3)) (C := RX4) (T := TX4) (N := 17) hx hb hts (fun w h => List.mem_cons_of_mem _ (uw_X4 w h)) hown hK (j_P1 hm0) 0 rfl rfl 4 (by decide) (hts _ (List.mem_cons_of_mem _ kw_422)) (fun _ h9 => h9) rfl dX4_reckon_148 ?_
            refine lv_iload hx hb dX4_reckon_151 (lv_at hl 9 rfl) ?_
            refine jv_iconst hx hb dX4_reckon_153 ?_
            refine jv_iadd hx hb dX4_reckon_154 ?_
            refine jv_iald (i := (6 * d + j + 1)) hx hb hK hm3 0 rfl (by omega) (by omega) (by decide) dX4_reckon_155 ?_
            rw [n3]
            refine lv_aload_n hx hb dX4_reckon_156 rfl (lv_at hl 2 rfl) ?_
            refine va_get (D := D) (ci := 4) (v := .ref (am 3)) (C := RX4) (T := TX4) (N := 17) hx hb hts (fun w h => List.mem_cons_of_mem _ (uw_X4 w h)) hown hK (j_P1 hm0) 0 rfl rfl 4 (by decide) (hts _ (List.mem_cons_of_mem _ kw_422)) (fun _ h9 => h9) rfl dX4_reckon_157 ?_
            refine lv_iload hx hb dX4_reckon_160 (lv_at hl 9 rfl) ?_
            refine jv_iald (i := (6 * d + j)) hx hb hK hm3 0 rfl (by omega) (by omega) (by decide) dX4_reckon_162 ?_
            rw [s3]
            refine jv_isub hx hb dX4_reckon_163 ?_
            refine jv_i2l hx hb dX4_reckon_164 (by omega) ?_
            refine jv_lmul hx hb dX4_reckon_165 ?_
            refine jv_put (D := D) (ci := 4) (v := .long (jL ((bS z d o) * ((bP z d (j + 1)) - (bP z d j))))) (ty := .long) (C := RX4) (T := TX4) (N := 17) hx hb hts (fun w h => List.mem_cons_of_mem _ (uw_X4 w h)) tyX4 tyX4_ok nmX4 hown hK hm0 rfl 14 (by decide) (hts _ (List.mem_cons_of_mem _ kw_432)) (fun _ h9 => h9) rfl (by decide +kernel) rfl rfl (Nat.le_of_ble_eq_true rfl) dX4_reckon_166 (fun H f9 hn9 hz9 oq9 => ?_)
            have hPic : mW D g am cd dv vo (bM z d j) ((bS z d o) * ((bP z d (j + 1)) - (bP z d j))) AA H := mW_obj hj hPic oq9 hn9
            have hT0 := hT0.put 0 (by omega) hz9 oq9 (f := f9)
            have hm0 := hPic.1
            have hm1 : va_at D vwCl (am 1, .inl (g 0, 8, .inl (fun j => jI (AA 1 j)))) H := hPic.2 1 (by omega) (by omega)
            have hm2 : va_at D vwCl (am 2, .inl (g 0, 8, .inl (fun j => jI (AA 2 j)))) H := hPic.2 2 (by omega) (by omega)
            have hm3 : va_at D vwCl (am 3, .inl (g 0, 48, .inl (fun j => jI (AA 3 j)))) H := hPic.2 3 (by omega) (by omega)
            have hm4 : va_at D vwCl (am 4, .inl (g 0, 48, .inl (fun j => jI (AA 4 j)))) H := hPic.2 4 (by omega) (by omega)
            have hm5 : va_at D vwCl (am 5, .inl (g 0, 48, .inl (fun j => jI (AA 5 j)))) H := hPic.2 5 (by omega) (by omega)
            have hm6 : va_at D vwCl (am 6, .inl (g 0, 8, .inl (fun j => jI (AA 6 j)))) H := hPic.2 6 (by omega) (by omega)
            have hm7 : va_at D vwCl (am 7, .inl (g 0, 32, .inl (fun j => jI (AA 7 j)))) H := hPic.2 7 (by omega) (by omega)
            have hm8 : va_at D vwCl (am 8, .inl (g 0, 32, .inl (fun j => jI (AA 8 j)))) H := hPic.2 8 (by omega) (by omega)
            have hm9 : va_at D vwCl (am 9, .inl (g 0, 8, .inl (fun j => jI (AA 9 j)))) H := hPic.2 9 (by omega) (by omega)
            have hm10 : va_at D vwCl (am 10, .inl (g 0, 8, .inl (fun j => jI (AA 10 j)))) H := hPic.2 10 (by omega) (by omega)
            have hm11 : va_at D vwCl (am 11, .inl (g 0, 128, .inl (fun j => jI (AA 11 j)))) H := hPic.2 11 (by omega) (by omega)
            have hm12 : va_at D vwCl (am 12, .inl (g 0, 8, .inl (fun j => jI (AA 12 j)))) H := hPic.2 12 (by omega) (by omega)
            refine lv_aload_n hx hb dX4_reckon_169 rfl (lv_at hl 2 rfl) ?_
            refine lv_lload hx hb dX4_reckon_170 (lv_at hl 1 rfl) ?_
            refine lv_aload_n hx hb dX4_reckon_172 rfl (lv_at hl 2 rfl) ?_
            refine va_get (D := D) (ci := 4) (v := .long (jL ((bS z d o) * ((bP z d (j + 1)) - (bP z d j))))) (C := RX4) (T := TX4) (N := 17) hx hb hts (fun w h => List.mem_cons_of_mem _ (uw_X4 w h)) hown hK (j_P1 hm0) 0 rfl rfl 14 (by decide) (hts _ (List.mem_cons_of_mem _ kw_432)) (fun _ h9 => h9) rfl dX4_reckon_173 ?_
            refine jv_lmul hx hb dX4_reckon_176 ?_
            refine lv_lload hx hb dX4_reckon_177 (lv_at hl 0 rfl) ?_
            refine lv_lload hx hb dX4_reckon_179 (lv_at hl 1 rfl) ?_
            refine jv_lsub hx hb dX4_reckon_181 ?_
            refine lv_lload hx hb dX4_reckon_182 (lv_at hl 8 rfl) ?_
            refine lv_lload hx hb dX4_reckon_184 (lv_at hl 7 rfl) ?_
            refine lv_aload_n hx hb dX4_reckon_186 rfl (lv_at hl 2 rfl) ?_
            refine va_get (D := D) (ci := 4) (v := .ref (am 3)) (C := RX4) (T := TX4) (N := 17) hx hb hts (fun w h => List.mem_cons_of_mem _ (uw_X4 w h)) hown hK (j_P1 hm0) 0 rfl rfl 4 (by decide) (hts _ (List.mem_cons_of_mem _ kw_422)) (fun _ h9 => h9) rfl dX4_reckon_187 ?_
            refine lv_iload hx hb dX4_reckon_190 (lv_at hl 9 rfl) ?_
            refine jv_iald (i := (6 * d + j)) hx hb hK hm3 0 rfl (by omega) (by omega) (by decide) dX4_reckon_192 ?_
            rw [s3]
            refine jv_i2l hx hb dX4_reckon_193 (by omega) ?_
            refine jv_lmul hx hb dX4_reckon_194 ?_
            refine jv_lsub hx hb dX4_reckon_195 ?_
            refine jv_lmul hx hb dX4_reckon_196 ?_
            refine jv_ladd hx hb dX4_reckon_197 ?_
            refine jv_put (D := D) (ci := 4) (v := .long (jL (((bM z d j) * ((bS z d o) * ((bP z d (j + 1)) - (bP z d j)))) + (((bM z d (j + 1)) - (bM z d j)) * ((100 * I) - ((bS z d o) * (bP z d j))))))) (ty := .long) (C := RX4) (T := TX4) (N := 17) hx hb hts (fun w h => List.mem_cons_of_mem _ (uw_X4 w h)) tyX4 tyX4_ok nmX4 hown hK hm0 rfl 13 (by decide) (hts _ (List.mem_cons_of_mem _ kw_431)) (fun _ h9 => h9) rfl (by decide +kernel) rfl rfl (Nat.le_of_ble_eq_true rfl) dX4_reckon_198 (fun H f9 hn9 hz9 oq9 => ?_)
            have hPic : mW D g am cd dv vo (((bM z d j) * ((bS z d o) * ((bP z d (j + 1)) - (bP z d j)))) + (((bM z d (j + 1)) - (bM z d j)) * ((100 * I) - ((bS z d o) * (bP z d j))))) ((bS z d o) * ((bP z d (j + 1)) - (bP z d j))) AA H := mW_obj hj hPic oq9 hn9
            have hT0 := hT0.put 0 (by omega) hz9 oq9 (f := f9)
            have hm0 := hPic.1
            have hm1 : va_at D vwCl (am 1, .inl (g 0, 8, .inl (fun j => jI (AA 1 j)))) H := hPic.2 1 (by omega) (by omega)
            have hm2 : va_at D vwCl (am 2, .inl (g 0, 8, .inl (fun j => jI (AA 2 j)))) H := hPic.2 2 (by omega) (by omega)
            have hm3 : va_at D vwCl (am 3, .inl (g 0, 48, .inl (fun j => jI (AA 3 j)))) H := hPic.2 3 (by omega) (by omega)
            have hm4 : va_at D vwCl (am 4, .inl (g 0, 48, .inl (fun j => jI (AA 4 j)))) H := hPic.2 4 (by omega) (by omega)
            have hm5 : va_at D vwCl (am 5, .inl (g 0, 48, .inl (fun j => jI (AA 5 j)))) H := hPic.2 5 (by omega) (by omega)
            have hm6 : va_at D vwCl (am 6, .inl (g 0, 8, .inl (fun j => jI (AA 6 j)))) H := hPic.2 6 (by omega) (by omega)
            have hm7 : va_at D vwCl (am 7, .inl (g 0, 32, .inl (fun j => jI (AA 7 j)))) H := hPic.2 7 (by omega) (by omega)
            have hm8 : va_at D vwCl (am 8, .inl (g 0, 32, .inl (fun j => jI (AA 8 j)))) H := hPic.2 8 (by omega) (by omega)
            have hm9 : va_at D vwCl (am 9, .inl (g 0, 8, .inl (fun j => jI (AA 9 j)))) H := hPic.2 9 (by omega) (by omega)
            have hm10 : va_at D vwCl (am 10, .inl (g 0, 8, .inl (fun j => jI (AA 10 j)))) H := hPic.2 10 (by omega) (by omega)
            have hm11 : va_at D vwCl (am 11, .inl (g 0, 128, .inl (fun j => jI (AA 11 j)))) H := hPic.2 11 (by omega) (by omega)
            have hm12 : va_at D vwCl (am 12, .inl (g 0, 8, .inl (fun j => jI (AA 12 j)))) H := hPic.2 12 (by omega) (by omega)
            refine lv_aload_n hx hb dX4_reckon_201 rfl (lv_at hl 2 rfl) ?_
            refine lv_dup hx hb dX4_reckon_202 rfl ?_
            refine va_get (D := D) (ci := 4) (v := .long (jL (((bM z d j) * ((bS z d o) * ((bP z d (j + 1)) - (bP z d j)))) + (((bM z d (j + 1)) - (bM z d j)) * ((100 * I) - ((bS z d o) * (bP z d j))))))) (C := RX4) (T := TX4) (N := 17) hx hb hts (fun w h => List.mem_cons_of_mem _ (uw_X4 w h)) hown hK (j_P1 hm0) 0 rfl rfl 13 (by decide) (hts _ (List.mem_cons_of_mem _ kw_431)) (fun _ h9 => h9) rfl dX4_reckon_203 ?_
            refine lv_aload_n hx hb dX4_reckon_206 rfl (lv_at hl 2 rfl) ?_
            refine va_get (D := D) (ci := 4) (v := .long (jL ((bS z d o) * ((bP z d (j + 1)) - (bP z d j))))) (C := RX4) (T := TX4) (N := 17) hx hb hts (fun w h => List.mem_cons_of_mem _ (uw_X4 w h)) hown hK (j_P1 hm0) 0 rfl rfl 14 (by decide) (hts _ (List.mem_cons_of_mem _ kw_432)) (fun _ h9 => h9) rfl dX4_reckon_207 ?_
            refine lv_aload_n hx hb dX4_reckon_210 rfl (lv_at hl 2 rfl) ?_
            refine va_get (D := D) (ci := 4) (v := .ref (am 8)) (C := RX4) (T := TX4) (N := 17) hx hb hts (fun w h => List.mem_cons_of_mem _ (uw_X4 w h)) hown hK (j_P1 hm0) 0 rfl rfl 9 (by decide) (hts _ (List.mem_cons_of_mem _ kw_427)) (fun _ h9 => h9) rfl dX4_reckon_211 ?_
            refine jv_iconst hx hb dX4_reckon_214 ?_
            refine lv_iload_n hx hb dX4_reckon_215 rfl (lv_at hl 3 rfl) ?_
            refine jv_imul hx hb dX4_reckon_216 ?_
            refine lv_iload_n hx hb dX4_reckon_217 rfl (lv_at hl 4 rfl) ?_
            refine jv_iadd hx hb dX4_reckon_218 ?_
            refine jv_iald (i := (4 * d + o)) hx hb hK hm8 0 rfl (by omega) (by omega) (by decide) dX4_reckon_219 ?_
            rw [s7.2]
            refine jv_i2l hx hb dX4_reckon_220 (by omega) ?_
            refine jv_lmul hx hb dX4_reckon_221 ?_
            refine jv_ladd hx hb dX4_reckon_222 ?_
            refine jv_put (D := D) (ci := 4) (v := .long (jL ((((bM z d j) * ((bS z d o) * ((bP z d (j + 1)) - (bP z d j)))) + (((bM z d (j + 1)) - (bM z d j)) * ((100 * I) - ((bS z d o) * (bP z d j))))) + (((bS z d o) * ((bP z d (j + 1)) - (bP z d j))) * (bD z d o))))) (ty := .long) (C := RX4) (T := TX4) (N := 17) hx hb hts (fun w h => List.mem_cons_of_mem _ (uw_X4 w h)) tyX4 tyX4_ok nmX4 hown hK hm0 rfl 13 (by decide) (hts _ (List.mem_cons_of_mem _ kw_431)) (fun _ h9 => h9) rfl (by decide +kernel) rfl rfl (Nat.le_of_ble_eq_true rfl) dX4_reckon_223 (fun H f9 hn9 hz9 oq9 => ?_)
            have hPic : mW D g am cd dv vo ((((bM z d j) * ((bS z d o) * ((bP z d (j + 1)) - (bP z d j)))) + (((bM z d (j + 1)) - (bM z d j)) * ((100 * I) - ((bS z d o) * (bP z d j))))) + (((bS z d o) * ((bP z d (j + 1)) - (bP z d j))) * (bD z d o))) ((bS z d o) * ((bP z d (j + 1)) - (bP z d j))) AA H := mW_obj hj hPic oq9 hn9
            have hT0 := hT0.put 0 (by omega) hz9 oq9 (f := f9)
            have hm0 := hPic.1
            have hm1 : va_at D vwCl (am 1, .inl (g 0, 8, .inl (fun j => jI (AA 1 j)))) H := hPic.2 1 (by omega) (by omega)
            have hm2 : va_at D vwCl (am 2, .inl (g 0, 8, .inl (fun j => jI (AA 2 j)))) H := hPic.2 2 (by omega) (by omega)
            have hm3 : va_at D vwCl (am 3, .inl (g 0, 48, .inl (fun j => jI (AA 3 j)))) H := hPic.2 3 (by omega) (by omega)
            have hm4 : va_at D vwCl (am 4, .inl (g 0, 48, .inl (fun j => jI (AA 4 j)))) H := hPic.2 4 (by omega) (by omega)
            have hm5 : va_at D vwCl (am 5, .inl (g 0, 48, .inl (fun j => jI (AA 5 j)))) H := hPic.2 5 (by omega) (by omega)
            have hm6 : va_at D vwCl (am 6, .inl (g 0, 8, .inl (fun j => jI (AA 6 j)))) H := hPic.2 6 (by omega) (by omega)
            have hm7 : va_at D vwCl (am 7, .inl (g 0, 32, .inl (fun j => jI (AA 7 j)))) H := hPic.2 7 (by omega) (by omega)
            have hm8 : va_at D vwCl (am 8, .inl (g 0, 32, .inl (fun j => jI (AA 8 j)))) H := hPic.2 8 (by omega) (by omega)
            have hm9 : va_at D vwCl (am 9, .inl (g 0, 8, .inl (fun j => jI (AA 9 j)))) H := hPic.2 9 (by omega) (by omega)
            have hm10 : va_at D vwCl (am 10, .inl (g 0, 8, .inl (fun j => jI (AA 10 j)))) H := hPic.2 10 (by omega) (by omega)
            have hm11 : va_at D vwCl (am 11, .inl (g 0, 128, .inl (fun j => jI (AA 11 j)))) H := hPic.2 11 (by omega) (by omega)
            have hm12 : va_at D vwCl (am 12, .inl (g 0, 8, .inl (fun j => jI (AA 12 j)))) H := hPic.2 12 (by omega) (by omega)
            exact m_vret hx hb hr hlocks dX4_reckon_226 ⟨rfl, rfl, rfl, rfl, (mReck_mid (mo := true) hq (show (j : Int) + 1 < (bK z d : Int) by omega)).1, (mReck_mid (mo := true) hq (show (j : Int) + 1 < (bK z d : Int) by omega)).2⟩ hPic hT0
    · refine lv_iinc (v := jI (((6 * (d : Int)) + (j : Int)) + (-1))) (lv' := [(9, .int (jI (((6 * (d : Int)) + (j : Int)) + (-1)))), (0, .ref (am 0)), (1, .int (jI ((d : Int)))), (2, .int (jI ((o : Int)))), (3, .int (jI (I))), (4, .int (jI (bI true))), (5, .long (jL (bS z d o))), (7, .long (jL (100 * I)))]) hx hb dX4_reckon_53 hl (k := 7) rfl (jI_add _ _) (by decide) rfl (fun ls hl => ?_)
      refine lv_goto (tgt := 36) hx hb dX4_reckon_56 (by decide) ?_
      have hj0 : j ≠ 0 := fun h => by subst h; omega
      exact ih (j - 1) ls ⟨⟨by omega, fun i h1 h2 => by by_cases hij : i = j; (· subst hij; exact c49); (· exact hjx i (by omega) h2)⟩, by rw [show (6 * (d : Int)) + ((j - 1 : Nat) : Int) = ((6 * (d : Int)) + (j : Int)) + (-1) by omega]; exact lv_sub hl [1, 2, 3, 4, 5, 6, 7, 0] rfl⟩ (by omega)
